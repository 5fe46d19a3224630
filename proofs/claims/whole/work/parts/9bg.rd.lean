set_option maxRecDepth 20000 in
theorem kc_cmp {G : gT} {S : sS} {P : sP} {B : sB} {Q : sP} {t sl a : Nat} (hC : CF S P) (hL : LA S P a) (hp10 : P 10 10 = some a) (ha : 20 ≤ a) {x : Nat → Int32} {L T n : Nat} (hT : TK x L T = 24) (h2 : HC G S P B Q t sl a x L T mX6_readChain (fun dep => [some (.ref 10), some (.int (nI 2)), some (.int (nI dep)), none, none]) 2 4 n) : ∀ (i dep : Nat) (pre d : List Int32) (m : Nat) (V A : sV) (D : Nat), dep ≤ 6 → 10 * (T - i) + rkT 3 < n + 1 → KN x L T i V A → LWD V A a d → RB T m i (pre ++ d) → 20 + 13 * (6 - dep) + 5 ≤ D → WQ G D mX6_readComparison 0 [some (.ref 10), some (.int (nI dep)), none] [] (t, sl, gh S V P A B Q) (KZ x L T a pre S P B Q t sl ((ps (TK x L) (TV x L) (TPl x L) n 2 i dep (pre ++ d)).andThen (cmpF (TK x L) (TV x L) (TPl x L) n dep)) V A) := by
  intro i dep pre d m V A D hd hn hN hW hB hD
  have hB1 := hB.1
  have hm9 := hB.2.2
  have hiT := hN.le
  have ht9 := hN.t9
  have r3 : rkT 3 = 5 := rfl
  have r2 : rkT 2 = 4 := rfl
  obtain ⟨D, rfl⟩ : ∃ D', D = D' + 1 := ⟨D - 1, by omega⟩
  refine WQ.st (fun _ _ kz => pw_aload0 dX6_readComparison_0 kz) ?_
  refine WQ.st (fun _ _ kz => pw_iconst (v := 2) dX6_readComparison_1 (by decide) kz) ?_
  refine WQ.st (fun _ _ kz => pw_iload1 dX6_readComparison_2 kz) ?_
  refine wq_o2i wX6_readChain lX6_170 rfl dX6_readComparison_3 (cf_s10 hC) (h2 i dep pre d m V A D hd (by omega) hN hW hB (by omega)) rfl (Nat.le_of_ble_eq_true rfl) (Nat.le_of_ble_eq_true rfl) (fun h3 z3 => ?_)
  obtain ⟨V2, A2, rfl, z2, f2⟩ := z3
  have pk := ps_ok (Vl := TV x L) (Pl := TPl x L) hT n 2 i dep (pre ++ d) m (by omega) hB
  generalize hr : ps (TK x L) (TV x L) (TPl x L) n 2 i dep (pre ++ d) = r at *
  cases r with
  | error e =>
    rw [PR.at_er]
    refine WQ.bn (fun _ _ ka kb => pw_if_ne (tgt := 11) dX6_readComparison_6 (by decide) ka kb) (fun c6 => absurd okB_e c6) (fun c6 => ?_)
    refine WQ.st (fun _ _ kz => pw_iconst (v := 0) dX6_readComparison_9 (by decide) kz) ?_
    refine ⟨_, _, pw_iret dX6_readComparison_10 rfl rfl rfl rfl, ?_⟩
    exact ⟨rfl, V2, A2, rfl, z2, f2⟩
  | ok s =>
    rw [PR.at_ok]
    obtain ⟨n2, d2, e2, w2⟩ := z2
    have pk : RB T m s.1 s.2 ∧ i ≤ s.1 := pk
    have K39 : (TK x L s.1 = 39 ∨ TK x L s.1 = 40 ∨ TK x L s.1 = 41) → WQ G (D + 1) mX6_readComparison 39 [some (.ref 10), some (.int (nI dep)), some (.int (ccK (TK x L s.1)))] [] (t, sl, gh S V2 P A2 B Q) (KZ x L T a pre S P B Q t sl (cmpF (TK x L) (TV x L) (TPl x L) n dep s.1 s.2) V A) := by
      intro hk
      unfold cmpF
      rw [if_pos hk]
      obtain ⟨b3, b4⟩ := (e2 ▸ pk.1 : RB T m s.1 (pre ++ d2)).eat hT (k := TK x L s.1) rfl (by omega)
      have hlt := lt_T hT pk.1.1 (k := TK x L s.1) rfl (by omega)
      have hm9 := pk.1.2.2
      have g4 : FRK V2 (up2 V2 10 6 (nI (s.1 + 1))) := FRK.up (by omega)
      have f4 : FRA a V2 A2 (up2 V2 10 6 (nI (s.1 + 1))) A2 := g4.fa
      refine WQ.st (fun _ _ kz => pw_aload0 dX6_readComparison_39 kz) ?_
      refine WQ.st (fun _ _ kz => pw_dup dX6_readComparison_40 rfl kz) ?_
      refine WQ.st (fun _ _ kz => pw_geti gX6_31 dX6_readComparison_41 (cf_s10 hC) kz) ?_
      rw [n2.at]
      refine WQ.st (fun _ _ kz => pw_iconst (v := 1) dX6_readComparison_44 (by decide) kz) ?_
      refine WQ.st (fun _ _ kz => pw_iadd dX6_readComparison_45 kz) ?_
      rw [nI_1]
      refine WQ.st (fun _ _ kz => pw_puti (pX6_31 _ rfl) dX6_readComparison_46 (cf_s10 hC) rfl rfl kz) ?_
      refine WQ.st (fun _ _ kz => pw_aload0 dX6_readComparison_49 kz) ?_
      refine WQ.st (fun _ _ kz => pw_iconst (v := 2) dX6_readComparison_50 (by decide) kz) ?_
      refine WQ.st (fun _ _ kz => pw_iload1 dX6_readComparison_51 kz) ?_
      refine wq_o2i wX6_readChain lX6_170 rfl dX6_readComparison_52 (cf_s10 hC) (h2 (s.1 + 1) dep pre d2 (m - 1) _ A2 D hd (by omega) (n2.go hlt) (g4.lw ha w2) b3 (by omega)) rfl (Nat.le_of_ble_eq_true rfl) (Nat.le_of_ble_eq_true rfl) (fun h52 z52 => ?_)
      obtain ⟨V5, A5, rfl, z5, f5⟩ := z52
      have pk5 := ps_ok (Vl := TV x L) (Pl := TPl x L) hT n 2 (s.1 + 1) dep (pre ++ d2) (m - 1) (by omega) b3
      rw [e2]
      generalize hr5 : ps (TK x L) (TV x L) (TPl x L) n 2 (s.1 + 1) dep (pre ++ d2) = r5 at *
      cases r5 with
      | error e5 =>
        rw [PR.at_er]
        refine WQ.bn (fun _ _ ka kb => pw_if_ne (tgt := 60) dX6_readComparison_55 (by decide) ka kb) (fun c55 => absurd okB_e c55) (fun c55 => ?_)
        refine WQ.st (fun _ _ kz => pw_iconst (v := 0) dX6_readComparison_58 (by decide) kz) ?_
        refine ⟨_, _, pw_iret dX6_readComparison_59 rfl rfl rfl rfl, ?_⟩
        exact ⟨rfl, V5, A5, rfl, z5, (f2.tr f4).tr f5⟩
      | ok s5 =>
        rw [PR.at_ok]
        obtain ⟨n5, d5, e5, w5⟩ := z5
        have pk5 : RB T (m - 1) s5.1 s5.2 ∧ s.1 + 1 ≤ s5.1 := pk5
        refine WQ.bn (fun _ _ ka kb => pw_if_ne (tgt := 60) dX6_readComparison_55 (by decide) ka kb) (fun c55 => ?_) (fun c55 => absurd c55 okB_k)
        refine WQ.st (fun _ _ kz => pw_aload0 dX6_readComparison_60 kz) ?_
        refine WQ.st (fun _ _ kz => pw_getr gX6_45 dX6_readComparison_61 (cf_s10 hC) hp10 kz) ?_
        refine WQ.st (fun _ _ kz => pw_sipush (v := 2000) dX6_readComparison_64 (by decide) kz) ?_
        refine WQ.st (fun _ _ kz => pw_iload2 dX6_readComparison_67 kz) ?_
        refine WQ.st (fun _ _ kz => pw_iadd dX6_readComparison_68 kz) ?_
        refine wq_o1v wX4_add lX6_180 rfl dX6_readComparison_69 (la_s0 hL) (k_ladd hL w5 (by have := pk5.1.2.1; rw [e5, List.length_append] at this; have := b4; omega) (Or.inr (cm_ok _ (TK_lt x L s.1) hk).2) (cm_ok _ (TK_lt x L s.1) hk).1) rfl (Nat.le_of_ble_eq_true rfl) (Nat.le_of_ble_eq_true rfl) (fun h69 z69 => ?_)
        obtain ⟨V6, A6, rfl, w6, f6⟩ := z69
        refine WQ.st (fun _ _ kz => pw_iconst (v := 1) dX6_readComparison_72 (by decide) kz) ?_
        refine ⟨_, _, pw_iret dX6_readComparison_73 rfl rfl rfl rfl, ?_⟩
        exact ⟨rfl, V6, A6, rfl, ⟨f6.kn ha n5, _, by rw [e5, List.append_assoc], w6⟩, ((f2.tr f4).tr f5).tr (f6.fa ha)⟩
    refine WQ.bn (fun _ _ ka kb => pw_if_ne (tgt := 11) dX6_readComparison_6 (by decide) ka kb) (fun c6 => ?_) (fun c6 => absurd c6 okB_k)
    refine WQ.st (fun _ _ kz => pw_aload0 dX6_readComparison_11 kz) ?_
    refine wq_o0i wX6_kind lX6_70 rfl dX6_readComparison_12 (cf_s10 hC) (k_kind hC n2) rfl (Nat.le_of_ble_eq_true rfl) (Nat.le_of_ble_eq_true rfl) (fun h12 z12 => ?_)
    subst z12
    refine WQ.st (fun _ _ kz => pw_istore2 dX6_readComparison_15 (by decide) (k := kz)) ?_
    refine WQ.st (fun _ _ kz => pw_iload2 dX6_readComparison_16 kz) ?_
    refine WQ.st (fun _ _ kz => pw_bipush (v := 61) dX6_readComparison_17 (by decide) kz) ?_
    refine WQ.br (fun _ _ ka kb => pw_icmp_eq (tgt := 39) dX6_readComparison_19 (by decide) ka kb) (fun c19 => ?_) (fun c19 => ?_)
    · exact K39 (Or.inl ((cc_i TK_o (show tkO 39 by unfold tkO; omega) (by decide +kernel)).mp c19))
    · refine WQ.st (fun _ _ kz => pw_iload2 dX6_readComparison_22 kz) ?_
      refine WQ.st (fun _ _ kz => pw_bipush (v := 60) dX6_readComparison_23 (by decide) kz) ?_
      refine WQ.br (fun _ _ ka kb => pw_icmp_eq (tgt := 39) dX6_readComparison_25 (by decide) ka kb) (fun c25 => ?_) (fun c25 => ?_)
      · exact K39 (Or.inr (Or.inl ((cc_i TK_o (show tkO 40 by unfold tkO; omega) (by decide +kernel)).mp c25)))
      · refine WQ.st (fun _ _ kz => pw_iload2 dX6_readComparison_28 kz) ?_
        refine WQ.st (fun _ _ kz => pw_bipush (v := 62) dX6_readComparison_29 (by decide) kz) ?_
        refine WQ.br (fun _ _ ka kb => pw_icmp_eq (tgt := 39) dX6_readComparison_31 (by decide) ka kb) (fun c31 => ?_) (fun c31 => ?_)
        · exact K39 (Or.inr (Or.inr ((cc_i TK_o (show tkO 41 by unfold tkO; omega) (by decide +kernel)).mp c31)))
        · refine WQ.st (fun _ _ kz => pw_aload0 dX6_readComparison_34 kz) ?_
          refine wq_o0i wX6_cannotStand lX6_120 rfl dX6_readComparison_35 (cf_s10 hC) ((k_cannotStand (d := 0) hC n2).mn (by omega)) rfl (Nat.le_of_ble_eq_true rfl) (Nat.le_of_ble_eq_true rfl) (fun h35 z35 => ?_)
          obtain ⟨V3, rfl, e3, f3⟩ := z35
          refine ⟨_, _, pw_iret dX6_readComparison_38 rfl rfl rfl rfl, ?_⟩
          have hk : ¬ (TK x L s.1 = 39 ∨ TK x L s.1 = 40 ∨ TK x L s.1 = 41) := fun q => q.elim (fun q => c19 ((cc_i TK_o (show tkO 39 by unfold tkO; omega) (by decide +kernel)).mpr q)) (fun q => q.elim (fun q => c25 ((cc_i TK_o (show tkO 40 by unfold tkO; omega) (by decide +kernel)).mpr q)) (fun q => c31 ((cc_i TK_o (show tkO 41 by unfold tkO; omega) (by decide +kernel)).mpr q)))
          unfold cmpF
          rw [if_neg hk]
          exact ⟨rfl, V3, A2, rfl, e3, f2.tr f3.fa⟩
