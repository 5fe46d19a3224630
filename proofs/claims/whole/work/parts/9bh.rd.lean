set_option maxRecDepth 20000 in
theorem kc_unit {G : gT} {S : sS} {P : sP} {B : sB} {Q : sP} {t sl a : Nat} (hC : CF S P) (hL : LA S P a) (hp10 : P 10 10 = some a) (ha : 20 ≤ a) {x : Nat → Int32} {L T n : Nat} (hT : TK x L T = 24) (h2 : HC G S P B Q t sl a x L T mX6_readChain (fun dep => [some (.ref 10), some (.int (nI 2)), some (.int (nI dep)), none, none]) 2 4 n) (h3 : HC G S P B Q t sl a x L T mX6_readUnit (fun dep => [some (.ref 10), some (.int (nI dep)), none]) 3 6 n) (h5 : HC G S P B Q t sl a x L T mX6_readChain (fun dep => [some (.ref 10), some (.int (nI 0)), some (.int (nI dep)), none, none]) 5 10 n) : HC G S P B Q t sl a x L T mX6_readUnit (fun dep => [some (.ref 10), some (.int (nI dep)), none]) 3 6 (n + 1) := by
  have hc := kc_cmp hC hL hp10 ha hT h2
  intro i dep pre d m V A D hd hn hN hW hB hD
  have hB1 := hB.1
  have hm9 := hB.2.2
  have hiT := hN.le
  have ht9 := hN.t9
  have r3 : rkT 3 = 5 := rfl
  have r2 : rkT 2 = 4 := rfl
  have r5 : rkT 5 = 9 := rfl
  obtain ⟨D, rfl⟩ : ∃ D', D = D' + 1 := ⟨D - 1, by omega⟩
  refine WQ.st (fun _ _ kz => pw_aload0 dX6_readUnit_0 kz) ?_
  refine wq_o0i wX6_kind lX6_70 rfl dX6_readUnit_1 (cf_s10 hC) (k_kind hC hN) rfl (Nat.le_of_ble_eq_true rfl) (Nat.le_of_ble_eq_true rfl) (fun h1 z1 => ?_)
  subst z1
  refine WQ.st (fun _ _ kz => pw_istore2 dX6_readUnit_4 (by decide) (k := kz)) ?_
  refine WQ.st (fun _ _ kz => pw_iload2 dX6_readUnit_5 kz) ?_
  refine WQ.st (fun _ _ kz => pw_sipush (v := 219) dX6_readUnit_6 (by decide) kz) ?_
  refine WQ.br (fun _ _ ka kb => pw_icmp_eq (tgt := 24) dX6_readUnit_9 (by decide) ka kb) (fun c9 => ?_) (fun c9 => ?_)
  · have c9 : TK x L i = 19 := (cc_i TK_o (show tkO 19 by unfold tkO; omega) (by decide +kernel)).mp c9
    rw [ps_3c, if_pos c9]
    obtain ⟨b1, b2⟩ := hB.eat hT c9 (by omega)
    have hlt := lt_T hT hB1 c9 (by omega)
    have g1 : FRK V (up2 V 10 6 (nI (i + 1))) := FRK.up (by omega)
    have f1 : FRA a V A (up2 V 10 6 (nI (i + 1))) A := g1.fa
    refine WQ.st (fun _ _ kz => pw_iload1 dX6_readUnit_24 kz) ?_
    refine WQ.st (fun _ _ kz => pw_bipush (v := 6) dX6_readUnit_25 (by decide) kz) ?_
    refine WQ.br (fun _ _ ka kb => pw_icmp_lt (tgt := 36) dX6_readUnit_27 (by decide) ka kb) (fun c27 => ?_) (fun c27 => ?_)
    · rw [lt_i (ix_n (by omega)) (show (6 : Int32).toInt = 6 from rfl)] at c27
      rw [if_neg (by omega)]
      refine WQ.st (fun _ _ kz => pw_aload0 dX6_readUnit_36 kz) ?_
      refine WQ.st (fun _ _ kz => pw_dup dX6_readUnit_37 rfl kz) ?_
      refine WQ.st (fun _ _ kz => pw_geti gX6_31 dX6_readUnit_38 (cf_s10 hC) kz) ?_
      rw [hN.at]
      refine WQ.st (fun _ _ kz => pw_iconst (v := 1) dX6_readUnit_41 (by decide) kz) ?_
      refine WQ.st (fun _ _ kz => pw_iadd dX6_readUnit_42 kz) ?_
      rw [nI_1]
      refine WQ.st (fun _ _ kz => pw_puti (pX6_31 _ rfl) dX6_readUnit_43 (cf_s10 hC) rfl rfl kz) ?_
      refine WQ.st (fun _ _ kz => pw_iload2 dX6_readUnit_46 kz) ?_
      refine WQ.st (fun _ _ kz => pw_bipush (v := 91) dX6_readUnit_47 (by decide) kz) ?_
      refine WQ.bn (fun _ _ ka kb => pw_icmp_ne (tgt := 78) dX6_readUnit_49 (by decide) ka kb) (fun c49 => ?_) (fun c49 => absurd c49 (fun q => by have := (cc_i TK_o (show tkO 37 by unfold tkO; omega) (by decide +kernel)).mp q; omega))
      refine WQ.st (fun _ _ kz => pw_aload0 dX6_readUnit_78 kz) ?_
      refine WQ.st (fun _ _ kz => pw_iload1 dX6_readUnit_79 kz) ?_
      refine WQ.st (fun _ _ kz => pw_iconst (v := 1) dX6_readUnit_80 (by decide) kz) ?_
      refine WQ.st (fun _ _ kz => pw_iadd dX6_readUnit_81 kz) ?_
      rw [nI_1]
      refine wq_o1i wX6_readUnit lX6_183 rfl dX6_readUnit_82 (cf_s10 hC) (h3 (i + 1) (dep + 1) pre d (m - 1) _ A D (by omega) (by omega) (hN.go hlt) (g1.lw ha hW) b1 (by omega)) rfl (Nat.le_of_ble_eq_true rfl) (Nat.le_of_ble_eq_true rfl) (fun h82 z82 => ?_)
      obtain ⟨V2, A2, rfl, z2, f2⟩ := z82
      have pk := ps_ok (Vl := TV x L) (Pl := TPl x L) hT n 3 (i + 1) (dep + 1) (pre ++ d) (m - 1) (by omega) b1
      generalize hr : ps (TK x L) (TV x L) (TPl x L) n 3 (i + 1) (dep + 1) (pre ++ d) = r at *
      cases r with
      | error e =>
        rw [PR.at_er]
        refine WQ.bn (fun _ _ ka kb => pw_if_ne (tgt := 90) dX6_readUnit_85 (by decide) ka kb) (fun c85 => absurd okB_e c85) (fun c85 => ?_)
        refine WQ.st (fun _ _ kz => pw_iconst (v := 0) dX6_readUnit_88 (by decide) kz) ?_
        refine ⟨_, _, pw_iret dX6_readUnit_89 rfl rfl rfl rfl, ?_⟩
        exact ⟨rfl, V2, A2, rfl, z2, f1.tr f2⟩
      | ok s =>
        rw [PR.at_ok]
        obtain ⟨n2, d2, e2, w2⟩ := z2
        have pk : RB T (m - 1) s.1 s.2 ∧ i + 1 ≤ s.1 := pk
        refine WQ.bn (fun _ _ ka kb => pw_if_ne (tgt := 90) dX6_readUnit_85 (by decide) ka kb) (fun c85 => ?_) (fun c85 => absurd c85 okB_k)
        refine WQ.st (fun _ _ kz => pw_aload0 dX6_readUnit_90 kz) ?_
        refine WQ.st (fun _ _ kz => pw_getr gX6_45 dX6_readUnit_91 (cf_s10 hC) hp10 kz) ?_
        refine WQ.st (fun _ _ kz => pw_sipush (v := 2219) dX6_readUnit_94 (by decide) kz) ?_
        refine wq_o1v wX4_add lX6_180 rfl dX6_readUnit_97 (la_s0 hL) (k_ladd hL w2 (by have := pk.1.2.1; rw [e2, List.length_append] at this; have := b2; omega) (c := 3006) (Or.inr (by decide)) (by decide)) rfl (Nat.le_of_ble_eq_true rfl) (Nat.le_of_ble_eq_true rfl) (fun h97 z97 => ?_)
        obtain ⟨V3, A3, rfl, w3, f3⟩ := z97
        refine WQ.st (fun _ _ kz => pw_iconst (v := 1) dX6_readUnit_100 (by decide) kz) ?_
        refine ⟨_, _, pw_iret dX6_readUnit_101 rfl rfl rfl rfl, ?_⟩
        exact ⟨rfl, V3, A3, rfl, ⟨f3.kn ha n2, _, by rw [e2, List.append_assoc], w3⟩, (f1.tr f2).tr (f3.fa ha)⟩
    · rw [lt_i (ix_n (by omega)) (show (6 : Int32).toInt = 6 from rfl)] at c27
      rw [if_pos (by omega)]
      refine WQ.st (fun _ _ kz => pw_aload0 dX6_readUnit_30 kz) ?_
      refine WQ.st (fun _ _ kz => pw_iconst (v := 4) dX6_readUnit_31 (by decide) kz) ?_
      refine wq_o1i wX6_faulty lX6_117 rfl dX6_readUnit_32 (cf_s10 hC) (k_faulty hC hN _) rfl (Nat.le_of_ble_eq_true rfl) (Nat.le_of_ble_eq_true rfl) (fun h32 z32 => ?_)
      obtain ⟨V1, rfl, e1, f1⟩ := z32
      refine ⟨_, _, pw_iret dX6_readUnit_35 rfl rfl rfl rfl, ?_⟩
      exact ⟨rfl, V1, A, rfl, e1, f1.fa⟩
  · have c9 : ¬ TK x L i = 19 := fun q => c9 ((cc_i TK_o (show tkO 19 by unfold tkO; omega) (by decide +kernel)).mpr q)
    refine WQ.st (fun _ _ kz => pw_iload2 dX6_readUnit_12 kz) ?_
    refine WQ.st (fun _ _ kz => pw_bipush (v := 91) dX6_readUnit_13 (by decide) kz) ?_
    refine WQ.br (fun _ _ ka kb => pw_icmp_eq (tgt := 24) dX6_readUnit_15 (by decide) ka kb) (fun c15 => ?_) (fun c15 => ?_)
    · have c15 : TK x L i = 37 := (cc_i TK_o (show tkO 37 by unfold tkO; omega) (by decide +kernel)).mp c15
      rw [ps_3c, if_neg c9, if_pos c15]
      obtain ⟨b1, b2⟩ := hB.eat hT c15 (by omega)
      have hlt := lt_T hT hB1 c15 (by omega)
      have g1 : FRK V (up2 V 10 6 (nI (i + 1))) := FRK.up (by omega)
      have f1 : FRA a V A (up2 V 10 6 (nI (i + 1))) A := g1.fa
      refine WQ.st (fun _ _ kz => pw_iload1 dX6_readUnit_24 kz) ?_
      refine WQ.st (fun _ _ kz => pw_bipush (v := 6) dX6_readUnit_25 (by decide) kz) ?_
      refine WQ.br (fun _ _ ka kb => pw_icmp_lt (tgt := 36) dX6_readUnit_27 (by decide) ka kb) (fun c27 => ?_) (fun c27 => ?_)
      · rw [lt_i (ix_n (by omega)) (show (6 : Int32).toInt = 6 from rfl)] at c27
        rw [if_neg (by omega)]
        refine WQ.st (fun _ _ kz => pw_aload0 dX6_readUnit_36 kz) ?_
        refine WQ.st (fun _ _ kz => pw_dup dX6_readUnit_37 rfl kz) ?_
        refine WQ.st (fun _ _ kz => pw_geti gX6_31 dX6_readUnit_38 (cf_s10 hC) kz) ?_
        rw [hN.at]
        refine WQ.st (fun _ _ kz => pw_iconst (v := 1) dX6_readUnit_41 (by decide) kz) ?_
        refine WQ.st (fun _ _ kz => pw_iadd dX6_readUnit_42 kz) ?_
        rw [nI_1]
        refine WQ.st (fun _ _ kz => pw_puti (pX6_31 _ rfl) dX6_readUnit_43 (cf_s10 hC) rfl rfl kz) ?_
        refine WQ.st (fun _ _ kz => pw_iload2 dX6_readUnit_46 kz) ?_
        refine WQ.st (fun _ _ kz => pw_bipush (v := 91) dX6_readUnit_47 (by decide) kz) ?_
        refine WQ.bn (fun _ _ ka kb => pw_icmp_ne (tgt := 78) dX6_readUnit_49 (by decide) ka kb) (fun c49 => absurd ((cc_i TK_o (show tkO 37 by unfold tkO; omega) (by decide +kernel)).mpr c15) c49) (fun c49 => ?_)
        refine WQ.st (fun _ _ kz => pw_aload0 dX6_readUnit_52 kz) ?_
        refine WQ.st (fun _ _ kz => pw_iconst (v := 0) dX6_readUnit_53 (by decide) kz) ?_
        refine WQ.st (fun _ _ kz => pw_iload1 dX6_readUnit_54 kz) ?_
        refine WQ.st (fun _ _ kz => pw_iconst (v := 1) dX6_readUnit_55 (by decide) kz) ?_
        refine WQ.st (fun _ _ kz => pw_iadd dX6_readUnit_56 kz) ?_
        rw [nI_1]
        refine wq_o2i wX6_readChain lX6_170 rfl dX6_readUnit_57 (cf_s10 hC) (h5 (i + 1) (dep + 1) pre d (m - 1) _ A D (by omega) (by omega) (hN.go hlt) (g1.lw ha hW) b1 (by omega)) rfl (Nat.le_of_ble_eq_true rfl) (Nat.le_of_ble_eq_true rfl) (fun h57 z57 => ?_)
        obtain ⟨V2, A2, rfl, z2, f2⟩ := z57
        have pk := True.intro
        generalize hr : ps (TK x L) (TV x L) (TPl x L) n 5 (i + 1) (dep + 1) (pre ++ d) = r at *
        cases r with
        | error e =>
          rw [PR.at_er]
          refine WQ.br (fun _ _ ka kb => pw_if_eq (tgt := 76) dX6_readUnit_60 (by decide) ka kb) (fun c60 => ?_) (fun c60 => absurd okB_e c60)
          refine WQ.st (fun _ _ kz => pw_iconst (v := 0) dX6_readUnit_76 (by decide) kz) ?_
          refine ⟨_, _, pw_iret dX6_readUnit_77 rfl rfl rfl rfl, ?_⟩
          exact ⟨rfl, V2, A2, rfl, z2, f1.tr f2⟩
        | ok s =>
          rw [PR.at_ok]
          obtain ⟨n2, d2, e2, w2⟩ := z2
          refine WQ.br (fun _ _ ka kb => pw_if_eq (tgt := 76) dX6_readUnit_60 (by decide) ka kb) (fun c60 => absurd c60 okB_k) (fun c60 => ?_)
          refine WQ.st (fun _ _ kz => pw_aload0 dX6_readUnit_63 kz) ?_
          refine WQ.st (fun _ _ kz => pw_bipush (v := 93) dX6_readUnit_64 (by decide) kz) ?_
          refine wq_o1i wX6_take lX6_63 rfl dX6_readUnit_66 (cf_s10 hC) ((k_rtake (d := 0) hC n2 hT (k := 38) (y := 93) (by unfold tkO; omega) (by decide +kernel) (by omega)).mn (by omega)) rfl (Nat.le_of_ble_eq_true rfl) (Nat.le_of_ble_eq_true rfl) (fun h66 z66 => ?_)
          obtain ⟨V3, rfl, g3, e3, f3⟩ := z66
          refine WQ.br (fun _ _ ka kb => pw_if_eq (tgt := 76) dX6_readUnit_69 (by decide) ka kb) (fun c69 => ?_) (fun c69 => ?_)
          · rw [bI_0] at c69
            have c69 := of_decide_eq_false c69
            rw [if_neg c69]
            refine WQ.st (fun _ _ kz => pw_iconst (v := 0) dX6_readUnit_76 (by decide) kz) ?_
            refine ⟨_, _, pw_iret dX6_readUnit_77 rfl rfl rfl rfl, ?_⟩
            exact ⟨rfl, V3, A2, rfl, e3 c69, (f1.tr f2).tr f3.fa⟩
          · rw [bI_n] at c69
            have c69 := of_decide_eq_true c69
            rw [if_pos c69]
            refine WQ.st (fun _ _ kz => pw_iconst (v := 1) dX6_readUnit_72 (by decide) kz) ?_
            refine WQ.st (fun _ _ kz => pw_goto (tgt := 77) dX6_readUnit_73 (by decide) kz) ?_
            refine ⟨_, _, pw_iret dX6_readUnit_77 rfl rfl rfl rfl, ?_⟩
            exact ⟨rfl, V3, A2, rfl, ⟨g3 c69, d2, e2, f3.lw ha w2⟩, (f1.tr f2).tr f3.fa⟩
      · rw [lt_i (ix_n (by omega)) (show (6 : Int32).toInt = 6 from rfl)] at c27
        rw [if_pos (by omega)]
        refine WQ.st (fun _ _ kz => pw_aload0 dX6_readUnit_30 kz) ?_
        refine WQ.st (fun _ _ kz => pw_iconst (v := 4) dX6_readUnit_31 (by decide) kz) ?_
        refine wq_o1i wX6_faulty lX6_117 rfl dX6_readUnit_32 (cf_s10 hC) (k_faulty hC hN _) rfl (Nat.le_of_ble_eq_true rfl) (Nat.le_of_ble_eq_true rfl) (fun h32 z32 => ?_)
        obtain ⟨V1, rfl, e1, f1⟩ := z32
        refine ⟨_, _, pw_iret dX6_readUnit_35 rfl rfl rfl rfl, ?_⟩
        exact ⟨rfl, V1, A, rfl, e1, f1.fa⟩
    · have c15 : ¬ TK x L i = 37 := fun q => c15 ((cc_i TK_o (show tkO 37 by unfold tkO; omega) (by decide +kernel)).mpr q)
      rw [ps_3c, if_neg c9, if_neg c15]
      refine WQ.st (fun _ _ kz => pw_aload0 dX6_readUnit_18 kz) ?_
      refine WQ.st (fun _ _ kz => pw_iload1 dX6_readUnit_19 kz) ?_
      refine wq_o1i wX6_readComparison lX6_189 rfl dX6_readUnit_20 (cf_s10 hC) (hc i dep pre d m V A D hd (by omega) hN hW hB (by omega)) rfl (Nat.le_of_ble_eq_true rfl) (Nat.le_of_ble_eq_true rfl) (fun h20 z20 => ?_)
      obtain ⟨V2, A2, rfl, z2, f2⟩ := z20
      refine ⟨_, _, pw_iret dX6_readUnit_23 rfl (bI_nar _) rfl rfl, ?_⟩
      exact ⟨rfl, V2, A2, rfl, z2, f2⟩
theorem kc_all {G : gT} {S : sS} {P : sP} {B : sB} {Q : sP} {t sl a : Nat} (hC : CF S P) (hL : LA S P a) (hp10 : P 10 10 = some a) (ha : 20 ≤ a) {x : Nat → Int32} {L T : Nat} (hT : TK x L T = 24) : ∀ n, HC G S P B Q t sl a x L T mX6_readAtom (fun dep => [some (.ref 10), some (.int (nI dep)), none]) 0 0 n ∧ HC G S P B Q t sl a x L T mX6_readChain (fun dep => [some (.ref 10), some (.int (nI 3)), some (.int (nI dep)), none, none]) 1 2 n ∧ HL G S P B Q t sl a x L T 3 11 2 n ∧ HC G S P B Q t sl a x L T mX6_readChain (fun dep => [some (.ref 10), some (.int (nI 2)), some (.int (nI dep)), none, none]) 2 4 n ∧ HL G S P B Q t sl a x L T 2 12 4 n ∧ HC G S P B Q t sl a x L T mX6_readUnit (fun dep => [some (.ref 10), some (.int (nI dep)), none]) 3 6 n ∧ HC G S P B Q t sl a x L T mX6_readChain (fun dep => [some (.ref 10), some (.int (nI 1)), some (.int (nI dep)), none, none]) 4 8 n ∧ HL G S P B Q t sl a x L T 1 14 8 n ∧ HC G S P B Q t sl a x L T mX6_readChain (fun dep => [some (.ref 10), some (.int (nI 0)), some (.int (nI dep)), none, none]) 5 10 n ∧ HL G S P B Q t sl a x L T 0 15 10 n := by
  intro n
  induction n with
  | zero => exact ⟨fun i dep pre d m V A D _ hn _ _ _ _ => by omega, fun i dep pre d m V A D _ hn _ _ _ _ => by omega, fun i dep k pre d m V A D y _ hn _ _ _ _ _ => by omega, fun i dep pre d m V A D _ hn _ _ _ _ => by omega, fun i dep k pre d m V A D y _ hn _ _ _ _ _ => by omega, fun i dep pre d m V A D _ hn _ _ _ _ => by omega, fun i dep pre d m V A D _ hn _ _ _ _ => by omega, fun i dep k pre d m V A D y _ hn _ _ _ _ _ => by omega, fun i dep pre d m V A D _ hn _ _ _ _ => by omega, fun i dep k pre d m V A D y _ hn _ _ _ _ _ => by omega⟩
  | succ n ih =>
    obtain ⟨h0, h1, h11, h2, h12, h3, h4, h14, h5, h15⟩ := ih
    have p3 := kp_3 hC hL hp10 ha h0
    have p2 := kp_2 hC hL hp10 ha h1
    have p1 := kp_1 hC hL hp10 ha h3
    have p0 := kp_0 hC hL hp10 ha h4
    refine ⟨kc_atom hC hL hp10 ha hT h2, kc_seq hC hL hp10 ha hT (fun i dep c => ps_1 _ _ _ n i dep c) (by decide) (by decide) p3 h11, kc_loop hC hL hp10 ha hT (by omega) (fun i dep c => ?_) p3 h11, kc_seq hC hL hp10 ha hT (fun i dep c => ps_2 _ _ _ n i dep c) (by decide) (by decide) p2 h12, kc_loop hC hL hp10 ha hT (by omega) (fun i dep c => ?_) p2 h12, kc_unit hC hL hp10 ha hT h2 h3 h5, kc_seq hC hL hp10 ha hT (fun i dep c => ps_4 _ _ _ n i dep c) (by decide) (by decide) p1 h14, kc_loop hC hL hp10 ha hT (by omega) (fun i dep c => ?_) p1 h14, kc_seq hC hL hp10 ha hT (fun i dep c => ps_5 _ _ _ n i dep c) (by decide) (by decide) p0 h15, kc_loop hC hL hp10 ha hT (by omega) (fun i dep c => ?_) p0 h15⟩
    · rw [ps_11, jk_3]
      by_cases c1 : TK x L i = 34
      · rw [if_pos c1, if_pos (decide_eq_true c1), c1]; rfl
      · rw [if_neg c1, if_neg (fun q => c1 (of_decide_eq_true q))]
    · rw [ps_12, jk_2]
      by_cases c1 : TK x L i = 32 ∨ TK x L i = 33
      · rw [if_pos c1, if_pos (decide_eq_true c1)]
        rcases c1 with c1 | c1 <;> rw [c1] <;> rfl
      · rw [if_neg c1, if_neg (fun q => c1 (of_decide_eq_true q))]
    · rw [ps_14, jk_1]
      by_cases c1 : TK x L i = 17
      · rw [if_pos c1, if_pos (decide_eq_true c1), c1]; rfl
      · rw [if_neg c1, if_neg (fun q => c1 (of_decide_eq_true q))]
    · rw [ps_15, jk_0]
      by_cases c1 : TK x L i = 18
      · rw [if_pos c1, if_pos (decide_eq_true c1), c1]; rfl
      · rw [if_neg c1, if_neg (fun q => c1 (of_decide_eq_true q))]
