set_option maxRecDepth 20000 in
theorem l_settle4 {G : gT} {d : Nat} {S : sS} {V : sV} {P : sP} {Q : sP} {t sl : Nat} {al : Nat → Int32} {sh ls p tm q : Nat} {A0 : sV} {B : sB} {B0 : sB} {lo hi am : Nat} {goal : Int32} (ham : S am = (20, 12)) (ham2 : am = 69 ∨ am = 109) (hlh : lo ≤ hi) (hlo40 : lo ≤ 40) (hhi40 : hi ≤ 40) : ∀ (m k : Nat) (A : sV), k + m = 205 → KB S V P A B Q t al sh ls p tm q → (∀ j, j < k → A 110 ((lgN al q) * 205 + j) = cv (rf_e goal (j / 5))) → FrS2 A0 B0 A B → WQ G (d + 4) mX10_settle 17 [some (.ref 107), some (.int (sI lo)), some (.int (sI hi)), some (.int goal), some (.ref am), some (.int (nI (lgN al q))), some (.int (nI k)), none, none, none, none, none] [] (t, sl, gh S V P A B Q) (fun r h' => r = none ∧ ∃ (A' : sV) (B' : sB), h' = (t, sl, gh S V P A' B' Q) ∧ KB S V P A' B' Q t al sh ls p tm q ∧ SR A' (TT (atm al p tm) p q) (kpM (A0 am)) (lgN al q) (rf_e goal) (asks al 6) lo hi 0 ∧ FrS2 A0 B0 A' B') := by
  intro m
  induction m with
  | zero =>
    intro k A hk hK hP hF
    have hn := hK.len
    have hk : k = 205 := hk
    subst hk
    refine WQ.st (fun _ _ kz => pw_iload6 dX10_settle_17 kz) ?_
    refine WQ.st (fun _ _ kz => pw_sipush (v := 205) dX10_settle_19 (by decide) kz) ?_
    refine WQ.br (fun _ _ ka kb => pw_icmp_ge (tgt := 60) dX10_settle_22 (by decide) ka kb) (fun c22 => ?_) (fun c22 => absurd (by decide) c22)
    refine WQ.st (fun _ _ kz => pw_iload5 dX10_settle_60 kz) ?_
    refine WQ.st (fun _ _ kz => pw_iconst (v := 1) dX10_settle_62 (by decide) kz) ?_
    refine WQ.st (fun _ _ kz => pw_isub dX10_settle_63 kz) ?_
    rw [pI_n]
    refine WQ.st (fun _ _ kz => pw_istore6 dX10_settle_64 (by decide) (k := kz)) ?_
    refine l_settle3 (A0 := A0) (B0 := B0) ham ham2 hlh hlo40 hhi40 (lgN al q) A B none none none none none (Nat.le_refl _) hK (fun b h1 h2 s l a1 a2 a3 a4 => ?_) hF
    have hbn : b = (lgN al q) := by omega
    subst hbn
    refine ⟨?_, fun h => by omega⟩
    have := a4.lt
    rw [hP _ (by omega), Nat.sub_self, show (s * 5 + l) / 5 = s by omega]
    rfl
  | succ m ih =>
    intro k A hk hK hP hF
    have hn := hK.len
    refine WQ.st (fun _ _ kz => pw_iload6 dX10_settle_17 kz) ?_
    refine WQ.st (fun _ _ kz => pw_sipush (v := 205) dX10_settle_19 (by decide) kz) ?_
    refine WQ.br (fun _ _ ka kb => pw_icmp_ge (tgt := 60) dX10_settle_22 (by decide) ka kb) (fun c22 => absurd c22 (by rw [show (205 : Int32) = nI 205 from rfl, le_i (ix_n (j := 205) (by omega)) (ix_n (j := k) (by omega))]; omega)) (fun c22 => ?_)
    refine WQ.st (fun _ _ kz => pw_aload0 dX10_settle_25 kz) ?_
    refine WQ.st (fun _ _ kz => pw_getr gX10_25 dX10_settle_26 (cf_s107 hK.cf) (cf_p107_5 hK.cf) kz) ?_
    refine WQ.st (fun _ _ kz => pw_iload5 dX10_settle_29 kz) ?_
    refine WQ.st (fun _ _ kz => pw_sipush (v := 205) dX10_settle_31 (by decide) kz) ?_
    refine WQ.st (fun _ _ kz => pw_imul dX10_settle_34 kz) ?_
    refine WQ.st (fun _ _ kz => pw_iload6 dX10_settle_35 kz) ?_
    refine WQ.st (fun _ _ kz => pw_iadd dX10_settle_37 kz) ?_
    rw [show (205 : Int32) = nI 205 from rfl, pk_mul, nI_add]
    refine WQ.st (fun _ _ kz => pw_iload6 dX10_settle_38 kz) ?_
    refine wq_s1i wX0_storeOf lX10_66 dX10_settle_40 (k_storeOf (by omega)) rfl (Nat.le_of_ble_eq_true rfl) (Nat.le_of_ble_eq_true rfl) (fun h40 z40 => ?_)
    subst z40
    refine WQ.st (fun _ _ kz => pw_iload3 dX10_settle_43 kz) ?_
    refine WQ.br (fun _ _ ka kb => pw_icmp_lt (tgt := 51) dX10_settle_44 (by decide) ka kb) (fun c44 => ?_) (fun c44 => ?_)
    · refine WQ.st (fun _ _ kz => pw_ldc kX10_70 dX10_settle_51 kz) ?_
      refine WQ.st (fun _ _ kz => pw_ast (j := ((lgN al q) * 205 + k)) dX10_settle_53 (cf_s110 hK.cf) (ix_n (by omega)) (by omega)  kz) ?_
      refine WQ.st (fun _ _ kz => pw_iinc6 (v := 1) dX10_settle_54 (by decide) (by decide) (k := kz)) ?_
      refine WQ.st (fun _ _ kz => pw_goto (tgt := 17) dX10_settle_57 (by decide) kz) ?_
      rw [nI_1]
      refine ih (k + 1) _ (by omega) (hK.fr (FrK.a (a := 110) (by decide))) (fun j hj => ?_) (hF.tr ⟨fun x _ _ h3 _ => up2_na h3, fun _ _ => rfl⟩)
      rw [up2_at]
      unfold pm_up
      by_cases e : (lgN al q) * 205 + j = (lgN al q) * 205 + k
      · rw [if_pos e, show j = k by omega]
        unfold rf_e
        rw [if_pos c44]
        rfl
      · rw [if_neg e]
        exact hP j (by omega)
    · refine WQ.st (fun _ _ kz => pw_iconst (v := 0) dX10_settle_47 (by decide) kz) ?_
      refine WQ.st (fun _ _ kz => pw_goto (tgt := 53) dX10_settle_48 (by decide) kz) ?_
      refine WQ.st (fun _ _ kz => pw_ast (j := ((lgN al q) * 205 + k)) dX10_settle_53 (cf_s110 hK.cf) (ix_n (by omega)) (by omega)  kz) ?_
      refine WQ.st (fun _ _ kz => pw_iinc6 (v := 1) dX10_settle_54 (by decide) (by decide) (k := kz)) ?_
      refine WQ.st (fun _ _ kz => pw_goto (tgt := 17) dX10_settle_57 (by decide) kz) ?_
      rw [nI_1]
      refine ih (k + 1) _ (by omega) (hK.fr (FrK.a (a := 110) (by decide))) (fun j hj => ?_) (hF.tr ⟨fun x _ _ h3 _ => up2_na h3, fun _ _ => rfl⟩)
      rw [up2_at]
      unfold pm_up
      by_cases e : (lgN al q) * 205 + j = (lgN al q) * 205 + k
      · rw [if_pos e, show j = k by omega]
        unfold rf_e
        rw [if_neg c44]
        rfl
      · rw [if_neg e]
        exact hP j (by omega)
