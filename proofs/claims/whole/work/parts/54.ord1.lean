/-! ===== the reference: laysEnd ===== -/
def rf_e1 (goal : Int32) (s : Nat) : Int32 := if sI s = goal then 0 else (-268435456)
set_option maxRecDepth 20000 in
theorem l_laysEnd1 {G : gT} {d : Nat} {S : sS} {V : sV} {P : sP} {B : sB} {Q : sP} {t sl o : Nat} (hF : MF S P o) {A0 : sV} {n : Nat} (hn12 : n ≤ 12) {goal : Int32} (hin : ∀ b l s w, b < n → l < 5 → s < 41 → w < 5 → rT (A0 (o + 7)) b l s w ≠ (-268435456) → rf_in s w = true) {l : Nat} (hl : l < 5) (kf0 : ∀ A : sV, TP o A0 (rT (A0 (o + 7))) (rf_k (A0 (o + 10)) (V o 24)) n (rf_e1 goal) n ((l + 1) * 41) A → ∃ F : sV, PW G (d + 4) mX12_laysEnd 50 [some (.ref o), some (.int (nI n)), some (.int goal), some (.int (dI l)), some (.int (sI 41)), none] [] (t, sl, gh S V P A B Q) none (t, sl, gh S V P F B Q) ∧ TG o A0 (rT (A0 (o + 7))) (rf_k (A0 (o + 10)) (V o 24)) n (rf_e1 goal) 0 F) : ∀ (c s : Nat) (A : sV), s + c = 41 → TP o A0 (rT (A0 (o + 7))) (rf_k (A0 (o + 10)) (V o 24)) n (rf_e1 goal) n (l * 41 + s) A → ∃ F : sV, PW G (d + 4) mX12_laysEnd 12 [some (.ref o), some (.int (nI n)), some (.int goal), some (.int (dI l)), some (.int (sI s)), none] [] (t, sl, gh S V P A B Q) none (t, sl, gh S V P F B Q) ∧ TG o A0 (rT (A0 (o + 7))) (rf_k (A0 (o + 10)) (V o 24)) n (rf_e1 goal) 0 F := by
  intro c
  induction c with
  | zero =>
    intro s A hs hG
    have hs : s = 41 := hs
    subst hs
    obtain ⟨F, kf, hF2⟩ := kf0 A (by rw [show (l + 1) * 41 = l * 41 + 41 by omega]; exact hG)
    refine ⟨F, ?_, hF2⟩
    refine pw_iload4 dX12_laysEnd_12 ?_
    refine pw_bipush (v := 20) dX12_laysEnd_14 (by decide) ?_
    refine pw_icmp_gt (tgt := 50) dX12_laysEnd_16 (by decide) (fun c16 => ?_) (fun c16 => absurd (by rw [lt_i li_20 (sI_t (by omega))]; omega) c16)
    exact kf
  | succ c ih =>
    intro s A hs hG
    have h0 : rf_T (rT (A0 (o + 7))) (rf_k (A0 (o + 10)) (V o 24)) n (rf_e1 goal) (n - n) l s = rf_e1 goal s := by rw [Nat.sub_self]; rfl
    by_cases hc : ¬ sI s = goal
    · obtain ⟨F, kk, hF2⟩ := ih (s + 1) _ (by omega) (hG.put (x := (-268435456)) (Nat.le_refl n) hl (by omega) (by rw [h0]; unfold rf_e1; rw [if_neg hc]))
      refine ⟨F, ?_, hF2⟩
      have kp1 := fun _ : ¬ sI s = goal => kk
      have kp0 : ∀ {X : Prop}, sI s = goal → X := fun q => absurd q hc
      refine pw_iload4 dX12_laysEnd_12 ?_
      refine pw_bipush (v := 20) dX12_laysEnd_14 (by decide) ?_
      refine pw_icmp_gt (tgt := 50) dX12_laysEnd_16 (by decide) (fun c16 => absurd c16 (by rw [lt_i li_20 (sI_t (by omega))]; omega)) (fun c16 => ?_)
      refine pw_aload0 dX12_laysEnd_19 ?_
      refine pw_getr gX12_39 dX12_laysEnd_20 hF.1 (mf_p18 hF) ?_
      refine pw_iload1 dX12_laysEnd_23 ?_
      refine pw_iload3 dX12_laysEnd_24 ?_
      refine pw_iload4 dX12_laysEnd_25 ?_
      refine pw_s3i wX12_spot lX12_262 dX12_laysEnd_27 (c_spotI n l s) rfl (Nat.le_of_ble_eq_true rfl) (Nat.le_of_ble_eq_true rfl) ?_
      refine pw_iload4 dX12_laysEnd_30 ?_
      refine pw_iload2 dX12_laysEnd_32 ?_
      refine pw_icmp_ne (tgt := 40) dX12_laysEnd_33 (by decide) (fun c33 => ?_) (fun c33 => ?_)
      · refine pw_ldcw kX12_273 dX12_laysEnd_40 ?_
        refine pw_ast (j := (5 * n + l) * 41 + s) dX12_laysEnd_43 (mf_s8 hF) (ix_m rfl (by omega)) (by omega)  ?_
        refine pw_iinc4 (v := 1) dX12_laysEnd_44 (by decide) (by decide) (k := ?_)
        refine pw_goto (tgt := 12) dX12_laysEnd_47 (by decide) ?_
        rw [sI_1]
        exact kp1 c33
      · refine pw_iconst (v := 0) dX12_laysEnd_36 (by decide) ?_
        refine pw_goto (tgt := 43) dX12_laysEnd_37 (by decide) ?_
        refine pw_ast (j := (5 * n + l) * 41 + s) dX12_laysEnd_43 (mf_s8 hF) (ix_m rfl (by omega)) (by omega)  ?_
        refine pw_iinc4 (v := 1) dX12_laysEnd_44 (by decide) (by decide) (k := ?_)
        refine pw_goto (tgt := 12) dX12_laysEnd_47 (by decide) ?_
        rw [sI_1]
        exact kp0 c33
    · have hc : sI s = goal := Classical.not_not.mp hc
      obtain ⟨F, kk, hF2⟩ := ih (s + 1) _ (by omega) (hG.put (x := 0) (Nat.le_refl n) hl (by omega) (by rw [h0]; unfold rf_e1; rw [if_pos hc]))
      refine ⟨F, ?_, hF2⟩
      have kp0 := fun _ : sI s = goal => kk
      have kp1 : ∀ {X : Prop}, ¬ sI s = goal → X := fun q => absurd hc q
      refine pw_iload4 dX12_laysEnd_12 ?_
      refine pw_bipush (v := 20) dX12_laysEnd_14 (by decide) ?_
      refine pw_icmp_gt (tgt := 50) dX12_laysEnd_16 (by decide) (fun c16 => absurd c16 (by rw [lt_i li_20 (sI_t (by omega))]; omega)) (fun c16 => ?_)
      refine pw_aload0 dX12_laysEnd_19 ?_
      refine pw_getr gX12_39 dX12_laysEnd_20 hF.1 (mf_p18 hF) ?_
      refine pw_iload1 dX12_laysEnd_23 ?_
      refine pw_iload3 dX12_laysEnd_24 ?_
      refine pw_iload4 dX12_laysEnd_25 ?_
      refine pw_s3i wX12_spot lX12_262 dX12_laysEnd_27 (c_spotI n l s) rfl (Nat.le_of_ble_eq_true rfl) (Nat.le_of_ble_eq_true rfl) ?_
      refine pw_iload4 dX12_laysEnd_30 ?_
      refine pw_iload2 dX12_laysEnd_32 ?_
      refine pw_icmp_ne (tgt := 40) dX12_laysEnd_33 (by decide) (fun c33 => ?_) (fun c33 => ?_)
      · refine pw_ldcw kX12_273 dX12_laysEnd_40 ?_
        refine pw_ast (j := (5 * n + l) * 41 + s) dX12_laysEnd_43 (mf_s8 hF) (ix_m rfl (by omega)) (by omega)  ?_
        refine pw_iinc4 (v := 1) dX12_laysEnd_44 (by decide) (by decide) (k := ?_)
        refine pw_goto (tgt := 12) dX12_laysEnd_47 (by decide) ?_
        rw [sI_1]
        exact kp1 c33
      · refine pw_iconst (v := 0) dX12_laysEnd_36 (by decide) ?_
        refine pw_goto (tgt := 43) dX12_laysEnd_37 (by decide) ?_
        refine pw_ast (j := (5 * n + l) * 41 + s) dX12_laysEnd_43 (mf_s8 hF) (ix_m rfl (by omega)) (by omega)  ?_
        refine pw_iinc4 (v := 1) dX12_laysEnd_44 (by decide) (by decide) (k := ?_)
        refine pw_goto (tgt := 12) dX12_laysEnd_47 (by decide) ?_
        rw [sI_1]
        exact kp0 c33
set_option maxRecDepth 20000 in
theorem l_laysEnd2 {G : gT} {d : Nat} {S : sS} {V : sV} {P : sP} {B : sB} {Q : sP} {t sl o : Nat} (hF : MF S P o) {A0 : sV} {n : Nat} (hn12 : n ≤ 12) {goal : Int32} (hin : ∀ b l s w, b < n → l < 5 → s < 41 → w < 5 → rT (A0 (o + 7)) b l s w ≠ (-268435456) → rf_in s w = true) (kf0 : ∀ (A : sV) (x4 : Option Value), TG o A0 (rT (A0 (o + 7))) (rf_k (A0 (o + 10)) (V o 24)) n (rf_e1 goal) n A → ∃ F : sV, PW G (d + 4) mX12_laysEnd 56 [some (.ref o), some (.int (nI n)), some (.int goal), some (.int (dI 5)), x4, none] [] (t, sl, gh S V P A B Q) none (t, sl, gh S V P F B Q) ∧ TG o A0 (rT (A0 (o + 7))) (rf_k (A0 (o + 10)) (V o 24)) n (rf_e1 goal) 0 F) : ∀ (c l : Nat) (A : sV) (x4 : Option Value), l + c = 5 → TP o A0 (rT (A0 (o + 7))) (rf_k (A0 (o + 10)) (V o 24)) n (rf_e1 goal) n (l * 41) A → ∃ F : sV, PW G (d + 4) mX12_laysEnd 3 [some (.ref o), some (.int (nI n)), some (.int goal), some (.int (dI l)), x4, none] [] (t, sl, gh S V P A B Q) none (t, sl, gh S V P F B Q) ∧ TG o A0 (rT (A0 (o + 7))) (rf_k (A0 (o + 10)) (V o 24)) n (rf_e1 goal) 0 F := by
  intro c
  induction c with
  | zero =>
    intro l A x4 hl hG
    have hl : l = 5 := hl
    subst hl
    obtain ⟨F, kf, hF2⟩ := kf0 A x4 hG.full
    refine ⟨F, ?_, hF2⟩
    refine pw_iload3 dX12_laysEnd_3 ?_
    refine pw_iconst (v := 2) dX12_laysEnd_4 (by decide) ?_
    refine pw_icmp_gt (tgt := 56) dX12_laysEnd_5 (by decide) (fun c5 => ?_) (fun c5 => absurd (by rw [lt_i li_2 (dI_t (by omega))]; omega) c5)
    exact kf
  | succ c ih =>
    intro l A x4 hl hG
    obtain ⟨F, kk, hF2⟩ := l_laysEnd1 (G := G) (d := d) (V := V) (B := B) (Q := Q) (t := t) (sl := sl) hF hn12 hin (show l < 5 by omega) (fun A1 h1 => by
      obtain ⟨F, kk, hF2⟩ := ih (l + 1) A1 (some (.int (sI 41))) (by omega) h1
      refine ⟨F, ?_, hF2⟩
      refine pw_iinc3 (v := 1) dX12_laysEnd_50 (by decide) (by decide) (k := ?_)
      refine pw_goto (tgt := 3) dX12_laysEnd_53 (by decide) ?_
      rw [dI_1]
      exact kk) 41 0 A rfl hG
    refine ⟨F, ?_, hF2⟩
    refine pw_iload3 dX12_laysEnd_3 ?_
    refine pw_iconst (v := 2) dX12_laysEnd_4 (by decide) ?_
    refine pw_icmp_gt (tgt := 56) dX12_laysEnd_5 (by decide) (fun c5 => absurd c5 (by rw [lt_i li_2 (dI_t (by omega))]; omega)) (fun c5 => ?_)
    refine pw_bipush (v := -20) dX12_laysEnd_8 (by decide) ?_
    rw [show (-20 : Int32) = sI 0 from rfl]
    refine pw_istore4 dX12_laysEnd_10 (by decide) (k := ?_)
    exact kk
set_option maxRecDepth 20000 in
theorem l_laysEnd3 {G : gT} {d : Nat} {S : sS} {V : sV} {P : sP} {B : sB} {Q : sP} {t sl o : Nat} (hF : MF S P o) {A0 : sV} {n : Nat} (hn12 : n ≤ 12) {goal : Int32} (hin : ∀ b l s w, b < n → l < 5 → s < 41 → w < 5 → rT (A0 (o + 7)) b l s w ≠ (-268435456) → rf_in s w = true) {b l : Nat} (hb : b < n) (hl : l < 5) (kf0 : ∀ A : sV, TP o A0 (rT (A0 (o + 7))) (rf_k (A0 (o + 10)) (V o 24)) n (rf_e1 goal) b ((l + 1) * 41) A → ∃ F : sV, PW G (d + 4) mX12_laysEnd 113 [some (.ref o), some (.int (nI n)), some (.int goal), some (.int (nI b)), some (.int (dI l)), some (.int (sI 41))] [] (t, sl, gh S V P A B Q) none (t, sl, gh S V P F B Q) ∧ TG o A0 (rT (A0 (o + 7))) (rf_k (A0 (o + 10)) (V o 24)) n (rf_e1 goal) 0 F) : ∀ (c s : Nat) (A : sV), s + c = 41 → TP o A0 (rT (A0 (o + 7))) (rf_k (A0 (o + 10)) (V o 24)) n (rf_e1 goal) b (l * 41 + s) A → ∃ F : sV, PW G (d + 4) mX12_laysEnd 78 [some (.ref o), some (.int (nI n)), some (.int goal), some (.int (nI b)), some (.int (dI l)), some (.int (sI s))] [] (t, sl, gh S V P A B Q) none (t, sl, gh S V P F B Q) ∧ TG o A0 (rT (A0 (o + 7))) (rf_k (A0 (o + 10)) (V o 24)) n (rf_e1 goal) 0 F := by
  intro c
  induction c with
  | zero =>
    intro s A hs hG
    have hs : s = 41 := hs
    subst hs
    obtain ⟨F, kf, hF2⟩ := kf0 A (by rw [show (l + 1) * 41 = l * 41 + 41 by omega]; exact hG)
    refine ⟨F, ?_, hF2⟩
    refine pw_iload5 dX12_laysEnd_78 ?_
    refine pw_bipush (v := 20) dX12_laysEnd_80 (by decide) ?_
    refine pw_icmp_gt (tgt := 113) dX12_laysEnd_82 (by decide) (fun c82 => ?_) (fun c82 => absurd (by rw [lt_i li_20 (sI_t (by omega))]; omega) c82)
    exact kf
  | succ c ih =>
    intro s A hs hG
    have e7 : A (o + 7) = A0 (o + 7) := hG.1.1 _ (by omega)
    have e10 : A (o + 10) = A0 (o + 10) := hG.1.1 _ (by omega)
    have kmb := c_mostBy (G := G) (d := d) (V := V) (A := A) (B := B) (Q := Q) (t := t) (sl := sl) hF (show b < 12 by omega) hl (show s < 41 by omega) (fun w hw => by rw [e7]; exact hin b l s w hb hl (by omega) hw)
    have hx : rf_mx (rf_gb (rT (A (o + 7))) (rf_k (A (o + 10)) (V o 24)) (fun w' s' => A (o + 8) ((5 * (b + 1) + w') * 41 + s')) b l s) = rf_T (rT (A0 (o + 7))) (rf_k (A0 (o + 10)) (V o 24)) n (rf_e1 goal) (n - b) l s := by
      rw [e7, e10, show n - b = (n - (b + 1)) + 1 by omega, rf_T, show n - (n - (b + 1) + 1) = b by omega]
      exact rf_mx_cong (fun w hw => rf_gb_cong (by omega) hw (hin b l s w hb hl (by omega) hw) (fun l' s' hl' hs' => hG.1.2 (b + 1) (Nat.le_refl _) (by omega) l' s' hl' hs'))
    rw [hx] at kmb
    obtain ⟨F, kk, hF2⟩ := ih (s + 1) _ (by omega) (hG.put (Nat.le_of_lt hb) hl (by omega) rfl)
    refine ⟨F, ?_, hF2⟩
    refine pw_iload5 dX12_laysEnd_78 ?_
    refine pw_bipush (v := 20) dX12_laysEnd_80 (by decide) ?_
    refine pw_icmp_gt (tgt := 113) dX12_laysEnd_82 (by decide) (fun c82 => absurd c82 (by rw [lt_i li_20 (sI_t (by omega))]; omega)) (fun c82 => ?_)
    refine pw_aload0 dX12_laysEnd_85 ?_
    refine pw_getr gX12_39 dX12_laysEnd_86 hF.1 (mf_p18 hF) ?_
    refine pw_iload3 dX12_laysEnd_89 ?_
    refine pw_iload4 dX12_laysEnd_90 ?_
    refine pw_iload5 dX12_laysEnd_92 ?_
    refine pw_s3i wX12_spot lX12_262 dX12_laysEnd_94 (c_spotI b l s) rfl (Nat.le_of_ble_eq_true rfl) (Nat.le_of_ble_eq_true rfl) ?_
    refine pw_aload0 dX12_laysEnd_97 ?_
    refine pw_iload3 dX12_laysEnd_98 ?_
    refine pw_iload4 dX12_laysEnd_99 ?_
    refine pw_iload5 dX12_laysEnd_101 ?_
    refine pw_o3i wX12_mostBy lX12_284 rfl dX12_laysEnd_103 hF.1 (kmb) rfl (Nat.le_of_ble_eq_true rfl) (Nat.le_of_ble_eq_true rfl) ?_
    refine pw_ast (j := (5 * b + l) * 41 + s) dX12_laysEnd_106 (mf_s8 hF) (ix_m rfl (by omega)) (by omega)  ?_
    refine pw_iinc5 (v := 1) dX12_laysEnd_107 (by decide) (by decide) (k := ?_)
    refine pw_goto (tgt := 78) dX12_laysEnd_110 (by decide) ?_
    rw [sI_1]
    exact kk
set_option maxRecDepth 20000 in
theorem l_laysEnd4 {G : gT} {d : Nat} {S : sS} {V : sV} {P : sP} {B : sB} {Q : sP} {t sl o : Nat} (hF : MF S P o) {A0 : sV} {n : Nat} (hn12 : n ≤ 12) {goal : Int32} (hin : ∀ b l s w, b < n → l < 5 → s < 41 → w < 5 → rT (A0 (o + 7)) b l s w ≠ (-268435456) → rf_in s w = true) {b : Nat} (hb : b < n) (kf0 : ∀ (A : sV) (x5 : Option Value), TG o A0 (rT (A0 (o + 7))) (rf_k (A0 (o + 10)) (V o 24)) n (rf_e1 goal) b A → ∃ F : sV, PW G (d + 4) mX12_laysEnd 119 [some (.ref o), some (.int (nI n)), some (.int goal), some (.int (nI b)), some (.int (dI 5)), x5] [] (t, sl, gh S V P A B Q) none (t, sl, gh S V P F B Q) ∧ TG o A0 (rT (A0 (o + 7))) (rf_k (A0 (o + 10)) (V o 24)) n (rf_e1 goal) 0 F) : ∀ (c l : Nat) (A : sV) (x5 : Option Value), l + c = 5 → TP o A0 (rT (A0 (o + 7))) (rf_k (A0 (o + 10)) (V o 24)) n (rf_e1 goal) b (l * 41) A → ∃ F : sV, PW G (d + 4) mX12_laysEnd 68 [some (.ref o), some (.int (nI n)), some (.int goal), some (.int (nI b)), some (.int (dI l)), x5] [] (t, sl, gh S V P A B Q) none (t, sl, gh S V P F B Q) ∧ TG o A0 (rT (A0 (o + 7))) (rf_k (A0 (o + 10)) (V o 24)) n (rf_e1 goal) 0 F := by
  intro c
  induction c with
  | zero =>
    intro l A x5 hl hG
    have hl : l = 5 := hl
    subst hl
    obtain ⟨F, kf, hF2⟩ := kf0 A x5 hG.full
    refine ⟨F, ?_, hF2⟩
    refine pw_iload4 dX12_laysEnd_68 ?_
    refine pw_iconst (v := 2) dX12_laysEnd_70 (by decide) ?_
    refine pw_icmp_gt (tgt := 119) dX12_laysEnd_71 (by decide) (fun c71 => ?_) (fun c71 => absurd (by rw [lt_i li_2 (dI_t (by omega))]; omega) c71)
    exact kf
  | succ c ih =>
    intro l A x5 hl hG
    obtain ⟨F, kk, hF2⟩ := l_laysEnd3 (G := G) (d := d) (V := V) (B := B) (Q := Q) (t := t) (sl := sl) hF hn12 hin hb (show l < 5 by omega) (fun A1 h1 => by
      obtain ⟨F, kk, hF2⟩ := ih (l + 1) A1 (some (.int (sI 41))) (by omega) h1
      refine ⟨F, ?_, hF2⟩
      refine pw_iinc4 (v := 1) dX12_laysEnd_113 (by decide) (by decide) (k := ?_)
      refine pw_goto (tgt := 68) dX12_laysEnd_116 (by decide) ?_
      rw [dI_1]
      exact kk) 41 0 A rfl hG
    refine ⟨F, ?_, hF2⟩
    refine pw_iload4 dX12_laysEnd_68 ?_
    refine pw_iconst (v := 2) dX12_laysEnd_70 (by decide) ?_
    refine pw_icmp_gt (tgt := 119) dX12_laysEnd_71 (by decide) (fun c71 => absurd c71 (by rw [lt_i li_2 (dI_t (by omega))]; omega)) (fun c71 => ?_)
    refine pw_bipush (v := -20) dX12_laysEnd_74 (by decide) ?_
    rw [show (-20 : Int32) = sI 0 from rfl]
    refine pw_istore5 dX12_laysEnd_76 (by decide) (k := ?_)
    exact kk
set_option maxRecDepth 20000 in
theorem l_laysEnd5 {G : gT} {d : Nat} {S : sS} {V : sV} {P : sP} {B : sB} {Q : sP} {t sl o : Nat} (hF : MF S P o) {A0 : sV} {n : Nat} (hn12 : n ≤ 12) {goal : Int32} (hin : ∀ b l s w, b < n → l < 5 → s < 41 → w < 5 → rT (A0 (o + 7)) b l s w ≠ (-268435456) → rf_in s w = true) : ∀ (r : Nat) (A : sV) (x4 x5 : Option Value), r ≤ n → TG o A0 (rT (A0 (o + 7))) (rf_k (A0 (o + 10)) (V o 24)) n (rf_e1 goal) r A → ∃ F : sV, PW G (d + 4) mX12_laysEnd 60 [some (.ref o), some (.int (nI n)), some (.int goal), some (.int (pI r)), x4, x5] [] (t, sl, gh S V P A B Q) none (t, sl, gh S V P F B Q) ∧ TG o A0 (rT (A0 (o + 7))) (rf_k (A0 (o + 10)) (V o 24)) n (rf_e1 goal) 0 F := by
  intro r
  induction r with
  | zero =>
    intro A x4 x5 hr hG
    refine ⟨A, ?_, hG⟩
    refine pw_iload3 dX12_laysEnd_60 ?_
    refine pw_if_lt (tgt := 125) dX12_laysEnd_61 (by decide) (fun c61 => ?_) (fun c61 => absurd (by decide) c61)
    exact pw_vret dX12_laysEnd_125 rfl rfl rfl
  | succ r ih =>
    intro A x4 x5 hr hG
    obtain ⟨F, kk, hF2⟩ := l_laysEnd4 (G := G) (d := d) (V := V) (B := B) (Q := Q) (t := t) (sl := sl) hF hn12 hin (show r < n by omega) (fun A1 x5 h1 => by
      obtain ⟨F, kk, hF2⟩ := ih A1 (some (.int (dI 5))) x5 (by omega) h1
      refine ⟨F, ?_, hF2⟩
      refine pw_iinc3 (v := -1) dX12_laysEnd_119 (by decide) (by decide) (k := ?_)
      refine pw_goto (tgt := 60) dX12_laysEnd_122 (by decide) ?_
      rw [pI_m]
      exact kk) 5 0 A x5 rfl hG.start
    refine ⟨F, ?_, hF2⟩
    rw [pI_s]
    refine pw_iload3 dX12_laysEnd_60 ?_
    refine pw_if_lt (tgt := 125) dX12_laysEnd_61 (by decide) (fun c61 => absurd c61 (by rw [lt_i (ix_n (j := r) (by omega)) li_0]; omega)) (fun c61 => ?_)
    refine pw_bipush (v := -2) dX12_laysEnd_64 (by decide) ?_
    rw [show (-2 : Int32) = dI 0 from rfl]
    refine pw_istore4 dX12_laysEnd_66 (by decide) (k := ?_)
    exact kk
set_option maxRecDepth 20000 in
theorem c_laysEnd {G : gT} {d : Nat} {S : sS} {V : sV} {P : sP} {A : sV} {B : sB} {Q : sP} {t sl o : Nat} (hF : MF S P o) {n : Nat} (hn12 : n ≤ 12) {goal : Int32} (hin : ∀ b l s w, b < n → l < 5 → s < 41 → w < 5 → rT (A (o + 7)) b l s w ≠ (-268435456) → rf_in s w = true) : ∃ F : sV, PW G (d + 4) mX12_laysEnd 0 [some (.ref o), some (.int (nI n)), some (.int goal), none, none, none] [] (t, sl, gh S V P A B Q) none (t, sl, gh S V P F B Q) ∧ TG o A (rT (A (o + 7))) (rf_k (A (o + 10)) (V o 24)) n (rf_e1 goal) 0 F := by
  obtain ⟨F, kk, h⟩ := l_laysEnd2 (G := G) (d := d) (V := V) (B := B) (Q := Q) (t := t) (sl := sl) (A0 := A) (goal := goal) hF hn12 hin (fun A1 x4 h1 => by
    obtain ⟨F, kk, hF2⟩ := l_laysEnd5 (G := G) (d := d) (V := V) (B := B) (Q := Q) (t := t) (sl := sl) (A0 := A) (goal := goal) hF hn12 hin n A1 x4 none (Nat.le_refl n) h1
    refine ⟨F, ?_, hF2⟩
    refine pw_iload1 dX12_laysEnd_56 ?_
    refine pw_iconst (v := 1) dX12_laysEnd_57 (by decide) ?_
    refine pw_isub dX12_laysEnd_58 ?_
    rw [pI_n]
    refine pw_istore3 dX12_laysEnd_59 (by decide) (k := ?_)
    exact kk) 5 0 A none rfl ⟨⟨fun _ _ => rfl, fun b h1 h2 => by omega⟩, fun _ _ _ _ q => by omega⟩
  refine ⟨F, ?_, h⟩
  refine pw_bipush (v := -2) dX12_laysEnd_0 (by decide) ?_
  rw [show (-2 : Int32) = dI 0 from rfl]
  refine pw_istore3 dX12_laysEnd_2 (by decide) (k := ?_)
  exact kk
