/-! ===== the class: State, Tray, Law ===== -/
/-- a State's numbers: barred, week, stores, joys, tempers -/
def StE (V A : sV) (a : Nat) (f : Nat → Int32) : Prop := V a 3 = f 0 ∧ V a 4 = f 1 ∧ (∀ p, p < 5 → A (a + 1) p = f (2 + p)) ∧ (∀ p, p < 5 → A (a + 2) p = f (7 + p)) ∧ ∀ p, p < 5 → A (a + 3) p = f (12 + p)
/-- nothing but a State has changed -/
def FrS (a : Nat) (V A V' A' : sV) : Prop := (∀ x, x ≠ a → V' x = V x) ∧ ∀ x, x < a + 1 ∨ a + 3 < x → A' x = A x
theorem cpyF_i {α : Type} {f g : Nat → α} {n k : Nat} (h : k < n) : cpyF f g 0 0 n k = f k := by
  unfold cpyF
  rw [if_pos (by omega)]
  congr 1
  omega
set_option maxRecDepth 20000 in
theorem k_copy {G : gT} {d : Nat} {S : sS} {V : sV} {P : sP} {A : sV} {B : sB} {Q : sP} {t sl : Nat} {a b : Nat} (hT : ST S P a) (hU : ST S P b) (hab : a + 3 < b ∨ b + 3 < a) {f : Nat → Int32} (hf : StE V A b f) : WQ G (d + 1) mX8_copy 0 [some (.ref a), some (.ref b)] [] (t, sl, gh S V P A B Q) (fun r h' => r = none ∧ ∃ V' A' : sV, h' = (t, sl, gh S V' P A' B Q) ∧ StE V' A' a f ∧ FrS a V A V' A') := by
  refine WQ.st (fun _ _ kz => pw_aload1 dX8_copy_0 kz) ?_
  refine WQ.st (fun _ _ kz => pw_getr gX8_9 dX8_copy_1 (st_s0 hU) (st_p0_0 hU) kz) ?_
  refine WQ.st (fun _ _ kz => pw_iconst (v := 0) dX8_copy_4 (by decide) kz) ?_
  refine WQ.st (fun _ _ kz => pw_aload0 dX8_copy_5 kz) ?_
  refine WQ.st (fun _ _ kz => pw_getr gX8_9 dX8_copy_6 (st_s0 hT) (st_p0_0 hT) kz) ?_
  refine WQ.st (fun _ _ kz => pw_iconst (v := 0) dX8_copy_9 (by decide) kz) ?_
  refine WQ.st (fun _ _ kz => pw_iconst (v := 5) dX8_copy_10 (by decide) kz) ?_
  refine WQ.st (fun _ _ kz => pw_acpy (sp := 0) (dp := 0) (n := 5) acX8_31 dX8_copy_11 (st_s1 hU) (st_s1 hT) rfl rfl rfl (by decide) (by decide) (by omega) (Nat.le_of_ble_eq_true rfl) kz) ?_
  refine WQ.st (fun _ _ kz => pw_aload1 dX8_copy_14 kz) ?_
  refine WQ.st (fun _ _ kz => pw_getr gX8_15 dX8_copy_15 (st_s0 hU) (st_p0_1 hU) kz) ?_
  refine WQ.st (fun _ _ kz => pw_iconst (v := 0) dX8_copy_18 (by decide) kz) ?_
  refine WQ.st (fun _ _ kz => pw_aload0 dX8_copy_19 kz) ?_
  refine WQ.st (fun _ _ kz => pw_getr gX8_15 dX8_copy_20 (st_s0 hT) (st_p0_1 hT) kz) ?_
  refine WQ.st (fun _ _ kz => pw_iconst (v := 0) dX8_copy_23 (by decide) kz) ?_
  refine WQ.st (fun _ _ kz => pw_iconst (v := 5) dX8_copy_24 (by decide) kz) ?_
  refine WQ.st (fun _ _ kz => pw_acpy (sp := 0) (dp := 0) (n := 5) acX8_31 dX8_copy_25 (st_s2 hU) (st_s2 hT) rfl rfl rfl (by decide) (by decide) (by omega) (Nat.le_of_ble_eq_true rfl) kz) ?_
  refine WQ.st (fun _ _ kz => pw_aload1 dX8_copy_28 kz) ?_
  refine WQ.st (fun _ _ kz => pw_getr gX8_18 dX8_copy_29 (st_s0 hU) (st_p0_2 hU) kz) ?_
  refine WQ.st (fun _ _ kz => pw_iconst (v := 0) dX8_copy_32 (by decide) kz) ?_
  refine WQ.st (fun _ _ kz => pw_aload0 dX8_copy_33 kz) ?_
  refine WQ.st (fun _ _ kz => pw_getr gX8_18 dX8_copy_34 (st_s0 hT) (st_p0_2 hT) kz) ?_
  refine WQ.st (fun _ _ kz => pw_iconst (v := 0) dX8_copy_37 (by decide) kz) ?_
  refine WQ.st (fun _ _ kz => pw_iconst (v := 5) dX8_copy_38 (by decide) kz) ?_
  refine WQ.st (fun _ _ kz => pw_acpy (sp := 0) (dp := 0) (n := 5) acX8_31 dX8_copy_39 (st_s3 hU) (st_s3 hT) rfl rfl rfl (by decide) (by decide) (by omega) (Nat.le_of_ble_eq_true rfl) kz) ?_
  refine WQ.st (fun _ _ kz => pw_aload0 dX8_copy_42 kz) ?_
  refine WQ.st (fun _ _ kz => pw_aload1 dX8_copy_43 kz) ?_
  refine WQ.st (fun _ _ kz => pw_geti gX8_21 dX8_copy_44 (st_s0 hU) kz) ?_
  refine WQ.st (fun _ _ kz => pw_puti (pX8_21 _ rfl) dX8_copy_47 (st_s0 hT) rfl rfl kz) ?_
  refine WQ.st (fun _ _ kz => pw_aload0 dX8_copy_50 kz) ?_
  refine WQ.st (fun _ _ kz => pw_aload1 dX8_copy_51 kz) ?_
  refine WQ.st (fun _ _ kz => pw_geti gX8_25 dX8_copy_52 (st_s0 hU) kz) ?_
  refine WQ.st (fun _ _ kz => pw_puti (pX8_25 _ rfl) dX8_copy_55 (st_s0 hT) rfl rfl kz) ?_
  refine ⟨_, _, pw_vret dX8_copy_58 rfl rfl rfl, ?_⟩
  refine ⟨rfl, _, _, rfl, ⟨?_, ?_, fun p hp => ?_, fun p hp => ?_, fun p hp => ?_⟩, fun x hx => ?_, fun x hx => ?_⟩
  · rw [up2_nk (by decide), up2_eq]
    exact hf.1
  · rw [up2_eq, up2_na (by omega)]
    exact hf.2.1
  · rw [pm_up_ne (by omega), pm_up_ne (by omega), pm_up_eq, cpyF_i hp]
    exact hf.2.2.1 p hp
  · rw [pm_up_ne (by omega), pm_up_eq, cpyF_i hp, pm_up_ne (by omega)]
    exact hf.2.2.2.1 p hp
  · rw [pm_up_eq, cpyF_i hp, pm_up_ne (by omega), pm_up_ne (by omega)]
    exact hf.2.2.2.2 p hp
  · rw [up2_na hx, up2_na hx]
  · rw [pm_up_ne (by omega), pm_up_ne (by omega), pm_up_ne (by omega)]
/-- what a State begins with -/
def bgF (A : sV) (b : Nat) : Nat → Int32 := fun k => if k < 2 then 0 else if k < 7 then A (b + 3) (k - 2) else if k < 12 then 0 else A (b + 4) (k - 12)
set_option maxRecDepth 20000 in
theorem k_begin {G : gT} {d : Nat} {S : sS} {V : sV} {P : sP} {A : sV} {B : sB} {Q : sP} {t sl : Nat} {a b : Nat} (hT : ST S P a) (hU : SH S P b) (hab : a + 3 < b ∨ b + 8 < a) : WQ G (d + 1) mX8_begin 0 [some (.ref a), some (.ref b)] [] (t, sl, gh S V P A B Q) (fun r h' => r = none ∧ ∃ V' A' : sV, h' = (t, sl, gh S V' P A' B Q) ∧ StE V' A' a (bgF A b) ∧ FrS a V A V' A') := by
  refine WQ.st (fun _ _ kz => pw_aload1 dX8_begin_0 kz) ?_
  refine WQ.st (fun _ _ kz => pw_getr gX8_28 dX8_begin_1 (sh_s0 hU) (sh_p0_2 hU) kz) ?_
  refine WQ.st (fun _ _ kz => pw_iconst (v := 0) dX8_begin_4 (by decide) kz) ?_
  refine WQ.st (fun _ _ kz => pw_aload0 dX8_begin_5 kz) ?_
  refine WQ.st (fun _ _ kz => pw_getr gX8_9 dX8_begin_6 (st_s0 hT) (st_p0_0 hT) kz) ?_
  refine WQ.st (fun _ _ kz => pw_iconst (v := 0) dX8_begin_9 (by decide) kz) ?_
  refine WQ.st (fun _ _ kz => pw_iconst (v := 5) dX8_begin_10 (by decide) kz) ?_
  refine WQ.st (fun _ _ kz => pw_acpy (sp := 0) (dp := 0) (n := 5) acX8_31 dX8_begin_11 (sh_s3 hU) (st_s1 hT) rfl rfl rfl (by decide) (by decide) (by omega) (Nat.le_of_ble_eq_true rfl) kz) ?_
  refine WQ.st (fun _ _ kz => pw_aload1 dX8_begin_14 kz) ?_
  refine WQ.st (fun _ _ kz => pw_getr gX8_37 dX8_begin_15 (sh_s0 hU) (sh_p0_3 hU) kz) ?_
  refine WQ.st (fun _ _ kz => pw_iconst (v := 0) dX8_begin_18 (by decide) kz) ?_
  refine WQ.st (fun _ _ kz => pw_aload0 dX8_begin_19 kz) ?_
  refine WQ.st (fun _ _ kz => pw_getr gX8_18 dX8_begin_20 (st_s0 hT) (st_p0_2 hT) kz) ?_
  refine WQ.st (fun _ _ kz => pw_iconst (v := 0) dX8_begin_23 (by decide) kz) ?_
  refine WQ.st (fun _ _ kz => pw_iconst (v := 5) dX8_begin_24 (by decide) kz) ?_
  refine WQ.st (fun _ _ kz => pw_acpy (sp := 0) (dp := 0) (n := 5) acX8_31 dX8_begin_25 (sh_s4 hU) (st_s3 hT) rfl rfl rfl (by decide) (by decide) (by omega) (Nat.le_of_ble_eq_true rfl) kz) ?_
  refine WQ.st (fun _ _ kz => pw_aload0 dX8_begin_28 kz) ?_
  refine WQ.st (fun _ _ kz => pw_getr gX8_15 dX8_begin_29 (st_s0 hT) (st_p0_1 hT) kz) ?_
  refine WQ.st (fun _ _ kz => pw_iconst (v := 0) dX8_begin_32 (by decide) kz) ?_
  refine WQ.st (fun _ _ kz => pw_s2v wJ7_fill_53178 lX8_38 dX8_begin_33 (c_filli (st_s2 hT) (by omega) _) rfl (Nat.le_of_ble_eq_true rfl) (Nat.le_of_ble_eq_true rfl) kz) ?_
  refine WQ.st (fun _ _ kz => pw_aload0 dX8_begin_36 kz) ?_
  refine WQ.st (fun _ _ kz => pw_iconst (v := 0) dX8_begin_37 (by decide) kz) ?_
  refine WQ.st (fun _ _ kz => pw_puti (pX8_21 _ rfl) dX8_begin_38 (st_s0 hT) rfl rfl kz) ?_
  refine WQ.st (fun _ _ kz => pw_aload0 dX8_begin_41 kz) ?_
  refine WQ.st (fun _ _ kz => pw_iconst (v := 0) dX8_begin_42 (by decide) kz) ?_
  refine WQ.st (fun _ _ kz => pw_puti (pX8_25 _ rfl) dX8_begin_43 (st_s0 hT) rfl rfl kz) ?_
  refine ⟨_, _, pw_vret dX8_begin_46 rfl rfl rfl, ?_⟩
  refine ⟨rfl, _, _, rfl, ⟨?_, ?_, fun p hp => ?_, fun p hp => ?_, fun p hp => ?_⟩, fun x hx => ?_, fun x hx => ?_⟩
  · rw [up2_nk (by decide), up2_eq]
    rfl
  · rw [up2_eq]
    rfl
  · rw [pm_up_ne (by omega), pm_up_ne (by omega), pm_up_eq, cpyF_i hp]
    unfold bgF
    rw [if_neg (by omega), if_pos (by omega)]
    congr 1
    omega
  · rw [pm_up_eq, fillF_i hp]
    unfold bgF
    rw [if_neg (by omega), if_neg (by omega), if_pos (by omega)]
  · rw [pm_up_ne (by omega), pm_up_eq, cpyF_i hp, pm_up_ne (by omega)]
    unfold bgF
    rw [if_neg (by omega), if_neg (by omega), if_neg (by omega)]
    congr 1
    omega
  · rw [up2_na hx, up2_na hx]
  · rw [pm_up_ne (by omega), pm_up_ne (by omega), pm_up_ne (by omega)]
set_option maxRecDepth 20000 in
theorem k_isBarred {G : gT} {d : Nat} {S : sS} {V : sV} {P : sP} {A : sV} {B : sB} {Q : sP} {t sl : Nat} {a : Nat} (hT : ST S P a) (x : Int32) : WQ G d mX8_isBarred 0 [some (.ref a), some (.int x)] [] (t, sl, gh S V P A B Q) (fun r h' => r = some (.int (bI (decide (¬ (V a 3 >>> (x &&& 31)) &&& 1 = 0)))) ∧ h' = (t, sl, gh S V P A B Q)) := by
  refine WQ.st (fun _ _ kz => pw_aload0 dX8_isBarred_0 kz) ?_
  refine WQ.st (fun _ _ kz => pw_geti gX8_21 dX8_isBarred_1 (st_s0 hT) kz) ?_
  refine WQ.st (fun _ _ kz => pw_iload1 dX8_isBarred_4 kz) ?_
  refine WQ.st (fun _ _ kz => pw_ishr dX8_isBarred_5 kz) ?_
  refine WQ.st (fun _ _ kz => pw_iconst (v := 1) dX8_isBarred_6 (by decide) kz) ?_
  refine WQ.st (fun _ _ kz => pw_iand dX8_isBarred_7 kz) ?_
  refine WQ.br (fun _ _ ka kb => pw_if_eq (tgt := 15) dX8_isBarred_8 (by decide) ka kb) (fun c8 => ?_) (fun c8 => ?_)
  · refine WQ.st (fun _ _ kz => pw_iconst (v := 0) dX8_isBarred_15 (by decide) kz) ?_
    refine ⟨_, _, pw_iret dX8_isBarred_16 rfl rfl rfl rfl, ?_⟩
    exact ⟨by rw [decide_eq_false (fun q => q c8)]; rfl, rfl⟩
  · refine WQ.st (fun _ _ kz => pw_iconst (v := 1) dX8_isBarred_11 (by decide) kz) ?_
    refine WQ.st (fun _ _ kz => pw_goto (tgt := 16) dX8_isBarred_12 (by decide) kz) ?_
    refine ⟨_, _, pw_iret dX8_isBarred_16 rfl rfl rfl rfl, ?_⟩
    exact ⟨by rw [decide_eq_true c8]; rfl, rfl⟩
theorem jo_mm (x : Int32) : (if (-9999999 : Int32) < (if x < 9999999 then x else 9999999) then (if x < 9999999 then x else 9999999) else -9999999) = rf_jo x := by
  unfold rf_jo
  by_cases h : x < 9999999
  · rw [if_pos h]
    have h1 : x ≤ 9999999 := Int32.le_of_lt h
    rw [if_pos h1]
    by_cases h2 : (-9999999 : Int32) < x
    · rw [if_pos h2, if_pos (Int32.le_of_lt h2)]
    · rw [if_neg h2]
      by_cases h3 : (-9999999 : Int32) ≤ x
      · rw [if_pos h3]
        exact Int32.le_antisymm h3 (Int32.not_lt.mp h2)
      · rw [if_neg h3]
  · rw [if_neg h, if_pos (by decide)]
    by_cases h1 : x ≤ 9999999
    · have e : x = 9999999 := Int32.le_antisymm h1 (Int32.not_lt.mp h)
      subst e
      decide
    · rw [if_neg h1]
set_option maxRecDepth 20000 in
theorem k_addJoy {G : gT} {d : Nat} {S : sS} {V : sV} {P : sP} {A : sV} {B : sB} {Q : sP} {t sl : Nat} {a : Nat} (hT : ST S P a) {p : Nat} (hp : p < 5) (g : Int32) : WQ G (d + 1) mX8_addJoy 0 [some (.ref a), some (.int (nI p)), some (.int g), none] [] (t, sl, gh S V P A B Q) (fun r h' => r = none ∧ h' = (t, sl, gh S V P (up2 A (a + 2) p (rf_jo (A (a + 2) p + g))) B Q)) := by
  refine WQ.st (fun _ _ kz => pw_aload0 dX8_addJoy_0 kz) ?_
  refine WQ.st (fun _ _ kz => pw_getr gX8_15 dX8_addJoy_1 (st_s0 hT) (st_p0_1 hT) kz) ?_
  refine WQ.st (fun _ _ kz => pw_iload1 dX8_addJoy_4 kz) ?_
  refine WQ.st (fun _ _ kz => pw_ald (j := p) dX8_addJoy_5 (st_s2 hT) (ix_m rfl (by omega)) (by omega) kz) ?_
  refine WQ.st (fun _ _ kz => pw_iload2 dX8_addJoy_6 kz) ?_
  refine WQ.st (fun _ _ kz => pw_iadd dX8_addJoy_7 kz) ?_
  refine WQ.st (fun _ _ kz => pw_istore3 dX8_addJoy_8 (by decide) (k := kz)) ?_
  refine WQ.st (fun _ _ kz => pw_aload0 dX8_addJoy_9 kz) ?_
  refine WQ.st (fun _ _ kz => pw_getr gX8_15 dX8_addJoy_10 (st_s0 hT) (st_p0_1 hT) kz) ?_
  refine WQ.st (fun _ _ kz => pw_iload1 dX8_addJoy_13 kz) ?_
  refine WQ.st (fun _ _ kz => pw_ldc kX8_44 dX8_addJoy_14 kz) ?_
  refine WQ.st (fun _ _ kz => pw_ldc kX8_45 dX8_addJoy_16 kz) ?_
  refine WQ.st (fun _ _ kz => pw_iload3 dX8_addJoy_18 kz) ?_
  refine WQ.st (fun _ _ kz => pw_min mmX8_46 dX8_addJoy_19 (Nat.le_of_ble_eq_true rfl) (by omega) kz) ?_
  refine WQ.st (fun _ _ kz => pw_max mmX8_52 dX8_addJoy_22 (Nat.le_of_ble_eq_true rfl) (by omega) kz) ?_
  refine WQ.st (fun _ _ kz => pw_ast (j := p) dX8_addJoy_25 (st_s2 hT) (ix_m rfl (by omega)) (by omega)  kz) ?_
  refine ⟨_, _, pw_vret dX8_addJoy_26 rfl rfl rfl, ?_⟩
  exact ⟨rfl, by rw [jo_mm]⟩
set_option maxRecDepth 20000 in
theorem l_allStores {G : gT} {d : Nat} {S : sS} {V : sV} {P : sP} {A : sV} {B : sB} {Q : sP} {t sl : Nat} {a : Nat} (hT : ST S P a) : ∀ (m k : Nat) (x5 : Option Value), k + m = 5 → WQ G d mX8_allStores 13 [some (.ref a), some (.int (smI (A (a + 1)) k)), some (.ref (a + 1)), some (.int 5), some (.int (nI k)), x5] [] (t, sl, gh S V P A B Q) (fun r h' => r = some (.int (smI (A (a + 1)) 5)) ∧ h' = (t, sl, gh S V P A B Q)) := by
  intro m
  induction m with
  | zero =>
    intro k x5 hk
    have hk : k = 5 := hk
    subst hk
    refine WQ.st (fun _ _ kz => pw_iload4 dX8_allStores_13 kz) ?_
    refine WQ.st (fun _ _ kz => pw_iload3 dX8_allStores_15 kz) ?_
    refine WQ.br (fun _ _ ka kb => pw_icmp_ge (tgt := 36) dX8_allStores_16 (by decide) ka kb) (fun c16 => ?_) (fun c16 => absurd (by decide) c16)
    refine WQ.st (fun _ _ kz => pw_iload1 dX8_allStores_36 kz) ?_
    refine ⟨_, _, pw_iret dX8_allStores_37 rfl rfl rfl rfl, ?_⟩
    exact ⟨rfl, rfl⟩
  | succ m ih =>
    intro k x5 hk
    refine WQ.st (fun _ _ kz => pw_iload4 dX8_allStores_13 kz) ?_
    refine WQ.st (fun _ _ kz => pw_iload3 dX8_allStores_15 kz) ?_
    refine WQ.br (fun _ _ ka kb => pw_icmp_ge (tgt := 36) dX8_allStores_16 (by decide) ka kb) (fun c16 => absurd c16 (by rw [nl_5, le_i (ix_n (j := 5) (by omega)) (ix_n (j := k) (by omega))]; omega)) (fun c16 => ?_)
    refine WQ.st (fun _ _ kz => pw_aload2 dX8_allStores_19 kz) ?_
    refine WQ.st (fun _ _ kz => pw_iload4 dX8_allStores_20 kz) ?_
    refine WQ.st (fun _ _ kz => pw_ald (j := k) dX8_allStores_22 (st_s1 hT) (ix_m rfl (by omega)) (by omega) kz) ?_
    refine WQ.st (fun _ _ kz => pw_istore5 dX8_allStores_23 (by decide) (k := kz)) ?_
    refine WQ.st (fun _ _ kz => pw_iload1 dX8_allStores_25 kz) ?_
    refine WQ.st (fun _ _ kz => pw_iload5 dX8_allStores_26 kz) ?_
    refine WQ.st (fun _ _ kz => pw_iadd dX8_allStores_28 kz) ?_
    refine WQ.st (fun _ _ kz => pw_istore1 dX8_allStores_29 (by decide) (k := kz)) ?_
    refine WQ.st (fun _ _ kz => pw_iinc4 (v := 1) dX8_allStores_30 (by decide) (by decide) (k := kz)) ?_
    refine WQ.st (fun _ _ kz => pw_goto (tgt := 13) dX8_allStores_33 (by decide) kz) ?_
    rw [nI_1]
    exact ih (k + 1) _ (by omega)
set_option maxRecDepth 20000 in
theorem k_allStores {G : gT} {d : Nat} {S : sS} {V : sV} {P : sP} {A : sV} {B : sB} {Q : sP} {t sl : Nat} {a : Nat} (hT : ST S P a) : WQ G d mX8_allStores 0 [some (.ref a), none, none, none, none, none] [] (t, sl, gh S V P A B Q) (fun r h' => r = some (.int (smI (A (a + 1)) 5)) ∧ h' = (t, sl, gh S V P A B Q)) := by
  refine WQ.st (fun _ _ kz => pw_iconst (v := 0) dX8_allStores_0 (by decide) kz) ?_
  refine WQ.st (fun _ _ kz => pw_istore1 dX8_allStores_1 (by decide) (k := kz)) ?_
  refine WQ.st (fun _ _ kz => pw_aload0 dX8_allStores_2 kz) ?_
  refine WQ.st (fun _ _ kz => pw_getr gX8_9 dX8_allStores_3 (st_s0 hT) (st_p0_0 hT) kz) ?_
  refine WQ.st (fun _ _ kz => pw_astore2 dX8_allStores_6 (by decide) (k := kz)) ?_
  refine WQ.st (fun _ _ kz => pw_aload2 dX8_allStores_7 kz) ?_
  refine WQ.st (fun _ _ kz => pw_len dX8_allStores_8 (st_s1 hT) (by decide) kz) ?_
  refine WQ.st (fun _ _ kz => pw_istore3 dX8_allStores_9 (by decide) (k := kz)) ?_
  refine WQ.st (fun _ _ kz => pw_iconst (v := 0) dX8_allStores_10 (by decide) kz) ?_
  refine WQ.st (fun _ _ kz => pw_istore4 dX8_allStores_11 (by decide) (k := kz)) ?_
  exact l_allStores hT 5 0 none rfl
set_option maxRecDepth 20000 in
theorem l_allJoy {G : gT} {d : Nat} {S : sS} {V : sV} {P : sP} {A : sV} {B : sB} {Q : sP} {t sl : Nat} {a : Nat} (hT : ST S P a) : ∀ (m k : Nat) (x5 : Option Value), k + m = 5 → WQ G d mX8_allJoy 13 [some (.ref a), some (.int (smI (A (a + 2)) k)), some (.ref (a + 2)), some (.int 5), some (.int (nI k)), x5] [] (t, sl, gh S V P A B Q) (fun r h' => r = some (.int (smI (A (a + 2)) 5)) ∧ h' = (t, sl, gh S V P A B Q)) := by
  intro m
  induction m with
  | zero =>
    intro k x5 hk
    have hk : k = 5 := hk
    subst hk
    refine WQ.st (fun _ _ kz => pw_iload4 dX8_allJoy_13 kz) ?_
    refine WQ.st (fun _ _ kz => pw_iload3 dX8_allJoy_15 kz) ?_
    refine WQ.br (fun _ _ ka kb => pw_icmp_ge (tgt := 36) dX8_allJoy_16 (by decide) ka kb) (fun c16 => ?_) (fun c16 => absurd (by decide) c16)
    refine WQ.st (fun _ _ kz => pw_iload1 dX8_allJoy_36 kz) ?_
    refine ⟨_, _, pw_iret dX8_allJoy_37 rfl rfl rfl rfl, ?_⟩
    exact ⟨rfl, rfl⟩
  | succ m ih =>
    intro k x5 hk
    refine WQ.st (fun _ _ kz => pw_iload4 dX8_allJoy_13 kz) ?_
    refine WQ.st (fun _ _ kz => pw_iload3 dX8_allJoy_15 kz) ?_
    refine WQ.br (fun _ _ ka kb => pw_icmp_ge (tgt := 36) dX8_allJoy_16 (by decide) ka kb) (fun c16 => absurd c16 (by rw [nl_5, le_i (ix_n (j := 5) (by omega)) (ix_n (j := k) (by omega))]; omega)) (fun c16 => ?_)
    refine WQ.st (fun _ _ kz => pw_aload2 dX8_allJoy_19 kz) ?_
    refine WQ.st (fun _ _ kz => pw_iload4 dX8_allJoy_20 kz) ?_
    refine WQ.st (fun _ _ kz => pw_ald (j := k) dX8_allJoy_22 (st_s2 hT) (ix_m rfl (by omega)) (by omega) kz) ?_
    refine WQ.st (fun _ _ kz => pw_istore5 dX8_allJoy_23 (by decide) (k := kz)) ?_
    refine WQ.st (fun _ _ kz => pw_iload1 dX8_allJoy_25 kz) ?_
    refine WQ.st (fun _ _ kz => pw_iload5 dX8_allJoy_26 kz) ?_
    refine WQ.st (fun _ _ kz => pw_iadd dX8_allJoy_28 kz) ?_
    refine WQ.st (fun _ _ kz => pw_istore1 dX8_allJoy_29 (by decide) (k := kz)) ?_
    refine WQ.st (fun _ _ kz => pw_iinc4 (v := 1) dX8_allJoy_30 (by decide) (by decide) (k := kz)) ?_
    refine WQ.st (fun _ _ kz => pw_goto (tgt := 13) dX8_allJoy_33 (by decide) kz) ?_
    rw [nI_1]
    exact ih (k + 1) _ (by omega)
set_option maxRecDepth 20000 in
theorem k_allJoy {G : gT} {d : Nat} {S : sS} {V : sV} {P : sP} {A : sV} {B : sB} {Q : sP} {t sl : Nat} {a : Nat} (hT : ST S P a) : WQ G d mX8_allJoy 0 [some (.ref a), none, none, none, none, none] [] (t, sl, gh S V P A B Q) (fun r h' => r = some (.int (smI (A (a + 2)) 5)) ∧ h' = (t, sl, gh S V P A B Q)) := by
  refine WQ.st (fun _ _ kz => pw_iconst (v := 0) dX8_allJoy_0 (by decide) kz) ?_
  refine WQ.st (fun _ _ kz => pw_istore1 dX8_allJoy_1 (by decide) (k := kz)) ?_
  refine WQ.st (fun _ _ kz => pw_aload0 dX8_allJoy_2 kz) ?_
  refine WQ.st (fun _ _ kz => pw_getr gX8_15 dX8_allJoy_3 (st_s0 hT) (st_p0_1 hT) kz) ?_
  refine WQ.st (fun _ _ kz => pw_astore2 dX8_allJoy_6 (by decide) (k := kz)) ?_
  refine WQ.st (fun _ _ kz => pw_aload2 dX8_allJoy_7 kz) ?_
  refine WQ.st (fun _ _ kz => pw_len dX8_allJoy_8 (st_s2 hT) (by decide) kz) ?_
  refine WQ.st (fun _ _ kz => pw_istore3 dX8_allJoy_9 (by decide) (k := kz)) ?_
  refine WQ.st (fun _ _ kz => pw_iconst (v := 0) dX8_allJoy_10 (by decide) kz) ?_
  refine WQ.st (fun _ _ kz => pw_istore4 dX8_allJoy_11 (by decide) (k := kz)) ?_
  exact l_allJoy hT 5 0 none rfl
set_option maxRecDepth 20000 in
theorem k_isMissing {G : gT} {d : Nat} {S : sS} {V : sV} {P : sP} {A : sV} {B : sB} {Q : sP} {t sl : Nat} {a : Nat} (hT : TY S P a) : WQ G d mX9_isMissing 0 [some (.ref a)] [] (t, sl, gh S V P A B Q) (fun r h' => r = some (.int (bI (decide (V a 0 = -1)))) ∧ h' = (t, sl, gh S V P A B Q)) := by
  refine WQ.st (fun _ _ kz => pw_aload0 dX9_isMissing_0 kz) ?_
  refine WQ.st (fun _ _ kz => pw_geti gX9_11 dX9_isMissing_1 (ty_s0 hT) kz) ?_
  refine WQ.st (fun _ _ kz => pw_iconst (v := -1) dX9_isMissing_4 (by decide) kz) ?_
  refine WQ.bn (fun _ _ ka kb => pw_icmp_ne (tgt := 12) dX9_isMissing_5 (by decide) ka kb) (fun c5 => ?_) (fun c5 => ?_)
  · refine WQ.st (fun _ _ kz => pw_iconst (v := 0) dX9_isMissing_12 (by decide) kz) ?_
    refine ⟨_, _, pw_iret dX9_isMissing_13 rfl rfl rfl rfl, ?_⟩
    exact ⟨by rw [decide_eq_false c5]; rfl, rfl⟩
  · refine WQ.st (fun _ _ kz => pw_iconst (v := 1) dX9_isMissing_8 (by decide) kz) ?_
    refine WQ.st (fun _ _ kz => pw_goto (tgt := 13) dX9_isMissing_9 (by decide) kz) ?_
    refine ⟨_, _, pw_iret dX9_isMissing_13 rfl rfl rfl rfl, ?_⟩
    exact ⟨by rw [decide_eq_true c5]; rfl, rfl⟩
set_option maxRecDepth 20000 in
theorem k_tbegin {G : gT} {d : Nat} {S : sS} {V : sV} {P : sP} {A : sV} {B : sB} {Q : sP} {t sl : Nat} {a : Nat} (hT : TY S P a) (x : Int32) {n : Nat} (hn : n ≤ 40) : WQ G (d + 1) mX9_begin 0 [some (.ref a), some (.int x), some (.int (nI n))] [] (t, sl, gh S V P A B Q) (fun r h' => r = none ∧ h' = (t, sl, gh S (up2 (up2 V a 1 x) a 0 (nI n)) P A (pm_up B (a + 1) (fillF 0 40 (B (a + 1)))) Q)) := by
  refine WQ.st (fun _ _ kz => pw_aload0 dX9_begin_0 kz) ?_
  refine WQ.st (fun _ _ kz => pw_iload1 dX9_begin_1 kz) ?_
  refine WQ.st (fun _ _ kz => pw_puti (pX9_15 _ rfl) dX9_begin_2 (ty_s0 hT) rfl rfl kz) ?_
  refine WQ.st (fun _ _ kz => pw_aload0 dX9_begin_5 kz) ?_
  refine WQ.st (fun _ _ kz => pw_iconst (v := 0) dX9_begin_6 (by decide) kz) ?_
  refine WQ.st (fun _ _ kz => pw_iload2 dX9_begin_7 kz) ?_
  refine WQ.st (fun _ _ kz => pw_bipush (v := 40) dX9_begin_8 (by decide) kz) ?_
  refine WQ.st (fun _ _ kz => pw_min mmX9_22 dX9_begin_10 (Nat.le_of_ble_eq_true rfl) (by omega) kz) ?_
  refine WQ.st (fun _ _ kz => pw_max mmX9_28 dX9_begin_13 (Nat.le_of_ble_eq_true rfl) (by omega) kz) ?_
  refine WQ.st (fun _ _ kz => pw_puti (pX9_11 _ rfl) dX9_begin_16 (ty_s0 hT) rfl rfl kz) ?_
  refine WQ.st (fun _ _ kz => pw_aload0 dX9_begin_19 kz) ?_
  refine WQ.st (fun _ _ kz => pw_getr gX9_18 dX9_begin_20 (ty_s0 hT) (ty_p0_2 hT) kz) ?_
  refine WQ.st (fun _ _ kz => pw_lconst (v := 0) dX9_begin_23 (by decide) kz) ?_
  refine WQ.st (fun _ _ kz => pw_s2v wJ7_fill_d0a16 lX9_31 dX9_begin_24 (c_filll (ty_s1 hT) (by omega) _) rfl (Nat.le_of_ble_eq_true rfl) (Nat.le_of_ble_eq_true rfl) kz) ?_
  refine ⟨_, _, pw_vret dX9_begin_27 rfl rfl rfl, ?_⟩
  have e1 : (if (40 : Int32) < nI n then 40 else nI n) = nI n := by rw [if_neg (by rw [nl_40, lt_i (ix_n (j := 40) (by omega)) (ix_n (j := n) (by omega))]; omega)]
  have e2 : (if (0 : Int32) < nI n then nI n else 0) = nI n := by
    by_cases h : (0 : Int32) < nI n
    · rw [if_pos h]
    · rw [if_neg h]
      rw [nl_0, lt_i (ix_n (j := 0) (by omega)) (ix_n (j := n) (by omega))] at h
      rw [show n = 0 by omega]
      rfl
  exact ⟨rfl, by rw [e1, e2]⟩
set_option maxRecDepth 20000 in
theorem k_at {G : gT} {d : Nat} {S : sS} {V : sV} {P : sP} {A : sV} {B : sB} {Q : sP} {t sl : Nat} {a : Nat} (hT : TY S P a) {k n : Nat} (hn : V a 0 = nI n) (h40 : n ≤ 40) (hk : k < n) : WQ G d mX9_at 0 [some (.ref a), some (.int (nI k))] [] (t, sl, gh S V P A B Q) (fun r h' => r = some (.long (B (a + 1) k)) ∧ h' = (t, sl, gh S V P A B Q)) := by
  refine WQ.st (fun _ _ kz => pw_iload1 dX9_at_0 kz) ?_
  refine WQ.br (fun _ _ ka kb => pw_if_lt (tgt := 21) dX9_at_1 (by decide) ka kb) (fun c1 => absurd c1 (by rw [lt_i (ix_n (j := k) (by omega)) (show (0 : Int32).toInt = 0 from rfl)]; omega)) (fun c1 => ?_)
  refine WQ.st (fun _ _ kz => pw_iload1 dX9_at_4 kz) ?_
  refine WQ.st (fun _ _ kz => pw_aload0 dX9_at_5 kz) ?_
  refine WQ.st (fun _ _ kz => pw_geti gX9_11 dX9_at_6 (ty_s0 hT) kz) ?_
  refine WQ.br (fun _ _ ka kb => pw_icmp_ge (tgt := 21) dX9_at_9 (by decide) ka kb) (fun c9 => absurd c9 (by rw [hn, le_i (ix_n (j := n) (by omega)) (ix_n (j := k) (by omega))]; omega)) (fun c9 => ?_)
  refine WQ.st (fun _ _ kz => pw_aload0 dX9_at_12 kz) ?_
  refine WQ.st (fun _ _ kz => pw_getr gX9_18 dX9_at_13 (ty_s0 hT) (ty_p0_2 hT) kz) ?_
  refine WQ.st (fun _ _ kz => pw_iload1 dX9_at_16 kz) ?_
  refine WQ.st (fun _ _ kz => pw_lld (j := k) dX9_at_17 (ty_s1 hT) (ix_m rfl (by omega)) (by omega) kz) ?_
  refine WQ.st (fun _ _ kz => pw_goto (tgt := 22) dX9_at_18 (by decide) kz) ?_
  refine ⟨_, _, pw_lret dX9_at_22 rfl rfl rfl, ?_⟩
  exact ⟨rfl, rfl⟩
set_option maxRecDepth 20000 in
theorem k_cut {G : gT} {d : Nat} {S : sS} {V : sV} {P : sP} {A : sV} {B : sB} {Q : sP} {t sl : Nat} {a : Nat} (hT : TY S P a) (v : Int64) : WQ G d mX9_cut 0 [some (.ref a), some (.long v), none] [] (t, sl, gh S V P A B Q) (fun r h' => r = some (.long (rf_cut v (V a 1))) ∧ h' = (t, sl, gh S V P A B Q)) := by
  refine WQ.st (fun _ _ kz => pw_aload0 dX9_cut_0 kz) ?_
  refine WQ.st (fun _ _ kz => pw_geti gX9_15 dX9_cut_1 (ty_s0 hT) kz) ?_
  by_cases h4_0 : V a 1 = 0
  · refine WQ.st (fun _ _ kz => pw_tableIn (off := 28) (tgt := 32) dX9_cut_4 (by rw [h4_0]; decide) (by rw [h4_0]; decide) (by rw [h4_0]; rfl) (by decide) kz) ?_
    refine WQ.st (fun _ _ kz => pw_lload1 dX9_cut_32 kz) ?_
    refine WQ.st (fun _ _ kz => pw_l2i dX9_cut_33 kz) ?_
    refine WQ.st (fun _ _ kz => pw_i2b dX9_cut_34 kz) ?_
    refine WQ.st (fun _ _ kz => pw_i2l dX9_cut_35 kz) ?_
    refine ⟨_, _, pw_lret dX9_cut_36 rfl rfl rfl, ?_⟩
    exact ⟨by unfold rf_cut; rw [if_pos h4_0], rfl⟩
  by_cases h4_1 : V a 1 = 1
  · refine WQ.st (fun _ _ kz => pw_tableIn (off := 33) (tgt := 37) dX9_cut_4 (by rw [h4_1]; decide) (by rw [h4_1]; decide) (by rw [h4_1]; rfl) (by decide) kz) ?_
    refine WQ.st (fun _ _ kz => pw_lload1 dX9_cut_37 kz) ?_
    refine WQ.st (fun _ _ kz => pw_l2i dX9_cut_38 kz) ?_
    refine WQ.st (fun _ _ kz => pw_i2s dX9_cut_39 kz) ?_
    refine WQ.st (fun _ _ kz => pw_i2l dX9_cut_40 kz) ?_
    refine ⟨_, _, pw_lret dX9_cut_41 rfl rfl rfl, ?_⟩
    exact ⟨by unfold rf_cut; rw [if_neg h4_0, if_pos h4_1], rfl⟩
  by_cases h4_2 : V a 1 = 2
  · refine WQ.st (fun _ _ kz => pw_tableIn (off := 38) (tgt := 42) dX9_cut_4 (by rw [h4_2]; decide) (by rw [h4_2]; decide) (by rw [h4_2]; rfl) (by decide) kz) ?_
    refine WQ.st (fun _ _ kz => pw_lload1 dX9_cut_42 kz) ?_
    refine WQ.st (fun _ _ kz => pw_l2i dX9_cut_43 kz) ?_
    refine WQ.st (fun _ _ kz => pw_i2l dX9_cut_44 kz) ?_
    refine ⟨_, _, pw_lret dX9_cut_45 rfl rfl rfl, ?_⟩
    exact ⟨by unfold rf_cut; rw [if_neg h4_0, if_neg h4_1, if_pos h4_2], rfl⟩
  have g4_0 := i32_ne (z := 0) rfl h4_0
  have g4_1 := i32_ne (z := 1) rfl h4_1
  have g4_2 := i32_ne (z := 2) rfl h4_2
  refine WQ.st (fun _ _ kz => pw_tableOut (tgt := 46) dX9_cut_4 (by omega) (by decide) kz) ?_
  refine WQ.st (fun _ _ kz => pw_lload1 dX9_cut_46 kz) ?_
  refine ⟨_, _, pw_lret dX9_cut_47 rfl rfl rfl, ?_⟩
  exact ⟨by unfold rf_cut; rw [if_neg h4_0, if_neg h4_1, if_neg h4_2], rfl⟩
set_option maxRecDepth 20000 in
theorem k_put {G : gT} {d : Nat} {S : sS} {V : sV} {P : sP} {A : sV} {B : sB} {Q : sP} {t sl : Nat} {a : Nat} (hT : TY S P a) {k n : Nat} (hn : V a 0 = nI n) (h40 : n ≤ 40) (hk : k < n) (v : Int64) : WQ G (d + 1) mX9_put 0 [some (.ref a), some (.int (nI k)), some (.long v), none] [] (t, sl, gh S V P A B Q) (fun r h' => r = none ∧ h' = (t, sl, gh S V P A (up2 B (a + 1) k (rf_cut v (V a 1))) Q)) := by
  refine WQ.st (fun _ _ kz => pw_iload1 dX9_put_0 kz) ?_
  refine WQ.br (fun _ _ ka kb => pw_if_lt (tgt := 23) dX9_put_1 (by decide) ka kb) (fun c1 => absurd c1 (by rw [lt_i (ix_n (j := k) (by omega)) (show (0 : Int32).toInt = 0 from rfl)]; omega)) (fun c1 => ?_)
  refine WQ.st (fun _ _ kz => pw_iload1 dX9_put_4 kz) ?_
  refine WQ.st (fun _ _ kz => pw_aload0 dX9_put_5 kz) ?_
  refine WQ.st (fun _ _ kz => pw_geti gX9_11 dX9_put_6 (ty_s0 hT) kz) ?_
  refine WQ.br (fun _ _ ka kb => pw_icmp_ge (tgt := 23) dX9_put_9 (by decide) ka kb) (fun c9 => absurd c9 (by rw [hn, le_i (ix_n (j := n) (by omega)) (ix_n (j := k) (by omega))]; omega)) (fun c9 => ?_)
  refine WQ.st (fun _ _ kz => pw_aload0 dX9_put_12 kz) ?_
  refine WQ.st (fun _ _ kz => pw_getr gX9_18 dX9_put_13 (ty_s0 hT) (ty_p0_2 hT) kz) ?_
  refine WQ.st (fun _ _ kz => pw_iload1 dX9_put_16 kz) ?_
  refine WQ.st (fun _ _ kz => pw_aload0 dX9_put_17 kz) ?_
  refine WQ.st (fun _ _ kz => pw_lload2 dX9_put_18 kz) ?_
  refine wq_o1i wX9_cut lX9_37 rfl dX9_put_19 (ty_s0 hT) (k_cut hT _) rfl (Nat.le_of_ble_eq_true rfl) (Nat.le_of_ble_eq_true rfl) (fun h19 z19 => ?_)
  subst z19
  refine WQ.st (fun _ _ kz => pw_lst (j := k) dX9_put_22 (ty_s1 hT) (ix_m rfl (by omega)) (by omega)  kz) ?_
  refine ⟨_, _, pw_vret dX9_put_23 rfl rfl rfl, ?_⟩
  exact ⟨rfl, rfl⟩
set_option maxRecDepth 20000 in
theorem k_lclear {G : gT} {d : Nat} {S : sS} {V : sV} {P : sP} {A : sV} {B : sB} {Q : sP} {t sl : Nat} {a : Nat} (hT : LA S P a) : WQ G d mX4_clear 0 [some (.ref a)] [] (t, sl, gh S V P A B Q) (fun r h' => r = none ∧ h' = (t, sl, gh S (up2 (up2 V a 1 0) a 2 0) P A B Q)) := by
  refine WQ.st (fun _ _ kz => pw_aload0 dX4_clear_0 kz) ?_
  refine WQ.st (fun _ _ kz => pw_iconst (v := 0) dX4_clear_1 (by decide) kz) ?_
  refine WQ.st (fun _ _ kz => pw_puti (pX4_15 _ rfl) dX4_clear_2 (la_s0 hT) rfl rfl kz) ?_
  refine WQ.st (fun _ _ kz => pw_aload0 dX4_clear_5 kz) ?_
  refine WQ.st (fun _ _ kz => pw_iconst (v := 0) dX4_clear_6 (by decide) kz) ?_
  refine WQ.st (fun _ _ kz => pw_puti (pX4_19 _ rfl) dX4_clear_7 (la_s0 hT) rfl rfl kz) ?_
  refine ⟨_, _, pw_vret dX4_clear_10 rfl rfl rfl, ?_⟩
  exact ⟨rfl, rfl⟩
set_option maxRecDepth 20000 in
theorem k_isTold {G : gT} {d : Nat} {S : sS} {V : sV} {P : sP} {A : sV} {B : sB} {Q : sP} {t sl : Nat} {a : Nat} (hT : LA S P a) : WQ G d mX4_isTold 0 [some (.ref a)] [] (t, sl, gh S V P A B Q) (fun r h' => r = some (.int (bI (decide (0 < V a 1)))) ∧ h' = (t, sl, gh S V P A B Q)) := by
  refine WQ.st (fun _ _ kz => pw_aload0 dX4_isTold_0 kz) ?_
  refine WQ.st (fun _ _ kz => pw_geti gX4_15 dX4_isTold_1 (la_s0 hT) kz) ?_
  refine WQ.br (fun _ _ ka kb => pw_if_le (tgt := 11) dX4_isTold_4 (by decide) ka kb) (fun c4 => ?_) (fun c4 => ?_)
  · refine WQ.st (fun _ _ kz => pw_iconst (v := 0) dX4_isTold_11 (by decide) kz) ?_
    refine ⟨_, _, pw_iret dX4_isTold_12 rfl rfl rfl rfl, ?_⟩
    exact ⟨by rw [decide_eq_false (Int32.not_lt.mpr c4)]; rfl, rfl⟩
  · refine WQ.st (fun _ _ kz => pw_iconst (v := 1) dX4_isTold_7 (by decide) kz) ?_
    refine WQ.st (fun _ _ kz => pw_goto (tgt := 12) dX4_isTold_8 (by decide) kz) ?_
    refine ⟨_, _, pw_iret dX4_isTold_12 rfl rfl rfl rfl, ?_⟩
    exact ⟨by rw [decide_eq_true (Int32.not_le.mp c4)]; rfl, rfl⟩
set_option maxRecDepth 20000 in
theorem k_asksFor {G : gT} {d : Nat} {S : sS} {V : sV} {P : sP} {A : sV} {B : sB} {Q : sP} {t sl : Nat} {a : Nat} (hT : LA S P a) (x : Int32) : WQ G d mX4_asksFor 0 [some (.ref a), some (.int x)] [] (t, sl, gh S V P A B Q) (fun r h' => r = some (.int (bI (decide (¬ (V a 2 >>> (x &&& 31)) &&& 1 = 0)))) ∧ h' = (t, sl, gh S V P A B Q)) := by
  refine WQ.st (fun _ _ kz => pw_aload0 dX4_asksFor_0 kz) ?_
  refine WQ.st (fun _ _ kz => pw_geti gX4_19 dX4_asksFor_1 (la_s0 hT) kz) ?_
  refine WQ.st (fun _ _ kz => pw_iload1 dX4_asksFor_4 kz) ?_
  refine WQ.st (fun _ _ kz => pw_ishr dX4_asksFor_5 kz) ?_
  refine WQ.st (fun _ _ kz => pw_iconst (v := 1) dX4_asksFor_6 (by decide) kz) ?_
  refine WQ.st (fun _ _ kz => pw_iand dX4_asksFor_7 kz) ?_
  refine WQ.br (fun _ _ ka kb => pw_if_eq (tgt := 15) dX4_asksFor_8 (by decide) ka kb) (fun c8 => ?_) (fun c8 => ?_)
  · refine WQ.st (fun _ _ kz => pw_iconst (v := 0) dX4_asksFor_15 (by decide) kz) ?_
    refine ⟨_, _, pw_iret dX4_asksFor_16 rfl rfl rfl rfl, ?_⟩
    exact ⟨by rw [decide_eq_false (fun q => q c8)]; rfl, rfl⟩
  · refine WQ.st (fun _ _ kz => pw_iconst (v := 1) dX4_asksFor_11 (by decide) kz) ?_
    refine WQ.st (fun _ _ kz => pw_goto (tgt := 16) dX4_asksFor_12 (by decide) kz) ?_
    refine ⟨_, _, pw_iret dX4_asksFor_16 rfl rfl rfl rfl, ?_⟩
    exact ⟨by rw [decide_eq_true c8]; rfl, rfl⟩
/-- a law's step, of the reference's code -/
def ctk (c : Int32) : Int32 := if c < 3000 then c else if c = 3000 then 2043 else if c = 3001 then 2045 else if c = 3002 then 2042 else if c = 3003 then 2061 else if c = 3004 then 2060 else if c = 3005 then 2062 else if c = 3006 then 2219 else if c = 3007 then 2218 else 2217
def jnF (j a b : Int32) : Int32 := if j = 42 then rf_cl (a.toInt64 * b.toInt64) else if j = 43 then rf_cl (a.toInt64 + b.toInt64) else if j = 45 then rf_cl (a.toInt64 - b.toInt64) else if j = 60 then bI (decide (a < b)) else if j = 61 then bI (decide (a = b)) else if j = 62 then bI (decide (b < a)) else if j = 218 then a &&& b else a ||| b
theorem jn_btw {c : Int32} (hc : 3000 ≤ c.toInt ∧ c.toInt ≤ 3008) (h6 : ¬ c = 3006) (a b : Int32) : jnF (ctk c - 2000) a b = rf_btw c a b := by
  have h : c = 3000 ∨ c = 3001 ∨ c = 3002 ∨ c = 3003 ∨ c = 3004 ∨ c = 3005 ∨ c = 3007 ∨ c = 3008 := by
    have g6 := i32_ne (z := 3006) rfl h6
    have e : ∀ z : Int32, c.toInt = z.toInt → c = z := fun z h => Int32.toInt_inj.mp h
    rcases (show c.toInt = 3000 ∨ c.toInt = 3001 ∨ c.toInt = 3002 ∨ c.toInt = 3003 ∨ c.toInt = 3004 ∨ c.toInt = 3005 ∨ c.toInt = 3007 ∨ c.toInt = 3008 by omega) with h | h | h | h | h | h | h | h
    · exact Or.inl (e 3000 h)
    · exact Or.inr (Or.inl (e 3001 h))
    · exact Or.inr (Or.inr (Or.inl (e 3002 h)))
    · exact Or.inr (Or.inr (Or.inr (Or.inl (e 3003 h))))
    · exact Or.inr (Or.inr (Or.inr (Or.inr (Or.inl (e 3004 h)))))
    · exact Or.inr (Or.inr (Or.inr (Or.inr (Or.inr (Or.inl (e 3005 h))))))
    · exact Or.inr (Or.inr (Or.inr (Or.inr (Or.inr (Or.inr (Or.inl (e 3007 h)))))))
    · exact Or.inr (Or.inr (Or.inr (Or.inr (Or.inr (Or.inr (Or.inr (e 3008 h)))))))
  rcases h with rfl | rfl | rfl | rfl | rfl | rfl | rfl | rfl <;> rfl
set_option maxRecDepth 20000 in
theorem k_joined {G : gT} {d : Nat} {h : Ph} (j a b : Int32) : WQ G d mX4_joined 0 [some (.int j), some (.int a), some (.int b), none, none] [] h (fun r h' => r = some (.int (jnF j a b)) ∧ h' = h) := by
  have jn : ∀ w : Int64, WQ G d mX4_joined 136 [some (.int j), some (.int a), some (.int b), some (.long w), none] [] h (fun r h' => r = some (.int (rf_cl w)) ∧ h' = h) := by
    intro w
    refine WQ.st (fun _ _ kz => pw_lload3 dX4_joined_136 kz) ?_
    refine WQ.st (fun _ _ kz => pw_ldc2 kX4_28 dX4_joined_137 kz) ?_
    refine WQ.st (fun _ _ kz => pw_lcmp dX4_joined_140 kz) ?_
    refine WQ.br (fun _ _ ka kb => pw_if_le (tgt := 147) dX4_joined_141 (by decide) ka kb) (fun c141 => ?_) (fun c141 => ?_)
    · refine WQ.st (fun _ _ kz => pw_lload3 dX4_joined_147 kz) ?_
      refine WQ.st (fun _ _ kz => pw_ldc2 kX4_31 dX4_joined_148 kz) ?_
      refine WQ.st (fun _ _ kz => pw_lcmp dX4_joined_151 kz) ?_
      refine WQ.br (fun _ _ ka kb => pw_if_ge (tgt := 160) dX4_joined_152 (by decide) ka kb) (fun c152 => ?_) (fun c152 => ?_)
      · refine WQ.st (fun _ _ kz => pw_lload3 dX4_joined_160 kz) ?_
        refine WQ.st (fun _ _ kz => pw_l2i dX4_joined_161 kz) ?_
        refine ⟨_, _, pw_iret dX4_joined_162 rfl rfl rfl rfl, ?_⟩
        exact ⟨by unfold rf_cl; rw [lg_cmp_le] at c141; rw [lg_cmp_ge] at c152; rw [if_pos c141, if_pos c152], rfl⟩
      · refine WQ.st (fun _ _ kz => pw_ldc kX4_33 dX4_joined_155 kz) ?_
        refine WQ.st (fun _ _ kz => pw_goto (tgt := 162) dX4_joined_157 (by decide) kz) ?_
        refine ⟨_, _, pw_iret dX4_joined_162 rfl rfl rfl rfl, ?_⟩
        exact ⟨by unfold rf_cl; rw [lg_cmp_le] at c141; rw [lg_cmp_ge] at c152; rw [if_pos c141, if_neg c152]; rfl, rfl⟩
    · refine WQ.st (fun _ _ kz => pw_ldc kX4_30 dX4_joined_144 kz) ?_
      refine ⟨_, _, pw_iret dX4_joined_146 rfl rfl rfl rfl, ?_⟩
      exact ⟨by unfold rf_cl; rw [lg_cmp_le] at c141; rw [if_neg c141]; rfl, rfl⟩
  refine WQ.st (fun _ _ kz => pw_iload0 dX4_joined_0 kz) ?_
  by_cases h1_42 : j = 42
  · refine WQ.st (fun _ _ kz => pw_lookup (off := 85) (tgt := 86) dX4_joined_1 (by decide) (by rw [h1_42]; rfl) (by decide) kz) ?_
    have e : jnF j a b = rf_cl (a.toInt64 * b.toInt64) := by unfold jnF; rw [if_pos h1_42]
    rw [e]
    
    refine WQ.st (fun _ _ kz => pw_iload1 dX4_joined_86 kz) ?_
    refine WQ.st (fun _ _ kz => pw_i2l dX4_joined_87 kz) ?_
    refine WQ.st (fun _ _ kz => pw_iload2 dX4_joined_88 kz) ?_
    refine WQ.st (fun _ _ kz => pw_i2l dX4_joined_89 kz) ?_
    refine WQ.st (fun _ _ kz => pw_lmul dX4_joined_90 kz) ?_
    refine WQ.st (fun _ _ kz => pw_lstore3 dX4_joined_91 (by decide) (k := kz)) ?_
    refine WQ.st (fun _ _ kz => pw_goto (tgt := 136) dX4_joined_92 (by decide) kz) ?_
    exact jn _
  by_cases h1_43 : j = 43
  · refine WQ.st (fun _ _ kz => pw_lookup (off := 67) (tgt := 68) dX4_joined_1 (by decide) (by rw [h1_43]; rfl) (by decide) kz) ?_
    have e : jnF j a b = rf_cl (a.toInt64 + b.toInt64) := by unfold jnF; rw [if_neg h1_42, if_pos h1_43]
    rw [e]
    
    refine WQ.st (fun _ _ kz => pw_iload1 dX4_joined_68 kz) ?_
    refine WQ.st (fun _ _ kz => pw_i2l dX4_joined_69 kz) ?_
    refine WQ.st (fun _ _ kz => pw_iload2 dX4_joined_70 kz) ?_
    refine WQ.st (fun _ _ kz => pw_i2l dX4_joined_71 kz) ?_
    refine WQ.st (fun _ _ kz => pw_ladd dX4_joined_72 kz) ?_
    refine WQ.st (fun _ _ kz => pw_lstore3 dX4_joined_73 (by decide) (k := kz)) ?_
    refine WQ.st (fun _ _ kz => pw_goto (tgt := 136) dX4_joined_74 (by decide) kz) ?_
    exact jn _
  by_cases h1_45 : j = 45
  · refine WQ.st (fun _ _ kz => pw_lookup (off := 76) (tgt := 77) dX4_joined_1 (by decide) (by rw [h1_45]; rfl) (by decide) kz) ?_
    have e : jnF j a b = rf_cl (a.toInt64 - b.toInt64) := by unfold jnF; rw [if_neg h1_42, if_neg h1_43, if_pos h1_45]
    rw [e]
    
    refine WQ.st (fun _ _ kz => pw_iload1 dX4_joined_77 kz) ?_
    refine WQ.st (fun _ _ kz => pw_i2l dX4_joined_78 kz) ?_
    refine WQ.st (fun _ _ kz => pw_iload2 dX4_joined_79 kz) ?_
    refine WQ.st (fun _ _ kz => pw_i2l dX4_joined_80 kz) ?_
    refine WQ.st (fun _ _ kz => pw_lsub dX4_joined_81 kz) ?_
    refine WQ.st (fun _ _ kz => pw_lstore3 dX4_joined_82 (by decide) (k := kz)) ?_
    refine WQ.st (fun _ _ kz => pw_goto (tgt := 136) dX4_joined_83 (by decide) kz) ?_
    exact jn _
  by_cases h1_60 : j = 60
  · refine WQ.st (fun _ _ kz => pw_lookup (off := 105) (tgt := 106) dX4_joined_1 (by decide) (by rw [h1_60]; rfl) (by decide) kz) ?_
    have e : jnF j a b = bI (decide (a < b)) := by unfold jnF; rw [if_neg h1_42, if_neg h1_43, if_neg h1_45, if_pos h1_60]
    rw [e]
    
    refine WQ.st (fun _ _ kz => pw_iload1 dX4_joined_106 kz) ?_
    refine WQ.st (fun _ _ kz => pw_iload2 dX4_joined_107 kz) ?_
    refine WQ.br (fun _ _ ka kb => pw_icmp_ge (tgt := 115) dX4_joined_108 (by decide) ka kb) (fun c108 => ?_) (fun c108 => ?_)
    · refine WQ.st (fun _ _ kz => pw_iconst (v := 0) dX4_joined_115 (by decide) kz) ?_
      refine ⟨_, _, pw_iret dX4_joined_116 rfl rfl rfl rfl, ?_⟩
      exact ⟨by rw [decide_eq_false (Int32.not_lt.mpr c108)]; rfl, rfl⟩
    · refine WQ.st (fun _ _ kz => pw_iconst (v := 1) dX4_joined_111 (by decide) kz) ?_
      refine WQ.st (fun _ _ kz => pw_goto (tgt := 116) dX4_joined_112 (by decide) kz) ?_
      refine ⟨_, _, pw_iret dX4_joined_116 rfl rfl rfl rfl, ?_⟩
      exact ⟨by rw [decide_eq_true (Int32.not_le.mp c108)]; rfl, rfl⟩
  by_cases h1_61 : j = 61
  · refine WQ.st (fun _ _ kz => pw_lookup (off := 94) (tgt := 95) dX4_joined_1 (by decide) (by rw [h1_61]; rfl) (by decide) kz) ?_
    have e : jnF j a b = bI (decide (a = b)) := by unfold jnF; rw [if_neg h1_42, if_neg h1_43, if_neg h1_45, if_neg h1_60, if_pos h1_61]
    rw [e]
    
    refine WQ.st (fun _ _ kz => pw_iload1 dX4_joined_95 kz) ?_
    refine WQ.st (fun _ _ kz => pw_iload2 dX4_joined_96 kz) ?_
    refine WQ.bn (fun _ _ ka kb => pw_icmp_ne (tgt := 104) dX4_joined_97 (by decide) ka kb) (fun c97 => ?_) (fun c97 => ?_)
    · refine WQ.st (fun _ _ kz => pw_iconst (v := 0) dX4_joined_104 (by decide) kz) ?_
      refine ⟨_, _, pw_iret dX4_joined_105 rfl rfl rfl rfl, ?_⟩
      exact ⟨by rw [decide_eq_false c97]; rfl, rfl⟩
    · refine WQ.st (fun _ _ kz => pw_iconst (v := 1) dX4_joined_100 (by decide) kz) ?_
      refine WQ.st (fun _ _ kz => pw_goto (tgt := 105) dX4_joined_101 (by decide) kz) ?_
      refine ⟨_, _, pw_iret dX4_joined_105 rfl rfl rfl rfl, ?_⟩
      exact ⟨by rw [decide_eq_true c97]; rfl, rfl⟩
  by_cases h1_62 : j = 62
  · refine WQ.st (fun _ _ kz => pw_lookup (off := 116) (tgt := 117) dX4_joined_1 (by decide) (by rw [h1_62]; rfl) (by decide) kz) ?_
    have e : jnF j a b = bI (decide (b < a)) := by unfold jnF; rw [if_neg h1_42, if_neg h1_43, if_neg h1_45, if_neg h1_60, if_neg h1_61, if_pos h1_62]
    rw [e]
    
    refine WQ.st (fun _ _ kz => pw_iload1 dX4_joined_117 kz) ?_
    refine WQ.st (fun _ _ kz => pw_iload2 dX4_joined_118 kz) ?_
    refine WQ.br (fun _ _ ka kb => pw_icmp_le (tgt := 126) dX4_joined_119 (by decide) ka kb) (fun c119 => ?_) (fun c119 => ?_)
    · refine WQ.st (fun _ _ kz => pw_iconst (v := 0) dX4_joined_126 (by decide) kz) ?_
      refine ⟨_, _, pw_iret dX4_joined_127 rfl rfl rfl rfl, ?_⟩
      exact ⟨by rw [decide_eq_false (Int32.not_lt.mpr c119)]; rfl, rfl⟩
    · refine WQ.st (fun _ _ kz => pw_iconst (v := 1) dX4_joined_122 (by decide) kz) ?_
      refine WQ.st (fun _ _ kz => pw_goto (tgt := 127) dX4_joined_123 (by decide) kz) ?_
      refine ⟨_, _, pw_iret dX4_joined_127 rfl rfl rfl rfl, ?_⟩
      exact ⟨by rw [decide_eq_true (Int32.not_le.mp c119)]; rfl, rfl⟩
  by_cases h1_218 : j = 218
  · refine WQ.st (fun _ _ kz => pw_lookup (off := 127) (tgt := 128) dX4_joined_1 (by decide) (by rw [h1_218]; rfl) (by decide) kz) ?_
    have e : jnF j a b = a &&& b := by unfold jnF; rw [if_neg h1_42, if_neg h1_43, if_neg h1_45, if_neg h1_60, if_neg h1_61, if_neg h1_62, if_pos h1_218]
    rw [e]
    
    refine WQ.st (fun _ _ kz => pw_iload1 dX4_joined_128 kz) ?_
    refine WQ.st (fun _ _ kz => pw_iload2 dX4_joined_129 kz) ?_
    refine WQ.st (fun _ _ kz => pw_iand dX4_joined_130 kz) ?_
    refine ⟨_, _, pw_iret dX4_joined_131 rfl rfl rfl rfl, ?_⟩
    exact ⟨rfl, rfl⟩
  have g1_42 := i32_ne (z := 42) rfl h1_42
  have g1_43 := i32_ne (z := 43) rfl h1_43
  have g1_45 := i32_ne (z := 45) rfl h1_45
  have g1_60 := i32_ne (z := 60) rfl h1_60
  have g1_61 := i32_ne (z := 61) rfl h1_61
  have g1_62 := i32_ne (z := 62) rfl h1_62
  have g1_218 := i32_ne (z := 218) rfl h1_218
  refine WQ.st (fun _ _ kz => pw_lookup (off := 131) (tgt := 132) dX4_joined_1 (by decide) (by simp [Op.lookupswitch.offset, Ne.symm g1_42, Ne.symm g1_43, Ne.symm g1_45, Ne.symm g1_60, Ne.symm g1_61, Ne.symm g1_62, Ne.symm g1_218]) (by decide) kz) ?_
  have e : jnF j a b = a ||| b := by unfold jnF; rw [if_neg h1_42, if_neg h1_43, if_neg h1_45, if_neg h1_60, if_neg h1_61, if_neg h1_62, if_neg h1_218]
  rw [e]
  
  refine WQ.st (fun _ _ kz => pw_iload1 dX4_joined_132 kz) ?_
  refine WQ.st (fun _ _ kz => pw_iload2 dX4_joined_133 kz) ?_
  refine WQ.st (fun _ _ kz => pw_ior dX4_joined_134 kz) ?_
  refine ⟨_, _, pw_iret dX4_joined_135 rfl rfl rfl rfl, ?_⟩
  exact ⟨rfl, rfl⟩
/-- how high a law's stack grows -/
def rk_hb (m : Nat) : List Int32 → Nat → Prop
  | [], _ => True
  | c :: cs, n => if c < 3000 then n < m ∧ rk_hb m cs (n + 1) else if c = 3006 then rk_hb m cs n else rk_hb m cs (n - 1)
theorem rk_hb_c (m : Nat) (c : Int32) (cs : List Int32) (n : Nat) : rk_hb m (c :: cs) n = if c < 3000 then n < m ∧ rk_hb m cs (n + 1) else if c = 3006 then rk_hb m cs n else rk_hb m cs (n - 1) := rfl
theorem c3_lt {c : Int32} (h : c.toInt < 1008) : c < 3000 := (lt_i rfl li_3000).mpr (by omega)
theorem c3_ge {c : Int32} (h : 3000 ≤ c.toInt) : ¬ c < 3000 := fun q => by have := (lt_i rfl li_3000).mp q; omega
theorem c36_ne {c : Int32} (h : c.toInt ≠ 3006) : ¬ c = 3006 := fun q => h (by rw [q]; rfl)
theorem GS.hb {h : Nat} {cs : List Int32} (hg : GS h cs) : ∀ (m n : Nat) (rest : List Int32), n + h ≤ m → rk_hb m rest (n + 1) → rk_hb m (cs ++ rest) n := by
  refine hg (fun h cs => ∀ (m n : Nat) (rest : List Int32), n + h ≤ m → rk_hb m rest (n + 1) → rk_hb m (cs ++ rest) n) ?_ ?_
  · intro h c h1 h2 h3 m n rest hn hr
    rw [List.singleton_append, rk_hb_c, if_pos (c3_lt h3)]
    exact ⟨by omega, hr⟩
  · intro h xs ys c hx hy h3 h4 m n rest hn hr
    rw [List.append_assoc, List.append_assoc]
    refine hx m n _ (by omega) (hy m (n + 1) _ (by omega) ?_)
    rw [List.singleton_append, rk_hb_c, if_neg (c3_ge h3), if_neg (c36_ne (by omega))]
    exact hr
theorem TS.hb {h : Nat} {cs : List Int32} (hg : TS h cs) : ∀ (m n : Nat) (rest : List Int32), n + h ≤ m → rk_hb m rest (n + 1) → rk_hb m (cs ++ rest) n := by
  refine hg (fun h cs => ∀ (m n : Nat) (rest : List Int32), n + h ≤ m → rk_hb m rest (n + 1) → rk_hb m (cs ++ rest) n) ?_ ?_ ?_
  · intro h xs ys c hx hy h3 h4 m n rest hn hr
    rw [List.append_assoc, List.append_assoc]
    refine hx.hb m n _ (by omega) (hy.hb m (n + 1) _ (by omega) ?_)
    rw [List.singleton_append, rk_hb_c, if_neg (c3_ge (by omega)), if_neg (c36_ne (by omega))]
    exact hr
  · intro h xs hx m n rest hn hr
    rw [List.append_assoc]
    refine hx m n _ hn ?_
    rw [List.singleton_append, rk_hb_c, if_neg (by decide), if_pos rfl]
    exact hr
  · intro h xs ys c hx hy h3 m n rest hn hr
    rw [List.append_assoc, List.append_assoc]
    refine hx m n _ (by omega) (hy m (n + 1) _ (by omega) ?_)
    rcases h3 with rfl | rfl
    · rw [List.singleton_append, rk_hb_c, if_neg (by decide), if_neg (by decide)]
      exact hr
    · rw [List.singleton_append, rk_hb_c, if_neg (by decide), if_neg (by decide)]
      exact hr
theorem ctk_lt {c : Int32} (h : c < 3000) : ctk c = c := if_pos h
theorem ctk_6 : ctk 3006 = 2219 := by decide
theorem ctk_ge {c : Int32} (h : 3000 ≤ c.toInt) : 2000 ≤ ctk c := by
  unfold ctk
  rw [if_neg (c3_ge h)]
  repeat' split
  all_goals decide
theorem ctk_n6 {c : Int32} (h : 3000 ≤ c.toInt) (h6 : ¬ c = 3006) : ¬ ctk c = 2219 := by
  unfold ctk
  rw [if_neg (c3_ge h)]
  repeat' split
  all_goals first | (exact absurd (by assumption) h6) | decide
set_option maxRecDepth 20000 in
theorem l_valueOf {G : gT} {d : Nat} {S : sS} {V : sV} {P : sP} {A : sV} {B : sB} {Q : sP} {t sl : Nat} {a wd sk N : Nat} (hT : LA S P a) (hw : S wd = (20, 8)) (hk64 : S sk = (20, 64)) (hs1 : sk ≠ a + 1) (hs2 : sk ≠ wd) (hN : V a 1 = nI N) (hN9 : N ≤ 900) (v : Int32) : ∀ (cs : List Int32) (k : Nat) (s : List Int32) (R : Nat → Int32) (x5 x6 : Option Value), k + cs.length = N → (∀ i c, cs[i]? = some c → A (a + 1) (k + i) = ctk c ∧ rk_ok c) → rk_hb 64 cs s.length → s.length ≤ k ∧ s.length ≤ 64 → (∀ i, i < s.length → R (s.length - 1 - i) = s.getD i 0) → rkS (A wd) cs s = some [v] → WQ G (d + 1) mX4_valueOf 5 [some (.ref a), some (.ref wd), some (.ref sk), some (.int (nI s.length)), some (.int (nI k)), x5, x6] [] (t, sl, gh S V P (pm_up A sk R) B Q) (fun r h' => r = some (.int v) ∧ ∃ R' : Nat → Int32, h' = (t, sl, gh S V P (pm_up A sk R') B Q)) := by
  intro cs
  induction cs with
  | nil =>
    intro k s R x5 x6 hk hc hb hs hR hev
    have hsv : s = [v] := Option.some.inj hev
    have hk : k = N := hk
    subst hsv
    refine WQ.st (fun _ _ kz => pw_iload4 dX4_valueOf_5 kz) ?_
    refine WQ.st (fun _ _ kz => pw_aload0 dX4_valueOf_7 kz) ?_
    refine WQ.st (fun _ _ kz => pw_geti gX4_15 dX4_valueOf_8 (la_s0 hT) kz) ?_
    rw [hN]
    refine WQ.br (fun _ _ ka kb => pw_icmp_ge (tgt := 145) dX4_valueOf_11 (by decide) ka kb) (fun c11 => ?_) (fun c11 => absurd (by rw [le_i (ix_n (j := N) (by omega)) (ix_n (j := k) (by omega))]; omega) c11)
    refine WQ.st (fun _ _ kz => pw_iload3 dX4_valueOf_145 kz) ?_
    refine WQ.st (fun _ _ kz => pw_iconst (v := 1) dX4_valueOf_146 (by decide) kz) ?_
    refine WQ.bn (fun _ _ ka kb => pw_icmp_ne (tgt := 156) dX4_valueOf_147 (by decide) ka kb) (fun c147 => absurd rfl c147) (fun c147 => ?_)
    refine WQ.st (fun _ _ kz => pw_aload2 dX4_valueOf_150 kz) ?_
    refine WQ.st (fun _ _ kz => pw_iconst (v := 0) dX4_valueOf_151 (by decide) kz) ?_
    refine WQ.st (fun _ _ kz => pw_ald (j := 0) dX4_valueOf_152 hk64 (by decide) (by omega) kz) ?_
    rw [pm_up_eq]
    refine WQ.st (fun _ _ kz => pw_goto (tgt := 157) dX4_valueOf_153 (by decide) kz) ?_
    refine ⟨_, _, pw_iret dX4_valueOf_157 rfl rfl rfl rfl, ?_⟩
    exact ⟨rI (hR 0 Nat.zero_lt_one), _, rfl⟩
  | cons c cs ih =>
    intro k s R x5 x6 hk hc hb hs hR hev
    obtain ⟨hc0, hok⟩ := hc 0 c rfl
    have hc0 : A (a + 1) k = ctk c := hc0
    have hk' : k + (cs.length + 1) = N := hk
    have hcn : ∀ i c', cs[i]? = some c' → A (a + 1) (k + 1 + i) = ctk c' ∧ rk_ok c' := by
      intro i c' hi
      have := hc (i + 1) c' hi
      rw [show k + 1 + i = k + (i + 1) by omega]
      exact this
    rw [rkS_c] at hev
    rw [rk_hb_c] at hb
    unfold rk_ok at hok
    by_cases h3 : c < 3000
    · rw [if_pos h3] at hev hb
      have h3i : c.toInt < 3000 := (lt_i rfl li_3000).mp h3
      have h64 := hb.1
      have push : ∀ (x : Int32) (y5 y6 : Option Value), rkS (A wd) cs (x :: s) = some [v] → WQ G (d + 1) mX4_valueOf 5 [some (.ref a), some (.ref wd), some (.ref sk), some (.int (nI (s.length + 1))), some (.int (nI (k + 1))), y5, y6] [] (t, sl, gh S V P (pm_up A sk (pm_up R s.length x)) B Q) (fun r h' => r = some (.int v) ∧ ∃ R' : Nat → Int32, h' = (t, sl, gh S V P (pm_up A sk R') B Q)) := by
        intro x y5 y6 hx
        refine ih (k + 1) (x :: s) (pm_up R s.length x) y5 y6 (by omega) hcn hb.2 ⟨by simp only [List.length_cons]; omega, by simp only [List.length_cons]; omega⟩ (fun i hi => ?_) hx
        match i with
        | 0 => exact pm_up_eq
        | i + 1 =>
          simp only [List.length_cons] at hi ⊢
          rw [pm_up_ne (by omega), show s.length + 1 - 1 - (i + 1) = s.length - 1 - i by omega, hR i (by omega)]
          rfl
      refine WQ.st (fun _ _ kz => pw_iload4 dX4_valueOf_5 kz) ?_
      refine WQ.st (fun _ _ kz => pw_aload0 dX4_valueOf_7 kz) ?_
      refine WQ.st (fun _ _ kz => pw_geti gX4_15 dX4_valueOf_8 (la_s0 hT) kz) ?_
      rw [hN]
      refine WQ.br (fun _ _ ka kb => pw_icmp_ge (tgt := 145) dX4_valueOf_11 (by decide) ka kb) (fun c11 => absurd c11 (by rw [le_i (ix_n (j := N) (by omega)) (ix_n (j := k) (by omega))]; omega)) (fun c11 => ?_)
      refine WQ.st (fun _ _ kz => pw_aload0 dX4_valueOf_14 kz) ?_
      refine WQ.st (fun _ _ kz => pw_getr gX4_9 dX4_valueOf_15 (la_s0 hT) (la_p0_0 hT) kz) ?_
      refine WQ.st (fun _ _ kz => pw_iload4 dX4_valueOf_18 kz) ?_
      refine WQ.st (fun _ _ kz => pw_ald (j := k) dX4_valueOf_20 (la_s1 hT) (ix_m rfl (by omega)) (by omega) kz) ?_
      rw [pmn (show a + 1 ≠ sk from fun q => hs1 q.symm), hc0]
      refine WQ.st (fun _ _ kz => pw_istore5 dX4_valueOf_21 (by decide) (k := kz)) ?_
      refine WQ.st (fun _ _ kz => pw_iload5 dX4_valueOf_23 kz) ?_
      refine WQ.st (fun _ _ kz => pw_sipush (v := 2000) dX4_valueOf_25 (by decide) kz) ?_
      refine WQ.br (fun _ _ ka kb => pw_icmp_ge (tgt := 77) dX4_valueOf_28 (by decide) ka kb) (fun c28 => absurd c28 (fun q => by rw [ctk_lt h3, le_i (show (2000 : Int32).toInt = 2000 from rfl) rfl] at q; omega)) (fun c28 => ?_)
      refine WQ.st (fun _ _ kz => pw_iload5 dX4_valueOf_31 kz) ?_
      refine WQ.st (fun _ _ kz => pw_sipush (v := 1000) dX4_valueOf_33 (by decide) kz) ?_
      refine WQ.st (fun _ _ kz => pw_isub dX4_valueOf_36 kz) ?_
      refine WQ.st (fun _ _ kz => pw_istore6 dX4_valueOf_37 (by decide) (k := kz)) ?_
      refine WQ.st (fun _ _ kz => pw_iload3 dX4_valueOf_39 kz) ?_
      refine WQ.st (fun _ _ kz => pw_aload2 dX4_valueOf_40 kz) ?_
      refine WQ.st (fun _ _ kz => pw_len dX4_valueOf_41 hk64 (by decide) kz) ?_
      refine WQ.br (fun _ _ ka kb => pw_icmp_ge (tgt := 52) dX4_valueOf_42 (by decide) ka kb) (fun c42 => absurd c42 (by rw [show (Int32.ofNat 64) = nI 64 from rfl, le_i (ix_n (j := 64) (by omega)) (ix_n (j := s.length) (by omega))]; omega)) (fun c42 => ?_)
      refine WQ.st (fun _ _ kz => pw_iload6 dX4_valueOf_45 kz) ?_
      refine WQ.st (fun _ _ kz => pw_aload1 dX4_valueOf_47 kz) ?_
      refine WQ.st (fun _ _ kz => pw_len dX4_valueOf_48 hw (by decide) kz) ?_
      refine WQ.br (fun _ _ ka kb => pw_icmp_lt (tgt := 54) dX4_valueOf_49 (by decide) ka kb) (fun c49 => ?_) (fun c49 => absurd (by rw [ctk_lt h3, lt_i (ti_sub rfl li_1000 (by omega)) (show (Int32.ofNat 8).toInt = 8 from rfl)]; omega) c49)
      refine WQ.st (fun _ _ kz => pw_aload2 dX4_valueOf_54 kz) ?_
      refine WQ.st (fun _ _ kz => pw_iload3 dX4_valueOf_55 kz) ?_
      refine WQ.st (fun _ _ kz => pw_iload6 dX4_valueOf_56 kz) ?_
      refine WQ.br (fun _ _ ka kb => pw_if_ge (tgt := 66) dX4_valueOf_58 (by decide) ka kb) (fun c58 => ?_) (fun c58 => ?_)
      · rw [ctk_lt h3] at c58 ⊢
        rw [le_i (show (0 : Int32).toInt = 0 from rfl) (ti_sub rfl li_1000 (by omega))] at c58
        refine WQ.st (fun _ _ kz => pw_aload1 dX4_valueOf_66 kz) ?_
        refine WQ.st (fun _ _ kz => pw_iload6 dX4_valueOf_67 kz) ?_
        refine WQ.st (fun _ _ kz => pw_ald (j := (c.toInt - 1000).toNat) dX4_valueOf_69 hw ((ti_sub rfl li_1000 (by omega)).trans (by omega)) (by omega) kz) ?_
        rw [pmn (show wd ≠ sk from fun q => hs2 q.symm)]
        refine WQ.st (fun _ _ kz => pw_ast (j := s.length) dX4_valueOf_70 hk64 (ix_m rfl (by omega)) (by omega)  kz) ?_
        refine WQ.st (fun _ _ kz => pw_iinc3 (v := 1) dX4_valueOf_71 (by decide) (by decide) (k := kz)) ?_
        refine WQ.st (fun _ _ kz => pw_goto (tgt := 139) dX4_valueOf_74 (by decide) kz) ?_
        refine WQ.st (fun _ _ kz => pw_iinc4 (v := 1) dX4_valueOf_139 (by decide) (by decide) (k := kz)) ?_
        refine WQ.st (fun _ _ kz => pw_goto (tgt := 5) dX4_valueOf_142 (by decide) kz) ?_
        rw [nI_1, nI_1, up2_up]
        have e : (if c < 1000 then c else A wd (c.toInt - 1000).toNat) = A wd (c.toInt - 1000).toNat := if_neg (fun q => by have := (lt_i rfl li_1000).mp q; omega)
        rw [e] at hev
        exact push _ _ _ hev
      · rw [ctk_lt h3] at c58 ⊢
        rw [le_i (show (0 : Int32).toInt = 0 from rfl) (ti_sub rfl li_1000 (by omega))] at c58
        refine WQ.st (fun _ _ kz => pw_iload5 dX4_valueOf_61 kz) ?_
        refine WQ.st (fun _ _ kz => pw_goto (tgt := 70) dX4_valueOf_63 (by decide) kz) ?_
        refine WQ.st (fun _ _ kz => pw_ast (j := s.length) dX4_valueOf_70 hk64 (ix_m rfl (by omega)) (by omega)  kz) ?_
        refine WQ.st (fun _ _ kz => pw_iinc3 (v := 1) dX4_valueOf_71 (by decide) (by decide) (k := kz)) ?_
        refine WQ.st (fun _ _ kz => pw_goto (tgt := 139) dX4_valueOf_74 (by decide) kz) ?_
        refine WQ.st (fun _ _ kz => pw_iinc4 (v := 1) dX4_valueOf_139 (by decide) (by decide) (k := kz)) ?_
        refine WQ.st (fun _ _ kz => pw_goto (tgt := 5) dX4_valueOf_142 (by decide) kz) ?_
        rw [nI_1, nI_1, up2_up]
        have e : (if c < 1000 then c else A wd (c.toInt - 1000).toNat) = c := if_pos ((lt_i rfl li_1000).mpr (by omega))
        rw [e] at hev
        exact push _ _ _ hev
    · rw [if_neg h3] at hev hb
      have hg : 3000 ≤ c.toInt := by
        have := Int32.not_lt.mp h3
        exact (le_i li_3000 rfl).mp this
      by_cases h6 : c = 3006
      · rw [if_pos h6] at hev hb
        match s, hb, hs, hR, hev with
        | [], _, _, _, hev => cases hev
        | x :: s, hb, hs, hR, hev =>
          have hx0 : R s.length = x := hR 0 (Nat.succ_pos _)
          have hl9 : nI (x :: s).length - 1 = nI s.length := nI_pred s.length
          have hs' : s.length + 1 ≤ k ∧ s.length + 1 ≤ 64 := hs
          have kk := fun y5 y6 => ih (k + 1) ((1 - x) :: s) (pm_up R s.length (1 - x)) y5 y6 (by omega) hcn hb ⟨by simp only [List.length_cons]; omega, by simp only [List.length_cons]; omega⟩ (fun i hi => by
            match i with
            | 0 => exact pm_up_eq
            | i + 1 =>
              simp only [List.length_cons] at hi ⊢
              rw [pm_up_ne (by omega)]
              exact hR (i + 1) (by simp only [List.length_cons]; omega)) hev
          refine WQ.st (fun _ _ kz => pw_iload4 dX4_valueOf_5 kz) ?_
          refine WQ.st (fun _ _ kz => pw_aload0 dX4_valueOf_7 kz) ?_
          refine WQ.st (fun _ _ kz => pw_geti gX4_15 dX4_valueOf_8 (la_s0 hT) kz) ?_
          rw [hN]
          refine WQ.br (fun _ _ ka kb => pw_icmp_ge (tgt := 145) dX4_valueOf_11 (by decide) ka kb) (fun c11 => absurd c11 (by rw [le_i (ix_n (j := N) (by omega)) (ix_n (j := k) (by omega))]; omega)) (fun c11 => ?_)
          refine WQ.st (fun _ _ kz => pw_aload0 dX4_valueOf_14 kz) ?_
          refine WQ.st (fun _ _ kz => pw_getr gX4_9 dX4_valueOf_15 (la_s0 hT) (la_p0_0 hT) kz) ?_
          refine WQ.st (fun _ _ kz => pw_iload4 dX4_valueOf_18 kz) ?_
          refine WQ.st (fun _ _ kz => pw_ald (j := k) dX4_valueOf_20 (la_s1 hT) (ix_m rfl (by omega)) (by omega) kz) ?_
          rw [pmn (show a + 1 ≠ sk from fun q => hs1 q.symm), hc0]
          refine WQ.st (fun _ _ kz => pw_istore5 dX4_valueOf_21 (by decide) (k := kz)) ?_
          refine WQ.st (fun _ _ kz => pw_iload5 dX4_valueOf_23 kz) ?_
          refine WQ.st (fun _ _ kz => pw_sipush (v := 2000) dX4_valueOf_25 (by decide) kz) ?_
          refine WQ.br (fun _ _ ka kb => pw_icmp_ge (tgt := 77) dX4_valueOf_28 (by decide) ka kb) (fun c28 => ?_) (fun c28 => absurd (ctk_ge (by rw [h6]; decide)) c28)
          refine WQ.st (fun _ _ kz => pw_iload5 dX4_valueOf_77 kz) ?_
          refine WQ.st (fun _ _ kz => pw_sipush (v := 2219) dX4_valueOf_79 (by decide) kz) ?_
          refine WQ.bn (fun _ _ ka kb => pw_icmp_ne (tgt := 107) dX4_valueOf_82 (by decide) ka kb) (fun c82 => absurd (by rw [h6]; exact ctk_6) c82) (fun c82 => ?_)
          refine WQ.st (fun _ _ kz => pw_iload3 dX4_valueOf_85 kz) ?_
          refine WQ.st (fun _ _ kz => pw_iconst (v := 1) dX4_valueOf_86 (by decide) kz) ?_
          refine WQ.br (fun _ _ ka kb => pw_icmp_ge (tgt := 92) dX4_valueOf_87 (by decide) ka kb) (fun c87 => ?_) (fun c87 => absurd (by rw [nl_1, le_i (ix_n (j := 1) (by omega)) (ix_n (j := (x :: s).length) (by simp only [List.length_cons]; omega))]; simp only [List.length_cons]; omega) c87)
          refine WQ.st (fun _ _ kz => pw_aload2 dX4_valueOf_92 kz) ?_
          refine WQ.st (fun _ _ kz => pw_iload3 dX4_valueOf_93 kz) ?_
          refine WQ.st (fun _ _ kz => pw_iconst (v := 1) dX4_valueOf_94 (by decide) kz) ?_
          refine WQ.st (fun _ _ kz => pw_isub dX4_valueOf_95 kz) ?_
          refine WQ.st (fun _ _ kz => pw_iconst (v := 1) dX4_valueOf_96 (by decide) kz) ?_
          refine WQ.st (fun _ _ kz => pw_aload2 dX4_valueOf_97 kz) ?_
          refine WQ.st (fun _ _ kz => pw_iload3 dX4_valueOf_98 kz) ?_
          refine WQ.st (fun _ _ kz => pw_iconst (v := 1) dX4_valueOf_99 (by decide) kz) ?_
          refine WQ.st (fun _ _ kz => pw_isub dX4_valueOf_100 kz) ?_
          refine WQ.st (fun _ _ kz => pw_ald (j := s.length) dX4_valueOf_101 hk64 (by rw [hl9]; exact ix_m rfl (by omega)) (by omega) kz) ?_
          rw [pm_up_eq, hx0]
          refine WQ.st (fun _ _ kz => pw_isub dX4_valueOf_102 kz) ?_
          refine WQ.st (fun _ _ kz => pw_ast (j := s.length) dX4_valueOf_103 hk64 (by rw [hl9]; exact ix_m rfl (by omega)) (by omega)  kz) ?_
          refine WQ.st (fun _ _ kz => pw_goto (tgt := 139) dX4_valueOf_104 (by decide) kz) ?_
          refine WQ.st (fun _ _ kz => pw_iinc4 (v := 1) dX4_valueOf_139 (by decide) (by decide) (k := kz)) ?_
          refine WQ.st (fun _ _ kz => pw_goto (tgt := 5) dX4_valueOf_142 (by decide) kz) ?_
          rw [nI_1, up2_up]
          exact kk _ _
      · rw [if_neg h6] at hev hb
        match s, hb, hs, hR, hev with
        | [], _, _, _, hev => cases hev
        | [_], _, _, _, hev => cases hev
        | y :: x :: s, hb, hs, hR, hev =>
          have hy0 : R (s.length + 1) = y := hR 0 (Nat.succ_pos _)
          have hx0 : R s.length = x := hR 1 (by simp only [List.length_cons]; omega)
          have hl9 : nI (y :: x :: s).length + (-1) = nI (s.length + 1) := pk_m1 (s.length + 1)
          have hl8 : nI (s.length + 1) - 1 = nI s.length := nI_pred s.length
          have hs' : s.length + 2 ≤ k ∧ s.length + 2 ≤ 64 := hs
          have kk := fun y5 y6 => ih (k + 1) (rf_btw c x y :: s) (pm_up R s.length (rf_btw c x y)) y5 y6 (by omega) hcn hb ⟨by simp only [List.length_cons]; omega, by simp only [List.length_cons]; omega⟩ (fun i hi => by
            match i with
            | 0 => exact pm_up_eq
            | i + 1 =>
              simp only [List.length_cons] at hi ⊢
              rw [pm_up_ne (by omega)]
              have := hR (i + 2) (by simp only [List.length_cons]; omega)
              simp only [List.length_cons] at this
              rw [show s.length + 1 - 1 - (i + 1) = s.length + 1 + 1 - 1 - (i + 2) by omega]
              exact this) hev
          refine WQ.st (fun _ _ kz => pw_iload4 dX4_valueOf_5 kz) ?_
          refine WQ.st (fun _ _ kz => pw_aload0 dX4_valueOf_7 kz) ?_
          refine WQ.st (fun _ _ kz => pw_geti gX4_15 dX4_valueOf_8 (la_s0 hT) kz) ?_
          rw [hN]
          refine WQ.br (fun _ _ ka kb => pw_icmp_ge (tgt := 145) dX4_valueOf_11 (by decide) ka kb) (fun c11 => absurd c11 (by rw [le_i (ix_n (j := N) (by omega)) (ix_n (j := k) (by omega))]; omega)) (fun c11 => ?_)
          refine WQ.st (fun _ _ kz => pw_aload0 dX4_valueOf_14 kz) ?_
          refine WQ.st (fun _ _ kz => pw_getr gX4_9 dX4_valueOf_15 (la_s0 hT) (la_p0_0 hT) kz) ?_
          refine WQ.st (fun _ _ kz => pw_iload4 dX4_valueOf_18 kz) ?_
          refine WQ.st (fun _ _ kz => pw_ald (j := k) dX4_valueOf_20 (la_s1 hT) (ix_m rfl (by omega)) (by omega) kz) ?_
          rw [pmn (show a + 1 ≠ sk from fun q => hs1 q.symm), hc0]
          refine WQ.st (fun _ _ kz => pw_istore5 dX4_valueOf_21 (by decide) (k := kz)) ?_
          refine WQ.st (fun _ _ kz => pw_iload5 dX4_valueOf_23 kz) ?_
          refine WQ.st (fun _ _ kz => pw_sipush (v := 2000) dX4_valueOf_25 (by decide) kz) ?_
          refine WQ.br (fun _ _ ka kb => pw_icmp_ge (tgt := 77) dX4_valueOf_28 (by decide) ka kb) (fun c28 => ?_) (fun c28 => absurd (ctk_ge hg) c28)
          refine WQ.st (fun _ _ kz => pw_iload5 dX4_valueOf_77 kz) ?_
          refine WQ.st (fun _ _ kz => pw_sipush (v := 2219) dX4_valueOf_79 (by decide) kz) ?_
          refine WQ.bn (fun _ _ ka kb => pw_icmp_ne (tgt := 107) dX4_valueOf_82 (by decide) ka kb) (fun c82 => ?_) (fun c82 => absurd c82 (ctk_n6 hg h6))
          refine WQ.st (fun _ _ kz => pw_iload3 dX4_valueOf_107 kz) ?_
          refine WQ.st (fun _ _ kz => pw_iconst (v := 2) dX4_valueOf_108 (by decide) kz) ?_
          refine WQ.br (fun _ _ ka kb => pw_icmp_ge (tgt := 114) dX4_valueOf_109 (by decide) ka kb) (fun c109 => ?_) (fun c109 => absurd (by rw [nl_2, le_i (ix_n (j := 2) (by omega)) (ix_n (j := (y :: x :: s).length) (by simp only [List.length_cons]; omega))]; simp only [List.length_cons]; omega) c109)
          refine WQ.st (fun _ _ kz => pw_iinc3 (v := -1) dX4_valueOf_114 (by decide) (by decide) (k := kz)) ?_
          rw [hl9]
          refine WQ.st (fun _ _ kz => pw_aload2 dX4_valueOf_117 kz) ?_
          refine WQ.st (fun _ _ kz => pw_iload3 dX4_valueOf_118 kz) ?_
          refine WQ.st (fun _ _ kz => pw_iconst (v := 1) dX4_valueOf_119 (by decide) kz) ?_
          refine WQ.st (fun _ _ kz => pw_isub dX4_valueOf_120 kz) ?_
          refine WQ.st (fun _ _ kz => pw_iload5 dX4_valueOf_121 kz) ?_
          refine WQ.st (fun _ _ kz => pw_sipush (v := 2000) dX4_valueOf_123 (by decide) kz) ?_
          refine WQ.st (fun _ _ kz => pw_isub dX4_valueOf_126 kz) ?_
          refine WQ.st (fun _ _ kz => pw_aload2 dX4_valueOf_127 kz) ?_
          refine WQ.st (fun _ _ kz => pw_iload3 dX4_valueOf_128 kz) ?_
          refine WQ.st (fun _ _ kz => pw_iconst (v := 1) dX4_valueOf_129 (by decide) kz) ?_
          refine WQ.st (fun _ _ kz => pw_isub dX4_valueOf_130 kz) ?_
          refine WQ.st (fun _ _ kz => pw_ald (j := s.length) dX4_valueOf_131 hk64 (by rw [hl8]; exact ix_m rfl (by omega)) (by omega) kz) ?_
          rw [pm_up_eq, hx0]
          refine WQ.st (fun _ _ kz => pw_aload2 dX4_valueOf_132 kz) ?_
          refine WQ.st (fun _ _ kz => pw_iload3 dX4_valueOf_133 kz) ?_
          refine WQ.st (fun _ _ kz => pw_ald (j := s.length + 1) dX4_valueOf_134 hk64 (ix_m rfl (by omega)) (by omega) kz) ?_
          rw [pm_up_eq, hy0]
          refine wq_s3i wX4_joined lX4_24 dX4_valueOf_135 (k_joined _ _ _) rfl (Nat.le_of_ble_eq_true rfl) (Nat.le_of_ble_eq_true rfl) (fun h135 z135 => ?_)
          subst z135
          rw [jn_btw ⟨hg, by omega⟩ h6]
          refine WQ.st (fun _ _ kz => pw_ast (j := s.length) dX4_valueOf_138 hk64 (by rw [hl8]; exact ix_m rfl (by omega)) (by omega)  kz) ?_
          refine WQ.st (fun _ _ kz => pw_iinc4 (v := 1) dX4_valueOf_139 (by decide) (by decide) (k := kz)) ?_
          refine WQ.st (fun _ _ kz => pw_goto (tgt := 5) dX4_valueOf_142 (by decide) kz) ?_
          rw [nI_1, up2_up]
          exact kk _ _
set_option maxRecDepth 20000 in
theorem k_valueOf {G : gT} {d : Nat} {S : sS} {V : sV} {P : sP} {A : sV} {B : sB} {Q : sP} {t sl : Nat} {a wd sk : Nat} (hT : LA S P a) (hw : S wd = (20, 8)) (hk64 : S sk = (20, 64)) (hs1 : sk ≠ a + 1) (hs2 : sk ≠ wd) {cs : List Int32} (hN : V a 1 = nI cs.length) (hN9 : cs.length ≤ 900) (hc : ∀ (i : Nat) (c : Int32), cs[i]? = some c → A (a + 1) i = ctk c ∧ rk_ok c) (hb : rk_hb 64 cs 0) {v : Int32} (hev : rkS (A wd) cs [] = some [v]) : WQ G (d + 1) mX4_valueOf 0 [some (.ref a), some (.ref wd), some (.ref sk), none, none, none, none] [] (t, sl, gh S V P A B Q) (fun r h' => r = some (.int v) ∧ ∃ R' : Nat → Int32, h' = (t, sl, gh S V P (pm_up A sk R') B Q)) := by
  refine WQ.st (fun _ _ kz => pw_iconst (v := 0) dX4_valueOf_0 (by decide) kz) ?_
  refine WQ.st (fun _ _ kz => pw_istore3 dX4_valueOf_1 (by decide) (k := kz)) ?_
  refine WQ.st (fun _ _ kz => pw_iconst (v := 0) dX4_valueOf_2 (by decide) kz) ?_
  refine WQ.st (fun _ _ kz => pw_istore4 dX4_valueOf_3 (by decide) (k := kz)) ?_
  have k0 := l_valueOf (G := G) (d := d) (S := S) (P := P) (A := A) (V := V) (B := B) (Q := Q) (t := t) (sl := sl) hT hw hk64 hs1 hs2 hN hN9 v cs 0 [] (A sk) none none (by omega) (fun i c hi => by rw [Nat.zero_add]; exact hc i c hi) hb ⟨Nat.le_refl 0, Nat.zero_le 64⟩ (fun i hi => absurd hi (by simp)) hev
  rw [pm_up_self] at k0
  exact k0
