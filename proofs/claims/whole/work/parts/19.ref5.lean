/-! ===== the reference: the table of gladnesses ===== -/
theorem c_gladBy' {G : gT} {d : Nat} {S : sS} {V : sV} {P : sP} {A : sV} {B : sB} {Q : sP} {t sl o : Nat} (hF : MF S P o) {p q b : Nat} (hp : p < 5) (hq : q < 4) (hb : b < 12) {g : Option (List Int32)} (hg : LW (A (o + 1)) 0 g) (x y z : Int32) : ∃ A' : sV, PW G (d + 2) mX12_gladBy 0 [some (.ref o), some (.int (nI p)), some (.int (nI q)), some (.int (nI b)), some (.int x), some (.int y), some (.int z)] [] (t, sl, gh S V P A B Q) (some (.int (rf_glad (A (o + 1)) g p q b x y z))) (t, sl, gh S V P A' B Q) ∧ ∀ a, a ≠ o + 5 → a ≠ o + 6 → A' a = A a := by
  obtain ⟨W', R', k⟩ := c_gladBy (G := G) (d := d) (V := V) (B := B) (Q := Q) (t := t) (sl := sl) hF hp hq hb hg x y z
  exact ⟨_, k, fun a h5 h6 => by rw [pm_up_ne h5, pm_up_ne h6]⟩
theorem c_mayDraw' {G : gT} {d : Nat} {S : sS} {V : sV} {P : sP} {A : sV} {B : sB} {Q : sP} {t sl o : Nat} (hF : MF S P o) {p q b : Nat} (hp : p < 5) (hq : q < 4) (hb : b < 12) {g : Option (List Int32)} (hg : LW (A (o + 1)) 1 g) (x y z : Int32) : ∃ A' : sV, PW G (d + 2) mX12_mayDraw 0 [some (.ref o), some (.int (nI p)), some (.int (nI q)), some (.int (nI b)), some (.int x), some (.int y), some (.int z)] [] (t, sl, gh S V P A B Q) (some (.int (bI (decide (-20 ≤ (z - x).toInt64 ∧ (z - x).toInt64 ≤ 20) && rf_may (A (o + 1)) g p q b x y z)))) (t, sl, gh S V P A' B Q) ∧ ∀ a, a ≠ o + 5 → a ≠ o + 6 → A' a = A a := by
  obtain ⟨W', R', k⟩ := c_mayDraw (G := G) (d := d) (V := V) (B := B) (Q := Q) (t := t) (sl := sl) hF hp hq hb hg x y z
  exact ⟨_, k, fun a h5 h6 => by rw [pm_up_ne h5, pm_up_ne h6]⟩
/-- a store that a draw may come to -/
def rf_in (s w : Nat) : Bool := decide (w ≤ s + 2 ∧ s + 2 ≤ w + 40)
theorem rf_in_eq {s w : Nat} (hs : s < 41) (hw : w < 5) : decide (-20 ≤ (sI s - dI w).toInt64 ∧ (sI s - dI w).toInt64 ≤ 20) = rf_in s w := by
  have e : (sI s - dI w).toInt64.toInt = (s : Int) - 20 - ((w : Int) - 2) := by
    rw [Int32.toInt_toInt64, sI_dI, iI_toInt (by omega)]
  unfold rf_in
  rw [decide_eq_decide, i64_le lj_m20 e, i64_le e lj_20]
  omega
/-- how glad, or that it can't be -/
def rf_g (al : Nat → Int32) (g m : Option (List Int32)) (p q b l s w : Nat) : Int32 := if rf_in s w && rf_may al m p q b (dI w) (dI l) (sI s) then rf_glad al g p q b (dI w) (dI l) (sI s) else -268435456
theorem gl_I (n q : Nat) : 5 * nI n + dI q + 2 = nI (5 * n + q) := by
  unfold dI
  rw [show (5 : Int32) = iI 5 from rfl, show (2 : Int32) = iI 2 from rfl, iI_nat, iI_nat, iI_mul, iI_add, iI_add]
  congr 1
  omega
def rf_GG (al : Nat → Int32) (g m : Option (List Int32)) (p q : Nat) (j : Nat) : Int32 := rf_g al g m p q (j / 1025) (j / 205 % 5) (j / 5 % 41) (j % 5)
theorem rf_GG_at {al : Nat → Int32} {g m : Option (List Int32)} {p q b l s w : Nat} (hl : l < 5) (hs : s < 41) (hw : w < 5) : rf_GG al g m p q (5 * ((5 * b + l) * 41 + s) + w) = rf_g al g m p q b l s w := by
  unfold rf_GG
  rw [show (5 * ((5 * b + l) * 41 + s) + w) / 1025 = b by omega, show (5 * ((5 * b + l) * 41 + s) + w) / 205 % 5 = l by omega, show (5 * ((5 * b + l) * 41 + s) + w) / 5 % 41 = s by omega, show (5 * ((5 * b + l) * 41 + s) + w) % 5 = w by omega]
/-- the table is laid up to the place n, all else but what is reckoned with is as it was -/
def GL (o : Nat) (A0 : sV) (g m : Option (List Int32)) (p q n : Nat) (A : sV) : Prop := (∀ a, a ≠ o + 5 → a ≠ o + 6 → a ≠ o + 7 → A a = A0 a) ∧ ∀ j, A (o + 7) j = if j < n then rf_GG (A0 (o + 1)) g m p q j else A0 (o + 7) j
set_option maxRecDepth 20000 in
theorem l_laysGlad {G : gT} {d : Nat} {S : sS} {V : sV} {P : sP} {B : sB} {Q : sP} {t sl o : Nat} (hF : MF S P o) {A0 : sV} {p q b l s : Nat} (hp : p < 5) (hq : q < 4) (hb : b < 12) (hl : l < 5) (hs : s < 41) {g m : Option (List Int32)} (hg : LW (A0 (o + 1)) 0 g) (hm : LW (A0 (o + 1)) 1 m) : ∀ (c w : Nat) (A : sV), w + c = 5 → GL o A0 g m p q (5 * ((5 * b + l) * 41 + s) + w) A → ∃ A' : sV, PW G (d + 3) mX12_laysGlad 4 [some (.ref o), some (.int (nI p)), some (.int (nI q)), some (.int (nI b)), some (.int (dI l)), some (.int (sI s)), some (.int (dI w))] [] (t, sl, gh S V P A B Q) none (t, sl, gh S V P A' B Q) ∧ GL o A0 g m p q (5 * ((5 * b + l) * 41 + s) + 5) A' := by
  intro c
  induction c with
  | zero =>
    intro w A hw hG
    have hw5 : w = 5 := hw
    subst hw5
    refine ⟨A, ?_, hG⟩
    refine pw_iload6 dX12_laysGlad_4 ?_
    refine pw_iconst (v := 2) dX12_laysGlad_6 (by decide) ?_
    refine pw_icmp_gt (tgt := 71) dX12_laysGlad_7 (by decide) (fun c7 => ?_) (fun c7 => absurd (by rw [lt_i li_2 (dI_t (by omega))]; omega) c7)
    exact pw_vret dX12_laysGlad_71 rfl rfl rfl
  | succ c ih =>
    intro w A hw hG
    have e1 : A (o + 1) = A0 (o + 1) := hG.1 _ (by omega) (by omega) (by omega)
    obtain ⟨A1, k1, f1⟩ := c_mayDraw' (G := G) (d := d) (V := V) (B := B) (Q := Q) (t := t) (sl := sl) (A := A) hF hp hq hb (g := m) (by rw [e1]; exact hm) (dI w) (dI l) (sI s)
    have e2 : A1 (o + 1) = A0 (o + 1) := (f1 _ (by omega) (by omega)).trans e1
    obtain ⟨A2, k2, f2⟩ := c_gladBy' (G := G) (d := d) (V := V) (B := B) (Q := Q) (t := t) (sl := sl) (A := A1) hF hp hq hb (g := g) (by rw [e2]; exact hg) (dI w) (dI l) (sI s)
    rw [e1, rf_in_eq hs (by omega)] at k1
    rw [e2] at k2
    have ln : ∀ (A' : sV) (x : Int32), (∀ a, a ≠ o + 5 → a ≠ o + 6 → A' a = A a) → x = rf_g (A0 (o + 1)) g m p q b l s w → GL o A0 g m p q (5 * ((5 * b + l) * 41 + s) + (w + 1)) (up2 A' (o + 7) (5 * ((5 * b + l) * 41 + s) + w) x) := by
      intro A' x hf hx
      refine ⟨fun a h5 h6 h7 => by rw [up2_na h7, hf a h5 h6]; exact hG.1 a h5 h6 h7, fun j => ?_⟩
      rw [up2_at, hf _ (by omega) (by omega)]
      by_cases ej : j = 5 * ((5 * b + l) * 41 + s) + w
      · rw [ej, pm_up_eq, if_pos (by omega), rf_GG_at hl hs (by omega), hx]
      · rw [pm_up_ne ej, hG.2 j]
        by_cases e3 : j < 5 * ((5 * b + l) * 41 + s) + w
        · rw [if_pos e3, if_pos (by omega)]
        · rw [if_neg e3, if_neg (by omega)]
    cases hv : rf_in s w && rf_may (A0 (o + 1)) m p q b (dI w) (dI l) (sI s) with
    | true =>
      obtain ⟨A', kk, hA'⟩ := ih (w + 1) _ (by omega) (ln A2 (rf_glad (A0 (o + 1)) g p q b (dI w) (dI l) (sI s)) (fun a h5 h6 => (f2 a h5 h6).trans (f1 a h5 h6)) (by unfold rf_g; rw [hv]; rfl))
      refine ⟨A', ?_, hA'⟩
      rw [hv] at k1
      have kc : ∀ {X : Prop}, true = false → X := fun q => absurd q (by decide)
      have kg : true = true → PW G (d + 3) mX12_laysGlad 4 [some (.ref o), some (.int (nI p)), some (.int (nI q)), some (.int (nI b)), some (.int (dI l)), some (.int (sI s)), some (.int (dI (w + 1)))] [] (t, sl, gh S V P (up2 A2 (o + 7) (5 * ((5 * b + l) * 41 + s) + w) (rf_glad (A0 (o + 1)) g p q b (dI w) (dI l) (sI s))) B Q) none (t, sl, gh S V P A' B Q) := fun _ => kk
      refine pw_iload6 dX12_laysGlad_4 ?_
      refine pw_iconst (v := 2) dX12_laysGlad_6 (by decide) ?_
      refine pw_icmp_gt (tgt := 71) dX12_laysGlad_7 (by decide) (fun c7 => absurd c7 (by rw [lt_i li_2 (dI_t (by omega))]; omega)) (fun c7 => ?_)
      refine pw_aload0 dX12_laysGlad_10 ?_
      refine pw_getr gX12_36 dX12_laysGlad_11 hF.1 (mf_p17 hF) ?_
      refine pw_iconst (v := 5) dX12_laysGlad_14 (by decide) ?_
      refine pw_iload3 dX12_laysGlad_15 ?_
      refine pw_iload4 dX12_laysGlad_16 ?_
      refine pw_iload5 dX12_laysGlad_18 ?_
      refine pw_s3i wX12_spot lX12_262 dX12_laysGlad_20 (c_spotI b l s) rfl (Nat.le_of_ble_eq_true rfl) (Nat.le_of_ble_eq_true rfl) ?_
      refine pw_imul dX12_laysGlad_23 ?_
      refine pw_iload6 dX12_laysGlad_24 ?_
      refine pw_iadd dX12_laysGlad_26 ?_
      refine pw_iconst (v := 2) dX12_laysGlad_27 (by decide) ?_
      refine pw_iadd dX12_laysGlad_28 ?_
      rw [gl_I]
      refine pw_aload0 dX12_laysGlad_29 ?_
      refine pw_iload1 dX12_laysGlad_30 ?_
      refine pw_iload2 dX12_laysGlad_31 ?_
      refine pw_iload3 dX12_laysGlad_32 ?_
      refine pw_iload6 dX12_laysGlad_33 ?_
      refine pw_iload4 dX12_laysGlad_35 ?_
      refine pw_iload5 dX12_laysGlad_37 ?_
      refine pw_o6i wX12_mayDraw lX12_269 rfl dX12_laysGlad_39 hF.1 (k1) rfl (Nat.le_of_ble_eq_true rfl) (Nat.le_of_ble_eq_true rfl) ?_
      refine pw_if_eq (tgt := 61) dX12_laysGlad_42 (by decide) (fun c42 => ?_) (fun c42 => ?_)
      · refine pw_ldcw kX12_273 dX12_laysGlad_61 ?_
        refine pw_ast (j := 5 * ((5 * b + l) * 41 + s) + w) dX12_laysGlad_64 (mf_s7 hF) (ix_m rfl (by omega)) (by omega)  ?_
        refine pw_iinc6 (v := 1) dX12_laysGlad_65 (by decide) (by decide) (k := ?_)
        refine pw_goto (tgt := 4) dX12_laysGlad_68 (by decide) ?_
        rw [dI_1]
        exact kc (bI_0.mp c42)
      · refine pw_aload0 dX12_laysGlad_45 ?_
        refine pw_iload1 dX12_laysGlad_46 ?_
        refine pw_iload2 dX12_laysGlad_47 ?_
        refine pw_iload3 dX12_laysGlad_48 ?_
        refine pw_iload6 dX12_laysGlad_49 ?_
        refine pw_iload4 dX12_laysGlad_51 ?_
        refine pw_iload5 dX12_laysGlad_53 ?_
        refine pw_o6i wX12_gladBy lX12_258 rfl dX12_laysGlad_55 hF.1 (k2) rfl (Nat.le_of_ble_eq_true rfl) (Nat.le_of_ble_eq_true rfl) ?_
        refine pw_goto (tgt := 64) dX12_laysGlad_58 (by decide) ?_
        refine pw_ast (j := 5 * ((5 * b + l) * 41 + s) + w) dX12_laysGlad_64 (mf_s7 hF) (ix_m rfl (by omega)) (by omega)  ?_
        refine pw_iinc6 (v := 1) dX12_laysGlad_65 (by decide) (by decide) (k := ?_)
        refine pw_goto (tgt := 4) dX12_laysGlad_68 (by decide) ?_
        rw [dI_1]
        exact kg (bI_n.mp c42)
    | false =>
      obtain ⟨A', kk, hA'⟩ := ih (w + 1) _ (by omega) (ln A1 (-268435456) f1 (by unfold rf_g; rw [hv]; rfl))
      refine ⟨A', ?_, hA'⟩
      rw [hv] at k1
      have kg : ∀ {X : Prop}, false = true → X := fun q => absurd q (by decide)
      have kc : false = false → PW G (d + 3) mX12_laysGlad 4 [some (.ref o), some (.int (nI p)), some (.int (nI q)), some (.int (nI b)), some (.int (dI l)), some (.int (sI s)), some (.int (dI (w + 1)))] [] (t, sl, gh S V P (up2 A1 (o + 7) (5 * ((5 * b + l) * 41 + s) + w) (-268435456)) B Q) none (t, sl, gh S V P A' B Q) := fun _ => kk
      refine pw_iload6 dX12_laysGlad_4 ?_
      refine pw_iconst (v := 2) dX12_laysGlad_6 (by decide) ?_
      refine pw_icmp_gt (tgt := 71) dX12_laysGlad_7 (by decide) (fun c7 => absurd c7 (by rw [lt_i li_2 (dI_t (by omega))]; omega)) (fun c7 => ?_)
      refine pw_aload0 dX12_laysGlad_10 ?_
      refine pw_getr gX12_36 dX12_laysGlad_11 hF.1 (mf_p17 hF) ?_
      refine pw_iconst (v := 5) dX12_laysGlad_14 (by decide) ?_
      refine pw_iload3 dX12_laysGlad_15 ?_
      refine pw_iload4 dX12_laysGlad_16 ?_
      refine pw_iload5 dX12_laysGlad_18 ?_
      refine pw_s3i wX12_spot lX12_262 dX12_laysGlad_20 (c_spotI b l s) rfl (Nat.le_of_ble_eq_true rfl) (Nat.le_of_ble_eq_true rfl) ?_
      refine pw_imul dX12_laysGlad_23 ?_
      refine pw_iload6 dX12_laysGlad_24 ?_
      refine pw_iadd dX12_laysGlad_26 ?_
      refine pw_iconst (v := 2) dX12_laysGlad_27 (by decide) ?_
      refine pw_iadd dX12_laysGlad_28 ?_
      rw [gl_I]
      refine pw_aload0 dX12_laysGlad_29 ?_
      refine pw_iload1 dX12_laysGlad_30 ?_
      refine pw_iload2 dX12_laysGlad_31 ?_
      refine pw_iload3 dX12_laysGlad_32 ?_
      refine pw_iload6 dX12_laysGlad_33 ?_
      refine pw_iload4 dX12_laysGlad_35 ?_
      refine pw_iload5 dX12_laysGlad_37 ?_
      refine pw_o6i wX12_mayDraw lX12_269 rfl dX12_laysGlad_39 hF.1 (k1) rfl (Nat.le_of_ble_eq_true rfl) (Nat.le_of_ble_eq_true rfl) ?_
      refine pw_if_eq (tgt := 61) dX12_laysGlad_42 (by decide) (fun c42 => ?_) (fun c42 => ?_)
      · refine pw_ldcw kX12_273 dX12_laysGlad_61 ?_
        refine pw_ast (j := 5 * ((5 * b + l) * 41 + s) + w) dX12_laysGlad_64 (mf_s7 hF) (ix_m rfl (by omega)) (by omega)  ?_
        refine pw_iinc6 (v := 1) dX12_laysGlad_65 (by decide) (by decide) (k := ?_)
        refine pw_goto (tgt := 4) dX12_laysGlad_68 (by decide) ?_
        rw [dI_1]
        exact kc (bI_0.mp c42)
      · refine pw_aload0 dX12_laysGlad_45 ?_
        refine pw_iload1 dX12_laysGlad_46 ?_
        refine pw_iload2 dX12_laysGlad_47 ?_
        refine pw_iload3 dX12_laysGlad_48 ?_
        refine pw_iload6 dX12_laysGlad_49 ?_
        refine pw_iload4 dX12_laysGlad_51 ?_
        refine pw_iload5 dX12_laysGlad_53 ?_
        refine pw_o6i wX12_gladBy lX12_258 rfl dX12_laysGlad_55 hF.1 (k2) rfl (Nat.le_of_ble_eq_true rfl) (Nat.le_of_ble_eq_true rfl) ?_
        refine pw_goto (tgt := 64) dX12_laysGlad_58 (by decide) ?_
        refine pw_ast (j := 5 * ((5 * b + l) * 41 + s) + w) dX12_laysGlad_64 (mf_s7 hF) (ix_m rfl (by omega)) (by omega)  ?_
        refine pw_iinc6 (v := 1) dX12_laysGlad_65 (by decide) (by decide) (k := ?_)
        refine pw_goto (tgt := 4) dX12_laysGlad_68 (by decide) ?_
        rw [dI_1]
        exact kg (bI_n.mp c42)
set_option maxRecDepth 20000 in
theorem c_laysGlad {G : gT} {d : Nat} {S : sS} {V : sV} {P : sP} {A : sV} {B : sB} {Q : sP} {t sl o : Nat} (hF : MF S P o) {A0 : sV} {p q b l s : Nat} (hp : p < 5) (hq : q < 4) (hb : b < 12) (hl : l < 5) (hs : s < 41) {g m : Option (List Int32)} (hg : LW (A0 (o + 1)) 0 g) (hm : LW (A0 (o + 1)) 1 m) (hG : GL o A0 g m p q (5 * ((5 * b + l) * 41 + s)) A) : ∃ A' : sV, PW G (d + 3) mX12_laysGlad 0 [some (.ref o), some (.int (nI p)), some (.int (nI q)), some (.int (nI b)), some (.int (dI l)), some (.int (sI s)), none] [] (t, sl, gh S V P A B Q) none (t, sl, gh S V P A' B Q) ∧ GL o A0 g m p q (5 * ((5 * b + l) * 41 + (s + 1))) A' := by
  obtain ⟨A', kk, h⟩ := l_laysGlad (G := G) (d := d) (V := V) (B := B) (Q := Q) (t := t) (sl := sl) hF hp hq hb hl hs hg hm 5 0 A rfl hG
  refine ⟨A', ?_, by rw [show 5 * ((5 * b + l) * 41 + (s + 1)) = 5 * ((5 * b + l) * 41 + s) + 5 by omega]; exact h⟩
  refine pw_bipush (v := -2) dX12_laysGlad_0 (by decide) ?_
  rw [show (-2 : Int32) = dI 0 from rfl]
  refine pw_istore6 dX12_laysGlad_2 (by decide) (k := ?_)
  exact kk
set_option maxRecDepth 20000 in
theorem l_laysGlads1 {G : gT} {d : Nat} {S : sS} {V : sV} {P : sP} {B : sB} {Q : sP} {t sl o : Nat} (hF : MF S P o) {A0 : sV} {p q n : Nat} (hp : p < 5) (hq : q < 4) (hn12 : n ≤ 12) (hn : (A0 (o + 1) (10 + q)).toInt = (n : Int)) {g m : Option (List Int32)} (hg : LW (A0 (o + 1)) 0 g) (hm : LW (A0 (o + 1)) 1 m) {b l : Nat} (hb : b < n) (hl : l < 5) (kf0 : ∀ A : sV, GL o A0 g m p q (5 * ((5 * b + (l + 1)) * 41)) A → ∃ F : sV, PW G (d + 4) mX12_laysGlads 53 [some (.ref o), some (.int (nI p)), some (.int (nI q)), some (.int (nI b)), some (.int (dI l)), some (.int (sI 41))] [] (t, sl, gh S V P A B Q) none (t, sl, gh S V P F B Q) ∧ GL o A0 g m p q (1025 * n) F) : ∀ (c s : Nat) (A : sV), s + c = 41 → GL o A0 g m p q (5 * ((5 * b + l) * 41 + s)) A → ∃ F : sV, PW G (d + 4) mX12_laysGlads 29 [some (.ref o), some (.int (nI p)), some (.int (nI q)), some (.int (nI b)), some (.int (dI l)), some (.int (sI s))] [] (t, sl, gh S V P A B Q) none (t, sl, gh S V P F B Q) ∧ GL o A0 g m p q (1025 * n) F := by
  intro c
  induction c with
  | zero =>
    intro s A hs hG
    have hs : s = 41 := hs
    subst hs
    obtain ⟨F, kf, hF2⟩ := kf0 A (by rw [show 5 * ((5 * b + (l + 1)) * 41) = 5 * ((5 * b + l) * 41 + 41) by omega]; exact hG)
    refine ⟨F, ?_, hF2⟩
    refine pw_iload5 dX12_laysGlads_29 ?_
    refine pw_bipush (v := 20) dX12_laysGlads_31 (by decide) ?_
    refine pw_icmp_gt (tgt := 53) dX12_laysGlads_33 (by decide) (fun c33 => ?_) (fun c33 => absurd (by rw [lt_i li_20 (sI_t (by omega))]; omega) c33)
    exact kf
  | succ c ih =>
    intro s A hs hG
    obtain ⟨A1, k1, h1⟩ := c_laysGlad (G := G) (d := d) (V := V) (B := B) (Q := Q) (t := t) (sl := sl) hF hp hq (show b < 12 by omega) hl (show s < 41 by omega) hg hm hG
    obtain ⟨F, kk, hF2⟩ := ih (s + 1) A1 (by omega) h1
    refine ⟨F, ?_, hF2⟩
    refine pw_iload5 dX12_laysGlads_29 ?_
    refine pw_bipush (v := 20) dX12_laysGlads_31 (by decide) ?_
    refine pw_icmp_gt (tgt := 53) dX12_laysGlads_33 (by decide) (fun c33 => absurd c33 (by rw [lt_i li_20 (sI_t (by omega))]; omega)) (fun c33 => ?_)
    refine pw_aload0 dX12_laysGlads_36 ?_
    refine pw_iload1 dX12_laysGlads_37 ?_
    refine pw_iload2 dX12_laysGlads_38 ?_
    refine pw_iload3 dX12_laysGlads_39 ?_
    refine pw_iload4 dX12_laysGlads_40 ?_
    refine pw_iload5 dX12_laysGlads_42 ?_
    refine pw_o5v wX12_laysGlad lX12_265 rfl dX12_laysGlads_44 hF.1 (k1) rfl (Nat.le_of_ble_eq_true rfl) (Nat.le_of_ble_eq_true rfl) ?_
    refine pw_iinc5 (v := 1) dX12_laysGlads_47 (by decide) (by decide) (k := ?_)
    refine pw_goto (tgt := 29) dX12_laysGlads_50 (by decide) ?_
    rw [sI_1]
    exact kk
set_option maxRecDepth 20000 in
theorem l_laysGlads2 {G : gT} {d : Nat} {S : sS} {V : sV} {P : sP} {B : sB} {Q : sP} {t sl o : Nat} (hF : MF S P o) {A0 : sV} {p q n : Nat} (hp : p < 5) (hq : q < 4) (hn12 : n ≤ 12) (hn : (A0 (o + 1) (10 + q)).toInt = (n : Int)) {g m : Option (List Int32)} (hg : LW (A0 (o + 1)) 0 g) (hm : LW (A0 (o + 1)) 1 m) {b : Nat} (hb : b < n) (kf0 : ∀ (A : sV) (x5 : Option Value), GL o A0 g m p q (5 * (5 * (b + 1) * 41)) A → ∃ F : sV, PW G (d + 4) mX12_laysGlads 59 [some (.ref o), some (.int (nI p)), some (.int (nI q)), some (.int (nI b)), some (.int (dI 5)), x5] [] (t, sl, gh S V P A B Q) none (t, sl, gh S V P F B Q) ∧ GL o A0 g m p q (1025 * n) F) : ∀ (c l : Nat) (A : sV) (x5 : Option Value), l + c = 5 → GL o A0 g m p q (5 * ((5 * b + l) * 41)) A → ∃ F : sV, PW G (d + 4) mX12_laysGlads 19 [some (.ref o), some (.int (nI p)), some (.int (nI q)), some (.int (nI b)), some (.int (dI l)), x5] [] (t, sl, gh S V P A B Q) none (t, sl, gh S V P F B Q) ∧ GL o A0 g m p q (1025 * n) F := by
  intro c
  induction c with
  | zero =>
    intro l A x5 hl hG
    have hl : l = 5 := hl
    subst hl
    obtain ⟨F, kf, hF2⟩ := kf0 A x5 (by rw [show 5 * (5 * (b + 1) * 41) = 5 * ((5 * b + 5) * 41) by omega]; exact hG)
    refine ⟨F, ?_, hF2⟩
    refine pw_iload4 dX12_laysGlads_19 ?_
    refine pw_iconst (v := 2) dX12_laysGlads_21 (by decide) ?_
    refine pw_icmp_gt (tgt := 59) dX12_laysGlads_22 (by decide) (fun c22 => ?_) (fun c22 => absurd (by rw [lt_i li_2 (dI_t (by omega))]; omega) c22)
    exact kf
  | succ c ih =>
    intro l A x5 hl hG
    obtain ⟨F, kk, hF2⟩ := l_laysGlads1 (G := G) (d := d) (V := V) (B := B) (Q := Q) (t := t) (sl := sl) hF hp hq hn12 hn hg hm hb (show l < 5 by omega) (fun A1 h1 => by
      obtain ⟨F, kk, hF2⟩ := ih (l + 1) A1 (some (.int (sI 41))) (by omega) h1
      refine ⟨F, ?_, hF2⟩
      refine pw_iinc4 (v := 1) dX12_laysGlads_53 (by decide) (by decide) (k := ?_)
      refine pw_goto (tgt := 19) dX12_laysGlads_56 (by decide) ?_
      rw [dI_1]
      exact kk) 41 0 A rfl hG
    refine ⟨F, ?_, hF2⟩
    refine pw_iload4 dX12_laysGlads_19 ?_
    refine pw_iconst (v := 2) dX12_laysGlads_21 (by decide) ?_
    refine pw_icmp_gt (tgt := 59) dX12_laysGlads_22 (by decide) (fun c22 => absurd c22 (by rw [lt_i li_2 (dI_t (by omega))]; omega)) (fun c22 => ?_)
    refine pw_bipush (v := -20) dX12_laysGlads_25 (by decide) ?_
    rw [show (-20 : Int32) = sI 0 from rfl]
    refine pw_istore5 dX12_laysGlads_27 (by decide) (k := ?_)
    exact kk
set_option maxRecDepth 20000 in
theorem l_laysGlads3 {G : gT} {d : Nat} {S : sS} {V : sV} {P : sP} {B : sB} {Q : sP} {t sl o : Nat} (hF : MF S P o) {A0 : sV} {p q n : Nat} (hp : p < 5) (hq : q < 4) (hn12 : n ≤ 12) (hn : (A0 (o + 1) (10 + q)).toInt = (n : Int)) {g m : Option (List Int32)} (hg : LW (A0 (o + 1)) 0 g) (hm : LW (A0 (o + 1)) 1 m) : ∀ (c b : Nat) (A : sV) (x4 x5 : Option Value), b + c = n → GL o A0 g m p q (5 * (5 * b * 41)) A → ∃ F : sV, PW G (d + 4) mX12_laysGlads 2 [some (.ref o), some (.int (nI p)), some (.int (nI q)), some (.int (nI b)), x4, x5] [] (t, sl, gh S V P A B Q) none (t, sl, gh S V P F B Q) ∧ GL o A0 g m p q (1025 * n) F := by
  intro c
  induction c with
  | zero =>
    intro b A x4 x5 hb hG
    have hb : b = n := hb
    have e1 : A (o + 1) = A0 (o + 1) := hG.1 _ (by omega) (by omega) (by omega)
    refine ⟨A, ?_, by rw [show 1025 * n = 5 * (5 * b * 41) by omega]; exact hG⟩
    refine pw_iload3 dX12_laysGlads_2 ?_
    refine pw_aload0 dX12_laysGlads_3 ?_
    refine pw_getr gX12_13 dX12_laysGlads_4 hF.1 (mf_p1 hF) ?_
    refine pw_bipush (v := 10) dX12_laysGlads_7 (by decide) ?_
    refine pw_iload2 dX12_laysGlads_9 ?_
    refine pw_iadd dX12_laysGlads_10 ?_
    refine pw_ald (j := 10 + q) dX12_laysGlads_11 (mf_s1 hF) (by simp (disch := omega) only [nl_10, nI_add, pk_mul, pk_sub]; exact ix_m (by omega) (by omega)) (by omega) ?_
    rw [e1]
    refine pw_icmp_ge (tgt := 65) dX12_laysGlads_12 (by decide) (fun c12 => ?_) (fun c12 => absurd (by rw [le_i hn (ix_n (j := b) (by omega))]; omega) c12)
    exact pw_vret dX12_laysGlads_65 rfl rfl rfl
  | succ c ih =>
    intro b A x4 x5 hb hG
    have e1 : A (o + 1) = A0 (o + 1) := hG.1 _ (by omega) (by omega) (by omega)
    obtain ⟨F, kk, hF2⟩ := l_laysGlads2 (G := G) (d := d) (V := V) (B := B) (Q := Q) (t := t) (sl := sl) hF hp hq hn12 hn hg hm (show b < n by omega) (fun A1 x5 h1 => by
      obtain ⟨F, kk, hF2⟩ := ih (b + 1) A1 (some (.int (dI 5))) x5 (by omega) h1
      refine ⟨F, ?_, hF2⟩
      refine pw_iinc3 (v := 1) dX12_laysGlads_59 (by decide) (by decide) (k := ?_)
      refine pw_goto (tgt := 2) dX12_laysGlads_62 (by decide) ?_
      rw [nI_1]
      exact kk) 5 0 A x5 rfl hG
    refine ⟨F, ?_, hF2⟩
    refine pw_iload3 dX12_laysGlads_2 ?_
    refine pw_aload0 dX12_laysGlads_3 ?_
    refine pw_getr gX12_13 dX12_laysGlads_4 hF.1 (mf_p1 hF) ?_
    refine pw_bipush (v := 10) dX12_laysGlads_7 (by decide) ?_
    refine pw_iload2 dX12_laysGlads_9 ?_
    refine pw_iadd dX12_laysGlads_10 ?_
    refine pw_ald (j := 10 + q) dX12_laysGlads_11 (mf_s1 hF) (by simp (disch := omega) only [nl_10, nI_add, pk_mul, pk_sub]; exact ix_m (by omega) (by omega)) (by omega) ?_
    rw [e1]
    refine pw_icmp_ge (tgt := 65) dX12_laysGlads_12 (by decide) (fun c12 => absurd c12 (by rw [le_i hn (ix_n (j := b) (by omega))]; omega)) (fun c12 => ?_)
    refine pw_bipush (v := -2) dX12_laysGlads_15 (by decide) ?_
    rw [show (-2 : Int32) = dI 0 from rfl]
    refine pw_istore4 dX12_laysGlads_17 (by decide) (k := ?_)
    exact kk
set_option maxRecDepth 20000 in
theorem c_laysGlads {G : gT} {d : Nat} {S : sS} {V : sV} {P : sP} {A : sV} {B : sB} {Q : sP} {t sl o : Nat} (hF : MF S P o) {p q n : Nat} (hp : p < 5) (hq : q < 4) (hn12 : n ≤ 12) (hn : (A (o + 1) (10 + q)).toInt = (n : Int)) {g m : Option (List Int32)} (hg : LW (A (o + 1)) 0 g) (hm : LW (A (o + 1)) 1 m) : ∃ F : sV, PW G (d + 4) mX12_laysGlads 0 [some (.ref o), some (.int (nI p)), some (.int (nI q)), none, none, none] [] (t, sl, gh S V P A B Q) none (t, sl, gh S V P F B Q) ∧ GL o A g m p q (1025 * n) F := by
  obtain ⟨F, kk, h⟩ := l_laysGlads3 (G := G) (d := d) (V := V) (B := B) (Q := Q) (t := t) (sl := sl) hF hp hq hn12 hn hg hm n 0 A none none (by omega) ⟨fun _ _ _ _ => rfl, fun j => by rw [if_neg (by omega)]⟩
  refine ⟨F, ?_, h⟩
  refine pw_iconst (v := 0) dX12_laysGlads_0 (by decide) ?_
  rw [show (0 : Int32) = nI 0 from rfl]
  refine pw_istore3 dX12_laysGlads_1 (by decide) (k := ?_)
  exact kk
