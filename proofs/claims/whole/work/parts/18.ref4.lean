/-! ===== the reference: how glad a bar makes one ===== -/
/-- a draw by its place 0..4, a store by its place 0..40 -/
def dI (q : Nat) : Int32 := iI ((q : Int) - 2)
def sI (s : Nat) : Int32 := iI ((s : Int) - 20)
theorem dI_1 (q : Nat) : dI q + 1 = dI (q + 1) := by
  unfold dI
  rw [show (1 : Int32) = iI 1 from rfl, iI_add]
  congr 1
  omega
theorem sI_1 (s : Nat) : sI s + 1 = sI (s + 1) := by
  unfold sI
  rw [show (1 : Int32) = iI 1 from rfl, iI_add]
  congr 1
  omega
theorem dI_t {q : Nat} (h : q < 2147483648) : (dI q).toInt = (q : Int) - 2 := iI_toInt (by omega)
theorem sI_t {s : Nat} (h : s < 2147483648) : (sI s).toInt = (s : Int) - 20 := iI_toInt (by omega)
theorem sI_dI {s q : Nat} : sI s - dI q = iI ((s : Int) - 20 - ((q : Int) - 2)) := iI_sub _ _
theorem sp_I (b l s : Nat) : (5 * nI b + dI l + 2) * 41 + sI s + 20 = nI ((5 * b + l) * 41 + s) := by
  unfold dI sI
  rw [show (5 : Int32) = iI 5 from rfl, show (2 : Int32) = iI 2 from rfl, show (41 : Int32) = iI 41 from rfl, show (20 : Int32) = iI 20 from rfl, iI_nat, iI_nat, iI_mul, iI_add, iI_add, iI_mul, iI_add, iI_add]
  congr 1
  omega
theorem mk_I (l s : Nat) : (dI l + 2) * 41 + sI s + 20 = nI (l * 41 + s) := by
  unfold dI sI
  rw [show (2 : Int32) = iI 2 from rfl, show (41 : Int32) = iI 41 from rfl, show (20 : Int32) = iI 20 from rfl, iI_nat, iI_add, iI_mul, iI_add, iI_add]
  congr 1
  omega
theorem c_spotI {G : gT} {d : Nat} {h : Ph} (b l s : Nat) : PW G d mX12_spot 0 [some (.int (nI b)), some (.int (dI l)), some (.int (sI s))] [] h (some (.int (nI ((5 * b + l) * 41 + s)))) h := by
  rw [← sp_I]
  exact c_spot _ _ _
theorem c_markI {G : gT} {d : Nat} {h : Ph} (l s : Nat) : PW G d mX12_mark 0 [some (.int (dI l)), some (.int (sI s))] [] h (some (.int (nI (l * 41 + s)))) h := by
  rw [← mk_I]
  exact c_mark _ _
theorem i64_le {x y : Int64} {a b : Int} (hx : x.toInt = a) (hy : y.toInt = b) : x ≤ y ↔ a ≤ b := by rw [Int64.le_iff_toInt_le, hx, hy]
set_option maxRecDepth 20000 in
theorem c_isStore {G : gT} {d : Nat} {h : Ph} (x : Int64) : PW G (d + 1) mX12_isStore 0 [some (.long x), none] [] h (some (.int (bI (decide (-20 ≤ x ∧ x ≤ 20))))) h := by
  refine pw_lload0 dX12_isStore_0 ?_
  refine pw_ldc2 kX12_217 dX12_isStore_1 ?_
  refine pw_ldc2 kX12_219 dX12_isStore_4 ?_
  refine pw_s3i wX12_within lX12_152 dX12_isStore_7 (c_within x (-20) 20) rfl (Nat.le_of_ble_eq_true rfl) (Nat.le_of_ble_eq_true rfl) ?_
  exact pw_iret dX12_isStore_10 rfl (bI_nar _) rfl rfl
set_option maxRecDepth 20000 in
theorem c_isDraw {G : gT} {d : Nat} {h : Ph} (x : Int64) : PW G (d + 1) mX12_isDraw 0 [some (.long x), none] [] h (some (.int (bI (decide (-2 ≤ x ∧ x ≤ 2))))) h := by
  refine pw_lload0 dX12_isDraw_0 ?_
  refine pw_ldc2 kX12_221 dX12_isDraw_1 ?_
  refine pw_ldc2 kX12_223 dX12_isDraw_4 ?_
  refine pw_s3i wX12_within lX12_152 dX12_isDraw_7 (c_within x (-2) 2) rfl (Nat.le_of_ble_eq_true rfl) (Nat.le_of_ble_eq_true rfl) ?_
  exact pw_iret dX12_isDraw_10 rfl (bI_nar _) rfl rfl
def wd8 (f : Nat → Int32) (p tm piece bar want draw last store : Int32) : Nat → Int32 := pm_up (pm_up (pm_up (pm_up (pm_up (pm_up (pm_up (pm_up f 0 p) 1 tm) 2 piece) 3 bar) 4 want) 5 draw) 6 last) 7 store
set_option maxRecDepth 20000 in
theorem c_asks {G : gT} {d : Nat} {S : sS} {V : sV} {P : sP} {A : sV} {B : sB} {Q : sP} {t sl o : Nat} (hF : MF S P o) {p q b : Nat} (hp : p < 5) (hq : q < 4) (hb : b < 12) (x y z : Int32) : PW G d mX12_asks 0 [some (.ref o), some (.int (nI p)), some (.int (nI q)), some (.int (nI b)), some (.int x), some (.int y), some (.int z)] [] (t, sl, gh S V P A B Q) none (t, sl, gh S V P (pm_up A (o + 6) (wd8 (A (o + 6)) (nI p) (A (o + 1) (87 + p)) (nI q) (nI b) (A (o + 1) (15 + 12 * q + b)) x y z)) B Q) := by
  refine pw_aload0 dX12_asks_0 ?_
  refine pw_getr gX12_33 dX12_asks_1 hF.1 (mf_p16 hF) ?_
  refine pw_iconst (v := 0) dX12_asks_4 (by decide) ?_
  refine pw_iload1 dX12_asks_5 ?_
  refine pw_ast (j := 0) dX12_asks_6 (mf_s6 hF) rfl (by omega)  ?_
  refine pw_aload0 dX12_asks_7 ?_
  refine pw_getr gX12_33 dX12_asks_8 hF.1 (mf_p16 hF) ?_
  refine pw_iconst (v := 1) dX12_asks_11 (by decide) ?_
  refine pw_aload0 dX12_asks_12 ?_
  refine pw_getr gX12_13 dX12_asks_13 hF.1 (mf_p1 hF) ?_
  refine pw_bipush (v := 87) dX12_asks_16 (by decide) ?_
  refine pw_iload1 dX12_asks_18 ?_
  refine pw_iadd dX12_asks_19 ?_
  refine pw_ald (j := 87 + p) dX12_asks_20 (mf_s1 hF) (by simp (disch := omega) only [nl_87, nI_add, pk_mul, pk_sub]; exact ix_m (by omega) (by omega)) (by omega) ?_
  rw [up2_na (show o + 1 ≠ o + 6 by omega)]
  refine pw_ast (j := 1) dX12_asks_21 (mf_s6 hF) rfl (by omega)  ?_
  refine pw_aload0 dX12_asks_22 ?_
  refine pw_getr gX12_33 dX12_asks_23 hF.1 (mf_p16 hF) ?_
  refine pw_iconst (v := 2) dX12_asks_26 (by decide) ?_
  refine pw_iload2 dX12_asks_27 ?_
  refine pw_ast (j := 2) dX12_asks_28 (mf_s6 hF) rfl (by omega)  ?_
  refine pw_aload0 dX12_asks_29 ?_
  refine pw_getr gX12_33 dX12_asks_30 hF.1 (mf_p16 hF) ?_
  refine pw_iconst (v := 3) dX12_asks_33 (by decide) ?_
  refine pw_iload3 dX12_asks_34 ?_
  refine pw_ast (j := 3) dX12_asks_35 (mf_s6 hF) rfl (by omega)  ?_
  refine pw_aload0 dX12_asks_36 ?_
  refine pw_getr gX12_33 dX12_asks_37 hF.1 (mf_p16 hF) ?_
  refine pw_iconst (v := 4) dX12_asks_40 (by decide) ?_
  refine pw_aload0 dX12_asks_41 ?_
  refine pw_getr gX12_13 dX12_asks_42 hF.1 (mf_p1 hF) ?_
  refine pw_bipush (v := 15) dX12_asks_45 (by decide) ?_
  refine pw_bipush (v := 12) dX12_asks_47 (by decide) ?_
  refine pw_iload2 dX12_asks_49 ?_
  refine pw_imul dX12_asks_50 ?_
  refine pw_iadd dX12_asks_51 ?_
  refine pw_iload3 dX12_asks_52 ?_
  refine pw_iadd dX12_asks_53 ?_
  refine pw_ald (j := 15 + 12 * q + b) dX12_asks_54 (mf_s1 hF) (by simp (disch := omega) only [nl_15, nl_12, nI_add, pk_mul, pk_sub]; exact ix_m (by omega) (by omega)) (by omega) ?_
  rw [up2_na (show o + 1 ≠ o + 6 by omega), up2_na (show o + 1 ≠ o + 6 by omega), up2_na (show o + 1 ≠ o + 6 by omega), up2_na (show o + 1 ≠ o + 6 by omega)]
  refine pw_ast (j := 4) dX12_asks_55 (mf_s6 hF) rfl (by omega)  ?_
  refine pw_aload0 dX12_asks_56 ?_
  refine pw_getr gX12_33 dX12_asks_57 hF.1 (mf_p16 hF) ?_
  refine pw_iconst (v := 5) dX12_asks_60 (by decide) ?_
  refine pw_iload4 dX12_asks_61 ?_
  refine pw_ast (j := 5) dX12_asks_63 (mf_s6 hF) rfl (by omega)  ?_
  refine pw_aload0 dX12_asks_64 ?_
  refine pw_getr gX12_33 dX12_asks_65 hF.1 (mf_p16 hF) ?_
  refine pw_bipush (v := 6) dX12_asks_68 (by decide) ?_
  refine pw_iload5 dX12_asks_70 ?_
  refine pw_ast (j := 6) dX12_asks_72 (mf_s6 hF) rfl (by omega)  ?_
  refine pw_aload0 dX12_asks_73 ?_
  refine pw_getr gX12_33 dX12_asks_74 hF.1 (mf_p16 hF) ?_
  refine pw_bipush (v := 7) dX12_asks_77 (by decide) ?_
  refine pw_iload6 dX12_asks_79 ?_
  refine pw_ast (j := 7) dX12_asks_81 (mf_s6 hF) rfl (by omega)  ?_
  exact pw_vret dX12_asks_82 rfl rfl (by rw [up2_pm (A := A), up2_up, up2_up, up2_up, up2_up, up2_up, up2_up, up2_up]; rfl)
/-- the depth of a law's code -/
def rk_dep : List Int32 → Nat → Option Nat
  | [], n => some n
  | c :: cs, n => if c < 3000 then rk_dep cs (n + 1) else if c = 3006 then (if n = 0 then none else rk_dep cs n) else (if n < 2 then none else rk_dep cs (n - 1))
theorem rk_dep_c (c : Int32) (cs : List Int32) (n : Nat) : rk_dep (c :: cs) n = if c < 3000 then rk_dep cs (n + 1) else if c = 3006 then (if n = 0 then none else rk_dep cs n) else (if n < 2 then none else rk_dep cs (n - 1)) := rfl
theorem rkS_dep (w : Nat → Int32) : ∀ (cs s : List Int32) (n : Nat), rk_dep cs s.length = some n → ∃ s' : List Int32, rkS w cs s = some s' ∧ s'.length = n
  | [], s, n, h => ⟨s, rfl, Option.some.inj h⟩
  | c :: cs, s, n, h => by
    rw [rk_dep_c] at h
    rw [rkS_c]
    by_cases h3 : c < 3000
    · rw [if_pos h3] at h ⊢
      exact rkS_dep w cs (_ :: s) n h
    · rw [if_neg h3] at h ⊢
      by_cases h6 : c = 3006
      · rw [if_pos h6] at h ⊢
        match s, h with
        | [], h => cases h
        | x :: s, h => exact rkS_dep w cs (_ :: s) n h
      · rw [if_neg h6] at h ⊢
        match s, h with
        | [], h => cases h
        | [_], h => cases h
        | y :: x :: s, h => exact rkS_dep w cs (_ :: s) n h
/-- what a law of the right depth says -/
def rkv (w : Nat → Int32) (cs : List Int32) : Int32 := ((rkS w cs []).getD []).headD 0
theorem rkv_of {w : Nat → Int32} {cs : List Int32} (h : rk_dep cs 0 = some 1) : rkS w cs [] = some [rkv w cs] := by
  obtain ⟨s, h1, h2⟩ := rkS_dep w cs [] 1 h
  unfold rkv
  rw [h1]
  match s, h2 with
  | [x], _ => rfl
/-- a law as the reference's row keeps it -/
def LW (al : Nat → Int32) (law : Nat) : Option (List Int32) → Prop
  | none => al (4 + law) = 0
  | some cs => al (4 + law) = 1 ∧ ∃ fr : Nat, (al (8 + law)).toInt = (cs.length : Int) ∧ (al (6 + law)).toInt = (fr : Int) ∧ fr + cs.length ≤ 900 ∧ (∀ (i : Nat) (c : Int32), cs[i]? = some c → al (264 + fr + i) = c ∧ rk_ok c) ∧ rk_dep cs 0 = some 1
theorem rkS_cong {w w' : Nat → Int32} (hw : ∀ i, i < 8 → w i = w' i) : ∀ (cs s : List Int32), (∀ c ∈ cs, rk_ok c) → rkS w cs s = rkS w' cs s
  | [], s, h => rfl
  | c :: cs, s, h => by
    have hc := h c List.mem_cons_self
    have ht : ∀ c ∈ cs, rk_ok c := fun c hc => h c (List.mem_cons_of_mem _ hc)
    rw [rkS_c, rkS_c]
    by_cases h3 : c < 3000
    · rw [if_pos h3, if_pos h3]
      have e : (if c < 1000 then c else w (c.toInt - 1000).toNat) = (if c < 1000 then c else w' (c.toInt - 1000).toNat) := by
        by_cases h1 : c < 1000
        · rw [if_pos h1, if_pos h1]
        · rw [if_neg h1, if_neg h1]
          unfold rk_ok at hc
          have h3i : c.toInt < 3000 := (lt_i rfl li_3000).mp h3
          exact hw _ (by omega)
      rw [e]
      exact rkS_cong hw cs _ ht
    · rw [if_neg h3, if_neg h3]
      by_cases h6 : c = 3006
      · rw [if_pos h6, if_pos h6]
        match s with
        | [] => rfl
        | x :: s => exact rkS_cong hw cs _ ht
      · rw [if_neg h6, if_neg h6]
        match s with
        | [] => rfl
        | [_] => rfl
        | y :: x :: s => exact rkS_cong hw cs _ ht
theorem LW.ok {al : Nat → Int32} {law : Nat} {cs : List Int32} (h : LW al law (some cs)) : ∀ c ∈ cs, rk_ok c := by
  obtain ⟨-, fr, -, -, -, h5, -⟩ := h
  intro c hc
  obtain ⟨i, hi⟩ := List.getElem?_of_mem hc
  exact (h5 i c hi).2
/-- the words that a law may ask for, by the reference's row -/
def rf_w (al : Nat → Int32) (p q b : Nat) (draw last store : Int32) : Nat → Int32 := wd8 (fun _ => 0) (nI p) (al (87 + p)) (nI q) (nI b) (al (15 + 12 * q + b)) draw last store
theorem wd8_cong (f g : Nat → Int32) (x0 x1 x2 x3 x4 x5 x6 x7 : Int32) : ∀ i, i < 8 → wd8 f x0 x1 x2 x3 x4 x5 x6 x7 i = wd8 g x0 x1 x2 x3 x4 x5 x6 x7 i := by
  intro i hi
  rcases (show i = 0 ∨ i = 1 ∨ i = 2 ∨ i = 3 ∨ i = 4 ∨ i = 5 ∨ i = 6 ∨ i = 7 by omega) with rfl | rfl | rfl | rfl | rfl | rfl | rfl | rfl <;> rfl
def rf_glad (al : Nat → Int32) (g : Option (List Int32)) (p q b : Nat) (draw last store : Int32) : Int32 := match g with
  | none => al (15 + 12 * q + b) * draw
  | some cs => rkv (rf_w al p q b draw last store) cs
def rf_may (al : Nat → Int32) (m : Option (List Int32)) (p q b : Nat) (draw last store : Int32) : Bool := match m with
  | none => true
  | some cs => decide (rkv (rf_w al p q b draw last store) cs = 1)
theorem rkv_cong {f : Nat → Int32} {x0 x1 x2 x3 x4 x5 x6 x7 : Int32} {cs : List Int32} (h : ∀ c ∈ cs, rk_ok c) : rkv (wd8 f x0 x1 x2 x3 x4 x5 x6 x7) cs = rkv (wd8 (fun _ => 0) x0 x1 x2 x3 x4 x5 x6 x7) cs := by
  unfold rkv
  rw [rkS_cong (wd8_cong f _ x0 x1 x2 x3 x4 x5 x6 x7) cs [] h]
theorem wd8_4 (f : Nat → Int32) (x0 x1 x2 x3 x4 x5 x6 x7 : Int32) : wd8 f x0 x1 x2 x3 x4 x5 x6 x7 4 = x4 := rfl
set_option maxRecDepth 20000 in
theorem c_gladBy {G : gT} {d : Nat} {S : sS} {V : sV} {P : sP} {A : sV} {B : sB} {Q : sP} {t sl o : Nat} (hF : MF S P o) {p q b : Nat} (hp : p < 5) (hq : q < 4) (hb : b < 12) {g : Option (List Int32)} (hg : LW (A (o + 1)) 0 g) (x y z : Int32) : ∃ W' R' : Nat → Int32, PW G (d + 2) mX12_gladBy 0 [some (.ref o), some (.int (nI p)), some (.int (nI q)), some (.int (nI b)), some (.int x), some (.int y), some (.int z)] [] (t, sl, gh S V P A B Q) (some (.int (rf_glad (A (o + 1)) g p q b x y z))) (t, sl, gh S V P (pm_up (pm_up A (o + 6) W') (o + 5) R') B Q) := by
  cases g with
  | none =>
    have hg : A (o + 1) 4 = 0 := hg
    refine ⟨wd8 (A (o + 6)) (nI p) (A (o + 1) (87 + p)) (nI q) (nI b) (A (o + 1) (15 + 12 * q + b)) x y z, A (o + 5), ?_⟩
    rw [show pm_up (pm_up A (o + 6) (wd8 (A (o + 6)) (nI p) (A (o + 1) (87 + p)) (nI q) (nI b) (A (o + 1) (15 + 12 * q + b)) x y z)) (o + 5) (A (o + 5)) = pm_up A (o + 6) (wd8 (A (o + 6)) (nI p) (A (o + 1) (87 + p)) (nI q) (nI b) (A (o + 1) (15 + 12 * q + b)) x y z) from by
      have e : pm_up A (o + 6) (wd8 (A (o + 6)) (nI p) (A (o + 1) (87 + p)) (nI q) (nI b) (A (o + 1) (15 + 12 * q + b)) x y z) (o + 5) = A (o + 5) := pm_up_ne (by omega)
      rw [← e, pm_up_self]]
    refine pw_aload0 dX12_gladBy_0 ?_
    refine pw_iload1 dX12_gladBy_1 ?_
    refine pw_iload2 dX12_gladBy_2 ?_
    refine pw_iload3 dX12_gladBy_3 ?_
    refine pw_iload4 dX12_gladBy_4 ?_
    refine pw_iload5 dX12_gladBy_6 ?_
    refine pw_iload6 dX12_gladBy_8 ?_
    refine pw_o6v wX12_asks lX12_233 rfl dX12_gladBy_10 hF.1 (c_asks hF hp hq hb x y z) rfl (Nat.le_of_ble_eq_true rfl) (Nat.le_of_ble_eq_true rfl) ?_
    refine pw_aload0 dX12_gladBy_13 ?_
    refine pw_getr gX12_13 dX12_gladBy_14 hF.1 (mf_p1 hF) ?_
    refine pw_iconst (v := 4) dX12_gladBy_17 (by decide) ?_
    refine pw_ald (j := 4) dX12_gladBy_18 (mf_s1 hF) rfl (by omega) ?_
    rw [pm_up_ne (show o + 1 ≠ o + 6 by omega)]
    refine pw_if_ne (tgt := 34) dX12_gladBy_19 (by decide) (fun c19 => absurd hg c19) (fun c19 => ?_)
    refine pw_aload0 dX12_gladBy_22 ?_
    refine pw_getr gX12_33 dX12_gladBy_23 hF.1 (mf_p16 hF) ?_
    refine pw_iconst (v := 4) dX12_gladBy_26 (by decide) ?_
    refine pw_ald (j := 4) dX12_gladBy_27 (mf_s6 hF) rfl (by omega) ?_
    rw [pm_up_eq, wd8_4]
    refine pw_iload4 dX12_gladBy_28 ?_
    refine pw_imul dX12_gladBy_30 ?_
    refine pw_goto (tgt := 39) dX12_gladBy_31 (by decide) ?_
    exact pw_iret dX12_gladBy_39 rfl rfl rfl rfl
  | some cs =>
    have hok := hg.ok
    obtain ⟨h1, fr, h2, h3, h4, h5, h6⟩ := id hg
    have ea : (pm_up A (o + 6) (wd8 (A (o + 6)) (nI p) (A (o + 1) (87 + p)) (nI q) (nI b) (A (o + 1) (15 + 12 * q + b)) x y z)) (o + 1) = A (o + 1) := pm_up_ne (by omega)
    obtain ⟨R', kr⟩ := c_reckons (G := G) (d := d) (V := V) (B := B) (Q := Q) (t := t) (sl := sl) (A := (pm_up A (o + 6) (wd8 (A (o + 6)) (nI p) (A (o + 1) (87 + p)) (nI q) (nI b) (A (o + 1) (15 + 12 * q + b)) x y z))) hF (law := 0) (fr := fr) (cs := cs) (v := rf_glad (A (o + 1)) (some cs) p q b x y z) (by decide) (by rw [ea]; exact h2) (by rw [ea]; exact h3) h4 (by rw [ea]; exact h5) (by
      rw [pm_up_eq, rkv_of h6, rkv_cong hok]
      rfl)
    refine ⟨wd8 (A (o + 6)) (nI p) (A (o + 1) (87 + p)) (nI q) (nI b) (A (o + 1) (15 + 12 * q + b)) x y z, R', ?_⟩
    refine pw_aload0 dX12_gladBy_0 ?_
    refine pw_iload1 dX12_gladBy_1 ?_
    refine pw_iload2 dX12_gladBy_2 ?_
    refine pw_iload3 dX12_gladBy_3 ?_
    refine pw_iload4 dX12_gladBy_4 ?_
    refine pw_iload5 dX12_gladBy_6 ?_
    refine pw_iload6 dX12_gladBy_8 ?_
    refine pw_o6v wX12_asks lX12_233 rfl dX12_gladBy_10 hF.1 (c_asks hF hp hq hb x y z) rfl (Nat.le_of_ble_eq_true rfl) (Nat.le_of_ble_eq_true rfl) ?_
    refine pw_aload0 dX12_gladBy_13 ?_
    refine pw_getr gX12_13 dX12_gladBy_14 hF.1 (mf_p1 hF) ?_
    refine pw_iconst (v := 4) dX12_gladBy_17 (by decide) ?_
    refine pw_ald (j := 4) dX12_gladBy_18 (mf_s1 hF) rfl (by omega) ?_
    rw [pm_up_ne (show o + 1 ≠ o + 6 by omega)]
    refine pw_if_ne (tgt := 34) dX12_gladBy_19 (by decide) (fun c19 => ?_) (fun c19 => absurd c19 (by rw [hg.1]; decide))
    refine pw_aload0 dX12_gladBy_34 ?_
    refine pw_iconst (v := 0) dX12_gladBy_35 (by decide) ?_
    refine pw_o1i wX12_reckons lX12_237 rfl dX12_gladBy_36 hF.1 (kr) rfl (Nat.le_of_ble_eq_true rfl) (Nat.le_of_ble_eq_true rfl) ?_
    exact pw_iret dX12_gladBy_39 rfl rfl rfl rfl
set_option maxRecDepth 20000 in
theorem c_mayDraw {G : gT} {d : Nat} {S : sS} {V : sV} {P : sP} {A : sV} {B : sB} {Q : sP} {t sl o : Nat} (hF : MF S P o) {p q b : Nat} (hp : p < 5) (hq : q < 4) (hb : b < 12) {g : Option (List Int32)} (hg : LW (A (o + 1)) 1 g) (x y z : Int32) : ∃ W' R' : Nat → Int32, PW G (d + 2) mX12_mayDraw 0 [some (.ref o), some (.int (nI p)), some (.int (nI q)), some (.int (nI b)), some (.int x), some (.int y), some (.int z)] [] (t, sl, gh S V P A B Q) (some (.int (bI (decide (-20 ≤ (z - x).toInt64 ∧ (z - x).toInt64 ≤ 20) && rf_may (A (o + 1)) g p q b x y z)))) (t, sl, gh S V P (pm_up (pm_up A (o + 6) W') (o + 5) R') B Q) := by
  cases hst : decide (-20 ≤ (z - x).toInt64 ∧ (z - x).toInt64 ≤ 20) with
  | false =>
    refine ⟨A (o + 6), A (o + 5), ?_⟩
    rw [pm_up_self, pm_up_self]
    refine pw_iload6 dX12_mayDraw_0 ?_
    refine pw_iload4 dX12_mayDraw_2 ?_
    refine pw_isub dX12_mayDraw_4 ?_
    refine pw_i2l dX12_mayDraw_5 ?_
    refine pw_s1i wX12_isStore lX12_240 dX12_mayDraw_6 (c_isStore (z - x).toInt64) rfl (Nat.le_of_ble_eq_true rfl) (Nat.le_of_ble_eq_true rfl) ?_
    refine pw_if_ne (tgt := 14) dX12_mayDraw_9 (by decide) (fun c9 => absurd (bI_0.mpr hst) c9) (fun c9 => ?_)
    refine pw_iconst (v := 0) dX12_mayDraw_12 (by decide) ?_
    exact pw_iret dX12_mayDraw_13 rfl rfl (rI (bI_z rfl)) rfl
  | true =>
  cases g with
  | none =>
    have hg : A (o + 1) 5 = 0 := hg
    refine ⟨wd8 (A (o + 6)) (nI p) (A (o + 1) (87 + p)) (nI q) (nI b) (A (o + 1) (15 + 12 * q + b)) x y z, A (o + 5), ?_⟩
    rw [show pm_up (pm_up A (o + 6) (wd8 (A (o + 6)) (nI p) (A (o + 1) (87 + p)) (nI q) (nI b) (A (o + 1) (15 + 12 * q + b)) x y z)) (o + 5) (A (o + 5)) = (pm_up A (o + 6) (wd8 (A (o + 6)) (nI p) (A (o + 1) (87 + p)) (nI q) (nI b) (A (o + 1) (15 + 12 * q + b)) x y z)) from by
      have e : (pm_up A (o + 6) (wd8 (A (o + 6)) (nI p) (A (o + 1) (87 + p)) (nI q) (nI b) (A (o + 1) (15 + 12 * q + b)) x y z)) (o + 5) = A (o + 5) := pm_up_ne (by omega)
      rw [← e, pm_up_self]]
    refine pw_iload6 dX12_mayDraw_0 ?_
    refine pw_iload4 dX12_mayDraw_2 ?_
    refine pw_isub dX12_mayDraw_4 ?_
    refine pw_i2l dX12_mayDraw_5 ?_
    refine pw_s1i wX12_isStore lX12_240 dX12_mayDraw_6 (c_isStore (z - x).toInt64) rfl (Nat.le_of_ble_eq_true rfl) (Nat.le_of_ble_eq_true rfl) ?_
    refine pw_if_ne (tgt := 14) dX12_mayDraw_9 (by decide) (fun c9 => ?_) (fun c9 => absurd c9 (bI_n.mpr hst))
    refine pw_aload0 dX12_mayDraw_14 ?_
    refine pw_iload1 dX12_mayDraw_15 ?_
    refine pw_iload2 dX12_mayDraw_16 ?_
    refine pw_iload3 dX12_mayDraw_17 ?_
    refine pw_iload4 dX12_mayDraw_18 ?_
    refine pw_iload5 dX12_mayDraw_20 ?_
    refine pw_iload6 dX12_mayDraw_22 ?_
    refine pw_o6v wX12_asks lX12_233 rfl dX12_mayDraw_24 hF.1 (c_asks hF hp hq hb x y z) rfl (Nat.le_of_ble_eq_true rfl) (Nat.le_of_ble_eq_true rfl) ?_
    refine pw_aload0 dX12_mayDraw_27 ?_
    refine pw_getr gX12_13 dX12_mayDraw_28 hF.1 (mf_p1 hF) ?_
    refine pw_iconst (v := 5) dX12_mayDraw_31 (by decide) ?_
    refine pw_ald (j := 5) dX12_mayDraw_32 (mf_s1 hF) rfl (by omega) ?_
    rw [pm_up_ne (show o + 1 ≠ o + 6 by omega)]
    refine pw_if_eq (tgt := 45) dX12_mayDraw_33 (by decide) (fun c33 => ?_) (fun c33 => absurd hg c33)
    refine pw_iconst (v := 1) dX12_mayDraw_45 (by decide) ?_
    refine pw_goto (tgt := 50) dX12_mayDraw_46 (by decide) ?_
    exact pw_iret dX12_mayDraw_50 rfl rfl (rI (bI_t rfl)) rfl
  | some cs =>
    have hok := hg.ok
    obtain ⟨h1, fr, h2, h3, h4, h5, h6⟩ := id hg
    have ea : (pm_up A (o + 6) (wd8 (A (o + 6)) (nI p) (A (o + 1) (87 + p)) (nI q) (nI b) (A (o + 1) (15 + 12 * q + b)) x y z)) (o + 1) = A (o + 1) := pm_up_ne (by omega)
    obtain ⟨R', kr⟩ := c_reckons (G := G) (d := d) (V := V) (B := B) (Q := Q) (t := t) (sl := sl) (A := (pm_up A (o + 6) (wd8 (A (o + 6)) (nI p) (A (o + 1) (87 + p)) (nI q) (nI b) (A (o + 1) (15 + 12 * q + b)) x y z))) hF (law := 1) (fr := fr) (cs := cs) (v := rkv (rf_w (A (o + 1)) p q b x y z) cs) (by decide) (by rw [ea]; exact h2) (by rw [ea]; exact h3) h4 (by rw [ea]; exact h5) (by
      rw [pm_up_eq, rkv_of h6, rkv_cong hok]
      rfl)
    refine ⟨wd8 (A (o + 6)) (nI p) (A (o + 1) (87 + p)) (nI q) (nI b) (A (o + 1) (15 + 12 * q + b)) x y z, R', ?_⟩
    refine pw_iload6 dX12_mayDraw_0 ?_
    refine pw_iload4 dX12_mayDraw_2 ?_
    refine pw_isub dX12_mayDraw_4 ?_
    refine pw_i2l dX12_mayDraw_5 ?_
    refine pw_s1i wX12_isStore lX12_240 dX12_mayDraw_6 (c_isStore (z - x).toInt64) rfl (Nat.le_of_ble_eq_true rfl) (Nat.le_of_ble_eq_true rfl) ?_
    refine pw_if_ne (tgt := 14) dX12_mayDraw_9 (by decide) (fun c9 => ?_) (fun c9 => absurd c9 (bI_n.mpr hst))
    refine pw_aload0 dX12_mayDraw_14 ?_
    refine pw_iload1 dX12_mayDraw_15 ?_
    refine pw_iload2 dX12_mayDraw_16 ?_
    refine pw_iload3 dX12_mayDraw_17 ?_
    refine pw_iload4 dX12_mayDraw_18 ?_
    refine pw_iload5 dX12_mayDraw_20 ?_
    refine pw_iload6 dX12_mayDraw_22 ?_
    refine pw_o6v wX12_asks lX12_233 rfl dX12_mayDraw_24 hF.1 (c_asks hF hp hq hb x y z) rfl (Nat.le_of_ble_eq_true rfl) (Nat.le_of_ble_eq_true rfl) ?_
    refine pw_aload0 dX12_mayDraw_27 ?_
    refine pw_getr gX12_13 dX12_mayDraw_28 hF.1 (mf_p1 hF) ?_
    refine pw_iconst (v := 5) dX12_mayDraw_31 (by decide) ?_
    refine pw_ald (j := 5) dX12_mayDraw_32 (mf_s1 hF) rfl (by omega) ?_
    rw [pm_up_ne (show o + 1 ≠ o + 6 by omega)]
    refine pw_if_eq (tgt := 45) dX12_mayDraw_33 (by decide) (fun c33 => absurd c33 (by rw [h1]; decide)) (fun c33 => ?_)
    refine pw_aload0 dX12_mayDraw_36 ?_
    refine pw_iconst (v := 1) dX12_mayDraw_37 (by decide) ?_
    refine pw_o1i wX12_reckons lX12_237 rfl dX12_mayDraw_38 hF.1 (kr) rfl (Nat.le_of_ble_eq_true rfl) (Nat.le_of_ble_eq_true rfl) ?_
    refine pw_iconst (v := 1) dX12_mayDraw_41 (by decide) ?_
    refine pw_icmp_ne (tgt := 49) dX12_mayDraw_42 (by decide) (fun c42 => ?_) (fun c42 => ?_)
    · refine pw_iconst (v := 0) dX12_mayDraw_49 (by decide) ?_
      exact pw_iret dX12_mayDraw_50 rfl rfl (rI (bI_z (by show decide (rkv _ cs = 1) = false; simp only [decide_eq_false_iff_not]; exact c42))) rfl
    · refine pw_iconst (v := 1) dX12_mayDraw_45 (by decide) ?_
      refine pw_goto (tgt := 50) dX12_mayDraw_46 (by decide) ?_
      exact pw_iret dX12_mayDraw_50 rfl rfl (rI (bI_t (by show decide (rkv _ cs = 1) = true; simp only [decide_eq_true_eq]; exact c42))) rfl
