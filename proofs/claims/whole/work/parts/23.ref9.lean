/-! ===== the reference: best and coming rows of a piece ===== -/
theorem rf_T_cong {T T' : Nat → Nat → Nat → Nat → Int32} {kp kp' : Nat → Nat → Bool} {n : Nat} {e : Nat → Int32} (hT : ∀ b l s w, b < n → l < 5 → s < 41 → w < 5 → T b l s w = T' b l s w) (hk : ∀ b w, b < n → w < 5 → kp b w = kp' b w) (hin : ∀ b l s w, b < n → l < 5 → s < 41 → w < 5 → T' b l s w ≠ (-268435456) → rf_in s w = true) : ∀ (r : Nat), r ≤ n → ∀ l s, l < 5 → s < 41 → rf_T T kp n e r l s = rf_T T' kp' n e r l s
  | 0, _, l, s, _, _ => rfl
  | r + 1, hr, l, s, hl, hs => by
    rw [rf_T, rf_T]
    refine rf_mx_cong (fun w hw => ?_)
    have h1 : rf_gb T kp (rf_T T kp n e r) (n - (r + 1)) l s w = rf_gb T' kp' (rf_T T kp n e r) (n - (r + 1)) l s w := by
      unfold rf_gb
      rw [hT _ l s w (by omega) hl hs hw, hk _ w (by omega) hw]
    rw [h1]
    exact rf_gb_cong hs hw (hin _ l s w (by omega) hl hs hw) (fun l' s' hl' hs' => rf_T_cong hT hk hin r (by omega) l' s' hl' hs')
theorem rf_fw_cong {f g : Nat → Int32} {x : Int32} (h : ∀ w, w < 5 → f w = g w) : rf_fw f x = rf_fw g x := by
  unfold rf_fw
  rw [h 0 (by decide), h 1 (by decide), h 2 (by decide), h 3 (by decide)]
theorem rf_st_cong {T T' : Nat → Nat → Nat → Nat → Int32} {kp kp' : Nat → Nat → Bool} {n : Nat} {e : Nat → Int32} {s0 : Nat} (h0 : s0 < 41) (hT : ∀ b l s w, b < n → l < 5 → s < 41 → w < 5 → T b l s w = T' b l s w) (hk : ∀ b w, b < n → w < 5 → kp b w = kp' b w) (hin : ∀ b l s w, b < n → l < 5 → s < 41 → w < 5 → T' b l s w ≠ (-268435456) → rf_in s w = true) (hc : rf_T T' kp' n e n 2 s0 ≠ (-268435456)) : ∀ b, b ≤ n → rf_st T kp n e s0 b = rf_st T' kp' n e s0 b := by
  intro b
  induction b with
  | zero => intro _; rfl
  | succ b ih =>
    intro hb
    have i0 := ih (by omega)
    obtain ⟨i1, i2, -⟩ := rf_st_ok h0 hin hc b (by omega)
    have hbw : rf_bw T kp n e b (rf_st T' kp' n e s0 b).1 (rf_st T' kp' n e s0 b).2 = rf_bw T' kp' n e b (rf_st T' kp' n e s0 b).1 (rf_st T' kp' n e s0 b).2 := by
      unfold rf_bw
      rw [rf_T_cong hT hk hin (n - b) (by omega) _ _ i1 i2]
      refine rf_fw_cong (fun w hw => ?_)
      have h1 : rf_gb T kp (rf_T T kp n e (n - (b + 1))) b (rf_st T' kp' n e s0 b).1 (rf_st T' kp' n e s0 b).2 w = rf_gb T' kp' (rf_T T kp n e (n - (b + 1))) b (rf_st T' kp' n e s0 b).1 (rf_st T' kp' n e s0 b).2 w := by
        unfold rf_gb
        rw [hT _ _ _ w (by omega) i1 i2 hw, hk _ w (by omega) hw]
      rw [h1]
      exact rf_gb_cong i2 hw (hin _ _ _ w (by omega) i1 i2 hw) (fun l' s' hl' hs' => rf_T_cong hT hk hin _ (by omega) l' s' hl' hs')
    apply Prod.ext
    · rw [rf_st_1, rf_st_1, i0, hbw]
    · rw [rf_st_2, rf_st_2, i0, hbw]
def kpA : Nat → Nat → Bool := fun _ _ => true
theorem rf_g_in {al : Nat → Int32} {g m : Option (List Int32)} {p q b l s w : Nat} (h : rf_g al g m p q b l s w ≠ (-268435456)) : rf_in s w = true := by
  unfold rf_g at h
  cases hi : rf_in s w with
  | true => rfl
  | false =>
    rw [hi, Bool.false_and] at h
    exact absurd rfl h
theorem GL.rT {o : Nat} {A0 A : sV} {g m : Option (List Int32)} {p q n : Nat} (h : GL o A0 g m p q (1025 * n) A) {b l s w : Nat} (hb : b < n) (hl : l < 5) (hs : s < 41) (hw : w < 5) : rT (A (o + 7)) b l s w = rf_g (A0 (o + 1)) g m p q b l s w := by
  show A (o + 7) (5 * ((5 * b + l) * 41 + s) + w) = _
  rw [h.2, if_pos (by omega), rf_GG_at hl hs hw]
/-- what lies behind laysBest: the tables, the best row -/
def BP (o : Nat) (V A V' A' : sV) (T : Nat → Nat → Nat → Nat → Int32) (kp : Nat → Nat → Bool) (n : Nat) (e : Nat → Int32) (s0 : Nat) : Prop :=
  (∀ a, a < o + 5 ∨ o + 10 < a → A' a = A a) ∧ (∀ a, a ≠ o → V' a = V a) ∧ (∀ k, k ≠ 20 → k ≠ 21 → k ≠ 24 → V' o k = V o k) ∧ V' o 20 = rf_T T kp n e n 2 s0 ∧ (∀ s, s < 41 → A' (o + 8) (82 + s) = rf_T T kp n e n 2 s) ∧
  (rf_T T kp n e n 2 s0 ≠ (-268435456) → V' o 21 = sI (rf_st T kp n e s0 n).2 ∧ ∀ b, b < n → A' (o + 9) b = dI (rf_st T kp n e s0 (b + 1)).1)
set_option maxRecDepth 20000 in
theorem c_laysBest {G : gT} {d : Nat} {S : sS} {V : sV} {P : sP} {A : sV} {B : sB} {Q : sP} {t sl o : Nat} (hF : MF S P o) {p q n s0 : Nat} (hp : p < 5) (hq : q < 4) (hn12 : n ≤ 12) (hn : A (o + 1) (10 + q) = nI n) (hs : A (o + 1) (77 + p) = sI s0) (h0 : s0 < 41) {g m : Option (List Int32)} (hg : LW (A (o + 1)) 0 g) (hm : LW (A (o + 1)) 1 m) (goal : Int32) : ∃ V' A' : sV, PW G (d + 5) mX12_laysBest 0 [some (.ref o), some (.int (nI p)), some (.int (nI q)), some (.int goal)] [] (t, sl, gh S V P A B Q) (some (.int (bI (decide (rf_T (rf_g (A (o + 1)) g m p q) kpA n (rf_e goal) n 2 s0 ≠ (-268435456)))))) (t, sl, gh S V' P A' B Q) ∧ BP o V A V' A' (rf_g (A (o + 1)) g m p q) kpA n (rf_e goal) s0 := by
  obtain ⟨R1, k1, hR1⟩ := c_keepsAny (G := G) (d := d + 4) (V := V) (A := A) (B := B) (Q := Q) (t := t) (sl := sl) hF
  have e1 : pm_up A (o + 10) R1 (o + 1) = A (o + 1) := pm_up_ne (by omega)
  obtain ⟨F1, k2, h2⟩ := c_laysGlads (G := G) (d := d) (V := up2 V o 24 0) (A := pm_up A (o + 10) R1) (B := B) (Q := Q) (t := t) (sl := sl) hF hp hq hn12 (by rw [e1, hn]; exact ix_n (by omega)) (by rw [e1]; exact hg) (by rw [e1]; exact hm)
  have hGT : ∀ b l s w, b < n → l < 5 → s < 41 → w < 5 → rT (F1 (o + 7)) b l s w = (rf_g (A (o + 1)) g m p q) b l s w := by
    intro b l s w hb hl hs hw
    rw [h2.rT hb hl hs hw, e1]
  have hin : ∀ b l s w, b < n → l < 5 → s < 41 → w < 5 → rT (F1 (o + 7)) b l s w ≠ (-268435456) → rf_in s w = true := by
    intro b l s w hb hl hs hw h
    rw [hGT b l s w hb hl hs hw] at h
    exact rf_g_in h
  have hin0 : ∀ b l s w, b < n → l < 5 → s < 41 → w < 5 → (rf_g (A (o + 1)) g m p q) b l s w ≠ (-268435456) → rf_in s w = true := fun b l s w _ _ _ _ h => rf_g_in h
  have e2 : F1 (o + 1) = A (o + 1) := (h2.1 _ (by omega) (by omega) (by omega)).trans e1
  have e2n : F1 (o + 1) (10 + q) = nI n := by rw [e2, hn]
  have e2t : F1 (o + 10) = R1 := (h2.1 _ (by omega) (by omega) (by omega)).trans pm_up_eq
  obtain ⟨F2, k3, h3⟩ := c_laysToGo (G := G) (d := d) (V := up2 V o 24 0) (A := F1) (B := B) (Q := Q) (t := t) (sl := sl) (goal := goal) hF hn12 hin
  have hk : ∀ b w, b < n → w < 5 → rf_k (F1 (o + 10)) (up2 V o 24 0 o 24) b w = kpA b w := by
    intro b w hb hw
    rw [e2t]
    exact rf_k9 (hR1 b (by omega))
  have e37 : F2 (o + 7) = F1 (o + 7) := h3.1 _ (by omega)
  have e310 : F2 (o + 10) = F1 (o + 10) := h3.1 _ (by omega)
  have e3 : F2 (o + 1) = A (o + 1) := (h3.1 _ (by omega)).trans e2
  have e3n : F2 (o + 1) (10 + q) = nI n := by rw [e3, hn]
  have e3s : F2 (o + 1) (77 + p) = sI s0 := by rw [e3, hs]
  have hT3 : ∀ b, b ≤ n → ∀ l s, l < 5 → s < 41 → F2 (o + 8) ((5 * b + l) * 41 + s) = rf_T (rT (F2 (o + 7))) (rf_k (F2 (o + 10)) (up2 V o 24 0 o 24)) n (rf_e goal) (n - b) l s := by
    rw [e37, e310]
    exact fun b hb l s hl hs => h3.2 b (Nat.zero_le b) hb l s hl hs
  have hin3 : ∀ b l s w, b < n → l < 5 → s < 41 → w < 5 → rT (F2 (o + 7)) b l s w ≠ (-268435456) → rf_in s w = true := by
    rw [e37]
    exact hin
  have hcong : ∀ s, s < 41 → rf_T (rT (F2 (o + 7))) (rf_k (F2 (o + 10)) (up2 V o 24 0 o 24)) n (rf_e goal) n 2 s = rf_T (rf_g (A (o + 1)) g m p q) kpA n (rf_e goal) n 2 s := by
    intro s hs
    rw [e37, e310]
    exact rf_T_cong hGT hk hin0 n (Nat.le_refl n) 2 s (by decide) hs
  have fr : ∀ a, a < o + 5 ∨ o + 10 < a → F2 a = A a := by
    intro a ha
    rw [h3.1 a (by omega), h2.1 a (by omega) (by omega) (by omega), pm_up_ne (by omega)]
  have htab : ∀ s, s < 41 → F2 (o + 8) (82 + s) = rf_T (rf_g (A (o + 1)) g m p q) kpA n (rf_e goal) n 2 s := by
    intro s hs
    rw [show 82 + s = (5 * 0 + 2) * 41 + s by omega, hT3 0 (Nat.zero_le n) 2 s (by decide) hs, Nat.sub_zero, hcong s hs]
  by_cases hc : rf_T (rf_g (A (o + 1)) g m p q) kpA n (rf_e goal) n 2 s0 = (-268435456)
  · have k4 := c_laysRow0 (G := G) (d := d + 1) (V := up2 V o 24 0) (A := F2) (B := B) (Q := Q) (t := t) (sl := sl) hF hn12 hin3 hT3 h0 (by rw [hcong s0 h0]; exact hc)
    refine ⟨up2 (up2 V o 24 0) o 20 (-268435456), F2, ?_, fr, fun a ha => by rw [up2_na ha, up2_na ha], fun k h1 h2 h3 => by rw [up2_nk h1, up2_nk h3], by rw [up2_eq]; exact hc.symm, htab, fun q => absurd hc q⟩
    refine pw_aload0 dX12_laysBest_0 ?_
    refine pw_o0v wX12_keepsAny lX12_296 rfl dX12_laysBest_1 hF.1 (k1) rfl (Nat.le_of_ble_eq_true rfl) (Nat.le_of_ble_eq_true rfl) ?_
    refine pw_aload0 dX12_laysBest_4 ?_
    refine pw_iload1 dX12_laysBest_5 ?_
    refine pw_iload2 dX12_laysBest_6 ?_
    refine pw_o2v wX12_laysGlads lX12_299 rfl dX12_laysBest_7 hF.1 (k2) rfl (Nat.le_of_ble_eq_true rfl) (Nat.le_of_ble_eq_true rfl) ?_
    refine pw_aload0 dX12_laysBest_10 ?_
    refine pw_aload0 dX12_laysBest_11 ?_
    refine pw_getr gX12_13 dX12_laysBest_12 hF.1 (mf_p1 hF) ?_
    refine pw_bipush (v := 10) dX12_laysBest_15 (by decide) ?_
    refine pw_iload2 dX12_laysBest_17 ?_
    refine pw_iadd dX12_laysBest_18 ?_
    refine pw_ald (j := 10 + q) dX12_laysBest_19 (mf_s1 hF) (by simp (disch := omega) only [nl_10, nI_add, pk_mul, pk_sub]; exact ix_m (by omega) (by omega)) (by omega) ?_
    rw [e2n]
    refine pw_iload3 dX12_laysBest_20 ?_
    refine pw_o2v wX12_laysToGo lX12_303 rfl dX12_laysBest_21 hF.1 (k3) rfl (Nat.le_of_ble_eq_true rfl) (Nat.le_of_ble_eq_true rfl) ?_
    refine pw_aload0 dX12_laysBest_24 ?_
    refine pw_aload0 dX12_laysBest_25 ?_
    refine pw_getr gX12_13 dX12_laysBest_26 hF.1 (mf_p1 hF) ?_
    refine pw_bipush (v := 10) dX12_laysBest_29 (by decide) ?_
    refine pw_iload2 dX12_laysBest_31 ?_
    refine pw_iadd dX12_laysBest_32 ?_
    refine pw_ald (j := 10 + q) dX12_laysBest_33 (mf_s1 hF) (by simp (disch := omega) only [nl_10, nI_add, pk_mul, pk_sub]; exact ix_m (by omega) (by omega)) (by omega) ?_
    rw [e3n]
    refine pw_aload0 dX12_laysBest_34 ?_
    refine pw_getr gX12_13 dX12_laysBest_35 hF.1 (mf_p1 hF) ?_
    refine pw_bipush (v := 77) dX12_laysBest_38 (by decide) ?_
    refine pw_iload1 dX12_laysBest_40 ?_
    refine pw_iadd dX12_laysBest_41 ?_
    refine pw_ald (j := 77 + p) dX12_laysBest_42 (mf_s1 hF) (by simp (disch := omega) only [nl_77, nI_add, pk_mul, pk_sub]; exact ix_m (by omega) (by omega)) (by omega) ?_
    rw [e3s]
    refine pw_o2i wX12_laysRow lX12_306 rfl dX12_laysBest_43 hF.1 (k4) rfl (Nat.le_of_ble_eq_true rfl) (Nat.le_of_ble_eq_true rfl) ?_
    exact pw_iret dX12_laysBest_46 rfl (bI_nar false) (rI (bI_z (by rw [hc]; rfl))) rfl
  · obtain ⟨R, k4, hR⟩ := c_laysRow1 (G := G) (d := d + 1) (V := up2 V o 24 0) (A := F2) (B := B) (Q := Q) (t := t) (sl := sl) hF hn12 hin3 hT3 h0 (by rw [hcong s0 h0]; exact hc)
    have hstc : ∀ b, b ≤ n → rf_st (rT (F2 (o + 7))) (rf_k (F2 (o + 10)) (up2 V o 24 0 o 24)) n (rf_e goal) s0 b = rf_st (rf_g (A (o + 1)) g m p q) kpA n (rf_e goal) s0 b := by
      rw [e37, e310]
      exact rf_st_cong h0 hGT hk hin0 hc
    refine ⟨up2 (up2 (up2 V o 24 0) o 20 (rf_T (rT (F2 (o + 7))) (rf_k (F2 (o + 10)) (up2 V o 24 0 o 24)) n (rf_e goal) n 2 s0)) o 21 (sI (rf_st (rT (F2 (o + 7))) (rf_k (F2 (o + 10)) (up2 V o 24 0 o 24)) n (rf_e goal) s0 n).2), pm_up F2 (o + 9) R, ?_, fun a ha => by rw [pm_up_ne (by omega)]; exact fr a ha, fun a ha => by rw [up2_na ha, up2_na ha, up2_na ha], fun k h1 h2 h3 => by rw [up2_nk h2, up2_nk h1, up2_nk h3], by rw [up2_nk (by decide), up2_eq]; exact hcong s0 h0, fun s hs => by rw [pm_up_ne (by omega)]; exact htab s hs, fun _ => ⟨by rw [up2_eq, hstc n (Nat.le_refl n)], fun b hb => by rw [pm_up_eq, hR, if_pos hb, hstc (b + 1) hb]⟩⟩
    refine pw_aload0 dX12_laysBest_0 ?_
    refine pw_o0v wX12_keepsAny lX12_296 rfl dX12_laysBest_1 hF.1 (k1) rfl (Nat.le_of_ble_eq_true rfl) (Nat.le_of_ble_eq_true rfl) ?_
    refine pw_aload0 dX12_laysBest_4 ?_
    refine pw_iload1 dX12_laysBest_5 ?_
    refine pw_iload2 dX12_laysBest_6 ?_
    refine pw_o2v wX12_laysGlads lX12_299 rfl dX12_laysBest_7 hF.1 (k2) rfl (Nat.le_of_ble_eq_true rfl) (Nat.le_of_ble_eq_true rfl) ?_
    refine pw_aload0 dX12_laysBest_10 ?_
    refine pw_aload0 dX12_laysBest_11 ?_
    refine pw_getr gX12_13 dX12_laysBest_12 hF.1 (mf_p1 hF) ?_
    refine pw_bipush (v := 10) dX12_laysBest_15 (by decide) ?_
    refine pw_iload2 dX12_laysBest_17 ?_
    refine pw_iadd dX12_laysBest_18 ?_
    refine pw_ald (j := 10 + q) dX12_laysBest_19 (mf_s1 hF) (by simp (disch := omega) only [nl_10, nI_add, pk_mul, pk_sub]; exact ix_m (by omega) (by omega)) (by omega) ?_
    rw [e2n]
    refine pw_iload3 dX12_laysBest_20 ?_
    refine pw_o2v wX12_laysToGo lX12_303 rfl dX12_laysBest_21 hF.1 (k3) rfl (Nat.le_of_ble_eq_true rfl) (Nat.le_of_ble_eq_true rfl) ?_
    refine pw_aload0 dX12_laysBest_24 ?_
    refine pw_aload0 dX12_laysBest_25 ?_
    refine pw_getr gX12_13 dX12_laysBest_26 hF.1 (mf_p1 hF) ?_
    refine pw_bipush (v := 10) dX12_laysBest_29 (by decide) ?_
    refine pw_iload2 dX12_laysBest_31 ?_
    refine pw_iadd dX12_laysBest_32 ?_
    refine pw_ald (j := 10 + q) dX12_laysBest_33 (mf_s1 hF) (by simp (disch := omega) only [nl_10, nI_add, pk_mul, pk_sub]; exact ix_m (by omega) (by omega)) (by omega) ?_
    rw [e3n]
    refine pw_aload0 dX12_laysBest_34 ?_
    refine pw_getr gX12_13 dX12_laysBest_35 hF.1 (mf_p1 hF) ?_
    refine pw_bipush (v := 77) dX12_laysBest_38 (by decide) ?_
    refine pw_iload1 dX12_laysBest_40 ?_
    refine pw_iadd dX12_laysBest_41 ?_
    refine pw_ald (j := 77 + p) dX12_laysBest_42 (mf_s1 hF) (by simp (disch := omega) only [nl_77, nI_add, pk_mul, pk_sub]; exact ix_m (by omega) (by omega)) (by omega) ?_
    rw [e3s]
    refine pw_o2i wX12_laysRow lX12_306 rfl dX12_laysBest_43 hF.1 (k4) rfl (Nat.le_of_ble_eq_true rfl) (Nat.le_of_ble_eq_true rfl) ?_
    exact pw_iret dX12_laysBest_46 rfl (bI_nar true) (rI (bI_t (by simp only [ne_eq, decide_eq_true_eq]; exact hc))) rfl
/-- the draw that comes: its place, 9 where none can be -/
def rf_nf (f : Nat → Int32) : Nat → Int32 → Nat → Nat → Nat
  | best, _, _, 0 => best
  | best, most, w, c + 1 => if most < f w then rf_nf f w (f w) (w + 1) c else rf_nf f best most (w + 1) c
def rf_na (f : Nat → Int32) : Nat := rf_nf f 9 (-268435456) 0 5
def nd (w : Nat) : Int32 := if w = 9 then 9 else dI w
theorem nd_lt {w : Nat} (h : w < 5) : nd w = dI w := if_neg (by omega)
theorem nd_9 {w : Nat} (h : w < 5 ∨ w = 9) : nd w = 9 ↔ w = 9 := by
  rcases h with h | h
  · rw [nd_lt h, eq_i (dI_t (by omega)) li_9]
    omega
  · rw [h]
    simp [nd]
theorem rf_nf_ok (f : Nat → Int32) : ∀ (c w best : Nat) (most : Int32), w + c = 5 → (-268435456) ≤ most → (best = 9 ∨ (best < 5 ∧ f best ≠ (-268435456))) → (rf_nf f best most w c = 9 ∨ (rf_nf f best most w c < 5 ∧ f (rf_nf f best most w c) ≠ (-268435456)))
  | 0, w, best, most, _, _, h => h
  | c + 1, w, best, most, hw, hm, h => by
    rw [rf_nf]
    by_cases q : most < f w
    · rw [if_pos q]
      have hlt : (-268435456) < f w := Int32.lt_of_le_of_lt hm q
      exact rf_nf_ok f c (w + 1) w (f w) (by omega) (Int32.le_of_lt hlt) (Or.inr ⟨by omega, fun e => by rw [e] at hlt; exact absurd hlt (by decide)⟩)
    · rw [if_neg q]
      exact rf_nf_ok f c (w + 1) best most (by omega) hm h
theorem rf_na_ok (f : Nat → Int32) : rf_na f = 9 ∨ (rf_na f < 5 ∧ f (rf_na f) ≠ (-268435456)) := rf_nf_ok f 5 0 9 (-268435456) rfl (by decide) (Or.inl rfl)
set_option maxRecDepth 20000 in
theorem l_naturally {G : gT} {d : Nat} {S : sS} {V : sV} {P : sP} {A : sV} {B : sB} {Q : sP} {t sl o : Nat} (hF : MF S P o) {b l s : Nat} (hb : b < 12) (hl : l < 5) (hs : s < 41) : ∀ (c w best : Nat) (most : Int32) (x7 : Option Value), w + c = 5 → PW G (d + 2) mX12_naturally 13 [some (.ref o), some (.int (nI b)), some (.int (dI l)), some (.int (sI s)), some (.int (nd best)), some (.int most), some (.int (dI w)), x7] [] (t, sl, gh S V P A B Q) (some (.int (nd (rf_nf (rT (A (o + 7)) b l s) best most w c)))) (t, sl, gh S V P A B Q) := by
  intro c
  induction c with
  | zero =>
    intro w best most x7 hw
    have hw : w = 5 := hw
    subst hw
    refine pw_iload6 dX12_naturally_13 ?_
    refine pw_iconst (v := 2) dX12_naturally_15 (by decide) ?_
    refine pw_icmp_gt (tgt := 54) dX12_naturally_16 (by decide) (fun c16 => ?_) (fun c16 => absurd (by rw [lt_i li_2 (dI_t (by omega))]; omega) c16)
    refine pw_iload4 dX12_naturally_54 ?_
    exact pw_iret dX12_naturally_56 rfl rfl rfl rfl
  | succ c ih =>
    intro w best most x7 hw
    refine pw_iload6 dX12_naturally_13 ?_
    refine pw_iconst (v := 2) dX12_naturally_15 (by decide) ?_
    refine pw_icmp_gt (tgt := 54) dX12_naturally_16 (by decide) (fun c16 => absurd c16 (by rw [lt_i li_2 (dI_t (by omega))]; omega)) (fun c16 => ?_)
    refine pw_aload0 dX12_naturally_19 ?_
    refine pw_iload1 dX12_naturally_20 ?_
    refine pw_iload2 dX12_naturally_21 ?_
    refine pw_iload3 dX12_naturally_22 ?_
    refine pw_iload6 dX12_naturally_23 ?_
    refine pw_o4i wX12_gladAt lX12_280 rfl dX12_naturally_25 hF.1 (c_gladAt hF hb hl hs (show w < 5 by omega)) rfl (Nat.le_of_ble_eq_true rfl) (Nat.le_of_ble_eq_true rfl) ?_
    refine pw_istore7 dX12_naturally_28 (by decide) (k := ?_)
    refine pw_iload7 dX12_naturally_30 ?_
    refine pw_iload5 dX12_naturally_32 ?_
    refine pw_icmp_gt (tgt := 40) dX12_naturally_34 (by decide) (fun c34 => ?_) (fun c34 => ?_)
    · refine pw_iload6 dX12_naturally_40 ?_
      refine pw_istore4 dX12_naturally_42 (by decide) (k := ?_)
      refine pw_iload7 dX12_naturally_44 ?_
      refine pw_istore5 dX12_naturally_46 (by decide) (k := ?_)
      refine pw_iinc6 (v := 1) dX12_naturally_48 (by decide) (by decide) (k := ?_)
      refine pw_goto (tgt := 13) dX12_naturally_51 (by decide) ?_
      rw [dI_1, rf_nf, if_pos c34, ← nd_lt (show w < 5 by omega)]
      exact ih _ _ _ _ (by omega)
    · refine pw_goto (tgt := 48) dX12_naturally_37 (by decide) ?_
      refine pw_iinc6 (v := 1) dX12_naturally_48 (by decide) (by decide) (k := ?_)
      refine pw_goto (tgt := 13) dX12_naturally_51 (by decide) ?_
      rw [dI_1, rf_nf, if_neg c34]
      exact ih _ _ _ _ (by omega)
set_option maxRecDepth 20000 in
theorem c_naturally {G : gT} {d : Nat} {S : sS} {V : sV} {P : sP} {A : sV} {B : sB} {Q : sP} {t sl o : Nat} (hF : MF S P o) {b l s : Nat} (hb : b < 12) (hl : l < 5) (hs : s < 41) : PW G (d + 2) mX12_naturally 0 [some (.ref o), some (.int (nI b)), some (.int (dI l)), some (.int (sI s)), none, none, none, none] [] (t, sl, gh S V P A B Q) (some (.int (nd (rf_na (rT (A (o + 7)) b l s))))) (t, sl, gh S V P A B Q) := by
  refine pw_bipush (v := 9) dX12_naturally_0 (by decide) ?_
  rw [show (9 : Int32) = nd 9 from rfl]
  refine pw_istore4 dX12_naturally_2 (by decide) (k := ?_)
  refine pw_ldcw kX12_273 dX12_naturally_4 ?_
  refine pw_istore5 dX12_naturally_7 (by decide) (k := ?_)
  refine pw_bipush (v := -2) dX12_naturally_9 (by decide) ?_
  rw [show (-2 : Int32) = dI 0 from rfl]
  refine pw_istore6 dX12_naturally_11 (by decide) (k := ?_)
  exact l_naturally hF hb hl hs 5 0 9 _ _ rfl
