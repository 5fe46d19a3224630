/-! ===== the reference: the best row ===== -/
theorem up2_up2 {α : Type} {A : Nat → Nat → α} {a k : Nat} {x y : α} : up2 (up2 A a k x) a k y = up2 A a k y := by
  rw [up2, up2, pm_up_eq, pm_up_up, pm_up_up]
  rfl
theorem up2_comm {α : Type} {A : Nat → Nat → α} {a k j : Nat} {x y : α} (h : k ≠ j) : up2 (up2 A a k x) a j y = up2 (up2 A a j y) a k x := by
  rw [up2, up2, up2, up2, pm_up_eq, pm_up_eq, pm_up_up, pm_up_up, pm_up_comm h]
def rf_fw (f : Nat → Int32) (x : Int32) : Nat := if f 0 = x then 0 else if f 1 = x then 1 else if f 2 = x then 2 else if f 3 = x then 3 else 4
theorem rf_fw_lt (f : Nat → Int32) (x : Int32) : rf_fw f x < 5 := by
  unfold rf_fw
  repeat' split
  all_goals omega
theorem rf_fw_first {f : Nat → Int32} {x : Int32} {w : Nat} (h : w < rf_fw f x) : f w ≠ x := by
  unfold rf_fw at h
  intro q
  repeat' split at h
  all_goals rcases (show w = 0 ∨ w = 1 ∨ w = 2 ∨ w = 3 ∨ 4 ≤ w by omega) with rfl | rfl | rfl | rfl | h4 <;> first | omega | contradiction
theorem rf_fw_at {f : Nat → Int32} {x : Int32} (h : ∃ w, w < 5 ∧ f w = x) : f (rf_fw f x) = x := by
  obtain ⟨w, hw, hx⟩ := h
  by_cases hc : w < rf_fw f x
  · exact absurd hx (rf_fw_first hc)
  · unfold rf_fw at hc ⊢
    repeat' split at hc
    all_goals simp_all
    all_goals (have : w = 4 := by omega); subst this; exact hx
theorem rf_mf_in (f : Nat → Int32) : ∀ (c w : Nat) (acc : Int32), w + c = 5 → rf_mf f acc w c = acc ∨ ∃ i, i < 5 ∧ f i = rf_mf f acc w c
  | 0, w, acc, _ => Or.inl rfl
  | c + 1, w, acc, hw => by
    rw [rf_mf]
    rcases rf_mf_in f c (w + 1) (if f w ≤ acc then acc else f w) (by omega) with h | h
    · rw [h]
      by_cases q : f w ≤ acc
      · rw [if_pos q]
        exact Or.inl rfl
      · rw [if_neg q]
        exact Or.inr ⟨w, by omega, rfl⟩
    · exact Or.inr h
theorem rf_mx_in {f : Nat → Int32} (h : rf_mx f ≠ (-268435456)) : ∃ i, i < 5 ∧ f i = rf_mx f := (rf_mf_in f 5 0 (-268435456) rfl).resolve_left h
section RST
variable (T : Nat → Nat → Nat → Nat → Int32) (kp : Nat → Nat → Bool) (n : Nat) (e : Nat → Int32)
/-- the draw that the best row takes -/
def rf_bw (b l s : Nat) : Nat := rf_fw (rf_gb T kp (rf_T T kp n e (n - (b + 1))) b l s) (rf_T T kp n e (n - b) l s)
/-- last draw and store ahead of bar b on the best row -/
def rf_st (s0 : Nat) : Nat → Nat × Nat
  | 0 => (2, s0)
  | b + 1 => (rf_bw T kp n e b (rf_st s0 b).1 (rf_st s0 b).2, (rf_st s0 b).2 + 2 - rf_bw T kp n e b (rf_st s0 b).1 (rf_st s0 b).2)
end RST
theorem rf_st_0 (T : Nat → Nat → Nat → Nat → Int32) (kp : Nat → Nat → Bool) (n : Nat) (e : Nat → Int32) (s0 : Nat) : rf_st T kp n e s0 0 = (2, s0) := rfl
theorem rf_st_1 (T : Nat → Nat → Nat → Nat → Int32) (kp : Nat → Nat → Bool) (n : Nat) (e : Nat → Int32) (s0 b : Nat) : (rf_st T kp n e s0 (b + 1)).1 = rf_bw T kp n e b (rf_st T kp n e s0 b).1 (rf_st T kp n e s0 b).2 := rfl
theorem rf_st_2 (T : Nat → Nat → Nat → Nat → Int32) (kp : Nat → Nat → Bool) (n : Nat) (e : Nat → Int32) (s0 b : Nat) : (rf_st T kp n e s0 (b + 1)).2 = (rf_st T kp n e s0 b).2 + 2 - rf_bw T kp n e b (rf_st T kp n e s0 b).1 (rf_st T kp n e s0 b).2 := rfl
theorem rf_bw_ok {T : Nat → Nat → Nat → Nat → Int32} {kp : Nat → Nat → Bool} {n : Nat} {e : Nat → Int32} {b l s : Nat} (hb : b < n) (hs : s < 41) (hin : ∀ w, w < 5 → T b l s w ≠ (-268435456) → rf_in s w = true) (h : rf_T T kp n e (n - b) l s ≠ (-268435456)) :
    rf_gb T kp (rf_T T kp n e (n - (b + 1))) b l s (rf_bw T kp n e b l s) = rf_T T kp n e (n - b) l s ∧ rf_in s (rf_bw T kp n e b l s) = true ∧ rf_T T kp n e (n - (b + 1)) (rf_bw T kp n e b l s) (s + 2 - rf_bw T kp n e b l s) ≠ (-268435456) ∧ T b l s (rf_bw T kp n e b l s) ≠ (-268435456) := by
  have e1 : rf_T T kp n e (n - b) l s = rf_mx (rf_gb T kp (rf_T T kp n e (n - (b + 1))) b l s) := by
    rw [show n - b = (n - (b + 1)) + 1 by omega, rf_T, show n - (n - (b + 1) + 1) = b by omega]
  have h1 : rf_gb T kp (rf_T T kp n e (n - (b + 1))) b l s (rf_bw T kp n e b l s) = rf_T T kp n e (n - b) l s := by
    unfold rf_bw
    exact rf_fw_at (by rw [e1] at h ⊢; exact rf_mx_in h)
  have h2 := h
  rw [← h1] at h2
  unfold rf_gb at h2
  by_cases hk : kp b (rf_bw T kp n e b l s) = true
  · rw [if_pos hk] at h2
    by_cases hT : T b l s (rf_bw T kp n e b l s) = (-268435456)
    · rw [if_pos hT] at h2
      exact absurd rfl h2
    · rw [if_neg hT] at h2
      by_cases hN : rf_T T kp n e (n - (b + 1)) (rf_bw T kp n e b l s) (s + 2 - rf_bw T kp n e b l s) = (-268435456)
      · rw [if_pos hN] at h2
        exact absurd rfl h2
      · exact ⟨h1, hin _ (rf_fw_lt _ _) hT, hN, hT⟩
  · rw [if_neg hk] at h2
    exact absurd rfl h2
theorem rf_st_ok {T : Nat → Nat → Nat → Nat → Int32} {kp : Nat → Nat → Bool} {n : Nat} {e : Nat → Int32} {s0 : Nat} (h0 : s0 < 41) (hin : ∀ b l s w, b < n → l < 5 → s < 41 → w < 5 → T b l s w ≠ (-268435456) → rf_in s w = true) (h : rf_T T kp n e n 2 s0 ≠ (-268435456)) : ∀ b, b ≤ n → (rf_st T kp n e s0 b).1 < 5 ∧ (rf_st T kp n e s0 b).2 < 41 ∧ rf_T T kp n e (n - b) (rf_st T kp n e s0 b).1 (rf_st T kp n e s0 b).2 ≠ (-268435456) := by
  intro b
  induction b with
  | zero =>
    intro _
    exact ⟨by show 2 < 5; decide, h0, h⟩
  | succ b ih =>
    intro hb
    obtain ⟨i1, i2, i3⟩ := ih (by omega)
    obtain ⟨-, k2, k3, -⟩ := rf_bw_ok (show b < n by omega) i2 (fun w hw => hin b _ _ w (by omega) i1 i2 hw) i3
    unfold rf_in at k2
    simp only [decide_eq_true_eq] at k2
    refine ⟨rf_fw_lt _ _, ?_, k3⟩
    show (rf_st T kp n e s0 b).2 + 2 - rf_bw T kp n e b (rf_st T kp n e s0 b).1 (rf_st T kp n e s0 b).2 < 41
    omega
set_option maxRecDepth 20000 in
theorem l_laysRow1 {G : gT} {d : Nat} {S : sS} {V : sV} {P : sP} {A : sV} {B : sB} {Q : sP} {t sl o : Nat} (hF : MF S P o) {n : Nat} (hn12 : n ≤ 12) {e : Nat → Int32} (hin : ∀ b l s w, b < n → l < 5 → s < 41 → w < 5 → rT (A (o + 7)) b l s w ≠ (-268435456) → rf_in s w = true) (hT : ∀ b, b ≤ n → ∀ l s, l < 5 → s < 41 → A (o + 8) ((5 * b + l) * 41 + s) = rf_T (rT (A (o + 7))) (rf_k (A (o + 10)) (V o 24)) n e (n - b) l s) {V1 : sV} {R : Nat → Int32} {x2 : Int32} {b l s : Nat} {r : Option Value} {h' : Ph} (hb : b < n) (hl : l < 5) (hs : s < 41) (hV : V1 o 21 = sI s) (hV4 : V1 o 24 = V o 24) (hc : rf_T (rT (A (o + 7))) (rf_k (A (o + 10)) (V o 24)) n e (n - b) l s ≠ (-268435456)) (kf : PW G (d + 3) mX12_laysRow 84 [some (.ref o), some (.int (nI n)), some (.int x2), some (.int (dI l)), some (.int (nI b)), some (.int (dI (rf_bw (rT (A (o + 7))) (rf_k (A (o + 10)) (V o 24)) n e b l s)))] [] (t, sl, gh S V1 P (pm_up A (o + 9) R) B Q) r h') : ∀ (c w : Nat), w + c = rf_bw (rT (A (o + 7))) (rf_k (A (o + 10)) (V o 24)) n e b l s → PW G (d + 3) mX12_laysRow 47 [some (.ref o), some (.int (nI n)), some (.int x2), some (.int (dI l)), some (.int (nI b)), some (.int (dI w))] [] (t, sl, gh S V1 P (pm_up A (o + 9) R) B Q) r h' := by
  have f7 : (pm_up A (o + 9) R) (o + 7) = A (o + 7) := pm_up_ne (by omega)
  have f8 : (pm_up A (o + 9) R) (o + 8) = A (o + 8) := pm_up_ne (by omega)
  have f10 : (pm_up A (o + 9) R) (o + 10) = A (o + 10) := pm_up_ne (by omega)
  have hlt : rf_bw (rT (A (o + 7))) (rf_k (A (o + 10)) (V o 24)) n e b l s < 5 := rf_fw_lt _ _
  have hgb : ∀ w, w < 5 → rf_gb (rT ((pm_up A (o + 9) R) (o + 7))) (rf_k ((pm_up A (o + 9) R) (o + 10)) (V1 o 24)) (fun w' s' => (pm_up A (o + 9) R) (o + 8) ((5 * (b + 1) + w') * 41 + s')) b l s w = rf_gb (rT (A (o + 7))) (rf_k (A (o + 10)) (V o 24)) (rf_T (rT (A (o + 7))) (rf_k (A (o + 10)) (V o 24)) n e (n - (b + 1))) b l s w := by
    intro w hw
    rw [f7, f10, hV4]
    exact rf_gb_cong hs hw (hin b l s w hb hl hs hw) (fun l' s' hl' hs' => by rw [f8]; exact hT (b + 1) (by omega) l' s' hl' hs')
  intro c
  induction c with
  | zero =>
    intro w hw
    have hw : w = rf_bw (rT (A (o + 7))) (rf_k (A (o + 10)) (V o 24)) n e b l s := hw
    subst hw
    have kg := c_goesBy (G := G) (d := d) (V := V1) (A := (pm_up A (o + 9) R)) (B := B) (Q := Q) (t := t) (sl := sl) hF (show b < 12 by omega) hl hs hlt (by rw [f7]; exact hin b l s _ hb hl hs hlt)
    rw [hgb _ hlt] at kg
    have hx := (rf_bw_ok hb hs (fun w hw => hin b l s w hb hl hs hw) hc).1
    refine pw_aload0 dX12_laysRow_47 ?_
    refine pw_iload4 dX12_laysRow_48 ?_
    refine pw_iload3 dX12_laysRow_50 ?_
    refine pw_aload0 dX12_laysRow_51 ?_
    refine pw_geti gX12_293 dX12_laysRow_52 hF.1 ?_
    rw [hV]
    refine pw_iload5 dX12_laysRow_55 ?_
    refine pw_o4i wX12_goesBy lX12_287 rfl dX12_laysRow_57 hF.1 (kg) rfl (Nat.le_of_ble_eq_true rfl) (Nat.le_of_ble_eq_true rfl) ?_
    refine pw_aload0 dX12_laysRow_60 ?_
    refine pw_getr gX12_39 dX12_laysRow_61 hF.1 (mf_p18 hF) ?_
    refine pw_iload4 dX12_laysRow_64 ?_
    refine pw_iload3 dX12_laysRow_66 ?_
    refine pw_aload0 dX12_laysRow_67 ?_
    refine pw_geti gX12_293 dX12_laysRow_68 hF.1 ?_
    rw [hV]
    refine pw_s3i wX12_spot lX12_262 dX12_laysRow_71 (c_spotI b l s) rfl (Nat.le_of_ble_eq_true rfl) (Nat.le_of_ble_eq_true rfl) ?_
    refine pw_ald (j := (5 * b + l) * 41 + s) dX12_laysRow_74 (mf_s8 hF) (ix_m rfl (by omega)) (by omega) ?_
    rw [f8, hT b (by omega) l s hl hs]
    refine pw_icmp_eq (tgt := 84) dX12_laysRow_75 (by decide) (fun c75 => ?_) (fun c75 => absurd hx c75)
    exact kf
  | succ c ih =>
    intro w hw
    have kg := c_goesBy (G := G) (d := d) (V := V1) (A := (pm_up A (o + 9) R)) (B := B) (Q := Q) (t := t) (sl := sl) hF (show b < 12 by omega) hl hs (show w < 5 by omega) (by rw [f7]; exact hin b l s w hb hl hs (by omega))
    rw [hgb _ (by omega)] at kg
    have hx : rf_gb (rT (A (o + 7))) (rf_k (A (o + 10)) (V o 24)) (rf_T (rT (A (o + 7))) (rf_k (A (o + 10)) (V o 24)) n e (n - (b + 1))) b l s w ≠ rf_T (rT (A (o + 7))) (rf_k (A (o + 10)) (V o 24)) n e (n - b) l s := rf_fw_first (show w < rf_bw (rT (A (o + 7))) (rf_k (A (o + 10)) (V o 24)) n e b l s by omega)
    refine pw_aload0 dX12_laysRow_47 ?_
    refine pw_iload4 dX12_laysRow_48 ?_
    refine pw_iload3 dX12_laysRow_50 ?_
    refine pw_aload0 dX12_laysRow_51 ?_
    refine pw_geti gX12_293 dX12_laysRow_52 hF.1 ?_
    rw [hV]
    refine pw_iload5 dX12_laysRow_55 ?_
    refine pw_o4i wX12_goesBy lX12_287 rfl dX12_laysRow_57 hF.1 (kg) rfl (Nat.le_of_ble_eq_true rfl) (Nat.le_of_ble_eq_true rfl) ?_
    refine pw_aload0 dX12_laysRow_60 ?_
    refine pw_getr gX12_39 dX12_laysRow_61 hF.1 (mf_p18 hF) ?_
    refine pw_iload4 dX12_laysRow_64 ?_
    refine pw_iload3 dX12_laysRow_66 ?_
    refine pw_aload0 dX12_laysRow_67 ?_
    refine pw_geti gX12_293 dX12_laysRow_68 hF.1 ?_
    rw [hV]
    refine pw_s3i wX12_spot lX12_262 dX12_laysRow_71 (c_spotI b l s) rfl (Nat.le_of_ble_eq_true rfl) (Nat.le_of_ble_eq_true rfl) ?_
    refine pw_ald (j := (5 * b + l) * 41 + s) dX12_laysRow_74 (mf_s8 hF) (ix_m rfl (by omega)) (by omega) ?_
    rw [f8, hT b (by omega) l s hl hs]
    refine pw_icmp_eq (tgt := 84) dX12_laysRow_75 (by decide) (fun c75 => absurd c75 hx) (fun c75 => ?_)
    refine pw_iinc5 (v := 1) dX12_laysRow_78 (by decide) (by decide) (k := ?_)
    refine pw_goto (tgt := 47) dX12_laysRow_81 (by decide) ?_
    rw [dI_1]
    exact ih (w + 1) (by omega)
set_option maxRecDepth 20000 in
theorem l_laysRow2 {G : gT} {d : Nat} {S : sS} {V : sV} {P : sP} {A : sV} {B : sB} {Q : sP} {t sl o : Nat} (hF : MF S P o) {n : Nat} (hn12 : n ≤ 12) {e : Nat → Int32} (hin : ∀ b l s w, b < n → l < 5 → s < 41 → w < 5 → rT (A (o + 7)) b l s w ≠ (-268435456) → rf_in s w = true) (hT : ∀ b, b ≤ n → ∀ l s, l < 5 → s < 41 → A (o + 8) ((5 * b + l) * 41 + s) = rf_T (rT (A (o + 7))) (rf_k (A (o + 10)) (V o 24)) n e (n - b) l s) {V2 : sV} {x2 : Int32} {s0 : Nat} (h0 : s0 < 41) (hV4 : V2 o 24 = V o 24) (hc : rf_T (rT (A (o + 7))) (rf_k (A (o + 10)) (V o 24)) n e n 2 s0 ≠ (-268435456)) : ∀ (c b : Nat) (R : Nat → Int32) (x5 : Option Value), b + c = n → ∃ R' : Nat → Int32, PW G (d + 3) mX12_laysRow 37 [some (.ref o), some (.int (nI n)), some (.int x2), some (.int (dI (rf_st (rT (A (o + 7))) (rf_k (A (o + 10)) (V o 24)) n e s0 b).1)), some (.int (nI b)), x5] [] (t, sl, gh S (up2 V2 o 21 (sI (rf_st (rT (A (o + 7))) (rf_k (A (o + 10)) (V o 24)) n e s0 b).2)) P (pm_up A (o + 9) R) B Q) (some (.int 1)) (t, sl, gh S (up2 V2 o 21 (sI (rf_st (rT (A (o + 7))) (rf_k (A (o + 10)) (V o 24)) n e s0 n).2)) P (pm_up A (o + 9) R') B Q) ∧ ∀ i, R' i = if b ≤ i ∧ i < n then dI (rf_st (rT (A (o + 7))) (rf_k (A (o + 10)) (V o 24)) n e s0 (i + 1)).1 else R i := by
  intro c
  induction c with
  | zero =>
    intro b R x5 hb
    have hb : b = n := hb
    subst hb
    refine ⟨R, ?_, fun i => by rw [if_neg (by omega)]⟩
    refine pw_iload4 dX12_laysRow_37 ?_
    refine pw_iload1 dX12_laysRow_39 ?_
    refine pw_icmp_ge (tgt := 113) dX12_laysRow_40 (by decide) (fun c40 => ?_) (fun c40 => absurd (Int32.le_refl _) c40)
    refine pw_iconst (v := 1) dX12_laysRow_113 (by decide) ?_
    exact pw_iret dX12_laysRow_114 rfl rfl rfl rfl
  | succ c ih =>
    intro b R x5 hb
    obtain ⟨i1, i2, i3⟩ := rf_st_ok h0 hin hc b (by omega)
    have hok := rf_bw_ok (show b < n by omega) i2 (fun w hw => hin b _ _ w (by omega) i1 i2 hw) i3
    have hsw : rf_bw (rT (A (o + 7))) (rf_k (A (o + 10)) (V o 24)) n e b (rf_st (rT (A (o + 7))) (rf_k (A (o + 10)) (V o 24)) n e s0 b).1 (rf_st (rT (A (o + 7))) (rf_k (A (o + 10)) (V o 24)) n e s0 b).2 ≤ (rf_st (rT (A (o + 7))) (rf_k (A (o + 10)) (V o 24)) n e s0 b).2 + 2 := by
      have := hok.2.1
      unfold rf_in at this
      simp only [decide_eq_true_eq] at this
      exact this.1
    obtain ⟨R', kk, hR'⟩ := ih (b + 1) (pm_up R b (dI (rf_bw (rT (A (o + 7))) (rf_k (A (o + 10)) (V o 24)) n e b (rf_st (rT (A (o + 7))) (rf_k (A (o + 10)) (V o 24)) n e s0 b).1 (rf_st (rT (A (o + 7))) (rf_k (A (o + 10)) (V o 24)) n e s0 b).2))) (some (.int (dI (rf_bw (rT (A (o + 7))) (rf_k (A (o + 10)) (V o 24)) n e b (rf_st (rT (A (o + 7))) (rf_k (A (o + 10)) (V o 24)) n e s0 b).1 (rf_st (rT (A (o + 7))) (rf_k (A (o + 10)) (V o 24)) n e s0 b).2)))) (by omega)
    rw [rf_st_1, rf_st_2] at kk
    refine ⟨R', ?_, fun i => ?_⟩
    · have ks := l_laysRow1 (G := G) (d := d) (V := V) (B := B) (Q := Q) (t := t) (sl := sl) (V1 := (up2 V2 o 21 (sI (rf_st (rT (A (o + 7))) (rf_k (A (o + 10)) (V o 24)) n e s0 b).2))) (R := R) (x2 := x2) (r := some (.int 1)) (h' := (t, sl, gh S (up2 V2 o 21 (sI (rf_st (rT (A (o + 7))) (rf_k (A (o + 10)) (V o 24)) n e s0 n).2)) P (pm_up A (o + 9) R') B Q)) hF hn12 hin hT (show b < n by omega) i1 i2 up2_eq (by rw [up2_nk (by decide)]; exact hV4) i3 (by
      refine pw_aload0 dX12_laysRow_84 ?_
      refine pw_getr gX12_42 dX12_laysRow_85 hF.1 (mf_p19 hF) ?_
      refine pw_iload4 dX12_laysRow_88 ?_
      refine pw_iload5 dX12_laysRow_90 ?_
      refine pw_ast (j := b) dX12_laysRow_92 (mf_s9 hF) (ix_m rfl (by omega)) (by omega)  ?_
      refine pw_aload0 dX12_laysRow_93 ?_
      refine pw_dup dX12_laysRow_94 rfl ?_
      refine pw_geti gX12_293 dX12_laysRow_95 hF.1 ?_
      rw [up2_eq]
      refine pw_iload5 dX12_laysRow_98 ?_
      refine pw_isub dX12_laysRow_100 ?_
      rw [sw_I hsw]
      refine pw_puti (pX12_293 _ rfl) dX12_laysRow_101 hF.1 rfl rfl ?_
      refine pw_iload5 dX12_laysRow_104 ?_
      refine pw_istore3 dX12_laysRow_106 (by decide) (k := ?_)
      refine pw_iinc4 (v := 1) dX12_laysRow_107 (by decide) (by decide) (k := ?_)
      refine pw_goto (tgt := 37) dX12_laysRow_110 (by decide) ?_
      rw [nI_1, up2_up2, up2_up]
      exact kk) (rf_bw (rT (A (o + 7))) (rf_k (A (o + 10)) (V o 24)) n e b (rf_st (rT (A (o + 7))) (rf_k (A (o + 10)) (V o 24)) n e s0 b).1 (rf_st (rT (A (o + 7))) (rf_k (A (o + 10)) (V o 24)) n e s0 b).2) 0 (by omega)
      refine pw_iload4 dX12_laysRow_37 ?_
      refine pw_iload1 dX12_laysRow_39 ?_
      refine pw_icmp_ge (tgt := 113) dX12_laysRow_40 (by decide) (fun c40 => absurd c40 (by rw [le_i (ix_n (j := n) (by omega)) (ix_n (j := b) (by omega))]; omega)) (fun c40 => ?_)
      refine pw_bipush (v := -2) dX12_laysRow_43 (by decide) ?_
      rw [show (-2 : Int32) = dI 0 from rfl]
      refine pw_istore5 dX12_laysRow_45 (by decide) (k := ?_)
      exact ks
    · rw [hR']
      unfold pm_up
      by_cases ei : i = b
      · rw [ei, if_neg (by omega), if_pos rfl, if_pos (by omega), rf_st_1]
      · rw [if_neg ei]
        by_cases e2 : b + 1 ≤ i ∧ i < n
        · rw [if_pos e2, if_pos (by omega)]
        · rw [if_neg e2, if_neg (by omega)]
set_option maxRecDepth 20000 in
theorem c_laysRow0 {G : gT} {d : Nat} {S : sS} {V : sV} {P : sP} {A : sV} {B : sB} {Q : sP} {t sl o : Nat} (hF : MF S P o) {n : Nat} (hn12 : n ≤ 12) {e : Nat → Int32} (hin : ∀ b l s w, b < n → l < 5 → s < 41 → w < 5 → rT (A (o + 7)) b l s w ≠ (-268435456) → rf_in s w = true) (hT : ∀ b, b ≤ n → ∀ l s, l < 5 → s < 41 → A (o + 8) ((5 * b + l) * 41 + s) = rf_T (rT (A (o + 7))) (rf_k (A (o + 10)) (V o 24)) n e (n - b) l s) {s0 : Nat} (h0 : s0 < 41) (hc : rf_T (rT (A (o + 7))) (rf_k (A (o + 10)) (V o 24)) n e n 2 s0 = (-268435456)) : PW G (d + 3) mX12_laysRow 0 [some (.ref o), some (.int (nI n)), some (.int (sI s0)), none, none, none] [] (t, sl, gh S V P A B Q) (some (.int 0)) (t, sl, gh S (up2 V o 20 (-268435456)) P A B Q) := by
    have kz : PW G (d + 2) mX12_spot 0 [some (.int 0), some (.int 0), some (.int (sI s0))] [] (t, sl, gh S V P A B Q) (some (.int (nI ((5 * 0 + 2) * 41 + s0)))) (t, sl, gh S V P A B Q) := c_spotI 0 2 s0
    refine pw_aload0 dX12_laysRow_0 ?_
    refine pw_aload0 dX12_laysRow_1 ?_
    refine pw_getr gX12_39 dX12_laysRow_2 hF.1 (mf_p18 hF) ?_
    refine pw_iconst (v := 0) dX12_laysRow_5 (by decide) ?_
    refine pw_iconst (v := 0) dX12_laysRow_6 (by decide) ?_
    refine pw_iload2 dX12_laysRow_7 ?_
    refine pw_s3i wX12_spot lX12_262 dX12_laysRow_8 (kz) rfl (Nat.le_of_ble_eq_true rfl) (Nat.le_of_ble_eq_true rfl) ?_
    refine pw_ald (j := (5 * 0 + 2) * 41 + s0) dX12_laysRow_11 (mf_s8 hF) (ix_m rfl (by omega)) (by omega) ?_
    rw [hT 0 (by omega) 2 s0 (by decide) h0, Nat.sub_zero, hc]
    refine pw_puti (pX12_290 _ rfl) dX12_laysRow_12 hF.1 rfl rfl ?_
    refine pw_aload0 dX12_laysRow_15 ?_
    refine pw_geti gX12_290 dX12_laysRow_16 hF.1 ?_
    rw [up2_eq]
    refine pw_ldcw kX12_273 dX12_laysRow_19 ?_
    refine pw_icmp_ne (tgt := 27) dX12_laysRow_22 (by decide) (fun c22 => absurd rfl c22) (fun c22 => ?_)
    refine pw_iconst (v := 0) dX12_laysRow_25 (by decide) ?_
    exact pw_iret dX12_laysRow_26 rfl rfl rfl rfl
set_option maxRecDepth 20000 in
theorem c_laysRow1 {G : gT} {d : Nat} {S : sS} {V : sV} {P : sP} {A : sV} {B : sB} {Q : sP} {t sl o : Nat} (hF : MF S P o) {n : Nat} (hn12 : n ≤ 12) {e : Nat → Int32} (hin : ∀ b l s w, b < n → l < 5 → s < 41 → w < 5 → rT (A (o + 7)) b l s w ≠ (-268435456) → rf_in s w = true) (hT : ∀ b, b ≤ n → ∀ l s, l < 5 → s < 41 → A (o + 8) ((5 * b + l) * 41 + s) = rf_T (rT (A (o + 7))) (rf_k (A (o + 10)) (V o 24)) n e (n - b) l s) {s0 : Nat} (h0 : s0 < 41) (hc : rf_T (rT (A (o + 7))) (rf_k (A (o + 10)) (V o 24)) n e n 2 s0 ≠ (-268435456)) : ∃ R : Nat → Int32, PW G (d + 3) mX12_laysRow 0 [some (.ref o), some (.int (nI n)), some (.int (sI s0)), none, none, none] [] (t, sl, gh S V P A B Q) (some (.int 1)) (t, sl, gh S (up2 (up2 V o 20 (rf_T (rT (A (o + 7))) (rf_k (A (o + 10)) (V o 24)) n e n 2 s0)) o 21 (sI (rf_st (rT (A (o + 7))) (rf_k (A (o + 10)) (V o 24)) n e s0 n).2)) P (pm_up A (o + 9) R) B Q) ∧ ∀ i, R i = if i < n then dI (rf_st (rT (A (o + 7))) (rf_k (A (o + 10)) (V o 24)) n e s0 (i + 1)).1 else A (o + 9) i := by
    obtain ⟨R, kk, hR⟩ := l_laysRow2 (G := G) (d := d) (V := V) (B := B) (Q := Q) (t := t) (sl := sl) (V2 := up2 V o 20 (rf_T (rT (A (o + 7))) (rf_k (A (o + 10)) (V o 24)) n e n 2 s0)) (x2 := sI s0) hF hn12 hin hT h0 (up2_nk (by decide)) hc n 0 (A (o + 9)) none (by omega)
    have kz : PW G (d + 2) mX12_spot 0 [some (.int 0), some (.int 0), some (.int (sI s0))] [] (t, sl, gh S V P A B Q) (some (.int (nI ((5 * 0 + 2) * 41 + s0)))) (t, sl, gh S V P A B Q) := c_spotI 0 2 s0
    refine ⟨R, ?_, fun i => by rw [hR]; simp⟩
    rw [pm_up_self, rf_st_0] at kk
    refine pw_aload0 dX12_laysRow_0 ?_
    refine pw_aload0 dX12_laysRow_1 ?_
    refine pw_getr gX12_39 dX12_laysRow_2 hF.1 (mf_p18 hF) ?_
    refine pw_iconst (v := 0) dX12_laysRow_5 (by decide) ?_
    refine pw_iconst (v := 0) dX12_laysRow_6 (by decide) ?_
    refine pw_iload2 dX12_laysRow_7 ?_
    refine pw_s3i wX12_spot lX12_262 dX12_laysRow_8 (kz) rfl (Nat.le_of_ble_eq_true rfl) (Nat.le_of_ble_eq_true rfl) ?_
    refine pw_ald (j := (5 * 0 + 2) * 41 + s0) dX12_laysRow_11 (mf_s8 hF) (ix_m rfl (by omega)) (by omega) ?_
    rw [hT 0 (by omega) 2 s0 (by decide) h0, Nat.sub_zero]
    refine pw_puti (pX12_290 _ rfl) dX12_laysRow_12 hF.1 rfl rfl ?_
    refine pw_aload0 dX12_laysRow_15 ?_
    refine pw_geti gX12_290 dX12_laysRow_16 hF.1 ?_
    rw [up2_eq]
    refine pw_ldcw kX12_273 dX12_laysRow_19 ?_
    refine pw_icmp_ne (tgt := 27) dX12_laysRow_22 (by decide) (fun c22 => ?_) (fun c22 => absurd c22 hc)
    refine pw_iconst (v := 0) dX12_laysRow_27 (by decide) ?_
    rw [show (0 : Int32) = dI 2 from rfl]
    refine pw_istore3 dX12_laysRow_28 (by decide) (k := ?_)
    refine pw_aload0 dX12_laysRow_29 ?_
    refine pw_iload2 dX12_laysRow_30 ?_
    refine pw_puti (pX12_293 _ rfl) dX12_laysRow_31 hF.1 rfl rfl ?_
    refine pw_iconst (v := 0) dX12_laysRow_34 (by decide) ?_
    rw [show (0 : Int32) = nI 0 from rfl]
    refine pw_istore4 dX12_laysRow_35 (by decide) (k := ?_)
    exact kk
