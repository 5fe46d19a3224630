/-! ===== the reference: rows through a piece ===== -/
/-- the table's entry -/
def rT (f : Nat → Int32) (b l s w : Nat) : Int32 := f (5 * ((5 * b + l) * 41 + s) + w)
/-- a draw that is kept to what was told of the bar -/
def rf_k (td : Nat → Int32) (ap : Int32) (b w : Nat) : Bool := decide (td b = 9) || decide ((-ap).toInt64 ≤ (dI w - td b).toInt64 ∧ (dI w - td b).toInt64 ≤ ap.toInt64)
/-- going on by a draw: N is what is to go behind it -/
def rf_gb (T : Nat → Nat → Nat → Nat → Int32) (kp : Nat → Nat → Bool) (N : Nat → Nat → Int32) (b l s w : Nat) : Int32 :=
  if kp b w then (if T b l s w = -268435456 then -268435456 else if N w (s + 2 - w) = -268435456 then -268435456 else T b l s w + N w (s + 2 - w)) else -268435456
def rf_mf (f : Nat → Int32) : Int32 → Nat → Nat → Int32
  | acc, _, 0 => acc
  | acc, w, c + 1 => rf_mf f (if f w ≤ acc then acc else f w) (w + 1) c
def rf_mx (f : Nat → Int32) : Int32 := rf_mf f (-268435456) 0 5
set_option maxRecDepth 20000 in
theorem c_gladAt {G : gT} {d : Nat} {S : sS} {V : sV} {P : sP} {A : sV} {B : sB} {Q : sP} {t sl o : Nat} (hF : MF S P o) {b l s w : Nat} (hb : b < 12) (hl : l < 5) (hs : s < 41) (hw : w < 5) : PW G (d + 1) mX12_gladAt 0 [some (.ref o), some (.int (nI b)), some (.int (dI l)), some (.int (sI s)), some (.int (dI w))] [] (t, sl, gh S V P A B Q) (some (.int (rT (A (o + 7)) b l s w))) (t, sl, gh S V P A B Q) := by
  refine pw_aload0 dX12_gladAt_0 ?_
  refine pw_getr gX12_36 dX12_gladAt_1 hF.1 (mf_p17 hF) ?_
  refine pw_iconst (v := 5) dX12_gladAt_4 (by decide) ?_
  refine pw_iload1 dX12_gladAt_5 ?_
  refine pw_iload2 dX12_gladAt_6 ?_
  refine pw_iload3 dX12_gladAt_7 ?_
  refine pw_s3i wX12_spot lX12_262 dX12_gladAt_8 (c_spotI b l s) rfl (Nat.le_of_ble_eq_true rfl) (Nat.le_of_ble_eq_true rfl) ?_
  refine pw_imul dX12_gladAt_11 ?_
  refine pw_iload4 dX12_gladAt_12 ?_
  refine pw_iadd dX12_gladAt_14 ?_
  refine pw_iconst (v := 2) dX12_gladAt_15 (by decide) ?_
  refine pw_iadd dX12_gladAt_16 ?_
  rw [gl_I]
  refine pw_ald (j := 5 * ((5 * b + l) * 41 + s) + w) dX12_gladAt_17 (mf_s7 hF) (ix_m rfl (by omega)) (by omega) ?_
  exact pw_iret dX12_gladAt_18 rfl rfl rfl rfl
set_option maxRecDepth 20000 in
theorem c_isKept {G : gT} {d : Nat} {S : sS} {V : sV} {P : sP} {A : sV} {B : sB} {Q : sP} {t sl o : Nat} (hF : MF S P o) {b w : Nat} (hb : b < 12) : PW G (d + 1) mX12_isKept 0 [some (.ref o), some (.int (nI b)), some (.int (dI w))] [] (t, sl, gh S V P A B Q) (some (.int (bI (rf_k (A (o + 10)) (V o 24) b w)))) (t, sl, gh S V P A B Q) := by
  refine pw_aload0 dX12_isKept_0 ?_
  refine pw_getr gX12_45 dX12_isKept_1 hF.1 (mf_p23 hF) ?_
  refine pw_iload1 dX12_isKept_4 ?_
  refine pw_ald (j := b) dX12_isKept_5 (mf_s10 hF) (ix_m rfl (by omega)) (by omega) ?_
  refine pw_bipush (v := 9) dX12_isKept_6 (by decide) ?_
  refine pw_icmp_eq (tgt := 37) dX12_isKept_8 (by decide) (fun c8 => ?_) (fun c8 => ?_)
  · refine pw_iconst (v := 1) dX12_isKept_37 (by decide) ?_
    refine pw_goto (tgt := 42) dX12_isKept_38 (by decide) ?_
    exact pw_iret dX12_isKept_42 rfl rfl (rI (bI_t (by unfold rf_k; rw [decide_eq_true c8]; rfl))) rfl
  · refine pw_iload2 dX12_isKept_11 ?_
    refine pw_aload0 dX12_isKept_12 ?_
    refine pw_getr gX12_45 dX12_isKept_13 hF.1 (mf_p23 hF) ?_
    refine pw_iload1 dX12_isKept_16 ?_
    refine pw_ald (j := b) dX12_isKept_17 (mf_s10 hF) (ix_m rfl (by omega)) (by omega) ?_
    refine pw_isub dX12_isKept_18 ?_
    refine pw_i2l dX12_isKept_19 ?_
    refine pw_aload0 dX12_isKept_20 ?_
    refine pw_geti gX12_274 dX12_isKept_21 hF.1 ?_
    refine pw_ineg dX12_isKept_24 ?_
    refine pw_i2l dX12_isKept_25 ?_
    refine pw_aload0 dX12_isKept_26 ?_
    refine pw_geti gX12_274 dX12_isKept_27 hF.1 ?_
    refine pw_i2l dX12_isKept_30 ?_
    refine pw_s3i wX12_within lX12_152 dX12_isKept_31 (c_within _ _ _) rfl (Nat.le_of_ble_eq_true rfl) (Nat.le_of_ble_eq_true rfl) ?_
    refine pw_if_eq (tgt := 41) dX12_isKept_34 (by decide) (fun c34 => ?_) (fun c34 => ?_)
    · refine pw_iconst (v := 0) dX12_isKept_41 (by decide) ?_
      exact pw_iret dX12_isKept_42 rfl rfl (rI (bI_z (by unfold rf_k; rw [decide_eq_false c8, bI_0.mp c34]; rfl))) rfl
    · refine pw_iconst (v := 1) dX12_isKept_37 (by decide) ?_
      refine pw_goto (tgt := 42) dX12_isKept_38 (by decide) ?_
      exact pw_iret dX12_isKept_42 rfl rfl (rI (bI_t (by unfold rf_k; rw [bI_n.mp c34, Bool.or_true]))) rfl
set_option maxRecDepth 20000 in
theorem l_keepsAny {G : gT} {d : Nat} {S : sS} {V : sV} {P : sP} {B : sB} {Q : sP} {t sl o : Nat} (hF : MF S P o) : ∀ (m k : Nat) (A : sV), k + m = 12 → ∃ R : Nat → Int32, PW G d mX12_keepsAny 2 [some (.ref o), some (.int (nI k))] [] (t, sl, gh S V P A B Q) none (t, sl, gh S (up2 V o 24 0) P (pm_up A (o + 10) R) B Q) ∧ ∀ i, R i = if k ≤ i ∧ i < 12 then 9 else A (o + 10) i := by
  intro m
  induction m with
  | zero =>
    intro k A hk
    refine ⟨A (o + 10), ?_, fun i => by rw [if_neg (by omega)]⟩
    rw [pm_up_self]
    refine pw_iload1 dX12_keepsAny_2 ?_
    refine pw_bipush (v := 12) dX12_keepsAny_3 (by decide) ?_
    refine pw_icmp_ge (tgt := 22) dX12_keepsAny_5 (by decide) (fun c5 => ?_) (fun c5 => absurd (by rw [le_i li_12 (ix_n (j := k) (by omega))]; omega) c5)
    refine pw_aload0 dX12_keepsAny_22 ?_
    refine pw_iconst (v := 0) dX12_keepsAny_23 (by decide) ?_
    refine pw_puti (pX12_274 _ rfl) dX12_keepsAny_24 hF.1 rfl rfl ?_
    exact pw_vret dX12_keepsAny_27 rfl rfl rfl
  | succ m ih =>
    intro k A hk
    obtain ⟨R, kk, h2⟩ := ih (k + 1) (up2 A (o + 10) k 9) (by omega)
    refine ⟨R, ?_, fun i => ?_⟩
    · rw [up2_pm, pm_up_up] at kk
      refine pw_iload1 dX12_keepsAny_2 ?_
      refine pw_bipush (v := 12) dX12_keepsAny_3 (by decide) ?_
      refine pw_icmp_ge (tgt := 22) dX12_keepsAny_5 (by decide) (fun c5 => absurd c5 (by rw [le_i li_12 (ix_n (j := k) (by omega))]; omega)) (fun c5 => ?_)
      refine pw_aload0 dX12_keepsAny_8 ?_
      refine pw_getr gX12_45 dX12_keepsAny_9 hF.1 (mf_p23 hF) ?_
      refine pw_iload1 dX12_keepsAny_12 ?_
      refine pw_bipush (v := 9) dX12_keepsAny_13 (by decide) ?_
      refine pw_ast (j := k) dX12_keepsAny_15 (mf_s10 hF) (ix_m rfl (by omega)) (by omega)  ?_
      refine pw_iinc1 (v := 1) dX12_keepsAny_16 (by decide) (by decide) (k := ?_)
      refine pw_goto (tgt := 2) dX12_keepsAny_19 (by decide) ?_
      rw [nI_1]
      exact kk
    · rw [h2, up2_at]
      unfold pm_up
      by_cases e : i = k
      · rw [e, if_neg (by omega), if_pos rfl, if_pos (by omega)]
      · rw [if_neg e]
        by_cases e2 : k + 1 ≤ i ∧ i < 12
        · rw [if_pos e2, if_pos (by omega)]
        · rw [if_neg e2, if_neg (by omega)]
set_option maxRecDepth 20000 in
theorem c_keepsAny {G : gT} {d : Nat} {S : sS} {V : sV} {P : sP} {A : sV} {B : sB} {Q : sP} {t sl o : Nat} (hF : MF S P o) : ∃ R : Nat → Int32, PW G d mX12_keepsAny 0 [some (.ref o), none] [] (t, sl, gh S V P A B Q) none (t, sl, gh S (up2 V o 24 0) P (pm_up A (o + 10) R) B Q) ∧ ∀ i, i < 12 → R i = 9 := by
  obtain ⟨R, kk, h⟩ := l_keepsAny (G := G) (d := d) (V := V) (B := B) (Q := Q) (t := t) (sl := sl) hF 12 0 A rfl
  refine ⟨R, ?_, fun i hi => by rw [h, if_pos (by omega)]⟩
  refine pw_iconst (v := 0) dX12_keepsAny_0 (by decide) ?_
  rw [show (0 : Int32) = nI 0 from rfl]
  refine pw_istore1 dX12_keepsAny_1 (by decide) (k := ?_)
  exact kk
theorem rf_k9 {td : Nat → Int32} {ap : Int32} {b w : Nat} (h : td b = 9) : rf_k td ap b w = true := by
  unfold rf_k
  rw [decide_eq_true h]
  rfl
theorem sw_I {s w : Nat} (h : w ≤ s + 2) : sI s - dI w = sI (s + 2 - w) := by
  rw [sI_dI]
  unfold sI
  congr 1
  omega
set_option maxRecDepth 20000 in
theorem c_goesBy {G : gT} {d : Nat} {S : sS} {V : sV} {P : sP} {A : sV} {B : sB} {Q : sP} {t sl o : Nat} (hF : MF S P o) {b l s w : Nat} (hb : b < 12) (hl : l < 5) (hs : s < 41) (hw : w < 5) (hin : rT (A (o + 7)) b l s w ≠ (-268435456) → rf_in s w = true) : PW G (d + 2) mX12_goesBy 0 [some (.ref o), some (.int (nI b)), some (.int (dI l)), some (.int (sI s)), some (.int (dI w)), none, none] [] (t, sl, gh S V P A B Q) (some (.int (rf_gb (rT (A (o + 7))) (rf_k (A (o + 10)) (V o 24)) (fun w' s' => A (o + 8) ((5 * (b + 1) + w') * 41 + s')) b l s w))) (t, sl, gh S V P A B Q) := by
  cases hk : rf_k (A (o + 10)) (V o 24) b w with
  | false =>
    refine pw_aload0 dX12_goesBy_0 ?_
    refine pw_iload1 dX12_goesBy_1 ?_
    refine pw_iload4 dX12_goesBy_2 ?_
    refine pw_o2i wX12_isKept lX12_277 rfl dX12_goesBy_4 hF.1 (c_isKept hF hb) rfl (Nat.le_of_ble_eq_true rfl) (Nat.le_of_ble_eq_true rfl) ?_
    refine pw_if_eq (tgt := 22) dX12_goesBy_7 (by decide) (fun c7 => ?_) (fun c7 => absurd (bI_0.mpr hk) c7)
    refine pw_ldcw kX12_273 dX12_goesBy_22 ?_
    refine pw_istore5 dX12_goesBy_25 (by decide) (k := ?_)
    refine pw_iload5 dX12_goesBy_27 ?_
    refine pw_ldcw kX12_273 dX12_goesBy_29 ?_
    refine pw_icmp_ne (tgt := 39) dX12_goesBy_32 (by decide) (fun c32 => absurd rfl c32) (fun c32 => ?_)
    refine pw_ldcw kX12_273 dX12_goesBy_35 ?_
    exact pw_iret dX12_goesBy_38 rfl rfl (rI (by unfold rf_gb; rw [hk]; rfl)) rfl
  | true =>
  by_cases hT : rT (A (o + 7)) b l s w = (-268435456)
  · refine pw_aload0 dX12_goesBy_0 ?_
    refine pw_iload1 dX12_goesBy_1 ?_
    refine pw_iload4 dX12_goesBy_2 ?_
    refine pw_o2i wX12_isKept lX12_277 rfl dX12_goesBy_4 hF.1 (c_isKept hF hb) rfl (Nat.le_of_ble_eq_true rfl) (Nat.le_of_ble_eq_true rfl) ?_
    refine pw_if_eq (tgt := 22) dX12_goesBy_7 (by decide) (fun c7 => absurd c7 (bI_n.mpr hk)) (fun c7 => ?_)
    refine pw_aload0 dX12_goesBy_10 ?_
    refine pw_iload1 dX12_goesBy_11 ?_
    refine pw_iload2 dX12_goesBy_12 ?_
    refine pw_iload3 dX12_goesBy_13 ?_
    refine pw_iload4 dX12_goesBy_14 ?_
    refine pw_o4i wX12_gladAt lX12_280 rfl dX12_goesBy_16 hF.1 (c_gladAt hF hb hl hs hw) rfl (Nat.le_of_ble_eq_true rfl) (Nat.le_of_ble_eq_true rfl) ?_
    refine pw_goto (tgt := 25) dX12_goesBy_19 (by decide) ?_
    refine pw_istore5 dX12_goesBy_25 (by decide) (k := ?_)
    refine pw_iload5 dX12_goesBy_27 ?_
    refine pw_ldcw kX12_273 dX12_goesBy_29 ?_
    refine pw_icmp_ne (tgt := 39) dX12_goesBy_32 (by decide) (fun c32 => absurd hT c32) (fun c32 => ?_)
    refine pw_ldcw kX12_273 dX12_goesBy_35 ?_
    exact pw_iret dX12_goesBy_38 rfl rfl (rI (by unfold rf_gb; rw [hk, if_pos rfl, if_pos hT])) rfl
  · have h9 := hin hT
    unfold rf_in at h9
    simp only [decide_eq_true_eq] at h9
    have hsw : w ≤ s + 2 := h9.1
    refine pw_aload0 dX12_goesBy_0 ?_
    refine pw_iload1 dX12_goesBy_1 ?_
    refine pw_iload4 dX12_goesBy_2 ?_
    refine pw_o2i wX12_isKept lX12_277 rfl dX12_goesBy_4 hF.1 (c_isKept hF hb) rfl (Nat.le_of_ble_eq_true rfl) (Nat.le_of_ble_eq_true rfl) ?_
    refine pw_if_eq (tgt := 22) dX12_goesBy_7 (by decide) (fun c7 => absurd c7 (bI_n.mpr hk)) (fun c7 => ?_)
    refine pw_aload0 dX12_goesBy_10 ?_
    refine pw_iload1 dX12_goesBy_11 ?_
    refine pw_iload2 dX12_goesBy_12 ?_
    refine pw_iload3 dX12_goesBy_13 ?_
    refine pw_iload4 dX12_goesBy_14 ?_
    refine pw_o4i wX12_gladAt lX12_280 rfl dX12_goesBy_16 hF.1 (c_gladAt hF hb hl hs hw) rfl (Nat.le_of_ble_eq_true rfl) (Nat.le_of_ble_eq_true rfl) ?_
    refine pw_goto (tgt := 25) dX12_goesBy_19 (by decide) ?_
    refine pw_istore5 dX12_goesBy_25 (by decide) (k := ?_)
    refine pw_iload5 dX12_goesBy_27 ?_
    refine pw_ldcw kX12_273 dX12_goesBy_29 ?_
    refine pw_icmp_ne (tgt := 39) dX12_goesBy_32 (by decide) (fun c32 => ?_) (fun c32 => absurd c32 hT)
    refine pw_aload0 dX12_goesBy_39 ?_
    refine pw_getr gX12_39 dX12_goesBy_40 hF.1 (mf_p18 hF) ?_
    refine pw_iload1 dX12_goesBy_43 ?_
    refine pw_iconst (v := 1) dX12_goesBy_44 (by decide) ?_
    refine pw_iadd dX12_goesBy_45 ?_
    rw [nI_1]
    refine pw_iload4 dX12_goesBy_46 ?_
    refine pw_iload3 dX12_goesBy_48 ?_
    refine pw_iload4 dX12_goesBy_49 ?_
    refine pw_isub dX12_goesBy_51 ?_
    rw [sw_I hsw]
    refine pw_s3i wX12_spot lX12_262 dX12_goesBy_52 (c_spotI (b + 1) w (s + 2 - w)) rfl (Nat.le_of_ble_eq_true rfl) (Nat.le_of_ble_eq_true rfl) ?_
    refine pw_ald (j := (5 * (b + 1) + w) * 41 + (s + 2 - w)) dX12_goesBy_55 (mf_s8 hF) (ix_m rfl (by omega)) (by omega) ?_
    refine pw_istore6 dX12_goesBy_56 (by decide) (k := ?_)
    refine pw_iload6 dX12_goesBy_58 ?_
    refine pw_ldcw kX12_273 dX12_goesBy_60 ?_
    refine pw_icmp_ne (tgt := 72) dX12_goesBy_63 (by decide) (fun c63 => ?_) (fun c63 => ?_)
    · refine pw_iload5 dX12_goesBy_72 ?_
      refine pw_iload6 dX12_goesBy_74 ?_
      refine pw_iadd dX12_goesBy_76 ?_
      exact pw_iret dX12_goesBy_77 rfl rfl (rI (by unfold rf_gb; rw [hk, if_pos rfl, if_neg hT, if_neg c63])) rfl
    · refine pw_ldcw kX12_273 dX12_goesBy_66 ?_
      refine pw_goto (tgt := 77) dX12_goesBy_69 (by decide) ?_
      exact pw_iret dX12_goesBy_77 rfl rfl (rI (by unfold rf_gb; rw [hk, if_pos rfl, if_neg hT, if_pos c63])) rfl
set_option maxRecDepth 20000 in
theorem l_mostBy {G : gT} {d : Nat} {S : sS} {V : sV} {P : sP} {A : sV} {B : sB} {Q : sP} {t sl o : Nat} (hF : MF S P o) {b l s : Nat} (hb : b < 12) (hl : l < 5) (hs : s < 41) (hin : ∀ w, w < 5 → rT (A (o + 7)) b l s w ≠ (-268435456) → rf_in s w = true) : ∀ (c w : Nat) (acc : Int32) (x6 : Option Value), w + c = 5 → PW G (d + 3) mX12_mostBy 9 [some (.ref o), some (.int (nI b)), some (.int (dI l)), some (.int (sI s)), some (.int acc), some (.int (dI w)), x6] [] (t, sl, gh S V P A B Q) (some (.int (rf_mf (rf_gb (rT (A (o + 7))) (rf_k (A (o + 10)) (V o 24)) (fun w' s' => A (o + 8) ((5 * (b + 1) + w') * 41 + s')) b l s) acc w c))) (t, sl, gh S V P A B Q) := by
  intro c
  induction c with
  | zero =>
    intro w acc x6 hw
    have hw : w = 5 := hw
    subst hw
    refine pw_iload5 dX12_mostBy_9 ?_
    refine pw_iconst (v := 2) dX12_mostBy_11 (by decide) ?_
    refine pw_icmp_gt (tgt := 48) dX12_mostBy_12 (by decide) (fun c12 => ?_) (fun c12 => absurd (by rw [lt_i li_2 (dI_t (by omega))]; omega) c12)
    refine pw_iload4 dX12_mostBy_48 ?_
    exact pw_iret dX12_mostBy_50 rfl rfl rfl rfl
  | succ c ih =>
    intro w acc x6 hw
    refine pw_iload5 dX12_mostBy_9 ?_
    refine pw_iconst (v := 2) dX12_mostBy_11 (by decide) ?_
    refine pw_icmp_gt (tgt := 48) dX12_mostBy_12 (by decide) (fun c12 => absurd c12 (by rw [lt_i li_2 (dI_t (by omega))]; omega)) (fun c12 => ?_)
    refine pw_aload0 dX12_mostBy_15 ?_
    refine pw_iload1 dX12_mostBy_16 ?_
    refine pw_iload2 dX12_mostBy_17 ?_
    refine pw_iload3 dX12_mostBy_18 ?_
    refine pw_iload5 dX12_mostBy_19 ?_
    refine pw_o4i wX12_goesBy lX12_287 rfl dX12_mostBy_21 hF.1 (c_goesBy hF hb hl hs (show w < 5 by omega) (hin w (by omega))) rfl (Nat.le_of_ble_eq_true rfl) (Nat.le_of_ble_eq_true rfl) ?_
    refine pw_istore6 dX12_mostBy_24 (by decide) (k := ?_)
    refine pw_iload6 dX12_mostBy_26 ?_
    refine pw_iload4 dX12_mostBy_28 ?_
    refine pw_icmp_le (tgt := 38) dX12_mostBy_30 (by decide) (fun c30 => ?_) (fun c30 => ?_)
    · refine pw_iload4 dX12_mostBy_38 ?_
      refine pw_istore4 dX12_mostBy_40 (by decide) (k := ?_)
      refine pw_iinc5 (v := 1) dX12_mostBy_42 (by decide) (by decide) (k := ?_)
      refine pw_goto (tgt := 9) dX12_mostBy_45 (by decide) ?_
      rw [dI_1]
      rw [rf_mf, if_pos c30]
      exact ih _ _ _ (by omega)
    · refine pw_iload6 dX12_mostBy_33 ?_
      refine pw_goto (tgt := 40) dX12_mostBy_35 (by decide) ?_
      refine pw_istore4 dX12_mostBy_40 (by decide) (k := ?_)
      refine pw_iinc5 (v := 1) dX12_mostBy_42 (by decide) (by decide) (k := ?_)
      refine pw_goto (tgt := 9) dX12_mostBy_45 (by decide) ?_
      rw [dI_1]
      rw [rf_mf, if_neg c30]
      exact ih _ _ _ (by omega)
set_option maxRecDepth 20000 in
theorem c_mostBy {G : gT} {d : Nat} {S : sS} {V : sV} {P : sP} {A : sV} {B : sB} {Q : sP} {t sl o : Nat} (hF : MF S P o) {b l s : Nat} (hb : b < 12) (hl : l < 5) (hs : s < 41) (hin : ∀ w, w < 5 → rT (A (o + 7)) b l s w ≠ (-268435456) → rf_in s w = true) : PW G (d + 3) mX12_mostBy 0 [some (.ref o), some (.int (nI b)), some (.int (dI l)), some (.int (sI s)), none, none, none] [] (t, sl, gh S V P A B Q) (some (.int (rf_mx (rf_gb (rT (A (o + 7))) (rf_k (A (o + 10)) (V o 24)) (fun w' s' => A (o + 8) ((5 * (b + 1) + w') * 41 + s')) b l s)))) (t, sl, gh S V P A B Q) := by
  refine pw_ldcw kX12_273 dX12_mostBy_0 ?_
  refine pw_istore4 dX12_mostBy_3 (by decide) (k := ?_)
  refine pw_bipush (v := -2) dX12_mostBy_5 (by decide) ?_
  rw [show (-2 : Int32) = dI 0 from rfl]
  refine pw_istore5 dX12_mostBy_7 (by decide) (k := ?_)
  exact l_mostBy hF hb hl hs hin 5 0 _ _ rfl
