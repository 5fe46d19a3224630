/-! ===== the reference: how many rows ===== -/
def sm (f : Nat → Nat) : Nat → Nat
  | 0 => 0
  | n + 1 => sm f n + f n
/-- what comes to a place by one last draw -/
def ctr (T : Nat → Nat → Nat → Nat → Int32) (kp : Nat → Nat → Bool) (b : Nat) (c : Nat → Nat → Nat) (l w t : Nat) : Nat := if 2 ≤ t + w ∧ t + w < 43 ∧ kp b w = true ∧ T b l (t + w - 2) w ≠ -268435456 then c l (t + w - 2) else 0
def rf_c (T : Nat → Nat → Nat → Nat → Int32) (kp : Nat → Nat → Bool) (s0 : Nat) : Nat → Nat → Nat → Nat
  | 0, l, s => if l = 2 ∧ s = s0 then 1 else 0
  | b + 1, w, t => sm (fun l => ctr T kp b (rf_c T kp s0 b) l w t) 5
theorem sm_le {f : Nat → Nat} {m : Nat} (h : ∀ i, f i ≤ m) : ∀ n, sm f n ≤ n * m
  | 0 => by rw [Nat.zero_mul]; exact Nat.le_refl 0
  | n + 1 => by
    rw [sm, Nat.succ_mul]
    exact Nat.add_le_add (sm_le h n) (h n)
theorem sm_cong {f g : Nat → Nat} : ∀ n, (∀ i, i < n → f i = g i) → sm f n = sm g n
  | 0, _ => rfl
  | n + 1, h => by rw [sm, sm, sm_cong n (fun i hi => h i (by omega)), h n (by omega)]
theorem ctr_le {T : Nat → Nat → Nat → Nat → Int32} {kp : Nat → Nat → Bool} {b : Nat} {c : Nat → Nat → Nat} {m : Nat} (h : ∀ l s, c l s ≤ m) (l w t : Nat) : ctr T kp b c l w t ≤ m := by
  unfold ctr
  split
  · exact h _ _
  · exact Nat.zero_le m
theorem rf_c_le (T : Nat → Nat → Nat → Nat → Int32) (kp : Nat → Nat → Bool) (s0 : Nat) : ∀ b l s, rf_c T kp s0 b l s ≤ 5 ^ b
  | 0, l, s => by
    rw [rf_c]
    split <;> omega
  | b + 1, l, s => by
    rw [rf_c, Nat.pow_succ, Nat.mul_comm]
    exact sm_le (fun i => ctr_le (rf_c_le T kp s0 b) i l s) 5
theorem p5_12 {b : Nat} (h : b ≤ 12) : 5 ^ b ≤ 244140625 := by
  have := Nat.pow_le_pow_right (show 0 < 5 by decide) h
  exact Nat.le_trans this (by decide)
def MPm (o : Nat) (B0 : sB) (T : Nat → Nat → Nat → Nat → Int32) (kp : Nat → Nat → Bool) (b : Nat) (c : Nat → Nat → Nat) (l s w : Nat) (B : sB) : Prop := (∀ a, a ≠ o + 13 → B a = B0 a) ∧ ∀ w' t, w' < 5 → t < 41 → B (o + 13) (w' * 41 + t) = lN (sm (fun l' => ctr T kp b c l' w' t) l + if t + w' < s + 2 ∨ (t + w' = s + 2 ∧ w' < w) then ctr T kp b c l w' t else 0)
section MPM
variable {o : Nat} {B0 B : sB} {T : Nat → Nat → Nat → Nat → Int32} {kp : Nat → Nat → Bool} {b : Nat} {c : Nat → Nat → Nat} {l s w : Nat}
theorem MPm.row (h : MPm o B0 T kp b c l s 5 B) : MPm o B0 T kp b c l (s + 1) 0 B := by
  refine ⟨h.1, fun w' t hw ht => ?_⟩
  rw [h.2 w' t hw ht]
  by_cases q : t + w' < s + 2 ∨ (t + w' = s + 2 ∧ w' < 5)
  · rw [if_pos q, if_pos (by omega)]
  · rw [if_neg q, if_neg (by omega)]
theorem MPm.none (h : MPm o B0 T kp b c l s w B) (h0 : c l s = 0) : MPm o B0 T kp b c l (s + 1) 0 B := by
  refine ⟨h.1, fun w' t hw ht => ?_⟩
  rw [h.2 w' t hw ht]
  by_cases q : t + w' = s + 2
  · have hz : ctr T kp b c l w' t = 0 := by
      unfold ctr
      rw [show t + w' - 2 = s by omega, h0]
      split <;> rfl
    rw [hz]
    split <;> split <;> rfl
  · by_cases q2 : t + w' < s + 2
    · rw [if_pos (by omega), if_pos (by omega)]
    · rw [if_neg (by omega), if_neg (by omega)]
theorem MPm.last (h : MPm o B0 T kp b c l 41 0 B) : MPm o B0 T kp b c (l + 1) 0 0 B := by
  refine ⟨h.1, fun w' t hw ht => ?_⟩
  rw [h.2 w' t hw ht, sm]
  congr 1
  have e1 : (if t + w' < 41 + 2 ∨ (t + w' = 41 + 2 ∧ w' < 0) then ctr T kp b c l w' t else 0) = ctr T kp b c l w' t := by
    by_cases q : t + w' < 43
    · rw [if_pos (by omega)]
    · rw [if_neg (by omega)]
      unfold ctr
      rw [if_neg (by omega)]
  have e2 : (if t + w' < 0 + 2 ∨ (t + w' = 0 + 2 ∧ w' < 0) then ctr T kp b c (l + 1) w' t else 0) = 0 := by
    by_cases q : t + w' < 2
    · rw [if_pos (by omega)]
      unfold ctr
      rw [if_neg (by omega)]
    · rw [if_neg (by omega)]
  rw [e1, e2, Nat.add_zero]
theorem MPm.skip (h : MPm o B0 T kp b c l s w B) (hz : ∀ t, t + w = s + 2 → t < 41 → ctr T kp b c l w t = 0) : MPm o B0 T kp b c l s (w + 1) B := by
  refine ⟨h.1, fun w' t hw ht => ?_⟩
  rw [h.2 w' t hw ht]
  by_cases q : t + w' = s + 2 ∧ w' = w
  · have := hz t (by omega) ht
    obtain ⟨q1, q2⟩ := q
    subst q2
    rw [this]
    split <;> split <;> rfl
  · by_cases q2 : t + w' < s + 2 ∨ (t + w' = s + 2 ∧ w' < w)
    · rw [if_pos q2, if_pos (by omega)]
    · rw [if_neg q2, if_neg (by omega)]
theorem MPm.add (h : MPm o B0 T kp b c l s w B) (hw : w < 5) (hs : s < 41) (hi : rf_in s w = true) (hk : kp b w = true) (hT : T b l s w ≠ -268435456) {x : Int64} (hx : x = lN (c l s)) : MPm o B0 T kp b c l s (w + 1) (up2 B (o + 13) (w * 41 + (s + 2 - w)) (B (o + 13) (w * 41 + (s + 2 - w)) + x)) := by
  unfold rf_in at hi
  simp only [decide_eq_true_eq] at hi
  refine ⟨fun a ha => by rw [up2_na ha]; exact h.1 a ha, fun w' t hw' ht => ?_⟩
  rw [up2_at]
  by_cases q : w' * 41 + t = w * 41 + (s + 2 - w)
  · have e1 : w' = w := by omega
    have e2 : t = s + 2 - w := by omega
    subst e1
    subst e2
    rw [pm_up_eq, h.2 w' (s + 2 - w') hw' ht, hx, lN_add, if_neg (by omega), if_pos (by omega)]
    congr 1
    rw [Nat.add_zero]
    congr 1
    unfold ctr
    rw [show s + 2 - w' + w' - 2 = s by omega, if_pos ⟨by omega, by omega, hk, hT⟩]
  · rw [pm_up_ne q, h.2 w' t hw' ht]
    by_cases q2 : t + w' < s + 2 ∨ (t + w' = s + 2 ∧ w' < w)
    · rw [if_pos q2, if_pos (by omega)]
    · rw [if_neg q2, if_neg (by omega)]
end MPM
set_option maxRecDepth 20000 in
theorem l_beginsMany {G : gT} {d : Nat} {S : sS} {V : sV} {P : sP} {A : sV} {Q : sP} {t sl o : Nat} (hF : MF S P o) {s0 : Nat} (h0 : s0 < 41) : ∀ (m k : Nat) (B : sB), k + m = 205 → ∃ R : Nat → Int64, PW G (d + 1) mX12_beginsMany 2 [some (.ref o), some (.int (sI s0)), some (.int (nI k))] [] (t, sl, gh S V P A B Q) none (t, sl, gh S V P A (pm_up B (o + 12) R) Q) ∧ ∀ i, i < 205 → R i = if i = 82 + s0 then 1 else if k ≤ i then 0 else B (o + 12) i := by
  intro m
  induction m with
  | zero =>
    intro k B hk
    have hk : k = 205 := hk
    subst hk
    have kmk : PW G d mX12_mark 0 [some (.int 0), some (.int (sI s0))] [] (t, sl, gh S V P A B Q) (some (.int (nI (2 * 41 + s0)))) (t, sl, gh S V P A B Q) := c_markI 2 s0
    refine ⟨pm_up (B (o + 12)) (2 * 41 + s0) 1, ?_, fun i hi => ?_⟩
    · exact (by
          refine pw_iload2 dX12_beginsMany_2 ?_
          refine pw_sipush (v := 205) dX12_beginsMany_3 (by decide) ?_
          refine pw_icmp_ge (tgt := 22) dX12_beginsMany_6 (by decide) (fun c6 => ?_) (fun c6 => absurd (by decide) c6)
          refine pw_aload0 dX12_beginsMany_22 ?_
          refine pw_getr gX12_51 dX12_beginsMany_23 hF.1 (mf_p28 hF) ?_
          refine pw_iconst (v := 0) dX12_beginsMany_26 (by decide) ?_
          refine pw_iload1 dX12_beginsMany_27 ?_
          refine pw_s2i wX12_mark lX12_427 dX12_beginsMany_28 (kmk) rfl (Nat.le_of_ble_eq_true rfl) (Nat.le_of_ble_eq_true rfl) ?_
          refine pw_lconst (v := 1) dX12_beginsMany_31 (by decide) ?_
          refine pw_lst (j := 2 * 41 + s0) dX12_beginsMany_32 (mf_s12 hF) (ix_m rfl (by omega)) (by omega)  ?_
          exact pw_vret dX12_beginsMany_33 rfl rfl rfl : PW G (d + 1) mX12_beginsMany 2 [some (.ref o), some (.int (sI s0)), some (.int (nI 205))] [] (t, sl, gh S V P A B Q) none (t, sl, gh S V P A (pm_up B (o + 12) (pm_up (B (o + 12)) (2 * 41 + s0) 1)) Q))
    · unfold pm_up
      by_cases e : i = 82 + s0
      · rw [if_pos (by omega), if_pos e]
      · rw [if_neg (by omega), if_neg e, if_neg (by omega)]
  | succ m ih =>
    intro k B hk
    obtain ⟨R, kk, h2⟩ := ih (k + 1) (up2 B (o + 12) k 0) (by omega)
    rw [up2_pm, pm_up_up] at kk
    refine ⟨R, ?_, fun i hi => ?_⟩
    · refine pw_iload2 dX12_beginsMany_2 ?_
      refine pw_sipush (v := 205) dX12_beginsMany_3 (by decide) ?_
      refine pw_icmp_ge (tgt := 22) dX12_beginsMany_6 (by decide) (fun c6 => absurd c6 (by rw [le_i li_205 (ix_n (j := k) (by omega))]; omega)) (fun c6 => ?_)
      refine pw_aload0 dX12_beginsMany_9 ?_
      refine pw_getr gX12_51 dX12_beginsMany_10 hF.1 (mf_p28 hF) ?_
      refine pw_iload2 dX12_beginsMany_13 ?_
      refine pw_lconst (v := 0) dX12_beginsMany_14 (by decide) ?_
      refine pw_lst (j := k) dX12_beginsMany_15 (mf_s12 hF) (ix_m rfl (by omega)) (by omega)  ?_
      refine pw_iinc2 (v := 1) dX12_beginsMany_16 (by decide) (by decide) (k := ?_)
      refine pw_goto (tgt := 2) dX12_beginsMany_19 (by decide) ?_
      rw [nI_1]
      exact kk
    · rw [h2 i hi, up2_at]
      unfold pm_up
      by_cases e : i = 82 + s0
      · rw [if_pos e, if_pos e]
      · rw [if_neg e, if_neg e]
        by_cases e2 : k + 1 ≤ i
        · rw [if_pos e2, if_pos (by omega)]
        · rw [if_neg e2]
          by_cases e3 : i = k
          · rw [if_pos e3, if_pos (by omega)]
          · rw [if_neg e3, if_neg (by omega)]
set_option maxRecDepth 20000 in
theorem c_beginsMany {G : gT} {d : Nat} {S : sS} {V : sV} {P : sP} {A : sV} {B : sB} {Q : sP} {t sl o : Nat} (hF : MF S P o) {s0 : Nat} (h0 : s0 < 41) : ∃ R : Nat → Int64, PW G (d + 1) mX12_beginsMany 0 [some (.ref o), some (.int (sI s0)), none] [] (t, sl, gh S V P A B Q) none (t, sl, gh S V P A (pm_up B (o + 12) R) Q) ∧ ∀ l s, l < 5 → s < 41 → R (l * 41 + s) = lN (if l = 2 ∧ s = s0 then 1 else 0) := by
  obtain ⟨R, kk, h⟩ := l_beginsMany (G := G) (d := d) (V := V) (A := A) (Q := Q) (t := t) (sl := sl) hF h0 205 0 B rfl
  refine ⟨R, ?_, fun l s hl hs => ?_⟩
  · refine pw_iconst (v := 0) dX12_beginsMany_0 (by decide) ?_
    rw [show (0 : Int32) = nI 0 from rfl]
    refine pw_istore2 dX12_beginsMany_1 (by decide) (k := ?_)
    exact kk
  · rw [h _ (by omega)]
    by_cases q : l = 2 ∧ s = s0
    · rw [if_pos (by omega), if_pos q]
      rfl
    · rw [if_neg (by omega), if_pos (by omega), if_neg q]
      rfl
set_option maxRecDepth 20000 in
theorem l_isThen {G : gT} {d : Nat} {S : sS} {V : sV} {P : sP} {A : sV} {Q : sP} {t sl o : Nat} (hF : MF S P o) : ∀ (m k : Nat) (B : sB), k + m = 205 → ∃ B' : sB, PW G d mX12_isThen 2 [some (.ref o), some (.int (nI k))] [] (t, sl, gh S V P A B Q) none (t, sl, gh S V P A B' Q) ∧ (∀ a, a ≠ o + 12 → a ≠ o + 13 → B' a = B a) ∧ ∀ i, i < 205 → B' (o + 12) i = (if k ≤ i then B (o + 13) i else B (o + 12) i) ∧ B' (o + 13) i = (if k ≤ i then 0 else B (o + 13) i) := by
  intro m
  induction m with
  | zero =>
    intro k B hk
    have hk : k = 205 := hk
    subst hk
    refine ⟨B, ?_, fun _ _ _ => rfl, fun i hi => ⟨by rw [if_neg (by omega)], by rw [if_neg (by omega)]⟩⟩
    refine pw_iload1 dX12_isThen_2 ?_
    refine pw_sipush (v := 205) dX12_isThen_3 (by decide) ?_
    refine pw_icmp_ge (tgt := 34) dX12_isThen_6 (by decide) (fun c6 => ?_) (fun c6 => absurd (by decide) c6)
    exact pw_vret dX12_isThen_34 rfl rfl rfl
  | succ m ih =>
    intro k B hk
    obtain ⟨B', kk, h1, h2⟩ := ih (k + 1) (up2 (up2 B (o + 12) k (B (o + 13) k)) (o + 13) k 0) (by omega)
    refine ⟨B', ?_, fun a h12 h13 => by rw [h1 a h12 h13, up2_na h13, up2_na h12], fun i hi => ?_⟩
    · refine pw_iload1 dX12_isThen_2 ?_
      refine pw_sipush (v := 205) dX12_isThen_3 (by decide) ?_
      refine pw_icmp_ge (tgt := 34) dX12_isThen_6 (by decide) (fun c6 => absurd c6 (by rw [le_i li_205 (ix_n (j := k) (by omega))]; omega)) (fun c6 => ?_)
      refine pw_aload0 dX12_isThen_9 ?_
      refine pw_getr gX12_51 dX12_isThen_10 hF.1 (mf_p28 hF) ?_
      refine pw_iload1 dX12_isThen_13 ?_
      refine pw_aload0 dX12_isThen_14 ?_
      refine pw_getr gX12_55 dX12_isThen_15 hF.1 (mf_p29 hF) ?_
      refine pw_iload1 dX12_isThen_18 ?_
      refine pw_lld (j := k) dX12_isThen_19 (mf_s13 hF) (ix_m rfl (by omega)) (by omega) ?_
      refine pw_lst (j := k) dX12_isThen_20 (mf_s12 hF) (ix_m rfl (by omega)) (by omega)  ?_
      refine pw_aload0 dX12_isThen_21 ?_
      refine pw_getr gX12_55 dX12_isThen_22 hF.1 (mf_p29 hF) ?_
      refine pw_iload1 dX12_isThen_25 ?_
      refine pw_lconst (v := 0) dX12_isThen_26 (by decide) ?_
      refine pw_lst (j := k) dX12_isThen_27 (mf_s13 hF) (ix_m rfl (by omega)) (by omega)  ?_
      refine pw_iinc1 (v := 1) dX12_isThen_28 (by decide) (by decide) (k := ?_)
      refine pw_goto (tgt := 2) dX12_isThen_31 (by decide) ?_
      rw [nI_1]
      exact kk
    · obtain ⟨g1, g2⟩ := h2 i hi
      rw [g1, g2, up2_at, up2_na (show o + 12 ≠ o + 13 by omega), up2_at, up2_na (show o + 13 ≠ o + 12 by omega)]
      unfold pm_up
      by_cases e : i = k
      · subst e
        simp [show ¬ i + 1 ≤ i by omega]
      · by_cases e2 : k + 1 ≤ i
        · simp [e, e2, show k ≤ i by omega]
        · simp [e, e2, show ¬ k ≤ i by omega]
set_option maxRecDepth 20000 in
theorem c_isThen {G : gT} {d : Nat} {S : sS} {V : sV} {P : sP} {A : sV} {B : sB} {Q : sP} {t sl o : Nat} (hF : MF S P o) : ∃ B' : sB, PW G d mX12_isThen 0 [some (.ref o), none] [] (t, sl, gh S V P A B Q) none (t, sl, gh S V P A B' Q) ∧ (∀ a, a ≠ o + 12 → a ≠ o + 13 → B' a = B a) ∧ ∀ i, i < 205 → B' (o + 12) i = B (o + 13) i ∧ B' (o + 13) i = 0 := by
  obtain ⟨B', kk, h1, h2⟩ := l_isThen (G := G) (d := d) (V := V) (A := A) (Q := Q) (t := t) (sl := sl) hF 205 0 B rfl
  refine ⟨B', ?_, h1, fun i hi => ⟨by rw [(h2 i hi).1, if_pos (Nat.zero_le i)], by rw [(h2 i hi).2, if_pos (Nat.zero_le i)]⟩⟩
  refine pw_iconst (v := 0) dX12_isThen_0 (by decide) ?_
  rw [show (0 : Int32) = nI 0 from rfl]
  refine pw_istore1 dX12_isThen_1 (by decide) (k := ?_)
  exact kk
def smL (f : Nat → Int64) : Int64 → Nat → Nat → Int64
  | acc, _, 0 => acc
  | acc, l, c + 1 => smL f (acc + f l) (l + 1) c
set_option maxRecDepth 20000 in
theorem l_endsWith {G : gT} {d : Nat} {S : sS} {V : sV} {P : sP} {A : sV} {B : sB} {Q : sP} {t sl o : Nat} (hF : MF S P o) {s : Nat} (hs : s < 41) : ∀ (c l : Nat) (acc : Int64), l + c = 5 → PW G (d + 1) mX12_endsWith 6 [some (.ref o), some (.int (sI s)), some (.long acc), none, some (.int (dI l))] [] (t, sl, gh S V P A B Q) (some (.long (smL (fun l => B (o + 12) (l * 41 + s)) acc l c))) (t, sl, gh S V P A B Q) := by
  intro c
  induction c with
  | zero =>
    intro l acc hl
    have hl : l = 5 := hl
    subst hl
    refine pw_iload4 dX12_endsWith_6 ?_
    refine pw_iconst (v := 2) dX12_endsWith_8 (by decide) ?_
    refine pw_icmp_gt (tgt := 32) dX12_endsWith_9 (by decide) (fun c9 => ?_) (fun c9 => absurd (by rw [lt_i li_2 (dI_t (by omega))]; omega) c9)
    refine pw_lload2 dX12_endsWith_32 ?_
    exact pw_lret dX12_endsWith_33 rfl rfl rfl
  | succ c ih =>
    intro l acc hl
    rw [smL]
    refine pw_iload4 dX12_endsWith_6 ?_
    refine pw_iconst (v := 2) dX12_endsWith_8 (by decide) ?_
    refine pw_icmp_gt (tgt := 32) dX12_endsWith_9 (by decide) (fun c9 => absurd c9 (by rw [lt_i li_2 (dI_t (by omega))]; omega)) (fun c9 => ?_)
    refine pw_lload2 dX12_endsWith_12 ?_
    refine pw_aload0 dX12_endsWith_13 ?_
    refine pw_getr gX12_51 dX12_endsWith_14 hF.1 (mf_p28 hF) ?_
    refine pw_iload4 dX12_endsWith_17 ?_
    refine pw_iload1 dX12_endsWith_19 ?_
    refine pw_s2i wX12_mark lX12_427 dX12_endsWith_20 (c_markI l s) rfl (Nat.le_of_ble_eq_true rfl) (Nat.le_of_ble_eq_true rfl) ?_
    refine pw_lld (j := l * 41 + s) dX12_endsWith_23 (mf_s12 hF) (ix_m rfl (by omega)) (by omega) ?_
    refine pw_ladd dX12_endsWith_24 ?_
    refine pw_lstore2 dX12_endsWith_25 (by decide) (k := ?_)
    refine pw_iinc4 (v := 1) dX12_endsWith_26 (by decide) (by decide) (k := ?_)
    refine pw_goto (tgt := 6) dX12_endsWith_29 (by decide) ?_
    rw [dI_1]
    exact ih (l + 1) _ (by omega)
set_option maxRecDepth 20000 in
theorem c_endsWith {G : gT} {d : Nat} {S : sS} {V : sV} {P : sP} {A : sV} {B : sB} {Q : sP} {t sl o : Nat} (hF : MF S P o) {s : Nat} (hs : s < 41) : PW G (d + 1) mX12_endsWith 0 [some (.ref o), some (.int (sI s)), none, none, none] [] (t, sl, gh S V P A B Q) (some (.long (smL (fun l => B (o + 12) (l * 41 + s)) 0 0 5))) (t, sl, gh S V P A B Q) := by
  refine pw_lconst (v := 0) dX12_endsWith_0 (by decide) ?_
  refine pw_lstore2 dX12_endsWith_1 (by decide) (k := ?_)
  refine pw_bipush (v := -2) dX12_endsWith_2 (by decide) ?_
  rw [show (-2 : Int32) = dI 0 from rfl]
  refine pw_istore4 dX12_endsWith_4 (by decide) (k := ?_)
  exact l_endsWith hF hs 5 0 0 rfl
theorem smL_N {f : Nat → Int64} {g : Nat → Nat} : ∀ (c l a : Nat), (∀ i, i < l + c → f i = lN (g i)) → smL f (lN a) l c = lN (a + (sm g (l + c) - sm g l))
  | 0, l, a, _ => by
    rw [smL, Nat.add_zero, Nat.sub_self, Nat.add_zero]
  | c + 1, l, a, h => by
    rw [smL, h l (by omega), lN_add, smL_N c (l + 1) (a + g l) (fun i hi => h i (by omega)), show l + 1 + c = l + (c + 1) by omega]
    congr 1
    have h1 : sm g (l + 1) = sm g l + g l := rfl
    have h2 : ∀ n m, n ≤ m → sm g n ≤ sm g m := by
      intro n m hnm
      induction hnm with
      | refl => exact Nat.le_refl _
      | step _ ih => exact Nat.le_trans ih (Nat.le_add_right _ _)
    have h3 := h2 (l + 1) (l + (c + 1)) (by omega)
    omega
