/-! ===== the reference: chances ===== -/
/-- the draw of one who slips, by its place -/
def rf_sl (f : Nat → Int32) : Nat := if rf_na f = 9 then 9 else if rf_na f < 4 ∧ f (rf_na f + 1) ≠ -268435456 then rf_na f + 1 else rf_na f
def hct (T : Nat → Nat → Nat → Nat → Int32) (k b : Nat) (c : Nat → Nat → Nat) (l w t : Nat) : Nat := if 2 ≤ t + w ∧ t + w < 43 then (if rf_na (T b l (t + w - 2)) = w then c l (t + w - 2) * (10 - k) else 0) + (if rf_sl (T b l (t + w - 2)) = w then c l (t + w - 2) * k else 0) else 0
def rf_h (T : Nat → Nat → Nat → Nat → Int32) (k s0 : Nat) : Nat → Nat → Nat → Nat
  | 0, l, s => if l = 2 ∧ s = s0 then 1 else 0
  | b + 1, w, t => sm (fun l => hct T k b (rf_h T k s0 b) l w t) 5
theorem sm_upd (f : Nat → Nat) (i d : Nat) : ∀ n, i < n → sm (pm_up f i (f i + d)) n = sm f n + d
  | 0, h => absurd h (Nat.not_lt_zero i)
  | n + 1, h => by
    rw [sm, sm]
    by_cases e : i = n
    · subst e
      rw [pm_up_eq, sm_cong (g := f) i (fun j hj => pm_up_ne (by omega))]
      omega
    · rw [pm_up_ne (fun q => e q.symm), sm_upd f i d n (by omega)]
      omega
theorem sm_mono {f : Nat → Nat} : ∀ {n m : Nat}, n ≤ m → sm f n ≤ sm f m := by
  intro n m h
  induction h with
  | refl => exact Nat.le_refl _
  | step _ ih => exact Nat.le_trans ih (Nat.le_add_right _ _)
theorem sm_at {f : Nat → Nat} {i n : Nat} (h : i < n) : f i ≤ sm f n := by
  have h1 : sm f (i + 1) ≤ sm f n := sm_mono h
  have h2 : sm f (i + 1) = sm f i + f i := rfl
  omega
/-- a table of 5 by 41 as one row -/
def fl2 (c : Nat → Nat → Nat) (j : Nat) : Nat := c (j / 41) (j % 41)
theorem fl2_at (c : Nat → Nat → Nat) {l s : Nat} (hs : s < 41) : fl2 c (l * 41 + s) = c l s := by
  unfold fl2
  rw [show (l * 41 + s) / 41 = l by omega, show (l * 41 + s) % 41 = s by omega]
def HPm (o : Nat) (B0 : sB) (T : Nat → Nat → Nat → Nat → Int32) (k b : Nat) (c : Nat → Nat → Nat) (l s : Nat) (B : sB) : Prop := (∀ a, a ≠ o + 13 → B a = B0 a) ∧ ∃ z : Nat → Nat, (∀ j, j < 205 → B (o + 13) j = lN (z j)) ∧ sm z 205 ≤ 10 * sm (fl2 c) (l * 41 + s) ∧ ∀ w t, w < 5 → t < 41 → z (w * 41 + t) = sm (fun l' => hct T k b c l' w t) l + if t + w < s + 2 then hct T k b c l w t else 0
section HPM
variable {o : Nat} {B0 B : sB} {T : Nat → Nat → Nat → Nat → Int32} {k b : Nat} {c : Nat → Nat → Nat} {l s : Nat}
theorem HPm.skip (h : HPm o B0 T k b c l s B) (hs : s < 41) (hz : ∀ w t, w < 5 → t + w = s + 2 → hct T k b c l w t = 0) : HPm o B0 T k b c l (s + 1) B := by
  obtain ⟨h1, z, h2, h3, h4⟩ := h
  refine ⟨h1, z, h2, Nat.le_trans h3 (Nat.mul_le_mul_left 10 (sm_mono (by omega))), fun w t hw ht => ?_⟩
  rw [h4 w t hw ht]
  by_cases q : t + w = s + 2
  · rw [hz w t hw q]
    split <;> split <;> rfl
  · by_cases q2 : t + w < s + 2
    · rw [if_pos q2, if_pos (by omega)]
    · rw [if_neg q2, if_neg (by omega)]
theorem HPm.last (h : HPm o B0 T k b c l 41 B) : HPm o B0 T k b c (l + 1) 0 B := by
  obtain ⟨h1, z, h2, h3, h4⟩ := h
  refine ⟨h1, z, h2, by rw [show (l + 1) * 41 + 0 = l * 41 + 41 by omega]; exact h3, fun w t hw ht => ?_⟩
  rw [h4 w t hw ht, sm]
  have e1 : (if t + w < 41 + 2 then hct T k b c l w t else 0) = hct T k b c l w t := by
    by_cases q : t + w < 43
    · rw [if_pos q]
    · rw [if_neg q]
      unfold hct
      rw [if_neg (by omega)]
  have e2 : (if t + w < 0 + 2 then hct T k b c (l + 1) w t else 0) = 0 := by
    by_cases q : t + w < 2
    · rw [if_pos q]
      unfold hct
      rw [if_neg (by omega)]
    · rw [if_neg q]
  rw [e1, e2, Nat.add_zero]
theorem HPm.add (h : HPm o B0 T k b c l s B) (hl : l < 5) (hs : s < 41) (hk : k ≤ 10) {w0 w1 : Nat} (hn : rf_na (T b l s) = w0) (hsl : rf_sl (T b l s) = w1) (h5 : w0 < 5) (h6 : w1 < 5) (hi0 : w0 ≤ s + 2 ∧ s + 2 ≤ w0 + 40) (hi1 : w1 ≤ s + 2 ∧ s + 2 ≤ w1 + 40) {x y : Int64} (hx : x = lN (c l s * (10 - k))) (hy : y = lN (c l s * k)) :
    HPm o B0 T k b c l (s + 1) (up2 (up2 B (o + 13) (w0 * 41 + (s + 2 - w0)) (B (o + 13) (w0 * 41 + (s + 2 - w0)) + x)) (o + 13) (w1 * 41 + (s + 2 - w1)) (up2 B (o + 13) (w0 * 41 + (s + 2 - w0)) (B (o + 13) (w0 * 41 + (s + 2 - w0)) + x) (o + 13) (w1 * 41 + (s + 2 - w1)) + y)) := by
  obtain ⟨h1, z, h2, h3, h4⟩ := h
  have j0 : w0 * 41 + (s + 2 - w0) < 205 := by omega
  have j1 : w1 * 41 + (s + 2 - w1) < 205 := by omega
  refine ⟨fun a ha => by rw [up2_na ha, up2_na ha]; exact h1 a ha, pm_up (pm_up z (w0 * 41 + (s + 2 - w0)) (z (w0 * 41 + (s + 2 - w0)) + c l s * (10 - k))) (w1 * 41 + (s + 2 - w1)) (pm_up z (w0 * 41 + (s + 2 - w0)) (z (w0 * 41 + (s + 2 - w0)) + c l s * (10 - k)) (w1 * 41 + (s + 2 - w1)) + c l s * k), ?_, ?_, ?_⟩
  · have e0 : ∀ j, j < 205 → up2 B (o + 13) (w0 * 41 + (s + 2 - w0)) (B (o + 13) (w0 * 41 + (s + 2 - w0)) + x) (o + 13) j = lN (pm_up z (w0 * 41 + (s + 2 - w0)) (z (w0 * 41 + (s + 2 - w0)) + c l s * (10 - k)) j) := by
      intro j hj
      rw [up2_at]
      by_cases e : j = w0 * 41 + (s + 2 - w0)
      · rw [e, pm_up_eq, pm_up_eq, h2 _ j0, hx, lN_add]
      · rw [pm_up_ne e, pm_up_ne e, h2 j hj]
    intro j hj
    rw [up2_at]
    by_cases e : j = w1 * 41 + (s + 2 - w1)
    · rw [e, pm_up_eq, pm_up_eq, e0 _ j1, hy, lN_add]
    · rw [pm_up_ne e, pm_up_ne e, e0 j hj]
  · rw [sm_upd _ _ _ 205 j1, sm_upd _ _ _ 205 j0]
    have e9 : sm (fl2 c) (l * 41 + (s + 1)) = sm (fl2 c) (l * 41 + s) + c l s := by
      rw [show l * 41 + (s + 1) = l * 41 + s + 1 by omega, sm, fl2_at c hs]
    have e8 : c l s * (10 - k) + c l s * k = c l s * 10 := by
      rw [← Nat.mul_add]
      congr 1
      omega
    omega
  · intro w t hw ht
    have key : ∀ v, v < 5 → (v ≤ s + 2 ∧ s + 2 ≤ v + 40) → ((w * 41 + t = v * 41 + (s + 2 - v)) ↔ (w = v ∧ t + w = s + 2)) := by
      intro v hv hiv
      constructor
      · intro q
        have : w = v := by omega
        subst this
        omega
      · rintro ⟨rfl, q⟩
        omega
    have v1 : pm_up z (w0 * 41 + (s + 2 - w0)) (z (w0 * 41 + (s + 2 - w0)) + c l s * (10 - k)) (w * 41 + t) = z (w * 41 + t) + (if w = w0 ∧ t + w = s + 2 then c l s * (10 - k) else 0) := by
      by_cases e : w * 41 + t = w0 * 41 + (s + 2 - w0)
      · rw [if_pos ((key w0 h5 hi0).mp e), e, pm_up_eq]
      · rw [if_neg (fun q => e ((key w0 h5 hi0).mpr q)), pm_up_ne e, Nat.add_zero]
    have v2 : pm_up (pm_up z (w0 * 41 + (s + 2 - w0)) (z (w0 * 41 + (s + 2 - w0)) + c l s * (10 - k))) (w1 * 41 + (s + 2 - w1)) (pm_up z (w0 * 41 + (s + 2 - w0)) (z (w0 * 41 + (s + 2 - w0)) + c l s * (10 - k)) (w1 * 41 + (s + 2 - w1)) + c l s * k) (w * 41 + t) = z (w * 41 + t) + (if w = w0 ∧ t + w = s + 2 then c l s * (10 - k) else 0) + (if w = w1 ∧ t + w = s + 2 then c l s * k else 0) := by
      by_cases e : w * 41 + t = w1 * 41 + (s + 2 - w1)
      · rw [if_pos ((key w1 h6 hi1).mp e), e, pm_up_eq, ← e, v1]
      · rw [if_neg (fun q => e ((key w1 h6 hi1).mpr q)), pm_up_ne e, v1]
        exact (Nat.add_zero _).symm
    rw [v2, h4 w t hw ht]
    by_cases q : t + w = s + 2
    · have b1 : (if t + w < s + 2 then hct T k b c l w t else 0) = 0 := if_neg (by omega)
      have b2 : (if t + w < s + 1 + 2 then hct T k b c l w t else 0) = hct T k b c l w t := if_pos (by omega)
      have b3 : hct T k b c l w t = (if w0 = w then c l s * (10 - k) else 0) + (if w1 = w then c l s * k else 0) := by
        unfold hct
        rw [if_pos (show 2 ≤ t + w ∧ t + w < 43 by omega), show t + w - 2 = s by omega, hn, hsl]
      have a1 : (if w = w0 ∧ t + w = s + 2 then c l s * (10 - k) else 0) = (if w0 = w then c l s * (10 - k) else 0) := by
        by_cases e : w = w0
        · rw [if_pos ⟨e, q⟩, if_pos e.symm]
        · rw [if_neg (fun z => e z.1), if_neg (fun z => e z.symm)]
      have a2 : (if w = w1 ∧ t + w = s + 2 then c l s * k else 0) = (if w1 = w then c l s * k else 0) := by
        by_cases e : w = w1
        · rw [if_pos ⟨e, q⟩, if_pos e.symm]
        · rw [if_neg (fun z => e z.1), if_neg (fun z => e z.symm)]
      rw [b1, b2, b3, a1, a2]
      omega
    · have a1 : (if w = w0 ∧ t + w = s + 2 then c l s * (10 - k) else 0) = 0 := if_neg (fun z => q z.2)
      have a2 : (if w = w1 ∧ t + w = s + 2 then c l s * k else 0) = 0 := if_neg (fun z => q z.2)
      have a3 : (if t + w < s + 2 then hct T k b c l w t else 0) = (if t + w < s + 1 + 2 then hct T k b c l w t else 0) := by
        by_cases q2 : t + w < s + 2
        · rw [if_pos q2, if_pos (by omega)]
        · rw [if_neg q2, if_neg (by omega)]
      rw [a1, a2, a3]
      rfl
end HPM
def slB (o : Nat) (B : sB) (k : Nat) (x : Int64) (s w v : Nat) : sB := up2 (up2 B (o + 13) (w * 41 + (s + 2 - w)) (B (o + 13) (w * 41 + (s + 2 - w)) + x * (10 - nI k).toInt64)) (o + 13) (v * 41 + (s + 2 - v)) (up2 B (o + 13) (w * 41 + (s + 2 - w)) (B (o + 13) (w * 41 + (s + 2 - w)) + x * (10 - nI k).toInt64) (o + 13) (v * 41 + (s + 2 - v)) + x * (nI k).toInt64)
theorem rf_sl_9 {f : Nat → Int32} (h : rf_na f = 9) : rf_sl f = 9 := by
  unfold rf_sl
  rw [if_pos h]
set_option maxRecDepth 20000 in
theorem c_slipsOn0 {G : gT} {d : Nat} {S : sS} {V : sV} {P : sP} {A : sV} {B : sB} {Q : sP} {t sl o : Nat} (hF : MF S P o) {b l s : Nat} (hb : b < 12) (hl : l < 5) (hs : s < 41) (h9 : rf_na ((rT (A (o + 7))) b l s) = 9) : PW G (d + 3) mX12_slipsOn 0 [some (.ref o), some (.int (nI b)), some (.int (dI l)), some (.int (sI s)), none, none] [] (t, sl, gh S V P A B Q) none (t, sl, gh S V P A B Q) := by
    have kn := c_naturally (G := G) (d := d) (V := V) (A := A) (B := B) (Q := Q) (t := t) (sl := sl) hF hb hl hs
    rw [h9, show nd 9 = 9 from rfl] at kn
    refine pw_aload0 dX12_slipsOn_0 ?_
    refine pw_iload1 dX12_slipsOn_1 ?_
    refine pw_iload2 dX12_slipsOn_2 ?_
    refine pw_iload3 dX12_slipsOn_3 ?_
    refine pw_o3i wX12_naturally lX12_312 rfl dX12_slipsOn_4 hF.1 (kn) rfl (Nat.le_of_ble_eq_true rfl) (Nat.le_of_ble_eq_true rfl) ?_
    refine pw_istore4 dX12_slipsOn_7 (by decide) (k := ?_)
    refine pw_iload4 dX12_slipsOn_9 ?_
    refine pw_bipush (v := 9) dX12_slipsOn_11 (by decide) ?_
    refine pw_icmp_ne (tgt := 17) dX12_slipsOn_13 (by decide) (fun c13 => absurd rfl c13) (fun c13 => ?_)
    exact pw_vret dX12_slipsOn_16 rfl rfl rfl
set_option maxRecDepth 20000 in
theorem c_slipsOn1 {G : gT} {d : Nat} {S : sS} {V : sV} {P : sP} {A : sV} {B : sB} {Q : sP} {t sl o : Nat} (hF : MF S P o) {b l s k : Nat} {x : Int64} (hb : b < 12) (hl : l < 5) (hs : s < 41) (hin : ∀ w, w < 5 → (rT (A (o + 7))) b l s w ≠ (-268435456) → rf_in s w = true) (h3 : A (o + 1) 3 = nI k) (hc : B (o + 12) (l * 41 + s) = x) (h9 : rf_na ((rT (A (o + 7))) b l s) ≠ 9) : PW G (d + 3) mX12_slipsOn 0 [some (.ref o), some (.int (nI b)), some (.int (dI l)), some (.int (sI s)), none, none] [] (t, sl, gh S V P A B Q) none (t, sl, gh S V P A (slB o B k x s (rf_na ((rT (A (o + 7))) b l s)) (rf_sl ((rT (A (o + 7))) b l s))) Q) ∧ rf_na ((rT (A (o + 7))) b l s) < 5 ∧ rf_sl ((rT (A (o + 7))) b l s) < 5 ∧ (rf_na ((rT (A (o + 7))) b l s) ≤ s + 2 ∧ s + 2 ≤ rf_na ((rT (A (o + 7))) b l s) + 40) ∧ (rf_sl ((rT (A (o + 7))) b l s) ≤ s + 2 ∧ s + 2 ≤ rf_sl ((rT (A (o + 7))) b l s) + 40) := by
  have kn := c_naturally (G := G) (d := d) (V := V) (A := A) (B := B) (Q := Q) (t := t) (sl := sl) hF hb hl hs
  obtain ⟨h5, hT0⟩ := (rf_na_ok ((rT (A (o + 7))) b l s)).resolve_left h9
  rw [nd_lt h5] at kn
  have hi0 := hin _ h5 hT0
  unfold rf_in at hi0
  simp only [decide_eq_true_eq] at hi0
  have hd9 : ¬ dI (rf_na ((rT (A (o + 7))) b l s)) = 9 := by
    rw [eq_i (dI_t (by omega)) li_9]
    omega
  have hsl : rf_sl ((rT (A (o + 7))) b l s) = if rf_na ((rT (A (o + 7))) b l s) < 4 ∧ (rT (A (o + 7))) b l s (rf_na ((rT (A (o + 7))) b l s) + 1) ≠ (-268435456) then rf_na ((rT (A (o + 7))) b l s) + 1 else rf_na ((rT (A (o + 7))) b l s) := by
    unfold rf_sl
    rw [if_neg h9]
  generalize rf_na ((rT (A (o + 7))) b l s) = w at h5 hT0 kn hi0 hd9 hsl h9 ⊢
  by_cases h4 : w < 4
  · by_cases hT : (rT (A (o + 7))) b l s (w + 1) = (-268435456)
    · rw [if_neg (fun q => q.2 hT)] at hsl
      rw [hsl]
      refine ⟨?_, h5, h5, hi0, hi0⟩
      have hi1 := hi0
      obtain ⟨v, hv⟩ : ∃ v, v = w := ⟨w, rfl⟩
      refine pw_aload0 dX12_slipsOn_0 ?_
      refine pw_iload1 dX12_slipsOn_1 ?_
      refine pw_iload2 dX12_slipsOn_2 ?_
      refine pw_iload3 dX12_slipsOn_3 ?_
      refine pw_o3i wX12_naturally lX12_312 rfl dX12_slipsOn_4 hF.1 (kn) rfl (Nat.le_of_ble_eq_true rfl) (Nat.le_of_ble_eq_true rfl) ?_
      refine pw_istore4 dX12_slipsOn_7 (by decide) (k := ?_)
      refine pw_iload4 dX12_slipsOn_9 ?_
      refine pw_bipush (v := 9) dX12_slipsOn_11 (by decide) ?_
      refine pw_icmp_ne (tgt := 17) dX12_slipsOn_13 (by decide) (fun c13 => ?_) (fun c13 => absurd c13 hd9)
      refine pw_iload4 dX12_slipsOn_17 ?_
      refine pw_iconst (v := 2) dX12_slipsOn_19 (by decide) ?_
      refine pw_icmp_ge (tgt := 47) dX12_slipsOn_20 (by decide) (fun c20 => absurd c20 (by rw [le_i li_2 (dI_t (by omega))]; omega)) (fun c20 => ?_)
      refine pw_aload0 dX12_slipsOn_23 ?_
      refine pw_iload1 dX12_slipsOn_24 ?_
      refine pw_iload2 dX12_slipsOn_25 ?_
      refine pw_iload3 dX12_slipsOn_26 ?_
      refine pw_iload4 dX12_slipsOn_27 ?_
      refine pw_iconst (v := 1) dX12_slipsOn_29 (by decide) ?_
      refine pw_iadd dX12_slipsOn_30 ?_
      rw [dI_1]
      refine pw_o4i wX12_gladAt lX12_280 rfl dX12_slipsOn_31 hF.1 (c_gladAt hF hb hl hs (show w + 1 < 5 by omega)) rfl (Nat.le_of_ble_eq_true rfl) (Nat.le_of_ble_eq_true rfl) ?_
      refine pw_ldcw kX12_273 dX12_slipsOn_34 ?_
      refine pw_icmp_eq (tgt := 47) dX12_slipsOn_37 (by decide) (fun c37 => ?_) (fun c37 => absurd hT c37)
      refine pw_iload4 dX12_slipsOn_47 ?_
      refine pw_istore5 dX12_slipsOn_49 (by decide) (k := ?_)
      refine pw_aload0 dX12_slipsOn_51 ?_
      refine pw_getr gX12_55 dX12_slipsOn_52 hF.1 (mf_p29 hF) ?_
      refine pw_iload4 dX12_slipsOn_55 ?_
      refine pw_iload3 dX12_slipsOn_57 ?_
      refine pw_iload4 dX12_slipsOn_58 ?_
      refine pw_isub dX12_slipsOn_60 ?_
      rw [sw_I hi0.1]
      refine pw_s2i wX12_mark lX12_427 dX12_slipsOn_61 (c_markI w (s + 2 - w)) rfl (Nat.le_of_ble_eq_true rfl) (Nat.le_of_ble_eq_true rfl) ?_
      refine pw_dup2_11 dX12_slipsOn_64 rfl rfl ?_
      refine pw_lld (j := w * 41 + (s + 2 - w)) dX12_slipsOn_65 (mf_s13 hF) (ix_m rfl (by omega)) (by omega) ?_
      refine pw_aload0 dX12_slipsOn_66 ?_
      refine pw_getr gX12_51 dX12_slipsOn_67 hF.1 (mf_p28 hF) ?_
      refine pw_iload2 dX12_slipsOn_70 ?_
      refine pw_iload3 dX12_slipsOn_71 ?_
      refine pw_s2i wX12_mark lX12_427 dX12_slipsOn_72 (c_markI l s) rfl (Nat.le_of_ble_eq_true rfl) (Nat.le_of_ble_eq_true rfl) ?_
      refine pw_lld (j := l * 41 + s) dX12_slipsOn_75 (mf_s12 hF) (ix_m rfl (by omega)) (by omega) ?_
      rw [hc]
      refine pw_bipush (v := 10) dX12_slipsOn_76 (by decide) ?_
      refine pw_aload0 dX12_slipsOn_78 ?_
      refine pw_getr gX12_13 dX12_slipsOn_79 hF.1 (mf_p1 hF) ?_
      refine pw_iconst (v := 3) dX12_slipsOn_82 (by decide) ?_
      refine pw_ald (j := 3) dX12_slipsOn_83 (mf_s1 hF) rfl (by omega) ?_
      rw [h3]
      refine pw_isub dX12_slipsOn_84 ?_
      refine pw_i2l dX12_slipsOn_85 ?_
      refine pw_lmul dX12_slipsOn_86 ?_
      refine pw_ladd dX12_slipsOn_87 ?_
      refine pw_lst (j := w * 41 + (s + 2 - w)) dX12_slipsOn_88 (mf_s13 hF) (ix_m rfl (by omega)) (by omega)  ?_
      refine pw_aload0 dX12_slipsOn_89 ?_
      refine pw_getr gX12_55 dX12_slipsOn_90 hF.1 (mf_p29 hF) ?_
      refine pw_iload5 dX12_slipsOn_93 ?_
      refine pw_iload3 dX12_slipsOn_95 ?_
      refine pw_iload5 dX12_slipsOn_96 ?_
      refine pw_isub dX12_slipsOn_98 ?_
      rw [sw_I hi1.1]
      refine pw_s2i wX12_mark lX12_427 dX12_slipsOn_99 (c_markI w (s + 2 - w)) rfl (Nat.le_of_ble_eq_true rfl) (Nat.le_of_ble_eq_true rfl) ?_
      refine pw_dup2_11 dX12_slipsOn_102 rfl rfl ?_
      refine pw_lld (j := w * 41 + (s + 2 - w)) dX12_slipsOn_103 (mf_s13 hF) (ix_m rfl (by omega)) (by omega) ?_
      refine pw_aload0 dX12_slipsOn_104 ?_
      refine pw_getr gX12_51 dX12_slipsOn_105 hF.1 (mf_p28 hF) ?_
      refine pw_iload2 dX12_slipsOn_108 ?_
      refine pw_iload3 dX12_slipsOn_109 ?_
      refine pw_s2i wX12_mark lX12_427 dX12_slipsOn_110 (c_markI l s) rfl (Nat.le_of_ble_eq_true rfl) (Nat.le_of_ble_eq_true rfl) ?_
      refine pw_lld (j := l * 41 + s) dX12_slipsOn_113 (mf_s12 hF) (ix_m rfl (by omega)) (by omega) ?_
      rw [up2_na (show o + 12 ≠ o + 13 by omega), hc]
      refine pw_aload0 dX12_slipsOn_114 ?_
      refine pw_getr gX12_13 dX12_slipsOn_115 hF.1 (mf_p1 hF) ?_
      refine pw_iconst (v := 3) dX12_slipsOn_118 (by decide) ?_
      refine pw_ald (j := 3) dX12_slipsOn_119 (mf_s1 hF) rfl (by omega) ?_
      rw [h3]
      refine pw_i2l dX12_slipsOn_120 ?_
      refine pw_lmul dX12_slipsOn_121 ?_
      refine pw_ladd dX12_slipsOn_122 ?_
      refine pw_lst (j := w * 41 + (s + 2 - w)) dX12_slipsOn_123 (mf_s13 hF) (ix_m rfl (by omega)) (by omega)  ?_
      exact pw_vret dX12_slipsOn_124 rfl rfl rfl
    · rw [if_pos ⟨h4, hT⟩] at hsl
      rw [hsl]
      have hi1 := hin (w + 1) (by omega) hT
      unfold rf_in at hi1
      simp only [decide_eq_true_eq] at hi1
      refine ⟨?_, h5, by omega, hi0, hi1⟩
      refine pw_aload0 dX12_slipsOn_0 ?_
      refine pw_iload1 dX12_slipsOn_1 ?_
      refine pw_iload2 dX12_slipsOn_2 ?_
      refine pw_iload3 dX12_slipsOn_3 ?_
      refine pw_o3i wX12_naturally lX12_312 rfl dX12_slipsOn_4 hF.1 (kn) rfl (Nat.le_of_ble_eq_true rfl) (Nat.le_of_ble_eq_true rfl) ?_
      refine pw_istore4 dX12_slipsOn_7 (by decide) (k := ?_)
      refine pw_iload4 dX12_slipsOn_9 ?_
      refine pw_bipush (v := 9) dX12_slipsOn_11 (by decide) ?_
      refine pw_icmp_ne (tgt := 17) dX12_slipsOn_13 (by decide) (fun c13 => ?_) (fun c13 => absurd c13 hd9)
      refine pw_iload4 dX12_slipsOn_17 ?_
      refine pw_iconst (v := 2) dX12_slipsOn_19 (by decide) ?_
      refine pw_icmp_ge (tgt := 47) dX12_slipsOn_20 (by decide) (fun c20 => absurd c20 (by rw [le_i li_2 (dI_t (by omega))]; omega)) (fun c20 => ?_)
      refine pw_aload0 dX12_slipsOn_23 ?_
      refine pw_iload1 dX12_slipsOn_24 ?_
      refine pw_iload2 dX12_slipsOn_25 ?_
      refine pw_iload3 dX12_slipsOn_26 ?_
      refine pw_iload4 dX12_slipsOn_27 ?_
      refine pw_iconst (v := 1) dX12_slipsOn_29 (by decide) ?_
      refine pw_iadd dX12_slipsOn_30 ?_
      rw [dI_1]
      refine pw_o4i wX12_gladAt lX12_280 rfl dX12_slipsOn_31 hF.1 (c_gladAt hF hb hl hs (show w + 1 < 5 by omega)) rfl (Nat.le_of_ble_eq_true rfl) (Nat.le_of_ble_eq_true rfl) ?_
      refine pw_ldcw kX12_273 dX12_slipsOn_34 ?_
      refine pw_icmp_eq (tgt := 47) dX12_slipsOn_37 (by decide) (fun c37 => absurd c37 hT) (fun c37 => ?_)
      refine pw_iload4 dX12_slipsOn_40 ?_
      refine pw_iconst (v := 1) dX12_slipsOn_42 (by decide) ?_
      refine pw_iadd dX12_slipsOn_43 ?_
      rw [dI_1]
      refine pw_goto (tgt := 49) dX12_slipsOn_44 (by decide) ?_
      refine pw_istore5 dX12_slipsOn_49 (by decide) (k := ?_)
      refine pw_aload0 dX12_slipsOn_51 ?_
      refine pw_getr gX12_55 dX12_slipsOn_52 hF.1 (mf_p29 hF) ?_
      refine pw_iload4 dX12_slipsOn_55 ?_
      refine pw_iload3 dX12_slipsOn_57 ?_
      refine pw_iload4 dX12_slipsOn_58 ?_
      refine pw_isub dX12_slipsOn_60 ?_
      rw [sw_I hi0.1]
      refine pw_s2i wX12_mark lX12_427 dX12_slipsOn_61 (c_markI w (s + 2 - w)) rfl (Nat.le_of_ble_eq_true rfl) (Nat.le_of_ble_eq_true rfl) ?_
      refine pw_dup2_11 dX12_slipsOn_64 rfl rfl ?_
      refine pw_lld (j := w * 41 + (s + 2 - w)) dX12_slipsOn_65 (mf_s13 hF) (ix_m rfl (by omega)) (by omega) ?_
      refine pw_aload0 dX12_slipsOn_66 ?_
      refine pw_getr gX12_51 dX12_slipsOn_67 hF.1 (mf_p28 hF) ?_
      refine pw_iload2 dX12_slipsOn_70 ?_
      refine pw_iload3 dX12_slipsOn_71 ?_
      refine pw_s2i wX12_mark lX12_427 dX12_slipsOn_72 (c_markI l s) rfl (Nat.le_of_ble_eq_true rfl) (Nat.le_of_ble_eq_true rfl) ?_
      refine pw_lld (j := l * 41 + s) dX12_slipsOn_75 (mf_s12 hF) (ix_m rfl (by omega)) (by omega) ?_
      rw [hc]
      refine pw_bipush (v := 10) dX12_slipsOn_76 (by decide) ?_
      refine pw_aload0 dX12_slipsOn_78 ?_
      refine pw_getr gX12_13 dX12_slipsOn_79 hF.1 (mf_p1 hF) ?_
      refine pw_iconst (v := 3) dX12_slipsOn_82 (by decide) ?_
      refine pw_ald (j := 3) dX12_slipsOn_83 (mf_s1 hF) rfl (by omega) ?_
      rw [h3]
      refine pw_isub dX12_slipsOn_84 ?_
      refine pw_i2l dX12_slipsOn_85 ?_
      refine pw_lmul dX12_slipsOn_86 ?_
      refine pw_ladd dX12_slipsOn_87 ?_
      refine pw_lst (j := w * 41 + (s + 2 - w)) dX12_slipsOn_88 (mf_s13 hF) (ix_m rfl (by omega)) (by omega)  ?_
      refine pw_aload0 dX12_slipsOn_89 ?_
      refine pw_getr gX12_55 dX12_slipsOn_90 hF.1 (mf_p29 hF) ?_
      refine pw_iload5 dX12_slipsOn_93 ?_
      refine pw_iload3 dX12_slipsOn_95 ?_
      refine pw_iload5 dX12_slipsOn_96 ?_
      refine pw_isub dX12_slipsOn_98 ?_
      rw [sw_I hi1.1]
      refine pw_s2i wX12_mark lX12_427 dX12_slipsOn_99 (c_markI (w + 1) (s + 2 - (w + 1))) rfl (Nat.le_of_ble_eq_true rfl) (Nat.le_of_ble_eq_true rfl) ?_
      refine pw_dup2_11 dX12_slipsOn_102 rfl rfl ?_
      refine pw_lld (j := (w + 1) * 41 + (s + 2 - (w + 1))) dX12_slipsOn_103 (mf_s13 hF) (ix_m rfl (by omega)) (by omega) ?_
      refine pw_aload0 dX12_slipsOn_104 ?_
      refine pw_getr gX12_51 dX12_slipsOn_105 hF.1 (mf_p28 hF) ?_
      refine pw_iload2 dX12_slipsOn_108 ?_
      refine pw_iload3 dX12_slipsOn_109 ?_
      refine pw_s2i wX12_mark lX12_427 dX12_slipsOn_110 (c_markI l s) rfl (Nat.le_of_ble_eq_true rfl) (Nat.le_of_ble_eq_true rfl) ?_
      refine pw_lld (j := l * 41 + s) dX12_slipsOn_113 (mf_s12 hF) (ix_m rfl (by omega)) (by omega) ?_
      rw [up2_na (show o + 12 ≠ o + 13 by omega), hc]
      refine pw_aload0 dX12_slipsOn_114 ?_
      refine pw_getr gX12_13 dX12_slipsOn_115 hF.1 (mf_p1 hF) ?_
      refine pw_iconst (v := 3) dX12_slipsOn_118 (by decide) ?_
      refine pw_ald (j := 3) dX12_slipsOn_119 (mf_s1 hF) rfl (by omega) ?_
      rw [h3]
      refine pw_i2l dX12_slipsOn_120 ?_
      refine pw_lmul dX12_slipsOn_121 ?_
      refine pw_ladd dX12_slipsOn_122 ?_
      refine pw_lst (j := (w + 1) * 41 + (s + 2 - (w + 1))) dX12_slipsOn_123 (mf_s13 hF) (ix_m rfl (by omega)) (by omega)  ?_
      exact pw_vret dX12_slipsOn_124 rfl rfl rfl
  · rw [if_neg (fun q => h4 q.1)] at hsl
    rw [hsl]
    refine ⟨?_, h5, h5, hi0, hi0⟩
    have hi1 := hi0
    refine pw_aload0 dX12_slipsOn_0 ?_
    refine pw_iload1 dX12_slipsOn_1 ?_
    refine pw_iload2 dX12_slipsOn_2 ?_
    refine pw_iload3 dX12_slipsOn_3 ?_
    refine pw_o3i wX12_naturally lX12_312 rfl dX12_slipsOn_4 hF.1 (kn) rfl (Nat.le_of_ble_eq_true rfl) (Nat.le_of_ble_eq_true rfl) ?_
    refine pw_istore4 dX12_slipsOn_7 (by decide) (k := ?_)
    refine pw_iload4 dX12_slipsOn_9 ?_
    refine pw_bipush (v := 9) dX12_slipsOn_11 (by decide) ?_
    refine pw_icmp_ne (tgt := 17) dX12_slipsOn_13 (by decide) (fun c13 => ?_) (fun c13 => absurd c13 hd9)
    refine pw_iload4 dX12_slipsOn_17 ?_
    refine pw_iconst (v := 2) dX12_slipsOn_19 (by decide) ?_
    refine pw_icmp_ge (tgt := 47) dX12_slipsOn_20 (by decide) (fun c20 => ?_) (fun c20 => absurd (by rw [le_i li_2 (dI_t (by omega))]; omega) c20)
    refine pw_iload4 dX12_slipsOn_47 ?_
    refine pw_istore5 dX12_slipsOn_49 (by decide) (k := ?_)
    refine pw_aload0 dX12_slipsOn_51 ?_
    refine pw_getr gX12_55 dX12_slipsOn_52 hF.1 (mf_p29 hF) ?_
    refine pw_iload4 dX12_slipsOn_55 ?_
    refine pw_iload3 dX12_slipsOn_57 ?_
    refine pw_iload4 dX12_slipsOn_58 ?_
    refine pw_isub dX12_slipsOn_60 ?_
    rw [sw_I hi0.1]
    refine pw_s2i wX12_mark lX12_427 dX12_slipsOn_61 (c_markI w (s + 2 - w)) rfl (Nat.le_of_ble_eq_true rfl) (Nat.le_of_ble_eq_true rfl) ?_
    refine pw_dup2_11 dX12_slipsOn_64 rfl rfl ?_
    refine pw_lld (j := w * 41 + (s + 2 - w)) dX12_slipsOn_65 (mf_s13 hF) (ix_m rfl (by omega)) (by omega) ?_
    refine pw_aload0 dX12_slipsOn_66 ?_
    refine pw_getr gX12_51 dX12_slipsOn_67 hF.1 (mf_p28 hF) ?_
    refine pw_iload2 dX12_slipsOn_70 ?_
    refine pw_iload3 dX12_slipsOn_71 ?_
    refine pw_s2i wX12_mark lX12_427 dX12_slipsOn_72 (c_markI l s) rfl (Nat.le_of_ble_eq_true rfl) (Nat.le_of_ble_eq_true rfl) ?_
    refine pw_lld (j := l * 41 + s) dX12_slipsOn_75 (mf_s12 hF) (ix_m rfl (by omega)) (by omega) ?_
    rw [hc]
    refine pw_bipush (v := 10) dX12_slipsOn_76 (by decide) ?_
    refine pw_aload0 dX12_slipsOn_78 ?_
    refine pw_getr gX12_13 dX12_slipsOn_79 hF.1 (mf_p1 hF) ?_
    refine pw_iconst (v := 3) dX12_slipsOn_82 (by decide) ?_
    refine pw_ald (j := 3) dX12_slipsOn_83 (mf_s1 hF) rfl (by omega) ?_
    rw [h3]
    refine pw_isub dX12_slipsOn_84 ?_
    refine pw_i2l dX12_slipsOn_85 ?_
    refine pw_lmul dX12_slipsOn_86 ?_
    refine pw_ladd dX12_slipsOn_87 ?_
    refine pw_lst (j := w * 41 + (s + 2 - w)) dX12_slipsOn_88 (mf_s13 hF) (ix_m rfl (by omega)) (by omega)  ?_
    refine pw_aload0 dX12_slipsOn_89 ?_
    refine pw_getr gX12_55 dX12_slipsOn_90 hF.1 (mf_p29 hF) ?_
    refine pw_iload5 dX12_slipsOn_93 ?_
    refine pw_iload3 dX12_slipsOn_95 ?_
    refine pw_iload5 dX12_slipsOn_96 ?_
    refine pw_isub dX12_slipsOn_98 ?_
    rw [sw_I hi1.1]
    refine pw_s2i wX12_mark lX12_427 dX12_slipsOn_99 (c_markI w (s + 2 - w)) rfl (Nat.le_of_ble_eq_true rfl) (Nat.le_of_ble_eq_true rfl) ?_
    refine pw_dup2_11 dX12_slipsOn_102 rfl rfl ?_
    refine pw_lld (j := w * 41 + (s + 2 - w)) dX12_slipsOn_103 (mf_s13 hF) (ix_m rfl (by omega)) (by omega) ?_
    refine pw_aload0 dX12_slipsOn_104 ?_
    refine pw_getr gX12_51 dX12_slipsOn_105 hF.1 (mf_p28 hF) ?_
    refine pw_iload2 dX12_slipsOn_108 ?_
    refine pw_iload3 dX12_slipsOn_109 ?_
    refine pw_s2i wX12_mark lX12_427 dX12_slipsOn_110 (c_markI l s) rfl (Nat.le_of_ble_eq_true rfl) (Nat.le_of_ble_eq_true rfl) ?_
    refine pw_lld (j := l * 41 + s) dX12_slipsOn_113 (mf_s12 hF) (ix_m rfl (by omega)) (by omega) ?_
    rw [up2_na (show o + 12 ≠ o + 13 by omega), hc]
    refine pw_aload0 dX12_slipsOn_114 ?_
    refine pw_getr gX12_13 dX12_slipsOn_115 hF.1 (mf_p1 hF) ?_
    refine pw_iconst (v := 3) dX12_slipsOn_118 (by decide) ?_
    refine pw_ald (j := 3) dX12_slipsOn_119 (mf_s1 hF) rfl (by omega) ?_
    rw [h3]
    refine pw_i2l dX12_slipsOn_120 ?_
    refine pw_lmul dX12_slipsOn_121 ?_
    refine pw_ladd dX12_slipsOn_122 ?_
    refine pw_lst (j := w * 41 + (s + 2 - w)) dX12_slipsOn_123 (mf_s13 hF) (ix_m rfl (by omega)) (by omega)  ?_
    exact pw_vret dX12_slipsOn_124 rfl rfl rfl
