/-! ===== counting forward: by places of the class, by draws of the reference ===== -/
def tgP (bl : Bool) (s w : Nat) : Nat := (s + 2 - w) * 5 + lbN bl w
def cstep (wt : Nat → Nat → Nat → Nat) (bl : Bool) (c : Nat → Nat) (j : Nat) : Nat := sm (fun i => sm (fun w => if tgP bl (i / 5) w = j then c i * wt (i % 5) (i / 5) w else 0) 5) 205
def rstep (wt : Nat → Nat → Nat → Nat) (c : Nat → Nat → Nat) (w t : Nat) : Nat := sm (fun l => if 2 ≤ t + w ∧ t + w < 43 then c l (t + w - 2) * wt l (t + w - 2) w else 0) 5
def wtOK (wt : Nat → Nat → Nat → Nat) (bl : Bool) : Prop := (∀ l s w, l < 5 → s < 41 → w < 5 → wt l s w ≠ 0 → w ≤ s + 2 ∧ s + 2 ≤ w + 40) ∧ (bl = false → ∀ l s w, l < 5 → s < 41 → w < 5 → wt l s w = wt 2 s w)
def Rel (bl : Bool) (cc : Nat → Nat) (c : Nat → Nat → Nat) : Prop := (bl = true → ∀ s l, s < 41 → l < 5 → cc (s * 5 + l) = c l s) ∧ (bl = false → ∀ s, s < 41 → cc (s * 5 + 2) = sm (fun l => c l s) 5 ∧ ∀ l, l < 5 → l ≠ 2 → cc (s * 5 + l) = 0)
theorem sm_sing {a : Nat} (f : Nat → Nat) : ∀ n, sm (fun s => if s + 2 = a then f s else 0) n = if 2 ≤ a ∧ a < n + 2 then f (a - 2) else 0
  | 0 => by
    show 0 = _
    rw [if_neg (by omega)]
  | n + 1 => by
    rw [sm, sm_sing f n]
    by_cases h : n + 2 = a
    · rw [if_pos h, if_neg (by omega), if_pos (by omega), Nat.zero_add, show a - 2 = n by omega]
    · rw [if_neg h, Nat.add_zero]
      by_cases h2 : 2 ≤ a ∧ a < n + 2
      · rw [if_pos h2, if_pos (by omega)]
      · rw [if_neg h2, if_neg (by omega)]
theorem sm_pick (f : Nat → Nat) {v : Nat} : ∀ n, sm (fun w => if v = w then f w else 0) n = if v < n then f v else 0
  | 0 => by
    show 0 = _
    rw [if_neg (by omega)]
  | n + 1 => by
    rw [sm, sm_pick f n]
    by_cases h : v = n
    · rw [if_pos h, if_neg (by omega), if_pos (by omega), Nat.zero_add, h]
    · rw [if_neg h, Nat.add_zero]
      by_cases h2 : v < n
      · rw [if_pos h2, if_pos (by omega)]
      · rw [if_neg h2, if_neg (by omega)]
theorem sm_mulr (f : Nat → Nat) (x : Nat) : ∀ n, sm f n * x = sm (fun i => f i * x) n
  | 0 => Nat.zero_mul x
  | n + 1 => by rw [sm, sm, Nat.add_mul, sm_mulr f x n]
theorem sm_0 {f : Nat → Nat} {n : Nat} (h : ∀ i, i < n → f i = 0) : sm f n = 0 := by
  rw [sm_cong n h]
  exact sm_zero n
theorem cstep_205 (wt : Nat → Nat → Nat → Nat) (bl : Bool) (c : Nat → Nat) (j : Nat) : cstep wt bl c j = sm (fun l => sm (fun s => sm (fun w => if tgP bl s w = j then c (s * 5 + l) * wt l s w else 0) 5) 41) 5 := by
  unfold cstep
  rw [show (205 : Nat) = 41 * 5 from rfl, sm_blk _ 5 41, ← sm_comm (fun l s => sm (fun w => if tgP bl s w = j then c (s * 5 + l) * wt l s w else 0) 5) 5 41]
  refine sm_cong 41 (fun s hs => sm_cong 5 (fun l hl => ?_))
  show sm (fun w => if tgP bl ((s * 5 + l) / 5) w = j then c (s * 5 + l) * wt ((s * 5 + l) % 5) ((s * 5 + l) / 5) w else 0) 5 = _
  rw [show (s * 5 + l) / 5 = s by omega, show (s * 5 + l) % 5 = l by omega]
theorem Rel.step {wt : Nat → Nat → Nat → Nat} {bl : Bool} {cc : Nat → Nat} {c : Nat → Nat → Nat} (hw : wtOK wt bl) (h : Rel bl cc c) : Rel bl (cstep wt bl cc) (rstep wt c) := by
  refine ⟨fun hb t v ht hv => ?_, fun hb t ht => ⟨?_, fun v hv hv2 => ?_⟩⟩
  · rw [cstep_205]
    unfold rstep
    refine sm_cong 5 (fun l hl => ?_)
    have e : ∀ s, s < 41 → sm (fun w => if tgP bl s w = t * 5 + v then cc (s * 5 + l) * wt l s w else 0) 5 = if s + 2 = t + v then c l s * wt l s v else 0 := by
      intro s hs
      have e2 : ∀ w, w < 5 → (if tgP bl s w = t * 5 + v then cc (s * 5 + l) * wt l s w else 0) = if v = w then (if s + 2 = t + w then c l s * wt l s w else 0) else 0 := by
        intro w hw5
        rw [h.1 hb s l hs hl]
        by_cases hz : wt l s w = 0
        · rw [hz, Nat.mul_zero]
          repeat' split
          all_goals rfl
        · have hi := hw.1 l s w hl hs hw5 hz
          have et : tgP bl s w = (s + 2 - w) * 5 + w := by unfold tgP lbN; rw [hb]; rfl
          rw [et]
          by_cases g : v = w
          · rw [if_pos g]
            by_cases g2 : s + 2 = t + w
            · rw [if_pos g2, if_pos (by omega)]
            · rw [if_neg g2, if_neg (by omega)]
          · rw [if_neg g, if_neg (by omega)]
      rw [sm_cong 5 e2, sm_pick _ 5, if_pos hv]
    rw [sm_cong 41 e, sm_sing _ 41]
  · rw [cstep_205]
    unfold rstep
    have e : ∀ l, l < 5 → sm (fun s => sm (fun w => if tgP bl s w = t * 5 + 2 then cc (s * 5 + l) * wt l s w else 0) 5) 41 = if 2 = l then sm (fun s => sm (fun w => if s + 2 = t + w then sm (fun l => c l s) 5 * wt 2 s w else 0) 5) 41 else 0 := by
      intro l hl
      by_cases e2 : l = 2
      · subst e2
        rw [if_pos rfl]
        refine sm_cong 41 (fun s hs => sm_cong 5 (fun w hw5 => ?_))
        rw [(h.2 hb s hs).1]
        by_cases hz : wt 2 s w = 0
        · rw [hz, Nat.mul_zero]
          repeat' split
          all_goals rfl
        · have hi := hw.1 2 s w (by omega) hs hw5 hz
          have et : tgP bl s w = (s + 2 - w) * 5 + 2 := by unfold tgP lbN; rw [hb]; rfl
          rw [et]
          by_cases g2 : s + 2 = t + w
          · rw [if_pos g2, if_pos (by omega)]
          · rw [if_neg g2, if_neg (by omega)]
      · rw [if_neg (fun q => e2 q.symm)]
        refine sm_0 (fun s hs => sm_0 (fun w hw5 => ?_))
        rw [(h.2 hb s hs).2 l hl e2, Nat.zero_mul]
        split <;> rfl
    rw [sm_cong 5 e, sm_pick _ 5, if_pos (by omega), sm_comm (fun w s => if s + 2 = t + w then sm (fun l => c l s) 5 * wt 2 s w else 0) 5 41]
    refine sm_cong 5 (fun w hw5 => ?_)
    rw [sm_sing (fun s => sm (fun l => c l s) 5 * wt 2 s w) 41]
    by_cases g : 2 ≤ t + w ∧ t + w < 41 + 2
    · rw [if_pos g, sm_mulr]
      refine sm_cong 5 (fun l hl => ?_)
      rw [if_pos (by omega), hw.2 hb l (t + w - 2) w hl (by omega) hw5]
    · rw [if_neg g]
      refine (sm_0 (fun l hl => ?_)).symm
      rw [if_neg (by omega)]
  · rw [cstep_205]
    refine sm_0 (fun l hl => sm_0 (fun s hs => sm_0 (fun w hw5 => ?_)))
    have et : tgP bl s w = (s + 2 - w) * 5 + 2 := by unfold tgP lbN; rw [hb]; rfl
    rw [et, if_neg (by omega)]
/-- all that is counted, by the bars -/
def cIt (wt : Nat → Nat → Nat → Nat → Nat) (bl : Bool) (s0 : Nat) : Nat → Nat → Nat
  | 0, j => if j = s0 * 5 + 2 then 1 else 0
  | b + 1, j => cstep (wt b) bl (cIt wt bl s0 b) j
def rIt (wt : Nat → Nat → Nat → Nat → Nat) (s0 : Nat) : Nat → Nat → Nat → Nat
  | 0, l, s => if l = 2 ∧ s = s0 then 1 else 0
  | b + 1, w, t => rstep (wt b) (rIt wt s0 b) w t
theorem cIt_rel {wt : Nat → Nat → Nat → Nat → Nat} {bl : Bool} {s0 n : Nat} (hw : ∀ b, b < n → wtOK (wt b) bl) : ∀ b, b ≤ n → Rel bl (cIt wt bl s0 b) (rIt wt s0 b)
  | 0, _ => by
    refine ⟨fun _ s l hs hl => ?_, fun _ s hs => ⟨?_, fun l hl hl2 => ?_⟩⟩
    · show (if s * 5 + l = s0 * 5 + 2 then 1 else 0) = if l = 2 ∧ s = s0 then 1 else 0
      by_cases g : l = 2 ∧ s = s0
      · rw [if_pos g, if_pos (by omega)]
      · rw [if_neg g, if_neg (by omega)]
    · show (if s * 5 + 2 = s0 * 5 + 2 then 1 else 0) = sm (fun l => if l = 2 ∧ s = s0 then 1 else 0) 5
      by_cases g : s = s0
      · rw [if_pos (by omega)]
        subst g
        simp [sm]
      · rw [if_neg (by omega)]
        refine (sm_0 (fun l hl => ?_)).symm
        rw [if_neg (by omega)]
    · show (if s * 5 + l = s0 * 5 + 2 then 1 else 0) = 0
      rw [if_neg (by omega)]
  | b + 1, hb => (cIt_rel hw b (by omega)).step (hw b (by omega))
/-- by the store behind: both alike -/
theorem Rel.st {bl : Bool} {cc : Nat → Nat} {c : Nat → Nat → Nat} (h : Rel bl cc c) {s : Nat} (hs : s < 41) : sm (fun l => cc (s * 5 + l)) 5 = sm (fun l => c l s) 5 := by
  cases hb : bl with
  | true => exact sm_cong 5 (fun l hl => h.1 hb s l hs hl)
  | false =>
    obtain ⟨h1, h2⟩ := h.2 hb s hs
    have e : ∀ l, l < 5 → cc (s * 5 + l) = if 2 = l then cc (s * 5 + l) else 0 := by
      intro l hl
      by_cases g : 2 = l
      · rw [if_pos g]
      · rw [if_neg g, h2 l hl (fun q => g q.symm)]
    rw [sm_cong 5 e, sm_pick (fun l => cc (s * 5 + l)) 5, if_pos (by omega), h1]
/-- how much there is at most -/
theorem cstep_le {wt : Nat → Nat → Nat → Nat} {bl : Bool} {c : Nat → Nat} {m : Nat} (hm : ∀ l s, l < 5 → s < 41 → sm (wt l s) 5 ≤ m) : sm (cstep wt bl c) 205 ≤ sm c 205 * m := by
  unfold cstep
  rw [sm_comm (fun i j => sm (fun w => if tgP bl (i / 5) w = j then c i * wt (i % 5) (i / 5) w else 0) 5) 205 205, sm_mulr]
  refine sm_lee 205 (fun i hi => ?_)
  rw [sm_comm (fun w j => if tgP bl (i / 5) w = j then c i * wt (i % 5) (i / 5) w else 0) 5 205]
  have e : sm (fun w => sm (fun j => if tgP bl (i / 5) w = j then c i * wt (i % 5) (i / 5) w else 0) 205) 5 ≤ sm (fun w => c i * wt (i % 5) (i / 5) w) 5 := by
    refine sm_lee 5 (fun w hw => ?_)
    rw [sm_pick (fun _ => c i * wt (i % 5) (i / 5) w) 205]
    split
    · exact Nat.le_refl _
    · exact Nat.zero_le _
  refine Nat.le_trans e ?_
  have e2 : sm (fun w => c i * wt (i % 5) (i / 5) w) 5 = sm (wt (i % 5) (i / 5)) 5 * c i := by
    rw [sm_mulr]
    exact sm_cong 5 (fun w _ => Nat.mul_comm _ _)
  rw [e2, Nat.mul_comm]
  exact Nat.mul_le_mul_left _ (hm _ _ (by omega) (by omega))
theorem cIt_le {wt : Nat → Nat → Nat → Nat → Nat} {bl : Bool} {s0 n m : Nat} (hm : ∀ b l s, b < n → l < 5 → s < 41 → sm (wt b l s) 5 ≤ m) : ∀ b, b ≤ n → sm (cIt wt bl s0 b) 205 ≤ m ^ b
  | 0, _ => by
    show sm (fun j => if j = s0 * 5 + 2 then 1 else 0) 205 ≤ 1
    have e : ∀ j, j < 205 → (if j = s0 * 5 + 2 then 1 else 0) = if s0 * 5 + 2 = j then 1 else 0 := by
      intro j _
      by_cases g : j = s0 * 5 + 2
      · rw [if_pos g, if_pos g.symm]
      · rw [if_neg g, if_neg (fun q => g q.symm)]
    rw [sm_cong 205 e, sm_pick (fun _ => 1) 205]
    split <;> omega
  | b + 1, hb => by
    rw [Nat.pow_succ]
    exact Nat.le_trans (cstep_le (fun l s hl hs => hm b l s (by omega) hl hs)) (Nat.mul_le_mul_right _ (cIt_le hm b (by omega)))
/-- chances -/
def wtH (T : Nat → Nat → Nat → Nat → Int32) (k b l s w : Nat) : Nat := (if rf_na (T b l s) = w then 10 - k else 0) + (if rf_sl (T b l s) = w then k else 0)
theorem wtH_rf {T : Nat → Nat → Nat → Nat → Int32} {k s0 : Nat} : ∀ b l s, rIt (wtH T k) s0 b l s = rf_h T k s0 b l s
  | 0, _, _ => rfl
  | b + 1, w, t => by
    show rstep (wtH T k b) (rIt (wtH T k) s0 b) w t = sm (fun l => hct T k b (rf_h T k s0 b) l w t) 5
    unfold rstep hct
    refine sm_cong 5 (fun l hl => ?_)
    by_cases g : 2 ≤ t + w ∧ t + w < 43
    · rw [if_pos g, if_pos g, wtH_rf b l (t + w - 2)]
      unfold wtH
      rw [Nat.mul_add]
      congr 1
      · split
        · rfl
        · exact Nat.mul_zero _
      · split
        · rfl
        · exact Nat.mul_zero _
    · rw [if_neg g, if_neg g]
theorem rf_sl_ok (f : Nat → Int32) : rf_sl f = 9 ∨ (rf_sl f < 5 ∧ f (rf_sl f) ≠ -268435456) := by
  unfold rf_sl
  by_cases h9 : rf_na f = 9
  · rw [if_pos h9]
    exact Or.inl rfl
  · rw [if_neg h9]
    obtain ⟨h1, h2⟩ := (rf_na_ok f).resolve_left h9
    by_cases g : rf_na f < 4 ∧ f (rf_na f + 1) ≠ -268435456
    · rw [if_pos g]
      exact Or.inr ⟨by omega, g.2⟩
    · rw [if_neg g]
      exact Or.inr ⟨h1, h2⟩
theorem wtH_ok {T : Nat → Nat → Nat → Nat → Int32} {k b : Nat} {bl : Bool} (hin : ∀ l s w, l < 5 → s < 41 → w < 5 → T b l s w ≠ -268435456 → rf_in s w = true) (hi : bl = false → ∀ l s w, l < 5 → s < 41 → w < 5 → T b l s w = T b 2 s w) : wtOK (wtH T k b) bl := by
  refine ⟨fun l s w hl hs hw hz => ?_, fun hb l s w hl hs hw => ?_⟩
  · have key : T b l s w ≠ -268435456 := by
      unfold wtH at hz
      by_cases g : rf_na (T b l s) = w
      · rcases rf_na_ok (T b l s) with h9 | h
        · omega
        · rw [g] at h; exact h.2
      · by_cases g2 : rf_sl (T b l s) = w
        · rcases rf_sl_ok (T b l s) with h9 | h
          · omega
          · rw [g2] at h; exact h.2
        · rw [if_neg g, if_neg g2] at hz
          exact absurd rfl hz
    have := hin l s w hl hs hw key
    unfold rf_in at this
    exact of_decide_eq_true this
  · unfold wtH
    rw [rf_na_cong (f := T b l s) (g := T b 2 s) (fun i h5 => hi hb l s i hl hs h5), rf_sl_cong (f := T b l s) (g := T b 2 s) (fun i h5 => hi hb l s i hl hs h5)]
theorem wtH_le {T : Nat → Nat → Nat → Nat → Int32} {k : Nat} (hk : k ≤ 10) (b l s : Nat) : sm (wtH T k b l s) 5 ≤ 10 := by
  unfold wtH
  rw [sm_add, sm_pick (fun _ => 10 - k) 5, sm_pick (fun _ => k) 5]
  repeat' split
  all_goals omega
/-- rows -/
def wtC (T : Nat → Nat → Nat → Nat → Int32) (kp : Nat → Nat → Bool) (b l s w : Nat) : Nat := if kp b w = true ∧ T b l s w ≠ -268435456 then 1 else 0
theorem wtC_rf {T : Nat → Nat → Nat → Nat → Int32} {kp : Nat → Nat → Bool} {s0 : Nat} : ∀ b l s, rIt (wtC T kp) s0 b l s = rf_c T kp s0 b l s
  | 0, _, _ => rfl
  | b + 1, w, t => by
    show rstep (wtC T kp b) (rIt (wtC T kp) s0 b) w t = sm (fun l => ctr T kp b (rf_c T kp s0 b) l w t) 5
    unfold rstep ctr
    refine sm_cong 5 (fun l hl => ?_)
    by_cases g : 2 ≤ t + w ∧ t + w < 43
    · rw [if_pos g, wtC_rf b l (t + w - 2)]
      unfold wtC
      by_cases g2 : kp b w = true ∧ T b l (t + w - 2) w ≠ -268435456
      · rw [if_pos g2, if_pos ⟨g.1, g.2, g2.1, g2.2⟩, Nat.mul_one]
      · rw [if_neg g2, if_neg (fun q => g2 ⟨q.2.2.1, q.2.2.2⟩), Nat.mul_zero]
    · rw [if_neg g, if_neg (fun q => g ⟨q.1, q.2.1⟩)]
theorem wtC_ok {T : Nat → Nat → Nat → Nat → Int32} {kp : Nat → Nat → Bool} {b : Nat} {bl : Bool} (hin : ∀ l s w, l < 5 → s < 41 → w < 5 → T b l s w ≠ -268435456 → rf_in s w = true) (hi : bl = false → ∀ l s w, l < 5 → s < 41 → w < 5 → T b l s w = T b 2 s w) : wtOK (wtC T kp b) bl := by
  refine ⟨fun l s w hl hs hw hz => ?_, fun hb l s w hl hs hw => ?_⟩
  · have key : T b l s w ≠ -268435456 := by
      unfold wtC at hz
      by_cases g : kp b w = true ∧ T b l s w ≠ -268435456
      · exact g.2
      · rw [if_neg g] at hz
        exact absurd rfl hz
    have := hin l s w hl hs hw key
    unfold rf_in at this
    exact of_decide_eq_true this
  · unfold wtC
    rw [hi hb l s w hl hs hw]
theorem wtC_le {T : Nat → Nat → Nat → Nat → Int32} {kp : Nat → Nat → Bool} (b l s : Nat) : sm (wtC T kp b l s) 5 ≤ 5 := by
  have := sm_le (f := wtC T kp b l s) (m := 1) (fun i => by unfold wtC; split <;> omega) 5
  omega
/-- the laws that don't ask for the last draw -/
theorem TT_l2 {al : Nat → Int32} (hD : DV al) {p tm q : Nat} (hp : p < 5) (ht : tm < 10) (hq : q < 4) (h6 : asks al 6 = false) {b l s w : Nat} (hb : b < 12) (hl : l < 5) (hs : s < 41) (hw : w < 5) : TT (atm al p tm) p q b l s w = TT (atm al p tm) p q b 2 s w := by
  have e1 := cv_TT hD hp ht hq hb hl hs hw
  have e2 := cv_TT hD hp ht hq hb (show 2 < 5 by omega) hs hw
  have eu : uv al p tm q b l s w = uv al p tm q b 2 s w := uv_ind hD hp hp hq hb (fun _ => rfl) (fun _ => rfl) (fun h => by rw [h6] at h; cases h) (fun _ => rfl)
  rw [eu] at e1
  have e := e1.trans e2.symm
  have o1 := okv_sml (TT_ok hD hp ht hq hb hl hs hw)
  have o2 := okv_sml (TT_ok hD hp ht hq hb (show 2 < 5 by omega) hs hw)
  by_cases g : TT (atm al p tm) p q b l s w = -268435456
  · rw [g, cv_c] at e
    rw [g]
    exact ((cv_not o2).mp e.symm).symm
  · by_cases g2 : TT (atm al p tm) p q b 2 s w = -268435456
    · rw [g2, cv_c] at e
      exact absurd ((cv_not o1).mp e) g
    · rw [cv_n g, cv_n g2] at e
      exact e
