theorem hk_kp {v : Int64} (h : isD v.toInt = true ∨ v = 9) {w : Nat} (hw : w < 5) : inM (hmk v) (dI w) = rf_k (fun _ => v.toInt32) 0 0 w := by
  rcases h with h | h
  · obtain ⟨j, hj, e1, e2, e3⟩ := isD_j h
    unfold hmk
    rw [if_neg e3, e1]
    have key : ∀ j : Fin 5, ∀ w : Fin 5, inM (btF (dI j.1)) (dI w.1) = rf_k (fun _ => dI j.1) 0 0 w.1 := by decide
    exact key ⟨j, hj⟩ ⟨w, hw⟩
  · subst h
    have key : ∀ w : Fin 5, inM (hmk 9) (dI w.1) = rf_k (fun _ => (9 : Int64).toInt32) 0 0 w.1 := by decide
    exact key ⟨w, hw⟩
theorem mnC_ck {al : Nat → Int32} {p q : Nat} {kp kp' : Nat → Nat → Bool} (hk : ∀ b w, b < lgN al q → w < 5 → kp b w = kp' b w) (s : Nat) : mnC al p q kp s = mnC al p q kp' s := by
  unfold mnC
  exact sm_cong _ (fun l hl => rf_c_ck hk _ (Nat.le_refl _) l s hl)
def mnE (al : Nat → Int32) (p q : Nat) (kp : Nat → Nat → Bool) (e : Int) : Nat := if e = 99 then sm (fun s => mnC al p q kp s) 41 else mnC al p q kp (e + 20).toNat
theorem hm_mn {al : Nat → Int32} (hD : DV al) {np : Int} (hK : KV np (fun k => al (75 + k))) {p q : Nat} (hp : p < 5) (hq : q < 4) (kp : Nat → Nat → Bool) {e : Int32} (he : isE e.toInt = true) : hmN (TT al p q) kp (asks al 6) (stN al p) (lgN al q) e = mnE al p q kp e.toInt := by
  obtain ⟨tm, ht, etm, hat⟩ := hK.tmE hp
  have hn12 := (hD.lgE hq).2
  have hw := wtC_TT (kp := kp) hD hp ht hq hn12
  rw [hat] at hw
  unfold mnE mnC
  rcases isE_or he with h | h
  · have h := of_decide_eq_true h
    rw [if_neg (by omega)]
    have ee := sI_of (x := e) h.1 (by omega)
    have h2 := hm_at (s0 := stN al p) hw (show (e.toInt + 20).toNat < 41 by omega)
    rw [← ee] at h2
    exact h2
  · rw [if_pos h]
    have h : e = 99 := (i32_iff (show (99 : Int32).toInt = 99 from rfl)).mpr h
    rw [h]
    exact hm_all hw
theorem mnE_ck {al : Nat → Int32} {p q : Nat} {kp kp' : Nat → Nat → Bool} (hk : ∀ b w, b < lgN al q → w < 5 → kp b w = kp' b w) (e : Int) : mnE al p q kp e = mnE al p q kp' e := by
  unfold mnE
  rw [mnC_ck hk]
  by_cases c : e = 99
  · rw [if_pos c, if_pos c]
    exact sm_cong _ (fun s _ => mnC_ck hk s)
  · rw [if_neg c, if_neg c]
theorem c_zero {T : Nat → Nat → Nat → Nat → Int32} {kp : Nat → Nat → Bool} {s0 b : Nat} (h : ∀ w, w < 5 → kp b w = false) : ∀ m w t, w < 5 → rf_c T kp s0 (b + 1 + m) w t = 0 := by
  intro m
  induction m with
  | zero =>
    intro w t hw
    show sm (fun l => ctr T kp b (rf_c T kp s0 b) l w t) 5 = 0
    refine sm_0 (fun l hl => ?_)
    unfold ctr
    rw [h w hw]
    simp
  | succ m ih =>
    intro w t hw
    show sm (fun l => ctr T kp (b + 1 + m) (rf_c T kp s0 (b + 1 + m)) l w t) 5 = 0
    refine sm_0 (fun l hl => ?_)
    unfold ctr
    rw [ih l _ hl]
    simp
theorem c_split {T : Nat → Nat → Nat → Nat → Int32} {kp : Nat → Nat → Bool} {K : Nat → Nat → Nat → Bool} {s0 b : Nat} (h1 : ∀ w b' w', b' ≠ b → w' < 5 → K w b' w' = kp b' w') (h2 : ∀ w w', w' < 5 → K w b w' = (kp b w' && decide (w' = w))) : ∀ m w' t, w' < 5 → sm (fun w => rf_c T (K w) s0 (b + 1 + m) w' t) 5 = rf_c T kp s0 (b + 1 + m) w' t := by
  intro m
  induction m with
  | zero =>
    intro w' t hw'
    show sm (fun w => sm (fun l => ctr T (K w) b (rf_c T (K w) s0 b) l w' t) 5) 5 = sm (fun l => ctr T kp b (rf_c T kp s0 b) l w' t) 5
    rw [sm_comm (fun l w => ctr T (K w) b (rf_c T (K w) s0 b) l w' t) 5 5]
    refine sm_cong 5 (fun l hl => ?_)
    show sm (fun w => ctr T (K w) b (rf_c T (K w) s0 b) l w' t) 5 = _
    have e : ∀ w, w < 5 → ctr T (K w) b (rf_c T (K w) s0 b) l w' t = if w' = w then ctr T kp b (rf_c T kp s0 b) l w' t else 0 := fun w hw => by
      have ec : ∀ s, rf_c T (K w) s0 b l s = rf_c T kp s0 b l s := fun s => rf_c_ck (n := b) (fun b' w'' hb hw'' => h1 w b' w'' (by omega) hw'') b (Nat.le_refl _) l s hl
      unfold ctr
      rw [h2 w w' hw', ec]
      by_cases c : w' = w
      · rw [if_pos c, decide_eq_true c, Bool.and_true]
      · rw [if_neg c, decide_eq_false c, Bool.and_false]
        simp
    rw [sm_cong 5 e, sm_pick (fun _ => ctr T kp b (rf_c T kp s0 b) l w' t) 5, if_pos hw']
  | succ m ih =>
    intro w' t hw'
    show sm (fun w => sm (fun l => ctr T (K w) (b + 1 + m) (rf_c T (K w) s0 (b + 1 + m)) l w' t) 5) 5 = sm (fun l => ctr T kp (b + 1 + m) (rf_c T kp s0 (b + 1 + m)) l w' t) 5
    rw [sm_comm (fun l w => ctr T (K w) (b + 1 + m) (rf_c T (K w) s0 (b + 1 + m)) l w' t) 5 5]
    refine sm_cong 5 (fun l hl => ?_)
    have ih2 := fun s => ih l s hl
    show sm (fun w => ctr T (K w) (b + 1 + m) (rf_c T (K w) s0 (b + 1 + m)) l w' t) 5 = ctr T kp (b + 1 + m) (rf_c T kp s0 (b + 1 + m)) l w' t
    have e : ∀ w, w < 5 → ctr T (K w) (b + 1 + m) (rf_c T (K w) s0 (b + 1 + m)) l w' t = if 2 ≤ t + w' ∧ t + w' < 43 ∧ kp (b + 1 + m) w' = true ∧ T (b + 1 + m) l (t + w' - 2) w' ≠ -268435456 then rf_c T (K w) s0 (b + 1 + m) l (t + w' - 2) else 0 := fun w _ => by
      unfold ctr
      rw [h1 w _ w' (by omega) hw']
    unfold ctr at e ⊢
    by_cases c : 2 ≤ t + w' ∧ t + w' < 43 ∧ kp (b + 1 + m) w' = true ∧ T (b + 1 + m) l (t + w' - 2) w' ≠ -268435456
    · rw [if_pos c, sm_cong 5 (fun w hw => (e w hw).trans (if_pos c))]
      exact ih2 _
    · rw [if_neg c]
      exact sm_0 (fun w hw => (e w hw).trans (if_neg c))
theorem mn_split {al : Nat → Int32} {p q : Nat} {kp : Nat → Nat → Bool} {K : Nat → Nat → Nat → Bool} {b : Nat} (hb : b < lgN al q) (h1 : ∀ w b' w', b' ≠ b → w' < 5 → K w b' w' = kp b' w') (h2 : ∀ w w', w' < 5 → K w b w' = (kp b w' && decide (w' = w))) (e : Int) : sm (fun w => mnE al p q (K w) e) 5 = mnE al p q kp e := by
  have h3 : ∀ s, sm (fun w => mnC al p q (K w) s) 5 = mnC al p q kp s := fun s => by
    unfold mnC
    rw [sm_comm (fun l w => rf_c (TT al p q) (K w) (stN al p) (lgN al q) l s) 5 5]
    refine sm_cong 5 (fun l hl => ?_)
    have := c_split (T := TT al p q) (s0 := stN al p) h1 h2 (lgN al q - (b + 1)) l s hl
    rw [show b + 1 + (lgN al q - (b + 1)) = lgN al q by omega] at this
    exact this
  unfold mnE
  by_cases c : e = 99
  · simp only [if_pos c]
    rw [sm_comm (fun s w => mnC al p q (K w) s) 41 5]
    exact sm_cong 41 (fun s _ => h3 s)
  · simp only [if_neg c]
    exact h3 _
theorem hd_mn (al : Nat → Int32) (p q : Nat) (f : Nat → Int32) (e : Int) : hdN al p q f e = mnE al p q (rf_k f 0) e := rfl
theorem k0_dI {j w : Nat} (hj : j < 5) (hw : w < 5) : rf_k (fun _ => dI j) 0 0 w = decide (w = j) := by
  have key : ∀ j : Fin 5, ∀ w : Fin 5, rf_k (fun _ => dI j.1) 0 0 w.1 = decide (w.1 = j.1) := by decide
  exact key ⟨j, hj⟩ ⟨w, hw⟩
theorem rf_k_b {f g : Nat → Int32} {a : Int32} {b b' w : Nat} (h : f b = g b') : rf_k f a b w = rf_k g a b' w := by
  unfold rf_k
  rw [h]
theorem dI_9 {w : Nat} (hw : w < 5) : ¬ dI w = 9 := by
  have key : ∀ w : Fin 5, ¬ dI w.1 = 9 := by decide
  exact key ⟨w, hw⟩
theorem dI_in {w j : Nat} (hw : w < 5) (hj : j < 5) (h : dI w = dI j) : w = j := by
  have key : ∀ w j : Fin 5, dI w.1 = dI j.1 → w.1 = j.1 := by decide
  exact key ⟨w, hw⟩ ⟨j, hj⟩ h
theorem hd_sum {al : Nat → Int32} {p q : Nat} {f : Nat → Int32} {b : Nat} (hb : b < lgN al q) (hf : f b = 9 ∨ ∃ j, j < 5 ∧ f b = dI j) (e : Int) : sm (fun w => hdV al p q f e b (dI w)) 5 = hdN al p q f e := by
  rcases hf with hf | ⟨j, hj, hf⟩
  · have ev : ∀ w, w < 5 → hdV al p q f e b (dI w) = mnE al p q (fun b' w' => if b' = b then decide (w' = w) else rf_k f 0 b' w') e := fun w hw => by
      unfold hdV
      rw [if_neg (dI_9 hw), if_neg (fun h => h.1 hf), hd_mn]
      refine mnE_ck (fun b' w' hb' hw' => ?_) e
      by_cases c : b' = b
      · rw [if_pos c, c, rf_k_b (g := fun _ => dI w) (b' := 0) pm_up_eq, k0_dI hw hw']
      · rw [if_neg c]
        exact rf_k_b (pm_up_ne c)
    rw [sm_cong 5 ev, hd_mn]
    have k9 : ∀ w', rf_k f 0 b w' = true := fun w' => by
      unfold rf_k
      rw [hf]
      rfl
    have hh1 : ∀ w b' w', b' ≠ b → w' < 5 → (if b' = b then decide (w' = w) else rf_k f 0 b' w') = rf_k f 0 b' w' := fun w b' w' hb' _ => if_neg hb'
    have hh2 : ∀ w w', w' < 5 → (if b = b then decide (w' = w) else rf_k f 0 b w') = (rf_k f 0 b w' && decide (w' = w)) := fun w w' _ => by rw [if_pos rfl, k9, Bool.true_and]
    exact mn_split (K := fun w b' w' => if b' = b then decide (w' = w) else rf_k f 0 b' w') (kp := rf_k f 0) hb hh1 hh2 e
  · have ev : ∀ w, w < 5 → hdV al p q f e b (dI w) = if j = w then hdN al p q f e else 0 := fun w hw => by
      unfold hdV
      rw [if_neg (dI_9 hw)]
      by_cases c : j = w
      · rw [if_pos c, if_neg (fun h => h.2 (by rw [hf, c])), ← c, ← hf, pm_up_self]
      · rw [if_neg c, if_pos ⟨by rw [hf]; exact dI_9 hj, fun h => c (dI_in hj hw (by rw [← hf]; exact h))⟩]
    rw [sm_cong 5 ev, sm_pick (fun _ => hdN al p q f e) 5, if_pos hj]
/-- one draw that is sure -/
def suF (h : Nat → Nat) : Nat → Nat → Int32 → Int32
  | 0, _, a => a
  | m + 1, w, a => if h w = 0 then suF h m (w + 1) a else if a = 9 then suF h m (w + 1) (dI w) else 9
def tsF (h : Nat → Nat) : Nat → Nat → Nat
  | 0, _ => 0
  | m + 1, w => h w + tsF h m (w + 1)
theorem su_A {h : Nat → Nat} {a : Int32} (ha : ¬ a = 9) : ∀ m w, suF h m w a = if tsF h m w = 0 then a else 9
  | 0, _ => rfl
  | m + 1, w => by
    show (if h w = 0 then suF h m (w + 1) a else if a = 9 then suF h m (w + 1) (dI w) else 9) = if h w + tsF h m (w + 1) = 0 then a else 9
    by_cases c : h w = 0
    · rw [if_pos c, su_A ha m (w + 1), c, Nat.zero_add]
    · rw [if_neg c, if_neg ha, if_neg (by omega)]
theorem sr_D {h : Nat → Nat} {t : Nat} : ∀ m w, tsF h m w < t → srL h t m w = 9
  | 0, _, _ => rfl
  | m + 1, w, g => by
    have g : h w + tsF h m (w + 1) < t := g
    show (if h w = t then dI w else srL h t m (w + 1)) = 9
    rw [if_neg (by omega)]
    exact sr_D m (w + 1) (by omega)
theorem su_z {h : Nat → Nat} : ∀ m w, tsF h m w = 0 → suF h m w 9 = 9
  | 0, _, _ => rfl
  | m + 1, w, g => by
    have g : h w + tsF h m (w + 1) = 0 := g
    show (if h w = 0 then suF h m (w + 1) 9 else _) = 9
    rw [if_pos (by omega)]
    exact su_z m (w + 1) (by omega)
theorem su_sr {h : Nat → Nat} {t : Nat} (ht : t ≠ 0) : ∀ m w, w + m ≤ 5 → tsF h m w = t → suF h m w 9 = srL h t m w
  | 0, w, _, g => absurd g.symm ht
  | m + 1, w, hw, g => by
    have g : h w + tsF h m (w + 1) = t := g
    show (if h w = 0 then suF h m (w + 1) 9 else if (9 : Int32) = 9 then suF h m (w + 1) (dI w) else 9) = if h w = t then dI w else srL h t m (w + 1)
    by_cases c : h w = 0
    · rw [if_pos c, if_neg (by omega)]
      exact su_sr ht m (w + 1) (by omega) (by omega)
    · rw [if_neg c, if_pos rfl, su_A (dI_9 (by omega))]
      by_cases c2 : h w = t
      · rw [if_pos c2, if_pos (by omega)]
      · rw [if_neg c2, if_neg (by omega), sr_D m (w + 1) (by omega)]
theorem su_all {h : Nat → Nat} {t : Nat} (g : sm h 5 = t) : suF h 5 0 9 = if t = 0 then 9 else srL h t 5 0 := by
  have g2 : tsF h 5 0 = t := by
    rw [← g]
    show h 0 + (h 1 + (h 2 + (h 3 + (h 4 + 0)))) = 0 + h 0 + h 1 + h 2 + h 3 + h 4
    omega
  by_cases c : t = 0
  · rw [if_pos c]
    exact su_z 5 0 (by omega)
  · rw [if_neg c]
    exact su_sr c 5 0 (by omega) g2
