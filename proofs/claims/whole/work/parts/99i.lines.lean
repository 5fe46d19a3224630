def LWF (F : Nat → Int32) (c : List Int32) (law : Nat) (X : List Int32 → Prop) : Prop := F (4 + law) = 0 ∨ (F (4 + law) = 1 ∧ ∃ a d e : List Int32, c = a ++ d ++ e ∧ F (6 + law) = nI a.length ∧ F (8 + law) = nI d.length ∧ X d)
theorem LWF.fr {F F' : Nat → Int32} {c : List Int32} {law : Nat} {X : List Int32 → Prop} (h : LWF F c law X) (h4 : F' (4 + law) = F (4 + law)) (h6 : F' (6 + law) = F (6 + law)) (h8 : F' (8 + law) = F (8 + law)) (y : List Int32) : LWF F' (c ++ y) law X := by
  rcases h with h | ⟨h, a, d, e, g1, g2, g3, g4⟩
  · exact Or.inl (h4.trans h)
  · exact Or.inr ⟨h4.trans h, a, d, e ++ y, by simp only [g1, List.append_assoc], h6.trans g2, h8.trans g3, g4⟩
theorem LWF.f0 {F F' : Nat → Int32} {c : List Int32} {law : Nat} {X : List Int32 → Prop} (h : LWF F c law X) (h4 : F' (4 + law) = F (4 + law)) (h6 : F' (6 + law) = F (6 + law)) (h8 : F' (8 + law) = F (8 + law)) : LWF F' c law X := by
  have := h.fr h4 h6 h8 []
  rw [List.append_nil] at this
  exact this
def IVB (F : Nat → Int32) : Prop := (0 ≤ (F 3).toInt ∧ (F 3).toInt ≤ 10) ∧ (∀ q, q < 4 → ∃ b, b ≤ 12 ∧ F (10 + q) = nI b) ∧ (∀ i, i < 48 → -9 ≤ (F (15 + i)).toInt ∧ (F (15 + i)).toInt ≤ 9) ∧ (∀ p, p < 5 → -20 ≤ (F (77 + p)).toInt ∧ (F (77 + p)).toInt ≤ 20) ∧ (∀ p, p < 5 → 0 ≤ (F (87 + p)).toInt ∧ (F (87 + p)).toInt ≤ 9) ∧ ∀ k, (63 ≤ k ∧ k < 77) ∨ (82 ≤ k ∧ k < 87) ∨ (92 ≤ k ∧ k < 263) → F k = 0
def IVF (F : Nat → Int32) (c : List Int32) : Prop := (∃ q, q ≤ 4 ∧ F 1 = nI q ∧ ∀ k, q ≤ k → k ≤ 4 → F (10 + k) = 0) ∧ (∃ p, p ≤ 5 ∧ F 2 = nI p ∧ ∀ k, p ≤ k → k < 5 → F (77 + k) = 0) ∧ IVB F ∧ LWF F c 0 (GS 64) ∧ LWF F c 1 (TS 64)
theorem IVB.w {F : Nat → Int32} (h : IVB F) {i0 : Nat} (h0 : i0 < 48) {y : Int32} (hy : -9 ≤ y.toInt ∧ y.toInt ≤ 9) : IVB (pm_up F (15 + i0) y) := by
  refine ⟨?_, ?_, ?_, ?_, ?_, ?_⟩
  · rw [pm_up_ne (by omega)]; exact h.1
  · intro q hq
    rw [pm_up_ne (by omega)]; exact h.2.1 q hq
  · intro i hi
    by_cases e : 15 + i = 15 + i0
    · rw [e, pm_up_eq]; exact hy
    · rw [pm_up_ne e]; exact h.2.2.1 i hi
  · intro p hp
    rw [pm_up_ne (by omega)]; exact h.2.2.2.1 p hp
  · intro p hp
    rw [pm_up_ne (by omega)]; exact h.2.2.2.2.1 p hp
  · intro k hk
    rw [pm_up_ne (by omega)]; exact h.2.2.2.2.2 k hk
theorem IVB.b {F : Nat → Int32} (h : IVB F) {q0 : Nat} (h0 : q0 < 4) {y : Int32} (hy : ∃ b, b ≤ 12 ∧ y = nI b) : IVB (pm_up F (10 + q0) y) := by
  refine ⟨?_, ?_, ?_, ?_, ?_, ?_⟩
  · rw [pm_up_ne (by omega)]; exact h.1
  · intro q hq
    by_cases e : 10 + q = 10 + q0
    · rw [e, pm_up_eq]; exact hy
    · rw [pm_up_ne e]; exact h.2.1 q hq
  · intro i hi
    rw [pm_up_ne (by omega)]; exact h.2.2.1 i hi
  · intro p hp
    rw [pm_up_ne (by omega)]; exact h.2.2.2.1 p hp
  · intro p hp
    rw [pm_up_ne (by omega)]; exact h.2.2.2.2.1 p hp
  · intro k hk
    rw [pm_up_ne (by omega)]; exact h.2.2.2.2.2 k hk
theorem IVB.s {F : Nat → Int32} (h : IVB F) {p0 : Nat} (h0 : p0 < 5) {y : Int32} (hy : -20 ≤ y.toInt ∧ y.toInt ≤ 20) : IVB (pm_up F (77 + p0) y) := by
  refine ⟨?_, ?_, ?_, ?_, ?_, ?_⟩
  · rw [pm_up_ne (by omega)]; exact h.1
  · intro q hq
    rw [pm_up_ne (by omega)]; exact h.2.1 q hq
  · intro i hi
    rw [pm_up_ne (by omega)]; exact h.2.2.1 i hi
  · intro p hp
    by_cases e : 77 + p = 77 + p0
    · rw [e, pm_up_eq]; exact hy
    · rw [pm_up_ne e]; exact h.2.2.2.1 p hp
  · intro p hp
    rw [pm_up_ne (by omega)]; exact h.2.2.2.2.1 p hp
  · intro k hk
    rw [pm_up_ne (by omega)]; exact h.2.2.2.2.2 k hk
theorem IVB.t {F : Nat → Int32} (h : IVB F) {p0 : Nat} (h0 : p0 < 5) {y : Int32} (hy : 0 ≤ y.toInt ∧ y.toInt ≤ 9) : IVB (pm_up F (87 + p0) y) := by
  refine ⟨?_, ?_, ?_, ?_, ?_, ?_⟩
  · rw [pm_up_ne (by omega)]; exact h.1
  · intro q hq
    rw [pm_up_ne (by omega)]; exact h.2.1 q hq
  · intro i hi
    rw [pm_up_ne (by omega)]; exact h.2.2.1 i hi
  · intro p hp
    rw [pm_up_ne (by omega)]; exact h.2.2.2.1 p hp
  · intro p hp
    by_cases e : 87 + p = 87 + p0
    · rw [e, pm_up_eq]; exact hy
    · rw [pm_up_ne e]; exact h.2.2.2.2.1 p hp
  · intro k hk
    rw [pm_up_ne (by omega)]; exact h.2.2.2.2.2 k hk
theorem IVB.l {F : Nat → Int32} (h : IVB F) {y : Int32} (hy : 0 ≤ y.toInt ∧ y.toInt ≤ 10) : IVB (pm_up F (3) y) := by
  refine ⟨?_, ?_, ?_, ?_, ?_, ?_⟩
  · by_cases e : 3 = 3
    · rw [e, pm_up_eq]; exact hy
    · rw [pm_up_ne e]; exact h.1
  · intro q hq
    rw [pm_up_ne (by omega)]; exact h.2.1 q hq
  · intro i hi
    rw [pm_up_ne (by omega)]; exact h.2.2.1 i hi
  · intro p hp
    rw [pm_up_ne (by omega)]; exact h.2.2.2.1 p hp
  · intro p hp
    rw [pm_up_ne (by omega)]; exact h.2.2.2.2.1 p hp
  · intro k hk
    rw [pm_up_ne (by omega)]; exact h.2.2.2.2.2 k hk
theorem IVB.o {F : Nat → Int32} (h : IVB F) {k0 : Nat} (h0 : k0 < 10) (h3 : k0 ≠ 3) {y : Int32} : IVB (pm_up F (k0) y) := by
  refine ⟨?_, ?_, ?_, ?_, ?_, ?_⟩
  · rw [pm_up_ne (by omega)]; exact h.1
  · intro q hq
    rw [pm_up_ne (by omega)]; exact h.2.1 q hq
  · intro i hi
    rw [pm_up_ne (by omega)]; exact h.2.2.1 i hi
  · intro p hp
    rw [pm_up_ne (by omega)]; exact h.2.2.2.1 p hp
  · intro p hp
    rw [pm_up_ne (by omega)]; exact h.2.2.2.2.1 p hp
  · intro k hk
    rw [pm_up_ne (by omega)]; exact h.2.2.2.2.2 k hk
section IVS
variable {K : Nat → Nat} {Vl : Nat → Int32} {Pl : Nat → Nat}
theorem sg_b {v : Int32} (h0 : 0 ≤ v.toInt) (h9 : v.toInt ≤ 9) (p : Prop) [Decidable p] : -9 ≤ ((if p then (1 : Int32) else -1) * v).toInt ∧ ((if p then (1 : Int32) else -1) * v).toInt ≤ 9 := by
  have a : ∀ k, k < 10 → (-9 ≤ ((1 : Int32) * nI k).toInt ∧ ((1 : Int32) * nI k).toInt ≤ 9) ∧ (-9 ≤ ((-1 : Int32) * nI k).toInt ∧ ((-1 : Int32) * nI k).toInt ≤ 9) := by decide
  have := a v.toInt.toNat (by omega)
  rw [← nI_ofI h0] at this
  by_cases c : p
  · rw [if_pos c]; exact this.1
  · rw [if_neg c]; exact this.2
theorem ng_b {v : Int32} (h0 : 0 ≤ v.toInt) (h9 : v.toInt ≤ 20) : -20 ≤ (-v).toInt ∧ (-v).toInt ≤ 20 := by
  have a : ∀ k, k < 21 → (-20 ≤ (-(nI k)).toInt ∧ (-(nI k)).toInt ≤ 20) := by decide
  have := a v.toInt.toNat (by omega)
  rw [← nI_ofI h0] at this
  exact this
theorem numR_ok {hi i : Nat} {f : Int32 → RR} {s : Nat × (Nat → Int32)} (h : numR K Vl Pl hi i f = .ok s) : K i = 23 ∧ (Vl i).toInt ≤ (hi : Int) ∧ f (Vl i) = .ok s := by
  unfold numR badR at h
  by_cases c1 : K i = 23
  · rw [if_pos c1] at h
    by_cases c2 : (Vl i).toInt ≤ (hi : Int)
    · rw [if_pos c2] at h; exact ⟨c1, c2, h⟩
    · rw [if_neg c2] at h; cases h
  · rw [if_neg c1] at h; cases h
theorem rpL_iv (hV : ∀ i, K i = 23 → 0 ≤ (Vl i).toInt ∧ (Vl i).toInt ≤ 999) {q : Nat} (hq : q < 4) : ∀ n j F s, rpL K Vl Pl q n j F = .ok s → IVB F → IVB s.2 ∧ (∀ k, k < 10 ∨ 63 ≤ k → s.2 k = F k) ∧ ∀ k, k ≠ q → k ≤ 4 → s.2 (10 + k) = F (10 + k)
  | 0, j, F, s, h, hI => by cases h; exact ⟨hI, fun _ _ => rfl, fun _ _ _ => rfl⟩
  | n + 1, j, F, s, h, hI => by
    rw [rpL] at h
    by_cases c1 : K j = 2 ∨ K j = 3
    · rw [if_pos c1] at h
      by_cases c2 : F (10 + q) = 12
      · rw [if_pos c2] at h; cases h
      · rw [if_neg c2] at h
        obtain ⟨k1, k2, h⟩ := numR_ok h
        have hv := hV _ k1
        obtain ⟨b, hb, eb⟩ := hI.2.1 q hq
        have hb2 : b ≠ 12 := fun e => c2 (by rw [eb, e]; rfl)
        have eN : (F (10 + q)).toInt.toNat = b := by rw [eb, ix_n (by omega)]; rfl
        rw [eN] at h
        have i1 : IVB (pm_up F (15 + (12 * q + b)) ((if K j = 2 then 1 else -1) * Vl (j + 1))) := hI.w (by omega) (sg_b hv.1 (by omega) _)
        rw [← Nat.add_assoc] at i1
        have i2 := i1.b hq (y := F (10 + q) + 1) ⟨b + 1, by omega, by rw [eb]; exact nI_1 b⟩
        obtain ⟨g1, g2, g3⟩ := rpL_iv hV hq n (j + 2) _ s h i2
        refine ⟨g1, fun k hk => ?_, fun k hk hk4 => ?_⟩
        · rw [g2 k hk, pm_up_ne (by omega), pm_up_ne (by omega)]
        · rw [g3 k hk hk4, pm_up_ne (by omega), pm_up_ne (by omega)]
    · rw [if_neg c1] at h
      cases h; exact ⟨hI, fun _ _ => rfl, fun _ _ _ => rfl⟩
theorem rfL_iv (hV : ∀ i, K i = 23 → 0 ≤ (Vl i).toInt ∧ (Vl i).toInt ≤ 999) {p : Nat} (hp : p < 5) : ∀ n j F s, rfL K Vl Pl p n j F = .ok s → IVB F → IVB s.2 ∧ ∀ k, k ≠ 77 + p → k ≠ 87 + p → s.2 k = F k
  | 0, j, F, s, h, hI => by cases h; exact ⟨hI, fun _ _ _ => rfl⟩
  | n + 1, j, F, s, h, hI => by
    rw [rfL] at h
    by_cases c5 : K j = 5
    · rw [if_pos c5] at h
      obtain ⟨k1, k2, h⟩ := numR_ok h
      have hv := hV _ k1
      obtain ⟨g1, g2⟩ := rfL_iv hV hp n (j + 2) _ s h (hI.s hp ⟨by omega, by omega⟩)
      exact ⟨g1, fun k a b => by rw [g2 k a b, pm_up_ne a]⟩
    · rw [if_neg c5] at h
      by_cases c6 : K j = 6
      · rw [if_pos c6] at h
        obtain ⟨k1, k2, h⟩ := numR_ok h
        have hv := hV _ k1
        obtain ⟨g1, g2⟩ := rfL_iv hV hp n (j + 2) _ s h (hI.s hp (ng_b hv.1 (by omega)))
        exact ⟨g1, fun k a b => by rw [g2 k a b, pm_up_ne a]⟩
      · rw [if_neg c6] at h
        by_cases c7 : K j = 7
        · rw [if_pos c7] at h
          obtain ⟨k1, k2, h⟩ := numR_ok h
          have hv := hV _ k1
          obtain ⟨g1, g2⟩ := rfL_iv hV hp n (j + 2) _ s h (hI.t hp ⟨hv.1, by omega⟩)
          exact ⟨g1, fun k a b => by rw [g2 k a b, pm_up_ne b]⟩
        · rw [if_neg c7] at h
          cases h; exact ⟨hI, fun _ _ _ => rfl⟩
variable {T : Nat}
theorem RR.w_ok {r : RR} {c : List Int32} {s : Nat × (Nat → Int32) × List Int32} (h : r.w c = .ok s) : r = .ok (s.1, s.2.1) ∧ s.2.2 = c := by
  cases r with
  | error e => cases h
  | ok q => cases h; exact ⟨rfl, rfl⟩
theorem RR.an_ok {r : RR} {f : Nat → (Nat → Int32) → RR} {s : Nat × (Nat → Int32)} (h : r.andThen f = .ok s) : ∃ q, r = .ok q ∧ f q.1 q.2 = .ok s := by
  cases r with
  | error e => cases h
  | ok q => exact ⟨q, rfl, h⟩
theorem lnP_iv (hV : ∀ i, K i = 23 → 0 ≤ (Vl i).toInt ∧ (Vl i).toInt ≤ 999) {i : Nat} {F : Nat → Int32} {c : List Int32} (hI : IVF F c) {s : Nat × (Nat → Int32) × List Int32} (h : lnP K Vl Pl T i F c = .ok s) : IVF s.2.1 s.2.2 := by
  obtain ⟨⟨q, q4, eq, zq⟩, hP, hB, hL0, hL1⟩ := hI
  unfold lnP at h
  by_cases c1 : F 1 = 4
  · rw [if_pos c1] at h; cases h
  · rw [if_neg c1] at h
    have q3 : q < 4 := by
      have : q ≠ 4 := fun e => c1 (by rw [eq, e]; rfl)
      omega
    obtain ⟨h, ec⟩ := RR.w_ok h
    obtain ⟨w, h, h2⟩ := RR.an_ok h
    have h2 : Except.ok (w.1, pm_up w.2 1 (w.2 1 + 1)) = (Except.ok (s.1, s.2.1) : RR) := h2
    have e2 : s.2.1 = pm_up w.2 1 (w.2 1 + 1)   := (Prod.mk.inj (Except.ok.inj h2)).2.symm
    rw [show (F 1).toInt.toNat = q from by rw [eq, ix_n (by omega)]; rfl] at h
    obtain ⟨g1, g2, g3⟩ := rpL_iv hV q3 _ _ _ _ h hB
    rw [ec, e2]
    refine ⟨⟨q + 1, by omega, by rw [pm_up_eq, g2 1 (by omega), eq]; exact nI_1 q, fun k k1 k2 => by rw [pm_up_ne (by omega), g3 k (by omega) k2]; exact zq k (by omega) k2⟩, ?_, g1.o (by omega) (by omega), hL0.f0 ?_ ?_ ?_, hL1.f0 ?_ ?_ ?_⟩
    · obtain ⟨p, p5, ep, zp⟩ := hP
      exact ⟨p, p5, by rw [pm_up_ne (by omega), g2 _ (by omega)]; exact ep, fun k k1 k2 => by rw [pm_up_ne (by omega), g2 _ (by omega)]; exact zp k k1 k2⟩
    all_goals rw [pm_up_ne (by omega), g2 _ (by omega)]
theorem lnY_iv (hV : ∀ i, K i = 23 → 0 ≤ (Vl i).toInt ∧ (Vl i).toInt ≤ 999) {i : Nat} {F : Nat → Int32} {c : List Int32} (hI : IVF F c) {s : Nat × (Nat → Int32) × List Int32} (h : lnY K Vl Pl T i F c = .ok s) : IVF s.2.1 s.2.2 := by
  obtain ⟨⟨q, q4, eq, zq⟩, ⟨p, p5, ep, zp⟩, hB, hL0, hL1⟩ := hI
  unfold lnY at h
  by_cases c1 : F 2 = 5
  · rw [if_pos c1] at h; cases h
  · rw [if_neg c1] at h
    have p4 : p < 5 := by
      have : p ≠ 5 := fun e => c1 (by rw [ep, e]; rfl)
      omega
    obtain ⟨h, ec⟩ := RR.w_ok h
    obtain ⟨w, h, h2⟩ := RR.an_ok h
    have h2 : Except.ok (w.1, pm_up w.2 2 (w.2 2 + 1)) = (Except.ok (s.1, s.2.1) : RR) := h2
    have e2 : s.2.1 = pm_up w.2 2 (w.2 2 + 1)   := (Prod.mk.inj (Except.ok.inj h2)).2.symm
    rw [show (F 2).toInt.toNat = p from by rw [ep, ix_n (by omega)]; rfl] at h
    obtain ⟨g1, g2⟩ := rfL_iv hV p4 _ _ _ _ h hB
    rw [ec, e2]
    refine ⟨⟨q, q4, by rw [pm_up_ne (by omega), g2 _ (by omega) (by omega)]; exact eq, fun k k1 k2 => by rw [pm_up_ne (by omega), g2 _ (by omega) (by omega)]; exact zq k k1 k2⟩, ⟨p + 1, by omega, by rw [pm_up_eq, g2 2 (by omega) (by omega), ep]; exact nI_1 p, fun k k1 k2 => by rw [pm_up_ne (by omega), g2 _ (by omega) (by omega)]; exact zp k (by omega) k2⟩, g1.o (by omega) (by omega), hL0.f0 ?_ ?_ ?_, hL1.f0 ?_ ?_ ?_⟩
    all_goals rw [pm_up_ne (by omega), g2 _ (by omega) (by omega)]
theorem lnS_iv (hV : ∀ i, K i = 23 → 0 ≤ (Vl i).toInt ∧ (Vl i).toInt ≤ 999) {i : Nat} {F : Nat → Int32} {c : List Int32} (hI : IVF F c) {s : Nat × (Nat → Int32) × List Int32} (h : lnS K Vl Pl i F c = .ok s) : IVF s.2.1 s.2.2 := by
  obtain ⟨⟨q, q4, eq, zq⟩, ⟨p, p5, ep, zp⟩, hB, hL0, hL1⟩ := hI
  unfold lnS at h
  obtain ⟨h, ec⟩ := RR.w_ok h
  obtain ⟨k1, k2, h⟩ := numR_ok h
  have e2 : s.2.1 = pm_up F 3 (Vl (i + 1)) := (Prod.mk.inj (Except.ok.inj h)).2.symm
  have hv := hV _ k1
  rw [ec, e2]
  refine ⟨⟨q, q4, by rw [pm_up_ne (by omega)]; exact eq, fun k k1 k2 => by rw [pm_up_ne (by omega)]; exact zq k k1 k2⟩, ⟨p, p5, by rw [pm_up_ne (by omega)]; exact ep, fun k k1 k2 => by rw [pm_up_ne (by omega)]; exact zp k k1 k2⟩, hB.l ⟨hv.1, by omega⟩, hL0.f0 ?_ ?_ ?_, hL1.f0 ?_ ?_ ?_⟩
  all_goals rw [pm_up_ne (by omega)]
theorem lawR_iv {F : Nat → Int32} {c d : List Int32} {j law : Nat} (hl : law < 2) (hI : IVF F c) (h0 : law = 0 → GS 64 d) (h1 : law = 1 → TS 64 d) : IVF (pm_up (pm_up (pm_up F (4 + law) 1) (6 + law) (nI c.length)) (8 + law) (nI (c ++ d).length - nI c.length)) (c ++ d) := by
  obtain ⟨⟨q, q4, eq, zq⟩, ⟨p, p5, ep, zp⟩, hB, hL0, hL1⟩ := hI
  have eN : nI (c ++ d).length - nI c.length = nI d.length := by
    rw [nI_subk (by rw [List.length_append]; omega), List.length_append]
    congr 1; omega
  rw [eN]
  refine ⟨⟨q, q4, by rw [pm_up_ne (by omega), pm_up_ne (by omega), pm_up_ne (by omega)]; exact eq, fun k k1 k2 => by rw [pm_up_ne (by omega), pm_up_ne (by omega), pm_up_ne (by omega)]; exact zq k k1 k2⟩, ⟨p, p5, by rw [pm_up_ne (by omega), pm_up_ne (by omega), pm_up_ne (by omega)]; exact ep, fun k k1 k2 => by rw [pm_up_ne (by omega), pm_up_ne (by omega), pm_up_ne (by omega)]; exact zp k k1 k2⟩, ((hB.o (by omega) (by omega)).o (by omega) (by omega)).o (by omega) (by omega), ?_, ?_⟩
  · rcases (show law = 0 ∨ law = 1 by omega) with e | e
    · rw [e]
      exact Or.inr ⟨by rw [pm_up_ne (by omega), pm_up_ne (by omega), pm_up_eq], c, d, [], by rw [List.append_nil], by rw [pm_up_ne (by omega), pm_up_eq], by rw [pm_up_eq], h0 e⟩
    · rw [e]
      exact hL0.fr (by rw [pm_up_ne (by omega), pm_up_ne (by omega), pm_up_ne (by omega)]) (by rw [pm_up_ne (by omega), pm_up_ne (by omega), pm_up_ne (by omega)]) (by rw [pm_up_ne (by omega), pm_up_ne (by omega), pm_up_ne (by omega)]) d
  · rcases (show law = 0 ∨ law = 1 by omega) with e | e
    · rw [e]
      exact hL1.fr (by rw [pm_up_ne (by omega), pm_up_ne (by omega), pm_up_ne (by omega)]) (by rw [pm_up_ne (by omega), pm_up_ne (by omega), pm_up_ne (by omega)]) (by rw [pm_up_ne (by omega), pm_up_ne (by omega), pm_up_ne (by omega)]) d
    · rw [e]
      exact Or.inr ⟨by rw [pm_up_ne (by omega), pm_up_ne (by omega), pm_up_eq], c, d, [], by rw [List.append_nil], by rw [pm_up_ne (by omega), pm_up_eq], by rw [pm_up_eq], h1 e⟩
theorem lnL_iv (hT : K T = 24) (hV : ∀ i, K i = 23 → 0 ≤ (Vl i).toInt ∧ (Vl i).toInt ≤ 999) {law nt i : Nat} (hl : (law = 0 ∧ nt = 2) ∨ (law = 1 ∧ nt = 5)) {F : Nat → Int32} {c : List Int32} (hB : RB T T i c) (hk : K i ≠ 24) (hI : IVF F c) {s : Nat × (Nat → Int32) × List Int32} (h : lnL K Vl Pl T law nt i F c = .ok s) : IVF s.2.1 s.2.2 ∧ ∃ d, s.2.2 = c ++ d ∧ ps K Vl Pl (10 * T + 20) nt (i + 2) 0 c = .ok (s.1, c ++ d) ∧ (law = 0 → GS 64 d) ∧ (law = 1 → TS 64 d) := by
  unfold lnL at h
  by_cases c1 : K (i + 1) = 31
  · rw [if_pos c1] at h
    have b1 := hB.nx hT (k := K i) rfl hk
    have b2 := b1.nx hT c1 (by omega)
    have gs := ps_gs (Vl := Vl) (Pl := Pl) hT hV (10 * T + 20)
    cases hr : ps K Vl Pl (10 * T + 20) nt (i + 2) 0 c with
    | error e => rw [hr] at h; cases h
    | ok w =>
      rw [hr] at h
      have hd : ∃ d, w.2 = c ++ d ∧ (law = 0 → GS 64 d) ∧ (law = 1 → TS 64 d) := by
        rcases hl with ⟨rfl, rfl⟩ | ⟨rfl, rfl⟩
        · have r2 : rkT 2 = 4 := rfl
          obtain ⟨d, e1, e2⟩ := gs.2.2.2.1 (i + 2) 0 c T w (by omega) (by omega) b2 hr
          exact ⟨d, e1, fun _ => e2.le (by omega), fun q => by omega⟩
        · have r5 : rkT 5 = 9 := rfl
          obtain ⟨d, e1, e2⟩ := gs.2.2.2.2.2.2.2.2.1 (i + 2) 0 c T w (by omega) (by omega) b2 hr
          exact ⟨d, e1, fun q => by omega, fun _ => e2.le (by omega)⟩
      obtain ⟨d, e1, e2, e3⟩ := hd
      have hs : s = (w.1, pm_up (pm_up (pm_up F (4 + law) 1) (6 + law) (nI c.length)) (8 + law) (nI w.2.length - nI c.length), w.2) := by cases h; rfl
      rw [hs]
      refine ⟨?_, d, e1, ?_, e2, e3⟩
      · show IVF (pm_up (pm_up (pm_up F (4 + law) 1) (6 + law) (nI c.length)) (8 + law) (nI w.2.length - nI c.length)) w.2
        rw [e1]
        exact lawR_iv (j := i) (by omega) hI e2 e3
      · rw [← e1]
  · rw [if_neg c1] at h; cases h
theorem lnF_iv (hT : K T = 24) (hV : ∀ i, K i = 23 → 0 ≤ (Vl i).toInt ∧ (Vl i).toInt ≤ 999) {i : Nat} {F : Nat → Int32} {c : List Int32} (hB : RB T T i c) (hk : K i ≠ 24) (hI : IVF F c) {s : Nat × (Nat → Int32) × List Int32} (h : lnF K Vl Pl T i F c = .ok s) : IVF s.2.1 s.2.2 := by
  unfold lnF at h
  by_cases c1 : K i = 1
  · rw [if_pos c1] at h; exact lnP_iv hV hI h
  · rw [if_neg c1] at h
    by_cases c2 : K i = 4
    · rw [if_pos c2] at h; exact lnY_iv hV hI h
    · rw [if_neg c2] at h
      by_cases c3 : K i = 8
      · rw [if_pos c3] at h; exact (lnL_iv hT hV (Or.inl ⟨rfl, rfl⟩) hB hk hI h).1
      · rw [if_neg c3] at h
        by_cases c4 : K i = 9
        · rw [if_pos c4] at h; exact (lnL_iv hT hV (Or.inr ⟨rfl, rfl⟩) hB hk hI h).1
        · rw [if_neg c4] at h
          by_cases c5 : K i = 10
          · rw [if_pos c5] at h; exact lnS_iv hV hI h
          · rw [if_neg c5] at h; cases h
theorem IVF.li {F : Nat → Int32} {c : List Int32} (hI : IVF F c) (y : Int32) : IVF (pm_up F 0 y) c := by
  obtain ⟨⟨q, q4, eq, zq⟩, ⟨p, p5, ep, zp⟩, hB, hL0, hL1⟩ := hI
  refine ⟨⟨q, q4, by rw [pm_up_ne (by omega)]; exact eq, fun k k1 k2 => by rw [pm_up_ne (by omega)]; exact zq k k1 k2⟩, ⟨p, p5, by rw [pm_up_ne (by omega)]; exact ep, fun k k1 k2 => by rw [pm_up_ne (by omega)]; exact zp k k1 k2⟩, hB.o (by omega) (by omega), hL0.f0 ?_ ?_ ?_, hL1.f0 ?_ ?_ ?_⟩
  all_goals rw [pm_up_ne (by omega)]
theorem IVF.zero : IVF (fun _ => 0) [] := ⟨⟨0, by omega, rfl, fun _ _ _ => rfl⟩, ⟨0, by omega, rfl, fun _ _ _ => rfl⟩, ⟨⟨by decide, by decide⟩, fun q _ => ⟨0, by omega, rfl⟩, fun i _ => ⟨(by decide : (-9 : Int) ≤ (0 : Int32).toInt), (by decide : (0 : Int32).toInt ≤ 9)⟩, fun p _ => ⟨(by decide : (-20 : Int) ≤ (0 : Int32).toInt), (by decide : (0 : Int32).toInt ≤ 20)⟩, fun p _ => ⟨(by decide : (0 : Int) ≤ (0 : Int32).toInt), (by decide : (0 : Int32).toInt ≤ 9)⟩, fun _ _ => rfl⟩, Or.inl rfl, Or.inl rfl⟩
end IVS
