/-! ===== the class: its text cut ===== -/
def ipm : Nat → Nat
  | 0 => 8 | 1 => 2 | 2 => 13 | 3 => 14 | 4 => 9 | 5 => 15 | 6 => 16 | 7 => 1 | 8 => 10 | 9 => 11 | 10 => 12 | 11 => 0 | 12 => 3 | 13 => 4 | 14 => 5 | 15 => 6 | 16 => 7 | 17 => 18 | 18 => 17 | _ => 19
def pmC : Nat → Nat
  | 0 => 11 | 1 => 7 | 2 => 1 | 3 => 12 | 4 => 13 | 5 => 14 | 6 => 15 | 7 => 16 | 8 => 0 | 9 => 4 | 10 => 8 | 11 => 9 | 12 => 10 | 13 => 2 | 14 => 3 | 15 => 5 | 16 => 6 | 17 => 18 | 18 => 17 | _ => 19
def bC : Nat → Nat
  | 0 => 0 | 1 => 4 | 2 => 11 | 3 => 17 | 4 => 21 | 5 => 26 | 6 => 31 | 7 => 36 | 8 => 42 | 9 => 47 | 10 => 54 | 11 => 59 | 12 => 63 | 13 => 69 | 14 => 72 | 15 => 77 | 16 => 81 | 17 => 86 | 18 => 89 | 19 => 93 | _ => 97
def lC (k : Nat) : Nat := bC (k + 1) - bC k - 1
theorem bC_f : ∀ k, k < 20 → bC (k + 1) = bC k + lC k + 1 ∧ bC k + lC k < 97 ∧ sch 0 (bC k + lC k) = 32 ∧ (∀ i, i < 8 → i < lC k → sch 0 (bC k + i) ≠ 32) ∧ lC k < 8 ∧ 1 ≤ lC k := by decide +kernel
theorem pm_f : ∀ k, k < 20 → pmC k < 20 ∧ ipm (pmC k) = k ∧ pmC (ipm k) = k ∧ ipm k < 20 ∧ lC k = lR (pmC k) ∧ ∀ i, i < 8 → i < lC k → sch 0 (bC k + i) = sch 1 (bR (pmC k) + i) := by decide +kernel
theorem wd_u : ∀ r, r < 20 → ∀ r', r' < 20 → lR r = lR r' → (∀ i, i < 8 → i < lR r → sch 1 (bR r + i) = sch 1 (bR r' + i)) → r = r' := by decide +kernel
def ccK (k : Nat) : Int32 := if k < 20 then nI (200 + ipm k) else if k = 22 then 4 else if k = 23 then 3 else if k = 24 then 1 else if k = 25 then 2 else sch 2 (k - 30)
def tkO (k : Nat) : Prop := k < 20 ∨ (22 ≤ k ∧ k ≤ 25) ∨ (30 ≤ k ∧ k ≤ 41)
def tkOb (k : Nat) : Bool := decide (k < 20) || (decide (22 ≤ k) && decide (k ≤ 25)) || (decide (30 ≤ k) && decide (k ≤ 41))
theorem tkO_b {k : Nat} (h : tkO k) : tkOb k = true := by
  unfold tkOb
  rw [Bool.or_eq_true, Bool.or_eq_true, Bool.and_eq_true, Bool.and_eq_true, decide_eq_true_iff, decide_eq_true_iff, decide_eq_true_iff, decide_eq_true_iff, decide_eq_true_iff]
  unfold tkO at h
  omega
theorem cc_inj0 : ∀ k, k < 42 → ∀ k', k' < 42 → tkOb k = true → tkOb k' = true → ccK k = ccK k' → k = k' := by decide +kernel
theorem cc_i {k k' : Nat} {y : Int32} (h : tkO k) (h' : tkO k') (hy : y = ccK k') : ccK k = y ↔ k = k' := ⟨fun q => cc_inj0 k (by unfold tkO at h; omega) k' (by unfold tkO at h'; omega) (tkO_b h) (tkO_b h') (q.trans hy), fun q => by rw [q]; exact hy.symm⟩
section TXC
variable {x : Nat → Int32} {L : Nat}
def wmC (x : Nat → Int32) (s e k : Nat) : Bool := decide (e - s = lC k) && eqw x s 0 0 && (decide (∀ i, i < lC k → x (s + i) = sch 0 (bC k + i)))
theorem eqw_iff {s b : Nat} : ∀ m, eqw x s b m = true ↔ ∀ i, i < m → x (s + i) = sch 1 (b + i)
  | 0 => ⟨fun _ i hi => by omega, fun _ => rfl⟩
  | m + 1 => by
    show (eqw x s b m && decide (x (s + m) = sch 1 (b + m))) = true ↔ _
    rw [Bool.and_eq_true, eqw_iff m, decide_eq_true_iff]
    refine ⟨fun h i hi => ?_, fun h => ⟨fun i hi => h i (by omega), h m (by omega)⟩⟩
    by_cases e : i = m
    · rw [e]; exact h.2
    · exact h.1 i (by omega)
theorem wmB_iff {s e k : Nat} : wmB x s e k = true ↔ e - s = lR k ∧ ∀ i, i < lR k → x (s + i) = sch 1 (bR k + i) := by
  unfold wmB
  rw [Bool.and_eq_true, decide_eq_true_iff, eqw_iff]
theorem wmC_iff {s e k : Nat} : wmC x s e k = true ↔ e - s = lC k ∧ ∀ i, i < lC k → x (s + i) = sch 0 (bC k + i) := by
  unfold wmC
  rw [Bool.and_eq_true, Bool.and_eq_true, decide_eq_true_iff, decide_eq_true_iff]
  exact ⟨fun h => ⟨h.1.1, h.2⟩, fun h => ⟨⟨h.1, rfl⟩, h.2⟩⟩
theorem wmC_B {s e k : Nat} (hk : k < 20) : wmC x s e k = true ↔ wmB x s e (pmC k) = true := by
  have h := pm_f k hk
  have h2 := bC_f k hk
  rw [wmC_iff, wmB_iff, h.2.2.2.2.1]
  refine ⟨fun g => ⟨g.1, fun i hi => ?_⟩, fun g => ⟨g.1, fun i hi => ?_⟩⟩
  · rw [g.2 i hi]; exact h.2.2.2.2.2 i (by omega) (by omega)
  · rw [g.2 i hi]; exact (h.2.2.2.2.2 i (by omega) (by omega)).symm
theorem wmB_u {s e r r' : Nat} (hr : r < 20) (hr' : r' < 20) (h : wmB x s e r = true) (h' : wmB x s e r' = true) : r = r' := by
  have a := wmB_iff.mp h
  have b := wmB_iff.mp h'
  exact wd_u r hr r' hr' (by omega) (fun i _ hi => (a.2 i hi).symm.trans (b.2 i (by omega)))
def wCC (x : Nat → Int32) (s e : Nat) : Int32 := if fpn (wmC x s e) 20 0 < 20 then nI (200 + fpn (wmC x s e) 20 0) else 4
theorem fpn_sp {c : Nat → Bool} : ∀ m p, (fpn c m p < p + m → c (fpn c m p) = true) ∧ (∀ i, p ≤ i → i < fpn c m p → c i = false) ∧ p ≤ fpn c m p
  | 0, p => ⟨fun h => absurd h (by show ¬ p < p + 0; omega), fun i h1 h2 => absurd h2 (by show ¬ i < p; omega), Nat.le_refl _⟩
  | m + 1, p => by
    rw [fpn]
    by_cases h : c p = true
    · rw [if_pos h]
      exact ⟨fun _ => h, fun i h1 h2 => by omega, Nat.le_refl _⟩
    · rw [if_neg h]
      have ih := fpn_sp (c := c) m (p + 1)
      refine ⟨fun q => ih.1 (by omega), fun i h1 h2 => ?_, by omega⟩
      by_cases e : i = p
      · rw [e]; exact Bool.eq_false_iff.mpr h
      · exact ih.2.1 i (by omega) h2
theorem wCC_R {s e : Nat} : wCC x s e = ccK (wR x s e) := by
  unfold wCC wR
  have a := fpn_sp (c := wmC x s e) 20 0
  have b := fpn_sp (c := wmB x s e) 20 0
  by_cases c1 : fpn (wmB x s e) 20 0 < 20
  · have b1 := b.1 (by omega)
    generalize fpn (wmB x s e) 20 0 = r at *
    have p := pm_f r c1
    have m1 : wmC x s e (ipm r) = true := (wmC_B p.2.2.2.1).mpr (by rw [p.2.2.1]; exact b1)
    have c2 : fpn (wmC x s e) 20 0 < 20 := by
      apply Decidable.byContradiction
      intro q
      have := a.2.1 (ipm r) (by omega) (by have := p.2.2.2.1; omega)
      rw [m1] at this
      cases this
    have a1 := a.1 (by omega)
    generalize fpn (wmC x s e) 20 0 = k at *
    have u := wmB_u (pm_f k c2).1 c1 ((wmC_B c2).mp a1) b1
    rw [if_pos c2, if_pos c1]
    unfold ccK
    rw [if_pos c1, ← u, (pm_f k c2).2.1]
  · have c2 : ¬ fpn (wmC x s e) 20 0 < 20 := by
      intro q
      have a1 := a.1 (by omega)
      generalize fpn (wmC x s e) 20 0 = k at *
      have h := (wmC_B q).mp a1
      have := b.2.1 (pmC k) (by omega) (by have := (pm_f k q).1; omega)
      rw [h] at this
      cases this
    rw [if_neg c1, if_neg c2]
    rfl
theorem sgF_sp (c : Int32) : ∀ n, (∃ i, i < n ∧ c = sch 2 i ∧ sgF c n = 30 + i) ∨ ((∀ i, i < n → ¬ c = sch 2 i) ∧ sgF c n = 25)
  | 0 => Or.inr ⟨fun i hi => by omega, rfl⟩
  | n + 1 => by
    rw [sgF]
    by_cases h : c = sch 2 n
    · rw [if_pos h]; exact Or.inl ⟨n, by omega, h, rfl⟩
    · rw [if_neg h]
      rcases sgF_sp c n with ⟨i, h1, h2, h3⟩ | ⟨h1, h2⟩
      · exact Or.inl ⟨i, by omega, h2, h3⟩
      · refine Or.inr ⟨fun i hi => ?_, h2⟩
        by_cases e : i = n
        · rw [e]; exact h
        · exact h1 i (by omega)
theorem cc_sg (c : Int32) : ccK (sgF c 12) = if sgF c 12 = 25 then 2 else c := by
  rcases sgF_sp c 12 with ⟨i, h1, h2, h3⟩ | ⟨h1, h2⟩
  · rw [if_neg (by omega), h3]
    unfold ccK
    rw [if_neg (by omega), if_neg (by omega), if_neg (by omega), if_neg (by omega), if_neg (by omega), Nat.add_sub_cancel_left]
    exact h2.symm
  · rw [if_pos h2, h2]; rfl
theorem tkK_o (p : Nat) : tkO (tkK x L p) := by
  unfold tkK tkO
  by_cases c : tkS x L p < L
  · rw [if_pos c]
    by_cases c1 : isSmI (x (tkS x L p)) = true
    · rw [if_pos c1]
      have := wR_n (x := x) (tkS x L p) (tkE x L p)
      omega
    · rw [if_neg c1]
      by_cases c2 : isDgI (x (tkS x L p)) = true
      · rw [if_pos c2]
        split <;> omega
      · rw [if_neg c2]
        have := sgF_n (x (tkS x L p)) 12
        omega
  · rw [if_neg c]; omega
end TXC
