section LTS
variable {K : Nat → Nat} {Vl : Nat → Int32} {Pl : Nat → Nat} {T : Nat}
theorem rpL_le {q : Nat} : ∀ n j F s, rpL K Vl Pl q n j F = .ok s → j ≤ s.1
  | 0, j, F, s, h => by cases h; exact Nat.le_refl _
  | n + 1, j, F, s, h => by
    rw [rpL] at h
    by_cases c1 : K j = 2 ∨ K j = 3
    · rw [if_pos c1] at h
      by_cases c2 : F (10 + q) = 12
      · rw [if_pos c2] at h; cases h
      · rw [if_neg c2] at h
        obtain ⟨_, _, h⟩ := numR_ok h
        have := rpL_le n (j + 2) _ s h
        omega
    · rw [if_neg c1] at h
      cases h; exact Nat.le_refl _
theorem rfL_le {p : Nat} : ∀ n j F s, rfL K Vl Pl p n j F = .ok s → j ≤ s.1
  | 0, j, F, s, h => by cases h; exact Nat.le_refl _
  | n + 1, j, F, s, h => by
    rw [rfL] at h
    by_cases c5 : K j = 5
    · rw [if_pos c5] at h
      obtain ⟨_, _, h⟩ := numR_ok h
      have := rfL_le n (j + 2) _ s h
      omega
    · rw [if_neg c5] at h
      by_cases c6 : K j = 6
      · rw [if_pos c6] at h
        obtain ⟨_, _, h⟩ := numR_ok h
        have := rfL_le n (j + 2) _ s h
        omega
      · rw [if_neg c6] at h
        by_cases c7 : K j = 7
        · rw [if_pos c7] at h
          obtain ⟨_, _, h⟩ := numR_ok h
          have := rfL_le n (j + 2) _ s h
          omega
        · rw [if_neg c7] at h
          cases h; exact Nat.le_refl _
theorem lnF_lt (hT : K T = 24) {i : Nat} {F : Nat → Int32} {c : List Int32} (hB : RB T T i c) (hk : K i ≠ 24) {s : Nat × (Nat → Int32) × List Int32} (h : lnF K Vl Pl T i F c = .ok s) : i < s.1 := by
  have law : ∀ l nt, rkT nt ≤ 9 → lnL K Vl Pl T l nt i F c = .ok s → i < s.1 := by
    intro l nt hr h
    unfold lnL at h
    by_cases c1 : K (i + 1) = 31
    · rw [if_pos c1] at h
      have b1 := hB.nx hT (k := K i) rfl hk
      have b2 := b1.nx hT c1 (by omega)
      have pk := ps_ok (Vl := Vl) (Pl := Pl) hT (10 * T + 20) nt (i + 2) 0 c T (by omega) b2
      cases hr : ps K Vl Pl (10 * T + 20) nt (i + 2) 0 c with
      | error e => rw [hr] at h; cases h
      | ok w =>
        rw [hr] at h pk
        have pk : RB T T w.1 w.2 ∧ i + 2 ≤ w.1 := pk
        have : w.1 = s.1 := (Prod.mk.inj (Except.ok.inj h)).1
        omega
    · rw [if_neg c1] at h; cases h
  unfold lnF at h
  by_cases c1 : K i = 1
  · rw [if_pos c1] at h
    unfold lnP at h
    by_cases c : F 1 = 4
    · rw [if_pos c] at h; cases h
    · rw [if_neg c] at h
      obtain ⟨h, _⟩ := RR.w_ok h
      obtain ⟨w, h, h2⟩ := RR.an_ok h
      have h3 := rpL_le _ _ _ _ h
      have : w.1 = s.1 := (Prod.mk.inj (Except.ok.inj h2)).1
      omega
  · rw [if_neg c1] at h
    by_cases c2 : K i = 4
    · rw [if_pos c2] at h
      unfold lnY at h
      by_cases c : F 2 = 5
      · rw [if_pos c] at h; cases h
      · rw [if_neg c] at h
        obtain ⟨h, _⟩ := RR.w_ok h
        obtain ⟨w, h, h2⟩ := RR.an_ok h
        have h3 := rfL_le _ _ _ _ h
        have : w.1 = s.1 := (Prod.mk.inj (Except.ok.inj h2)).1
        omega
    · rw [if_neg c2] at h
      by_cases c3 : K i = 8
      · rw [if_pos c3] at h; exact law 0 2 (by decide) h
      · rw [if_neg c3] at h
        by_cases c4 : K i = 9
        · rw [if_pos c4] at h; exact law 1 5 (by decide) h
        · rw [if_neg c4] at h
          by_cases c5 : K i = 10
          · rw [if_pos c5] at h
            obtain ⟨h, _⟩ := RR.w_ok h
            obtain ⟨_, _, h⟩ := numR_ok h
            have : i + 2 = s.1 := (Prod.mk.inj (Except.ok.inj h)).1
            omega
          · rw [if_neg c5] at h; cases h
theorem RLn.at_ok (s : Nat × (Nat → Int32) × List Int32) (f : Nat → (Nat → Int32) → List Int32 → RLn) : RLn.nx (.ok s) f = f s.1 s.2.1 s.2.2 := rfl
theorem enF_ok {j : Nat} {F : Nat → Int32} {c : List Int32} {s : Nat × (Nat → Int32) × List Int32} (h : enF K Pl j F c = .ok s) : s = (j + 1, pm_up F 0 (F 0 + 1), c) := by
  unfold enF at h
  by_cases c1 : K j = 30
  · rw [if_pos c1] at h; exact (Except.ok.inj h).symm
  · rw [if_neg c1] at h; cases h
end LTS
