section RBS
variable {K : Nat → Nat} {Vl : Nat → Int32} {Pl : Nat → Nat} {T : Nat}
theorem rpL_T (hT : K T = 24) {q : Nat} : ∀ n j F s, rpL K Vl Pl q n j F = .ok s → j ≤ T → s.1 ≤ T
  | 0, j, F, s, h, hj => by cases h; exact hj
  | n + 1, j, F, s, h, hj => by
    rw [rpL] at h
    by_cases c1 : K j = 2 ∨ K j = 3
    · rw [if_pos c1] at h
      by_cases c2 : F (10 + q) = 12
      · rw [if_pos c2] at h; cases h
      · rw [if_neg c2] at h
        obtain ⟨k1, _, h⟩ := numR_ok h
        have h1 := lt_T hT hj (k := K j) rfl (by omega)
        have h2 := lt_T hT (show j + 1 ≤ T by omega) k1 (by omega)
        exact rpL_T hT n (j + 2) _ s h (by omega)
    · rw [if_neg c1] at h
      cases h; exact hj
theorem rfL_T (hT : K T = 24) {p : Nat} : ∀ n j F s, rfL K Vl Pl p n j F = .ok s → j ≤ T → s.1 ≤ T
  | 0, j, F, s, h, hj => by cases h; exact hj
  | n + 1, j, F, s, h, hj => by
    rw [rfL] at h
    by_cases c5 : K j = 5
    · rw [if_pos c5] at h
      obtain ⟨k1, _, h⟩ := numR_ok h
      have h1 := lt_T hT hj c5 (by omega)
      have h2 := lt_T hT (show j + 1 ≤ T by omega) k1 (by omega)
      exact rfL_T hT n (j + 2) _ s h (by omega)
    · rw [if_neg c5] at h
      by_cases c6 : K j = 6
      · rw [if_pos c6] at h
        obtain ⟨k1, _, h⟩ := numR_ok h
        have h1 := lt_T hT hj c6 (by omega)
        have h2 := lt_T hT (show j + 1 ≤ T by omega) k1 (by omega)
        exact rfL_T hT n (j + 2) _ s h (by omega)
      · rw [if_neg c6] at h
        by_cases c7 : K j = 7
        · rw [if_pos c7] at h
          obtain ⟨k1, _, h⟩ := numR_ok h
          have h1 := lt_T hT hj c7 (by omega)
          have h2 := lt_T hT (show j + 1 ≤ T by omega) k1 (by omega)
          exact rfL_T hT n (j + 2) _ s h (by omega)
        · rw [if_neg c7] at h
          cases h; exact hj
theorem lnF_rb (hT : K T = 24) {i : Nat} {F : Nat → Int32} {c : List Int32} (hB : RB T T i c) (hk : K i ≠ 24) {s : Nat × (Nat → Int32) × List Int32} (h : lnF K Vl Pl T i F c = .ok s) : RB T T s.1 s.2.2 := by
  have hlt := lnF_lt hT hB hk h
  have hi := lt_T hT hB.1 (k := K i) rfl hk
  have b1 := hB.nx hT (k := K i) rfl hk
  have same : s.1 ≤ T → s.2.2 = c → RB T T s.1 s.2.2 := fun h1 h2 => ⟨h1, by rw [h2]; have := hB.2.1; omega, hB.2.2⟩
  have law : ∀ l nt, rkT nt ≤ 9 → lnL K Vl Pl T l nt i F c = .ok s → RB T T s.1 s.2.2 := by
    intro l nt hr h
    unfold lnL at h
    by_cases c1 : K (i + 1) = 31
    · rw [if_pos c1] at h
      have b2 := b1.nx hT c1 (by omega)
      have pk := ps_ok (Vl := Vl) (Pl := Pl) hT (10 * T + 20) nt (i + 2) 0 c T (by omega) b2
      cases hr : ps K Vl Pl (10 * T + 20) nt (i + 2) 0 c with
      | error e => rw [hr] at h; cases h
      | ok w =>
        rw [hr] at h pk
        have pk : RB T T w.1 w.2 ∧ i + 2 ≤ w.1 := pk
        have hs := Except.ok.inj h
        rw [← hs]
        exact pk.1
    · rw [if_neg c1] at h; cases h
  unfold lnF at h
  by_cases c1 : K i = 1
  · rw [if_pos c1] at h
    unfold lnP at h
    by_cases c : F 1 = 4
    · rw [if_pos c] at h; cases h
    · rw [if_neg c] at h
      obtain ⟨h, ec⟩ := RR.w_ok h
      obtain ⟨w, h, h2⟩ := RR.an_ok h
      have h3 := rpL_T hT _ _ _ _ h (by omega)
      have : w.1 = s.1 := (Prod.mk.inj (Except.ok.inj h2)).1
      exact same (by omega) ec
  · rw [if_neg c1] at h
    by_cases c2 : K i = 4
    · rw [if_pos c2] at h
      unfold lnY at h
      by_cases c : F 2 = 5
      · rw [if_pos c] at h; cases h
      · rw [if_neg c] at h
        obtain ⟨h, ec⟩ := RR.w_ok h
        obtain ⟨w, h, h2⟩ := RR.an_ok h
        have h3 := rfL_T hT _ _ _ _ h (by omega)
        have : w.1 = s.1 := (Prod.mk.inj (Except.ok.inj h2)).1
        exact same (by omega) ec
    · rw [if_neg c2] at h
      by_cases c3 : K i = 8
      · rw [if_pos c3] at h; exact law 0 2 (by decide) h
      · rw [if_neg c3] at h
        by_cases c4 : K i = 9
        · rw [if_pos c4] at h; exact law 1 5 (by decide) h
        · rw [if_neg c4] at h
          by_cases c5 : K i = 10
          · rw [if_pos c5] at h
            obtain ⟨h, ec⟩ := RR.w_ok h
            obtain ⟨k1, _, h⟩ := numR_ok h
            have h2 := lt_T hT (show i + 1 ≤ T by omega) k1 (by omega)
            have : i + 2 = s.1 := (Prod.mk.inj (Except.ok.inj h)).1
            exact same (by omega) ec
          · rw [if_neg c5] at h; cases h
theorem enF_rb (hT : K T = 24) {j : Nat} {F : Nat → Int32} {c : List Int32} (hB : RB T T j c) {s : Nat × (Nat → Int32) × List Int32} (h : enF K Pl j F c = .ok s) : RB T T s.1 s.2.2 := by
  unfold enF at h
  by_cases c1 : K j = 30
  · rw [if_pos c1] at h
    have hs := Except.ok.inj h
    rw [← hs]
    exact hB.nx hT c1 (by omega)
  · rw [if_neg c1] at h; cases h
theorem lpF_iv (hT : K T = 24) (hV : ∀ i, K i = 23 → 0 ≤ (Vl i).toInt ∧ (Vl i).toInt ≤ 999) : ∀ n i F c s, lpF K Vl Pl T n i F c = .ok s → RB T T i c → IVF F c → IVF s.2.1 s.2.2 ∧ RB T T s.1 s.2.2
  | 0, i, F, c, s, h, hB, hI => by have hs := Except.ok.inj h; rw [← hs]; exact ⟨hI, hB⟩
  | n + 1, i, F, c, s, h, hB, hI => by
    rw [lpF] at h
    by_cases c1 : K i = 24
    · rw [if_pos c1] at h
      have hs := Except.ok.inj h; rw [← hs]; exact ⟨hI, hB⟩
    · rw [if_neg c1] at h
      cases hr : lnF K Vl Pl T i F c with
      | error e => rw [hr] at h; cases h
      | ok w =>
        rw [hr, RLn.at_ok] at h
        have h : (enF K Pl w.1 w.2.1 w.2.2).nx (lpF K Vl Pl T n) = .ok s := h
        cases hr2 : enF K Pl w.1 w.2.1 w.2.2 with
        | error e => rw [hr2] at h; cases h
        | ok w2 =>
          rw [hr2, RLn.at_ok] at h
          have b2 := lnF_rb hT hB c1 hr
          have i2 := lnF_iv hT hV hB c1 hI hr
          have es := enF_ok hr2
          refine lpF_iv hT hV n _ _ _ s h (enF_rb hT b2 hr2) ?_
          rw [es]
          exact i2.li _
theorem rdF_iv (hT : K T = 24) (h9 : T ≤ 900) (hV : ∀ i, K i = 23 → 0 ≤ (Vl i).toInt ∧ (Vl i).toInt ≤ 999) {s : Nat × (Nat → Int32) × List Int32} (h : rdF K Vl Pl T = .ok s) : IVF s.2.1 s.2.2 ∧ RB T T s.1 s.2.2 := by
  unfold rdF at h
  by_cases c1 : K 0 = 0
  · rw [if_pos c1] at h
    cases hr2 : enF K Pl 1 (fun _ => 0) [] with
    | error e => rw [hr2] at h; cases h
    | ok w2 =>
      rw [hr2, RLn.at_ok] at h
      have es := enF_ok hr2
      have b0 : RB T T 0 [] := ⟨by omega, by show 0 + (T - 0) ≤ T; omega, h9⟩
      refine lpF_iv hT hV _ _ _ _ s h (enF_rb hT (b0.nx hT c1 (by omega)) hr2) ?_
      rw [es]
      exact IVF.zero.li _
  · rw [if_neg c1] at h; cases h
end RBS
def AlM (F : Nat → Int32) (c : List Int32) (al al' : Nat → Int32) : Prop := (∀ k, k < 263 → al' k = F k) ∧ (∀ k, k < c.length → al' (264 + k) = c.getD k 0) ∧ ∀ k, 1164 ≤ k → al' k = al k
