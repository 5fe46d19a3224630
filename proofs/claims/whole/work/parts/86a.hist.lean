/-! ===== the class: History ===== -/
def hsl (fo n j : Nat) : Nat := 26 + 4 * ((fo + 10 - n + j) % 10)
def HI (V A : sV) (Q : sP) (al : Nat → Int32) : Prop := (∀ i, i < 10 → Q 25 i = some (26 + 4 * i)) ∧ V 24 0 = al 92 ∧ ∃ fo : Nat, fo < 10 ∧ V 24 2 = nI fo ∧ ∀ j : Nat, (j : Int) < (al 92).toInt → StE V A (hsl fo (al 92).toInt.toNat j) (fun k => al (93 + 17 * j + k))
def FrH (V A V' A' : sV) : Prop := (∀ x, x < 24 ∨ 65 < x → V' x = V x) ∧ ∀ x, x < 24 ∨ 65 < x → A' x = A x
theorem HI.cong {V A : sV} {Q : sP} {al al' : Nat → Int32} (h : HI V A Q al) (h92 : (al 92).toInt ≤ 10) (e : ∀ i, 92 ≤ i → i < 263 → al' i = al i) : HI V A Q al' := by
  obtain ⟨h1, h2, fo, h3, h4, h5⟩ := h
  have e92 := e 92 (by omega) (by omega)
  refine ⟨h1, by rw [e92]; exact h2, fo, h3, h4, fun j hj => ?_⟩
  rw [e92] at hj ⊢
  exact (h5 j hj).cg (fun k hk => e _ (by omega) (by omega))
theorem HI.fr {V A V' A' : sV} {Q Q' : sP} {al : Nat → Int32} (h : HI V A Q al) (hV : ∀ x, 24 ≤ x → x ≤ 65 → V' x = V x) (hA : ∀ x, 24 ≤ x → x ≤ 65 → A' x = A x) (hQ : Q' 25 = Q 25) : HI V' A' Q' al := by
  obtain ⟨h1, h2, fo, h3, h4, h5⟩ := h
  refine ⟨by rw [hQ]; exact h1, by rw [hV 24 (by omega) (by omega)]; exact h2, fo, h3, by rw [hV 24 (by omega) (by omega)]; exact h4, fun j hj => ?_⟩
  have b : hsl fo (al 92).toInt.toNat j ≤ 62 ∧ 26 ≤ hsl fo (al 92).toInt.toNat j := by unfold hsl; omega
  exact (h5 j hj).fr (hV _ (by omega) (by omega)) (fun x h1 h2 => hA x (by omega) (by omega))
theorem cf_ring {S : sS} {P : sP} (h : CF S P) {i : Nat} (hi : i < 10) : ST S P (26 + 4 * i) := by
  rcases (show i = 0 ∨ i = 1 ∨ i = 2 ∨ i = 3 ∨ i = 4 ∨ i = 5 ∨ i = 6 ∨ i = 7 ∨ i = 8 ∨ i = 9 by omega) with rfl | rfl | rfl | rfl | rfl | rfl | rfl | rfl | rfl | rfl
  · exact cf_st26 h
  · exact cf_st30 h
  · exact cf_st34 h
  · exact cf_st38 h
  · exact cf_st42 h
  · exact cf_st46 h
  · exact cf_st50 h
  · exact cf_st54 h
  · exact cf_st58 h
  · exact cf_st62 h
/-- what a ring holds when one more is kept -/
theorem HI.keep {V A V' A' : sV} {Q : sP} {al w : Nat → Int32} (h92 : 0 ≤ (al 92).toInt ∧ (al 92).toInt ≤ 10) (hQ : ∀ i, i < 10 → Q 25 i = some (26 + 4 * i)) {fo : Nat} (hf : fo < 10) (h5 : ∀ j : Nat, (j : Int) < (al 92).toInt → StE V A (hsl fo (al 92).toInt.toNat j) (fun k => al (93 + 17 * j + k))) (hV : ∀ x, x ≠ 24 → x ≠ 26 + 4 * fo → V' x = V x) (hA : ∀ x, x < 26 + 4 * fo + 1 ∨ 26 + 4 * fo + 3 < x → A' x = A x) (hw : StE V' A' (26 + 4 * fo) w) (v0 : V' 24 0 = nI (min ((al 92).toInt.toNat + 1) 10)) (v2 : V' 24 2 = nI ((fo + 1) % 10)) : HI V' A' Q (sp_notes al w) := by
  have old : ∀ j : Nat, (j : Int) < (al 92).toInt → hsl fo (al 92).toInt.toNat j ≠ 26 + 4 * fo → StE V' A' (hsl fo (al 92).toInt.toNat j) (fun k => al (93 + 17 * j + k)) := by
    intro j hj hne
    have b : 26 ≤ hsl fo (al 92).toInt.toNat j ∧ (hsl fo (al 92).toInt.toNat j - 26) % 4 = 0 := by unfold hsl; omega
    exact (h5 j hj).fr (hV _ (by omega) hne) (fun x h1 h2 => hA x (by omega))
  by_cases e : al 92 = 10
  · have e10 : (al 92).toInt = 10 := by rw [e]; rfl
    have en : (al 92).toInt.toNat = 10 := by omega
    have s92 : sp_notes al w 92 = nI 10 := by unfold sp_notes; rw [if_pos e]; unfold nt1; rw [if_pos rfl]
    have t92 : (sp_notes al w 92).toInt = 10 := by rw [s92]; rfl
    refine ⟨hQ, by rw [v0, s92, en]; rfl, (fo + 1) % 10, by omega, v2, fun j hj => ?_⟩
    rw [t92] at hj ⊢
    by_cases ej : j = 9
    · subst ej
      rw [show hsl ((fo + 1) % 10) (10 : Int).toNat 9 = 26 + 4 * fo by unfold hsl; show 26 + 4 * (((fo + 1) % 10 + 10 - 10 + 9) % 10) = _; omega]
      refine hw.cg (fun k hk => ?_)
      show sp_notes al w (93 + 17 * 9 + k) = w k
      unfold sp_notes
      rw [if_pos e]
      unfold nt1
      rw [if_neg (by omega), if_pos (by omega)]
      exact congrArg w (by omega)
    · have hs : hsl fo (al 92).toInt.toNat (j + 1) = hsl ((fo + 1) % 10) (10 : Int).toNat j := by
        rw [en]
        unfold hsl
        show 26 + 4 * ((fo + 10 - 10 + (j + 1)) % 10) = 26 + 4 * (((fo + 1) % 10 + 10 - 10 + j) % 10)
        omega
      rw [← hs]
      refine (old (j + 1) (by omega) ?_).cg (fun k hk => ?_)
      · rw [en]
        unfold hsl
        omega
      · show sp_notes al w (93 + 17 * j + k) = al (93 + 17 * (j + 1) + k)
        unfold sp_notes
        rw [if_pos e]
        unfold nt1
        rw [if_neg (by omega), if_neg (by omega)]
        unfold nt0
        rw [if_pos (by omega)]
        exact congrArg al (by omega)
  · have e10 : (al 92).toInt ≠ 10 := fun q => e (Int32.toInt_inj.mp (by rw [q]; rfl))
    generalize hn : (al 92).toInt.toNat = n at *
    have s92 : sp_notes al w 92 = nI (n + 1) := by unfold sp_notes; rw [if_neg e, hn]; unfold nt1; rw [if_pos rfl]
    have t92 : (sp_notes al w 92).toInt = ((n + 1 : Nat) : Int) := by rw [s92]; exact ix_n (by omega)
    refine ⟨hQ, by rw [v0, s92, Nat.min_eq_left (by omega)], (fo + 1) % 10, by omega, v2, fun j hj => ?_⟩
    rw [t92] at hj ⊢
    rw [Int.toNat_natCast]
    by_cases ej : j = n
    · subst ej
      rw [show hsl ((fo + 1) % 10) (j + 1) j = 26 + 4 * fo by unfold hsl; omega]
      refine hw.cg (fun k hk => ?_)
      show sp_notes al w (93 + 17 * j + k) = w k
      unfold sp_notes
      rw [if_neg e, hn]
      unfold nt1
      rw [if_neg (by omega), if_pos (by omega)]
      exact congrArg w (by omega)
    · have hs : hsl fo n j = hsl ((fo + 1) % 10) (n + 1) j := by unfold hsl; omega
      rw [← hs]
      refine (old j (by omega) ?_).cg (fun k hk => ?_)
      · unfold hsl
        omega
      · show sp_notes al w (93 + 17 * j + k) = al (93 + 17 * j + k)
        unfold sp_notes
        rw [if_neg e, hn]
        unfold nt1
        rw [if_neg (by omega), if_neg (by omega)]
theorem HI.back {V A V' A' : sV} {Q : sP} {al al' : Nat → Int32} (h92 : 0 < (al 92).toInt ∧ (al 92).toInt ≤ 10) (hQ : ∀ i, i < 10 → Q 25 i = some (26 + 4 * i)) {fo : Nat} (hf : fo < 10) (h5 : ∀ j : Nat, (j : Int) < (al 92).toInt → StE V A (hsl fo (al 92).toInt.toNat j) (fun k => al (93 + 17 * j + k))) (hV : ∀ x, 25 ≤ x → x ≤ 65 → V' x = V x) (hA : ∀ x, 25 ≤ x → x ≤ 65 → A' x = A x) (e92 : al' 92 = nI ((al 92).toInt.toNat - 1)) (v0 : V' 24 0 = al' 92) (v2 : V' 24 2 = nI ((fo + 9) % 10)) (he : ∀ i, 93 ≤ i → i < 263 → al' i = al i) : HI V' A' Q al' := by
  have t92 : (al' 92).toInt = (((al 92).toInt.toNat - 1 : Nat) : Int) := by rw [e92]; exact ix_n (by omega)
  refine ⟨hQ, v0, (fo + 9) % 10, by omega, v2, fun j hj => ?_⟩
  rw [t92] at hj ⊢
  rw [Int.toNat_natCast]
  have hs : hsl fo (al 92).toInt.toNat j = hsl ((fo + 9) % 10) ((al 92).toInt.toNat - 1) j := by unfold hsl; omega
  have b : hsl fo (al 92).toInt.toNat j ≤ 62 ∧ 26 ≤ hsl fo (al 92).toInt.toNat j := by unfold hsl; omega
  rw [← hs]
  refine ((h5 j (by omega)).fr (hV _ (by omega) (by omega)) (fun x h1 h2 => hA x (by omega) (by omega))).cg (fun k hk => he _ (by omega) (by omega))
