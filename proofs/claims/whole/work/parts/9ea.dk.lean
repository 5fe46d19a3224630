/-! ===== the class: desk ===== -/
section ALM
variable {F : Nat → Int32} {c : List Int32} {al al' : Nat → Int32}
theorem lw_get (hA : AlM F c al al') (hc : c.length ≤ 900) {law : Nat} (hl : law < 2) {p d e : List Int32} (g1 : c = p ++ d ++ e) (g0 : F (4 + law) = 1) (g2 : F (6 + law) = nI p.length) (g3 : F (8 + law) = nI d.length) : lawL al' law = some d := by
  have hlen : p.length + d.length + e.length = c.length := by rw [g1, List.length_append, List.length_append]
  have e4 : al' (4 + law) = 1 := by rw [hA.1 _ (by omega)]; exact g0
  have e6 : (al' (6 + law)).toInt.toNat = p.length := by rw [hA.1 _ (by omega), g2, ix_n (by omega)]; rfl
  have e8 : (al' (8 + law)).toInt.toNat = d.length := by rw [hA.1 _ (by omega), g3, ix_n (by omega)]; rfl
  unfold lawL
  rw [e4, if_neg (by decide), e6, e8]
  congr 1
  apply List.ext_getElem?
  intro i
  rw [List.getElem?_map]
  by_cases h : i < d.length
  · rw [List.getElem?_range h]
    show some (al' (264 + p.length + i)) = d[i]?
    rw [show 264 + p.length + i = 264 + (p.length + i) by omega, hA.2.1 _ (by omega), g1, List.getD_eq_getElem?_getD, List.append_assoc, List.getElem?_append_right (by omega), Nat.add_sub_cancel_left, List.getElem?_append_left h, List.getElem?_eq_getElem h]
    rfl
  · rw [List.getElem?_eq_none (by rw [List.length_range]; omega), List.getElem?_eq_none (by omega)]
    rfl
theorem lw_no (hA : AlM F c al al') {law : Nat} (hl : law < 2) (g0 : F (4 + law) = 0) : lawL al' law = none := by
  unfold lawL
  rw [hA.1 _ (by omega), g0, if_pos rfl]
theorem lw_LW (hA : AlM F c al al') (hc : c.length ≤ 900) {law : Nat} (hl : law < 2) {X : List Int32 → Prop} (h : LWF F c law X) (hX : ∀ d, X d → (∀ z ∈ d, rk_ok z) ∧ rk_dep d 0 = some 1) : LW al' law (lawL al' law) ∧ (∀ cs, lawL al' law = some cs → X cs) ∧ lawL al' law ≠ some [] := by
  rcases h with h | ⟨h, p, d, e, g1, g2, g3, g4⟩
  · rw [lw_no hA hl h]
    refine ⟨?_, fun cs q => (by cases q), fun q => (by cases q)⟩
    show al' (4 + law) = 0
    rw [hA.1 _ (by omega)]; exact h
  · rw [lw_get hA hc hl g1 h g2 g3]
    have hlen : p.length + d.length + e.length = c.length := by rw [g1, List.length_append, List.length_append]
    have hx := hX d g4
    refine ⟨⟨by rw [hA.1 _ (by omega)]; exact h, p.length, by rw [hA.1 _ (by omega), g3, ix_n (by omega)], by rw [hA.1 _ (by omega), g2, ix_n (by omega)], by omega, fun i z hz => ⟨?_, hx.1 z (List.mem_of_getElem? hz)⟩, hx.2⟩, fun cs q => by cases q; exact g4, fun q => ?_⟩
    · have hi : i < d.length := by
        by_cases h : i < d.length
        · exact h
        · rw [List.getElem?_eq_none (by omega)] at hz; cases hz
      rw [show 264 + p.length + i = 264 + (p.length + i) by omega, hA.2.1 _ (by omega), g1, List.getD_eq_getElem?_getD, List.append_assoc, List.getElem?_append_right (by omega), Nat.add_sub_cancel_left, List.getElem?_append_left hi, hz]
      rfl
    · have q : d = [] := Option.some.inj q
      rw [q] at hx
      exact absurd hx.2 (by decide)
theorem GS.all {d : List Int32} (h : GS 64 d) : (∀ z ∈ d, rk_ok z) ∧ rk_dep d 0 = some 1 := by
  refine ⟨h.ok, ?_⟩
  have := h.dep 0 []
  rw [List.append_nil] at this
  rw [this]; rfl
theorem TS.all {d : List Int32} (h : TS 64 d) : (∀ z ∈ d, rk_ok z) ∧ rk_dep d 0 = some 1 := by
  refine ⟨h.ok, ?_⟩
  have := h.dep 0 []
  rw [List.append_nil] at this
  rw [this]; rfl
theorem AlM.av (hA : AlM F c al al') (hc : c.length ≤ 900) (hI : IVF F c) : AV al' ∧ al' 92 = 0 := by
  obtain ⟨⟨q, q4, q1, q2⟩, ⟨p, p5, p1, p2⟩, ⟨⟨s1, s2⟩, b1, w1, st1, tm1, z1⟩, l0, l1⟩ := hI
  have x0 := lw_LW hA hc (by omega : 0 < 2) l0 (fun d h => h.all)
  have x1 := lw_LW hA hc (by omega : 1 < 2) l1 (fun d h => h.all)
  have a := hA.1
  have e92 : al' 92 = 0 := by rw [a 92 (by omega)]; exact z1 92 (by omega)
  have hD : DV al' := by
    refine ⟨?_, ?_, ?_, ?_, ?_, x0.1, x1.1, x0.2.1, x1.2.1⟩
    · rw [a 1 (by omega), q1, ix_n (by omega)]; omega
    · rw [a 2 (by omega), p1, ix_n (by omega)]; omega
    · rw [a 3 (by omega)]; exact ⟨s1, s2⟩
    · intro k hk
      obtain ⟨b, hb, e⟩ := b1 k hk
      rw [a _ (by omega), e, ix_n (by omega)]; omega
    · intro k hk
      rw [a _ (by omega)]; exact w1 k hk
  have hK : KV (al' 2).toInt (fun k => al' (75 + k)) := by
    refine ⟨fun k hk => ?_, fun k hk => ?_, fun k hk => ?_, fun k hk hn => ?_⟩
    · show -20 ≤ (al' (75 + (2 + k))).toInt ∧ (al' (75 + (2 + k))).toInt ≤ 20
      rw [show 75 + (2 + k) = 77 + k by omega, a _ (by omega)]; exact st1 k hk
    · show -9999999 ≤ (al' (75 + (7 + k))).toInt ∧ (al' (75 + (7 + k))).toInt ≤ 9999999
      rw [show 75 + (7 + k) = 82 + k by omega, a _ (by omega), z1 _ (by omega)]
      decide
    · show 0 ≤ (al' (75 + (12 + k))).toInt ∧ (al' (75 + (12 + k))).toInt ≤ 9
      rw [show 75 + (12 + k) = 87 + k by omega, a _ (by omega)]; exact tm1 k hk
    · show al' (75 + (2 + k)) = 0 ∧ al' (75 + (7 + k)) = 0
      rw [a 2 (by omega), p1, ix_n (by omega)] at hn
      rw [show 75 + (2 + k) = 77 + k by omega, show 75 + (7 + k) = 82 + k by omega, a _ (by omega), a _ (by omega)]
      exact ⟨p2 k (by omega) hk, z1 _ (by omega)⟩
  exact ⟨⟨hD, hK, by rw [e92]; decide, fun j hj => by rw [e92] at hj; have hj : (j : Int) < 0 := hj; omega⟩, e92⟩
theorem LWD.lw {V A : sV} {a : Nat} {d : List Int32} (hW : LWD V A a d) {law : Nat} (hl : law < 2) (hA : AlM F c al al') (hc : c.length ≤ 900) (h : lawD F c law d) (hn : lawL al' law ≠ some []) : LwE V A a (lawL al' law) := by
  rcases h with ⟨h, rfl⟩ | ⟨h, p, e, g1, g2, g3⟩
  · rw [lw_no hA hl h]
    exact ⟨hW.1, hW.2.1, fun q => (by cases q), hW.2.2⟩
  · have e := lw_get hA hc hl g1 h g2 g3
    rw [e] at hn ⊢
    exact ⟨hW.1, hW.2.1, hn, hW.2.2⟩
theorem KS.sh {x : Nat → Int32} {L T u i : Nat} {V A : sV} (h : KS x L T u i F c V A) (hA : AlM F c al al') (hc : c.length ≤ 900) (hI : IVF F c) : ShE V A u al' := by
  obtain ⟨_, ⟨h1, h2, h3, h4, h5, h6⟩, h7, h8, ⟨d0, y1, y2⟩, ⟨d1, y3, y4⟩⟩ := h
  have x0 := lw_LW hA hc (by omega : 0 < 2) hI.2.2.2.1 (fun d h => h.all)
  have x1 := lw_LW hA hc (by omega : 1 < 2) hI.2.2.2.2 (fun d h => h.all)
  have a := hA.1
  refine ⟨by rw [a 0 (by omega)]; exact h2, by rw [a 1 (by omega)]; exact h7, by rw [a 2 (by omega)]; exact h8, by rw [a 3 (by omega)]; exact h1, fun i hi => by rw [a _ (by omega)]; exact h3 i hi, fun i hi => by rw [a _ (by omega)]; exact h4 i hi, y1.lw (by omega) hA hc y2 x0.2.2, y3.lw (by omega) hA hc y4 x1.2.2⟩
theorem KS.st {x : Nat → Int32} {L T u i : Nat} {V A : sV} (h : KS x L T u i F c V A) (hA : AlM F c al al') (hI : IVF F c) : ∀ k, k < 17 → al' (75 + k) = bgF A u k := by
  intro k hk
  have z := hI.2.2.1.2.2.2.2.2
  have g := h.2.1
  rw [hA.1 _ (by omega)]
  unfold bgF
  by_cases c1 : k < 2
  · rw [if_pos c1]; exact z _ (by omega)
  · rw [if_neg c1]
    by_cases c2 : k < 7
    · rw [if_pos c2, g.2.2.2.2.1 _ (by omega), show 77 + (k - 2) = 75 + k by omega]
    · rw [if_neg c2]
      by_cases c3 : k < 12
      · rw [if_pos c3]; exact z _ (by omega)
      · rw [if_neg c3, g.2.2.2.2.2 _ (by omega), show 87 + (k - 12) = 75 + k by omega]
end ALM
def W0 (W : WT) (a b : Int32) : WT := (W.1, W.2.1, W.2.2.1, W.2.2.2.1, 0, a, b, W.2.2.2.2.2.2.2)
def CZ8 (S : sS) (V : sV) (P : sP) (A : sV) (B : sB) (Q : sP) (t sl : Nat) (W : WT) (ls : Nat) (ans : Value) (X : (Nat → Int32) → Prop) : Option Value → Ph → Prop := fun r h' => r = some ans ∧ ∃ (t' sl' ls' sh' : Nat) (S' : sS) (V' : sV) (P' : sP) (A' : sV) (B' : sB) (Q' : sP), h' = (t', sl', gh S' V' P' A' B' Q') ∧ (∀ al', X al' → CI S' V' P' A' B' Q' t' al' W sh' ls') ∧ ls' ≤ ls + 1000 ∧ FrO S V P A B t S' V' P' A' B' t' ∧ ∀ k1 k2, Room2 S Q t sl k1 k2 → Room2 S' Q' t' sl' (k1 + 9) (k2 + 1878)
def CZ9 (S : sS) (V : sV) (P : sP) (A : sV) (B : sB) (Q : sP) (t sl : Nat) (W : WT) (sh ls : Nat) (ans : Value) (al' : Nat → Int32) : Option Value → Ph → Prop := fun r h' => r = some ans ∧ ∃ (t' sl' ls' : Nat) (S' : sS) (V' : sV) (P' : sP) (A' : sV) (B' : sB) (Q' : sP), h' = (t', sl', gh S' V' P' A' B' Q') ∧ CI S' V' P' A' B' Q' t' al' W sh ls' ∧ ls' ≤ ls + 1000 ∧ FrO S V P A B t S' V' P' A' B' t' ∧ ∀ k1 k2, Room2 S Q t sl k1 k2 → Room2 S' Q' t' sl' (k1 + 9) (k2 + 1878)
/-- a text was read into a sheet that nobody uses -/
theorem CI.rd {S : sS} {V : sV} {P : sP} {A : sV} {B : sB} {Q : sP} {t : Nat} {al : Nat → Int32} {W : WT} {sh ls : Nat} (hI : CI S V P A B Q t al W sh ls) {V' : sV} {P' : sP} {A' : sV} {u : Nat} (hu : ∃ j, j < 4 ∧ Q 15 j = some u) (hus : u ≠ sh) (hu0 : Q 66 0 ≠ some u) (hu1 : Q 66 1 ≠ some u) (hC : CF S P') (fV : ∀ x, x ≠ 8 → x ≠ 10 → x < u ∨ u + 8 < x → V' x = V x) (fA : ∀ x, x ≠ 11 → x ≠ 12 → x ≠ 13 → x < u ∨ u + 8 < x → A' x = A x) (fP : ∀ x, x ≠ 10 → P' x = P x) (h8 : V' 8 1 = 0) : CI S V' P' A' B Q t al (W0 W (V' 10 0) (V' 10 1)) sh ls := by
  have hE := hI.de
  have ht := hE.dc.ka.st
  have ha := hE.dc.ka.sa
  have ss := hI.re.ss
  obtain ⟨j, hj, hju⟩ := hu
  obtain ⟨jU, j1, j2⟩ := ss.2.2.1 j u hj hju
  have ap : ∀ j' u', j' < 4 → Q 15 j' = some u' → u' ≠ u → u' + 8 < u ∨ u + 8 < u' := by
    intro j' u' h1 h2 hne
    exact ss.2.2.2 j' j u' u h1 hj h2 hju (fun e => hne (by rw [e, hju] at h2; exact (Option.some.inj h2).symm))
  have aps : sh + 8 < u ∨ u + 8 < sh := by
    obtain ⟨j0, h0, h1⟩ := ss.2.1
    exact ap j0 sh h0 h1 (Ne.symm hus)
  have hka : KA S V' P' A' B Q t al sh ls := by
    refine ⟨hC, hE.dc.ka.hsh.to (fun _ _ _ => rfl) (fun x _ _ => fP x (by omega)), hE.dc.ka.2.2.1, hE.dc.ka.dv, hE.dc.ka.se.fr (fun x _ h => fV x (by omega) (by omega) (by omega)) (fun x _ h => fA x (by omega) (by omega) (by omega) (by omega)), ?_⟩
    obtain ⟨b1, b2, b3, b4, b5, b6, b7, b8⟩ := hE.dc.ka.ba
    have v96 := fV 96 (by omega) (by omega) (by omega)
    refine ⟨by rw [fP 96 (by omega)]; exact b1, by rw [v96]; exact b2, by rw [v96]; exact b3, by rw [v96]; exact b4, by rw [v96]; exact b5, by rw [v96]; exact b6, fun q hq => ?_, b8⟩
    obtain ⟨m1, m2⟩ := b7 q hq
    refine ⟨m1, ?_⟩
    rw [fA 100 (by omega) (by omega) (by omega) (by omega), fA 101 (by omega) (by omega) (by omega) (by omega)]
    exact m2
  have fA' : ∀ x, 14 ≤ x → x < 87 → A' x = A x := fun x _ _ => fA x (by omega) (by omega) (by omega) (by omega)
  have fV' : ∀ x, 14 ≤ x → x < 87 → V' x = V x := fun x _ _ => fV x (by omega) (by omega) (by omega)
  refine ⟨⟨⟨hka, hE.dc.hb.to (fP 103 (by omega)), hE.dc.rh.to (by rw [fP 107 (by omega)]) (by rw [fP 107 (by omega)]), hE.dc.hw.to (by rw [fP 107 (by omega)]) (by rw [fP 107 (by omega)]), by rw [fA 109 (by omega) (by omega) (by omega) (by omega)]; exact hE.dc.ev⟩, hE.2.1, hE.2.2.1.fr (fV' 16 (by omega) (by omega)) (fun x _ h => fA' x (by omega) (by omega)), hE.2.2.2⟩, hI.av, hI.re.hi.fr (fun x _ h => fV' x (by omega) (by omega)) (fun x _ h => fA' x (by omega) (by omega)) rfl, ⟨by rw [fP 8 (by omega)]; exact ss.1, ss.2.1, fun j' u' h1 h2 => ?_, ss.2.2.2⟩, ⟨hI.re.im.1, fun i hi => ?_⟩, ⟨hI.re.tr.1, fun k hk => ?_⟩, ?_, hI.re.oq⟩
  · obtain ⟨g1, g2, g3⟩ := ss.2.2.1 j' u' h1 h2
    exact ⟨g1.to (fun _ _ _ => rfl) (fun x _ _ => fP x (by omega)), g2, g3⟩
  · rcases hI.re.im.2 i hi with ⟨g1, g2⟩ | ⟨g1, u', g2, ⟨j', g3, g4⟩, g5, g6, g7, g8⟩
    · exact Or.inl ⟨g1, g2⟩
    · have hne : u' ≠ u := fun e => by
        rw [e] at g2
        rcases (show i = 0 ∨ i = 1 by omega) with rfl | rfl
        · exact hu0 g2
        · exact hu1 g2
      have := ap j' u' g3 g4 hne
      have hu' := (ss.2.2.1 j' u' g3 g4).2.1
      exact Or.inr ⟨g1, u', g2, ⟨j', g3, g4⟩, g5.fr (fun x _ h => fV x (by omega) (by omega) (by omega)) (fun x _ h => fA x (by omega) (by omega) (by omega) (by omega)), g6, g7.fr (fV' _ (by omega) (by omega)) (fun x _ h => fA' x (by omega) (by omega)), g8⟩
  · rw [fV' (79 + 2 * k) (by omega) (by omega)]
    exact hI.re.tr.2 k hk
  · exact ⟨h8, rfl, rfl, ⟨by show (0 : Int) ≤ (0 : Int32).toInt; decide, by show (0 : Int32).toInt ≤ 900; decide⟩, fun i hi => by have hi : (i : Int) < (0 : Int32).toInt := hi; have e : (0 : Int32).toInt = 0 := rfl; omega⟩
