theorem CF.lo {S S' : sS} {P P' : sP} (h : CF S P) (hS : ∀ x, x < 161 → S' x = S x) (hP : ∀ x, x < 161 → P' x = P x) : CF S' P' := by
  refine ⟨fun q hq => ?_, fun q hq => ?_⟩
  · rw [hS _ ((by decide : ∀ q ∈ cfL, q.1 < 161) q hq)]
    exact h.1 q hq
  · rw [hP _ ((by decide : ∀ q ∈ cfR, q.1 < 161) q hq)]
    exact h.2 q hq
/-- more cells, and a sheet more -/
theorem CI.grow {S : sS} {V : sV} {P : sP} {A : sV} {B : sB} {Q : sP} {t : Nat} {al : Nat → Int32} {W : WT} {sh ls : Nat} (hI : CI S V P A B Q t al W sh ls) {S' : sS} {V' : sV} {P' : sP} {A' : sV} {j : Nat} (hj : j < 4) (hn : Q 15 j = none) (hs : SH S' P' t) (hf : ∀ x, x < t → S' x = S x ∧ V' x = V x ∧ P' x = P x ∧ A' x = A x) : CI S' V' P' A' B (up2 Q 15 j (some t)) (t + 9) al W sh ls := by
  have hE := hI.de
  have ht := hE.dc.ka.st
  have hSe := hE.dc.ka.se
  have ha := hE.dc.ka.sa
  have fS : ∀ x, x < t → S' x = S x := fun x h => (hf x h).1
  have fV : ∀ x, x < t → V' x = V x := fun x h => (hf x h).2.1
  have fP : ∀ x, x < t → P' x = P x := fun x h => (hf x h).2.2.1
  have fA : ∀ x, x < t → A' x = A x := fun x h => (hf x h).2.2.2
  have hqo : ∀ x, x ≠ 15 → up2 Q 15 j (some t) x = Q x := fun x h => up2_na h
  have ss := hI.re.ss
  have hka : KA S' V' P' A' B (up2 Q 15 j (some t)) (t + 9) al sh ls := by
    refine ⟨hE.dc.ka.cf.lo (fun x h => fS x (by omega)) (fun x h => fP x (by omega)), hE.dc.ka.hsh.to (fun x _ h => fS x (by omega)) (fun x _ h => fP x (by omega)), ⟨ha, by omega, by omega⟩, hE.dc.ka.dv, hSe.fr (fun x _ h => fV x (by omega)) (fun x _ h => fA x (by omega)), ?_⟩
    obtain ⟨b1, b2, b3, b4, b5, b6, b7, b8⟩ := hE.dc.ka.ba
    refine ⟨by rw [fP 96 (by omega)]; exact b1, by rw [fV 96 (by omega)]; exact b2, by rw [fV 96 (by omega)]; exact b3, by rw [fV 96 (by omega)]; exact b4, by rw [fV 96 (by omega)]; exact b5, by rw [fV 96 (by omega)]; exact b6, fun q hq => ?_, by rw [hqo 99 (by omega)]; exact b8⟩
    obtain ⟨m1, m2⟩ := b7 q hq
    refine ⟨fun c hc => ?_, fun hk => ?_⟩
    · rw [hqo 99 (by omega)] at hc
      obtain ⟨⟨g1, g2⟩, n, g3, g4⟩ := m1 c hc
      exact ⟨⟨g1, by omega⟩, n, by rw [fS c g2]; exact g3, g4⟩
    · rw [fA 100 (by omega)] at hk
      obtain ⟨c, n, st, g1, g2, g3⟩ := m2 hk
      have hc := (m1 c g1).1.2
      refine ⟨c, n, st, by rw [hqo 99 (by omega)]; exact g1, by rw [fS c hc]; exact g2, ?_⟩
      rw [fA 100 (by omega), fA 101 (by omega)]
      exact g3
  refine ⟨⟨⟨hka, hE.dc.hb.to (fP 103 (by omega)), hE.dc.rh.to (by rw [fP 107 (by omega)]) (by rw [fP 107 (by omega)]), hE.dc.hw.to (by rw [fP 107 (by omega)]) (by rw [fP 107 (by omega)]), by rw [fA 109 (by omega)]; exact hE.dc.ev⟩, hE.2.1, hE.2.2.1.fr (fV 16 (by omega)) (fun x _ h => fA x (by omega)), hE.2.2.2⟩, hI.av, hI.re.hi.fr (fun x _ h => fV x (by omega)) (fun x _ h => fA x (by omega)) (hqo 25 (by omega)), ⟨by rw [fP 8 (by omega)]; exact ss.1, ?_, ?_, ?_⟩, ⟨by rw [hqo 67 (by omega)]; exact hI.re.im.1, fun i hi => ?_⟩, ⟨by rw [hqo 68 (by omega)]; exact hI.re.tr.1, fun k hk => ?_⟩, ?_, ?_⟩
  · obtain ⟨j0, h0, h1⟩ := ss.2.1
    exact ⟨j0, h0, by rw [up2_nk (fun e => by rw [e, hn] at h1; cases h1)]; exact h1⟩
  · intro j1 u h1 hu
    by_cases e : j1 = j
    · subst e
      rw [up2_eq] at hu
      cases hu
      exact ⟨hs, Or.inr (by omega), by omega⟩
    · rw [up2_nk e] at hu
      obtain ⟨g1, g2, g3⟩ := ss.2.2.1 j1 u h1 hu
      exact ⟨g1.to (fun x _ h => fS x (by omega)) (fun x _ h => fP x (by omega)), g2, by omega⟩
  · intro j1 j2 u1 u2 h1 h2 hu1 hu2 hne
    by_cases e : j1 = j
    · subst e
      rw [up2_eq] at hu1
      cases hu1
      rw [up2_nk (Ne.symm hne)] at hu2
      have := (ss.2.2.1 j2 u2 h2 hu2).2.2
      exact Or.inr this
    · rw [up2_nk e] at hu1
      by_cases e2 : j2 = j
      · subst e2
        rw [up2_eq] at hu2
        cases hu2
        have := (ss.2.2.1 j1 u1 h1 hu1).2.2
        exact Or.inl this
      · rw [up2_nk e2] at hu2
        exact ss.2.2.2 j1 j2 u1 u2 h1 h2 hu1 hu2 hne
  · rcases hI.re.im.2 i hi with ⟨g1, g2⟩ | ⟨g1, u, g2, ⟨j1, g3, g4⟩, g5, g6, g7, g8⟩
    · exact Or.inl ⟨g1, by rw [hqo 66 (by omega)]; exact g2⟩
    · have hu := (ss.2.2.1 j1 u g3 g4).2.2
      exact Or.inr ⟨g1, u, by rw [hqo 66 (by omega)]; exact g2, ⟨j1, g3, by rw [up2_nk (fun e => by rw [e, hn] at g4; cases g4)]; exact g4⟩, g5.fr (fun x _ h => fV x (by omega)) (fun x _ h => fA x (by omega)), g6, g7.fr (fV _ (by omega)) (fun x _ h => fA x (by omega)), g8⟩
  · rw [fV _ (by omega)]
    exact hI.re.tr.2 k hk
  · have h := hI.re.tp
    unfold TPE at h ⊢
    rw [fV 8 (by omega), fV 10 (by omega), fA 9 (by omega)]
    exact h
  · unfold OQ
    rw [hqo 117 (by omega)]
    exact hI.re.oq
theorem Room2.sheet {S S' : sS} {Q Q' : sP} {t sl k1 k2 : Nat} (hS : ∀ q, q < 4 → ∀ c, Q 99 q = some c → S' c = S c) (hq : Q' 99 = Q 99) (h : Room2 S Q t sl k1 k2) : Room2 S' Q' (t + 9) (sl + 1878) (k1 + 9) (k2 + 1878) := by
  have e : ∀ q, q < 4 → szQ S' Q' q = szQ S Q q := by
    intro q h4
    unfold szQ
    rw [hq]
    cases g : Q 99 q with
    | none => rfl
    | some c => show (S' c).2 = (S c).2; rw [hS q h4 c g]
  unfold Room2 at h ⊢
  rw [e 0 (by omega), e 1 (by omega), e 2 (by omega), e 3 (by omega)]
  omega
/-- a sheet that nobody uses -/
def SPZ (S : sS) (V : sV) (P : sP) (A : sV) (B : sB) (Q : sP) (t sl : Nat) (al : Nat → Int32) (W : WT) (sh ls u : Nat) (h' : Ph) : Prop := ∃ (t' sl' : Nat) (S' : sS) (V' : sV) (P' : sP) (A' : sV) (Q' : sP), h' = (t', sl', gh S' V' P' A' B Q') ∧ CI S' V' P' A' B Q' t' al W sh ls ∧ (∃ j, j < 4 ∧ Q' 15 j = some u) ∧ u ≠ sh ∧ Q' 66 0 ≠ some u ∧ Q' 66 1 ≠ some u ∧ FrO S V P A B t S' V' P' A' B t' ∧ (V' 8 = V 8 ∧ A' 9 = A 9) ∧ ∀ k1 k2, Room2 S Q t sl k1 k2 → Room2 S' Q' t' sl' (k1 + 9) (k2 + 1878)
theorem pig {Q : sP} {sh : Nat} {S : sS} {P : sP} {t : Nat} (ss : SHT S P Q t sh) (h : ∀ j, j < 4 → ∃ v, Q 15 j = some v ∧ (v = sh ∨ Q 66 0 = some v ∨ Q 66 1 = some v)) : False := by
  obtain ⟨v0, a0, b0⟩ := h 0 (by omega)
  obtain ⟨v1, a1, b1⟩ := h 1 (by omega)
  obtain ⟨v2, a2, b2⟩ := h 2 (by omega)
  obtain ⟨v3, a3, b3⟩ := h 3 (by omega)
  have ap := ss.2.2.2
  have n01 : v0 ≠ v1 := by have := ap 0 1 v0 v1 (by omega) (by omega) a0 a1 (by omega); omega
  have n02 : v0 ≠ v2 := by have := ap 0 2 v0 v2 (by omega) (by omega) a0 a2 (by omega); omega
  have n03 : v0 ≠ v3 := by have := ap 0 3 v0 v3 (by omega) (by omega) a0 a3 (by omega); omega
  have n12 : v1 ≠ v2 := by have := ap 1 2 v1 v2 (by omega) (by omega) a1 a2 (by omega); omega
  have n13 : v1 ≠ v3 := by have := ap 1 3 v1 v3 (by omega) (by omega) a1 a3 (by omega); omega
  have n23 : v2 ≠ v3 := by have := ap 2 3 v2 v3 (by omega) (by omega) a2 a3 (by omega); omega
  generalize Q 66 0 = x at *
  generalize Q 66 1 = y at *
  have key : ∀ v w : Nat, x = some v → x = some w → v = w := fun v w h1 h2 => Option.some.inj (h1.symm.trans h2)
  have key2 : ∀ v w : Nat, y = some v → y = some w → v = w := fun v w h1 h2 => Option.some.inj (h1.symm.trans h2)
  rcases b0 with b0 | b0 | b0 <;> rcases b1 with b1 | b1 | b1 <;> rcases b2 with b2 | b2 | b2 <;> rcases b3 with b3 | b3 | b3 <;> first
    | exact n01 (b0.trans b1.symm)
    | exact n01 (key _ _ b0 b1)
    | exact n01 (key2 _ _ b0 b1)
    | exact n02 (b0.trans b2.symm)
    | exact n02 (key _ _ b0 b2)
    | exact n02 (key2 _ _ b0 b2)
    | exact n03 (b0.trans b3.symm)
    | exact n03 (key _ _ b0 b3)
    | exact n03 (key2 _ _ b0 b3)
    | exact n12 (b1.trans b2.symm)
    | exact n12 (key _ _ b1 b2)
    | exact n12 (key2 _ _ b1 b2)
    | exact n13 (b1.trans b3.symm)
    | exact n13 (key _ _ b1 b3)
    | exact n13 (key2 _ _ b1 b3)
    | exact n23 (b2.trans b3.symm)
    | exact n23 (key _ _ b2 b3)
    | exact n23 (key2 _ _ b2 b3)
