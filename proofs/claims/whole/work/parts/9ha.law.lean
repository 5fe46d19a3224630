/-! ===== between the class and the reference ===== -/
abbrev mL_law : mT := (⟨RL, "law", "([I)Z"⟩, cL_law, 4, some .boolean)
def WL (V A : sV) (B : sB) : WT := (A 140, A 158, A 159, B 160, V 138 5, V 138 13, V 138 14, fun i => btB (A 141 i))
def LI (S : sS) (V : sV) (P : sP) (A : sV) (B : sB) (Q : sP) (t sl sh ls k : Nat) : Prop := CI S V P A B Q t (A 139) (WL V A B) sh ls ∧ MF S P 138 ∧ (∀ i, i < 900 → 0 ≤ (A 141 i).toInt ∧ (A 141 i).toInt ≤ 255) ∧ (∀ tr, tr < 4 → 0 ≤ (A 159 tr).toInt ∧ (A 159 tr).toInt ≤ 40) ∧ Room2 S Q t sl (1000 + 9 * k) (60000 + 1878 * k) ∧ ls ≤ 1000 * k
section LIS
variable {S : sS} {V : sV} {P : sP} {A : sV} {B : sB} {Q : sP} {t sl sh ls k : Nat}
theorem LI.ci (h : LI S V P A B Q t sl sh ls k) : CI S V P A B Q t (A 139) (WL V A B) sh ls := h.1
theorem LI.mf (h : LI S V P A B Q t sl sh ls k) : MF S P 138 := h.2.1
theorem LI.tp (h : LI S V P A B Q t sl sh ls k) : ∀ i, i < 900 → 0 ≤ (A 141 i).toInt ∧ (A 141 i).toInt ≤ 255 := h.2.2.1
theorem LI.mn (h : LI S V P A B Q t sl sh ls k) : ∀ tr, tr < 4 → 0 ≤ (A 159 tr).toInt ∧ (A 159 tr).toInt ≤ 40 := h.2.2.2.1
theorem LI.rm (h : LI S V P A B Q t sl sh ls k) : Room2 S Q t sl (1000 + 9 * k) (60000 + 1878 * k) := h.2.2.2.2.1
theorem LI.lb (h : LI S V P A B Q t sl sh ls k) : ls ≤ 1000 * k := h.2.2.2.2.2
theorem LI.tl (h : LI S V P A B Q t sl sh ls k) : 0 ≤ (V 138 5).toInt ∧ (V 138 5).toInt ≤ 900 := h.1.re.tp.2.2.2.1
/-- the reference has changed its own cells -/
theorem CI.ref {al : Nat → Int32} {W : WT} (hI : CI S V P A B Q t al W sh ls) {V' A' : sV} {B' : sB} (hV : ∀ x, x ≠ 138 → V' x = V x) (hA : ∀ x, x < 138 ∨ 161 ≤ x → A' x = A x) (hB : ∀ x, x < 138 ∨ 161 ≤ x → B' x = B x) : CI S V' P A' B' Q t al W sh ls := by
  have hE := hI.de
  refine ⟨⟨hE.dc.fr ⟨fun x hx => hV x (by omega), fun x hx => hA x (by omega), fun x hx => hB x (by omega)⟩ (hA 109 (by omega)), hE.kv, hE.2.2.1.fr (hV 16 (by omega)) (fun x h1 h2 => hA x (by omega)), hE.2.2.2⟩, hI.av, hI.re.fr ⟨Nat.le_refl _, fun _ _ => rfl, fun x hx => hV x (by omega), fun _ _ => rfl, fun x hx => hA x (by omega), fun x hx => hB x (by omega), fun _ _ => rfl⟩⟩
theorem MF.fr {S' : sS} {P' : sP} (h : MF S P 138) (hS : ∀ x, x < 161 → S' x = S x) (hP : P' 138 = P 138) : MF S' P' 138 := by
  refine ⟨by rw [hS 138 (by omega)]; exact h.1, fun q hq => ?_⟩
  have := (by decide : ∀ q ∈ mfL, q.1 < 23) q hq
  rw [hS _ (by omega), hP]
  exact h.2 q hq
theorem Room2.up {k1 k2 k3 k4 : Nat} (h : Room2 S Q t sl k1 k2) (h1 : k1 ≤ k3) (h2 : k2 ≤ k4) : Room2 S Q t sl k3 k4 := ⟨by have := h.1; omega, by have := h.2; omega⟩
variable {S1 : sS} {V1 : sV} {P1 : sP} {A1 : sV} {B1 : sB} {Q1 : sP} {t1 sl1 sh1 ls1 : Nat} {V2 A2 : sV} {B2 : sB}
/-- behind a call of both -/
theorem LI.both (hL : LI S V P A B Q t sl sh ls k) {al' : Nat → Int32} {W' : WT} (hI1 : CI S1 V1 P1 A1 B1 Q1 t1 al' W' sh1 ls1) (hl : ls1 ≤ ls + 1000) (fo : FrO S V P A B t S1 V1 P1 A1 B1 t1) (rm : ∀ k1 k2, Room2 S Q t sl k1 k2 → Room2 S1 Q1 t1 sl1 (k1 + 9) (k2 + 1878)) (hV : ∀ x, x ≠ 138 → V2 x = V1 x) (hA : ∀ x, x < 138 ∨ 161 ≤ x → A2 x = A1 x) (hB : ∀ x, x < 138 ∨ 161 ≤ x → B2 x = B1 x) (e1 : A2 139 = al') (e2 : WL V2 A2 B2 = W') (h141 : ∀ i, i < 900 → 0 ≤ (A2 141 i).toInt ∧ (A2 141 i).toInt ≤ 255) (h159 : ∀ tr, tr < 4 → 0 ≤ (A2 159 tr).toInt ∧ (A2 159 tr).toInt ≤ 40) : LI S1 V2 P1 A2 B2 Q1 t1 sl1 sh1 ls1 (k + 1) := by
  have ht := hL.ci.de.dc.ka.st.2
  refine ⟨by rw [e1, e2]; exact hI1.ref hV hA hB, hL.mf.fr (fun x hx => fo.2.1 x (by omega)) (fo.2.2 138 (by omega) (by omega)).2.1, h141, h159, (rm _ _ hL.rm).up (by omega) (by omega), by have := hL.lb; omega⟩
theorem LI.simple (hL : LI S V P A B Q t sl sh ls k) {al' : Nat → Int32} (hI1 : CI S1 V1 P1 A1 B1 Q1 t1 al' (WL V A B) sh1 ls1) (hl : ls1 ≤ ls + 1000) (fo : FrO S V P A B t S1 V1 P1 A1 B1 t1) (rm : ∀ k1 k2, Room2 S Q t sl k1 k2 → Room2 S1 Q1 t1 sl1 k1 k2) (fp : FP 138 V1 V2) (fq : FQ 138 (pm_up A1 (138 + 1) al') A2) (fb : FB 138 B1 B2) : LI S1 V2 P1 A2 B2 Q1 t1 sl1 sh1 ls1 (k + 1) := by
  have f := fo.2.2
  have a : ∀ x, x = 140 ∨ x = 141 ∨ x = 158 ∨ x = 159 → A2 x = A x := fun x hx => by
    rw [fq x (by omega), pm_up_ne (by omega)]
    exact (f x (by omega) (by omega)).2.2.1
  refine hL.both hI1 hl fo (fun k1 k2 h => (rm k1 k2 h).up (by omega) (by omega)) fp.1 (fun x hx => by rw [fq x (by omega), pm_up_ne (by omega)]) (fun x hx => fb x (by omega) (by omega)) ?_ ?_ ?_ ?_
  · rw [fq 139 (by omega)]; exact pm_up_eq
  · unfold WL
    rw [a 140 (by omega), a 141 (by omega), a 158 (by omega), a 159 (by omega), fp.2.1, fp.2.2.1, fp.2.2.2, fb 160 (by omega) (by omega), (f 138 (by omega) (by omega)).1, (f 160 (by omega) (by omega)).2.2.2]
  · rw [a 141 (by omega)]; exact hL.tp
  · rw [a 159 (by omega)]; exact hL.mn
end LIS
