/-! ===== the class: what deeds stand on, what they leave ===== -/
theorem uv_cong {al al' : Nat → Int32} (hD : DV al) (h : ∀ i, i < 75 ∨ (263 ≤ i ∧ i < 1164) → al' i = al i) {p tm q b l s w : Nat} (hp : p < 5) (hq : q < 4) (hb : b < 12) : uv al' p tm q b l s w = uv al p tm q b l s w := by
  have e0 : lawL al' 0 = lawL al 0 := lawL_cong h (by omega) hD.gl
  have e1 : lawL al' 1 = lawL al 1 := lawL_cong h (by omega) hD.ml
  have ew : ∀ x y z : Int32, rf_w (atm al' p tm) p q b x y z = rf_w (atm al p tm) p q b x y z := by
    intro x y z
    unfold rf_w
    have a1 : atm al' p tm (87 + p) = atm al p tm (87 + p) := by unfold atm; rw [pm_up_eq, pm_up_eq]
    have a2 : atm al' p tm (15 + 12 * q + b) = atm al p tm (15 + 12 * q + b) := by unfold atm; rw [pm_up_ne (by omega), pm_up_ne (by omega), h _ (by omega)]
    rw [a1, a2]
  have a2 : atm al' p tm (15 + 12 * q + b) = atm al p tm (15 + 12 * q + b) := by unfold atm; rw [pm_up_ne (by omega), pm_up_ne (by omega), h _ (by omega)]
  unfold uv
  rw [e0, e1]
  have em : rf_may (atm al' p tm) (lawL al 1) p q b (dI w) (dI l) (sI s) = rf_may (atm al p tm) (lawL al 1) p q b (dI w) (dI l) (sI s) := by
    cases lawL al 1 with
    | none => rfl
    | some cs => show decide (rkv _ cs = 1) = decide (rkv _ cs = 1); rw [ew]
  have eg : rf_glad (atm al' p tm) (lawL al 0) p q b (dI w) (dI l) (sI s) = rf_glad (atm al p tm) (lawL al 0) p q b (dI w) (dI l) (sI s) := by
    cases lawL al 0 with
    | none => show atm al' p tm (15 + 12 * q + b) * dI w = atm al p tm (15 + 12 * q + b) * dI w; rw [a2]
    | some cs => show rkv _ cs = rkv _ cs; rw [ew]
  rw [em, eg]
theorem asks_cong {al al' : Nat → Int32} (hD : DV al) (h : ∀ i, i < 75 ∨ (263 ≤ i ∧ i < 1164) → al' i = al i) (w : Nat) : asks al' w = asks al w := by
  unfold asks
  rw [lawL_cong h (law := 0) (by omega) hD.gl, lawL_cong h (law := 1) (by omega) hD.ml]
theorem BarI.cong {S : sS} {V : sV} {P : sP} {A : sV} {B : sB} {Q : sP} {t : Nat} {al al' : Nat → Int32} {sh ls : Nat} (h : BarI S V P A B Q t al sh ls) (hD : DV al) (he : ∀ i, i < 75 ∨ (263 ≤ i ∧ i < 1164) → al' i = al i) : BarI S V P A B Q t al' sh ls := by
  obtain ⟨h1, h2, h3, h4, h5, h6, h7, h8⟩ := h
  have ek : ∀ p tm, keyOf al' p tm = keyOf al p tm := fun p tm => by unfold keyOf; rw [asks_cong hD he, asks_cong hD he]
  refine ⟨h1, by rw [asks_cong hD he]; exact h2, by rw [asks_cong hD he]; exact h3, by rw [asks_cong hD he]; exact h4, by rw [asks_cong hD he]; exact h5, h6, fun q hq => ?_, h8⟩
  obtain ⟨m1, m2⟩ := h7 q hq
  refine ⟨m1, fun hk => ?_⟩
  obtain ⟨c, n, st, g1, g2, g3, g4, g5, g6, g7⟩ := m2 hk
  refine ⟨c, n, st, g1, g2, by rw [asks_cong hD he, asks_cong hD he]; exact g3, g4, g5, g6, fun p tm hp ht hk2 => ?_⟩
  rw [ek] at hk2
  have m := g7 p tm hp ht hk2
  intro b l s w hb hl hs hw hh
  rw [asks_cong hD he, asks_cong hD he] at hh ⊢
  rw [uv_cong hD he hp hq hb]
  exact m b l s w hb hl hs hw hh
theorem KA.cong {S : sS} {V : sV} {P : sP} {A : sV} {B : sB} {Q : sP} {t : Nat} {al al' : Nat → Int32} {sh ls : Nat} (h : KA S V P A B Q t al sh ls) (he : ∀ i, i < 75 ∨ (263 ≤ i ∧ i < 1164) → al' i = al i) : KA S V P A B Q t al' sh ls := ⟨h.cf, h.hsh, ⟨h.sa, h.st⟩, h.dv.cong he, h.se.cong h.dv he, h.ba.cong h.dv he⟩
/-- the frame of all that is no state -/
def FrD (a : Nat) (S : sS) (V : sV) (P : sP) (A : sV) (B : sB) (Q : sP) (t : Nat) (S' : sS) (V' : sV) (P' : sP) (A' : sV) (B' : sB) (Q' : sP) (t' : Nat) : Prop :=
  t ≤ t' ∧ (∀ x, x < t → S' x = S x) ∧ (∀ x, (x < 96 ∧ x ≠ a) ∨ 138 ≤ x → V' x = V x) ∧ (∀ x, x < 96 ∨ 138 ≤ x → P' x = P x) ∧ (∀ x, (x < 96 ∧ x ≠ 69 ∧ x ≠ 70 ∧ (x < a + 1 ∨ a + 3 < x)) ∨ 138 ≤ x → A' x = A x) ∧ (∀ x, x < 96 ∨ (138 ≤ x ∧ x < 161) → B' x = B x) ∧ ∀ x, x ≠ 99 → Q' x = Q x
section FRD
variable {a : Nat} {S : sS} {V : sV} {P : sP} {A : sV} {B : sB} {Q : sP} {t : Nat} {S1 : sS} {V1 : sV} {P1 : sP} {A1 : sV} {B1 : sB} {Q1 : sP} {t1 : Nat} {S2 : sS} {V2 : sV} {P2 : sP} {A2 : sV} {B2 : sB} {Q2 : sP} {t2 : Nat}
theorem FrD.rfl : FrD a S V P A B Q t S V P A B Q t := ⟨Nat.le_refl _, fun _ _ => _root_.rfl, fun _ _ => _root_.rfl, fun _ _ => _root_.rfl, fun _ _ => _root_.rfl, fun _ _ => _root_.rfl, fun _ _ => _root_.rfl⟩
theorem FrD.tr (h : FrD a S V P A B Q t S1 V1 P1 A1 B1 Q1 t1) (g : FrD a S1 V1 P1 A1 B1 Q1 t1 S2 V2 P2 A2 B2 Q2 t2) : FrD a S V P A B Q t S2 V2 P2 A2 B2 Q2 t2 := by
  obtain ⟨h1, h2, h3, h4, h5, h6, h7⟩ := h
  obtain ⟨g1, g2, g3, g4, g5, g6, g7⟩ := g
  exact ⟨by omega, fun x hx => (g2 x (by omega)).trans (h2 x hx), fun x hx => (g3 x hx).trans (h3 x hx), fun x hx => (g4 x hx).trans (h4 x hx), fun x hx => (g5 x hx).trans (h5 x hx), fun x hx => (g6 x hx).trans (h6 x hx), fun x hx => (g7 x hx).trans (h7 x hx)⟩
theorem FrT.d (h : FrT S V P A B Q t S1 V1 P1 A1 B1 Q1 t1) : FrD a S V P A B Q t S1 V1 P1 A1 B1 Q1 t1 := by
  obtain ⟨h1, h2, h3, h4, h5, h6, h7⟩ := h
  exact ⟨h1, h2, fun x hx => h3 x (by omega), fun x hx => h4 x (by omega), fun x hx => h5 x (by omega) (by omega) (by omega) (by omega), fun x hx => h6 x (by omega), h7⟩
theorem FrC.d (h : FrC V A B V1 A1 B1) : FrD a S V P A B Q t S V1 P A1 B1 Q t := ⟨Nat.le_refl _, fun _ _ => _root_.rfl, fun x hx => h.1 x (by omega), fun _ _ => _root_.rfl, fun x hx => h.2.1 x (by omega) (by omega) (by omega), fun x hx => h.2.2 x (by omega) (by omega) (by omega), fun _ _ => _root_.rfl⟩
theorem FrW.d (h : FrW V A B V1 A1 B1) : FrD a S V P A B Q t S V1 P A1 B1 Q t := ⟨Nat.le_refl _, fun _ _ => _root_.rfl, fun x hx => h.1 x (by omega), fun _ _ => _root_.rfl, fun x hx => h.2.1 x (by omega) (by omega) (by omega), fun x hx => h.2.2 x (by omega) (by omega) (by omega), fun _ _ => _root_.rfl⟩
theorem FrG.d (h : FrG A B A1 B1) : FrD a S V P A B Q t S V P A1 B1 Q t := ⟨Nat.le_refl _, fun _ _ => _root_.rfl, fun _ _ => _root_.rfl, fun _ _ => _root_.rfl, fun x hx => h.1 x (by omega) (by omega), fun x hx => h.2 x (by omega), fun _ _ => _root_.rfl⟩
theorem FrD.p (hP : ∀ x, x < 96 ∨ 138 ≤ x → P1 x = P x) : FrD a S V P A B Q t S V P1 A B Q t := ⟨Nat.le_refl _, fun _ _ => _root_.rfl, fun _ _ => _root_.rfl, hP, fun _ _ => _root_.rfl, fun _ _ => _root_.rfl, fun _ _ => _root_.rfl⟩
theorem FrD.va (hV : ∀ x, (x < 96 ∧ x ≠ a) ∨ 138 ≤ x → V1 x = V x) (hA : ∀ x, (x < 96 ∧ x ≠ 69 ∧ x ≠ 70 ∧ (x < a + 1 ∨ a + 3 < x)) ∨ 138 ≤ x → A1 x = A x) : FrD a S V P A B Q t S V1 P A1 B Q t := ⟨Nat.le_refl _, fun _ _ => _root_.rfl, hV, fun _ _ => _root_.rfl, hA, fun _ _ => _root_.rfl, fun _ _ => _root_.rfl⟩
end FRD
theorem HB.to {P P' : sP} (h : HB P) (e : P' 103 = P 103) : HB P' := by unfold HB; rw [e]; exact h
theorem RH.to {P P' : sP} (h : RH P) (e9 : P' 107 9 = P 107 9) (e10 : P' 107 10 = P 107 10) : RH P' := by unfold RH; rw [e9, e10]; exact h
theorem HW.to {P P' : sP} (h : HW P) (e7 : P' 107 7 = P 107 7) (e8 : P' 107 8 = P 107 8) : HW P' := by unfold HW; rw [e7, e8]; exact h
/-- the class, as far as calls that reckon go: the sheet, the rows that are used again -/
def DC (S : sS) (V : sV) (P : sP) (A : sV) (B : sB) (Q : sP) (t : Nat) (al : Nat → Int32) (sh ls : Nat) : Prop := KA S V P A B Q t al sh ls ∧ HB P ∧ RH P ∧ HW P ∧ ∀ i, i < 12 → A 109 i = 31
section DCS
variable {S : sS} {V : sV} {P : sP} {A : sV} {B : sB} {Q : sP} {t : Nat} {al : Nat → Int32} {sh ls p tm q : Nat}
theorem DC.ka (h : DC S V P A B Q t al sh ls) : KA S V P A B Q t al sh ls := h.1
theorem DC.hb (h : DC S V P A B Q t al sh ls) : HB P := h.2.1
theorem DC.rh (h : DC S V P A B Q t al sh ls) : RH P := h.2.2.1
theorem DC.hw (h : DC S V P A B Q t al sh ls) : HW P := h.2.2.2.1
theorem DC.ev (h : DC S V P A B Q t al sh ls) : ∀ i, i < 12 → A 109 i = 31 := h.2.2.2.2
theorem DC.cong {al' : Nat → Int32} (h : DC S V P A B Q t al sh ls) (he : ∀ i, i < 75 ∨ (263 ≤ i ∧ i < 1164) → al' i = al i) : DC S V P A B Q t al' sh ls := ⟨h.ka.cong he, h.hb, h.rh, h.hw, h.ev⟩
theorem DC.fr {V' A' : sV} {B' : sB} (h : DC S V P A B Q t al sh ls) (hf : FrK V A B V' A' B') (h9 : A' 109 = A 109) : DC S V' P A' B' Q t al sh ls := ⟨h.ka.fr hf, h.hb, h.rh, h.hw, by rw [h9]; exact h.ev⟩
/-- back from a piece taken up -/
theorem KB.dc {S0 : sS} {V0 : sV} {P0 : sP} {A0 : sV} {B0 : sB} {Q0 : sP} {t0 ls0 : Nat} (h : KB S V P A B Q t al sh ls p tm q) (h0 : DC S0 V0 P0 A0 B0 Q0 t0 al sh ls0) (ht : t0 ≤ t) (hb : HB P) (hr : RH P) (hw : HW P) (h9 : A 109 = A0 109) : DC S V P A B Q t al sh ls := ⟨h.ka (by have := h0.ka.st; omega), hb, hr, hw, by rw [h9]; exact h0.ev⟩
end DCS
theorem KV.stE' {np : Int} {al : Nat → Int32} (h : KV np (fun k => al (75 + k))) {p : Nat} (hp : p < 5) : al (77 + p) = sI (stN al p) ∧ stN al p < 41 := by
  have h1 : -20 ≤ (al (75 + (2 + p))).toInt ∧ (al (75 + (2 + p))).toInt ≤ 20 := h.st p hp
  rw [show 75 + (2 + p) = 77 + p by omega] at h1
  unfold stN
  exact ⟨sI_of (by omega) (by omega), by omega⟩
theorem KV.tmE {np : Int} {al : Nat → Int32} (h : KV np (fun k => al (75 + k))) {p : Nat} (hp : p < 5) : ∃ tm : Nat, tm < 10 ∧ al (87 + p) = nI tm ∧ atm al p tm = al := by
  have h1 : 0 ≤ (al (75 + (12 + p))).toInt ∧ (al (75 + (12 + p))).toInt ≤ 9 := h.tm p hp
  rw [show 75 + (12 + p) = 87 + p by omega] at h1
  refine ⟨(al (87 + p)).toInt.toNat, by omega, nI_ofI h1.1, ?_⟩
  unfold atm
  rw [← nI_ofI h1.1, pm_up_self]
theorem StE.st {V A : sV} {a : Nat} {al : Nat → Int32} (h : StE V A a (fun k => al (75 + k))) {p : Nat} (hp : p < 5) : A (a + 1) p = al (77 + p) := by
  rw [h.2.2.1 p hp]
  exact congrArg al (by omega)
theorem StE.jo {V A : sV} {a : Nat} {al : Nat → Int32} (h : StE V A a (fun k => al (75 + k))) {p : Nat} (hp : p < 5) : A (a + 2) p = al (82 + p) := by
  rw [h.2.2.2.1 p hp]
  exact congrArg al (by omega)
theorem StE.tm {V A : sV} {a : Nat} {al : Nat → Int32} (h : StE V A a (fun k => al (75 + k))) {p : Nat} (hp : p < 5) : A (a + 3) p = al (87 + p) := by
  rw [h.2.2.2.2 p hp]
  exact congrArg al (by omega)
theorem StE.fr {V A V' A' : sV} {a : Nat} {f : Nat → Int32} (h : StE V A a f) (hV : V' a = V a) (hA : ∀ x, a + 1 ≤ x → x ≤ a + 3 → A' x = A x) : StE V' A' a f := by
  unfold StE
  rw [hV, hA (a + 1) (by omega) (by omega), hA (a + 2) (by omega) (by omega), hA (a + 3) (by omega) (by omega)]
  exact h
theorem StE.cg {V A : sV} {a : Nat} {f g : Nat → Int32} (h : StE V A a f) (e : ∀ k, k < 17 → g k = f k) : StE V A a g := ⟨by rw [e 0 (by omega)]; exact h.1, by rw [e 1 (by omega)]; exact h.2.1, fun p hp => by rw [e _ (by omega)]; exact h.2.2.1 p hp, fun p hp => by rw [e _ (by omega)]; exact h.2.2.2.1 p hp, fun p hp => by rw [e _ (by omega)]; exact h.2.2.2.2 p hp⟩
theorem brd_b {V : sV} {a p : Nat} {x : Int32} (hp : p < 5) (e : V a 3 = x) : decide (¬ (V a 3 >>> (nI p &&& 31)) &&& 1 = 0) = brd x.toInt p := by
  have h1 := and1_v (x >>> (nI p &&& 31))
  rw [e]
  rw [brd_32 _ (by omega)] at h1
  rw [h1]
  cases brd x.toInt p <;> decide
