/-! ===== the class as a whole: what it holds ===== -/
def WT : Type := (Nat → Int32) × (Nat → Int32) × (Nat → Int32) × (Nat → Int64) × Int32 × Int32 × Int32 × (Nat → Int32)
def sft (al : Nat → Int32) (i : Nat) : Nat → Int32 := fun k => al (k + 1164 * (i + 1))
theorem SH.to {S S' : sS} {P P' : sP} {b : Nat} (h : SH S P b) (hS : ∀ x, b ≤ x → x < b + 9 → S' x = S x) (hP : ∀ x, b ≤ x → x < b + 9 → P' x = P x) : SH S' P' b := by
  refine ⟨fun q hq => ?_, fun q hq => ?_⟩
  · have : q.1 < 9 := (by decide : ∀ q ∈ shL, q.1 < 9) q hq
    rw [hS _ (by omega) (by omega)]
    exact h.1 q hq
  · have : q.1 < 9 := (by decide : ∀ q ∈ shR, q.1 < 9) q hq
    rw [hP _ (by omega) (by omega)]
    exact h.2 q hq
/-- one image: its sheet, its state -/
def IM1 (V A : sV) (Q : sP) (al im : Nat → Int32) (i : Nat) : Prop := (im i = 0 ∧ Q 66 i = none) ∨ (im i ≠ 0 ∧ ∃ u : Nat, Q 66 i = some u ∧ (∃ j, j < 4 ∧ Q 15 j = some u) ∧ ShE V A u (sft al i) ∧ DV (sft al i) ∧ StE V A (71 + 4 * i) (fun k => sft al i (75 + k)) ∧ KV (sft al i 2).toInt (fun k => sft al i (75 + k)))
/-- the sheets, which lie apart -/
def SHT (S : sS) (P : sP) (Q : sP) (t sh : Nat) : Prop := P 8 4 = some sh ∧ (∃ j, j < 4 ∧ Q 15 j = some sh) ∧ (∀ j u, j < 4 → Q 15 j = some u → SH S P u ∧ (u = 87 ∨ 161 ≤ u) ∧ u + 8 < t) ∧ ∀ j j' u u', j < 4 → j' < 4 → Q 15 j = some u → Q 15 j' = some u' → j ≠ j' → u + 8 < u' ∨ u' + 8 < u
def TRY (V : sV) (B : sB) (Q : sP) (so mn : Nat → Int32) (nb : Nat → Int64) : Prop := (∀ k, k < 4 → Q 68 k = some (79 + 2 * k)) ∧ ∀ k, k < 4 → (so k = -1 ∧ V (79 + 2 * k) 0 = -1) ∨ (so k ≠ -1 ∧ V (79 + 2 * k) 1 = so k ∧ V (79 + 2 * k) 0 = mn k ∧ (0 ≤ (mn k).toInt ∧ (mn k).toInt ≤ 40) ∧ ∀ i : Nat, (i : Int) < (mn k).toInt → B (80 + 2 * k) i = nb (40 * k + i))
def TPE (V A : sV) (W : WT) : Prop := V 8 1 = W.2.2.2.2.1 ∧ V 10 0 = W.2.2.2.2.2.1 ∧ V 10 1 = W.2.2.2.2.2.2.1 ∧ (0 ≤ W.2.2.2.2.1.toInt ∧ W.2.2.2.2.1.toInt ≤ 900) ∧ ∀ i : Nat, (i : Int) < W.2.2.2.2.1.toInt → A 9 i = W.2.2.2.2.2.2.2 i
def OQ (Q : sP) : Prop := ∀ i, i < 16 → Q 117 i = some (118 + i)
def CRe (S : sS) (V : sV) (P : sP) (A : sV) (B : sB) (Q : sP) (t : Nat) (al : Nat → Int32) (W : WT) (sh : Nat) : Prop := HI V A Q al ∧ SHT S P Q t sh ∧ ((∀ i, i < 2 → Q 67 i = some (71 + 4 * i)) ∧ ∀ i, i < 2 → IM1 V A Q al W.1 i) ∧ TRY V B Q W.2.1 W.2.2.1 W.2.2.2.1 ∧ TPE V A W ∧ OQ Q
/-- nothing of that has changed -/
def FrR (S : sS) (V : sV) (P : sP) (A : sV) (B : sB) (Q : sP) (t : Nat) (S' : sS) (V' : sV) (P' : sP) (A' : sV) (B' : sB) (Q' : sP) (t' : Nat) : Prop :=
  t ≤ t' ∧ (∀ x, x < t → S' x = S x) ∧ (∀ x, x < 16 ∨ (24 ≤ x ∧ x < 96) ∨ 161 ≤ x → V' x = V x) ∧ (∀ x, x < 96 ∨ 161 ≤ x → P' x = P x) ∧ (∀ x, x < 16 ∨ (24 ≤ x ∧ x < 69) ∨ (71 ≤ x ∧ x < 96) ∨ 161 ≤ x → A' x = A x) ∧ (∀ x, x < 96 → B' x = B x) ∧ ∀ x, x ≠ 99 → Q' x = Q x
/-- nor of what lies beside the class -/
def FrO (S : sS) (V : sV) (P : sP) (A : sV) (B : sB) (t : Nat) (S' : sS) (V' : sV) (P' : sP) (A' : sV) (B' : sB) (t' : Nat) : Prop := t ≤ t' ∧ (∀ x, x < t → S' x = S x) ∧ ∀ x, 138 ≤ x → x < 161 → V' x = V x ∧ P' x = P x ∧ A' x = A x ∧ B' x = B x
def CI (S : sS) (V : sV) (P : sP) (A : sV) (B : sB) (Q : sP) (t : Nat) (al : Nat → Int32) (W : WT) (sh ls : Nat) : Prop := DE S V P A B Q t al sh ls 16 ∧ AV al ∧ CRe S V P A B Q t al W sh
def CZ (S : sS) (V : sV) (P : sP) (A : sV) (B : sB) (Q : sP) (t sl : Nat) (W : WT) (sh ls : Nat) (ans : Value) (al' : Nat → Int32) : Option Value → Ph → Prop := fun r h' => r = some ans ∧ ∃ (t' sl' ls' : Nat) (S' : sS) (V' : sV) (P' : sP) (A' : sV) (B' : sB) (Q' : sP), h' = (t', sl', gh S' V' P' A' B' Q') ∧ CI S' V' P' A' B' Q' t' al' W sh ls' ∧ ls' ≤ ls + 1000 ∧ FrO S V P A B t S' V' P' A' B' t' ∧ ∀ k1 k2, Room2 S Q t sl k1 k2 → Room2 S' Q' t' sl' k1 k2
section CIS
variable {S : sS} {V : sV} {P : sP} {A : sV} {B : sB} {Q : sP} {t : Nat} {al : Nat → Int32} {W : WT} {sh ls : Nat}
theorem CI.de (h : CI S V P A B Q t al W sh ls) : DE S V P A B Q t al sh ls 16 := h.1
theorem CI.av (h : CI S V P A B Q t al W sh ls) : AV al := h.2.1
theorem CI.re (h : CI S V P A B Q t al W sh ls) : CRe S V P A B Q t al W sh := h.2.2
theorem CRe.hi (h : CRe S V P A B Q t al W sh) : HI V A Q al := h.1
theorem CRe.ss (h : CRe S V P A B Q t al W sh) : SHT S P Q t sh := h.2.1
theorem CRe.p84 (h : CRe S V P A B Q t al W sh) : P 8 4 = some sh := h.2.1.1
theorem CRe.im (h : CRe S V P A B Q t al W sh) : (∀ i, i < 2 → Q 67 i = some (71 + 4 * i)) ∧ ∀ i, i < 2 → IM1 V A Q al W.1 i := h.2.2.1
theorem CRe.tr (h : CRe S V P A B Q t al W sh) : TRY V B Q W.2.1 W.2.2.1 W.2.2.2.1 := h.2.2.2.1
theorem CRe.tp (h : CRe S V P A B Q t al W sh) : TPE V A W := h.2.2.2.2.1
theorem CRe.oq (h : CRe S V P A B Q t al W sh) : OQ Q := h.2.2.2.2.2
theorem SHT.fr {S' : sS} {V' : sV} {P' : sP} {A' : sV} {B' : sB} {Q' : sP} {t' : Nat} (h : SHT S P Q t sh) (hf : FrR S V P A B Q t S' V' P' A' B' Q' t') : SHT S' P' Q' t' sh := by
  obtain ⟨f1, f2, f3, f4, f5, f6, f7⟩ := hf
  obtain ⟨h1, h2, h3, h4⟩ := h
  refine ⟨by rw [f4 8 (by omega)]; exact h1, by rw [f7 15 (by omega)]; exact h2, ?_, by rw [f7 15 (by omega)]; exact h4⟩
  rw [f7 15 (by omega)]
  intro j u hj hu
  obtain ⟨g1, g2, g3⟩ := h3 j u hj hu
  exact ⟨g1.to (fun x _ _ => f2 x (by omega)) (fun x _ _ => f4 x (by omega)), g2, by omega⟩
theorem CRe.fr {S' : sS} {V' : sV} {P' : sP} {A' : sV} {B' : sB} {Q' : sP} {t' : Nat} (h : CRe S V P A B Q t al W sh) (hf : FrR S V P A B Q t S' V' P' A' B' Q' t') : CRe S' V' P' A' B' Q' t' al W sh := by
  have hs := h.ss.fr hf
  have h3 := h.ss.2.2.1
  obtain ⟨f1, f2, f3, f4, f5, f6, f7⟩ := hf
  refine ⟨h.hi.fr (fun x _ _ => f3 x (by omega)) (fun x _ _ => f5 x (by omega)) (f7 25 (by omega)), hs, ⟨by rw [f7 67 (by omega)]; exact h.im.1, fun i hi => ?_⟩, ?_, ?_, by unfold OQ; rw [f7 117 (by omega)]; exact h.oq⟩
  · unfold IM1
    rw [f7 66 (by omega), f7 15 (by omega)]
    rcases h.im.2 i hi with g | ⟨g0, u, g1, ⟨j, hj, g2⟩, g3, g4, g5, g6⟩
    · exact Or.inl g
    · obtain ⟨_, u2, u3⟩ := h3 j u hj g2
      exact Or.inr ⟨g0, u, g1, ⟨j, hj, g2⟩, g3.fr (fun x _ _ => f3 x (by omega)) (fun x _ _ => f5 x (by omega)), g4, g5.fr (f3 _ (by omega)) (fun x _ _ => f5 x (by omega)), g6⟩
  · unfold TRY
    rw [f7 68 (by omega)]
    refine ⟨h.tr.1, fun k hk => ?_⟩
    rw [f3 _ (by omega), f6 _ (by omega)]
    exact h.tr.2 k hk
  · unfold TPE
    rw [f3 8 (by omega), f3 10 (by omega), f5 9 (by omega)]
    exact h.tp
theorem CRe.cong {al' : Nat → Int32} (h : CRe S V P A B Q t al W sh) (hH : HI V A Q al') (e : ∀ i, 1164 ≤ i → al' i = al i) : CRe S V P A B Q t al' W sh := by
  have es : ∀ i, sft al' i = sft al i := fun i => by funext k; exact e _ (by omega)
  refine ⟨hH, h.ss, ⟨h.im.1, fun i hi => ?_⟩, h.tr, h.tp, h.oq⟩
  unfold IM1
  rw [es]
  exact h.im.2 i hi
theorem FrD.r {S' : sS} {V' : sV} {P' : sP} {A' : sV} {B' : sB} {Q' : sP} {t' : Nat} {a : Nat} (ha : a = 16 ∨ a = 20) (h : FrD a S V P A B Q t S' V' P' A' B' Q' t') : FrR S V P A B Q t S' V' P' A' B' Q' t' := by
  obtain ⟨f1, f2, f3, f4, f5, f6, f7⟩ := h
  exact ⟨f1, f2, fun x hx => f3 x (by omega), fun x hx => f4 x (by omega), fun x hx => f5 x (by omega), fun x hx => f6 x (by omega), f7⟩
theorem FrD.o {S' : sS} {V' : sV} {P' : sP} {A' : sV} {B' : sB} {Q' : sP} {t' : Nat} {a : Nat} (ha : a = 16 ∨ a = 20) (h : FrD a S V P A B Q t S' V' P' A' B' Q' t') : FrO S V P A B t S' V' P' A' B' t' := by
  obtain ⟨f1, f2, f3, f4, f5, f6, f7⟩ := h
  exact ⟨f1, f2, fun x h1 h2 => ⟨f3 x (by omega), f4 x (by omega), f5 x (by omega), f6 x (by omega)⟩⟩
theorem FrO.rfl : FrO S V P A B t S V P A B t := ⟨Nat.le_refl _, fun _ _ => _root_.rfl, fun _ _ _ => ⟨_root_.rfl, _root_.rfl, _root_.rfl, _root_.rfl⟩⟩
theorem FrO.tr {S' : sS} {V' : sV} {P' : sP} {A' : sV} {B' : sB} {t' : Nat} {S2 : sS} {V2 : sV} {P2 : sP} {A2 : sV} {B2 : sB} {t2 : Nat} (h : FrO S V P A B t S' V' P' A' B' t') (g : FrO S' V' P' A' B' t' S2 V2 P2 A2 B2 t2) : FrO S V P A B t S2 V2 P2 A2 B2 t2 := by
  obtain ⟨h1, h2, h3⟩ := h
  obtain ⟨g1, g2, g3⟩ := g
  refine ⟨by omega, fun x hx => (g2 x (by omega)).trans (h2 x hx), fun x k1 k2 => ?_⟩
  obtain ⟨a1, a2, a3, a4⟩ := h3 x k1 k2
  obtain ⟨b1, b2, b3, b4⟩ := g3 x k1 k2
  exact ⟨b1.trans a1, b2.trans a2, b3.trans a3, b4.trans a4⟩
theorem FrO.va {V' A' : sV} (hV : ∀ x, 138 ≤ x → x < 161 → V' x = V x) (hA : ∀ x, 138 ≤ x → x < 161 → A' x = A x) : FrO S V P A B t S V' P A' B t := ⟨Nat.le_refl _, fun _ _ => _root_.rfl, fun x h1 h2 => ⟨hV x h1 h2, _root_.rfl, hA x h1 h2, _root_.rfl⟩⟩
theorem FrR.va {V' A' : sV} (hV : ∀ x, x < 16 ∨ (24 ≤ x ∧ x < 96) ∨ 161 ≤ x → V' x = V x) (hA : ∀ x, x < 16 ∨ (24 ≤ x ∧ x < 69) ∨ (71 ≤ x ∧ x < 96) ∨ 161 ≤ x → A' x = A x) : FrR S V P A B Q t S V' P A' B Q t := ⟨Nat.le_refl _, fun _ _ => _root_.rfl, hV, fun _ _ => _root_.rfl, hA, fun _ _ => _root_.rfl, fun _ _ => _root_.rfl⟩
/-- a state put aside -/
theorem DE.aside {V' A' : sV} (h : DE S V P A B Q t al sh ls 16) (hf : FrS 20 V A V' A') : DE S V' P A' B Q t al sh ls 16 :=
  ⟨h.dc.fr ⟨fun x hx => hf.1 x (by omega), fun x hx => hf.2 x (by omega), fun _ _ => rfl⟩ (hf.2 109 (by omega)), h.kv, h.se.fr (hf.1 16 (by omega)) (fun x _ _ => hf.2 x (by omega)), h.a2⟩
theorem CRe.aside {V' A' : sV} (h : CRe S V P A B Q t al W sh) (hf : FrS 20 V A V' A') : CRe S V' P A' B Q t al W sh := h.fr (FrR.va (fun x hx => hf.1 x (by omega)) (fun x hx => hf.2 x (by omega)))
theorem FrS.o {V' A' : sV} (hf : FrS 20 V A V' A') : FrO S V P A B t S V' P A' B t := FrO.va (fun x _ _ => hf.1 x (by omega)) (fun x _ _ => hf.2 x (by omega))
/-- a state kept in the ring -/
theorem DE.keep {V' A' : sV} {al' : Nat → Int32} (h : DE S V P A B Q t al sh ls 16) (hf : FrH V A V' A') (e : ∀ i, i < 92 ∨ 263 ≤ i → al' i = al i) : DE S V' P A' B Q t al' sh ls 16 :=
  ⟨(h.dc.fr ⟨fun x hx => hf.1 x (by omega), fun x hx => hf.2 x (by omega), fun _ _ => rfl⟩ (hf.2 109 (by omega))).cong (fun i hi => e i (by omega)), (by
    have k := h.kv
    rw [e 2 (by omega)]
    have ek : ∀ i, i < 17 → al' (75 + i) = al (75 + i) := fun i hi => e _ (by omega)
    refine ⟨fun p hp => ?_, fun p hp => ?_, fun p hp => ?_, fun p hp hn => ?_⟩
    · show -20 ≤ (al' (75 + (2 + p))).toInt ∧ (al' (75 + (2 + p))).toInt ≤ 20
      rw [ek _ (by omega)]; exact k.st p hp
    · show -9999999 ≤ (al' (75 + (7 + p))).toInt ∧ (al' (75 + (7 + p))).toInt ≤ 9999999
      rw [ek _ (by omega)]; exact k.jo p hp
    · show 0 ≤ (al' (75 + (12 + p))).toInt ∧ (al' (75 + (12 + p))).toInt ≤ 9
      rw [ek _ (by omega)]; exact k.tm p hp
    · show al' (75 + (2 + p)) = 0 ∧ al' (75 + (7 + p)) = 0
      rw [ek _ (by omega), ek _ (by omega)]; exact k.ze p hp hn), (h.se.fr (hf.1 16 (by omega)) (fun x _ _ => hf.2 x (by omega))).cg (fun k hk => e _ (by omega)), h.a2⟩
theorem CRe.keep {V' A' : sV} {al' : Nat → Int32} (h : CRe S V P A B Q t al W sh) (hf : FrH V A V' A') (hH : HI V' A' Q al') (e : ∀ i, 1164 ≤ i → al' i = al i) : CRe S V' P A' B Q t al' W sh := by
  have es : ∀ i, sft al' i = sft al i := fun i => by funext k; exact e _ (by omega)
  have h3 := h.ss.2.2.1
  refine ⟨hH, h.ss, ⟨h.im.1, fun i hi => ?_⟩, ⟨h.tr.1, fun k hk => ?_⟩, ?_, h.oq⟩
  · unfold IM1
    rw [es]
    rcases h.im.2 i hi with g | ⟨g0, u, g1, ⟨j, hj, g2⟩, g3, g4, g5, g6⟩
    · exact Or.inl g
    · obtain ⟨_, u2, u3⟩ := h3 j u hj g2
      exact Or.inr ⟨g0, u, g1, ⟨j, hj, g2⟩, g3.fr (fun x _ _ => hf.1 x (by omega)) (fun x _ _ => hf.2 x (by omega)), g4, g5.fr (hf.1 _ (by omega)) (fun x _ _ => hf.2 x (by omega)), g6⟩
  · rw [hf.1 _ (by omega)]
    exact h.tr.2 k hk
  · unfold TPE
    rw [hf.1 8 (by omega), hf.1 10 (by omega), hf.2 9 (by omega)]
    exact h.tp
theorem FrH.o {V' A' : sV} (hf : FrH V A V' A') : FrO S V P A B t S V' P A' B t := FrO.va (fun x _ _ => hf.1 x (by omega)) (fun x _ _ => hf.2 x (by omega))
end CIS
/-- a deed done and kept -/
theorem CI.deed {S : sS} {V : sV} {P : sP} {A : sV} {B : sB} {Q : sP} {t : Nat} {S' : sS} {V' : sV} {P' : sP} {A' : sV} {B' : sB} {Q' : sP} {t' : Nat} {al al2 : Nat → Int32} {W : WT} {sh ls' : Nat} (hA : AV al) (hR : CRe S V P A B Q t al W sh) (hE : DE S' V' P' A' B' Q' t' al2 sh ls' 16) (hf : FrD 16 S V P A B Q t S' V' P' A' B' Q' t') (ho : ∀ i, i < 75 ∨ 92 ≤ i → al2 i = al i) {V2 A2 : sV} (hH : HI V2 A2 Q' (nk al al2)) (hfh : FrH V' A' V2 A2) : CI S' V2 P' A2 B' Q' t' (nk al al2) W sh ls' ∧ FrO S V P A B t S' V2 P' A2 B' t' := by
  have hn : 0 ≤ (al2 92).toInt ∧ (al2 92).toInt ≤ 10 := by rw [ho 92 (by omega)]; exact hA.dn
  have hk : KV (al 2).toInt (fun k => al2 (75 + k)) := by have := hE.kv; rw [ho 2 (by omega)] at this; exact this
  have en : ∀ i, i < 92 ∨ 263 ≤ i → nk al al2 i = al2 i := fun i hi => notes_out hn hi
  exact ⟨⟨hE.keep hfh en, note_ok hA ho hk, (hR.fr (hf.r (Or.inl rfl))).keep hfh hH (fun i hi => by rw [en i (by omega), ho i (by omega)])⟩, (hf.o (Or.inl rfl)).tr hfh.o⟩
