/-! ===== the reference: what a desk is ===== -/
/-- a law's code of numbers, with the height of the stack that it wants -/
def GS (h : Nat) (cs : List Int32) : Prop := ∀ X : Nat → List Int32 → Prop, (∀ (h : Nat) (c : Int32), 1 ≤ h → 0 ≤ c.toInt → c.toInt < 1008 → X h [c]) → (∀ (h : Nat) (xs ys : List Int32) (c : Int32), X (h + 1) xs → X h ys → 3000 ≤ c.toInt → c.toInt ≤ 3002 → X (h + 1) (xs ++ ys ++ [c])) → X h cs
theorem GS.one {h : Nat} {c : Int32} (h1 : 1 ≤ h) (h2 : 0 ≤ c.toInt) (h3 : c.toInt < 1008) : GS h [c] := fun _ f _ => f h c h1 h2 h3
theorem GS.two {h : Nat} {xs ys : List Int32} {c : Int32} (h1 : GS (h + 1) xs) (h2 : GS h ys) (h3 : 3000 ≤ c.toInt) (h4 : c.toInt ≤ 3002) : GS (h + 1) (xs ++ ys ++ [c]) := fun X f g => g h xs ys c (h1 X f g) (h2 X f g) h3 h4
/-- and of truths -/
def TS (h : Nat) (cs : List Int32) : Prop := ∀ X : Nat → List Int32 → Prop, (∀ (h : Nat) (xs ys : List Int32) (c : Int32), GS (h + 1) xs → GS h ys → 3003 ≤ c.toInt → c.toInt ≤ 3005 → X (h + 1) (xs ++ ys ++ [c])) → (∀ (h : Nat) (xs : List Int32), X h xs → X h (xs ++ [3006])) → (∀ (h : Nat) (xs ys : List Int32) (c : Int32), X (h + 1) xs → X h ys → c = 3007 ∨ c = 3008 → X (h + 1) (xs ++ ys ++ [c])) → X h cs
theorem TS.cmp {h : Nat} {xs ys : List Int32} {c : Int32} (h1 : GS (h + 1) xs) (h2 : GS h ys) (h3 : 3003 ≤ c.toInt) (h4 : c.toInt ≤ 3005) : TS (h + 1) (xs ++ ys ++ [c]) := fun _ f _ _ => f h xs ys c h1 h2 h3 h4
theorem TS.neg {h : Nat} {xs : List Int32} (h1 : TS h xs) : TS h (xs ++ [3006]) := fun X f g k => g h xs (h1 X f g k)
theorem TS.two {h : Nat} {xs ys : List Int32} {c : Int32} (h1 : TS (h + 1) xs) (h2 : TS h ys) (h3 : c = 3007 ∨ c = 3008) : TS (h + 1) (xs ++ ys ++ [c]) := fun X f g k => k h xs ys c (h1 X f g k) (h2 X f g k) h3
def lgN (al : Nat → Int32) (q : Nat) : Nat := (al (10 + q)).toInt.toNat
def stN (al : Nat → Int32) (p : Nat) : Nat := ((al (77 + p)).toInt + 20).toNat
def lawL (al : Nat → Int32) (law : Nat) : Option (List Int32) := if al (4 + law) = 0 then none else some ((List.range (al (8 + law)).toInt.toNat).map fun i => al (264 + (al (6 + law)).toInt.toNat + i))
def DV (al : Nat → Int32) : Prop := (0 ≤ (al 1).toInt ∧ (al 1).toInt ≤ 4) ∧ (0 ≤ (al 2).toInt ∧ (al 2).toInt ≤ 5) ∧ (0 ≤ (al 3).toInt ∧ (al 3).toInt ≤ 10) ∧ (∀ q, q < 4 → 0 ≤ (al (10 + q)).toInt ∧ (al (10 + q)).toInt ≤ 12) ∧ (∀ i, i < 48 → -9 ≤ (al (15 + i)).toInt ∧ (al (15 + i)).toInt ≤ 9) ∧ (LW al 0 (lawL al 0)) ∧ (LW al 1 (lawL al 1)) ∧ (∀ cs, lawL al 0 = some cs → GS 64 cs) ∧ (∀ cs, lawL al 1 = some cs → TS 64 cs)
theorem DV.n4 {al : Nat → Int32} (h : DV al) : 0 ≤ (al 1).toInt ∧ (al 1).toInt ≤ 4 := h.1
theorem DV.p5 {al : Nat → Int32} (h : DV al) : 0 ≤ (al 2).toInt ∧ (al 2).toInt ≤ 5 := h.2.1
theorem DV.k10 {al : Nat → Int32} (h : DV al) : 0 ≤ (al 3).toInt ∧ (al 3).toInt ≤ 10 := h.2.2.1
theorem DV.lg {al : Nat → Int32} (h : DV al) : ∀ q, q < 4 → 0 ≤ (al (10 + q)).toInt ∧ (al (10 + q)).toInt ≤ 12 := h.2.2.2.1
theorem DV.wa {al : Nat → Int32} (h : DV al) : ∀ i, i < 48 → -9 ≤ (al (15 + i)).toInt ∧ (al (15 + i)).toInt ≤ 9 := h.2.2.2.2.1
theorem DV.gl {al : Nat → Int32} (h : DV al) : LW al 0 (lawL al 0) := h.2.2.2.2.2.1
theorem DV.ml {al : Nat → Int32} (h : DV al) : LW al 1 (lawL al 1) := h.2.2.2.2.2.2.1
theorem DV.gs {al : Nat → Int32} (h : DV al) : ∀ cs, lawL al 0 = some cs → GS 64 cs := h.2.2.2.2.2.2.2.1
theorem DV.ms {al : Nat → Int32} (h : DV al) : ∀ cs, lawL al 1 = some cs → TS 64 cs := h.2.2.2.2.2.2.2.2
/-- a row of what is kept: barred, week, stores, joys, tempers -/
def KV (np : Int) (f : Nat → Int32) : Prop := (∀ p, p < 5 → -20 ≤ (f (2 + p)).toInt ∧ (f (2 + p)).toInt ≤ 20) ∧ (∀ p, p < 5 → -9999999 ≤ (f (7 + p)).toInt ∧ (f (7 + p)).toInt ≤ 9999999) ∧ (∀ p, p < 5 → 0 ≤ (f (12 + p)).toInt ∧ (f (12 + p)).toInt ≤ 9) ∧ (∀ p : Nat, p < 5 → np ≤ (p : Int) → f (2 + p) = 0 ∧ f (7 + p) = 0)
theorem KV.st {np : Int} {f : Nat → Int32} (h : KV np f) : ∀ p, p < 5 → -20 ≤ (f (2 + p)).toInt ∧ (f (2 + p)).toInt ≤ 20 := h.1
theorem KV.jo {np : Int} {f : Nat → Int32} (h : KV np f) : ∀ p, p < 5 → -9999999 ≤ (f (7 + p)).toInt ∧ (f (7 + p)).toInt ≤ 9999999 := h.2.1
theorem KV.tm {np : Int} {f : Nat → Int32} (h : KV np f) : ∀ p, p < 5 → 0 ≤ (f (12 + p)).toInt ∧ (f (12 + p)).toInt ≤ 9 := h.2.2.1
theorem KV.ze {np : Int} {f : Nat → Int32} (h : KV np f) : ∀ p : Nat, p < 5 → np ≤ (p : Int) → f (2 + p) = 0 ∧ f (7 + p) = 0 := h.2.2.2
def AV (al : Nat → Int32) : Prop := (DV al) ∧ (KV (al 2).toInt (fun k => al (75 + k))) ∧ (0 ≤ (al 92).toInt ∧ (al 92).toInt ≤ 10) ∧ (∀ j : Nat, (j : Int) < (al 92).toInt → KV (al 2).toInt (fun k => al (93 + 17 * j + k)))
theorem AV.dv {al : Nat → Int32} (h : AV al) : DV al := h.1
theorem AV.kv {al : Nat → Int32} (h : AV al) : KV (al 2).toInt (fun k => al (75 + k)) := h.2.1
theorem AV.dn {al : Nat → Int32} (h : AV al) : 0 ≤ (al 92).toInt ∧ (al 92).toInt ≤ 10 := h.2.2.1
theorem AV.ws {al : Nat → Int32} (h : AV al) : ∀ j : Nat, (j : Int) < (al 92).toInt → KV (al 2).toInt (fun k => al (93 + 17 * j + k)) := h.2.2.2
theorem lawL_cong {al al' : Nat → Int32} (h : ∀ i, i < 75 ∨ (263 ≤ i ∧ i < 1164) → al' i = al i) {law : Nat} (hl : law < 2) {g : Option (List Int32)} (hw : LW al law g) : lawL al' law = lawL al law := by
  unfold lawL
  rw [h (4 + law) (by omega), h (8 + law) (by omega), h (6 + law) (by omega)]
  by_cases e : al (4 + law) = 0
  · rw [if_pos e, if_pos e]
  · rw [if_neg e, if_neg e]
    congr 1
    refine List.map_congr_left (fun i hi => ?_)
    rw [List.mem_range] at hi
    cases g with
    | none => exact absurd hw e
    | some cs =>
      obtain ⟨_, fr, h1, h2, h3, _⟩ := hw
      exact h _ (by omega)
theorem LW_cong {al al' : Nat → Int32} (h : ∀ i, i < 75 ∨ (263 ≤ i ∧ i < 1164) → al' i = al i) {law : Nat} (hl : law < 2) {g : Option (List Int32)} (hw : LW al law g) : LW al' law g := by
  cases g with
  | none => exact (h (4 + law) (by omega)).trans hw
  | some cs =>
    obtain ⟨h0, fr, h1, h2, h3, h4, h5⟩ := hw
    refine ⟨(h (4 + law) (by omega)).trans h0, fr, by rw [h (8 + law) (by omega)]; exact h1, by rw [h (6 + law) (by omega)]; exact h2, h3, fun i c hc => ?_, h5⟩
    have hi := (List.getElem?_eq_some_iff.mp hc).1
    rw [h _ (by omega)]
    exact h4 i c hc
theorem DV.cong {al al' : Nat → Int32} (hD : DV al) (h : ∀ i, i < 75 ∨ (263 ≤ i ∧ i < 1164) → al' i = al i) : DV al' := by
  have e0 := lawL_cong h (law := 0) (by omega) hD.gl
  have e1 := lawL_cong h (law := 1) (by omega) hD.ml
  exact ⟨by rw [h 1 (by omega)]; exact hD.n4, by rw [h 2 (by omega)]; exact hD.p5, by rw [h 3 (by omega)]; exact hD.k10, fun q hq => by rw [h _ (by omega)]; exact hD.lg q hq, fun i hi => by rw [h _ (by omega)]; exact hD.wa i hi, by rw [e0]; exact LW_cong h (by omega) hD.gl, by rw [e1]; exact LW_cong h (by omega) hD.ml, by rw [e0]; exact hD.gs, by rw [e1]; exact hD.ms⟩
def isP (al : Nat → Int32) (x : Int) : Bool := decide (0 ≤ x ∧ x < (al 2).toInt)
def isQ (al : Nat → Int32) (x : Int) : Bool := decide (0 ≤ x ∧ x < (al 1).toInt)
def isB (al : Nat → Int32) (q b : Int) : Bool := isQ al q && decide (0 ≤ b ∧ b < (al (10 + q.toNat)).toInt)
def isS (x : Int) : Bool := decide (-20 ≤ x ∧ x ≤ 20)
def isD (x : Int) : Bool := decide (-2 ≤ x ∧ x ≤ 2)
theorem c_withinI {G : gT} {d : Nat} {h : Ph} (x lo hi : Int64) : PW G d mX12_within 0 [some (.long x), none, some (.long lo), none, some (.long hi), none] [] h (some (.int (bI (decide (lo.toInt ≤ x.toInt ∧ x.toInt ≤ hi.toInt))))) h := by
  have k := c_within (G := G) (d := d) (h := h) x lo hi
  have e : decide (lo ≤ x ∧ x ≤ hi) = decide (lo.toInt ≤ x.toInt ∧ x.toInt ≤ hi.toInt) := by
    exact decide_eq_decide.mpr (and_congr Int64.le_iff_toInt_le Int64.le_iff_toInt_le)
  rw [e] at k
  exact k
theorem c_isStoreI {G : gT} {d : Nat} {h : Ph} (x : Int64) : PW G (d + 1) mX12_isStore 0 [some (.long x), none] [] h (some (.int (bI (isS x.toInt)))) h := by
  have k := c_isStore (G := G) (d := d) (h := h) x
  have e : decide (-20 ≤ x ∧ x ≤ 20) = isS x.toInt := by
    exact decide_eq_decide.mpr (and_congr Int64.le_iff_toInt_le Int64.le_iff_toInt_le)
  rw [e] at k
  exact k
theorem c_isDrawI {G : gT} {d : Nat} {h : Ph} (x : Int64) : PW G (d + 1) mX12_isDraw 0 [some (.long x), none] [] h (some (.int (bI (isD x.toInt)))) h := by
  have k := c_isDraw (G := G) (d := d) (h := h) x
  have e : decide (-2 ≤ x ∧ x ≤ 2) = isD x.toInt := by
    exact decide_eq_decide.mpr (and_congr Int64.le_iff_toInt_le Int64.le_iff_toInt_le)
  rw [e] at k
  exact k
theorem sub1_t {x : Int32} {n : Int} (h0 : 0 ≤ x.toInt) (h1 : x.toInt ≤ n) (hn : n ≤ 2147483647) : (x - 1).toInt64.toInt = x.toInt - 1 := by
  rw [il_t]
  exact ti_sub rfl rfl (by show -2147483648 ≤ x.toInt - 1 ∧ x.toInt - 1 < 2147483648; omega)
set_option maxRecDepth 20000 in
theorem c_isPlayer {G : gT} {d : Nat} {S : sS} {V : sV} {P : sP} {A : sV} {B : sB} {Q : sP} {t sl o : Nat} (hF : MF S P o) (hD : DV (A (o + 1))) (x : Int64) : PW G (d + 1) mX12_isPlayer 0 [some (.ref o), some (.long x), none] [] (t, sl, gh S V P A B Q) (some (.int (bI (isP (A (o + 1)) x.toInt)))) (t, sl, gh S V P A B Q) := by
  refine pw_lload1 dX12_isPlayer_0 ?_
  refine pw_lconst (v := 0) dX12_isPlayer_1 (by decide) ?_
  refine pw_aload0 dX12_isPlayer_2 ?_
  refine pw_getr gX12_13 dX12_isPlayer_3 hF.1 (mf_p1 hF) ?_
  refine pw_iconst (v := 2) dX12_isPlayer_6 (by decide) ?_
  refine pw_ald (j := 2) dX12_isPlayer_7 (mf_s1 hF) rfl (by omega) ?_
  refine pw_iconst (v := 1) dX12_isPlayer_8 (by decide) ?_
  refine pw_isub dX12_isPlayer_9 ?_
  refine pw_i2l dX12_isPlayer_10 ?_
  refine pw_s3i wX12_within lX12_152 dX12_isPlayer_11 (c_withinI _ _ _) rfl (Nat.le_of_ble_eq_true rfl) (Nat.le_of_ble_eq_true rfl) ?_
  exact pw_iret dX12_isPlayer_14 rfl (bI_nar _) (rI (by congr 1; unfold isP; rw [sub1_t hD.p5.1 hD.p5.2 (by decide)]; apply decide_eq_decide.mpr; show (0 : Int) ≤ x.toInt ∧ x.toInt ≤ _ ↔ _; omega)) rfl
set_option maxRecDepth 20000 in
theorem c_isPiece {G : gT} {d : Nat} {S : sS} {V : sV} {P : sP} {A : sV} {B : sB} {Q : sP} {t sl o : Nat} (hF : MF S P o) (hD : DV (A (o + 1))) (x : Int64) : PW G (d + 1) mX12_isPiece 0 [some (.ref o), some (.long x), none] [] (t, sl, gh S V P A B Q) (some (.int (bI (isQ (A (o + 1)) x.toInt)))) (t, sl, gh S V P A B Q) := by
  refine pw_lload1 dX12_isPiece_0 ?_
  refine pw_lconst (v := 0) dX12_isPiece_1 (by decide) ?_
  refine pw_aload0 dX12_isPiece_2 ?_
  refine pw_getr gX12_13 dX12_isPiece_3 hF.1 (mf_p1 hF) ?_
  refine pw_iconst (v := 1) dX12_isPiece_6 (by decide) ?_
  refine pw_ald (j := 1) dX12_isPiece_7 (mf_s1 hF) rfl (by omega) ?_
  refine pw_iconst (v := 1) dX12_isPiece_8 (by decide) ?_
  refine pw_isub dX12_isPiece_9 ?_
  refine pw_i2l dX12_isPiece_10 ?_
  refine pw_s3i wX12_within lX12_152 dX12_isPiece_11 (c_withinI _ _ _) rfl (Nat.le_of_ble_eq_true rfl) (Nat.le_of_ble_eq_true rfl) ?_
  exact pw_iret dX12_isPiece_14 rfl (bI_nar _) (rI (by congr 1; unfold isQ; rw [sub1_t hD.n4.1 hD.n4.2 (by decide)]; apply decide_eq_decide.mpr; show (0 : Int) ≤ x.toInt ∧ x.toInt ≤ _ ↔ _; omega)) rfl
