/-! ===== the class: Bars, what is kept of the laws ===== -/
def cix (bs bl : Bool) (b s l w : Nat) : Nat := (if bl then (if bs then b * 41 + s else b) * 5 + l else (if bs then b * 41 + s else b)) * 5 + w
def csz (bs bl : Bool) : Nat := cix bs bl 12 0 0 0
theorem cix_lt {bs bl : Bool} {b s l w : Nat} (hb : b < 12) (hs : s < 41) (hl : l < 5) (hw : w < 5) : cix bs bl b s l w < csz bs bl := by
  unfold csz cix
  cases bs <;> cases bl <;> simp <;> omega
theorem cix_inj {bs bl : Bool} {b s l w b' s' l' w' : Nat} (hs : s < 41) (hl : l < 5) (hw : w < 5) (hs' : s' < 41) (hl' : l' < 5) (hw' : w' < 5) (h : cix bs bl b s l w = cix bs bl b' s' l' w') : b = b' ∧ w = w' ∧ (bs = true → s = s') ∧ (bl = true → l = l') := by
  unfold cix at h
  cases bs <;> cases bl <;> simp at h ⊢ <;> omega
theorem csz_le (bs bl : Bool) : csz bs bl ≤ 12300 ∧ (csz bs bl = 60 ∨ csz bs bl = 300 ∨ csz bs bl = 2460 ∨ csz bs bl = 12300) := by cases bs <;> cases bl <;> decide
/-- the stamp and the number of a cell -/
def hi32 (x : Int64) : Int32 := (x.toUInt64 >>> ((32 : Int32).toInt64.toUInt64 &&& Int64.toUInt64 63)).toInt64.toInt32
def cel (st g : Int32) : Int64 := (st.toInt64 <<< ((32 : Int32).toInt64 &&& 63)) ||| (g.toInt64 &&& 4294967295)
theorem ffb (i : Nat) : (4294967295#64).getLsbD i = decide (i < 32) := by
  rw [show (4294967295#64) = BitVec.ofNat 64 (2 ^ 32 - 1) from rfl, BitVec.getLsbD_ofNat, Nat.testBit_two_pow_sub_one]
  by_cases h : i < 32
  · rw [decide_eq_true h, decide_eq_true (show i < 64 by omega)]; rfl
  · rw [decide_eq_false h, Bool.and_false]
theorem cel_bv (st g : Int32) : (cel st g).toBitVec = (st.toBitVec.signExtend 64 <<< 32) ||| (g.toBitVec.signExtend 64 &&& 4294967295#64) := rfl
theorem cel_lo (st g : Int32) : (cel st g).toInt32 = g := by
  rw [← Int32.toBitVec_inj, Int64.toBitVec_toInt32, cel_bv]
  apply BitVec.eq_of_getLsbD_eq
  intro i hi
  rw [BitVec.getLsbD_signExtend, BitVec.getLsbD_or, BitVec.getLsbD_shiftLeft, BitVec.getLsbD_and, ffb, BitVec.getLsbD_signExtend, BitVec.getLsbD_signExtend]
  simp [hi, show i < 64 by omega]
theorem hi32_bv (x : Int64) : (hi32 x).toBitVec = (x.toBitVec >>> 32).signExtend 32 := by
  unfold hi32
  rw [show ((32 : Int32).toInt64.toUInt64 &&& Int64.toUInt64 63) = 32 by decide, Int64.toBitVec_toInt32]
  show (x.toUInt64 >>> 32).toBitVec.signExtend 32 = _
  rw [UInt64.toBitVec_shiftRight]
  rfl
theorem cel_hi (st g : Int32) : hi32 (cel st g) = st := by
  rw [← Int32.toBitVec_inj, hi32_bv, cel_bv]
  apply BitVec.eq_of_getLsbD_eq
  intro i hi
  rw [BitVec.getLsbD_signExtend, BitVec.getLsbD_ushiftRight, BitVec.getLsbD_or, BitVec.getLsbD_shiftLeft, BitVec.getLsbD_and, ffb, BitVec.getLsbD_signExtend, decide_eq_false (show ¬ 32 + i < 32 by omega), Bool.and_false, show 32 + i - 32 = i by omega]
  simp [hi, show 32 + i < 64 by omega, show i < 64 by omega]
def keyOf (al : Nat → Int32) (p tm : Nat) : Int32 := (if asks al 0 then nI p else 0) * 10 + (if asks al 1 then nI tm else 0)
/-- what is kept of a player's laws for a piece -/
def Memo (al : Nat → Int32) (p tm q st : Nat) (f : Nat → Int64) : Prop := ∀ b l s w, b < 12 → l < 5 → s < 41 → w < 5 → hi32 (f (cix (asks al 7) (asks al 6) b s l w)) = nI st → (f (cix (asks al 7) (asks al 6) b s l w)).toInt32 = uv al p tm q b l s w
/-- one piece's cells -/
def BMem (S : sS) (A : sV) (B : sB) (Q : sP) (t : Nat) (al : Nat → Int32) (ls q : Nat) : Prop :=
  (∀ c, Q 99 q = some c → (161 ≤ c ∧ c < t) ∧ ∃ n : Nat, S c = (22, n) ∧ (n = 60 ∨ n = 300 ∨ n = 2460 ∨ n = 12300) ∧ ∀ i, i < n → 0 ≤ (hi32 (B c i)).toInt ∧ (hi32 (B c i)).toInt ≤ (ls : Int)) ∧
  (A 100 q ≠ -1 → ∃ c n st : Nat, Q 99 q = some c ∧ S c = (22, n) ∧ csz (asks al 7) (asks al 6) ≤ n ∧ A 101 q = nI st ∧ 1 ≤ st ∧ st ≤ ls ∧ ∀ p tm, p < 5 → tm < 10 → keyOf al p tm = A 100 q → Memo al p tm q st (B c))
def BarI (S : sS) (V : sV) (P : sP) (A : sV) (B : sB) (Q : sP) (t : Nat) (al : Nat → Int32) (sh ls : Nat) : Prop :=
  P 96 2 = some sh ∧ V 96 1 = bI (asks al 6) ∧ V 96 3 = bI (asks al 7) ∧ V 96 4 = bI (asks al 0) ∧ V 96 5 = bI (asks al 1) ∧ V 96 12 = nI ls ∧ (∀ q, q < 4 → BMem S A B Q t al ls q) ∧ ∀ q q' c : Nat, q < 4 → q' < 4 → Q 99 q = some c → Q 99 q' = some c → q = q'
/-- a player with a piece before it -/
def BCur (S : sS) (V : sV) (P : sP) (A : sV) (Q : sP) (al : Nat → Int32) (p tm q : Nat) : Prop :=
  ∃ c n st : Nat, P 96 13 = some c ∧ Q 99 q = some c ∧ S c = (22, n) ∧ csz (asks al 7) (asks al 6) ≤ n ∧ V 96 14 = nI st ∧ A 101 q = nI st ∧ A 100 q = keyOf al p tm ∧ V 96 6 = nI q ∧ V 96 0 = al (10 + q) ∧ A 97 0 = nI p ∧ A 97 1 = nI tm ∧ A 97 2 = nI q
def KB (S : sS) (V : sV) (P : sP) (A : sV) (B : sB) (Q : sP) (t : Nat) (al : Nat → Int32) (sh ls p tm q : Nat) : Prop :=
  CF S P ∧ SH S P sh ∧ (sh = 87 ∨ 161 ≤ sh) ∧ DV al ∧ ShE V A sh al ∧ ls < 2000000000 ∧ BarI S V P A B Q t al sh ls ∧ BCur S V P A Q al p tm q ∧ (p < 5 ∧ tm < 10 ∧ q < 4) ∧ isQ al (nI q).toInt = true
theorem keyOf_n {al : Nat → Int32} {p tm : Nat} (hp : p < 5) (ht : tm < 10) : keyOf al p tm ≠ -1 := by
  unfold keyOf
  have e : ∃ x y : Nat, x < 5 ∧ y < 10 ∧ (if asks al 0 then nI p else 0) = nI x ∧ (if asks al 1 then nI tm else 0) = nI y := by
    cases asks al 0 <;> cases asks al 1
    · exact ⟨0, 0, by omega, by omega, rfl, rfl⟩
    · exact ⟨0, tm, by omega, by omega, rfl, rfl⟩
    · exact ⟨p, 0, by omega, by omega, rfl, rfl⟩
    · exact ⟨p, tm, by omega, by omega, rfl, rfl⟩
  obtain ⟨x, y, hx, hy, ex, ey⟩ := e
  rw [ex, ey, show (10 : Int32) = nI 10 from rfl, pk_mul, nI_add]
  intro h
  rw [← Int32.toInt_inj, nI_toInt (by omega)] at h
  have h : ((x * 10 + y : Nat) : Int) = -1 := h
  omega
section KBS
variable {S : sS} {V : sV} {P : sP} {A : sV} {B : sB} {Q : sP} {t : Nat} {al : Nat → Int32} {sh ls p tm q : Nat}
theorem KB.cf (h : KB S V P A B Q t al sh ls p tm q) : CF S P := h.1
theorem KB.hsh (h : KB S V P A B Q t al sh ls p tm q) : SH S P sh := h.2.1
theorem KB.sa (h : KB S V P A B Q t al sh ls p tm q) : sh = 87 ∨ 161 ≤ sh := h.2.2.1
theorem KB.dv (h : KB S V P A B Q t al sh ls p tm q) : DV al := h.2.2.2.1
theorem KB.se (h : KB S V P A B Q t al sh ls p tm q) : ShE V A sh al := h.2.2.2.2.1
theorem KB.lt (h : KB S V P A B Q t al sh ls p tm q) : ls < 2000000000 := h.2.2.2.2.2.1
theorem KB.ba (h : KB S V P A B Q t al sh ls p tm q) : BarI S V P A B Q t al sh ls := h.2.2.2.2.2.2.1
theorem KB.cu (h : KB S V P A B Q t al sh ls p tm q) : BCur S V P A Q al p tm q := h.2.2.2.2.2.2.2.1
theorem KB.r (h : KB S V P A B Q t al sh ls p tm q) : p < 5 ∧ tm < 10 ∧ q < 4 := h.2.2.2.2.2.2.2.2.1
theorem KB.iq (h : KB S V P A B Q t al sh ls p tm q) : isQ al (nI q).toInt = true := h.2.2.2.2.2.2.2.2.2
theorem KB.p2 (h : KB S V P A B Q t al sh ls p tm q) : P 96 2 = some sh := h.ba.1
theorem KB.v1 (h : KB S V P A B Q t al sh ls p tm q) : V 96 1 = bI (asks al 6) := h.ba.2.1
theorem KB.v3 (h : KB S V P A B Q t al sh ls p tm q) : V 96 3 = bI (asks al 7) := h.ba.2.2.1
theorem KB.v6 (h : KB S V P A B Q t al sh ls p tm q) : V 96 6 = nI q := by
  obtain ⟨c, n, st, h1, h2, h3, h4, h5, h6, h7, h8, h9⟩ := h.cu
  exact h8
theorem KB.v0 (h : KB S V P A B Q t al sh ls p tm q) : V 96 0 = al (10 + q) := by
  obtain ⟨c, n, st, h1, h2, h3, h4, h5, h6, h7, h8, h9, h10⟩ := h.cu
  exact h9
theorem KB.len (h : KB S V P A B Q t al sh ls p tm q) : V 96 0 = nI (lgN al q) ∧ lgN al q ≤ 12 := by
  rw [h.v0]
  have h1 := h.dv.lg q h.r.2.2
  unfold lgN
  exact ⟨nI_ofI h1.1, by omega⟩
/-- what KB rests on -/
def FrK (V A : sV) (B : sB) (V' A' : sV) (B' : sB) : Prop := (∀ x, x = 96 ∨ (87 ≤ x ∧ x ≤ 95) ∨ 161 ≤ x → V' x = V x) ∧ (∀ x, (87 ≤ x ∧ x ≤ 95) ∨ x = 97 ∨ x = 100 ∨ x = 101 ∨ 161 ≤ x → A' x = A x) ∧ ∀ x, 161 ≤ x → B' x = B x
theorem BarI.fr {V' A' : sV} {B' : sB} (h : BarI S V P A B Q t al sh ls) (hf : FrK V A B V' A' B') : BarI S V' P A' B' Q t al sh ls := by
  have v := hf.1 96 (Or.inl rfl)
  have a0 := hf.2.1 100 (by omega)
  have a1 := hf.2.1 101 (by omega)
  obtain ⟨h1, h2, h3, h4, h5, h6, h7, h8⟩ := h
  refine ⟨h1, by rw [v]; exact h2, by rw [v]; exact h3, by rw [v]; exact h4, by rw [v]; exact h5, by rw [v]; exact h6, fun q hq => ?_, h8⟩
  obtain ⟨m1, m2⟩ := h7 q hq
  refine ⟨fun c hc => ?_, fun hk => ?_⟩
  · obtain ⟨g1, n, g2, g3, g4⟩ := m1 c hc
    exact ⟨g1, n, g2, g3, fun i hi => by rw [hf.2.2 c g1.1]; exact g4 i hi⟩
  · rw [a0] at hk
    obtain ⟨c, n, st, g1, g2, g3, g4, g5, g6, g7⟩ := m2 hk
    refine ⟨c, n, st, g1, g2, g3, by rw [a1]; exact g4, g5, g6, fun p tm hp ht hk => ?_⟩
    rw [a0] at hk
    rw [hf.2.2 c (m1 c g1).1.1]
    exact g7 p tm hp ht hk
theorem BCur.fr {V' A' : sV} {B' : sB} (h : BCur S V P A Q al p tm q) (hf : FrK V A B V' A' B') : BCur S V' P A' Q al p tm q := by
  have v := hf.1 96 (Or.inl rfl)
  have a0 := hf.2.1 100 (by omega)
  have a1 := hf.2.1 101 (by omega)
  have a7 := hf.2.1 97 (by omega)
  unfold BCur
  rw [v, a0, a1, a7]
  exact h
theorem KB.fr {V' A' : sV} {B' : sB} (h : KB S V P A B Q t al sh ls p tm q) (hf : FrK V A B V' A' B') : KB S V' P A' B' Q t al sh ls p tm q := by
  have hs := h.sa
  refine ⟨h.cf, h.hsh, hs, h.dv, h.se.fr (fun x h1 h2 => hf.1 x (by omega)) (fun x h1 h2 => hf.2.1 x (by omega)), h.lt, h.ba.fr hf, h.cu.fr hf, h.r, h.iq⟩
theorem FrK.rfl {V A : sV} {B : sB} : FrK V A B V A B := ⟨fun _ _ => _root_.rfl, fun _ _ => _root_.rfl, fun _ _ => _root_.rfl⟩
theorem FrK.tr {V A V1 A1 V2 A2 : sV} {B B1 B2 : sB} (h : FrK V A B V1 A1 B1) (g : FrK V1 A1 B1 V2 A2 B2) : FrK V A B V2 A2 B2 := ⟨fun x hx => (g.1 x hx).trans (h.1 x hx), fun x hx => (g.2.1 x hx).trans (h.2.1 x hx), fun x hx => (g.2.2 x hx).trans (h.2.2 x hx)⟩
theorem FrK.a {a : Nat} {f : Nat → Int32} (h : ¬ ((87 ≤ a ∧ a ≤ 95) ∨ a = 97 ∨ a = 100 ∨ a = 101 ∨ 161 ≤ a)) : FrK V A B V (pm_up A a f) B := ⟨fun _ _ => _root_.rfl, fun x hx => pm_up_ne (fun q => by subst q; exact h hx), fun _ _ => _root_.rfl⟩
theorem FrK.b {a : Nat} {f : Nat → Int64} (h : a < 161) : FrK V A B V A (pm_up B a f) := ⟨fun _ _ => _root_.rfl, fun _ _ => _root_.rfl, fun x hx => pm_up_ne (by omega)⟩
theorem FrK.v {a k : Nat} {y : Int32} (h : ¬ (a = 96 ∨ (87 ≤ a ∧ a ≤ 95) ∨ 161 ≤ a)) : FrK V A B (up2 V a k y) A B := ⟨fun x hx => up2_na (fun q => by subst q; exact h hx), fun _ _ => _root_.rfl, fun _ _ => _root_.rfl⟩
/-- what the laws' reckoning changes -/
def FrG (A : sV) (B : sB) (A' : sV) (B' : sB) : Prop := (∀ x, x ≠ 97 → x ≠ 98 → A' x = A x) ∧ ∀ x, x < 161 → B' x = B x
theorem FrG.rfl {A : sV} {B : sB} : FrG A B A B := ⟨fun _ _ _ => _root_.rfl, fun _ _ => _root_.rfl⟩
theorem FrG.tr {A A1 A2 : sV} {B B1 B2 : sB} (h : FrG A B A1 B1) (g : FrG A1 B1 A2 B2) : FrG A B A2 B2 := ⟨fun x h1 h2 => (g.1 x h1 h2).trans (h.1 x h1 h2), fun x hx => (g.2 x hx).trans (h.2 x hx)⟩
end KBS
set_option maxRecDepth 20000 in
theorem k_cellOf {G : gT} {d : Nat} {S : sS} {V : sV} {P : sP} {A : sV} {B : sB} {Q : sP} {t sl : Nat} (hC : CF S P) {bs bl : Bool} (h3 : V 96 3 = bI bs) (h1 : V 96 1 = bI bl) (b s l w : Nat) : WQ G d mX0_cellOf 0 [some (.ref 96), some (.int (nI b)), some (.int (sI s)), some (.int (dI l)), some (.int (dI w)), none] [] (t, sl, gh S V P A B Q) (fun r h' => r = some (.int (nI (cix bs bl b s l w))) ∧ h' = (t, sl, gh S V P A B Q)) := by
  refine WQ.st (fun _ _ kz => pw_iload1 dX0_cellOf_0 kz) ?_
  refine WQ.st (fun _ _ kz => pw_istore5 dX0_cellOf_1 (by decide) (k := kz)) ?_
  refine WQ.st (fun _ _ kz => pw_aload0 dX0_cellOf_3 kz) ?_
  refine WQ.st (fun _ _ kz => pw_geti gX0_19 dX0_cellOf_4 (cf_s96 hC) kz) ?_
  rw [h3]
  refine WQ.br (fun _ _ ka kb => pw_if_eq (tgt := 22) dX0_cellOf_7 (by decide) ka kb) (fun c7 => ?_) (fun c7 => ?_)
  · rw [bI_0] at c7
    refine WQ.st (fun _ _ kz => pw_aload0 dX0_cellOf_22 kz) ?_
    refine WQ.st (fun _ _ kz => pw_geti gX0_15 dX0_cellOf_23 (cf_s96 hC) kz) ?_
    rw [h1]
    refine WQ.br (fun _ _ ka kb => pw_if_eq (tgt := 39) dX0_cellOf_26 (by decide) ka kb) (fun c26 => ?_) (fun c26 => ?_)
    · rw [bI_0] at c26
      refine WQ.st (fun _ _ kz => pw_iload5 dX0_cellOf_39 kz) ?_
      refine WQ.st (fun _ _ kz => pw_iconst (v := 5) dX0_cellOf_41 (by decide) kz) ?_
      refine WQ.st (fun _ _ kz => pw_imul dX0_cellOf_42 kz) ?_
      refine WQ.st (fun _ _ kz => pw_iload4 dX0_cellOf_43 kz) ?_
      refine WQ.st (fun _ _ kz => pw_iadd dX0_cellOf_45 kz) ?_
      refine WQ.st (fun _ _ kz => pw_iconst (v := 2) dX0_cellOf_46 (by decide) kz) ?_
      refine WQ.st (fun _ _ kz => pw_iadd dX0_cellOf_47 kz) ?_
      refine ⟨_, _, pw_iret dX0_cellOf_48 rfl rfl rfl rfl, ?_⟩
      refine ⟨rI ?_, rfl⟩
      simp only [cix, sI, dI, c7, c26, Bool.false_eq_true, if_false, if_true, show (41 : Int32) = iI 41 from rfl, show (20 : Int32) = iI 20 from rfl, show (5 : Int32) = iI 5 from rfl, show (2 : Int32) = iI 2 from rfl, iI_nat, iI_mul, iI_add]
      congr 1
      omega
    · rw [bI_n] at c26
      refine WQ.st (fun _ _ kz => pw_iload5 dX0_cellOf_29 kz) ?_
      refine WQ.st (fun _ _ kz => pw_iconst (v := 5) dX0_cellOf_31 (by decide) kz) ?_
      refine WQ.st (fun _ _ kz => pw_imul dX0_cellOf_32 kz) ?_
      refine WQ.st (fun _ _ kz => pw_iload3 dX0_cellOf_33 kz) ?_
      refine WQ.st (fun _ _ kz => pw_iadd dX0_cellOf_34 kz) ?_
      refine WQ.st (fun _ _ kz => pw_iconst (v := 2) dX0_cellOf_35 (by decide) kz) ?_
      refine WQ.st (fun _ _ kz => pw_iadd dX0_cellOf_36 kz) ?_
      refine WQ.st (fun _ _ kz => pw_istore5 dX0_cellOf_37 (by decide) (k := kz)) ?_
      refine WQ.st (fun _ _ kz => pw_iload5 dX0_cellOf_39 kz) ?_
      refine WQ.st (fun _ _ kz => pw_iconst (v := 5) dX0_cellOf_41 (by decide) kz) ?_
      refine WQ.st (fun _ _ kz => pw_imul dX0_cellOf_42 kz) ?_
      refine WQ.st (fun _ _ kz => pw_iload4 dX0_cellOf_43 kz) ?_
      refine WQ.st (fun _ _ kz => pw_iadd dX0_cellOf_45 kz) ?_
      refine WQ.st (fun _ _ kz => pw_iconst (v := 2) dX0_cellOf_46 (by decide) kz) ?_
      refine WQ.st (fun _ _ kz => pw_iadd dX0_cellOf_47 kz) ?_
      refine ⟨_, _, pw_iret dX0_cellOf_48 rfl rfl rfl rfl, ?_⟩
      refine ⟨rI ?_, rfl⟩
      simp only [cix, sI, dI, c7, c26, Bool.false_eq_true, if_false, if_true, show (41 : Int32) = iI 41 from rfl, show (20 : Int32) = iI 20 from rfl, show (5 : Int32) = iI 5 from rfl, show (2 : Int32) = iI 2 from rfl, iI_nat, iI_mul, iI_add]
      congr 1
      omega
  · rw [bI_n] at c7
    refine WQ.st (fun _ _ kz => pw_iload5 dX0_cellOf_10 kz) ?_
    refine WQ.st (fun _ _ kz => pw_bipush (v := 41) dX0_cellOf_12 (by decide) kz) ?_
    refine WQ.st (fun _ _ kz => pw_imul dX0_cellOf_14 kz) ?_
    refine WQ.st (fun _ _ kz => pw_iload2 dX0_cellOf_15 kz) ?_
    refine WQ.st (fun _ _ kz => pw_iadd dX0_cellOf_16 kz) ?_
    refine WQ.st (fun _ _ kz => pw_bipush (v := 20) dX0_cellOf_17 (by decide) kz) ?_
    refine WQ.st (fun _ _ kz => pw_iadd dX0_cellOf_19 kz) ?_
    refine WQ.st (fun _ _ kz => pw_istore5 dX0_cellOf_20 (by decide) (k := kz)) ?_
    refine WQ.st (fun _ _ kz => pw_aload0 dX0_cellOf_22 kz) ?_
    refine WQ.st (fun _ _ kz => pw_geti gX0_15 dX0_cellOf_23 (cf_s96 hC) kz) ?_
    rw [h1]
    refine WQ.br (fun _ _ ka kb => pw_if_eq (tgt := 39) dX0_cellOf_26 (by decide) ka kb) (fun c26 => ?_) (fun c26 => ?_)
    · rw [bI_0] at c26
      refine WQ.st (fun _ _ kz => pw_iload5 dX0_cellOf_39 kz) ?_
      refine WQ.st (fun _ _ kz => pw_iconst (v := 5) dX0_cellOf_41 (by decide) kz) ?_
      refine WQ.st (fun _ _ kz => pw_imul dX0_cellOf_42 kz) ?_
      refine WQ.st (fun _ _ kz => pw_iload4 dX0_cellOf_43 kz) ?_
      refine WQ.st (fun _ _ kz => pw_iadd dX0_cellOf_45 kz) ?_
      refine WQ.st (fun _ _ kz => pw_iconst (v := 2) dX0_cellOf_46 (by decide) kz) ?_
      refine WQ.st (fun _ _ kz => pw_iadd dX0_cellOf_47 kz) ?_
      refine ⟨_, _, pw_iret dX0_cellOf_48 rfl rfl rfl rfl, ?_⟩
      refine ⟨rI ?_, rfl⟩
      simp only [cix, sI, dI, c7, c26, Bool.false_eq_true, if_false, if_true, show (41 : Int32) = iI 41 from rfl, show (20 : Int32) = iI 20 from rfl, show (5 : Int32) = iI 5 from rfl, show (2 : Int32) = iI 2 from rfl, iI_nat, iI_mul, iI_add]
      congr 1
      omega
    · rw [bI_n] at c26
      refine WQ.st (fun _ _ kz => pw_iload5 dX0_cellOf_29 kz) ?_
      refine WQ.st (fun _ _ kz => pw_iconst (v := 5) dX0_cellOf_31 (by decide) kz) ?_
      refine WQ.st (fun _ _ kz => pw_imul dX0_cellOf_32 kz) ?_
      refine WQ.st (fun _ _ kz => pw_iload3 dX0_cellOf_33 kz) ?_
      refine WQ.st (fun _ _ kz => pw_iadd dX0_cellOf_34 kz) ?_
      refine WQ.st (fun _ _ kz => pw_iconst (v := 2) dX0_cellOf_35 (by decide) kz) ?_
      refine WQ.st (fun _ _ kz => pw_iadd dX0_cellOf_36 kz) ?_
      refine WQ.st (fun _ _ kz => pw_istore5 dX0_cellOf_37 (by decide) (k := kz)) ?_
      refine WQ.st (fun _ _ kz => pw_iload5 dX0_cellOf_39 kz) ?_
      refine WQ.st (fun _ _ kz => pw_iconst (v := 5) dX0_cellOf_41 (by decide) kz) ?_
      refine WQ.st (fun _ _ kz => pw_imul dX0_cellOf_42 kz) ?_
      refine WQ.st (fun _ _ kz => pw_iload4 dX0_cellOf_43 kz) ?_
      refine WQ.st (fun _ _ kz => pw_iadd dX0_cellOf_45 kz) ?_
      refine WQ.st (fun _ _ kz => pw_iconst (v := 2) dX0_cellOf_46 (by decide) kz) ?_
      refine WQ.st (fun _ _ kz => pw_iadd dX0_cellOf_47 kz) ?_
      refine ⟨_, _, pw_iret dX0_cellOf_48 rfl rfl rfl rfl, ?_⟩
      refine ⟨rI ?_, rfl⟩
      simp only [cix, sI, dI, c7, c26, Bool.false_eq_true, if_false, if_true, show (41 : Int32) = iI 41 from rfl, show (20 : Int32) = iI 20 from rfl, show (5 : Int32) = iI 5 from rfl, show (2 : Int32) = iI 2 from rfl, iI_nat, iI_mul, iI_add]
      congr 1
      omega
/-- the draw behind which one stands, as far as the laws see it -/
def lbN (bl : Bool) (w : Nat) : Nat := if bl then w else 2
set_option maxRecDepth 20000 in
theorem k_lastBehind {G : gT} {d : Nat} {S : sS} {V : sV} {P : sP} {A : sV} {B : sB} {Q : sP} {t sl : Nat} (hC : CF S P) {bl : Bool} (h1 : V 96 1 = bI bl) (w : Nat) : WQ G d mX0_lastBehind 0 [some (.ref 96), some (.int (dI w))] [] (t, sl, gh S V P A B Q) (fun r h' => r = some (.int (dI (lbN bl w))) ∧ h' = (t, sl, gh S V P A B Q)) := by
  refine WQ.st (fun _ _ kz => pw_aload0 dX0_lastBehind_0 kz) ?_
  refine WQ.st (fun _ _ kz => pw_geti gX0_15 dX0_lastBehind_1 (cf_s96 hC) kz) ?_
  rw [h1]
  refine WQ.br (fun _ _ ka kb => pw_if_eq (tgt := 11) dX0_lastBehind_4 (by decide) ka kb) (fun c4 => ?_) (fun c4 => ?_)
  · rw [bI_0] at c4
    refine WQ.st (fun _ _ kz => pw_iconst (v := 0) dX0_lastBehind_11 (by decide) kz) ?_
    refine ⟨_, _, pw_iret dX0_lastBehind_12 rfl rfl rfl rfl, ?_⟩
    exact ⟨by rw [c4]; rfl, rfl⟩
  · rw [bI_n] at c4
    refine WQ.st (fun _ _ kz => pw_iload1 dX0_lastBehind_7 kz) ?_
    refine WQ.st (fun _ _ kz => pw_goto (tgt := 12) dX0_lastBehind_8 (by decide) kz) ?_
    refine ⟨_, _, pw_iret dX0_lastBehind_12 rfl rfl rfl rfl, ?_⟩
    exact ⟨by rw [c4]; rfl, rfl⟩
set_option maxRecDepth 20000 in
theorem k_lastsAt {G : gT} {d : Nat} {S : sS} {V : sV} {P : sP} {A : sV} {B : sB} {Q : sP} {t sl : Nat} (hC : CF S P) {bl : Bool} (h1 : V 96 1 = bI bl) {b : Nat} (hb : b < 13) : WQ G d mX0_lastsAt 0 [some (.ref 96), some (.int (nI b))] [] (t, sl, gh S V P A B Q) (fun r h' => r = some (.int (if bl && decide (0 < b) then 2 else 0)) ∧ h' = (t, sl, gh S V P A B Q)) := by
  refine WQ.st (fun _ _ kz => pw_aload0 dX0_lastsAt_0 kz) ?_
  refine WQ.st (fun _ _ kz => pw_geti gX0_15 dX0_lastsAt_1 (cf_s96 hC) kz) ?_
  rw [h1]
  refine WQ.br (fun _ _ ka kb => pw_if_eq (tgt := 15) dX0_lastsAt_4 (by decide) ka kb) (fun c4 => ?_) (fun c4 => ?_)
  · rw [bI_0] at c4
    refine WQ.st (fun _ _ kz => pw_iconst (v := 0) dX0_lastsAt_15 (by decide) kz) ?_
    refine ⟨_, _, pw_iret dX0_lastsAt_16 rfl rfl rfl rfl, ?_⟩
    exact ⟨by rw [c4]; rfl, rfl⟩
  · rw [bI_n] at c4
    refine WQ.st (fun _ _ kz => pw_iload1 dX0_lastsAt_7 kz) ?_
    refine WQ.br (fun _ _ ka kb => pw_if_le (tgt := 15) dX0_lastsAt_8 (by decide) ka kb) (fun c8 => ?_) (fun c8 => ?_)
    · refine WQ.st (fun _ _ kz => pw_iconst (v := 0) dX0_lastsAt_15 (by decide) kz) ?_
      refine ⟨_, _, pw_iret dX0_lastsAt_16 rfl rfl rfl rfl, ?_⟩
      rw [le_i (ix_n (j := b) (by omega)) li_0] at c8
      exact ⟨by rw [c4, decide_eq_false (by omega)]; rfl, rfl⟩
    · refine WQ.st (fun _ _ kz => pw_iconst (v := 2) dX0_lastsAt_11 (by decide) kz) ?_
      refine WQ.st (fun _ _ kz => pw_goto (tgt := 16) dX0_lastsAt_12 (by decide) kz) ?_
      refine ⟨_, _, pw_iret dX0_lastsAt_16 rfl rfl rfl rfl, ?_⟩
      rw [le_i (ix_n (j := b) (by omega)) li_0] at c8
      exact ⟨by rw [c4, decide_eq_true (by omega)]; rfl, rfl⟩
def seeF (f : Nat → Int32) (b w d l s : Int32) : Nat → Int32 := pm_up (pm_up (pm_up (pm_up (pm_up f 3 b) 4 w) 5 d) 6 l) 7 s
set_option maxRecDepth 20000 in
theorem k_see {G : gT} {d : Nat} {S : sS} {V : sV} {P : sP} {A : sV} {B : sB} {Q : sP} {t sl : Nat} {al : Nat → Int32} {sh ls p tm q : Nat} (hK : KB S V P A B Q t al sh ls p tm q) {b : Nat} (hb : b < 12) (x y z : Int32) : WQ G d mX0_see 0 [some (.ref 96), some (.int (nI b)), some (.int x), some (.int y), some (.int z), none] [] (t, sl, gh S V P A B Q) (fun r h' => r = none ∧ h' = (t, sl, gh S V P (pm_up A 97 (seeF (A 97) (nI b) (al (15 + 12 * q + b)) z y x)) B Q)) := by
  have hq := hK.r.2.2
  have hsa := hK.sa
  refine WQ.st (fun _ _ kz => pw_aload0 dX0_see_0 kz) ?_
  refine WQ.st (fun _ _ kz => pw_getr gX0_33 dX0_see_1 (cf_s96 hK.cf) (cf_p96_7 hK.cf) kz) ?_
  refine WQ.st (fun _ _ kz => pw_iconst (v := 3) dX0_see_4 (by decide) kz) ?_
  refine WQ.st (fun _ _ kz => pw_iload1 dX0_see_5 kz) ?_
  refine WQ.st (fun _ _ kz => pw_ast (j := 3) dX0_see_6 (cf_s97 hK.cf) rfl (by omega)  kz) ?_
  refine WQ.st (fun _ _ kz => pw_aload0 dX0_see_7 kz) ?_
  refine WQ.st (fun _ _ kz => pw_geti gX0_28 dX0_see_8 (cf_s96 hK.cf) kz) ?_
  rw [hK.v6]
  refine WQ.st (fun _ _ kz => pw_bipush (v := 12) dX0_see_11 (by decide) kz) ?_
  refine WQ.st (fun _ _ kz => pw_imul dX0_see_13 kz) ?_
  refine WQ.st (fun _ _ kz => pw_iload1 dX0_see_14 kz) ?_
  refine WQ.st (fun _ _ kz => pw_iadd dX0_see_15 kz) ?_
  rw [show (12 : Int32) = nI 12 from rfl, pk_mul, nI_add]
  refine WQ.st (fun _ _ kz => pw_istore5 dX0_see_16 (by decide) (k := kz)) ?_
  refine WQ.st (fun _ _ kz => pw_aload0 dX0_see_18 kz) ?_
  refine WQ.st (fun _ _ kz => pw_getr gX0_33 dX0_see_19 (cf_s96 hK.cf) (cf_p96_7 hK.cf) kz) ?_
  refine WQ.st (fun _ _ kz => pw_iconst (v := 4) dX0_see_22 (by decide) kz) ?_
  refine WQ.st (fun _ _ kz => pw_iload5 dX0_see_23 kz) ?_
  refine WQ.br (fun _ _ ka kb => pw_if_lt (tgt := 54) dX0_see_25 (by decide) ka kb) (fun c25 => absurd c25 (by rw [lt_i (ix_n (j := q * 12 + b) (by omega)) li_0]; omega)) (fun c25 => ?_)
  refine WQ.st (fun _ _ kz => pw_iload5 dX0_see_28 kz) ?_
  refine WQ.st (fun _ _ kz => pw_aload0 dX0_see_30 kz) ?_
  refine WQ.st (fun _ _ kz => pw_getr gX0_63 dX0_see_31 (cf_s96 hK.cf) hK.p2 kz) ?_
  refine WQ.st (fun _ _ kz => pw_getr gX0_110 dX0_see_34 (sh_s0 hK.hsh) (sh_p0_0 hK.hsh) kz) ?_
  refine WQ.st (fun _ _ kz => pw_len dX0_see_37 (sh_s1 hK.hsh) (by decide) kz) ?_
  refine WQ.br (fun _ _ ka kb => pw_icmp_ge (tgt := 54) dX0_see_38 (by decide) ka kb) (fun c38 => absurd c38 (by rw [show Int32.ofNat 48 = nI 48 from rfl, le_i (ix_n (j := 48) (by omega)) (ix_n (j := q * 12 + b) (by omega))]; omega)) (fun c38 => ?_)
  refine WQ.st (fun _ _ kz => pw_aload0 dX0_see_41 kz) ?_
  refine WQ.st (fun _ _ kz => pw_getr gX0_63 dX0_see_42 (cf_s96 hK.cf) hK.p2 kz) ?_
  refine WQ.st (fun _ _ kz => pw_getr gX0_110 dX0_see_45 (sh_s0 hK.hsh) (sh_p0_0 hK.hsh) kz) ?_
  refine WQ.st (fun _ _ kz => pw_iload5 dX0_see_48 kz) ?_
  refine WQ.st (fun _ _ kz => pw_ald (j := q * 12 + b) dX0_see_50 (sh_s1 hK.hsh) (ix_n (by omega)) (by omega) kz) ?_
  rw [up2_na (by omega), hK.se.wa _ (by omega)]
  refine WQ.st (fun _ _ kz => pw_goto (tgt := 55) dX0_see_51 (by decide) kz) ?_
  refine WQ.st (fun _ _ kz => pw_ast (j := 4) dX0_see_55 (cf_s97 hK.cf) rfl (by omega)  kz) ?_
  refine WQ.st (fun _ _ kz => pw_aload0 dX0_see_56 kz) ?_
  refine WQ.st (fun _ _ kz => pw_getr gX0_33 dX0_see_57 (cf_s96 hK.cf) (cf_p96_7 hK.cf) kz) ?_
  refine WQ.st (fun _ _ kz => pw_iconst (v := 5) dX0_see_60 (by decide) kz) ?_
  refine WQ.st (fun _ _ kz => pw_iload4 dX0_see_61 kz) ?_
  refine WQ.st (fun _ _ kz => pw_ast (j := 5) dX0_see_63 (cf_s97 hK.cf) rfl (by omega)  kz) ?_
  refine WQ.st (fun _ _ kz => pw_aload0 dX0_see_64 kz) ?_
  refine WQ.st (fun _ _ kz => pw_getr gX0_33 dX0_see_65 (cf_s96 hK.cf) (cf_p96_7 hK.cf) kz) ?_
  refine WQ.st (fun _ _ kz => pw_bipush (v := 6) dX0_see_68 (by decide) kz) ?_
  refine WQ.st (fun _ _ kz => pw_iload3 dX0_see_70 kz) ?_
  refine WQ.st (fun _ _ kz => pw_ast (j := 6) dX0_see_71 (cf_s97 hK.cf) rfl (by omega)  kz) ?_
  refine WQ.st (fun _ _ kz => pw_aload0 dX0_see_72 kz) ?_
  refine WQ.st (fun _ _ kz => pw_getr gX0_33 dX0_see_73 (cf_s96 hK.cf) (cf_p96_7 hK.cf) kz) ?_
  refine WQ.st (fun _ _ kz => pw_bipush (v := 7) dX0_see_76 (by decide) kz) ?_
  refine WQ.st (fun _ _ kz => pw_iload2 dX0_see_78 kz) ?_
  refine WQ.st (fun _ _ kz => pw_ast (j := 7) dX0_see_79 (cf_s97 hK.cf) rfl (by omega)  kz) ?_
  refine ⟨_, _, pw_vret dX0_see_80 rfl rfl rfl, ?_⟩
  refine ⟨rfl, ?_⟩
  rw [up2_pm (A := A), up2_up, up2_up, up2_up, up2_up, show 15 + (q * 12 + b) = 15 + 12 * q + b by omega]
  rfl
theorem seeF_w {al : Nat → Int32} {p tm q b : Nat} {f : Nat → Int32} (h0 : f 0 = nI p) (h1 : f 1 = nI tm) (h2 : f 2 = nI q) (hp : p < 5) (hq : q < 4) (hb : b < 12) (d l s : Int32) : ∀ i, i < 8 → seeF f (nI b) (al (15 + 12 * q + b)) d l s i = rf_w (atm al p tm) p q b d l s i := by
  intro i hi
  have e1 : atm al p tm (87 + p) = nI tm := pm_up_eq
  have e4 : atm al p tm (15 + 12 * q + b) = al (15 + 12 * q + b) := pm_up_ne (by omega)
  unfold rf_w
  rw [e1, e4]
  rcases (show i = 0 ∨ i = 1 ∨ i = 2 ∨ i = 3 ∨ i = 4 ∨ i = 5 ∨ i = 6 ∨ i = 7 by omega) with rfl | rfl | rfl | rfl | rfl | rfl | rfl | rfl
  · exact h0
  · exact h1
  · exact h2
  · rfl
  · rfl
  · rfl
  · rfl
  · rfl
theorem seeF_4 {f : Nat → Int32} {b w d l s : Int32} : seeF f b w d l s 4 = w := rfl
set_option maxRecDepth 20000 in
theorem k_law {G : gT} {d : Nat} {S : sS} {V : sV} {P : sP} {A : sV} {B : sB} {Q : sP} {t sl : Nat} {a : Nat} (hT : LA S P a) (hw : S 97 = (20, 8)) (hk : S 98 = (20, 64)) (ha : a + 1 ≠ 98) {al : Nat → Int32} {law : Nat} {cs : List Int32} (hL : LwE V A a (some cs)) (hlw : LW al law (some cs)) (hb : rk_hb 64 cs 0) {w : Nat → Int32} (hs : ∀ i, i < 8 → A 97 i = w i) : WQ G (d + 1) mX4_valueOf 0 [some (.ref a), some (.ref 97), some (.ref 98), none, none, none, none] [] (t, sl, gh S V P A B Q) (fun r h' => r = some (.int (rkv w cs)) ∧ ∃ R' : Nat → Int32, h' = (t, sl, gh S V P (pm_up A 98 R') B Q)) := by
  have hok := hlw.ok
  have h9 := law9 hlw
  obtain ⟨-, fr, -, -, -, -, hdep⟩ := hlw
  refine k_valueOf (cs := cs) hT hw hk (fun q => ha q.symm) (by decide) hL.1 h9 (fun i c hc => ⟨hL.2.1 i c hc, hok c (List.mem_of_getElem? hc)⟩) hb ?_
  rw [rkS_cong hs cs [] hok]
  exact rkv_of hdep
theorem hb_gs {cs : List Int32} (h : GS 64 cs) : rk_hb 64 cs 0 := by
  have := h.hb 64 0 [] (by omega) trivial
  rw [List.append_nil] at this
  exact this
theorem hb_ts {cs : List Int32} (h : TS 64 cs) : rk_hb 64 cs 0 := by
  have := h.hb 64 0 [] (by omega) trivial
  rw [List.append_nil] at this
  exact this
set_option maxRecDepth 20000 in
theorem k_gladBy {G : gT} {d : Nat} {S : sS} {V : sV} {P : sP} {A : sV} {B : sB} {Q : sP} {t sl : Nat} {al : Nat → Int32} {sh ls p tm q : Nat} (hK : KB S V P A B Q t al sh ls p tm q) {b : Nat} (hb : b < 12) (x y z : Int32) : WQ G (d + 2) mX0_gladBy 0 [some (.ref 96), some (.int (nI b)), some (.int x), some (.int y), some (.int z)] [] (t, sl, gh S V P A B Q) (fun r h' => r = some (.int (rf_glad (atm al p tm) (lawL al 0) p q b z y x)) ∧ ∃ A' : sV, h' = (t, sl, gh S V P A' B Q) ∧ ∀ x, x ≠ 97 → x ≠ 98 → A' x = A x) := by
  have hq := hK.r.2.2
  have hsa := hK.sa
  obtain ⟨c0, n0, st0, u1, u2, u3, u4, u5, u6, u7, u8, u9, w0, w1, w2⟩ := hK.cu
  refine WQ.st (fun _ _ kz => pw_aload0 dX0_gladBy_0 kz) ?_
  refine WQ.st (fun _ _ kz => pw_iload1 dX0_gladBy_1 kz) ?_
  refine WQ.st (fun _ _ kz => pw_iload2 dX0_gladBy_2 kz) ?_
  refine WQ.st (fun _ _ kz => pw_iload3 dX0_gladBy_3 kz) ?_
  refine WQ.st (fun _ _ kz => pw_iload4 dX0_gladBy_4 kz) ?_
  refine wq_o4v wX0_see lX0_95 rfl dX0_gladBy_6 (cf_s96 hK.cf) (k_see hK hb _ _ _) rfl (Nat.le_of_ble_eq_true rfl) (Nat.le_of_ble_eq_true rfl) (fun h6 z6 => ?_)
  subst z6
  have fk : LwE V (pm_up A 97 (seeF (A 97) (nI b) (al (15 + 12 * q + b)) z y x)) (sh + 5) (lawL al 0) := hK.se.gl.fr rfl (pm_up_ne (by omega))
  have fm : LwE V (pm_up A 97 (seeF (A 97) (nI b) (al (15 + 12 * q + b)) z y x)) (sh + 7) (lawL al 1) := hK.se.ml.fr rfl (pm_up_ne (by omega))
  have hsee : ∀ i, i < 8 → pm_up A 97 (seeF (A 97) (nI b) (al (15 + 12 * q + b)) z y x) 97 i = rf_w (atm al p tm) p q b z y x i := fun i hi => by rw [pm_up_eq]; exact seeF_w w0 w1 w2 hK.r.1 hq hb z y x i hi
  refine WQ.st (fun _ _ kz => pw_aload0 dX0_gladBy_9 kz) ?_
  refine WQ.st (fun _ _ kz => pw_getr gX0_63 dX0_gladBy_10 (cf_s96 hK.cf) hK.p2 kz) ?_
  refine WQ.st (fun _ _ kz => pw_getr gX0_77 dX0_gladBy_13 (sh_s0 hK.hsh) (sh_p0_4 hK.hsh) kz) ?_
  refine wq_o0i wX4_isTold lX0_99 rfl dX0_gladBy_16 (sh_s5 hK.hsh) (k_told hK.hsh.glad fk (law9 hK.dv.gl)) rfl (Nat.le_of_ble_eq_true rfl) (Nat.le_of_ble_eq_true rfl) (fun h16 z16 => ?_)
  subst z16
  refine WQ.br (fun _ _ ka kb => pw_if_eq (tgt := 43) dX0_gladBy_19 (by decide) ka kb) (fun c19 => ?_) (fun c19 => ?_)
  · rw [bI_0] at c19
    have hcs := Option.isNone_iff_eq_none.mp (by rw [← Option.not_isSome, c19]; rfl)
    refine WQ.st (fun _ _ kz => pw_aload0 dX0_gladBy_43 kz) ?_
    refine WQ.st (fun _ _ kz => pw_getr gX0_33 dX0_gladBy_44 (cf_s96 hK.cf) (cf_p96_7 hK.cf) kz) ?_
    refine WQ.st (fun _ _ kz => pw_iconst (v := 4) dX0_gladBy_47 (by decide) kz) ?_
    refine WQ.st (fun _ _ kz => pw_ald (j := 4) dX0_gladBy_48 (cf_s97 hK.cf) rfl (by omega) kz) ?_
    rw [pm_up_eq, seeF_4]
    refine WQ.st (fun _ _ kz => pw_iload4 dX0_gladBy_49 kz) ?_
    refine WQ.st (fun _ _ kz => pw_imul dX0_gladBy_51 kz) ?_
    refine ⟨_, _, pw_iret dX0_gladBy_52 rfl rfl rfl rfl, ?_⟩
    rw [hcs]
    exact ⟨rI (congrArg (· * z) (pm_up_ne (show 15 + 12 * q + b ≠ 87 + p by omega)).symm), _, rfl, fun x h1 h2 => pm_up_ne h1⟩
  · rw [bI_n] at c19
    obtain ⟨cs, hcs⟩ := Option.isSome_iff_exists.mp c19
    refine WQ.st (fun _ _ kz => pw_aload0 dX0_gladBy_22 kz) ?_
    refine WQ.st (fun _ _ kz => pw_getr gX0_63 dX0_gladBy_23 (cf_s96 hK.cf) hK.p2 kz) ?_
    refine WQ.st (fun _ _ kz => pw_getr gX0_77 dX0_gladBy_26 (sh_s0 hK.hsh) (sh_p0_4 hK.hsh) kz) ?_
    refine WQ.st (fun _ _ kz => pw_aload0 dX0_gladBy_29 kz) ?_
    refine WQ.st (fun _ _ kz => pw_getr gX0_33 dX0_gladBy_30 (cf_s96 hK.cf) (cf_p96_7 hK.cf) kz) ?_
    refine WQ.st (fun _ _ kz => pw_aload0 dX0_gladBy_33 kz) ?_
    refine WQ.st (fun _ _ kz => pw_getr gX0_39 dX0_gladBy_34 (cf_s96 hK.cf) (cf_p96_8 hK.cf) kz) ?_
    refine wq_o2i wX4_valueOf lX0_103 rfl dX0_gladBy_37 (sh_s5 hK.hsh) (k_law hK.hsh.glad (cf_s97 hK.cf) (cf_s98 hK.cf) (by omega) (hcs ▸ fk) (hcs ▸ hK.dv.gl) (hb_gs (hK.dv.gs cs hcs)) hsee) rfl (Nat.le_of_ble_eq_true rfl) (Nat.le_of_ble_eq_true rfl) (fun h37 z37 => ?_)
    obtain ⟨R1, rfl⟩ := z37
    refine WQ.st (fun _ _ kz => pw_goto (tgt := 52) dX0_gladBy_40 (by decide) kz) ?_
    refine ⟨_, _, pw_iret dX0_gladBy_52 rfl rfl rfl rfl, ?_⟩
    rw [hcs]
    exact ⟨rfl, _, rfl, fun x h1 h2 => by rw [pm_up_ne h2, pm_up_ne h1]⟩
