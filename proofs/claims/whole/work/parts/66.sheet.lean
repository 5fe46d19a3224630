/-! ===== the class: a sheet beside the reference's row ===== -/
/-- a Law holds a law's code -/
def LwE (V A : sV) (a : Nat) (g : Option (List Int32)) : Prop := V a 1 = nI (g.getD []).length ∧ (∀ (i : Nat) (c : Int32), (g.getD [])[i]? = some c → A (a + 1) i = ctk c) ∧ g ≠ some [] ∧ ∀ w : Nat, w < 8 → decide (¬ (V a 2 >>> (nI w &&& 31)) &&& 1 = 0) = askd g w
/-- a Sheet holds what a desk tells -/
def ShE (V A : sV) (a : Nat) (al : Nat → Int32) : Prop := V a 9 = al 0 ∧ V a 6 = al 1 ∧ V a 7 = al 2 ∧ V a 8 = al 3 ∧ (∀ i, i < 48 → A (a + 1) i = al (15 + i)) ∧ (∀ q, q < 4 → A (a + 2) q = al (10 + q)) ∧ LwE V A (a + 5) (lawL al 0) ∧ LwE V A (a + 7) (lawL al 1)
theorem ShE.li {V A : sV} {a : Nat} {al : Nat → Int32} (h : ShE V A a al) : V a 9 = al 0 := h.1
theorem ShE.pc {V A : sV} {a : Nat} {al : Nat → Int32} (h : ShE V A a al) : V a 6 = al 1 := h.2.1
theorem ShE.pl {V A : sV} {a : Nat} {al : Nat → Int32} (h : ShE V A a al) : V a 7 = al 2 := h.2.2.1
theorem ShE.sl {V A : sV} {a : Nat} {al : Nat → Int32} (h : ShE V A a al) : V a 8 = al 3 := h.2.2.2.1
theorem ShE.wa {V A : sV} {a : Nat} {al : Nat → Int32} (h : ShE V A a al) : ∀ i, i < 48 → A (a + 1) i = al (15 + i) := h.2.2.2.2.1
theorem ShE.ba {V A : sV} {a : Nat} {al : Nat → Int32} (h : ShE V A a al) : ∀ q, q < 4 → A (a + 2) q = al (10 + q) := h.2.2.2.2.2.1
theorem ShE.gl {V A : sV} {a : Nat} {al : Nat → Int32} (h : ShE V A a al) : LwE V A (a + 5) (lawL al 0) := h.2.2.2.2.2.2.1
theorem ShE.ml {V A : sV} {a : Nat} {al : Nat → Int32} (h : ShE V A a al) : LwE V A (a + 7) (lawL al 1) := h.2.2.2.2.2.2.2
theorem ShE.cong {V A : sV} {a : Nat} {al al' : Nat → Int32} (h : ShE V A a al) (hD : DV al) (he : ∀ i, i < 75 ∨ (263 ≤ i ∧ i < 1164) → al' i = al i) : ShE V A a al' := by
  refine ⟨?_, ?_, ?_, ?_, fun i hi => ?_, fun q hq => ?_, ?_, ?_⟩
  · rw [he 0 (by omega)]; exact h.li
  · rw [he 1 (by omega)]; exact h.pc
  · rw [he 2 (by omega)]; exact h.pl
  · rw [he 3 (by omega)]; exact h.sl
  · rw [he _ (by omega)]; exact h.wa i hi
  · rw [he _ (by omega)]; exact h.ba q hq
  · rw [lawL_cong he (by omega) hD.gl]; exact h.gl
  · rw [lawL_cong he (by omega) hD.ml]; exact h.ml
theorem LwE.fr {V A V' A' : sV} {a : Nat} {g : Option (List Int32)} (h : LwE V A a g) (hV : V' a = V a) (hA : A' (a + 1) = A (a + 1)) : LwE V' A' a g := by
  unfold LwE
  rw [hV, hA]
  exact h
theorem ShE.fr {V A V' A' : sV} {a : Nat} {al : Nat → Int32} (h : ShE V A a al) (hV : ∀ x, a ≤ x → x < a + 9 → V' x = V x) (hA : ∀ x, a ≤ x → x < a + 9 → A' x = A x) : ShE V' A' a al := by
  have v0 := hV a (by omega) (by omega)
  refine ⟨?_, ?_, ?_, ?_, fun i hi => ?_, fun q hq => ?_, h.gl.fr (hV _ (by omega) (by omega)) (hA _ (by omega) (by omega)), h.ml.fr (hV _ (by omega) (by omega)) (hA _ (by omega) (by omega))⟩
  · rw [v0]; exact h.li
  · rw [v0]; exact h.pc
  · rw [v0]; exact h.pl
  · rw [v0]; exact h.sl
  · rw [hA _ (by omega) (by omega)]; exact h.wa i hi
  · rw [hA _ (by omega) (by omega)]; exact h.ba q hq
theorem law9 {al : Nat → Int32} {law : Nat} {g : Option (List Int32)} (h : LW al law g) : (g.getD []).length ≤ 900 := by
  cases g with
  | none => exact Nat.zero_le _
  | some cs =>
    obtain ⟨_, fr, _, _, h3, _⟩ := h
    show cs.length ≤ 900
    omega
set_option maxRecDepth 20000 in
theorem k_hasPiece {G : gT} {d : Nat} {S : sS} {V : sV} {P : sP} {A : sV} {B : sB} {Q : sP} {t sl : Nat} {a : Nat} (hT : SH S P a) {al : Nat → Int32} (hE : ShE V A a al) (hD : DV al) (x : Int32) : WQ G d mX7_hasPiece 0 [some (.ref a), some (.int x)] [] (t, sl, gh S V P A B Q) (fun r h' => r = some (.int (bI (isQ al x.toInt))) ∧ h' = (t, sl, gh S V P A B Q)) := by
  refine WQ.st (fun _ _ kz => pw_iload1 dX7_hasPiece_0 kz) ?_
  refine WQ.br (fun _ _ ka kb => pw_if_lt (tgt := 25) dX7_hasPiece_1 (by decide) ka kb) (fun c1 => ?_) (fun c1 => ?_)
  · refine WQ.st (fun _ _ kz => pw_iconst (v := 0) dX7_hasPiece_25 (by decide) kz) ?_
    refine ⟨_, _, pw_iret dX7_hasPiece_26 rfl rfl rfl rfl, ?_⟩
    have e : isQ al x.toInt = false := decide_eq_false (fun q => by rw [lt_i rfl li_0] at c1; omega)
    exact ⟨by rw [e]; rfl, rfl⟩
  · refine WQ.st (fun _ _ kz => pw_iload1 dX7_hasPiece_4 kz) ?_
    refine WQ.st (fun _ _ kz => pw_aload0 dX7_hasPiece_5 kz) ?_
    refine WQ.st (fun _ _ kz => pw_geti gX7_34 dX7_hasPiece_6 (sh_s0 hT) kz) ?_
    rw [hE.pc]
    refine WQ.br (fun _ _ ka kb => pw_icmp_ge (tgt := 25) dX7_hasPiece_9 (by decide) ka kb) (fun c9 => ?_) (fun c9 => ?_)
    · refine WQ.st (fun _ _ kz => pw_iconst (v := 0) dX7_hasPiece_25 (by decide) kz) ?_
      refine ⟨_, _, pw_iret dX7_hasPiece_26 rfl rfl rfl rfl, ?_⟩
      have e : isQ al x.toInt = false := decide_eq_false (fun q => by rw [le_i rfl rfl] at c9; omega)
      exact ⟨by rw [e]; rfl, rfl⟩
    · refine WQ.st (fun _ _ kz => pw_iload1 dX7_hasPiece_12 kz) ?_
      refine WQ.st (fun _ _ kz => pw_aload0 dX7_hasPiece_13 kz) ?_
      refine WQ.st (fun _ _ kz => pw_getr gX7_15 dX7_hasPiece_14 (sh_s0 hT) (sh_p0_1 hT) kz) ?_
      refine WQ.st (fun _ _ kz => pw_len dX7_hasPiece_17 (sh_s2 hT) (by decide) kz) ?_
      refine WQ.br (fun _ _ ka kb => pw_icmp_ge (tgt := 25) dX7_hasPiece_18 (by decide) ka kb) (fun c18 => absurd c18 (by rw [show Int32.ofNat 4 = nI 4 from rfl, le_i (ix_n (j := 4) (by omega)) rfl]; rw [le_i rfl rfl] at c9; have := hD.n4; omega)) (fun c18 => ?_)
      refine WQ.st (fun _ _ kz => pw_iconst (v := 1) dX7_hasPiece_21 (by decide) kz) ?_
      refine WQ.st (fun _ _ kz => pw_goto (tgt := 26) dX7_hasPiece_22 (by decide) kz) ?_
      refine ⟨_, _, pw_iret dX7_hasPiece_26 rfl rfl rfl rfl, ?_⟩
      have e : isQ al x.toInt = true := decide_eq_true (by rw [le_i rfl rfl] at c9; rw [lt_i rfl li_0] at c1; omega)
      exact ⟨by rw [e]; rfl, rfl⟩
set_option maxRecDepth 20000 in
theorem k_hasPlayer {G : gT} {d : Nat} {S : sS} {V : sV} {P : sP} {A : sV} {B : sB} {Q : sP} {t sl : Nat} {a : Nat} (hT : SH S P a) {al : Nat → Int32} (hE : ShE V A a al) (hD : DV al) (x : Int32) : WQ G d mX7_hasPlayer 0 [some (.ref a), some (.int x)] [] (t, sl, gh S V P A B Q) (fun r h' => r = some (.int (bI (isP al x.toInt))) ∧ h' = (t, sl, gh S V P A B Q)) := by
  refine WQ.st (fun _ _ kz => pw_iload1 dX7_hasPlayer_0 kz) ?_
  refine WQ.br (fun _ _ ka kb => pw_if_lt (tgt := 25) dX7_hasPlayer_1 (by decide) ka kb) (fun c1 => ?_) (fun c1 => ?_)
  · refine WQ.st (fun _ _ kz => pw_iconst (v := 0) dX7_hasPlayer_25 (by decide) kz) ?_
    refine ⟨_, _, pw_iret dX7_hasPlayer_26 rfl rfl rfl rfl, ?_⟩
    have e : isP al x.toInt = false := decide_eq_false (fun q => by rw [lt_i rfl li_0] at c1; omega)
    exact ⟨by rw [e]; rfl, rfl⟩
  · refine WQ.st (fun _ _ kz => pw_iload1 dX7_hasPlayer_4 kz) ?_
    refine WQ.st (fun _ _ kz => pw_aload0 dX7_hasPlayer_5 kz) ?_
    refine WQ.st (fun _ _ kz => pw_geti gX7_38 dX7_hasPlayer_6 (sh_s0 hT) kz) ?_
    rw [hE.pl]
    refine WQ.br (fun _ _ ka kb => pw_icmp_ge (tgt := 25) dX7_hasPlayer_9 (by decide) ka kb) (fun c9 => ?_) (fun c9 => ?_)
    · refine WQ.st (fun _ _ kz => pw_iconst (v := 0) dX7_hasPlayer_25 (by decide) kz) ?_
      refine ⟨_, _, pw_iret dX7_hasPlayer_26 rfl rfl rfl rfl, ?_⟩
      have e : isP al x.toInt = false := decide_eq_false (fun q => by rw [le_i rfl rfl] at c9; omega)
      exact ⟨by rw [e]; rfl, rfl⟩
    · refine WQ.st (fun _ _ kz => pw_iload1 dX7_hasPlayer_12 kz) ?_
      refine WQ.st (fun _ _ kz => pw_aload0 dX7_hasPlayer_13 kz) ?_
      refine WQ.st (fun _ _ kz => pw_getr gX7_18 dX7_hasPlayer_14 (sh_s0 hT) (sh_p0_2 hT) kz) ?_
      refine WQ.st (fun _ _ kz => pw_len dX7_hasPlayer_17 (sh_s3 hT) (by decide) kz) ?_
      refine WQ.br (fun _ _ ka kb => pw_icmp_ge (tgt := 25) dX7_hasPlayer_18 (by decide) ka kb) (fun c18 => absurd c18 (by rw [show Int32.ofNat 5 = nI 5 from rfl, le_i (ix_n (j := 5) (by omega)) rfl]; rw [le_i rfl rfl] at c9; have := hD.p5; omega)) (fun c18 => ?_)
      refine WQ.st (fun _ _ kz => pw_iconst (v := 1) dX7_hasPlayer_21 (by decide) kz) ?_
      refine WQ.st (fun _ _ kz => pw_goto (tgt := 26) dX7_hasPlayer_22 (by decide) kz) ?_
      refine ⟨_, _, pw_iret dX7_hasPlayer_26 rfl rfl rfl rfl, ?_⟩
      have e : isP al x.toInt = true := decide_eq_true (by rw [le_i rfl rfl] at c9; rw [lt_i rfl li_0] at c1; omega)
      exact ⟨by rw [e]; rfl, rfl⟩
set_option maxRecDepth 20000 in
theorem k_hasBar {G : gT} {d : Nat} {S : sS} {V : sV} {P : sP} {A : sV} {B : sB} {Q : sP} {t sl : Nat} {a : Nat} (hT : SH S P a) {al : Nat → Int32} (hE : ShE V A a al) (hD : DV al) (x y : Int32) : WQ G (d + 1) mX7_hasBar 0 [some (.ref a), some (.int x), some (.int y)] [] (t, sl, gh S V P A B Q) (fun r h' => r = some (.int (bI (isB al x.toInt y.toInt))) ∧ h' = (t, sl, gh S V P A B Q)) := by
  refine WQ.st (fun _ _ kz => pw_aload0 dX7_hasBar_0 kz) ?_
  refine WQ.st (fun _ _ kz => pw_iload1 dX7_hasBar_1 kz) ?_
  refine wq_o1i wX7_hasPiece lX7_56 rfl dX7_hasBar_2 (sh_s0 hT) (k_hasPiece hT hE hD _) rfl (Nat.le_of_ble_eq_true rfl) (Nat.le_of_ble_eq_true rfl) (fun h2 z2 => ?_)
  subst z2
  refine WQ.br (fun _ _ ka kb => pw_if_eq (tgt := 32) dX7_hasBar_5 (by decide) ka kb) (fun c5 => ?_) (fun c5 => ?_)
  · rw [bI_0] at c5
    refine WQ.st (fun _ _ kz => pw_iconst (v := 0) dX7_hasBar_32 (by decide) kz) ?_
    refine ⟨_, _, pw_iret dX7_hasBar_33 rfl rfl rfl rfl, ?_⟩
    have e : isB al x.toInt y.toInt = false := by
      unfold isB
      rw [c5, Bool.false_and]
    exact ⟨by rw [e]; rfl, rfl⟩
  · rw [bI_n] at c5
    have g := isQ_t c5
    have hn4 := hD.n4
    obtain ⟨q, rfl, tq, lq⟩ := nI_get g.1 g.2 (by omega)
    have hq : q < 4 := by omega
    have h12 := hD.lg q hq
    refine WQ.st (fun _ _ kz => pw_iload2 dX7_hasBar_8 kz) ?_
    refine WQ.br (fun _ _ ka kb => pw_if_lt (tgt := 32) dX7_hasBar_9 (by decide) ka kb) (fun c9 => ?_) (fun c9 => ?_)
    · refine WQ.st (fun _ _ kz => pw_iconst (v := 0) dX7_hasBar_32 (by decide) kz) ?_
      refine ⟨_, _, pw_iret dX7_hasBar_33 rfl rfl rfl rfl, ?_⟩
      have e : isB al (nI q).toInt y.toInt = false := by
        unfold isB
        rw [c5, Bool.true_and, decide_eq_false (fun q => by rw [lt_i rfl li_0] at c9; omega)]
      exact ⟨by rw [e]; rfl, rfl⟩
    · refine WQ.st (fun _ _ kz => pw_iload2 dX7_hasBar_12 kz) ?_
      refine WQ.st (fun _ _ kz => pw_aload0 dX7_hasBar_13 kz) ?_
      refine WQ.st (fun _ _ kz => pw_getr gX7_15 dX7_hasBar_14 (sh_s0 hT) (sh_p0_1 hT) kz) ?_
      refine WQ.st (fun _ _ kz => pw_iload1 dX7_hasBar_17 kz) ?_
      refine WQ.st (fun _ _ kz => pw_ald (j := q) dX7_hasBar_18 (sh_s2 hT) (ix_m rfl (by omega)) (by omega) kz) ?_
      rw [hE.ba q hq]
      refine WQ.br (fun _ _ ka kb => pw_icmp_ge (tgt := 32) dX7_hasBar_19 (by decide) ka kb) (fun c19 => ?_) (fun c19 => ?_)
      · refine WQ.st (fun _ _ kz => pw_iconst (v := 0) dX7_hasBar_32 (by decide) kz) ?_
        refine ⟨_, _, pw_iret dX7_hasBar_33 rfl rfl rfl rfl, ?_⟩
        have e : isB al (nI q).toInt y.toInt = false := by
          unfold isB
          rw [c5, Bool.true_and, tq, Int.toNat_natCast, decide_eq_false (fun q => by rw [le_i rfl rfl] at c19; omega)]
        exact ⟨by rw [e]; rfl, rfl⟩
      · refine WQ.st (fun _ _ kz => pw_iload2 dX7_hasBar_22 kz) ?_
        refine WQ.st (fun _ _ kz => pw_bipush (v := 12) dX7_hasBar_23 (by decide) kz) ?_
        refine WQ.br (fun _ _ ka kb => pw_icmp_ge (tgt := 32) dX7_hasBar_25 (by decide) ka kb) (fun c25 => absurd c25 (by rw [le_i li_12 rfl]; rw [le_i rfl rfl] at c19; omega)) (fun c25 => ?_)
        refine WQ.st (fun _ _ kz => pw_iconst (v := 1) dX7_hasBar_28 (by decide) kz) ?_
        refine WQ.st (fun _ _ kz => pw_goto (tgt := 33) dX7_hasBar_29 (by decide) kz) ?_
        refine ⟨_, _, pw_iret dX7_hasBar_33 rfl rfl rfl rfl, ?_⟩
        have e : isB al (nI q).toInt y.toInt = true := by
          unfold isB
          rw [c5, Bool.true_and, tq, Int.toNat_natCast, decide_eq_true (by rw [le_i rfl rfl] at c19; rw [lt_i rfl li_0] at c9; omega)]
        exact ⟨by rw [e]; rfl, rfl⟩
set_option maxRecDepth 20000 in
theorem k_barsOf {G : gT} {d : Nat} {S : sS} {V : sV} {P : sP} {A : sV} {B : sB} {Q : sP} {t sl : Nat} {a : Nat} (hT : SH S P a) {al : Nat → Int32} (hE : ShE V A a al) (hD : DV al) {q : Nat} (hq : q < 4) (hx : isQ al (nI q).toInt = true) : WQ G (d + 1) mX7_barsOf 0 [some (.ref a), some (.int (nI q))] [] (t, sl, gh S V P A B Q) (fun r h' => r = some (.int (al (10 + q))) ∧ h' = (t, sl, gh S V P A B Q)) := by
  refine WQ.st (fun _ _ kz => pw_aload0 dX7_barsOf_0 kz) ?_
  refine WQ.st (fun _ _ kz => pw_iload1 dX7_barsOf_1 kz) ?_
  refine wq_o1i wX7_hasPiece lX7_56 rfl dX7_barsOf_2 (sh_s0 hT) (k_hasPiece hT hE hD _) rfl (Nat.le_of_ble_eq_true rfl) (Nat.le_of_ble_eq_true rfl) (fun h2 z2 => ?_)
  subst z2
  refine WQ.br (fun _ _ ka kb => pw_if_eq (tgt := 17) dX7_barsOf_5 (by decide) ka kb) (fun c5 => absurd c5 (by rw [hx]; decide)) (fun c5 => ?_)
  refine WQ.st (fun _ _ kz => pw_aload0 dX7_barsOf_8 kz) ?_
  refine WQ.st (fun _ _ kz => pw_getr gX7_15 dX7_barsOf_9 (sh_s0 hT) (sh_p0_1 hT) kz) ?_
  refine WQ.st (fun _ _ kz => pw_iload1 dX7_barsOf_12 kz) ?_
  refine WQ.st (fun _ _ kz => pw_ald (j := q) dX7_barsOf_13 (sh_s2 hT) (ix_m rfl (by omega)) (by omega) kz) ?_
  rw [hE.ba q hq]
  refine WQ.st (fun _ _ kz => pw_goto (tgt := 18) dX7_barsOf_14 (by decide) kz) ?_
  refine ⟨_, _, pw_iret dX7_barsOf_18 rfl rfl rfl rfl, ?_⟩
  exact ⟨rfl, rfl⟩
set_option maxRecDepth 20000 in
theorem k_wantOf {G : gT} {d : Nat} {S : sS} {V : sV} {P : sP} {A : sV} {B : sB} {Q : sP} {t sl : Nat} {a : Nat} (hT : SH S P a) {al : Nat → Int32} (hE : ShE V A a al) (hD : DV al) {q b : Nat} (hq : q < 4) (hb : b < 12) (hx : isB al (nI q).toInt (nI b).toInt = true) : WQ G (d + 2) mX7_wantOf 0 [some (.ref a), some (.int (nI q)), some (.int (nI b))] [] (t, sl, gh S V P A B Q) (fun r h' => r = some (.int (al (15 + (12 * q + b)))) ∧ h' = (t, sl, gh S V P A B Q)) := by
  refine WQ.st (fun _ _ kz => pw_aload0 dX7_wantOf_0 kz) ?_
  refine WQ.st (fun _ _ kz => pw_iload1 dX7_wantOf_1 kz) ?_
  refine WQ.st (fun _ _ kz => pw_iload2 dX7_wantOf_2 kz) ?_
  refine wq_o2i wX7_hasBar lX7_60 rfl dX7_wantOf_3 (sh_s0 hT) (k_hasBar hT hE hD _ _) rfl (Nat.le_of_ble_eq_true rfl) (Nat.le_of_ble_eq_true rfl) (fun h3 z3 => ?_)
  subst z3
  refine WQ.br (fun _ _ ka kb => pw_if_eq (tgt := 23) dX7_wantOf_6 (by decide) ka kb) (fun c6 => absurd c6 (by rw [hx]; decide)) (fun c6 => ?_)
  refine WQ.st (fun _ _ kz => pw_aload0 dX7_wantOf_9 kz) ?_
  refine WQ.st (fun _ _ kz => pw_getr gX7_9 dX7_wantOf_10 (sh_s0 hT) (sh_p0_0 hT) kz) ?_
  refine WQ.st (fun _ _ kz => pw_iload1 dX7_wantOf_13 kz) ?_
  refine WQ.st (fun _ _ kz => pw_bipush (v := 12) dX7_wantOf_14 (by decide) kz) ?_
  refine WQ.st (fun _ _ kz => pw_imul dX7_wantOf_16 kz) ?_
  refine WQ.st (fun _ _ kz => pw_iload2 dX7_wantOf_17 kz) ?_
  refine WQ.st (fun _ _ kz => pw_iadd dX7_wantOf_18 kz) ?_
  refine WQ.st (fun _ _ kz => pw_ald (j := 12 * q + b) dX7_wantOf_19 (sh_s1 hT) (by rw [show (12 : Int32) = nI 12 from rfl, pk_mul, nI_add]; exact ix_m (by omega) (by omega)) (by omega) kz) ?_
  rw [hE.wa _ (by omega)]
  refine WQ.st (fun _ _ kz => pw_goto (tgt := 24) dX7_wantOf_20 (by decide) kz) ?_
  refine ⟨_, _, pw_iret dX7_wantOf_24 rfl rfl rfl rfl, ?_⟩
  exact ⟨rfl, rfl⟩
theorem isQ_nI {al : Nat → Int32} {n k : Nat} (hn : al 1 = nI n) (hn4 : n ≤ 4) (hk : k < n) : isQ al (nI k).toInt = true := by
  unfold isQ
  rw [hn, nI_toInt (by omega), nI_toInt (by omega)]
  exact decide_eq_true (by omega)
theorem isP_nI {al : Nat → Int32} {n k : Nat} (hn : al 2 = nI n) (hn4 : n ≤ 5) (hk : k < n) : isP al (nI k).toInt = true := by
  unfold isP
  rw [hn, nI_toInt (by omega), nI_toInt (by omega)]
  exact decide_eq_true (by omega)
set_option maxRecDepth 20000 in
theorem l_allBars {G : gT} {d : Nat} {S : sS} {V : sV} {P : sP} {A : sV} {B : sB} {Q : sP} {t sl : Nat} {a : Nat} (hT : SH S P a) {al : Nat → Int32} (hE : ShE V A a al) (hD : DV al) {n : Nat} (hn : al 1 = nI n) (hn4 : n ≤ 4) : ∀ (m k : Nat), k + m = n → WQ G (d + 2) mX7_allBars 4 [some (.ref a), some (.int (smI (fun p => al (10 + p)) k)), some (.int (nI k))] [] (t, sl, gh S V P A B Q) (fun r h' => r = some (.int (smI (fun p => al (10 + p)) n)) ∧ h' = (t, sl, gh S V P A B Q)) := by
  intro m
  induction m with
  | zero =>
    intro k hk
    have hk : k = n := hk
    subst hk
    refine WQ.st (fun _ _ kz => pw_iload2 dX7_allBars_4 kz) ?_
    refine WQ.st (fun _ _ kz => pw_aload0 dX7_allBars_5 kz) ?_
    refine WQ.st (fun _ _ kz => pw_geti gX7_34 dX7_allBars_6 (sh_s0 hT) kz) ?_
    rw [hE.pc, hn]
    refine WQ.br (fun _ _ ka kb => pw_icmp_ge (tgt := 26) dX7_allBars_9 (by decide) ka kb) (fun c9 => ?_) (fun c9 => absurd (Int32.le_refl _) c9)
    refine WQ.st (fun _ _ kz => pw_iload1 dX7_allBars_26 kz) ?_
    refine ⟨_, _, pw_iret dX7_allBars_27 rfl rfl rfl rfl, ?_⟩
    exact ⟨rfl, rfl⟩
  | succ m ih =>
    intro k hk
    refine WQ.st (fun _ _ kz => pw_iload2 dX7_allBars_4 kz) ?_
    refine WQ.st (fun _ _ kz => pw_aload0 dX7_allBars_5 kz) ?_
    refine WQ.st (fun _ _ kz => pw_geti gX7_34 dX7_allBars_6 (sh_s0 hT) kz) ?_
    rw [hE.pc, hn]
    refine WQ.br (fun _ _ ka kb => pw_icmp_ge (tgt := 26) dX7_allBars_9 (by decide) ka kb) (fun c9 => absurd c9 (by rw [le_i (ix_n (j := n) (by omega)) (ix_n (j := k) (by omega))]; omega)) (fun c9 => ?_)
    refine WQ.st (fun _ _ kz => pw_iload1 dX7_allBars_12 kz) ?_
    refine WQ.st (fun _ _ kz => pw_aload0 dX7_allBars_13 kz) ?_
    refine WQ.st (fun _ _ kz => pw_iload2 dX7_allBars_14 kz) ?_
    refine wq_o1i wX7_barsOf lX7_64 rfl dX7_allBars_15 (sh_s0 hT) (k_barsOf hT hE hD (by omega) (isQ_nI hn hn4 (by omega))) rfl (Nat.le_of_ble_eq_true rfl) (Nat.le_of_ble_eq_true rfl) (fun h15 z15 => ?_)
    subst z15
    refine WQ.st (fun _ _ kz => pw_iadd dX7_allBars_18 kz) ?_
    refine WQ.st (fun _ _ kz => pw_istore1 dX7_allBars_19 (by decide) (k := kz)) ?_
    refine WQ.st (fun _ _ kz => pw_iinc2 (v := 1) dX7_allBars_20 (by decide) (by decide) (k := kz)) ?_
    refine WQ.st (fun _ _ kz => pw_goto (tgt := 4) dX7_allBars_23 (by decide) kz) ?_
    rw [nI_1]
    exact ih (k + 1) (by omega)
set_option maxRecDepth 20000 in
theorem k_allBars {G : gT} {d : Nat} {S : sS} {V : sV} {P : sP} {A : sV} {B : sB} {Q : sP} {t sl : Nat} {a : Nat} (hT : SH S P a) {al : Nat → Int32} (hE : ShE V A a al) (hD : DV al) : WQ G (d + 2) mX7_allBars 0 [some (.ref a), none, none] [] (t, sl, gh S V P A B Q) (fun r h' => r = some (.int (smI (fun p => al (10 + p)) (al 1).toInt.toNat)) ∧ h' = (t, sl, gh S V P A B Q)) := by
  refine WQ.st (fun _ _ kz => pw_iconst (v := 0) dX7_allBars_0 (by decide) kz) ?_
  refine WQ.st (fun _ _ kz => pw_istore1 dX7_allBars_1 (by decide) (k := kz)) ?_
  refine WQ.st (fun _ _ kz => pw_iconst (v := 0) dX7_allBars_2 (by decide) kz) ?_
  refine WQ.st (fun _ _ kz => pw_istore2 dX7_allBars_3 (by decide) (k := kz)) ?_
  obtain ⟨n, en, tn, ln⟩ := nI_get hD.n4.1 (n := 5) (by have := hD.n4; omega) (by decide)
  rw [tn, Int.toNat_natCast]
  exact l_allBars hT hE hD en (by omega) n 0 (by omega)
theorem LwE.told {V A : sV} {a : Nat} {g : Option (List Int32)} (h : LwE V A a g) (h9 : (g.getD []).length ≤ 900) : decide (0 < V a 1) = g.isSome := by
  rw [h.1]
  cases g with
  | none => rfl
  | some cs =>
    have hne := h.2.2.1
    refine decide_eq_true ?_
    show 0 < nI cs.length
    have : 0 < cs.length := by
      cases cs with
      | nil => exact absurd rfl hne
      | cons c cs => exact Nat.succ_pos _
    have h9 : cs.length ≤ 900 := h9
    rw [lt_i li_0 (ix_n (j := cs.length) (by omega))]
    omega
set_option maxRecDepth 20000 in
theorem k_told {G : gT} {d : Nat} {S : sS} {V : sV} {P : sP} {A : sV} {B : sB} {Q : sP} {t sl : Nat} {a : Nat} (hT : LA S P a) {g : Option (List Int32)} (hg : LwE V A a g) (h9 : (g.getD []).length ≤ 900) : WQ G d mX4_isTold 0 [some (.ref a)] [] (t, sl, gh S V P A B Q) (fun r h' => r = some (.int (bI g.isSome)) ∧ h' = (t, sl, gh S V P A B Q)) := by
  rw [← hg.told h9]
  exact k_isTold hT
set_option maxRecDepth 20000 in
theorem k_placeOf {G : gT} {d : Nat} {h : Ph} (s l : Nat) : WQ G d mX0_placeOf 0 [some (.int (sI s)), some (.int (dI l))] [] h (fun r h' => r = some (.int (nI (s * 5 + l))) ∧ h' = h) := by
  refine WQ.st (fun _ _ kz => pw_iload0 dX0_placeOf_0 kz) ?_
  refine WQ.st (fun _ _ kz => pw_bipush (v := 20) dX0_placeOf_1 (by decide) kz) ?_
  refine WQ.st (fun _ _ kz => pw_iadd dX0_placeOf_3 kz) ?_
  refine WQ.st (fun _ _ kz => pw_iconst (v := 5) dX0_placeOf_4 (by decide) kz) ?_
  refine WQ.st (fun _ _ kz => pw_imul dX0_placeOf_5 kz) ?_
  refine WQ.st (fun _ _ kz => pw_iload1 dX0_placeOf_6 kz) ?_
  refine WQ.st (fun _ _ kz => pw_iadd dX0_placeOf_7 kz) ?_
  refine WQ.st (fun _ _ kz => pw_iconst (v := 2) dX0_placeOf_8 (by decide) kz) ?_
  refine WQ.st (fun _ _ kz => pw_iadd dX0_placeOf_9 kz) ?_
  refine ⟨_, _, pw_iret dX0_placeOf_10 rfl rfl rfl rfl, ?_⟩
  refine ⟨rI ?_, rfl⟩
  unfold sI dI
  rw [show (20 : Int32) = iI 20 from rfl, show (5 : Int32) = iI 5 from rfl, show (2 : Int32) = iI 2 from rfl, iI_add, iI_mul, iI_add, iI_add, iI_nat]
  congr 1
  omega
theorem nI_div5 {k : Nat} (hk : k < 1000000) : nI k / 5 = nI (k / 5) := by
  have h5 : (5 : Int32) = nI 5 := rfl
  rw [h5, ← Int32.toInt_inj, Int32.toInt_div_of_ne_left _ _ (fun q => by rw [← Int32.toInt_inj, nI_toInt (by omega)] at q; have q : (k : Int) = -2147483648 := q; omega), nI_toInt (by omega), nI_toInt (by omega), nI_toInt (by omega)]
  rw [Int.tdiv_eq_ediv_of_nonneg (by omega)]
  rfl
set_option maxRecDepth 20000 in
theorem k_storeOf {G : gT} {d : Nat} {h : Ph} {k : Nat} (hk : k < 1000000) : WQ G d mX0_storeOf 0 [some (.int (nI k))] [] h (fun r h' => r = some (.int (sI (k / 5))) ∧ h' = h) := by
  refine WQ.st (fun _ _ kz => pw_iload0 dX0_storeOf_0 kz) ?_
  refine WQ.st (fun _ _ kz => pw_iconst (v := 5) dX0_storeOf_1 (by decide) kz) ?_
  refine WQ.st (fun _ _ kz => pw_idiv dX0_storeOf_2 (by decide) kz) ?_
  refine WQ.st (fun _ _ kz => pw_bipush (v := 20) dX0_storeOf_3 (by decide) kz) ?_
  refine WQ.st (fun _ _ kz => pw_isub dX0_storeOf_5 kz) ?_
  refine ⟨_, _, pw_iret dX0_storeOf_6 rfl rfl rfl rfl, ?_⟩
  refine ⟨rI ?_, rfl⟩
  rw [nI_div5 hk]
  unfold sI
  rw [show (20 : Int32) = iI 20 from rfl, iI_nat, iI_sub]
set_option maxRecDepth 20000 in
theorem k_lastOf {G : gT} {d : Nat} {h : Ph} {k : Nat} (hk : k < 1000000) : WQ G d mX0_lastOf 0 [some (.int (nI k))] [] h (fun r h' => r = some (.int (dI (k % 5))) ∧ h' = h) := by
  refine WQ.st (fun _ _ kz => pw_iload0 dX0_lastOf_0 kz) ?_
  refine WQ.st (fun _ _ kz => pw_iconst (v := 5) dX0_lastOf_1 (by decide) kz) ?_
  refine WQ.st (fun _ _ kz => pw_irem dX0_lastOf_2 (by decide) kz) ?_
  refine WQ.st (fun _ _ kz => pw_iconst (v := 2) dX0_lastOf_3 (by decide) kz) ?_
  refine WQ.st (fun _ _ kz => pw_isub dX0_lastOf_4 kz) ?_
  refine ⟨_, _, pw_iret dX0_lastOf_5 rfl rfl rfl rfl, ?_⟩
  refine ⟨rI ?_, rfl⟩
  rw [nI_div5 hk]
  unfold dI
  rw [show (5 : Int32) = iI 5 from rfl, show (2 : Int32) = iI 2 from rfl, iI_nat, iI_nat, iI_mul, iI_sub, iI_sub]
  congr 1
  omega
