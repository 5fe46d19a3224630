/-! ===== the class: a law told step by step ===== -/
theorem and1_z (b : BitVec 32) : (b &&& 1#32 = 0#32) ↔ b.getLsbD 0 = false := by
  constructor
  · intro h
    have := congrArg (fun z => BitVec.getLsbD z 0) h
    simpa using this
  · intro h
    apply BitVec.eq_of_getLsbD_eq
    intro i hi
    rw [BitVec.getLsbD_and, BitVec.getLsbD_one]
    by_cases e : i = 0
    · rw [e, h]; rfl
    · simp [e]
theorem bit_w (v : Int32) (w : Nat) (h : w < 8) : decide (¬ (v >>> (nI w &&& 31)) &&& 1 = 0) = v.toBitVec.getLsbD w := by
  have key : ∀ (s : Int32) (k : Nat), k < 32 → (v >>> s).toBitVec = v.toBitVec.sshiftRight k → decide (¬ (v >>> s) &&& 1 = 0) = v.toBitVec.getLsbD k := by
    intro s k hk e
    have e1 : ((v >>> s) &&& 1 = 0) ↔ v.toBitVec.getLsbD k = false := by
      rw [← Int32.toBitVec_inj]
      show ((v >>> s).toBitVec &&& 1#32 = 0#32) ↔ _
      rw [e, and1_z, BitVec.getLsbD_sshiftRight]
      simp [hk]
    cases hb : v.toBitVec.getLsbD k with
    | false => exact decide_eq_false (fun q => q (e1.mpr hb))
    | true => exact decide_eq_true (fun q => by rw [e1.mp q] at hb; cases hb)
  rcases (show w = 0 ∨ w = 1 ∨ w = 2 ∨ w = 3 ∨ w = 4 ∨ w = 5 ∨ w = 6 ∨ w = 7 by omega) with rfl | rfl | rfl | rfl | rfl | rfl | rfl | rfl
  all_goals exact key _ _ (by omega) rfl
theorem sh_w : ∀ w0, w0 < 8 → ∀ w, w < 8 → ((1 : Int32) <<< ((nI (1000 + w0) - 1000) &&& 31)).toBitVec.getLsbD w = decide (w = w0) := by decide +kernel
/-- the codes of a law -/
def cdO (c : Int32) : Prop := (0 ≤ c.toInt ∧ c.toInt < 1008) ∨ (3000 ≤ c.toInt ∧ c.toInt ≤ 3008)
def LWD (V A : sV) (a : Nat) (d : List Int32) : Prop := V a 1 = nI d.length ∧ (∀ (i : Nat) (c : Int32), d[i]? = some c → A (a + 1) i = ctk c) ∧ ∀ w : Nat, w < 8 → decide (¬ (V a 2 >>> (nI w &&& 31)) &&& 1 = 0) = decide (nI (1000 + w) ∈ d)
theorem LWD.fr {V A V' A' : sV} {a : Nat} {d : List Int32} (h : LWD V A a d) (hV : V' a = V a) (hA : A' (a + 1) = A (a + 1)) : LWD V' A' a d := by
  unfold LWD
  rw [hV, hA]
  exact h
theorem ctk_hi : ∀ c : Int32, 3000 ≤ c.toInt → c.toInt ≤ 3008 → 2000 ≤ (ctk c).toInt := by
  intro c h0 h8
  have e : ∀ z : Int32, c.toInt = z.toInt → c = z := fun z h => Int32.toInt_inj.mp h
  rcases (show c.toInt = 3000 ∨ c.toInt = 3001 ∨ c.toInt = 3002 ∨ c.toInt = 3003 ∨ c.toInt = 3004 ∨ c.toInt = 3005 ∨ c.toInt = 3006 ∨ c.toInt = 3007 ∨ c.toInt = 3008 by omega) with h | h | h | h | h | h | h | h | h
  · rw [e 3000 h]; decide
  · rw [e 3001 h]; decide
  · rw [e 3002 h]; decide
  · rw [e 3003 h]; decide
  · rw [e 3004 h]; decide
  · rw [e 3005 h]; decide
  · rw [e 3006 h]; decide
  · rw [e 3007 h]; decide
  · rw [e 3008 h]; decide
theorem ctk_lo {c : Int32} (h : c.toInt < 1008) : ctk c = c := by
  unfold ctk
  rw [if_pos (c3_lt h)]
theorem wd_ne {w : Nat} {c : Int32} (h : c.toInt < 1000 ∨ 1008 ≤ c.toInt) (hw : w < 8) : ¬ nI (1000 + w) = c := fun q => by
  have := ix_n (j := 1000 + w) (by omega)
  rw [q] at this
  omega
theorem LWD.add0 {V A : sV} {a : Nat} {d : List Int32} {c y : Int32} (h : LWD V A a d) (hy : y = ctk c) (hc : c.toInt < 1000 ∨ 1008 ≤ c.toInt) : LWD (up2 V a 1 (nI (d.length + 1))) (up2 A (a + 1) d.length y) a (d ++ [c]) := by
  refine ⟨by rw [up2_eq, List.length_append]; rfl, ?_, ?_⟩
  · intro i z hz
    by_cases e : i < d.length
    · rw [List.getElem?_append_left e] at hz
      rw [up2_nk (by omega)]
      exact h.2.1 i z hz
    · rw [List.getElem?_append_right (by omega)] at hz
      by_cases e2 : i = d.length
      · subst e2
        rw [Nat.sub_self] at hz
        injection hz with hz
        rw [up2_eq, hy, hz]
      · rw [List.getElem?_eq_none (by simp; omega)] at hz
        cases hz
  · intro w hw
    rw [up2_nk (by omega), h.2.2 w hw]
    have := wd_ne hc hw
    simp [this]
theorem LWD.add1 {V A : sV} {a : Nat} {d : List Int32} {w0 : Nat} (h : LWD V A a d) (hw0 : w0 < 8) : LWD (up2 (up2 V a 1 (nI (d.length + 1))) a 2 (V a 2 ||| (1 : Int32) <<< ((nI (1000 + w0) - 1000) &&& 31))) (up2 A (a + 1) d.length (nI (1000 + w0))) a (d ++ [nI (1000 + w0)]) := by
  refine ⟨by rw [up2_nk (by omega), up2_eq, List.length_append]; rfl, ?_, ?_⟩
  · intro i z hz
    by_cases e : i < d.length
    · rw [List.getElem?_append_left e] at hz
      rw [up2_nk (by omega)]
      exact h.2.1 i z hz
    · rw [List.getElem?_append_right (by omega)] at hz
      by_cases e2 : i = d.length
      · subst e2
        rw [Nat.sub_self] at hz
        injection hz with hz
        rw [up2_eq, ← hz, ctk_lo (by rw [ix_n (by omega)]; omega)]
      · rw [List.getElem?_eq_none (by simp; omega)] at hz
        cases hz
  · intro w hw
    rw [up2_eq, bit_w _ w hw]
    show (BitVec.getLsbD ((V a 2).toBitVec ||| ((1 : Int32) <<< ((nI (1000 + w0) - 1000) &&& 31)).toBitVec) w) = _
    rw [BitVec.getLsbD_or, sh_w w0 hw0 w hw, ← bit_w _ w hw, h.2.2 w hw]
    have e : (nI (1000 + w) = nI (1000 + w0)) ↔ w = w0 := by
      constructor
      · intro q
        have := congrArg Int32.toInt q
        rw [ix_n (by omega), ix_n (by omega)] at this
        omega
      · intro q; rw [q]
    by_cases g : nI (1000 + w) ∈ d
    · simp [g]
    · simp [g, e]
/-- only a law has changed -/
def FrL (a : Nat) (V A V' A' : sV) : Prop := (∀ x, x ≠ a → V' x = V x) ∧ ∀ x, x ≠ a + 1 → A' x = A x
set_option maxRecDepth 20000 in
theorem k_ladd {G : gT} {dd : Nat} {S : sS} {V : sV} {P : sP} {A : sV} {B : sB} {Q : sP} {t sl : Nat} {a : Nat} (hL : LA S P a) {d : List Int32} (hW : LWD V A a d) (h9 : d.length < 900) {c y : Int32} (hc : cdO c) (hy : y = ctk c) : WQ G dd mX4_add 0 [some (.ref a), some (.int y)] [] (t, sl, gh S V P A B Q) (fun r h' => r = none ∧ ∃ V' A' : sV, h' = (t, sl, gh S V' P A' B Q) ∧ LWD V' A' a (d ++ [c]) ∧ FrL a V A V' A') := by
  subst hy
  refine WQ.st (fun _ _ kz => pw_aload0 dX4_add_0 kz) ?_
  refine WQ.st (fun _ _ kz => pw_geti gX4_15 dX4_add_1 (la_s0 hL) kz) ?_
  rw [hW.1]
  refine WQ.st (fun _ _ kz => pw_aload0 dX4_add_4 kz) ?_
  refine WQ.st (fun _ _ kz => pw_getr gX4_9 dX4_add_5 (la_s0 hL) (la_p0_0 hL) kz) ?_
  refine WQ.st (fun _ _ kz => pw_len dX4_add_8 (la_s1 hL) (by decide) kz) ?_
  refine WQ.br (fun _ _ ka kb => pw_icmp_ge (tgt := 32) dX4_add_9 (by decide) ka kb) (fun c9 => absurd c9 (by rw [le_i (show (Int32.ofNat 900).toInt = 900 from rfl) (ix_n (by omega))]; omega)) (fun c9 => ?_)
  refine WQ.st (fun _ _ kz => pw_aload0 dX4_add_12 kz) ?_
  refine WQ.st (fun _ _ kz => pw_getr gX4_9 dX4_add_13 (la_s0 hL) (la_p0_0 hL) kz) ?_
  refine WQ.st (fun _ _ kz => pw_aload0 dX4_add_16 kz) ?_
  refine WQ.st (fun _ _ kz => pw_geti gX4_15 dX4_add_17 (la_s0 hL) kz) ?_
  rw [hW.1]
  refine WQ.st (fun _ _ kz => pw_iload1 dX4_add_20 kz) ?_
  refine WQ.st (fun _ _ kz => pw_ast (j := d.length) dX4_add_21 (la_s1 hL) (ix_n (by omega)) (by omega)  kz) ?_
  refine WQ.st (fun _ _ kz => pw_aload0 dX4_add_22 kz) ?_
  refine WQ.st (fun _ _ kz => pw_dup dX4_add_23 rfl kz) ?_
  refine WQ.st (fun _ _ kz => pw_geti gX4_15 dX4_add_24 (la_s0 hL) kz) ?_
  rw [hW.1]
  refine WQ.st (fun _ _ kz => pw_iconst (v := 1) dX4_add_27 (by decide) kz) ?_
  refine WQ.st (fun _ _ kz => pw_iadd dX4_add_28 kz) ?_
  rw [nI_1]
  refine WQ.st (fun _ _ kz => pw_puti (pX4_15 _ rfl) dX4_add_29 (la_s0 hL) rfl rfl kz) ?_
  refine WQ.st (fun _ _ kz => pw_iload1 dX4_add_32 kz) ?_
  refine WQ.st (fun _ _ kz => pw_sipush (v := 1000) dX4_add_33 (by decide) kz) ?_
  refine WQ.br (fun _ _ ka kb => pw_icmp_lt (tgt := 62) dX4_add_36 (by decide) ka kb) (fun c36 => ?_) (fun c36 => ?_)
  · rw [lt_i rfl (show (1000 : Int32).toInt = 1000 from rfl)] at c36
    refine ⟨_, _, pw_vret dX4_add_62 rfl rfl rfl, ?_⟩
    have hx : c.toInt < 1000 ∨ 1008 ≤ c.toInt := by
      rcases hc with g | g
      · have := ctk_lo (c := c) (by omega)
        rw [this] at c36
        omega
      · omega
    exact ⟨rfl, _, _, rfl, hW.add0 rfl hx, ⟨fun x hx => by simp only [up2_na hx], fun x hx => by rw [up2_na hx]⟩⟩
  · rw [lt_i rfl (show (1000 : Int32).toInt = 1000 from rfl)] at c36
    refine WQ.st (fun _ _ kz => pw_iload1 dX4_add_39 kz) ?_
    refine WQ.st (fun _ _ kz => pw_sipush (v := 2000) dX4_add_40 (by decide) kz) ?_
    refine WQ.br (fun _ _ ka kb => pw_icmp_ge (tgt := 62) dX4_add_43 (by decide) ka kb) (fun c43 => ?_) (fun c43 => ?_)
    · rw [le_i (show (2000 : Int32).toInt = 2000 from rfl) rfl] at c43
      refine ⟨_, _, pw_vret dX4_add_62 rfl rfl rfl, ?_⟩
      have hx : c.toInt < 1000 ∨ 1008 ≤ c.toInt := by
        rcases hc with g | g
        · have := ctk_lo (c := c) (by omega)
          rw [this] at c43
          omega
        · omega
      exact ⟨rfl, _, _, rfl, hW.add0 rfl hx, ⟨fun x hx => by simp only [up2_na hx], fun x hx => by rw [up2_na hx]⟩⟩
    · rw [le_i (show (2000 : Int32).toInt = 2000 from rfl) rfl] at c43
      refine WQ.st (fun _ _ kz => pw_aload0 dX4_add_46 kz) ?_
      refine WQ.st (fun _ _ kz => pw_dup dX4_add_47 rfl kz) ?_
      refine WQ.st (fun _ _ kz => pw_geti gX4_19 dX4_add_48 (la_s0 hL) kz) ?_
      rw [up2_nk (by omega)]
      refine WQ.st (fun _ _ kz => pw_iconst (v := 1) dX4_add_51 (by decide) kz) ?_
      refine WQ.st (fun _ _ kz => pw_iload1 dX4_add_52 kz) ?_
      refine WQ.st (fun _ _ kz => pw_sipush (v := 1000) dX4_add_53 (by decide) kz) ?_
      refine WQ.st (fun _ _ kz => pw_isub dX4_add_56 kz) ?_
      refine WQ.st (fun _ _ kz => pw_ishl dX4_add_57 kz) ?_
      refine WQ.st (fun _ _ kz => pw_ior dX4_add_58 kz) ?_
      refine WQ.st (fun _ _ kz => pw_puti (pX4_19 _ rfl) dX4_add_59 (la_s0 hL) rfl rfl kz) ?_
      refine ⟨_, _, pw_vret dX4_add_62 rfl rfl rfl, ?_⟩
      have g : 0 ≤ c.toInt ∧ c.toInt < 1008 := by
        rcases hc with g | g
        · exact g
        · have := ctk_hi c g.1 g.2
          omega
      rw [ctk_lo (c := c) (by omega)] at c36 c43 ⊢
      obtain ⟨w0, hw0, rfl⟩ : ∃ w0, w0 < 8 ∧ c = nI (1000 + w0) := ⟨c.toInt.toNat - 1000, by omega, by rw [show 1000 + (c.toInt.toNat - 1000) = c.toInt.toNat by omega]; exact Int32.toInt_inj.mp (by rw [ix_n (by omega)]; omega)⟩
      exact ⟨rfl, _, _, rfl, hW.add1 hw0, ⟨fun x hx => by simp only [up2_na hx], fun x hx => by rw [up2_na hx]⟩⟩
