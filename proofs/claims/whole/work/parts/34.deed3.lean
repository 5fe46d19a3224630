/-! ===== the reference: deeds, why not, and done ===== -/
def TT (al : Nat → Int32) (p q : Nat) : Nat → Nat → Nat → Nat → Int32 := rf_g al (lawL al 0) (lawL al 1) p q
def bsT (al : Nat → Int32) (p q : Nat) (goal : Int32) : Int32 := rf_T (TT al p q) kpA (lgN al q) (rf_e goal) (lgN al q) 2 (stN al p)
def bsS (al : Nat → Int32) (p q : Nat) (goal : Int32) (b : Nat) : Nat × Nat := rf_st (TT al p q) kpA (lgN al q) (rf_e goal) (stN al p) b
def cmF (al : Nat → Int32) (p q b : Nat) : (Nat × Nat) × (Int32 × Int32) := rf_cm (TT al p q) (stN al p) b
theorem DV.lgE {al : Nat → Int32} (h : DV al) {q : Nat} (hq : q < 4) : al (10 + q) = nI (lgN al q) ∧ lgN al q ≤ 12 := by
  have := h.lg q hq
  exact ⟨nI_ofI this.1, by unfold lgN; omega⟩
theorem KV.stE {np : Int} {al : Nat → Int32} (h : KV np (fun k => al (75 + k))) {p : Nat} (hp : p < 5) : al (77 + p) = sI (stN al p) ∧ stN al p < 41 := by
  have h1 : -20 ≤ (al (75 + (2 + p))).toInt ∧ (al (75 + (2 + p))).toInt ≤ 20 := h.st p hp
  rw [show 75 + (2 + p) = 77 + p by omega] at h1
  exact ⟨sI_of h1.1 (by omega), by unfold stN; omega⟩
/-- the cells that are only worked in -/
def FA (o : Nat) (A A' : sV) : Prop := ∀ a, a < o + 5 ∨ (o + 10 < a ∧ a < o + 14) ∨ o + 19 < a → A' a = A a
def FV (o : Nat) (V V' : sV) : Prop := (∀ a, a ≠ o → V' a = V a) ∧ ∀ k, k ≠ 0 → k ≠ 20 → k ≠ 21 → k ≠ 22 → k ≠ 24 → V' o k = V o k
def FB (o : Nat) (B B' : sB) : Prop := ∀ a, a ≠ o + 12 → a ≠ o + 13 → B' a = B a
theorem FA.rfl {o : Nat} {A : sV} : FA o A A := fun _ _ => Eq.refl _
theorem FV.rfl {o : Nat} {A : sV} : FV o A A := ⟨fun _ _ => Eq.refl _, fun _ _ _ _ _ _ => Eq.refl _⟩
theorem FB.rfl {o : Nat} {B : sB} : FB o B B := fun _ _ _ => Eq.refl _
theorem FA.tr {o : Nat} {A A' A2 : sV} (h : FA o A A') (h2 : FA o A' A2) : FA o A A2 := fun a ha => (h2 a ha).trans (h a ha)
theorem FV.tr {o : Nat} {A A' A2 : sV} (h : FV o A A') (h2 : FV o A' A2) : FV o A A2 := ⟨fun a ha => (h2.1 a ha).trans (h.1 a ha), fun k h1 h3 h4 h5 h6 => (h2.2 k h1 h3 h4 h5 h6).trans (h.2 k h1 h3 h4 h5 h6)⟩
theorem FB.tr {o : Nat} {B B' B2 : sB} (h : FB o B B') (h2 : FB o B' B2) : FB o B B2 := fun a h1 h3 => (h2 a h1 h3).trans (h a h1 h3)
theorem FV.up {o k : Nat} {V : sV} {x : Int32} (hk : k = 0 ∨ k = 20 ∨ k = 21 ∨ k = 22 ∨ k = 24) : FV o V (up2 V o k x) := ⟨fun a ha => up2_na ha, fun j h1 h2 h3 h4 h5 => by
  rw [up2_nk (by omega)]⟩
theorem FA.up {o a j : Nat} {A : sV} {x : Int32} (hk : (o + 5 ≤ a ∧ a ≤ o + 10) ∨ (o + 14 ≤ a ∧ a ≤ o + 19)) : FA o A (up2 A a j x) := fun b hb => up2_na (by omega)
theorem BP.FA {o : Nat} {V A V' A' : sV} {T : Nat → Nat → Nat → Nat → Int32} {kp : Nat → Nat → Bool} {n : Nat} {e : Nat → Int32} {s0 : Nat} (h : BP o V A V' A' T kp n e s0) : FA o A A' := fun a ha => h.1 a (by omega)
theorem BP.FV {o : Nat} {V A V' A' : sV} {T : Nat → Nat → Nat → Nat → Int32} {kp : Nat → Nat → Bool} {n : Nat} {e : Nat → Int32} {s0 : Nat} (h : BP o V A V' A' T kp n e s0) : FV o V V' := ⟨h.2.1, fun k _ h2 h3 _ h5 => h.2.2.1 k h2 h3 h5⟩
theorem CP.FA {o : Nat} {V A V' A' : sV} {T : Nat → Nat → Nat → Nat → Int32} {n s0 : Nat} (h : CP o V A V' A' T n s0) : FA o A A' := fun a ha => h.1 a (by omega) (by omega)
theorem CP.FV {o : Nat} {V A V' A' : sV} {T : Nat → Nat → Nat → Nat → Int32} {n s0 : Nat} (h : CP o V A V' A' T n s0) : FV o V V' := by
  rw [h.2.1]
  exact (FV.up (by omega)).tr ((FV.up (by omega)).tr (FV.up (by omega)))
def sp_wb (al : Nat → Int32) (x y : Int) : Int32 := if sp_wp al x y = 0 then (if bsT al x.toNat y.toNat (-20) = -268435456 then 3 else 0) else sp_wp al x y
theorem wp_0 {al : Nat → Int32} {x y : Int} (h : sp_wp al x y = 0) : isP al x = true ∧ isQ al y = true := by
  unfold sp_wp at h
  by_cases e : (isP al x && isQ al y) = true
  · rw [Bool.and_eq_true] at e
    exact e
  · rw [if_neg e] at h
    exact absurd h (by decide)
theorem tl_sub {x y : Int64} {a b : Int} (hx : x.toInt = a) (hy : y.toInt = b) (h : -9223372036854775808 ≤ a - b ∧ a - b < 9223372036854775808) : (x - y).toInt = a - b := by
  rw [Int64.toInt_sub, hx, hy]
  exact Int.bmod_eq_of_le (by show -(18446744073709551616 / 2 : Int) ≤ _; omega) (by show _ < (18446744073709551616 + 1 : Int) / 2; omega)
theorem tl_add {x y : Int64} {a b : Int} (hx : x.toInt = a) (hy : y.toInt = b) (h : -9223372036854775808 ≤ a + b ∧ a + b < 9223372036854775808) : (x + y).toInt = a + b := by
  rw [Int64.toInt_add, hx, hy]
  exact Int.bmod_eq_of_le (by show -(18446744073709551616 / 2 : Int) ≤ _; omega) (by show _ < (18446744073709551616 + 1 : Int) / 2; omega)
set_option maxRecDepth 20000 in
theorem q_laysBest {G : gT} {d : Nat} {S : sS} {V : sV} {P : sP} {A : sV} {B : sB} {Q : sP} {t sl o : Nat} (hF : MF S P o) (hD : DV (A (o + 1))) (hK : KV ((A (o + 1)) 2).toInt (fun k => (A (o + 1)) (75 + k))) {p q : Nat} (hp : p < 5) (hq : q < 4) (goal : Int32) : ∃ V' A' : sV, PW G (d + 5) mX12_laysBest 0 [some (.ref o), some (.int (nI p)), some (.int (nI q)), some (.int goal)] [] (t, sl, gh S V P A B Q) (some (.int (bI (decide (bsT (A (o + 1)) p q goal ≠ -268435456))))) (t, sl, gh S V' P A' B Q) ∧ FA o A A' ∧ FV o V V' ∧ V' o 20 = bsT (A (o + 1)) p q goal ∧ (∀ s, s < 41 → A' (o + 8) (82 + s) = rf_T (TT (A (o + 1)) p q) kpA (lgN (A (o + 1)) q) (rf_e goal) (lgN (A (o + 1)) q) 2 s) ∧ (bsT (A (o + 1)) p q goal ≠ -268435456 → V' o 21 = sI (bsS (A (o + 1)) p q goal (lgN (A (o + 1)) q)).2 ∧ ∀ b, b < lgN (A (o + 1)) q → A' (o + 9) b = dI (bsS (A (o + 1)) p q goal (b + 1)).1) := by
  obtain ⟨V', A', kb, hb⟩ := c_laysBest (G := G) (d := d) (V := V) (A := A) (B := B) (Q := Q) (t := t) (sl := sl) hF hp hq (hD.lgE hq).2 (hD.lgE hq).1 (hK.stE hp).1 (hK.stE hp).2 hD.gl hD.ml goal
  exact ⟨V', A', kb, hb.FA, hb.FV, hb.2.2.2.1, hb.2.2.2.2.1, hb.2.2.2.2.2⟩
set_option maxRecDepth 20000 in
theorem c_whyBest {G : gT} {d : Nat} {S : sS} {V : sV} {P : sP} {A : sV} {B : sB} {Q : sP} {t sl o : Nat} (hF : MF S P o) (hD : DV (A (o + 1))) (hK : KV ((A (o + 1)) 2).toInt (fun k => (A (o + 1)) (75 + k))) (x y : Int64) : WQ G (d + 6) mX12_whyBest 0 [some (.ref o), some (.long x), none, some (.long y), none, none] [] (t, sl, gh S V P A B Q) (fun r h' => r = some (.int (sp_wb (A (o + 1)) x.toInt y.toInt)) ∧ ∃ V' A' : sV, h' = (t, sl, gh S V' P A' B Q) ∧ FA o A A' ∧ FV o V V' ∧ (sp_wb (A (o + 1)) x.toInt y.toInt = 0 → V' o 20 = bsT (A (o + 1)) x.toInt.toNat y.toInt.toNat (-20) ∧ V' o 21 = sI (bsS (A (o + 1)) x.toInt.toNat y.toInt.toNat (-20) (lgN (A (o + 1)) y.toInt.toNat)).2)) := by
  refine WQ.st (fun _ _ kz => pw_aload0 dX12_whyBest_0 kz) ?_
  refine WQ.st (fun _ _ kz => pw_lload1 dX12_whyBest_1 kz) ?_
  refine WQ.st (fun _ _ kz => pw_lload3 dX12_whyBest_2 kz) ?_
  obtain ⟨r0, h0, k0, rfl, rfl⟩ := c_whyPlay (G := G) (d := d + 2) (V := V) (A := A) (B := B) (Q := Q) (t := t) (sl := sl) hF hD x y
  refine WQ.st (fun _ _ kz => pw_o2i wX12_whyPlay lX12_319 rfl dX12_whyBest_3 hF.1 (k0.mono (by omega)) rfl (Nat.le_of_ble_eq_true rfl) (Nat.le_of_ble_eq_true rfl) kz) ?_
  refine WQ.st (fun _ _ kz => pw_istore5 dX12_whyBest_6 (by decide) (k := kz)) ?_
  refine WQ.st (fun _ _ kz => pw_iload5 dX12_whyBest_8 kz) ?_
  refine WQ.br (fun _ _ ka kb => pw_if_eq (tgt := 18) dX12_whyBest_10 (by decide) ka kb) (fun c10 => ?_) (fun c10 => ?_)
  · refine WQ.st (fun _ _ kz => pw_aload0 dX12_whyBest_18 kz) ?_
    refine WQ.st (fun _ _ kz => pw_lload1 dX12_whyBest_19 kz) ?_
    refine WQ.st (fun _ _ kz => pw_l2i dX12_whyBest_20 kz) ?_
    refine WQ.st (fun _ _ kz => pw_lload3 dX12_whyBest_21 kz) ?_
    refine WQ.st (fun _ _ kz => pw_l2i dX12_whyBest_22 kz) ?_
    refine WQ.st (fun _ _ kz => pw_bipush (v := -20) dX12_whyBest_23 (by decide) kz) ?_
    have hpq := wp_0 c10
    have hp5 : x.toInt.toNat < 5 := by have := isP_t hpq.1; have := hD.p5; omega
    have hq4 : y.toInt.toNat < 4 := by have := isQ_t hpq.2; have := hD.n4; omega
    rw [li_n (isP_t hpq.1).1 (by have := isP_t hpq.1; have := hD.p5; omega), li_n (isQ_t hpq.2).1 (by have := isQ_t hpq.2; have := hD.n4; omega)]
    obtain ⟨V', A', kb, b1, b2, b3, b4, b5⟩ := q_laysBest (G := G) (d := d) (V := V) (A := A) (B := B) (Q := Q) (t := t) (sl := sl) hF hD hK hp5 hq4 (-20)
    refine WQ.st (fun _ _ kz => pw_o3i wX12_laysBest lX12_323 rfl dX12_whyBest_25 hF.1 (kb) rfl (Nat.le_of_ble_eq_true rfl) (Nat.le_of_ble_eq_true rfl) kz) ?_
    
    refine WQ.br (fun _ _ ka kb => pw_if_eq (tgt := 35) dX12_whyBest_28 (by decide) ka kb) (fun c28 => ?_) (fun c28 => ?_)
    · rw [bI_0] at c28
      refine WQ.st (fun _ _ kz => pw_iconst (v := 3) dX12_whyBest_35 (by decide) kz) ?_
      refine ⟨_, _, pw_iret dX12_whyBest_36 rfl rfl rfl rfl, ?_⟩
      have cc := Classical.not_not.mp (of_decide_eq_false c28)
      have c0 : sp_wb (A (o + 1)) x.toInt y.toInt = 3 := by unfold sp_wb; rw [if_pos c10, if_pos cc]
      exact ⟨rI c0.symm, V', A', rfl, b1, b2, fun q => absurd (c0.symm.trans q) (by decide)⟩
    · rw [bI_n] at c28
      refine WQ.st (fun _ _ kz => pw_iconst (v := 0) dX12_whyBest_31 (by decide) kz) ?_
      refine WQ.st (fun _ _ kz => pw_goto (tgt := 36) dX12_whyBest_32 (by decide) kz) ?_
      refine ⟨_, _, pw_iret dX12_whyBest_36 rfl rfl rfl rfl, ?_⟩
      have cc := of_decide_eq_true c28
      exact ⟨rI (by unfold sp_wb; rw [if_pos c10, if_neg cc]), V', A', rfl, b1, b2, fun _ => ⟨b3, (b5 cc).1⟩⟩
  · refine WQ.st (fun _ _ kz => pw_iload5 dX12_whyBest_13 kz) ?_
    refine WQ.st (fun _ _ kz => pw_goto (tgt := 36) dX12_whyBest_15 (by decide) kz) ?_
    refine ⟨_, _, pw_iret dX12_whyBest_36 rfl rfl rfl rfl, ?_⟩
    have c0 : sp_wb (A (o + 1)) x.toInt y.toInt = sp_wp (A (o + 1)) x.toInt y.toInt := by unfold sp_wb; rw [if_neg c10]
    exact ⟨rI c0.symm, V, A, rfl, FA.rfl, FV.rfl, fun q => absurd (c0.symm.trans q) c10⟩
def sp_wl (al : Nat → Int32) (x y z : Int) : Int32 := if isP al x && (isP al y && (decide (x ≠ y) && decide (1 ≤ z ∧ z ≤ 40))) then (if isS ((al (77 + x.toNat)).toInt - z) && isS ((al (77 + y.toNat)).toInt + z) then 0 else 3) else 1
theorem KV.sb {np : Int} {al : Nat → Int32} (h : KV np (fun k => al (75 + k))) {p : Nat} (hp : p < 5) : -20 ≤ (al (77 + p)).toInt ∧ (al (77 + p)).toInt ≤ 20 := by
  have h1 : -20 ≤ (al (75 + (2 + p))).toInt ∧ (al (75 + (2 + p))).toInt ≤ 20 := h.st p hp
  rw [show 75 + (2 + p) = 77 + p by omega] at h1
  exact h1
set_option maxRecDepth 20000 in
theorem c_whyLend {G : gT} {d : Nat} {S : sS} {V : sV} {P : sP} {A : sV} {B : sB} {Q : sP} {t sl o : Nat} (hF : MF S P o) (hD : DV (A (o + 1))) (hK : KV ((A (o + 1)) 2).toInt (fun k => (A (o + 1)) (75 + k))) (x y z : Int64) : WQ G (d + 2) mX12_whyLend 0 [some (.ref o), some (.long x), none, some (.long y), none, some (.long z), none] [] (t, sl, gh S V P A B Q) (fun r h' => r = some (.int (sp_wl (A (o + 1)) x.toInt y.toInt z.toInt)) ∧ h' = (t, sl, gh S V P A B Q)) := by
  refine WQ.st (fun _ _ kz => pw_aload0 dX12_whyLend_0 kz) ?_
  refine WQ.st (fun _ _ kz => pw_lload1 dX12_whyLend_1 kz) ?_
  refine WQ.st (fun _ _ kz => pw_o1i wX12_isPlayer lX12_244 rfl dX12_whyLend_2 hF.1 (c_isPlayer hF hD _) rfl (Nat.le_of_ble_eq_true rfl) (Nat.le_of_ble_eq_true rfl) kz) ?_
  refine WQ.br (fun _ _ ka kb => pw_if_eq (tgt := 34) dX12_whyLend_5 (by decide) ka kb) (fun c5 => ?_) (fun c5 => ?_)
  · rw [bI_0] at c5
    refine WQ.st (fun _ _ kz => pw_iconst (v := 1) dX12_whyLend_34 (by decide) kz) ?_
    refine ⟨_, _, pw_iret dX12_whyLend_35 rfl rfl rfl rfl, ?_⟩
    exact ⟨rI (by unfold sp_wl; rw [c5]; rfl), rfl⟩
  · rw [bI_n] at c5
    refine WQ.st (fun _ _ kz => pw_aload0 dX12_whyLend_8 kz) ?_
    refine WQ.st (fun _ _ kz => pw_lload3 dX12_whyLend_9 kz) ?_
    refine WQ.st (fun _ _ kz => pw_o1i wX12_isPlayer lX12_244 rfl dX12_whyLend_10 hF.1 (c_isPlayer hF hD _) rfl (Nat.le_of_ble_eq_true rfl) (Nat.le_of_ble_eq_true rfl) kz) ?_
    refine WQ.br (fun _ _ ka kb => pw_if_eq (tgt := 34) dX12_whyLend_13 (by decide) ka kb) (fun c13 => ?_) (fun c13 => ?_)
    · rw [bI_0] at c13
      refine WQ.st (fun _ _ kz => pw_iconst (v := 1) dX12_whyLend_34 (by decide) kz) ?_
      refine ⟨_, _, pw_iret dX12_whyLend_35 rfl rfl rfl rfl, ?_⟩
      exact ⟨rI (by unfold sp_wl; rw [c5, c13]; rfl), rfl⟩
    · rw [bI_n] at c13
      refine WQ.st (fun _ _ kz => pw_lload1 dX12_whyLend_16 kz) ?_
      refine WQ.st (fun _ _ kz => pw_lload3 dX12_whyLend_17 kz) ?_
      refine WQ.st (fun _ _ kz => pw_lcmp dX12_whyLend_18 kz) ?_
      refine WQ.br (fun _ _ ka kb => pw_if_eq (tgt := 34) dX12_whyLend_19 (by decide) ka kb) (fun c19 => ?_) (fun c19 => ?_)
      · rw [lg_cmp_eq] at c19
        refine WQ.st (fun _ _ kz => pw_iconst (v := 1) dX12_whyLend_34 (by decide) kz) ?_
        refine ⟨_, _, pw_iret dX12_whyLend_35 rfl rfl rfl rfl, ?_⟩
        exact ⟨rI (by unfold sp_wl; rw [c5, c13, c19, decide_eq_false (fun q : y.toInt ≠ y.toInt => q rfl)]; rfl), rfl⟩
      · rw [lg_cmp_eq] at c19
        have cxy : x.toInt ≠ y.toInt := fun q => c19 (Int64.toInt_inj.mp q)
        refine WQ.st (fun _ _ kz => pw_lload5 dX12_whyLend_22 kz) ?_
        refine WQ.st (fun _ _ kz => pw_lconst (v := 1) dX12_whyLend_24 (by decide) kz) ?_
        refine WQ.st (fun _ _ kz => pw_ldc2 kX12_327 dX12_whyLend_25 kz) ?_
        refine WQ.st (fun _ _ kz => pw_s3i wX12_within lX12_152 dX12_whyLend_28 (c_withinI _ _ _) rfl (Nat.le_of_ble_eq_true rfl) (Nat.le_of_ble_eq_true rfl) kz) ?_
        refine WQ.bn (fun _ _ ka kb => pw_if_ne (tgt := 36) dX12_whyLend_31 (by decide) ka kb) (fun c31 => ?_) (fun c31 => ?_)
        · rw [bI_n] at c31
          have hx5 := isP_t c5
          have hy5 := isP_t c13
          have hz40 : 1 ≤ z.toInt ∧ z.toInt ≤ 40 := of_decide_eq_true c31
          have hd5 := hD.p5
          have hx6 : x.toInt.toNat < 5 := by omega
          have hy6 : y.toInt.toNat < 5 := by omega
          refine WQ.st (fun _ _ kz => pw_aload0 dX12_whyLend_36 kz) ?_
          refine WQ.st (fun _ _ kz => pw_getr gX12_13 dX12_whyLend_37 hF.1 (mf_p1 hF) kz) ?_
          refine WQ.st (fun _ _ kz => pw_bipush (v := 77) dX12_whyLend_40 (by decide) kz) ?_
          refine WQ.st (fun _ _ kz => pw_lload1 dX12_whyLend_42 kz) ?_
          refine WQ.st (fun _ _ kz => pw_l2i dX12_whyLend_43 kz) ?_
          rw [li_n (show 0 ≤ x.toInt by omega) (by omega)]
          refine WQ.st (fun _ _ kz => pw_iadd dX12_whyLend_44 kz) ?_
          refine WQ.st (fun _ _ kz => pw_ald (j := 77 + x.toInt.toNat) dX12_whyLend_45 (mf_s1 hF) (by simp (disch := omega) only [nl_77, nI_add, pk_mul, pk_sub]; exact ix_m (by omega) (by omega)) (by omega) kz) ?_
          refine WQ.st (fun _ _ kz => pw_i2l dX12_whyLend_46 kz) ?_
          refine WQ.st (fun _ _ kz => pw_lload5 dX12_whyLend_47 kz) ?_
          refine WQ.st (fun _ _ kz => pw_lsub dX12_whyLend_49 kz) ?_
          refine WQ.st (fun _ _ kz => pw_s1i wX12_isStore lX12_240 dX12_whyLend_50 (c_isStoreI _) rfl (Nat.le_of_ble_eq_true rfl) (Nat.le_of_ble_eq_true rfl) kz) ?_
          rw [tl_sub (il_t _) rfl (by have := hK.sb hx6; omega)]
          refine WQ.br (fun _ _ ka kb => pw_if_eq (tgt := 80) dX12_whyLend_53 (by decide) ka kb) (fun c53 => ?_) (fun c53 => ?_)
          · rw [bI_0] at c53
            refine WQ.st (fun _ _ kz => pw_iconst (v := 3) dX12_whyLend_80 (by decide) kz) ?_
            refine ⟨_, _, pw_iret dX12_whyLend_81 rfl rfl rfl rfl, ?_⟩
            exact ⟨rI (by unfold sp_wl; rw [c5, c13, decide_eq_true cxy, decide_eq_true hz40, c53]; rfl), rfl⟩
          · rw [bI_n] at c53
            refine WQ.st (fun _ _ kz => pw_aload0 dX12_whyLend_56 kz) ?_
            refine WQ.st (fun _ _ kz => pw_getr gX12_13 dX12_whyLend_57 hF.1 (mf_p1 hF) kz) ?_
            refine WQ.st (fun _ _ kz => pw_bipush (v := 77) dX12_whyLend_60 (by decide) kz) ?_
            refine WQ.st (fun _ _ kz => pw_lload3 dX12_whyLend_62 kz) ?_
            refine WQ.st (fun _ _ kz => pw_l2i dX12_whyLend_63 kz) ?_
            rw [li_n (show 0 ≤ y.toInt by omega) (by omega)]
            refine WQ.st (fun _ _ kz => pw_iadd dX12_whyLend_64 kz) ?_
            refine WQ.st (fun _ _ kz => pw_ald (j := 77 + y.toInt.toNat) dX12_whyLend_65 (mf_s1 hF) (by simp (disch := omega) only [nl_77, nI_add, pk_mul, pk_sub]; exact ix_m (by omega) (by omega)) (by omega) kz) ?_
            refine WQ.st (fun _ _ kz => pw_i2l dX12_whyLend_66 kz) ?_
            refine WQ.st (fun _ _ kz => pw_lload5 dX12_whyLend_67 kz) ?_
            refine WQ.st (fun _ _ kz => pw_ladd dX12_whyLend_69 kz) ?_
            refine WQ.st (fun _ _ kz => pw_s1i wX12_isStore lX12_240 dX12_whyLend_70 (c_isStoreI _) rfl (Nat.le_of_ble_eq_true rfl) (Nat.le_of_ble_eq_true rfl) kz) ?_
            rw [tl_add (il_t _) rfl (by have := hK.sb hy6; omega)]
            refine WQ.br (fun _ _ ka kb => pw_if_eq (tgt := 80) dX12_whyLend_73 (by decide) ka kb) (fun c73 => ?_) (fun c73 => ?_)
            · rw [bI_0] at c73
              refine WQ.st (fun _ _ kz => pw_iconst (v := 3) dX12_whyLend_80 (by decide) kz) ?_
              refine ⟨_, _, pw_iret dX12_whyLend_81 rfl rfl rfl rfl, ?_⟩
              exact ⟨rI (by unfold sp_wl; rw [c5, c13, decide_eq_true cxy, decide_eq_true hz40, c53, c73]; rfl), rfl⟩
            · rw [bI_n] at c73
              refine WQ.st (fun _ _ kz => pw_iconst (v := 0) dX12_whyLend_76 (by decide) kz) ?_
              refine WQ.st (fun _ _ kz => pw_goto (tgt := 81) dX12_whyLend_77 (by decide) kz) ?_
              refine ⟨_, _, pw_iret dX12_whyLend_81 rfl rfl rfl rfl, ?_⟩
              exact ⟨rI (by unfold sp_wl; rw [c5, c13, decide_eq_true cxy, decide_eq_true hz40, c53, c73]; rfl), rfl⟩
        · rw [bI_0] at c31
          refine WQ.st (fun _ _ kz => pw_iconst (v := 1) dX12_whyLend_34 (by decide) kz) ?_
          refine ⟨_, _, pw_iret dX12_whyLend_35 rfl rfl rfl rfl, ?_⟩
          have c31' : decide (1 ≤ z.toInt ∧ z.toInt ≤ 40) = false := c31
          exact ⟨rI (by unfold sp_wl; rw [c5, c13, decide_eq_true cxy, c31']; rfl), rfl⟩
def rf_jo (x : Int32) : Int32 := if x ≤ 9999999 then (if -9999999 ≤ x then x else -9999999) else 9999999
def sp_plays (al : Nat → Int32) (p : Nat) (g s : Int32) : Nat → Int32 := pm_up (pm_up al (77 + p) s) (82 + p) (rf_jo (al (82 + p) + g))
set_option maxRecDepth 20000 in
theorem c_plays {G : gT} {d : Nat} {S : sS} {V : sV} {P : sP} {A : sV} {B : sB} {Q : sP} {t sl o : Nat} (hF : MF S P o) {p : Nat} (hp : p < 5) : WQ G d mX12_plays 0 [some (.ref o), some (.int (nI p)), none] [] (t, sl, gh S V P A B Q) (fun r h' => r = none ∧ ∃ A' : sV, h' = (t, sl, gh S V P A' B Q) ∧ A' = pm_up A (o + 1) (sp_plays (A (o + 1)) p (V o 20) (V o 21))) := by
  refine WQ.st (fun _ _ kz => pw_aload0 dX12_plays_0 kz) ?_
  refine WQ.st (fun _ _ kz => pw_getr gX12_13 dX12_plays_1 hF.1 (mf_p1 hF) kz) ?_
  refine WQ.st (fun _ _ kz => pw_bipush (v := 77) dX12_plays_4 (by decide) kz) ?_
  refine WQ.st (fun _ _ kz => pw_iload1 dX12_plays_6 kz) ?_
  refine WQ.st (fun _ _ kz => pw_iadd dX12_plays_7 kz) ?_
  refine WQ.st (fun _ _ kz => pw_aload0 dX12_plays_8 kz) ?_
  refine WQ.st (fun _ _ kz => pw_geti gX12_293 dX12_plays_9 hF.1 kz) ?_
  refine WQ.st (fun _ _ kz => pw_ast (j := 77 + p) dX12_plays_12 (mf_s1 hF) (by simp (disch := omega) only [nl_77, nI_add, pk_mul, pk_sub]; exact ix_m (by omega) (by omega)) (by omega)  kz) ?_
  refine WQ.st (fun _ _ kz => pw_aload0 dX12_plays_13 kz) ?_
  refine WQ.st (fun _ _ kz => pw_getr gX12_13 dX12_plays_14 hF.1 (mf_p1 hF) kz) ?_
  refine WQ.st (fun _ _ kz => pw_bipush (v := 82) dX12_plays_17 (by decide) kz) ?_
  refine WQ.st (fun _ _ kz => pw_iload1 dX12_plays_19 kz) ?_
  refine WQ.st (fun _ _ kz => pw_iadd dX12_plays_20 kz) ?_
  refine WQ.st (fun _ _ kz => pw_ald (j := 82 + p) dX12_plays_21 (mf_s1 hF) (by simp (disch := omega) only [nl_82, nI_add, pk_mul, pk_sub]; exact ix_m (by omega) (by omega)) (by omega) kz) ?_
  rw [up2_at, pm_up_ne (show 82 + p ≠ 77 + p by omega)]
  refine WQ.st (fun _ _ kz => pw_aload0 dX12_plays_22 kz) ?_
  refine WQ.st (fun _ _ kz => pw_geti gX12_290 dX12_plays_23 hF.1 kz) ?_
  refine WQ.st (fun _ _ kz => pw_iadd dX12_plays_26 kz) ?_
  refine WQ.st (fun _ _ kz => pw_istore2 dX12_plays_27 (by decide) (k := kz)) ?_
  refine WQ.st (fun _ _ kz => pw_aload0 dX12_plays_28 kz) ?_
  refine WQ.st (fun _ _ kz => pw_getr gX12_13 dX12_plays_29 hF.1 (mf_p1 hF) kz) ?_
  refine WQ.st (fun _ _ kz => pw_bipush (v := 82) dX12_plays_32 (by decide) kz) ?_
  refine WQ.st (fun _ _ kz => pw_iload1 dX12_plays_34 kz) ?_
  refine WQ.st (fun _ _ kz => pw_iadd dX12_plays_35 kz) ?_
  refine WQ.st (fun _ _ kz => pw_iload2 dX12_plays_36 kz) ?_
  refine WQ.st (fun _ _ kz => pw_ldcw kX12_329 dX12_plays_37 kz) ?_
  refine WQ.br (fun _ _ ka kb => pw_icmp_le (tgt := 49) dX12_plays_40 (by decide) ka kb) (fun c40 => ?_) (fun c40 => ?_)
  · refine WQ.st (fun _ _ kz => pw_iload2 dX12_plays_49 kz) ?_
    refine WQ.st (fun _ _ kz => pw_ldcw kX12_330 dX12_plays_50 kz) ?_
    refine WQ.br (fun _ _ ka kb => pw_icmp_ge (tgt := 62) dX12_plays_53 (by decide) ka kb) (fun c53 => ?_) (fun c53 => ?_)
    · refine WQ.st (fun _ _ kz => pw_iload2 dX12_plays_62 kz) ?_
      refine WQ.st (fun _ _ kz => pw_ast (j := 82 + p) dX12_plays_63 (mf_s1 hF) (by simp (disch := omega) only [nl_82, nI_add, pk_mul, pk_sub]; exact ix_m (by omega) (by omega)) (by omega)  kz) ?_
      refine ⟨_, _, pw_vret dX12_plays_64 rfl rfl rfl, ?_⟩
      exact ⟨rfl, _, rfl, by rw [up2_pm (A := A), up2_up]; unfold sp_plays rf_jo; rw [if_pos c40, if_pos c53]⟩
    · refine WQ.st (fun _ _ kz => pw_ldcw kX12_330 dX12_plays_56 kz) ?_
      refine WQ.st (fun _ _ kz => pw_goto (tgt := 63) dX12_plays_59 (by decide) kz) ?_
      refine WQ.st (fun _ _ kz => pw_ast (j := 82 + p) dX12_plays_63 (mf_s1 hF) (by simp (disch := omega) only [nl_82, nI_add, pk_mul, pk_sub]; exact ix_m (by omega) (by omega)) (by omega)  kz) ?_
      refine ⟨_, _, pw_vret dX12_plays_64 rfl rfl rfl, ?_⟩
      exact ⟨rfl, _, rfl, by rw [up2_pm (A := A), up2_up]; unfold sp_plays rf_jo; rw [if_pos c40, if_neg c53]⟩
  · refine WQ.st (fun _ _ kz => pw_ldcw kX12_329 dX12_plays_43 kz) ?_
    refine WQ.st (fun _ _ kz => pw_goto (tgt := 63) dX12_plays_46 (by decide) kz) ?_
    refine WQ.st (fun _ _ kz => pw_ast (j := 82 + p) dX12_plays_63 (mf_s1 hF) (by simp (disch := omega) only [nl_82, nI_add, pk_mul, pk_sub]; exact ix_m (by omega) (by omega)) (by omega)  kz) ?_
    refine ⟨_, _, pw_vret dX12_plays_64 rfl rfl rfl, ?_⟩
    exact ⟨rfl, _, rfl, by rw [up2_pm (A := A), up2_up]; unfold sp_plays rf_jo; rw [if_neg c40]⟩
def sp_lend (al : Nat → Int32) (p q : Nat) (z : Int32) : Nat → Int32 := pm_up (pm_up al (77 + p) (al (77 + p) - z)) (77 + q) (pm_up al (77 + p) (al (77 + p) - z) (77 + q) + z)
set_option maxRecDepth 20000 in
theorem c_lends1 {G : gT} {d : Nat} {S : sS} {V : sV} {P : sP} {A : sV} {B : sB} {Q : sP} {t sl o : Nat} (hF : MF S P o) {p q : Nat} (hp : p < 5) (hq : q < 5) (z : Int32) : WQ G d mX12_lends1 0 [some (.ref o), some (.int (nI p)), some (.int (nI q)), some (.int z)] [] (t, sl, gh S V P A B Q) (fun r h' => r = none ∧ ∃ A' : sV, h' = (t, sl, gh S V P A' B Q) ∧ A' = pm_up A (o + 1) (sp_lend (A (o + 1)) p q z)) := by
  refine WQ.st (fun _ _ kz => pw_aload0 dX12_lends1_0 kz) ?_
  refine WQ.st (fun _ _ kz => pw_getr gX12_13 dX12_lends1_1 hF.1 (mf_p1 hF) kz) ?_
  refine WQ.st (fun _ _ kz => pw_bipush (v := 77) dX12_lends1_4 (by decide) kz) ?_
  refine WQ.st (fun _ _ kz => pw_iload1 dX12_lends1_6 kz) ?_
  refine WQ.st (fun _ _ kz => pw_iadd dX12_lends1_7 kz) ?_
  refine WQ.st (fun _ _ kz => pw_dup2_11 dX12_lends1_8 rfl rfl kz) ?_
  refine WQ.st (fun _ _ kz => pw_ald (j := 77 + p) dX12_lends1_9 (mf_s1 hF) (by simp (disch := omega) only [nl_77, nI_add, pk_mul, pk_sub]; exact ix_m (by omega) (by omega)) (by omega) kz) ?_
  refine WQ.st (fun _ _ kz => pw_iload3 dX12_lends1_10 kz) ?_
  refine WQ.st (fun _ _ kz => pw_isub dX12_lends1_11 kz) ?_
  refine WQ.st (fun _ _ kz => pw_ast (j := 77 + p) dX12_lends1_12 (mf_s1 hF) (by simp (disch := omega) only [nl_77, nI_add, pk_mul, pk_sub]; exact ix_m (by omega) (by omega)) (by omega)  kz) ?_
  refine WQ.st (fun _ _ kz => pw_aload0 dX12_lends1_13 kz) ?_
  refine WQ.st (fun _ _ kz => pw_getr gX12_13 dX12_lends1_14 hF.1 (mf_p1 hF) kz) ?_
  refine WQ.st (fun _ _ kz => pw_bipush (v := 77) dX12_lends1_17 (by decide) kz) ?_
  refine WQ.st (fun _ _ kz => pw_iload2 dX12_lends1_19 kz) ?_
  refine WQ.st (fun _ _ kz => pw_iadd dX12_lends1_20 kz) ?_
  refine WQ.st (fun _ _ kz => pw_dup2_11 dX12_lends1_21 rfl rfl kz) ?_
  refine WQ.st (fun _ _ kz => pw_ald (j := 77 + q) dX12_lends1_22 (mf_s1 hF) (by simp (disch := omega) only [nl_77, nI_add, pk_mul, pk_sub]; exact ix_m (by omega) (by omega)) (by omega) kz) ?_
  refine WQ.st (fun _ _ kz => pw_iload3 dX12_lends1_23 kz) ?_
  refine WQ.st (fun _ _ kz => pw_iadd dX12_lends1_24 kz) ?_
  refine WQ.st (fun _ _ kz => pw_ast (j := 77 + q) dX12_lends1_25 (mf_s1 hF) (by simp (disch := omega) only [nl_77, nI_add, pk_mul, pk_sub]; exact ix_m (by omega) (by omega)) (by omega)  kz) ?_
  refine ⟨_, _, pw_vret dX12_lends1_26 rfl rfl rfl, ?_⟩
  exact ⟨rfl, _, rfl, by rw [up2_pm (A := A), up2_up, pm_up_eq]; rfl⟩
