/-! ===== the reference: what is only told ===== -/
def isT (w k : Int) : Bool := decide (0 ≤ w ∧ w ≤ k) || decide (10 ≤ w ∧ w ≤ 21)
def isE (x : Int) : Bool := isS x || decide (x = 99)
theorem and1_v (y : Int32) : y &&& 1 = bI (decide (y &&& 1 = 1)) := by
  by_cases h : y &&& 1 = 1
  · rw [decide_eq_true h, h]
    rfl
  · rw [decide_eq_false h]
    rw [← Int32.toBitVec_inj, ← BitVec.toNat_inj, Int32.toBitVec_and, BitVec.toNat_and] at h ⊢
    have e : (y.toBitVec.toNat &&& 1) = y.toBitVec.toNat % 2 := Nat.and_one_is_mod _
    have h : ¬ (y.toBitVec.toNat &&& 1) = 1 := h
    show (y.toBitVec.toNat &&& 1) = 0
    omega
set_option maxRecDepth 20000 in
theorem c_isBar {G : gT} {d : Nat} {S : sS} {V : sV} {P : sP} {A : sV} {B : sB} {Q : sP} {t sl o : Nat} (hF : MF S P o) (hD : DV (A (o + 1))) (x y : Int32) : WQ G (d + 2) mX12_isBar 0 [some (.ref o), some (.int x), some (.int y)] [] (t, sl, gh S V P A B Q) (fun r h' => r = some (.int (bI (isB (A (o + 1)) x.toInt y.toInt))) ∧ h' = (t, sl, gh S V P A B Q)) := by
  refine WQ.st (fun _ _ kz => pw_aload0 dX12_isBar_0 kz) ?_
  refine WQ.st (fun _ _ kz => pw_iload1 dX12_isBar_1 kz) ?_
  refine WQ.st (fun _ _ kz => pw_i2l dX12_isBar_2 kz) ?_
  refine WQ.st (fun _ _ kz => pw_o1i wX12_isPiece lX12_248 rfl dX12_isBar_3 hF.1 (c_isPiece hF hD _) rfl (Nat.le_of_ble_eq_true rfl) (Nat.le_of_ble_eq_true rfl) kz) ?_
  refine WQ.br (fun _ _ ka kb => pw_if_eq (tgt := 34) dX12_isBar_6 (by decide) ka kb) (fun c6 => ?_) (fun c6 => ?_)
  · rw [bI_0] at c6
    rw [il_t] at c6
    refine WQ.st (fun _ _ kz => pw_iconst (v := 0) dX12_isBar_34 (by decide) kz) ?_
    refine ⟨_, _, pw_iret dX12_isBar_35 rfl rfl rfl rfl, ?_⟩
    exact ⟨rI (bI_z (by unfold isB; rw [c6]; rfl)), rfl⟩
  · rw [bI_n] at c6
    rw [il_t] at c6
    have g2 := isQ_t c6
    have hn4 := hD.n4
    obtain ⟨q, ep, tp, lp⟩ := nI_get g2.1 g2.2 (by omega)
    have hq : q < 4 := by omega
    rw [ep]
    refine WQ.st (fun _ _ kz => pw_iload2 dX12_isBar_9 kz) ?_
    refine WQ.st (fun _ _ kz => pw_i2l dX12_isBar_10 kz) ?_
    refine WQ.st (fun _ _ kz => pw_lconst (v := 0) dX12_isBar_11 (by decide) kz) ?_
    refine WQ.st (fun _ _ kz => pw_aload0 dX12_isBar_12 kz) ?_
    refine WQ.st (fun _ _ kz => pw_getr gX12_13 dX12_isBar_13 hF.1 (mf_p1 hF) kz) ?_
    refine WQ.st (fun _ _ kz => pw_bipush (v := 10) dX12_isBar_16 (by decide) kz) ?_
    refine WQ.st (fun _ _ kz => pw_iload1 dX12_isBar_18 kz) ?_
    refine WQ.st (fun _ _ kz => pw_iadd dX12_isBar_19 kz) ?_
    refine WQ.st (fun _ _ kz => pw_ald (j := 10 + q) dX12_isBar_20 (mf_s1 hF) (by simp (disch := omega) only [nl_10, nI_add, pk_mul, pk_sub]; exact ix_m (by omega) (by omega)) (by omega) kz) ?_
    refine WQ.st (fun _ _ kz => pw_iconst (v := 1) dX12_isBar_21 (by decide) kz) ?_
    refine WQ.st (fun _ _ kz => pw_isub dX12_isBar_22 kz) ?_
    refine WQ.st (fun _ _ kz => pw_i2l dX12_isBar_23 kz) ?_
    refine WQ.st (fun _ _ kz => pw_s3i wX12_within lX12_152 dX12_isBar_24 (c_withinI _ _ _) rfl (Nat.le_of_ble_eq_true rfl) (Nat.le_of_ble_eq_true rfl) kz) ?_
    rw [sub1_t (hD.lg q hq).1 (hD.lg q hq).2 (by decide), il_t]
    refine WQ.br (fun _ _ ka kb => pw_if_eq (tgt := 34) dX12_isBar_27 (by decide) ka kb) (fun c27 => ?_) (fun c27 => ?_)
    · rw [bI_0] at c27
      refine WQ.st (fun _ _ kz => pw_iconst (v := 0) dX12_isBar_34 (by decide) kz) ?_
      refine ⟨_, _, pw_iret dX12_isBar_35 rfl rfl rfl rfl, ?_⟩
      exact ⟨rI (bI_z (by unfold isB; have c27 := of_decide_eq_false c27; have c27 : ¬ (0 ≤ y.toInt ∧ y.toInt ≤ (A (o + 1) (10 + q)).toInt - 1) := c27; rw [← ep, c6, tp, Int.toNat_natCast, decide_eq_false (by omega)]; rfl)), rfl⟩
    · rw [bI_n] at c27
      refine WQ.st (fun _ _ kz => pw_iconst (v := 1) dX12_isBar_30 (by decide) kz) ?_
      refine WQ.st (fun _ _ kz => pw_goto (tgt := 35) dX12_isBar_31 (by decide) kz) ?_
      refine ⟨_, _, pw_iret dX12_isBar_35 rfl rfl rfl rfl, ?_⟩
      exact ⟨rI (bI_t (by unfold isB; have c27 := of_decide_eq_true c27; have c27 : 0 ≤ y.toInt ∧ y.toInt ≤ (A (o + 1) (10 + q)).toInt - 1 := c27; rw [← ep, c6, tp, Int.toNat_natCast, decide_eq_true (by omega)]; rfl)), rfl⟩
set_option maxRecDepth 20000 in
theorem c_areBoth {G : gT} {d : Nat} {S : sS} {V : sV} {P : sP} {A : sV} {B : sB} {Q : sP} {t sl o : Nat} (hF : MF S P o) (hD : DV (A (o + 1))) (x y : Int32) : WQ G (d + 2) mX12_areBoth 0 [some (.ref o), some (.int x), some (.int y)] [] (t, sl, gh S V P A B Q) (fun r h' => r = some (.int (bI (isP (A (o + 1)) x.toInt && isQ (A (o + 1)) y.toInt))) ∧ h' = (t, sl, gh S V P A B Q)) := by
  refine WQ.st (fun _ _ kz => pw_aload0 dX12_areBoth_0 kz) ?_
  refine WQ.st (fun _ _ kz => pw_iload1 dX12_areBoth_1 kz) ?_
  refine WQ.st (fun _ _ kz => pw_i2l dX12_areBoth_2 kz) ?_
  refine WQ.st (fun _ _ kz => pw_o1i wX12_isPlayer lX12_244 rfl dX12_areBoth_3 hF.1 (c_isPlayer hF hD _) rfl (Nat.le_of_ble_eq_true rfl) (Nat.le_of_ble_eq_true rfl) kz) ?_
  refine WQ.br (fun _ _ ka kb => pw_if_eq (tgt := 22) dX12_areBoth_6 (by decide) ka kb) (fun c6 => ?_) (fun c6 => ?_)
  · rw [bI_0] at c6
    refine WQ.st (fun _ _ kz => pw_iconst (v := 0) dX12_areBoth_22 (by decide) kz) ?_
    refine ⟨_, _, pw_iret dX12_areBoth_23 rfl rfl rfl rfl, ?_⟩
    exact ⟨rI (bI_z (by rw [il_t] at c6; rw [c6]; rfl)), rfl⟩
  · rw [bI_n] at c6
    refine WQ.st (fun _ _ kz => pw_aload0 dX12_areBoth_9 kz) ?_
    refine WQ.st (fun _ _ kz => pw_iload2 dX12_areBoth_10 kz) ?_
    refine WQ.st (fun _ _ kz => pw_i2l dX12_areBoth_11 kz) ?_
    refine WQ.st (fun _ _ kz => pw_o1i wX12_isPiece lX12_248 rfl dX12_areBoth_12 hF.1 (c_isPiece hF hD _) rfl (Nat.le_of_ble_eq_true rfl) (Nat.le_of_ble_eq_true rfl) kz) ?_
    refine WQ.br (fun _ _ ka kb => pw_if_eq (tgt := 22) dX12_areBoth_15 (by decide) ka kb) (fun c15 => ?_) (fun c15 => ?_)
    · rw [bI_0] at c15
      refine WQ.st (fun _ _ kz => pw_iconst (v := 0) dX12_areBoth_22 (by decide) kz) ?_
      refine ⟨_, _, pw_iret dX12_areBoth_23 rfl rfl rfl rfl, ?_⟩
      exact ⟨rI (bI_z (by rw [il_t] at c6 c15; rw [c6, c15]; rfl)), rfl⟩
    · rw [bI_n] at c15
      refine WQ.st (fun _ _ kz => pw_iconst (v := 1) dX12_areBoth_18 (by decide) kz) ?_
      refine WQ.st (fun _ _ kz => pw_goto (tgt := 23) dX12_areBoth_19 (by decide) kz) ?_
      refine ⟨_, _, pw_iret dX12_areBoth_23 rfl rfl rfl rfl, ?_⟩
      exact ⟨rI (bI_t (by rw [il_t] at c6 c15; rw [c6, c15]; rfl)), rfl⟩
set_option maxRecDepth 20000 in
theorem c_isTold {G : gT} {d : Nat} {h : Ph} (x y : Int32) : WQ G (d + 1) mX12_isTold 0 [some (.int x), some (.int y)] [] h (fun r h' => r = some (.int (bI (isT x.toInt y.toInt))) ∧ h' = h) := by
  refine WQ.st (fun _ _ kz => pw_iload0 dX12_isTold_0 kz) ?_
  refine WQ.st (fun _ _ kz => pw_i2l dX12_isTold_1 kz) ?_
  refine WQ.st (fun _ _ kz => pw_lconst (v := 0) dX12_isTold_2 (by decide) kz) ?_
  refine WQ.st (fun _ _ kz => pw_iload1 dX12_isTold_3 kz) ?_
  refine WQ.st (fun _ _ kz => pw_i2l dX12_isTold_4 kz) ?_
  refine WQ.st (fun _ _ kz => pw_s3i wX12_within lX12_152 dX12_isTold_5 (c_withinI _ _ _) rfl (Nat.le_of_ble_eq_true rfl) (Nat.le_of_ble_eq_true rfl) kz) ?_
  refine WQ.bn (fun _ _ ka kb => pw_if_ne (tgt := 25) dX12_isTold_8 (by decide) ka kb) (fun c8 => ?_) (fun c8 => ?_)
  · rw [bI_n] at c8
    refine WQ.st (fun _ _ kz => pw_iconst (v := 1) dX12_isTold_25 (by decide) kz) ?_
    refine WQ.st (fun _ _ kz => pw_goto (tgt := 30) dX12_isTold_26 (by decide) kz) ?_
    refine ⟨_, _, pw_iret dX12_isTold_30 rfl rfl rfl rfl, ?_⟩
    exact ⟨rI (bI_t (by
      have d8 : decide (0 ≤ x.toInt ∧ x.toInt ≤ y.toInt) = true := by rw [il_t, il_t] at c8; exact c8
      unfold isT; rw [d8]; rfl)), rfl⟩
  · rw [bI_0] at c8
    refine WQ.st (fun _ _ kz => pw_iload0 dX12_isTold_11 kz) ?_
    refine WQ.st (fun _ _ kz => pw_i2l dX12_isTold_12 kz) ?_
    refine WQ.st (fun _ _ kz => pw_ldc2 kX12_361 dX12_isTold_13 kz) ?_
    refine WQ.st (fun _ _ kz => pw_ldc2 kX12_411 dX12_isTold_16 kz) ?_
    refine WQ.st (fun _ _ kz => pw_s3i wX12_within lX12_152 dX12_isTold_19 (c_withinI _ _ _) rfl (Nat.le_of_ble_eq_true rfl) (Nat.le_of_ble_eq_true rfl) kz) ?_
    refine WQ.br (fun _ _ ka kb => pw_if_eq (tgt := 29) dX12_isTold_22 (by decide) ka kb) (fun c22 => ?_) (fun c22 => ?_)
    · rw [bI_0] at c22
      refine WQ.st (fun _ _ kz => pw_iconst (v := 0) dX12_isTold_29 (by decide) kz) ?_
      refine ⟨_, _, pw_iret dX12_isTold_30 rfl rfl rfl rfl, ?_⟩
      exact ⟨rI (bI_z (by
      have d8 : decide (0 ≤ x.toInt ∧ x.toInt ≤ y.toInt) = false := by rw [il_t, il_t] at c8; exact c8
      have d22 : decide (10 ≤ x.toInt ∧ x.toInt ≤ 21) = false := by rw [il_t] at c22; exact c22
      unfold isT; rw [d8, d22]; rfl)), rfl⟩
    · rw [bI_n] at c22
      refine WQ.st (fun _ _ kz => pw_iconst (v := 1) dX12_isTold_25 (by decide) kz) ?_
      refine WQ.st (fun _ _ kz => pw_goto (tgt := 30) dX12_isTold_26 (by decide) kz) ?_
      refine ⟨_, _, pw_iret dX12_isTold_30 rfl rfl rfl rfl, ?_⟩
      exact ⟨rI (bI_t (by
      have d8 : decide (0 ≤ x.toInt ∧ x.toInt ≤ y.toInt) = false := by rw [il_t, il_t] at c8; exact c8
      have d22 : decide (10 ≤ x.toInt ∧ x.toInt ≤ 21) = true := by rw [il_t] at c22; exact c22
      unfold isT; rw [d8, d22]; rfl)), rfl⟩
set_option maxRecDepth 20000 in
theorem c_isEnd {G : gT} {d : Nat} {h : Ph} (x : Int32) : WQ G (d + 2) mX12_isEnd 0 [some (.int x)] [] h (fun r h' => r = some (.int (bI (isE x.toInt))) ∧ h' = h) := by
  refine WQ.st (fun _ _ kz => pw_iload0 dX12_isEnd_0 kz) ?_
  refine WQ.st (fun _ _ kz => pw_i2l dX12_isEnd_1 kz) ?_
  refine WQ.st (fun _ _ kz => pw_s1i wX12_isStore lX12_240 dX12_isEnd_2 (c_isStoreI _) rfl (Nat.le_of_ble_eq_true rfl) (Nat.le_of_ble_eq_true rfl) kz) ?_
  refine WQ.bn (fun _ _ ka kb => pw_if_ne (tgt := 14) dX12_isEnd_5 (by decide) ka kb) (fun c5 => ?_) (fun c5 => ?_)
  · rw [bI_n] at c5
    refine WQ.st (fun _ _ kz => pw_iconst (v := 1) dX12_isEnd_14 (by decide) kz) ?_
    refine WQ.st (fun _ _ kz => pw_goto (tgt := 19) dX12_isEnd_15 (by decide) kz) ?_
    refine ⟨_, _, pw_iret dX12_isEnd_19 rfl rfl rfl rfl, ?_⟩
    exact ⟨rI (bI_t (by rw [il_t] at c5; unfold isE; rw [c5]; rfl)), rfl⟩
  · rw [bI_0] at c5
    refine WQ.st (fun _ _ kz => pw_iload0 dX12_isEnd_8 kz) ?_
    refine WQ.st (fun _ _ kz => pw_bipush (v := 99) dX12_isEnd_9 (by decide) kz) ?_
    refine WQ.bn (fun _ _ ka kb => pw_icmp_ne (tgt := 18) dX12_isEnd_11 (by decide) ka kb) (fun c11 => ?_) (fun c11 => ?_)
    · refine WQ.st (fun _ _ kz => pw_iconst (v := 0) dX12_isEnd_18 (by decide) kz) ?_
      refine ⟨_, _, pw_iret dX12_isEnd_19 rfl rfl rfl rfl, ?_⟩
      exact ⟨rI (bI_z (by rw [il_t] at c5; unfold isE; rw [c5, decide_eq_false (i32_ne (z := 99) rfl c11)]; rfl)), rfl⟩
    · refine WQ.st (fun _ _ kz => pw_iconst (v := 1) dX12_isEnd_14 (by decide) kz) ?_
      refine WQ.st (fun _ _ kz => pw_goto (tgt := 19) dX12_isEnd_15 (by decide) kz) ?_
      refine ⟨_, _, pw_iret dX12_isEnd_19 rfl rfl rfl rfl, ?_⟩
      exact ⟨rI (bI_t (by rw [il_t] at c5; unfold isE; rw [c5, decide_eq_true (show x.toInt = 99 by rw [c11]; rfl)]; rfl)), rfl⟩
def sp_tr (is : Bool) (rg rs : Int32) (row : Nat → Int32) (n : Nat) (w : Int) : Int32 := if is then (if w = 0 then rg else if w = 1 then rs else if (w - 10).toNat < n then row (w - 10).toNat else 9) else -99000001
set_option maxRecDepth 20000 in
theorem c_tellsRow {G : gT} {d : Nat} {S : sS} {V : sV} {P : sP} {A : sV} {B : sB} {Q : sP} {t sl o : Nat} (hF : MF S P o) (hD : DV (A (o + 1))) {q : Nat} (hq : q < 4) (is : Bool) {w : Int32} (hT : isT w.toInt 1 = true) : WQ G (d + 2) mX12_tellsRow 0 [some (.ref o), some (.int (bI is)), some (.int (nI q)), some (.int w)] [] (t, sl, gh S V P A B Q) (fun r h' => r = some (.int (sp_tr is (V o 20) (V o 21) (A (o + 9)) (lgN (A (o + 1)) q) w.toInt)) ∧ h' = (t, sl, gh S V P A B Q)) := by
  refine WQ.st (fun _ _ kz => pw_iload1 dX12_tellsRow_0 kz) ?_
  refine WQ.bn (fun _ _ ka kb => pw_if_ne (tgt := 8) dX12_tellsRow_1 (by decide) ka kb) (fun c1 => ?_) (fun c1 => ?_)
  · rw [bI_n] at c1
    refine WQ.st (fun _ _ kz => pw_iload3 dX12_tellsRow_8 kz) ?_
    refine WQ.bn (fun _ _ ka kb => pw_if_ne (tgt := 19) dX12_tellsRow_9 (by decide) ka kb) (fun c9 => ?_) (fun c9 => ?_)
    · refine WQ.st (fun _ _ kz => pw_iload3 dX12_tellsRow_19 kz) ?_
      refine WQ.st (fun _ _ kz => pw_iconst (v := 1) dX12_tellsRow_20 (by decide) kz) ?_
      refine WQ.bn (fun _ _ ka kb => pw_icmp_ne (tgt := 31) dX12_tellsRow_21 (by decide) ka kb) (fun c21 => ?_) (fun c21 => ?_)
      · refine WQ.st (fun _ _ kz => pw_aload0 dX12_tellsRow_31 kz) ?_
        refine WQ.st (fun _ _ kz => pw_iload2 dX12_tellsRow_32 kz) ?_
        refine WQ.st (fun _ _ kz => pw_iload3 dX12_tellsRow_33 kz) ?_
        refine WQ.st (fun _ _ kz => pw_bipush (v := 10) dX12_tellsRow_34 (by decide) kz) ?_
        refine WQ.st (fun _ _ kz => pw_isub dX12_tellsRow_36 kz) ?_
        have hw : 10 ≤ w.toInt ∧ w.toInt ≤ 21 := by
          have h0 := i32_ne (z := 0) rfl c9
          have h1 := i32_ne (z := 1) rfl c21
          unfold isT at hT
          rw [Bool.or_eq_true] at hT
          rcases hT with q | q
          · have := of_decide_eq_true q
            omega
          · exact of_decide_eq_true q
        have ew : w - 10 = nI (w.toInt - 10).toNat := by
          rw [← Int32.toInt_inj, ti_sub rfl li_10 (by omega), nI_toInt (by omega)]
          omega
        rw [ew]
        refine WQ.st (fun _ _ kz => pw_o2i wX12_rowAt lX12_419 rfl dX12_tellsRow_37 hF.1 (c_rowAt hF hq (hD.lgE hq).2 (hD.lgE hq).1 (by omega)) rfl (Nat.le_of_ble_eq_true rfl) (Nat.le_of_ble_eq_true rfl) kz) ?_
        refine ⟨_, _, pw_iret dX12_tellsRow_40 rfl rfl rfl rfl, ?_⟩
        exact ⟨rI (by unfold sp_tr; rw [if_pos c1, if_neg (i32_ne (z := 0) rfl c9), if_neg (i32_ne (z := 1) rfl c21)]), rfl⟩
      · refine WQ.st (fun _ _ kz => pw_aload0 dX12_tellsRow_24 kz) ?_
        refine WQ.st (fun _ _ kz => pw_geti gX12_293 dX12_tellsRow_25 hF.1 kz) ?_
        refine WQ.st (fun _ _ kz => pw_goto (tgt := 40) dX12_tellsRow_28 (by decide) kz) ?_
        refine ⟨_, _, pw_iret dX12_tellsRow_40 rfl rfl rfl rfl, ?_⟩
        exact ⟨rI (by unfold sp_tr; rw [if_pos c1, if_neg (i32_ne (z := 0) rfl c9), if_pos (show w.toInt = 1 by rw [c21]; rfl)]), rfl⟩
    · refine WQ.st (fun _ _ kz => pw_aload0 dX12_tellsRow_12 kz) ?_
      refine WQ.st (fun _ _ kz => pw_geti gX12_290 dX12_tellsRow_13 hF.1 kz) ?_
      refine WQ.st (fun _ _ kz => pw_goto (tgt := 40) dX12_tellsRow_16 (by decide) kz) ?_
      refine ⟨_, _, pw_iret dX12_tellsRow_40 rfl rfl rfl rfl, ?_⟩
      exact ⟨rI (by unfold sp_tr; rw [if_pos c1, if_pos (show w.toInt = 0 by rw [c9]; rfl)]), rfl⟩
  · rw [bI_0] at c1
    refine WQ.st (fun _ _ kz => pw_ldcw kX12_422 dX12_tellsRow_4 kz) ?_
    refine ⟨_, _, pw_iret dX12_tellsRow_7 rfl rfl rfl rfl, ?_⟩
    exact ⟨rI (by unfold sp_tr; rw [if_neg (by rw [c1]; decide)]), rfl⟩
def sp_player (al : Nat → Int32) (x y : Int) : Int32 := if isP al x then (if y = 0 then al (77 + x.toNat) else if y = 1 then al (82 + x.toNat) else if y = 2 then al (87 + x.toNat) else if y = 3 then bI (brd (al 75).toInt x.toNat) else -99000002) else -99000002
set_option maxRecDepth 20000 in
theorem p_player {G : gT} {d : Nat} {S : sS} {V : sV} {P : sP} {A : sV} {B : sB} {Q : sP} {t sl o : Nat} (hF : MF S P o) (hA : AV (A (o + 1)))  (x y : Int32) : WQ G (d + 9) mX12_player 0 [some (.ref o), some (.int x), some (.int y)] [] (t, sl, gh S V P A B Q) (PZ o S P Q t sl V A B (.int (sp_player (A (o + 1)) x.toInt y.toInt)) (A (o + 1))) := by
  refine WQ.st (fun _ _ kz => pw_aload0 dX12_player_0 kz) ?_
  refine WQ.st (fun _ _ kz => pw_iconst (v := 0) dX12_player_1 (by decide) kz) ?_
  refine WQ.st (fun _ _ kz => pw_puti (pX12_1 _ rfl) dX12_player_2 hF.1 rfl rfl kz) ?_
  refine WQ.st (fun _ _ kz => pw_aload0 dX12_player_5 kz) ?_
  refine WQ.st (fun _ _ kz => pw_iload1 dX12_player_6 kz) ?_
  refine WQ.st (fun _ _ kz => pw_i2l dX12_player_7 kz) ?_
  refine WQ.st (fun _ _ kz => pw_o1i wX12_isPlayer lX12_244 rfl dX12_player_8 hF.1 (c_isPlayer hF hA.dv _) rfl (Nat.le_of_ble_eq_true rfl) (Nat.le_of_ble_eq_true rfl) kz) ?_
  refine WQ.bn (fun _ _ ka kb => pw_if_ne (tgt := 17) dX12_player_11 (by decide) ka kb) (fun c11 => ?_) (fun c11 => ?_)
  · rw [bI_n] at c11
    rw [il_t] at c11
    have g1 := isP_t c11
    have hp5 := hA.dv.p5
    obtain ⟨p, ep, tp, lp⟩ := nI_get g1.1 g1.2 (by omega)
    have hp : p < 5 := by omega
    rw [ep]
    refine WQ.st (fun _ _ kz => pw_iload2 dX12_player_17 kz) ?_
    by_cases h18_0 : y = 0
    · refine WQ.st (fun _ _ kz => pw_tableIn (off := 30) (tgt := 48) dX12_player_18 (by rw [h18_0]; decide) (by rw [h18_0]; decide) (by rw [h18_0]; rfl) (by decide) kz) ?_
      refine WQ.st (fun _ _ kz => pw_aload0 dX12_player_48 kz) ?_
      refine WQ.st (fun _ _ kz => pw_getr gX12_13 dX12_player_49 hF.1 (mf_p1 hF) kz) ?_
      refine WQ.st (fun _ _ kz => pw_bipush (v := 77) dX12_player_52 (by decide) kz) ?_
      refine WQ.st (fun _ _ kz => pw_iload1 dX12_player_54 kz) ?_
      refine WQ.st (fun _ _ kz => pw_iadd dX12_player_55 kz) ?_
      refine WQ.st (fun _ _ kz => pw_ald (j := 77 + p) dX12_player_56 (mf_s1 hF) (by simp (disch := omega) only [nl_77, nI_add, pk_mul, pk_sub]; exact ix_m (by omega) (by omega)) (by omega) kz) ?_
      refine ⟨_, _, pw_iret dX12_player_57 rfl rfl rfl rfl, ?_⟩
      have c0 : sp_player (A (o + 1)) x.toInt y.toInt = A (o + 1) (77 + p) := by unfold sp_player; rw [if_pos c11, tp, Int.toNat_natCast, if_pos (show y.toInt = 0 by rw [h18_0]; rfl)]
      rw [← ep, c0]
      exact PZ.q (FP.up (by decide)) FQ.rfl FB.rfl
    by_cases h18_1 : y = 1
    · refine WQ.st (fun _ _ kz => pw_tableIn (off := 40) (tgt := 58) dX12_player_18 (by rw [h18_1]; decide) (by rw [h18_1]; decide) (by rw [h18_1]; rfl) (by decide) kz) ?_
      refine WQ.st (fun _ _ kz => pw_aload0 dX12_player_58 kz) ?_
      refine WQ.st (fun _ _ kz => pw_getr gX12_13 dX12_player_59 hF.1 (mf_p1 hF) kz) ?_
      refine WQ.st (fun _ _ kz => pw_bipush (v := 82) dX12_player_62 (by decide) kz) ?_
      refine WQ.st (fun _ _ kz => pw_iload1 dX12_player_64 kz) ?_
      refine WQ.st (fun _ _ kz => pw_iadd dX12_player_65 kz) ?_
      refine WQ.st (fun _ _ kz => pw_ald (j := 82 + p) dX12_player_66 (mf_s1 hF) (by simp (disch := omega) only [nl_82, nI_add, pk_mul, pk_sub]; exact ix_m (by omega) (by omega)) (by omega) kz) ?_
      refine ⟨_, _, pw_iret dX12_player_67 rfl rfl rfl rfl, ?_⟩
      have c0 : sp_player (A (o + 1)) x.toInt y.toInt = A (o + 1) (82 + p) := by unfold sp_player; rw [if_pos c11, tp, Int.toNat_natCast, if_neg (i32_ne (z := 0) rfl h18_0), if_pos (show y.toInt = 1 by rw [h18_1]; rfl)]
      rw [← ep, c0]
      exact PZ.q (FP.up (by decide)) FQ.rfl FB.rfl
    by_cases h18_2 : y = 2
    · refine WQ.st (fun _ _ kz => pw_tableIn (off := 50) (tgt := 68) dX12_player_18 (by rw [h18_2]; decide) (by rw [h18_2]; decide) (by rw [h18_2]; rfl) (by decide) kz) ?_
      refine WQ.st (fun _ _ kz => pw_aload0 dX12_player_68 kz) ?_
      refine WQ.st (fun _ _ kz => pw_getr gX12_13 dX12_player_69 hF.1 (mf_p1 hF) kz) ?_
      refine WQ.st (fun _ _ kz => pw_bipush (v := 87) dX12_player_72 (by decide) kz) ?_
      refine WQ.st (fun _ _ kz => pw_iload1 dX12_player_74 kz) ?_
      refine WQ.st (fun _ _ kz => pw_iadd dX12_player_75 kz) ?_
      refine WQ.st (fun _ _ kz => pw_ald (j := 87 + p) dX12_player_76 (mf_s1 hF) (by simp (disch := omega) only [nl_87, nI_add, pk_mul, pk_sub]; exact ix_m (by omega) (by omega)) (by omega) kz) ?_
      refine ⟨_, _, pw_iret dX12_player_77 rfl rfl rfl rfl, ?_⟩
      have c0 : sp_player (A (o + 1)) x.toInt y.toInt = A (o + 1) (87 + p) := by unfold sp_player; rw [if_pos c11, tp, Int.toNat_natCast, if_neg (i32_ne (z := 0) rfl h18_0), if_neg (i32_ne (z := 1) rfl h18_1), if_pos (show y.toInt = 2 by rw [h18_2]; rfl)]
      rw [← ep, c0]
      exact PZ.q (FP.up (by decide)) FQ.rfl FB.rfl
    by_cases h18_3 : y = 3
    · refine WQ.st (fun _ _ kz => pw_tableIn (off := 60) (tgt := 78) dX12_player_18 (by rw [h18_3]; decide) (by rw [h18_3]; decide) (by rw [h18_3]; rfl) (by decide) kz) ?_
      refine WQ.st (fun _ _ kz => pw_aload0 dX12_player_78 kz) ?_
      refine WQ.st (fun _ _ kz => pw_getr gX12_13 dX12_player_79 hF.1 (mf_p1 hF) kz) ?_
      refine WQ.st (fun _ _ kz => pw_bipush (v := 75) dX12_player_82 (by decide) kz) ?_
      refine WQ.st (fun _ _ kz => pw_ald (j := 75) dX12_player_84 (mf_s1 hF) rfl (by omega) kz) ?_
      refine WQ.st (fun _ _ kz => pw_iload1 dX12_player_85 kz) ?_
      refine WQ.st (fun _ _ kz => pw_ishr dX12_player_86 kz) ?_
      refine WQ.st (fun _ _ kz => pw_iconst (v := 1) dX12_player_87 (by decide) kz) ?_
      refine WQ.st (fun _ _ kz => pw_iand dX12_player_88 kz) ?_
      rw [and1_v, brd_32 _ (by omega)]
      refine ⟨_, _, pw_iret dX12_player_89 rfl rfl rfl rfl, ?_⟩
      have c0 : sp_player (A (o + 1)) x.toInt y.toInt = bI (brd (A (o + 1) 75).toInt p) := by unfold sp_player; rw [if_pos c11, tp, Int.toNat_natCast, if_neg (i32_ne (z := 0) rfl h18_0), if_neg (i32_ne (z := 1) rfl h18_1), if_neg (i32_ne (z := 2) rfl h18_2), if_pos (show y.toInt = 3 by rw [h18_3]; rfl)]
      rw [← ep, c0]
      exact PZ.q (FP.up (by decide)) FQ.rfl FB.rfl
    have g18_0 := i32_ne (z := 0) rfl h18_0
    have g18_1 := i32_ne (z := 1) rfl h18_1
    have g18_2 := i32_ne (z := 2) rfl h18_2
    have g18_3 := i32_ne (z := 3) rfl h18_3
    refine WQ.st (fun _ _ kz => pw_tableOut (tgt := 90) dX12_player_18 (by omega) (by decide) kz) ?_
    refine WQ.st (fun _ _ kz => pw_ldc kX12_247 dX12_player_90 kz) ?_
    refine ⟨_, _, pw_iret dX12_player_92 rfl rfl rfl rfl, ?_⟩
    have c0 : sp_player (A (o + 1)) x.toInt y.toInt = -99000002 := by unfold sp_player; rw [if_pos c11, tp, Int.toNat_natCast, if_neg (i32_ne (z := 0) rfl h18_0), if_neg (i32_ne (z := 1) rfl h18_1), if_neg (i32_ne (z := 2) rfl h18_2), if_neg (i32_ne (z := 3) rfl h18_3)]
    rw [← ep, c0]
    exact PZ.q (FP.up (by decide)) FQ.rfl FB.rfl
  · rw [bI_0] at c11
    rw [il_t] at c11
    refine WQ.st (fun _ _ kz => pw_ldc kX12_247 dX12_player_14 kz) ?_
    refine ⟨_, _, pw_iret dX12_player_16 rfl rfl rfl rfl, ?_⟩
    have c0 : sp_player (A (o + 1)) x.toInt y.toInt = -99000002 := by unfold sp_player; rw [if_neg (by rw [c11]; decide)]
    rw [c0]
    exact PZ.q (FP.up (by decide)) FQ.rfl FB.rfl
def sp_wants (al : Nat → Int32) (x y : Int) : Int32 := if isB al x y then al (15 + 12 * x.toNat + y.toNat) else -99000002
def sp_bars (al : Nat → Int32) (x : Int) : Int32 := if isQ al x then al (10 + x.toNat) else -99000002
theorem isB_t {al : Nat → Int32} (hD : DV al) {x y : Int32} (h : isB al x.toInt y.toInt = true) : ∃ q b : Nat, x = nI q ∧ x.toInt = (q : Int) ∧ q < 4 ∧ y = nI b ∧ y.toInt = (b : Int) ∧ b < 12 ∧ b < lgN al q ∧ isQ al x.toInt = true := by
  unfold isB at h
  rw [Bool.and_eq_true] at h
  have g1 := isQ_t h.1
  have hn := hD.n4
  have g2 := of_decide_eq_true h.2
  have g3 := hD.lg x.toInt.toNat (by omega)
  refine ⟨x.toInt.toNat, y.toInt.toNat, nI_ofI g1.1, by omega, by omega, nI_ofI g2.1, by omega, by omega, ?_, h.1⟩
  unfold lgN
  omega
set_option maxRecDepth 20000 in
theorem p_wants {G : gT} {d : Nat} {S : sS} {V : sV} {P : sP} {A : sV} {B : sB} {Q : sP} {t sl o : Nat} (hF : MF S P o) (hA : AV (A (o + 1)))  (x y : Int32) : WQ G (d + 9) mX12_wants 0 [some (.ref o), some (.int x), some (.int y)] [] (t, sl, gh S V P A B Q) (PZ o S P Q t sl V A B (.int (sp_wants (A (o + 1)) x.toInt y.toInt)) (A (o + 1))) := by
  refine WQ.st (fun _ _ kz => pw_aload0 dX12_wants_0 kz) ?_
  refine WQ.st (fun _ _ kz => pw_iconst (v := 0) dX12_wants_1 (by decide) kz) ?_
  refine WQ.st (fun _ _ kz => pw_puti (pX12_1 _ rfl) dX12_wants_2 hF.1 rfl rfl kz) ?_
  refine WQ.st (fun _ _ kz => pw_aload0 dX12_wants_5 kz) ?_
  refine WQ.st (fun _ _ kz => pw_iload1 dX12_wants_6 kz) ?_
  refine WQ.st (fun _ _ kz => pw_iload2 dX12_wants_7 kz) ?_
  obtain ⟨_, _, k0, rfl, rfl⟩ := c_isBar (d := d + 6) (P := P) (S := S) (G := G) (V := (up2 V o 0 0)) (A := A) (B := B) (Q := Q) (t := t) (sl := sl) hF hA.dv x y
  refine WQ.st (fun _ _ kz => pw_o2i wX12_isBar lX12_251 rfl dX12_wants_8 hF.1 (k0) rfl (Nat.le_of_ble_eq_true rfl) (Nat.le_of_ble_eq_true rfl) kz) ?_
  refine WQ.br (fun _ _ ka kb => pw_if_eq (tgt := 31) dX12_wants_11 (by decide) ka kb) (fun c11 => ?_) (fun c11 => ?_)
  · rw [bI_0] at c11
    refine WQ.st (fun _ _ kz => pw_ldc kX12_247 dX12_wants_31 kz) ?_
    refine ⟨_, _, pw_iret dX12_wants_33 rfl rfl rfl rfl, ?_⟩
    have c0 : sp_wants (A (o + 1)) x.toInt y.toInt = -99000002 := by unfold sp_wants; rw [if_neg (by rw [c11]; decide)]
    rw [c0]
    exact PZ.q (FP.up (by decide)) FQ.rfl FB.rfl
  · rw [bI_n] at c11
    obtain ⟨q, b, ep, tp, hq, eb, tb, hb, hbl, hQ⟩ := isB_t hA.dv c11
    rw [ep, eb]
    refine WQ.st (fun _ _ kz => pw_aload0 dX12_wants_14 kz) ?_
    refine WQ.st (fun _ _ kz => pw_getr gX12_13 dX12_wants_15 hF.1 (mf_p1 hF) kz) ?_
    refine WQ.st (fun _ _ kz => pw_bipush (v := 15) dX12_wants_18 (by decide) kz) ?_
    refine WQ.st (fun _ _ kz => pw_bipush (v := 12) dX12_wants_20 (by decide) kz) ?_
    refine WQ.st (fun _ _ kz => pw_iload1 dX12_wants_22 kz) ?_
    refine WQ.st (fun _ _ kz => pw_imul dX12_wants_23 kz) ?_
    refine WQ.st (fun _ _ kz => pw_iadd dX12_wants_24 kz) ?_
    refine WQ.st (fun _ _ kz => pw_iload2 dX12_wants_25 kz) ?_
    refine WQ.st (fun _ _ kz => pw_iadd dX12_wants_26 kz) ?_
    refine WQ.st (fun _ _ kz => pw_ald (j := 15 + 12 * q + b) dX12_wants_27 (mf_s1 hF) (by simp (disch := omega) only [nl_15, nl_12, nI_add, pk_mul, pk_sub]; exact ix_m (by omega) (by omega)) (by omega) kz) ?_
    refine WQ.st (fun _ _ kz => pw_goto (tgt := 33) dX12_wants_28 (by decide) kz) ?_
    refine ⟨_, _, pw_iret dX12_wants_33 rfl rfl rfl rfl, ?_⟩
    have c0 : sp_wants (A (o + 1)) x.toInt y.toInt = A (o + 1) (15 + 12 * q + b) := by unfold sp_wants; rw [if_pos c11, tp, tb, Int.toNat_natCast, Int.toNat_natCast]
    rw [← ep, ← eb, c0]
    exact PZ.q (FP.up (by decide)) FQ.rfl FB.rfl
set_option maxRecDepth 20000 in
theorem p_bars {G : gT} {d : Nat} {S : sS} {V : sV} {P : sP} {A : sV} {B : sB} {Q : sP} {t sl o : Nat} (hF : MF S P o) (hA : AV (A (o + 1)))  (x : Int32) : WQ G (d + 9) mX12_bars 0 [some (.ref o), some (.int x)] [] (t, sl, gh S V P A B Q) (PZ o S P Q t sl V A B (.int (sp_bars (A (o + 1)) x.toInt)) (A (o + 1))) := by
  refine WQ.st (fun _ _ kz => pw_aload0 dX12_bars_0 kz) ?_
  refine WQ.st (fun _ _ kz => pw_iconst (v := 0) dX12_bars_1 (by decide) kz) ?_
  refine WQ.st (fun _ _ kz => pw_puti (pX12_1 _ rfl) dX12_bars_2 hF.1 rfl rfl kz) ?_
  refine WQ.st (fun _ _ kz => pw_aload0 dX12_bars_5 kz) ?_
  refine WQ.st (fun _ _ kz => pw_iload1 dX12_bars_6 kz) ?_
  refine WQ.st (fun _ _ kz => pw_i2l dX12_bars_7 kz) ?_
  refine WQ.st (fun _ _ kz => pw_o1i wX12_isPiece lX12_248 rfl dX12_bars_8 hF.1 (c_isPiece hF hA.dv _) rfl (Nat.le_of_ble_eq_true rfl) (Nat.le_of_ble_eq_true rfl) kz) ?_
  refine WQ.br (fun _ _ ka kb => pw_if_eq (tgt := 26) dX12_bars_11 (by decide) ka kb) (fun c11 => ?_) (fun c11 => ?_)
  · rw [bI_0] at c11
    rw [il_t] at c11
    refine WQ.st (fun _ _ kz => pw_ldc kX12_247 dX12_bars_26 kz) ?_
    refine ⟨_, _, pw_iret dX12_bars_28 rfl rfl rfl rfl, ?_⟩
    have c0 : sp_bars (A (o + 1)) x.toInt = -99000002 := by unfold sp_bars; rw [if_neg (by rw [c11]; decide)]
    rw [c0]
    exact PZ.q (FP.up (by decide)) FQ.rfl FB.rfl
  · rw [bI_n] at c11
    rw [il_t] at c11
    have g2 := isQ_t c11
    have hn4 := hA.dv.n4
    obtain ⟨q, ep, tp, lp⟩ := nI_get g2.1 g2.2 (by omega)
    have hq : q < 4 := by omega
    rw [ep]
    refine WQ.st (fun _ _ kz => pw_aload0 dX12_bars_14 kz) ?_
    refine WQ.st (fun _ _ kz => pw_getr gX12_13 dX12_bars_15 hF.1 (mf_p1 hF) kz) ?_
    refine WQ.st (fun _ _ kz => pw_bipush (v := 10) dX12_bars_18 (by decide) kz) ?_
    refine WQ.st (fun _ _ kz => pw_iload1 dX12_bars_20 kz) ?_
    refine WQ.st (fun _ _ kz => pw_iadd dX12_bars_21 kz) ?_
    refine WQ.st (fun _ _ kz => pw_ald (j := 10 + q) dX12_bars_22 (mf_s1 hF) (by simp (disch := omega) only [nl_10, nI_add, pk_mul, pk_sub]; exact ix_m (by omega) (by omega)) (by omega) kz) ?_
    refine WQ.st (fun _ _ kz => pw_goto (tgt := 28) dX12_bars_23 (by decide) kz) ?_
    refine ⟨_, _, pw_iret dX12_bars_28 rfl rfl rfl rfl, ?_⟩
    have c0 : sp_bars (A (o + 1)) x.toInt = A (o + 1) (10 + q) := by unfold sp_bars; rw [if_pos c11, tp, Int.toNat_natCast]
    rw [← ep, c0]
    exact PZ.q (FP.up (by decide)) FQ.rfl FB.rfl
def sp_glad (al : Nat → Int32) (x y z : Int) (w l : Int32) : Int32 := if isP al x && isB al y z then (if isD w.toInt && isD l.toInt then rf_glad al (lawL al 0) x.toNat y.toNat z.toNat w l (al (77 + x.toNat)) else -99000003) else -99000002
set_option maxRecDepth 20000 in
theorem p_glad {G : gT} {d : Nat} {S : sS} {V : sV} {P : sP} {A : sV} {B : sB} {Q : sP} {t sl o : Nat} (hF : MF S P o) (hA : AV (A (o + 1)))  (x y z w l : Int32) : WQ G (d + 9) mX12_glad 0 [some (.ref o), some (.int x), some (.int y), some (.int z), some (.int w), some (.int l)] [] (t, sl, gh S V P A B Q) (PZ o S P Q t sl V A B (.int (sp_glad (A (o + 1)) x.toInt y.toInt z.toInt w l)) (A (o + 1))) := by
  refine WQ.st (fun _ _ kz => pw_aload0 dX12_glad_0 kz) ?_
  refine WQ.st (fun _ _ kz => pw_iconst (v := 0) dX12_glad_1 (by decide) kz) ?_
  refine WQ.st (fun _ _ kz => pw_puti (pX12_1 _ rfl) dX12_glad_2 hF.1 rfl rfl kz) ?_
  refine WQ.st (fun _ _ kz => pw_aload0 dX12_glad_5 kz) ?_
  refine WQ.st (fun _ _ kz => pw_iload1 dX12_glad_6 kz) ?_
  refine WQ.st (fun _ _ kz => pw_i2l dX12_glad_7 kz) ?_
  refine WQ.st (fun _ _ kz => pw_o1i wX12_isPlayer lX12_244 rfl dX12_glad_8 hF.1 (c_isPlayer hF hA.dv _) rfl (Nat.le_of_ble_eq_true rfl) (Nat.le_of_ble_eq_true rfl) kz) ?_
  refine WQ.br (fun _ _ ka kb => pw_if_eq (tgt := 23) dX12_glad_11 (by decide) ka kb) (fun c11 => ?_) (fun c11 => ?_)
  · rw [bI_0] at c11
    rw [il_t] at c11
    refine WQ.st (fun _ _ kz => pw_ldc kX12_247 dX12_glad_23 kz) ?_
    refine ⟨_, _, pw_iret dX12_glad_25 rfl rfl rfl rfl, ?_⟩
    have c0 : sp_glad (A (o + 1)) x.toInt y.toInt z.toInt w l = -99000002 := by unfold sp_glad; rw [c11]; rfl
    rw [c0]
    exact PZ.q (FP.up (by decide)) FQ.rfl FB.rfl
  · rw [bI_n] at c11
    rw [il_t] at c11
    refine WQ.st (fun _ _ kz => pw_aload0 dX12_glad_14 kz) ?_
    refine WQ.st (fun _ _ kz => pw_iload2 dX12_glad_15 kz) ?_
    refine WQ.st (fun _ _ kz => pw_iload3 dX12_glad_16 kz) ?_
    obtain ⟨_, _, k0, rfl, rfl⟩ := c_isBar (d := d + 6) (P := P) (S := S) (G := G) (V := (up2 V o 0 0)) (A := A) (B := B) (Q := Q) (t := t) (sl := sl) hF hA.dv y z
    refine WQ.st (fun _ _ kz => pw_o2i wX12_isBar lX12_251 rfl dX12_glad_17 hF.1 (k0) rfl (Nat.le_of_ble_eq_true rfl) (Nat.le_of_ble_eq_true rfl) kz) ?_
    refine WQ.bn (fun _ _ ka kb => pw_if_ne (tgt := 26) dX12_glad_20 (by decide) ka kb) (fun c20 => ?_) (fun c20 => ?_)
    · rw [bI_n] at c20
      have g1 := isP_t c11
      have hp5 := hA.dv.p5
      obtain ⟨p, ep, tp, lp⟩ := nI_get g1.1 g1.2 (by omega)
      have hp : p < 5 := by omega
      obtain ⟨q, b, eq, tq, hq, eb, tb, hb, hbl, hQ⟩ := isB_t hA.dv c20
      rw [ep, eq, eb]
      refine WQ.st (fun _ _ kz => pw_iload4 dX12_glad_26 kz) ?_
      refine WQ.st (fun _ _ kz => pw_i2l dX12_glad_28 kz) ?_
      refine WQ.st (fun _ _ kz => pw_s1i wX12_isDraw lX12_255 dX12_glad_29 (c_isDrawI _) rfl (Nat.le_of_ble_eq_true rfl) (Nat.le_of_ble_eq_true rfl) kz) ?_
      refine WQ.br (fun _ _ ka kb => pw_if_eq (tgt := 67) dX12_glad_32 (by decide) ka kb) (fun c32 => ?_) (fun c32 => ?_)
      · rw [bI_0] at c32
        rw [il_t] at c32
        refine WQ.st (fun _ _ kz => pw_ldc kX12_206 dX12_glad_67 kz) ?_
        refine ⟨_, _, pw_iret dX12_glad_69 rfl rfl rfl rfl, ?_⟩
        have c0 : sp_glad (A (o + 1)) x.toInt y.toInt z.toInt w l = -99000003 := by unfold sp_glad; rw [c11, c20, c32]; rfl
        rw [← ep, ← eq, ← eb, c0]
        exact PZ.q (FP.up (by decide)) FQ.rfl FB.rfl
      · rw [bI_n] at c32
        rw [il_t] at c32
        refine WQ.st (fun _ _ kz => pw_iload5 dX12_glad_35 kz) ?_
        refine WQ.st (fun _ _ kz => pw_i2l dX12_glad_37 kz) ?_
        refine WQ.st (fun _ _ kz => pw_s1i wX12_isDraw lX12_255 dX12_glad_38 (c_isDrawI _) rfl (Nat.le_of_ble_eq_true rfl) (Nat.le_of_ble_eq_true rfl) kz) ?_
        refine WQ.br (fun _ _ ka kb => pw_if_eq (tgt := 67) dX12_glad_41 (by decide) ka kb) (fun c41 => ?_) (fun c41 => ?_)
        · rw [bI_0] at c41
          rw [il_t] at c41
          refine WQ.st (fun _ _ kz => pw_ldc kX12_206 dX12_glad_67 kz) ?_
          refine ⟨_, _, pw_iret dX12_glad_69 rfl rfl rfl rfl, ?_⟩
          have c0 : sp_glad (A (o + 1)) x.toInt y.toInt z.toInt w l = -99000003 := by unfold sp_glad; rw [c11, c20, c32, c41]; rfl
          rw [← ep, ← eq, ← eb, c0]
          exact PZ.q (FP.up (by decide)) FQ.rfl FB.rfl
        · rw [bI_n] at c41
          rw [il_t] at c41
          refine WQ.st (fun _ _ kz => pw_aload0 dX12_glad_44 kz) ?_
          refine WQ.st (fun _ _ kz => pw_iload1 dX12_glad_45 kz) ?_
          refine WQ.st (fun _ _ kz => pw_iload2 dX12_glad_46 kz) ?_
          refine WQ.st (fun _ _ kz => pw_iload3 dX12_glad_47 kz) ?_
          refine WQ.st (fun _ _ kz => pw_iload4 dX12_glad_48 kz) ?_
          refine WQ.st (fun _ _ kz => pw_iload5 dX12_glad_50 kz) ?_
          refine WQ.st (fun _ _ kz => pw_aload0 dX12_glad_52 kz) ?_
          refine WQ.st (fun _ _ kz => pw_getr gX12_13 dX12_glad_53 hF.1 (mf_p1 hF) kz) ?_
          refine WQ.st (fun _ _ kz => pw_bipush (v := 77) dX12_glad_56 (by decide) kz) ?_
          refine WQ.st (fun _ _ kz => pw_iload1 dX12_glad_58 kz) ?_
          refine WQ.st (fun _ _ kz => pw_iadd dX12_glad_59 kz) ?_
          refine WQ.st (fun _ _ kz => pw_ald (j := 77 + p) dX12_glad_60 (mf_s1 hF) (by simp (disch := omega) only [nl_77, nI_add, pk_mul, pk_sub]; exact ix_m (by omega) (by omega)) (by omega) kz) ?_
          obtain ⟨A1, k1, f1⟩ := c_gladBy' (d := d + 6) (P := P) (S := S) (G := G) (V := (up2 V o 0 0)) (A := A) (B := B) (Q := Q) (t := t) (sl := sl) hF hp hq hb hA.dv.gl w l (A (o + 1) (77 + p))
          refine WQ.st (fun _ _ kz => pw_o6i wX12_gladBy lX12_258 rfl dX12_glad_61 hF.1 (k1) rfl (Nat.le_of_ble_eq_true rfl) (Nat.le_of_ble_eq_true rfl) kz) ?_
          refine WQ.st (fun _ _ kz => pw_goto (tgt := 69) dX12_glad_64 (by decide) kz) ?_
          refine ⟨_, _, pw_iret dX12_glad_69 rfl rfl rfl rfl, ?_⟩
          have c0 : sp_glad (A (o + 1)) x.toInt y.toInt z.toInt w l = rf_glad (A (o + 1)) (lawL (A (o + 1)) 0) p q b w l (A (o + 1) (77 + p)) := by unfold sp_glad; rw [c11, c20, c32, c41, tp, tq, tb]; rfl
          rw [← ep, ← eq, ← eb, c0]
          exact PZ.q (FP.up (by decide)) (fun a ha => f1 a (by omega) (by omega)) FB.rfl
    · rw [bI_0] at c20
      refine WQ.st (fun _ _ kz => pw_ldc kX12_247 dX12_glad_23 kz) ?_
      refine ⟨_, _, pw_iret dX12_glad_25 rfl rfl rfl rfl, ?_⟩
      have c0 : sp_glad (A (o + 1)) x.toInt y.toInt z.toInt w l = -99000002 := by unfold sp_glad; rw [c11, c20]; rfl
      rw [c0]
      exact PZ.q (FP.up (by decide)) FQ.rfl FB.rfl
def sp_fault (fk fp : Int32) (x : Int) : Int32 := if x = 0 then fk else if x = 1 then fp else -1
set_option maxRecDepth 20000 in
theorem p_fault {G : gT} {d : Nat} {S : sS} {V : sV} {P : sP} {A : sV} {B : sB} {Q : sP} {t sl o : Nat} (hF : MF S P o) (hA : AV (A (o + 1)))  (x : Int32) : WQ G (d + 9) mX12_fault 0 [some (.ref o), some (.int x)] [] (t, sl, gh S V P A B Q) (PZ o S P Q t sl V A B (.int (sp_fault (V o 13) (V o 14) x.toInt)) (A (o + 1))) := by
  refine WQ.st (fun _ _ kz => pw_aload0 dX12_fault_0 kz) ?_
  refine WQ.st (fun _ _ kz => pw_iconst (v := 0) dX12_fault_1 (by decide) kz) ?_
  refine WQ.st (fun _ _ kz => pw_puti (pX12_1 _ rfl) dX12_fault_2 hF.1 rfl rfl kz) ?_
  refine WQ.st (fun _ _ kz => pw_iload1 dX12_fault_5 kz) ?_
  refine WQ.bn (fun _ _ ka kb => pw_if_ne (tgt := 16) dX12_fault_6 (by decide) ka kb) (fun c6 => ?_) (fun c6 => ?_)
  · refine WQ.st (fun _ _ kz => pw_iload1 dX12_fault_16 kz) ?_
    refine WQ.st (fun _ _ kz => pw_iconst (v := 1) dX12_fault_17 (by decide) kz) ?_
    refine WQ.bn (fun _ _ ka kb => pw_icmp_ne (tgt := 28) dX12_fault_18 (by decide) ka kb) (fun c18 => ?_) (fun c18 => ?_)
    · refine WQ.st (fun _ _ kz => pw_iconst (v := -1) dX12_fault_28 (by decide) kz) ?_
      refine ⟨_, _, pw_iret dX12_fault_29 rfl rfl rfl rfl, ?_⟩
      have c0 : sp_fault (V o 13) (V o 14) x.toInt = -1 := by unfold sp_fault; rw [if_neg (i32_ne (z := 0) rfl c6), if_neg (i32_ne (z := 1) rfl c18)]
      rw [c0]
      exact PZ.q (FP.up (by decide)) FQ.rfl FB.rfl
    · refine WQ.st (fun _ _ kz => pw_aload0 dX12_fault_21 kz) ?_
      refine WQ.st (fun _ _ kz => pw_geti gX12_27 dX12_fault_22 hF.1 kz) ?_
      rw [up2_nk (by decide)]
      refine WQ.st (fun _ _ kz => pw_goto (tgt := 29) dX12_fault_25 (by decide) kz) ?_
      refine ⟨_, _, pw_iret dX12_fault_29 rfl rfl rfl rfl, ?_⟩
      have c0 : sp_fault (V o 13) (V o 14) x.toInt = V o 14 := by unfold sp_fault; rw [if_neg (i32_ne (z := 0) rfl c6), if_pos (show x.toInt = 1 by rw [c18]; rfl)]
      rw [c0]
      exact PZ.q (FP.up (by decide)) FQ.rfl FB.rfl
  · refine WQ.st (fun _ _ kz => pw_aload0 dX12_fault_9 kz) ?_
    refine WQ.st (fun _ _ kz => pw_geti gX12_213 dX12_fault_10 hF.1 kz) ?_
    rw [up2_nk (by decide)]
    refine WQ.st (fun _ _ kz => pw_goto (tgt := 29) dX12_fault_13 (by decide) kz) ?_
    refine ⟨_, _, pw_iret dX12_fault_29 rfl rfl rfl rfl, ?_⟩
    have c0 : sp_fault (V o 13) (V o 14) x.toInt = V o 13 := by unfold sp_fault; rw [if_pos (show x.toInt = 0 by rw [c6]; rfl)]
    rw [c0]
    exact PZ.q (FP.up (by decide)) FQ.rfl FB.rfl
def sp_count (al : Nat → Int32) (tp : Int32) (y : Int) : Int32 := if y = 0 then al 1 else if y = 1 then al 2 else if y = 2 then smI (fun p => al (10 + p)) (al 1).toInt.toNat else if y = 3 then smI (fun p => al (77 + p)) (al 2).toInt.toNat else if y = 4 then smI (fun p => al (82 + p)) (al 2).toInt.toNat else if y = 5 then al 75 else if y = 6 then al 76 else if y = 7 then al 3 else if y = 8 then al 92 else if y = 9 then tp else if y = 10 then al 0 else -1
set_option maxRecDepth 20000 in
theorem p_count {G : gT} {d : Nat} {S : sS} {V : sV} {P : sP} {A : sV} {B : sB} {Q : sP} {t sl o : Nat} (hF : MF S P o) (hA : AV (A (o + 1)))  (y : Int32) : WQ G (d + 9) mX12_count 0 [some (.ref o), some (.int y)] [] (t, sl, gh S V P A B Q) (PZ o S P Q t sl V A B (.int (sp_count (A (o + 1)) (V o 5) y.toInt)) (A (o + 1))) := by
  refine WQ.st (fun _ _ kz => pw_aload0 dX12_count_0 kz) ?_
  refine WQ.st (fun _ _ kz => pw_iconst (v := 0) dX12_count_1 (by decide) kz) ?_
  refine WQ.st (fun _ _ kz => pw_puti (pX12_1 _ rfl) dX12_count_2 hF.1 rfl rfl kz) ?_
  refine WQ.st (fun _ _ kz => pw_iload1 dX12_count_5 kz) ?_
  by_cases h6_0 : y = 0
  · refine WQ.st (fun _ _ kz => pw_tableIn (off := 58) (tgt := 64) dX12_count_6 (by rw [h6_0]; decide) (by rw [h6_0]; decide) (by rw [h6_0]; rfl) (by decide) kz) ?_
    refine WQ.st (fun _ _ kz => pw_aload0 dX12_count_64 kz) ?_
    refine WQ.st (fun _ _ kz => pw_getr gX12_13 dX12_count_65 hF.1 (mf_p1 hF) kz) ?_
    refine WQ.st (fun _ _ kz => pw_iconst (v := 1) dX12_count_68 (by decide) kz) ?_
    refine WQ.st (fun _ _ kz => pw_ald (j := 1) dX12_count_69 (mf_s1 hF) rfl (by omega) kz) ?_
    refine ⟨_, _, pw_iret dX12_count_70 rfl rfl rfl rfl, ?_⟩
    have c0 : sp_count (A (o + 1)) (V o 5) y.toInt = A (o + 1) 1 := by unfold sp_count; rw [if_pos (show y.toInt = 0 by rw [h6_0]; rfl)]
    rw [c0]
    exact PZ.q (FP.up (by decide)) FQ.rfl FB.rfl
  by_cases h6_1 : y = 1
  · refine WQ.st (fun _ _ kz => pw_tableIn (off := 65) (tgt := 71) dX12_count_6 (by rw [h6_1]; decide) (by rw [h6_1]; decide) (by rw [h6_1]; rfl) (by decide) kz) ?_
    refine WQ.st (fun _ _ kz => pw_aload0 dX12_count_71 kz) ?_
    refine WQ.st (fun _ _ kz => pw_getr gX12_13 dX12_count_72 hF.1 (mf_p1 hF) kz) ?_
    refine WQ.st (fun _ _ kz => pw_iconst (v := 2) dX12_count_75 (by decide) kz) ?_
    refine WQ.st (fun _ _ kz => pw_ald (j := 2) dX12_count_76 (mf_s1 hF) rfl (by omega) kz) ?_
    refine ⟨_, _, pw_iret dX12_count_77 rfl rfl rfl rfl, ?_⟩
    have c0 : sp_count (A (o + 1)) (V o 5) y.toInt = A (o + 1) 2 := by unfold sp_count; rw [if_neg (i32_ne (z := 0) rfl h6_0), if_pos (show y.toInt = 1 by rw [h6_1]; rfl)]
    rw [c0]
    exact PZ.q (FP.up (by decide)) FQ.rfl FB.rfl
  by_cases h6_2 : y = 2
  · refine WQ.st (fun _ _ kz => pw_tableIn (off := 72) (tgt := 78) dX12_count_6 (by rw [h6_2]; decide) (by rw [h6_2]; decide) (by rw [h6_2]; rfl) (by decide) kz) ?_
    refine WQ.st (fun _ _ kz => pw_aload0 dX12_count_78 kz) ?_
    refine WQ.st (fun _ _ kz => pw_o0i wX12_barsAll lX12_511 rfl dX12_count_79 hF.1 (c_barsAll hF hA.dv) rfl (Nat.le_of_ble_eq_true rfl) (Nat.le_of_ble_eq_true rfl) kz) ?_
    refine ⟨_, _, pw_iret dX12_count_82 rfl rfl rfl rfl, ?_⟩
    have c0 : sp_count (A (o + 1)) (V o 5) y.toInt = smI (fun p => A (o + 1) (10 + p)) (A (o + 1) 1).toInt.toNat := by unfold sp_count; rw [if_neg (i32_ne (z := 0) rfl h6_0), if_neg (i32_ne (z := 1) rfl h6_1), if_pos (show y.toInt = 2 by rw [h6_2]; rfl)]
    rw [c0]
    exact PZ.q (FP.up (by decide)) FQ.rfl FB.rfl
  by_cases h6_3 : y = 3
  · refine WQ.st (fun _ _ kz => pw_tableIn (off := 77) (tgt := 83) dX12_count_6 (by rw [h6_3]; decide) (by rw [h6_3]; decide) (by rw [h6_3]; rfl) (by decide) kz) ?_
    refine WQ.st (fun _ _ kz => pw_aload0 dX12_count_83 kz) ?_
    refine WQ.st (fun _ _ kz => pw_bipush (v := 77) dX12_count_84 (by decide) kz) ?_
    rw [show (77 : Int32) = nI 77 from rfl]
    refine WQ.st (fun _ _ kz => pw_o1i wX12_sumOf lX12_394 rfl dX12_count_86 hF.1 (c_sumOf hF hA.dv (f := 77) (by decide)) rfl (Nat.le_of_ble_eq_true rfl) (Nat.le_of_ble_eq_true rfl) kz) ?_
    refine ⟨_, _, pw_iret dX12_count_89 rfl rfl rfl rfl, ?_⟩
    have c0 : sp_count (A (o + 1)) (V o 5) y.toInt = smI (fun p => A (o + 1) (77 + p)) (A (o + 1) 2).toInt.toNat := by unfold sp_count; rw [if_neg (i32_ne (z := 0) rfl h6_0), if_neg (i32_ne (z := 1) rfl h6_1), if_neg (i32_ne (z := 2) rfl h6_2), if_pos (show y.toInt = 3 by rw [h6_3]; rfl)]
    rw [c0]
    exact PZ.q (FP.up (by decide)) FQ.rfl FB.rfl
  by_cases h6_4 : y = 4
  · refine WQ.st (fun _ _ kz => pw_tableIn (off := 84) (tgt := 90) dX12_count_6 (by rw [h6_4]; decide) (by rw [h6_4]; decide) (by rw [h6_4]; rfl) (by decide) kz) ?_
    refine WQ.st (fun _ _ kz => pw_aload0 dX12_count_90 kz) ?_
    refine WQ.st (fun _ _ kz => pw_bipush (v := 82) dX12_count_91 (by decide) kz) ?_
    rw [show (82 : Int32) = nI 82 from rfl]
    refine WQ.st (fun _ _ kz => pw_o1i wX12_sumOf lX12_394 rfl dX12_count_93 hF.1 (c_sumOf hF hA.dv (f := 82) (by decide)) rfl (Nat.le_of_ble_eq_true rfl) (Nat.le_of_ble_eq_true rfl) kz) ?_
    refine ⟨_, _, pw_iret dX12_count_96 rfl rfl rfl rfl, ?_⟩
    have c0 : sp_count (A (o + 1)) (V o 5) y.toInt = smI (fun p => A (o + 1) (82 + p)) (A (o + 1) 2).toInt.toNat := by unfold sp_count; rw [if_neg (i32_ne (z := 0) rfl h6_0), if_neg (i32_ne (z := 1) rfl h6_1), if_neg (i32_ne (z := 2) rfl h6_2), if_neg (i32_ne (z := 3) rfl h6_3), if_pos (show y.toInt = 4 by rw [h6_4]; rfl)]
    rw [c0]
    exact PZ.q (FP.up (by decide)) FQ.rfl FB.rfl
  by_cases h6_5 : y = 5
  · refine WQ.st (fun _ _ kz => pw_tableIn (off := 91) (tgt := 97) dX12_count_6 (by rw [h6_5]; decide) (by rw [h6_5]; decide) (by rw [h6_5]; rfl) (by decide) kz) ?_
    refine WQ.st (fun _ _ kz => pw_aload0 dX12_count_97 kz) ?_
    refine WQ.st (fun _ _ kz => pw_getr gX12_13 dX12_count_98 hF.1 (mf_p1 hF) kz) ?_
    refine WQ.st (fun _ _ kz => pw_bipush (v := 75) dX12_count_101 (by decide) kz) ?_
    refine WQ.st (fun _ _ kz => pw_ald (j := 75) dX12_count_103 (mf_s1 hF) rfl (by omega) kz) ?_
    refine ⟨_, _, pw_iret dX12_count_104 rfl rfl rfl rfl, ?_⟩
    have c0 : sp_count (A (o + 1)) (V o 5) y.toInt = A (o + 1) 75 := by unfold sp_count; rw [if_neg (i32_ne (z := 0) rfl h6_0), if_neg (i32_ne (z := 1) rfl h6_1), if_neg (i32_ne (z := 2) rfl h6_2), if_neg (i32_ne (z := 3) rfl h6_3), if_neg (i32_ne (z := 4) rfl h6_4), if_pos (show y.toInt = 5 by rw [h6_5]; rfl)]
    rw [c0]
    exact PZ.q (FP.up (by decide)) FQ.rfl FB.rfl
  by_cases h6_6 : y = 6
  · refine WQ.st (fun _ _ kz => pw_tableIn (off := 99) (tgt := 105) dX12_count_6 (by rw [h6_6]; decide) (by rw [h6_6]; decide) (by rw [h6_6]; rfl) (by decide) kz) ?_
    refine WQ.st (fun _ _ kz => pw_aload0 dX12_count_105 kz) ?_
    refine WQ.st (fun _ _ kz => pw_getr gX12_13 dX12_count_106 hF.1 (mf_p1 hF) kz) ?_
    refine WQ.st (fun _ _ kz => pw_bipush (v := 76) dX12_count_109 (by decide) kz) ?_
    refine WQ.st (fun _ _ kz => pw_ald (j := 76) dX12_count_111 (mf_s1 hF) rfl (by omega) kz) ?_
    refine ⟨_, _, pw_iret dX12_count_112 rfl rfl rfl rfl, ?_⟩
    have c0 : sp_count (A (o + 1)) (V o 5) y.toInt = A (o + 1) 76 := by unfold sp_count; rw [if_neg (i32_ne (z := 0) rfl h6_0), if_neg (i32_ne (z := 1) rfl h6_1), if_neg (i32_ne (z := 2) rfl h6_2), if_neg (i32_ne (z := 3) rfl h6_3), if_neg (i32_ne (z := 4) rfl h6_4), if_neg (i32_ne (z := 5) rfl h6_5), if_pos (show y.toInt = 6 by rw [h6_6]; rfl)]
    rw [c0]
    exact PZ.q (FP.up (by decide)) FQ.rfl FB.rfl
  by_cases h6_7 : y = 7
  · refine WQ.st (fun _ _ kz => pw_tableIn (off := 107) (tgt := 113) dX12_count_6 (by rw [h6_7]; decide) (by rw [h6_7]; decide) (by rw [h6_7]; rfl) (by decide) kz) ?_
    refine WQ.st (fun _ _ kz => pw_aload0 dX12_count_113 kz) ?_
    refine WQ.st (fun _ _ kz => pw_getr gX12_13 dX12_count_114 hF.1 (mf_p1 hF) kz) ?_
    refine WQ.st (fun _ _ kz => pw_iconst (v := 3) dX12_count_117 (by decide) kz) ?_
    refine WQ.st (fun _ _ kz => pw_ald (j := 3) dX12_count_118 (mf_s1 hF) rfl (by omega) kz) ?_
    refine ⟨_, _, pw_iret dX12_count_119 rfl rfl rfl rfl, ?_⟩
    have c0 : sp_count (A (o + 1)) (V o 5) y.toInt = A (o + 1) 3 := by unfold sp_count; rw [if_neg (i32_ne (z := 0) rfl h6_0), if_neg (i32_ne (z := 1) rfl h6_1), if_neg (i32_ne (z := 2) rfl h6_2), if_neg (i32_ne (z := 3) rfl h6_3), if_neg (i32_ne (z := 4) rfl h6_4), if_neg (i32_ne (z := 5) rfl h6_5), if_neg (i32_ne (z := 6) rfl h6_6), if_pos (show y.toInt = 7 by rw [h6_7]; rfl)]
    rw [c0]
    exact PZ.q (FP.up (by decide)) FQ.rfl FB.rfl
  by_cases h6_8 : y = 8
  · refine WQ.st (fun _ _ kz => pw_tableIn (off := 114) (tgt := 120) dX12_count_6 (by rw [h6_8]; decide) (by rw [h6_8]; decide) (by rw [h6_8]; rfl) (by decide) kz) ?_
    refine WQ.st (fun _ _ kz => pw_aload0 dX12_count_120 kz) ?_
    refine WQ.st (fun _ _ kz => pw_getr gX12_13 dX12_count_121 hF.1 (mf_p1 hF) kz) ?_
    refine WQ.st (fun _ _ kz => pw_bipush (v := 92) dX12_count_124 (by decide) kz) ?_
    refine WQ.st (fun _ _ kz => pw_ald (j := 92) dX12_count_126 (mf_s1 hF) rfl (by omega) kz) ?_
    refine ⟨_, _, pw_iret dX12_count_127 rfl rfl rfl rfl, ?_⟩
    have c0 : sp_count (A (o + 1)) (V o 5) y.toInt = A (o + 1) 92 := by unfold sp_count; rw [if_neg (i32_ne (z := 0) rfl h6_0), if_neg (i32_ne (z := 1) rfl h6_1), if_neg (i32_ne (z := 2) rfl h6_2), if_neg (i32_ne (z := 3) rfl h6_3), if_neg (i32_ne (z := 4) rfl h6_4), if_neg (i32_ne (z := 5) rfl h6_5), if_neg (i32_ne (z := 6) rfl h6_6), if_neg (i32_ne (z := 7) rfl h6_7), if_pos (show y.toInt = 8 by rw [h6_8]; rfl)]
    rw [c0]
    exact PZ.q (FP.up (by decide)) FQ.rfl FB.rfl
  by_cases h6_9 : y = 9
  · refine WQ.st (fun _ _ kz => pw_tableIn (off := 122) (tgt := 128) dX12_count_6 (by rw [h6_9]; decide) (by rw [h6_9]; decide) (by rw [h6_9]; rfl) (by decide) kz) ?_
    refine WQ.st (fun _ _ kz => pw_aload0 dX12_count_128 kz) ?_
    refine WQ.st (fun _ _ kz => pw_geti gX12_89 dX12_count_129 hF.1 kz) ?_
    rw [up2_nk (by decide)]
    refine ⟨_, _, pw_iret dX12_count_132 rfl rfl rfl rfl, ?_⟩
    have c0 : sp_count (A (o + 1)) (V o 5) y.toInt = V o 5 := by unfold sp_count; rw [if_neg (i32_ne (z := 0) rfl h6_0), if_neg (i32_ne (z := 1) rfl h6_1), if_neg (i32_ne (z := 2) rfl h6_2), if_neg (i32_ne (z := 3) rfl h6_3), if_neg (i32_ne (z := 4) rfl h6_4), if_neg (i32_ne (z := 5) rfl h6_5), if_neg (i32_ne (z := 6) rfl h6_6), if_neg (i32_ne (z := 7) rfl h6_7), if_neg (i32_ne (z := 8) rfl h6_8), if_pos (show y.toInt = 9 by rw [h6_9]; rfl)]
    rw [c0]
    exact PZ.q (FP.up (by decide)) FQ.rfl FB.rfl
  by_cases h6_10 : y = 10
  · refine WQ.st (fun _ _ kz => pw_tableIn (off := 127) (tgt := 133) dX12_count_6 (by rw [h6_10]; decide) (by rw [h6_10]; decide) (by rw [h6_10]; rfl) (by decide) kz) ?_
    refine WQ.st (fun _ _ kz => pw_aload0 dX12_count_133 kz) ?_
    refine WQ.st (fun _ _ kz => pw_getr gX12_13 dX12_count_134 hF.1 (mf_p1 hF) kz) ?_
    refine WQ.st (fun _ _ kz => pw_iconst (v := 0) dX12_count_137 (by decide) kz) ?_
    refine WQ.st (fun _ _ kz => pw_ald (j := 0) dX12_count_138 (mf_s1 hF) rfl (by omega) kz) ?_
    refine ⟨_, _, pw_iret dX12_count_139 rfl rfl rfl rfl, ?_⟩
    have c0 : sp_count (A (o + 1)) (V o 5) y.toInt = A (o + 1) 0 := by unfold sp_count; rw [if_neg (i32_ne (z := 0) rfl h6_0), if_neg (i32_ne (z := 1) rfl h6_1), if_neg (i32_ne (z := 2) rfl h6_2), if_neg (i32_ne (z := 3) rfl h6_3), if_neg (i32_ne (z := 4) rfl h6_4), if_neg (i32_ne (z := 5) rfl h6_5), if_neg (i32_ne (z := 6) rfl h6_6), if_neg (i32_ne (z := 7) rfl h6_7), if_neg (i32_ne (z := 8) rfl h6_8), if_neg (i32_ne (z := 9) rfl h6_9), if_pos (show y.toInt = 10 by rw [h6_10]; rfl)]
    rw [c0]
    exact PZ.q (FP.up (by decide)) FQ.rfl FB.rfl
  have g6_0 := i32_ne (z := 0) rfl h6_0
  have g6_1 := i32_ne (z := 1) rfl h6_1
  have g6_2 := i32_ne (z := 2) rfl h6_2
  have g6_3 := i32_ne (z := 3) rfl h6_3
  have g6_4 := i32_ne (z := 4) rfl h6_4
  have g6_5 := i32_ne (z := 5) rfl h6_5
  have g6_6 := i32_ne (z := 6) rfl h6_6
  have g6_7 := i32_ne (z := 7) rfl h6_7
  have g6_8 := i32_ne (z := 8) rfl h6_8
  have g6_9 := i32_ne (z := 9) rfl h6_9
  have g6_10 := i32_ne (z := 10) rfl h6_10
  refine WQ.st (fun _ _ kz => pw_tableOut (tgt := 140) dX12_count_6 (by omega) (by decide) kz) ?_
  refine WQ.st (fun _ _ kz => pw_iconst (v := -1) dX12_count_140 (by decide) kz) ?_
  refine ⟨_, _, pw_iret dX12_count_141 rfl rfl rfl rfl, ?_⟩
  have c0 : sp_count (A (o + 1)) (V o 5) y.toInt = -1 := by unfold sp_count; rw [if_neg (i32_ne (z := 0) rfl h6_0), if_neg (i32_ne (z := 1) rfl h6_1), if_neg (i32_ne (z := 2) rfl h6_2), if_neg (i32_ne (z := 3) rfl h6_3), if_neg (i32_ne (z := 4) rfl h6_4), if_neg (i32_ne (z := 5) rfl h6_5), if_neg (i32_ne (z := 6) rfl h6_6), if_neg (i32_ne (z := 7) rfl h6_7), if_neg (i32_ne (z := 8) rfl h6_8), if_neg (i32_ne (z := 9) rfl h6_9), if_neg (i32_ne (z := 10) rfl h6_10)]
  rw [c0]
  exact PZ.q (FP.up (by decide)) FQ.rfl FB.rfl
