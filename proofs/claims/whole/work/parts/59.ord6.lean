/-! ===== the reference: order, mostPieces as they are called ===== -/
def nP (al : Nat → Int32) : Nat := (al 1).toInt.toNat
def ogT (al : Nat → Int32) (p : Nat) (g : Int32) (set : Nat) : Int32 := oG (thT al p) (rf_e g) (nP al) set (stN al p)
def sp_order (al : Nat → Int32) (x set : Int) (g : Int32) (w : Int) : Int32 := if isP al x && (decide (w = 0) || decide (10 ≤ w ∧ w ≤ 13)) then (if (0 < set ∧ set < (2 ^ nP al : Nat)) ∧ isS g.toInt = true then (if ogT al x.toNat g set.toNat = -268435456 then -99000001 else if w = 0 then ogT al x.toNat g set.toNat else oAt (thT al x.toNat) (rf_e g) (nP al) (w - 10).toNat (fun i => decide (i = stN al x.toNat)) set.toNat) else -99000003) else -99000002
set_option maxRecDepth 20000 in
theorem p_order {G : gT} {d : Nat} {S : sS} {V : sV} {P : sP} {A : sV} {B : sB} {Q : sP} {t sl o : Nat} (hF : MF S P o) (hA : AV (A (o + 1)))  (x y g w : Int32) : WQ G (d + 9) mX12_order 0 [some (.ref o), some (.int x), some (.int y), some (.int g), some (.int w), none] [] (t, sl, gh S V P A B Q) (PZ o S P Q t sl V A B (.int (sp_order (A (o + 1)) x.toInt y.toInt g w.toInt)) (A (o + 1))) := by
  refine WQ.st (fun _ _ kz => pw_aload0 dX12_order_0 kz) ?_
  refine WQ.st (fun _ _ kz => pw_iconst (v := 0) dX12_order_1 (by decide) kz) ?_
  refine WQ.st (fun _ _ kz => pw_puti (pX12_1 _ rfl) dX12_order_2 hF.1 rfl rfl kz) ?_
  refine WQ.st (fun _ _ kz => pw_aload0 dX12_order_5 kz) ?_
  refine WQ.st (fun _ _ kz => pw_iload1 dX12_order_6 kz) ?_
  refine WQ.st (fun _ _ kz => pw_i2l dX12_order_7 kz) ?_
  refine WQ.st (fun _ _ kz => pw_o1i wX12_isPlayer lX12_244 rfl dX12_order_8 hF.1 (c_isPlayer hF hA.dv _) rfl (Nat.le_of_ble_eq_true rfl) (Nat.le_of_ble_eq_true rfl) kz) ?_
  refine WQ.br (fun _ _ ka kb => pw_if_eq (tgt := 34) dX12_order_11 (by decide) ka kb) (fun c11 => ?_) (fun c11 => ?_)
  · rw [bI_0] at c11
    rw [il_t] at c11
    refine WQ.st (fun _ _ kz => pw_ldc kX12_247 dX12_order_34 kz) ?_
    refine ⟨_, _, pw_iret dX12_order_36 rfl rfl rfl rfl, ?_⟩
    have c0 : sp_order (A (o + 1)) x.toInt y.toInt g w.toInt = -99000002 := by unfold sp_order; rw [c11, Bool.false_and, if_neg (by decide)]
    rw [c0]
    exact PZ.q (FP.up (by decide)) FQ.rfl FB.rfl
  · rw [bI_n] at c11
    rw [il_t] at c11
    refine WQ.st (fun _ _ kz => pw_iload4 dX12_order_14 kz) ?_
    refine WQ.br (fun _ _ ka kb => pw_if_eq (tgt := 37) dX12_order_16 (by decide) ka kb) (fun c16 => ?_) (fun c16 => ?_)
    · have hn4 := hA.dv.n4
      have hNP : A (o + 1) 1 = nI (nP (A (o + 1))) := nI_ofI hn4.1
      have hN4 : nP (A (o + 1)) ≤ 4 := by unfold nP; omega
      have h16 := pow_N hN4
      refine WQ.st (fun _ _ kz => pw_iload2 dX12_order_37 kz) ?_
      refine WQ.br (fun _ _ ka kb => pw_if_le (tgt := 61) dX12_order_38 (by decide) ka kb) (fun c38 => ?_) (fun c38 => ?_)
      · refine WQ.st (fun _ _ kz => pw_ldc kX12_206 dX12_order_61 kz) ?_
        refine ⟨_, _, pw_iret dX12_order_63 rfl rfl rfl rfl, ?_⟩
        have c0 : sp_order (A (o + 1)) x.toInt y.toInt g w.toInt = -99000003 := by unfold sp_order; rw [c11, decide_eq_true (show w.toInt = 0 by rw [c16]; rfl), Bool.true_or, if_pos (by rfl), if_neg (fun q => absurd q.1.1 (by rw [le_i rfl li_0] at c38; omega))]
        rw [c0]
        exact PZ.q (FP.up (by decide)) FQ.rfl FB.rfl
      · refine WQ.st (fun _ _ kz => pw_iload2 dX12_order_41 kz) ?_
        refine WQ.st (fun _ _ kz => pw_iconst (v := 1) dX12_order_42 (by decide) kz) ?_
        refine WQ.st (fun _ _ kz => pw_aload0 dX12_order_43 kz) ?_
        refine WQ.st (fun _ _ kz => pw_getr gX12_13 dX12_order_44 hF.1 (mf_p1 hF) kz) ?_
        refine WQ.st (fun _ _ kz => pw_iconst (v := 1) dX12_order_47 (by decide) kz) ?_
        refine WQ.st (fun _ _ kz => pw_ald (j := 1) dX12_order_48 (mf_s1 hF) rfl (by omega) kz) ?_
        rw [hNP]
        refine WQ.st (fun _ _ kz => pw_ishl dX12_order_49 kz) ?_
        rw [shl_N _ (by omega)]
        refine WQ.br (fun _ _ ka kb => pw_icmp_ge (tgt := 61) dX12_order_50 (by decide) ka kb) (fun c50 => ?_) (fun c50 => ?_)
        · refine WQ.st (fun _ _ kz => pw_ldc kX12_206 dX12_order_61 kz) ?_
          refine ⟨_, _, pw_iret dX12_order_63 rfl rfl rfl rfl, ?_⟩
          have c0 : sp_order (A (o + 1)) x.toInt y.toInt g w.toInt = -99000003 := by unfold sp_order; rw [c11, decide_eq_true (show w.toInt = 0 by rw [c16]; rfl), Bool.true_or, if_pos (by rfl), if_neg (fun q => absurd q.1.2 (by rw [le_i (ix_n (j := 2 ^ nP (A (o + 1))) (by omega)) rfl] at c50; omega))]
          rw [c0]
          exact PZ.q (FP.up (by decide)) FQ.rfl FB.rfl
        · refine WQ.st (fun _ _ kz => pw_iload3 dX12_order_53 kz) ?_
          refine WQ.st (fun _ _ kz => pw_i2l dX12_order_54 kz) ?_
          refine WQ.st (fun _ _ kz => pw_s1i wX12_isStore lX12_240 dX12_order_55 (c_isStoreI _) rfl (Nat.le_of_ble_eq_true rfl) (Nat.le_of_ble_eq_true rfl) kz) ?_
          refine WQ.bn (fun _ _ ka kb => pw_if_ne (tgt := 64) dX12_order_58 (by decide) ka kb) (fun c58 => ?_) (fun c58 => ?_)
          · rw [bI_n] at c58
            rw [il_t] at c58
            rw [le_i (ix_n (j := 2 ^ nP (A (o + 1))) (by omega)) rfl] at c50
            rw [le_i rfl li_0] at c38
            have hp5 := hA.dv.p5
            have g1 := isP_t c11
            obtain ⟨p, ep, tp, lp⟩ := nI_get g1.1 g1.2 (by omega)
            obtain ⟨set, es, ts, ls⟩ := nI_get (x := y) (n := ((2 ^ nP (A (o + 1)) : Nat) : Int)) (by omega) (by omega) (by omega)
            have hp : p < 5 := by omega
            have hst := hA.kv.stE hp
            have hs2 : set < 2 ^ nP (A (o + 1)) := by omega
            rw [ep, es]
            refine WQ.st (fun _ _ kz => pw_aload0 dX12_order_64 kz) ?_
            refine WQ.st (fun _ _ kz => pw_iload1 dX12_order_65 kz) ?_
            obtain ⟨_, _, k1, rfl, A1, rfl, f1, f2⟩ := c_laysThrough (d := d + 3) (P := P) (S := S) (G := G) (V := (up2 V o 0 0)) (A := A) (B := B) (Q := Q) (t := t) (sl := sl) hF rfl hA.dv hp
            have hal1 : A1 (o + 1) = A (o + 1) := f1 _ (by omega)
            refine WQ.st (fun _ _ kz => pw_o1v wX12_laysThrough lX12_461 rfl dX12_order_66 hF.1 (k1) rfl (Nat.le_of_ble_eq_true rfl) (Nat.le_of_ble_eq_true rfl) kz) ?_
            refine WQ.st (fun _ _ kz => pw_aload0 dX12_order_69 kz) ?_
            refine WQ.st (fun _ _ kz => pw_iload3 dX12_order_70 kz) ?_
            obtain ⟨_, _, k2, rfl, A2, rfl, f3⟩ := c_laysOrders (d := d + 6) (P := P) (S := S) (G := G) (V := (up2 (up2 V o 0 0) o 24 0)) (A := A1) (B := B) (Q := Q) (t := t) (sl := sl) hF (g := g) hN4 (by rw [hal1]; exact hNP) (th := thT (A (o + 1)) p) (fun q f u hq hf hu => f2 q f u hf hu (by unfold nP at hq; omega))
            have hal2 : A2 (o + 1) = A (o + 1) := (f3.1 _ (by omega)).trans hal1
            have hOT : OT o (thT (A (o + 1)) p) (rf_e g) (nP (A (o + 1))) A2 := ⟨fun q f u hq hf hu => by rw [f3.1 _ (by omega)]; exact f2 q f u hf hu (by unfold nP at hq; omega), fun set s hs h => f3.2 set s hs (by omega)⟩
            have hfr : FQ o A A2 := fun a ha => by rw [f3.1 a (by omega), f1 a (by omega)]
            have hfp : FP o V (up2 (up2 V o 0 0) o 24 0) := (FP.up (by decide)).tr (FP.up (by decide))
            have hL : A2 (o + 15) (41 * set + stN (A (o + 1)) p) = ogT (A (o + 1)) p g set := hOT.2 set _ hst.2 hs2
            have esum : nI (41 * set) + sI (stN (A (o + 1)) p) + 20 = nI (41 * set + stN (A (o + 1)) p) := by
              unfold sI
              rw [show (20 : Int32) = iI 20 from rfl, iI_nat, iI_nat, iI_add, iI_add]
              congr 1
              omega
            refine WQ.st (fun _ _ kz => pw_o1v wX12_laysOrders lX12_464 rfl dX12_order_71 hF.1 (k2) rfl (Nat.le_of_ble_eq_true rfl) (Nat.le_of_ble_eq_true rfl) kz) ?_
            refine WQ.st (fun _ _ kz => pw_aload0 dX12_order_74 kz) ?_
            refine WQ.st (fun _ _ kz => pw_getr gX12_61 dX12_order_75 hF.1 (mf_p31 hF) kz) ?_
            refine WQ.st (fun _ _ kz => pw_bipush (v := 41) dX12_order_78 (by decide) kz) ?_
            refine WQ.st (fun _ _ kz => pw_iload2 dX12_order_80 kz) ?_
            refine WQ.st (fun _ _ kz => pw_imul dX12_order_81 kz) ?_
            rw [nl_41, pk_mul]
            refine WQ.st (fun _ _ kz => pw_aload0 dX12_order_82 kz) ?_
            refine WQ.st (fun _ _ kz => pw_getr gX12_13 dX12_order_83 hF.1 (mf_p1 hF) kz) ?_
            refine WQ.st (fun _ _ kz => pw_bipush (v := 77) dX12_order_86 (by decide) kz) ?_
            refine WQ.st (fun _ _ kz => pw_iload1 dX12_order_88 kz) ?_
            refine WQ.st (fun _ _ kz => pw_iadd dX12_order_89 kz) ?_
            refine WQ.st (fun _ _ kz => pw_ald (j := 77 + p) dX12_order_90 (mf_s1 hF) (by simp (disch := omega) only [nl_77, nI_add, pk_mul, pk_sub]; exact ix_m (by omega) (by omega)) (by omega) kz) ?_
            rw [hal2, hst.1]
            refine WQ.st (fun _ _ kz => pw_iadd dX12_order_91 kz) ?_
            refine WQ.st (fun _ _ kz => pw_bipush (v := 20) dX12_order_92 (by decide) kz) ?_
            refine WQ.st (fun _ _ kz => pw_iadd dX12_order_94 kz) ?_
            rw [esum]
            refine WQ.st (fun _ _ kz => pw_ald (j := 41 * set + stN (A (o + 1)) p) dX12_order_95 (mf_s15 hF) (ix_n (by omega)) (by omega) kz) ?_
            rw [hL]
            refine WQ.st (fun _ _ kz => pw_istore5 dX12_order_96 (by decide) (k := kz)) ?_
            refine WQ.st (fun _ _ kz => pw_iload5 dX12_order_98 kz) ?_
            refine WQ.st (fun _ _ kz => pw_ldcw kX12_273 dX12_order_100 kz) ?_
            refine WQ.bn (fun _ _ ka kb => pw_icmp_ne (tgt := 112) dX12_order_103 (by decide) ka kb) (fun c103 => ?_) (fun c103 => ?_)
            · refine WQ.st (fun _ _ kz => pw_iload4 dX12_order_112 kz) ?_
              refine WQ.bn (fun _ _ ka kb => pw_if_ne (tgt := 122) dX12_order_114 (by decide) ka kb) (fun c114 => ?_) (fun c114 => ?_)
              · have d31 : 10 ≤ w.toInt ∧ w.toInt ≤ 13 := by first | exact d31 | exact absurd c16 c114
                refine WQ.st (fun _ _ kz => pw_aload0 dX12_order_122 kz) ?_
                refine WQ.st (fun _ _ kz => pw_iload2 dX12_order_123 kz) ?_
                refine WQ.st (fun _ _ kz => pw_aload0 dX12_order_124 kz) ?_
                refine WQ.st (fun _ _ kz => pw_getr gX12_13 dX12_order_125 hF.1 (mf_p1 hF) kz) ?_
                refine WQ.st (fun _ _ kz => pw_bipush (v := 77) dX12_order_128 (by decide) kz) ?_
                refine WQ.st (fun _ _ kz => pw_iload1 dX12_order_130 kz) ?_
                refine WQ.st (fun _ _ kz => pw_iadd dX12_order_131 kz) ?_
                refine WQ.st (fun _ _ kz => pw_ald (j := 77 + p) dX12_order_132 (mf_s1 hF) (by simp (disch := omega) only [nl_77, nI_add, pk_mul, pk_sub]; exact ix_m (by omega) (by omega)) (by omega) kz) ?_
                rw [hal2, hst.1]
                refine WQ.st (fun _ _ kz => pw_iload4 dX12_order_133 kz) ?_
                refine WQ.st (fun _ _ kz => pw_bipush (v := 10) dX12_order_135 (by decide) kz) ?_
                refine WQ.st (fun _ _ kz => pw_isub dX12_order_137 kz) ?_
                have hw4 : w - 10 = nI (w.toInt - 10).toNat := by
                  rw [← Int32.toInt_inj, ti_sub rfl li_10 (by omega), nI_toInt (by omega)]
                  omega
                rw [hw4]
                obtain ⟨_, _, k3, rfl, A3, rfl, f4⟩ := c_orderAt (d := d + 5) (P := P) (S := S) (G := G) (V := (up2 (up2 V o 0 0) o 24 0)) (A := A2) (B := B) (Q := Q) (t := t) (sl := sl) hF hN4 hOT hst.2 hs2 (k := (w.toInt - 10).toNat) (by omega) c103
                refine WQ.st (fun _ _ kz => pw_o3i wX12_orderAt lX12_467 rfl dX12_order_138 hF.1 (k3) rfl (Nat.le_of_ble_eq_true rfl) (Nat.le_of_ble_eq_true rfl) kz) ?_
                refine ⟨_, _, pw_iret dX12_order_141 rfl rfl rfl rfl, ?_⟩
                exact absurd c16 c114
              · refine WQ.st (fun _ _ kz => pw_iload5 dX12_order_117 kz) ?_
                refine WQ.st (fun _ _ kz => pw_goto (tgt := 141) dX12_order_119 (by decide) kz) ?_
                refine ⟨_, _, pw_iret dX12_order_141 rfl rfl rfl rfl, ?_⟩
                have c0 : sp_order (A (o + 1)) x.toInt y.toInt g w.toInt = ogT (A (o + 1)) p g set := by unfold sp_order; rw [c11, decide_eq_true (show w.toInt = 0 by rw [c16]; rfl), Bool.true_or, if_pos (by rfl), if_pos ⟨⟨by omega, by omega⟩, c58⟩, tp, ts, Int.toNat_natCast, Int.toNat_natCast, if_neg c103, if_pos (show w.toInt = 0 by rw [c114]; rfl)]
                rw [← ep, ← es, c0]
                exact PZ.q hfp hfr FB.rfl
            · refine WQ.st (fun _ _ kz => pw_ldcw kX12_422 dX12_order_106 kz) ?_
              refine WQ.st (fun _ _ kz => pw_goto (tgt := 141) dX12_order_109 (by decide) kz) ?_
              refine ⟨_, _, pw_iret dX12_order_141 rfl rfl rfl rfl, ?_⟩
              have c0 : sp_order (A (o + 1)) x.toInt y.toInt g w.toInt = -99000001 := by unfold sp_order; rw [c11, decide_eq_true (show w.toInt = 0 by rw [c16]; rfl), Bool.true_or, if_pos (by rfl), if_pos ⟨⟨by omega, by omega⟩, c58⟩, tp, ts, Int.toNat_natCast, Int.toNat_natCast, if_pos c103]
              rw [← ep, ← es, c0]
              exact PZ.q hfp hfr FB.rfl
          · rw [bI_0] at c58
            rw [il_t] at c58
            refine WQ.st (fun _ _ kz => pw_ldc kX12_206 dX12_order_61 kz) ?_
            refine ⟨_, _, pw_iret dX12_order_63 rfl rfl rfl rfl, ?_⟩
            have c0 : sp_order (A (o + 1)) x.toInt y.toInt g w.toInt = -99000003 := by unfold sp_order; rw [c11, decide_eq_true (show w.toInt = 0 by rw [c16]; rfl), Bool.true_or, if_pos (by rfl), if_neg (fun q => by rw [c58] at q; exact absurd q.2 (by decide))]
            rw [c0]
            exact PZ.q (FP.up (by decide)) FQ.rfl FB.rfl
    · refine WQ.st (fun _ _ kz => pw_iload4 dX12_order_19 kz) ?_
      refine WQ.st (fun _ _ kz => pw_i2l dX12_order_21 kz) ?_
      refine WQ.st (fun _ _ kz => pw_ldc2 kX12_361 dX12_order_22 kz) ?_
      refine WQ.st (fun _ _ kz => pw_ldc2 kX12_459 dX12_order_25 kz) ?_
      refine WQ.st (fun _ _ kz => pw_s3i wX12_within lX12_152 dX12_order_28 (c_withinI _ _ _) rfl (Nat.le_of_ble_eq_true rfl) (Nat.le_of_ble_eq_true rfl) kz) ?_
      refine WQ.bn (fun _ _ ka kb => pw_if_ne (tgt := 37) dX12_order_31 (by decide) ka kb) (fun c31 => ?_) (fun c31 => ?_)
      · rw [bI_n] at c31
        have d31 : 10 ≤ w.toInt ∧ w.toInt ≤ 13 := by
          rw [il_t] at c31
          exact of_decide_eq_true c31
        have hn4 := hA.dv.n4
        have hNP : A (o + 1) 1 = nI (nP (A (o + 1))) := nI_ofI hn4.1
        have hN4 : nP (A (o + 1)) ≤ 4 := by unfold nP; omega
        have h16 := pow_N hN4
        refine WQ.st (fun _ _ kz => pw_iload2 dX12_order_37 kz) ?_
        refine WQ.br (fun _ _ ka kb => pw_if_le (tgt := 61) dX12_order_38 (by decide) ka kb) (fun c38 => ?_) (fun c38 => ?_)
        · refine WQ.st (fun _ _ kz => pw_ldc kX12_206 dX12_order_61 kz) ?_
          refine ⟨_, _, pw_iret dX12_order_63 rfl rfl rfl rfl, ?_⟩
          have c0 : sp_order (A (o + 1)) x.toInt y.toInt g w.toInt = -99000003 := by unfold sp_order; rw [c11, decide_eq_false (i32_ne (z := 0) rfl c16), decide_eq_true d31, Bool.false_or, if_pos (by rfl), if_neg (fun q => absurd q.1.1 (by rw [le_i rfl li_0] at c38; omega))]
          rw [c0]
          exact PZ.q (FP.up (by decide)) FQ.rfl FB.rfl
        · refine WQ.st (fun _ _ kz => pw_iload2 dX12_order_41 kz) ?_
          refine WQ.st (fun _ _ kz => pw_iconst (v := 1) dX12_order_42 (by decide) kz) ?_
          refine WQ.st (fun _ _ kz => pw_aload0 dX12_order_43 kz) ?_
          refine WQ.st (fun _ _ kz => pw_getr gX12_13 dX12_order_44 hF.1 (mf_p1 hF) kz) ?_
          refine WQ.st (fun _ _ kz => pw_iconst (v := 1) dX12_order_47 (by decide) kz) ?_
          refine WQ.st (fun _ _ kz => pw_ald (j := 1) dX12_order_48 (mf_s1 hF) rfl (by omega) kz) ?_
          rw [hNP]
          refine WQ.st (fun _ _ kz => pw_ishl dX12_order_49 kz) ?_
          rw [shl_N _ (by omega)]
          refine WQ.br (fun _ _ ka kb => pw_icmp_ge (tgt := 61) dX12_order_50 (by decide) ka kb) (fun c50 => ?_) (fun c50 => ?_)
          · refine WQ.st (fun _ _ kz => pw_ldc kX12_206 dX12_order_61 kz) ?_
            refine ⟨_, _, pw_iret dX12_order_63 rfl rfl rfl rfl, ?_⟩
            have c0 : sp_order (A (o + 1)) x.toInt y.toInt g w.toInt = -99000003 := by unfold sp_order; rw [c11, decide_eq_false (i32_ne (z := 0) rfl c16), decide_eq_true d31, Bool.false_or, if_pos (by rfl), if_neg (fun q => absurd q.1.2 (by rw [le_i (ix_n (j := 2 ^ nP (A (o + 1))) (by omega)) rfl] at c50; omega))]
            rw [c0]
            exact PZ.q (FP.up (by decide)) FQ.rfl FB.rfl
          · refine WQ.st (fun _ _ kz => pw_iload3 dX12_order_53 kz) ?_
            refine WQ.st (fun _ _ kz => pw_i2l dX12_order_54 kz) ?_
            refine WQ.st (fun _ _ kz => pw_s1i wX12_isStore lX12_240 dX12_order_55 (c_isStoreI _) rfl (Nat.le_of_ble_eq_true rfl) (Nat.le_of_ble_eq_true rfl) kz) ?_
            refine WQ.bn (fun _ _ ka kb => pw_if_ne (tgt := 64) dX12_order_58 (by decide) ka kb) (fun c58 => ?_) (fun c58 => ?_)
            · rw [bI_n] at c58
              rw [il_t] at c58
              rw [le_i (ix_n (j := 2 ^ nP (A (o + 1))) (by omega)) rfl] at c50
              rw [le_i rfl li_0] at c38
              have hp5 := hA.dv.p5
              have g1 := isP_t c11
              obtain ⟨p, ep, tp, lp⟩ := nI_get g1.1 g1.2 (by omega)
              obtain ⟨set, es, ts, ls⟩ := nI_get (x := y) (n := ((2 ^ nP (A (o + 1)) : Nat) : Int)) (by omega) (by omega) (by omega)
              have hp : p < 5 := by omega
              have hst := hA.kv.stE hp
              have hs2 : set < 2 ^ nP (A (o + 1)) := by omega
              rw [ep, es]
              refine WQ.st (fun _ _ kz => pw_aload0 dX12_order_64 kz) ?_
              refine WQ.st (fun _ _ kz => pw_iload1 dX12_order_65 kz) ?_
              obtain ⟨_, _, k1, rfl, A1, rfl, f1, f2⟩ := c_laysThrough (d := d + 3) (P := P) (S := S) (G := G) (V := (up2 V o 0 0)) (A := A) (B := B) (Q := Q) (t := t) (sl := sl) hF rfl hA.dv hp
              have hal1 : A1 (o + 1) = A (o + 1) := f1 _ (by omega)
              refine WQ.st (fun _ _ kz => pw_o1v wX12_laysThrough lX12_461 rfl dX12_order_66 hF.1 (k1) rfl (Nat.le_of_ble_eq_true rfl) (Nat.le_of_ble_eq_true rfl) kz) ?_
              refine WQ.st (fun _ _ kz => pw_aload0 dX12_order_69 kz) ?_
              refine WQ.st (fun _ _ kz => pw_iload3 dX12_order_70 kz) ?_
              obtain ⟨_, _, k2, rfl, A2, rfl, f3⟩ := c_laysOrders (d := d + 6) (P := P) (S := S) (G := G) (V := (up2 (up2 V o 0 0) o 24 0)) (A := A1) (B := B) (Q := Q) (t := t) (sl := sl) hF (g := g) hN4 (by rw [hal1]; exact hNP) (th := thT (A (o + 1)) p) (fun q f u hq hf hu => f2 q f u hf hu (by unfold nP at hq; omega))
              have hal2 : A2 (o + 1) = A (o + 1) := (f3.1 _ (by omega)).trans hal1
              have hOT : OT o (thT (A (o + 1)) p) (rf_e g) (nP (A (o + 1))) A2 := ⟨fun q f u hq hf hu => by rw [f3.1 _ (by omega)]; exact f2 q f u hf hu (by unfold nP at hq; omega), fun set s hs h => f3.2 set s hs (by omega)⟩
              have hfr : FQ o A A2 := fun a ha => by rw [f3.1 a (by omega), f1 a (by omega)]
              have hfp : FP o V (up2 (up2 V o 0 0) o 24 0) := (FP.up (by decide)).tr (FP.up (by decide))
              have hL : A2 (o + 15) (41 * set + stN (A (o + 1)) p) = ogT (A (o + 1)) p g set := hOT.2 set _ hst.2 hs2
              have esum : nI (41 * set) + sI (stN (A (o + 1)) p) + 20 = nI (41 * set + stN (A (o + 1)) p) := by
                unfold sI
                rw [show (20 : Int32) = iI 20 from rfl, iI_nat, iI_nat, iI_add, iI_add]
                congr 1
                omega
              refine WQ.st (fun _ _ kz => pw_o1v wX12_laysOrders lX12_464 rfl dX12_order_71 hF.1 (k2) rfl (Nat.le_of_ble_eq_true rfl) (Nat.le_of_ble_eq_true rfl) kz) ?_
              refine WQ.st (fun _ _ kz => pw_aload0 dX12_order_74 kz) ?_
              refine WQ.st (fun _ _ kz => pw_getr gX12_61 dX12_order_75 hF.1 (mf_p31 hF) kz) ?_
              refine WQ.st (fun _ _ kz => pw_bipush (v := 41) dX12_order_78 (by decide) kz) ?_
              refine WQ.st (fun _ _ kz => pw_iload2 dX12_order_80 kz) ?_
              refine WQ.st (fun _ _ kz => pw_imul dX12_order_81 kz) ?_
              rw [nl_41, pk_mul]
              refine WQ.st (fun _ _ kz => pw_aload0 dX12_order_82 kz) ?_
              refine WQ.st (fun _ _ kz => pw_getr gX12_13 dX12_order_83 hF.1 (mf_p1 hF) kz) ?_
              refine WQ.st (fun _ _ kz => pw_bipush (v := 77) dX12_order_86 (by decide) kz) ?_
              refine WQ.st (fun _ _ kz => pw_iload1 dX12_order_88 kz) ?_
              refine WQ.st (fun _ _ kz => pw_iadd dX12_order_89 kz) ?_
              refine WQ.st (fun _ _ kz => pw_ald (j := 77 + p) dX12_order_90 (mf_s1 hF) (by simp (disch := omega) only [nl_77, nI_add, pk_mul, pk_sub]; exact ix_m (by omega) (by omega)) (by omega) kz) ?_
              rw [hal2, hst.1]
              refine WQ.st (fun _ _ kz => pw_iadd dX12_order_91 kz) ?_
              refine WQ.st (fun _ _ kz => pw_bipush (v := 20) dX12_order_92 (by decide) kz) ?_
              refine WQ.st (fun _ _ kz => pw_iadd dX12_order_94 kz) ?_
              rw [esum]
              refine WQ.st (fun _ _ kz => pw_ald (j := 41 * set + stN (A (o + 1)) p) dX12_order_95 (mf_s15 hF) (ix_n (by omega)) (by omega) kz) ?_
              rw [hL]
              refine WQ.st (fun _ _ kz => pw_istore5 dX12_order_96 (by decide) (k := kz)) ?_
              refine WQ.st (fun _ _ kz => pw_iload5 dX12_order_98 kz) ?_
              refine WQ.st (fun _ _ kz => pw_ldcw kX12_273 dX12_order_100 kz) ?_
              refine WQ.bn (fun _ _ ka kb => pw_icmp_ne (tgt := 112) dX12_order_103 (by decide) ka kb) (fun c103 => ?_) (fun c103 => ?_)
              · refine WQ.st (fun _ _ kz => pw_iload4 dX12_order_112 kz) ?_
                refine WQ.bn (fun _ _ ka kb => pw_if_ne (tgt := 122) dX12_order_114 (by decide) ka kb) (fun c114 => ?_) (fun c114 => ?_)
                · have d31 : 10 ≤ w.toInt ∧ w.toInt ≤ 13 := by first | exact d31 | exact absurd c16 c114
                  refine WQ.st (fun _ _ kz => pw_aload0 dX12_order_122 kz) ?_
                  refine WQ.st (fun _ _ kz => pw_iload2 dX12_order_123 kz) ?_
                  refine WQ.st (fun _ _ kz => pw_aload0 dX12_order_124 kz) ?_
                  refine WQ.st (fun _ _ kz => pw_getr gX12_13 dX12_order_125 hF.1 (mf_p1 hF) kz) ?_
                  refine WQ.st (fun _ _ kz => pw_bipush (v := 77) dX12_order_128 (by decide) kz) ?_
                  refine WQ.st (fun _ _ kz => pw_iload1 dX12_order_130 kz) ?_
                  refine WQ.st (fun _ _ kz => pw_iadd dX12_order_131 kz) ?_
                  refine WQ.st (fun _ _ kz => pw_ald (j := 77 + p) dX12_order_132 (mf_s1 hF) (by simp (disch := omega) only [nl_77, nI_add, pk_mul, pk_sub]; exact ix_m (by omega) (by omega)) (by omega) kz) ?_
                  rw [hal2, hst.1]
                  refine WQ.st (fun _ _ kz => pw_iload4 dX12_order_133 kz) ?_
                  refine WQ.st (fun _ _ kz => pw_bipush (v := 10) dX12_order_135 (by decide) kz) ?_
                  refine WQ.st (fun _ _ kz => pw_isub dX12_order_137 kz) ?_
                  have hw4 : w - 10 = nI (w.toInt - 10).toNat := by
                    rw [← Int32.toInt_inj, ti_sub rfl li_10 (by omega), nI_toInt (by omega)]
                    omega
                  rw [hw4]
                  obtain ⟨_, _, k3, rfl, A3, rfl, f4⟩ := c_orderAt (d := d + 5) (P := P) (S := S) (G := G) (V := (up2 (up2 V o 0 0) o 24 0)) (A := A2) (B := B) (Q := Q) (t := t) (sl := sl) hF hN4 hOT hst.2 hs2 (k := (w.toInt - 10).toNat) (by omega) c103
                  refine WQ.st (fun _ _ kz => pw_o3i wX12_orderAt lX12_467 rfl dX12_order_138 hF.1 (k3) rfl (Nat.le_of_ble_eq_true rfl) (Nat.le_of_ble_eq_true rfl) kz) ?_
                  refine ⟨_, _, pw_iret dX12_order_141 rfl rfl rfl rfl, ?_⟩
                  have c0 : sp_order (A (o + 1)) x.toInt y.toInt g w.toInt = oAt (thT (A (o + 1)) p) (rf_e g) (nP (A (o + 1))) (w.toInt - 10).toNat (fun i => decide (i = stN (A (o + 1)) p)) set := by unfold sp_order; rw [c11, decide_eq_false (i32_ne (z := 0) rfl c16), decide_eq_true d31, Bool.false_or, if_pos (by rfl), if_pos ⟨⟨by omega, by omega⟩, c58⟩, tp, ts, Int.toNat_natCast, Int.toNat_natCast, if_neg c103, if_neg (i32_ne (z := 0) rfl c114)]
                  rw [← ep, ← es, c0]
                  exact PZ.q hfp (hfr.tr (fun a ha => f4 a (by omega) (by omega))) FB.rfl
                · refine WQ.st (fun _ _ kz => pw_iload5 dX12_order_117 kz) ?_
                  refine WQ.st (fun _ _ kz => pw_goto (tgt := 141) dX12_order_119 (by decide) kz) ?_
                  refine ⟨_, _, pw_iret dX12_order_141 rfl rfl rfl rfl, ?_⟩
                  exact absurd c114 c16
              · refine WQ.st (fun _ _ kz => pw_ldcw kX12_422 dX12_order_106 kz) ?_
                refine WQ.st (fun _ _ kz => pw_goto (tgt := 141) dX12_order_109 (by decide) kz) ?_
                refine ⟨_, _, pw_iret dX12_order_141 rfl rfl rfl rfl, ?_⟩
                have c0 : sp_order (A (o + 1)) x.toInt y.toInt g w.toInt = -99000001 := by unfold sp_order; rw [c11, decide_eq_false (i32_ne (z := 0) rfl c16), decide_eq_true d31, Bool.false_or, if_pos (by rfl), if_pos ⟨⟨by omega, by omega⟩, c58⟩, tp, ts, Int.toNat_natCast, Int.toNat_natCast, if_pos c103]
                rw [← ep, ← es, c0]
                exact PZ.q hfp hfr FB.rfl
            · rw [bI_0] at c58
              rw [il_t] at c58
              refine WQ.st (fun _ _ kz => pw_ldc kX12_206 dX12_order_61 kz) ?_
              refine ⟨_, _, pw_iret dX12_order_63 rfl rfl rfl rfl, ?_⟩
              have c0 : sp_order (A (o + 1)) x.toInt y.toInt g w.toInt = -99000003 := by unfold sp_order; rw [c11, decide_eq_false (i32_ne (z := 0) rfl c16), decide_eq_true d31, Bool.false_or, if_pos (by rfl), if_neg (fun q => by rw [c58] at q; exact absurd q.2 (by decide))]
              rw [c0]
              exact PZ.q (FP.up (by decide)) FQ.rfl FB.rfl
      · rw [bI_0] at c31
        have d31 : ¬ (10 ≤ w.toInt ∧ w.toInt ≤ 13) := by
          rw [il_t] at c31
          exact of_decide_eq_false c31
        refine WQ.st (fun _ _ kz => pw_ldc kX12_247 dX12_order_34 kz) ?_
        refine ⟨_, _, pw_iret dX12_order_36 rfl rfl rfl rfl, ?_⟩
        have c0 : sp_order (A (o + 1)) x.toInt y.toInt g w.toInt = -99000002 := by unfold sp_order; rw [decide_eq_false (i32_ne (z := 0) rfl c16), decide_eq_false d31, Bool.or_self, Bool.and_false, if_neg (by decide)]
        rw [c0]
        exact PZ.q (FP.up (by decide)) FQ.rfl FB.rfl
