/-! ===== the reference: terms by draws ===== -/
def dx (x : Int32) : Int32 := 1103515245 * x + 12345
def u16 (x : Int32) : Nat := x.toBitVec.toNat / 65536
theorem u16_lt (x : Int32) : u16 x < 65536 := by
  have := x.toBitVec.isLt
  unfold u16
  omega
theorem nI_bv (x : Int32) : nI x.toBitVec.toNat = x := by
  rw [← Int32.toBitVec_inj]
  show BitVec.ofNat 32 x.toBitVec.toNat = x.toBitVec
  simp
theorem ush16 (x : Int32) : (x.toUInt32 >>> (Int32.toUInt32 16 &&& Int32.toUInt32 31)).toInt32 = nI (u16 x) := by
  have h := pk_ushrN (n := x.toBitVec.toNat) x.toBitVec.isLt 16 16 (by decide)
  rw [nI_bv] at h
  exact h
def dw (x : Int32) (b : Nat) : Nat := u16 (dx x) % b
theorem dw_lt (x : Int32) {b : Nat} (h : 0 < b) : dw x b < b := Nat.mod_lt _ h
set_option maxRecDepth 20000 in
theorem c_draw {G : gT} {d : Nat} {S : sS} {V : sV} {P : sP} {A : sV} {B : sB} {Q : sP} {t sl o : Nat} (hF : MF S P o) {b : Nat} (hb : 0 < b) (hb2 : b < 100) : PW G d mX12_draw 0 [some (.ref o), some (.int (nI b))] [] (t, sl, gh S V P A B Q) (some (.int (nI (dw (V o 27) b)))) (t, sl, gh S (up2 V o 27 (dx (V o 27))) P A B Q) := by
  refine pw_aload0 dX12_draw_0 ?_
  refine pw_ldcw kX12_400 dX12_draw_1 ?_
  refine pw_aload0 dX12_draw_4 ?_
  refine pw_geti gX12_401 dX12_draw_5 hF.1 ?_
  refine pw_imul dX12_draw_8 ?_
  refine pw_sipush (v := 12345) dX12_draw_9 (by decide) ?_
  refine pw_iadd dX12_draw_12 ?_
  refine pw_puti (pX12_401 _ rfl) dX12_draw_13 hF.1 rfl rfl ?_
  have e27 : up2 V o 27 (1103515245 * V o 27 + 12345) o 27 = dx (V o 27) := up2_eq
  refine pw_aload0 dX12_draw_16 ?_
  refine pw_geti gX12_401 dX12_draw_17 hF.1 ?_
  rw [e27]
  refine pw_bipush (v := 16) dX12_draw_20 (by decide) ?_
  refine pw_iushr dX12_draw_22 ?_
  rw [ush16]
  refine pw_iload1 dX12_draw_23 ?_
  refine pw_irem dX12_draw_24 (by rw [nl_0, nI_eq (by omega) (by decide)]; omega) ?_
  rw [pk_rem (by have := u16_lt (dx (V o 27)); omega) (by omega) (by omega)]
  exact pw_iret dX12_draw_25 rfl rfl rfl rfl
/-- a drawn deed: whether it is done, the desk, the draws' number -/
def dwV (how p other ticks : Nat) : Nat := if how = 3 then 1000 + 1000 * p + 100 * other + ticks else 100 * (how - 1) + 10 * p + other
def dd4 (al : Nat → Int32) (p o : Nat) : Bool × (Nat → Int32) := if isP al p then (true, pm_up al (87 + p) (nI o)) else (false, al)
def ddV (al : Nat → Int32) (v : Int) : Bool × (Nat → Int32) := if sp_why al v = 0 then (true, sp_act al v) else (false, al)
def sp_dd (al : Nat → Int32) (x : Int32) : (Bool × (Nat → Int32)) × Int32 :=
  if dw x 5 = 0 then ((true, sp_fri al), dx x)
  else if dw x 5 = 4 then (dd4 al (dw (dx x) 5) (dw (dx (dx x)) 10), dx (dx (dx x)))
  else if dw x 5 = 3 then (ddV al (dwV 3 (dw (dx x) 5) (dw (dx (dx x)) 5) (1 + dw (dx (dx (dx x))) 9) : Nat), dx (dx (dx (dx x))))
  else (ddV al (dwV (dw x 5) (dw (dx x) 5) (dw (dx (dx x)) 5) 0 : Nat), dx (dx (dx x)))
set_option maxRecDepth 20000 in
theorem c_goesDrawn {G : gT} {d : Nat} {S : sS} {V : sV} {P : sP} {A : sV} {B : sB} {Q : sP} {t sl o : Nat} (hF : MF S P o) (hD : DV (A (o + 1))) (hK : KV ((A (o + 1)) 2).toInt (fun k => (A (o + 1)) (75 + k))) : WQ G (d + 8) mX12_goesDrawn 0 [some (.ref o), none, none, none, none, none] [] (t, sl, gh S V P A B Q) (fun r h' => r = some (.int (bI (sp_dd (A (o + 1)) (V o 27)).1.1)) ∧ ∃ V' A' : sV, h' = (t, sl, gh S V' P A' B Q) ∧ FP o V V' ∧ V' o 27 = (sp_dd (A (o + 1)) (V o 27)).2 ∧ FA o (pm_up A (o + 1) (sp_dd (A (o + 1)) (V o 27)).1.2) A') := by
  have b0 := dw_lt (V o 27) (b := 5) (by decide)
  have b1 := dw_lt (dx (V o 27)) (b := 5) (by decide)
  have b2 := dw_lt (dx (dx (V o 27))) (b := 5) (by decide)
  have b2' := dw_lt (dx (dx (V o 27))) (b := 10) (by decide)
  have b3 := dw_lt (dx (dx (dx (V o 27)))) (b := 9) (by decide)
  by_cases h0 : dw (V o 27) 5 = 0
  · rw [show sp_dd (A (o + 1)) (V o 27) = ((true, sp_fri (A (o + 1))), dx (V o 27)) by unfold sp_dd; rw [if_pos h0]]
    refine WQ.st (fun _ _ kz => pw_aload0 dX12_goesDrawn_0 kz) ?_
    refine WQ.st (fun _ _ kz => pw_iconst (v := 5) dX12_goesDrawn_1 (by decide) kz) ?_
    rw [show (5 : Int32) = nI 5 from rfl]
    refine WQ.st (fun _ _ kz => pw_o1i wX12_draw lX12_404 rfl dX12_goesDrawn_2 hF.1 (c_draw (d := d + 7) hF (b := 5) (by decide) (by decide)) rfl (Nat.le_of_ble_eq_true rfl) (Nat.le_of_ble_eq_true rfl) kz) ?_
    refine WQ.st (fun _ _ kz => pw_istore1 dX12_goesDrawn_5 (by decide) (k := kz)) ?_
    refine WQ.st (fun _ _ kz => pw_iload1 dX12_goesDrawn_6 kz) ?_
    refine WQ.bn (fun _ _ ka kb => pw_if_ne (tgt := 16) dX12_goesDrawn_7 (by decide) ka kb) (fun c7 => absurd (by rw [h0]; rfl) c7) (fun c7 => ?_)
    refine WQ.st (fun _ _ kz => pw_aload0 dX12_goesDrawn_10 kz) ?_
    obtain ⟨_, _, k3, rfl, A3, rfl, e3⟩ := c_goesFriday (d := d + 7) (P := P) (S := S) (G := G) (V := (up2 V o 27 (dx (V o 27)))) (A := A) (B := B) (Q := Q) (t := t) (sl := sl) hF hD
    refine WQ.st (fun _ _ kz => pw_o0v wX12_goesFriday lX12_358 rfl dX12_goesDrawn_11 hF.1 (k3) rfl (Nat.le_of_ble_eq_true rfl) (Nat.le_of_ble_eq_true rfl) kz) ?_
    refine WQ.st (fun _ _ kz => pw_iconst (v := 1) dX12_goesDrawn_14 (by decide) kz) ?_
    refine ⟨_, _, pw_iret dX12_goesDrawn_15 rfl rfl rfl rfl, ?_⟩
    exact ⟨rfl, _, A3, rfl, FP.up (by decide), up2_eq, by rw [e3]; exact FA.rfl⟩
  by_cases h4 : dw (V o 27) 5 = 4
  · rw [show sp_dd (A (o + 1)) (V o 27) = (dd4 (A (o + 1)) (dw (dx (V o 27)) 5) (dw (dx (dx (V o 27))) 10), dx (dx (dx (V o 27)))) by unfold sp_dd; rw [if_neg h0, if_pos h4]]
    refine WQ.st (fun _ _ kz => pw_aload0 dX12_goesDrawn_0 kz) ?_
    refine WQ.st (fun _ _ kz => pw_iconst (v := 5) dX12_goesDrawn_1 (by decide) kz) ?_
    rw [show (5 : Int32) = nI 5 from rfl]
    refine WQ.st (fun _ _ kz => pw_o1i wX12_draw lX12_404 rfl dX12_goesDrawn_2 hF.1 (c_draw (d := d + 7) hF (b := 5) (by decide) (by decide)) rfl (Nat.le_of_ble_eq_true rfl) (Nat.le_of_ble_eq_true rfl) kz) ?_
    rw [h4]
    refine WQ.st (fun _ _ kz => pw_istore1 dX12_goesDrawn_5 (by decide) (k := kz)) ?_
    refine WQ.st (fun _ _ kz => pw_iload1 dX12_goesDrawn_6 kz) ?_
    refine WQ.bn (fun _ _ ka kb => pw_if_ne (tgt := 16) dX12_goesDrawn_7 (by decide) ka kb) (fun c7 => ?_) (fun c7 => absurd c7 (by decide))
    refine WQ.st (fun _ _ kz => pw_aload0 dX12_goesDrawn_16 kz) ?_
    refine WQ.st (fun _ _ kz => pw_iconst (v := 5) dX12_goesDrawn_17 (by decide) kz) ?_
    rw [show (5 : Int32) = nI 5 from rfl]
    refine WQ.st (fun _ _ kz => pw_o1i wX12_draw lX12_404 rfl dX12_goesDrawn_18 hF.1 (c_draw (d := d + 7) (V := up2 V o 27 (dx (V o 27))) hF (b := 5) (by decide) (by decide)) rfl (Nat.le_of_ble_eq_true rfl) (Nat.le_of_ble_eq_true rfl) kz) ?_
    rw [up2_eq, up2_up2]
    refine WQ.st (fun _ _ kz => pw_istore2 dX12_goesDrawn_21 (by decide) (k := kz)) ?_
    refine WQ.st (fun _ _ kz => pw_aload0 dX12_goesDrawn_22 kz) ?_
    refine WQ.st (fun _ _ kz => pw_iload1 dX12_goesDrawn_23 kz) ?_
    refine WQ.st (fun _ _ kz => pw_iconst (v := 4) dX12_goesDrawn_24 (by decide) kz) ?_
    refine WQ.bn (fun _ _ ka kb => pw_icmp_ne (tgt := 33) dX12_goesDrawn_25 (by decide) ka kb) (fun c25 => absurd rfl c25) (fun c25 => ?_)
    refine WQ.st (fun _ _ kz => pw_bipush (v := 10) dX12_goesDrawn_28 (by decide) kz) ?_
    refine WQ.st (fun _ _ kz => pw_goto (tgt := 34) dX12_goesDrawn_30 (by decide) kz) ?_
    rw [show (10 : Int32) = nI 10 from rfl]
    refine WQ.st (fun _ _ kz => pw_o1i wX12_draw lX12_404 rfl dX12_goesDrawn_34 hF.1 (c_draw (d := d + 7) (V := up2 V o 27 (dx (dx (V o 27)))) hF (b := 10) (by decide) (by decide)) rfl (Nat.le_of_ble_eq_true rfl) (Nat.le_of_ble_eq_true rfl) kz) ?_
    rw [up2_eq, up2_up2]
    refine WQ.st (fun _ _ kz => pw_istore3 dX12_goesDrawn_37 (by decide) (k := kz)) ?_
    refine WQ.st (fun _ _ kz => pw_iload1 dX12_goesDrawn_38 kz) ?_
    refine WQ.st (fun _ _ kz => pw_iconst (v := 3) dX12_goesDrawn_39 (by decide) kz) ?_
    refine WQ.bn (fun _ _ ka kb => pw_icmp_ne (tgt := 54) dX12_goesDrawn_40 (by decide) ka kb) (fun c40 => ?_) (fun c40 => absurd c40 (by decide))
    refine WQ.st (fun _ _ kz => pw_iconst (v := 0) dX12_goesDrawn_54 (by decide) kz) ?_
    refine WQ.st (fun _ _ kz => pw_istore4 dX12_goesDrawn_55 (by decide) (k := kz)) ?_
    refine WQ.st (fun _ _ kz => pw_iload1 dX12_goesDrawn_57 kz) ?_
    refine WQ.st (fun _ _ kz => pw_iconst (v := 4) dX12_goesDrawn_58 (by decide) kz) ?_
    refine WQ.bn (fun _ _ ka kb => pw_icmp_ne (tgt := 85) dX12_goesDrawn_59 (by decide) ka kb) (fun c59 => absurd rfl c59) (fun c59 => ?_)
    refine WQ.st (fun _ _ kz => pw_aload0 dX12_goesDrawn_62 kz) ?_
    refine WQ.st (fun _ _ kz => pw_iload2 dX12_goesDrawn_63 kz) ?_
    refine WQ.st (fun _ _ kz => pw_i2l dX12_goesDrawn_64 kz) ?_
    refine WQ.st (fun _ _ kz => pw_o1i wX12_isPlayer lX12_244 rfl dX12_goesDrawn_65 hF.1 (c_isPlayer hF hD _) rfl (Nat.le_of_ble_eq_true rfl) (Nat.le_of_ble_eq_true rfl) kz) ?_
    refine WQ.bn (fun _ _ ka kb => pw_if_ne (tgt := 73) dX12_goesDrawn_68 (by decide) ka kb) (fun c68 => ?_) (fun c68 => ?_)
    · rw [bI_n] at c68
      rw [nI_l (by omega), lN_t (by omega)] at c68
      refine WQ.st (fun _ _ kz => pw_aload0 dX12_goesDrawn_73 kz) ?_
      refine WQ.st (fun _ _ kz => pw_getr gX12_13 dX12_goesDrawn_74 hF.1 (mf_p1 hF) kz) ?_
      refine WQ.st (fun _ _ kz => pw_bipush (v := 87) dX12_goesDrawn_77 (by decide) kz) ?_
      refine WQ.st (fun _ _ kz => pw_iload2 dX12_goesDrawn_79 kz) ?_
      refine WQ.st (fun _ _ kz => pw_iadd dX12_goesDrawn_80 kz) ?_
      refine WQ.st (fun _ _ kz => pw_iload3 dX12_goesDrawn_81 kz) ?_
      refine WQ.st (fun _ _ kz => pw_ast (j := 87 + dw (dx (V o 27)) 5) dX12_goesDrawn_82 (mf_s1 hF) (by simp (disch := omega) only [nl_87, nI_add, pk_mul, pk_sub]; exact ix_m (by omega) (by omega)) (by omega)  kz) ?_
      refine WQ.st (fun _ _ kz => pw_iconst (v := 1) dX12_goesDrawn_83 (by decide) kz) ?_
      refine ⟨_, _, pw_iret dX12_goesDrawn_84 rfl rfl rfl rfl, ?_⟩
      rw [show dd4 (A (o + 1)) (dw (dx (V o 27)) 5) (dw (dx (dx (V o 27))) 10) = (true, pm_up (A (o + 1)) (87 + dw (dx (V o 27)) 5) (nI (dw (dx (dx (V o 27))) 10))) by unfold dd4; rw [if_pos c68]]
      exact ⟨rfl, _, _, rfl, FP.up (by decide), up2_eq, FA.rfl⟩
    · rw [bI_0] at c68
      rw [nI_l (by omega), lN_t (by omega)] at c68
      refine WQ.st (fun _ _ kz => pw_iconst (v := 0) dX12_goesDrawn_71 (by decide) kz) ?_
      refine ⟨_, _, pw_iret dX12_goesDrawn_72 rfl rfl rfl rfl, ?_⟩
      rw [show dd4 (A (o + 1)) (dw (dx (V o 27)) 5) (dw (dx (dx (V o 27))) 10) = (false, A (o + 1)) by unfold dd4; rw [if_neg (by rw [c68]; decide)]]
      exact ⟨rfl, _, A, rfl, FP.up (by decide), up2_eq, by rw [pm_up_self]; exact FA.rfl⟩
  by_cases h3 : dw (V o 27) 5 = 3
  · rw [show sp_dd (A (o + 1)) (V o 27) = (ddV (A (o + 1)) ((1000 + 1000 * dw (dx (V o 27)) 5 + 100 * dw (dx (dx (V o 27))) 5 + (1 + dw (dx (dx (dx (V o 27)))) 9) : Nat) : Int), dx (dx (dx (dx (V o 27))))) by unfold sp_dd; rw [if_neg h0, if_neg h4, if_pos h3]; rfl]
    refine WQ.st (fun _ _ kz => pw_aload0 dX12_goesDrawn_0 kz) ?_
    refine WQ.st (fun _ _ kz => pw_iconst (v := 5) dX12_goesDrawn_1 (by decide) kz) ?_
    rw [show (5 : Int32) = nI 5 from rfl]
    refine WQ.st (fun _ _ kz => pw_o1i wX12_draw lX12_404 rfl dX12_goesDrawn_2 hF.1 (c_draw (d := d + 7) hF (b := 5) (by decide) (by decide)) rfl (Nat.le_of_ble_eq_true rfl) (Nat.le_of_ble_eq_true rfl) kz) ?_
    rw [h3]
    refine WQ.st (fun _ _ kz => pw_istore1 dX12_goesDrawn_5 (by decide) (k := kz)) ?_
    refine WQ.st (fun _ _ kz => pw_iload1 dX12_goesDrawn_6 kz) ?_
    refine WQ.bn (fun _ _ ka kb => pw_if_ne (tgt := 16) dX12_goesDrawn_7 (by decide) ka kb) (fun c7 => ?_) (fun c7 => absurd c7 (by decide))
    refine WQ.st (fun _ _ kz => pw_aload0 dX12_goesDrawn_16 kz) ?_
    refine WQ.st (fun _ _ kz => pw_iconst (v := 5) dX12_goesDrawn_17 (by decide) kz) ?_
    rw [show (5 : Int32) = nI 5 from rfl]
    refine WQ.st (fun _ _ kz => pw_o1i wX12_draw lX12_404 rfl dX12_goesDrawn_18 hF.1 (c_draw (d := d + 7) (V := up2 V o 27 (dx (V o 27))) hF (b := 5) (by decide) (by decide)) rfl (Nat.le_of_ble_eq_true rfl) (Nat.le_of_ble_eq_true rfl) kz) ?_
    rw [up2_eq, up2_up2]
    refine WQ.st (fun _ _ kz => pw_istore2 dX12_goesDrawn_21 (by decide) (k := kz)) ?_
    refine WQ.st (fun _ _ kz => pw_aload0 dX12_goesDrawn_22 kz) ?_
    refine WQ.st (fun _ _ kz => pw_iload1 dX12_goesDrawn_23 kz) ?_
    refine WQ.st (fun _ _ kz => pw_iconst (v := 4) dX12_goesDrawn_24 (by decide) kz) ?_
    refine WQ.bn (fun _ _ ka kb => pw_icmp_ne (tgt := 33) dX12_goesDrawn_25 (by decide) ka kb) (fun c25 => ?_) (fun c25 => absurd c25 (by decide))
    refine WQ.st (fun _ _ kz => pw_iconst (v := 5) dX12_goesDrawn_33 (by decide) kz) ?_
    rw [show (5 : Int32) = nI 5 from rfl]
    refine WQ.st (fun _ _ kz => pw_o1i wX12_draw lX12_404 rfl dX12_goesDrawn_34 hF.1 (c_draw (d := d + 7) (V := up2 V o 27 (dx (dx (V o 27)))) hF (b := 5) (by decide) (by decide)) rfl (Nat.le_of_ble_eq_true rfl) (Nat.le_of_ble_eq_true rfl) kz) ?_
    rw [up2_eq, up2_up2]
    refine WQ.st (fun _ _ kz => pw_istore3 dX12_goesDrawn_37 (by decide) (k := kz)) ?_
    refine WQ.st (fun _ _ kz => pw_iload1 dX12_goesDrawn_38 kz) ?_
    refine WQ.st (fun _ _ kz => pw_iconst (v := 3) dX12_goesDrawn_39 (by decide) kz) ?_
    refine WQ.bn (fun _ _ ka kb => pw_icmp_ne (tgt := 54) dX12_goesDrawn_40 (by decide) ka kb) (fun c40 => absurd rfl c40) (fun c40 => ?_)
    refine WQ.st (fun _ _ kz => pw_iconst (v := 1) dX12_goesDrawn_43 (by decide) kz) ?_
    refine WQ.st (fun _ _ kz => pw_aload0 dX12_goesDrawn_44 kz) ?_
    refine WQ.st (fun _ _ kz => pw_bipush (v := 9) dX12_goesDrawn_45 (by decide) kz) ?_
    rw [show (9 : Int32) = nI 9 from rfl]
    refine WQ.st (fun _ _ kz => pw_o1i wX12_draw lX12_404 rfl dX12_goesDrawn_47 hF.1 (c_draw (d := d + 7) (V := up2 V o 27 (dx (dx (dx (V o 27))))) hF (b := 9) (by decide) (by decide)) rfl (Nat.le_of_ble_eq_true rfl) (Nat.le_of_ble_eq_true rfl) kz) ?_
    rw [up2_eq, up2_up2]
    refine WQ.st (fun _ _ kz => pw_iadd dX12_goesDrawn_50 kz) ?_
    refine WQ.st (fun _ _ kz => pw_goto (tgt := 55) dX12_goesDrawn_51 (by decide) kz) ?_
    refine WQ.st (fun _ _ kz => pw_istore4 dX12_goesDrawn_55 (by decide) (k := kz)) ?_
    refine WQ.st (fun _ _ kz => pw_iload1 dX12_goesDrawn_57 kz) ?_
    refine WQ.st (fun _ _ kz => pw_iconst (v := 4) dX12_goesDrawn_58 (by decide) kz) ?_
    refine WQ.bn (fun _ _ ka kb => pw_icmp_ne (tgt := 85) dX12_goesDrawn_59 (by decide) ka kb) (fun c59 => ?_) (fun c59 => absurd c59 (by decide))
    refine WQ.st (fun _ _ kz => pw_iload1 dX12_goesDrawn_85 kz) ?_
    refine WQ.st (fun _ _ kz => pw_iconst (v := 3) dX12_goesDrawn_86 (by decide) kz) ?_
    refine WQ.bn (fun _ _ ka kb => pw_icmp_ne (tgt := 110) dX12_goesDrawn_87 (by decide) ka kb) (fun c87 => absurd rfl c87) (fun c87 => ?_)
    refine WQ.st (fun _ _ kz => pw_sipush (v := 1000) dX12_goesDrawn_90 (by decide) kz) ?_
    refine WQ.st (fun _ _ kz => pw_sipush (v := 1000) dX12_goesDrawn_93 (by decide) kz) ?_
    refine WQ.st (fun _ _ kz => pw_iload2 dX12_goesDrawn_96 kz) ?_
    refine WQ.st (fun _ _ kz => pw_imul dX12_goesDrawn_97 kz) ?_
    refine WQ.st (fun _ _ kz => pw_iadd dX12_goesDrawn_98 kz) ?_
    refine WQ.st (fun _ _ kz => pw_bipush (v := 100) dX12_goesDrawn_99 (by decide) kz) ?_
    refine WQ.st (fun _ _ kz => pw_iload3 dX12_goesDrawn_101 kz) ?_
    refine WQ.st (fun _ _ kz => pw_imul dX12_goesDrawn_102 kz) ?_
    refine WQ.st (fun _ _ kz => pw_iadd dX12_goesDrawn_103 kz) ?_
    refine WQ.st (fun _ _ kz => pw_iload4 dX12_goesDrawn_104 kz) ?_
    refine WQ.st (fun _ _ kz => pw_iadd dX12_goesDrawn_106 kz) ?_
    simp only [nl_1000, nl_100, nl_1, pk_mul, nI_add]
    refine WQ.st (fun _ _ kz => pw_goto (tgt := 123) dX12_goesDrawn_107 (by decide) kz) ?_
    refine WQ.st (fun _ _ kz => pw_istore5 dX12_goesDrawn_123 (by decide) (k := kz)) ?_
    refine WQ.st (fun _ _ kz => pw_aload0 dX12_goesDrawn_125 kz) ?_
    refine WQ.st (fun _ _ kz => pw_iload5 dX12_goesDrawn_126 kz) ?_
    refine WQ.st (fun _ _ kz => pw_i2l dX12_goesDrawn_128 kz) ?_
    obtain ⟨_, _, k3, rfl, V3, A3, rfl, f1, f2, f3⟩ := c_whyNot (d := d) (P := P) (S := S) (G := G) (V := (up2 V o 27 (dx (dx (dx (dx (V o 27))))))) (A := A) (B := B) (Q := Q) (t := t) (sl := sl) hF hD hK (nI (1000 + 1000 * dw (dx (V o 27)) 5 + 100 * dw (dx (dx (V o 27))) 5 + (1 + dw (dx (dx (dx (V o 27)))) 9))).toInt64
    rw [il_t, nI_toInt (by omega)] at k3 f3
    refine WQ.st (fun _ _ kz => pw_o1i wX12_whyNot lX12_378 rfl dX12_goesDrawn_129 hF.1 (k3) rfl (Nat.le_of_ble_eq_true rfl) (Nat.le_of_ble_eq_true rfl) kz) ?_
    refine WQ.br (fun _ _ ka kb => pw_if_eq (tgt := 137) dX12_goesDrawn_132 (by decide) ka kb) (fun c132 => ?_) (fun c132 => ?_)
    · refine WQ.st (fun _ _ kz => pw_aload0 dX12_goesDrawn_137 kz) ?_
      refine WQ.st (fun _ _ kz => pw_iload5 dX12_goesDrawn_138 kz) ?_
      have hal : A3 (o + 1) = A (o + 1) := f1 _ (by omega)
      obtain ⟨_, _, k4, rfl, V4, A4, rfl, g1, g2⟩ := c_acts (d := d) (P := P) (S := S) (G := G) (V := V3) (A := A3) (B := B) (Q := Q) (t := t) (sl := sl) hF (by rw [hal]; exact hD) (by rw [hal]; exact hK) (nI (1000 + 1000 * dw (dx (V o 27)) 5 + 100 * dw (dx (dx (V o 27))) 5 + (1 + dw (dx (dx (dx (V o 27)))) 9))) (by rw [hal, nI_toInt (by omega)]; exact c132) (by rw [hal, nI_toInt (by omega)]; exact fun q1 q2 => f3 q1 q2 c132)
      rw [hal, nI_toInt (by omega)] at g2
      refine WQ.st (fun _ _ kz => pw_o1v wX12_acts lX12_382 rfl dX12_goesDrawn_140 hF.1 (k4) rfl (Nat.le_of_ble_eq_true rfl) (Nat.le_of_ble_eq_true rfl) kz) ?_
      refine WQ.st (fun _ _ kz => pw_iconst (v := 1) dX12_goesDrawn_143 (by decide) kz) ?_
      refine ⟨_, _, pw_iret dX12_goesDrawn_144 rfl rfl rfl rfl, ?_⟩
      rw [show ddV (A (o + 1)) ((1000 + 1000 * dw (dx (V o 27)) 5 + 100 * dw (dx (dx (V o 27))) 5 + (1 + dw (dx (dx (dx (V o 27)))) 9) : Nat) : Int) = (true, sp_act (A (o + 1)) ((1000 + 1000 * dw (dx (V o 27)) 5 + 100 * dw (dx (dx (V o 27))) 5 + (1 + dw (dx (dx (dx (V o 27)))) 9) : Nat) : Int)) by unfold ddV; rw [if_pos c132]]
      exact ⟨rfl, V4, A4, rfl, ((FP.up (by decide)).tr f2.FP).tr g1.FP, by rw [g1.2 27 (by decide) (by decide) (by decide) (by decide) (by decide), f2.2 27 (by decide) (by decide) (by decide) (by decide) (by decide), up2_eq], (f1.app _).tr g2⟩
    · refine WQ.st (fun _ _ kz => pw_iconst (v := 0) dX12_goesDrawn_135 (by decide) kz) ?_
      refine ⟨_, _, pw_iret dX12_goesDrawn_136 rfl rfl rfl rfl, ?_⟩
      rw [show ddV (A (o + 1)) ((1000 + 1000 * dw (dx (V o 27)) 5 + 100 * dw (dx (dx (V o 27))) 5 + (1 + dw (dx (dx (dx (V o 27)))) 9) : Nat) : Int) = (false, A (o + 1)) by unfold ddV; rw [if_neg c132]]
      exact ⟨rfl, V3, A3, rfl, (FP.up (by decide)).tr f2.FP, by rw [f2.2 27 (by decide) (by decide) (by decide) (by decide) (by decide), up2_eq], by rw [pm_up_self]; exact f1⟩
  rw [show sp_dd (A (o + 1)) (V o 27) = (ddV (A (o + 1)) ((100 * (dw (V o 27) 5 - 1) + 10 * dw (dx (V o 27)) 5 + dw (dx (dx (V o 27))) 5 : Nat) : Int), dx (dx (dx (V o 27)))) by unfold sp_dd dwV; rw [if_neg h0, if_neg h4, if_neg h3, if_neg h3]]
  refine WQ.st (fun _ _ kz => pw_aload0 dX12_goesDrawn_0 kz) ?_
  refine WQ.st (fun _ _ kz => pw_iconst (v := 5) dX12_goesDrawn_1 (by decide) kz) ?_
  rw [show (5 : Int32) = nI 5 from rfl]
  refine WQ.st (fun _ _ kz => pw_o1i wX12_draw lX12_404 rfl dX12_goesDrawn_2 hF.1 (c_draw (d := d + 7) hF (b := 5) (by decide) (by decide)) rfl (Nat.le_of_ble_eq_true rfl) (Nat.le_of_ble_eq_true rfl) kz) ?_
  refine WQ.st (fun _ _ kz => pw_istore1 dX12_goesDrawn_5 (by decide) (k := kz)) ?_
  refine WQ.st (fun _ _ kz => pw_iload1 dX12_goesDrawn_6 kz) ?_
  refine WQ.bn (fun _ _ ka kb => pw_if_ne (tgt := 16) dX12_goesDrawn_7 (by decide) ka kb) (fun c7 => ?_) (fun c7 => absurd c7 (by rw [nl_0, nI_eq (by omega) (by decide)]; exact h0))
  refine WQ.st (fun _ _ kz => pw_aload0 dX12_goesDrawn_16 kz) ?_
  refine WQ.st (fun _ _ kz => pw_iconst (v := 5) dX12_goesDrawn_17 (by decide) kz) ?_
  rw [show (5 : Int32) = nI 5 from rfl]
  refine WQ.st (fun _ _ kz => pw_o1i wX12_draw lX12_404 rfl dX12_goesDrawn_18 hF.1 (c_draw (d := d + 7) (V := up2 V o 27 (dx (V o 27))) hF (b := 5) (by decide) (by decide)) rfl (Nat.le_of_ble_eq_true rfl) (Nat.le_of_ble_eq_true rfl) kz) ?_
  rw [up2_eq, up2_up2]
  refine WQ.st (fun _ _ kz => pw_istore2 dX12_goesDrawn_21 (by decide) (k := kz)) ?_
  refine WQ.st (fun _ _ kz => pw_aload0 dX12_goesDrawn_22 kz) ?_
  refine WQ.st (fun _ _ kz => pw_iload1 dX12_goesDrawn_23 kz) ?_
  refine WQ.st (fun _ _ kz => pw_iconst (v := 4) dX12_goesDrawn_24 (by decide) kz) ?_
  refine WQ.bn (fun _ _ ka kb => pw_icmp_ne (tgt := 33) dX12_goesDrawn_25 (by decide) ka kb) (fun c25 => ?_) (fun c25 => absurd c25 (by rw [nl_4, nI_eq (by omega) (by decide)]; exact h4))
  refine WQ.st (fun _ _ kz => pw_iconst (v := 5) dX12_goesDrawn_33 (by decide) kz) ?_
  rw [show (5 : Int32) = nI 5 from rfl]
  refine WQ.st (fun _ _ kz => pw_o1i wX12_draw lX12_404 rfl dX12_goesDrawn_34 hF.1 (c_draw (d := d + 7) (V := up2 V o 27 (dx (dx (V o 27)))) hF (b := 5) (by decide) (by decide)) rfl (Nat.le_of_ble_eq_true rfl) (Nat.le_of_ble_eq_true rfl) kz) ?_
  rw [up2_eq, up2_up2]
  refine WQ.st (fun _ _ kz => pw_istore3 dX12_goesDrawn_37 (by decide) (k := kz)) ?_
  refine WQ.st (fun _ _ kz => pw_iload1 dX12_goesDrawn_38 kz) ?_
  refine WQ.st (fun _ _ kz => pw_iconst (v := 3) dX12_goesDrawn_39 (by decide) kz) ?_
  refine WQ.bn (fun _ _ ka kb => pw_icmp_ne (tgt := 54) dX12_goesDrawn_40 (by decide) ka kb) (fun c40 => ?_) (fun c40 => absurd c40 (by rw [nl_3, nI_eq (by omega) (by decide)]; exact h3))
  refine WQ.st (fun _ _ kz => pw_iconst (v := 0) dX12_goesDrawn_54 (by decide) kz) ?_
  refine WQ.st (fun _ _ kz => pw_istore4 dX12_goesDrawn_55 (by decide) (k := kz)) ?_
  refine WQ.st (fun _ _ kz => pw_iload1 dX12_goesDrawn_57 kz) ?_
  refine WQ.st (fun _ _ kz => pw_iconst (v := 4) dX12_goesDrawn_58 (by decide) kz) ?_
  refine WQ.bn (fun _ _ ka kb => pw_icmp_ne (tgt := 85) dX12_goesDrawn_59 (by decide) ka kb) (fun c59 => ?_) (fun c59 => absurd c59 (by rw [nl_4, nI_eq (by omega) (by decide)]; exact h4))
  refine WQ.st (fun _ _ kz => pw_iload1 dX12_goesDrawn_85 kz) ?_
  refine WQ.st (fun _ _ kz => pw_iconst (v := 3) dX12_goesDrawn_86 (by decide) kz) ?_
  refine WQ.bn (fun _ _ ka kb => pw_icmp_ne (tgt := 110) dX12_goesDrawn_87 (by decide) ka kb) (fun c87 => ?_) (fun c87 => absurd c87 (by rw [nl_3, nI_eq (by omega) (by decide)]; exact h3))
  refine WQ.st (fun _ _ kz => pw_bipush (v := 100) dX12_goesDrawn_110 (by decide) kz) ?_
  refine WQ.st (fun _ _ kz => pw_iload1 dX12_goesDrawn_112 kz) ?_
  refine WQ.st (fun _ _ kz => pw_iconst (v := 1) dX12_goesDrawn_113 (by decide) kz) ?_
  refine WQ.st (fun _ _ kz => pw_isub dX12_goesDrawn_114 kz) ?_
  rw [nl_1, pk_sub (by omega)]
  refine WQ.st (fun _ _ kz => pw_imul dX12_goesDrawn_115 kz) ?_
  refine WQ.st (fun _ _ kz => pw_bipush (v := 10) dX12_goesDrawn_116 (by decide) kz) ?_
  refine WQ.st (fun _ _ kz => pw_iload2 dX12_goesDrawn_118 kz) ?_
  refine WQ.st (fun _ _ kz => pw_imul dX12_goesDrawn_119 kz) ?_
  refine WQ.st (fun _ _ kz => pw_iadd dX12_goesDrawn_120 kz) ?_
  refine WQ.st (fun _ _ kz => pw_iload3 dX12_goesDrawn_121 kz) ?_
  refine WQ.st (fun _ _ kz => pw_iadd dX12_goesDrawn_122 kz) ?_
  simp only [nl_100, nl_10, pk_mul, nI_add]
  refine WQ.st (fun _ _ kz => pw_istore5 dX12_goesDrawn_123 (by decide) (k := kz)) ?_
  refine WQ.st (fun _ _ kz => pw_aload0 dX12_goesDrawn_125 kz) ?_
  refine WQ.st (fun _ _ kz => pw_iload5 dX12_goesDrawn_126 kz) ?_
  refine WQ.st (fun _ _ kz => pw_i2l dX12_goesDrawn_128 kz) ?_
  obtain ⟨_, _, k3, rfl, V3, A3, rfl, f1, f2, f3⟩ := c_whyNot (d := d) (P := P) (S := S) (G := G) (V := (up2 V o 27 (dx (dx (dx (V o 27)))))) (A := A) (B := B) (Q := Q) (t := t) (sl := sl) hF hD hK (nI (100 * (dw (V o 27) 5 - 1) + 10 * dw (dx (V o 27)) 5 + dw (dx (dx (V o 27))) 5)).toInt64
  rw [il_t, nI_toInt (by omega)] at k3 f3
  refine WQ.st (fun _ _ kz => pw_o1i wX12_whyNot lX12_378 rfl dX12_goesDrawn_129 hF.1 (k3) rfl (Nat.le_of_ble_eq_true rfl) (Nat.le_of_ble_eq_true rfl) kz) ?_
  refine WQ.br (fun _ _ ka kb => pw_if_eq (tgt := 137) dX12_goesDrawn_132 (by decide) ka kb) (fun c132 => ?_) (fun c132 => ?_)
  · refine WQ.st (fun _ _ kz => pw_aload0 dX12_goesDrawn_137 kz) ?_
    refine WQ.st (fun _ _ kz => pw_iload5 dX12_goesDrawn_138 kz) ?_
    have hal : A3 (o + 1) = A (o + 1) := f1 _ (by omega)
    obtain ⟨_, _, k4, rfl, V4, A4, rfl, g1, g2⟩ := c_acts (d := d) (P := P) (S := S) (G := G) (V := V3) (A := A3) (B := B) (Q := Q) (t := t) (sl := sl) hF (by rw [hal]; exact hD) (by rw [hal]; exact hK) (nI (100 * (dw (V o 27) 5 - 1) + 10 * dw (dx (V o 27)) 5 + dw (dx (dx (V o 27))) 5)) (by rw [hal, nI_toInt (by omega)]; exact c132) (by rw [hal, nI_toInt (by omega)]; exact fun q1 q2 => f3 q1 q2 c132)
    rw [hal, nI_toInt (by omega)] at g2
    refine WQ.st (fun _ _ kz => pw_o1v wX12_acts lX12_382 rfl dX12_goesDrawn_140 hF.1 (k4) rfl (Nat.le_of_ble_eq_true rfl) (Nat.le_of_ble_eq_true rfl) kz) ?_
    refine WQ.st (fun _ _ kz => pw_iconst (v := 1) dX12_goesDrawn_143 (by decide) kz) ?_
    refine ⟨_, _, pw_iret dX12_goesDrawn_144 rfl rfl rfl rfl, ?_⟩
    rw [show ddV (A (o + 1)) ((100 * (dw (V o 27) 5 - 1) + 10 * dw (dx (V o 27)) 5 + dw (dx (dx (V o 27))) 5 : Nat) : Int) = (true, sp_act (A (o + 1)) ((100 * (dw (V o 27) 5 - 1) + 10 * dw (dx (V o 27)) 5 + dw (dx (dx (V o 27))) 5 : Nat) : Int)) by unfold ddV; rw [if_pos c132]]
    exact ⟨rfl, V4, A4, rfl, ((FP.up (by decide)).tr f2.FP).tr g1.FP, by rw [g1.2 27 (by decide) (by decide) (by decide) (by decide) (by decide), f2.2 27 (by decide) (by decide) (by decide) (by decide) (by decide), up2_eq], (f1.app _).tr g2⟩
  · refine WQ.st (fun _ _ kz => pw_iconst (v := 0) dX12_goesDrawn_135 (by decide) kz) ?_
    refine ⟨_, _, pw_iret dX12_goesDrawn_136 rfl rfl rfl rfl, ?_⟩
    rw [show ddV (A (o + 1)) ((100 * (dw (V o 27) 5 - 1) + 10 * dw (dx (V o 27)) 5 + dw (dx (dx (V o 27))) 5 : Nat) : Int) = (false, A (o + 1)) by unfold ddV; rw [if_neg c132]]
    exact ⟨rfl, V3, A3, rfl, (FP.up (by decide)).tr f2.FP, by rw [f2.2 27 (by decide) (by decide) (by decide) (by decide) (by decide), up2_eq], by rw [pm_up_self]; exact f1⟩
