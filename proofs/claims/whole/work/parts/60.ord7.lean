/-! ===== the reference: mostPieces ===== -/
def mpL (O : Nat → Int32) : Nat → Nat → Int32 → Int32
  | 0, _, b => b
  | m + 1, set, b => if O set ≠ -268435456 ∧ rf_bits b 0 0 10 < rf_bits (nI set) 0 0 10 then mpL O m (set + 1) (nI set) else mpL O m (set + 1) b
def sp_mp (al : Nat → Int32) (x : Int) (g : Int32) : Int32 := if isP al x then (if isS g.toInt then mpL (ogT al x.toNat g) (2 ^ nP al - 1) 1 0 else -99000003) else -99000002
set_option maxRecDepth 20000 in
theorem l_mp {G : gT} {d : Nat} {S : sS} {V : sV} {P : sP} {A : sV} {B : sB} {Q : sP} {t sl o : Nat} (hF : MF S P o) {N p s0 : Nat} {x2 : Int32} {O : Nat → Int32} (hN4 : N ≤ 4) (hp : p < 5) (hs0 : s0 < 41) (hN : A (o + 1) 1 = nI N) (hst : A (o + 1) (77 + p) = sI s0) (hL : ∀ set, set < 2 ^ N → A (o + 15) (41 * set + s0) = O set) : ∀ (m set : Nat) (b : Int32), set + m = 2 ^ N → WQ G (d + 1) mX12_mostPieces 43 [some (.ref o), some (.int (nI p)), some (.int x2), some (.int b), some (.int (nI set))] [] (t, sl, gh S V P A B Q) (fun r h' => r = some (.int (mpL O m set b)) ∧ h' = (t, sl, gh S V P A B Q)) := by
  have h16 := pow_N hN4
  intro m
  induction m with
  | zero =>
    intro set b hk
    have hk : set = 2 ^ N := hk
    subst hk
    refine WQ.st (fun _ _ kz => pw_iload4 dX12_mostPieces_43 kz) ?_
    refine WQ.st (fun _ _ kz => pw_iconst (v := 1) dX12_mostPieces_45 (by decide) kz) ?_
    refine WQ.st (fun _ _ kz => pw_aload0 dX12_mostPieces_46 kz) ?_
    refine WQ.st (fun _ _ kz => pw_getr gX12_13 dX12_mostPieces_47 hF.1 (mf_p1 hF) kz) ?_
    refine WQ.st (fun _ _ kz => pw_iconst (v := 1) dX12_mostPieces_50 (by decide) kz) ?_
    refine WQ.st (fun _ _ kz => pw_ald (j := 1) dX12_mostPieces_51 (mf_s1 hF) rfl (by omega) kz) ?_
    rw [hN]
    refine WQ.st (fun _ _ kz => pw_ishl dX12_mostPieces_52 kz) ?_
    rw [shl_N _ (by omega)]
    refine WQ.br (fun _ _ ka kb => pw_icmp_ge (tgt := 106) dX12_mostPieces_53 (by decide) ka kb) (fun c53 => ?_) (fun c53 => absurd (Int32.le_refl _) c53)
    refine WQ.st (fun _ _ kz => pw_iload3 dX12_mostPieces_106 kz) ?_
    refine ⟨_, _, pw_iret dX12_mostPieces_107 rfl rfl rfl rfl, ?_⟩
    exact ⟨rfl, rfl⟩
  | succ m ih =>
    intro set b hk
    have esum : nI (41 * set) + sI s0 + 20 = nI (41 * set + s0) := by
      unfold sI
      rw [show (20 : Int32) = iI 20 from rfl, iI_nat, iI_nat, iI_add, iI_add]
      congr 1
      omega
    refine WQ.st (fun _ _ kz => pw_iload4 dX12_mostPieces_43 kz) ?_
    refine WQ.st (fun _ _ kz => pw_iconst (v := 1) dX12_mostPieces_45 (by decide) kz) ?_
    refine WQ.st (fun _ _ kz => pw_aload0 dX12_mostPieces_46 kz) ?_
    refine WQ.st (fun _ _ kz => pw_getr gX12_13 dX12_mostPieces_47 hF.1 (mf_p1 hF) kz) ?_
    refine WQ.st (fun _ _ kz => pw_iconst (v := 1) dX12_mostPieces_50 (by decide) kz) ?_
    refine WQ.st (fun _ _ kz => pw_ald (j := 1) dX12_mostPieces_51 (mf_s1 hF) rfl (by omega) kz) ?_
    rw [hN]
    refine WQ.st (fun _ _ kz => pw_ishl dX12_mostPieces_52 kz) ?_
    rw [shl_N _ (by omega)]
    refine WQ.br (fun _ _ ka kb => pw_icmp_ge (tgt := 106) dX12_mostPieces_53 (by decide) ka kb) (fun c53 => absurd c53 (by rw [le_i (ix_n (j := 2 ^ N) (by omega)) (ix_n (j := set) (by omega))]; omega)) (fun c53 => ?_)
    refine WQ.st (fun _ _ kz => pw_aload0 dX12_mostPieces_56 kz) ?_
    refine WQ.st (fun _ _ kz => pw_getr gX12_61 dX12_mostPieces_57 hF.1 (mf_p31 hF) kz) ?_
    refine WQ.st (fun _ _ kz => pw_bipush (v := 41) dX12_mostPieces_60 (by decide) kz) ?_
    refine WQ.st (fun _ _ kz => pw_iload4 dX12_mostPieces_62 kz) ?_
    refine WQ.st (fun _ _ kz => pw_imul dX12_mostPieces_64 kz) ?_
    rw [nl_41, pk_mul]
    refine WQ.st (fun _ _ kz => pw_aload0 dX12_mostPieces_65 kz) ?_
    refine WQ.st (fun _ _ kz => pw_getr gX12_13 dX12_mostPieces_66 hF.1 (mf_p1 hF) kz) ?_
    refine WQ.st (fun _ _ kz => pw_bipush (v := 77) dX12_mostPieces_69 (by decide) kz) ?_
    refine WQ.st (fun _ _ kz => pw_iload1 dX12_mostPieces_71 kz) ?_
    refine WQ.st (fun _ _ kz => pw_iadd dX12_mostPieces_72 kz) ?_
    refine WQ.st (fun _ _ kz => pw_ald (j := 77 + p) dX12_mostPieces_73 (mf_s1 hF) (by simp (disch := omega) only [nl_77, nI_add, pk_mul, pk_sub]; exact ix_m (by omega) (by omega)) (by omega) kz) ?_
    rw [hst]
    refine WQ.st (fun _ _ kz => pw_iadd dX12_mostPieces_74 kz) ?_
    refine WQ.st (fun _ _ kz => pw_bipush (v := 20) dX12_mostPieces_75 (by decide) kz) ?_
    refine WQ.st (fun _ _ kz => pw_iadd dX12_mostPieces_77 kz) ?_
    rw [esum]
    refine WQ.st (fun _ _ kz => pw_ald (j := 41 * set + s0) dX12_mostPieces_78 (mf_s15 hF) (ix_n (by omega)) (by omega) kz) ?_
    rw [hL set (by omega)]
    refine WQ.st (fun _ _ kz => pw_ldcw kX12_273 dX12_mostPieces_79 kz) ?_
    refine WQ.br (fun _ _ ka kb => pw_icmp_eq (tgt := 100) dX12_mostPieces_82 (by decide) ka kb) (fun c82 => ?_) (fun c82 => ?_)
    · refine WQ.st (fun _ _ kz => pw_iinc4 (v := 1) dX12_mostPieces_100 (by decide) (by decide) (k := kz)) ?_
      refine WQ.st (fun _ _ kz => pw_goto (tgt := 43) dX12_mostPieces_103 (by decide) kz) ?_
      rw [nI_1]
      refine (ih (set + 1) b (by omega)).imp (fun r h' z => ?_)
      rw [mpL, if_neg (fun q => q.1 c82)]
      exact z
    · refine WQ.st (fun _ _ kz => pw_iload4 dX12_mostPieces_85 kz) ?_
      refine WQ.st (fun _ _ kz => pw_s1i wX12_bitsOf lX12_470 dX12_mostPieces_87 (c_bitsOf _) rfl (Nat.le_of_ble_eq_true rfl) (Nat.le_of_ble_eq_true rfl) kz) ?_
      refine WQ.st (fun _ _ kz => pw_iload3 dX12_mostPieces_90 kz) ?_
      refine WQ.st (fun _ _ kz => pw_s1i wX12_bitsOf lX12_470 dX12_mostPieces_91 (c_bitsOf _) rfl (Nat.le_of_ble_eq_true rfl) (Nat.le_of_ble_eq_true rfl) kz) ?_
      refine WQ.br (fun _ _ ka kb => pw_icmp_le (tgt := 100) dX12_mostPieces_94 (by decide) ka kb) (fun c94 => ?_) (fun c94 => ?_)
      · refine WQ.st (fun _ _ kz => pw_iinc4 (v := 1) dX12_mostPieces_100 (by decide) (by decide) (k := kz)) ?_
        refine WQ.st (fun _ _ kz => pw_goto (tgt := 43) dX12_mostPieces_103 (by decide) kz) ?_
        rw [nI_1]
        refine (ih (set + 1) b (by omega)).imp (fun r h' z => ?_)
        rw [mpL, if_neg (fun q => absurd q.2 (Int32.not_lt.mpr c94))]
        exact z
      · refine WQ.st (fun _ _ kz => pw_iload4 dX12_mostPieces_97 kz) ?_
        refine WQ.st (fun _ _ kz => pw_istore3 dX12_mostPieces_99 (by decide) (k := kz)) ?_
        refine WQ.st (fun _ _ kz => pw_iinc4 (v := 1) dX12_mostPieces_100 (by decide) (by decide) (k := kz)) ?_
        refine WQ.st (fun _ _ kz => pw_goto (tgt := 43) dX12_mostPieces_103 (by decide) kz) ?_
        rw [nI_1]
        refine (ih (set + 1) (nI set) (by omega)).imp (fun r h' z => ?_)
        rw [mpL, if_pos ⟨c82, Int32.not_le.mp c94⟩]
        exact z
set_option maxRecDepth 20000 in
theorem p_mostPieces {G : gT} {d : Nat} {S : sS} {V : sV} {P : sP} {A : sV} {B : sB} {Q : sP} {t sl o : Nat} (hF : MF S P o) (hA : AV (A (o + 1)))  (x g : Int32) : WQ G (d + 9) mX12_mostPieces 0 [some (.ref o), some (.int x), some (.int g), none, none] [] (t, sl, gh S V P A B Q) (PZ o S P Q t sl V A B (.int (sp_mp (A (o + 1)) x.toInt g)) (A (o + 1))) := by
  refine WQ.st (fun _ _ kz => pw_aload0 dX12_mostPieces_0 kz) ?_
  refine WQ.st (fun _ _ kz => pw_iconst (v := 0) dX12_mostPieces_1 (by decide) kz) ?_
  refine WQ.st (fun _ _ kz => pw_puti (pX12_1 _ rfl) dX12_mostPieces_2 hF.1 rfl rfl kz) ?_
  refine WQ.st (fun _ _ kz => pw_aload0 dX12_mostPieces_5 kz) ?_
  refine WQ.st (fun _ _ kz => pw_iload1 dX12_mostPieces_6 kz) ?_
  refine WQ.st (fun _ _ kz => pw_i2l dX12_mostPieces_7 kz) ?_
  refine WQ.st (fun _ _ kz => pw_o1i wX12_isPlayer lX12_244 rfl dX12_mostPieces_8 hF.1 (c_isPlayer hF hA.dv _) rfl (Nat.le_of_ble_eq_true rfl) (Nat.le_of_ble_eq_true rfl) kz) ?_
  refine WQ.bn (fun _ _ ka kb => pw_if_ne (tgt := 17) dX12_mostPieces_11 (by decide) ka kb) (fun c11 => ?_) (fun c11 => ?_)
  · rw [bI_n] at c11
    rw [il_t] at c11
    have hp5 := hA.dv.p5
    have hn4 := hA.dv.n4
    have hNP : A (o + 1) 1 = nI (nP (A (o + 1))) := nI_ofI hn4.1
    have hN4 : nP (A (o + 1)) ≤ 4 := by unfold nP; omega
    have g1 := isP_t c11
    obtain ⟨p, ep, tp, lp⟩ := nI_get g1.1 g1.2 (by omega)
    have hp : p < 5 := by omega
    have hst := hA.kv.stE hp
    refine WQ.st (fun _ _ kz => pw_iload2 dX12_mostPieces_17 kz) ?_
    refine WQ.st (fun _ _ kz => pw_i2l dX12_mostPieces_18 kz) ?_
    refine WQ.st (fun _ _ kz => pw_s1i wX12_isStore lX12_240 dX12_mostPieces_19 (c_isStoreI _) rfl (Nat.le_of_ble_eq_true rfl) (Nat.le_of_ble_eq_true rfl) kz) ?_
    refine WQ.bn (fun _ _ ka kb => pw_if_ne (tgt := 28) dX12_mostPieces_22 (by decide) ka kb) (fun c22 => ?_) (fun c22 => ?_)
    · rw [bI_n] at c22
      rw [il_t] at c22
      rw [ep]
      refine WQ.st (fun _ _ kz => pw_aload0 dX12_mostPieces_28 kz) ?_
      refine WQ.st (fun _ _ kz => pw_iload1 dX12_mostPieces_29 kz) ?_
      obtain ⟨_, _, k1, rfl, A1, rfl, f1, f2⟩ := c_laysThrough (d := d + 3) (P := P) (S := S) (G := G) (V := (up2 V o 0 0)) (A := A) (B := B) (Q := Q) (t := t) (sl := sl) hF rfl hA.dv hp
      have hal1 : A1 (o + 1) = A (o + 1) := f1 _ (by omega)
      refine WQ.st (fun _ _ kz => pw_o1v wX12_laysThrough lX12_461 rfl dX12_mostPieces_30 hF.1 (k1) rfl (Nat.le_of_ble_eq_true rfl) (Nat.le_of_ble_eq_true rfl) kz) ?_
      refine WQ.st (fun _ _ kz => pw_aload0 dX12_mostPieces_33 kz) ?_
      refine WQ.st (fun _ _ kz => pw_iload2 dX12_mostPieces_34 kz) ?_
      obtain ⟨_, _, k2, rfl, A2, rfl, f3⟩ := c_laysOrders (d := d + 6) (P := P) (S := S) (G := G) (V := (up2 (up2 V o 0 0) o 24 0)) (A := A1) (B := B) (Q := Q) (t := t) (sl := sl) hF (g := g) hN4 (by rw [hal1]; exact hNP) (th := thT (A (o + 1)) p) (fun q f u hq hf hu => f2 q f u hf hu (by unfold nP at hq; omega))
      have hal2 : A2 (o + 1) = A (o + 1) := (f3.1 _ (by omega)).trans hal1
      have hfr : FQ o A A2 := fun a ha => by rw [f3.1 a (by omega), f1 a (by omega)]
      have hfp : FP o V (up2 (up2 V o 0 0) o 24 0) := (FP.up (by decide)).tr (FP.up (by decide))
      refine WQ.st (fun _ _ kz => pw_o1v wX12_laysOrders lX12_464 rfl dX12_mostPieces_35 hF.1 (k2) rfl (Nat.le_of_ble_eq_true rfl) (Nat.le_of_ble_eq_true rfl) kz) ?_
      refine WQ.st (fun _ _ kz => pw_iconst (v := 0) dX12_mostPieces_38 (by decide) kz) ?_
      refine WQ.st (fun _ _ kz => pw_istore3 dX12_mostPieces_39 (by decide) (k := kz)) ?_
      refine WQ.st (fun _ _ kz => pw_iconst (v := 1) dX12_mostPieces_40 (by decide) kz) ?_
      refine WQ.st (fun _ _ kz => pw_istore4 dX12_mostPieces_41 (by decide) (k := kz)) ?_
      refine (l_mp (d := d + 8) (P := P) (S := S) (G := G) (V := (up2 (up2 V o 0 0) o 24 0)) (A := A2) (B := B) (Q := Q) (t := t) (sl := sl) hF hN4 hp hst.2 (by rw [hal2]; exact hNP) (by rw [hal2]; exact hst.1) (O := ogT (A (o + 1)) p g) (x2 := g) (fun set hs => f3.2 set _ hst.2 (by have := hst.2; omega)) (2 ^ nP (A (o + 1)) - 1) 1 0 (by have : 0 < 2 ^ nP (A (o + 1)) := Nat.pow_pos (by decide); omega)).imp (fun r h' z => ?_)
      obtain ⟨rfl, rfl⟩ := z
      have c0 : sp_mp (A (o + 1)) x.toInt g = mpL (ogT (A (o + 1)) p g) (2 ^ nP (A (o + 1)) - 1) 1 0 := by unfold sp_mp; rw [if_pos c11, if_pos c22, tp, Int.toNat_natCast]
      rw [← ep, c0]
      exact PZ.q hfp hfr FB.rfl
    · rw [bI_0] at c22
      rw [il_t] at c22
      refine WQ.st (fun _ _ kz => pw_ldc kX12_206 dX12_mostPieces_25 kz) ?_
      refine ⟨_, _, pw_iret dX12_mostPieces_27 rfl rfl rfl rfl, ?_⟩
      have c0 : sp_mp (A (o + 1)) x.toInt g = -99000003 := by unfold sp_mp; rw [if_pos c11, if_neg (by rw [c22]; decide)]
      rw [c0]
      exact PZ.q (FP.up (by decide)) FQ.rfl FB.rfl
  · rw [bI_0] at c11
    rw [il_t] at c11
    refine WQ.st (fun _ _ kz => pw_ldc kX12_247 dX12_mostPieces_14 kz) ?_
    refine ⟨_, _, pw_iret dX12_mostPieces_16 rfl rfl rfl rfl, ?_⟩
    have c0 : sp_mp (A (o + 1)) x.toInt g = -99000002 := by unfold sp_mp; rw [if_neg (by rw [c11]; decide)]
    rw [c0]
    exact PZ.q (FP.up (by decide)) FQ.rfl FB.rfl
