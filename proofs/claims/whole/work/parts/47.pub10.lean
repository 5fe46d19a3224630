/-! ===== the reference: lends, reply ===== -/
set_option maxRecDepth 20000 in
theorem p_lends {G : gT} {d : Nat} {S : sS} {V : sV} {P : sP} {A : sV} {B : sB} {Q : sP} {t sl o : Nat} (hF : MF S P o) (hA : AV (A (o + 1)))  (x y z w : Int32) : WQ G (d + 9) mX12_lends 0 [some (.ref o), some (.int x), some (.int y), some (.int z), some (.int w), none, none, none, none, none, none] [] (t, sl, gh S V P A B Q) (PZ o S P Q t sl V A B (.int (sp_lds (A (o + 1)) x.toInt y.toInt z.toInt w.toInt)) (A (o + 1))) := by
  refine WQ.st (fun _ _ kz => pw_aload0 dX12_lends_0 kz) ?_
  refine WQ.st (fun _ _ kz => pw_iconst (v := 0) dX12_lends_1 (by decide) kz) ?_
  refine WQ.st (fun _ _ kz => pw_puti (pX12_1 _ rfl) dX12_lends_2 hF.1 rfl rfl kz) ?_
  refine WQ.st (fun _ _ kz => pw_aload0 dX12_lends_5 kz) ?_
  refine WQ.st (fun _ _ kz => pw_iload1 dX12_lends_6 kz) ?_
  refine WQ.st (fun _ _ kz => pw_iload2 dX12_lends_7 kz) ?_
  obtain ⟨_, _, k8, rfl, rfl⟩ := c_areBoth (d := d + 6) (P := P) (S := S) (G := G) (V := (up2 V o 0 0)) (A := A) (B := B) (Q := Q) (t := t) (sl := sl) hF hA.dv x y
  refine WQ.st (fun _ _ kz => pw_o2i wX12_areBoth lX12_413 rfl dX12_lends_8 hF.1 (k8) rfl (Nat.le_of_ble_eq_true rfl) (Nat.le_of_ble_eq_true rfl) kz) ?_
  refine WQ.br (fun _ _ ka kb => pw_if_eq (tgt := 29) dX12_lends_11 (by decide) ka kb) (fun c11 => ?_) (fun c11 => ?_)
  · rw [bI_0] at c11
    refine WQ.st (fun _ _ kz => pw_ldc kX12_247 dX12_lends_29 kz) ?_
    refine ⟨_, _, pw_iret dX12_lends_31 rfl rfl rfl rfl, ?_⟩
    have c0 : sp_lds (A (o + 1)) x.toInt y.toInt z.toInt w.toInt = -99000002 := by unfold sp_lds; rw [c11, Bool.false_and, if_neg (by decide)]
    rw [c0]
    exact PZ.q (FP.up (by decide)) FQ.rfl FB.rfl
  · rw [bI_n] at c11
    have hb11 := Bool.and_eq_true _ _ |>.mp c11
    have hp5 := hA.dv.p5
    have hn4 := hA.dv.n4
    have g1p := isP_t hb11.1
    have g2q := isQ_t hb11.2
    obtain ⟨p, ep, tp, lp⟩ := nI_get g1p.1 g1p.2 (by omega)
    obtain ⟨q, eq, tq, lq⟩ := nI_get g2q.1 g2q.2 (by omega)
    have hp : p < 5 := by omega
    have hq : q < 4 := by omega
    
    refine WQ.st (fun _ _ kz => pw_aload0 dX12_lends_14 kz) ?_
    refine WQ.st (fun _ _ kz => pw_iload3 dX12_lends_15 kz) ?_
    refine WQ.st (fun _ _ kz => pw_iload4 dX12_lends_16 kz) ?_
    obtain ⟨_, _, k18, rfl, rfl⟩ := c_areBoth (d := d + 6) (P := P) (S := S) (G := G) (V := (up2 V o 0 0)) (A := A) (B := B) (Q := Q) (t := t) (sl := sl) hF hA.dv z w
    refine WQ.st (fun _ _ kz => pw_o2i wX12_areBoth lX12_413 rfl dX12_lends_18 hF.1 (k18) rfl (Nat.le_of_ble_eq_true rfl) (Nat.le_of_ble_eq_true rfl) kz) ?_
    refine WQ.br (fun _ _ ka kb => pw_if_eq (tgt := 29) dX12_lends_21 (by decide) ka kb) (fun c21 => ?_) (fun c21 => ?_)
    · rw [bI_0] at c21
      refine WQ.st (fun _ _ kz => pw_ldc kX12_247 dX12_lends_29 kz) ?_
      refine ⟨_, _, pw_iret dX12_lends_31 rfl rfl rfl rfl, ?_⟩
      have c0 : sp_lds (A (o + 1)) x.toInt y.toInt z.toInt w.toInt = -99000002 := by unfold sp_lds; rw [c21, Bool.false_and, Bool.and_false, if_neg (by decide)]
      rw [c0]
      exact PZ.q (FP.up (by decide)) FQ.rfl FB.rfl
    · rw [bI_n] at c21
      have hb21 := Bool.and_eq_true _ _ |>.mp c21
      have hp5 := hA.dv.p5
      have hn4 := hA.dv.n4
      have g1r := isP_t hb21.1
      have g2u := isQ_t hb21.2
      obtain ⟨r, er, tr, lr⟩ := nI_get g1r.1 g1r.2 (by omega)
      obtain ⟨u, eu, tu, lu⟩ := nI_get g2u.1 g2u.2 (by omega)
      have hr : r < 5 := by omega
      have hu : u < 4 := by omega
      
      refine WQ.st (fun _ _ kz => pw_iload1 dX12_lends_24 kz) ?_
      refine WQ.st (fun _ _ kz => pw_iload3 dX12_lends_25 kz) ?_
      refine WQ.bn (fun _ _ ka kb => pw_icmp_ne (tgt := 32) dX12_lends_26 (by decide) ka kb) (fun c26 => ?_) (fun c26 => ?_)
      · have cxz : x.toInt ≠ z.toInt := fun q => c26 (Int32.toInt_inj.mp q)
        rw [ep, eq, er, eu]
        refine WQ.st (fun _ _ kz => pw_aload0 dX12_lends_32 kz) ?_
        refine WQ.st (fun _ _ kz => pw_iload1 dX12_lends_33 kz) ?_
        refine WQ.st (fun _ _ kz => pw_iload2 dX12_lends_34 kz) ?_
        refine WQ.st (fun _ _ kz => pw_iconst (v := 0) dX12_lends_35 (by decide) kz) ?_
        obtain ⟨V2, A2, k2, b1, b2, b4⟩ := q_laysBestB (d := d + 3) (P := P) (S := S) (G := G) (V := (up2 V o 0 0)) (A := A) (B := B) (Q := Q) (t := t) (sl := sl) hF hA.dv hA.kv hp hq 0
        refine WQ.st (fun _ _ kz => pw_o3i wX12_laysBest lX12_323 rfl dX12_lends_36 hF.1 (k2) rfl (Nat.le_of_ble_eq_true rfl) (Nat.le_of_ble_eq_true rfl) kz) ?_
        refine WQ.st (fun _ _ kz => pw_pop dX12_lends_39 rfl kz) ?_
        refine WQ.st (fun _ _ kz => pw_iconst (v := 0) dX12_lends_40 (by decide) kz) ?_
        refine WQ.st (fun _ _ kz => pw_istore5 dX12_lends_41 (by decide) (k := kz)) ?_
        exact l_lends1 (S := S) (P := P) (G := G) (V := V2) (B := B) (Q := Q) (t := t) (sl := sl) (d := d + 8) (x1 := nI p) (x2 := nI q) (x3 := nI r) (x4 := nI u) hF (A0 := A2) (fun A3 hC => by
          refine WQ.st (fun _ _ kz => pw_aload0 dX12_lends_78 kz) ?_
          refine WQ.st (fun _ _ kz => pw_iload3 dX12_lends_79 kz) ?_
          refine WQ.st (fun _ _ kz => pw_iload4 dX12_lends_80 kz) ?_
          refine WQ.st (fun _ _ kz => pw_iconst (v := 0) dX12_lends_82 (by decide) kz) ?_
          have hal3 : A3 (o + 1) = A (o + 1) := by rw [hC.1 _ (by omega), b1 _ (by omega)]
          obtain ⟨V4, A4, k4, d1, d2, d4⟩ := q_laysBestB (d := d + 3) (P := P) (S := S) (G := G) (V := V2) (A := A3) (B := B) (Q := Q) (t := t) (sl := sl) hF (by rw [hal3]; exact hA.dv) (by rw [hal3]; exact hA.kv) hr hu 0
          rw [hal3] at d4
          have hal4 : A4 (o + 1) = A (o + 1) := by rw [d1 _ (by omega), hal3]
          refine WQ.st (fun _ _ kz => pw_o3i wX12_laysBest lX12_323 rfl dX12_lends_83 hF.1 (k4) rfl (Nat.le_of_ble_eq_true rfl) (Nat.le_of_ble_eq_true rfl) kz) ?_
          refine WQ.st (fun _ _ kz => pw_pop dX12_lends_86 rfl kz) ?_
          refine WQ.st (fun _ _ kz => pw_iconst (v := -1) dX12_lends_87 (by decide) kz) ?_
          refine WQ.st (fun _ _ kz => pw_istore5 dX12_lends_88 (by decide) (k := kz)) ?_
          refine WQ.st (fun _ _ kz => pw_ldcw kX12_273 dX12_lends_90 kz) ?_
          refine WQ.st (fun _ _ kz => pw_istore6 dX12_lends_93 (by decide) (k := kz)) ?_
          refine WQ.st (fun _ _ kz => pw_iconst (v := 0) dX12_lends_95 (by decide) kz) ?_
          refine WQ.st (fun _ _ kz => pw_istore7 dX12_lends_96 (by decide) (k := kz)) ?_
          refine (l_lends2 (d := d + 6) (P := P) (S := S) (G := G) (V := V4) (A := A4) (B := B) (Q := Q) (t := t) (sl := sl) hF hp hr (hA.kv.stE hp).2 (hA.kv.stE hr).2 (by rw [hal4]; exact (hA.kv.stE hp).1) (by rw [hal4]; exact (hA.kv.stE hr).1) (T1 := lsT (A (o + 1)) p q) (T2 := lsT (A (o + 1)) r u) (fun s hs => by
            rw [d1 _ (by omega), hC.2, if_pos (by omega), show s - 0 + 82 = 82 + s by omega]
            exact b4 s hs) (fun s hs => d4 s hs) (x2 := nI q) (x4 := nI u) 41 0 (-1) (-268435456) _ _ _ rfl).imp (fun r_ h' z_ => ?_)
          obtain ⟨rfl, rfl⟩ := z_
          have c0 : sp_lds (A (o + 1)) x.toInt y.toInt z.toInt w.toInt = sp_ld (lsT (A (o + 1)) p q) (lsT (A (o + 1)) r u) (stN (A (o + 1)) p) (stN (A (o + 1)) r) 41 0 (-1) (-268435456) := by unfold sp_lds; rw [c11, c21, decide_eq_true cxz, if_pos (by rfl), tp, tq, tr, tu, Int.toNat_natCast, Int.toNat_natCast, Int.toNat_natCast, Int.toNat_natCast]
          rw [← ep, ← eq, ← er, ← eu, c0]
          exact PZ.q (((FP.up (by decide)).tr b2.FP).tr d2.FP) (fun a ha => by rw [d1 a (by omega), hC.1 a (by omega), b1 a (by omega)]) FB.rfl) 41 0 A2 rfl (CPY.zero _ _ _ _ _)
      · refine WQ.st (fun _ _ kz => pw_ldc kX12_247 dX12_lends_29 kz) ?_
        refine ⟨_, _, pw_iret dX12_lends_31 rfl rfl rfl rfl, ?_⟩
        have c0 : sp_lds (A (o + 1)) x.toInt y.toInt z.toInt w.toInt = -99000002 := by unfold sp_lds; rw [decide_eq_false (fun q : x.toInt ≠ z.toInt => q (by rw [c26])), Bool.and_false, Bool.and_false, if_neg (by decide)]
        rw [c0]
        exact PZ.q (FP.up (by decide)) FQ.rfl FB.rfl
def rpK (al : Nat → Int32) (p q b w : Nat) : Bool := rf_k (fun b => dI (bsS al p q 0 (b + 1)).1) 1 b w
def rpT (al : Nat → Int32) (p r q : Nat) : Int32 := rf_T (TT al r q) (rpK al p q) (lgN al q) (rf_e 0) (lgN al q) 2 (stN al r)
def rpS (al : Nat → Int32) (p r q b : Nat) : Nat × Nat := rf_st (TT al r q) (rpK al p q) (lgN al q) (rf_e 0) (stN al r) b
def sp_reply (al : Nat → Int32) (x y z w : Int) : Int32 := if isP al x && (isP al y && (decide (x ≠ y) && (isQ al z && isT w 1))) then (if bsT al x.toNat z.toNat 0 = -268435456 then -99000001 else sp_tr (decide (rpT al x.toNat y.toNat z.toNat ≠ -268435456)) (rpT al x.toNat y.toNat z.toNat) (sI (rpS al x.toNat y.toNat z.toNat (lgN al z.toNat)).2) (fun b => dI (rpS al x.toNat y.toNat z.toNat (b + 1)).1) (lgN al z.toNat) w) else -99000002
set_option maxRecDepth 20000 in
theorem l_reply {G : gT} {d : Nat} {S : sS} {V : sV} {P : sP} {B : sB} {Q : sP} {t sl o : Nat} (hF : MF S P o) {n q : Nat} {x1 x2 x4 : Int32} (hn12 : n ≤ 12) (hq : q < 4) {A0 : sV} (hn : A0 (o + 1) (10 + q) = nI n) {Z : Option Value → Ph → Prop} (kf : ∀ A : sV, CPY A0 (o + 10) (0) (o + 9) (0) (n) A → WQ G d mX12_reply 100 [some (.ref o), some (.int x1), some (.int x2), some (.int (nI q)), some (.int x4), some (.int (nI (n)))] [] (t, sl, gh S V P A B Q) Z) : ∀ (m k : Nat) (A : sV), k + m = n → CPY A0 (o + 10) (0) (o + 9) (0) k A → WQ G d mX12_reply 66 [some (.ref o), some (.int x1), some (.int x2), some (.int (nI q)), some (.int x4), some (.int (nI k))] [] (t, sl, gh S V P A B Q) Z := by
  intro m
  induction m with
  | zero =>
    intro k A hk hC
    have hk : k = n := hk
    subst hk
    have hln : A (o + 1) (10 + q) = nI k := by rw [hC.1 _ (by omega)]; exact hn
    refine WQ.st (fun _ _ kz => pw_iload5 dX12_reply_66 kz) ?_
    refine WQ.st (fun _ _ kz => pw_aload0 dX12_reply_68 kz) ?_
    refine WQ.st (fun _ _ kz => pw_getr gX12_13 dX12_reply_69 hF.1 (mf_p1 hF) kz) ?_
    refine WQ.st (fun _ _ kz => pw_bipush (v := 10) dX12_reply_72 (by decide) kz) ?_
    refine WQ.st (fun _ _ kz => pw_iload3 dX12_reply_74 kz) ?_
    refine WQ.st (fun _ _ kz => pw_iadd dX12_reply_75 kz) ?_
    refine WQ.st (fun _ _ kz => pw_ald (j := 10 + q) dX12_reply_76 (mf_s1 hF) (by simp (disch := omega) only [nl_10, nI_add, pk_mul, pk_sub]; exact ix_m (by omega) (by omega)) (by omega) kz) ?_
    rw [hln]
    refine WQ.br (fun _ _ ka kb => pw_icmp_ge (tgt := 100) dX12_reply_77 (by decide) ka kb) (fun c77 => ?_) (fun c77 => absurd (Int32.le_refl _) c77)
    exact kf A hC
  | succ m ih =>
    intro k A hk hC
    have kk := ih (k + 1) _ (by omega) (hC.step (Or.inl (by omega)))
    have hln : A (o + 1) (10 + q) = nI n := by rw [hC.1 _ (by omega)]; exact hn
    refine WQ.st (fun _ _ kz => pw_iload5 dX12_reply_66 kz) ?_
    refine WQ.st (fun _ _ kz => pw_aload0 dX12_reply_68 kz) ?_
    refine WQ.st (fun _ _ kz => pw_getr gX12_13 dX12_reply_69 hF.1 (mf_p1 hF) kz) ?_
    refine WQ.st (fun _ _ kz => pw_bipush (v := 10) dX12_reply_72 (by decide) kz) ?_
    refine WQ.st (fun _ _ kz => pw_iload3 dX12_reply_74 kz) ?_
    refine WQ.st (fun _ _ kz => pw_iadd dX12_reply_75 kz) ?_
    refine WQ.st (fun _ _ kz => pw_ald (j := 10 + q) dX12_reply_76 (mf_s1 hF) (by simp (disch := omega) only [nl_10, nI_add, pk_mul, pk_sub]; exact ix_m (by omega) (by omega)) (by omega) kz) ?_
    rw [hln]
    refine WQ.br (fun _ _ ka kb => pw_icmp_ge (tgt := 100) dX12_reply_77 (by decide) ka kb) (fun c77 => absurd c77 (by rw [le_i (ix_n (j := n) (by omega)) (ix_n (j := k) (by omega))]; omega)) (fun c77 => ?_)
    refine WQ.st (fun _ _ kz => pw_aload0 dX12_reply_80 kz) ?_
    refine WQ.st (fun _ _ kz => pw_getr gX12_45 dX12_reply_81 hF.1 (mf_p23 hF) kz) ?_
    refine WQ.st (fun _ _ kz => pw_iload5 dX12_reply_84 kz) ?_
    refine WQ.st (fun _ _ kz => pw_aload0 dX12_reply_86 kz) ?_
    refine WQ.st (fun _ _ kz => pw_getr gX12_42 dX12_reply_87 hF.1 (mf_p19 hF) kz) ?_
    refine WQ.st (fun _ _ kz => pw_iload5 dX12_reply_90 kz) ?_
    refine WQ.st (fun _ _ kz => pw_ald (j := 0 + k) dX12_reply_92 (mf_s9 hF) (ix_m (by omega) (by omega)) (by omega) kz) ?_
    refine WQ.st (fun _ _ kz => pw_ast (j := 0 + k) dX12_reply_93 (mf_s10 hF) (ix_m (by omega) (by omega)) (by omega)  kz) ?_
    refine WQ.st (fun _ _ kz => pw_iinc5 (v := 1) dX12_reply_94 (by decide) (by decide) (k := kz)) ?_
    refine WQ.st (fun _ _ kz => pw_goto (tgt := 66) dX12_reply_97 (by decide) kz) ?_
    rw [nI_1]
    exact kk
set_option maxRecDepth 20000 in
theorem p_reply {G : gT} {d : Nat} {S : sS} {V : sV} {P : sP} {A : sV} {B : sB} {Q : sP} {t sl o : Nat} (hF : MF S P o) (hA : AV (A (o + 1)))  (x y z w : Int32) : WQ G (d + 9) mX12_reply 0 [some (.ref o), some (.int x), some (.int y), some (.int z), some (.int w), none] [] (t, sl, gh S V P A B Q) (PZ o S P Q t sl V A B (.int (sp_reply (A (o + 1)) x.toInt y.toInt z.toInt w.toInt)) (A (o + 1))) := by
  refine WQ.st (fun _ _ kz => pw_aload0 dX12_reply_0 kz) ?_
  refine WQ.st (fun _ _ kz => pw_iconst (v := 0) dX12_reply_1 (by decide) kz) ?_
  refine WQ.st (fun _ _ kz => pw_puti (pX12_1 _ rfl) dX12_reply_2 hF.1 rfl rfl kz) ?_
  refine WQ.st (fun _ _ kz => pw_aload0 dX12_reply_5 kz) ?_
  refine WQ.st (fun _ _ kz => pw_iload1 dX12_reply_6 kz) ?_
  refine WQ.st (fun _ _ kz => pw_i2l dX12_reply_7 kz) ?_
  refine WQ.st (fun _ _ kz => pw_o1i wX12_isPlayer lX12_244 rfl dX12_reply_8 hF.1 (c_isPlayer hF hA.dv _) rfl (Nat.le_of_ble_eq_true rfl) (Nat.le_of_ble_eq_true rfl) kz) ?_
  refine WQ.br (fun _ _ ka kb => pw_if_eq (tgt := 46) dX12_reply_11 (by decide) ka kb) (fun c11 => ?_) (fun c11 => ?_)
  · rw [bI_0] at c11
    rw [il_t] at c11
    refine WQ.st (fun _ _ kz => pw_ldc kX12_247 dX12_reply_46 kz) ?_
    refine ⟨_, _, pw_iret dX12_reply_48 rfl rfl rfl rfl, ?_⟩
    have c0 : sp_reply (A (o + 1)) x.toInt y.toInt z.toInt w.toInt = -99000002 := by unfold sp_reply; rw [c11, Bool.false_and, if_neg (by decide)]
    rw [c0]
    exact PZ.q (FP.up (by decide)) FQ.rfl FB.rfl
  · rw [bI_n] at c11
    rw [il_t] at c11
    refine WQ.st (fun _ _ kz => pw_aload0 dX12_reply_14 kz) ?_
    refine WQ.st (fun _ _ kz => pw_iload2 dX12_reply_15 kz) ?_
    refine WQ.st (fun _ _ kz => pw_i2l dX12_reply_16 kz) ?_
    refine WQ.st (fun _ _ kz => pw_o1i wX12_isPlayer lX12_244 rfl dX12_reply_17 hF.1 (c_isPlayer hF hA.dv _) rfl (Nat.le_of_ble_eq_true rfl) (Nat.le_of_ble_eq_true rfl) kz) ?_
    refine WQ.br (fun _ _ ka kb => pw_if_eq (tgt := 46) dX12_reply_20 (by decide) ka kb) (fun c20 => ?_) (fun c20 => ?_)
    · rw [bI_0] at c20
      rw [il_t] at c20
      refine WQ.st (fun _ _ kz => pw_ldc kX12_247 dX12_reply_46 kz) ?_
      refine ⟨_, _, pw_iret dX12_reply_48 rfl rfl rfl rfl, ?_⟩
      have c0 : sp_reply (A (o + 1)) x.toInt y.toInt z.toInt w.toInt = -99000002 := by unfold sp_reply; rw [c20, Bool.false_and, Bool.and_false, if_neg (by decide)]
      rw [c0]
      exact PZ.q (FP.up (by decide)) FQ.rfl FB.rfl
    · rw [bI_n] at c20
      rw [il_t] at c20
      refine WQ.st (fun _ _ kz => pw_iload1 dX12_reply_23 kz) ?_
      refine WQ.st (fun _ _ kz => pw_iload2 dX12_reply_24 kz) ?_
      refine WQ.br (fun _ _ ka kb => pw_icmp_eq (tgt := 46) dX12_reply_25 (by decide) ka kb) (fun c25 => ?_) (fun c25 => ?_)
      · refine WQ.st (fun _ _ kz => pw_ldc kX12_247 dX12_reply_46 kz) ?_
        refine ⟨_, _, pw_iret dX12_reply_48 rfl rfl rfl rfl, ?_⟩
        have c0 : sp_reply (A (o + 1)) x.toInt y.toInt z.toInt w.toInt = -99000002 := by unfold sp_reply; rw [decide_eq_false (fun q : x.toInt ≠ y.toInt => q (by rw [c25])), Bool.false_and, Bool.and_false, Bool.and_false, if_neg (by decide)]
        rw [c0]
        exact PZ.q (FP.up (by decide)) FQ.rfl FB.rfl
      · refine WQ.st (fun _ _ kz => pw_aload0 dX12_reply_28 kz) ?_
        refine WQ.st (fun _ _ kz => pw_iload3 dX12_reply_29 kz) ?_
        refine WQ.st (fun _ _ kz => pw_i2l dX12_reply_30 kz) ?_
        refine WQ.st (fun _ _ kz => pw_o1i wX12_isPiece lX12_248 rfl dX12_reply_31 hF.1 (c_isPiece hF hA.dv _) rfl (Nat.le_of_ble_eq_true rfl) (Nat.le_of_ble_eq_true rfl) kz) ?_
        refine WQ.br (fun _ _ ka kb => pw_if_eq (tgt := 46) dX12_reply_34 (by decide) ka kb) (fun c34 => ?_) (fun c34 => ?_)
        · rw [bI_0] at c34
          rw [il_t] at c34
          refine WQ.st (fun _ _ kz => pw_ldc kX12_247 dX12_reply_46 kz) ?_
          refine ⟨_, _, pw_iret dX12_reply_48 rfl rfl rfl rfl, ?_⟩
          have c0 : sp_reply (A (o + 1)) x.toInt y.toInt z.toInt w.toInt = -99000002 := by unfold sp_reply; rw [c34, Bool.false_and, Bool.and_false, Bool.and_false, Bool.and_false, if_neg (by decide)]
          rw [c0]
          exact PZ.q (FP.up (by decide)) FQ.rfl FB.rfl
        · rw [bI_n] at c34
          rw [il_t] at c34
          refine WQ.st (fun _ _ kz => pw_iload4 dX12_reply_37 kz) ?_
          refine WQ.st (fun _ _ kz => pw_iconst (v := 1) dX12_reply_39 (by decide) kz) ?_
          obtain ⟨_, _, k40, rfl, rfl⟩ := c_isTold (G := G) (d := d + 7) (h := (t, sl, gh S (up2 V o 0 0) P A B Q)) w 1
          refine WQ.st (fun _ _ kz => pw_s2i wX12_isTold lX12_416 dX12_reply_40 (k40) rfl (Nat.le_of_ble_eq_true rfl) (Nat.le_of_ble_eq_true rfl) kz) ?_
          refine WQ.bn (fun _ _ ka kb => pw_if_ne (tgt := 49) dX12_reply_43 (by decide) ka kb) (fun c43 => ?_) (fun c43 => ?_)
          · rw [bI_n] at c43
            have hp5 := hA.dv.p5
            have hn4 := hA.dv.n4
            have g1 := isP_t c11
            have g2 := isP_t c20
            have g3 := isQ_t c34
            have cxy : x.toInt ≠ y.toInt := fun q => c25 (Int32.toInt_inj.mp q)
            obtain ⟨p, ep, tp, lp⟩ := nI_get g1.1 g1.2 (by omega)
            obtain ⟨r, er, tr, lr⟩ := nI_get g2.1 g2.2 (by omega)
            obtain ⟨q, eq, tq, lq⟩ := nI_get g3.1 g3.2 (by omega)
            have hp : p < 5 := by omega
            have hr : r < 5 := by omega
            have hq : q < 4 := by omega
            rw [ep, er, eq]
            refine WQ.st (fun _ _ kz => pw_aload0 dX12_reply_49 kz) ?_
            refine WQ.st (fun _ _ kz => pw_iload1 dX12_reply_50 kz) ?_
            refine WQ.st (fun _ _ kz => pw_iload3 dX12_reply_51 kz) ?_
            refine WQ.st (fun _ _ kz => pw_iconst (v := 0) dX12_reply_52 (by decide) kz) ?_
            obtain ⟨V2, A2, k2, b1, b2, b3, b4, b5⟩ := q_laysBest (d := d + 3) (P := P) (S := S) (G := G) (V := (up2 V o 0 0)) (A := A) (B := B) (Q := Q) (t := t) (sl := sl) hF hA.dv hA.kv hp hq 0
            have hal2 : A2 (o + 1) = A (o + 1) := b1 _ (by omega)
            refine WQ.st (fun _ _ kz => pw_o3i wX12_laysBest lX12_323 rfl dX12_reply_53 hF.1 (k2) rfl (Nat.le_of_ble_eq_true rfl) (Nat.le_of_ble_eq_true rfl) kz) ?_
            refine WQ.bn (fun _ _ ka kb => pw_if_ne (tgt := 63) dX12_reply_56 (by decide) ka kb) (fun c56 => ?_) (fun c56 => ?_)
            · rw [bI_n] at c56
              refine WQ.st (fun _ _ kz => pw_iconst (v := 0) dX12_reply_63 (by decide) kz) ?_
              refine WQ.st (fun _ _ kz => pw_istore5 dX12_reply_64 (by decide) (k := kz)) ?_
              exact l_reply (S := S) (P := P) (G := G) (V := V2) (B := B) (Q := Q) (t := t) (sl := sl) (d := d + 9) (x1 := nI p) (x2 := nI r) (x4 := w) hF (hA.dv.lgE hq).2 hq (A0 := A2) (by rw [hal2]; exact (hA.dv.lgE hq).1) (fun A3 hC => by
                refine WQ.st (fun _ _ kz => pw_aload0 dX12_reply_100 kz) ?_
                refine WQ.st (fun _ _ kz => pw_iconst (v := 1) dX12_reply_101 (by decide) kz) ?_
                refine WQ.st (fun _ _ kz => pw_puti (pX12_274 _ rfl) dX12_reply_102 hF.1 rfl rfl kz) ?_
                refine WQ.st (fun _ _ kz => pw_aload0 dX12_reply_105 kz) ?_
                refine WQ.st (fun _ _ kz => pw_iload2 dX12_reply_106 kz) ?_
                refine WQ.st (fun _ _ kz => pw_iload3 dX12_reply_107 kz) ?_
                have hal3 : A3 (o + 1) = A (o + 1) := by rw [hC.1 _ (by omega), hal2]
                obtain ⟨A4, k4, h4⟩ := c_laysGlads (d := d + 4) (P := P) (S := S) (G := G) (V := (up2 V2 o 24 1)) (A := A3) (B := B) (Q := Q) (t := t) (sl := sl) hF hr hq (hA.dv.lgE hq).2 (by rw [hal3, (hA.dv.lgE hq).1]; exact ix_n (by have := (hA.dv.lgE hq).2; omega)) (by rw [hal3]; exact hA.dv.gl) (by rw [hal3]; exact hA.dv.ml)
                have hal4 : A4 (o + 1) = A (o + 1) := (h4.1 _ (by omega) (by omega) (by omega)).trans hal3
                have hTT : ∀ b l s w, b < lgN (A (o + 1)) q → l < 5 → s < 41 → w < 5 → rT (A4 (o + 7)) b l s w = TT (A (o + 1)) r q b l s w := fun b l s w hb hl hs hw => by
                  rw [h4.rT hb hl hs hw, hal3]
                  rfl
                have hin : ∀ b l s w, b < lgN (A (o + 1)) q → l < 5 → s < 41 → w < 5 → TT (A (o + 1)) r q b l s w ≠ (-268435456) → rf_in s w = true := fun b l s w _ _ _ _ h => rf_g_in h
                have c56 := of_decide_eq_true c56
                have hkp : ∀ b w, b < lgN (A (o + 1)) q → w < 5 → rf_k (A4 (o + 10)) (up2 V2 o 24 1 o 24) b w = rpK (A (o + 1)) p q b w := fun b w hb hw => by
                  unfold rpK rf_k
                  rw [h4.1 _ (by omega) (by omega) (by omega), hC.2, if_pos (by omega), up2_eq, show b - 0 + 0 = b by omega, (b5 c56).2 b hb]
                refine WQ.st (fun _ _ kz => pw_o2v wX12_laysGlads lX12_299 rfl dX12_reply_108 hF.1 (k4) rfl (Nat.le_of_ble_eq_true rfl) (Nat.le_of_ble_eq_true rfl) kz) ?_
                refine WQ.st (fun _ _ kz => pw_aload0 dX12_reply_111 kz) ?_
                refine WQ.st (fun _ _ kz => pw_aload0 dX12_reply_112 kz) ?_
                refine WQ.st (fun _ _ kz => pw_getr gX12_13 dX12_reply_113 hF.1 (mf_p1 hF) kz) ?_
                refine WQ.st (fun _ _ kz => pw_bipush (v := 10) dX12_reply_116 (by decide) kz) ?_
                refine WQ.st (fun _ _ kz => pw_iload3 dX12_reply_118 kz) ?_
                refine WQ.st (fun _ _ kz => pw_iadd dX12_reply_119 kz) ?_
                refine WQ.st (fun _ _ kz => pw_ald (j := 10 + q) dX12_reply_120 (mf_s1 hF) (by simp (disch := omega) only [nl_10, nI_add, pk_mul, pk_sub]; exact ix_m (by omega) (by omega)) (by omega) kz) ?_
                rw [hal4, (hA.dv.lgE hq).1]
                refine WQ.st (fun _ _ kz => pw_iconst (v := 0) dX12_reply_121 (by decide) kz) ?_
                obtain ⟨F, k5, t1⟩ := c_laysToGo (d := d + 4) (P := P) (S := S) (G := G) (V := (up2 V2 o 24 1)) (A := A4) (B := B) (Q := Q) (t := t) (sl := sl) hF (hA.dv.lgE hq).2 (goal := 0) (fun b l s w hb hl hs hw h => hin b l s w hb hl hs hw (by rw [← hTT b l s w hb hl hs hw]; exact h))
                refine WQ.st (fun _ _ kz => pw_o2v wX12_laysToGo lX12_303 rfl dX12_reply_122 hF.1 (k5) rfl (Nat.le_of_ble_eq_true rfl) (Nat.le_of_ble_eq_true rfl) kz) ?_
                refine WQ.st (fun _ _ kz => pw_aload0 dX12_reply_125 kz) ?_
                refine WQ.st (fun _ _ kz => pw_aload0 dX12_reply_126 kz) ?_
                refine WQ.st (fun _ _ kz => pw_aload0 dX12_reply_127 kz) ?_
                refine WQ.st (fun _ _ kz => pw_getr gX12_13 dX12_reply_128 hF.1 (mf_p1 hF) kz) ?_
                refine WQ.st (fun _ _ kz => pw_bipush (v := 10) dX12_reply_131 (by decide) kz) ?_
                refine WQ.st (fun _ _ kz => pw_iload3 dX12_reply_133 kz) ?_
                refine WQ.st (fun _ _ kz => pw_iadd dX12_reply_134 kz) ?_
                refine WQ.st (fun _ _ kz => pw_ald (j := 10 + q) dX12_reply_135 (mf_s1 hF) (by simp (disch := omega) only [nl_10, nI_add, pk_mul, pk_sub]; exact ix_m (by omega) (by omega)) (by omega) kz) ?_
                rw [t1.1 _ (by omega), hal4, (hA.dv.lgE hq).1]
                refine WQ.st (fun _ _ kz => pw_aload0 dX12_reply_136 kz) ?_
                refine WQ.st (fun _ _ kz => pw_getr gX12_13 dX12_reply_137 hF.1 (mf_p1 hF) kz) ?_
                refine WQ.st (fun _ _ kz => pw_bipush (v := 77) dX12_reply_140 (by decide) kz) ?_
                refine WQ.st (fun _ _ kz => pw_iload2 dX12_reply_142 kz) ?_
                refine WQ.st (fun _ _ kz => pw_iadd dX12_reply_143 kz) ?_
                refine WQ.st (fun _ _ kz => pw_ald (j := 77 + r) dX12_reply_144 (mf_s1 hF) (by simp (disch := omega) only [nl_77, nI_add, pk_mul, pk_sub]; exact ix_m (by omega) (by omega)) (by omega) kz) ?_
                rw [t1.1 _ (by omega), hal4, (hA.kv.stE hr).1]
                obtain ⟨V6, A6, k6, r1, r2, r3, r4, r5⟩ := q_laysRow (d := d + 5) (P := P) (S := S) (G := G) (V := (up2 V2 o 24 1)) (A := F) (B := B) (Q := Q) (t := t) (sl := sl) hF (hA.dv.lgE hq).2 (e := rf_e 0) (T := TT (A (o + 1)) r q) (kp := rpK (A (o + 1)) p q) (by rw [t1.1 _ (by omega)]; exact hTT) (by rw [t1.1 _ (by omega)]; exact hkp) hin (by rw [t1.1 (o + 7) (by omega), t1.1 (o + 10) (by omega)]; exact fun b hb => t1.2 b (Nat.zero_le b) hb) (hA.kv.stE hr).2
                refine WQ.st (fun _ _ kz => pw_o2i wX12_laysRow lX12_306 rfl dX12_reply_145 hF.1 (k6) rfl (Nat.le_of_ble_eq_true rfl) (Nat.le_of_ble_eq_true rfl) kz) ?_
                refine WQ.st (fun _ _ kz => pw_iload3 dX12_reply_148 kz) ?_
                refine WQ.st (fun _ _ kz => pw_iload4 dX12_reply_149 kz) ?_
                have hal6 : A6 (o + 1) = A (o + 1) := by rw [r1 _ (by omega), t1.1 _ (by omega), hal4]
                obtain ⟨_, _, k7, rfl, rfl⟩ := c_tellsRow (d := d + 6) (P := P) (S := S) (G := G) (V := V6) (A := A6) (B := B) (Q := Q) (t := t) (sl := sl) hF (by rw [hal6]; exact hA.dv) hq (decide (rpT (A (o + 1)) p r q ≠ -268435456)) (w := w) c43
                have e7 : sp_tr (decide (rpT (A (o + 1)) p r q ≠ -268435456)) (V6 o 20) (V6 o 21) (A6 (o + 9)) (lgN (A (o + 1)) q) w.toInt = sp_tr (decide (rpT (A (o + 1)) p r q ≠ -268435456)) (rpT (A (o + 1)) p r q) (sI (rpS (A (o + 1)) p r q (lgN (A (o + 1)) q)).2) (fun b => dI (rpS (A (o + 1)) p r q (b + 1)).1) (lgN (A (o + 1)) q) w.toInt := tr_cong (fun e => ⟨r4, (r5 (of_decide_eq_true e)).1, (r5 (of_decide_eq_true e)).2⟩)
                rw [hal6, e7] at k7
                refine WQ.st (fun _ _ kz => pw_o3i wX12_tellsRow lX12_423 rfl dX12_reply_151 hF.1 (k7) rfl (Nat.le_of_ble_eq_true rfl) (Nat.le_of_ble_eq_true rfl) kz) ?_
                refine ⟨_, _, pw_iret dX12_reply_154 rfl rfl rfl rfl, ?_⟩
                have c0 : sp_reply (A (o + 1)) x.toInt y.toInt z.toInt w.toInt = sp_tr (decide (rpT (A (o + 1)) p r q ≠ -268435456)) (rpT (A (o + 1)) p r q) (sI (rpS (A (o + 1)) p r q (lgN (A (o + 1)) q)).2) (fun b => dI (rpS (A (o + 1)) p r q (b + 1)).1) (lgN (A (o + 1)) q) w.toInt := by unfold sp_reply; rw [c11, c20, decide_eq_true cxy, c34, show isT w.toInt 1 = true from c43, if_pos (by rfl), tp, tr, tq, Int.toNat_natCast, Int.toNat_natCast, Int.toNat_natCast, if_neg c56]
                rw [← ep, ← er, ← eq, c0]
                exact PZ.q ((((FP.up (by decide)).tr b2.FP).tr (FP.up (by decide))).tr ⟨r2, r3 5 (by decide) (by decide), r3 13 (by decide) (by decide), r3 14 (by decide) (by decide)⟩) (fun a ha => by rw [r1 a (by omega), t1.1 a (by omega), h4.1 a (by omega) (by omega) (by omega), hC.1 a (by omega), b1 a (by omega)]) FB.rfl) (lgN (A (o + 1)) q) 0 A2 (by omega) (CPY.zero _ _ _ _ _)
            · rw [bI_0] at c56
              refine WQ.st (fun _ _ kz => pw_ldcw kX12_422 dX12_reply_59 kz) ?_
              refine ⟨_, _, pw_iret dX12_reply_62 rfl rfl rfl rfl, ?_⟩
              have c0 : sp_reply (A (o + 1)) x.toInt y.toInt z.toInt w.toInt = -99000001 := by unfold sp_reply; rw [c11, c20, decide_eq_true cxy, c34, show isT w.toInt 1 = true from c43, if_pos (by rfl), tp, tr, tq, Int.toNat_natCast, Int.toNat_natCast, Int.toNat_natCast, if_pos (Classical.not_not.mp (of_decide_eq_false c56))]
              rw [← ep, ← er, ← eq, c0]
              exact PZ.q ((FP.up (by decide)).tr b2.FP) b1.FQ FB.rfl
          · rw [bI_0] at c43
            refine WQ.st (fun _ _ kz => pw_ldc kX12_247 dX12_reply_46 kz) ?_
            refine ⟨_, _, pw_iret dX12_reply_48 rfl rfl rfl rfl, ?_⟩
            have c0 : sp_reply (A (o + 1)) x.toInt y.toInt z.toInt w.toInt = -99000002 := by unfold sp_reply; rw [show isT w.toInt 1 = false from c43, Bool.and_false, Bool.and_false, Bool.and_false, Bool.and_false, if_neg (by decide)]
            rw [c0]
            exact PZ.q (FP.up (by decide)) FQ.rfl FB.rfl
