/-! ===== the reference: lists ===== -/
def sp_liR (al so : Nat → Int32) (x y z : Int) (g : Int32) : Int32 := if decide (0 ≤ x ∧ x ≤ 3) && (isP al y && isQ al z) then (if sp_nt so x = 0 then (if isS g.toInt then (if bsT al y.toNat z.toNat g = -268435456 then -99000005 else 0) else -99000003) else sp_nt so x) else -99000002
def CPR (B0 : sB) (dst lo : Nat) (f : Nat → Int64) (n : Nat) (B : sB) : Prop := (∀ a, a ≠ dst → B a = B0 a) ∧ ∀ i, B dst i = if lo ≤ i ∧ i < lo + n then f (i - lo) else B0 dst i
theorem CPR.step {B0 : sB} {dst lo k : Nat} {f : Nat → Int64} {B : sB} (h : CPR B0 dst lo f k B) {x : Int64} (hx : x = f k) : CPR B0 dst lo f (k + 1) (up2 B dst (lo + k) x) := by
  refine ⟨fun a ha => by rw [up2_na ha]; exact h.1 a ha, fun i => ?_⟩
  rw [up2_at]
  unfold pm_up
  by_cases q : i = lo + k
  · rw [if_pos q, if_pos (by omega), hx]
    congr 1
    omega
  · rw [if_neg q, h.2]
    by_cases q2 : lo ≤ i ∧ i < lo + k
    · rw [if_pos q2, if_pos (by omega)]
    · rw [if_neg q2, if_neg (by omega)]
def liM (al mn : Nat → Int32) (tr q : Nat) : Nat := if lgN al q < (mn tr).toInt.toNat then lgN al q else (mn tr).toInt.toNat
set_option maxRecDepth 20000 in
theorem l_lists {G : gT} {d : Nat} {S : sS} {V : sV} {P : sP} {A : sV} {Q : sP} {t sl o : Nat} (hF : MF S P o) {tr n : Nat} (htr : tr < 4) (hn12 : n ≤ 12) {B0 : sB} {f : Nat → Int64} (hf : ∀ k, k < n → (A (o + 9) k).toInt64 = f k) {x2 x3 x4 x5 : Int32} {Z : Option Value → Ph → Prop} (kf : ∀ B : sB, CPR B0 (o + 22) (40 * tr) f n B → WQ G d mX12_lists 144 [some (.ref o), some (.int (nI tr)), some (.int x2), some (.int x3), some (.int x4), some (.int x5), some (.int (nI n)), some (.int (nI n))] [] (t, sl, gh S V P A B Q) Z) : ∀ (m k : Nat) (B : sB), k + m = n → CPR B0 (o + 22) (40 * tr) f k B → WQ G d mX12_lists 111 [some (.ref o), some (.int (nI tr)), some (.int x2), some (.int x3), some (.int x4), some (.int x5), some (.int (nI n)), some (.int (nI k))] [] (t, sl, gh S V P A B Q) Z := by
  intro m
  induction m with
  | zero =>
    intro k B hk hC
    have hk : k = n := hk
    subst hk
    refine WQ.st (fun _ _ kz => pw_iload7 dX12_lists_111 kz) ?_
    refine WQ.st (fun _ _ kz => pw_iload6 dX12_lists_113 kz) ?_
    refine WQ.br (fun _ _ ka kb => pw_icmp_ge (tgt := 144) dX12_lists_115 (by decide) ka kb) (fun c115 => ?_) (fun c115 => absurd (Int32.le_refl _) c115)
    exact kf B hC
  | succ m ih =>
    intro k B hk hC
    refine WQ.st (fun _ _ kz => pw_iload7 dX12_lists_111 kz) ?_
    refine WQ.st (fun _ _ kz => pw_iload6 dX12_lists_113 kz) ?_
    refine WQ.br (fun _ _ ka kb => pw_icmp_ge (tgt := 144) dX12_lists_115 (by decide) ka kb) (fun c115 => absurd c115 (by rw [le_i (ix_n (j := n) (by omega)) (ix_n (j := k) (by omega))]; omega)) (fun c115 => ?_)
    refine WQ.st (fun _ _ kz => pw_aload0 dX12_lists_118 kz) ?_
    refine WQ.st (fun _ _ kz => pw_getr gX12_82 dX12_lists_119 hF.1 (mf_p38 hF) kz) ?_
    refine WQ.st (fun _ _ kz => pw_bipush (v := 40) dX12_lists_122 (by decide) kz) ?_
    refine WQ.st (fun _ _ kz => pw_iload1 dX12_lists_124 kz) ?_
    refine WQ.st (fun _ _ kz => pw_imul dX12_lists_125 kz) ?_
    refine WQ.st (fun _ _ kz => pw_iload7 dX12_lists_126 kz) ?_
    refine WQ.st (fun _ _ kz => pw_iadd dX12_lists_128 kz) ?_
    refine WQ.st (fun _ _ kz => pw_aload0 dX12_lists_129 kz) ?_
    refine WQ.st (fun _ _ kz => pw_getr gX12_42 dX12_lists_130 hF.1 (mf_p19 hF) kz) ?_
    refine WQ.st (fun _ _ kz => pw_iload7 dX12_lists_133 kz) ?_
    refine WQ.st (fun _ _ kz => pw_ald (j := k) dX12_lists_135 (mf_s9 hF) (ix_m rfl (by omega)) (by omega) kz) ?_
    refine WQ.st (fun _ _ kz => pw_i2l dX12_lists_136 kz) ?_
    refine WQ.st (fun _ _ kz => pw_lst (j := 40 * tr + k) dX12_lists_137 (mf_s22 hF) (by simp (disch := omega) only [nl_40, nI_add, pk_mul, pk_sub]; exact ix_m (by omega) (by omega)) (by omega)  kz) ?_
    refine WQ.st (fun _ _ kz => pw_iinc7 (v := 1) dX12_lists_138 (by decide) (by decide) (k := kz)) ?_
    refine WQ.st (fun _ _ kz => pw_goto (tgt := 111) dX12_lists_141 (by decide) kz) ?_
    rw [nI_1]
    exact ih (k + 1) _ (by omega) (hC.step (by rw [hf k (by omega)]))
set_option maxRecDepth 20000 in
theorem p_lists {G : gT} {d : Nat} {S : sS} {V : sV} {P : sP} {A : sV} {B : sB} {Q : sP} {t sl o : Nat} (hF : MF S P o) (hA : AV (A (o + 1))) (hR : ∀ tr, tr < 4 → 0 ≤ (A (o + 21) tr).toInt ∧ (A (o + 21) tr).toInt ≤ 40) (x y z g : Int32) : WQ G (d + 9) mX12_lists 0 [some (.ref o), some (.int x), some (.int y), some (.int z), some (.int g), none, none, none] [] (t, sl, gh S V P A B Q) (fun r h' => (¬ sp_liR (A (o + 1)) (A (o + 20)) x.toInt y.toInt z.toInt g = 0 ∧ r = some (.int (sp_liR (A (o + 1)) (A (o + 20)) x.toInt y.toInt z.toInt g)) ∧ ∃ V' A' : sV, h' = (t, sl, gh S V' P A' B Q) ∧ FP o V V' ∧ FQ o A A') ∨ (sp_liR (A (o + 1)) (A (o + 20)) x.toInt y.toInt z.toInt g = 0 ∧ r = some (.int (nI (liM (A (o + 1)) (A (o + 21)) x.toInt.toNat z.toInt.toNat))) ∧ ∃ (V' A' : sV) (B' : sB), h' = (t, sl, gh S V' P A' B' Q) ∧ FP o V V' ∧ FQ o A A' ∧ CPR B (o + 22) (40 * x.toInt.toNat) (fun k => (dI (bsS (A (o + 1)) y.toInt.toNat z.toInt.toNat g (k + 1)).1).toInt64) (liM (A (o + 1)) (A (o + 21)) x.toInt.toNat z.toInt.toNat) B')) := by
  refine WQ.st (fun _ _ kz => pw_aload0 dX12_lists_0 kz) ?_
  refine WQ.st (fun _ _ kz => pw_iconst (v := 0) dX12_lists_1 (by decide) kz) ?_
  refine WQ.st (fun _ _ kz => pw_puti (pX12_1 _ rfl) dX12_lists_2 hF.1 rfl rfl kz) ?_
  refine WQ.st (fun _ _ kz => pw_iload1 dX12_lists_5 kz) ?_
  refine WQ.st (fun _ _ kz => pw_i2l dX12_lists_6 kz) ?_
  refine WQ.st (fun _ _ kz => pw_lconst (v := 0) dX12_lists_7 (by decide) kz) ?_
  refine WQ.st (fun _ _ kz => pw_ldc2 kX12_385 dX12_lists_8 kz) ?_
  refine WQ.st (fun _ _ kz => pw_s3i wX12_within lX12_152 dX12_lists_11 (c_withinI _ _ _) rfl (Nat.le_of_ble_eq_true rfl) (Nat.le_of_ble_eq_true rfl) kz) ?_
  refine WQ.br (fun _ _ ka kb => pw_if_eq (tgt := 26) dX12_lists_14 (by decide) ka kb) (fun c14 => ?_) (fun c14 => ?_)
  · rw [bI_0] at c14
    have c14 : ¬ (0 ≤ x.toInt ∧ x.toInt ≤ 3) := by
      rw [il_t] at c14
      exact of_decide_eq_false c14
    refine WQ.st (fun _ _ kz => pw_ldc kX12_247 dX12_lists_26 kz) ?_
    refine ⟨_, _, pw_iret dX12_lists_28 rfl rfl rfl rfl, ?_⟩
    have c0 : sp_liR (A (o + 1)) (A (o + 20)) x.toInt y.toInt z.toInt g = -99000002 := by unfold sp_liR; rw [decide_eq_false c14, Bool.false_and, if_neg (by decide)]
    exact Or.inl ⟨by rw [c0]; decide, by rw [c0], _, _, rfl, FP.up (by decide), FQ.rfl⟩
  · rw [bI_n] at c14
    have c14 : 0 ≤ x.toInt ∧ x.toInt ≤ 3 := by
      rw [il_t] at c14
      exact of_decide_eq_true c14
    refine WQ.st (fun _ _ kz => pw_aload0 dX12_lists_17 kz) ?_
    refine WQ.st (fun _ _ kz => pw_iload2 dX12_lists_18 kz) ?_
    refine WQ.st (fun _ _ kz => pw_iload3 dX12_lists_19 kz) ?_
    obtain ⟨_, _, k20, rfl, rfl⟩ := c_areBoth (d := d + 6) (P := P) (S := S) (G := G) (V := (up2 V o 0 0)) (A := A) (B := B) (Q := Q) (t := t) (sl := sl) hF hA.dv y z
    refine WQ.st (fun _ _ kz => pw_o2i wX12_areBoth lX12_413 rfl dX12_lists_20 hF.1 (k20) rfl (Nat.le_of_ble_eq_true rfl) (Nat.le_of_ble_eq_true rfl) kz) ?_
    refine WQ.bn (fun _ _ ka kb => pw_if_ne (tgt := 29) dX12_lists_23 (by decide) ka kb) (fun c23 => ?_) (fun c23 => ?_)
    · rw [bI_n] at c23
      have hb23 := Bool.and_eq_true _ _ |>.mp c23
      have hp5 := hA.dv.p5
      have hn4 := hA.dv.n4
      have g1p := isP_t hb23.1
      have g2q := isQ_t hb23.2
      obtain ⟨p, ep, tp, lp⟩ := nI_get g1p.1 g1p.2 (by omega)
      obtain ⟨q, eq, tq, lq⟩ := nI_get g2q.1 g2q.2 (by omega)
      have hp : p < 5 := by omega
      have hq : q < 4 := by omega
      
      refine WQ.st (fun _ _ kz => pw_aload0 dX12_lists_29 kz) ?_
      refine WQ.st (fun _ _ kz => pw_iload1 dX12_lists_30 kz) ?_
      obtain ⟨_, _, k31, rfl, rfl⟩ := c_noTray (d := d + 7) (P := P) (S := S) (G := G) (V := (up2 V o 0 0)) (A := A) (B := B) (Q := Q) (t := t) (sl := sl) hF x
      refine WQ.st (fun _ _ kz => pw_o1i wX12_noTray lX12_388 rfl dX12_lists_31 hF.1 (k31) rfl (Nat.le_of_ble_eq_true rfl) (Nat.le_of_ble_eq_true rfl) kz) ?_
      refine WQ.st (fun _ _ kz => pw_istore5 dX12_lists_34 (by decide) (k := kz)) ?_
      refine WQ.st (fun _ _ kz => pw_iload5 dX12_lists_36 kz) ?_
      refine WQ.br (fun _ _ ka kb => pw_if_eq (tgt := 44) dX12_lists_38 (by decide) ka kb) (fun c38 => ?_) (fun c38 => ?_)
      · obtain ⟨tr, et, tt, lt⟩ := nI_get (x := x) (n := 4) (by omega) (by omega) (by decide)
        have htr : tr < 4 := by omega
        have hR1 := hR tr htr
        obtain ⟨mn, emn, tmn, lmn⟩ := nI_get hR1.1 (show (A (o + 21) tr).toInt < 41 by omega) (by decide)
        refine WQ.st (fun _ _ kz => pw_iload4 dX12_lists_44 kz) ?_
        refine WQ.st (fun _ _ kz => pw_i2l dX12_lists_46 kz) ?_
        refine WQ.st (fun _ _ kz => pw_s1i wX12_isStore lX12_240 dX12_lists_47 (c_isStoreI _) rfl (Nat.le_of_ble_eq_true rfl) (Nat.le_of_ble_eq_true rfl) kz) ?_
        refine WQ.bn (fun _ _ ka kb => pw_if_ne (tgt := 56) dX12_lists_50 (by decide) ka kb) (fun c50 => ?_) (fun c50 => ?_)
        · rw [bI_n] at c50
          rw [il_t] at c50
          rw [ep, eq]
          refine WQ.st (fun _ _ kz => pw_aload0 dX12_lists_56 kz) ?_
          refine WQ.st (fun _ _ kz => pw_iload2 dX12_lists_57 kz) ?_
          refine WQ.st (fun _ _ kz => pw_iload3 dX12_lists_58 kz) ?_
          refine WQ.st (fun _ _ kz => pw_iload4 dX12_lists_59 kz) ?_
          obtain ⟨V2, A2, k2, b1, b2, b3, b4, b5⟩ := q_laysBest (d := d + 3) (P := P) (S := S) (G := G) (V := (up2 V o 0 0)) (A := A) (B := B) (Q := Q) (t := t) (sl := sl) hF hA.dv hA.kv hp hq g
          refine WQ.st (fun _ _ kz => pw_o3i wX12_laysBest lX12_323 rfl dX12_lists_61 hF.1 (k2) rfl (Nat.le_of_ble_eq_true rfl) (Nat.le_of_ble_eq_true rfl) kz) ?_
          refine WQ.bn (fun _ _ ka kb => pw_if_ne (tgt := 70) dX12_lists_64 (by decide) ka kb) (fun c64 => ?_) (fun c64 => ?_)
          · rw [bI_n] at c64
            have c64 := of_decide_eq_true c64
            have hl12 := (hA.dv.lgE hq).2
            rw [et]
            refine WQ.st (fun _ _ kz => pw_aload0 dX12_lists_70 kz) ?_
            refine WQ.st (fun _ _ kz => pw_getr gX12_13 dX12_lists_71 hF.1 (mf_p1 hF) kz) ?_
            refine WQ.st (fun _ _ kz => pw_bipush (v := 10) dX12_lists_74 (by decide) kz) ?_
            refine WQ.st (fun _ _ kz => pw_iload3 dX12_lists_76 kz) ?_
            refine WQ.st (fun _ _ kz => pw_iadd dX12_lists_77 kz) ?_
            refine WQ.st (fun _ _ kz => pw_ald (j := 10 + q) dX12_lists_78 (mf_s1 hF) (by simp (disch := omega) only [nl_10, nI_add, pk_mul, pk_sub]; exact ix_m (by omega) (by omega)) (by omega) kz) ?_
            rw [b1 _ (by omega), (hA.dv.lgE hq).1]
            refine WQ.st (fun _ _ kz => pw_aload0 dX12_lists_79 kz) ?_
            refine WQ.st (fun _ _ kz => pw_getr gX12_79 dX12_lists_80 hF.1 (mf_p37 hF) kz) ?_
            refine WQ.st (fun _ _ kz => pw_iload1 dX12_lists_83 kz) ?_
            refine WQ.st (fun _ _ kz => pw_ald (j := tr) dX12_lists_84 (mf_s21 hF) (ix_m rfl (by omega)) (by omega) kz) ?_
            rw [b1 (o + 21) (by omega), emn]
            refine WQ.br (fun _ _ ka kb => pw_icmp_ge (tgt := 100) dX12_lists_85 (by decide) ka kb) (fun c85 => ?_) (fun c85 => ?_)
            · rw [le_i (ix_n (j := mn) (by omega)) (ix_n (j := lgN (A (o + 1)) q) (by omega))] at c85
              refine WQ.st (fun _ _ kz => pw_aload0 dX12_lists_100 kz) ?_
              refine WQ.st (fun _ _ kz => pw_getr gX12_79 dX12_lists_101 hF.1 (mf_p37 hF) kz) ?_
              refine WQ.st (fun _ _ kz => pw_iload1 dX12_lists_104 kz) ?_
              refine WQ.st (fun _ _ kz => pw_ald (j := tr) dX12_lists_105 (mf_s21 hF) (ix_m rfl (by omega)) (by omega) kz) ?_
              rw [b1 (o + 21) (by omega), emn]
              refine WQ.st (fun _ _ kz => pw_istore6 dX12_lists_106 (by decide) (k := kz)) ?_
              refine WQ.st (fun _ _ kz => pw_iconst (v := 0) dX12_lists_108 (by decide) kz) ?_
              refine WQ.st (fun _ _ kz => pw_istore7 dX12_lists_109 (by decide) (k := kz)) ?_
              have hm : liM (A (o + 1)) (A (o + 21)) tr q = mn := by
                unfold liM
                rw [tmn, Int.toNat_natCast]
                rw [if_neg (by omega)]
              refine l_lists (S := S) (P := P) (G := G) (V := V2) (A := A2) (Q := Q) (t := t) (sl := sl) (d := d + 9) hF htr (n := mn) (by omega) (B0 := B) (f := fun k => (dI (bsS (A (o + 1)) p q g (k + 1)).1).toInt64) (fun k hk => by rw [(b5 c64).2 k (by omega)]) (fun B3 hC3 => ?_) mn 0 B (by omega) ⟨fun _ _ => rfl, fun i => by rw [if_neg (by omega)]⟩
              refine WQ.st (fun _ _ kz => pw_iload6 dX12_lists_144 kz) ?_
              refine ⟨_, _, pw_iret dX12_lists_146 rfl rfl rfl rfl, ?_⟩
              have c0 : sp_liR (A (o + 1)) (A (o + 20)) x.toInt y.toInt z.toInt g = 0 := by unfold sp_liR; rw [decide_eq_true c14, c23, if_pos (by rfl), if_pos c38, if_pos c50, tp, tq, Int.toNat_natCast, Int.toNat_natCast, if_neg c64]
              rw [← et, ← ep, ← eq]
              refine Or.inr ⟨c0, by rw [tt, tq, Int.toNat_natCast, Int.toNat_natCast, hm], V2, A2, B3, rfl, (FP.up (by decide)).tr b2.FP, b1.FQ, ?_⟩
              rw [tt, tp, tq, Int.toNat_natCast, Int.toNat_natCast, Int.toNat_natCast, hm]
              exact hC3
            · rw [le_i (ix_n (j := mn) (by omega)) (ix_n (j := lgN (A (o + 1)) q) (by omega))] at c85
              refine WQ.st (fun _ _ kz => pw_aload0 dX12_lists_88 kz) ?_
              refine WQ.st (fun _ _ kz => pw_getr gX12_13 dX12_lists_89 hF.1 (mf_p1 hF) kz) ?_
              refine WQ.st (fun _ _ kz => pw_bipush (v := 10) dX12_lists_92 (by decide) kz) ?_
              refine WQ.st (fun _ _ kz => pw_iload3 dX12_lists_94 kz) ?_
              refine WQ.st (fun _ _ kz => pw_iadd dX12_lists_95 kz) ?_
              refine WQ.st (fun _ _ kz => pw_ald (j := 10 + q) dX12_lists_96 (mf_s1 hF) (by simp (disch := omega) only [nl_10, nI_add, pk_mul, pk_sub]; exact ix_m (by omega) (by omega)) (by omega) kz) ?_
              rw [b1 _ (by omega), (hA.dv.lgE hq).1]
              refine WQ.st (fun _ _ kz => pw_goto (tgt := 106) dX12_lists_97 (by decide) kz) ?_
              refine WQ.st (fun _ _ kz => pw_istore6 dX12_lists_106 (by decide) (k := kz)) ?_
              refine WQ.st (fun _ _ kz => pw_iconst (v := 0) dX12_lists_108 (by decide) kz) ?_
              refine WQ.st (fun _ _ kz => pw_istore7 dX12_lists_109 (by decide) (k := kz)) ?_
              have hm : liM (A (o + 1)) (A (o + 21)) tr q = (lgN (A (o + 1)) q) := by
                unfold liM
                rw [tmn, Int.toNat_natCast]
                rw [if_pos (by omega)]
              refine l_lists (S := S) (P := P) (G := G) (V := V2) (A := A2) (Q := Q) (t := t) (sl := sl) (d := d + 9) hF htr (n := (lgN (A (o + 1)) q)) (by omega) (B0 := B) (f := fun k => (dI (bsS (A (o + 1)) p q g (k + 1)).1).toInt64) (fun k hk => by rw [(b5 c64).2 k (by omega)]) (fun B3 hC3 => ?_) (lgN (A (o + 1)) q) 0 B (by omega) ⟨fun _ _ => rfl, fun i => by rw [if_neg (by omega)]⟩
              refine WQ.st (fun _ _ kz => pw_iload6 dX12_lists_144 kz) ?_
              refine ⟨_, _, pw_iret dX12_lists_146 rfl rfl rfl rfl, ?_⟩
              have c0 : sp_liR (A (o + 1)) (A (o + 20)) x.toInt y.toInt z.toInt g = 0 := by unfold sp_liR; rw [decide_eq_true c14, c23, if_pos (by rfl), if_pos c38, if_pos c50, tp, tq, Int.toNat_natCast, Int.toNat_natCast, if_neg c64]
              rw [← et, ← ep, ← eq]
              refine Or.inr ⟨c0, by rw [tt, tq, Int.toNat_natCast, Int.toNat_natCast, hm], V2, A2, B3, rfl, (FP.up (by decide)).tr b2.FP, b1.FQ, ?_⟩
              rw [tt, tp, tq, Int.toNat_natCast, Int.toNat_natCast, Int.toNat_natCast, hm]
              exact hC3
          · rw [bI_0] at c64
            have c64 := Classical.not_not.mp (of_decide_eq_false c64)
            refine WQ.st (fun _ _ kz => pw_ldc kX12_92 dX12_lists_67 kz) ?_
            refine ⟨_, _, pw_iret dX12_lists_69 rfl rfl rfl rfl, ?_⟩
            have c0 : sp_liR (A (o + 1)) (A (o + 20)) x.toInt y.toInt z.toInt g = -99000005 := by unfold sp_liR; rw [decide_eq_true c14, c23, if_pos (by rfl), if_pos c38, if_pos c50, tp, tq, Int.toNat_natCast, Int.toNat_natCast, if_pos c64]
            rw [← ep, ← eq]
            exact Or.inl ⟨by rw [c0]; decide, by rw [c0], _, _, rfl, (FP.up (by decide)).tr b2.FP, b1.FQ⟩
        · rw [bI_0] at c50
          rw [il_t] at c50
          refine WQ.st (fun _ _ kz => pw_ldc kX12_206 dX12_lists_53 kz) ?_
          refine ⟨_, _, pw_iret dX12_lists_55 rfl rfl rfl rfl, ?_⟩
          have c0 : sp_liR (A (o + 1)) (A (o + 20)) x.toInt y.toInt z.toInt g = -99000003 := by unfold sp_liR; rw [decide_eq_true c14, c23, if_pos (by rfl), if_pos c38, if_neg (by rw [c50]; decide)]
          exact Or.inl ⟨by rw [c0]; decide, by rw [c0], _, _, rfl, FP.up (by decide), FQ.rfl⟩
      · refine WQ.st (fun _ _ kz => pw_iload5 dX12_lists_41 kz) ?_
        refine ⟨_, _, pw_iret dX12_lists_43 rfl rfl rfl rfl, ?_⟩
        have c0 : sp_liR (A (o + 1)) (A (o + 20)) x.toInt y.toInt z.toInt g = sp_nt (A (o + 20)) x.toInt := by unfold sp_liR; rw [decide_eq_true c14, c23, if_pos (by rfl), if_neg c38]
        exact Or.inl ⟨by rw [c0]; exact c38, by rw [c0], _, _, rfl, FP.up (by decide), FQ.rfl⟩
    · rw [bI_0] at c23
      refine WQ.st (fun _ _ kz => pw_ldc kX12_247 dX12_lists_26 kz) ?_
      refine ⟨_, _, pw_iret dX12_lists_28 rfl rfl rfl rfl, ?_⟩
      have c0 : sp_liR (A (o + 1)) (A (o + 20)) x.toInt y.toInt z.toInt g = -99000002 := by unfold sp_liR; rw [c23, Bool.and_false, if_neg (by decide)]
      exact Or.inl ⟨by rw [c0]; decide, by rw [c0], _, _, rfl, FP.up (by decide), FQ.rfl⟩
