/-! ===== the reference: chance, putBy, lists ===== -/
theorem sm_add (f g : Nat → Nat) : ∀ n, sm (fun i => f i + g i) n = sm f n + sm g n
  | 0 => rfl
  | n + 1 => by
    rw [sm, sm, sm, sm_add f g n]
    omega
theorem sm_zero : ∀ n, sm (fun _ => 0) n = 0
  | 0 => rfl
  | n + 1 => by rw [sm, sm_zero n]
theorem sm_comm (F : Nat → Nat → Nat) (a : Nat) : ∀ m, sm (fun i => sm (fun l => F l i) a) m = sm (fun l => sm (fun i => F l i) m) a
  | 0 => (sm_zero a).symm
  | m + 1 => by
    rw [sm, sm_comm F a m, ← sm_add]
    exact sm_cong a (fun l _ => rfl)
theorem sm_app (f : Nat → Nat) (a : Nat) : ∀ b, sm f (a + b) = sm f a + sm (fun i => f (a + i)) b
  | 0 => rfl
  | b + 1 => by
    rw [← Nat.add_assoc, sm, sm_app f a b, sm]
    omega
theorem sm_blk (f : Nat → Nat) (b : Nat) : ∀ a, sm f (a * b) = sm (fun i => sm (fun j => f (i * b + j)) b) a
  | 0 => by rw [Nat.zero_mul]; rfl
  | a + 1 => by rw [Nat.succ_mul, sm_app, sm_blk f b a, sm]
theorem sm_lee {f g : Nat → Nat} : ∀ n, (∀ i, i < n → f i ≤ g i) → sm f n ≤ sm g n
  | 0, _ => Nat.le_refl _
  | n + 1, h => by
    rw [sm, sm]
    have := sm_lee n (fun i hi => h i (by omega))
    have := h n (by omega)
    omega
theorem hs_le (c : Nat → Nat → Nat) {g m : Nat} (h : g + m = 41) : sm (fun i => sm (fun l => c l (g + i)) 5) m ≤ sm (fl2 c) 205 := by
  rw [sm_comm (fun l i => c l (g + i)) 5 m, show (205 : Nat) = 5 * 41 from rfl, sm_blk (fl2 c) 41 5]
  refine sm_lee 5 (fun l hl => ?_)
  have e : sm (fun j => fl2 c (l * 41 + j)) 41 = sm (fun j => c l j) 41 := sm_cong 41 (fun j hj => by
    unfold fl2
    rw [show (l * 41 + j) / 41 = l by omega, show (l * 41 + j) % 41 = j by omega])
  rw [e, ← h, sm_app]
  exact Nat.le_add_left _ _
theorem rf_sl_cong {f g : Nat → Int32} (h : ∀ i, i < 5 → f i = g i) : rf_sl f = rf_sl g := by
  unfold rf_sl
  rw [rf_na_cong h]
  by_cases e : rf_na g < 4
  · rw [h (rf_na g + 1) (by omega)]
  · by_cases e9 : rf_na g = 9
    · rw [if_pos e9, if_pos e9]
    · rw [if_neg e9, if_neg e9, if_neg (fun q => e q.1), if_neg (fun q => e q.1)]
theorem rf_h_cong {T T' : Nat → Nat → Nat → Nat → Int32} {k s0 n : Nat} (hT : ∀ b l s w, b < n → l < 5 → s < 41 → w < 5 → T b l s w = T' b l s w) : ∀ b, b ≤ n → ∀ l s, l < 5 → s < 41 → rf_h T k s0 b l s = rf_h T' k s0 b l s
  | 0, _, _, _, _, _ => rfl
  | b + 1, hb, w, t, hw, ht => by
    rw [rf_h, rf_h]
    refine sm_cong 5 (fun l hl => ?_)
    unfold hct
    by_cases q : 2 ≤ t + w ∧ t + w < 43
    · rw [if_pos q, if_pos q, rf_h_cong hT b (by omega) l (t + w - 2) hl (by omega), rf_na_cong (f := T b l (t + w - 2)) (g := T' b l (t + w - 2)) (fun i hi => hT b l _ i (by omega) hl (by omega) hi), rf_sl_cong (f := T b l (t + w - 2)) (g := T' b l (t + w - 2)) (fun i hi => hT b l _ i (by omega) hl (by omega) hi)]
    · rw [if_neg q, if_neg q]
def chN (al : Nat → Int32) (p q s0 g0 : Nat) : Nat := rf_hs (TT al p q) (al 3).toInt.toNat s0 (lgN al q) g0
set_option maxRecDepth 20000 in
theorem q_chanceFrom {G : gT} {d : Nat} {S : sS} {V : sV} {P : sP} {A : sV} {B : sB} {Q : sP} {t sl o : Nat} (hF : MF S P o) {al : Nat → Int32} (hal : A (o + 1) = al) (hD : DV al) {p q : Nat} (hq : q < 4) (hTT : ∀ b l s w, b < lgN al q → l < 5 → s < 41 → w < 5 → rT (A (o + 7)) b l s w = TT al p q b l s w) {s0 g0 : Nat} (h0 : s0 < 41) (hg : g0 < 41) : ∃ B' : sB, PW G (d + 4) mX12_chanceFrom 0 [some (.ref o), some (.int (nI (lgN al q))), some (.int (sI s0)), some (.int (sI g0)), none, none, none] [] (t, sl, gh S V P A B Q) (some (.long (lN (chN al p q s0 g0)))) (t, sl, gh S V P A B' Q) ∧ FB o B B' ∧ chN al p q s0 g0 ≤ 10 ^ (lgN al q) := by
  obtain ⟨F, k, f1, f2⟩ := c_chanceFrom (G := G) (d := d) (V := V) (A := A) (B := B) (Q := Q) (t := t) (sl := sl) hF (n := lgN al q) (k := (al 3).toInt.toNat) (s0 := s0) (g0 := g0) (hD.lgE hq).2 (by have := hD.k10; omega) (by rw [hal]; exact nI_ofI hD.k10.1) (fun b l s w hb hl hs hw h => rf_g_in (by rw [hTT b l s w hb hl hs hw] at h; exact h)) h0 hg
  have e : rf_hs (rT (A (o + 7))) (al 3).toInt.toNat s0 (lgN al q) g0 = chN al p q s0 g0 := by
    unfold chN rf_hs
    exact sm_cong _ (fun i hi => sm_cong 5 (fun l hl => rf_h_cong hTT _ (Nat.le_refl _) l _ hl (by omega)))
  rw [e] at k
  refine ⟨F, k, f1, ?_⟩
  rw [← e]
  exact Nat.le_trans (hs_le (rf_h (rT (A (o + 7))) (al 3).toInt.toNat s0 (lgN al q)) (by omega)) f2
def sp_chance (al : Nat → Int32) (x y g w : Int) : Int64 := if (isP al x && isQ al y) && decide (0 ≤ w ∧ w ≤ 1) then (if isS g then lN ((if w = 0 then chN al x.toNat y.toNat (stN al x.toNat) (g + 20).toNat else 10 ^ lgN al y.toNat) / Nat.gcd (chN al x.toNat y.toNat (stN al x.toNat) (g + 20).toNat) (10 ^ lgN al y.toNat)) else -99000003) else -99000002
set_option maxRecDepth 20000 in
theorem p_chance {G : gT} {d : Nat} {S : sS} {V : sV} {P : sP} {A : sV} {B : sB} {Q : sP} {t sl o : Nat} (hF : MF S P o) (hA : AV (A (o + 1)))  (x y g w : Int32) : WQ G (d + 90) mX12_chance 0 [some (.ref o), some (.int x), some (.int y), some (.int g), some (.int w), none, none, none, none, none, none] [] (t, sl, gh S V P A B Q) (PZ o S P Q t sl V A B (.long (sp_chance (A (o + 1)) x.toInt y.toInt g.toInt w.toInt)) (A (o + 1))) := by
  refine WQ.st (fun _ _ kz => pw_aload0 dX12_chance_0 kz) ?_
  refine WQ.st (fun _ _ kz => pw_iconst (v := 0) dX12_chance_1 (by decide) kz) ?_
  refine WQ.st (fun _ _ kz => pw_puti (pX12_1 _ rfl) dX12_chance_2 hF.1 rfl rfl kz) ?_
  refine WQ.st (fun _ _ kz => pw_aload0 dX12_chance_5 kz) ?_
  refine WQ.st (fun _ _ kz => pw_iload1 dX12_chance_6 kz) ?_
  refine WQ.st (fun _ _ kz => pw_iload2 dX12_chance_7 kz) ?_
  obtain ⟨_, _, k8, rfl, rfl⟩ := c_areBoth (d := d + 87) (P := P) (S := S) (G := G) (V := (up2 V o 0 0)) (A := A) (B := B) (Q := Q) (t := t) (sl := sl) hF hA.dv x y
  refine WQ.st (fun _ _ kz => pw_o2i wX12_areBoth lX12_413 rfl dX12_chance_8 hF.1 (k8) rfl (Nat.le_of_ble_eq_true rfl) (Nat.le_of_ble_eq_true rfl) kz) ?_
  refine WQ.br (fun _ _ ka kb => pw_if_eq (tgt := 25) dX12_chance_11 (by decide) ka kb) (fun c11 => ?_) (fun c11 => ?_)
  · rw [bI_0] at c11
    refine WQ.st (fun _ _ kz => pw_ldc2 kX12_436 dX12_chance_25 kz) ?_
    refine ⟨_, _, pw_lret dX12_chance_28 rfl rfl rfl, ?_⟩
    have c0 : sp_chance (A (o + 1)) x.toInt y.toInt g.toInt w.toInt = -99000002 := by unfold sp_chance; rw [c11, Bool.false_and, if_neg (by decide)]
    rw [c0]
    exact PZ.q (FP.up (by decide)) FQ.rfl FB.rfl
  · rw [bI_n] at c11
    have hb11 := Bool.and_eq_true _ _ |>.mp c11
    have hp5 := hA.dv.p5
    have hn4 := hA.dv.n4
    have g1p := isP_t hb11.1
    have g2q := isQ_t hb11.2
    obtain ⟨p, ep, tp, lp⟩ := nI_get g1p.1 g1p.2 (by omega)
    obtain ⟨q, eq, tq, lq⟩ := nI_get g2q.1 g2q.2 (by omega)
    have hp : p < 5 := by omega
    have hq : q < 4 := by omega
    
    refine WQ.st (fun _ _ kz => pw_iload4 dX12_chance_14 kz) ?_
    refine WQ.st (fun _ _ kz => pw_i2l dX12_chance_16 kz) ?_
    refine WQ.st (fun _ _ kz => pw_lconst (v := 0) dX12_chance_17 (by decide) kz) ?_
    refine WQ.st (fun _ _ kz => pw_lconst (v := 1) dX12_chance_18 (by decide) kz) ?_
    refine WQ.st (fun _ _ kz => pw_s3i wX12_within lX12_152 dX12_chance_19 (c_withinI _ _ _) rfl (Nat.le_of_ble_eq_true rfl) (Nat.le_of_ble_eq_true rfl) kz) ?_
    refine WQ.bn (fun _ _ ka kb => pw_if_ne (tgt := 29) dX12_chance_22 (by decide) ka kb) (fun c22 => ?_) (fun c22 => ?_)
    · rw [bI_n] at c22
      have c22 : 0 ≤ w.toInt ∧ w.toInt ≤ 1 := by
        rw [il_t] at c22
        exact of_decide_eq_true c22
      refine WQ.st (fun _ _ kz => pw_iload3 dX12_chance_29 kz) ?_
      refine WQ.st (fun _ _ kz => pw_i2l dX12_chance_30 kz) ?_
      refine WQ.st (fun _ _ kz => pw_s1i wX12_isStore lX12_240 dX12_chance_31 (c_isStoreI _) rfl (Nat.le_of_ble_eq_true rfl) (Nat.le_of_ble_eq_true rfl) kz) ?_
      refine WQ.bn (fun _ _ ka kb => pw_if_ne (tgt := 41) dX12_chance_34 (by decide) ka kb) (fun c34 => ?_) (fun c34 => ?_)
      · rw [bI_n] at c34
        rw [il_t] at c34
        obtain ⟨g0, eg, tg, hg0⟩ := isS_get c34
        rw [ep, eq, eg]
        refine WQ.st (fun _ _ kz => pw_aload0 dX12_chance_41 kz) ?_
        refine WQ.st (fun _ _ kz => pw_iload1 dX12_chance_42 kz) ?_
        refine WQ.st (fun _ _ kz => pw_iload2 dX12_chance_43 kz) ?_
        obtain ⟨A2, k2, h2⟩ := c_laysGlads (d := d + 85) (P := P) (S := S) (G := G) (V := (up2 V o 0 0)) (A := A) (B := B) (Q := Q) (t := t) (sl := sl) hF hp hq (hA.dv.lgE hq).2 (by rw [(hA.dv.lgE hq).1]; exact ix_n (by have := (hA.dv.lgE hq).2; omega)) hA.dv.gl hA.dv.ml
        have e2 : A2 (o + 1) = A (o + 1) := h2.1 _ (by omega) (by omega) (by omega)
        have hTT : ∀ b l s w, b < lgN (A (o + 1)) q → l < 5 → s < 41 → w < 5 → rT (A2 (o + 7)) b l s w = TT (A (o + 1)) p q b l s w := fun b l s w hb hl hs hw => h2.rT hb hl hs hw
        have hp12 := p10_12 (hA.dv.lgE hq).2
        have hp0 : 0 < 10 ^ lgN (A (o + 1)) q := (by first | exact Nat.pow_pos (by decide) | exact Nat.pos_pow_of_pos _ (by decide))
        refine WQ.st (fun _ _ kz => pw_o2v wX12_laysGlads lX12_299 rfl dX12_chance_44 hF.1 (k2) rfl (Nat.le_of_ble_eq_true rfl) (Nat.le_of_ble_eq_true rfl) kz) ?_
        refine WQ.st (fun _ _ kz => pw_aload0 dX12_chance_47 kz) ?_
        refine WQ.st (fun _ _ kz => pw_aload0 dX12_chance_48 kz) ?_
        refine WQ.st (fun _ _ kz => pw_getr gX12_13 dX12_chance_49 hF.1 (mf_p1 hF) kz) ?_
        refine WQ.st (fun _ _ kz => pw_bipush (v := 10) dX12_chance_52 (by decide) kz) ?_
        refine WQ.st (fun _ _ kz => pw_iload2 dX12_chance_54 kz) ?_
        refine WQ.st (fun _ _ kz => pw_iadd dX12_chance_55 kz) ?_
        refine WQ.st (fun _ _ kz => pw_ald (j := 10 + q) dX12_chance_56 (mf_s1 hF) (by simp (disch := omega) only [nl_10, nI_add, pk_mul, pk_sub]; exact ix_m (by omega) (by omega)) (by omega) kz) ?_
        rw [e2, (hA.dv.lgE hq).1]
        refine WQ.st (fun _ _ kz => pw_aload0 dX12_chance_57 kz) ?_
        refine WQ.st (fun _ _ kz => pw_getr gX12_13 dX12_chance_58 hF.1 (mf_p1 hF) kz) ?_
        refine WQ.st (fun _ _ kz => pw_bipush (v := 77) dX12_chance_61 (by decide) kz) ?_
        refine WQ.st (fun _ _ kz => pw_iload1 dX12_chance_63 kz) ?_
        refine WQ.st (fun _ _ kz => pw_iadd dX12_chance_64 kz) ?_
        refine WQ.st (fun _ _ kz => pw_ald (j := 77 + p) dX12_chance_65 (mf_s1 hF) (by simp (disch := omega) only [nl_77, nI_add, pk_mul, pk_sub]; exact ix_m (by omega) (by omega)) (by omega) kz) ?_
        rw [e2, (hA.kv.stE hp).1]
        refine WQ.st (fun _ _ kz => pw_iload3 dX12_chance_66 kz) ?_
        obtain ⟨B2, k3, f1, f2⟩ := q_chanceFrom (d := d + 84) (P := P) (S := S) (G := G) (V := (up2 V o 0 0)) (A := A2) (B := B) (Q := Q) (t := t) (sl := sl) hF e2 hA.dv hq hTT (hA.kv.stE hp).2 hg0
        have hgp : 0 < Nat.gcd (chN (A (o + 1)) p q (stN (A (o + 1)) p) g0) (10 ^ lgN (A (o + 1)) q) := Nat.gcd_pos_of_pos_right _ hp0
        have hgl : Nat.gcd (chN (A (o + 1)) p q (stN (A (o + 1)) p) g0) (10 ^ lgN (A (o + 1)) q) ≤ (10 ^ lgN (A (o + 1)) q) := Nat.le_of_dvd hp0 (Nat.gcd_dvd_right _ _)
        refine WQ.st (fun _ _ kz => pw_o3i wX12_chanceFrom lX12_498 rfl dX12_chance_67 hF.1 (k3.mono (by omega)) rfl (Nat.le_of_ble_eq_true rfl) (Nat.le_of_ble_eq_true rfl) kz) ?_
        refine WQ.st (fun _ _ kz => pw_lstore5 dX12_chance_70 (by decide) (k := kz)) ?_
        refine WQ.st (fun _ _ kz => pw_aload0 dX12_chance_72 kz) ?_
        refine WQ.st (fun _ _ kz => pw_getr gX12_13 dX12_chance_73 hF.1 (mf_p1 hF) kz) ?_
        refine WQ.st (fun _ _ kz => pw_bipush (v := 10) dX12_chance_76 (by decide) kz) ?_
        refine WQ.st (fun _ _ kz => pw_iload2 dX12_chance_78 kz) ?_
        refine WQ.st (fun _ _ kz => pw_iadd dX12_chance_79 kz) ?_
        refine WQ.st (fun _ _ kz => pw_ald (j := 10 + q) dX12_chance_80 (mf_s1 hF) (by simp (disch := omega) only [nl_10, nI_add, pk_mul, pk_sub]; exact ix_m (by omega) (by omega)) (by omega) kz) ?_
        rw [e2, (hA.dv.lgE hq).1]
        refine WQ.st (fun _ _ kz => pw_s1i wX12_tens lX12_502 dX12_chance_81 (c_tens (by have := (hA.dv.lgE hq).2; omega)) rfl (Nat.le_of_ble_eq_true rfl) (Nat.le_of_ble_eq_true rfl) kz) ?_
        refine WQ.st (fun _ _ kz => pw_lstore7 dX12_chance_84 (by decide) (k := kz)) ?_
        refine WQ.st (fun _ _ kz => pw_lload5 dX12_chance_86 kz) ?_
        refine WQ.st (fun _ _ kz => pw_lload7 dX12_chance_88 kz) ?_
        have kc := c_common (G := G) (d := d + 8) (h := (t, sl, gh S (up2 V o 0 0) P A2 B2 Q)) 40 (chN (A (o + 1)) p q (stN (A (o + 1)) p) g0) (10 ^ lgN (A (o + 1)) q) (by omega) (by omega) (by omega)
        refine WQ.st (fun _ _ kz => pw_s2i wX12_common lX12_491 dX12_chance_90 (kc.mono (by omega)) rfl (Nat.le_of_ble_eq_true rfl) (Nat.le_of_ble_eq_true rfl) kz) ?_
        refine WQ.st (fun _ _ kz => pw_lstore9 dX12_chance_93 (by decide) (k := kz)) ?_
        refine WQ.st (fun _ _ kz => pw_iload4 dX12_chance_95 kz) ?_
        refine WQ.bn (fun _ _ ka kb => pw_if_ne (tgt := 105) dX12_chance_97 (by decide) ka kb) (fun c97 => ?_) (fun c97 => ?_)
        · refine WQ.st (fun _ _ kz => pw_lload7 dX12_chance_105 kz) ?_
          refine WQ.st (fun _ _ kz => pw_lload9 dX12_chance_107 kz) ?_
          refine WQ.st (fun _ _ kz => pw_ldiv dX12_chance_109 (by rw [show (0 : Int64) = lN 0 from rfl, lN_inj (by omega) (by decide)]; omega) kz) ?_
          rw [lN_div (by omega) (by omega)]
          refine ⟨_, _, pw_lret dX12_chance_110 rfl rfl rfl, ?_⟩
          have c0 : sp_chance (A (o + 1)) x.toInt y.toInt g.toInt w.toInt = lN ((10 ^ lgN (A (o + 1)) q) / Nat.gcd (chN (A (o + 1)) p q (stN (A (o + 1)) p) g0) (10 ^ lgN (A (o + 1)) q)) := by unfold sp_chance; rw [c11, decide_eq_true c22, if_pos (by rfl), if_pos c34, tp, tq, tg, Int.toNat_natCast, Int.toNat_natCast, show ((g0 : Int) - 20 + 20).toNat = g0 by omega, if_neg (i32_ne (z := 0) rfl c97)]
          rw [← ep, ← eq, ← eg, c0]
          exact PZ.q (FP.up (by decide)) (fun a ha => h2.1 a (by omega) (by omega) (by omega)) f1
        · refine WQ.st (fun _ _ kz => pw_lload5 dX12_chance_100 kz) ?_
          refine WQ.st (fun _ _ kz => pw_goto (tgt := 107) dX12_chance_102 (by decide) kz) ?_
          refine WQ.st (fun _ _ kz => pw_lload9 dX12_chance_107 kz) ?_
          refine WQ.st (fun _ _ kz => pw_ldiv dX12_chance_109 (by rw [show (0 : Int64) = lN 0 from rfl, lN_inj (by omega) (by decide)]; omega) kz) ?_
          rw [lN_div (by omega) (by omega)]
          refine ⟨_, _, pw_lret dX12_chance_110 rfl rfl rfl, ?_⟩
          have c0 : sp_chance (A (o + 1)) x.toInt y.toInt g.toInt w.toInt = lN ((chN (A (o + 1)) p q (stN (A (o + 1)) p) g0) / Nat.gcd (chN (A (o + 1)) p q (stN (A (o + 1)) p) g0) (10 ^ lgN (A (o + 1)) q)) := by unfold sp_chance; rw [c11, decide_eq_true c22, if_pos (by rfl), if_pos c34, tp, tq, tg, Int.toNat_natCast, Int.toNat_natCast, show ((g0 : Int) - 20 + 20).toNat = g0 by omega, if_pos (show w.toInt = 0 by rw [c97]; rfl)]
          rw [← ep, ← eq, ← eg, c0]
          exact PZ.q (FP.up (by decide)) (fun a ha => h2.1 a (by omega) (by omega) (by omega)) f1
      · rw [bI_0] at c34
        rw [il_t] at c34
        refine WQ.st (fun _ _ kz => pw_ldc2 kX12_438 dX12_chance_37 kz) ?_
        refine ⟨_, _, pw_lret dX12_chance_40 rfl rfl rfl, ?_⟩
        have c0 : sp_chance (A (o + 1)) x.toInt y.toInt g.toInt w.toInt = -99000003 := by unfold sp_chance; rw [c11, decide_eq_true c22, if_pos (by rfl), if_neg (by rw [c34]; decide)]
        rw [c0]
        exact PZ.q (FP.up (by decide)) FQ.rfl FB.rfl
    · rw [bI_0] at c22
      have c22 : ¬ (0 ≤ w.toInt ∧ w.toInt ≤ 1) := by
        rw [il_t] at c22
        exact of_decide_eq_false c22
      refine WQ.st (fun _ _ kz => pw_ldc2 kX12_436 dX12_chance_25 kz) ?_
      refine ⟨_, _, pw_lret dX12_chance_28 rfl rfl rfl, ?_⟩
      have c0 : sp_chance (A (o + 1)) x.toInt y.toInt g.toInt w.toInt = -99000002 := by unfold sp_chance; rw [c11, decide_eq_false c22, if_neg (by decide)]
      rw [c0]
      exact PZ.q (FP.up (by decide)) FQ.rfl FB.rfl
def sp_putBy (al : Nat → Int32) (x y m : Int) : Int32 := if isP al x && isQ al y then (if 0 ≤ m ∧ m ≤ 100 then up1 (fun s => decide (m.toNat * 10 ^ lgN al y.toNat ≤ chN al x.toNat y.toNat s 20 * 100)) 41 0 else -99000003) else -99000002
set_option maxRecDepth 20000 in
theorem l_putBy {G : gT} {d : Nat} {S : sS} {V : sV} {P : sP} {A : sV} {Q : sP} {t sl o : Nat} (hF : MF S P o) {al : Nat → Int32} (hal : A (o + 1) = al) (hD : DV al) {p q m0 : Nat} (hq : q < 4) (hm : m0 ≤ 100) (hTT : ∀ b l s w, b < lgN al q → l < 5 → s < 41 → w < 5 → rT (A (o + 7)) b l s w = TT al p q b l s w) {B0 : sB} : ∀ (m k : Nat) (B : sB), k + m = 41 → FB o B0 B → WQ G (d + 5) mX12_putBy 42 [some (.ref o), some (.int (nI p)), some (.int (nI q)), some (.int (nI m0)), some (.int (sI k))] [] (t, sl, gh S V P A B Q) (fun r h' => r = some (.int (up1 (fun s => decide (m0 * 10 ^ lgN al q ≤ chN al p q s 20 * 100)) m k)) ∧ ∃ B' : sB, h' = (t, sl, gh S V P A B' Q) ∧ FB o B0 B') := by
  intro m
  induction m with
  | zero =>
    intro k B hk hB
    have hk : k = 41 := hk
    subst hk
    refine WQ.st (fun _ _ kz => pw_iload4 dX12_putBy_42 kz) ?_
    refine WQ.st (fun _ _ kz => pw_bipush (v := 20) dX12_putBy_44 (by decide) kz) ?_
    refine WQ.br (fun _ _ ka kb => pw_icmp_gt (tgt := 97) dX12_putBy_46 (by decide) ka kb) (fun c46 => ?_) (fun c46 => absurd (by decide) c46)
    refine WQ.st (fun _ _ kz => pw_ldcw kX12_422 dX12_putBy_97 kz) ?_
    refine ⟨_, _, pw_iret dX12_putBy_100 rfl rfl rfl rfl, ?_⟩
    exact ⟨rfl, B, rfl, hB⟩
  | succ m ih =>
    intro k B hk hB
    refine WQ.st (fun _ _ kz => pw_iload4 dX12_putBy_42 kz) ?_
    refine WQ.st (fun _ _ kz => pw_bipush (v := 20) dX12_putBy_44 (by decide) kz) ?_
    refine WQ.br (fun _ _ ka kb => pw_icmp_gt (tgt := 97) dX12_putBy_46 (by decide) ka kb) (fun c46 => absurd c46 (by rw [lt_i (show (20 : Int32).toInt = 20 by decide) (sI_t (by omega))]; omega)) (fun c46 => ?_)
    refine WQ.st (fun _ _ kz => pw_aload0 dX12_putBy_49 kz) ?_
    refine WQ.st (fun _ _ kz => pw_aload0 dX12_putBy_50 kz) ?_
    refine WQ.st (fun _ _ kz => pw_getr gX12_13 dX12_putBy_51 hF.1 (mf_p1 hF) kz) ?_
    refine WQ.st (fun _ _ kz => pw_bipush (v := 10) dX12_putBy_54 (by decide) kz) ?_
    refine WQ.st (fun _ _ kz => pw_iload2 dX12_putBy_56 kz) ?_
    refine WQ.st (fun _ _ kz => pw_iadd dX12_putBy_57 kz) ?_
    refine WQ.st (fun _ _ kz => pw_ald (j := 10 + q) dX12_putBy_58 (mf_s1 hF) (by simp (disch := omega) only [nl_10, nI_add, pk_mul, pk_sub]; exact ix_m (by omega) (by omega)) (by omega) kz) ?_
    rw [hal, (hD.lgE hq).1]
    refine WQ.st (fun _ _ kz => pw_iload4 dX12_putBy_59 kz) ?_
    refine WQ.st (fun _ _ kz => pw_iconst (v := 0) dX12_putBy_61 (by decide) kz) ?_
    obtain ⟨B2, k3, f1, f2⟩ := q_chanceFrom (d := d) (P := P) (S := S) (G := G) (V := V) (A := A) (B := B) (Q := Q) (t := t) (sl := sl) hF hal hD hq hTT (s0 := k) (g0 := 20) (by omega) (by decide)
    have hp12 := p10_12 (hD.lgE hq).2
    refine WQ.st (fun _ _ kz => pw_o3i wX12_chanceFrom lX12_498 rfl dX12_putBy_62 hF.1 (k3) rfl (Nat.le_of_ble_eq_true rfl) (Nat.le_of_ble_eq_true rfl) kz) ?_
    refine WQ.st (fun _ _ kz => pw_ldc2 kX12_367 dX12_putBy_65 kz) ?_
    refine WQ.st (fun _ _ kz => pw_lmul dX12_putBy_68 kz) ?_
    rw [lj_100, lN_mul]
    refine WQ.st (fun _ _ kz => pw_iload3 dX12_putBy_69 kz) ?_
    refine WQ.st (fun _ _ kz => pw_i2l dX12_putBy_70 kz) ?_
    rw [nI_l (by omega)]
    refine WQ.st (fun _ _ kz => pw_aload0 dX12_putBy_71 kz) ?_
    refine WQ.st (fun _ _ kz => pw_getr gX12_13 dX12_putBy_72 hF.1 (mf_p1 hF) kz) ?_
    refine WQ.st (fun _ _ kz => pw_bipush (v := 10) dX12_putBy_75 (by decide) kz) ?_
    refine WQ.st (fun _ _ kz => pw_iload2 dX12_putBy_77 kz) ?_
    refine WQ.st (fun _ _ kz => pw_iadd dX12_putBy_78 kz) ?_
    refine WQ.st (fun _ _ kz => pw_ald (j := 10 + q) dX12_putBy_79 (mf_s1 hF) (by simp (disch := omega) only [nl_10, nI_add, pk_mul, pk_sub]; exact ix_m (by omega) (by omega)) (by omega) kz) ?_
    rw [hal, (hD.lgE hq).1]
    refine WQ.st (fun _ _ kz => pw_s1i wX12_tens lX12_502 dX12_putBy_80 (c_tens (by have := (hD.lgE hq).2; omega)) rfl (Nat.le_of_ble_eq_true rfl) (Nat.le_of_ble_eq_true rfl) kz) ?_
    refine WQ.st (fun _ _ kz => pw_lmul dX12_putBy_83 kz) ?_
    rw [lN_mul]
    refine WQ.st (fun _ _ kz => pw_lcmp dX12_putBy_84 kz) ?_
    refine WQ.br (fun _ _ ka kb => pw_if_lt (tgt := 91) dX12_putBy_85 (by decide) ka kb) (fun c85 => ?_) (fun c85 => ?_)
    · refine WQ.st (fun _ _ kz => pw_iinc4 (v := 1) dX12_putBy_91 (by decide) (by decide) (k := kz)) ?_
      refine WQ.st (fun _ _ kz => pw_goto (tgt := 42) dX12_putBy_94 (by decide) kz) ?_
      rw [lg_cmp_lt, Int64.lt_iff_toInt_lt, lN_t (by omega), lN_t (by have := Nat.mul_le_mul hm hp12; omega)] at c85
      rw [sI_1]
      refine (ih (k + 1) B2 (by omega) (hB.tr f1)).imp (fun r h' z => ?_)
      rw [up1, if_neg (by rw [decide_eq_true_eq]; omega)]
      exact z
    · refine WQ.st (fun _ _ kz => pw_iload4 dX12_putBy_88 kz) ?_
      refine ⟨_, _, pw_iret dX12_putBy_90 rfl rfl rfl rfl, ?_⟩
      rw [lg_cmp_lt, Int64.lt_iff_toInt_lt, lN_t (by omega), lN_t (by have := Nat.mul_le_mul hm hp12; omega)] at c85
      rw [up1, if_pos (by rw [decide_eq_true_eq]; omega)]
      exact ⟨rfl, B2, rfl, hB.tr f1⟩
set_option maxRecDepth 20000 in
theorem p_putBy {G : gT} {d : Nat} {S : sS} {V : sV} {P : sP} {A : sV} {B : sB} {Q : sP} {t sl o : Nat} (hF : MF S P o) (hA : AV (A (o + 1)))  (x y m : Int32) : WQ G (d + 9) mX12_putBy 0 [some (.ref o), some (.int x), some (.int y), some (.int m), none] [] (t, sl, gh S V P A B Q) (PZ o S P Q t sl V A B (.int (sp_putBy (A (o + 1)) x.toInt y.toInt m.toInt)) (A (o + 1))) := by
  refine WQ.st (fun _ _ kz => pw_aload0 dX12_putBy_0 kz) ?_
  refine WQ.st (fun _ _ kz => pw_iconst (v := 0) dX12_putBy_1 (by decide) kz) ?_
  refine WQ.st (fun _ _ kz => pw_puti (pX12_1 _ rfl) dX12_putBy_2 hF.1 rfl rfl kz) ?_
  refine WQ.st (fun _ _ kz => pw_aload0 dX12_putBy_5 kz) ?_
  refine WQ.st (fun _ _ kz => pw_iload1 dX12_putBy_6 kz) ?_
  refine WQ.st (fun _ _ kz => pw_iload2 dX12_putBy_7 kz) ?_
  obtain ⟨_, _, k8, rfl, rfl⟩ := c_areBoth (d := d + 6) (P := P) (S := S) (G := G) (V := (up2 V o 0 0)) (A := A) (B := B) (Q := Q) (t := t) (sl := sl) hF hA.dv x y
  refine WQ.st (fun _ _ kz => pw_o2i wX12_areBoth lX12_413 rfl dX12_putBy_8 hF.1 (k8) rfl (Nat.le_of_ble_eq_true rfl) (Nat.le_of_ble_eq_true rfl) kz) ?_
  refine WQ.bn (fun _ _ ka kb => pw_if_ne (tgt := 17) dX12_putBy_11 (by decide) ka kb) (fun c11 => ?_) (fun c11 => ?_)
  · rw [bI_n] at c11
    have hb11 := Bool.and_eq_true _ _ |>.mp c11
    have hp5 := hA.dv.p5
    have hn4 := hA.dv.n4
    have g1p := isP_t hb11.1
    have g2q := isQ_t hb11.2
    obtain ⟨p, ep, tp, lp⟩ := nI_get g1p.1 g1p.2 (by omega)
    obtain ⟨q, eq, tq, lq⟩ := nI_get g2q.1 g2q.2 (by omega)
    have hp : p < 5 := by omega
    have hq : q < 4 := by omega
    
    refine WQ.st (fun _ _ kz => pw_iload3 dX12_putBy_17 kz) ?_
    refine WQ.st (fun _ _ kz => pw_i2l dX12_putBy_18 kz) ?_
    refine WQ.st (fun _ _ kz => pw_lconst (v := 0) dX12_putBy_19 (by decide) kz) ?_
    refine WQ.st (fun _ _ kz => pw_ldc2 kX12_367 dX12_putBy_20 kz) ?_
    refine WQ.st (fun _ _ kz => pw_s3i wX12_within lX12_152 dX12_putBy_23 (c_withinI _ _ _) rfl (Nat.le_of_ble_eq_true rfl) (Nat.le_of_ble_eq_true rfl) kz) ?_
    refine WQ.bn (fun _ _ ka kb => pw_if_ne (tgt := 32) dX12_putBy_26 (by decide) ka kb) (fun c26 => ?_) (fun c26 => ?_)
    · rw [bI_n] at c26
      have c26 : 0 ≤ m.toInt ∧ m.toInt ≤ 100 := by
        rw [il_t] at c26
        exact of_decide_eq_true c26
      obtain ⟨m0, em, tm, lm⟩ := nI_get (x := m) (n := 101) (by omega) (by omega) (by decide)
      rw [ep, eq, em]
      refine WQ.st (fun _ _ kz => pw_aload0 dX12_putBy_32 kz) ?_
      refine WQ.st (fun _ _ kz => pw_iload1 dX12_putBy_33 kz) ?_
      refine WQ.st (fun _ _ kz => pw_iload2 dX12_putBy_34 kz) ?_
      obtain ⟨A2, k2, h2⟩ := c_laysGlads (d := d + 4) (P := P) (S := S) (G := G) (V := (up2 V o 0 0)) (A := A) (B := B) (Q := Q) (t := t) (sl := sl) hF hp hq (hA.dv.lgE hq).2 (by rw [(hA.dv.lgE hq).1]; exact ix_n (by have := (hA.dv.lgE hq).2; omega)) hA.dv.gl hA.dv.ml
      have e2 : A2 (o + 1) = A (o + 1) := h2.1 _ (by omega) (by omega) (by omega)
      have hTT : ∀ b l s w, b < lgN (A (o + 1)) q → l < 5 → s < 41 → w < 5 → rT (A2 (o + 7)) b l s w = TT (A (o + 1)) p q b l s w := fun b l s w hb hl hs hw => h2.rT hb hl hs hw
      refine WQ.st (fun _ _ kz => pw_o2v wX12_laysGlads lX12_299 rfl dX12_putBy_35 hF.1 (k2) rfl (Nat.le_of_ble_eq_true rfl) (Nat.le_of_ble_eq_true rfl) kz) ?_
      refine WQ.st (fun _ _ kz => pw_bipush (v := -20) dX12_putBy_38 (by decide) kz) ?_
      refine WQ.st (fun _ _ kz => pw_istore4 dX12_putBy_40 (by decide) (k := kz)) ?_
      rw [show (-20 : Int32) = sI 0 from rfl]
      refine (l_putBy (S := S) (P := P) (G := G) (V := up2 V o 0 0) (A := A2) (Q := Q) (t := t) (sl := sl) (d := d + 4) hF e2 hA.dv (p := p) (m0 := m0) hq (by omega) hTT (B0 := B) 41 0 B rfl FB.rfl).imp (fun r h' z => ?_)
      obtain ⟨rfl, B3, rfl, f1⟩ := z
      have c0 : sp_putBy (A (o + 1)) x.toInt y.toInt m.toInt = up1 (fun s => decide (m0 * 10 ^ lgN (A (o + 1)) q ≤ chN (A (o + 1)) p q s 20 * 100)) 41 0 := by unfold sp_putBy; rw [if_pos c11, if_pos c26, tp, tq, tm, Int.toNat_natCast, Int.toNat_natCast, Int.toNat_natCast]
      rw [← ep, ← eq, ← em, c0]
      exact PZ.q (FP.up (by decide)) (fun a ha => h2.1 a (by omega) (by omega) (by omega)) f1
    · rw [bI_0] at c26
      have c26 : ¬ (0 ≤ m.toInt ∧ m.toInt ≤ 100) := by
        rw [il_t] at c26
        exact of_decide_eq_false c26
      refine WQ.st (fun _ _ kz => pw_ldc kX12_206 dX12_putBy_29 kz) ?_
      refine ⟨_, _, pw_iret dX12_putBy_31 rfl rfl rfl rfl, ?_⟩
      have c0 : sp_putBy (A (o + 1)) x.toInt y.toInt m.toInt = -99000003 := by unfold sp_putBy; rw [if_pos c11, if_neg c26]
      rw [c0]
      exact PZ.q (FP.up (by decide)) FQ.rfl FB.rfl
  · rw [bI_0] at c11
    refine WQ.st (fun _ _ kz => pw_ldc kX12_247 dX12_putBy_14 kz) ?_
    refine ⟨_, _, pw_iret dX12_putBy_16 rfl rfl rfl rfl, ?_⟩
    have c0 : sp_putBy (A (o + 1)) x.toInt y.toInt m.toInt = -99000002 := by unfold sp_putBy; rw [if_neg (by rw [c11]; decide)]
    rw [c0]
    exact PZ.q (FP.up (by decide)) FQ.rfl FB.rfl
