theorem ch_le {al : Nat → Int32} (hD : DV al) {np : Int} (hK : KV np (fun k => al (75 + k))) {p q : Nat} (hp : p < 5) (hq : q < 4) {s0 g0 : Nat} (hg : g0 < 41) : chN al p q s0 g0 ≤ 10 ^ lgN al q := by
  obtain ⟨tm, ht, etm, hat⟩ := hK.tmE hp
  have hn12 := (hD.lgE hq).2
  have hk := hD.k10
  have hw : ∀ b, b < lgN al q → wtOK (wtH (TT (atm al p tm) p q) (al 3).toInt.toNat b) (asks al 6) := fun b hb => wtH_ok (fun l s w hl hs hw h => TT_in h) (fun h l s w hl hs hw => TT_l2 hD hp ht hq h (by omega) hl hs hw)
  rw [hat] at hw
  have e := cIt_sum (s0 := s0) hw hg
  have e2 : chN al p q s0 g0 = sm (fun i => sm (fun l => rIt (wtH (TT al p q) (al 3).toInt.toNat) s0 (lgN al q) l (g0 + i)) 5) (41 - g0) := by
    unfold chN rf_hs
    exact sm_cong _ (fun i _ => sm_cong 5 (fun l _ => (wtH_rf _ _ _).symm))
  rw [e2, ← e]
  have e3 := sm_app (cIt (wtH (TT al p q) (al 3).toInt.toNat) (asks al 6) s0 (lgN al q)) (g0 * 5) (205 - g0 * 5)
  rw [show g0 * 5 + (205 - g0 * 5) = 205 by omega] at e3
  have e4 := cIt_le (wt := wtH (TT al p q) (al 3).toInt.toNat) (bl := asks al 6) (s0 := s0) (n := lgN al q) (m := 10) (fun b l s _ _ _ => wtH_le (by omega) b l s) (lgN al q) (Nat.le_refl _)
  omega
set_option maxRecDepth 20000 in
theorem s_cd {G : gT} {d : Nat} {h : Ph} {a b i : Nat} (ha : a < 9223372036854775808) (hb : b < 9223372036854775808) (h0 : ¬ b = 0) (hi : i < 200) {y : Option Value} {Z : Option Value → Ph → Prop} (kc : ∀ y, WQ G d mX11_commonDivisor 3 [some (.long (lN b)), none, some (.long (lN (a % b))), none, some (.int (nI (i + 1))), y, none] [] h Z) : WQ G d mX11_commonDivisor 3 [some (.long (lN a)), none, some (.long (lN b)), none, some (.int (nI i)), y, none] [] h Z := by
  refine WQ.st (fun _ _ kz => pw_iload4 dX11_commonDivisor_3 kz) ?_
  refine WQ.st (fun _ _ kz => pw_sipush (v := 200) dX11_commonDivisor_5 (by decide) kz) ?_
  refine WQ.br (fun _ _ ka kb => pw_icmp_ge (tgt := 33) dX11_commonDivisor_8 (by decide) ka kb) (fun c8 => absurd c8 (by rw [le_i (show (200 : Int32).toInt = 200 from rfl) (ix_n (by omega))]; omega)) (fun c8 => ?_)
  refine WQ.st (fun _ _ kz => pw_lload2 dX11_commonDivisor_11 kz) ?_
  refine WQ.st (fun _ _ kz => pw_lconst (v := 0) dX11_commonDivisor_12 (by decide) kz) ?_
  refine WQ.st (fun _ _ kz => pw_lcmp dX11_commonDivisor_13 kz) ?_
  refine WQ.br (fun _ _ ka kb => pw_if_eq (tgt := 33) dX11_commonDivisor_14 (by decide) ka kb) (fun c14 => absurd c14 (by rw [lg_cmp_eq, show (0 : Int64) = lN 0 from rfl, lN_inj hb (by omega)]; exact h0)) (fun c14 => ?_)
  refine WQ.st (fun _ _ kz => pw_lload0 dX11_commonDivisor_17 kz) ?_
  refine WQ.st (fun _ _ kz => pw_lload2 dX11_commonDivisor_18 kz) ?_
  refine WQ.st (fun _ _ kz => pw_lrem dX11_commonDivisor_19 (by rw [show (0 : Int64) = lN 0 from rfl, lN_inj hb (by omega)]; exact h0) kz) ?_
  rw [lN_rem ha hb]
  refine WQ.st (fun _ _ kz => pw_lstore5 dX11_commonDivisor_20 (by decide) (k := kz)) ?_
  refine WQ.st (fun _ _ kz => pw_lload2 dX11_commonDivisor_22 kz) ?_
  refine WQ.st (fun _ _ kz => pw_lstore0 dX11_commonDivisor_23 (by decide) kz) ?_
  refine WQ.st (fun _ _ kz => pw_lload5 dX11_commonDivisor_24 kz) ?_
  refine WQ.st (fun _ _ kz => pw_lstore2 dX11_commonDivisor_26 (by decide) (k := kz)) ?_
  refine WQ.st (fun _ _ kz => pw_iinc4 (v := 1) dX11_commonDivisor_27 (by decide) (by decide) (k := kz)) ?_
  refine WQ.st (fun _ _ kz => pw_goto (tgt := 3) dX11_commonDivisor_30 (by decide) kz) ?_
  rw [nI_1]
  exact kc _
set_option maxRecDepth 20000 in
theorem z_cd {G : gT} {d : Nat} {h : Ph} {a i : Nat} (hi : i < 200) {y : Option Value} : WQ G d mX11_commonDivisor 3 [some (.long (lN a)), none, some (.long (lN 0)), none, some (.int (nI i)), y, none] [] h (fun r h' => r = some (.long (lN (Nat.gcd a 0))) ∧ h' = h) := by
  refine WQ.st (fun _ _ kz => pw_iload4 dX11_commonDivisor_3 kz) ?_
  refine WQ.st (fun _ _ kz => pw_sipush (v := 200) dX11_commonDivisor_5 (by decide) kz) ?_
  refine WQ.br (fun _ _ ka kb => pw_icmp_ge (tgt := 33) dX11_commonDivisor_8 (by decide) ka kb) (fun c8 => absurd c8 (by rw [le_i (show (200 : Int32).toInt = 200 from rfl) (ix_n (by omega))]; omega)) (fun c8 => ?_)
  refine WQ.st (fun _ _ kz => pw_lload2 dX11_commonDivisor_11 kz) ?_
  refine WQ.st (fun _ _ kz => pw_lconst (v := 0) dX11_commonDivisor_12 (by decide) kz) ?_
  refine WQ.st (fun _ _ kz => pw_lcmp dX11_commonDivisor_13 kz) ?_
  refine WQ.br (fun _ _ ka kb => pw_if_eq (tgt := 33) dX11_commonDivisor_14 (by decide) ka kb) (fun c14 => ?_) (fun c14 => absurd (by rw [lg_cmp_eq]; rfl) c14)
  refine WQ.st (fun _ _ kz => pw_lload0 dX11_commonDivisor_33 kz) ?_
  refine ⟨_, _, pw_lret dX11_commonDivisor_34 rfl rfl rfl, ?_⟩
  exact ⟨by rw [Nat.gcd_zero_right], rfl⟩
theorem q_cdL {G : gT} {d : Nat} {h : Ph} : ∀ (k a b i : Nat) (y : Option Value), a < 9223372036854775808 → b < 2 ^ k → b < 9223372036854775808 → i + 2 * k < 200 → WQ G d mX11_commonDivisor 3 [some (.long (lN a)), none, some (.long (lN b)), none, some (.int (nI i)), y, none] [] h (fun r h' => r = some (.long (lN (Nat.gcd a b))) ∧ h' = h) := by
  intro k
  induction k with
  | zero =>
    intro a b i y ha hb hb2 hi
    have : b = 0 := by omega
    subst this
    exact z_cd (by omega)
  | succ k ih =>
    intro a b i y ha hb hb2 hi
    by_cases h0 : b = 0
    · subst h0
      exact z_cd (by omega)
    · have hm : a % b < b := Nat.mod_lt a (by omega)
      refine s_cd ha hb2 h0 (by omega) (fun y => ?_)
      rw [← common_1 (x := a) h0]
      by_cases h1 : a % b = 0
      · rw [h1]
        exact z_cd (by omega)
      · by_cases hz : a % b < 2 ^ k
        · exact ih b (a % b) (i + 1) _ hb2 hz (by omega) (by omega)
        · refine s_cd hb2 (by omega) h1 (by omega) (fun y => ?_)
          rw [← common_1 (x := b) h1]
          have hlt : b % (a % b) < 2 ^ k := by
            have e1 : b % (a % b) = b - (a % b) := by
              rw [Nat.mod_eq_sub_mod (by omega), Nat.mod_eq_of_lt (by rw [Nat.pow_succ] at hb; omega)]
            rw [e1, Nat.pow_succ] at *
            omega
          exact ih (a % b) (b % (a % b)) (i + 2) _ (by omega) hlt (by omega) (by omega)
set_option maxRecDepth 20000 in
theorem k_commonDivisor {G : gT} {d : Nat} {h : Ph} {a b : Nat} (ha : a < 9223372036854775808) (hb : b < 9223372036854775808) : WQ G d mX11_commonDivisor 0 [some (.long (lN a)), none, some (.long (lN b)), none, none, none, none] [] h (fun r h' => r = some (.long (lN (Nat.gcd a b))) ∧ h' = h) := by
  refine WQ.st (fun _ _ kz => pw_iconst (v := 0) dX11_commonDivisor_0 (by decide) kz) ?_
  refine WQ.st (fun _ _ kz => pw_istore4 dX11_commonDivisor_1 (by decide) (k := kz)) ?_
  rw [show (0 : Int32) = nI 0 from rfl]
  exact q_cdL 63 a b 0 none ha hb hb (by omega)
set_option maxRecDepth 20000 in
theorem q_chance {G : gT} {d : Nat} {S : sS} {V : sV} {P : sP} {A : sV} {B : sB} {Q : sP} {t sl : Nat} {al : Nat → Int32} {W : WT} {sh ls : Nat} (hI : CI S V P A B Q t al W sh ls) (hls : ls + 1000 < 2000000000) (x y g w : Int32) : WQ G (d + 9) mX11_chance 0 [some (.ref 8), some (.int x), some (.int y), some (.int g), some (.int w), none, none, none, none, none, none] [] (t, sl, gh S V P A B Q) (CZ S V P A B Q t sl W sh ls (.long (sp_chance al x.toInt y.toInt g.toInt w.toInt)) al) := by
  unfold CZ
  have hE := hI.de
  have hC := hE.dc.ka.cf
  have hD := hE.dc.ka.dv
  have hSe := hE.dc.ka.se
  have hA := hI.av
  have hp5 := hD.p5
  have hn4 := hD.n4
  refine WQ.st (fun _ _ kz => pw_aload0 dX11_chance_0 kz) ?_
  refine WQ.st (fun _ _ kz => pw_iload1 dX11_chance_1 kz) ?_
  refine WQ.st (fun _ _ kz => pw_iload2 dX11_chance_2 kz) ?_
  refine wq_o2i wX11_hasBoth lX11_262 rfl dX11_chance_3 (cf_s8 hC) (k_hasBoth hI _ _) rfl (Nat.le_of_ble_eq_true rfl) (Nat.le_of_ble_eq_true rfl) (fun h3 z3 => ?_)
  subst z3
  refine WQ.br (fun _ _ ka kb => pw_if_eq (tgt := 20) dX11_chance_6 (by decide) ka kb) (fun c6 => ?_) (fun c6 => ?_)
  · rw [bI_0] at c6
    refine WQ.st (fun _ _ kz => pw_ldc2 kX11_295 dX11_chance_20 kz) ?_
    refine ⟨_, _, pw_lret dX11_chance_23 rfl rfl rfl, ?_⟩
    exact ⟨rL (by unfold sp_chance; rw [c6, Bool.false_and, if_neg (by decide)]), t, sl, ls, S, V, P, A, B, Q, rfl, hI, by omega, FrO.rfl, fun _ _ h => h⟩
  · rw [bI_n] at c6
    have hb2 := (Bool.and_eq_true _ _).mp c6
    have hiq := hb2.2
    have gx := isP_t hb2.1
    obtain ⟨p, rfl, tp, lp⟩ := nI_get gx.1 gx.2 (by omega)
    have hp : p < 5 := by omega
    have gy := isQ_t hb2.2
    obtain ⟨q, rfl, tq, lq⟩ := nI_get gy.1 gy.2 (by omega)
    have hq : q < 4 := by omega
    refine WQ.st (fun _ _ kz => pw_iload4 dX11_chance_9 kz) ?_
    refine WQ.br (fun _ _ ka kb => pw_if_lt (tgt := 20) dX11_chance_11 (by decide) ka kb) (fun c11 => ?_) (fun c11 => ?_)
    · rw [lt_i rfl li_0] at c11
      refine WQ.st (fun _ _ kz => pw_ldc2 kX11_295 dX11_chance_20 kz) ?_
      refine ⟨_, _, pw_lret dX11_chance_23 rfl rfl rfl, ?_⟩
      exact ⟨rL (by unfold sp_chance; rw [c6, decide_eq_false (by omega), Bool.and_false, if_neg (by decide)]), t, sl, ls, S, V, P, A, B, Q, rfl, hI, by omega, FrO.rfl, fun _ _ h => h⟩
    · rw [lt_i rfl li_0] at c11
      refine WQ.st (fun _ _ kz => pw_iload4 dX11_chance_14 kz) ?_
      refine WQ.st (fun _ _ kz => pw_iconst (v := 1) dX11_chance_16 (by decide) kz) ?_
      refine WQ.br (fun _ _ ka kb => pw_icmp_le (tgt := 24) dX11_chance_17 (by decide) ka kb) (fun c17 => ?_) (fun c17 => ?_)
      · rw [le_i rfl li_1] at c17
        refine WQ.st (fun _ _ kz => pw_iload3 dX11_chance_24 kz) ?_
        refine wq_s1i wX11_isStore lX11_281 dX11_chance_25 (k_isStore _) rfl (Nat.le_of_ble_eq_true rfl) (Nat.le_of_ble_eq_true rfl) (fun h25 z25 => ?_)
        subst z25
        refine WQ.bn (fun _ _ ka kb => pw_if_ne (tgt := 35) dX11_chance_28 (by decide) ka kb) (fun c28 => ?_) (fun c28 => ?_)
        · rw [bI_n] at c28
          have he := of_decide_eq_true c28
          obtain ⟨gg, hg41, rfl⟩ : ∃ gg : Nat, gg < 41 ∧ g = sI gg := ⟨(g.toInt + 20).toNat, by omega, sI_of he.1 (by omega)⟩
          have tg : ((sI gg).toInt + 20).toNat = gg := by rw [sI_t (by omega)]; omega
          have hk3 : al 3 = nI (al 3).toInt.toNat := nI_ofI hD.k10.1
          have hk10 : (al 3).toInt.toNat ≤ 10 := by have := hD.k10; omega
          refine WQ.st (fun _ _ kz => pw_aload0 dX11_chance_35 kz) ?_
          refine WQ.st (fun _ _ kz => pw_iload1 dX11_chance_36 kz) ?_
          refine WQ.st (fun _ _ kz => pw_iload2 dX11_chance_37 kz) ?_
          refine wq_o2v wX11_takeUp lX11_186 rfl dX11_chance_38 (cf_s8 hC) (k_take hI (by omega) hp hq hiq) rfl (Nat.le_of_ble_eq_true rfl) (Nat.le_of_ble_eq_true rfl) (fun h38 z38 => ?_)
          obtain ⟨tm, hat, t5, sl5, ls5, S5, V5, P5, A5, B5, Q5, rfl, k5, i5, l5, f5, r5⟩ := z38
          have hC := k5.cf
          have hE5 := i5.de
          obtain ⟨es0, hs0⟩ := hE5.kv.stE hp
          refine WQ.st (fun _ _ kz => pw_aload0 dX11_chance_41 kz) ?_
          refine WQ.st (fun _ _ kz => pw_getr gX11_89 dX11_chance_42 (cf_s8 hC) (cf_p8_12 hC) kz) ?_
          refine WQ.st (fun _ _ kz => pw_aload0 dX11_chance_45 kz) ?_
          refine WQ.st (fun _ _ kz => pw_getr gX11_35 dX11_chance_46 (cf_s8 hC) (cf_p8_5 hC) kz) ?_
          refine WQ.st (fun _ _ kz => pw_getr gX11_156 dX11_chance_49 (cf_s16 hC) (cf_p16_0 hC) kz) ?_
          refine WQ.st (fun _ _ kz => pw_iload1 dX11_chance_52 kz) ?_
          refine WQ.st (fun _ _ kz => pw_ald (j := p) dX11_chance_53 (cf_s17 hC) (ix_m rfl (by omega)) (by omega) kz) ?_
          rw [hE5.se.st hp, es0]
          refine WQ.st (fun _ _ kz => pw_iload3 dX11_chance_54 kz) ?_
          refine wq_o2i wX1_chances lX11_356 rfl dX11_chance_55 (cf_s103 hC) (k_chances k5 i5.de.dc.hb hk3 hk10 hs0 hg41) rfl (Nat.le_of_ble_eq_true rfl) (Nat.le_of_ble_eq_true rfl) (fun h55 z55 => ?_)
          obtain ⟨P6, A6, B6, rfl, k6, hb6, p6, f6⟩ := z55
          rw [hat]
          have i6 := i5.step k6 ((FrD.p (fun x hx => p6 x (by omega))).tr f6.d) (f6.2.1 109 (by omega) (by omega) (by omega)) hb6 (i5.de.dc.rh.to (by rw [p6 107 (by omega)]) (by rw [p6 107 (by omega)])) (i5.de.dc.hw.to (by rw [p6 107 (by omega)]) (by rw [p6 107 (by omega)]))
          have o6 : FrO S5 V5 P5 A5 B5 t5 S5 V5 P6 A6 B6 t5 := (((FrD.p (a := 20) (S := S5) (V := V5) (A := A5) (B := B5) (Q := Q5) (t := t5) (fun x hx => p6 x (by omega))).tr f6.d).o (Or.inr rfl))
          have hC := k6.cf
          have hn12 := (hD.lgE hq).2
          have hc1 := ch_le hD hE.kv hp hq (s0 := stN al p) hg41
          have hp12 := p10_12 hn12
          have hpos : 0 < 10 ^ lgN al q := Nat.pow_pos (by decide)
          have hg0 : 0 < Nat.gcd (chN al p q (stN al p) gg) (10 ^ lgN al q) := Nat.gcd_pos_of_pos_right _ hpos
          have hgl : Nat.gcd (chN al p q (stN al p) gg) (10 ^ lgN al q) ≤ 10 ^ lgN al q := Nat.gcd_le_right _ hpos
          have hne : ¬ lN (Nat.gcd (chN al p q (stN al p) gg) (10 ^ lgN al q)) = 0 := by
            rw [show (0 : Int64) = lN 0 from rfl, lN_inj (by omega) (by omega)]
            omega
          have e0 : rf_hs (TT al p q) (al 3).toInt.toNat (stN al p) (lgN al q) gg = chN al p q (stN al p) gg := rfl
          rw [e0]
          refine WQ.st (fun _ _ kz => pw_lstore5 dX11_chance_58 (by decide) (k := kz)) ?_
          refine WQ.st (fun _ _ kz => pw_aload0 dX11_chance_60 kz) ?_
          refine WQ.st (fun _ _ kz => pw_getr gX11_89 dX11_chance_61 (cf_s8 hC) (cf_p8_12 hC) kz) ?_
          refine wq_o0i wX1_allChances lX11_360 rfl dX11_chance_64 (cf_s103 hC) (k_allCh hC k6.len.1 hn12) rfl (Nat.le_of_ble_eq_true rfl) (Nat.le_of_ble_eq_true rfl) (fun h64 z64 => ?_)
          subst z64
          refine WQ.st (fun _ _ kz => pw_lstore7 dX11_chance_67 (by decide) (k := kz)) ?_
          refine WQ.st (fun _ _ kz => pw_lload5 dX11_chance_69 kz) ?_
          refine WQ.st (fun _ _ kz => pw_lload7 dX11_chance_71 kz) ?_
          refine wq_s2i wX11_commonDivisor lX11_364 dX11_chance_73 (k_commonDivisor (by omega) (by omega)) rfl (Nat.le_of_ble_eq_true rfl) (Nat.le_of_ble_eq_true rfl) (fun h73 z73 => ?_)
          subst z73
          refine WQ.st (fun _ _ kz => pw_lstore9 dX11_chance_76 (by decide) (k := kz)) ?_
          refine WQ.st (fun _ _ kz => pw_lload9 dX11_chance_78 kz) ?_
          refine WQ.st (fun _ _ kz => pw_lconst (v := 0) dX11_chance_80 (by decide) kz) ?_
          refine WQ.st (fun _ _ kz => pw_lcmp dX11_chance_81 kz) ?_
          refine WQ.bn (fun _ _ ka kb => pw_if_ne (tgt := 87) dX11_chance_82 (by decide) ka kb) (fun c82 => ?_) (fun c82 => absurd c82 (by rw [lg_cmp_eq]; exact hne))
          refine WQ.st (fun _ _ kz => pw_iload4 dX11_chance_87 kz) ?_
          refine WQ.bn (fun _ _ ka kb => pw_if_ne (tgt := 97) dX11_chance_89 (by decide) ka kb) (fun c89 => ?_) (fun c89 => ?_)
          · rw [i32_iff li_0] at c89
            refine WQ.st (fun _ _ kz => pw_lload7 dX11_chance_97 kz) ?_
            refine WQ.st (fun _ _ kz => pw_lload9 dX11_chance_99 kz) ?_
            refine WQ.st (fun _ _ kz => pw_ldiv dX11_chance_101 hne kz) ?_
            rw [lN_div (by omega) (by omega)]
            refine ⟨_, _, pw_lret dX11_chance_102 rfl rfl rfl, ?_⟩
            exact ⟨rL (by unfold sp_chance; rw [c6, decide_eq_true (by omega), Bool.true_and, if_pos (by rfl), if_pos c28, tp, tq, Int.toNat_natCast, Int.toNat_natCast, tg, if_neg c89]), t5, sl5, ls5, S5, V5, P6, A6, B6, Q5, rfl, i6, by omega, ((FrT.d (a := 20) f5).o (Or.inr rfl)).tr o6, r5⟩
          · rw [i32_iff li_0] at c89
            refine WQ.st (fun _ _ kz => pw_lload5 dX11_chance_92 kz) ?_
            refine WQ.st (fun _ _ kz => pw_goto (tgt := 99) dX11_chance_94 (by decide) kz) ?_
            refine WQ.st (fun _ _ kz => pw_lload9 dX11_chance_99 kz) ?_
            refine WQ.st (fun _ _ kz => pw_ldiv dX11_chance_101 hne kz) ?_
            rw [lN_div (by omega) (by omega)]
            refine ⟨_, _, pw_lret dX11_chance_102 rfl rfl rfl, ?_⟩
            exact ⟨rL (by unfold sp_chance; rw [c6, decide_eq_true (by omega), Bool.true_and, if_pos (by rfl), if_pos c28, tp, tq, Int.toNat_natCast, Int.toNat_natCast, tg, if_pos c89]), t5, sl5, ls5, S5, V5, P6, A6, B6, Q5, rfl, i6, by omega, ((FrT.d (a := 20) f5).o (Or.inr rfl)).tr o6, r5⟩
        · rw [bI_0] at c28
          refine WQ.st (fun _ _ kz => pw_ldc2 kX11_297 dX11_chance_31 kz) ?_
          refine ⟨_, _, pw_lret dX11_chance_34 rfl rfl rfl, ?_⟩
          exact ⟨rL (by unfold sp_chance; rw [c6, decide_eq_true (by omega), Bool.true_and, if_pos (by rfl), c28, if_neg (by decide)]), t, sl, ls, S, V, P, A, B, Q, rfl, hI, by omega, FrO.rfl, fun _ _ h => h⟩
      · rw [le_i rfl li_1] at c17
        refine WQ.st (fun _ _ kz => pw_ldc2 kX11_295 dX11_chance_20 kz) ?_
        refine ⟨_, _, pw_lret dX11_chance_23 rfl rfl rfl, ?_⟩
        exact ⟨rL (by unfold sp_chance; rw [c6, decide_eq_false (by omega), Bool.and_false, if_neg (by decide)]), t, sl, ls, S, V, P, A, B, Q, rfl, hI, by omega, FrO.rfl, fun _ _ h => h⟩
set_option maxRecDepth 20000 in
theorem q_putByL {G : gT} {d : Nat} {S0 : sS} {V0 : sV} {P0 : sP} {A0 : sV} {B0 : sB} {Q0 : sP} {t0 sl0 : Nat} {al : Nat → Int32} {W : WT} {sh ls0 : Nat} {S : sS} {V : sV} {Q : sP} {t sl ls p tm q m0 : Nat} {x3 : Int32} (hp : p < 5) (hq : q < 4) (hat : atm al p tm = al) (hm : m0 ≤ 100) (hl : ls ≤ ls0 + 1000) (hr : (∀ k1 k2, Room2 S0 Q0 t0 sl0 k1 k2 → Room2 S Q t sl k1 k2)) : ∀ (m k : Nat) (P : sP) (A : sV) (B : sB), k + m = 41 → KB S V P A B Q t al sh ls p tm q → CI S V P A B Q t al W sh ls → FrO S0 V0 P0 A0 B0 t0 S V P A B t → WQ G (d + 9) mX11_putBy 47 [some (.ref 8), some (.int (nI p)), some (.int (nI q)), some (.int x3), some (.long (lN (m0 * 10 ^ lgN al q))), none, some (.int (sI k))] [] (t, sl, gh S V P A B Q) (CZ S0 V0 P0 A0 B0 Q0 t0 sl0 W sh ls0 (.int (up1 (fun s => decide (m0 * 10 ^ lgN al q ≤ chN al p q s 20 * 100)) m k)) al) := by
  intro m
  induction m with
  | zero =>
    intro k P A B hk k5 hI hO
    have hk : k = 41 := hk
    subst hk
    have hC := k5.cf
    refine WQ.st (fun _ _ kz => pw_iload6 dX11_putBy_47 kz) ?_
    refine WQ.st (fun _ _ kz => pw_bipush (v := 20) dX11_putBy_49 (by decide) kz) ?_
    refine WQ.br (fun _ _ ka kb => pw_icmp_gt (tgt := 83) dX11_putBy_51 (by decide) ka kb) (fun c51 => ?_) (fun c51 => absurd (by rw [lt_i li_20 (sI_t (by omega))]; omega) c51)
    refine WQ.st (fun _ _ kz => pw_ldcw kX11_294 dX11_putBy_83 kz) ?_
    refine ⟨_, _, pw_iret dX11_putBy_86 rfl rfl rfl rfl, ?_⟩
    unfold CZ
    exact ⟨rfl, t, sl, ls, S, V, P, A, B, Q, rfl, hI, hl, hO, hr⟩
  | succ m ih =>
    intro k P A B hk k5 hI hO
    have hC := k5.cf
    have hE := hI.de
    have hD := hE.dc.ka.dv
    have hk3 : al 3 = nI (al 3).toInt.toNat := nI_ofI hD.k10.1
    have hk10 : (al 3).toInt.toNat ≤ 10 := by have := hD.k10; omega
    have hn12 := (hD.lgE hq).2
    have hp12 := p10_12 hn12
    have hmm : m0 * 10 ^ lgN al q ≤ 100 * 1000000000000 := Nat.mul_le_mul hm hp12
    refine WQ.st (fun _ _ kz => pw_iload6 dX11_putBy_47 kz) ?_
    refine WQ.st (fun _ _ kz => pw_bipush (v := 20) dX11_putBy_49 (by decide) kz) ?_
    refine WQ.br (fun _ _ ka kb => pw_icmp_gt (tgt := 83) dX11_putBy_51 (by decide) ka kb) (fun c51 => absurd c51 (by rw [lt_i li_20 (sI_t (by omega))]; omega)) (fun c51 => ?_)
    refine WQ.st (fun _ _ kz => pw_ldc2 kX11_368 dX11_putBy_54 kz) ?_
    refine WQ.st (fun _ _ kz => pw_aload0 dX11_putBy_57 kz) ?_
    refine WQ.st (fun _ _ kz => pw_getr gX11_89 dX11_putBy_58 (cf_s8 hC) (cf_p8_12 hC) kz) ?_
    refine WQ.st (fun _ _ kz => pw_iload6 dX11_putBy_61 kz) ?_
    refine WQ.st (fun _ _ kz => pw_iconst (v := 0) dX11_putBy_63 (by decide) kz) ?_
    rw [show (0 : Int32) = sI 20 from rfl]
    refine wq_o2i wX1_chances lX11_356 rfl dX11_putBy_64 (cf_s103 hC) (k_chances k5 hI.de.dc.hb hk3 hk10 (s0 := k) (by omega) (g0 := 20) (by omega)) rfl (Nat.le_of_ble_eq_true rfl) (Nat.le_of_ble_eq_true rfl) (fun h64 z64 => ?_)
    obtain ⟨P6, A6, B6, rfl, k6, hb6, p6, f6⟩ := z64
    rw [hat]
    have i6 := hI.step k6 ((FrD.p (fun x hx => p6 x (by omega))).tr f6.d) (f6.2.1 109 (by omega) (by omega) (by omega)) hb6 (hI.de.dc.rh.to (by rw [p6 107 (by omega)]) (by rw [p6 107 (by omega)])) (hI.de.dc.hw.to (by rw [p6 107 (by omega)]) (by rw [p6 107 (by omega)]))
    have o6 : FrO S V P A B t S V P6 A6 B6 t := (((FrD.p (a := 20) (S := S) (V := V) (A := A) (B := B) (Q := Q) (t := t) (fun x hx => p6 x (by omega))).tr f6.d).o (Or.inr rfl))
    have hC := k6.cf
    have e0 : rf_hs (TT al p q) (al 3).toInt.toNat k (lgN al q) 20 = chN al p q k 20 := rfl
    rw [e0]
    have hc1 := ch_le hD hE.kv hp hq (s0 := k) (g0 := 20) (by omega)
    refine WQ.st (fun _ _ kz => pw_lmul dX11_putBy_67 kz) ?_
    rw [show (100 : Int64) = lN 100 from rfl, lN_mul]
    refine WQ.st (fun _ _ kz => pw_lload4 dX11_putBy_68 kz) ?_
    refine WQ.st (fun _ _ kz => pw_lcmp dX11_putBy_70 kz) ?_
    refine WQ.br (fun _ _ ka kb => pw_if_lt (tgt := 77) dX11_putBy_71 (by decide) ka kb) (fun c71 => ?_) (fun c71 => ?_)
    · rw [lg_cmp_lt, Int64.lt_iff_toInt_lt, lN_t (by omega), lN_t (by omega)] at c71
      have eU : up1 (fun s => decide (m0 * 10 ^ lgN al q ≤ chN al p q s 20 * 100)) (m + 1) k = up1 (fun s => decide (m0 * 10 ^ lgN al q ≤ chN al p q s 20 * 100)) m (k + 1) := by
        show (if _ then _ else _) = _
        rw [if_neg (by show ¬ decide (m0 * 10 ^ lgN al q ≤ chN al p q k 20 * 100) = true; rw [decide_eq_false (by omega)]; decide)]
      rw [eU]
      refine WQ.st (fun _ _ kz => pw_iinc6 (v := 1) dX11_putBy_77 (by decide) (by decide) (k := kz)) ?_
      refine WQ.st (fun _ _ kz => pw_goto (tgt := 47) dX11_putBy_80 (by decide) kz) ?_
      rw [sI_1]
      exact ih (k + 1) _ _ _ (by omega) k6 i6 (hO.tr o6)
    · rw [lg_cmp_lt, Int64.lt_iff_toInt_lt, lN_t (by omega), lN_t (by omega)] at c71
      refine WQ.st (fun _ _ kz => pw_iload6 dX11_putBy_74 kz) ?_
      refine ⟨_, _, pw_iret dX11_putBy_76 rfl rfl rfl rfl, ?_⟩
      unfold CZ
      refine ⟨rI ?_, t, sl, ls, S, V, P6, A6, B6, Q, rfl, i6, hl, hO.tr o6, hr⟩
      show _ = (if _ then _ else _)
      rw [if_pos (by show decide (m0 * 10 ^ lgN al q ≤ chN al p q k 20 * 100) = true; exact decide_eq_true (by omega))]
set_option maxRecDepth 20000 in
theorem q_putBy {G : gT} {d : Nat} {S : sS} {V : sV} {P : sP} {A : sV} {B : sB} {Q : sP} {t sl : Nat} {al : Nat → Int32} {W : WT} {sh ls : Nat} (hI : CI S V P A B Q t al W sh ls) (hls : ls + 1000 < 2000000000) (x y m : Int32) : WQ G (d + 9) mX11_putBy 0 [some (.ref 8), some (.int x), some (.int y), some (.int m), none, none, none] [] (t, sl, gh S V P A B Q) (CZ S V P A B Q t sl W sh ls (.int (sp_putBy al x.toInt y.toInt m.toInt)) al) := by
  unfold CZ
  have hE := hI.de
  have hC := hE.dc.ka.cf
  have hD := hE.dc.ka.dv
  have hSe := hE.dc.ka.se
  have hA := hI.av
  have hp5 := hD.p5
  have hn4 := hD.n4
  refine WQ.st (fun _ _ kz => pw_aload0 dX11_putBy_0 kz) ?_
  refine WQ.st (fun _ _ kz => pw_iload1 dX11_putBy_1 kz) ?_
  refine WQ.st (fun _ _ kz => pw_iload2 dX11_putBy_2 kz) ?_
  refine wq_o2i wX11_hasBoth lX11_262 rfl dX11_putBy_3 (cf_s8 hC) (k_hasBoth hI _ _) rfl (Nat.le_of_ble_eq_true rfl) (Nat.le_of_ble_eq_true rfl) (fun h3 z3 => ?_)
  subst z3
  refine WQ.bn (fun _ _ ka kb => pw_if_ne (tgt := 12) dX11_putBy_6 (by decide) ka kb) (fun c6 => ?_) (fun c6 => ?_)
  · rw [bI_n] at c6
    have hb2 := (Bool.and_eq_true _ _).mp c6
    have hiq := hb2.2
    have gx := isP_t hb2.1
    obtain ⟨p, rfl, tp, lp⟩ := nI_get gx.1 gx.2 (by omega)
    have hp : p < 5 := by omega
    have gy := isQ_t hb2.2
    obtain ⟨q, rfl, tq, lq⟩ := nI_get gy.1 gy.2 (by omega)
    have hq : q < 4 := by omega
    refine WQ.st (fun _ _ kz => pw_iload3 dX11_putBy_12 kz) ?_
    refine WQ.br (fun _ _ ka kb => pw_if_lt (tgt := 22) dX11_putBy_13 (by decide) ka kb) (fun c13 => ?_) (fun c13 => ?_)
    · rw [lt_i rfl li_0] at c13
      refine WQ.st (fun _ _ kz => pw_ldc kX11_123 dX11_putBy_22 kz) ?_
      refine ⟨_, _, pw_iret dX11_putBy_24 rfl rfl rfl rfl, ?_⟩
      exact ⟨rI (by unfold sp_putBy; rw [if_pos c6, if_neg (by omega)]), t, sl, ls, S, V, P, A, B, Q, rfl, hI, by omega, FrO.rfl, fun _ _ h => h⟩
    · rw [lt_i rfl li_0] at c13
      refine WQ.st (fun _ _ kz => pw_iload3 dX11_putBy_16 kz) ?_
      refine WQ.st (fun _ _ kz => pw_bipush (v := 100) dX11_putBy_17 (by decide) kz) ?_
      refine WQ.br (fun _ _ ka kb => pw_icmp_le (tgt := 25) dX11_putBy_19 (by decide) ka kb) (fun c19 => ?_) (fun c19 => ?_)
      · rw [le_i rfl li_100] at c19
        obtain ⟨m0, rfl, tm0, lm0⟩ := nI_get (x := m) (n := 101) (by omega) (by omega) (by omega)
        refine WQ.st (fun _ _ kz => pw_aload0 dX11_putBy_25 kz) ?_
        refine WQ.st (fun _ _ kz => pw_iload1 dX11_putBy_26 kz) ?_
        refine WQ.st (fun _ _ kz => pw_iload2 dX11_putBy_27 kz) ?_
        refine wq_o2v wX11_takeUp lX11_186 rfl dX11_putBy_28 (cf_s8 hC) (k_take hI (by omega) hp hq hiq) rfl (Nat.le_of_ble_eq_true rfl) (Nat.le_of_ble_eq_true rfl) (fun h28 z28 => ?_)
        obtain ⟨tm, hat, t5, sl5, ls5, S5, V5, P5, A5, B5, Q5, rfl, k5, i5, l5, f5, r5⟩ := z28
        have hC := k5.cf
        have hE5 := i5.de
        obtain ⟨es0, hs0⟩ := hE5.kv.stE hp
        refine WQ.st (fun _ _ kz => pw_iload3 dX11_putBy_31 kz) ?_
        refine WQ.st (fun _ _ kz => pw_i2l dX11_putBy_32 kz) ?_
        rw [nI_tl (by omega)]
        refine WQ.st (fun _ _ kz => pw_aload0 dX11_putBy_33 kz) ?_
        refine WQ.st (fun _ _ kz => pw_getr gX11_89 dX11_putBy_34 (cf_s8 hC) (cf_p8_12 hC) kz) ?_
        refine wq_o0i wX1_allChances lX11_360 rfl dX11_putBy_37 (cf_s103 hC) (k_allCh hC k5.len.1 (hD.lgE hq).2) rfl (Nat.le_of_ble_eq_true rfl) (Nat.le_of_ble_eq_true rfl) (fun h37 z37 => ?_)
        subst z37
        refine WQ.st (fun _ _ kz => pw_lmul dX11_putBy_40 kz) ?_
        rw [lN_mul]
        refine WQ.st (fun _ _ kz => pw_lstore4 dX11_putBy_41 (by decide) (k := kz)) ?_
        refine WQ.st (fun _ _ kz => pw_bipush (v := -20) dX11_putBy_43 (by decide) kz) ?_
        refine WQ.st (fun _ _ kz => pw_istore6 dX11_putBy_45 (by decide) (k := kz)) ?_
        rw [show (-20 : Int32) = sI 0 from rfl]
        have es : sp_putBy al (nI p).toInt (nI q).toInt (nI m0).toInt = up1 (fun s => decide (m0 * 10 ^ lgN al q ≤ chN al p q s 20 * 100)) 41 0 := by
          unfold sp_putBy
          rw [if_pos c6, if_pos (by omega), tp, tq, tm0, Int.toNat_natCast, Int.toNat_natCast, Int.toNat_natCast]
        rw [es]
        exact q_putByL hp hq hat (by omega) (by omega) r5 41 0 P5 A5 B5 (by omega) k5 i5 ((FrT.d (a := 20) f5).o (Or.inr rfl))
      · rw [le_i rfl li_100] at c19
        refine WQ.st (fun _ _ kz => pw_ldc kX11_123 dX11_putBy_22 kz) ?_
        refine ⟨_, _, pw_iret dX11_putBy_24 rfl rfl rfl rfl, ?_⟩
        exact ⟨rI (by unfold sp_putBy; rw [if_pos c6, if_neg (by omega)]), t, sl, ls, S, V, P, A, B, Q, rfl, hI, by omega, FrO.rfl, fun _ _ h => h⟩
  · rw [bI_0] at c6
    refine WQ.st (fun _ _ kz => pw_ldc kX11_155 dX11_putBy_9 kz) ?_
    refine ⟨_, _, pw_iret dX11_putBy_11 rfl rfl rfl rfl, ?_⟩
    exact ⟨rI (by unfold sp_putBy; rw [c6, if_neg (by decide)]), t, sl, ls, S, V, P, A, B, Q, rfl, hI, by omega, FrO.rfl, fun _ _ h => h⟩
