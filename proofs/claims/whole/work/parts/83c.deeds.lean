set_option maxRecDepth 20000 in
theorem k_playBest {G : gT} {d : Nat} {S : sS} {V : sV} {P : sP} {A : sV} {B : sB} {Q : sP} {t sl : Nat} {al : Nat → Int32} {sh ls a : Nat} (hE : DE S V P A B Q t al sh ls a) (hls : ls + 1 < 2000000000) (x y : Int32) : WQ G (d + 5) mX2_playBest 0 [some (.ref 137), some (.ref a), some (.int x), some (.int y), none, none] [] (t, sl, gh S V P A B Q) (fun r h' => r = some (.int (sp_wb al x.toInt y.toInt)) ∧ ∃ (t' sl' ls' : Nat) (S' : sS) (V' : sV) (P' : sP) (A' : sV) (B' : sB) (Q' : sP), h' = (t', sl', gh S' V' P' A' B' Q') ∧ DE S' V' P' A' B' Q' t' (if sp_wb al x.toInt y.toInt = 0 then sp_pb al x.toInt.toNat y.toInt.toNat else al) sh ls' a ∧ ls' ≤ ls + 1 ∧ FrD a S V P A B Q t S' V' P' A' B' Q' t' ∧ (∀ k1 k2, Room2 S Q t sl k1 k2 → Room2 S' Q' t' sl' k1 k2) ∧ V' 137 4 = V 137 4 ∧ (sp_wb al x.toInt y.toInt = 0 → V' 137 0 = bsT al x.toInt.toNat y.toInt.toNat (-20))) := by
  have hC := hE.dc.ka.cf
  have hD := hE.dc.ka.dv
  have hSe := hE.dc.ka.se
  have hST := hE.st
  have ha := hE.a2
  have hsa := hE.dc.ka.sa
  refine WQ.st (fun _ _ kz => pw_aload0 dX2_playBest_0 kz) ?_
  refine WQ.st (fun _ _ kz => pw_aload1 dX2_playBest_1 kz) ?_
  refine WQ.st (fun _ _ kz => pw_iload2 dX2_playBest_2 kz) ?_
  refine WQ.st (fun _ _ kz => pw_iload3 dX2_playBest_3 kz) ?_
  refine wq_o3i wX2_whyNotPlay lX2_30 rfl dX2_playBest_4 (cf_s137 hC) (k_whyNotPlay hE _ _) rfl (Nat.le_of_ble_eq_true rfl) (Nat.le_of_ble_eq_true rfl) (fun h4 z4 => ?_)
  subst z4
  refine WQ.st (fun _ _ kz => pw_istore4 dX2_playBest_7 (by decide) (k := kz)) ?_
  refine WQ.st (fun _ _ kz => pw_iload4 dX2_playBest_9 kz) ?_
  refine WQ.br (fun _ _ ka kb => pw_if_eq (tgt := 17) dX2_playBest_11 (by decide) ka kb) (fun c11 => ?_) (fun c11 => ?_)
  · have hp5 := hD.p5
    have hn4 := hD.n4
    have g1 := isP_t (wp_0 c11).1
    have g2 := isQ_t (wp_0 c11).2
    have hiq := (wp_0 c11).2
    obtain ⟨p, rfl, tp, lp⟩ := nI_get g1.1 g1.2 (by omega)
    obtain ⟨q, rfl, tq, lq⟩ := nI_get g2.1 g2.2 (by omega)
    have hp : p < 5 := by omega
    have hq : q < 4 := by omega
    obtain ⟨tm, ht, etm, hat⟩ := hE.kv.tmE hp
    obtain ⟨es0, hs0⟩ := hE.kv.stE hp
    refine WQ.st (fun _ _ kz => pw_aload0 dX2_playBest_17 kz) ?_
    refine WQ.st (fun _ _ kz => pw_getr gX2_18 dX2_playBest_18 (cf_s137 hC) (cf_p137_1 hC) kz) ?_
    refine WQ.st (fun _ _ kz => pw_iload2 dX2_playBest_21 kz) ?_
    refine WQ.st (fun _ _ kz => pw_aload1 dX2_playBest_22 kz) ?_
    refine WQ.st (fun _ _ kz => pw_getr gX2_34 dX2_playBest_23 (st_s0 hST) (st_p0_2 hST) kz) ?_
    refine WQ.st (fun _ _ kz => pw_iload2 dX2_playBest_26 kz) ?_
    refine WQ.st (fun _ _ kz => pw_ald (j := p) dX2_playBest_27 (st_s3 hST) (ix_m rfl (by omega)) (by omega) kz) ?_
    rw [hE.se.tm hp, etm]
    refine WQ.st (fun _ _ kz => pw_iload3 dX2_playBest_28 kz) ?_
    refine wq_o3v wX0_takeUp lX2_40 rfl dX2_playBest_29 (cf_s96 hC) (k_takeUp hE.dc.ka hls hp ht hq hiq) rfl (Nat.le_of_ble_eq_true rfl) (Nat.le_of_ble_eq_true rfl) (fun h29 z29 => ?_)
    obtain ⟨t5, sl5, ls5, S5, V5, P5, A5, B5, Q5, rfl, k5, l5, f5, r5⟩ := z29
    have w5 := k5.ba
    have v5 : ∀ x, x ≠ 96 → V5 x = V x := f5.2.2.1
    have a5 : ∀ x, x ≠ 97 → x ≠ 98 → x ≠ 100 → x ≠ 101 → A5 x = A x := f5.2.2.2.2.1
    have hST5 : ST S5 P5 a := by
      rcases ha with e | e
      · rw [e]; exact cf_st16 k5.cf
      · rw [e]; exact cf_st20 k5.cf
    have hev5 : ∀ i, i < 12 → A5 109 i = 31 := by rw [a5 109 (by decide) (by decide) (by decide) (by decide)]; exact hE.dc.ev
    have hbT : rf_T (TT (atm al p tm) p q) kpA (lgN al q) (rf_e (-20)) (lgN al q) 2 (stN al p) = bsT al p q (-20) := by rw [hat]; rfl
    refine WQ.st (fun _ _ kz => pw_aload1 dX2_playBest_32 kz) ?_
    refine WQ.st (fun _ _ kz => pw_getr gX2_46 dX2_playBest_33 (st_s0 hST5) (st_p0_0 hST5) kz) ?_
    refine WQ.st (fun _ _ kz => pw_iload2 dX2_playBest_36 kz) ?_
    refine WQ.st (fun _ _ kz => pw_ald (j := p) dX2_playBest_37 (st_s1 hST5) (ix_m rfl (by omega)) (by omega) kz) ?_
    rw [a5 _ (by omega) (by omega) (by omega) (by omega), hE.se.st hp, es0]
    refine WQ.st (fun _ _ kz => pw_istore5 dX2_playBest_38 (by decide) (k := kz)) ?_
    refine WQ.st (fun _ _ kz => pw_aload0 dX2_playBest_40 kz) ?_
    refine WQ.st (fun _ _ kz => pw_getr gX2_26 dX2_playBest_41 (cf_s137 k5.cf) (cf_p137_3 k5.cf) kz) ?_
    refine WQ.st (fun _ _ kz => pw_iload5 dX2_playBest_44 kz) ?_
    refine WQ.st (fun _ _ kz => pw_iload5 dX2_playBest_46 kz) ?_
    refine WQ.st (fun _ _ kz => pw_bipush (v := -20) dX2_playBest_48 (by decide) kz) ?_
    refine WQ.st (fun _ _ kz => pw_aload0 dX2_playBest_50 kz) ?_
    refine WQ.st (fun _ _ kz => pw_getr gX2_26 dX2_playBest_51 (cf_s137 k5.cf) (cf_p137_3 k5.cf) kz) ?_
    refine WQ.st (fun _ _ kz => pw_getr gX2_63 dX2_playBest_54 (cf_s107 k5.cf) (cf_p107_1 k5.cf) kz) ?_
    refine wq_o4v wX10_settle lX2_68 rfl dX2_playBest_57 (cf_s107 k5.cf) (k_settle k5 (lo := stN al p) (hi := stN al p) (am := 109) (goal := -20) (cf_s109 k5.cf) (by omega) (Nat.le_refl _) (by omega) (by omega)) rfl (Nat.le_of_ble_eq_true rfl) (Nat.le_of_ble_eq_true rfl) (fun h57 z57 => ?_)
    obtain ⟨A6, B6, rfl, k6, sr6, f6⟩ := z57
    refine WQ.st (fun _ _ kz => pw_aload0 dX2_playBest_60 kz) ?_
    refine WQ.st (fun _ _ kz => pw_getr gX2_26 dX2_playBest_61 (cf_s137 k5.cf) (cf_p137_3 k5.cf) kz) ?_
    refine WQ.st (fun _ _ kz => pw_iload5 dX2_playBest_64 kz) ?_
    refine wq_o1i wX10_follow lX2_72 rfl dX2_playBest_66 (cf_s107 k5.cf) (k_follow2 k6 (kp := (kpM (A5 109))) (kp' := kpA) (e := rf_e (-20)) (fun s _ => rf_e_bnd _ s) (fun b w hb hw => ev_kp hev5 b w (by have := k5.len; omega) hw) sr6 hs0 (Nat.le_refl _) (Nat.le_refl _)) rfl (Nat.le_of_ble_eq_true rfl) (Nat.le_of_ble_eq_true rfl) (fun h66 z66 => ?_)
    obtain ⟨V7, A7, rfl, g1v, g1a, g1⟩ := z66
    rw [hbT] at g1 ⊢
    refine WQ.bn (fun _ _ ka kb => pw_if_ne (tgt := 74) dX2_playBest_69 (by decide) ka kb) (fun c69 => ?_) (fun c69 => ?_)
    · rw [bI_n] at c69
      have hne := of_decide_eq_true c69
      obtain ⟨g2, g3, g4⟩ := g1 hne
      rw [hat] at g3
      refine WQ.st (fun _ _ kz => pw_aload0 dX2_playBest_74 kz) ?_
      refine WQ.st (fun _ _ kz => pw_aload0 dX2_playBest_75 kz) ?_
      refine WQ.st (fun _ _ kz => pw_getr gX2_26 dX2_playBest_76 (cf_s137 k5.cf) (cf_p137_3 k5.cf) kz) ?_
      refine WQ.st (fun _ _ kz => pw_geti gX2_76 dX2_playBest_79 (cf_s107 k5.cf) kz) ?_
      rw [g2]
      refine WQ.st (fun _ _ kz => pw_puti (pX2_9 _ rfl) dX2_playBest_82 (cf_s137 k5.cf) rfl rfl kz) ?_
      refine WQ.st (fun _ _ kz => pw_aload1 dX2_playBest_85 kz) ?_
      refine WQ.st (fun _ _ kz => pw_getr gX2_46 dX2_playBest_86 (st_s0 hST5) (st_p0_0 hST5) kz) ?_
      refine WQ.st (fun _ _ kz => pw_iload2 dX2_playBest_89 kz) ?_
      refine WQ.st (fun _ _ kz => pw_aload0 dX2_playBest_90 kz) ?_
      refine WQ.st (fun _ _ kz => pw_getr gX2_26 dX2_playBest_91 (cf_s137 k5.cf) (cf_p137_3 k5.cf) kz) ?_
      refine WQ.st (fun _ _ kz => pw_gWe rfl dX2_playBest_94 (cf_s107 k5.cf) kz) ?_
      rw [up2_na (by decide), g3]
      refine WQ.st (fun _ _ kz => pw_ast (j := p) dX2_playBest_97 (st_s1 hST5) (ix_m rfl (by omega)) (by omega)  kz) ?_
      refine WQ.st (fun _ _ kz => pw_aload1 dX2_playBest_98 kz) ?_
      refine WQ.st (fun _ _ kz => pw_iload2 dX2_playBest_99 kz) ?_
      refine WQ.st (fun _ _ kz => pw_aload0 dX2_playBest_100 kz) ?_
      refine WQ.st (fun _ _ kz => pw_geti gX2_9 dX2_playBest_101 (cf_s137 k5.cf) kz) ?_
      rw [up2_eq]
      refine wq_o2v wX8_addJoy lX2_59 rfl dX2_playBest_104 (st_s0 hST5) (k_addJoy hST5 hp _) rfl (Nat.le_of_ble_eq_true rfl) (Nat.le_of_ble_eq_true rfl) (fun h104 z104 => ?_)
      subst z104
      refine WQ.st (fun _ _ kz => pw_iconst (v := 0) dX2_playBest_107 (by decide) kz) ?_
      refine ⟨_, _, pw_iret dX2_playBest_108 rfl rfl rfl rfl, ?_⟩
      have hz : sp_wb al (nI p).toInt (nI q).toInt = 0 := by unfold sp_wb; rw [if_pos c11, tp, tq, Int.toNat_natCast, Int.toNat_natCast, if_neg hne]
      have c0 : (if sp_wb al (nI p).toInt (nI q).toInt = 0 then sp_pb al (nI p).toInt.toNat (nI q).toInt.toNat else al) = sp_pb al p q := by rw [hz]; rw [if_pos rfl, tp, tq, Int.toNat_natCast, Int.toNat_natCast]
      rw [c0, hz]
      have a7 : ∀ x, x = 109 ∨ x < 96 → A7 x = A x := fun x hx => by rw [g1a x (by omega), f6.1 x (by omega) (by omega) (by omega) (by omega), a5 x (by omega) (by omega) (by omega) (by omega)]
      have v7 : ∀ x, x ≠ 96 → x ≠ 107 → V7 x = V x := fun x h1 h2 => by rw [g1v x h2, v5 x h1]
      have k7 : KB S5 V7 P5 A7 B6 Q5 t5 al sh ls5 p tm q := k6.fr ⟨fun x hx => g1v x (by omega), fun x hx => g1a x (by omega), fun _ _ => rfl⟩
      have hdc : DC S5 V7 P5 A7 B6 Q5 t5 al sh ls5 := k7.dc hE.dc f5.1 (hE.dc.hb.to (f5.2.2.2.1 103 (by decide))) (hE.dc.rh.to (by rw [f5.2.2.2.1 107 (by decide)]) (by rw [f5.2.2.2.1 107 (by decide)])) (hE.dc.hw.to (by rw [f5.2.2.2.1 107 (by decide)]) (by rw [f5.2.2.2.1 107 (by decide)])) (a7 109 (by omega))
      have hfr : FrD a S V P A B Q t S5 V7 P5 A7 B6 Q5 t5 := (f5.d.tr (f6.w (V := V5)).d).tr (FrD.va (fun x hx => g1v x (by omega)) (fun x hx => g1a x (by omega)))
      have hcs := bs_st hD hE.kv hp hq hne
      have hse := hE.se.plays (V' := (up2 V7 137 0 (bsT al p q (-20)))) (A' := (up2 (up2 A7 (a + 1) p (sI (rf_st (TT al p q) kpA (lgN al q) (rf_e (-20)) (stN al p) (lgN al q)).2)) (a + 2) p (rf_jo (up2 A7 (a + 1) p (sI (rf_st (TT al p q) kpA (lgN al q) (rf_e (-20)) (stN al p) (lgN al q)).2) (a + 2) p + (bsT al p q (-20)))))) hp (g := (bsT al p q (-20))) (s := (sI (rf_st (TT al p q) kpA (lgN al q) (rf_e (-20)) (stN al p) (lgN al q)).2)) (by rw [up2_na (by omega), v7 a (by omega) (by omega)]) (by rw [up2_na (by omega), up2_at, a7 _ (by omega)]) (by rw [up2_at, up2_na (by omega), a7 _ (by omega)]) (by rw [up2_na (by omega), up2_na (by omega), a7 _ (by omega)])
      have hfk : FrK V7 A7 B6 (up2 V7 137 0 (bsT al p q (-20))) (up2 (up2 A7 (a + 1) p (sI (rf_st (TT al p q) kpA (lgN al q) (rf_e (-20)) (stN al p) (lgN al q)).2)) (a + 2) p (rf_jo (up2 A7 (a + 1) p (sI (rf_st (TT al p q) kpA (lgN al q) (rf_e (-20)) (stN al p) (lgN al q)).2) (a + 2) p + (bsT al p q (-20))))) B6 := (FrK.v (a := 137) (by decide)).tr ((FrK.a (a := a + 1) (by omega)).tr (FrK.a (a := a + 2) (by omega)))
      refine ⟨rfl, t5, sl5, ls5, S5, _, P5, _, B6, Q5, rfl, ⟨(hdc.fr hfk (by rw [up2_na (by omega), up2_na (by omega)])).cong (fun i hi => pl_out hp (by omega)), (by rw [show sp_pb al p q 2 = al 2 from pl_out hp (by omega)]; exact hE.kv.plays hp (by omega) (sI_b hcs) _), hse, ha⟩, l5, hfr.tr (FrD.va (fun x hx => up2_na (by omega)) (fun x hx => by rw [up2_na (by omega), up2_na (by omega)])), r5, by rw [up2_nk (by decide), v7 137 (by decide) (by decide)], fun _ => ?_⟩
      rw [up2_eq, tp, tq, Int.toNat_natCast, Int.toNat_natCast]
    · rw [bI_0] at c69
      have hce := Classical.not_not.mp (of_decide_eq_false c69)
      refine WQ.st (fun _ _ kz => pw_iconst (v := 3) dX2_playBest_72 (by decide) kz) ?_
      refine ⟨_, _, pw_iret dX2_playBest_73 rfl rfl rfl rfl, ?_⟩
      have hz : sp_wb al (nI p).toInt (nI q).toInt = 3 := by unfold sp_wb; rw [if_pos c11, tp, tq, Int.toNat_natCast, Int.toNat_natCast, if_pos hce]
      have c0 : (if sp_wb al (nI p).toInt (nI q).toInt = 0 then sp_pb al (nI p).toInt.toNat (nI q).toInt.toNat else al) = al := by rw [hz]; exact if_neg (by decide)
      rw [c0, hz]
      have a7 : ∀ x, x = 109 ∨ x < 96 → A7 x = A x := fun x hx => by rw [g1a x (by omega), f6.1 x (by omega) (by omega) (by omega) (by omega), a5 x (by omega) (by omega) (by omega) (by omega)]
      have v7 : ∀ x, x ≠ 96 → x ≠ 107 → V7 x = V x := fun x h1 h2 => by rw [g1v x h2, v5 x h1]
      have k7 : KB S5 V7 P5 A7 B6 Q5 t5 al sh ls5 p tm q := k6.fr ⟨fun x hx => g1v x (by omega), fun x hx => g1a x (by omega), fun _ _ => rfl⟩
      have hdc : DC S5 V7 P5 A7 B6 Q5 t5 al sh ls5 := k7.dc hE.dc f5.1 (hE.dc.hb.to (f5.2.2.2.1 103 (by decide))) (hE.dc.rh.to (by rw [f5.2.2.2.1 107 (by decide)]) (by rw [f5.2.2.2.1 107 (by decide)])) (hE.dc.hw.to (by rw [f5.2.2.2.1 107 (by decide)]) (by rw [f5.2.2.2.1 107 (by decide)])) (a7 109 (by omega))
      have hfr : FrD a S V P A B Q t S5 V7 P5 A7 B6 Q5 t5 := (f5.d.tr (f6.w (V := V5)).d).tr (FrD.va (fun x hx => g1v x (by omega)) (fun x hx => g1a x (by omega)))
      have hse := hE.se.fr (V' := V7) (A' := A7) (v7 a (by omega) (by omega)) (fun x h1 h2 => a7 x (by omega))
      exact ⟨rfl, t5, sl5, ls5, S5, V7, P5, A7, B6, Q5, rfl, ⟨hdc, hE.kv, hse, ha⟩, l5, hfr, r5, by rw [v7 137 (by decide) (by decide)], fun q => absurd q (by decide)⟩
  · refine WQ.st (fun _ _ kz => pw_iload4 dX2_playBest_14 kz) ?_
    refine ⟨_, _, pw_iret dX2_playBest_16 rfl rfl rfl rfl, ?_⟩
    have hz : sp_wb al x.toInt y.toInt = sp_wp al x.toInt y.toInt := by unfold sp_wb; rw [if_neg c11]
    rw [hz, if_neg c11]
    exact ⟨rfl, t, sl, ls, S, V, P, A, B, Q, rfl, hE, by omega, FrD.rfl, fun _ _ h => h, rfl, fun q => absurd q c11⟩
