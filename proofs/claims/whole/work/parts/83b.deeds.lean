set_option maxRecDepth 20000 in
theorem k_playComing {G : gT} {d : Nat} {S : sS} {V : sV} {P : sP} {A : sV} {B : sB} {Q : sP} {t sl : Nat} {al : Nat → Int32} {sh ls a : Nat} (hE : DE S V P A B Q t al sh ls a) (hls : ls + 1 < 2000000000) (x y : Int32) : WQ G (d + 5) mX2_playComing 0 [some (.ref 137), some (.ref a), some (.int x), some (.int y), none] [] (t, sl, gh S V P A B Q) (fun r h' => r = some (.int (sp_wp al x.toInt y.toInt)) ∧ ∃ (t' sl' ls' : Nat) (S' : sS) (V' : sV) (P' : sP) (A' : sV) (B' : sB) (Q' : sP), h' = (t', sl', gh S' V' P' A' B' Q') ∧ DE S' V' P' A' B' Q' t' (if sp_wp al x.toInt y.toInt = 0 then sp_pc al x.toInt.toNat y.toInt.toNat else al) sh ls' a ∧ ls' ≤ ls + 1 ∧ FrD a S V P A B Q t S' V' P' A' B' Q' t' ∧ (∀ k1 k2, Room2 S Q t sl k1 k2 → Room2 S' Q' t' sl' k1 k2) ∧ V' 137 4 = V 137 4 ∧ (sp_wp al x.toInt y.toInt = 0 → V' 137 0 = (cmF al x.toInt.toNat y.toInt.toNat (lgN al y.toInt.toNat)).2.1)) := by
  have hC := hE.dc.ka.cf
  have hD := hE.dc.ka.dv
  have hSe := hE.dc.ka.se
  have hST := hE.st
  have ha := hE.a2
  have hsa := hE.dc.ka.sa
  refine WQ.st (fun _ _ kz => pw_aload0 dX2_playComing_0 kz) ?_
  refine WQ.st (fun _ _ kz => pw_aload1 dX2_playComing_1 kz) ?_
  refine WQ.st (fun _ _ kz => pw_iload2 dX2_playComing_2 kz) ?_
  refine WQ.st (fun _ _ kz => pw_iload3 dX2_playComing_3 kz) ?_
  refine wq_o3i wX2_whyNotPlay lX2_30 rfl dX2_playComing_4 (cf_s137 hC) (k_whyNotPlay hE _ _) rfl (Nat.le_of_ble_eq_true rfl) (Nat.le_of_ble_eq_true rfl) (fun h4 z4 => ?_)
  subst z4
  refine WQ.st (fun _ _ kz => pw_istore4 dX2_playComing_7 (by decide) (k := kz)) ?_
  refine WQ.st (fun _ _ kz => pw_iload4 dX2_playComing_9 kz) ?_
  refine WQ.br (fun _ _ ka kb => pw_if_eq (tgt := 17) dX2_playComing_11 (by decide) ka kb) (fun c11 => ?_) (fun c11 => ?_)
  · have hp5 := hD.p5
    have hn4 := hD.n4
    have g1 := isP_t (wp_0 c11).1
    have g2 := isQ_t (wp_0 c11).2
    have hiq := (wp_0 c11).2
    obtain ⟨p, rfl, tp, lp⟩ := nI_get g1.1 g1.2 (by omega)
    obtain ⟨q, rfl, tq, lq⟩ := nI_get g2.1 g2.2 (by omega)
    have hp : p < 5 := by omega
    have hq : q < 4 := by omega
    obtain ⟨tm, ht, etm, hat⟩ := hE.kv.tmE hp
    obtain ⟨es0, hs0⟩ := hE.kv.stE hp
    refine WQ.st (fun _ _ kz => pw_aload0 dX2_playComing_17 kz) ?_
    refine WQ.st (fun _ _ kz => pw_getr gX2_18 dX2_playComing_18 (cf_s137 hC) (cf_p137_1 hC) kz) ?_
    refine WQ.st (fun _ _ kz => pw_iload2 dX2_playComing_21 kz) ?_
    refine WQ.st (fun _ _ kz => pw_aload1 dX2_playComing_22 kz) ?_
    refine WQ.st (fun _ _ kz => pw_getr gX2_34 dX2_playComing_23 (st_s0 hST) (st_p0_2 hST) kz) ?_
    refine WQ.st (fun _ _ kz => pw_iload2 dX2_playComing_26 kz) ?_
    refine WQ.st (fun _ _ kz => pw_ald (j := p) dX2_playComing_27 (st_s3 hST) (ix_m rfl (by omega)) (by omega) kz) ?_
    rw [hE.se.tm hp, etm]
    refine WQ.st (fun _ _ kz => pw_iload3 dX2_playComing_28 kz) ?_
    refine wq_o3v wX0_takeUp lX2_40 rfl dX2_playComing_29 (cf_s96 hC) (k_takeUp hE.dc.ka hls hp ht hq hiq) rfl (Nat.le_of_ble_eq_true rfl) (Nat.le_of_ble_eq_true rfl) (fun h29 z29 => ?_)
    obtain ⟨t5, sl5, ls5, S5, V5, P5, A5, B5, Q5, rfl, k5, l5, f5, r5⟩ := z29
    have w5 := k5.ba
    have v5 : ∀ x, x ≠ 96 → V5 x = V x := f5.2.2.1
    have a5 : ∀ x, x ≠ 97 → x ≠ 98 → x ≠ 100 → x ≠ 101 → A5 x = A x := f5.2.2.2.2.1
    have hST5 : ST S5 P5 a := by
      rcases ha with e | e
      · rw [e]; exact cf_st16 k5.cf
      · rw [e]; exact cf_st20 k5.cf
    refine WQ.st (fun _ _ kz => pw_aload0 dX2_playComing_32 kz) ?_
    refine WQ.st (fun _ _ kz => pw_getr gX2_22 dX2_playComing_33 (cf_s137 k5.cf) (cf_p137_2 k5.cf) kz) ?_
    refine WQ.st (fun _ _ kz => pw_aload1 dX2_playComing_36 kz) ?_
    refine WQ.st (fun _ _ kz => pw_getr gX2_46 dX2_playComing_37 (st_s0 hST5) (st_p0_0 hST5) kz) ?_
    refine WQ.st (fun _ _ kz => pw_iload2 dX2_playComing_40 kz) ?_
    refine WQ.st (fun _ _ kz => pw_ald (j := p) dX2_playComing_41 (st_s1 hST5) (ix_m rfl (by omega)) (by omega) kz) ?_
    rw [a5 _ (by omega) (by omega) (by omega) (by omega), hE.se.st hp, es0]
    refine wq_o1v wX1_run lX2_49 rfl dX2_playComing_42 (cf_s103 k5.cf) (k_run k5 hs0) rfl (Nat.le_of_ble_eq_true rfl) (Nat.le_of_ble_eq_true rfl) (fun h42 z42 => ?_)
    obtain ⟨V6, A6, B6, rfl, k6, cr, f6⟩ := z42
    rw [hat] at cr
    have hST6 := hST5
    refine WQ.st (fun _ _ kz => pw_aload0 dX2_playComing_45 kz) ?_
    refine WQ.st (fun _ _ kz => pw_aload0 dX2_playComing_46 kz) ?_
    refine WQ.st (fun _ _ kz => pw_getr gX2_22 dX2_playComing_47 (cf_s137 k5.cf) (cf_p137_2 k5.cf) kz) ?_
    refine WQ.st (fun _ _ kz => pw_geti gX2_55 dX2_playComing_50 (cf_s103 k5.cf) kz) ?_
    rw [cr.1]
    refine WQ.st (fun _ _ kz => pw_puti (pX2_9 _ rfl) dX2_playComing_53 (cf_s137 k5.cf) rfl rfl kz) ?_
    refine WQ.st (fun _ _ kz => pw_aload1 dX2_playComing_56 kz) ?_
    refine WQ.st (fun _ _ kz => pw_getr gX2_46 dX2_playComing_57 (st_s0 hST5) (st_p0_0 hST5) kz) ?_
    refine WQ.st (fun _ _ kz => pw_iload2 dX2_playComing_60 kz) ?_
    refine WQ.st (fun _ _ kz => pw_aload0 dX2_playComing_61 kz) ?_
    refine WQ.st (fun _ _ kz => pw_getr gX2_22 dX2_playComing_62 (cf_s137 k5.cf) (cf_p137_2 k5.cf) kz) ?_
    refine WQ.st (fun _ _ kz => pw_geti gX2_56 dX2_playComing_65 (cf_s103 k5.cf) kz) ?_
    rw [up2_na (by decide), cr.2.1]
    refine WQ.st (fun _ _ kz => pw_ast (j := p) dX2_playComing_68 (st_s1 hST5) (ix_m rfl (by omega)) (by omega)  kz) ?_
    refine WQ.st (fun _ _ kz => pw_aload1 dX2_playComing_69 kz) ?_
    refine WQ.st (fun _ _ kz => pw_iload2 dX2_playComing_70 kz) ?_
    refine WQ.st (fun _ _ kz => pw_aload0 dX2_playComing_71 kz) ?_
    refine WQ.st (fun _ _ kz => pw_geti gX2_9 dX2_playComing_72 (cf_s137 k5.cf) kz) ?_
    rw [up2_eq]
    refine wq_o2v wX8_addJoy lX2_59 rfl dX2_playComing_75 (st_s0 hST5) (k_addJoy hST5 hp _) rfl (Nat.le_of_ble_eq_true rfl) (Nat.le_of_ble_eq_true rfl) (fun h75 z75 => ?_)
    subst z75
    refine WQ.st (fun _ _ kz => pw_iconst (v := 0) dX2_playComing_78 (by decide) kz) ?_
    refine ⟨_, _, pw_iret dX2_playComing_79 rfl rfl rfl rfl, ?_⟩
    have c0 : (if sp_wp al (nI p).toInt (nI q).toInt = 0 then sp_pc al (nI p).toInt.toNat (nI q).toInt.toNat else al) = sp_pc al p q := by rw [if_pos c11, tp, tq, Int.toNat_natCast, Int.toNat_natCast]
    rw [c0]
    have a6 : ∀ x, x = 109 ∨ x < 96 → A6 x = A x := fun x hx => by rw [f6.2.1 x (by omega) (by omega) (by omega), a5 x (by omega) (by omega) (by omega) (by omega)]
    have v6 : ∀ x, x ≠ 96 → x ≠ 103 → V6 x = V x := fun x h1 h2 => by rw [f6.1 x h2, v5 x h1]
    have hcs := cm_st hD hE.kv hp hq
    have hse := hE.se.plays (V' := up2 V6 137 0 (rf_cm (TT al p q) (stN al p) (lgN al q)).2.1) (A' := up2 (up2 A6 (a + 1) p (sI (rf_cm (TT al p q) (stN al p) (lgN al q)).1.2)) (a + 2) p (rf_jo (up2 A6 (a + 1) p (sI (rf_cm (TT al p q) (stN al p) (lgN al q)).1.2) (a + 2) p + (rf_cm (TT al p q) (stN al p) (lgN al q)).2.1))) hp (g := (cmF al p q (lgN al q)).2.1) (s := sI (cmF al p q (lgN al q)).1.2) (by rw [up2_na (by omega), v6 a (by omega) (by omega)]) (by rw [up2_na (by omega), up2_at, a6 _ (by omega)]; rfl) (by rw [up2_at, up2_na (by omega), a6 _ (by omega)]; rfl) (by rw [up2_na (by omega), up2_na (by omega), a6 _ (by omega)])
    have hdc : DC S5 V6 P5 A6 B6 Q5 t5 al sh ls5 := k6.dc hE.dc f5.1 (hE.dc.hb.to (f5.2.2.2.1 103 (by decide))) (hE.dc.rh.to (by rw [f5.2.2.2.1 107 (by decide)]) (by rw [f5.2.2.2.1 107 (by decide)])) (hE.dc.hw.to (by rw [f5.2.2.2.1 107 (by decide)]) (by rw [f5.2.2.2.1 107 (by decide)])) (a6 109 (by omega))
    have hfk : FrK V6 A6 B6 (up2 V6 137 0 (rf_cm (TT al p q) (stN al p) (lgN al q)).2.1) (up2 (up2 A6 (a + 1) p (sI (rf_cm (TT al p q) (stN al p) (lgN al q)).1.2)) (a + 2) p (rf_jo (up2 A6 (a + 1) p (sI (rf_cm (TT al p q) (stN al p) (lgN al q)).1.2) (a + 2) p + (rf_cm (TT al p q) (stN al p) (lgN al q)).2.1))) B6 := (FrK.v (a := 137) (by decide)).tr ((FrK.a (a := a + 1) (by omega)).tr (FrK.a (a := a + 2) (by omega)))
    refine ⟨by rw [c11], t5, sl5, ls5, S5, _, P5, _, B6, Q5, rfl, ⟨(hdc.fr hfk (by rw [up2_na (by omega), up2_na (by omega)])).cong (fun i hi => pl_out hp (by omega)), (by rw [show sp_pc al p q 2 = al 2 from pl_out hp (by omega)]; exact hE.kv.plays hp (by omega) (sI_b hcs) _), hse, ha⟩, l5, (f5.d.tr f6.d).tr (FrD.va (fun x hx => up2_na (by omega)) (fun x hx => by rw [up2_na (by omega), up2_na (by omega)])), r5, by rw [up2_nk (by decide), v6 137 (by decide) (by decide)], fun _ => ?_⟩
    rw [up2_eq, tp, tq, Int.toNat_natCast, Int.toNat_natCast]
    rfl
  · refine WQ.st (fun _ _ kz => pw_iload4 dX2_playComing_14 kz) ?_
    refine ⟨_, _, pw_iret dX2_playComing_16 rfl rfl rfl rfl, ?_⟩
    have c0 : (if sp_wp al x.toInt y.toInt = 0 then sp_pc al x.toInt.toNat y.toInt.toNat else al) = al := if_neg c11
    rw [c0]
    exact ⟨rfl, t, sl, ls, S, V, P, A, B, Q, rfl, hE, by omega, FrD.rfl, fun _ _ h => h, rfl, fun q => absurd q c11⟩
