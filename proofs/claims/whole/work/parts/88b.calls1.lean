set_option maxRecDepth 20000 in
theorem q_lend {G : gT} {d : Nat} {S : sS} {V : sV} {P : sP} {A : sV} {B : sB} {Q : sP} {t sl : Nat} {al : Nat → Int32} {W : WT} {sh ls : Nat} (hI : CI S V P A B Q t al W sh ls) (hls : ls + 1000 < 2000000000) (x y z : Int32) : WQ G (d + 9) mX11_lend 0 [some (.ref 8), some (.int x), some (.int y), some (.int z), none] [] (t, sl, gh S V P A B Q) (CZ S V P A B Q t sl W sh ls (.int (sp_lendC al x.toInt y.toInt z.toInt).1) (sp_lendC al x.toInt y.toInt z.toInt).2) := by
  unfold CZ
  have hE := hI.de
  have hC := hE.dc.ka.cf
  have hD := hE.dc.ka.dv
  have hSe := hE.dc.ka.se
  have hA := hI.av
  refine WQ.st (fun _ _ kz => pw_aload0 dX11_lend_0 kz) ?_
  refine WQ.st (fun _ _ kz => pw_getr gX11_39 dX11_lend_1 (cf_s8 hC) (cf_p8_6 hC) kz) ?_
  refine WQ.st (fun _ _ kz => pw_aload0 dX11_lend_4 kz) ?_
  refine WQ.st (fun _ _ kz => pw_getr gX11_35 dX11_lend_5 (cf_s8 hC) (cf_p8_5 hC) kz) ?_
  refine wq_o1v wX8_copy lX11_194 rfl dX11_lend_8 (cf_s20 hC) (k_copy (cf_st20 hC) (cf_st16 hC) (by omega) hE.se) rfl (Nat.le_of_ble_eq_true rfl) (Nat.le_of_ble_eq_true rfl) (fun h8 z8 => ?_)
  obtain ⟨V1, A1, rfl, w1, w2⟩ := z8
  have hE1 := hE.aside w2
  refine WQ.st (fun _ _ kz => pw_aload0 dX11_lend_11 kz) ?_
  refine WQ.st (fun _ _ kz => pw_getr gX11_114 dX11_lend_12 (cf_s8 hC) (cf_p8_15 hC) kz) ?_
  refine WQ.st (fun _ _ kz => pw_aload0 dX11_lend_15 kz) ?_
  refine WQ.st (fun _ _ kz => pw_getr gX11_35 dX11_lend_16 (cf_s8 hC) (cf_p8_5 hC) kz) ?_
  refine WQ.st (fun _ _ kz => pw_iload1 dX11_lend_19 kz) ?_
  refine WQ.st (fun _ _ kz => pw_iload2 dX11_lend_20 kz) ?_
  refine WQ.st (fun _ _ kz => pw_iload3 dX11_lend_21 kz) ?_
  refine wq_o4i wX2_lendTicks lX11_212 rfl dX11_lend_22 (cf_s137 hC) (k_lendTicks hE1 _ _ _) rfl (Nat.le_of_ble_eq_true rfl) (Nat.le_of_ble_eq_true rfl) (fun h22 z22 => ?_)
  obtain ⟨t5, sl5, ls5, S5, V5, P5, A5, B5, Q5, rfl, z1, z2, z3, z4, z5⟩ := z22
  have hC := z1.dc.ka.cf
  refine WQ.st (fun _ _ kz => pw_istore4 dX11_lend_25 (by decide) (k := kz)) ?_
  refine WQ.st (fun _ _ kz => pw_iload4 dX11_lend_27 kz) ?_
  refine WQ.br (fun _ _ ka kb => pw_if_eq (tgt := 38) dX11_lend_29 (by decide) ka kb) (fun c29 => ?_) (fun c29 => ?_)
  · have hw := wl_0 c29
    have hp := isP_t hw.1
    have hq := isP_t hw.2.1
    have hp5 := hD.p5
    have hne := hw.2.2.1
    rw [if_pos c29] at z1
    have hR5 := (hI.re.aside w2).fr (z3.r (Or.inl rfl))
    have ho := (fun i hi => le_out (by omega) (by omega) hi : ∀ i, i < 75 ∨ 92 ≤ i → sp_lend al x.toInt.toNat y.toInt.toNat z i = al i)
    have hH5 := hR5.hi.cong hA.dn.2 (fun i h1 h2 => ho i (by omega))
    have w5 : StE V5 A5 20 (fun k => al (75 + k)) := w1.fr (z3.2.2.1 20 (by omega)) (fun x _ _ => z3.2.2.2.2.1 x (by omega))
    have hz := hw.2.2.2.1
    have ez : nI z.toInt.toNat = z := (nI_ofI (by omega)).symm
    obtain ⟨p, rfl, tp, lp⟩ := nI_get hp.1 hp.2 (by omega)
    have hpl : p < 5 := by omega
    have hpq : (77 + p) ≠ 77 + y.toInt.toNat := by omega
    refine WQ.st (fun _ _ kz => pw_aload0 dX11_lend_38 kz) ?_
    refine WQ.st (fun _ _ kz => pw_getr gX11_45 dX11_lend_39 (cf_s8 hC) (cf_p8_7 hC) kz) ?_
    refine WQ.st (fun _ _ kz => pw_aload0 dX11_lend_42 kz) ?_
    refine WQ.st (fun _ _ kz => pw_getr gX11_39 dX11_lend_43 (cf_s8 hC) (cf_p8_6 hC) kz) ?_
    refine wq_o1v wX3_keep lX11_203 rfl dX11_lend_46 (cf_s24 hC) (k_keep hC hH5 (by rw [ho 92 (by omega)]; exact hA.dn) (Or.inr rfl) w5) rfl (Nat.le_of_ble_eq_true rfl) (Nat.le_of_ble_eq_true rfl) (fun h46 z46 => ?_)
    obtain ⟨V7, A7, rfl, g1, g2⟩ := z46
    refine WQ.st (fun _ _ kz => pw_aload0 dX11_lend_49 kz) ?_
    refine WQ.st (fun _ _ kz => pw_getr gX11_35 dX11_lend_50 (cf_s8 hC) (cf_p8_5 hC) kz) ?_
    refine WQ.st (fun _ _ kz => pw_getr gX11_156 dX11_lend_53 (cf_s16 hC) (cf_p16_0 hC) kz) ?_
    refine WQ.st (fun _ _ kz => pw_iload1 dX11_lend_56 kz) ?_
    refine WQ.st (fun _ _ kz => pw_ald (j := p) dX11_lend_57 (cf_s17 hC) (ix_m rfl (by omega)) (by omega) kz) ?_
    rw [g2.2 17 (by omega), z1.se.st hpl]
    refine ⟨_, _, pw_iret dX11_lend_58 rfl rfl rfl rfl, ?_⟩
    obtain ⟨q1, q2⟩ := CI.deed hA (hI.re.aside w2) z1 z3 ho g1 g2
    have es : sp_lendC al (nI p).toInt y.toInt z.toInt = (sp_lend al (nI p).toInt.toNat y.toInt.toNat z (77 + p), nk al (sp_lend al (nI p).toInt.toNat y.toInt.toNat z)) := by
      unfold sp_lendC
      rw [if_pos c29, ez, tp, Int.toNat_natCast]
      unfold sp_lend
      rw [pm_up_ne hpq, pm_up_eq]
    rw [es]
    exact ⟨rfl, t5, sl5, ls5, S5, V7, P5, A7, B5, Q5, rfl, q1, by omega, w2.o.tr q2, z4⟩
  · refine WQ.st (fun _ _ kz => pw_ldc kX11_202 dX11_lend_32 kz) ?_
    refine WQ.st (fun _ _ kz => pw_iload4 dX11_lend_34 kz) ?_
    refine WQ.st (fun _ _ kz => pw_isub dX11_lend_36 kz) ?_
    refine ⟨_, _, pw_iret dX11_lend_37 rfl rfl rfl rfl, ?_⟩
    rw [if_neg c29] at z1
    unfold sp_lendC
    rw [if_neg c29]
    exact ⟨rfl, t5, sl5, ls5, S5, V5, P5, A5, B5, Q5, rfl, ⟨z1, hA, (hI.re.aside w2).fr (z3.r (Or.inl rfl))⟩, by omega, w2.o.tr (z3.o (Or.inl rfl)), z4⟩
set_option maxRecDepth 20000 in
theorem q_temper {G : gT} {d : Nat} {S : sS} {V : sV} {P : sP} {A : sV} {B : sB} {Q : sP} {t sl : Nat} {al : Nat → Int32} {W : WT} {sh ls : Nat} (hI : CI S V P A B Q t al W sh ls) (hls : ls + 1000 < 2000000000) (x y : Int32) : WQ G (d + 9) mX11_temper 0 [some (.ref 8), some (.int x), some (.int y), none] [] (t, sl, gh S V P A B Q) (CZ S V P A B Q t sl W sh ls (.int (sp_temp al x.toInt y.toInt).1) (sp_temp al x.toInt y.toInt).2) := by
  unfold CZ
  have hE := hI.de
  have hC := hE.dc.ka.cf
  have hD := hE.dc.ka.dv
  have hSe := hE.dc.ka.se
  have hA := hI.av
  refine WQ.st (fun _ _ kz => pw_aload0 dX11_temper_0 kz) ?_
  refine WQ.st (fun _ _ kz => pw_getr gX11_39 dX11_temper_1 (cf_s8 hC) (cf_p8_6 hC) kz) ?_
  refine WQ.st (fun _ _ kz => pw_aload0 dX11_temper_4 kz) ?_
  refine WQ.st (fun _ _ kz => pw_getr gX11_35 dX11_temper_5 (cf_s8 hC) (cf_p8_5 hC) kz) ?_
  refine wq_o1v wX8_copy lX11_194 rfl dX11_temper_8 (cf_s20 hC) (k_copy (cf_st20 hC) (cf_st16 hC) (by omega) hE.se) rfl (Nat.le_of_ble_eq_true rfl) (Nat.le_of_ble_eq_true rfl) (fun h8 z8 => ?_)
  obtain ⟨V1, A1, rfl, w1, w2⟩ := z8
  have hE1 := hE.aside w2
  refine WQ.st (fun _ _ kz => pw_aload0 dX11_temper_11 kz) ?_
  refine WQ.st (fun _ _ kz => pw_getr gX11_114 dX11_temper_12 (cf_s8 hC) (cf_p8_15 hC) kz) ?_
  refine WQ.st (fun _ _ kz => pw_aload0 dX11_temper_15 kz) ?_
  refine WQ.st (fun _ _ kz => pw_getr gX11_35 dX11_temper_16 (cf_s8 hC) (cf_p8_5 hC) kz) ?_
  refine WQ.st (fun _ _ kz => pw_iload1 dX11_temper_19 kz) ?_
  refine WQ.st (fun _ _ kz => pw_iload2 dX11_temper_20 kz) ?_
  refine wq_o3i wX2_haveTemper lX11_216 rfl dX11_temper_21 (cf_s137 hC) (k_haveTemper hE1 _ _) rfl (Nat.le_of_ble_eq_true rfl) (Nat.le_of_ble_eq_true rfl) (fun h21 z21 => ?_)
  obtain ⟨t5, sl5, ls5, S5, V5, P5, A5, B5, Q5, rfl, z1, z2, z3, z4, z5⟩ := z21
  have hC := z1.dc.ka.cf
  refine WQ.st (fun _ _ kz => pw_istore3 dX11_temper_24 (by decide) (k := kz)) ?_
  refine WQ.st (fun _ _ kz => pw_iload3 dX11_temper_25 kz) ?_
  refine WQ.br (fun _ _ ka kb => pw_if_eq (tgt := 34) dX11_temper_26 (by decide) ka kb) (fun c26 => ?_) (fun c26 => ?_)
  · have hc : (isP al x.toInt && decide (0 ≤ y.toInt ∧ y.toInt ≤ 9)) = true := by
      by_cases e : (isP al x.toInt && decide (0 ≤ y.toInt ∧ y.toInt ≤ 9)) = true
      · exact e
      · rw [if_neg e] at c26; exact absurd c26 (by decide)
    have hb := (Bool.and_eq_true _ _).mp hc
    have hp := isP_t hb.1
    have hy : 0 ≤ y.toInt ∧ y.toInt ≤ 9 := of_decide_eq_true hb.2
    have hp5 := hD.p5
    obtain ⟨p, rfl, tp, lp⟩ := nI_get hp.1 hp.2 (by omega)
    have hpl : p < 5 := by omega
    have ey : nI y.toInt.toNat = y := (nI_ofI (by omega)).symm
    rw [if_pos hc] at z1
    have hR5 := (hI.re.aside w2).fr (z3.r (Or.inl rfl))
    have ho := (fun i hi => pm_up_ne (by omega) : ∀ i, i < 75 ∨ 92 ≤ i → pm_up al (87 + (nI p).toInt.toNat) y i = al i)
    have hH5 := hR5.hi.cong hA.dn.2 (fun i h1 h2 => ho i (by omega))
    have w5 : StE V5 A5 20 (fun k => al (75 + k)) := w1.fr (z3.2.2.1 20 (by omega)) (fun x _ _ => z3.2.2.2.2.1 x (by omega))
    refine WQ.st (fun _ _ kz => pw_aload0 dX11_temper_34 kz) ?_
    refine WQ.st (fun _ _ kz => pw_getr gX11_45 dX11_temper_35 (cf_s8 hC) (cf_p8_7 hC) kz) ?_
    refine WQ.st (fun _ _ kz => pw_aload0 dX11_temper_38 kz) ?_
    refine WQ.st (fun _ _ kz => pw_getr gX11_39 dX11_temper_39 (cf_s8 hC) (cf_p8_6 hC) kz) ?_
    refine wq_o1v wX3_keep lX11_203 rfl dX11_temper_42 (cf_s24 hC) (k_keep hC hH5 (by rw [ho 92 (by omega)]; exact hA.dn) (Or.inr rfl) w5) rfl (Nat.le_of_ble_eq_true rfl) (Nat.le_of_ble_eq_true rfl) (fun h42 z42 => ?_)
    obtain ⟨V7, A7, rfl, g1, g2⟩ := z42
    refine WQ.st (fun _ _ kz => pw_aload0 dX11_temper_45 kz) ?_
    refine WQ.st (fun _ _ kz => pw_getr gX11_39 dX11_temper_46 (cf_s8 hC) (cf_p8_6 hC) kz) ?_
    refine WQ.st (fun _ _ kz => pw_getr gX11_162 dX11_temper_49 (cf_s20 hC) (cf_p20_2 hC) kz) ?_
    refine WQ.st (fun _ _ kz => pw_iload1 dX11_temper_52 kz) ?_
    refine WQ.st (fun _ _ kz => pw_ald (j := p) dX11_temper_53 (cf_s23 hC) (ix_m rfl (by omega)) (by omega) kz) ?_
    rw [g2.2 23 (by omega), w5.tm hpl]
    refine ⟨_, _, pw_iret dX11_temper_54 rfl rfl rfl rfl, ?_⟩
    obtain ⟨q1, q2⟩ := CI.deed hA (hI.re.aside w2) z1 z3 ho g1 g2
    have es : sp_temp al (nI p).toInt y.toInt = (al (87 + p), nk al (pm_up al (87 + (nI p).toInt.toNat) y)) := by
      unfold sp_temp
      rw [if_pos hc, ey, tp, Int.toNat_natCast]
    rw [es]
    exact ⟨rfl, t5, sl5, ls5, S5, V7, P5, A7, B5, Q5, rfl, q1, by omega, w2.o.tr q2, z4⟩
  · have hc : ¬ (isP al x.toInt && decide (0 ≤ y.toInt ∧ y.toInt ≤ 9)) = true := fun e => c26 (by rw [if_pos e])
    refine WQ.st (fun _ _ kz => pw_ldc kX11_202 dX11_temper_29 kz) ?_
    refine WQ.st (fun _ _ kz => pw_iload3 dX11_temper_31 kz) ?_
    refine WQ.st (fun _ _ kz => pw_isub dX11_temper_32 kz) ?_
    refine ⟨_, _, pw_iret dX11_temper_33 rfl rfl rfl rfl, ?_⟩
    rw [if_neg hc] at z1
    have es : sp_temp al x.toInt y.toInt = (-99000011, al) := by unfold sp_temp; rw [if_neg hc]
    rw [es, if_neg hc]
    exact ⟨rfl, t5, sl5, ls5, S5, V5, P5, A5, B5, Q5, rfl, ⟨z1, hA, (hI.re.aside w2).fr (z3.r (Or.inl rfl))⟩, by omega, w2.o.tr (z3.o (Or.inl rfl)), z4⟩
set_option maxRecDepth 20000 in
theorem q_friday {G : gT} {d : Nat} {S : sS} {V : sV} {P : sP} {A : sV} {B : sB} {Q : sP} {t sl : Nat} {al : Nat → Int32} {W : WT} {sh ls : Nat} (hI : CI S V P A B Q t al W sh ls) (hls : ls + 1000 < 2000000000) : WQ G (d + 9) mX11_friday 0 [some (.ref 8)] [] (t, sl, gh S V P A B Q) (CZ S V P A B Q t sl W sh ls (.int (frb al (al 2).toInt.toNat)) (nk al (sp_fri al))) := by
  unfold CZ
  have hE := hI.de
  have hC := hE.dc.ka.cf
  have hD := hE.dc.ka.dv
  have hSe := hE.dc.ka.se
  have hA := hI.av
  refine WQ.st (fun _ _ kz => pw_aload0 dX11_friday_0 kz) ?_
  refine WQ.st (fun _ _ kz => pw_getr gX11_45 dX11_friday_1 (cf_s8 hC) (cf_p8_7 hC) kz) ?_
  refine WQ.st (fun _ _ kz => pw_aload0 dX11_friday_4 kz) ?_
  refine WQ.st (fun _ _ kz => pw_getr gX11_35 dX11_friday_5 (cf_s8 hC) (cf_p8_5 hC) kz) ?_
  refine wq_o1v wX3_keep lX11_203 rfl dX11_friday_8 (cf_s24 hC) (k_keep hC hI.re.hi hA.dn (Or.inl rfl) hE.se) rfl (Nat.le_of_ble_eq_true rfl) (Nat.le_of_ble_eq_true rfl) (fun h8 z8 => ?_)
  obtain ⟨V7, A7, rfl, g1, g2⟩ := z8
  have hE1 := hE.keep g2 (fun _ _ => rfl)
  refine WQ.st (fun _ _ kz => pw_aload0 dX11_friday_11 kz) ?_
  refine WQ.st (fun _ _ kz => pw_getr gX11_114 dX11_friday_12 (cf_s8 hC) (cf_p8_15 hC) kz) ?_
  refine WQ.st (fun _ _ kz => pw_aload0 dX11_friday_15 kz) ?_
  refine WQ.st (fun _ _ kz => pw_getr gX11_35 dX11_friday_16 (cf_s8 hC) (cf_p8_5 hC) kz) ?_
  refine wq_o1i wX2_holdFriday lX11_219 rfl dX11_friday_19 (cf_s137 hC) (k_holdFriday hE1) rfl (Nat.le_of_ble_eq_true rfl) (Nat.le_of_ble_eq_true rfl) (fun h19 z19 => ?_)
  obtain ⟨t5, sl5, ls5, S5, V5, P5, A5, B5, Q5, rfl, z1, z2, z3, z4, z5⟩ := z19
  have hC := z1.dc.ka.cf
  refine WQ.st (fun _ _ kz => pw_pop dX11_friday_22 rfl kz) ?_
  refine WQ.st (fun _ _ kz => pw_aload0 dX11_friday_23 kz) ?_
  refine WQ.st (fun _ _ kz => pw_getr gX11_35 dX11_friday_24 (cf_s8 hC) (cf_p8_5 hC) kz) ?_
  refine WQ.st (fun _ _ kz => pw_geti gX11_223 dX11_friday_27 (cf_s16 hC) kz) ?_
  rw [z1.se.1]
  refine ⟨_, _, pw_iret dX11_friday_30 rfl rfl rfl rfl, ?_⟩
  have hfs : ∀ i, 92 ≤ i → sp_fri al i = al i := fun i hi => fr_out (by omega)
  have hR7 := hI.re.keep (al' := sp_notes al (fun k => al (75 + k))) g2 g1 (fun i hi => notes_out hA.dn (by omega))
  have g5 : HI V5 A5 Q5 (nk al (sp_fri al)) := ((hR7.fr (z3.r (Or.inl rfl))).hi).cong (by
    have := (note_ok hA (fun _ _ => rfl) hA.kv).dn
    exact this.2) (fun i h1 _ => notes_far hfs h1)
  have hk : KV (al 2).toInt (fun k => sp_fri al (75 + k)) := hA.kv.fri
  have en : ∀ i, i < 92 ∨ 263 ≤ i → nk al (sp_fri al) i = sp_fri al i := fun i hi => notes_out (by rw [hfs 92 (by omega)]; exact hA.dn) hi
  have rr : FrH V5 A5 V5 A5 := ⟨fun _ _ => rfl, fun _ _ => rfl⟩
  have c5 := (hR7.fr (z3.r (Or.inl rfl))).keep (al' := nk al (sp_fri al)) rr g5 (fun i hi => by rw [en i (by omega), hfs i (by omega), notes_out hA.dn (by omega)])
  refine ⟨rI ?_, t5, sl5, ls5, S5, V5, P5, A5, B5, Q5, rfl, ⟨z1.keep rr en, note_ok hA (fun i hi => fr_out hi) hk, c5⟩, by omega, g2.o.tr (z3.o (Or.inl rfl)), z4⟩
  show sp_fri al 75 = _
  unfold sp_fri
  rw [pm_up_ne (by omega), pm_up_eq]
