/-! ===== the class's calls: deeds ===== -/
theorem notes_far {al al1 w : Nat → Int32} (h : ∀ i, 92 ≤ i → al1 i = al i) {i : Nat} (hi : 92 ≤ i) : sp_notes al1 w i = sp_notes al w i := by
  unfold sp_notes
  rw [h 92 (by omega)]
  by_cases e : al 92 = 10
  · rw [if_pos e, if_pos e]
    unfold nt1
    by_cases e1 : i = 92
    · rw [if_pos e1, if_pos e1]
    · rw [if_neg e1, if_neg e1]
      by_cases e2 : 93 + 17 * 9 ≤ i ∧ i < 93 + 17 * 9 + 17
      · rw [if_pos e2, if_pos e2]
      · rw [if_neg e2, if_neg e2]
        unfold nt0
        by_cases e3 : 93 ≤ i ∧ i < 93 + 153
        · rw [if_pos e3, if_pos e3, h _ (by omega)]
        · rw [if_neg e3, if_neg e3, h _ (by omega)]
  · rw [if_neg e, if_neg e]
    unfold nt1
    by_cases e1 : i = 92
    · rw [if_pos e1, if_pos e1]
    · rw [if_neg e1, if_neg e1]
      by_cases e2 : 93 + 17 * (al 92).toInt.toNat ≤ i ∧ i < 93 + 17 * (al 92).toInt.toNat + 17
      · rw [if_pos e2, if_pos e2]
      · rw [if_neg e2, if_neg e2, h _ (by omega)]
theorem pl_o {al : Nat → Int32} {p : Nat} {g s : Int32} (hp : p < 5) : ∀ i, i < 75 ∨ 92 ≤ i → sp_plays al p g s i = al i := fun i hi => pl_out hp hi
set_option maxRecDepth 20000 in
theorem q_play {G : gT} {d : Nat} {S : sS} {V : sV} {P : sP} {A : sV} {B : sB} {Q : sP} {t sl : Nat} {al : Nat → Int32} {W : WT} {sh ls : Nat} (hI : CI S V P A B Q t al W sh ls) (hls : ls + 1000 < 2000000000) (x y : Int32) : WQ G (d + 9) mX11_play 0 [some (.ref 8), some (.int x), some (.int y), none] [] (t, sl, gh S V P A B Q) (CZ S V P A B Q t sl W sh ls (.int (sp_play al x.toInt y.toInt).1) (sp_play al x.toInt y.toInt).2) := by
  unfold CZ
  have hE := hI.de
  have hC := hE.dc.ka.cf
  have hD := hE.dc.ka.dv
  have hSe := hE.dc.ka.se
  have hA := hI.av
  refine WQ.st (fun _ _ kz => pw_aload0 dX11_play_0 kz) ?_
  refine WQ.st (fun _ _ kz => pw_getr gX11_39 dX11_play_1 (cf_s8 hC) (cf_p8_6 hC) kz) ?_
  refine WQ.st (fun _ _ kz => pw_aload0 dX11_play_4 kz) ?_
  refine WQ.st (fun _ _ kz => pw_getr gX11_35 dX11_play_5 (cf_s8 hC) (cf_p8_5 hC) kz) ?_
  refine wq_o1v wX8_copy lX11_194 rfl dX11_play_8 (cf_s20 hC) (k_copy (cf_st20 hC) (cf_st16 hC) (by omega) hE.se) rfl (Nat.le_of_ble_eq_true rfl) (Nat.le_of_ble_eq_true rfl) (fun h8 z8 => ?_)
  obtain ⟨V1, A1, rfl, w1, w2⟩ := z8
  have hE1 := hE.aside w2
  refine WQ.st (fun _ _ kz => pw_aload0 dX11_play_11 kz) ?_
  refine WQ.st (fun _ _ kz => pw_getr gX11_114 dX11_play_12 (cf_s8 hC) (cf_p8_15 hC) kz) ?_
  refine WQ.st (fun _ _ kz => pw_aload0 dX11_play_15 kz) ?_
  refine WQ.st (fun _ _ kz => pw_getr gX11_35 dX11_play_16 (cf_s8 hC) (cf_p8_5 hC) kz) ?_
  refine WQ.st (fun _ _ kz => pw_iload1 dX11_play_19 kz) ?_
  refine WQ.st (fun _ _ kz => pw_iload2 dX11_play_20 kz) ?_
  refine wq_o3i wX2_playComing lX11_198 rfl dX11_play_21 (cf_s137 hC) (k_playComing hE1 (by omega) _ _) rfl (Nat.le_of_ble_eq_true rfl) (Nat.le_of_ble_eq_true rfl) (fun h21 z21 => ?_)
  obtain ⟨t5, sl5, ls5, S5, V5, P5, A5, B5, Q5, rfl, z1, z2, z3, z4, z5, z6⟩ := z21
  have hC := z1.dc.ka.cf
  refine WQ.st (fun _ _ kz => pw_istore3 dX11_play_24 (by decide) (k := kz)) ?_
  refine WQ.st (fun _ _ kz => pw_iload3 dX11_play_25 kz) ?_
  refine WQ.br (fun _ _ ka kb => pw_if_eq (tgt := 34) dX11_play_26 (by decide) ka kb) (fun c26 => ?_) (fun c26 => ?_)
  · have hp := isP_t (wp_0 c26).1
    have hp5 := hD.p5
    rw [if_pos c26] at z1
    have hR5 := (hI.re.aside w2).fr (z3.r (Or.inl rfl))
    have ho := (fun i hi => pl_out (by omega) hi : ∀ i, i < 75 ∨ 92 ≤ i → sp_pc al x.toInt.toNat y.toInt.toNat i = al i)
    have hH5 := hR5.hi.cong hA.dn.2 (fun i h1 h2 => ho i (by omega))
    have w5 : StE V5 A5 20 (fun k => al (75 + k)) := w1.fr (z3.2.2.1 20 (by omega)) (fun x _ _ => z3.2.2.2.2.1 x (by omega))
    refine WQ.st (fun _ _ kz => pw_aload0 dX11_play_34 kz) ?_
    refine WQ.st (fun _ _ kz => pw_getr gX11_45 dX11_play_35 (cf_s8 hC) (cf_p8_7 hC) kz) ?_
    refine WQ.st (fun _ _ kz => pw_aload0 dX11_play_38 kz) ?_
    refine WQ.st (fun _ _ kz => pw_getr gX11_39 dX11_play_39 (cf_s8 hC) (cf_p8_6 hC) kz) ?_
    refine wq_o1v wX3_keep lX11_203 rfl dX11_play_42 (cf_s24 hC) (k_keep hC hH5 (by rw [ho 92 (by omega)]; exact hA.dn) (Or.inr rfl) w5) rfl (Nat.le_of_ble_eq_true rfl) (Nat.le_of_ble_eq_true rfl) (fun h42 z42 => ?_)
    obtain ⟨V7, A7, rfl, g1, g2⟩ := z42
    refine WQ.st (fun _ _ kz => pw_aload0 dX11_play_45 kz) ?_
    refine WQ.st (fun _ _ kz => pw_getr gX11_114 dX11_play_46 (cf_s8 hC) (cf_p8_15 hC) kz) ?_
    refine WQ.st (fun _ _ kz => pw_geti gX11_206 dX11_play_49 (cf_s137 hC) kz) ?_
    rw [g2.1 137 (by omega), z6 c26]
    refine ⟨_, _, pw_iret dX11_play_52 rfl rfl rfl rfl, ?_⟩
    obtain ⟨q1, q2⟩ := CI.deed hA (hI.re.aside w2) z1 z3 ho g1 g2
    unfold sp_play
    rw [if_pos c26]
    exact ⟨rfl, t5, sl5, ls5, S5, V7, P5, A7, B5, Q5, rfl, q1, by omega, w2.o.tr q2, z4⟩
  · refine WQ.st (fun _ _ kz => pw_ldc kX11_202 dX11_play_29 kz) ?_
    refine WQ.st (fun _ _ kz => pw_iload3 dX11_play_31 kz) ?_
    refine WQ.st (fun _ _ kz => pw_isub dX11_play_32 kz) ?_
    refine ⟨_, _, pw_iret dX11_play_33 rfl rfl rfl rfl, ?_⟩
    rw [if_neg c26] at z1
    unfold sp_play
    rw [if_neg c26]
    exact ⟨rfl, t5, sl5, ls5, S5, V5, P5, A5, B5, Q5, rfl, ⟨z1, hA, (hI.re.aside w2).fr (z3.r (Or.inl rfl))⟩, by omega, w2.o.tr (z3.o (Or.inl rfl)), z4⟩
set_option maxRecDepth 20000 in
theorem q_perform {G : gT} {d : Nat} {S : sS} {V : sV} {P : sP} {A : sV} {B : sB} {Q : sP} {t sl : Nat} {al : Nat → Int32} {W : WT} {sh ls : Nat} (hI : CI S V P A B Q t al W sh ls) (hls : ls + 1000 < 2000000000) (x y : Int32) : WQ G (d + 9) mX11_perform 0 [some (.ref 8), some (.int x), some (.int y), none] [] (t, sl, gh S V P A B Q) (CZ S V P A B Q t sl W sh ls (.int (sp_perf al x.toInt y.toInt).1) (sp_perf al x.toInt y.toInt).2) := by
  unfold CZ
  have hE := hI.de
  have hC := hE.dc.ka.cf
  have hD := hE.dc.ka.dv
  have hSe := hE.dc.ka.se
  have hA := hI.av
  refine WQ.st (fun _ _ kz => pw_aload0 dX11_perform_0 kz) ?_
  refine WQ.st (fun _ _ kz => pw_getr gX11_39 dX11_perform_1 (cf_s8 hC) (cf_p8_6 hC) kz) ?_
  refine WQ.st (fun _ _ kz => pw_aload0 dX11_perform_4 kz) ?_
  refine WQ.st (fun _ _ kz => pw_getr gX11_35 dX11_perform_5 (cf_s8 hC) (cf_p8_5 hC) kz) ?_
  refine wq_o1v wX8_copy lX11_194 rfl dX11_perform_8 (cf_s20 hC) (k_copy (cf_st20 hC) (cf_st16 hC) (by omega) hE.se) rfl (Nat.le_of_ble_eq_true rfl) (Nat.le_of_ble_eq_true rfl) (fun h8 z8 => ?_)
  obtain ⟨V1, A1, rfl, w1, w2⟩ := z8
  have hE1 := hE.aside w2
  refine WQ.st (fun _ _ kz => pw_aload0 dX11_perform_11 kz) ?_
  refine WQ.st (fun _ _ kz => pw_getr gX11_114 dX11_perform_12 (cf_s8 hC) (cf_p8_15 hC) kz) ?_
  refine WQ.st (fun _ _ kz => pw_aload0 dX11_perform_15 kz) ?_
  refine WQ.st (fun _ _ kz => pw_getr gX11_35 dX11_perform_16 (cf_s8 hC) (cf_p8_5 hC) kz) ?_
  refine WQ.st (fun _ _ kz => pw_iload1 dX11_perform_19 kz) ?_
  refine WQ.st (fun _ _ kz => pw_iload2 dX11_perform_20 kz) ?_
  refine wq_o3i wX2_playBest lX11_209 rfl dX11_perform_21 (cf_s137 hC) (k_playBest hE1 (by omega) _ _) rfl (Nat.le_of_ble_eq_true rfl) (Nat.le_of_ble_eq_true rfl) (fun h21 z21 => ?_)
  obtain ⟨t5, sl5, ls5, S5, V5, P5, A5, B5, Q5, rfl, z1, z2, z3, z4, z5, z6⟩ := z21
  have hC := z1.dc.ka.cf
  refine WQ.st (fun _ _ kz => pw_istore3 dX11_perform_24 (by decide) (k := kz)) ?_
  refine WQ.st (fun _ _ kz => pw_iload3 dX11_perform_25 kz) ?_
  refine WQ.br (fun _ _ ka kb => pw_if_eq (tgt := 34) dX11_perform_26 (by decide) ka kb) (fun c26 => ?_) (fun c26 => ?_)
  · have hp := isP_t (wp_0 (wb_0 c26).1).1
    have hp5 := hD.p5
    rw [if_pos c26] at z1
    have hR5 := (hI.re.aside w2).fr (z3.r (Or.inl rfl))
    have ho := (fun i hi => pl_out (by omega) hi : ∀ i, i < 75 ∨ 92 ≤ i → sp_pb al x.toInt.toNat y.toInt.toNat i = al i)
    have hH5 := hR5.hi.cong hA.dn.2 (fun i h1 h2 => ho i (by omega))
    have w5 : StE V5 A5 20 (fun k => al (75 + k)) := w1.fr (z3.2.2.1 20 (by omega)) (fun x _ _ => z3.2.2.2.2.1 x (by omega))
    refine WQ.st (fun _ _ kz => pw_aload0 dX11_perform_34 kz) ?_
    refine WQ.st (fun _ _ kz => pw_getr gX11_45 dX11_perform_35 (cf_s8 hC) (cf_p8_7 hC) kz) ?_
    refine WQ.st (fun _ _ kz => pw_aload0 dX11_perform_38 kz) ?_
    refine WQ.st (fun _ _ kz => pw_getr gX11_39 dX11_perform_39 (cf_s8 hC) (cf_p8_6 hC) kz) ?_
    refine wq_o1v wX3_keep lX11_203 rfl dX11_perform_42 (cf_s24 hC) (k_keep hC hH5 (by rw [ho 92 (by omega)]; exact hA.dn) (Or.inr rfl) w5) rfl (Nat.le_of_ble_eq_true rfl) (Nat.le_of_ble_eq_true rfl) (fun h42 z42 => ?_)
    obtain ⟨V7, A7, rfl, g1, g2⟩ := z42
    refine WQ.st (fun _ _ kz => pw_aload0 dX11_perform_45 kz) ?_
    refine WQ.st (fun _ _ kz => pw_getr gX11_114 dX11_perform_46 (cf_s8 hC) (cf_p8_15 hC) kz) ?_
    refine WQ.st (fun _ _ kz => pw_geti gX11_206 dX11_perform_49 (cf_s137 hC) kz) ?_
    rw [g2.1 137 (by omega), z6 c26]
    refine ⟨_, _, pw_iret dX11_perform_52 rfl rfl rfl rfl, ?_⟩
    obtain ⟨q1, q2⟩ := CI.deed hA (hI.re.aside w2) z1 z3 ho g1 g2
    unfold sp_perf
    rw [if_pos c26]
    exact ⟨rfl, t5, sl5, ls5, S5, V7, P5, A7, B5, Q5, rfl, q1, by omega, w2.o.tr q2, z4⟩
  · refine WQ.st (fun _ _ kz => pw_ldc kX11_202 dX11_perform_29 kz) ?_
    refine WQ.st (fun _ _ kz => pw_iload3 dX11_perform_31 kz) ?_
    refine WQ.st (fun _ _ kz => pw_isub dX11_perform_32 kz) ?_
    refine ⟨_, _, pw_iret dX11_perform_33 rfl rfl rfl rfl, ?_⟩
    rw [if_neg c26] at z1
    unfold sp_perf
    rw [if_neg c26]
    exact ⟨rfl, t5, sl5, ls5, S5, V5, P5, A5, B5, Q5, rfl, ⟨z1, hA, (hI.re.aside w2).fr (z3.r (Or.inl rfl))⟩, by omega, w2.o.tr (z3.o (Or.inl rfl)), z4⟩
