set_option maxRecDepth 20000 in
theorem k_keep {G : gT} {d : Nat} {S : sS} {V : sV} {P : sP} {A : sV} {B : sB} {Q : sP} {t sl : Nat} (hC : CF S P) {al : Nat → Int32} (hH : HI V A Q al) (h92 : 0 ≤ (al 92).toInt ∧ (al 92).toInt ≤ 10) {b : Nat} (hb : b = 16 ∨ b = 20) {w : Nat → Int32} (hw : StE V A b w) : WQ G (d + 2) mX3_keep 0 [some (.ref 24), some (.ref b)] [] (t, sl, gh S V P A B Q) (fun r h' => r = none ∧ ∃ V' A' : sV, h' = (t, sl, gh S V' P A' B Q) ∧ HI V' A' Q (sp_notes al w) ∧ FrH V A V' A') := by
  obtain ⟨hQ, h24, fo, hf, hfo, h5⟩ := hH
  have en : al 92 = nI (al 92).toInt.toNat := nI_ofI h92.1
  have h24n : V 24 0 = nI (al 92).toInt.toNat := by rw [h24]; exact en
  have hB : ST S P b := by
    rcases hb with rfl | rfl
    · exact cf_st16 hC
    · exact cf_st20 hC
  have hab : 26 + 4 * fo + 3 < b ∨ b + 3 < 26 + 4 * fo := by omega
  refine WQ.st (fun _ _ kz => pw_aload0 dX3_keep_0 kz) ?_
  refine WQ.st (fun _ _ kz => pw_getr gX3_17 dX3_keep_1 (cf_s24 hC) (cf_p24_1 hC) kz) ?_
  refine WQ.st (fun _ _ kz => pw_aload0 dX3_keep_4 kz) ?_
  refine WQ.st (fun _ _ kz => pw_geti gX3_21 dX3_keep_5 (cf_s24 hC) kz) ?_
  rw [hfo]
  refine WQ.st (fun _ _ kz => pw_qldr (j := fo) dX3_keep_8 (cf_s25 hC) (by decide) (ix_m rfl (by omega)) (by omega) (hQ fo hf) kz) ?_
  refine WQ.st (fun _ _ kz => pw_aload1 dX3_keep_9 kz) ?_
  refine wq_o1v wX8_copy lX3_25 rfl dX3_keep_10 (st_s0 (cf_ring hC hf)) (k_copy (cf_ring hC hf) hB hab hw) rfl (Nat.le_of_ble_eq_true rfl) (Nat.le_of_ble_eq_true rfl) (fun h10 z10 => ?_)
  obtain ⟨V1, A1, rfl, w1, w2⟩ := z10
  have v24 : V1 24 = V 24 := w2.1 24 (by omega)
  refine WQ.st (fun _ _ kz => pw_aload0 dX3_keep_13 kz) ?_
  refine WQ.st (fun _ _ kz => pw_aload0 dX3_keep_14 kz) ?_
  refine WQ.st (fun _ _ kz => pw_geti gX3_21 dX3_keep_15 (cf_s24 hC) kz) ?_
  rw [v24, hfo]
  refine WQ.st (fun _ _ kz => pw_iconst (v := 1) dX3_keep_18 (by decide) kz) ?_
  refine WQ.st (fun _ _ kz => pw_iadd dX3_keep_19 kz) ?_
  refine WQ.st (fun _ _ kz => pw_bipush (v := 10) dX3_keep_20 (by decide) kz) ?_
  rw [nI_1, show (10 : Int32) = nI 10 from rfl]
  refine WQ.st (fun _ _ kz => pw_irem dX3_keep_22 (by decide) kz) ?_
  rw [pk_rem (by omega) (by omega) (by omega)]
  refine WQ.st (fun _ _ kz => pw_puti (pX3_21 _ rfl) dX3_keep_23 (cf_s24 hC) rfl rfl kz) ?_
  refine WQ.st (fun _ _ kz => pw_aload0 dX3_keep_26 kz) ?_
  refine WQ.st (fun _ _ kz => pw_aload0 dX3_keep_27 kz) ?_
  refine WQ.st (fun _ _ kz => pw_geti gX3_9 dX3_keep_28 (cf_s24 hC) kz) ?_
  rw [up2_nk (by decide), v24, h24n]
  refine WQ.st (fun _ _ kz => pw_iconst (v := 1) dX3_keep_31 (by decide) kz) ?_
  refine WQ.st (fun _ _ kz => pw_iadd dX3_keep_32 kz) ?_
  refine WQ.st (fun _ _ kz => pw_bipush (v := 10) dX3_keep_33 (by decide) kz) ?_
  rw [nI_1, show (10 : Int32) = nI 10 from rfl]
  refine WQ.st (fun _ _ kz => pw_min mmX3_29 dX3_keep_35 (Nat.le_of_ble_eq_true rfl) (by omega) kz) ?_
  refine WQ.st (fun _ _ kz => pw_puti (pX3_9 _ rfl) dX3_keep_38 (cf_s24 hC) rfl rfl kz) ?_
  refine ⟨_, _, pw_vret dX3_keep_41 rfl rfl rfl, ?_⟩
  have em : (if nI 10 < nI ((al 92).toInt.toNat + 1) then nI 10 else nI ((al 92).toInt.toNat + 1)) = nI (min ((al 92).toInt.toNat + 1) 10) := by
    by_cases e : 10 < (al 92).toInt.toNat + 1
    · rw [if_pos ((lt_i (ix_n (j := 10) (by omega)) (ix_n (by omega))).mpr (by omega)), Nat.min_eq_right (by omega)]
    · rw [if_neg (fun q => by have := (lt_i (ix_n (j := 10) (by omega)) (ix_n (by omega))).mp q; omega), Nat.min_eq_left (by omega)]
  rw [em]
  refine ⟨rfl, _, _, rfl, HI.keep (V := V) (A := A) h92 hQ hf h5 (fun x h1 h2 => by rw [up2_na h1, up2_na h1, w2.1 x h2]) w2.2 (w1.fr (by rw [up2_na (by omega), up2_na (by omega)]) (fun _ _ _ => rfl)) up2_eq (by rw [up2_nk (by decide), up2_eq]), fun x hx => by rw [up2_na (by omega), up2_na (by omega), w2.1 x (by omega)], fun x hx => w2.2 x (by omega)⟩
set_option maxRecDepth 20000 in
theorem k_bringBack {G : gT} {d : Nat} {S : sS} {V : sV} {P : sP} {A : sV} {B : sB} {Q : sP} {t sl : Nat} (hC : CF S P) {al : Nat → Int32} (hH : HI V A Q al) (h92 : 0 ≤ (al 92).toInt ∧ (al 92).toInt ≤ 10) (h1 : 0 < (al 92).toInt) : WQ G (d + 2) mX3_bringBack 0 [some (.ref 24), some (.ref 16)] [] (t, sl, gh S V P A B Q) (fun r h' => r = none ∧ ∃ V' A' : sV, h' = (t, sl, gh S V' P A' B Q) ∧ StE V' A' 16 (fun k => al (93 + 17 * ((al 92).toInt.toNat - 1) + k)) ∧ (∀ al' : Nat → Int32, al' 92 = nI ((al 92).toInt.toNat - 1) → (∀ i, 93 ≤ i → i < 263 → al' i = al i) → HI V' A' Q al') ∧ (∀ x, x ≠ 16 → x ≠ 24 → V' x = V x) ∧ ∀ x, x < 17 ∨ 19 < x → A' x = A x) := by
  obtain ⟨hQ, h24, fo, hf, hfo, h5⟩ := hH
  have en : al 92 = nI (al 92).toInt.toNat := nI_ofI h92.1
  have h24n : V 24 0 = nI (al 92).toInt.toNat := by rw [h24]; exact en
  have hw : StE (up2 V 24 2 (nI ((fo + 9) % 10))) A (26 + 4 * ((fo + 9) % 10)) (fun k => al (93 + 17 * ((al 92).toInt.toNat - 1) + k)) := by
    have w := h5 ((al 92).toInt.toNat - 1) (by omega)
    rw [show hsl fo (al 92).toInt.toNat ((al 92).toInt.toNat - 1) = 26 + 4 * ((fo + 9) % 10) by unfold hsl; omega] at w
    exact w.fr (up2_na (by omega)) (fun _ _ _ => rfl)
  refine WQ.st (fun _ _ kz => pw_aload0 dX3_bringBack_0 kz) ?_
  refine WQ.st (fun _ _ kz => pw_geti gX3_9 dX3_bringBack_1 (cf_s24 hC) kz) ?_
  rw [h24n]
  refine WQ.br (fun _ _ ka kb => pw_if_le (tgt := 46) dX3_bringBack_4 (by decide) ka kb) (fun c4 => absurd c4 (by rw [show (0 : Int32) = nI 0 from rfl, le_i (ix_n (j := (al 92).toInt.toNat) (by omega)) (ix_n (j := 0) (by decide))]; omega)) (fun c4 => ?_)
  refine WQ.st (fun _ _ kz => pw_aload0 dX3_bringBack_7 kz) ?_
  refine WQ.st (fun _ _ kz => pw_aload0 dX3_bringBack_8 kz) ?_
  refine WQ.st (fun _ _ kz => pw_geti gX3_21 dX3_bringBack_9 (cf_s24 hC) kz) ?_
  rw [hfo]
  refine WQ.st (fun _ _ kz => pw_bipush (v := 10) dX3_bringBack_12 (by decide) kz) ?_
  refine WQ.st (fun _ _ kz => pw_iadd dX3_bringBack_14 kz) ?_
  refine WQ.st (fun _ _ kz => pw_iconst (v := 1) dX3_bringBack_15 (by decide) kz) ?_
  refine WQ.st (fun _ _ kz => pw_isub dX3_bringBack_16 kz) ?_
  refine WQ.st (fun _ _ kz => pw_bipush (v := 10) dX3_bringBack_17 (by decide) kz) ?_
  rw [show (10 : Int32) = nI 10 from rfl, nI_add, nl_1, pk_sub (by omega)]
  refine WQ.st (fun _ _ kz => pw_irem dX3_bringBack_19 (by decide) kz) ?_
  rw [pk_rem (by omega) (by omega) (by omega), show (fo + 10 - 1) % 10 = (fo + 9) % 10 by omega]
  refine WQ.st (fun _ _ kz => pw_puti (pX3_21 _ rfl) dX3_bringBack_20 (cf_s24 hC) rfl rfl kz) ?_
  refine WQ.st (fun _ _ kz => pw_aload1 dX3_bringBack_23 kz) ?_
  refine WQ.st (fun _ _ kz => pw_aload0 dX3_bringBack_24 kz) ?_
  refine WQ.st (fun _ _ kz => pw_getr gX3_17 dX3_bringBack_25 (cf_s24 hC) (cf_p24_1 hC) kz) ?_
  refine WQ.st (fun _ _ kz => pw_aload0 dX3_bringBack_28 kz) ?_
  refine WQ.st (fun _ _ kz => pw_geti gX3_21 dX3_bringBack_29 (cf_s24 hC) kz) ?_
  rw [up2_eq]
  refine WQ.st (fun _ _ kz => pw_qldr (j := ((fo + 9) % 10)) dX3_bringBack_32 (cf_s25 hC) (by decide) (ix_n (by omega)) (by omega) (hQ _ (by omega)) kz) ?_
  refine wq_o1v wX8_copy lX3_25 rfl dX3_bringBack_33 (cf_s16 hC) (k_copy (cf_st16 hC) (cf_ring hC (i := (fo + 9) % 10) (by omega)) (by omega) hw) rfl (Nat.le_of_ble_eq_true rfl) (Nat.le_of_ble_eq_true rfl) (fun h33 z33 => ?_)
  obtain ⟨V1, A1, rfl, w1, w2⟩ := z33
  have v24 : V1 24 = up2 V 24 2 (nI ((fo + 9) % 10)) 24 := w2.1 24 (by omega)
  refine WQ.st (fun _ _ kz => pw_aload0 dX3_bringBack_36 kz) ?_
  refine WQ.st (fun _ _ kz => pw_dup dX3_bringBack_37 rfl kz) ?_
  refine WQ.st (fun _ _ kz => pw_geti gX3_9 dX3_bringBack_38 (cf_s24 hC) kz) ?_
  rw [v24, up2_nk (by decide), h24n]
  refine WQ.st (fun _ _ kz => pw_iconst (v := 1) dX3_bringBack_41 (by decide) kz) ?_
  refine WQ.st (fun _ _ kz => pw_isub dX3_bringBack_42 kz) ?_
  rw [nl_1, pk_sub (by omega)]
  refine WQ.st (fun _ _ kz => pw_puti (pX3_9 _ rfl) dX3_bringBack_43 (cf_s24 hC) rfl rfl kz) ?_
  refine ⟨_, _, pw_vret dX3_bringBack_46 rfl rfl rfl, ?_⟩
  refine ⟨rfl, _, _, rfl, w1.fr (up2_na (by omega)) (fun _ _ _ => rfl), fun al' e92 he => HI.back (V := V) (A := A) (by omega) hQ hf h5 (fun x h1 h2 => by rw [up2_na (by omega), w2.1 x (by omega), up2_na (by omega)]) (fun x h1 h2 => w2.2 x (by omega)) e92 (by rw [up2_eq]; exact e92.symm) (by rw [up2_nk (by decide), v24, up2_eq]) he, fun x h1 h2 => by rw [up2_na h2, w2.1 x h1, up2_na h2], w2.2⟩
set_option maxRecDepth 20000 in
theorem k_hclear {G : gT} {d : Nat} {S : sS} {V : sV} {P : sP} {A : sV} {B : sB} {Q : sP} {t sl : Nat} (hC : CF S P) : WQ G d mX3_clear 0 [some (.ref 24)] [] (t, sl, gh S V P A B Q) (fun r h' => r = none ∧ h' = (t, sl, gh S (up2 V 24 0 0) P A B Q)) := by
  refine WQ.st (fun _ _ kz => pw_aload0 dX3_clear_0 kz) ?_
  refine WQ.st (fun _ _ kz => pw_iconst (v := 0) dX3_clear_1 (by decide) kz) ?_
  refine WQ.st (fun _ _ kz => pw_puti (pX3_9 _ rfl) dX3_clear_2 (cf_s24 hC) rfl rfl kz) ?_
  refine ⟨_, _, pw_vret dX3_clear_5 rfl rfl rfl, ?_⟩
  exact ⟨rfl, rfl⟩
