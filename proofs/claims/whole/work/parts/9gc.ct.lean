set_option maxRecDepth 20000 in
theorem k_jBars {G : gT} {d : Nat} {S : sS} {V : sV} {P : sP} {A : sV} {B : sB} {Q : sP} {sl : Nat} (hS : S 96 = (0, 0)) : WQ G (d + 4) mX0_init 0 [some (.ref 96), some (.ref 87)] [] (97, sl, gh S V P A B Q) (fun r h' => r = none ∧ h' = (103, sl + 8 + 64 + 4 + 4 + 4 + 0, gh (pm_up (pm_up (pm_up (pm_up (pm_up (pm_up S 97 (20, 8)) 98 (20, 64)) 99 (28, 4)) 100 (20, 4)) 101 (20, 4)) 102 (22, 0)) (up2 (up2 (up2 (up2 (up2 (up2 (up2 (up2 V 96 0 0) 96 1 0) 96 3 0) 96 4 0) 96 5 0) 96 6 0) 96 12 0) 96 14 0) (up2 (up2 (up2 (up2 (up2 (up2 (up2 P 96 7 (some 97)) 96 8 (some 98)) 96 9 (some 99)) 96 10 (some 100)) 96 11 (some 101)) 96 13 (some 102)) 96 2 (some 87)) (pm_up (pm_up (pm_up (pm_up (pm_up A 97 (fun _ => 0)) 98 (fun _ => 0)) 100 (fun _ => 0)) 101 (fun _ => 0)) 100 (fillF (-1) 4 ((pm_up (pm_up (pm_up (pm_up A 97 (fun _ => 0)) 98 (fun _ => 0)) 100 (fun _ => 0)) 101 (fun _ => 0)) 100))) (pm_up B 102 (fun _ => 0)) (pm_up Q 99 (fun _ => none)))) := by
  refine WQ.st (fun _ _ kz => pw_aload0 dX0_init_0 kz) ?_
  refine WQ.st (fun _ _ kz => pw_objInit lX0_3 gt_oi1 gt_oi2 dX0_init_1 (Nat.le_of_ble_eq_true rfl) (by omega) kz) ?_
  refine WQ.st (fun _ _ kz => pw_aload0 dX0_init_4 kz) ?_
  refine WQ.st (fun _ _ kz => pw_iconst (v := 0) dX0_init_5 (by decide) kz) ?_
  refine WQ.st (fun _ _ kz => pw_puti (pX0_9 _ rfl) dX0_init_6 (by (repeat rw [pm_up_ne (by decide)]); exact hS) rfl rfl kz) ?_
  refine WQ.st (fun _ _ kz => pw_aload0 dX0_init_9 kz) ?_
  refine WQ.st (fun _ _ kz => pw_iconst (v := 0) dX0_init_10 (by decide) kz) ?_
  refine WQ.st (fun _ _ kz => pw_puti (pX0_15 _ rfl) dX0_init_11 (by (repeat rw [pm_up_ne (by decide)]); exact hS) rfl rfl kz) ?_
  refine WQ.st (fun _ _ kz => pw_aload0 dX0_init_14 kz) ?_
  refine WQ.st (fun _ _ kz => pw_iconst (v := 0) dX0_init_15 (by decide) kz) ?_
  refine WQ.st (fun _ _ kz => pw_puti (pX0_19 _ rfl) dX0_init_16 (by (repeat rw [pm_up_ne (by decide)]); exact hS) rfl rfl kz) ?_
  refine WQ.st (fun _ _ kz => pw_aload0 dX0_init_19 kz) ?_
  refine WQ.st (fun _ _ kz => pw_iconst (v := 0) dX0_init_20 (by decide) kz) ?_
  refine WQ.st (fun _ _ kz => pw_puti (pX0_22 _ rfl) dX0_init_21 (by (repeat rw [pm_up_ne (by decide)]); exact hS) rfl rfl kz) ?_
  refine WQ.st (fun _ _ kz => pw_aload0 dX0_init_24 kz) ?_
  refine WQ.st (fun _ _ kz => pw_iconst (v := 0) dX0_init_25 (by decide) kz) ?_
  refine WQ.st (fun _ _ kz => pw_puti (pX0_25 _ rfl) dX0_init_26 (by (repeat rw [pm_up_ne (by decide)]); exact hS) rfl rfl kz) ?_
  refine WQ.st (fun _ _ kz => pw_aload0 dX0_init_29 kz) ?_
  refine WQ.st (fun _ _ kz => pw_iconst (v := 0) dX0_init_30 (by decide) kz) ?_
  refine WQ.st (fun _ _ kz => pw_puti (pX0_28 _ rfl) dX0_init_31 (by (repeat rw [pm_up_ne (by decide)]); exact hS) rfl rfl kz) ?_
  refine WQ.st (fun _ _ kz => pw_aload0 dX0_init_34 kz) ?_
  refine WQ.st (fun _ _ kz => pw_bipush (v := 8) dX0_init_35 (by decide) kz) ?_
  refine WQ.st (fun _ _ kz => pw_nai (t := 97) (n := 8) dX0_init_37 rfl (by decide) kz) ?_
  refine WQ.st (fun _ _ kz => pw_putr (pX0_33 _ rfl rfl) dX0_init_39 (by (repeat rw [pm_up_ne (by decide)]); exact hS) kz) ?_
  refine WQ.st (fun _ _ kz => pw_aload0 dX0_init_42 kz) ?_
  refine WQ.st (fun _ _ kz => pw_bipush (v := 64) dX0_init_43 (by decide) kz) ?_
  refine WQ.st (fun _ _ kz => pw_nai (t := 98) (n := 64) dX0_init_45 rfl (by decide) kz) ?_
  refine WQ.st (fun _ _ kz => pw_putr (pX0_39 _ rfl rfl) dX0_init_47 (by (repeat rw [pm_up_ne (by decide)]); exact hS) kz) ?_
  refine WQ.st (fun _ _ kz => pw_aload0 dX0_init_50 kz) ?_
  refine WQ.st (fun _ _ kz => pw_iconst (v := 4) dX0_init_51 (by decide) kz) ?_
  refine WQ.st (fun _ _ kz => pw_naJ (t := 99) (n := 4) (gt_1 (List.mem_of_getElem? (i := 225) rfl) rfl) dX0_init_52 rfl (by decide) kz) ?_
  refine WQ.st (fun _ _ kz => pw_putr (pX0_44 _ rfl rfl) dX0_init_55 (by (repeat rw [pm_up_ne (by decide)]); exact hS) kz) ?_
  refine WQ.st (fun _ _ kz => pw_aload0 dX0_init_58 kz) ?_
  refine WQ.st (fun _ _ kz => pw_iconst (v := 4) dX0_init_59 (by decide) kz) ?_
  refine WQ.st (fun _ _ kz => pw_nai (t := 100) (n := 4) dX0_init_60 rfl (by decide) kz) ?_
  refine WQ.st (fun _ _ kz => pw_putr (pX0_48 _ rfl rfl) dX0_init_62 (by (repeat rw [pm_up_ne (by decide)]); exact hS) kz) ?_
  refine WQ.st (fun _ _ kz => pw_aload0 dX0_init_65 kz) ?_
  refine WQ.st (fun _ _ kz => pw_iconst (v := 4) dX0_init_66 (by decide) kz) ?_
  refine WQ.st (fun _ _ kz => pw_nai (t := 101) (n := 4) dX0_init_67 rfl (by decide) kz) ?_
  refine WQ.st (fun _ _ kz => pw_putr (pX0_51 _ rfl rfl) dX0_init_69 (by (repeat rw [pm_up_ne (by decide)]); exact hS) kz) ?_
  refine WQ.st (fun _ _ kz => pw_aload0 dX0_init_72 kz) ?_
  refine WQ.st (fun _ _ kz => pw_iconst (v := 0) dX0_init_73 (by decide) kz) ?_
  refine WQ.st (fun _ _ kz => pw_puti (pX0_54 _ rfl) dX0_init_74 (by (repeat rw [pm_up_ne (by decide)]); exact hS) rfl rfl kz) ?_
  refine WQ.st (fun _ _ kz => pw_aload0 dX0_init_77 kz) ?_
  refine WQ.st (fun _ _ kz => pw_iconst (v := 0) dX0_init_78 (by decide) kz) ?_
  refine WQ.st (fun _ _ kz => pw_nal (t := 102) (n := 0) dX0_init_79 rfl (by decide) kz) ?_
  refine WQ.st (fun _ _ kz => pw_putr (pX0_57 _ rfl) dX0_init_81 (by (repeat rw [pm_up_ne (by decide)]); exact hS) kz) ?_
  refine WQ.st (fun _ _ kz => pw_aload0 dX0_init_84 kz) ?_
  refine WQ.st (fun _ _ kz => pw_iconst (v := 0) dX0_init_85 (by decide) kz) ?_
  refine WQ.st (fun _ _ kz => pw_puti (pX0_60 _ rfl) dX0_init_86 (by (repeat rw [pm_up_ne (by decide)]); exact hS) rfl rfl kz) ?_
  refine WQ.st (fun _ _ kz => pw_aload0 dX0_init_89 kz) ?_
  refine WQ.st (fun _ _ kz => pw_aload1 dX0_init_90 kz) ?_
  refine WQ.st (fun _ _ kz => pw_putr (pX0_63 _ rfl) dX0_init_91 (by (repeat rw [pm_up_ne (by decide)]); exact hS) kz) ?_
  refine WQ.st (fun _ _ kz => pw_aload0 dX0_init_94 kz) ?_
  refine WQ.st (fun _ _ kz => pw_getr (b := 100) gX0_48 dX0_init_95 (by (repeat rw [pm_up_ne (by decide)]); exact hS) rfl kz) ?_
  refine WQ.st (fun _ _ kz => pw_iconst (v := -1) dX0_init_98 (by decide) kz) ?_
  refine WQ.st (fun _ _ kz => pw_s2v wJ7_fill_53178 lX0_67 dX0_init_99 (c_filli (a := 100) (n := 4) rfl (by decide) _) rfl (Nat.le_of_ble_eq_true rfl) (Nat.le_of_ble_eq_true rfl) kz) ?_
  refine ⟨_, _, pw_vret dX0_init_102 rfl rfl rfl, ?_⟩
  exact ⟨rfl, rfl⟩
set_option maxRecDepth 20000 in
theorem k_jCourse {G : gT} {d : Nat} {S : sS} {V : sV} {P : sP} {A : sV} {B : sB} {Q : sP} {sl : Nat} (hS : S 103 = (1, 0)) : WQ G (d + 1) mX1_init 0 [some (.ref 103), some (.ref 96)] [] (104, sl, gh S V P A B Q) (fun r h' => r = none ∧ h' = (107, sl + 12 + 205 + 205, gh (pm_up (pm_up (pm_up S 104 (20, 12)) 105 (22, 205)) 106 (22, 205)) (up2 (up2 (up2 V 103 0 0) 103 1 0) 103 2 (-1)) (up2 (up2 (up2 (up2 P 103 4 (some 104)) 103 5 (some 105)) 103 6 (some 106)) 103 3 (some 96)) (pm_up A 104 (fun _ => 0)) (pm_up (pm_up B 105 (fun _ => 0)) 106 (fun _ => 0)) Q)) := by
  refine WQ.st (fun _ _ kz => pw_aload0 dX1_init_0 kz) ?_
  refine WQ.st (fun _ _ kz => pw_objInit lX1_3 gt_oi1 gt_oi2 dX1_init_1 (Nat.le_of_ble_eq_true rfl) (by omega) kz) ?_
  refine WQ.st (fun _ _ kz => pw_aload0 dX1_init_4 kz) ?_
  refine WQ.st (fun _ _ kz => pw_iconst (v := 0) dX1_init_5 (by decide) kz) ?_
  refine WQ.st (fun _ _ kz => pw_puti (pX1_9 _ rfl) dX1_init_6 (by (repeat rw [pm_up_ne (by decide)]); exact hS) rfl rfl kz) ?_
  refine WQ.st (fun _ _ kz => pw_aload0 dX1_init_9 kz) ?_
  refine WQ.st (fun _ _ kz => pw_iconst (v := 0) dX1_init_10 (by decide) kz) ?_
  refine WQ.st (fun _ _ kz => pw_puti (pX1_15 _ rfl) dX1_init_11 (by (repeat rw [pm_up_ne (by decide)]); exact hS) rfl rfl kz) ?_
  refine WQ.st (fun _ _ kz => pw_aload0 dX1_init_14 kz) ?_
  refine WQ.st (fun _ _ kz => pw_iconst (v := -1) dX1_init_15 (by decide) kz) ?_
  refine WQ.st (fun _ _ kz => pw_puti (pX1_18 _ rfl) dX1_init_16 (by (repeat rw [pm_up_ne (by decide)]); exact hS) rfl rfl kz) ?_
  refine WQ.st (fun _ _ kz => pw_aload0 dX1_init_19 kz) ?_
  refine WQ.st (fun _ _ kz => pw_bipush (v := 12) dX1_init_20 (by decide) kz) ?_
  refine WQ.st (fun _ _ kz => pw_nai (t := 104) (n := 12) dX1_init_22 rfl (by decide) kz) ?_
  refine WQ.st (fun _ _ kz => pw_putr (pX1_21 _ rfl rfl) dX1_init_24 (by (repeat rw [pm_up_ne (by decide)]); exact hS) kz) ?_
  refine WQ.st (fun _ _ kz => pw_aload0 dX1_init_27 kz) ?_
  refine WQ.st (fun _ _ kz => pw_sipush (v := 205) dX1_init_28 (by decide) kz) ?_
  refine WQ.st (fun _ _ kz => pw_nal (t := 105) (n := 205) dX1_init_31 rfl (by decide) kz) ?_
  refine WQ.st (fun _ _ kz => pw_putr (pX1_25 _ rfl) dX1_init_33 (by (repeat rw [pm_up_ne (by decide)]); exact hS) kz) ?_
  refine WQ.st (fun _ _ kz => pw_aload0 dX1_init_36 kz) ?_
  refine WQ.st (fun _ _ kz => pw_sipush (v := 205) dX1_init_37 (by decide) kz) ?_
  refine WQ.st (fun _ _ kz => pw_nal (t := 106) (n := 205) dX1_init_40 rfl (by decide) kz) ?_
  refine WQ.st (fun _ _ kz => pw_putr (pX1_29 _ rfl) dX1_init_42 (by (repeat rw [pm_up_ne (by decide)]); exact hS) kz) ?_
  refine WQ.st (fun _ _ kz => pw_aload0 dX1_init_45 kz) ?_
  refine WQ.st (fun _ _ kz => pw_aload1 dX1_init_46 kz) ?_
  refine WQ.st (fun _ _ kz => pw_putr (pX1_32 _ rfl rfl) dX1_init_47 (by (repeat rw [pm_up_ne (by decide)]); exact hS) kz) ?_
  refine ⟨_, _, pw_vret dX1_init_50 rfl rfl rfl, ?_⟩
  exact ⟨rfl, rfl⟩
set_option maxRecDepth 20000 in
theorem k_jWays {G : gT} {d : Nat} {S : sS} {V : sV} {P : sP} {A : sV} {B : sB} {Q : sP} {sl : Nat} (hS : S 107 = (10, 0)) : WQ G (d + 4) mX10_init 0 [some (.ref 107), some (.ref 96)] [] (108, sl, gh S V P A B Q) (fun r h' => r = none ∧ h' = (116, sl + 12 + 12 + 2665 + 2460 + 205 + 205 + 205 + 205, gh (pm_up (pm_up (pm_up (pm_up (pm_up (pm_up (pm_up (pm_up S 108 (20, 12)) 109 (20, 12)) 110 (20, 2665)) 111 (21, 2460)) 112 (20, 205)) 113 (20, 205)) 114 (22, 205)) 115 (22, 205)) (up2 (up2 V 107 2 0) 107 3 0) (up2 (up2 (up2 (up2 (up2 (up2 (up2 (up2 (up2 P 107 0 (some 108)) 107 1 (some 109)) 107 5 (some 110)) 107 6 (some 111)) 107 7 (some 112)) 107 8 (some 113)) 107 9 (some 114)) 107 10 (some 115)) 107 4 (some 96)) (pm_up (pm_up (pm_up (pm_up (pm_up (pm_up (pm_up A 108 (fun _ => 0)) 109 (fun _ => 0)) 110 (fun _ => 0)) 111 (fun _ => 0)) 112 (fun _ => 0)) 113 (fun _ => 0)) 109 (fillF 31 12 ((pm_up (pm_up (pm_up (pm_up (pm_up (pm_up A 108 (fun _ => 0)) 109 (fun _ => 0)) 110 (fun _ => 0)) 111 (fun _ => 0)) 112 (fun _ => 0)) 113 (fun _ => 0)) 109))) (pm_up (pm_up B 114 (fun _ => 0)) 115 (fun _ => 0)) Q)) := by
  refine WQ.st (fun _ _ kz => pw_aload0 dX10_init_0 kz) ?_
  refine WQ.st (fun _ _ kz => pw_objInit lX10_3 gt_oi1 gt_oi2 dX10_init_1 (Nat.le_of_ble_eq_true rfl) (by omega) kz) ?_
  refine WQ.st (fun _ _ kz => pw_aload0 dX10_init_4 kz) ?_
  refine WQ.st (fun _ _ kz => pw_bipush (v := 12) dX10_init_5 (by decide) kz) ?_
  refine WQ.st (fun _ _ kz => pw_nai (t := 108) (n := 12) dX10_init_7 rfl (by decide) kz) ?_
  refine WQ.st (fun _ _ kz => pw_putr (pX10_9 _ rfl rfl) dX10_init_9 (by (repeat rw [pm_up_ne (by decide)]); exact hS) kz) ?_
  refine WQ.st (fun _ _ kz => pw_aload0 dX10_init_12 kz) ?_
  refine WQ.st (fun _ _ kz => pw_bipush (v := 12) dX10_init_13 (by decide) kz) ?_
  refine WQ.st (fun _ _ kz => pw_nai (t := 109) (n := 12) dX10_init_15 rfl (by decide) kz) ?_
  refine WQ.st (fun _ _ kz => pw_putr (pX10_15 _ rfl rfl) dX10_init_17 (by (repeat rw [pm_up_ne (by decide)]); exact hS) kz) ?_
  refine WQ.st (fun _ _ kz => pw_aload0 dX10_init_20 kz) ?_
  refine WQ.st (fun _ _ kz => pw_iconst (v := 0) dX10_init_21 (by decide) kz) ?_
  refine WQ.st (fun _ _ kz => pw_puti (pX10_18 _ rfl) dX10_init_22 (by (repeat rw [pm_up_ne (by decide)]); exact hS) rfl rfl kz) ?_
  refine WQ.st (fun _ _ kz => pw_aload0 dX10_init_25 kz) ?_
  refine WQ.st (fun _ _ kz => pw_iconst (v := 0) dX10_init_26 (by decide) kz) ?_
  refine WQ.st (fun _ _ kz => pw_puti (pX10_22 _ rfl) dX10_init_27 (by (repeat rw [pm_up_ne (by decide)]); exact hS) rfl rfl kz) ?_
  refine WQ.st (fun _ _ kz => pw_aload0 dX10_init_30 kz) ?_
  refine WQ.st (fun _ _ kz => pw_sipush (v := 2665) dX10_init_31 (by decide) kz) ?_
  refine WQ.st (fun _ _ kz => pw_nai (t := 110) (n := 2665) dX10_init_34 rfl (by decide) kz) ?_
  refine WQ.st (fun _ _ kz => pw_putr (pX10_25 _ rfl rfl) dX10_init_36 (by (repeat rw [pm_up_ne (by decide)]); exact hS) kz) ?_
  refine WQ.st (fun _ _ kz => pw_aload0 dX10_init_39 kz) ?_
  refine WQ.st (fun _ _ kz => pw_sipush (v := 2460) dX10_init_40 (by decide) kz) ?_
  refine WQ.st (fun _ _ kz => pw_nab (t := 111) (n := 2460) dX10_init_43 rfl (by decide) kz) ?_
  refine WQ.st (fun _ _ kz => pw_putr (pX10_28 _ rfl rfl) dX10_init_45 (by (repeat rw [pm_up_ne (by decide)]); exact hS) kz) ?_
  refine WQ.st (fun _ _ kz => pw_aload0 dX10_init_48 kz) ?_
  refine WQ.st (fun _ _ kz => pw_sipush (v := 205) dX10_init_49 (by decide) kz) ?_
  refine WQ.st (fun _ _ kz => pw_nai (t := 112) (n := 205) dX10_init_52 rfl (by decide) kz) ?_
  refine WQ.st (fun _ _ kz => pw_putr (pX10_32 _ rfl) dX10_init_54 (by (repeat rw [pm_up_ne (by decide)]); exact hS) kz) ?_
  refine WQ.st (fun _ _ kz => pw_aload0 dX10_init_57 kz) ?_
  refine WQ.st (fun _ _ kz => pw_sipush (v := 205) dX10_init_58 (by decide) kz) ?_
  refine WQ.st (fun _ _ kz => pw_nai (t := 113) (n := 205) dX10_init_61 rfl (by decide) kz) ?_
  refine WQ.st (fun _ _ kz => pw_putr (pX10_35 _ rfl) dX10_init_63 (by (repeat rw [pm_up_ne (by decide)]); exact hS) kz) ?_
  refine WQ.st (fun _ _ kz => pw_aload0 dX10_init_66 kz) ?_
  refine WQ.st (fun _ _ kz => pw_sipush (v := 205) dX10_init_67 (by decide) kz) ?_
  refine WQ.st (fun _ _ kz => pw_nal (t := 114) (n := 205) dX10_init_70 rfl (by decide) kz) ?_
  refine WQ.st (fun _ _ kz => pw_putr (pX10_38 _ rfl) dX10_init_72 (by (repeat rw [pm_up_ne (by decide)]); exact hS) kz) ?_
  refine WQ.st (fun _ _ kz => pw_aload0 dX10_init_75 kz) ?_
  refine WQ.st (fun _ _ kz => pw_sipush (v := 205) dX10_init_76 (by decide) kz) ?_
  refine WQ.st (fun _ _ kz => pw_nal (t := 115) (n := 205) dX10_init_79 rfl (by decide) kz) ?_
  refine WQ.st (fun _ _ kz => pw_putr (pX10_42 _ rfl) dX10_init_81 (by (repeat rw [pm_up_ne (by decide)]); exact hS) kz) ?_
  refine WQ.st (fun _ _ kz => pw_aload0 dX10_init_84 kz) ?_
  refine WQ.st (fun _ _ kz => pw_aload1 dX10_init_85 kz) ?_
  refine WQ.st (fun _ _ kz => pw_putr (pX10_45 _ rfl rfl) dX10_init_86 (by (repeat rw [pm_up_ne (by decide)]); exact hS) kz) ?_
  refine WQ.st (fun _ _ kz => pw_aload0 dX10_init_89 kz) ?_
  refine WQ.st (fun _ _ kz => pw_getr (b := 109) gX10_15 dX10_init_90 (by (repeat rw [pm_up_ne (by decide)]); exact hS) rfl kz) ?_
  refine WQ.st (fun _ _ kz => pw_bipush (v := 31) dX10_init_93 (by decide) kz) ?_
  refine WQ.st (fun _ _ kz => pw_s2v wJ7_fill_53178 lX10_49 dX10_init_95 (c_filli (a := 109) (n := 12) rfl (by decide) _) rfl (Nat.le_of_ble_eq_true rfl) (Nat.le_of_ble_eq_true rfl) kz) ?_
  refine ⟨_, _, pw_vret dX10_init_98 rfl rfl rfl, ?_⟩
  exact ⟨rfl, rfl⟩
set_option maxRecDepth 20000 in
theorem k_jOrders {G : gT} {d : Nat} {S : sS} {V : sV} {P : sP} {A : sV} {B : sB} {Q : sP} {sl : Nat} (hS : S 116 = (5, 0)) : WQ G (d + 1) mX5_init 0 [some (.ref 116), some (.ref 96), some (.ref 107)] [] (117, sl, gh S V P A B Q) (fun r h' => r = none ∧ h' = (137, sl + 16 + 16 * 41 + 41 + 4 + 4, gh (pm_up (pm_up (pm_up (mzS S 117 16 41 16) 134 (20, 41)) 135 (20, 4)) 136 (20, 4)) (up2 (up2 (up2 V 116 0 (-2147483648)) 116 7 0) 116 8 0) (up2 (up2 (up2 (up2 (up2 (up2 P 116 3 (some 117)) 116 4 (some 134)) 116 5 (some 135)) 116 6 (some 136)) 116 1 (some 96)) 116 2 (some 107)) (pm_up (pm_up (pm_up (mzA A 117 16) 134 (fun _ => 0)) 135 (fun _ => 0)) 136 (fun _ => 0)) B (pm_up Q 117 (fun j => if j < 16 then some (117 + 1 + j) else none)))) := by
  refine WQ.st (fun _ _ kz => pw_aload0 dX5_init_0 kz) ?_
  refine WQ.st (fun _ _ kz => pw_objInit lX5_3 gt_oi1 gt_oi2 dX5_init_1 (Nat.le_of_ble_eq_true rfl) (by omega) kz) ?_
  refine WQ.st (fun _ _ kz => pw_aload0 dX5_init_4 kz) ?_
  refine WQ.st (fun _ _ kz => pw_ldc kX5_9 dX5_init_5 kz) ?_
  refine WQ.st (fun _ _ kz => pw_puti (pX5_10 _ rfl) dX5_init_7 (by (repeat rw [pm_up_ne (by decide)]); exact hS) rfl rfl kz) ?_
  refine WQ.st (fun _ _ kz => pw_aload0 dX5_init_10 kz) ?_
  refine WQ.st (fun _ _ kz => pw_bipush (v := 16) dX5_init_11 (by decide) kz) ?_
  refine WQ.st (fun _ _ kz => pw_bipush (v := 41) dX5_init_13 (by decide) kz) ?_
  refine WQ.st (fun _ _ kz => pw_mul (t := 117) (N := 16) (K := 41) (gt_2 (List.mem_of_getElem? (i := 128) rfl) rfl) (gt_1 (List.mem_of_getElem? (i := 73) rfl) rfl) dX5_init_15 rfl rfl (by decide) (by decide) kz) ?_
  refine WQ.st (fun _ _ kz => pw_putr (pX5_18 _ rfl rfl) dX5_init_19 (by (repeat rw [pm_up_ne (by decide)]); exact hS) kz) ?_
  refine WQ.st (fun _ _ kz => pw_aload0 dX5_init_22 kz) ?_
  refine WQ.st (fun _ _ kz => pw_bipush (v := 41) dX5_init_23 (by decide) kz) ?_
  refine WQ.st (fun _ _ kz => pw_nai (t := 134) (n := 41) dX5_init_25 rfl (by decide) kz) ?_
  refine WQ.st (fun _ _ kz => pw_putr (pX5_21 _ rfl rfl) dX5_init_27 (by (repeat rw [pm_up_ne (by decide)]); exact hS) kz) ?_
  refine WQ.st (fun _ _ kz => pw_aload0 dX5_init_30 kz) ?_
  refine WQ.st (fun _ _ kz => pw_iconst (v := 4) dX5_init_31 (by decide) kz) ?_
  refine WQ.st (fun _ _ kz => pw_nai (t := 135) (n := 4) dX5_init_32 rfl (by decide) kz) ?_
  refine WQ.st (fun _ _ kz => pw_putr (pX5_25 _ rfl rfl) dX5_init_34 (by (repeat rw [pm_up_ne (by decide)]); exact hS) kz) ?_
  refine WQ.st (fun _ _ kz => pw_aload0 dX5_init_37 kz) ?_
  refine WQ.st (fun _ _ kz => pw_iconst (v := 4) dX5_init_38 (by decide) kz) ?_
  refine WQ.st (fun _ _ kz => pw_nai (t := 136) (n := 4) dX5_init_39 rfl (by decide) kz) ?_
  refine WQ.st (fun _ _ kz => pw_putr (pX5_28 _ rfl rfl) dX5_init_41 (by (repeat rw [pm_up_ne (by decide)]); exact hS) kz) ?_
  refine WQ.st (fun _ _ kz => pw_aload0 dX5_init_44 kz) ?_
  refine WQ.st (fun _ _ kz => pw_iconst (v := 0) dX5_init_45 (by decide) kz) ?_
  refine WQ.st (fun _ _ kz => pw_puti (pX5_31 _ rfl) dX5_init_46 (by (repeat rw [pm_up_ne (by decide)]); exact hS) rfl rfl kz) ?_
  refine WQ.st (fun _ _ kz => pw_aload0 dX5_init_49 kz) ?_
  refine WQ.st (fun _ _ kz => pw_iconst (v := 0) dX5_init_50 (by decide) kz) ?_
  refine WQ.st (fun _ _ kz => pw_puti (pX5_34 _ rfl) dX5_init_51 (by (repeat rw [pm_up_ne (by decide)]); exact hS) rfl rfl kz) ?_
  refine WQ.st (fun _ _ kz => pw_aload0 dX5_init_54 kz) ?_
  refine WQ.st (fun _ _ kz => pw_aload1 dX5_init_55 kz) ?_
  refine WQ.st (fun _ _ kz => pw_putr (pX5_37 _ rfl rfl) dX5_init_56 (by (repeat rw [pm_up_ne (by decide)]); exact hS) kz) ?_
  refine WQ.st (fun _ _ kz => pw_aload0 dX5_init_59 kz) ?_
  refine WQ.st (fun _ _ kz => pw_aload2 dX5_init_60 kz) ?_
  refine WQ.st (fun _ _ kz => pw_putr (pX5_41 _ rfl rfl) dX5_init_61 (by (repeat rw [pm_up_ne (by decide)]); exact hS) kz) ?_
  refine ⟨_, _, pw_vret dX5_init_64 rfl rfl rfl, ?_⟩
  exact ⟨rfl, rfl⟩
set_option maxRecDepth 20000 in
theorem k_jDeeds {G : gT} {d : Nat} {S : sS} {V : sV} {P : sP} {A : sV} {B : sB} {Q : sP} {sl : Nat} (hS : S 137 = (2, 0)) : WQ G (d + 1) mX2_init 0 [some (.ref 137), some (.ref 96), some (.ref 103), some (.ref 107)] [] (138, sl, gh S V P A B Q) (fun r h' => r = none ∧ h' = (138, sl, gh S (up2 (up2 V 137 0 0) 137 4 0) (up2 (up2 (up2 P 137 1 (some 96)) 137 2 (some 103)) 137 3 (some 107)) A B Q)) := by
  refine WQ.st (fun _ _ kz => pw_aload0 dX2_init_0 kz) ?_
  refine WQ.st (fun _ _ kz => pw_objInit lX2_3 gt_oi1 gt_oi2 dX2_init_1 (Nat.le_of_ble_eq_true rfl) (by omega) kz) ?_
  refine WQ.st (fun _ _ kz => pw_aload0 dX2_init_4 kz) ?_
  refine WQ.st (fun _ _ kz => pw_iconst (v := 0) dX2_init_5 (by decide) kz) ?_
  refine WQ.st (fun _ _ kz => pw_puti (pX2_9 _ rfl) dX2_init_6 (by (repeat rw [pm_up_ne (by decide)]); exact hS) rfl rfl kz) ?_
  refine WQ.st (fun _ _ kz => pw_aload0 dX2_init_9 kz) ?_
  refine WQ.st (fun _ _ kz => pw_iconst (v := 0) dX2_init_10 (by decide) kz) ?_
  refine WQ.st (fun _ _ kz => pw_puti (pX2_15 _ rfl) dX2_init_11 (by (repeat rw [pm_up_ne (by decide)]); exact hS) rfl rfl kz) ?_
  refine WQ.st (fun _ _ kz => pw_aload0 dX2_init_14 kz) ?_
  refine WQ.st (fun _ _ kz => pw_aload1 dX2_init_15 kz) ?_
  refine WQ.st (fun _ _ kz => pw_putr (pX2_18 _ rfl rfl) dX2_init_16 (by (repeat rw [pm_up_ne (by decide)]); exact hS) kz) ?_
  refine WQ.st (fun _ _ kz => pw_aload0 dX2_init_19 kz) ?_
  refine WQ.st (fun _ _ kz => pw_aload2 dX2_init_20 kz) ?_
  refine WQ.st (fun _ _ kz => pw_putr (pX2_22 _ rfl rfl) dX2_init_21 (by (repeat rw [pm_up_ne (by decide)]); exact hS) kz) ?_
  refine WQ.st (fun _ _ kz => pw_aload0 dX2_init_24 kz) ?_
  refine WQ.st (fun _ _ kz => pw_aload3 dX2_init_25 kz) ?_
  refine WQ.st (fun _ _ kz => pw_putr (pX2_26 _ rfl rfl) dX2_init_26 (by (repeat rw [pm_up_ne (by decide)]); exact hS) kz) ?_
  refine ⟨_, _, pw_vret dX2_init_29 rfl rfl rfl, ?_⟩
  exact ⟨rfl, rfl⟩
