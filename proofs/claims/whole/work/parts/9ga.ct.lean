set_option maxRecDepth 20000 in
theorem k_jLaw {G : gT} {d : Nat} {S : sS} {V : sV} {P : sP} {A : sV} {B : sB} {Q : sP} {a t sl : Nat} (hS : S a = (4, 0)) (ht : a < t) : WQ G (d + 1) mX4_init 0 [some (.ref a)] [] (t, sl, gh S V P A B Q) (fun r h' => r = none ∧ h' = (t + 1, sl + 900, gh (pm_up S t (20, 900)) (up2 (up2 V a 1 0) a 2 0) (up2 P a 0 (some t)) (pm_up A t (fun _ => 0)) B Q)) := by
  refine WQ.st (fun _ _ kz => pw_aload0 dX4_init_0 kz) ?_
  refine WQ.st (fun _ _ kz => pw_objInit lX4_3 gt_oi1 gt_oi2 dX4_init_1 (Nat.le_of_ble_eq_true rfl) (by omega) kz) ?_
  refine WQ.st (fun _ _ kz => pw_aload0 dX4_init_4 kz) ?_
  refine WQ.st (fun _ _ kz => pw_sipush (v := 900) dX4_init_5 (by decide) kz) ?_
  refine WQ.st (fun _ _ kz => pw_nai (t := t) (n := 900) dX4_init_8 rfl (by decide) kz) ?_
  refine WQ.st (fun _ _ kz => pw_putr (pX4_9 _ rfl rfl) dX4_init_10 (by (repeat rw [pm_up_ne (by omega)]); exact hS) kz) ?_
  refine WQ.st (fun _ _ kz => pw_aload0 dX4_init_13 kz) ?_
  refine WQ.st (fun _ _ kz => pw_iconst (v := 0) dX4_init_14 (by decide) kz) ?_
  refine WQ.st (fun _ _ kz => pw_puti (pX4_15 _ rfl) dX4_init_15 (by (repeat rw [pm_up_ne (by omega)]); exact hS) rfl rfl kz) ?_
  refine WQ.st (fun _ _ kz => pw_aload0 dX4_init_18 kz) ?_
  refine WQ.st (fun _ _ kz => pw_iconst (v := 0) dX4_init_19 (by decide) kz) ?_
  refine WQ.st (fun _ _ kz => pw_puti (pX4_19 _ rfl) dX4_init_20 (by (repeat rw [pm_up_ne (by omega)]); exact hS) rfl rfl kz) ?_
  refine ⟨_, _, pw_vret dX4_init_23 rfl rfl rfl, ?_⟩
  exact ⟨rfl, rfl⟩
set_option maxRecDepth 20000 in
theorem k_jState {G : gT} {d : Nat} {S : sS} {V : sV} {P : sP} {A : sV} {B : sB} {Q : sP} {a t sl : Nat} (hS : S a = (8, 0)) (ht : a < t) : WQ G (d + 1) mX8_init 0 [some (.ref a)] [] (t, sl, gh S V P A B Q) (fun r h' => r = none ∧ h' = (t + 3, sl + 5 + 5 + 5, gh (pm_up (pm_up (pm_up S t (20, 5)) (t + 1) (20, 5)) (t + 2) (20, 5)) (up2 (up2 V a 3 0) a 4 0) (up2 (up2 (up2 P a 0 (some t)) a 1 (some (t + 1))) a 2 (some (t + 2))) (pm_up (pm_up (pm_up A t (fun _ => 0)) (t + 1) (fun _ => 0)) (t + 2) (fun _ => 0)) B Q)) := by
  refine WQ.st (fun _ _ kz => pw_aload0 dX8_init_0 kz) ?_
  refine WQ.st (fun _ _ kz => pw_objInit lX8_3 gt_oi1 gt_oi2 dX8_init_1 (Nat.le_of_ble_eq_true rfl) (by omega) kz) ?_
  refine WQ.st (fun _ _ kz => pw_aload0 dX8_init_4 kz) ?_
  refine WQ.st (fun _ _ kz => pw_iconst (v := 5) dX8_init_5 (by decide) kz) ?_
  refine WQ.st (fun _ _ kz => pw_nai (t := t) (n := 5) dX8_init_6 rfl (by decide) kz) ?_
  refine WQ.st (fun _ _ kz => pw_putr (pX8_9 _ rfl rfl) dX8_init_8 (by (repeat rw [pm_up_ne (by omega)]); exact hS) kz) ?_
  refine WQ.st (fun _ _ kz => pw_aload0 dX8_init_11 kz) ?_
  refine WQ.st (fun _ _ kz => pw_iconst (v := 5) dX8_init_12 (by decide) kz) ?_
  refine WQ.st (fun _ _ kz => pw_nai (t := t + 1) (n := 5) dX8_init_13 rfl (by decide) kz) ?_
  refine WQ.st (fun _ _ kz => pw_putr (pX8_15 _ rfl rfl) dX8_init_15 (by (repeat rw [pm_up_ne (by omega)]); exact hS) kz) ?_
  refine WQ.st (fun _ _ kz => pw_aload0 dX8_init_18 kz) ?_
  refine WQ.st (fun _ _ kz => pw_iconst (v := 5) dX8_init_19 (by decide) kz) ?_
  refine WQ.st (fun _ _ kz => pw_nai (t := t + 2) (n := 5) dX8_init_20 rfl (by decide) kz) ?_
  refine WQ.st (fun _ _ kz => pw_putr (pX8_18 _ rfl rfl) dX8_init_22 (by (repeat rw [pm_up_ne (by omega)]); exact hS) kz) ?_
  refine WQ.st (fun _ _ kz => pw_aload0 dX8_init_25 kz) ?_
  refine WQ.st (fun _ _ kz => pw_iconst (v := 0) dX8_init_26 (by decide) kz) ?_
  refine WQ.st (fun _ _ kz => pw_puti (pX8_21 _ rfl) dX8_init_27 (by (repeat rw [pm_up_ne (by omega)]); exact hS) rfl rfl kz) ?_
  refine WQ.st (fun _ _ kz => pw_aload0 dX8_init_30 kz) ?_
  refine WQ.st (fun _ _ kz => pw_iconst (v := 0) dX8_init_31 (by decide) kz) ?_
  refine WQ.st (fun _ _ kz => pw_puti (pX8_25 _ rfl) dX8_init_32 (by (repeat rw [pm_up_ne (by omega)]); exact hS) rfl rfl kz) ?_
  refine ⟨_, _, pw_vret dX8_init_35 rfl rfl rfl, ?_⟩
  exact ⟨rfl, rfl⟩
set_option maxRecDepth 20000 in
theorem k_jTray {G : gT} {d : Nat} {S : sS} {V : sV} {P : sP} {A : sV} {B : sB} {Q : sP} {a t sl : Nat} (hS : S a = (9, 0)) (ht : a < t) : WQ G (d + 1) mX9_init 0 [some (.ref a)] [] (t, sl, gh S V P A B Q) (fun r h' => r = none ∧ h' = (t + 1, sl + 40, gh (pm_up S t (22, 40)) (up2 (up2 V a 0 (-1)) a 1 0) (up2 P a 2 (some t)) A (pm_up B t (fun _ => 0)) Q)) := by
  refine WQ.st (fun _ _ kz => pw_aload0 dX9_init_0 kz) ?_
  refine WQ.st (fun _ _ kz => pw_objInit lX9_3 gt_oi1 gt_oi2 dX9_init_1 (Nat.le_of_ble_eq_true rfl) (by omega) kz) ?_
  refine WQ.st (fun _ _ kz => pw_aload0 dX9_init_4 kz) ?_
  refine WQ.st (fun _ _ kz => pw_iconst (v := -1) dX9_init_5 (by decide) kz) ?_
  refine WQ.st (fun _ _ kz => pw_puti (pX9_11 _ rfl) dX9_init_6 (by (repeat rw [pm_up_ne (by omega)]); exact hS) rfl rfl kz) ?_
  refine WQ.st (fun _ _ kz => pw_aload0 dX9_init_9 kz) ?_
  refine WQ.st (fun _ _ kz => pw_iconst (v := 0) dX9_init_10 (by decide) kz) ?_
  refine WQ.st (fun _ _ kz => pw_puti (pX9_15 _ rfl) dX9_init_11 (by (repeat rw [pm_up_ne (by omega)]); exact hS) rfl rfl kz) ?_
  refine WQ.st (fun _ _ kz => pw_aload0 dX9_init_14 kz) ?_
  refine WQ.st (fun _ _ kz => pw_bipush (v := 40) dX9_init_15 (by decide) kz) ?_
  refine WQ.st (fun _ _ kz => pw_nal (t := t) (n := 40) dX9_init_17 rfl (by decide) kz) ?_
  refine WQ.st (fun _ _ kz => pw_putr (pX9_18 _ rfl rfl) dX9_init_19 (by (repeat rw [pm_up_ne (by omega)]); exact hS) kz) ?_
  refine ⟨_, _, pw_vret dX9_init_22 rfl rfl rfl, ?_⟩
  exact ⟨rfl, rfl⟩
set_option maxRecDepth 20000 in
theorem k_jReader {G : gT} {d : Nat} {S : sS} {V : sV} {P : sP} {A : sV} {B : sB} {Q : sP} {sl : Nat} (hS : S 10 = (6, 0)) : WQ G (d + 1) mX6_init 0 [some (.ref 10)] [] (11, sl, gh S V P A B Q) (fun r h' => r = none ∧ h' = (15, sl + 901 + 901 + 901 + 0, gh (pm_up (pm_up (pm_up (pm_up S 11 (20, 901)) 12 (20, 901)) 13 (20, 901)) 14 (21, 0)) (up2 (up2 (up2 (up2 (up2 V 10 0 0) 10 1 (-1)) 10 5 0) 10 6 0) 10 8 0) (up2 (up2 (up2 (up2 (up2 (up2 P 10 2 (some 11)) 10 3 (some 12)) 10 4 (some 13)) 10 7 (some 14)) 10 9 none) 10 10 none) (pm_up (pm_up (pm_up (pm_up A 11 (fun _ => 0)) 12 (fun _ => 0)) 13 (fun _ => 0)) 14 (fun _ => 0)) B Q)) := by
  refine WQ.st (fun _ _ kz => pw_aload0 dX6_init_0 kz) ?_
  refine WQ.st (fun _ _ kz => pw_objInit lX6_5 gt_oi1 gt_oi2 dX6_init_1 (Nat.le_of_ble_eq_true rfl) (by omega) kz) ?_
  refine WQ.st (fun _ _ kz => pw_aload0 dX6_init_4 kz) ?_
  refine WQ.st (fun _ _ kz => pw_iconst (v := 0) dX6_init_5 (by decide) kz) ?_
  refine WQ.st (fun _ _ kz => pw_puti (pX6_11 _ rfl) dX6_init_6 (by (repeat rw [pm_up_ne (by decide)]); exact hS) rfl rfl kz) ?_
  refine WQ.st (fun _ _ kz => pw_aload0 dX6_init_9 kz) ?_
  refine WQ.st (fun _ _ kz => pw_iconst (v := -1) dX6_init_10 (by decide) kz) ?_
  refine WQ.st (fun _ _ kz => pw_puti (pX6_15 _ rfl) dX6_init_11 (by (repeat rw [pm_up_ne (by decide)]); exact hS) rfl rfl kz) ?_
  refine WQ.st (fun _ _ kz => pw_aload0 dX6_init_14 kz) ?_
  refine WQ.st (fun _ _ kz => pw_sipush (v := 901) dX6_init_15 (by decide) kz) ?_
  refine WQ.st (fun _ _ kz => pw_nai (t := 11) (n := 901) dX6_init_18 rfl (by decide) kz) ?_
  refine WQ.st (fun _ _ kz => pw_putr (pX6_18 _ rfl rfl) dX6_init_20 (by (repeat rw [pm_up_ne (by decide)]); exact hS) kz) ?_
  refine WQ.st (fun _ _ kz => pw_aload0 dX6_init_23 kz) ?_
  refine WQ.st (fun _ _ kz => pw_sipush (v := 901) dX6_init_24 (by decide) kz) ?_
  refine WQ.st (fun _ _ kz => pw_nai (t := 12) (n := 901) dX6_init_27 rfl (by decide) kz) ?_
  refine WQ.st (fun _ _ kz => pw_putr (pX6_22 _ rfl rfl) dX6_init_29 (by (repeat rw [pm_up_ne (by decide)]); exact hS) kz) ?_
  refine WQ.st (fun _ _ kz => pw_aload0 dX6_init_32 kz) ?_
  refine WQ.st (fun _ _ kz => pw_sipush (v := 901) dX6_init_33 (by decide) kz) ?_
  refine WQ.st (fun _ _ kz => pw_nai (t := 13) (n := 901) dX6_init_36 rfl (by decide) kz) ?_
  refine WQ.st (fun _ _ kz => pw_putr (pX6_25 _ rfl rfl) dX6_init_38 (by (repeat rw [pm_up_ne (by decide)]); exact hS) kz) ?_
  refine WQ.st (fun _ _ kz => pw_aload0 dX6_init_41 kz) ?_
  refine WQ.st (fun _ _ kz => pw_iconst (v := 0) dX6_init_42 (by decide) kz) ?_
  refine WQ.st (fun _ _ kz => pw_puti (pX6_28 _ rfl) dX6_init_43 (by (repeat rw [pm_up_ne (by decide)]); exact hS) rfl rfl kz) ?_
  refine WQ.st (fun _ _ kz => pw_aload0 dX6_init_46 kz) ?_
  refine WQ.st (fun _ _ kz => pw_iconst (v := 0) dX6_init_47 (by decide) kz) ?_
  refine WQ.st (fun _ _ kz => pw_puti (pX6_31 _ rfl) dX6_init_48 (by (repeat rw [pm_up_ne (by decide)]); exact hS) rfl rfl kz) ?_
  refine WQ.st (fun _ _ kz => pw_aload0 dX6_init_51 kz) ?_
  refine WQ.st (fun _ _ kz => pw_iconst (v := 0) dX6_init_52 (by decide) kz) ?_
  refine WQ.st (fun _ _ kz => pw_nab (t := 14) (n := 0) dX6_init_53 rfl (by decide) kz) ?_
  refine WQ.st (fun _ _ kz => pw_putr (pX6_34 _ rfl) dX6_init_55 (by (repeat rw [pm_up_ne (by decide)]); exact hS) kz) ?_
  refine WQ.st (fun _ _ kz => pw_aload0 dX6_init_58 kz) ?_
  refine WQ.st (fun _ _ kz => pw_iconst (v := 0) dX6_init_59 (by decide) kz) ?_
  refine WQ.st (fun _ _ kz => pw_puti (pX6_38 _ rfl) dX6_init_60 (by (repeat rw [pm_up_ne (by decide)]); exact hS) rfl rfl kz) ?_
  refine WQ.st (fun _ _ kz => pw_aload0 dX6_init_63 kz) ?_
  refine WQ.st (fun _ _ kz => pw_null dX6_init_64 kz) ?_
  refine WQ.st (fun _ _ kz => pw_putq (o := none) (pX6_41 _ rfl) dX6_init_65 (by (repeat rw [pm_up_ne (by decide)]); exact hS) kz) ?_
  refine WQ.st (fun _ _ kz => pw_aload0 dX6_init_68 kz) ?_
  refine WQ.st (fun _ _ kz => pw_null dX6_init_69 kz) ?_
  refine WQ.st (fun _ _ kz => pw_putq (o := none) (pX6_45 _ rfl) dX6_init_70 (by (repeat rw [pm_up_ne (by decide)]); exact hS) kz) ?_
  refine ⟨_, _, pw_vret dX6_init_73 rfl rfl rfl, ?_⟩
  exact ⟨rfl, rfl⟩
