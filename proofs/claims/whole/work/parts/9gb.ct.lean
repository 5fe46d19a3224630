set_option maxRecDepth 20000 in
theorem k_jHist {G : gT} {d : Nat} {S : sS} {V : sV} {P : sP} {A : sV} {B : sB} {Q : sP} {sl : Nat} (hS : S 24 = (3, 0)) : WQ G (d + 2) mX3_init 0 [some (.ref 24), none] [] (25, sl, gh S V P A B Q) (fun r h' => r = none ∧ h' = (66, sl + 10 + 5 + 5 + 5 + 5 + 5 + 5 + 5 + 5 + 5 + 5 + 5 + 5 + 5 + 5 + 5 + 5 + 5 + 5 + 5 + 5 + 5 + 5 + 5 + 5 + 5 + 5 + 5 + 5 + 5 + 5 + 5 + 5 + 5 + 5 + 5 + 5 + 5 + 5 + 5 + 5, gh (pm_up (pm_up (pm_up (pm_up (pm_up (pm_up (pm_up (pm_up (pm_up (pm_up (pm_up (pm_up (pm_up (pm_up (pm_up (pm_up (pm_up (pm_up (pm_up (pm_up (pm_up (pm_up (pm_up (pm_up (pm_up (pm_up (pm_up (pm_up (pm_up (pm_up (pm_up (pm_up (pm_up (pm_up (pm_up (pm_up (pm_up (pm_up (pm_up (pm_up (pm_up S 25 (25, 10)) 26 (8, 0)) 27 (20, 5)) (27 + 1) (20, 5)) (27 + 2) (20, 5)) 30 (8, 0)) 31 (20, 5)) (31 + 1) (20, 5)) (31 + 2) (20, 5)) 34 (8, 0)) 35 (20, 5)) (35 + 1) (20, 5)) (35 + 2) (20, 5)) 38 (8, 0)) 39 (20, 5)) (39 + 1) (20, 5)) (39 + 2) (20, 5)) 42 (8, 0)) 43 (20, 5)) (43 + 1) (20, 5)) (43 + 2) (20, 5)) 46 (8, 0)) 47 (20, 5)) (47 + 1) (20, 5)) (47 + 2) (20, 5)) 50 (8, 0)) 51 (20, 5)) (51 + 1) (20, 5)) (51 + 2) (20, 5)) 54 (8, 0)) 55 (20, 5)) (55 + 1) (20, 5)) (55 + 2) (20, 5)) 58 (8, 0)) 59 (20, 5)) (59 + 1) (20, 5)) (59 + 2) (20, 5)) 62 (8, 0)) 63 (20, 5)) (63 + 1) (20, 5)) (63 + 2) (20, 5)) (up2 (up2 (pm_up (up2 (up2 (pm_up (up2 (up2 (pm_up (up2 (up2 (pm_up (up2 (up2 (pm_up (up2 (up2 (pm_up (up2 (up2 (pm_up (up2 (up2 (pm_up (up2 (up2 (pm_up (up2 (up2 (pm_up (up2 (up2 V 24 0 0) 24 2 0) 26 (fun _ => 0)) 26 3 0) 26 4 0) 30 (fun _ => 0)) 30 3 0) 30 4 0) 34 (fun _ => 0)) 34 3 0) 34 4 0) 38 (fun _ => 0)) 38 3 0) 38 4 0) 42 (fun _ => 0)) 42 3 0) 42 4 0) 46 (fun _ => 0)) 46 3 0) 46 4 0) 50 (fun _ => 0)) 50 3 0) 50 4 0) 54 (fun _ => 0)) 54 3 0) 54 4 0) 58 (fun _ => 0)) 58 3 0) 58 4 0) 62 (fun _ => 0)) 62 3 0) 62 4 0) (up2 (up2 (up2 (pm_up (up2 (up2 (up2 (pm_up (up2 (up2 (up2 (pm_up (up2 (up2 (up2 (pm_up (up2 (up2 (up2 (pm_up (up2 (up2 (up2 (pm_up (up2 (up2 (up2 (pm_up (up2 (up2 (up2 (pm_up (up2 (up2 (up2 (pm_up (up2 (up2 (up2 (pm_up (up2 P 24 1 (some 25)) 26 (fun _ => none)) 26 0 (some 27)) 26 1 (some (27 + 1))) 26 2 (some (27 + 2))) 30 (fun _ => none)) 30 0 (some 31)) 30 1 (some (31 + 1))) 30 2 (some (31 + 2))) 34 (fun _ => none)) 34 0 (some 35)) 34 1 (some (35 + 1))) 34 2 (some (35 + 2))) 38 (fun _ => none)) 38 0 (some 39)) 38 1 (some (39 + 1))) 38 2 (some (39 + 2))) 42 (fun _ => none)) 42 0 (some 43)) 42 1 (some (43 + 1))) 42 2 (some (43 + 2))) 46 (fun _ => none)) 46 0 (some 47)) 46 1 (some (47 + 1))) 46 2 (some (47 + 2))) 50 (fun _ => none)) 50 0 (some 51)) 50 1 (some (51 + 1))) 50 2 (some (51 + 2))) 54 (fun _ => none)) 54 0 (some 55)) 54 1 (some (55 + 1))) 54 2 (some (55 + 2))) 58 (fun _ => none)) 58 0 (some 59)) 58 1 (some (59 + 1))) 58 2 (some (59 + 2))) 62 (fun _ => none)) 62 0 (some 63)) 62 1 (some (63 + 1))) 62 2 (some (63 + 2))) (pm_up (pm_up (pm_up (pm_up (pm_up (pm_up (pm_up (pm_up (pm_up (pm_up (pm_up (pm_up (pm_up (pm_up (pm_up (pm_up (pm_up (pm_up (pm_up (pm_up (pm_up (pm_up (pm_up (pm_up (pm_up (pm_up (pm_up (pm_up (pm_up (pm_up A 27 (fun _ => 0)) (27 + 1) (fun _ => 0)) (27 + 2) (fun _ => 0)) 31 (fun _ => 0)) (31 + 1) (fun _ => 0)) (31 + 2) (fun _ => 0)) 35 (fun _ => 0)) (35 + 1) (fun _ => 0)) (35 + 2) (fun _ => 0)) 39 (fun _ => 0)) (39 + 1) (fun _ => 0)) (39 + 2) (fun _ => 0)) 43 (fun _ => 0)) (43 + 1) (fun _ => 0)) (43 + 2) (fun _ => 0)) 47 (fun _ => 0)) (47 + 1) (fun _ => 0)) (47 + 2) (fun _ => 0)) 51 (fun _ => 0)) (51 + 1) (fun _ => 0)) (51 + 2) (fun _ => 0)) 55 (fun _ => 0)) (55 + 1) (fun _ => 0)) (55 + 2) (fun _ => 0)) 59 (fun _ => 0)) (59 + 1) (fun _ => 0)) (59 + 2) (fun _ => 0)) 63 (fun _ => 0)) (63 + 1) (fun _ => 0)) (63 + 2) (fun _ => 0)) B (up2 (up2 (up2 (up2 (up2 (up2 (up2 (up2 (up2 (up2 (pm_up Q 25 (fun _ => none)) 25 0 (some 26)) 25 1 (some 30)) 25 2 (some 34)) 25 3 (some 38)) 25 4 (some 42)) 25 5 (some 46)) 25 6 (some 50)) 25 7 (some 54)) 25 8 (some 58)) 25 9 (some 62)))) := by
  refine WQ.st (fun _ _ kz => pw_aload0 dX3_init_0 kz) ?_
  refine WQ.st (fun _ _ kz => pw_objInit lX3_3 gt_oi1 gt_oi2 dX3_init_1 (Nat.le_of_ble_eq_true rfl) (by omega) kz) ?_
  refine WQ.st (fun _ _ kz => pw_aload0 dX3_init_4 kz) ?_
  refine WQ.st (fun _ _ kz => pw_iconst (v := 0) dX3_init_5 (by decide) kz) ?_
  refine WQ.st (fun _ _ kz => pw_puti (pX3_9 _ rfl) dX3_init_6 (by (repeat rw [pm_up_ne (by decide)]); exact hS) rfl rfl kz) ?_
  refine WQ.st (fun _ _ kz => pw_aload0 dX3_init_9 kz) ?_
  refine WQ.st (fun _ _ kz => pw_bipush (v := 10) dX3_init_10 (by decide) kz) ?_
  refine WQ.st (fun _ _ kz => pw_naO (t := 25) (q := 5) (n := 10) (C0 := "RubatoDesk$State") (by decide) (gt_1 (List.mem_of_getElem? (i := 115) rfl) rfl) (fun _ _ _ h => h.2.2.1.2.1) (fun _ => rfl) dX3_init_12 rfl (by decide) kz) ?_
  refine WQ.st (fun _ _ kz => pw_putr (pX3_17 _ rfl rfl) dX3_init_15 (by (repeat rw [pm_up_ne (by decide)]); exact hS) kz) ?_
  refine WQ.st (fun _ _ kz => pw_aload0 dX3_init_18 kz) ?_
  refine WQ.st (fun _ _ kz => pw_iconst (v := 0) dX3_init_19 (by decide) kz) ?_
  refine WQ.st (fun _ _ kz => pw_puti (pX3_21 _ rfl) dX3_init_20 (by (repeat rw [pm_up_ne (by decide)]); exact hS) rfl rfl kz) ?_
  refine WQ.st (fun _ _ kz => pw_iconst (v := 0) dX3_init_23 (by decide) kz) ?_
  refine WQ.st (fun _ _ kz => pw_istore1 dX3_init_24 (by decide) (k := kz)) ?_
  refine WQ.st (fun _ _ kz => pw_iload1 dX3_init_25 kz) ?_
  refine WQ.st (fun _ _ kz => pw_aload0 dX3_init_26 kz) ?_
  refine WQ.st (fun _ _ kz => pw_getr (b := 25) gX3_17 dX3_init_27 (by (repeat rw [pm_up_ne (by decide)]); exact hS) rfl kz) ?_
  refine WQ.st (fun _ _ kz => pw_len (n := 10) dX3_init_30 rfl (by decide) kz) ?_
  refine WQ.br (fun _ _ ka kb => pw_icmp_ge (tgt := 53) dX3_init_31 (by decide) ka kb) (fun c31 => absurd c31 (by decide)) (fun c31 => ?_)
  refine WQ.st (fun _ _ kz => pw_aload0 dX3_init_34 kz) ?_
  refine WQ.st (fun _ _ kz => pw_getr (b := 25) gX3_17 dX3_init_35 (by (repeat rw [pm_up_ne (by decide)]); exact hS) rfl kz) ?_
  refine WQ.st (fun _ _ kz => pw_iload1 dX3_init_38 kz) ?_
  refine WQ.st (fun _ _ kz => pw_nao (t := 26) nX3_15 (by decide) (by decide +kernel) dX3_init_39 kz) ?_
  refine WQ.st (fun _ _ kz => pw_dup dX3_init_42 rfl kz) ?_
  refine wq_n0 wX8_init lX3_24 dX3_init_43 (k_jState (a := 26) (t := 27) rfl (by decide)) rfl (Nat.le_of_ble_eq_true rfl) (Nat.le_of_ble_eq_true rfl) (fun h43 z43 => ?_)
  subst z43
  refine WQ.st (fun _ _ kz => pw_qst (j := 0) dX3_init_46 rfl (by decide) rfl rfl (fun _ => rfl) (by decide) (by decide) kz) ?_
  refine WQ.st (fun _ _ kz => pw_iinc1 (v := 1) dX3_init_47 (by decide) (by decide) (k := kz)) ?_
  refine WQ.st (fun _ _ kz => pw_goto (tgt := 25) dX3_init_50 (by decide) kz) ?_
  refine WQ.st (fun _ _ kz => pw_iload1 dX3_init_25 kz) ?_
  refine WQ.st (fun _ _ kz => pw_aload0 dX3_init_26 kz) ?_
  refine WQ.st (fun _ _ kz => pw_getr (b := 25) gX3_17 dX3_init_27 (by (repeat rw [pm_up_ne (by decide)]); exact hS) rfl kz) ?_
  refine WQ.st (fun _ _ kz => pw_len (n := 10) dX3_init_30 rfl (by decide) kz) ?_
  refine WQ.br (fun _ _ ka kb => pw_icmp_ge (tgt := 53) dX3_init_31 (by decide) ka kb) (fun c31 => absurd c31 (by decide)) (fun c31 => ?_)
  refine WQ.st (fun _ _ kz => pw_aload0 dX3_init_34 kz) ?_
  refine WQ.st (fun _ _ kz => pw_getr (b := 25) gX3_17 dX3_init_35 (by (repeat rw [pm_up_ne (by decide)]); exact hS) rfl kz) ?_
  refine WQ.st (fun _ _ kz => pw_iload1 dX3_init_38 kz) ?_
  refine WQ.st (fun _ _ kz => pw_nao (t := 30) nX3_15 (by decide) (by decide +kernel) dX3_init_39 kz) ?_
  refine WQ.st (fun _ _ kz => pw_dup dX3_init_42 rfl kz) ?_
  refine wq_n0 wX8_init lX3_24 dX3_init_43 (k_jState (a := 30) (t := 31) rfl (by decide)) rfl (Nat.le_of_ble_eq_true rfl) (Nat.le_of_ble_eq_true rfl) (fun h43 z43 => ?_)
  subst z43
  refine WQ.st (fun _ _ kz => pw_qst (j := 1) dX3_init_46 rfl (by decide) rfl rfl (fun _ => rfl) (by decide) (by decide) kz) ?_
  refine WQ.st (fun _ _ kz => pw_iinc1 (v := 1) dX3_init_47 (by decide) (by decide) (k := kz)) ?_
  refine WQ.st (fun _ _ kz => pw_goto (tgt := 25) dX3_init_50 (by decide) kz) ?_
  refine WQ.st (fun _ _ kz => pw_iload1 dX3_init_25 kz) ?_
  refine WQ.st (fun _ _ kz => pw_aload0 dX3_init_26 kz) ?_
  refine WQ.st (fun _ _ kz => pw_getr (b := 25) gX3_17 dX3_init_27 (by (repeat rw [pm_up_ne (by decide)]); exact hS) rfl kz) ?_
  refine WQ.st (fun _ _ kz => pw_len (n := 10) dX3_init_30 rfl (by decide) kz) ?_
  refine WQ.br (fun _ _ ka kb => pw_icmp_ge (tgt := 53) dX3_init_31 (by decide) ka kb) (fun c31 => absurd c31 (by decide)) (fun c31 => ?_)
  refine WQ.st (fun _ _ kz => pw_aload0 dX3_init_34 kz) ?_
  refine WQ.st (fun _ _ kz => pw_getr (b := 25) gX3_17 dX3_init_35 (by (repeat rw [pm_up_ne (by decide)]); exact hS) rfl kz) ?_
  refine WQ.st (fun _ _ kz => pw_iload1 dX3_init_38 kz) ?_
  refine WQ.st (fun _ _ kz => pw_nao (t := 34) nX3_15 (by decide) (by decide +kernel) dX3_init_39 kz) ?_
  refine WQ.st (fun _ _ kz => pw_dup dX3_init_42 rfl kz) ?_
  refine wq_n0 wX8_init lX3_24 dX3_init_43 (k_jState (a := 34) (t := 35) rfl (by decide)) rfl (Nat.le_of_ble_eq_true rfl) (Nat.le_of_ble_eq_true rfl) (fun h43 z43 => ?_)
  subst z43
  refine WQ.st (fun _ _ kz => pw_qst (j := 2) dX3_init_46 rfl (by decide) rfl rfl (fun _ => rfl) (by decide) (by decide) kz) ?_
  refine WQ.st (fun _ _ kz => pw_iinc1 (v := 1) dX3_init_47 (by decide) (by decide) (k := kz)) ?_
  refine WQ.st (fun _ _ kz => pw_goto (tgt := 25) dX3_init_50 (by decide) kz) ?_
  refine WQ.st (fun _ _ kz => pw_iload1 dX3_init_25 kz) ?_
  refine WQ.st (fun _ _ kz => pw_aload0 dX3_init_26 kz) ?_
  refine WQ.st (fun _ _ kz => pw_getr (b := 25) gX3_17 dX3_init_27 (by (repeat rw [pm_up_ne (by decide)]); exact hS) rfl kz) ?_
  refine WQ.st (fun _ _ kz => pw_len (n := 10) dX3_init_30 rfl (by decide) kz) ?_
  refine WQ.br (fun _ _ ka kb => pw_icmp_ge (tgt := 53) dX3_init_31 (by decide) ka kb) (fun c31 => absurd c31 (by decide)) (fun c31 => ?_)
  refine WQ.st (fun _ _ kz => pw_aload0 dX3_init_34 kz) ?_
  refine WQ.st (fun _ _ kz => pw_getr (b := 25) gX3_17 dX3_init_35 (by (repeat rw [pm_up_ne (by decide)]); exact hS) rfl kz) ?_
  refine WQ.st (fun _ _ kz => pw_iload1 dX3_init_38 kz) ?_
  refine WQ.st (fun _ _ kz => pw_nao (t := 38) nX3_15 (by decide) (by decide +kernel) dX3_init_39 kz) ?_
  refine WQ.st (fun _ _ kz => pw_dup dX3_init_42 rfl kz) ?_
  refine wq_n0 wX8_init lX3_24 dX3_init_43 (k_jState (a := 38) (t := 39) rfl (by decide)) rfl (Nat.le_of_ble_eq_true rfl) (Nat.le_of_ble_eq_true rfl) (fun h43 z43 => ?_)
  subst z43
  refine WQ.st (fun _ _ kz => pw_qst (j := 3) dX3_init_46 rfl (by decide) rfl rfl (fun _ => rfl) (by decide) (by decide) kz) ?_
  refine WQ.st (fun _ _ kz => pw_iinc1 (v := 1) dX3_init_47 (by decide) (by decide) (k := kz)) ?_
  refine WQ.st (fun _ _ kz => pw_goto (tgt := 25) dX3_init_50 (by decide) kz) ?_
  refine WQ.st (fun _ _ kz => pw_iload1 dX3_init_25 kz) ?_
  refine WQ.st (fun _ _ kz => pw_aload0 dX3_init_26 kz) ?_
  refine WQ.st (fun _ _ kz => pw_getr (b := 25) gX3_17 dX3_init_27 (by (repeat rw [pm_up_ne (by decide)]); exact hS) rfl kz) ?_
  refine WQ.st (fun _ _ kz => pw_len (n := 10) dX3_init_30 rfl (by decide) kz) ?_
  refine WQ.br (fun _ _ ka kb => pw_icmp_ge (tgt := 53) dX3_init_31 (by decide) ka kb) (fun c31 => absurd c31 (by decide)) (fun c31 => ?_)
  refine WQ.st (fun _ _ kz => pw_aload0 dX3_init_34 kz) ?_
  refine WQ.st (fun _ _ kz => pw_getr (b := 25) gX3_17 dX3_init_35 (by (repeat rw [pm_up_ne (by decide)]); exact hS) rfl kz) ?_
  refine WQ.st (fun _ _ kz => pw_iload1 dX3_init_38 kz) ?_
  refine WQ.st (fun _ _ kz => pw_nao (t := 42) nX3_15 (by decide) (by decide +kernel) dX3_init_39 kz) ?_
  refine WQ.st (fun _ _ kz => pw_dup dX3_init_42 rfl kz) ?_
  refine wq_n0 wX8_init lX3_24 dX3_init_43 (k_jState (a := 42) (t := 43) rfl (by decide)) rfl (Nat.le_of_ble_eq_true rfl) (Nat.le_of_ble_eq_true rfl) (fun h43 z43 => ?_)
  subst z43
  refine WQ.st (fun _ _ kz => pw_qst (j := 4) dX3_init_46 rfl (by decide) rfl rfl (fun _ => rfl) (by decide) (by decide) kz) ?_
  refine WQ.st (fun _ _ kz => pw_iinc1 (v := 1) dX3_init_47 (by decide) (by decide) (k := kz)) ?_
  refine WQ.st (fun _ _ kz => pw_goto (tgt := 25) dX3_init_50 (by decide) kz) ?_
  refine WQ.st (fun _ _ kz => pw_iload1 dX3_init_25 kz) ?_
  refine WQ.st (fun _ _ kz => pw_aload0 dX3_init_26 kz) ?_
  refine WQ.st (fun _ _ kz => pw_getr (b := 25) gX3_17 dX3_init_27 (by (repeat rw [pm_up_ne (by decide)]); exact hS) rfl kz) ?_
  refine WQ.st (fun _ _ kz => pw_len (n := 10) dX3_init_30 rfl (by decide) kz) ?_
  refine WQ.br (fun _ _ ka kb => pw_icmp_ge (tgt := 53) dX3_init_31 (by decide) ka kb) (fun c31 => absurd c31 (by decide)) (fun c31 => ?_)
  refine WQ.st (fun _ _ kz => pw_aload0 dX3_init_34 kz) ?_
  refine WQ.st (fun _ _ kz => pw_getr (b := 25) gX3_17 dX3_init_35 (by (repeat rw [pm_up_ne (by decide)]); exact hS) rfl kz) ?_
  refine WQ.st (fun _ _ kz => pw_iload1 dX3_init_38 kz) ?_
  refine WQ.st (fun _ _ kz => pw_nao (t := 46) nX3_15 (by decide) (by decide +kernel) dX3_init_39 kz) ?_
  refine WQ.st (fun _ _ kz => pw_dup dX3_init_42 rfl kz) ?_
  refine wq_n0 wX8_init lX3_24 dX3_init_43 (k_jState (a := 46) (t := 47) rfl (by decide)) rfl (Nat.le_of_ble_eq_true rfl) (Nat.le_of_ble_eq_true rfl) (fun h43 z43 => ?_)
  subst z43
  refine WQ.st (fun _ _ kz => pw_qst (j := 5) dX3_init_46 rfl (by decide) rfl rfl (fun _ => rfl) (by decide) (by decide) kz) ?_
  refine WQ.st (fun _ _ kz => pw_iinc1 (v := 1) dX3_init_47 (by decide) (by decide) (k := kz)) ?_
  refine WQ.st (fun _ _ kz => pw_goto (tgt := 25) dX3_init_50 (by decide) kz) ?_
  refine WQ.st (fun _ _ kz => pw_iload1 dX3_init_25 kz) ?_
  refine WQ.st (fun _ _ kz => pw_aload0 dX3_init_26 kz) ?_
  refine WQ.st (fun _ _ kz => pw_getr (b := 25) gX3_17 dX3_init_27 (by (repeat rw [pm_up_ne (by decide)]); exact hS) rfl kz) ?_
  refine WQ.st (fun _ _ kz => pw_len (n := 10) dX3_init_30 rfl (by decide) kz) ?_
  refine WQ.br (fun _ _ ka kb => pw_icmp_ge (tgt := 53) dX3_init_31 (by decide) ka kb) (fun c31 => absurd c31 (by decide)) (fun c31 => ?_)
  refine WQ.st (fun _ _ kz => pw_aload0 dX3_init_34 kz) ?_
  refine WQ.st (fun _ _ kz => pw_getr (b := 25) gX3_17 dX3_init_35 (by (repeat rw [pm_up_ne (by decide)]); exact hS) rfl kz) ?_
  refine WQ.st (fun _ _ kz => pw_iload1 dX3_init_38 kz) ?_
  refine WQ.st (fun _ _ kz => pw_nao (t := 50) nX3_15 (by decide) (by decide +kernel) dX3_init_39 kz) ?_
  refine WQ.st (fun _ _ kz => pw_dup dX3_init_42 rfl kz) ?_
  refine wq_n0 wX8_init lX3_24 dX3_init_43 (k_jState (a := 50) (t := 51) rfl (by decide)) rfl (Nat.le_of_ble_eq_true rfl) (Nat.le_of_ble_eq_true rfl) (fun h43 z43 => ?_)
  subst z43
  refine WQ.st (fun _ _ kz => pw_qst (j := 6) dX3_init_46 rfl (by decide) rfl rfl (fun _ => rfl) (by decide) (by decide) kz) ?_
  refine WQ.st (fun _ _ kz => pw_iinc1 (v := 1) dX3_init_47 (by decide) (by decide) (k := kz)) ?_
  refine WQ.st (fun _ _ kz => pw_goto (tgt := 25) dX3_init_50 (by decide) kz) ?_
  refine WQ.st (fun _ _ kz => pw_iload1 dX3_init_25 kz) ?_
  refine WQ.st (fun _ _ kz => pw_aload0 dX3_init_26 kz) ?_
  refine WQ.st (fun _ _ kz => pw_getr (b := 25) gX3_17 dX3_init_27 (by (repeat rw [pm_up_ne (by decide)]); exact hS) rfl kz) ?_
  refine WQ.st (fun _ _ kz => pw_len (n := 10) dX3_init_30 rfl (by decide) kz) ?_
  refine WQ.br (fun _ _ ka kb => pw_icmp_ge (tgt := 53) dX3_init_31 (by decide) ka kb) (fun c31 => absurd c31 (by decide)) (fun c31 => ?_)
  refine WQ.st (fun _ _ kz => pw_aload0 dX3_init_34 kz) ?_
  refine WQ.st (fun _ _ kz => pw_getr (b := 25) gX3_17 dX3_init_35 (by (repeat rw [pm_up_ne (by decide)]); exact hS) rfl kz) ?_
  refine WQ.st (fun _ _ kz => pw_iload1 dX3_init_38 kz) ?_
  refine WQ.st (fun _ _ kz => pw_nao (t := 54) nX3_15 (by decide) (by decide +kernel) dX3_init_39 kz) ?_
  refine WQ.st (fun _ _ kz => pw_dup dX3_init_42 rfl kz) ?_
  refine wq_n0 wX8_init lX3_24 dX3_init_43 (k_jState (a := 54) (t := 55) rfl (by decide)) rfl (Nat.le_of_ble_eq_true rfl) (Nat.le_of_ble_eq_true rfl) (fun h43 z43 => ?_)
  subst z43
  refine WQ.st (fun _ _ kz => pw_qst (j := 7) dX3_init_46 rfl (by decide) rfl rfl (fun _ => rfl) (by decide) (by decide) kz) ?_
  refine WQ.st (fun _ _ kz => pw_iinc1 (v := 1) dX3_init_47 (by decide) (by decide) (k := kz)) ?_
  refine WQ.st (fun _ _ kz => pw_goto (tgt := 25) dX3_init_50 (by decide) kz) ?_
  refine WQ.st (fun _ _ kz => pw_iload1 dX3_init_25 kz) ?_
  refine WQ.st (fun _ _ kz => pw_aload0 dX3_init_26 kz) ?_
  refine WQ.st (fun _ _ kz => pw_getr (b := 25) gX3_17 dX3_init_27 (by (repeat rw [pm_up_ne (by decide)]); exact hS) rfl kz) ?_
  refine WQ.st (fun _ _ kz => pw_len (n := 10) dX3_init_30 rfl (by decide) kz) ?_
  refine WQ.br (fun _ _ ka kb => pw_icmp_ge (tgt := 53) dX3_init_31 (by decide) ka kb) (fun c31 => absurd c31 (by decide)) (fun c31 => ?_)
  refine WQ.st (fun _ _ kz => pw_aload0 dX3_init_34 kz) ?_
  refine WQ.st (fun _ _ kz => pw_getr (b := 25) gX3_17 dX3_init_35 (by (repeat rw [pm_up_ne (by decide)]); exact hS) rfl kz) ?_
  refine WQ.st (fun _ _ kz => pw_iload1 dX3_init_38 kz) ?_
  refine WQ.st (fun _ _ kz => pw_nao (t := 58) nX3_15 (by decide) (by decide +kernel) dX3_init_39 kz) ?_
  refine WQ.st (fun _ _ kz => pw_dup dX3_init_42 rfl kz) ?_
  refine wq_n0 wX8_init lX3_24 dX3_init_43 (k_jState (a := 58) (t := 59) rfl (by decide)) rfl (Nat.le_of_ble_eq_true rfl) (Nat.le_of_ble_eq_true rfl) (fun h43 z43 => ?_)
  subst z43
  refine WQ.st (fun _ _ kz => pw_qst (j := 8) dX3_init_46 rfl (by decide) rfl rfl (fun _ => rfl) (by decide) (by decide) kz) ?_
  refine WQ.st (fun _ _ kz => pw_iinc1 (v := 1) dX3_init_47 (by decide) (by decide) (k := kz)) ?_
  refine WQ.st (fun _ _ kz => pw_goto (tgt := 25) dX3_init_50 (by decide) kz) ?_
  refine WQ.st (fun _ _ kz => pw_iload1 dX3_init_25 kz) ?_
  refine WQ.st (fun _ _ kz => pw_aload0 dX3_init_26 kz) ?_
  refine WQ.st (fun _ _ kz => pw_getr (b := 25) gX3_17 dX3_init_27 (by (repeat rw [pm_up_ne (by decide)]); exact hS) rfl kz) ?_
  refine WQ.st (fun _ _ kz => pw_len (n := 10) dX3_init_30 rfl (by decide) kz) ?_
  refine WQ.br (fun _ _ ka kb => pw_icmp_ge (tgt := 53) dX3_init_31 (by decide) ka kb) (fun c31 => absurd c31 (by decide)) (fun c31 => ?_)
  refine WQ.st (fun _ _ kz => pw_aload0 dX3_init_34 kz) ?_
  refine WQ.st (fun _ _ kz => pw_getr (b := 25) gX3_17 dX3_init_35 (by (repeat rw [pm_up_ne (by decide)]); exact hS) rfl kz) ?_
  refine WQ.st (fun _ _ kz => pw_iload1 dX3_init_38 kz) ?_
  refine WQ.st (fun _ _ kz => pw_nao (t := 62) nX3_15 (by decide) (by decide +kernel) dX3_init_39 kz) ?_
  refine WQ.st (fun _ _ kz => pw_dup dX3_init_42 rfl kz) ?_
  refine wq_n0 wX8_init lX3_24 dX3_init_43 (k_jState (a := 62) (t := 63) rfl (by decide)) rfl (Nat.le_of_ble_eq_true rfl) (Nat.le_of_ble_eq_true rfl) (fun h43 z43 => ?_)
  subst z43
  refine WQ.st (fun _ _ kz => pw_qst (j := 9) dX3_init_46 rfl (by decide) rfl rfl (fun _ => rfl) (by decide) (by decide) kz) ?_
  refine WQ.st (fun _ _ kz => pw_iinc1 (v := 1) dX3_init_47 (by decide) (by decide) (k := kz)) ?_
  refine WQ.st (fun _ _ kz => pw_goto (tgt := 25) dX3_init_50 (by decide) kz) ?_
  refine WQ.st (fun _ _ kz => pw_iload1 dX3_init_25 kz) ?_
  refine WQ.st (fun _ _ kz => pw_aload0 dX3_init_26 kz) ?_
  refine WQ.st (fun _ _ kz => pw_getr (b := 25) gX3_17 dX3_init_27 (by (repeat rw [pm_up_ne (by decide)]); exact hS) rfl kz) ?_
  refine WQ.st (fun _ _ kz => pw_len (n := 10) dX3_init_30 rfl (by decide) kz) ?_
  refine WQ.br (fun _ _ ka kb => pw_icmp_ge (tgt := 53) dX3_init_31 (by decide) ka kb) (fun c31 => ?_) (fun c31 => absurd (by decide) c31)
  refine ⟨_, _, pw_vret dX3_init_53 rfl rfl rfl, ?_⟩
  exact ⟨rfl, rfl⟩
set_option maxRecDepth 20000 in
theorem k_jSheet {G : gT} {d : Nat} {S : sS} {V : sV} {P : sP} {A : sV} {B : sB} {Q : sP} {sl : Nat} (hS : S 87 = (7, 0)) : WQ G (d + 2) mX7_init 0 [some (.ref 87)] [] (88, sl, gh S V P A B Q) (fun r h' => r = none ∧ h' = (96, sl + 48 + 4 + 5 + 5 + 3 + 900 + 3 + 900, gh (pm_up (pm_up (pm_up (pm_up (pm_up (pm_up (pm_up (pm_up S 88 (20, 48)) 89 (20, 4)) 90 (20, 5)) 91 (20, 5)) 92 (4, 0)) 93 (20, 900)) 94 (4, 0)) 95 (20, 900)) (up2 (up2 (up2 (up2 (up2 (up2 (pm_up (up2 (up2 (pm_up V 92 (fun _ => 0)) 92 1 0) 92 2 0) 94 (fun _ => 0)) 94 1 0) 94 2 0) 87 6 0) 87 7 0) 87 8 0) 87 9 0) (up2 (up2 (pm_up (up2 (up2 (pm_up (up2 (up2 (up2 (up2 P 87 0 (some 88)) 87 1 (some 89)) 87 2 (some 90)) 87 3 (some 91)) 92 (fun _ => none)) 92 0 (some 93)) 87 4 (some 92)) 94 (fun _ => none)) 94 0 (some 95)) 87 5 (some 94)) (pm_up (pm_up (pm_up (pm_up (pm_up (pm_up A 88 (fun _ => 0)) 89 (fun _ => 0)) 90 (fun _ => 0)) 91 (fun _ => 0)) 93 (fun _ => 0)) 95 (fun _ => 0)) B Q)) := by
  refine WQ.st (fun _ _ kz => pw_aload0 dX7_init_0 kz) ?_
  refine WQ.st (fun _ _ kz => pw_objInit lX7_3 gt_oi1 gt_oi2 dX7_init_1 (Nat.le_of_ble_eq_true rfl) (by omega) kz) ?_
  refine WQ.st (fun _ _ kz => pw_aload0 dX7_init_4 kz) ?_
  refine WQ.st (fun _ _ kz => pw_bipush (v := 48) dX7_init_5 (by decide) kz) ?_
  refine WQ.st (fun _ _ kz => pw_nai (t := 88) (n := 48) dX7_init_7 rfl (by decide) kz) ?_
  refine WQ.st (fun _ _ kz => pw_putr (pX7_9 _ rfl rfl) dX7_init_9 (by (repeat rw [pm_up_ne (by decide)]); exact hS) kz) ?_
  refine WQ.st (fun _ _ kz => pw_aload0 dX7_init_12 kz) ?_
  refine WQ.st (fun _ _ kz => pw_iconst (v := 4) dX7_init_13 (by decide) kz) ?_
  refine WQ.st (fun _ _ kz => pw_nai (t := 89) (n := 4) dX7_init_14 rfl (by decide) kz) ?_
  refine WQ.st (fun _ _ kz => pw_putr (pX7_15 _ rfl rfl) dX7_init_16 (by (repeat rw [pm_up_ne (by decide)]); exact hS) kz) ?_
  refine WQ.st (fun _ _ kz => pw_aload0 dX7_init_19 kz) ?_
  refine WQ.st (fun _ _ kz => pw_iconst (v := 5) dX7_init_20 (by decide) kz) ?_
  refine WQ.st (fun _ _ kz => pw_nai (t := 90) (n := 5) dX7_init_21 rfl (by decide) kz) ?_
  refine WQ.st (fun _ _ kz => pw_putr (pX7_18 _ rfl rfl) dX7_init_23 (by (repeat rw [pm_up_ne (by decide)]); exact hS) kz) ?_
  refine WQ.st (fun _ _ kz => pw_aload0 dX7_init_26 kz) ?_
  refine WQ.st (fun _ _ kz => pw_iconst (v := 5) dX7_init_27 (by decide) kz) ?_
  refine WQ.st (fun _ _ kz => pw_nai (t := 91) (n := 5) dX7_init_28 rfl (by decide) kz) ?_
  refine WQ.st (fun _ _ kz => pw_putr (pX7_21 _ rfl rfl) dX7_init_30 (by (repeat rw [pm_up_ne (by decide)]); exact hS) kz) ?_
  refine WQ.st (fun _ _ kz => pw_aload0 dX7_init_33 kz) ?_
  refine WQ.st (fun _ _ kz => pw_nao (t := 92) nX7_24 (by decide) (by decide +kernel) dX7_init_34 kz) ?_
  refine WQ.st (fun _ _ kz => pw_dup dX7_init_37 rfl kz) ?_
  refine wq_n0 wX4_init lX7_26 dX7_init_38 (k_jLaw (a := 92) (t := 93) rfl (by decide)) rfl (Nat.le_of_ble_eq_true rfl) (Nat.le_of_ble_eq_true rfl) (fun h38 z38 => ?_)
  subst z38
  refine WQ.st (fun _ _ kz => pw_putr (pX7_27 _ rfl rfl) dX7_init_41 (by (repeat rw [pm_up_ne (by decide)]); exact hS) kz) ?_
  refine WQ.st (fun _ _ kz => pw_aload0 dX7_init_44 kz) ?_
  refine WQ.st (fun _ _ kz => pw_nao (t := 94) nX7_24 (by decide) (by decide +kernel) dX7_init_45 kz) ?_
  refine WQ.st (fun _ _ kz => pw_dup dX7_init_48 rfl kz) ?_
  refine wq_n0 wX4_init lX7_26 dX7_init_49 (k_jLaw (a := 94) (t := 95) rfl (by decide)) rfl (Nat.le_of_ble_eq_true rfl) (Nat.le_of_ble_eq_true rfl) (fun h49 z49 => ?_)
  subst z49
  refine WQ.st (fun _ _ kz => pw_putr (pX7_31 _ rfl rfl) dX7_init_52 (by (repeat rw [pm_up_ne (by decide)]); exact hS) kz) ?_
  refine WQ.st (fun _ _ kz => pw_aload0 dX7_init_55 kz) ?_
  refine WQ.st (fun _ _ kz => pw_iconst (v := 0) dX7_init_56 (by decide) kz) ?_
  refine WQ.st (fun _ _ kz => pw_puti (pX7_34 _ rfl) dX7_init_57 (by (repeat rw [pm_up_ne (by decide)]); exact hS) rfl rfl kz) ?_
  refine WQ.st (fun _ _ kz => pw_aload0 dX7_init_60 kz) ?_
  refine WQ.st (fun _ _ kz => pw_iconst (v := 0) dX7_init_61 (by decide) kz) ?_
  refine WQ.st (fun _ _ kz => pw_puti (pX7_38 _ rfl) dX7_init_62 (by (repeat rw [pm_up_ne (by decide)]); exact hS) rfl rfl kz) ?_
  refine WQ.st (fun _ _ kz => pw_aload0 dX7_init_65 kz) ?_
  refine WQ.st (fun _ _ kz => pw_iconst (v := 0) dX7_init_66 (by decide) kz) ?_
  refine WQ.st (fun _ _ kz => pw_puti (pX7_41 _ rfl) dX7_init_67 (by (repeat rw [pm_up_ne (by decide)]); exact hS) rfl rfl kz) ?_
  refine WQ.st (fun _ _ kz => pw_aload0 dX7_init_70 kz) ?_
  refine WQ.st (fun _ _ kz => pw_iconst (v := 0) dX7_init_71 (by decide) kz) ?_
  refine WQ.st (fun _ _ kz => pw_puti (pX7_44 _ rfl) dX7_init_72 (by (repeat rw [pm_up_ne (by decide)]); exact hS) rfl rfl kz) ?_
  refine ⟨_, _, pw_vret dX7_init_75 rfl rfl rfl, ?_⟩
  exact ⟨rfl, rfl⟩
