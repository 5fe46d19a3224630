/-! ===== the class: a new sheet ===== -/
theorem SH_mk {S : sS} {P : sP} {a : Nat} (s0 : S (a + 0) = (7, 0)) (s1 : S (a + 1) = (20, 48)) (s2 : S (a + 2) = (20, 4)) (s3 : S (a + 3) = (20, 5)) (s4 : S (a + 4) = (20, 5)) (s5 : S (a + 5) = (4, 0)) (s6 : S (a + 6) = (20, 900)) (s7 : S (a + 7) = (4, 0)) (s8 : S (a + 8) = (20, 900)) (p0_0 : P (a + 0) 0 = some (a + 1)) (p0_1 : P (a + 0) 1 = some (a + 2)) (p0_2 : P (a + 0) 2 = some (a + 3)) (p0_3 : P (a + 0) 3 = some (a + 4)) (p0_4 : P (a + 0) 4 = some (a + 5)) (p0_5 : P (a + 0) 5 = some (a + 7)) (p5_0 : P (a + 5) 0 = some (a + 6)) (p7_0 : P (a + 7) 0 = some (a + 8)) : SH S P a :=
  ⟨List.forall_mem_cons.mpr ⟨s0, List.forall_mem_cons.mpr ⟨s1, List.forall_mem_cons.mpr ⟨s2, List.forall_mem_cons.mpr ⟨s3, List.forall_mem_cons.mpr ⟨s4, List.forall_mem_cons.mpr ⟨s5, List.forall_mem_cons.mpr ⟨s6, List.forall_mem_cons.mpr ⟨s7, List.forall_mem_cons.mpr ⟨s8, fun q hq => absurd hq (List.not_mem_nil)⟩⟩⟩⟩⟩⟩⟩⟩⟩, List.forall_mem_cons.mpr ⟨p0_0, List.forall_mem_cons.mpr ⟨p0_1, List.forall_mem_cons.mpr ⟨p0_2, List.forall_mem_cons.mpr ⟨p0_3, List.forall_mem_cons.mpr ⟨p0_4, List.forall_mem_cons.mpr ⟨p0_5, List.forall_mem_cons.mpr ⟨p5_0, List.forall_mem_cons.mpr ⟨p7_0, fun q hq => absurd hq (List.not_mem_nil)⟩⟩⟩⟩⟩⟩⟩⟩⟩
set_option maxRecDepth 20000 in
theorem k_iLaw {G : gT} {d : Nat} {S : sS} {V : sV} {P : sP} {A : sV} {B : sB} {Q : sP} {a t sl : Nat} (hS : S a = (4, 0)) (ht : a < t) : WQ G (d + 1) mX4_init 0 [some (.ref a)] [] (t, sl, gh S V P A B Q) (fun r h' => r = none ∧ h' = (t + 1, sl + 900, gh (pm_up S t (20, 900)) (up2 (up2 V a 1 0) a 2 0) (up2 P a 0 (some t)) (pm_up A t (fun _ => 0)) B Q)) := by
  refine WQ.st (fun _ _ kz => pw_aload0 dX4_init_0 kz) ?_
  refine WQ.st (fun _ _ kz => pw_objInit lX4_3 gt_oi1 gt_oi2 dX4_init_1 (Nat.le_of_ble_eq_true rfl) (by omega) kz) ?_
  refine WQ.st (fun _ _ kz => pw_aload0 dX4_init_4 kz) ?_
  refine WQ.st (fun _ _ kz => pw_sipush (v := 900) dX4_init_5 (by decide) kz) ?_
  refine WQ.st (fun _ _ kz => pw_nai (n := 900) dX4_init_8 rfl (by omega) kz) ?_
  refine WQ.st (fun _ _ kz => pw_putr (pX4_9 _ rfl rfl) dX4_init_10 (by (repeat rw [pm_up_ne (by omega)]); exact hS) kz) ?_
  refine WQ.st (fun _ _ kz => pw_aload0 dX4_init_13 kz) ?_
  refine WQ.st (fun _ _ kz => pw_iconst (v := 0) dX4_init_14 (by decide) kz) ?_
  refine WQ.st (fun _ _ kz => pw_puti (pX4_15 _ rfl) dX4_init_15 (by (repeat rw [pm_up_ne (by omega)]); exact hS) rfl rfl kz) ?_
  refine WQ.st (fun _ _ kz => pw_aload0 dX4_init_18 kz) ?_
  refine WQ.st (fun _ _ kz => pw_iconst (v := 0) dX4_init_19 (by decide) kz) ?_
  refine WQ.st (fun _ _ kz => pw_puti (pX4_19 _ rfl) dX4_init_20 (by (repeat rw [pm_up_ne (by omega)]); exact hS) rfl rfl kz) ?_
  refine ⟨_, _, pw_vret dX4_init_23 rfl rfl rfl, ?_⟩
  exact ⟨rfl, rfl⟩
set_option maxRecDepth 20000 in
theorem k_iSheet {G : gT} {d : Nat} {S : sS} {V : sV} {P : sP} {A : sV} {B : sB} {Q : sP} {a sl : Nat} (hS : S a = (7, 0)) : WQ G (d + 2) mX7_init 0 [some (.ref a)] [] (a + 1, sl, gh S V P A B Q) (fun r h' => r = none ∧ ∃ (S' : sS) (V' : sV) (P' : sP) (A' : sV), h' = (a + 9, sl + 1868, gh S' V' P' A' B Q) ∧ SH S' P' a ∧ (∀ x, x < a → S' x = S x ∧ V' x = V x ∧ P' x = P x ∧ A' x = A x) ∧ SG V' A' a (fun _ => 0) ∧ V' a 6 = 0 ∧ V' a 7 = 0 ∧ LWD V' A' (a + 5) [] ∧ LWD V' A' (a + 7) []) := by
  refine WQ.st (fun _ _ kz => pw_aload0 dX7_init_0 kz) ?_
  refine WQ.st (fun _ _ kz => pw_objInit lX7_3 gt_oi1 gt_oi2 dX7_init_1 (Nat.le_of_ble_eq_true rfl) (by omega) kz) ?_
  refine WQ.st (fun _ _ kz => pw_aload0 dX7_init_4 kz) ?_
  refine WQ.st (fun _ _ kz => pw_bipush (v := 48) dX7_init_5 (by decide) kz) ?_
  refine WQ.st (fun _ _ kz => pw_nai (n := 48) dX7_init_7 rfl (by omega) kz) ?_
  refine WQ.st (fun _ _ kz => pw_putr (pX7_9 _ rfl rfl) dX7_init_9 (by (repeat rw [pm_up_ne (by omega)]); exact hS) kz) ?_
  refine WQ.st (fun _ _ kz => pw_aload0 dX7_init_12 kz) ?_
  refine WQ.st (fun _ _ kz => pw_iconst (v := 4) dX7_init_13 (by decide) kz) ?_
  refine WQ.st (fun _ _ kz => pw_nai (n := 4) dX7_init_14 rfl (by omega) kz) ?_
  refine WQ.st (fun _ _ kz => pw_putr (pX7_15 _ rfl rfl) dX7_init_16 (by (repeat rw [pm_up_ne (by omega)]); exact hS) kz) ?_
  refine WQ.st (fun _ _ kz => pw_aload0 dX7_init_19 kz) ?_
  refine WQ.st (fun _ _ kz => pw_iconst (v := 5) dX7_init_20 (by decide) kz) ?_
  refine WQ.st (fun _ _ kz => pw_nai (n := 5) dX7_init_21 rfl (by omega) kz) ?_
  refine WQ.st (fun _ _ kz => pw_putr (pX7_18 _ rfl rfl) dX7_init_23 (by (repeat rw [pm_up_ne (by omega)]); exact hS) kz) ?_
  refine WQ.st (fun _ _ kz => pw_aload0 dX7_init_26 kz) ?_
  refine WQ.st (fun _ _ kz => pw_iconst (v := 5) dX7_init_27 (by decide) kz) ?_
  refine WQ.st (fun _ _ kz => pw_nai (n := 5) dX7_init_28 rfl (by omega) kz) ?_
  refine WQ.st (fun _ _ kz => pw_putr (pX7_21 _ rfl rfl) dX7_init_30 (by (repeat rw [pm_up_ne (by omega)]); exact hS) kz) ?_
  refine WQ.st (fun _ _ kz => pw_aload0 dX7_init_33 kz) ?_
  refine WQ.st (fun _ _ kz => pw_nao nX7_24 (by decide) (by decide +kernel) dX7_init_34 kz) ?_
  refine WQ.st (fun _ _ kz => pw_dup dX7_init_37 rfl kz) ?_
  refine wq_n0 wX4_init lX7_26 dX7_init_38 (k_iLaw (by rw [pm_up_eq]) (by omega)) rfl (Nat.le_of_ble_eq_true rfl) (Nat.le_of_ble_eq_true rfl) (fun h38 z38 => ?_)
  subst z38
  refine WQ.st (fun _ _ kz => pw_putr (pX7_27 _ rfl rfl) dX7_init_41 (by (repeat rw [pm_up_ne (by omega)]); exact hS) kz) ?_
  refine WQ.st (fun _ _ kz => pw_aload0 dX7_init_44 kz) ?_
  refine WQ.st (fun _ _ kz => pw_nao nX7_24 (by decide) (by decide +kernel) dX7_init_45 kz) ?_
  refine WQ.st (fun _ _ kz => pw_dup dX7_init_48 rfl kz) ?_
  refine wq_n0 wX4_init lX7_26 dX7_init_49 (k_iLaw (by rw [pm_up_eq]) (by omega)) rfl (Nat.le_of_ble_eq_true rfl) (Nat.le_of_ble_eq_true rfl) (fun h49 z49 => ?_)
  subst z49
  refine WQ.st (fun _ _ kz => pw_putr (pX7_31 _ rfl rfl) dX7_init_52 (by (repeat rw [pm_up_ne (by omega)]); exact hS) kz) ?_
  refine WQ.st (fun _ _ kz => pw_aload0 dX7_init_55 kz) ?_
  refine WQ.st (fun _ _ kz => pw_iconst (v := 0) dX7_init_56 (by decide) kz) ?_
  refine WQ.st (fun _ _ kz => pw_puti (pX7_34 _ rfl) dX7_init_57 (by (repeat rw [pm_up_ne (by omega)]); exact hS) rfl rfl kz) ?_
  refine WQ.st (fun _ _ kz => pw_aload0 dX7_init_60 kz) ?_
  refine WQ.st (fun _ _ kz => pw_iconst (v := 0) dX7_init_61 (by decide) kz) ?_
  refine WQ.st (fun _ _ kz => pw_puti (pX7_38 _ rfl) dX7_init_62 (by (repeat rw [pm_up_ne (by omega)]); exact hS) rfl rfl kz) ?_
  refine WQ.st (fun _ _ kz => pw_aload0 dX7_init_65 kz) ?_
  refine WQ.st (fun _ _ kz => pw_iconst (v := 0) dX7_init_66 (by decide) kz) ?_
  refine WQ.st (fun _ _ kz => pw_puti (pX7_41 _ rfl) dX7_init_67 (by (repeat rw [pm_up_ne (by omega)]); exact hS) rfl rfl kz) ?_
  refine WQ.st (fun _ _ kz => pw_aload0 dX7_init_70 kz) ?_
  refine WQ.st (fun _ _ kz => pw_iconst (v := 0) dX7_init_71 (by decide) kz) ?_
  refine WQ.st (fun _ _ kz => pw_puti (pX7_44 _ rfl) dX7_init_72 (by (repeat rw [pm_up_ne (by omega)]); exact hS) rfl rfl kz) ?_
  refine ⟨_, _, pw_vret dX7_init_75 rfl rfl rfl, ?_⟩
  refine ⟨rfl, _, _, _, _, rfl, SH_mk ?_ ?_ ?_ ?_ ?_ ?_ ?_ ?_ ?_ ?_ ?_ ?_ ?_ ?_ ?_ ?_ ?_, fun x hx => ⟨?_, ?_, ?_, ?_⟩, ⟨?_, ?_, fun i hi => ?_, fun i hi => ?_, fun i hi => ?_, fun i hi => ?_⟩, ?_, ?_, LWD.nil ?_ ?_, LWD.nil ?_ ?_⟩
  · simp [pm_up, hS, Nat.add_assoc]
  · simp [up2, pm_up, Nat.add_assoc]
  · simp [up2, pm_up, Nat.add_assoc]
  · simp [up2, pm_up, Nat.add_assoc]
  · simp [up2, pm_up, Nat.add_assoc]
  · simp [up2, pm_up, Nat.add_assoc]
  · simp [up2, pm_up, Nat.add_assoc]
  · simp [up2, pm_up, Nat.add_assoc]
  · simp [up2, pm_up, Nat.add_assoc]
  · simp [up2, pm_up, Nat.add_assoc]
  · simp [up2, pm_up, Nat.add_assoc]
  · simp [up2, pm_up, Nat.add_assoc]
  · simp [up2, pm_up, Nat.add_assoc]
  · simp [up2, pm_up, Nat.add_assoc]
  · simp [up2, pm_up, Nat.add_assoc]
  · simp [up2, pm_up, Nat.add_assoc]
  · simp [up2, pm_up, Nat.add_assoc]
  · simp only [up2, pm_up]
    repeat (first | rw [if_neg (by omega)] | rw [if_pos (by omega)])
  · simp only [up2, pm_up]
    repeat (first | rw [if_neg (by omega)] | rw [if_pos (by omega)])
  · simp only [up2, pm_up]
    repeat (first | rw [if_neg (by omega)] | rw [if_pos (by omega)])
  · simp only [up2, pm_up]
    repeat (first | rw [if_neg (by omega)] | rw [if_pos (by omega)])
  · simp [up2, pm_up, Nat.add_assoc]
  · simp [up2, pm_up, Nat.add_assoc]
  · simp [up2, pm_up, Nat.add_assoc]
  · simp [up2, pm_up, Nat.add_assoc]
  · simp [up2, pm_up, Nat.add_assoc]
  · simp [up2, pm_up, Nat.add_assoc]
  · simp [up2, pm_up, Nat.add_assoc]
  · simp [up2, pm_up, Nat.add_assoc]
  · simp [up2, pm_up, Nat.add_assoc]
  · simp [up2, pm_up, Nat.add_assoc]
  · simp [up2, pm_up, Nat.add_assoc]
  · simp [up2, pm_up, Nat.add_assoc]
