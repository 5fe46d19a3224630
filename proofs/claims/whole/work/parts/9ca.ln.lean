/-! ===== the class: a sheet told line by line ===== -/
def SG (V A : sV) (u : Nat) (F : Nat → Int32) : Prop := V u 8 = F 3 ∧ V u 9 = F 0 ∧ (∀ i, i < 48 → A (u + 1) i = F (15 + i)) ∧ (∀ q, q < 4 → A (u + 2) q = F (10 + q)) ∧ (∀ p, p < 5 → A (u + 3) p = F (77 + p)) ∧ ∀ p, p < 5 → A (u + 4) p = F (87 + p)
def FRU (u : Nat) (V A V' A' : sV) : Prop := (∀ b, b < u ∨ u + 8 < b → V' b = V b) ∧ ∀ b, b < u ∨ u + 8 < b → A' b = A b
theorem LWD.nil {V A : sV} {a : Nat} (h1 : V a 1 = 0) (h2 : V a 2 = 0) : LWD V A a [] := by
  refine ⟨h1, fun i c h => (by simp at h), fun w hw => ?_⟩
  rw [h2, bit_w _ w hw]
  simp
theorem SH.la {S : sS} {P : sP} {u : Nat} (h : SH S P u) : LA S P (u + 5) := by
  refine ⟨fun q hq => ?_, fun q hq => ?_⟩
  · rcases List.mem_cons.mp hq with rfl | hq
    · exact sh_s5 h
    · rcases List.mem_cons.mp hq with rfl | hq
      · exact sh_s6 h
      · cases hq
  · rcases List.mem_cons.mp hq with rfl | hq
    · exact sh_p5_0 h
    · cases hq
theorem SH.lb {S : sS} {P : sP} {u : Nat} (h : SH S P u) : LA S P (u + 7) := by
  refine ⟨fun q hq => ?_, fun q hq => ?_⟩
  · rcases List.mem_cons.mp hq with rfl | hq
    · exact sh_s7 h
    · rcases List.mem_cons.mp hq with rfl | hq
      · exact sh_s8 h
      · cases hq
  · rcases List.mem_cons.mp hq with rfl | hq
    · exact sh_p7_0 h
    · cases hq
set_option maxRecDepth 20000 in
theorem k_shclear {G : gT} {d : Nat} {S : sS} {V : sV} {P : sP} {A : sV} {B : sB} {Q : sP} {t sl : Nat} {u : Nat} (hU : SH S P u) : WQ G (d + 1) mX7_clear 0 [some (.ref u)] [] (t, sl, gh S V P A B Q) (fun r h' => r = none ∧ ∃ V' A' : sV, h' = (t, sl, gh S V' P A' B Q) ∧ SG V' A' u (fun _ => 0) ∧ V' u 6 = 0 ∧ V' u 7 = 0 ∧ LWD V' A' (u + 5) [] ∧ LWD V' A' (u + 7) [] ∧ FRU u V A V' A') := by
  have hLa := hU.la
  have hLb := hU.lb
  refine WQ.st (fun _ _ kz => pw_aload0 dX7_clear_0 kz) ?_
  refine WQ.st (fun _ _ kz => pw_getr gX7_9 dX7_clear_1 (sh_s0 hU) (sh_p0_0 hU) kz) ?_
  refine WQ.st (fun _ _ kz => pw_iconst (v := 0) dX7_clear_4 (by decide) kz) ?_
  refine WQ.st (fun _ _ kz => pw_s2v wJ7_fill_53178 lX7_47 dX7_clear_5 (c_filli (sh_s1 hU) (by omega) _) rfl (Nat.le_of_ble_eq_true rfl) (Nat.le_of_ble_eq_true rfl) kz) ?_
  refine WQ.st (fun _ _ kz => pw_aload0 dX7_clear_8 kz) ?_
  refine WQ.st (fun _ _ kz => pw_getr gX7_15 dX7_clear_9 (sh_s0 hU) (sh_p0_1 hU) kz) ?_
  refine WQ.st (fun _ _ kz => pw_iconst (v := 0) dX7_clear_12 (by decide) kz) ?_
  refine WQ.st (fun _ _ kz => pw_s2v wJ7_fill_53178 lX7_47 dX7_clear_13 (c_filli (sh_s2 hU) (by omega) _) rfl (Nat.le_of_ble_eq_true rfl) (Nat.le_of_ble_eq_true rfl) kz) ?_
  refine WQ.st (fun _ _ kz => pw_aload0 dX7_clear_16 kz) ?_
  refine WQ.st (fun _ _ kz => pw_getr gX7_18 dX7_clear_17 (sh_s0 hU) (sh_p0_2 hU) kz) ?_
  refine WQ.st (fun _ _ kz => pw_iconst (v := 0) dX7_clear_20 (by decide) kz) ?_
  refine WQ.st (fun _ _ kz => pw_s2v wJ7_fill_53178 lX7_47 dX7_clear_21 (c_filli (sh_s3 hU) (by omega) _) rfl (Nat.le_of_ble_eq_true rfl) (Nat.le_of_ble_eq_true rfl) kz) ?_
  refine WQ.st (fun _ _ kz => pw_aload0 dX7_clear_24 kz) ?_
  refine WQ.st (fun _ _ kz => pw_getr gX7_21 dX7_clear_25 (sh_s0 hU) (sh_p0_3 hU) kz) ?_
  refine WQ.st (fun _ _ kz => pw_iconst (v := 0) dX7_clear_28 (by decide) kz) ?_
  refine WQ.st (fun _ _ kz => pw_s2v wJ7_fill_53178 lX7_47 dX7_clear_29 (c_filli (sh_s4 hU) (by omega) _) rfl (Nat.le_of_ble_eq_true rfl) (Nat.le_of_ble_eq_true rfl) kz) ?_
  refine WQ.st (fun _ _ kz => pw_aload0 dX7_clear_32 kz) ?_
  refine WQ.st (fun _ _ kz => pw_getr gX7_27 dX7_clear_33 (sh_s0 hU) (sh_p0_4 hU) kz) ?_
  refine wq_o0v wX4_clear lX7_53 rfl dX7_clear_36 (sh_s5 hU) (k_lclear (a := u + 5) hLa) rfl (Nat.le_of_ble_eq_true rfl) (Nat.le_of_ble_eq_true rfl) (fun h36 z36 => ?_)
  subst z36
  refine WQ.st (fun _ _ kz => pw_aload0 dX7_clear_39 kz) ?_
  refine WQ.st (fun _ _ kz => pw_getr gX7_31 dX7_clear_40 (sh_s0 hU) (sh_p0_5 hU) kz) ?_
  refine wq_o0v wX4_clear lX7_53 rfl dX7_clear_43 (sh_s7 hU) (k_lclear (a := u + 7) hLb) rfl (Nat.le_of_ble_eq_true rfl) (Nat.le_of_ble_eq_true rfl) (fun h43 z43 => ?_)
  subst z43
  refine WQ.st (fun _ _ kz => pw_aload0 dX7_clear_46 kz) ?_
  refine WQ.st (fun _ _ kz => pw_iconst (v := 0) dX7_clear_47 (by decide) kz) ?_
  refine WQ.st (fun _ _ kz => pw_puti (pX7_34 _ rfl) dX7_clear_48 (sh_s0 hU) rfl rfl kz) ?_
  refine WQ.st (fun _ _ kz => pw_aload0 dX7_clear_51 kz) ?_
  refine WQ.st (fun _ _ kz => pw_iconst (v := 0) dX7_clear_52 (by decide) kz) ?_
  refine WQ.st (fun _ _ kz => pw_puti (pX7_38 _ rfl) dX7_clear_53 (sh_s0 hU) rfl rfl kz) ?_
  refine WQ.st (fun _ _ kz => pw_aload0 dX7_clear_56 kz) ?_
  refine WQ.st (fun _ _ kz => pw_iconst (v := 0) dX7_clear_57 (by decide) kz) ?_
  refine WQ.st (fun _ _ kz => pw_puti (pX7_41 _ rfl) dX7_clear_58 (sh_s0 hU) rfl rfl kz) ?_
  refine WQ.st (fun _ _ kz => pw_aload0 dX7_clear_61 kz) ?_
  refine WQ.st (fun _ _ kz => pw_iconst (v := 0) dX7_clear_62 (by decide) kz) ?_
  refine WQ.st (fun _ _ kz => pw_puti (pX7_44 _ rfl) dX7_clear_63 (sh_s0 hU) rfl rfl kz) ?_
  refine ⟨_, _, pw_vret dX7_clear_66 rfl rfl rfl, ?_⟩
  refine ⟨rfl, _, _, rfl, ⟨?_, ?_, fun i hi => ?_, fun i hi => ?_, fun i hi => ?_, fun i hi => ?_⟩, ?_, ?_, ?_, ?_, fun b hb => ?_, fun b hb => ?_⟩
  · simp [up2, pm_up]
  · simp [up2, pm_up]
  · simp [pm_up, fillF, hi]
  · simp [pm_up, fillF, hi]
  · simp [pm_up, fillF, hi]
  · simp [pm_up, fillF, hi]
  · simp [up2, pm_up]
  · simp [up2, pm_up]
  · exact LWD.nil (by simp [up2, pm_up]) (by simp [up2, pm_up])
  · exact LWD.nil (by simp [up2, pm_up]) (by simp [up2, pm_up])
  · rw [up2_na (by omega), up2_na (by omega), up2_na (by omega), up2_na (by omega), up2_na (by omega), up2_na (by omega), up2_na (by omega), up2_na (by omega)]
  · rw [pm_up_ne (by omega), pm_up_ne (by omega), pm_up_ne (by omega), pm_up_ne (by omega)]
set_option maxRecDepth 20000 in
theorem k_hasP1 {G : gT} {d : Nat} {S : sS} {V : sV} {P : sP} {A : sV} {B : sB} {Q : sP} {t sl : Nat} {u : Nat} (hU : SH S P u) {q : Nat} (hq : q < 4) (h6 : V u 6 = nI (q + 1)) : WQ G d mX7_hasPiece 0 [some (.ref u), some (.int (nI q))] [] (t, sl, gh S V P A B Q) (fun r h' => r = some (.int (1)) ∧ h' = (t, sl, gh S V P A B Q)) := by
  refine WQ.st (fun _ _ kz => pw_iload1 dX7_hasPiece_0 kz) ?_
  refine WQ.br (fun _ _ ka kb => pw_if_lt (tgt := 25) dX7_hasPiece_1 (by decide) ka kb) (fun c1 => absurd c1 (fun q => by have := (lt_i (ix_n (by omega)) (show (0 : Int32).toInt = 0 from rfl)).mp q; omega)) (fun c1 => ?_)
  refine WQ.st (fun _ _ kz => pw_iload1 dX7_hasPiece_4 kz) ?_
  refine WQ.st (fun _ _ kz => pw_aload0 dX7_hasPiece_5 kz) ?_
  refine WQ.st (fun _ _ kz => pw_geti gX7_34 dX7_hasPiece_6 (sh_s0 hU) kz) ?_
  rw [h6]
  refine WQ.br (fun _ _ ka kb => pw_icmp_ge (tgt := 25) dX7_hasPiece_9 (by decide) ka kb) (fun c9 => absurd c9 (by rw [le_i (ix_n (by omega)) (ix_n (by omega))]; omega)) (fun c9 => ?_)
  refine WQ.st (fun _ _ kz => pw_iload1 dX7_hasPiece_12 kz) ?_
  refine WQ.st (fun _ _ kz => pw_aload0 dX7_hasPiece_13 kz) ?_
  refine WQ.st (fun _ _ kz => pw_getr gX7_15 dX7_hasPiece_14 (sh_s0 hU) (sh_p0_1 hU) kz) ?_
  refine WQ.st (fun _ _ kz => pw_len dX7_hasPiece_17 (sh_s2 hU) (by decide) kz) ?_
  refine WQ.br (fun _ _ ka kb => pw_icmp_ge (tgt := 25) dX7_hasPiece_18 (by decide) ka kb) (fun c18 => absurd c18 (by rw [le_i (show (Int32.ofNat 4).toInt = 4 from rfl) (ix_n (by omega))]; omega)) (fun c18 => ?_)
  refine WQ.st (fun _ _ kz => pw_iconst (v := 1) dX7_hasPiece_21 (by decide) kz) ?_
  refine WQ.st (fun _ _ kz => pw_goto (tgt := 26) dX7_hasPiece_22 (by decide) kz) ?_
  refine ⟨_, _, pw_iret dX7_hasPiece_26 rfl rfl rfl rfl, ?_⟩
  exact ⟨rfl, rfl⟩
set_option maxRecDepth 20000 in
theorem k_addBar {G : gT} {d : Nat} {S : sS} {V : sV} {P : sP} {A : sV} {B : sB} {Q : sP} {t sl : Nat} {u : Nat} (hU : SH S P u) {q b : Nat} (hq : q < 4) (hb12 : b < 12) (h6 : V u 6 = nI (q + 1)) (hb : A (u + 2) q = nI b) (y : Int32) : WQ G (d + 1) mX7_addBar 0 [some (.ref u), some (.int y), none] [] (t, sl, gh S V P A B Q) (fun r h' => r = none ∧ h' = (t, sl, gh S V P (up2 (up2 A (u + 1) (q * 12 + b) y) (u + 2) q (nI (b + 1))) B Q)) := by
  refine WQ.st (fun _ _ kz => pw_aload0 dX7_addBar_0 kz) ?_
  refine WQ.st (fun _ _ kz => pw_geti gX7_34 dX7_addBar_1 (sh_s0 hU) kz) ?_
  rw [h6]
  refine WQ.st (fun _ _ kz => pw_iconst (v := 1) dX7_addBar_4 (by decide) kz) ?_
  refine WQ.st (fun _ _ kz => pw_isub dX7_addBar_5 kz) ?_
  rw [show nI (q + 1) - 1 = nI q from by rw [show (1 : Int32) = nI 1 from rfl, nI_subk (by omega)]; rfl]
  refine WQ.st (fun _ _ kz => pw_istore2 dX7_addBar_6 (by decide) (k := kz)) ?_
  refine WQ.st (fun _ _ kz => pw_aload0 dX7_addBar_7 kz) ?_
  refine WQ.st (fun _ _ kz => pw_iload2 dX7_addBar_8 kz) ?_
  refine wq_o1i wX7_hasPiece lX7_56 rfl dX7_addBar_9 (sh_s0 hU) (k_hasP1 hU hq h6) rfl (Nat.le_of_ble_eq_true rfl) (Nat.le_of_ble_eq_true rfl) (fun h9 z9 => ?_)
  subst z9
  refine WQ.br (fun _ _ ka kb => pw_if_eq (tgt := 53) dX7_addBar_12 (by decide) ka kb) (fun c12 => absurd c12 (by decide)) (fun c12 => ?_)
  refine WQ.st (fun _ _ kz => pw_aload0 dX7_addBar_15 kz) ?_
  refine WQ.st (fun _ _ kz => pw_getr gX7_15 dX7_addBar_16 (sh_s0 hU) (sh_p0_1 hU) kz) ?_
  refine WQ.st (fun _ _ kz => pw_iload2 dX7_addBar_19 kz) ?_
  refine WQ.st (fun _ _ kz => pw_ald (j := q) dX7_addBar_20 (sh_s2 hU) (ix_n (by omega)) (by omega) kz) ?_
  rw [hb]
  refine WQ.st (fun _ _ kz => pw_bipush (v := 12) dX7_addBar_21 (by decide) kz) ?_
  refine WQ.br (fun _ _ ka kb => pw_icmp_ge (tgt := 53) dX7_addBar_23 (by decide) ka kb) (fun c23 => absurd c23 (by rw [le_i (show (12 : Int32).toInt = 12 from rfl) (ix_n (by omega))]; omega)) (fun c23 => ?_)
  refine WQ.st (fun _ _ kz => pw_aload0 dX7_addBar_26 kz) ?_
  refine WQ.st (fun _ _ kz => pw_getr gX7_9 dX7_addBar_27 (sh_s0 hU) (sh_p0_0 hU) kz) ?_
  refine WQ.st (fun _ _ kz => pw_iload2 dX7_addBar_30 kz) ?_
  refine WQ.st (fun _ _ kz => pw_bipush (v := 12) dX7_addBar_31 (by decide) kz) ?_
  refine WQ.st (fun _ _ kz => pw_imul dX7_addBar_33 kz) ?_
  refine WQ.st (fun _ _ kz => pw_aload0 dX7_addBar_34 kz) ?_
  refine WQ.st (fun _ _ kz => pw_getr gX7_15 dX7_addBar_35 (sh_s0 hU) (sh_p0_1 hU) kz) ?_
  refine WQ.st (fun _ _ kz => pw_iload2 dX7_addBar_38 kz) ?_
  refine WQ.st (fun _ _ kz => pw_ald (j := q) dX7_addBar_39 (sh_s2 hU) (ix_n (by omega)) (by omega) kz) ?_
  rw [hb]
  refine WQ.st (fun _ _ kz => pw_iadd dX7_addBar_40 kz) ?_
  refine WQ.st (fun _ _ kz => pw_iload1 dX7_addBar_41 kz) ?_
  refine WQ.st (fun _ _ kz => pw_ast (j := (q * 12) + b) dX7_addBar_42 (sh_s1 hU) (by simp (disch := omega) only [nl_12, nI_add, pk_mul, pk_sub]; exact ix_m (by omega) (by omega)) (by omega)  kz) ?_
  refine WQ.st (fun _ _ kz => pw_aload0 dX7_addBar_43 kz) ?_
  refine WQ.st (fun _ _ kz => pw_getr gX7_15 dX7_addBar_44 (sh_s0 hU) (sh_p0_1 hU) kz) ?_
  refine WQ.st (fun _ _ kz => pw_iload2 dX7_addBar_47 kz) ?_
  refine WQ.st (fun _ _ kz => pw_dup2_11 dX7_addBar_48 rfl rfl kz) ?_
  refine WQ.st (fun _ _ kz => pw_ald (j := q) dX7_addBar_49 (sh_s2 hU) (ix_n (by omega)) (by omega) kz) ?_
  rw [up2_na (by omega), hb]
  refine WQ.st (fun _ _ kz => pw_iconst (v := 1) dX7_addBar_50 (by decide) kz) ?_
  refine WQ.st (fun _ _ kz => pw_iadd dX7_addBar_51 kz) ?_
  rw [nI_1]
  refine WQ.st (fun _ _ kz => pw_ast (j := q) dX7_addBar_52 (sh_s2 hU) (ix_n (by omega)) (by omega)  kz) ?_
  refine ⟨_, _, pw_vret dX7_addBar_53 rfl rfl rfl, ?_⟩
  exact ⟨rfl, rfl⟩
set_option maxRecDepth 20000 in
theorem k_isFlag {G : gT} {d : Nat} {h : Ph} {k : Nat} (hk : tkO k) : WQ G d mX6_isFlag 0 [some (.int (ccK k))] [] h (fun r h' => r = some (.int (bI (decide (k = 5 ∨ k = 6 ∨ k = 7)))) ∧ h' = h) := by
  refine WQ.st (fun _ _ kz => pw_iload0 dX6_isFlag_0 kz) ?_
  refine WQ.st (fun _ _ kz => pw_sipush (v := 215) dX6_isFlag_1 (by decide) kz) ?_
  refine WQ.br (fun _ _ ka kb => pw_icmp_eq (tgt := 21) dX6_isFlag_4 (by decide) ka kb) (fun c4 => ?_) (fun c4 => ?_)
  · refine WQ.st (fun _ _ kz => pw_iconst (v := 1) dX6_isFlag_21 (by decide) kz) ?_
    refine WQ.st (fun _ _ kz => pw_goto (tgt := 26) dX6_isFlag_22 (by decide) kz) ?_
    refine ⟨_, _, pw_iret dX6_isFlag_26 rfl rfl rfl rfl, ?_⟩
    exact ⟨rI (bI_t (decide_eq_true (Or.inl ((cc_i hk (show tkO 5 by unfold tkO; omega) (by decide +kernel)).mp c4)))), rfl⟩
  · refine WQ.st (fun _ _ kz => pw_iload0 dX6_isFlag_7 kz) ?_
    refine WQ.st (fun _ _ kz => pw_sipush (v := 216) dX6_isFlag_8 (by decide) kz) ?_
    refine WQ.br (fun _ _ ka kb => pw_icmp_eq (tgt := 21) dX6_isFlag_11 (by decide) ka kb) (fun c11 => ?_) (fun c11 => ?_)
    · refine WQ.st (fun _ _ kz => pw_iconst (v := 1) dX6_isFlag_21 (by decide) kz) ?_
      refine WQ.st (fun _ _ kz => pw_goto (tgt := 26) dX6_isFlag_22 (by decide) kz) ?_
      refine ⟨_, _, pw_iret dX6_isFlag_26 rfl rfl rfl rfl, ?_⟩
      exact ⟨rI (bI_t (decide_eq_true (Or.inr (Or.inl ((cc_i hk (show tkO 6 by unfold tkO; omega) (by decide +kernel)).mp c11))))), rfl⟩
    · refine WQ.st (fun _ _ kz => pw_iload0 dX6_isFlag_14 kz) ?_
      refine WQ.st (fun _ _ kz => pw_sipush (v := 201) dX6_isFlag_15 (by decide) kz) ?_
      refine WQ.bn (fun _ _ ka kb => pw_icmp_ne (tgt := 25) dX6_isFlag_18 (by decide) ka kb) (fun c18 => ?_) (fun c18 => ?_)
      · refine WQ.st (fun _ _ kz => pw_iconst (v := 0) dX6_isFlag_25 (by decide) kz) ?_
        refine ⟨_, _, pw_iret dX6_isFlag_26 rfl rfl rfl rfl, ?_⟩
        exact ⟨rI (bI_z (decide_eq_false (fun q => q.elim (fun q => c4 ((cc_i hk (show tkO 5 by unfold tkO; omega) (by decide +kernel)).mpr q)) (fun q => q.elim (fun q => c11 ((cc_i hk (show tkO 6 by unfold tkO; omega) (by decide +kernel)).mpr q)) (fun q => c18 ((cc_i hk (show tkO 7 by unfold tkO; omega) (by decide +kernel)).mpr q)))))), rfl⟩
      · refine WQ.st (fun _ _ kz => pw_iconst (v := 1) dX6_isFlag_21 (by decide) kz) ?_
        refine WQ.st (fun _ _ kz => pw_goto (tgt := 26) dX6_isFlag_22 (by decide) kz) ?_
        refine ⟨_, _, pw_iret dX6_isFlag_26 rfl rfl rfl rfl, ?_⟩
        exact ⟨rI (bI_t (decide_eq_true (Or.inr (Or.inr ((cc_i hk (show tkO 7 by unfold tkO; omega) (by decide +kernel)).mp c18))))), rfl⟩
