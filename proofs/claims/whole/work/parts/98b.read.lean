set_option maxRecDepth 20000 in
theorem c_wordOf {G : gT} {d : Nat} {h : Ph} {o k : Nat} (hk : k < 42) : WQ G (d + 1) mX12_wordOf 0 [some (.ref o), some (.int (nI k))] [] h (fun r h' => r = some (.int (wdI k)) ∧ h' = h) := by
  refine WQ.st (fun _ _ kz => pw_iload1 dX12_wordOf_0 kz) ?_
  refine WQ.st (fun _ _ kz => pw_i2l dX12_wordOf_1 kz) ?_
  refine WQ.st (fun _ _ kz => pw_ldc2 kX12_156 dX12_wordOf_2 kz) ?_
  refine WQ.st (fun _ _ kz => pw_ldc2 kX12_158 dX12_wordOf_5 kz) ?_
  refine WQ.st (fun _ _ kz => pw_s3i wX12_within lX12_152 dX12_wordOf_8 (c_withinI _ _ _) rfl (Nat.le_of_ble_eq_true rfl) (Nat.le_of_ble_eq_true rfl) kz) ?_
  refine WQ.br (fun _ _ ka kb => pw_if_eq (tgt := 21) dX12_wordOf_11 (by decide) ka kb) (fun c11 => ?_) (fun c11 => ?_)
  · rw [bI_0] at c11
    rw [il_t, ix_n (by omega)] at c11
    have c11 := of_decide_eq_false c11
    have c11 : ¬ (12 ≤ k ∧ k ≤ 16) := fun q => c11 (by have e1 : (12 : Int64).toInt = 12 := rfl; have e2 : (16 : Int64).toInt = 16 := rfl; omega)
    refine WQ.st (fun _ _ kz => pw_iload1 dX12_wordOf_21 kz) ?_
    refine WQ.st (fun _ _ kz => pw_bipush (v := 11) dX12_wordOf_22 (by decide) kz) ?_
    refine WQ.bn (fun _ _ ka kb => pw_icmp_ne (tgt := 31) dX12_wordOf_24 (by decide) ka kb) (fun c24 => ?_) (fun c24 => ?_)
    · rw [eq_i (ix_n (by omega)) li_11] at c24
      have c24 : ¬ k = 11 := by omega
      refine WQ.st (fun _ _ kz => pw_iload1 dX12_wordOf_31 kz) ?_
      refine WQ.st (fun _ _ kz => pw_bipush (v := 7) dX12_wordOf_32 (by decide) kz) ?_
      refine WQ.bn (fun _ _ ka kb => pw_icmp_ne (tgt := 41) dX12_wordOf_34 (by decide) ka kb) (fun c34 => ?_) (fun c34 => ?_)
      · rw [eq_i (ix_n (by omega)) li_7] at c34
        have c34 : ¬ k = 7 := by omega
        refine WQ.st (fun _ _ kz => pw_iload1 dX12_wordOf_41 kz) ?_
        refine WQ.st (fun _ _ kz => pw_iconst (v := 1) dX12_wordOf_42 (by decide) kz) ?_
        refine WQ.bn (fun _ _ ka kb => pw_icmp_ne (tgt := 50) dX12_wordOf_43 (by decide) ka kb) (fun c43 => ?_) (fun c43 => ?_)
        · rw [eq_i (ix_n (by omega)) li_1] at c43
          have c43 : ¬ k = 1 := by omega
          refine WQ.st (fun _ _ kz => pw_iconst (v := -1) dX12_wordOf_50 (by decide) kz) ?_
          refine ⟨_, _, pw_iret dX12_wordOf_51 rfl rfl rfl rfl, ?_⟩
          exact ⟨rI (by unfold wdI; rw [if_neg c11, if_neg c24, if_neg c34, if_neg c43]), rfl⟩
        · rw [eq_i (ix_n (by omega)) li_1] at c43
          have c43 : k = 1 := by omega
          refine WQ.st (fun _ _ kz => pw_iconst (v := 2) dX12_wordOf_46 (by decide) kz) ?_
          refine WQ.st (fun _ _ kz => pw_goto (tgt := 51) dX12_wordOf_47 (by decide) kz) ?_
          refine ⟨_, _, pw_iret dX12_wordOf_51 rfl rfl rfl rfl, ?_⟩
          exact ⟨rI (by unfold wdI; rw [if_neg c11, if_neg c24, if_neg c34, if_pos c43]), rfl⟩
      · rw [eq_i (ix_n (by omega)) li_7] at c34
        have c34 : k = 7 := by omega
        refine WQ.st (fun _ _ kz => pw_iconst (v := 1) dX12_wordOf_37 (by decide) kz) ?_
        refine WQ.st (fun _ _ kz => pw_goto (tgt := 51) dX12_wordOf_38 (by decide) kz) ?_
        refine ⟨_, _, pw_iret dX12_wordOf_51 rfl rfl rfl rfl, ?_⟩
        exact ⟨rI (by unfold wdI; rw [if_neg c11, if_neg c24, if_pos c34]), rfl⟩
    · rw [eq_i (ix_n (by omega)) li_11] at c24
      have c24 : k = 11 := by omega
      refine WQ.st (fun _ _ kz => pw_iconst (v := 0) dX12_wordOf_27 (by decide) kz) ?_
      refine WQ.st (fun _ _ kz => pw_goto (tgt := 51) dX12_wordOf_28 (by decide) kz) ?_
      refine ⟨_, _, pw_iret dX12_wordOf_51 rfl rfl rfl rfl, ?_⟩
      exact ⟨rI (by unfold wdI; rw [if_neg c11, if_pos c24]), rfl⟩
  · rw [bI_n] at c11
    rw [il_t, ix_n (by omega)] at c11
    have c11 := of_decide_eq_true c11
    have c11 : 12 ≤ k ∧ k ≤ 16 := by have e1 : (12 : Int64).toInt = 12 := rfl; have e2 : (16 : Int64).toInt = 16 := rfl; omega
    refine WQ.st (fun _ _ kz => pw_iconst (v := 3) dX12_wordOf_14 (by decide) kz) ?_
    refine WQ.st (fun _ _ kz => pw_iload1 dX12_wordOf_15 kz) ?_
    refine WQ.st (fun _ _ kz => pw_iadd dX12_wordOf_16 kz) ?_
    refine WQ.st (fun _ _ kz => pw_bipush (v := 12) dX12_wordOf_17 (by decide) kz) ?_
    refine WQ.st (fun _ _ kz => pw_isub dX12_wordOf_19 kz) ?_
    refine ⟨_, _, pw_iret dX12_wordOf_20 rfl rfl rfl rfl, ?_⟩
    exact ⟨rI (by unfold wdI; rw [if_pos c11, show (3 : Int32) = nI 3 from rfl, nI_pl, show (12 : Int32) = nI 12 from rfl, nI_subk (by omega)]; exact congrArg nI (by omega)), rfl⟩
theorem RX_bad {x : Nat → Int32} {L o T m i : Nat} {k : Int32} {V A : sV} (h : RX x L o T m (badT (TK x L) (TPl x L) i k) V A) : ¬ V o 11 = 0 := by
  have h : V o 11 = (if TK x L i = 25 then 1 else k) ∧ (if TK x L i = 25 then 1 else k) ≠ 0 ∧ _ := h
  rw [h.1]; exact h.2.1
theorem RX_err {x : Nat → Int32} {L o T m : Nat} {e : Int32 × Nat} {V A : sV} (h : RX x L o T m (.error e) V A) : ¬ V o 11 = 0 := by
  have h : V o 11 = e.1 ∧ e.1 ≠ 0 ∧ _ := h
  rw [h.1]; exact h.2.1
set_option maxRecDepth 20000 in
theorem c_goesInN {G : gT} {S : sS} {V : sV} {P : sP} {A : sV} {B : sB} {Q : sP} {t sl o : Nat} (hF : MF S P o) {x : Nat → Int32} {L T m : Nat} {i dep : Nat} {c : List Int32} (hN : RN x L o i c V A) (hd6 : dep ≤ 6) (hB : RB T m (i + 1) c) {D : Nat} (hD : 7 ≤ D) : WQ G D mX12_goesIn 0 [some (.ref o), some (.int (nI dep))] [] (t, sl, gh S V P A B Q) (fun r h' => r = some (.int (bI (decide (dep ≠ 6)))) ∧ ∃ V' A' : sV, h' = (t, sl, gh S V' P A' B Q) ∧ RX x L o T m (if dep = 6 then badT (TK x L) (TPl x L) i 4 else .ok (i + 1, c)) V' A' ∧ FRM o V A V' A') := by
  obtain ⟨D, rfl⟩ : ∃ D', D = D' + 1 := ⟨D - 1, by omega⟩
  refine WQ.st (fun _ _ kz => pw_iload1 dX12_goesIn_0 kz) ?_
  refine WQ.st (fun _ _ kz => pw_bipush (v := 6) dX12_goesIn_1 (by decide) kz) ?_
  refine WQ.bn (fun _ _ ka kb => pw_icmp_ne (tgt := 11) dX12_goesIn_3 (by decide) ka kb) (fun c3 => ?_) (fun c3 => ?_)
  · rw [eq_i (ix_n (by omega)) li_6] at c3
    have c3 : ¬ dep = 6 := by omega
    refine WQ.st (fun _ _ kz => pw_aload0 dX12_goesIn_11 kz) ?_
    refine WQ.st (fun _ _ kz => pw_geti gX12_136 dX12_goesIn_12 hF.1 kz) ?_
    refine WQ.bn (fun _ _ ka kb => pw_if_ne (tgt := 22) dX12_goesIn_15 (by decide) ka kb) (fun c15 => absurd hN.w0 c15) (fun c15 => ?_)
    refine WQ.st (fun _ _ kz => pw_aload0 dX12_goesIn_18 kz) ?_
    refine wq_o0v wX12_nextToken lX12_145 rfl dX12_goesIn_19 hF.1 (c_ntN hF hN (by omega)) rfl (Nat.le_of_ble_eq_true rfl) (Nat.le_of_ble_eq_true rfl) (fun h19 z19 => ?_)
    obtain ⟨V1, A1, rfl, rfl, n1, f1⟩ := z19
    refine WQ.st (fun _ _ kz => pw_aload0 dX12_goesIn_22 kz) ?_
    refine WQ.st (fun _ _ kz => pw_geti gX12_136 dX12_goesIn_23 hF.1 kz) ?_
    refine WQ.bn (fun _ _ ka kb => pw_if_ne (tgt := 33) dX12_goesIn_26 (by decide) ka kb) (fun c26 => absurd n1.w0 c26) (fun c26 => ?_)
    refine WQ.st (fun _ _ kz => pw_iconst (v := 1) dX12_goesIn_29 (by decide) kz) ?_
    refine WQ.st (fun _ _ kz => pw_goto (tgt := 34) dX12_goesIn_30 (by decide) kz) ?_
    refine ⟨_, _, pw_iret dX12_goesIn_34 rfl rfl rfl rfl, ?_⟩
    exact ⟨rI (bI_t (decide_eq_true c3)), V1, A, rfl, by rw [if_neg c3]; exact ⟨n1, hB⟩, f1⟩
  · rw [eq_i (ix_n (by omega)) li_6] at c3
    have c3 : dep = 6 := by omega
    refine WQ.st (fun _ _ kz => pw_aload0 dX12_goesIn_6 kz) ?_
    refine WQ.st (fun _ _ kz => pw_iconst (v := 4) dX12_goesIn_7 (by decide) kz) ?_
    refine wq_o1v wX12_fails lX12_148 rfl dX12_goesIn_8 hF.1 (c_failsN (T := T) (m := m) hF hN (by decide)) rfl (Nat.le_of_ble_eq_true rfl) (Nat.le_of_ble_eq_true rfl) (fun h8 z8 => ?_)
    obtain ⟨V1, A1, rfl, z1, f1, f10⟩ := z8
    have hw : ¬ V1 o 11 = 0 := RX_bad z1
    refine WQ.st (fun _ _ kz => pw_aload0 dX12_goesIn_11 kz) ?_
    refine WQ.st (fun _ _ kz => pw_geti gX12_136 dX12_goesIn_12 hF.1 kz) ?_
    refine WQ.bn (fun _ _ ka kb => pw_if_ne (tgt := 22) dX12_goesIn_15 (by decide) ka kb) (fun c15 => ?_) (fun c15 => absurd c15 hw)
    refine WQ.st (fun _ _ kz => pw_aload0 dX12_goesIn_22 kz) ?_
    refine WQ.st (fun _ _ kz => pw_geti gX12_136 dX12_goesIn_23 hF.1 kz) ?_
    refine WQ.bn (fun _ _ ka kb => pw_if_ne (tgt := 33) dX12_goesIn_26 (by decide) ka kb) (fun c26 => ?_) (fun c26 => absurd c26 hw)
    refine WQ.st (fun _ _ kz => pw_iconst (v := 0) dX12_goesIn_33 (by decide) kz) ?_
    refine ⟨_, _, pw_iret dX12_goesIn_34 rfl rfl rfl rfl, ?_⟩
    exact ⟨rI (bI_z (decide_eq_false (fun q => q c3))), V1, A1, rfl, by rw [if_pos c3]; exact z1, f1⟩
