set_option maxRecDepth 20000 in
theorem c_takesN {G : gT} {S : sS} {V : sV} {P : sP} {A : sV} {B : sB} {Q : sP} {t sl o : Nat} (hF : MF S P o) {x : Nat → Int32} {L T m : Nat} {i hi : Nat} {c : List Int32} (hN : RN x L o i c V A) (hhi : hi ≤ 1000) (hB : TK x L i ≠ 24 → RB T m (i + 1) c) {D : Nat} (hD : 7 ≤ D) : WQ G D mX12_takes 0 [some (.ref o), some (.int 0), some (.int (nI hi)), none] [] (t, sl, gh S V P A B Q) (fun r h' => ∃ v : Int32, r = some (.int v) ∧ ∃ V' A' : sV, h' = (t, sl, gh S V' P A' B Q) ∧ RX x L o T m (tkN (TK x L) (TV x L) (TPl x L) hi i c) V' A' ∧ (TK x L i = 23 → v = TV x L i) ∧ FRM o V A V' A') := by
  obtain ⟨D, rfl⟩ : ∃ D', D = D' + 1 := ⟨D - 1, by omega⟩
  refine WQ.st (fun _ _ kz => pw_aload0 dX12_takes_0 kz) ?_
  refine WQ.st (fun _ _ kz => pw_bipush (v := 23) dX12_takes_1 (by decide) kz) ?_
  refine wq_o1i wX12_is lX12_142 rfl dX12_takes_3 hF.1 (c_isN hF hN (k := 23) rfl) rfl (Nat.le_of_ble_eq_true rfl) (Nat.le_of_ble_eq_true rfl) (fun h3 z3 => ?_)
  subst z3
  refine WQ.bn (fun _ _ ka kb => pw_if_ne (tgt := 17) dX12_takes_6 (by decide) ka kb) (fun c6 => ?_) (fun c6 => ?_)
  · rw [bI_n] at c6
    have c6 := of_decide_eq_true c6
    have hb := TV_b c6
    refine WQ.st (fun _ _ kz => pw_aload0 dX12_takes_17 kz) ?_
    refine WQ.st (fun _ _ kz => pw_geti gX12_131 dX12_takes_18 hF.1 kz) ?_
    rw [hN.nu c6]
    refine WQ.st (fun _ _ kz => pw_i2l dX12_takes_21 kz) ?_
    refine WQ.st (fun _ _ kz => pw_iload1 dX12_takes_22 kz) ?_
    refine WQ.st (fun _ _ kz => pw_i2l dX12_takes_23 kz) ?_
    refine WQ.st (fun _ _ kz => pw_iload2 dX12_takes_24 kz) ?_
    refine WQ.st (fun _ _ kz => pw_i2l dX12_takes_25 kz) ?_
    refine WQ.st (fun _ _ kz => pw_s3i wX12_within lX12_152 dX12_takes_26 (c_withinI _ _ _) rfl (Nat.le_of_ble_eq_true rfl) (Nat.le_of_ble_eq_true rfl) kz) ?_
    refine WQ.bn (fun _ _ ka kb => pw_if_ne (tgt := 37) dX12_takes_29 (by decide) ka kb) (fun c29 => ?_) (fun c29 => ?_)
    · rw [bI_n] at c29
      have c29 := of_decide_eq_true c29
      rw [il_t, il_t, il_t, ix_n (by omega)] at c29
      refine WQ.st (fun _ _ kz => pw_aload0 dX12_takes_37 kz) ?_
      refine WQ.st (fun _ _ kz => pw_geti gX12_131 dX12_takes_38 hF.1 kz) ?_
      rw [hN.nu c6]
      refine WQ.st (fun _ _ kz => pw_istore3 dX12_takes_41 (by decide) (k := kz)) ?_
      refine WQ.st (fun _ _ kz => pw_aload0 dX12_takes_42 kz) ?_
      refine WQ.st (fun _ _ kz => pw_geti gX12_136 dX12_takes_43 hF.1 kz) ?_
      refine WQ.bn (fun _ _ ka kb => pw_if_ne (tgt := 53) dX12_takes_46 (by decide) ka kb) (fun c46 => absurd hN.w0 c46) (fun c46 => ?_)
      refine WQ.st (fun _ _ kz => pw_aload0 dX12_takes_49 kz) ?_
      refine wq_o0v wX12_nextToken lX12_145 rfl dX12_takes_50 hF.1 (c_ntN hF hN (by omega)) rfl (Nat.le_of_ble_eq_true rfl) (Nat.le_of_ble_eq_true rfl) (fun h50 z50 => ?_)
      obtain ⟨V1, A1, rfl, rfl, n1, f1⟩ := z50
      refine WQ.st (fun _ _ kz => pw_iload3 dX12_takes_53 kz) ?_
      refine ⟨_, _, pw_iret dX12_takes_54 rfl rfl rfl rfl, ?_⟩
      exact ⟨_, rfl, V1, A, rfl, by unfold tkN; rw [if_pos c6, if_pos (by have := c29.2; omega)]; exact ⟨n1, (hB (by rw [c6]; omega))⟩, fun _ => rfl, f1⟩
    · rw [bI_0] at c29
      have c29 := of_decide_eq_false c29
      rw [il_t, il_t, il_t, ix_n (by omega)] at c29
      refine WQ.st (fun _ _ kz => pw_aload0 dX12_takes_32 kz) ?_
      refine WQ.st (fun _ _ kz => pw_iconst (v := 3) dX12_takes_33 (by decide) kz) ?_
      refine wq_o1v wX12_fails lX12_148 rfl dX12_takes_34 hF.1 (c_failsN (T := T) (m := m) hF hN (by decide)) rfl (Nat.le_of_ble_eq_true rfl) (Nat.le_of_ble_eq_true rfl) (fun h34 z34 => ?_)
      obtain ⟨V1, A1, rfl, z1, f1, f10⟩ := z34
      have hw : ¬ V1 o 11 = 0 := RX_bad z1
      refine WQ.st (fun _ _ kz => pw_aload0 dX12_takes_37 kz) ?_
      refine WQ.st (fun _ _ kz => pw_geti gX12_131 dX12_takes_38 hF.1 kz) ?_
      rw [show V1 o 10 = TV x L i from by rw [f10]; exact hN.nu c6]
      refine WQ.st (fun _ _ kz => pw_istore3 dX12_takes_41 (by decide) (k := kz)) ?_
      refine WQ.st (fun _ _ kz => pw_aload0 dX12_takes_42 kz) ?_
      refine WQ.st (fun _ _ kz => pw_geti gX12_136 dX12_takes_43 hF.1 kz) ?_
      refine WQ.bn (fun _ _ ka kb => pw_if_ne (tgt := 53) dX12_takes_46 (by decide) ka kb) (fun c46 => ?_) (fun c46 => absurd c46 hw)
      refine WQ.st (fun _ _ kz => pw_iload3 dX12_takes_53 kz) ?_
      refine ⟨_, _, pw_iret dX12_takes_54 rfl rfl rfl rfl, ?_⟩
      refine ⟨_, rfl, V1, A1, rfl, ?_, fun _ => rfl, f1⟩
      unfold tkN
      rw [if_pos c6, if_neg (fun q => c29 ⟨by have e : (0 : Int32).toInt = 0 := rfl; omega, by omega⟩)]
      unfold badT at z1
      rw [if_neg (by omega)] at z1
      exact z1
  · rw [bI_0] at c6
    have c6 := of_decide_eq_false c6
    refine WQ.st (fun _ _ kz => pw_aload0 dX12_takes_9 kz) ?_
    refine WQ.st (fun _ _ kz => pw_iconst (v := 2) dX12_takes_10 (by decide) kz) ?_
    refine wq_o1v wX12_fails lX12_148 rfl dX12_takes_11 hF.1 (c_failsN (T := T) (m := m) hF hN (by decide)) rfl (Nat.le_of_ble_eq_true rfl) (Nat.le_of_ble_eq_true rfl) (fun h11 z11 => ?_)
    obtain ⟨V1, A1, rfl, z1, f1, f10⟩ := z11
    have hw : ¬ V1 o 11 = 0 := RX_bad z1
    refine WQ.st (fun _ _ kz => pw_goto (tgt := 37) dX12_takes_14 (by decide) kz) ?_
    refine WQ.st (fun _ _ kz => pw_aload0 dX12_takes_37 kz) ?_
    refine WQ.st (fun _ _ kz => pw_geti gX12_131 dX12_takes_38 hF.1 kz) ?_
    refine WQ.st (fun _ _ kz => pw_istore3 dX12_takes_41 (by decide) (k := kz)) ?_
    refine WQ.st (fun _ _ kz => pw_aload0 dX12_takes_42 kz) ?_
    refine WQ.st (fun _ _ kz => pw_geti gX12_136 dX12_takes_43 hF.1 kz) ?_
    refine WQ.bn (fun _ _ ka kb => pw_if_ne (tgt := 53) dX12_takes_46 (by decide) ka kb) (fun c46 => ?_) (fun c46 => absurd c46 hw)
    refine WQ.st (fun _ _ kz => pw_iload3 dX12_takes_53 kz) ?_
    refine ⟨_, _, pw_iret dX12_takes_54 rfl rfl rfl rfl, ?_⟩
    exact ⟨_, rfl, V1, A1, rfl, by unfold tkN; rw [if_neg c6]; exact z1, fun q => absurd q c6, f1⟩
