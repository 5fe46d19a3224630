set_option maxRecDepth 20000 in
theorem c_readLine {G : gT} {S : sS} {V : sV} {P : sP} {A : sV} {B : sB} {Q : sP} {t sl o : Nat} (hF : MF S P o) {x : Nat → Int32} {L T : Nat} (hT : TK x L T = 24) {i : Nat} {c : List Int32} {F : Nat → Int32} (hN : RNF x L o i c F V A) (hB : RB T T i c) {D : Nat} {q : Nat} (hq4 : q ≤ 4) (hq : F 1 = nI q) (hz : ∀ k, q ≤ k → k ≤ 4 → F (10 + k) = 0) {p : Nat} (hp5 : p ≤ 5) (hp : F 2 = nI p) (hD : 36 ≤ D) : WQ G D mX12_readLine 0 [some (.ref o)] [] (t, sl, gh S V P A B Q) (RZL x L o T S P B Q t sl (lnF (TK x L) (TV x L) (TPl x L) T i F c) V A) := by
  obtain ⟨D, rfl⟩ : ∃ D', D = D' + 1 := ⟨D - 1, by omega⟩
  unfold lnF
  refine WQ.st (fun _ _ kz => pw_aload0 dX12_readLine_0 kz) ?_
  refine WQ.st (fun _ _ kz => pw_geti gX12_136 dX12_readLine_1 hF.1 kz) ?_
  refine WQ.br (fun _ _ ka kb => pw_if_eq (tgt := 8) dX12_readLine_4 (by decide) ka kb) (fun c4 => ?_) (fun c4 => absurd hN.1.w0 c4)
  refine WQ.st (fun _ _ kz => pw_aload0 dX12_readLine_8 kz) ?_
  refine WQ.st (fun _ _ kz => pw_iconst (v := 1) dX12_readLine_9 (by decide) kz) ?_
  refine wq_o1i wX12_is lX12_142 rfl dX12_readLine_10 hF.1 (c_isN hF hN.1 (k := 1) rfl) rfl (Nat.le_of_ble_eq_true rfl) (Nat.le_of_ble_eq_true rfl) (fun h10 z10 => ?_)
  subst z10
  refine WQ.br (fun _ _ ka kb => pw_if_eq (tgt := 23) dX12_readLine_13 (by decide) ka kb) (fun c13 => ?_) (fun c13 => ?_)
  · rw [bI_0] at c13
    have c13 := of_decide_eq_false c13
    rw [if_neg c13]
    refine WQ.st (fun _ _ kz => pw_aload0 dX12_readLine_23 kz) ?_
    refine WQ.st (fun _ _ kz => pw_iconst (v := 4) dX12_readLine_24 (by decide) kz) ?_
    refine wq_o1i wX12_is lX12_142 rfl dX12_readLine_25 hF.1 (c_isN hF hN.1 (k := 4) rfl) rfl (Nat.le_of_ble_eq_true rfl) (Nat.le_of_ble_eq_true rfl) (fun h25 z25 => ?_)
    subst z25
    refine WQ.br (fun _ _ ka kb => pw_if_eq (tgt := 38) dX12_readLine_28 (by decide) ka kb) (fun c28 => ?_) (fun c28 => ?_)
    · rw [bI_0] at c28
      have c28 := of_decide_eq_false c28
      rw [if_neg c28]
      refine WQ.st (fun _ _ kz => pw_aload0 dX12_readLine_38 kz) ?_
      refine WQ.st (fun _ _ kz => pw_bipush (v := 8) dX12_readLine_39 (by decide) kz) ?_
      refine wq_o1i wX12_is lX12_142 rfl dX12_readLine_41 hF.1 (c_isN hF hN.1 (k := 8) rfl) rfl (Nat.le_of_ble_eq_true rfl) (Nat.le_of_ble_eq_true rfl) (fun h41 z41 => ?_)
      subst z41
      refine WQ.bn (fun _ _ ka kb => pw_if_ne (tgt := 56) dX12_readLine_44 (by decide) ka kb) (fun c44 => ?_) (fun c44 => ?_)
      · rw [bI_n] at c44
        have c44 := of_decide_eq_true c44
        rw [if_pos c44]
        refine WQ.st (fun _ _ kz => pw_aload0 dX12_readLine_56 kz) ?_
        refine WQ.st (fun _ _ kz => pw_aload0 dX12_readLine_57 kz) ?_
        refine WQ.st (fun _ _ kz => pw_geti gX12_118 dX12_readLine_58 hF.1 kz) ?_
        rw [hN.1.kd, c44]
        refine WQ.st (fun _ _ kz => pw_bipush (v := 8) dX12_readLine_61 (by decide) kz) ?_
        refine WQ.st (fun _ _ kz => pw_isub dX12_readLine_63 kz) ?_
        rw [show nI 8 - 8 = (0 : Int32) from rfl]
        refine wq_o1v wX12_readLaw lX12_203 rfl dX12_readLine_64 hF.1 (c_readLaw0 hF hT hN hB (by omega) (by omega)) rfl (Nat.le_of_ble_eq_true rfl) (Nat.le_of_ble_eq_true rfl) (fun h64 z64 => ?_)
        obtain ⟨V9, A9, rfl, z9, f9⟩ := z64
        refine WQ.st (fun _ _ kz => pw_goto (tgt := 100) dX12_readLine_67 (by decide) kz) ?_
        refine ⟨_, _, pw_vret dX12_readLine_100 rfl rfl rfl, ?_⟩
        exact ⟨rfl, _, _, rfl, z9, f9⟩
      · rw [bI_0] at c44
        have c44 := of_decide_eq_false c44
        rw [if_neg c44]
        refine WQ.st (fun _ _ kz => pw_aload0 dX12_readLine_47 kz) ?_
        refine WQ.st (fun _ _ kz => pw_bipush (v := 9) dX12_readLine_48 (by decide) kz) ?_
        refine wq_o1i wX12_is lX12_142 rfl dX12_readLine_50 hF.1 (c_isN hF hN.1 (k := 9) rfl) rfl (Nat.le_of_ble_eq_true rfl) (Nat.le_of_ble_eq_true rfl) (fun h50 z50 => ?_)
        subst z50
        refine WQ.br (fun _ _ ka kb => pw_if_eq (tgt := 70) dX12_readLine_53 (by decide) ka kb) (fun c53 => ?_) (fun c53 => ?_)
        · rw [bI_0] at c53
          have c53 := of_decide_eq_false c53
          rw [if_neg c53]
          refine WQ.st (fun _ _ kz => pw_aload0 dX12_readLine_70 kz) ?_
          refine WQ.st (fun _ _ kz => pw_bipush (v := 10) dX12_readLine_71 (by decide) kz) ?_
          refine wq_o1i wX12_eats lX12_172 rfl dX12_readLine_73 hF.1 (c_eatsN hF hN.1 (k := 10) rfl (by omega)) rfl (Nat.le_of_ble_eq_true rfl) (Nat.le_of_ble_eq_true rfl) (fun h73 z73 => ?_)
          obtain ⟨V1, A1, rfl, e1, e2, f1⟩ := z73
          refine WQ.br (fun _ _ ka kb => pw_if_eq (tgt := 95) dX12_readLine_76 (by decide) ka kb) (fun c76 => ?_) (fun c76 => ?_)
          · rw [bI_0] at c76
            have c76 := of_decide_eq_false c76
            obtain ⟨rfl, rfl⟩ := e2 c76
            rw [if_neg c76]
            refine WQ.st (fun _ _ kz => pw_aload0 dX12_readLine_95 kz) ?_
            refine WQ.st (fun _ _ kz => pw_iconst (v := 2) dX12_readLine_96 (by decide) kz) ?_
            refine wq_o1v wX12_fails lX12_148 rfl dX12_readLine_97 hF.1 (c_failsN (T := T) (m := T) hF hN.1 (by decide)) rfl (Nat.le_of_ble_eq_true rfl) (Nat.le_of_ble_eq_true rfl) (fun h97 z97 => ?_)
            obtain ⟨V3, A3, rfl, z3, f3, _⟩ := z97
            refine ⟨_, _, pw_vret dX12_readLine_100 rfl rfl rfl, ?_⟩
            exact ⟨rfl, _, _, rfl, z3, f3.l⟩
          · rw [bI_n] at c76
            have c76 := of_decide_eq_true c76
            have n1 := e1 c76
            have hB1 := hB.nx hT c76 (by omega)
            rw [if_pos c76]
            refine WQ.st (fun _ _ kz => pw_aload0 dX12_readLine_79 kz) ?_
            refine WQ.st (fun _ _ kz => pw_getr gX12_24 dX12_readLine_80 hF.1 (mf_p4 hF) kz) ?_
            refine WQ.st (fun _ _ kz => pw_iconst (v := 3) dX12_readLine_83 (by decide) kz) ?_
            refine WQ.st (fun _ _ kz => pw_aload0 dX12_readLine_84 kz) ?_
            refine WQ.st (fun _ _ kz => pw_iconst (v := 0) dX12_readLine_85 (by decide) kz) ?_
            refine WQ.st (fun _ _ kz => pw_bipush (v := 10) dX12_readLine_86 (by decide) kz) ?_
            rw [show (10 : Int32) = nI 10 from rfl]
            obtain ⟨_, _, k0, v, rfl, V2, A2, rfl, z2, hv2, f2⟩ := c_takesN (G := G) (D := D) (B := B) (Q := Q) (t := t) (sl := sl) (T := T) (m := T) (hi := 10) hF n1 (by omega) (fun q => hB1.nx hT rfl q) (by omega)
            refine WQ.st (fun _ _ kz => pw_o2i wX12_takes lX12_190 rfl dX12_readLine_88 hF.1 (k0) rfl (Nat.le_of_ble_eq_true rfl) (Nat.le_of_ble_eq_true rfl) kz) ?_
            refine WQ.st (fun _ _ kz => pw_ast (j := (3 + 0)) dX12_readLine_91 (mf_s4 hF) rfl (by omega)  kz) ?_
            refine WQ.st (fun _ _ kz => pw_goto (tgt := 100) dX12_readLine_92 (by decide) kz) ?_
            refine ⟨_, _, pw_vret dX12_readLine_100 rfl rfl rfl, ?_⟩
            exact ⟨rfl, _, _, rfl, (fl_end (base := 3) (p := 0) hN n1 f1 f2 id z2 hv2 (by omega)).l, (f1.l.tr f2.l).tr FRL.a⟩
        · rw [bI_n] at c53
          have c53 := of_decide_eq_true c53
          rw [if_pos c53]
          refine WQ.st (fun _ _ kz => pw_aload0 dX12_readLine_56 kz) ?_
          refine WQ.st (fun _ _ kz => pw_aload0 dX12_readLine_57 kz) ?_
          refine WQ.st (fun _ _ kz => pw_geti gX12_118 dX12_readLine_58 hF.1 kz) ?_
          rw [hN.1.kd, c53]
          refine WQ.st (fun _ _ kz => pw_bipush (v := 8) dX12_readLine_61 (by decide) kz) ?_
          refine WQ.st (fun _ _ kz => pw_isub dX12_readLine_63 kz) ?_
          rw [show nI 9 - 8 = (1 : Int32) from rfl]
          refine wq_o1v wX12_readLaw lX12_203 rfl dX12_readLine_64 hF.1 (c_readLaw1 hF hT hN hB (by omega) (by omega)) rfl (Nat.le_of_ble_eq_true rfl) (Nat.le_of_ble_eq_true rfl) (fun h64 z64 => ?_)
          obtain ⟨V9, A9, rfl, z9, f9⟩ := z64
          refine WQ.st (fun _ _ kz => pw_goto (tgt := 100) dX12_readLine_67 (by decide) kz) ?_
          refine ⟨_, _, pw_vret dX12_readLine_100 rfl rfl rfl, ?_⟩
          exact ⟨rfl, _, _, rfl, z9, f9⟩
    · rw [bI_n] at c28
      have c28 := of_decide_eq_true c28
      rw [if_pos c28]
      refine WQ.st (fun _ _ kz => pw_aload0 dX12_readLine_31 kz) ?_
      refine wq_o0v wX12_readPlayer lX12_200 rfl dX12_readLine_32 hF.1 (c_readPlayer hF hT hN hB c28 hp5 hp (by omega)) rfl (Nat.le_of_ble_eq_true rfl) (Nat.le_of_ble_eq_true rfl) (fun h32 z32 => ?_)
      obtain ⟨V9, A9, rfl, z9, f9⟩ := z32
      refine WQ.st (fun _ _ kz => pw_goto (tgt := 100) dX12_readLine_35 (by decide) kz) ?_
      refine ⟨_, _, pw_vret dX12_readLine_100 rfl rfl rfl, ?_⟩
      exact ⟨rfl, _, _, rfl, z9, f9⟩
  · rw [bI_n] at c13
    have c13 := of_decide_eq_true c13
    rw [if_pos c13]
    refine WQ.st (fun _ _ kz => pw_aload0 dX12_readLine_16 kz) ?_
    refine wq_o0v wX12_readPiece lX12_197 rfl dX12_readLine_17 hF.1 (c_readPiece hF hT hN hB c13 hq4 hq (hz q (by omega) (by omega)) (by omega)) rfl (Nat.le_of_ble_eq_true rfl) (Nat.le_of_ble_eq_true rfl) (fun h17 z17 => ?_)
    obtain ⟨V9, A9, rfl, z9, f9⟩ := z17
    refine WQ.st (fun _ _ kz => pw_goto (tgt := 100) dX12_readLine_20 (by decide) kz) ?_
    refine ⟨_, _, pw_vret dX12_readLine_100 rfl rfl rfl, ?_⟩
    exact ⟨rfl, _, _, rfl, z9, f9⟩
set_option maxRecDepth 20000 in
theorem c_endsN {G : gT} {S : sS} {V : sV} {P : sP} {A : sV} {B : sB} {Q : sP} {t sl o : Nat} (hF : MF S P o) {x : Nat → Int32} {L T : Nat} (hT : TK x L T = 24) {i : Nat} {c : List Int32} {F : Nat → Int32} (hN : RNF x L o i c F V A) (hB : RB T T i c) {D : Nat} (hD : 8 ≤ D) : WQ G D mX12_ends 0 [some (.ref o)] [] (t, sl, gh S V P A B Q) (RZL x L o T S P B Q t sl (enF (TK x L) (TPl x L) i F c) V A) := by
  obtain ⟨D, rfl⟩ : ∃ D', D = D' + 1 := ⟨D - 1, by omega⟩
  unfold enF
  refine WQ.st (fun _ _ kz => pw_aload0 dX12_ends_0 kz) ?_
  refine WQ.st (fun _ _ kz => pw_bipush (v := 30) dX12_ends_1 (by decide) kz) ?_
  refine wq_o1i wX12_eats lX12_172 rfl dX12_ends_3 hF.1 (c_eatsN hF hN.1 (k := 30) rfl (by omega)) rfl (Nat.le_of_ble_eq_true rfl) (Nat.le_of_ble_eq_true rfl) (fun h3 z3 => ?_)
  obtain ⟨V1, A1, rfl, e1, e2, f1⟩ := z3
  refine WQ.bn (fun _ _ ka kb => pw_if_ne (tgt := 14) dX12_ends_6 (by decide) ka kb) (fun c6 => ?_) (fun c6 => ?_)
  · rw [bI_n] at c6
    have c6 := of_decide_eq_true c6
    have n1 := e1 c6
    have hB1 := hB.nx hT c6 (by omega)
    have m1 := hN.m n1 f1
    rw [if_pos c6]
    refine WQ.st (fun _ _ kz => pw_aload0 dX12_ends_14 kz) ?_
    refine WQ.st (fun _ _ kz => pw_getr gX12_24 dX12_ends_15 hF.1 (mf_p4 hF) kz) ?_
    refine WQ.st (fun _ _ kz => pw_iconst (v := 0) dX12_ends_18 (by decide) kz) ?_
    refine WQ.st (fun _ _ kz => pw_dup2_11 dX12_ends_19 rfl rfl kz) ?_
    refine WQ.st (fun _ _ kz => pw_ald (j := 0) dX12_ends_20 (mf_s4 hF) rfl (by omega) kz) ?_
    rw [m1.2 0 (by omega)]
    refine WQ.st (fun _ _ kz => pw_iconst (v := 1) dX12_ends_21 (by decide) kz) ?_
    refine WQ.st (fun _ _ kz => pw_iadd dX12_ends_22 kz) ?_
    refine WQ.st (fun _ _ kz => pw_ast (j := 0) dX12_ends_23 (mf_s4 hF) rfl (by omega)  kz) ?_
    refine ⟨_, _, pw_vret dX12_ends_24 rfl rfl rfl, ?_⟩
    exact ⟨rfl, _, _, rfl, ⟨m1.put (by omega) _, hB1⟩, f1.l.tr FRL.a⟩
  · rw [bI_0] at c6
    have c6 := of_decide_eq_false c6
    obtain ⟨rfl, rfl⟩ := e2 c6
    rw [if_neg c6]
    refine WQ.st (fun _ _ kz => pw_aload0 dX12_ends_9 kz) ?_
    refine WQ.st (fun _ _ kz => pw_iconst (v := 2) dX12_ends_10 (by decide) kz) ?_
    refine wq_o1v wX12_fails lX12_148 rfl dX12_ends_11 hF.1 (c_failsN (T := T) (m := T) hF hN.1 (by decide)) rfl (Nat.le_of_ble_eq_true rfl) (Nat.le_of_ble_eq_true rfl) (fun h11 z11 => ?_)
    obtain ⟨V3, A3, rfl, z3, f3, _⟩ := z11
    refine WQ.st (fun _ _ kz => pw_aload0 dX12_ends_14 kz) ?_
    refine WQ.st (fun _ _ kz => pw_getr gX12_24 dX12_ends_15 hF.1 (mf_p4 hF) kz) ?_
    refine WQ.st (fun _ _ kz => pw_iconst (v := 0) dX12_ends_18 (by decide) kz) ?_
    refine WQ.st (fun _ _ kz => pw_dup2_11 dX12_ends_19 rfl rfl kz) ?_
    refine WQ.st (fun _ _ kz => pw_ald (j := 0) dX12_ends_20 (mf_s4 hF) rfl (by omega) kz) ?_
    refine WQ.st (fun _ _ kz => pw_iconst (v := 1) dX12_ends_21 (by decide) kz) ?_
    refine WQ.st (fun _ _ kz => pw_iadd dX12_ends_22 kz) ?_
    refine WQ.st (fun _ _ kz => pw_ast (j := 0) dX12_ends_23 (mf_s4 hF) rfl (by omega)  kz) ?_
    refine ⟨_, _, pw_vret dX12_ends_24 rfl rfl rfl, ?_⟩
    exact ⟨rfl, _, _, rfl, z3, f3.l.tr FRL.a⟩
set_option maxRecDepth 20000 in
theorem c_endsW {G : gT} {S : sS} {V : sV} {P : sP} {A : sV} {B : sB} {Q : sP} {t sl o : Nat} (hF : MF S P o) (hw : ¬ V o 11 = 0) {D : Nat} (hD : 8 ≤ D) : WQ G D mX12_ends 0 [some (.ref o)] [] (t, sl, gh S V P A B Q) (fun r h' => r = none ∧ ∃ A' : sV, h' = (t, sl, gh S V P A' B Q) ∧ FRL o V A V A') := by
  obtain ⟨D, rfl⟩ : ∃ D', D = D' + 1 := ⟨D - 1, by omega⟩
  refine WQ.st (fun _ _ kz => pw_aload0 dX12_ends_0 kz) ?_
  refine WQ.st (fun _ _ kz => pw_bipush (v := 30) dX12_ends_1 (by decide) kz) ?_
  refine wq_o1i wX12_eats lX12_172 rfl dX12_ends_3 hF.1 ((c_eatsW (d := 0) hF hw _).mn (by omega)) rfl (Nat.le_of_ble_eq_true rfl) (Nat.le_of_ble_eq_true rfl) (fun h3 z3 => ?_)
  subst z3
  refine WQ.bn (fun _ _ ka kb => pw_if_ne (tgt := 14) dX12_ends_6 (by decide) ka kb) (fun c6 => absurd (by decide) c6) (fun c6 => ?_)
  refine WQ.st (fun _ _ kz => pw_aload0 dX12_ends_9 kz) ?_
  refine WQ.st (fun _ _ kz => pw_iconst (v := 2) dX12_ends_10 (by decide) kz) ?_
  refine wq_o1v wX12_fails lX12_148 rfl dX12_ends_11 hF.1 (c_failsW hF hw _) rfl (Nat.le_of_ble_eq_true rfl) (Nat.le_of_ble_eq_true rfl) (fun h11 z11 => ?_)
  subst z11
  refine WQ.st (fun _ _ kz => pw_aload0 dX12_ends_14 kz) ?_
  refine WQ.st (fun _ _ kz => pw_getr gX12_24 dX12_ends_15 hF.1 (mf_p4 hF) kz) ?_
  refine WQ.st (fun _ _ kz => pw_iconst (v := 0) dX12_ends_18 (by decide) kz) ?_
  refine WQ.st (fun _ _ kz => pw_dup2_11 dX12_ends_19 rfl rfl kz) ?_
  refine WQ.st (fun _ _ kz => pw_ald (j := 0) dX12_ends_20 (mf_s4 hF) rfl (by omega) kz) ?_
  refine WQ.st (fun _ _ kz => pw_iconst (v := 1) dX12_ends_21 (by decide) kz) ?_
  refine WQ.st (fun _ _ kz => pw_iadd dX12_ends_22 kz) ?_
  refine WQ.st (fun _ _ kz => pw_ast (j := 0) dX12_ends_23 (mf_s4 hF) rfl (by omega)  kz) ?_
  refine ⟨_, _, pw_vret dX12_ends_24 rfl rfl rfl, ?_⟩
  exact ⟨rfl, _, rfl, FRL.a⟩
