set_option maxRecDepth 20000 in
theorem c_readLaw0 {G : gT} {S : sS} {V : sV} {P : sP} {A : sV} {B : sB} {Q : sP} {t sl o : Nat} (hF : MF S P o) {x : Nat → Int32} {L T : Nat} (hT : TK x L T = 24) {i : Nat} {c : List Int32} {F : Nat → Int32} (hN : RNF x L o i c F V A) (hB : RB T T i c) {D : Nat} (hk : TK x L i ≠ 24) (hD : 34 ≤ D) : WQ G D mX12_readLaw 0 [some (.ref o), some (.int 0), none] [] (t, sl, gh S V P A B Q) (RZL x L o T S P B Q t sl (lnL (TK x L) (TV x L) (TPl x L) T 0 2 i F c) V A) := by
  obtain ⟨D, rfl⟩ : ∃ D', D = D' + 1 := ⟨D - 1, by omega⟩
  unfold lnL
  refine WQ.st (fun _ _ kz => pw_aload0 dX12_readLaw_0 kz) ?_
  refine wq_o0v wX12_nextToken lX12_145 rfl dX12_readLaw_1 hF.1 (c_ntN hF hN.1 (by omega)) rfl (Nat.le_of_ble_eq_true rfl) (Nat.le_of_ble_eq_true rfl) (fun h1 z1 => ?_)
  obtain ⟨V1, A1, rfl, rfl, n1, f1⟩ := z1
  have hB1 := hB.nx hT (k := TK x L i) rfl hk
  refine WQ.st (fun _ _ kz => pw_aload0 dX12_readLaw_4 kz) ?_
  refine WQ.st (fun _ _ kz => pw_bipush (v := 31) dX12_readLaw_5 (by decide) kz) ?_
  refine wq_o1i wX12_eats lX12_172 rfl dX12_readLaw_7 hF.1 (c_eatsN hF n1 (k := 31) rfl (by omega)) rfl (Nat.le_of_ble_eq_true rfl) (Nat.le_of_ble_eq_true rfl) (fun h7 z7 => ?_)
  obtain ⟨V2, A2, rfl, e1, e2, f2⟩ := z7
  refine WQ.bn (fun _ _ ka kb => pw_if_ne (tgt := 18) dX12_readLaw_10 (by decide) ka kb) (fun c10 => ?_) (fun c10 => ?_)
  · rw [bI_n] at c10
    have c10 := of_decide_eq_true c10
    have n2 := e1 c10
    have hB2 := hB1.nx hT c10 (by omega)
    rw [if_pos c10]
    refine WQ.st (fun _ _ kz => pw_aload0 dX12_readLaw_18 kz) ?_
    refine WQ.st (fun _ _ kz => pw_getr gX12_24 dX12_readLaw_19 hF.1 (mf_p4 hF) kz) ?_
    refine WQ.st (fun _ _ kz => pw_sipush (v := 263) dX12_readLaw_22 (by decide) kz) ?_
    refine WQ.st (fun _ _ kz => pw_ald (j := 263) dX12_readLaw_25 (mf_s4 hF) rfl (by omega) kz) ?_
    rw [n2.le]
    refine WQ.st (fun _ _ kz => pw_istore2 dX12_readLaw_26 (by decide) (k := kz)) ?_
    refine WQ.st (fun _ _ kz => pw_iload1 dX12_readLaw_27 kz) ?_
    refine WQ.bn (fun _ _ ka kb => pw_if_ne (tgt := 39) dX12_readLaw_28 (by decide) ka kb) (fun c28 => absurd rfl c28) (fun c28 => ?_)
    refine WQ.st (fun _ _ kz => pw_aload0 dX12_readLaw_31 kz) ?_
    refine WQ.st (fun _ _ kz => pw_iconst (v := 0) dX12_readLaw_32 (by decide) kz) ?_
    refine wq_o1v wX12_readSum lX12_169 rfl dX12_readLaw_33 hF.1 ((g_all hF hT (10 * T + 20)).2.2.2.1 (i + 2) 0 c T V2 A2 D none (by omega) (by have e2 : rkT 2 = 4 := rfl; omega) n2 hB2 (by omega)) rfl (Nat.le_of_ble_eq_true rfl) (Nat.le_of_ble_eq_true rfl) (fun h33 z33 => ?_)
    obtain ⟨V4, A4, rfl, z4, f4⟩ := z33
    refine WQ.st (fun _ _ kz => pw_goto (tgt := 44) dX12_readLaw_36 (by decide) kz) ?_
    generalize hr : ps (TK x L) (TV x L) (TPl x L) (10 * T + 20) 2 (i + 2) 0 c = r at *
    cases r with
    | error e =>
      have hw := RX_err z4
      show WQ _ _ _ _ _ _ _ (RZL x L o T S P B Q t sl (.error e) V A)
      refine WQ.st (fun _ _ kz => pw_aload0 dX12_readLaw_44 kz) ?_
      refine WQ.st (fun _ _ kz => pw_geti gX12_136 dX12_readLaw_45 hF.1 kz) ?_
      refine WQ.br (fun _ _ ka kb => pw_if_eq (tgt := 52) dX12_readLaw_48 (by decide) ka kb) (fun c48 => absurd c48 hw) (fun c48 => ?_)
      refine ⟨_, _, pw_vret dX12_readLaw_51 rfl rfl rfl, ?_⟩
      exact ⟨rfl, _, _, rfl, z4, ((f1.tr f2).tr f4).l⟩
    | ok s =>
      have z4 : RN x L o s.1 s.2 V4 A4 ∧ RB T T s.1 s.2 := z4
      show WQ _ _ _ _ _ _ _ (RZL x L o T S P B Q t sl (.ok (s.1, pm_up (pm_up (pm_up F (4 + 0) 1) (6 + 0) (nI c.length)) (8 + 0) (nI s.2.length - nI c.length), s.2)) V A)
      refine WQ.st (fun _ _ kz => pw_aload0 dX12_readLaw_44 kz) ?_
      refine WQ.st (fun _ _ kz => pw_geti gX12_136 dX12_readLaw_45 hF.1 kz) ?_
      refine WQ.br (fun _ _ ka kb => pw_if_eq (tgt := 52) dX12_readLaw_48 (by decide) ka kb) (fun c48 => ?_) (fun c48 => absurd z4.1.w0 c48)
      refine WQ.st (fun _ _ kz => pw_aload0 dX12_readLaw_52 kz) ?_
      refine WQ.st (fun _ _ kz => pw_getr gX12_24 dX12_readLaw_53 hF.1 (mf_p4 hF) kz) ?_
      refine WQ.st (fun _ _ kz => pw_iconst (v := 4) dX12_readLaw_56 (by decide) kz) ?_
      refine WQ.st (fun _ _ kz => pw_iload1 dX12_readLaw_57 kz) ?_
      refine WQ.st (fun _ _ kz => pw_iadd dX12_readLaw_58 kz) ?_
      refine WQ.st (fun _ _ kz => pw_iconst (v := 1) dX12_readLaw_59 (by decide) kz) ?_
      refine WQ.st (fun _ _ kz => pw_ast (j := (4 + 0)) dX12_readLaw_60 (mf_s4 hF) rfl (by omega)  kz) ?_
      refine WQ.st (fun _ _ kz => pw_aload0 dX12_readLaw_61 kz) ?_
      refine WQ.st (fun _ _ kz => pw_getr gX12_24 dX12_readLaw_62 hF.1 (mf_p4 hF) kz) ?_
      refine WQ.st (fun _ _ kz => pw_bipush (v := 6) dX12_readLaw_65 (by decide) kz) ?_
      refine WQ.st (fun _ _ kz => pw_iload1 dX12_readLaw_67 kz) ?_
      refine WQ.st (fun _ _ kz => pw_iadd dX12_readLaw_68 kz) ?_
      refine WQ.st (fun _ _ kz => pw_iload2 dX12_readLaw_69 kz) ?_
      refine WQ.st (fun _ _ kz => pw_ast (j := (6 + 0)) dX12_readLaw_70 (mf_s4 hF) rfl (by omega)  kz) ?_
      refine WQ.st (fun _ _ kz => pw_aload0 dX12_readLaw_71 kz) ?_
      refine WQ.st (fun _ _ kz => pw_getr gX12_24 dX12_readLaw_72 hF.1 (mf_p4 hF) kz) ?_
      refine WQ.st (fun _ _ kz => pw_bipush (v := 8) dX12_readLaw_75 (by decide) kz) ?_
      refine WQ.st (fun _ _ kz => pw_iload1 dX12_readLaw_77 kz) ?_
      refine WQ.st (fun _ _ kz => pw_iadd dX12_readLaw_78 kz) ?_
      refine WQ.st (fun _ _ kz => pw_aload0 dX12_readLaw_79 kz) ?_
      refine WQ.st (fun _ _ kz => pw_getr gX12_24 dX12_readLaw_80 hF.1 (mf_p4 hF) kz) ?_
      refine WQ.st (fun _ _ kz => pw_sipush (v := 263) dX12_readLaw_83 (by decide) kz) ?_
      refine WQ.st (fun _ _ kz => pw_ald (j := 263) dX12_readLaw_86 (mf_s4 hF) rfl (by omega) kz) ?_
      rw [up2_nk (by omega), up2_nk (by omega), z4.1.le]
      refine WQ.st (fun _ _ kz => pw_iload2 dX12_readLaw_87 kz) ?_
      refine WQ.st (fun _ _ kz => pw_isub dX12_readLaw_88 kz) ?_
      refine WQ.st (fun _ _ kz => pw_ast (j := (8 + 0)) dX12_readLaw_89 (mf_s4 hF) rfl (by omega)  kz) ?_
      refine ⟨_, _, pw_vret dX12_readLaw_90 rfl rfl rfl, ?_⟩
      have n4 : RNF x L o s.1 s.2 F V4 A4 := ⟨z4.1, fun k hk => (f4.2.2.2 k hk).trans ((f2.2.2.2 k hk).trans ((f1.2.2.2 k hk).trans (hN.2 k hk)))⟩
      exact ⟨rfl, _, _, rfl, ⟨((n4.put (by omega) _).put (by omega) _).put (by omega) _, z4.2⟩, ((((f1.tr f2).tr f4).l.tr FRL.a).tr FRL.a).tr FRL.a⟩
  · rw [bI_0] at c10
    have c10 := of_decide_eq_false c10
    obtain ⟨rfl, rfl⟩ := e2 c10
    rw [if_neg c10]
    refine WQ.st (fun _ _ kz => pw_aload0 dX12_readLaw_13 kz) ?_
    refine WQ.st (fun _ _ kz => pw_iconst (v := 2) dX12_readLaw_14 (by decide) kz) ?_
    refine wq_o1v wX12_fails lX12_148 rfl dX12_readLaw_15 hF.1 (c_failsN (T := T) (m := T) hF n1 (by decide)) rfl (Nat.le_of_ble_eq_true rfl) (Nat.le_of_ble_eq_true rfl) (fun h15 z15 => ?_)
    obtain ⟨V3, A3, rfl, z3, f3, _⟩ := z15
    have hw := RX_bad z3
    refine WQ.st (fun _ _ kz => pw_aload0 dX12_readLaw_18 kz) ?_
    refine WQ.st (fun _ _ kz => pw_getr gX12_24 dX12_readLaw_19 hF.1 (mf_p4 hF) kz) ?_
    refine WQ.st (fun _ _ kz => pw_sipush (v := 263) dX12_readLaw_22 (by decide) kz) ?_
    refine WQ.st (fun _ _ kz => pw_ald (j := 263) dX12_readLaw_25 (mf_s4 hF) rfl (by omega) kz) ?_
    refine WQ.st (fun _ _ kz => pw_istore2 dX12_readLaw_26 (by decide) (k := kz)) ?_
    refine WQ.st (fun _ _ kz => pw_iload1 dX12_readLaw_27 kz) ?_
    refine WQ.bn (fun _ _ ka kb => pw_if_ne (tgt := 39) dX12_readLaw_28 (by decide) ka kb) (fun c28 => absurd rfl c28) (fun c28 => ?_)
    refine WQ.st (fun _ _ kz => pw_aload0 dX12_readLaw_31 kz) ?_
    refine WQ.st (fun _ _ kz => pw_iconst (v := 0) dX12_readLaw_32 (by decide) kz) ?_
    refine wq_o1v wX12_readSum lX12_169 rfl dX12_readLaw_33 hF.1 ((w_readSum (d := 0) hF hw _).mn (by omega)) rfl (Nat.le_of_ble_eq_true rfl) (Nat.le_of_ble_eq_true rfl) (fun h33 z33 => ?_)
    subst z33
    refine WQ.st (fun _ _ kz => pw_goto (tgt := 44) dX12_readLaw_36 (by decide) kz) ?_
    refine WQ.st (fun _ _ kz => pw_aload0 dX12_readLaw_44 kz) ?_
    refine WQ.st (fun _ _ kz => pw_geti gX12_136 dX12_readLaw_45 hF.1 kz) ?_
    refine WQ.br (fun _ _ ka kb => pw_if_eq (tgt := 52) dX12_readLaw_48 (by decide) ka kb) (fun c48 => absurd c48 hw) (fun c48 => ?_)
    refine ⟨_, _, pw_vret dX12_readLaw_51 rfl rfl rfl, ?_⟩
    exact ⟨rfl, _, _, rfl, z3, (f1.tr f3).l⟩
set_option maxRecDepth 20000 in
theorem c_readLaw1 {G : gT} {S : sS} {V : sV} {P : sP} {A : sV} {B : sB} {Q : sP} {t sl o : Nat} (hF : MF S P o) {x : Nat → Int32} {L T : Nat} (hT : TK x L T = 24) {i : Nat} {c : List Int32} {F : Nat → Int32} (hN : RNF x L o i c F V A) (hB : RB T T i c) {D : Nat} (hk : TK x L i ≠ 24) (hD : 34 ≤ D) : WQ G D mX12_readLaw 0 [some (.ref o), some (.int 1), none] [] (t, sl, gh S V P A B Q) (RZL x L o T S P B Q t sl (lnL (TK x L) (TV x L) (TPl x L) T 1 5 i F c) V A) := by
  obtain ⟨D, rfl⟩ : ∃ D', D = D' + 1 := ⟨D - 1, by omega⟩
  unfold lnL
  refine WQ.st (fun _ _ kz => pw_aload0 dX12_readLaw_0 kz) ?_
  refine wq_o0v wX12_nextToken lX12_145 rfl dX12_readLaw_1 hF.1 (c_ntN hF hN.1 (by omega)) rfl (Nat.le_of_ble_eq_true rfl) (Nat.le_of_ble_eq_true rfl) (fun h1 z1 => ?_)
  obtain ⟨V1, A1, rfl, rfl, n1, f1⟩ := z1
  have hB1 := hB.nx hT (k := TK x L i) rfl hk
  refine WQ.st (fun _ _ kz => pw_aload0 dX12_readLaw_4 kz) ?_
  refine WQ.st (fun _ _ kz => pw_bipush (v := 31) dX12_readLaw_5 (by decide) kz) ?_
  refine wq_o1i wX12_eats lX12_172 rfl dX12_readLaw_7 hF.1 (c_eatsN hF n1 (k := 31) rfl (by omega)) rfl (Nat.le_of_ble_eq_true rfl) (Nat.le_of_ble_eq_true rfl) (fun h7 z7 => ?_)
  obtain ⟨V2, A2, rfl, e1, e2, f2⟩ := z7
  refine WQ.bn (fun _ _ ka kb => pw_if_ne (tgt := 18) dX12_readLaw_10 (by decide) ka kb) (fun c10 => ?_) (fun c10 => ?_)
  · rw [bI_n] at c10
    have c10 := of_decide_eq_true c10
    have n2 := e1 c10
    have hB2 := hB1.nx hT c10 (by omega)
    rw [if_pos c10]
    refine WQ.st (fun _ _ kz => pw_aload0 dX12_readLaw_18 kz) ?_
    refine WQ.st (fun _ _ kz => pw_getr gX12_24 dX12_readLaw_19 hF.1 (mf_p4 hF) kz) ?_
    refine WQ.st (fun _ _ kz => pw_sipush (v := 263) dX12_readLaw_22 (by decide) kz) ?_
    refine WQ.st (fun _ _ kz => pw_ald (j := 263) dX12_readLaw_25 (mf_s4 hF) rfl (by omega) kz) ?_
    rw [n2.le]
    refine WQ.st (fun _ _ kz => pw_istore2 dX12_readLaw_26 (by decide) (k := kz)) ?_
    refine WQ.st (fun _ _ kz => pw_iload1 dX12_readLaw_27 kz) ?_
    refine WQ.bn (fun _ _ ka kb => pw_if_ne (tgt := 39) dX12_readLaw_28 (by decide) ka kb) (fun c28 => ?_) (fun c28 => absurd c28 (by decide))
    refine WQ.st (fun _ _ kz => pw_aload0 dX12_readLaw_39 kz) ?_
    refine WQ.st (fun _ _ kz => pw_iconst (v := 0) dX12_readLaw_40 (by decide) kz) ?_
    refine wq_o1v wX12_readTruth lX12_184 rfl dX12_readLaw_41 hF.1 ((g_all hF hT (10 * T + 20)).2.2.2.2.2.2.2.2.1 (i + 2) 0 c T V2 A2 D none (by omega) (by have e2 : rkT 5 = 9 := rfl; omega) n2 hB2 (by omega)) rfl (Nat.le_of_ble_eq_true rfl) (Nat.le_of_ble_eq_true rfl) (fun h41 z41 => ?_)
    obtain ⟨V4, A4, rfl, z4, f4⟩ := z41
    generalize hr : ps (TK x L) (TV x L) (TPl x L) (10 * T + 20) 5 (i + 2) 0 c = r at *
    cases r with
    | error e =>
      have hw := RX_err z4
      show WQ _ _ _ _ _ _ _ (RZL x L o T S P B Q t sl (.error e) V A)
      refine WQ.st (fun _ _ kz => pw_aload0 dX12_readLaw_44 kz) ?_
      refine WQ.st (fun _ _ kz => pw_geti gX12_136 dX12_readLaw_45 hF.1 kz) ?_
      refine WQ.br (fun _ _ ka kb => pw_if_eq (tgt := 52) dX12_readLaw_48 (by decide) ka kb) (fun c48 => absurd c48 hw) (fun c48 => ?_)
      refine ⟨_, _, pw_vret dX12_readLaw_51 rfl rfl rfl, ?_⟩
      exact ⟨rfl, _, _, rfl, z4, ((f1.tr f2).tr f4).l⟩
    | ok s =>
      have z4 : RN x L o s.1 s.2 V4 A4 ∧ RB T T s.1 s.2 := z4
      show WQ _ _ _ _ _ _ _ (RZL x L o T S P B Q t sl (.ok (s.1, pm_up (pm_up (pm_up F (4 + 1) 1) (6 + 1) (nI c.length)) (8 + 1) (nI s.2.length - nI c.length), s.2)) V A)
      refine WQ.st (fun _ _ kz => pw_aload0 dX12_readLaw_44 kz) ?_
      refine WQ.st (fun _ _ kz => pw_geti gX12_136 dX12_readLaw_45 hF.1 kz) ?_
      refine WQ.br (fun _ _ ka kb => pw_if_eq (tgt := 52) dX12_readLaw_48 (by decide) ka kb) (fun c48 => ?_) (fun c48 => absurd z4.1.w0 c48)
      refine WQ.st (fun _ _ kz => pw_aload0 dX12_readLaw_52 kz) ?_
      refine WQ.st (fun _ _ kz => pw_getr gX12_24 dX12_readLaw_53 hF.1 (mf_p4 hF) kz) ?_
      refine WQ.st (fun _ _ kz => pw_iconst (v := 4) dX12_readLaw_56 (by decide) kz) ?_
      refine WQ.st (fun _ _ kz => pw_iload1 dX12_readLaw_57 kz) ?_
      refine WQ.st (fun _ _ kz => pw_iadd dX12_readLaw_58 kz) ?_
      refine WQ.st (fun _ _ kz => pw_iconst (v := 1) dX12_readLaw_59 (by decide) kz) ?_
      refine WQ.st (fun _ _ kz => pw_ast (j := (4 + 1)) dX12_readLaw_60 (mf_s4 hF) rfl (by omega)  kz) ?_
      refine WQ.st (fun _ _ kz => pw_aload0 dX12_readLaw_61 kz) ?_
      refine WQ.st (fun _ _ kz => pw_getr gX12_24 dX12_readLaw_62 hF.1 (mf_p4 hF) kz) ?_
      refine WQ.st (fun _ _ kz => pw_bipush (v := 6) dX12_readLaw_65 (by decide) kz) ?_
      refine WQ.st (fun _ _ kz => pw_iload1 dX12_readLaw_67 kz) ?_
      refine WQ.st (fun _ _ kz => pw_iadd dX12_readLaw_68 kz) ?_
      refine WQ.st (fun _ _ kz => pw_iload2 dX12_readLaw_69 kz) ?_
      refine WQ.st (fun _ _ kz => pw_ast (j := (6 + 1)) dX12_readLaw_70 (mf_s4 hF) rfl (by omega)  kz) ?_
      refine WQ.st (fun _ _ kz => pw_aload0 dX12_readLaw_71 kz) ?_
      refine WQ.st (fun _ _ kz => pw_getr gX12_24 dX12_readLaw_72 hF.1 (mf_p4 hF) kz) ?_
      refine WQ.st (fun _ _ kz => pw_bipush (v := 8) dX12_readLaw_75 (by decide) kz) ?_
      refine WQ.st (fun _ _ kz => pw_iload1 dX12_readLaw_77 kz) ?_
      refine WQ.st (fun _ _ kz => pw_iadd dX12_readLaw_78 kz) ?_
      refine WQ.st (fun _ _ kz => pw_aload0 dX12_readLaw_79 kz) ?_
      refine WQ.st (fun _ _ kz => pw_getr gX12_24 dX12_readLaw_80 hF.1 (mf_p4 hF) kz) ?_
      refine WQ.st (fun _ _ kz => pw_sipush (v := 263) dX12_readLaw_83 (by decide) kz) ?_
      refine WQ.st (fun _ _ kz => pw_ald (j := 263) dX12_readLaw_86 (mf_s4 hF) rfl (by omega) kz) ?_
      rw [up2_nk (by omega), up2_nk (by omega), z4.1.le]
      refine WQ.st (fun _ _ kz => pw_iload2 dX12_readLaw_87 kz) ?_
      refine WQ.st (fun _ _ kz => pw_isub dX12_readLaw_88 kz) ?_
      refine WQ.st (fun _ _ kz => pw_ast (j := (8 + 1)) dX12_readLaw_89 (mf_s4 hF) rfl (by omega)  kz) ?_
      refine ⟨_, _, pw_vret dX12_readLaw_90 rfl rfl rfl, ?_⟩
      have n4 : RNF x L o s.1 s.2 F V4 A4 := ⟨z4.1, fun k hk => (f4.2.2.2 k hk).trans ((f2.2.2.2 k hk).trans ((f1.2.2.2 k hk).trans (hN.2 k hk)))⟩
      exact ⟨rfl, _, _, rfl, ⟨((n4.put (by omega) _).put (by omega) _).put (by omega) _, z4.2⟩, ((((f1.tr f2).tr f4).l.tr FRL.a).tr FRL.a).tr FRL.a⟩
  · rw [bI_0] at c10
    have c10 := of_decide_eq_false c10
    obtain ⟨rfl, rfl⟩ := e2 c10
    rw [if_neg c10]
    refine WQ.st (fun _ _ kz => pw_aload0 dX12_readLaw_13 kz) ?_
    refine WQ.st (fun _ _ kz => pw_iconst (v := 2) dX12_readLaw_14 (by decide) kz) ?_
    refine wq_o1v wX12_fails lX12_148 rfl dX12_readLaw_15 hF.1 (c_failsN (T := T) (m := T) hF n1 (by decide)) rfl (Nat.le_of_ble_eq_true rfl) (Nat.le_of_ble_eq_true rfl) (fun h15 z15 => ?_)
    obtain ⟨V3, A3, rfl, z3, f3, _⟩ := z15
    have hw := RX_bad z3
    refine WQ.st (fun _ _ kz => pw_aload0 dX12_readLaw_18 kz) ?_
    refine WQ.st (fun _ _ kz => pw_getr gX12_24 dX12_readLaw_19 hF.1 (mf_p4 hF) kz) ?_
    refine WQ.st (fun _ _ kz => pw_sipush (v := 263) dX12_readLaw_22 (by decide) kz) ?_
    refine WQ.st (fun _ _ kz => pw_ald (j := 263) dX12_readLaw_25 (mf_s4 hF) rfl (by omega) kz) ?_
    refine WQ.st (fun _ _ kz => pw_istore2 dX12_readLaw_26 (by decide) (k := kz)) ?_
    refine WQ.st (fun _ _ kz => pw_iload1 dX12_readLaw_27 kz) ?_
    refine WQ.bn (fun _ _ ka kb => pw_if_ne (tgt := 39) dX12_readLaw_28 (by decide) ka kb) (fun c28 => ?_) (fun c28 => absurd c28 (by decide))
    refine WQ.st (fun _ _ kz => pw_aload0 dX12_readLaw_39 kz) ?_
    refine WQ.st (fun _ _ kz => pw_iconst (v := 0) dX12_readLaw_40 (by decide) kz) ?_
    refine wq_o1v wX12_readTruth lX12_184 rfl dX12_readLaw_41 hF.1 ((w_readTruth (d := 0) hF hw _).mn (by omega)) rfl (Nat.le_of_ble_eq_true rfl) (Nat.le_of_ble_eq_true rfl) (fun h41 z41 => ?_)
    subst z41
    refine WQ.st (fun _ _ kz => pw_aload0 dX12_readLaw_44 kz) ?_
    refine WQ.st (fun _ _ kz => pw_geti gX12_136 dX12_readLaw_45 hF.1 kz) ?_
    refine WQ.br (fun _ _ ka kb => pw_if_eq (tgt := 52) dX12_readLaw_48 (by decide) ka kb) (fun c48 => absurd c48 hw) (fun c48 => ?_)
    refine ⟨_, _, pw_vret dX12_readLaw_51 rfl rfl rfl, ?_⟩
    exact ⟨rfl, _, _, rfl, z3, (f1.tr f3).l⟩
