theorem fl_end {x : Nat → Int32} {L o T i p hi base : Nat} {c : List Int32} {F : Nat → Int32} {V A V1 A1 V2 A2 : sV} (hN : RNF x L o i c F V A) (n1 : RN x L o (i + 1) c V1 A1) (f1 : FRM o V A V1 A1) (f2 : FRM o V1 A1 V2 A2) {v : Int32} (g : Int32 → Int32) (z2 : RX x L o T T (tkN (TK x L) (TV x L) (TPl x L) hi (i + 1) c) V2 A2) (hv2 : TK x L (i + 1) = 23 → v = TV x L (i + 1)) (hb : base + p < 263) : RXF x L o T T c (numR (TK x L) (TV x L) (TPl x L) hi (i + 1) (fun v => .ok (i + 2, pm_up F (base + p) (g v)))) V2 (up2 A2 (o + 4) (base + p) (g v)) := by
  unfold tkN at z2
  unfold numR
  by_cases c1 : TK x L (i + 1) = 23
  · rw [if_pos c1] at z2 ⊢
    have hv := hv2 c1
    by_cases c2 : (TV x L (i + 1)).toInt ≤ (hi : Int)
    · rw [if_pos c2] at z2 ⊢
      have z2 : RN x L o (i + 2) c V2 A2 ∧ RB T T (i + 2) c := z2
      rw [hv]
      exact ⟨((hN.m n1 f1).m z2.1 f2).put hb _, z2.2⟩
    · rw [if_neg c2] at z2 ⊢
      exact z2
  · rw [if_neg c1] at z2 ⊢
    exact z2
set_option maxRecDepth 20000 in
theorem c_readFlag {G : gT} {S : sS} {V : sV} {P : sP} {A : sV} {B : sB} {Q : sP} {t sl o : Nat} (hF : MF S P o) {x : Nat → Int32} {L T : Nat} (hT : TK x L T = 24) {i : Nat} {c : List Int32} {F : Nat → Int32} (hN : RNF x L o i c F V A) (hB : RB T T i c) {D : Nat} {p : Nat} (hp : p < 5) (hD : 8 ≤ D) : WQ G D mX12_readFlag 0 [some (.ref o), some (.int (nI p))] [] (t, sl, gh S V P A B Q) (fun r h' => ∃ V' A' : sV, h' = (t, sl, gh S V' P A' B Q) ∧ FRL o V A V' A' ∧ match flS (TK x L) (TV x L) (TPl x L) p i F with | none => r = some (.int 0) ∧ RNF x L o i c F V' A' | some q => (r = some (.int (bI (decide (V' o 11 = 0))))) ∧ RXF x L o T T c q V' A') := by
  obtain ⟨D, rfl⟩ : ∃ D', D = D' + 1 := ⟨D - 1, by omega⟩
  refine WQ.st (fun _ _ kz => pw_aload0 dX12_readFlag_0 kz) ?_
  refine WQ.st (fun _ _ kz => pw_iconst (v := 5) dX12_readFlag_1 (by decide) kz) ?_
  refine wq_o1i wX12_eats lX12_172 rfl dX12_readFlag_2 hF.1 (c_eatsN hF hN.1 (k := 5) rfl (by omega)) rfl (Nat.le_of_ble_eq_true rfl) (Nat.le_of_ble_eq_true rfl) (fun h2 z2 => ?_)
  obtain ⟨V1, A1, rfl, e1, e2, f1⟩ := z2
  refine WQ.br (fun _ _ ka kb => pw_if_eq (tgt := 27) dX12_readFlag_5 (by decide) ka kb) (fun c5 => ?_) (fun c5 => ?_)
  · rw [bI_0] at c5
    have c5 := of_decide_eq_false c5
    obtain ⟨rfl, rfl⟩ := e2 c5
    clear e1 e2 f1
    refine WQ.st (fun _ _ kz => pw_aload0 dX12_readFlag_27 kz) ?_
    refine WQ.st (fun _ _ kz => pw_bipush (v := 6) dX12_readFlag_28 (by decide) kz) ?_
    refine wq_o1i wX12_eats lX12_172 rfl dX12_readFlag_30 hF.1 (c_eatsN hF hN.1 (k := 6) rfl (by omega)) rfl (Nat.le_of_ble_eq_true rfl) (Nat.le_of_ble_eq_true rfl) (fun h30 z30 => ?_)
    obtain ⟨V1, A1, rfl, e1, e2, f1⟩ := z30
    refine WQ.br (fun _ _ ka kb => pw_if_eq (tgt := 56) dX12_readFlag_33 (by decide) ka kb) (fun c33 => ?_) (fun c33 => ?_)
    · rw [bI_0] at c33
      have c33 := of_decide_eq_false c33
      obtain ⟨rfl, rfl⟩ := e2 c33
      clear e1 e2 f1
      refine WQ.st (fun _ _ kz => pw_aload0 dX12_readFlag_56 kz) ?_
      refine WQ.st (fun _ _ kz => pw_bipush (v := 7) dX12_readFlag_57 (by decide) kz) ?_
      refine wq_o1i wX12_eats lX12_172 rfl dX12_readFlag_59 hF.1 (c_eatsN hF hN.1 (k := 7) rfl (by omega)) rfl (Nat.le_of_ble_eq_true rfl) (Nat.le_of_ble_eq_true rfl) (fun h59 z59 => ?_)
      obtain ⟨V1, A1, rfl, e1, e2, f1⟩ := z59
      refine WQ.br (fun _ _ ka kb => pw_if_eq (tgt := 84) dX12_readFlag_62 (by decide) ka kb) (fun c62 => ?_) (fun c62 => ?_)
      · rw [bI_0] at c62
        have c62 := of_decide_eq_false c62
        obtain ⟨rfl, rfl⟩ := e2 c62
        clear e1 e2 f1
        refine WQ.st (fun _ _ kz => pw_iconst (v := 0) dX12_readFlag_84 (by decide) kz) ?_
        refine ⟨_, _, pw_iret dX12_readFlag_85 rfl rfl rfl rfl, ?_⟩
        refine ⟨_, _, rfl, FRL.rfl, ?_⟩
        unfold flS
        rw [if_neg c5, if_neg c33, if_neg c62]
        exact ⟨rfl, hN⟩
      · rw [bI_n] at c62
        have c62 := of_decide_eq_true c62
        have n1 := e1 c62
        have hB1 := hB.nx hT c62 (by omega)
        refine WQ.st (fun _ _ kz => pw_aload0 dX12_readFlag_65 kz) ?_
        refine WQ.st (fun _ _ kz => pw_getr gX12_24 dX12_readFlag_66 hF.1 (mf_p4 hF) kz) ?_
        refine WQ.st (fun _ _ kz => pw_bipush (v := 87) dX12_readFlag_69 (by decide) kz) ?_
        refine WQ.st (fun _ _ kz => pw_iload1 dX12_readFlag_71 kz) ?_
        refine WQ.st (fun _ _ kz => pw_iadd dX12_readFlag_72 kz) ?_
        refine WQ.st (fun _ _ kz => pw_aload0 dX12_readFlag_73 kz) ?_
        refine WQ.st (fun _ _ kz => pw_iconst (v := 0) dX12_readFlag_74 (by decide) kz) ?_
        refine WQ.st (fun _ _ kz => pw_bipush (v := 9) dX12_readFlag_75 (by decide) kz) ?_
        rw [show (9 : Int32) = nI 9 from rfl]
        obtain ⟨_, _, k0, v, rfl, V2, A2, rfl, z2, hv2, f2⟩ := c_takesN (G := G) (D := D) (B := B) (Q := Q) (t := t) (sl := sl) (T := T) (m := T) (hi := 9) hF n1 (by omega) (fun q => hB1.nx hT rfl q) (by omega)
        refine WQ.st (fun _ _ kz => pw_o2i wX12_takes lX12_190 rfl dX12_readFlag_77 hF.1 (k0) rfl (Nat.le_of_ble_eq_true rfl) (Nat.le_of_ble_eq_true rfl) kz) ?_
        refine WQ.st (fun _ _ kz => pw_ast (j := (87 + p)) dX12_readFlag_80 (mf_s4 hF) (by rw [show (87 : Int32) = nI 87 from rfl, nI_pl]; exact ix_n (by omega)) (by omega)  kz) ?_
        refine WQ.st (fun _ _ kz => pw_goto (tgt := 86) dX12_readFlag_81 (by decide) kz) ?_
        refine WQ.st (fun _ _ kz => pw_aload0 dX12_readFlag_86 kz) ?_
        refine WQ.st (fun _ _ kz => pw_geti gX12_136 dX12_readFlag_87 hF.1 kz) ?_
        refine WQ.bn (fun _ _ ka kb => pw_if_ne (tgt := 97) dX12_readFlag_90 (by decide) ka kb) (fun c90 => ?_) (fun c90 => ?_)
        · refine WQ.st (fun _ _ kz => pw_iconst (v := 0) dX12_readFlag_97 (by decide) kz) ?_
          refine ⟨_, _, pw_iret dX12_readFlag_98 rfl rfl rfl rfl, ?_⟩
          refine ⟨_, _, rfl, (f1.l.tr f2.l).tr FRL.a, ?_⟩
          unfold flS
          rw [if_neg c5, if_neg c33, if_pos c62]
          exact ⟨rI (bI_z (decide_eq_false c90)), fl_end hN n1 f1 f2 id z2 hv2 (by omega)⟩
        · refine WQ.st (fun _ _ kz => pw_iconst (v := 1) dX12_readFlag_93 (by decide) kz) ?_
          refine WQ.st (fun _ _ kz => pw_goto (tgt := 98) dX12_readFlag_94 (by decide) kz) ?_
          refine ⟨_, _, pw_iret dX12_readFlag_98 rfl rfl rfl rfl, ?_⟩
          refine ⟨_, _, rfl, (f1.l.tr f2.l).tr FRL.a, ?_⟩
          unfold flS
          rw [if_neg c5, if_neg c33, if_pos c62]
          exact ⟨rI (bI_t (decide_eq_true c90)), fl_end hN n1 f1 f2 id z2 hv2 (by omega)⟩
    · rw [bI_n] at c33
      have c33 := of_decide_eq_true c33
      have n1 := e1 c33
      have hB1 := hB.nx hT c33 (by omega)
      refine WQ.st (fun _ _ kz => pw_aload0 dX12_readFlag_36 kz) ?_
      refine WQ.st (fun _ _ kz => pw_getr gX12_24 dX12_readFlag_37 hF.1 (mf_p4 hF) kz) ?_
      refine WQ.st (fun _ _ kz => pw_bipush (v := 77) dX12_readFlag_40 (by decide) kz) ?_
      refine WQ.st (fun _ _ kz => pw_iload1 dX12_readFlag_42 kz) ?_
      refine WQ.st (fun _ _ kz => pw_iadd dX12_readFlag_43 kz) ?_
      refine WQ.st (fun _ _ kz => pw_aload0 dX12_readFlag_44 kz) ?_
      refine WQ.st (fun _ _ kz => pw_iconst (v := 0) dX12_readFlag_45 (by decide) kz) ?_
      refine WQ.st (fun _ _ kz => pw_bipush (v := 20) dX12_readFlag_46 (by decide) kz) ?_
      rw [show (20 : Int32) = nI 20 from rfl]
      obtain ⟨_, _, k0, v, rfl, V2, A2, rfl, z2, hv2, f2⟩ := c_takesN (G := G) (D := D) (B := B) (Q := Q) (t := t) (sl := sl) (T := T) (m := T) (hi := 20) hF n1 (by omega) (fun q => hB1.nx hT rfl q) (by omega)
      refine WQ.st (fun _ _ kz => pw_o2i wX12_takes lX12_190 rfl dX12_readFlag_48 hF.1 (k0) rfl (Nat.le_of_ble_eq_true rfl) (Nat.le_of_ble_eq_true rfl) kz) ?_
      refine WQ.st (fun _ _ kz => pw_ineg dX12_readFlag_51 kz) ?_
      refine WQ.st (fun _ _ kz => pw_ast (j := (77 + p)) dX12_readFlag_52 (mf_s4 hF) (by rw [show (77 : Int32) = nI 77 from rfl, nI_pl]; exact ix_n (by omega)) (by omega)  kz) ?_
      refine WQ.st (fun _ _ kz => pw_goto (tgt := 86) dX12_readFlag_53 (by decide) kz) ?_
      refine WQ.st (fun _ _ kz => pw_aload0 dX12_readFlag_86 kz) ?_
      refine WQ.st (fun _ _ kz => pw_geti gX12_136 dX12_readFlag_87 hF.1 kz) ?_
      refine WQ.bn (fun _ _ ka kb => pw_if_ne (tgt := 97) dX12_readFlag_90 (by decide) ka kb) (fun c90 => ?_) (fun c90 => ?_)
      · refine WQ.st (fun _ _ kz => pw_iconst (v := 0) dX12_readFlag_97 (by decide) kz) ?_
        refine ⟨_, _, pw_iret dX12_readFlag_98 rfl rfl rfl rfl, ?_⟩
        refine ⟨_, _, rfl, (f1.l.tr f2.l).tr FRL.a, ?_⟩
        unfold flS
        rw [if_neg c5, if_pos c33]
        exact ⟨rI (bI_z (decide_eq_false c90)), fl_end hN n1 f1 f2 (fun v => -v) z2 hv2 (by omega)⟩
      · refine WQ.st (fun _ _ kz => pw_iconst (v := 1) dX12_readFlag_93 (by decide) kz) ?_
        refine WQ.st (fun _ _ kz => pw_goto (tgt := 98) dX12_readFlag_94 (by decide) kz) ?_
        refine ⟨_, _, pw_iret dX12_readFlag_98 rfl rfl rfl rfl, ?_⟩
        refine ⟨_, _, rfl, (f1.l.tr f2.l).tr FRL.a, ?_⟩
        unfold flS
        rw [if_neg c5, if_pos c33]
        exact ⟨rI (bI_t (decide_eq_true c90)), fl_end hN n1 f1 f2 (fun v => -v) z2 hv2 (by omega)⟩
  · rw [bI_n] at c5
    have c5 := of_decide_eq_true c5
    have n1 := e1 c5
    have hB1 := hB.nx hT c5 (by omega)
    refine WQ.st (fun _ _ kz => pw_aload0 dX12_readFlag_8 kz) ?_
    refine WQ.st (fun _ _ kz => pw_getr gX12_24 dX12_readFlag_9 hF.1 (mf_p4 hF) kz) ?_
    refine WQ.st (fun _ _ kz => pw_bipush (v := 77) dX12_readFlag_12 (by decide) kz) ?_
    refine WQ.st (fun _ _ kz => pw_iload1 dX12_readFlag_14 kz) ?_
    refine WQ.st (fun _ _ kz => pw_iadd dX12_readFlag_15 kz) ?_
    refine WQ.st (fun _ _ kz => pw_aload0 dX12_readFlag_16 kz) ?_
    refine WQ.st (fun _ _ kz => pw_iconst (v := 0) dX12_readFlag_17 (by decide) kz) ?_
    refine WQ.st (fun _ _ kz => pw_bipush (v := 20) dX12_readFlag_18 (by decide) kz) ?_
    rw [show (20 : Int32) = nI 20 from rfl]
    obtain ⟨_, _, k0, v, rfl, V2, A2, rfl, z2, hv2, f2⟩ := c_takesN (G := G) (D := D) (B := B) (Q := Q) (t := t) (sl := sl) (T := T) (m := T) (hi := 20) hF n1 (by omega) (fun q => hB1.nx hT rfl q) (by omega)
    refine WQ.st (fun _ _ kz => pw_o2i wX12_takes lX12_190 rfl dX12_readFlag_20 hF.1 (k0) rfl (Nat.le_of_ble_eq_true rfl) (Nat.le_of_ble_eq_true rfl) kz) ?_
    refine WQ.st (fun _ _ kz => pw_ast (j := (77 + p)) dX12_readFlag_23 (mf_s4 hF) (by rw [show (77 : Int32) = nI 77 from rfl, nI_pl]; exact ix_n (by omega)) (by omega)  kz) ?_
    refine WQ.st (fun _ _ kz => pw_goto (tgt := 86) dX12_readFlag_24 (by decide) kz) ?_
    refine WQ.st (fun _ _ kz => pw_aload0 dX12_readFlag_86 kz) ?_
    refine WQ.st (fun _ _ kz => pw_geti gX12_136 dX12_readFlag_87 hF.1 kz) ?_
    refine WQ.bn (fun _ _ ka kb => pw_if_ne (tgt := 97) dX12_readFlag_90 (by decide) ka kb) (fun c90 => ?_) (fun c90 => ?_)
    · refine WQ.st (fun _ _ kz => pw_iconst (v := 0) dX12_readFlag_97 (by decide) kz) ?_
      refine ⟨_, _, pw_iret dX12_readFlag_98 rfl rfl rfl rfl, ?_⟩
      refine ⟨_, _, rfl, (f1.l.tr f2.l).tr FRL.a, ?_⟩
      unfold flS
      rw [if_pos c5]
      exact ⟨rI (bI_z (decide_eq_false c90)), fl_end hN n1 f1 f2 id z2 hv2 (by omega)⟩
    · refine WQ.st (fun _ _ kz => pw_iconst (v := 1) dX12_readFlag_93 (by decide) kz) ?_
      refine WQ.st (fun _ _ kz => pw_goto (tgt := 98) dX12_readFlag_94 (by decide) kz) ?_
      refine ⟨_, _, pw_iret dX12_readFlag_98 rfl rfl rfl rfl, ?_⟩
      refine ⟨_, _, rfl, (f1.l.tr f2.l).tr FRL.a, ?_⟩
      unfold flS
      rw [if_pos c5]
      exact ⟨rI (bI_t (decide_eq_true c90)), fl_end hN n1 f1 f2 id z2 hv2 (by omega)⟩
