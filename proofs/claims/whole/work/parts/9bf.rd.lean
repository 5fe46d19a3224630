set_option maxRecDepth 20000 in
theorem kc_atom {G : gT} {S : sS} {P : sP} {B : sB} {Q : sP} {t sl a : Nat} (hC : CF S P) (hL : LA S P a) (hp10 : P 10 10 = some a) (ha : 20 ≤ a) {x : Nat → Int32} {L T n : Nat} (hT : TK x L T = 24) (h2 : HC G S P B Q t sl a x L T mX6_readChain (fun dep => [some (.ref 10), some (.int (nI 2)), some (.int (nI dep)), none, none]) 2 4 n) : HC G S P B Q t sl a x L T mX6_readAtom (fun dep => [some (.ref 10), some (.int (nI dep)), none]) 0 0 (n + 1) := by
  intro i dep pre d m V A D hd hn hN hW hB hD
  have hB1 := hB.1
  have hm9 := hB.2.2
  have hiT := hN.le
  have ht9 := hN.t9
  have r0 : rkT 0 = 0 := rfl
  have r2 : rkT 2 = 4 := rfl
  obtain ⟨D, rfl⟩ : ∃ D', D = D' + 1 := ⟨D - 1, by omega⟩
  have K101 : ¬ TK x L i = 35 → ¬ wdI (TK x L i) ≠ -1 → WQ G (D + 1) mX6_readAtom 101 [some (.ref 10), some (.int (nI dep)), some (.int (ccK (TK x L i)))] [] (t, sl, gh S V P A B Q) (KZ x L T a pre S P B Q t sl (ps (TK x L) (TV x L) (TPl x L) (n + 1) 0 i dep (pre ++ d)) V A) := by
    intro c8 cw
    refine WQ.st (fun _ _ kz => pw_aload0 dX6_readAtom_101 kz) ?_
    refine WQ.st (fun _ _ kz => pw_sipush (v := 999) dX6_readAtom_102 (by decide) kz) ?_
    refine wq_o1i wX6_takeNumber lX6_139 rfl dX6_readAtom_105 (cf_s10 hC) ((k_takeNumber (d := 0) (hi := 999) hC hN hT (by omega)).mn (by omega)) rfl (Nat.le_of_ble_eq_true rfl) (Nat.le_of_ble_eq_true rfl) (fun h105 z105 => ?_)
    obtain ⟨V1, rfl, g1, e1, f1⟩ := z105
    refine WQ.bn (fun _ _ ka kb => pw_if_ne (tgt := 113) dX6_readAtom_108 (by decide) ka kb) (fun c108 => ?_) (fun c108 => ?_)
    · rw [bI_n] at c108
      have c108 := of_decide_eq_true c108
      have hn1 := g1 c108
      have h23 := c108.1
      obtain ⟨b1, b2⟩ := hB.eat hT h23 (by omega)
      rw [ps_0, if_pos h23]
      refine WQ.st (fun _ _ kz => pw_aload0 dX6_readAtom_113 kz) ?_
      refine WQ.st (fun _ _ kz => pw_getr gX6_45 dX6_readAtom_114 (cf_s10 hC) hp10 kz) ?_
      refine WQ.st (fun _ _ kz => pw_aload0 dX6_readAtom_117 kz) ?_
      refine wq_o0i wX6_taken lX6_142 rfl dX6_readAtom_118 (cf_s10 hC) (k_taken hC hn1 h23) rfl (Nat.le_of_ble_eq_true rfl) (Nat.le_of_ble_eq_true rfl) (fun h118 z118 => ?_)
      subst z118
      refine wq_o1v wX4_add lX6_180 rfl dX6_readAtom_121 (la_s0 hL) (k_ladd hL (f1.lw ha hW) (by have := b1.2.1; rw [List.length_append] at this; omega) (Or.inl (by have := TV_b h23; omega)) (ctk_lo (by have := TV_b h23; omega)).symm) rfl (Nat.le_of_ble_eq_true rfl) (Nat.le_of_ble_eq_true rfl) (fun h121 z121 => ?_)
      obtain ⟨V3, A3, rfl, w3, f3⟩ := z121
      refine WQ.st (fun _ _ kz => pw_iconst (v := 1) dX6_readAtom_124 (by decide) kz) ?_
      refine ⟨_, _, pw_iret dX6_readAtom_125 rfl rfl rfl rfl, ?_⟩
      exact ⟨rfl, V3, A3, rfl, ⟨f3.kn ha hn1, _, List.append_assoc _ _ _, w3⟩, f1.fa.tr (f3.fa ha)⟩
    · rw [bI_0] at c108
      have c108 := of_decide_eq_false c108
      have h23 : ¬ TK x L i = 23 := fun q => c108 ⟨q, by have := TV_b q; omega⟩
      rw [ps_0, if_neg h23, if_neg cw, if_neg c8]
      have e1 := e1 c108
      unfold tkE2 at e1
      rw [if_neg h23] at e1
      refine WQ.st (fun _ _ kz => pw_iconst (v := 0) dX6_readAtom_111 (by decide) kz) ?_
      refine ⟨_, _, pw_iret dX6_readAtom_112 rfl rfl rfl rfl, ?_⟩
      exact ⟨rfl, V1, A, rfl, e1, f1.fa⟩
  refine WQ.st (fun _ _ kz => pw_aload0 dX6_readAtom_0 kz) ?_
  refine wq_o0i wX6_kind lX6_70 rfl dX6_readAtom_1 (cf_s10 hC) (k_kind hC hN) rfl (Nat.le_of_ble_eq_true rfl) (Nat.le_of_ble_eq_true rfl) (fun h1 z1 => ?_)
  subst z1
  refine WQ.st (fun _ _ kz => pw_istore2 dX6_readAtom_4 (by decide) (k := kz)) ?_
  refine WQ.st (fun _ _ kz => pw_iload2 dX6_readAtom_5 kz) ?_
  refine WQ.st (fun _ _ kz => pw_bipush (v := 40) dX6_readAtom_6 (by decide) kz) ?_
  refine WQ.bn (fun _ _ ka kb => pw_icmp_ne (tgt := 59) dX6_readAtom_8 (by decide) ka kb) (fun c8 => ?_) (fun c8 => ?_)
  · have c8 : ¬ TK x L i = 35 := fun q => c8 ((cc_i TK_o (show tkO 35 by unfold tkO; omega) (by decide +kernel)).mpr q)
    refine WQ.st (fun _ _ kz => pw_iload2 dX6_readAtom_59 kz) ?_
    refine WQ.st (fun _ _ kz => pw_sipush (v := 200) dX6_readAtom_60 (by decide) kz) ?_
    refine WQ.br (fun _ _ ka kb => pw_icmp_lt (tgt := 101) dX6_readAtom_63 (by decide) ka kb) (fun c63 => ?_) (fun c63 => ?_)
    · exact K101 c8 (fun q => ((wd_f _ (TK_lt x L i) (tkO_b TK_o)).1.mp q).1 c63)
    · refine WQ.st (fun _ _ kz => pw_iload2 dX6_readAtom_66 kz) ?_
      refine WQ.st (fun _ _ kz => pw_sipush (v := 208) dX6_readAtom_67 (by decide) kz) ?_
      refine WQ.br (fun _ _ ka kb => pw_icmp_ge (tgt := 101) dX6_readAtom_70 (by decide) ka kb) (fun c70 => ?_) (fun c70 => ?_)
      · exact K101 c8 (fun q => ((wd_f _ (TK_lt x L i) (tkO_b TK_o)).1.mp q).2 c70)
      · have hw : wdI (TK x L i) ≠ -1 := (wd_f _ (TK_lt x L i) (tkO_b TK_o)).1.mpr ⟨c63, c70⟩
        have wf := (wd_f _ (TK_lt x L i) (tkO_b TK_o)).2 hw
        rw [ps_0, if_neg wf.2.2.2.1, if_pos hw]
        obtain ⟨b1, b2⟩ := hB.eat hT (k := TK x L i) rfl wf.2.2.2.2
        have hlt := lt_T hT hB1 (k := TK x L i) rfl wf.2.2.2.2
        have g1 : FRK V (up2 V 10 6 (nI (i + 1))) := FRK.up (by omega)
        have f1 : FRA a V A (up2 V 10 6 (nI (i + 1))) A := g1.fa
        refine WQ.st (fun _ _ kz => pw_aload0 dX6_readAtom_73 kz) ?_
        refine WQ.st (fun _ _ kz => pw_dup dX6_readAtom_74 rfl kz) ?_
        refine WQ.st (fun _ _ kz => pw_geti gX6_31 dX6_readAtom_75 (cf_s10 hC) kz) ?_
        rw [hN.at]
        refine WQ.st (fun _ _ kz => pw_iconst (v := 1) dX6_readAtom_78 (by decide) kz) ?_
        refine WQ.st (fun _ _ kz => pw_iadd dX6_readAtom_79 kz) ?_
        rw [nI_1]
        refine WQ.st (fun _ _ kz => pw_puti (pX6_31 _ rfl) dX6_readAtom_80 (cf_s10 hC) rfl rfl kz) ?_
        refine WQ.st (fun _ _ kz => pw_aload0 dX6_readAtom_83 kz) ?_
        refine WQ.st (fun _ _ kz => pw_getr gX6_45 dX6_readAtom_84 (cf_s10 hC) hp10 kz) ?_
        refine WQ.st (fun _ _ kz => pw_sipush (v := 1000) dX6_readAtom_87 (by decide) kz) ?_
        refine WQ.st (fun _ _ kz => pw_iload2 dX6_readAtom_90 kz) ?_
        refine WQ.st (fun _ _ kz => pw_iadd dX6_readAtom_91 kz) ?_
        refine WQ.st (fun _ _ kz => pw_sipush (v := 200) dX6_readAtom_92 (by decide) kz) ?_
        refine WQ.st (fun _ _ kz => pw_isub dX6_readAtom_95 kz) ?_
        refine wq_o1v wX4_add lX6_180 rfl dX6_readAtom_96 (la_s0 hL) (k_ladd hL (g1.lw ha hW) (by have := b1.2.1; rw [List.length_append] at this; omega) (Or.inl ⟨wf.2.1, wf.2.2.1⟩) wf.1) rfl (Nat.le_of_ble_eq_true rfl) (Nat.le_of_ble_eq_true rfl) (fun h96 z96 => ?_)
        obtain ⟨V3, A3, rfl, w3, f3⟩ := z96
        refine WQ.st (fun _ _ kz => pw_iconst (v := 1) dX6_readAtom_99 (by decide) kz) ?_
        refine ⟨_, _, pw_iret dX6_readAtom_100 rfl rfl rfl rfl, ?_⟩
        exact ⟨rfl, V3, A3, rfl, ⟨f3.kn ha (hN.go hlt), _, List.append_assoc _ _ _, w3⟩, f1.tr (f3.fa ha)⟩
  · have c8 : TK x L i = 35 := (cc_i TK_o (show tkO 35 by unfold tkO; omega) (by decide +kernel)).mp c8
    rw [ps_0, if_neg (by omega), if_neg (by rw [c8]; decide), if_pos c8]
    obtain ⟨b1, b2⟩ := hB.eat hT c8 (by omega)
    have hlt := lt_T hT hB1 c8 (by omega)
    have g1 : FRK V (up2 V 10 6 (nI (i + 1))) := FRK.up (by omega)
    have f1 : FRA a V A (up2 V 10 6 (nI (i + 1))) A := g1.fa
    refine WQ.st (fun _ _ kz => pw_iload1 dX6_readAtom_11 kz) ?_
    refine WQ.st (fun _ _ kz => pw_bipush (v := 6) dX6_readAtom_12 (by decide) kz) ?_
    refine WQ.br (fun _ _ ka kb => pw_icmp_lt (tgt := 23) dX6_readAtom_14 (by decide) ka kb) (fun c14 => ?_) (fun c14 => ?_)
    · rw [lt_i (ix_n (by omega)) (show (6 : Int32).toInt = 6 from rfl)] at c14
      rw [if_neg (by omega)]
      refine WQ.st (fun _ _ kz => pw_aload0 dX6_readAtom_23 kz) ?_
      refine WQ.st (fun _ _ kz => pw_dup dX6_readAtom_24 rfl kz) ?_
      refine WQ.st (fun _ _ kz => pw_geti gX6_31 dX6_readAtom_25 (cf_s10 hC) kz) ?_
      rw [hN.at]
      refine WQ.st (fun _ _ kz => pw_iconst (v := 1) dX6_readAtom_28 (by decide) kz) ?_
      refine WQ.st (fun _ _ kz => pw_iadd dX6_readAtom_29 kz) ?_
      rw [nI_1]
      refine WQ.st (fun _ _ kz => pw_puti (pX6_31 _ rfl) dX6_readAtom_30 (cf_s10 hC) rfl rfl kz) ?_
      refine WQ.st (fun _ _ kz => pw_aload0 dX6_readAtom_33 kz) ?_
      refine WQ.st (fun _ _ kz => pw_iconst (v := 2) dX6_readAtom_34 (by decide) kz) ?_
      refine WQ.st (fun _ _ kz => pw_iload1 dX6_readAtom_35 kz) ?_
      refine WQ.st (fun _ _ kz => pw_iconst (v := 1) dX6_readAtom_36 (by decide) kz) ?_
      refine WQ.st (fun _ _ kz => pw_iadd dX6_readAtom_37 kz) ?_
      rw [nI_1]
      refine wq_o2i wX6_readChain lX6_170 rfl dX6_readAtom_38 (cf_s10 hC) (h2 (i + 1) (dep + 1) pre d (m - 1) _ A D (by omega) (by omega) (hN.go hlt) (g1.lw ha hW) b1 (by omega)) rfl (Nat.le_of_ble_eq_true rfl) (Nat.le_of_ble_eq_true rfl) (fun h38 z38 => ?_)
      obtain ⟨V2, A2, rfl, z2, f2⟩ := z38
      have pk := True.intro
      generalize hr : ps (TK x L) (TV x L) (TPl x L) n 2 (i + 1) (dep + 1) (pre ++ d) = r at *
      cases r with
      | error e =>
        rw [PR.at_er]
        refine WQ.br (fun _ _ ka kb => pw_if_eq (tgt := 57) dX6_readAtom_41 (by decide) ka kb) (fun c41 => ?_) (fun c41 => absurd okB_e c41)
        refine WQ.st (fun _ _ kz => pw_iconst (v := 0) dX6_readAtom_57 (by decide) kz) ?_
        refine ⟨_, _, pw_iret dX6_readAtom_58 rfl rfl rfl rfl, ?_⟩
        exact ⟨rfl, V2, A2, rfl, z2, f1.tr f2⟩
      | ok s =>
        rw [PR.at_ok]
        obtain ⟨n2, d2, e2, w2⟩ := z2
        refine WQ.br (fun _ _ ka kb => pw_if_eq (tgt := 57) dX6_readAtom_41 (by decide) ka kb) (fun c41 => absurd c41 okB_k) (fun c41 => ?_)
        refine WQ.st (fun _ _ kz => pw_aload0 dX6_readAtom_44 kz) ?_
        refine WQ.st (fun _ _ kz => pw_bipush (v := 41) dX6_readAtom_45 (by decide) kz) ?_
        refine wq_o1i wX6_take lX6_63 rfl dX6_readAtom_47 (cf_s10 hC) ((k_rtake (d := 0) hC n2 hT (k := 36) (y := 41) (by unfold tkO; omega) (by decide +kernel) (by omega)).mn (by omega)) rfl (Nat.le_of_ble_eq_true rfl) (Nat.le_of_ble_eq_true rfl) (fun h47 z47 => ?_)
        obtain ⟨V3, rfl, g3, e3, f3⟩ := z47
        refine WQ.br (fun _ _ ka kb => pw_if_eq (tgt := 57) dX6_readAtom_50 (by decide) ka kb) (fun c50 => ?_) (fun c50 => ?_)
        · rw [bI_0] at c50
          have c50 := of_decide_eq_false c50
          rw [if_neg c50]
          refine WQ.st (fun _ _ kz => pw_iconst (v := 0) dX6_readAtom_57 (by decide) kz) ?_
          refine ⟨_, _, pw_iret dX6_readAtom_58 rfl rfl rfl rfl, ?_⟩
          exact ⟨rfl, V3, A2, rfl, e3 c50, (f1.tr f2).tr f3.fa⟩
        · rw [bI_n] at c50
          have c50 := of_decide_eq_true c50
          rw [if_pos c50]
          refine WQ.st (fun _ _ kz => pw_iconst (v := 1) dX6_readAtom_53 (by decide) kz) ?_
          refine WQ.st (fun _ _ kz => pw_goto (tgt := 58) dX6_readAtom_54 (by decide) kz) ?_
          refine ⟨_, _, pw_iret dX6_readAtom_58 rfl rfl rfl rfl, ?_⟩
          exact ⟨rfl, V3, A2, rfl, ⟨g3 c50, d2, e2, f3.lw ha w2⟩, (f1.tr f2).tr f3.fa⟩
    · rw [lt_i (ix_n (by omega)) (show (6 : Int32).toInt = 6 from rfl)] at c14
      rw [if_pos (by omega)]
      refine WQ.st (fun _ _ kz => pw_aload0 dX6_readAtom_17 kz) ?_
      refine WQ.st (fun _ _ kz => pw_iconst (v := 4) dX6_readAtom_18 (by decide) kz) ?_
      refine wq_o1i wX6_faulty lX6_117 rfl dX6_readAtom_19 (cf_s10 hC) (k_faulty hC hN _) rfl (Nat.le_of_ble_eq_true rfl) (Nat.le_of_ble_eq_true rfl) (fun h19 z19 => ?_)
      obtain ⟨V1, rfl, e1, f1⟩ := z19
      refine ⟨_, _, pw_iret dX6_readAtom_22 rfl rfl rfl rfl, ?_⟩
      exact ⟨rfl, V1, A, rfl, e1, f1.fa⟩
