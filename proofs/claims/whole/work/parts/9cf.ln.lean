theorem rl_o : ∀ k, k < 42 → (decide (k = 1) || decide (k = 4) || decide (k = 8) || decide (k = 9) || decide (k = 10) || decide (k = 0) || decide (k = 12) || decide (k = 13) || decide (k = 14) || decide (k = 15) || decide (k = 16) || !tkOb k || decide ((ccK k).toInt < 202) || decide (212 < (ccK k).toInt)) = true := by decide +kernel
theorem rl_out (k : Nat) (h : k < 42) (ho : tkOb k = true) (h1 : k ≠ 1) (h4 : k ≠ 4) (h8 : k ≠ 8) (h9 : k ≠ 9) (h10 : k ≠ 10) (h0 : k ≠ 0) (h12 : k ≠ 12) (h13 : k ≠ 13) (h14 : k ≠ 14) (h15 : k ≠ 15) (h16 : k ≠ 16) : (ccK k).toInt < 202 ∨ 212 < (ccK k).toInt := by
  have := rl_o k h
  rw [ho, decide_eq_false h1, decide_eq_false h4, decide_eq_false h8, decide_eq_false h9, decide_eq_false h10, decide_eq_false h0, decide_eq_false h12, decide_eq_false h13, decide_eq_false h14, decide_eq_false h15, decide_eq_false h16] at this
  simpa using this
theorem lnF_bad {K : Nat → Nat} {Vl : Nat → Int32} {Pl : Nat → Nat} {T i : Nat} {F : Nat → Int32} {c : List Int32} (h1 : ¬ K i = 1) (h4 : ¬ K i = 4) (h8 : ¬ K i = 8) (h9 : ¬ K i = 9) (h10 : ¬ K i = 10) : lnF K Vl Pl T i F c = badL K Pl i 2 := by
  unfold lnF
  rw [if_neg h1, if_neg h4, if_neg h8, if_neg h9, if_neg h10]
set_option maxRecDepth 20000 in
theorem k_readLine {G : gT} {S : sS} {P : sP} {B : sB} {Q : sP} {t sl u : Nat} (hC : CF S P) (hU : SH S P u) (hp9 : P 10 9 = some u) (hu : 87 ≤ u) {x : Nat → Int32} {L T : Nat} (hT : TK x L T = 24) {i : Nat} {F : Nat → Int32} {c : List Int32} {V A : sV} (hS : KS x L T u i F c V A) (hI : IVF F c) (hB : RB T T i c) (hk : TK x L i ≠ 24) {D : Nat} (hD : 114 ≤ D) : WQ G D mX6_readLine 0 [some (.ref 10)] [] (t, sl, gh S V P A B Q) (KZL x L T u S B Q t sl (lnF (TK x L) (TV x L) (TPl x L) T i F c) V A P) := by
  have hN := hS.1
  obtain ⟨_, hG, h6, h7, hl0, hl1⟩ := id hS
  have hiT := hN.le
  have ht9 := hN.t9
  have hlt := lt_T hT hiT rfl hk
  obtain ⟨D, rfl⟩ : ∃ D', D = D' + 1 := ⟨D - 1, by omega⟩
  refine WQ.st (fun _ _ kz => pw_aload0 dX6_readLine_0 kz) ?_
  refine wq_o0i wX6_kind lX6_70 rfl dX6_readLine_1 (cf_s10 hC) (k_kind hC hN) rfl (Nat.le_of_ble_eq_true rfl) (Nat.le_of_ble_eq_true rfl) (fun h1 z1 => ?_)
  subst z1
  have K134 : lnF (TK x L) (TV x L) (TPl x L) T i F c = badL (TK x L) (TPl x L) i 2 → WQ G (D + 1) mX6_readLine 134 [some (.ref 10)] [] (t, sl, gh S V P A B Q) (KZL x L T u S B Q t sl (lnF (TK x L) (TV x L) (TPl x L) T i F c) V A P) := by
    intro hb
    rw [hb]
    refine WQ.st (fun _ _ kz => pw_aload0 dX6_readLine_134 kz) ?_
    refine wq_o0i wX6_cannotStand lX6_120 rfl dX6_readLine_135 (cf_s10 hC) ((k_cannotStand (d := 0) hC hN).mn (by omega)) rfl (Nat.le_of_ble_eq_true rfl) (Nat.le_of_ble_eq_true rfl) (fun h135 z135 => ?_)
    obtain ⟨V2, rfl, e2, f2⟩ := z135
    refine ⟨_, _, pw_iret dX6_readLine_138 rfl rfl rfl rfl, ?_⟩
    exact ⟨rfl, V2, A, P, rfl, e2, f2.fw⟩
  by_cases k1 : TK x L i = 1
  · refine WQ.st (fun _ _ kz => pw_tableIn (off := 60) (tgt := 64) dX6_readLine_4 (by rw [k1]; decide) (by rw [k1]; decide) (by rw [k1]; rfl) (by decide) kz) ?_
    unfold lnF
    rw [if_pos k1]
    refine WQ.st (fun _ _ kz => pw_aload0 dX6_readLine_64 kz) ?_
    refine wq_o0i wX6_readPiece lX6_123 rfl dX6_readLine_65 (cf_s10 hC) (k_readPiece hC hU hp9 hu hT hS hI k1 (D := D) (by omega)) rfl (Nat.le_of_ble_eq_true rfl) (Nat.le_of_ble_eq_true rfl) (fun h65 z65 => ?_)
    obtain ⟨V2, A2, P2, rfl, z2, f2⟩ := z65
    refine ⟨_, _, pw_iret dX6_readLine_68 rfl (bI_nar _) rfl rfl, ?_⟩
    exact ⟨rfl, V2, A2, P2, rfl, z2, f2⟩
  by_cases k4 : TK x L i = 4
  · refine WQ.st (fun _ _ kz => pw_tableIn (off := 65) (tgt := 69) dX6_readLine_4 (by rw [k4]; decide) (by rw [k4]; decide) (by rw [k4]; rfl) (by decide) kz) ?_
    unfold lnF
    rw [if_neg k1, if_pos k4]
    refine WQ.st (fun _ _ kz => pw_aload0 dX6_readLine_69 kz) ?_
    refine wq_o0i wX6_readPlayer lX6_126 rfl dX6_readLine_70 (cf_s10 hC) (k_readPlayer hC hU hp9 hu hT hS hI k4 (D := D) (by omega)) rfl (Nat.le_of_ble_eq_true rfl) (Nat.le_of_ble_eq_true rfl) (fun h70 z70 => ?_)
    obtain ⟨V2, A2, P2, rfl, z2, f2⟩ := z70
    refine ⟨_, _, pw_iret dX6_readLine_73 rfl (bI_nar _) rfl rfl, ?_⟩
    exact ⟨rfl, V2, A2, P2, rfl, z2, f2⟩
  by_cases k8 : TK x L i = 8
  · refine WQ.st (fun _ _ kz => pw_tableIn (off := 70) (tgt := 74) dX6_readLine_4 (by rw [k8]; decide) (by rw [k8]; decide) (by rw [k8]; rfl) (by decide) kz) ?_
    unfold lnF
    rw [if_neg k1, if_neg k4, if_pos k8]
    refine WQ.st (fun _ _ kz => pw_aload0 dX6_readLine_74 kz) ?_
    refine WQ.st (fun _ _ kz => pw_aload0 dX6_readLine_75 kz) ?_
    refine WQ.st (fun _ _ kz => pw_getr gX6_41 dX6_readLine_76 (cf_s10 hC) hp9 kz) ?_
    refine WQ.st (fun _ _ kz => pw_getr gX6_129 dX6_readLine_79 (sh_s0 hU) (sh_p0_4 hU) kz) ?_
    refine WQ.st (fun _ _ kz => pw_iconst (v := 2) dX6_readLine_82 (by decide) kz) ?_
    refine wq_o2i wX6_readLaw lX6_132 rfl dX6_readLine_83 (cf_s10 hC) (k_readLaw0 hC hU hp9 hu hT hS hI hB hk (D := D) (by omega)) rfl (Nat.le_of_ble_eq_true rfl) (Nat.le_of_ble_eq_true rfl) (fun h83 z83 => ?_)
    obtain ⟨V2, A2, P2, rfl, z2, f2⟩ := z83
    refine ⟨_, _, pw_iret dX6_readLine_86 rfl (bI_nar _) rfl rfl, ?_⟩
    exact ⟨rfl, V2, A2, P2, rfl, z2, f2⟩
  by_cases k9 : TK x L i = 9
  · refine WQ.st (fun _ _ kz => pw_tableIn (off := 83) (tgt := 87) dX6_readLine_4 (by rw [k9]; decide) (by rw [k9]; decide) (by rw [k9]; rfl) (by decide) kz) ?_
    unfold lnF
    rw [if_neg k1, if_neg k4, if_neg k8, if_pos k9]
    refine WQ.st (fun _ _ kz => pw_aload0 dX6_readLine_87 kz) ?_
    refine WQ.st (fun _ _ kz => pw_aload0 dX6_readLine_88 kz) ?_
    refine WQ.st (fun _ _ kz => pw_getr gX6_41 dX6_readLine_89 (cf_s10 hC) hp9 kz) ?_
    refine WQ.st (fun _ _ kz => pw_getr gX6_136 dX6_readLine_92 (sh_s0 hU) (sh_p0_5 hU) kz) ?_
    refine WQ.st (fun _ _ kz => pw_iconst (v := 0) dX6_readLine_95 (by decide) kz) ?_
    refine wq_o2i wX6_readLaw lX6_132 rfl dX6_readLine_96 (cf_s10 hC) (k_readLaw1 hC hU hp9 hu hT hS hI hB hk (D := D) (by omega)) rfl (Nat.le_of_ble_eq_true rfl) (Nat.le_of_ble_eq_true rfl) (fun h96 z96 => ?_)
    obtain ⟨V2, A2, P2, rfl, z2, f2⟩ := z96
    refine ⟨_, _, pw_iret dX6_readLine_99 rfl (bI_nar _) rfl rfl, ?_⟩
    exact ⟨rfl, V2, A2, P2, rfl, z2, f2⟩
  by_cases k10 : TK x L i = 10
  · refine WQ.st (fun _ _ kz => pw_tableIn (off := 96) (tgt := 100) dX6_readLine_4 (by rw [k10]; decide) (by rw [k10]; decide) (by rw [k10]; rfl) (by decide) kz) ?_
    unfold lnF
    rw [if_neg k1, if_neg k4, if_neg k8, if_neg k9, if_pos k10]
    unfold lnS numR
    refine WQ.st (fun _ _ kz => pw_aload0 dX6_readLine_100 kz) ?_
    refine WQ.st (fun _ _ kz => pw_dup dX6_readLine_101 rfl kz) ?_
    refine WQ.st (fun _ _ kz => pw_geti gX6_31 dX6_readLine_102 (cf_s10 hC) kz) ?_
    rw [hN.at]
    refine WQ.st (fun _ _ kz => pw_iconst (v := 1) dX6_readLine_105 (by decide) kz) ?_
    refine WQ.st (fun _ _ kz => pw_iadd dX6_readLine_106 kz) ?_
    rw [nI_1]
    refine WQ.st (fun _ _ kz => pw_puti (pX6_31 _ rfl) dX6_readLine_107 (cf_s10 hC) rfl rfl kz) ?_
    have g1 : FRK V (up2 V 10 6 (nI (i + 1))) := FRK.up (by omega)
    refine WQ.st (fun _ _ kz => pw_aload0 dX6_readLine_110 kz) ?_
    refine WQ.st (fun _ _ kz => pw_bipush (v := 10) dX6_readLine_111 (by decide) kz) ?_
    refine wq_o1i wX6_takeNumber lX6_139 rfl dX6_readLine_113 (cf_s10 hC) ((k_takeNumber (d := 0) (hi := 10) hC (hN.go hlt) hT (by omega)).mn (by omega)) rfl (Nat.le_of_ble_eq_true rfl) (Nat.le_of_ble_eq_true rfl) (fun h113 z113 => ?_)
    obtain ⟨V2, rfl, g2, e2, f2⟩ := z113
    refine WQ.bn (fun _ _ ka kb => pw_if_ne (tgt := 121) dX6_readLine_116 (by decide) ka kb) (fun c116 => ?_) (fun c116 => ?_)
    · rw [bI_n] at c116
      have c116 := of_decide_eq_true c116
      have n2 := g2 c116
      rw [if_pos c116.1, if_pos c116.2]
      refine WQ.st (fun _ _ kz => pw_aload0 dX6_readLine_121 kz) ?_
      refine WQ.st (fun _ _ kz => pw_getr gX6_41 dX6_readLine_122 (cf_s10 hC) hp9 kz) ?_
      refine WQ.st (fun _ _ kz => pw_aload0 dX6_readLine_125 kz) ?_
      refine wq_o0i wX6_taken lX6_142 rfl dX6_readLine_126 (cf_s10 hC) (k_taken hC n2 c116.1) rfl (Nat.le_of_ble_eq_true rfl) (Nat.le_of_ble_eq_true rfl) (fun h126 z126 => ?_)
      subst z126
      refine WQ.st (fun _ _ kz => pw_puti (pX6_145 _ rfl) dX6_readLine_129 (sh_s0 hU) rfl rfl kz) ?_
      refine WQ.st (fun _ _ kz => pw_iconst (v := 1) dX6_readLine_132 (by decide) kz) ?_
      refine ⟨_, _, pw_iret dX6_readLine_133 rfl rfl rfl rfl, ?_⟩
      have fk := g1.tr f2
      refine ⟨rfl, _, A, P, rfl, ⟨n2.fq (u := u) (by omega) (by rw [up2_na (by omega)]) (fun _ _ => rfl), ⟨up2_eq, ?_, ?_⟩, ?_, ?_, ?_, ?_⟩, fk.fw.tr (FRW.u (by omega))⟩
      · rw [up2_nk (by omega), fk.1 u (by omega)]
        show V u 9 = pm_up F 3 (TV x L (i + 1)) 0
        rw [pm_up_ne (by omega)]; exact hG.2.1
      · refine ⟨fun j hj => ?_, fun j hj => ?_, fun j hj => ?_, fun j hj => ?_⟩
        · show _ = pm_up F 3 (TV x L (i + 1)) (15 + j)
          rw [pm_up_ne (by omega)]; exact hG.2.2.1 j hj
        · show _ = pm_up F 3 (TV x L (i + 1)) (10 + j)
          rw [pm_up_ne (by omega)]; exact hG.2.2.2.1 j hj
        · show _ = pm_up F 3 (TV x L (i + 1)) (77 + j)
          rw [pm_up_ne (by omega)]; exact hG.2.2.2.2.1 j hj
        · show _ = pm_up F 3 (TV x L (i + 1)) (87 + j)
          rw [pm_up_ne (by omega)]; exact hG.2.2.2.2.2 j hj
      · show _ = pm_up F 3 (TV x L (i + 1)) 1
        rw [up2_nk (by omega), fk.1 u (by omega), pm_up_ne (by omega)]; exact h6
      · show _ = pm_up F 3 (TV x L (i + 1)) 2
        rw [up2_nk (by omega), fk.1 u (by omega), pm_up_ne (by omega)]; exact h7
      · obtain ⟨d, y1, y2⟩ := hl0
        exact ⟨d, (y1.fk fk (by omega)).fr (by rw [up2_na (by omega)]) rfl, y2.f0 (F' := pm_up F 3 (TV x L (i + 1))) (pm_up_ne (by omega)) (pm_up_ne (by omega)) (pm_up_ne (by omega))⟩
      · obtain ⟨d, y1, y2⟩ := hl1
        exact ⟨d, (y1.fk fk (by omega)).fr (by rw [up2_na (by omega)]) rfl, y2.f0 (F' := pm_up F 3 (TV x L (i + 1))) (pm_up_ne (by omega)) (pm_up_ne (by omega)) (pm_up_ne (by omega))⟩
    · rw [bI_0] at c116
      have c116 := of_decide_eq_false c116
      have e2 := e2 c116
      unfold tkE2 at e2
      refine WQ.st (fun _ _ kz => pw_iconst (v := 0) dX6_readLine_119 (by decide) kz) ?_
      refine ⟨_, _, pw_iret dX6_readLine_120 rfl rfl rfl rfl, ?_⟩
      by_cases c23 : TK x L (i + 1) = 23
      · rw [if_pos c23] at e2 ⊢
        rw [if_neg (fun q => c116 ⟨c23, q⟩)]
        exact ⟨rfl, V2, A, P, rfl, e2, (g1.tr f2).fw⟩
      · rw [if_neg c23] at e2 ⊢
        exact ⟨rfl, V2, A, P, rfl, e2, (g1.tr f2).fw⟩
  by_cases k0 : TK x L i = 0
  · refine WQ.st (fun _ _ kz => pw_tableIn (off := 130) (tgt := 134) dX6_readLine_4 (by rw [k0]; decide) (by rw [k0]; decide) (by rw [k0]; rfl) (by decide) kz) ?_
    exact K134 (lnF_bad k1 k4 k8 k9 k10)
  by_cases k12 : TK x L i = 12
  · refine WQ.st (fun _ _ kz => pw_tableIn (off := 130) (tgt := 134) dX6_readLine_4 (by rw [k12]; decide) (by rw [k12]; decide) (by rw [k12]; rfl) (by decide) kz) ?_
    exact K134 (lnF_bad k1 k4 k8 k9 k10)
  by_cases k13 : TK x L i = 13
  · refine WQ.st (fun _ _ kz => pw_tableIn (off := 130) (tgt := 134) dX6_readLine_4 (by rw [k13]; decide) (by rw [k13]; decide) (by rw [k13]; rfl) (by decide) kz) ?_
    exact K134 (lnF_bad k1 k4 k8 k9 k10)
  by_cases k14 : TK x L i = 14
  · refine WQ.st (fun _ _ kz => pw_tableIn (off := 130) (tgt := 134) dX6_readLine_4 (by rw [k14]; decide) (by rw [k14]; decide) (by rw [k14]; rfl) (by decide) kz) ?_
    exact K134 (lnF_bad k1 k4 k8 k9 k10)
  by_cases k15 : TK x L i = 15
  · refine WQ.st (fun _ _ kz => pw_tableIn (off := 130) (tgt := 134) dX6_readLine_4 (by rw [k15]; decide) (by rw [k15]; decide) (by rw [k15]; rfl) (by decide) kz) ?_
    exact K134 (lnF_bad k1 k4 k8 k9 k10)
  by_cases k16 : TK x L i = 16
  · refine WQ.st (fun _ _ kz => pw_tableIn (off := 130) (tgt := 134) dX6_readLine_4 (by rw [k16]; decide) (by rw [k16]; decide) (by rw [k16]; rfl) (by decide) kz) ?_
    exact K134 (lnF_bad k1 k4 k8 k9 k10)
  refine WQ.st (fun _ _ kz => pw_tableOut (tgt := 134) dX6_readLine_4 (rl_out _ (TK_lt x L i) (tkO_b TK_o) k1 k4 k8 k9 k10 k0 k12 k13 k14 k15 k16) (by decide) kz) ?_
  exact K134 (lnF_bad k1 k4 k8 k9 k10)
