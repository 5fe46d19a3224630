theorem SG.st {V A : sV} {u p : Nat} {F : Nat → Int32} {y : Int32} (h : SG V A u F) (hp : p < 5) : SG V (up2 A (u + 3) p y) u (pm_up F (77 + p) y) := by
  obtain ⟨h1, h2, h3, h4, h5, h6⟩ := h
  refine ⟨?_, ?_, fun i hi => ?_, fun i hi => ?_, fun i hi => ?_, fun i hi => ?_⟩
  · rw [pm_up_ne (by omega)]; exact h1
  · rw [pm_up_ne (by omega)]; exact h2
  · rw [up2_na (by omega), pm_up_ne (by omega)]; exact h3 i hi
  · rw [up2_na (by omega), pm_up_ne (by omega)]; exact h4 i hi
  · by_cases g : i = p
    · subst g
      rw [up2_eq, pm_up_eq]
    · rw [up2_nk g, pm_up_ne (by omega)]; exact h5 i hi
  · rw [up2_na (by omega), pm_up_ne (by omega)]; exact h6 i hi
theorem SG.tm {V A : sV} {u p : Nat} {F : Nat → Int32} {y : Int32} (h : SG V A u F) (hp : p < 5) : SG V (up2 A (u + 4) p y) u (pm_up F (87 + p) y) := by
  obtain ⟨h1, h2, h3, h4, h5, h6⟩ := h
  refine ⟨?_, ?_, fun i hi => ?_, fun i hi => ?_, fun i hi => ?_, fun i hi => ?_⟩
  · rw [pm_up_ne (by omega)]; exact h1
  · rw [pm_up_ne (by omega)]; exact h2
  · rw [up2_na (by omega), pm_up_ne (by omega)]; exact h3 i hi
  · rw [up2_na (by omega), pm_up_ne (by omega)]; exact h4 i hi
  · rw [up2_na (by omega), pm_up_ne (by omega)]; exact h5 i hi
  · by_cases g : i = p
    · subst g
      rw [up2_eq, pm_up_eq]
    · rw [up2_nk g, pm_up_ne (by omega)]; exact h6 i hi
set_option maxRecDepth 20000 in
theorem l_krf {G : gT} {S : sS} {P : sP} {B : sB} {Q : sP} {t sl u : Nat} (hC : CF S P) (hU : SH S P u) (hp9 : P 10 9 = some u) (hu : 87 ≤ u) {x : Nat → Int32} {L T : Nat} (hT : TK x L T = 24) {p : Nat} (hp : p < 5) {D : Nat} (hD : 20 ≤ D) : ∀ (n j : Nat) (F : Nat → Int32) (V A : sV) (k : Nat) {y : Option Value}, T - j < n → k ≤ j → KN x L T j V A → SG V A u F → WQ G D mX6_readPlayer 44 [some (.ref 10), some (.int (nI p)), some (.int (nI k)), y] [] (t, sl, gh S V P A B Q) (KZR x L T u S P B Q t sl (rfL (TK x L) (TV x L) (TPl x L) p n j F) V A) := by
  intro n
  induction n with
  | zero => intro j F V A k y hn; omega
  | succ n ih =>
    intro j F V A k y hn hk hN hG
    have hjT := hN.le
    have ht9 := hN.t9
    obtain ⟨D, rfl⟩ : ∃ D', D = D' + 1 := ⟨D - 1, by omega⟩
    refine WQ.st (fun _ _ kz => pw_iload2 dX6_readPlayer_44 kz) ?_
    refine WQ.st (fun _ _ kz => pw_sipush (v := 900) dX6_readPlayer_45 (by decide) kz) ?_
    refine WQ.br (fun _ _ ka kb => pw_icmp_ge (tgt := 156) dX6_readPlayer_48 (by decide) ka kb) (fun c48 => ?_) (fun c48 => ?_)
    · rw [le_i (show (900 : Int32).toInt = 900 from rfl) (ix_n (by omega))] at c48
      have h24 : TK x L j = 24 := by rw [show j = T by omega]; exact hT
      rw [rfL, if_neg (by omega), if_neg (by omega), if_neg (by omega)]
      refine WQ.st (fun _ _ kz => pw_iconst (v := 1) dX6_readPlayer_156 (by decide) kz) ?_
      refine ⟨_, _, pw_iret dX6_readPlayer_157 rfl rfl rfl rfl, ?_⟩
      exact ⟨rfl, V, A, rfl, ⟨hN, hG⟩, FRQ.rfl⟩
    · refine WQ.st (fun _ _ kz => pw_aload0 dX6_readPlayer_51 kz) ?_
      refine wq_o0i wX6_kind lX6_70 rfl dX6_readPlayer_52 (cf_s10 hC) (k_kind hC hN) rfl (Nat.le_of_ble_eq_true rfl) (Nat.le_of_ble_eq_true rfl) (fun h52 z52 => ?_)
      subst z52
      refine wq_s1i wX6_isFlag lX6_158 dX6_readPlayer_55 (k_isFlag TK_o) rfl (Nat.le_of_ble_eq_true rfl) (Nat.le_of_ble_eq_true rfl) (fun h55 z55 => ?_)
      subst z55
      refine WQ.br (fun _ _ ka kb => pw_if_eq (tgt := 156) dX6_readPlayer_58 (by decide) ka kb) (fun c58 => ?_) (fun c58 => ?_)
      · rw [bI_0] at c58
        have c58 := of_decide_eq_false c58
        rw [rfL, if_neg (fun q => c58 (Or.inl q)), if_neg (fun q => c58 (Or.inr (Or.inl q))), if_neg (fun q => c58 (Or.inr (Or.inr q)))]
        refine WQ.st (fun _ _ kz => pw_iconst (v := 1) dX6_readPlayer_156 (by decide) kz) ?_
        refine ⟨_, _, pw_iret dX6_readPlayer_157 rfl rfl rfl rfl, ?_⟩
        exact ⟨rfl, V, A, rfl, ⟨hN, hG⟩, FRQ.rfl⟩
      · rw [bI_n] at c58
        have c58 := of_decide_eq_true c58
        rcases c58 with hud | hud | hud
        · have hlt := lt_T hT hjT hud (by omega)
          rw [rfL, if_pos hud]
          unfold numR
          refine WQ.st (fun _ _ kz => pw_aload0 dX6_readPlayer_61 kz) ?_
          refine wq_o0i wX6_kind lX6_70 rfl dX6_readPlayer_62 (cf_s10 hC) (k_kind hC hN) rfl (Nat.le_of_ble_eq_true rfl) (Nat.le_of_ble_eq_true rfl) (fun h62 z62 => ?_)
          subst z62
          refine WQ.st (fun _ _ kz => pw_istore3 dX6_readPlayer_65 (by decide) (k := kz)) ?_
          refine WQ.st (fun _ _ kz => pw_aload0 dX6_readPlayer_66 kz) ?_
          refine WQ.st (fun _ _ kz => pw_dup dX6_readPlayer_67 rfl kz) ?_
          refine WQ.st (fun _ _ kz => pw_geti gX6_31 dX6_readPlayer_68 (cf_s10 hC) kz) ?_
          rw [hN.at]
          refine WQ.st (fun _ _ kz => pw_iconst (v := 1) dX6_readPlayer_71 (by decide) kz) ?_
          refine WQ.st (fun _ _ kz => pw_iadd dX6_readPlayer_72 kz) ?_
          rw [nI_1]
          refine WQ.st (fun _ _ kz => pw_puti (pX6_31 _ rfl) dX6_readPlayer_73 (cf_s10 hC) rfl rfl kz) ?_
          have g1 : FRK V (up2 V 10 6 (nI (j + 1))) := FRK.up (by omega)
          refine WQ.st (fun _ _ kz => pw_aload0 dX6_readPlayer_76 kz) ?_
          refine WQ.st (fun _ _ kz => pw_iload3 dX6_readPlayer_77 kz) ?_
          refine WQ.st (fun _ _ kz => pw_sipush (v := 201) dX6_readPlayer_78 (by decide) kz) ?_
          refine WQ.bn (fun _ _ ka kb => pw_icmp_ne (tgt := 89) dX6_readPlayer_81 (by decide) ka kb) (fun c81 => ?_) (fun c81 => absurd c81 (fun q => by have := (cc_i (TK_o (x := x) (L := L) (i := j)) (show tkO 7 by unfold tkO; omega) (by decide +kernel)).mp q; omega))
          refine WQ.st (fun _ _ kz => pw_bipush (v := 20) dX6_readPlayer_89 (by decide) kz) ?_
          refine wq_o1i wX6_takeNumber lX6_139 rfl dX6_readPlayer_91 (cf_s10 hC) ((k_takeNumber (d := 0) (hi := 20) hC (hN.go hlt) hT (by omega)).mn (by omega)) rfl (Nat.le_of_ble_eq_true rfl) (Nat.le_of_ble_eq_true rfl) (fun h91 z91 => ?_)
          obtain ⟨V2, rfl, g2, e2, f2⟩ := z91
          refine WQ.bn (fun _ _ ka kb => pw_if_ne (tgt := 99) dX6_readPlayer_94 (by decide) ka kb) (fun c94 => ?_) (fun c94 => ?_)
          · rw [bI_n] at c94
            have c94 := of_decide_eq_true c94
            have n2 := g2 c94
            rw [if_pos c94.1, if_pos c94.2]
            refine WQ.st (fun _ _ kz => pw_iload3 dX6_readPlayer_99 kz) ?_
            refine WQ.st (fun _ _ kz => pw_sipush (v := 201) dX6_readPlayer_100 (by decide) kz) ?_
            refine WQ.bn (fun _ _ ka kb => pw_icmp_ne (tgt := 122) dX6_readPlayer_103 (by decide) ka kb) (fun c103 => ?_) (fun c103 => absurd c103 (fun q => by have := (cc_i (TK_o (x := x) (L := L) (i := j)) (show tkO 7 by unfold tkO; omega) (by decide +kernel)).mp q; omega))
            refine WQ.st (fun _ _ kz => pw_aload0 dX6_readPlayer_122 kz) ?_
            refine WQ.st (fun _ _ kz => pw_getr gX6_41 dX6_readPlayer_123 (cf_s10 hC) hp9 kz) ?_
            refine WQ.st (fun _ _ kz => pw_getr gX6_164 dX6_readPlayer_126 (sh_s0 hU) (sh_p0_2 hU) kz) ?_
            refine WQ.st (fun _ _ kz => pw_iload1 dX6_readPlayer_129 kz) ?_
            refine WQ.st (fun _ _ kz => pw_iload3 dX6_readPlayer_130 kz) ?_
            refine WQ.st (fun _ _ kz => pw_sipush (v := 215) dX6_readPlayer_131 (by decide) kz) ?_
            refine WQ.bn (fun _ _ ka kb => pw_icmp_ne (tgt := 144) dX6_readPlayer_134 (by decide) ka kb) (fun c134 => absurd ((cc_i (TK_o (x := x) (L := L) (i := j)) (show tkO 5 by unfold tkO; omega) (by decide +kernel)).mpr hud) c134) (fun c134 => ?_)
            refine WQ.st (fun _ _ kz => pw_aload0 dX6_readPlayer_137 kz) ?_
            refine wq_o0i wX6_taken lX6_142 rfl dX6_readPlayer_138 (cf_s10 hC) (k_taken hC n2 c94.1) rfl (Nat.le_of_ble_eq_true rfl) (Nat.le_of_ble_eq_true rfl) (fun h138 z138 => ?_)
            subst z138
            refine WQ.st (fun _ _ kz => pw_goto (tgt := 149) dX6_readPlayer_141 (by decide) kz) ?_
            refine WQ.st (fun _ _ kz => pw_ast (j := p) dX6_readPlayer_149 (sh_s3 hU) (ix_n (by omega)) (by omega)  kz) ?_
            refine WQ.st (fun _ _ kz => pw_iinc2 (v := 1) dX6_readPlayer_150 (by decide) (by decide) (k := kz)) ?_
            rw [nI_1]
            refine WQ.st (fun _ _ kz => pw_goto (tgt := 44) dX6_readPlayer_153 (by decide) kz) ?_
            have sg1 := (hG.fk (by omega) (g1.tr f2)).st (y := (TV x L (j + 1))) hp
            have kn1 : KN x L T (j + 2) V2 (up2 A (u + 3) p (TV x L (j + 1))) := n2.fr rfl (by rw [up2_na (by omega)]) (by rw [up2_na (by omega)]) (by rw [up2_na (by omega)])
            have fr1 : FRQ u V A V2 (up2 A (u + 3) p (TV x L (j + 1))) := ⟨(g1.tr f2).1, (g1.tr f2).2, fun b' h1 h2 h3 h4 => by rw [up2_na h3]⟩
            exact (ih (j + 2) _ V2 _ (k + 1) (by omega) (by omega) kn1 sg1).kr fr1
          · rw [bI_0] at c94
            have c94 := of_decide_eq_false c94
            have e2 := e2 c94
            unfold tkE2 at e2
            refine WQ.st (fun _ _ kz => pw_iconst (v := 0) dX6_readPlayer_97 (by decide) kz) ?_
            refine ⟨_, _, pw_iret dX6_readPlayer_98 rfl rfl rfl rfl, ?_⟩
            by_cases c23 : TK x L (j + 1) = 23
            · rw [if_pos c23] at e2 ⊢
              rw [if_neg (fun q => c94 ⟨c23, q⟩)]
              exact ⟨rfl, V2, A, rfl, e2, (g1.tr f2).fq⟩
            · rw [if_neg c23] at e2 ⊢
              exact ⟨rfl, V2, A, rfl, e2, (g1.tr f2).fq⟩
        · have hlt := lt_T hT hjT hud (by omega)
          rw [rfL, if_neg (show ¬ TK x L j = 5 by omega), if_pos hud]
          unfold numR
          refine WQ.st (fun _ _ kz => pw_aload0 dX6_readPlayer_61 kz) ?_
          refine wq_o0i wX6_kind lX6_70 rfl dX6_readPlayer_62 (cf_s10 hC) (k_kind hC hN) rfl (Nat.le_of_ble_eq_true rfl) (Nat.le_of_ble_eq_true rfl) (fun h62 z62 => ?_)
          subst z62
          refine WQ.st (fun _ _ kz => pw_istore3 dX6_readPlayer_65 (by decide) (k := kz)) ?_
          refine WQ.st (fun _ _ kz => pw_aload0 dX6_readPlayer_66 kz) ?_
          refine WQ.st (fun _ _ kz => pw_dup dX6_readPlayer_67 rfl kz) ?_
          refine WQ.st (fun _ _ kz => pw_geti gX6_31 dX6_readPlayer_68 (cf_s10 hC) kz) ?_
          rw [hN.at]
          refine WQ.st (fun _ _ kz => pw_iconst (v := 1) dX6_readPlayer_71 (by decide) kz) ?_
          refine WQ.st (fun _ _ kz => pw_iadd dX6_readPlayer_72 kz) ?_
          rw [nI_1]
          refine WQ.st (fun _ _ kz => pw_puti (pX6_31 _ rfl) dX6_readPlayer_73 (cf_s10 hC) rfl rfl kz) ?_
          have g1 : FRK V (up2 V 10 6 (nI (j + 1))) := FRK.up (by omega)
          refine WQ.st (fun _ _ kz => pw_aload0 dX6_readPlayer_76 kz) ?_
          refine WQ.st (fun _ _ kz => pw_iload3 dX6_readPlayer_77 kz) ?_
          refine WQ.st (fun _ _ kz => pw_sipush (v := 201) dX6_readPlayer_78 (by decide) kz) ?_
          refine WQ.bn (fun _ _ ka kb => pw_icmp_ne (tgt := 89) dX6_readPlayer_81 (by decide) ka kb) (fun c81 => ?_) (fun c81 => absurd c81 (fun q => by have := (cc_i (TK_o (x := x) (L := L) (i := j)) (show tkO 7 by unfold tkO; omega) (by decide +kernel)).mp q; omega))
          refine WQ.st (fun _ _ kz => pw_bipush (v := 20) dX6_readPlayer_89 (by decide) kz) ?_
          refine wq_o1i wX6_takeNumber lX6_139 rfl dX6_readPlayer_91 (cf_s10 hC) ((k_takeNumber (d := 0) (hi := 20) hC (hN.go hlt) hT (by omega)).mn (by omega)) rfl (Nat.le_of_ble_eq_true rfl) (Nat.le_of_ble_eq_true rfl) (fun h91 z91 => ?_)
          obtain ⟨V2, rfl, g2, e2, f2⟩ := z91
          refine WQ.bn (fun _ _ ka kb => pw_if_ne (tgt := 99) dX6_readPlayer_94 (by decide) ka kb) (fun c94 => ?_) (fun c94 => ?_)
          · rw [bI_n] at c94
            have c94 := of_decide_eq_true c94
            have n2 := g2 c94
            rw [if_pos c94.1, if_pos c94.2]
            refine WQ.st (fun _ _ kz => pw_iload3 dX6_readPlayer_99 kz) ?_
            refine WQ.st (fun _ _ kz => pw_sipush (v := 201) dX6_readPlayer_100 (by decide) kz) ?_
            refine WQ.bn (fun _ _ ka kb => pw_icmp_ne (tgt := 122) dX6_readPlayer_103 (by decide) ka kb) (fun c103 => ?_) (fun c103 => absurd c103 (fun q => by have := (cc_i (TK_o (x := x) (L := L) (i := j)) (show tkO 7 by unfold tkO; omega) (by decide +kernel)).mp q; omega))
            refine WQ.st (fun _ _ kz => pw_aload0 dX6_readPlayer_122 kz) ?_
            refine WQ.st (fun _ _ kz => pw_getr gX6_41 dX6_readPlayer_123 (cf_s10 hC) hp9 kz) ?_
            refine WQ.st (fun _ _ kz => pw_getr gX6_164 dX6_readPlayer_126 (sh_s0 hU) (sh_p0_2 hU) kz) ?_
            refine WQ.st (fun _ _ kz => pw_iload1 dX6_readPlayer_129 kz) ?_
            refine WQ.st (fun _ _ kz => pw_iload3 dX6_readPlayer_130 kz) ?_
            refine WQ.st (fun _ _ kz => pw_sipush (v := 215) dX6_readPlayer_131 (by decide) kz) ?_
            refine WQ.bn (fun _ _ ka kb => pw_icmp_ne (tgt := 144) dX6_readPlayer_134 (by decide) ka kb) (fun c134 => ?_) (fun c134 => absurd c134 (fun q => by have := (cc_i (TK_o (x := x) (L := L) (i := j)) (show tkO 5 by unfold tkO; omega) (by decide +kernel)).mp q; omega))
            refine WQ.st (fun _ _ kz => pw_aload0 dX6_readPlayer_144 kz) ?_
            refine wq_o0i wX6_taken lX6_142 rfl dX6_readPlayer_145 (cf_s10 hC) (k_taken hC n2 c94.1) rfl (Nat.le_of_ble_eq_true rfl) (Nat.le_of_ble_eq_true rfl) (fun h145 z145 => ?_)
            subst z145
            refine WQ.st (fun _ _ kz => pw_ineg dX6_readPlayer_148 kz) ?_
            refine WQ.st (fun _ _ kz => pw_ast (j := p) dX6_readPlayer_149 (sh_s3 hU) (ix_n (by omega)) (by omega)  kz) ?_
            refine WQ.st (fun _ _ kz => pw_iinc2 (v := 1) dX6_readPlayer_150 (by decide) (by decide) (k := kz)) ?_
            rw [nI_1]
            refine WQ.st (fun _ _ kz => pw_goto (tgt := 44) dX6_readPlayer_153 (by decide) kz) ?_
            have sg1 := (hG.fk (by omega) (g1.tr f2)).st (y := (-TV x L (j + 1))) hp
            have kn1 : KN x L T (j + 2) V2 (up2 A (u + 3) p (-TV x L (j + 1))) := n2.fr rfl (by rw [up2_na (by omega)]) (by rw [up2_na (by omega)]) (by rw [up2_na (by omega)])
            have fr1 : FRQ u V A V2 (up2 A (u + 3) p (-TV x L (j + 1))) := ⟨(g1.tr f2).1, (g1.tr f2).2, fun b' h1 h2 h3 h4 => by rw [up2_na h3]⟩
            exact (ih (j + 2) _ V2 _ (k + 1) (by omega) (by omega) kn1 sg1).kr fr1
          · rw [bI_0] at c94
            have c94 := of_decide_eq_false c94
            have e2 := e2 c94
            unfold tkE2 at e2
            refine WQ.st (fun _ _ kz => pw_iconst (v := 0) dX6_readPlayer_97 (by decide) kz) ?_
            refine ⟨_, _, pw_iret dX6_readPlayer_98 rfl rfl rfl rfl, ?_⟩
            by_cases c23 : TK x L (j + 1) = 23
            · rw [if_pos c23] at e2 ⊢
              rw [if_neg (fun q => c94 ⟨c23, q⟩)]
              exact ⟨rfl, V2, A, rfl, e2, (g1.tr f2).fq⟩
            · rw [if_neg c23] at e2 ⊢
              exact ⟨rfl, V2, A, rfl, e2, (g1.tr f2).fq⟩
        · have hlt := lt_T hT hjT hud (by omega)
          rw [rfL, if_neg (show ¬ TK x L j = 5 by omega), if_neg (show ¬ TK x L j = 6 by omega), if_pos hud]
          unfold numR
          refine WQ.st (fun _ _ kz => pw_aload0 dX6_readPlayer_61 kz) ?_
          refine wq_o0i wX6_kind lX6_70 rfl dX6_readPlayer_62 (cf_s10 hC) (k_kind hC hN) rfl (Nat.le_of_ble_eq_true rfl) (Nat.le_of_ble_eq_true rfl) (fun h62 z62 => ?_)
          subst z62
          refine WQ.st (fun _ _ kz => pw_istore3 dX6_readPlayer_65 (by decide) (k := kz)) ?_
          refine WQ.st (fun _ _ kz => pw_aload0 dX6_readPlayer_66 kz) ?_
          refine WQ.st (fun _ _ kz => pw_dup dX6_readPlayer_67 rfl kz) ?_
          refine WQ.st (fun _ _ kz => pw_geti gX6_31 dX6_readPlayer_68 (cf_s10 hC) kz) ?_
          rw [hN.at]
          refine WQ.st (fun _ _ kz => pw_iconst (v := 1) dX6_readPlayer_71 (by decide) kz) ?_
          refine WQ.st (fun _ _ kz => pw_iadd dX6_readPlayer_72 kz) ?_
          rw [nI_1]
          refine WQ.st (fun _ _ kz => pw_puti (pX6_31 _ rfl) dX6_readPlayer_73 (cf_s10 hC) rfl rfl kz) ?_
          have g1 : FRK V (up2 V 10 6 (nI (j + 1))) := FRK.up (by omega)
          refine WQ.st (fun _ _ kz => pw_aload0 dX6_readPlayer_76 kz) ?_
          refine WQ.st (fun _ _ kz => pw_iload3 dX6_readPlayer_77 kz) ?_
          refine WQ.st (fun _ _ kz => pw_sipush (v := 201) dX6_readPlayer_78 (by decide) kz) ?_
          refine WQ.bn (fun _ _ ka kb => pw_icmp_ne (tgt := 89) dX6_readPlayer_81 (by decide) ka kb) (fun c81 => absurd ((cc_i (TK_o (x := x) (L := L) (i := j)) (show tkO 7 by unfold tkO; omega) (by decide +kernel)).mpr hud) c81) (fun c81 => ?_)
          refine WQ.st (fun _ _ kz => pw_bipush (v := 9) dX6_readPlayer_84 (by decide) kz) ?_
          refine WQ.st (fun _ _ kz => pw_goto (tgt := 91) dX6_readPlayer_86 (by decide) kz) ?_
          refine wq_o1i wX6_takeNumber lX6_139 rfl dX6_readPlayer_91 (cf_s10 hC) ((k_takeNumber (d := 0) (hi := 9) hC (hN.go hlt) hT (by omega)).mn (by omega)) rfl (Nat.le_of_ble_eq_true rfl) (Nat.le_of_ble_eq_true rfl) (fun h91 z91 => ?_)
          obtain ⟨V2, rfl, g2, e2, f2⟩ := z91
          refine WQ.bn (fun _ _ ka kb => pw_if_ne (tgt := 99) dX6_readPlayer_94 (by decide) ka kb) (fun c94 => ?_) (fun c94 => ?_)
          · rw [bI_n] at c94
            have c94 := of_decide_eq_true c94
            have n2 := g2 c94
            rw [if_pos c94.1, if_pos c94.2]
            refine WQ.st (fun _ _ kz => pw_iload3 dX6_readPlayer_99 kz) ?_
            refine WQ.st (fun _ _ kz => pw_sipush (v := 201) dX6_readPlayer_100 (by decide) kz) ?_
            refine WQ.bn (fun _ _ ka kb => pw_icmp_ne (tgt := 122) dX6_readPlayer_103 (by decide) ka kb) (fun c103 => absurd ((cc_i (TK_o (x := x) (L := L) (i := j)) (show tkO 7 by unfold tkO; omega) (by decide +kernel)).mpr hud) c103) (fun c103 => ?_)
            refine WQ.st (fun _ _ kz => pw_aload0 dX6_readPlayer_106 kz) ?_
            refine WQ.st (fun _ _ kz => pw_getr gX6_41 dX6_readPlayer_107 (cf_s10 hC) hp9 kz) ?_
            refine WQ.st (fun _ _ kz => pw_getr gX6_161 dX6_readPlayer_110 (sh_s0 hU) (sh_p0_3 hU) kz) ?_
            refine WQ.st (fun _ _ kz => pw_iload1 dX6_readPlayer_113 kz) ?_
            refine WQ.st (fun _ _ kz => pw_aload0 dX6_readPlayer_114 kz) ?_
            refine wq_o0i wX6_taken lX6_142 rfl dX6_readPlayer_115 (cf_s10 hC) (k_taken hC n2 c94.1) rfl (Nat.le_of_ble_eq_true rfl) (Nat.le_of_ble_eq_true rfl) (fun h115 z115 => ?_)
            subst z115
            refine WQ.st (fun _ _ kz => pw_ast (j := p) dX6_readPlayer_118 (sh_s4 hU) (ix_n (by omega)) (by omega)  kz) ?_
            refine WQ.st (fun _ _ kz => pw_goto (tgt := 150) dX6_readPlayer_119 (by decide) kz) ?_
            refine WQ.st (fun _ _ kz => pw_iinc2 (v := 1) dX6_readPlayer_150 (by decide) (by decide) (k := kz)) ?_
            rw [nI_1]
            refine WQ.st (fun _ _ kz => pw_goto (tgt := 44) dX6_readPlayer_153 (by decide) kz) ?_
            have sg1 := (hG.fk (by omega) (g1.tr f2)).tm (y := (TV x L (j + 1))) hp
            have kn1 : KN x L T (j + 2) V2 (up2 A (u + 4) p (TV x L (j + 1))) := n2.fr rfl (by rw [up2_na (by omega)]) (by rw [up2_na (by omega)]) (by rw [up2_na (by omega)])
            have fr1 : FRQ u V A V2 (up2 A (u + 4) p (TV x L (j + 1))) := ⟨(g1.tr f2).1, (g1.tr f2).2, fun b' h1 h2 h3 h4 => by rw [up2_na h4]⟩
            exact (ih (j + 2) _ V2 _ (k + 1) (by omega) (by omega) kn1 sg1).kr fr1
          · rw [bI_0] at c94
            have c94 := of_decide_eq_false c94
            have e2 := e2 c94
            unfold tkE2 at e2
            refine WQ.st (fun _ _ kz => pw_iconst (v := 0) dX6_readPlayer_97 (by decide) kz) ?_
            refine ⟨_, _, pw_iret dX6_readPlayer_98 rfl rfl rfl rfl, ?_⟩
            by_cases c23 : TK x L (j + 1) = 23
            · rw [if_pos c23] at e2 ⊢
              rw [if_neg (fun q => c94 ⟨c23, q⟩)]
              exact ⟨rfl, V2, A, rfl, e2, (g1.tr f2).fq⟩
            · rw [if_neg c23] at e2 ⊢
              exact ⟨rfl, V2, A, rfl, e2, (g1.tr f2).fq⟩
