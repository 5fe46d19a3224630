set_option maxRecDepth 20000 in
theorem l_cut {G : gT} {d : Nat} {S : sS} {P : sP} {B : sB} {Q : sP} {t sl : Nat} (hC : CF S P) {x : Nat → Int32} {L : Nat} {V0 A0 : sV} (hX0 : CTX x L V0 P A0) : ∀ (m p q n : Nat) (V A : sV) (y3 y4 : Option Value), p + m = L → q ≤ p → n ≤ p → p ≤ L → tkS x L p = tkS x L (tkP x L n) → KT x L n V A → (∀ j, j < n → TK x L j ≠ 24) → FRC V0 A0 V A → WQ G (d + 5) mX6_cut 9 [some (.ref 10), some (.int (nI p)), some (.int (nI q)), y3, y4] [] (t, sl, gh S V P A B Q) (fun r h' => r = none ∧ ∃ (n : Nat) (V' A' : sV), h' = (t, sl, gh S V' P A' B Q) ∧ KT x L (n + 1) V' A' ∧ TK x L n = 24 ∧ (∀ j, j < n → TK x L j ≠ 24) ∧ FRC V0 A0 V' A') := by
  intro m
  induction m using Nat.strongRecOn with
  | _ m ihm =>
  intro p q n V A y3 y4 hpm hqp hnp hpL hS hK hne hf
  have hX := hX0.fr hf
  have h9 := hX.l9
  by_cases hp2 : p < L
  · have ih : ∀ (p' q' n' : Nat) (V A : sV) (y3 y4 : Option Value), p < p' → q' ≤ p' → n' ≤ p' → p' ≤ L → tkS x L p' = tkS x L (tkP x L n') → KT x L n' V A → (∀ j, j < n' → TK x L j ≠ 24) → FRC V0 A0 V A → WQ G (d + 5) mX6_cut 9 [some (.ref 10), some (.int (nI p')), some (.int (nI q')), y3, y4] [] (t, sl, gh S V P A B Q) (fun r h' => r = none ∧ ∃ (n : Nat) (V' A' : sV), h' = (t, sl, gh S V' P A' B Q) ∧ KT x L (n + 1) V' A' ∧ TK x L n = 24 ∧ (∀ j, j < n → TK x L j ≠ 24) ∧ FRC V0 A0 V' A') := fun p' q' n' V A y3 y4 h1 h2 h3 h4 h5 h6 h7 h8 => ihm (L - p') (by omega) p' q' n' V A y3 y4 (by omega) h2 h3 h4 h5 h6 h7 h8
    refine WQ.st (fun _ _ kz => pw_iload2 dX6_cut_9 kz) ?_
    refine WQ.st (fun _ _ kz => pw_aload0 dX6_cut_10 kz) ?_
    refine WQ.st (fun _ _ kz => pw_geti gX6_38 dX6_cut_11 (cf_s10 hC) kz) ?_
    rw [hX.le]
    refine WQ.br (fun _ _ ka kb => pw_icmp_ge (tgt := 147) dX6_cut_14 (by decide) ka kb) (fun c14 => absurd c14 (by rw [le_i (ix_n (by omega)) (ix_n (by omega))]; omega)) (fun c14 => ?_)
    refine WQ.st (fun _ _ kz => pw_iload1 dX6_cut_17 kz) ?_
    refine WQ.st (fun _ _ kz => pw_aload0 dX6_cut_18 kz) ?_
    refine WQ.st (fun _ _ kz => pw_geti gX6_38 dX6_cut_19 (cf_s10 hC) kz) ?_
    rw [hX.le]
    refine WQ.br (fun _ _ ka kb => pw_icmp_ge (tgt := 147) dX6_cut_22 (by decide) ka kb) (fun c22 => absurd c22 (by rw [le_i (ix_n (by omega)) (ix_n (by omega))]; omega)) (fun c22 => ?_)
    refine WQ.st (fun _ _ kz => pw_aload0 dX6_cut_25 kz) ?_
    refine WQ.st (fun _ _ kz => pw_iload1 dX6_cut_26 kz) ?_
    refine wq_o1i wX6_signAt lX6_78 rfl dX6_cut_27 (cf_s10 hC) (k_signAt hC hX (by omega)) rfl (Nat.le_of_ble_eq_true rfl) (Nat.le_of_ble_eq_true rfl) (fun h27 z27 => ?_)
    subst z27
    rw [show sgT x L p = x p from if_pos (by omega)]
    refine WQ.st (fun _ _ kz => pw_istore3 dX6_cut_30 (by decide) (k := kz)) ?_
    refine WQ.st (fun _ _ kz => pw_iload1 dX6_cut_31 kz) ?_
    refine WQ.st (fun _ _ kz => pw_iconst (v := 1) dX6_cut_32 (by decide) kz) ?_
    refine WQ.st (fun _ _ kz => pw_iadd dX6_cut_33 kz) ?_
    rw [nI_1]
    refine WQ.st (fun _ _ kz => pw_istore4 dX6_cut_34 (by decide) (k := kz)) ?_
    refine WQ.st (fun _ _ kz => pw_iload3 dX6_cut_36 kz) ?_
    refine wq_s1i wX6_isLetter lX6_82 dX6_cut_37 (k_isLetter _) rfl (Nat.le_of_ble_eq_true rfl) (Nat.le_of_ble_eq_true rfl) (fun h37 z37 => ?_)
    subst z37
    refine WQ.br (fun _ _ ka kb => pw_if_eq (tgt := 66) dX6_cut_40 (by decide) ka kb) (fun c40 => ?_) (fun c40 => ?_)
    · rw [bI_0] at c40
      have c40 : ¬ isSmI (x p) = true := by rw [c40]; decide
      refine WQ.st (fun _ _ kz => pw_iload3 dX6_cut_66 kz) ?_
      refine wq_s1i wX6_isDigit lX6_95 dX6_cut_67 (k_isDigit _) rfl (Nat.le_of_ble_eq_true rfl) (Nat.le_of_ble_eq_true rfl) (fun h67 z67 => ?_)
      subst z67
      refine WQ.br (fun _ _ ka kb => pw_if_eq (tgt := 108) dX6_cut_70 (by decide) ka kb) (fun c70 => ?_) (fun c70 => ?_)
      · rw [bI_0] at c70
        have c70 : ¬ isDgI (x p) = true := by rw [c70]; decide
        refine WQ.st (fun _ _ kz => pw_iload3 dX6_cut_108 kz) ?_
        refine WQ.st (fun _ _ kz => pw_bipush (v := 32) dX6_cut_109 (by decide) kz) ?_
        refine WQ.br (fun _ _ ka kb => pw_icmp_eq (tgt := 138) dX6_cut_111 (by decide) ka kb) (fun c111 => ?_) (fun c111 => ?_)
        · refine WQ.st (fun _ _ kz => pw_iload4 dX6_cut_138 kz) ?_
          refine WQ.st (fun _ _ kz => pw_istore1 dX6_cut_140 (by decide) (k := kz)) ?_
          refine WQ.st (fun _ _ kz => pw_iinc2 (v := 1) dX6_cut_141 (by decide) (by decide) (k := kz)) ?_
          refine WQ.st (fun _ _ kz => pw_goto (tgt := 9) dX6_cut_144 (by decide) kz) ?_
          rw [nI_1]
          exact ih (p + 1) (q + 1) n _ _ _ _ (by omega) (by omega) (by omega) (by omega) ((tkS_bl hp2 (Or.inr c111)).symm.trans hS) hK hne hf
        · refine WQ.st (fun _ _ kz => pw_iload3 dX6_cut_114 kz) ?_
          refine WQ.st (fun _ _ kz => pw_bipush (v := 10) dX6_cut_115 (by decide) kz) ?_
          refine WQ.br (fun _ _ ka kb => pw_icmp_eq (tgt := 138) dX6_cut_117 (by decide) ka kb) (fun c117 => ?_) (fun c117 => ?_)
          · refine WQ.st (fun _ _ kz => pw_iload4 dX6_cut_138 kz) ?_
            refine WQ.st (fun _ _ kz => pw_istore1 dX6_cut_140 (by decide) (k := kz)) ?_
            refine WQ.st (fun _ _ kz => pw_iinc2 (v := 1) dX6_cut_141 (by decide) (by decide) (k := kz)) ?_
            refine WQ.st (fun _ _ kz => pw_goto (tgt := 9) dX6_cut_144 (by decide) kz) ?_
            rw [nI_1]
            exact ih (p + 1) (q + 1) n _ _ _ _ (by omega) (by omega) (by omega) (by omega) ((tkS_bl hp2 (Or.inl c117)).symm.trans hS) hK hne hf
          · refine WQ.st (fun _ _ kz => pw_aload0 dX6_cut_120 kz) ?_
            refine WQ.st (fun _ _ kz => pw_iload3 dX6_cut_121 kz) ?_
            have hSp := hS.symm.trans (tkS_no (fun q => q.elim c117 c111))
            obtain ⟨tk1, tk2⟩ := cut_sg hSp hp2 c40 c70
            refine wq_s1i wX6_isSign lX6_104 dX6_cut_122 (k_isSign _) rfl (Nat.le_of_ble_eq_true rfl) (Nat.le_of_ble_eq_true rfl) (fun h122 z122 => ?_)
            subst z122
            refine WQ.br (fun _ _ ka kb => pw_if_eq (tgt := 132) dX6_cut_125 (by decide) ka kb) (fun c125 => ?_) (fun c125 => ?_)
            · rw [bI_0] at c125
              have c125 : sgF (x p) 12 = 25 := Decidable.byContradiction (fun q => of_decide_eq_false c125 q)
              have cs := cc_sg (x p)
              rw [if_pos c125] at cs
              refine WQ.st (fun _ _ kz => pw_iconst (v := 2) dX6_cut_132 (by decide) kz) ?_
              refine WQ.st (fun _ _ kz => pw_iconst (v := 0) dX6_cut_133 (by decide) kz) ?_
              refine WQ.st (fun _ _ kz => pw_iload1 dX6_cut_134 kz) ?_
              refine wq_o3v wX6_addToken lX6_91 rfl dX6_cut_135 (cf_s10 hC) (k_addToken hC hK.1 (by omega) _ _ _) rfl (Nat.le_of_ble_eq_true rfl) (Nat.le_of_ble_eq_true rfl) (fun h135 z135 => ?_)
              subst z135
              refine WQ.st (fun _ _ kz => pw_iload4 dX6_cut_138 kz) ?_
              refine WQ.st (fun _ _ kz => pw_istore1 dX6_cut_140 (by decide) (k := kz)) ?_
              refine WQ.st (fun _ _ kz => pw_iinc2 (v := 1) dX6_cut_141 (by decide) (by decide) (k := kz)) ?_
              refine WQ.st (fun _ _ kz => pw_goto (tgt := 9) dX6_cut_144 (by decide) kz) ?_
              rw [nI_1]
              refine ih ((p + 1)) (q + 1) (n + 1) _ _ _ _ (by omega) (by omega) (by omega) (by omega) (by rw [tk2]) (hK.add (by rw [tk1]; exact cs.symm) (fun q => by rw [tk1] at q; have := sgF_n (x p) 12; omega) (by unfold TPl; rw [hSp])) (fun j hj => ?_) (hf.tr FRC.add)
              by_cases e1 : j = n
              · rw [e1]; have := sgF_n (x p) 12; omega
              · exact hne j (by omega)
            · rw [bI_n] at c125
              have c125 := of_decide_eq_true c125
              have cs := cc_sg (x p)
              rw [if_neg c125] at cs
              refine WQ.st (fun _ _ kz => pw_iload3 dX6_cut_128 kz) ?_
              refine WQ.st (fun _ _ kz => pw_goto (tgt := 133) dX6_cut_129 (by decide) kz) ?_
              refine WQ.st (fun _ _ kz => pw_iconst (v := 0) dX6_cut_133 (by decide) kz) ?_
              refine WQ.st (fun _ _ kz => pw_iload1 dX6_cut_134 kz) ?_
              refine wq_o3v wX6_addToken lX6_91 rfl dX6_cut_135 (cf_s10 hC) (k_addToken hC hK.1 (by omega) _ _ _) rfl (Nat.le_of_ble_eq_true rfl) (Nat.le_of_ble_eq_true rfl) (fun h135 z135 => ?_)
              subst z135
              refine WQ.st (fun _ _ kz => pw_iload4 dX6_cut_138 kz) ?_
              refine WQ.st (fun _ _ kz => pw_istore1 dX6_cut_140 (by decide) (k := kz)) ?_
              refine WQ.st (fun _ _ kz => pw_iinc2 (v := 1) dX6_cut_141 (by decide) (by decide) (k := kz)) ?_
              refine WQ.st (fun _ _ kz => pw_goto (tgt := 9) dX6_cut_144 (by decide) kz) ?_
              rw [nI_1]
              refine ih ((p + 1)) (q + 1) (n + 1) _ _ _ _ (by omega) (by omega) (by omega) (by omega) (by rw [tk2]) (hK.add (by rw [tk1]; exact cs.symm) (fun q => by rw [tk1] at q; have := sgF_n (x p) 12; omega) (by unfold TPl; rw [hSp])) (fun j hj => ?_) (hf.tr FRC.add)
              by_cases e1 : j = n
              · rw [e1]; have := sgF_n (x p) 12; omega
              · exact hne j (by omega)
      · rw [bI_n] at c70
        have hSp := hS.symm.trans (tkS_no (nb_dg c70))
        refine WQ.st (fun _ _ kz => pw_aload0 dX6_cut_73 kz) ?_
        refine WQ.st (fun _ _ kz => pw_iload1 dX6_cut_74 kz) ?_
        refine wq_o1i wX6_endOfDigits lX6_98 rfl dX6_cut_75 (cf_s10 hC) (k_endOfDigits hC hX (by omega)) rfl (Nat.le_of_ble_eq_true rfl) (Nat.le_of_ble_eq_true rfl) (fun h75 z75 => ?_)
        subst z75
        have rl := runF_le (x := x) (c := isDgI) (L - p) p
        have rg := runF_lt (x := x) (c := isDgI) (m := L - p) c70 (by omega)
        obtain ⟨tk1, tk2, tk3⟩ := cut_dg hSp hp2 c40 c70
        generalize runF x isDgI (L - p) p = e at *
        refine WQ.st (fun _ _ kz => pw_istore4 dX6_cut_78 (by decide) (k := kz)) ?_
        refine WQ.st (fun _ _ kz => pw_aload0 dX6_cut_80 kz) ?_
        refine WQ.st (fun _ _ kz => pw_iload4 dX6_cut_81 kz) ?_
        refine WQ.st (fun _ _ kz => pw_iload1 dX6_cut_83 kz) ?_
        refine WQ.st (fun _ _ kz => pw_isub dX6_cut_84 kz) ?_
        rw [nI_subk (by omega)]
        refine WQ.st (fun _ _ kz => pw_iconst (v := 3) dX6_cut_85 (by decide) kz) ?_
        refine WQ.br (fun _ _ ka kb => pw_icmp_le (tgt := 93) dX6_cut_86 (by decide) ka kb) (fun c86 => ?_) (fun c86 => ?_)
        · rw [le_i (ix_n (by omega)) (show (3 : Int32).toInt = 3 from rfl)] at c86
          rw [if_neg (by omega)] at tk1
          refine WQ.st (fun _ _ kz => pw_iconst (v := 3) dX6_cut_93 (by decide) kz) ?_
          refine WQ.st (fun _ _ kz => pw_aload0 dX6_cut_94 kz) ?_
          refine WQ.st (fun _ _ kz => pw_iload1 dX6_cut_95 kz) ?_
          refine WQ.st (fun _ _ kz => pw_iload4 dX6_cut_96 kz) ?_
          refine wq_o2i wX6_numberAt lX6_101 rfl dX6_cut_98 (cf_s10 hC) (k_numberAt hC hX (by omega) (by omega)) rfl (Nat.le_of_ble_eq_true rfl) (Nat.le_of_ble_eq_true rfl) (fun h98 z98 => ?_)
          subst z98
          refine WQ.st (fun _ _ kz => pw_iload1 dX6_cut_101 kz) ?_
          refine wq_o3v wX6_addToken lX6_91 rfl dX6_cut_102 (cf_s10 hC) (k_addToken hC hK.1 (by omega) _ _ _) rfl (Nat.le_of_ble_eq_true rfl) (Nat.le_of_ble_eq_true rfl) (fun h102 z102 => ?_)
          subst z102
          refine WQ.st (fun _ _ kz => pw_goto (tgt := 138) dX6_cut_105 (by decide) kz) ?_
          refine WQ.st (fun _ _ kz => pw_iload4 dX6_cut_138 kz) ?_
          refine WQ.st (fun _ _ kz => pw_istore1 dX6_cut_140 (by decide) (k := kz)) ?_
          refine WQ.st (fun _ _ kz => pw_iinc2 (v := 1) dX6_cut_141 (by decide) (by decide) (k := kz)) ?_
          refine WQ.st (fun _ _ kz => pw_goto (tgt := 9) dX6_cut_144 (by decide) kz) ?_
          rw [nI_1]
          refine ih (e) (q + 1) (n + 1) _ _ _ _ (by omega) (by omega) (by omega) (by omega) (by rw [tk2]) (hK.add (by rw [tk1]; rfl) (fun q => tk3.symm) (by unfold TPl; rw [hSp])) (fun j hj => ?_) (hf.tr FRC.add)
          by_cases e1 : j = n
          · rw [e1]; omega
          · exact hne j (by omega)
        · rw [le_i (ix_n (by omega)) (show (3 : Int32).toInt = 3 from rfl)] at c86
          rw [if_pos (by omega)] at tk1
          refine WQ.st (fun _ _ kz => pw_iconst (v := 2) dX6_cut_89 (by decide) kz) ?_
          refine WQ.st (fun _ _ kz => pw_goto (tgt := 94) dX6_cut_90 (by decide) kz) ?_
          refine WQ.st (fun _ _ kz => pw_aload0 dX6_cut_94 kz) ?_
          refine WQ.st (fun _ _ kz => pw_iload1 dX6_cut_95 kz) ?_
          refine WQ.st (fun _ _ kz => pw_iload4 dX6_cut_96 kz) ?_
          refine wq_o2i wX6_numberAt lX6_101 rfl dX6_cut_98 (cf_s10 hC) (k_numberAt hC hX (by omega) (by omega)) rfl (Nat.le_of_ble_eq_true rfl) (Nat.le_of_ble_eq_true rfl) (fun h98 z98 => ?_)
          subst z98
          refine WQ.st (fun _ _ kz => pw_iload1 dX6_cut_101 kz) ?_
          refine wq_o3v wX6_addToken lX6_91 rfl dX6_cut_102 (cf_s10 hC) (k_addToken hC hK.1 (by omega) _ _ _) rfl (Nat.le_of_ble_eq_true rfl) (Nat.le_of_ble_eq_true rfl) (fun h102 z102 => ?_)
          subst z102
          refine WQ.st (fun _ _ kz => pw_goto (tgt := 138) dX6_cut_105 (by decide) kz) ?_
          refine WQ.st (fun _ _ kz => pw_iload4 dX6_cut_138 kz) ?_
          refine WQ.st (fun _ _ kz => pw_istore1 dX6_cut_140 (by decide) (k := kz)) ?_
          refine WQ.st (fun _ _ kz => pw_iinc2 (v := 1) dX6_cut_141 (by decide) (by decide) (k := kz)) ?_
          refine WQ.st (fun _ _ kz => pw_goto (tgt := 9) dX6_cut_144 (by decide) kz) ?_
          rw [nI_1]
          refine ih (e) (q + 1) (n + 1) _ _ _ _ (by omega) (by omega) (by omega) (by omega) (by rw [tk2]) (hK.add (by rw [tk1]; rfl) (fun q => tk3.symm) (by unfold TPl; rw [hSp])) (fun j hj => ?_) (hf.tr FRC.add)
          by_cases e1 : j = n
          · rw [e1]; omega
          · exact hne j (by omega)
    · rw [bI_n] at c40
      have hSp := hS.symm.trans (tkS_no (nb_sm c40))
      refine WQ.st (fun _ _ kz => pw_aload0 dX6_cut_43 kz) ?_
      refine WQ.st (fun _ _ kz => pw_iload1 dX6_cut_44 kz) ?_
      refine wq_o1i wX6_endOfLetters lX6_85 rfl dX6_cut_45 (cf_s10 hC) (k_endOfLetters hC hX (by omega)) rfl (Nat.le_of_ble_eq_true rfl) (Nat.le_of_ble_eq_true rfl) (fun h45 z45 => ?_)
      subst z45
      have rl := runF_le (x := x) (c := isSmI) (L - p) p
      have rg := runF_lt (x := x) (c := isSmI) (m := L - p) c40 (by omega)
      obtain ⟨tk1, tk2⟩ := cut_sm hSp hp2 c40
      generalize runF x isSmI (L - p) p = e at *
      refine WQ.st (fun _ _ kz => pw_istore4 dX6_cut_48 (by decide) (k := kz)) ?_
      refine WQ.st (fun _ _ kz => pw_aload0 dX6_cut_50 kz) ?_
      refine WQ.st (fun _ _ kz => pw_aload0 dX6_cut_51 kz) ?_
      refine WQ.st (fun _ _ kz => pw_iload1 dX6_cut_52 kz) ?_
      refine WQ.st (fun _ _ kz => pw_iload4 dX6_cut_53 kz) ?_
      refine wq_o2i wX6_wordAt lX6_88 rfl dX6_cut_55 (cf_s10 hC) (k_wordAt hC hX (by omega) (by omega)) rfl (Nat.le_of_ble_eq_true rfl) (Nat.le_of_ble_eq_true rfl) (fun h55 z55 => ?_)
      subst z55
      refine WQ.st (fun _ _ kz => pw_iconst (v := 0) dX6_cut_58 (by decide) kz) ?_
      refine WQ.st (fun _ _ kz => pw_iload1 dX6_cut_59 kz) ?_
      refine wq_o3v wX6_addToken lX6_91 rfl dX6_cut_60 (cf_s10 hC) (k_addToken hC hK.1 (by omega) _ _ _) rfl (Nat.le_of_ble_eq_true rfl) (Nat.le_of_ble_eq_true rfl) (fun h60 z60 => ?_)
      subst z60
      refine WQ.st (fun _ _ kz => pw_goto (tgt := 138) dX6_cut_63 (by decide) kz) ?_
      refine WQ.st (fun _ _ kz => pw_iload4 dX6_cut_138 kz) ?_
      refine WQ.st (fun _ _ kz => pw_istore1 dX6_cut_140 (by decide) (k := kz)) ?_
      refine WQ.st (fun _ _ kz => pw_iinc2 (v := 1) dX6_cut_141 (by decide) (by decide) (k := kz)) ?_
      refine WQ.st (fun _ _ kz => pw_goto (tgt := 9) dX6_cut_144 (by decide) kz) ?_
      rw [nI_1]
      refine ih (e) (q + 1) (n + 1) _ _ _ _ (by omega) (by omega) (by omega) (by omega) (by rw [tk2]) (hK.add (by rw [tk1]) (fun q => by have := wR_n (x := x) p e; omega) (by unfold TPl; rw [hSp])) (fun j hj => ?_) (hf.tr FRC.add)
      by_cases e1 : j = n
      · rw [e1]; have := wR_n (x := x) p e; omega
      · exact hne j (by omega)
  · have ep : p = L := by omega
    have hSp : tkS x L (tkP x L n) = L := by rw [← hS, ep]; exact tkS_L
    have h24 : TK x L n = 24 := tkK_24.mpr (by omega)
    refine WQ.st (fun _ _ kz => pw_iload2 dX6_cut_9 kz) ?_
    refine WQ.st (fun _ _ kz => pw_aload0 dX6_cut_10 kz) ?_
    refine WQ.st (fun _ _ kz => pw_geti gX6_38 dX6_cut_11 (cf_s10 hC) kz) ?_
    rw [hX.le]
    refine WQ.br (fun _ _ ka kb => pw_icmp_ge (tgt := 147) dX6_cut_14 (by decide) ka kb) (fun c14 => ?_) (fun c14 => ?_)
    · skip
      refine WQ.st (fun _ _ kz => pw_aload0 dX6_cut_147 kz) ?_
      refine WQ.st (fun _ _ kz => pw_iconst (v := 1) dX6_cut_148 (by decide) kz) ?_
      refine WQ.st (fun _ _ kz => pw_iconst (v := 0) dX6_cut_149 (by decide) kz) ?_
      refine WQ.st (fun _ _ kz => pw_aload0 dX6_cut_150 kz) ?_
      refine WQ.st (fun _ _ kz => pw_geti gX6_38 dX6_cut_151 (cf_s10 hC) kz) ?_
      rw [hX.le]
      refine wq_o3v wX6_addToken lX6_91 rfl dX6_cut_154 (cf_s10 hC) (k_addToken hC hK.1 (by omega) _ _ _) rfl (Nat.le_of_ble_eq_true rfl) (Nat.le_of_ble_eq_true rfl) (fun h154 z154 => ?_)
      subst z154
      refine ⟨_, _, pw_vret dX6_cut_157 rfl rfl rfl, ?_⟩
      exact ⟨rfl, n, _, _, rfl, hK.add (by rw [h24]; rfl) (fun q => by omega) (by unfold TPl; rw [hSp]), h24, hne, hf.tr FRC.add⟩
    · rw [le_i (ix_n (by omega)) (ix_n (by omega))] at c14
      refine WQ.st (fun _ _ kz => pw_iload1 dX6_cut_17 kz) ?_
      refine WQ.st (fun _ _ kz => pw_aload0 dX6_cut_18 kz) ?_
      refine WQ.st (fun _ _ kz => pw_geti gX6_38 dX6_cut_19 (cf_s10 hC) kz) ?_
      rw [hX.le]
      refine WQ.br (fun _ _ ka kb => pw_icmp_ge (tgt := 147) dX6_cut_22 (by decide) ka kb) (fun c22 => ?_) (fun c22 => absurd (by rw [le_i (ix_n (by omega)) (ix_n (by omega))]; omega) c22)
      refine WQ.st (fun _ _ kz => pw_aload0 dX6_cut_147 kz) ?_
      refine WQ.st (fun _ _ kz => pw_iconst (v := 1) dX6_cut_148 (by decide) kz) ?_
      refine WQ.st (fun _ _ kz => pw_iconst (v := 0) dX6_cut_149 (by decide) kz) ?_
      refine WQ.st (fun _ _ kz => pw_aload0 dX6_cut_150 kz) ?_
      refine WQ.st (fun _ _ kz => pw_geti gX6_38 dX6_cut_151 (cf_s10 hC) kz) ?_
      rw [hX.le]
      refine wq_o3v wX6_addToken lX6_91 rfl dX6_cut_154 (cf_s10 hC) (k_addToken hC hK.1 (by omega) _ _ _) rfl (Nat.le_of_ble_eq_true rfl) (Nat.le_of_ble_eq_true rfl) (fun h154 z154 => ?_)
      subst z154
      refine ⟨_, _, pw_vret dX6_cut_157 rfl rfl rfl, ?_⟩
      exact ⟨rfl, n, _, _, rfl, hK.add (by rw [h24]; rfl) (fun q => by omega) (by unfold TPl; rw [hSp]), h24, hne, hf.tr FRC.add⟩
set_option maxRecDepth 20000 in
theorem k_rcut {G : gT} {d : Nat} {S : sS} {V : sV} {P : sP} {A : sV} {B : sB} {Q : sP} {t sl : Nat} (hC : CF S P) {x : Nat → Int32} {L T : Nat} (hX : CTX x L V P A) (hT : TK x L T = 24) (hT2 : ∀ j, j < T → TK x L j ≠ 24) : WQ G (d + 5) mX6_cut 0 [some (.ref 10), none, none, none, none] [] (t, sl, gh S V P A B Q) (fun r h' => r = none ∧ ∃ V' A' : sV, h' = (t, sl, gh S V' P A' B Q) ∧ KT x L (T + 1) V' A' ∧ FRC V A V' A') := by
  refine WQ.st (fun _ _ kz => pw_aload0 dX6_cut_0 kz) ?_
  refine WQ.st (fun _ _ kz => pw_iconst (v := 0) dX6_cut_1 (by decide) kz) ?_
  refine WQ.st (fun _ _ kz => pw_puti (pX6_28 _ rfl) dX6_cut_2 (cf_s10 hC) rfl rfl kz) ?_
  refine WQ.st (fun _ _ kz => pw_iconst (v := 0) dX6_cut_5 (by decide) kz) ?_
  refine WQ.st (fun _ _ kz => pw_istore1 dX6_cut_6 (by decide) (k := kz)) ?_
  refine WQ.st (fun _ _ kz => pw_iconst (v := 0) dX6_cut_7 (by decide) kz) ?_
  refine WQ.st (fun _ _ kz => pw_istore2 dX6_cut_8 (by decide) (k := kz)) ?_
  refine (l_cut (d := d) hC (V0 := up2 V 10 5 0) (A0 := A) ⟨by rw [up2_nk (by omega)]; exact hX.le, hX.l9, hX.tp, hX.at⟩ L 0 0 0 _ _ none none (by omega) (by omega) (by omega) (by omega) rfl ⟨up2_eq, fun j hj => by omega⟩ (fun j hj => by omega) FRC.rfl).imp (fun r h' z => ?_)
  obtain ⟨z1, n, V', A', z2, z3, z4, z5, z6⟩ := z
  have en : n = T := by
    rcases Nat.lt_trichotomy n T with q | q | q
    · exact absurd z4 (hT2 n q)
    · exact q
    · exact absurd hT (z5 T q)
  rw [en] at z3
  exact ⟨z1, V', A', z2, z3, fun a ha => (z6.1 a ha).trans (up2_na ha), fun k hk => (z6.2.1 k hk).trans (up2_nk hk), z6.2.2⟩
