/-! ===== the reference: feed, trays, images ===== -/
def fdv (a b c d e : Int32) (k : Nat) : Int32 := if k < 4 then a else if k < 8 then b else if k < 12 then c else if k < 16 then d else e
def fdb (v : Int32) (k : Nat) : Int32 := (v >>> (nI (24 - 8 * (k % 4)) &&& 31)) &&& 255
/-- k bytes of the twenty are on the tape -/
def FD (o : Nat) (V0 A0 : sV) (a b c d e : Int32) (tp k : Nat) (V A : sV) : Prop := V = up2 V0 o 5 (nI (tp + k)) ∧ (∀ i, i ≠ o + 3 → A i = A0 i) ∧ ∀ i, A (o + 3) i = if tp ≤ i ∧ i < tp + k then fdb (fdv a b c d e (i - tp)) (i - tp) else A0 (o + 3) i
theorem FD.step {o : Nat} {V0 A0 : sV} {a b c d e : Int32} {tp k : Nat} {V A : sV} (h : FD o V0 A0 a b c d e tp k V A) : FD o V0 A0 a b c d e tp (k + 1) (up2 V o 5 (nI (tp + (k + 1)))) (up2 A (o + 3) (tp + k) (fdb (fdv a b c d e k) k)) := by
  refine ⟨by rw [h.1, up2_up2], fun i hi => by rw [up2_na hi]; exact h.2.1 i hi, fun i => ?_⟩
  rw [up2_at]
  unfold pm_up
  by_cases q : i = tp + k
  · rw [if_pos q, if_pos (by omega), show i - tp = k by omega]
  · rw [if_neg q, h.2.2]
    by_cases q2 : tp ≤ i ∧ i < tp + k
    · rw [if_pos q2, if_pos (by omega)]
    · rw [if_neg q2, if_neg (by omega)]
set_option maxRecDepth 20000 in
theorem l_feed {G : gT} {d : Nat} {S : sS} {P : sP} {B : sB} {Q : sP} {t sl o : Nat} (hF : MF S P o) {V0 A0 : sV} {a b c d1 e : Int32} {tp : Nat} (htp : tp + 20 ≤ 900) {Z : Option Value → Ph → Prop} (kf : ∀ (V A : sV) (x7 : Option Value), FD o V0 A0 a b c d1 e tp 20 V A → WQ G d mX12_feed 121 [some (.ref o), some (.int a), some (.int b), some (.int c), some (.int d1), some (.int e), some (.int (nI 20)), x7] [] (t, sl, gh S V P A B Q) Z) : ∀ (m k : Nat) (V A : sV) (x7 : Option Value), k + m = 20 → FD o V0 A0 a b c d1 e tp k V A → WQ G d mX12_feed 24 [some (.ref o), some (.int a), some (.int b), some (.int c), some (.int d1), some (.int e), some (.int (nI k)), x7] [] (t, sl, gh S V P A B Q) Z := by
  intro m
  induction m with
  | zero =>
    intro k V A x7 hk hI
    have hk : k = 20 := hk
    subst hk
    refine WQ.st (fun _ _ kz => pw_iload6 dX12_feed_24 kz) ?_
    refine WQ.st (fun _ _ kz => pw_bipush (v := 20) dX12_feed_26 (by decide) kz) ?_
    refine WQ.br (fun _ _ ka kb => pw_icmp_ge (tgt := 121) dX12_feed_28 (by decide) ka kb) (fun c28 => ?_) (fun c28 => absurd (by decide) c28)
    exact kf V A x7 hI
  | succ m ih =>
    intro k V A x7 hk hI
    have hV5 : V o 5 = nI (tp + k) := by rw [hI.1, up2_eq]
    refine WQ.st (fun _ _ kz => pw_iload6 dX12_feed_24 kz) ?_
    refine WQ.st (fun _ _ kz => pw_bipush (v := 20) dX12_feed_26 (by decide) kz) ?_
    refine WQ.br (fun _ _ ka kb => pw_icmp_ge (tgt := 121) dX12_feed_28 (by decide) ka kb) (fun c28 => absurd c28 (by rw [le_i li_20 (ix_n (j := k) (by omega))]; omega)) (fun c28 => ?_)
    refine WQ.st (fun _ _ kz => pw_iload6 dX12_feed_31 kz) ?_
    refine WQ.st (fun _ _ kz => pw_iconst (v := 4) dX12_feed_33 (by decide) kz) ?_
    refine WQ.br (fun _ _ ka kb => pw_icmp_ge (tgt := 41) dX12_feed_34 (by decide) ka kb) (fun c34 => ?_) (fun c34 => ?_)
    · refine WQ.st (fun _ _ kz => pw_iload6 dX12_feed_41 kz) ?_
      refine WQ.st (fun _ _ kz => pw_bipush (v := 8) dX12_feed_43 (by decide) kz) ?_
      refine WQ.br (fun _ _ ka kb => pw_icmp_ge (tgt := 52) dX12_feed_45 (by decide) ka kb) (fun c45 => ?_) (fun c45 => ?_)
      · refine WQ.st (fun _ _ kz => pw_iload6 dX12_feed_52 kz) ?_
        refine WQ.st (fun _ _ kz => pw_bipush (v := 12) dX12_feed_54 (by decide) kz) ?_
        refine WQ.br (fun _ _ ka kb => pw_icmp_ge (tgt := 63) dX12_feed_56 (by decide) ka kb) (fun c56 => ?_) (fun c56 => ?_)
        · refine WQ.st (fun _ _ kz => pw_iload6 dX12_feed_63 kz) ?_
          refine WQ.st (fun _ _ kz => pw_bipush (v := 16) dX12_feed_65 (by decide) kz) ?_
          refine WQ.br (fun _ _ ka kb => pw_icmp_ge (tgt := 75) dX12_feed_67 (by decide) ka kb) (fun c67 => ?_) (fun c67 => ?_)
          · refine WQ.st (fun _ _ kz => pw_iload5 dX12_feed_75 kz) ?_
            refine WQ.st (fun _ _ kz => pw_istore7 dX12_feed_77 (by decide) (k := kz)) ?_
            refine WQ.st (fun _ _ kz => pw_aload0 dX12_feed_79 kz) ?_
            refine WQ.st (fun _ _ kz => pw_getr gX12_21 dX12_feed_80 hF.1 (mf_p3 hF) kz) ?_
            refine WQ.st (fun _ _ kz => pw_aload0 dX12_feed_83 kz) ?_
            refine WQ.st (fun _ _ kz => pw_geti gX12_89 dX12_feed_84 hF.1 kz) ?_
            rw [hV5]
            refine WQ.st (fun _ _ kz => pw_iload7 dX12_feed_87 kz) ?_
            refine WQ.st (fun _ _ kz => pw_bipush (v := 24) dX12_feed_89 (by decide) kz) ?_
            refine WQ.st (fun _ _ kz => pw_bipush (v := 8) dX12_feed_91 (by decide) kz) ?_
            refine WQ.st (fun _ _ kz => pw_iload6 dX12_feed_93 kz) ?_
            refine WQ.st (fun _ _ kz => pw_iconst (v := 4) dX12_feed_95 (by decide) kz) ?_
            refine WQ.st (fun _ _ kz => pw_irem dX12_feed_96 (by decide) kz) ?_
            rw [nl_4, pk_rem (by omega) (by omega) (by omega)]
            refine WQ.st (fun _ _ kz => pw_imul dX12_feed_97 kz) ?_
            refine WQ.st (fun _ _ kz => pw_isub dX12_feed_98 kz) ?_
            rw [nl_8, pk_mul, nl_24, pk_sub (by omega)]
            refine WQ.st (fun _ _ kz => pw_ishr dX12_feed_99 kz) ?_
            refine WQ.st (fun _ _ kz => pw_sipush (v := 255) dX12_feed_100 (by decide) kz) ?_
            refine WQ.st (fun _ _ kz => pw_iand dX12_feed_103 kz) ?_
            refine WQ.st (fun _ _ kz => pw_ast (j := tp + k) dX12_feed_104 (mf_s3 hF) (ix_m rfl (by omega)) (by omega)  kz) ?_
            refine WQ.st (fun _ _ kz => pw_aload0 dX12_feed_105 kz) ?_
            refine WQ.st (fun _ _ kz => pw_dup dX12_feed_106 rfl kz) ?_
            refine WQ.st (fun _ _ kz => pw_geti gX12_89 dX12_feed_107 hF.1 kz) ?_
            rw [hV5]
            refine WQ.st (fun _ _ kz => pw_iconst (v := 1) dX12_feed_110 (by decide) kz) ?_
            refine WQ.st (fun _ _ kz => pw_iadd dX12_feed_111 kz) ?_
            rw [nI_1]
            refine WQ.st (fun _ _ kz => pw_puti (pX12_89 _ rfl) dX12_feed_112 hF.1 rfl rfl kz) ?_
            refine WQ.st (fun _ _ kz => pw_iinc6 (v := 1) dX12_feed_115 (by decide) (by decide) (k := kz)) ?_
            refine WQ.st (fun _ _ kz => pw_goto (tgt := 24) dX12_feed_118 (by decide) kz) ?_
            have ev : fdv a b c d1 e k = e := by
              unfold fdv
              rw [le_i li_4 (ix_n (j := k) (by omega))] at c34
              rw [le_i li_8 (ix_n (j := k) (by omega))] at c45
              rw [le_i li_12 (ix_n (j := k) (by omega))] at c56
              rw [le_i li_16 (ix_n (j := k) (by omega))] at c67
              rw [if_neg (by omega), if_neg (by omega), if_neg (by omega), if_neg (by omega)]
            rw [nI_1]
            have kk := ih (k + 1) _ _ (some (.int e)) (by omega) hI.step
            rw [ev] at kk
            exact kk
          · refine WQ.st (fun _ _ kz => pw_iload4 dX12_feed_70 kz) ?_
            refine WQ.st (fun _ _ kz => pw_goto (tgt := 77) dX12_feed_72 (by decide) kz) ?_
            refine WQ.st (fun _ _ kz => pw_istore7 dX12_feed_77 (by decide) (k := kz)) ?_
            refine WQ.st (fun _ _ kz => pw_aload0 dX12_feed_79 kz) ?_
            refine WQ.st (fun _ _ kz => pw_getr gX12_21 dX12_feed_80 hF.1 (mf_p3 hF) kz) ?_
            refine WQ.st (fun _ _ kz => pw_aload0 dX12_feed_83 kz) ?_
            refine WQ.st (fun _ _ kz => pw_geti gX12_89 dX12_feed_84 hF.1 kz) ?_
            rw [hV5]
            refine WQ.st (fun _ _ kz => pw_iload7 dX12_feed_87 kz) ?_
            refine WQ.st (fun _ _ kz => pw_bipush (v := 24) dX12_feed_89 (by decide) kz) ?_
            refine WQ.st (fun _ _ kz => pw_bipush (v := 8) dX12_feed_91 (by decide) kz) ?_
            refine WQ.st (fun _ _ kz => pw_iload6 dX12_feed_93 kz) ?_
            refine WQ.st (fun _ _ kz => pw_iconst (v := 4) dX12_feed_95 (by decide) kz) ?_
            refine WQ.st (fun _ _ kz => pw_irem dX12_feed_96 (by decide) kz) ?_
            rw [nl_4, pk_rem (by omega) (by omega) (by omega)]
            refine WQ.st (fun _ _ kz => pw_imul dX12_feed_97 kz) ?_
            refine WQ.st (fun _ _ kz => pw_isub dX12_feed_98 kz) ?_
            rw [nl_8, pk_mul, nl_24, pk_sub (by omega)]
            refine WQ.st (fun _ _ kz => pw_ishr dX12_feed_99 kz) ?_
            refine WQ.st (fun _ _ kz => pw_sipush (v := 255) dX12_feed_100 (by decide) kz) ?_
            refine WQ.st (fun _ _ kz => pw_iand dX12_feed_103 kz) ?_
            refine WQ.st (fun _ _ kz => pw_ast (j := tp + k) dX12_feed_104 (mf_s3 hF) (ix_m rfl (by omega)) (by omega)  kz) ?_
            refine WQ.st (fun _ _ kz => pw_aload0 dX12_feed_105 kz) ?_
            refine WQ.st (fun _ _ kz => pw_dup dX12_feed_106 rfl kz) ?_
            refine WQ.st (fun _ _ kz => pw_geti gX12_89 dX12_feed_107 hF.1 kz) ?_
            rw [hV5]
            refine WQ.st (fun _ _ kz => pw_iconst (v := 1) dX12_feed_110 (by decide) kz) ?_
            refine WQ.st (fun _ _ kz => pw_iadd dX12_feed_111 kz) ?_
            rw [nI_1]
            refine WQ.st (fun _ _ kz => pw_puti (pX12_89 _ rfl) dX12_feed_112 hF.1 rfl rfl kz) ?_
            refine WQ.st (fun _ _ kz => pw_iinc6 (v := 1) dX12_feed_115 (by decide) (by decide) (k := kz)) ?_
            refine WQ.st (fun _ _ kz => pw_goto (tgt := 24) dX12_feed_118 (by decide) kz) ?_
            have ev : fdv a b c d1 e k = d1 := by
              unfold fdv
              rw [le_i li_4 (ix_n (j := k) (by omega))] at c34
              rw [le_i li_8 (ix_n (j := k) (by omega))] at c45
              rw [le_i li_12 (ix_n (j := k) (by omega))] at c56
              rw [le_i li_16 (ix_n (j := k) (by omega))] at c67
              rw [if_neg (by omega), if_neg (by omega), if_neg (by omega), if_pos (by omega)]
            rw [nI_1]
            have kk := ih (k + 1) _ _ (some (.int d1)) (by omega) hI.step
            rw [ev] at kk
            exact kk
        · refine WQ.st (fun _ _ kz => pw_iload3 dX12_feed_59 kz) ?_
          refine WQ.st (fun _ _ kz => pw_goto (tgt := 77) dX12_feed_60 (by decide) kz) ?_
          refine WQ.st (fun _ _ kz => pw_istore7 dX12_feed_77 (by decide) (k := kz)) ?_
          refine WQ.st (fun _ _ kz => pw_aload0 dX12_feed_79 kz) ?_
          refine WQ.st (fun _ _ kz => pw_getr gX12_21 dX12_feed_80 hF.1 (mf_p3 hF) kz) ?_
          refine WQ.st (fun _ _ kz => pw_aload0 dX12_feed_83 kz) ?_
          refine WQ.st (fun _ _ kz => pw_geti gX12_89 dX12_feed_84 hF.1 kz) ?_
          rw [hV5]
          refine WQ.st (fun _ _ kz => pw_iload7 dX12_feed_87 kz) ?_
          refine WQ.st (fun _ _ kz => pw_bipush (v := 24) dX12_feed_89 (by decide) kz) ?_
          refine WQ.st (fun _ _ kz => pw_bipush (v := 8) dX12_feed_91 (by decide) kz) ?_
          refine WQ.st (fun _ _ kz => pw_iload6 dX12_feed_93 kz) ?_
          refine WQ.st (fun _ _ kz => pw_iconst (v := 4) dX12_feed_95 (by decide) kz) ?_
          refine WQ.st (fun _ _ kz => pw_irem dX12_feed_96 (by decide) kz) ?_
          rw [nl_4, pk_rem (by omega) (by omega) (by omega)]
          refine WQ.st (fun _ _ kz => pw_imul dX12_feed_97 kz) ?_
          refine WQ.st (fun _ _ kz => pw_isub dX12_feed_98 kz) ?_
          rw [nl_8, pk_mul, nl_24, pk_sub (by omega)]
          refine WQ.st (fun _ _ kz => pw_ishr dX12_feed_99 kz) ?_
          refine WQ.st (fun _ _ kz => pw_sipush (v := 255) dX12_feed_100 (by decide) kz) ?_
          refine WQ.st (fun _ _ kz => pw_iand dX12_feed_103 kz) ?_
          refine WQ.st (fun _ _ kz => pw_ast (j := tp + k) dX12_feed_104 (mf_s3 hF) (ix_m rfl (by omega)) (by omega)  kz) ?_
          refine WQ.st (fun _ _ kz => pw_aload0 dX12_feed_105 kz) ?_
          refine WQ.st (fun _ _ kz => pw_dup dX12_feed_106 rfl kz) ?_
          refine WQ.st (fun _ _ kz => pw_geti gX12_89 dX12_feed_107 hF.1 kz) ?_
          rw [hV5]
          refine WQ.st (fun _ _ kz => pw_iconst (v := 1) dX12_feed_110 (by decide) kz) ?_
          refine WQ.st (fun _ _ kz => pw_iadd dX12_feed_111 kz) ?_
          rw [nI_1]
          refine WQ.st (fun _ _ kz => pw_puti (pX12_89 _ rfl) dX12_feed_112 hF.1 rfl rfl kz) ?_
          refine WQ.st (fun _ _ kz => pw_iinc6 (v := 1) dX12_feed_115 (by decide) (by decide) (k := kz)) ?_
          refine WQ.st (fun _ _ kz => pw_goto (tgt := 24) dX12_feed_118 (by decide) kz) ?_
          have ev : fdv a b c d1 e k = c := by
            unfold fdv
            rw [le_i li_4 (ix_n (j := k) (by omega))] at c34
            rw [le_i li_8 (ix_n (j := k) (by omega))] at c45
            rw [le_i li_12 (ix_n (j := k) (by omega))] at c56
            rw [if_neg (by omega), if_neg (by omega), if_pos (by omega)]
          rw [nI_1]
          have kk := ih (k + 1) _ _ (some (.int c)) (by omega) hI.step
          rw [ev] at kk
          exact kk
      · refine WQ.st (fun _ _ kz => pw_iload2 dX12_feed_48 kz) ?_
        refine WQ.st (fun _ _ kz => pw_goto (tgt := 77) dX12_feed_49 (by decide) kz) ?_
        refine WQ.st (fun _ _ kz => pw_istore7 dX12_feed_77 (by decide) (k := kz)) ?_
        refine WQ.st (fun _ _ kz => pw_aload0 dX12_feed_79 kz) ?_
        refine WQ.st (fun _ _ kz => pw_getr gX12_21 dX12_feed_80 hF.1 (mf_p3 hF) kz) ?_
        refine WQ.st (fun _ _ kz => pw_aload0 dX12_feed_83 kz) ?_
        refine WQ.st (fun _ _ kz => pw_geti gX12_89 dX12_feed_84 hF.1 kz) ?_
        rw [hV5]
        refine WQ.st (fun _ _ kz => pw_iload7 dX12_feed_87 kz) ?_
        refine WQ.st (fun _ _ kz => pw_bipush (v := 24) dX12_feed_89 (by decide) kz) ?_
        refine WQ.st (fun _ _ kz => pw_bipush (v := 8) dX12_feed_91 (by decide) kz) ?_
        refine WQ.st (fun _ _ kz => pw_iload6 dX12_feed_93 kz) ?_
        refine WQ.st (fun _ _ kz => pw_iconst (v := 4) dX12_feed_95 (by decide) kz) ?_
        refine WQ.st (fun _ _ kz => pw_irem dX12_feed_96 (by decide) kz) ?_
        rw [nl_4, pk_rem (by omega) (by omega) (by omega)]
        refine WQ.st (fun _ _ kz => pw_imul dX12_feed_97 kz) ?_
        refine WQ.st (fun _ _ kz => pw_isub dX12_feed_98 kz) ?_
        rw [nl_8, pk_mul, nl_24, pk_sub (by omega)]
        refine WQ.st (fun _ _ kz => pw_ishr dX12_feed_99 kz) ?_
        refine WQ.st (fun _ _ kz => pw_sipush (v := 255) dX12_feed_100 (by decide) kz) ?_
        refine WQ.st (fun _ _ kz => pw_iand dX12_feed_103 kz) ?_
        refine WQ.st (fun _ _ kz => pw_ast (j := tp + k) dX12_feed_104 (mf_s3 hF) (ix_m rfl (by omega)) (by omega)  kz) ?_
        refine WQ.st (fun _ _ kz => pw_aload0 dX12_feed_105 kz) ?_
        refine WQ.st (fun _ _ kz => pw_dup dX12_feed_106 rfl kz) ?_
        refine WQ.st (fun _ _ kz => pw_geti gX12_89 dX12_feed_107 hF.1 kz) ?_
        rw [hV5]
        refine WQ.st (fun _ _ kz => pw_iconst (v := 1) dX12_feed_110 (by decide) kz) ?_
        refine WQ.st (fun _ _ kz => pw_iadd dX12_feed_111 kz) ?_
        rw [nI_1]
        refine WQ.st (fun _ _ kz => pw_puti (pX12_89 _ rfl) dX12_feed_112 hF.1 rfl rfl kz) ?_
        refine WQ.st (fun _ _ kz => pw_iinc6 (v := 1) dX12_feed_115 (by decide) (by decide) (k := kz)) ?_
        refine WQ.st (fun _ _ kz => pw_goto (tgt := 24) dX12_feed_118 (by decide) kz) ?_
        have ev : fdv a b c d1 e k = b := by
          unfold fdv
          rw [le_i li_4 (ix_n (j := k) (by omega))] at c34
          rw [le_i li_8 (ix_n (j := k) (by omega))] at c45
          rw [if_neg (by omega), if_pos (by omega)]
        rw [nI_1]
        have kk := ih (k + 1) _ _ (some (.int b)) (by omega) hI.step
        rw [ev] at kk
        exact kk
    · refine WQ.st (fun _ _ kz => pw_iload1 dX12_feed_37 kz) ?_
      refine WQ.st (fun _ _ kz => pw_goto (tgt := 77) dX12_feed_38 (by decide) kz) ?_
      refine WQ.st (fun _ _ kz => pw_istore7 dX12_feed_77 (by decide) (k := kz)) ?_
      refine WQ.st (fun _ _ kz => pw_aload0 dX12_feed_79 kz) ?_
      refine WQ.st (fun _ _ kz => pw_getr gX12_21 dX12_feed_80 hF.1 (mf_p3 hF) kz) ?_
      refine WQ.st (fun _ _ kz => pw_aload0 dX12_feed_83 kz) ?_
      refine WQ.st (fun _ _ kz => pw_geti gX12_89 dX12_feed_84 hF.1 kz) ?_
      rw [hV5]
      refine WQ.st (fun _ _ kz => pw_iload7 dX12_feed_87 kz) ?_
      refine WQ.st (fun _ _ kz => pw_bipush (v := 24) dX12_feed_89 (by decide) kz) ?_
      refine WQ.st (fun _ _ kz => pw_bipush (v := 8) dX12_feed_91 (by decide) kz) ?_
      refine WQ.st (fun _ _ kz => pw_iload6 dX12_feed_93 kz) ?_
      refine WQ.st (fun _ _ kz => pw_iconst (v := 4) dX12_feed_95 (by decide) kz) ?_
      refine WQ.st (fun _ _ kz => pw_irem dX12_feed_96 (by decide) kz) ?_
      rw [nl_4, pk_rem (by omega) (by omega) (by omega)]
      refine WQ.st (fun _ _ kz => pw_imul dX12_feed_97 kz) ?_
      refine WQ.st (fun _ _ kz => pw_isub dX12_feed_98 kz) ?_
      rw [nl_8, pk_mul, nl_24, pk_sub (by omega)]
      refine WQ.st (fun _ _ kz => pw_ishr dX12_feed_99 kz) ?_
      refine WQ.st (fun _ _ kz => pw_sipush (v := 255) dX12_feed_100 (by decide) kz) ?_
      refine WQ.st (fun _ _ kz => pw_iand dX12_feed_103 kz) ?_
      refine WQ.st (fun _ _ kz => pw_ast (j := tp + k) dX12_feed_104 (mf_s3 hF) (ix_m rfl (by omega)) (by omega)  kz) ?_
      refine WQ.st (fun _ _ kz => pw_aload0 dX12_feed_105 kz) ?_
      refine WQ.st (fun _ _ kz => pw_dup dX12_feed_106 rfl kz) ?_
      refine WQ.st (fun _ _ kz => pw_geti gX12_89 dX12_feed_107 hF.1 kz) ?_
      rw [hV5]
      refine WQ.st (fun _ _ kz => pw_iconst (v := 1) dX12_feed_110 (by decide) kz) ?_
      refine WQ.st (fun _ _ kz => pw_iadd dX12_feed_111 kz) ?_
      rw [nI_1]
      refine WQ.st (fun _ _ kz => pw_puti (pX12_89 _ rfl) dX12_feed_112 hF.1 rfl rfl kz) ?_
      refine WQ.st (fun _ _ kz => pw_iinc6 (v := 1) dX12_feed_115 (by decide) (by decide) (k := kz)) ?_
      refine WQ.st (fun _ _ kz => pw_goto (tgt := 24) dX12_feed_118 (by decide) kz) ?_
      have ev : fdv a b c d1 e k = a := by
        unfold fdv
        rw [le_i li_4 (ix_n (j := k) (by omega))] at c34
        rw [if_pos (by omega)]
      rw [nI_1]
      have kk := ih (k + 1) _ _ (some (.int a)) (by omega) hI.step
      rw [ev] at kk
      exact kk
theorem up2_same {α : Type} (V : Nat → Nat → α) (a k : Nat) : up2 V a k (V a k) = V := by
  unfold up2
  rw [pm_up_self, pm_up_self]
set_option maxRecDepth 20000 in
theorem p_feed {G : gT} {d : Nat} {S : sS} {V : sV} {P : sP} {A : sV} {B : sB} {Q : sP} {t sl o : Nat} (hF : MF S P o) (hT : 0 ≤ (V o 5).toInt ∧ (V o 5).toInt ≤ 900) (a b c d1 e : Int32) : WQ G d mX12_feed 0 [some (.ref o), some (.int a), some (.int b), some (.int c), some (.int d1), some (.int e), none, none] [] (t, sl, gh S V P A B Q) (fun r h' => (¬ (V o 5).toInt + 20 ≤ 900 ∧ r = some (.int (-99000005)) ∧ ∃ V' A' : sV, h' = (t, sl, gh S V' P A' B Q) ∧ FP o V V' ∧ A' = A) ∨ ((V o 5).toInt + 20 ≤ 900 ∧ r = some (.int (nI ((V o 5).toInt.toNat + 20))) ∧ ∃ V' A' : sV, h' = (t, sl, gh S V' P A' B Q) ∧ FD o (up2 V o 0 0) A a b c d1 e (V o 5).toInt.toNat 20 V' A')) := by
  refine WQ.st (fun _ _ kz => pw_aload0 dX12_feed_0 kz) ?_
  refine WQ.st (fun _ _ kz => pw_iconst (v := 0) dX12_feed_1 (by decide) kz) ?_
  refine WQ.st (fun _ _ kz => pw_puti (pX12_1 _ rfl) dX12_feed_2 hF.1 rfl rfl kz) ?_
  refine WQ.st (fun _ _ kz => pw_aload0 dX12_feed_5 kz) ?_
  refine WQ.st (fun _ _ kz => pw_geti gX12_89 dX12_feed_6 hF.1 kz) ?_
  rw [up2_nk (by decide)]
  refine WQ.st (fun _ _ kz => pw_bipush (v := 20) dX12_feed_9 (by decide) kz) ?_
  refine WQ.st (fun _ _ kz => pw_iadd dX12_feed_11 kz) ?_
  refine WQ.st (fun _ _ kz => pw_sipush (v := 900) dX12_feed_12 (by decide) kz) ?_
  refine WQ.br (fun _ _ ka kb => pw_icmp_le (tgt := 21) dX12_feed_15 (by decide) ka kb) (fun c15 => ?_) (fun c15 => ?_)
  · rw [Int32.le_iff_toInt_le, ti_add rfl li_20 (by omega)] at c15
    have c15 : (V o 5).toInt + 20 ≤ 900 := c15
    obtain ⟨tp, ep, htp, lp⟩ := nI_get (x := V o 5) (n := 901) hT.1 (by omega) (by decide)
    refine WQ.st (fun _ _ kz => pw_iconst (v := 0) dX12_feed_21 (by decide) kz) ?_
    refine WQ.st (fun _ _ kz => pw_istore6 dX12_feed_22 (by decide) (k := kz)) ?_
    exact l_feed (S := S) (P := P) (G := G) (B := B) (Q := Q) (t := t) (sl := sl) (d := d) hF (V0 := up2 V o 0 0) (A0 := A) (tp := tp) (by omega) (fun V1 A1 x7 hI => by
      refine WQ.st (fun _ _ kz => pw_aload0 dX12_feed_121 kz) ?_
      refine WQ.st (fun _ _ kz => pw_geti gX12_89 dX12_feed_122 hF.1 kz) ?_
      rw [show V1 o 5 = nI (tp + 20) by rw [hI.1, up2_eq]]
      refine ⟨_, _, pw_iret dX12_feed_125 rfl rfl rfl rfl, ?_⟩
      refine Or.inr ⟨by omega, by rw [htp, Int.toNat_natCast], V1, A1, rfl, ?_⟩
      rw [htp, Int.toNat_natCast]
      exact hI) 20 0 _ A none rfl ⟨by rw [Nat.add_zero, ← ep, ← up2_nk (V := V) (a := o) (k := 0) (b := o) (j := 5) (x := 0) (by decide)]; exact (up2_same _ _ _).symm, fun _ _ => rfl, fun i => by rw [if_neg (by omega)]⟩
  · rw [Int32.le_iff_toInt_le, ti_add rfl li_20 (by omega)] at c15
    have c15 : ¬ (V o 5).toInt + 20 ≤ 900 := c15
    refine WQ.st (fun _ _ kz => pw_ldc kX12_92 dX12_feed_18 kz) ?_
    refine ⟨_, _, pw_iret dX12_feed_20 rfl rfl rfl rfl, ?_⟩
    exact Or.inl ⟨by omega, rfl, up2 V o 0 0, A, rfl, FP.up (by decide), rfl⟩
def sp_wrOK (so mn : Nat → Int32) (x i : Int) : Prop := sp_nt so x = 0 ∧ 0 ≤ i ∧ i < (mn x.toNat).toInt
set_option maxRecDepth 20000 in
theorem p_write {G : gT} {d : Nat} {S : sS} {V : sV} {P : sP} {A : sV} {B : sB} {Q : sP} {t sl o : Nat} (hF : MF S P o) (hR : ∀ tr, tr < 4 → 0 ≤ (A (o + 21) tr).toInt ∧ (A (o + 21) tr).toInt ≤ 40) (x y : Int32) (v : Int64) : WQ G (d + 9) mX12_write 0 [some (.ref o), some (.int x), some (.int y), some (.long v), none, none] [] (t, sl, gh S V P A B Q) (fun r h' => (¬ sp_nt (A (o + 20)) x.toInt = 0 ∧ r = some (.long (sp_nt (A (o + 20)) x.toInt).toInt64) ∧ ∃ V' : sV, h' = (t, sl, gh S V' P A B Q) ∧ FP o V V') ∨ (sp_nt (A (o + 20)) x.toInt = 0 ∧ ¬ (0 ≤ y.toInt ∧ y.toInt < (A (o + 21) x.toInt.toNat).toInt) ∧ r = some (.long (-99000007)) ∧ ∃ V' : sV, h' = (t, sl, gh S V' P A B Q) ∧ FP o V V') ∨ (sp_wrOK (A (o + 20)) (A (o + 21)) x.toInt y.toInt ∧ r = some (.long (rf_cut v (A (o + 20) x.toInt.toNat))) ∧ ∃ (V' : sV) (B' : sB), h' = (t, sl, gh S V' P A B' Q) ∧ FP o V V' ∧ B' = up2 B (o + 22) (40 * x.toInt.toNat + y.toInt.toNat) (rf_cut v (A (o + 20) x.toInt.toNat)))) := by
  refine WQ.st (fun _ _ kz => pw_aload0 dX12_write_0 kz) ?_
  refine WQ.st (fun _ _ kz => pw_iconst (v := 0) dX12_write_1 (by decide) kz) ?_
  refine WQ.st (fun _ _ kz => pw_puti (pX12_1 _ rfl) dX12_write_2 hF.1 rfl rfl kz) ?_
  refine WQ.st (fun _ _ kz => pw_aload0 dX12_write_5 kz) ?_
  refine WQ.st (fun _ _ kz => pw_iload1 dX12_write_6 kz) ?_
  obtain ⟨_, _, k0, rfl, rfl⟩ := c_noTray (d := d + 7) (P := P) (S := S) (G := G) (V := (up2 V o 0 0)) (A := A) (B := B) (Q := Q) (t := t) (sl := sl) hF x
  refine WQ.st (fun _ _ kz => pw_o1i wX12_noTray lX12_388 rfl dX12_write_7 hF.1 (k0) rfl (Nat.le_of_ble_eq_true rfl) (Nat.le_of_ble_eq_true rfl) kz) ?_
  refine WQ.st (fun _ _ kz => pw_istore5 dX12_write_10 (by decide) (k := kz)) ?_
  refine WQ.st (fun _ _ kz => pw_iload5 dX12_write_12 kz) ?_
  refine WQ.br (fun _ _ ka kb => pw_if_eq (tgt := 21) dX12_write_14 (by decide) ka kb) (fun c14 => ?_) (fun c14 => ?_)
  · have hx := nt_0 c14
    obtain ⟨tr, etr, ttr, ltr⟩ := nI_get (x := x) (n := 4) (by omega) (by omega) (by decide)
    have htr : tr < 4 := by omega
    rw [etr]
    have hR1 := hR tr htr
    refine WQ.st (fun _ _ kz => pw_iload2 dX12_write_21 kz) ?_
    refine WQ.st (fun _ _ kz => pw_i2l dX12_write_22 kz) ?_
    refine WQ.st (fun _ _ kz => pw_lconst (v := 0) dX12_write_23 (by decide) kz) ?_
    refine WQ.st (fun _ _ kz => pw_aload0 dX12_write_24 kz) ?_
    refine WQ.st (fun _ _ kz => pw_getr gX12_79 dX12_write_25 hF.1 (mf_p37 hF) kz) ?_
    refine WQ.st (fun _ _ kz => pw_iload1 dX12_write_28 kz) ?_
    refine WQ.st (fun _ _ kz => pw_ald (j := tr) dX12_write_29 (mf_s21 hF) (ix_m rfl (by omega)) (by omega) kz) ?_
    refine WQ.st (fun _ _ kz => pw_iconst (v := 1) dX12_write_30 (by decide) kz) ?_
    refine WQ.st (fun _ _ kz => pw_isub dX12_write_31 kz) ?_
    refine WQ.st (fun _ _ kz => pw_i2l dX12_write_32 kz) ?_
    refine WQ.st (fun _ _ kz => pw_s3i wX12_within lX12_152 dX12_write_33 (c_withinI _ _ _) rfl (Nat.le_of_ble_eq_true rfl) (Nat.le_of_ble_eq_true rfl) kz) ?_
    refine WQ.bn (fun _ _ ka kb => pw_if_ne (tgt := 43) dX12_write_36 (by decide) ka kb) (fun c36 => ?_) (fun c36 => ?_)
    · rw [bI_n] at c36
      have d36 : 0 ≤ y.toInt ∧ y.toInt ≤ (A (o + 21) tr).toInt - 1 := by
        rw [sub1_t hR1.1 hR1.2 (by decide), il_t] at c36
        exact of_decide_eq_true c36
      have c36 := d36
      obtain ⟨k, ek, tk, lk⟩ := nI_get (x := y) (n := 40) (by omega) (by omega) (by decide)
      rw [ek]
      refine WQ.st (fun _ _ kz => pw_aload0 dX12_write_43 kz) ?_
      refine WQ.st (fun _ _ kz => pw_getr gX12_82 dX12_write_44 hF.1 (mf_p38 hF) kz) ?_
      refine WQ.st (fun _ _ kz => pw_bipush (v := 40) dX12_write_47 (by decide) kz) ?_
      refine WQ.st (fun _ _ kz => pw_iload1 dX12_write_49 kz) ?_
      refine WQ.st (fun _ _ kz => pw_imul dX12_write_50 kz) ?_
      refine WQ.st (fun _ _ kz => pw_iload2 dX12_write_51 kz) ?_
      refine WQ.st (fun _ _ kz => pw_iadd dX12_write_52 kz) ?_
      refine WQ.st (fun _ _ kz => pw_lload3 dX12_write_53 kz) ?_
      refine WQ.st (fun _ _ kz => pw_aload0 dX12_write_54 kz) ?_
      refine WQ.st (fun _ _ kz => pw_getr gX12_76 dX12_write_55 hF.1 (mf_p36 hF) kz) ?_
      refine WQ.st (fun _ _ kz => pw_iload1 dX12_write_58 kz) ?_
      refine WQ.st (fun _ _ kz => pw_ald (j := tr) dX12_write_59 (mf_s20 hF) (ix_m rfl (by omega)) (by omega) kz) ?_
      refine WQ.st (fun _ _ kz => pw_s2i wX12_cut lX12_507 dX12_write_60 (c_cut _ _) rfl (Nat.le_of_ble_eq_true rfl) (Nat.le_of_ble_eq_true rfl) kz) ?_
      refine WQ.st (fun _ _ kz => pw_lst (j := 40 * tr + k) dX12_write_63 (mf_s22 hF) (by simp (disch := omega) only [nl_40, nI_add, pk_mul, pk_sub]; exact ix_m (by omega) (by omega)) (by omega)  kz) ?_
      refine WQ.st (fun _ _ kz => pw_aload0 dX12_write_64 kz) ?_
      refine WQ.st (fun _ _ kz => pw_getr gX12_82 dX12_write_65 hF.1 (mf_p38 hF) kz) ?_
      refine WQ.st (fun _ _ kz => pw_bipush (v := 40) dX12_write_68 (by decide) kz) ?_
      refine WQ.st (fun _ _ kz => pw_iload1 dX12_write_70 kz) ?_
      refine WQ.st (fun _ _ kz => pw_imul dX12_write_71 kz) ?_
      refine WQ.st (fun _ _ kz => pw_iload2 dX12_write_72 kz) ?_
      refine WQ.st (fun _ _ kz => pw_iadd dX12_write_73 kz) ?_
      refine WQ.st (fun _ _ kz => pw_lld (j := 40 * tr + k) dX12_write_74 (mf_s22 hF) (by simp (disch := omega) only [nl_40, nI_add, pk_mul, pk_sub]; exact ix_m (by omega) (by omega)) (by omega) kz) ?_
      rw [up2_eq]
      refine ⟨_, _, pw_lret dX12_write_75 rfl rfl rfl, ?_⟩
      rw [← etr, ← ek]
      refine Or.inr (Or.inr ⟨⟨c14, by omega, by rw [ttr, Int.toNat_natCast]; omega⟩, ?_, up2 V o 0 0, _, rfl, FP.up (by decide), ?_⟩)
      · rw [ttr, Int.toNat_natCast]
      · rw [ttr, tk, Int.toNat_natCast, Int.toNat_natCast]
    · rw [bI_0] at c36
      have d36 : ¬ (0 ≤ y.toInt ∧ y.toInt ≤ (A (o + 21) tr).toInt - 1) := by
        rw [sub1_t hR1.1 hR1.2 (by decide), il_t] at c36
        exact of_decide_eq_false c36
      refine WQ.st (fun _ _ kz => pw_ldc2 kX12_505 dX12_write_39 kz) ?_
      refine ⟨_, _, pw_lret dX12_write_42 rfl rfl rfl, ?_⟩
      rw [← etr]
      exact Or.inr (Or.inl ⟨c14, by rw [ttr, Int.toNat_natCast]; omega, rfl, up2 V o 0 0, rfl, FP.up (by decide)⟩)
  · refine WQ.st (fun _ _ kz => pw_iload5 dX12_write_17 kz) ?_
    refine WQ.st (fun _ _ kz => pw_i2l dX12_write_19 kz) ?_
    refine ⟨_, _, pw_lret dX12_write_20 rfl rfl rfl, ?_⟩
    exact Or.inl ⟨c14, rfl, up2 V o 0 0, rfl, FP.up (by decide)⟩
def nmOK (x y z : Int) : Prop := ((0 ≤ x ∧ x ≤ 3) ∧ (0 ≤ y ∧ y ≤ 3)) ∧ (0 ≤ z ∧ z ≤ 40)
def CPZ (B0 : sB) (dst lo n : Nat) (B : sB) : Prop := (∀ a, a ≠ dst → B a = B0 a) ∧ ∀ i, B dst i = if lo ≤ i ∧ i < lo + n then 0 else B0 dst i
theorem CPZ.step {B0 : sB} {dst lo k : Nat} {B : sB} (h : CPZ B0 dst lo k B) : CPZ B0 dst lo (k + 1) (up2 B dst (lo + k) 0) := by
  refine ⟨fun a ha => by rw [up2_na ha]; exact h.1 a ha, fun i => ?_⟩
  rw [up2_at]
  unfold pm_up
  by_cases q : i = lo + k
  · rw [if_pos q, if_pos (by omega)]
  · rw [if_neg q, h.2]
    by_cases q2 : lo ≤ i ∧ i < lo + k
    · rw [if_pos q2, if_pos (by omega)]
    · rw [if_neg q2, if_neg (by omega)]
set_option maxRecDepth 20000 in
theorem l_numbers {G : gT} {d : Nat} {S : sS} {V : sV} {P : sP} {A : sV} {Q : sP} {t sl o : Nat} (hF : MF S P o) {tr n : Nat} {s : Int32} (htr : tr < 4) (hn40 : n ≤ 40) {B0 : sB} {Z : Option Value → Ph → Prop} (kf : ∀ B : sB, CPZ B0 (o + 22) (40 * tr) n B → WQ G d mX12_numbers 89 [some (.ref o), some (.int (nI tr)), some (.int s), some (.int (nI n)), some (.int (nI n))] [] (t, sl, gh S V P A B Q) Z) : ∀ (m k : Nat) (B : sB), k + m = n → CPZ B0 (o + 22) (40 * tr) k B → WQ G d mX12_numbers 64 [some (.ref o), some (.int (nI tr)), some (.int s), some (.int (nI n)), some (.int (nI k))] [] (t, sl, gh S V P A B Q) Z := by
  intro m
  induction m with
  | zero =>
    intro k B hk hC
    have hk : k = n := hk
    subst hk
    refine WQ.st (fun _ _ kz => pw_iload4 dX12_numbers_64 kz) ?_
    refine WQ.st (fun _ _ kz => pw_iload3 dX12_numbers_66 kz) ?_
    refine WQ.br (fun _ _ ka kb => pw_icmp_ge (tgt := 89) dX12_numbers_67 (by decide) ka kb) (fun c67 => ?_) (fun c67 => absurd (Int32.le_refl _) c67)
    exact kf B hC
  | succ m ih =>
    intro k B hk hC
    refine WQ.st (fun _ _ kz => pw_iload4 dX12_numbers_64 kz) ?_
    refine WQ.st (fun _ _ kz => pw_iload3 dX12_numbers_66 kz) ?_
    refine WQ.br (fun _ _ ka kb => pw_icmp_ge (tgt := 89) dX12_numbers_67 (by decide) ka kb) (fun c67 => absurd c67 (by rw [le_i (ix_n (j := n) (by omega)) (ix_n (j := k) (by omega))]; omega)) (fun c67 => ?_)
    refine WQ.st (fun _ _ kz => pw_aload0 dX12_numbers_70 kz) ?_
    refine WQ.st (fun _ _ kz => pw_getr gX12_82 dX12_numbers_71 hF.1 (mf_p38 hF) kz) ?_
    refine WQ.st (fun _ _ kz => pw_bipush (v := 40) dX12_numbers_74 (by decide) kz) ?_
    refine WQ.st (fun _ _ kz => pw_iload1 dX12_numbers_76 kz) ?_
    refine WQ.st (fun _ _ kz => pw_imul dX12_numbers_77 kz) ?_
    refine WQ.st (fun _ _ kz => pw_iload4 dX12_numbers_78 kz) ?_
    refine WQ.st (fun _ _ kz => pw_iadd dX12_numbers_80 kz) ?_
    refine WQ.st (fun _ _ kz => pw_lconst (v := 0) dX12_numbers_81 (by decide) kz) ?_
    refine WQ.st (fun _ _ kz => pw_lst (j := 40 * tr + k) dX12_numbers_82 (mf_s22 hF) (by simp (disch := omega) only [nl_40, nI_add, pk_mul, pk_sub]; exact ix_m (by omega) (by omega)) (by omega)  kz) ?_
    refine WQ.st (fun _ _ kz => pw_iinc4 (v := 1) dX12_numbers_83 (by decide) (by decide) (k := kz)) ?_
    refine WQ.st (fun _ _ kz => pw_goto (tgt := 64) dX12_numbers_86 (by decide) kz) ?_
    rw [nI_1]
    exact ih (k + 1) _ (by omega) hC.step
set_option maxRecDepth 20000 in
theorem p_numbers {G : gT} {d : Nat} {S : sS} {V : sV} {P : sP} {A : sV} {B : sB} {Q : sP} {t sl o : Nat} (hF : MF S P o) (x y z : Int32) : WQ G (d + 9) mX12_numbers 0 [some (.ref o), some (.int x), some (.int y), some (.int z), none] [] (t, sl, gh S V P A B Q) (fun r h' => (¬ ((0 ≤ x.toInt ∧ x.toInt ≤ 3) ∧ (0 ≤ y.toInt ∧ y.toInt ≤ 3)) ∧ r = some (.int (-99000002)) ∧ ∃ V' : sV, h' = (t, sl, gh S V' P A B Q) ∧ FP o V V') ∨ ((((0 ≤ x.toInt ∧ x.toInt ≤ 3) ∧ (0 ≤ y.toInt ∧ y.toInt ≤ 3)) ∧ ¬ (0 ≤ z.toInt ∧ z.toInt ≤ 40)) ∧ r = some (.int (-99000003)) ∧ ∃ V' : sV, h' = (t, sl, gh S V' P A B Q) ∧ FP o V V') ∨ (nmOK x.toInt y.toInt z.toInt ∧ r = some (.int 0) ∧ ∃ (V' A' : sV) (B' : sB), h' = (t, sl, gh S V' P A' B' Q) ∧ FP o V V' ∧ A' = up2 (up2 A (o + 20) x.toInt.toNat y) (o + 21) x.toInt.toNat z ∧ CPZ B (o + 22) (40 * x.toInt.toNat) z.toInt.toNat B')) := by
  refine WQ.st (fun _ _ kz => pw_aload0 dX12_numbers_0 kz) ?_
  refine WQ.st (fun _ _ kz => pw_iconst (v := 0) dX12_numbers_1 (by decide) kz) ?_
  refine WQ.st (fun _ _ kz => pw_puti (pX12_1 _ rfl) dX12_numbers_2 hF.1 rfl rfl kz) ?_
  refine WQ.st (fun _ _ kz => pw_iload1 dX12_numbers_5 kz) ?_
  refine WQ.st (fun _ _ kz => pw_i2l dX12_numbers_6 kz) ?_
  refine WQ.st (fun _ _ kz => pw_lconst (v := 0) dX12_numbers_7 (by decide) kz) ?_
  refine WQ.st (fun _ _ kz => pw_ldc2 kX12_385 dX12_numbers_8 kz) ?_
  refine WQ.st (fun _ _ kz => pw_s3i wX12_within lX12_152 dX12_numbers_11 (c_withinI _ _ _) rfl (Nat.le_of_ble_eq_true rfl) (Nat.le_of_ble_eq_true rfl) kz) ?_
  refine WQ.br (fun _ _ ka kb => pw_if_eq (tgt := 29) dX12_numbers_14 (by decide) ka kb) (fun c14 => ?_) (fun c14 => ?_)
  · rw [bI_0] at c14
    have c14 : ¬ (0 ≤ x.toInt ∧ x.toInt ≤ 3) := by
      rw [il_t] at c14
      exact of_decide_eq_false c14
    refine WQ.st (fun _ _ kz => pw_ldc kX12_247 dX12_numbers_29 kz) ?_
    refine ⟨_, _, pw_iret dX12_numbers_31 rfl rfl rfl rfl, ?_⟩
    exact Or.inl ⟨fun q => c14 q.1, rfl, up2 V o 0 0, rfl, FP.up (by decide)⟩
  · rw [bI_n] at c14
    have c14 : 0 ≤ x.toInt ∧ x.toInt ≤ 3 := by
      rw [il_t] at c14
      exact of_decide_eq_true c14
    refine WQ.st (fun _ _ kz => pw_iload2 dX12_numbers_17 kz) ?_
    refine WQ.st (fun _ _ kz => pw_i2l dX12_numbers_18 kz) ?_
    refine WQ.st (fun _ _ kz => pw_lconst (v := 0) dX12_numbers_19 (by decide) kz) ?_
    refine WQ.st (fun _ _ kz => pw_ldc2 kX12_385 dX12_numbers_20 kz) ?_
    refine WQ.st (fun _ _ kz => pw_s3i wX12_within lX12_152 dX12_numbers_23 (c_withinI _ _ _) rfl (Nat.le_of_ble_eq_true rfl) (Nat.le_of_ble_eq_true rfl) kz) ?_
    refine WQ.bn (fun _ _ ka kb => pw_if_ne (tgt := 32) dX12_numbers_26 (by decide) ka kb) (fun c26 => ?_) (fun c26 => ?_)
    · rw [bI_n] at c26
      have c26 : 0 ≤ y.toInt ∧ y.toInt ≤ 3 := by
        rw [il_t] at c26
        exact of_decide_eq_true c26
      refine WQ.st (fun _ _ kz => pw_iload3 dX12_numbers_32 kz) ?_
      refine WQ.st (fun _ _ kz => pw_i2l dX12_numbers_33 kz) ?_
      refine WQ.st (fun _ _ kz => pw_lconst (v := 0) dX12_numbers_34 (by decide) kz) ?_
      refine WQ.st (fun _ _ kz => pw_ldc2 kX12_327 dX12_numbers_35 kz) ?_
      refine WQ.st (fun _ _ kz => pw_s3i wX12_within lX12_152 dX12_numbers_38 (c_withinI _ _ _) rfl (Nat.le_of_ble_eq_true rfl) (Nat.le_of_ble_eq_true rfl) kz) ?_
      refine WQ.bn (fun _ _ ka kb => pw_if_ne (tgt := 47) dX12_numbers_41 (by decide) ka kb) (fun c41 => ?_) (fun c41 => ?_)
      · rw [bI_n] at c41
        have c41 : 0 ≤ z.toInt ∧ z.toInt ≤ 40 := by
          rw [il_t] at c41
          exact of_decide_eq_true c41
        obtain ⟨tr, etr, tt, lt⟩ := nI_get (x := x) (n := 4) (by omega) (by omega) (by decide)
        obtain ⟨n, en, tn, ln⟩ := nI_get (x := z) (n := 41) (by omega) (by omega) (by decide)
        refine WQ.st (fun _ _ kz => pw_aload0 dX12_numbers_47 kz) ?_
        refine WQ.st (fun _ _ kz => pw_getr gX12_76 dX12_numbers_48 hF.1 (mf_p36 hF) kz) ?_
        refine WQ.st (fun _ _ kz => pw_iload1 dX12_numbers_51 kz) ?_
        refine WQ.st (fun _ _ kz => pw_iload2 dX12_numbers_52 kz) ?_
        refine WQ.st (fun _ _ kz => pw_ast (j := tr) dX12_numbers_53 (mf_s20 hF) (by rw [tt]) (by omega)  kz) ?_
        refine WQ.st (fun _ _ kz => pw_aload0 dX12_numbers_54 kz) ?_
        refine WQ.st (fun _ _ kz => pw_getr gX12_79 dX12_numbers_55 hF.1 (mf_p37 hF) kz) ?_
        refine WQ.st (fun _ _ kz => pw_iload1 dX12_numbers_58 kz) ?_
        refine WQ.st (fun _ _ kz => pw_iload3 dX12_numbers_59 kz) ?_
        refine WQ.st (fun _ _ kz => pw_ast (j := tr) dX12_numbers_60 (mf_s21 hF) (by rw [tt]) (by omega)  kz) ?_
        refine WQ.st (fun _ _ kz => pw_iconst (v := 0) dX12_numbers_61 (by decide) kz) ?_
        refine WQ.st (fun _ _ kz => pw_istore4 dX12_numbers_62 (by decide) (k := kz)) ?_
        have kl := l_numbers (S := S) (P := P) (G := G) (V := up2 V o 0 0) (A := up2 (up2 A (o + 20) tr y) (o + 21) tr z) (Q := Q) (t := t) (sl := sl) (d := d + 9) (s := y) hF (tr := tr) (n := n) (by omega) (by omega) (B0 := B) (Z := (fun r h' => (¬ ((0 ≤ x.toInt ∧ x.toInt ≤ 3) ∧ (0 ≤ y.toInt ∧ y.toInt ≤ 3)) ∧ r = some (.int (-99000002)) ∧ ∃ V' : sV, h' = (t, sl, gh S V' P A B Q) ∧ FP o V V') ∨ ((((0 ≤ x.toInt ∧ x.toInt ≤ 3) ∧ (0 ≤ y.toInt ∧ y.toInt ≤ 3)) ∧ ¬ (0 ≤ z.toInt ∧ z.toInt ≤ 40)) ∧ r = some (.int (-99000003)) ∧ ∃ V' : sV, h' = (t, sl, gh S V' P A B Q) ∧ FP o V V') ∨ (nmOK x.toInt y.toInt z.toInt ∧ r = some (.int 0) ∧ ∃ (V' A' : sV) (B' : sB), h' = (t, sl, gh S V' P A' B' Q) ∧ FP o V V' ∧ A' = up2 (up2 A (o + 20) x.toInt.toNat y) (o + 21) x.toInt.toNat z ∧ CPZ B (o + 22) (40 * x.toInt.toNat) z.toInt.toNat B'))) (fun B1 hC => by
          refine WQ.st (fun _ _ kz => pw_iconst (v := 0) dX12_numbers_89 (by decide) kz) ?_
          refine ⟨_, _, pw_iret dX12_numbers_90 rfl rfl rfl rfl, ?_⟩
          refine Or.inr (Or.inr ⟨⟨⟨c14, c26⟩, c41⟩, rfl, up2 V o 0 0, _, B1, rfl, FP.up (by decide), ?_, ?_⟩)
          · rw [tt, Int.toNat_natCast]
          · rw [tt, tn, Int.toNat_natCast, Int.toNat_natCast]
            exact hC) n 0 B (by omega) ⟨fun _ _ => rfl, fun i => by rw [if_neg (by omega)]⟩
        rw [← etr, ← en] at kl
        exact kl
      · rw [bI_0] at c41
        have c41 : ¬ (0 ≤ z.toInt ∧ z.toInt ≤ 40) := by
          rw [il_t] at c41
          exact of_decide_eq_false c41
        refine WQ.st (fun _ _ kz => pw_ldc kX12_206 dX12_numbers_44 kz) ?_
        refine ⟨_, _, pw_iret dX12_numbers_46 rfl rfl rfl rfl, ?_⟩
        exact Or.inr (Or.inl ⟨⟨⟨c14, c26⟩, c41⟩, rfl, up2 V o 0 0, rfl, FP.up (by decide)⟩)
    · rw [bI_0] at c26
      have c26 : ¬ (0 ≤ y.toInt ∧ y.toInt ≤ 3) := by
        rw [il_t] at c26
        exact of_decide_eq_false c26
      refine WQ.st (fun _ _ kz => pw_ldc kX12_247 dX12_numbers_29 kz) ?_
      refine ⟨_, _, pw_iret dX12_numbers_31 rfl rfl rfl rfl, ?_⟩
      exact Or.inl ⟨fun q => c26 q.2, rfl, up2 V o 0 0, rfl, FP.up (by decide)⟩
set_option maxRecDepth 20000 in
theorem l_image {G : gT} {d : Nat} {S : sS} {V : sV} {P : sP} {B : sB} {Q : sP} {t sl o : Nat} (hF : MF S P o) {n : Nat} (hn1 : n < 2) {A0 : sV} {Z : Option Value → Ph → Prop} (kf : ∀ A : sV, CPY A0 (o + 1) (1164 * (n + 1)) (o + 1) (0) (1164) A → WQ G d mX12_image 53 [some (.ref o), some (.int (nI n)), some (.int (nI (1164)))] [] (t, sl, gh S V P A B Q) Z) : ∀ (m k : Nat) (A : sV), k + m = 1164 → CPY A0 (o + 1) (1164 * (n + 1)) (o + 1) (0) k A → WQ G d mX12_image 20 [some (.ref o), some (.int (nI n)), some (.int (nI k))] [] (t, sl, gh S V P A B Q) Z := by
  intro m
  induction m with
  | zero =>
    intro k A hk hC
    have hk : k = 1164 := hk
    subst hk
    refine WQ.st (fun _ _ kz => pw_iload2 dX12_image_20 kz) ?_
    refine WQ.st (fun _ _ kz => pw_sipush (v := 1164) dX12_image_21 (by decide) kz) ?_
    refine WQ.br (fun _ _ ka kb => pw_icmp_ge (tgt := 53) dX12_image_24 (by decide) ka kb) (fun c24 => ?_) (fun c24 => absurd (by decide) c24)
    exact kf A hC
  | succ m ih =>
    intro k A hk hC
    have kk := ih (k + 1) _ (by omega) (hC.step (Or.inr (Or.inr (by omega))))
    refine WQ.st (fun _ _ kz => pw_iload2 dX12_image_20 kz) ?_
    refine WQ.st (fun _ _ kz => pw_sipush (v := 1164) dX12_image_21 (by decide) kz) ?_
    refine WQ.br (fun _ _ ka kb => pw_icmp_ge (tgt := 53) dX12_image_24 (by decide) ka kb) (fun c24 => absurd c24 (by rw [le_i li_1164 (ix_n (j := k) (by omega))]; omega)) (fun c24 => ?_)
    refine WQ.st (fun _ _ kz => pw_aload0 dX12_image_27 kz) ?_
    refine WQ.st (fun _ _ kz => pw_getr gX12_13 dX12_image_28 hF.1 (mf_p1 hF) kz) ?_
    refine WQ.st (fun _ _ kz => pw_sipush (v := 1164) dX12_image_31 (by decide) kz) ?_
    refine WQ.st (fun _ _ kz => pw_iload1 dX12_image_34 kz) ?_
    refine WQ.st (fun _ _ kz => pw_iconst (v := 1) dX12_image_35 (by decide) kz) ?_
    refine WQ.st (fun _ _ kz => pw_iadd dX12_image_36 kz) ?_
    rw [nI_1]
    refine WQ.st (fun _ _ kz => pw_imul dX12_image_37 kz) ?_
    refine WQ.st (fun _ _ kz => pw_iload2 dX12_image_38 kz) ?_
    refine WQ.st (fun _ _ kz => pw_iadd dX12_image_39 kz) ?_
    refine WQ.st (fun _ _ kz => pw_aload0 dX12_image_40 kz) ?_
    refine WQ.st (fun _ _ kz => pw_getr gX12_13 dX12_image_41 hF.1 (mf_p1 hF) kz) ?_
    refine WQ.st (fun _ _ kz => pw_iload2 dX12_image_44 kz) ?_
    refine WQ.st (fun _ _ kz => pw_ald (j := 0 + k) dX12_image_45 (mf_s1 hF) (ix_m (by omega) (by omega)) (by omega) kz) ?_
    refine WQ.st (fun _ _ kz => pw_ast (j := (1164 * (n + 1)) + k) dX12_image_46 (mf_s1 hF) (by simp (disch := omega) only [nl_1164, nI_add, pk_mul, pk_sub]; exact ix_m (by omega) (by omega)) (by omega)  kz) ?_
    refine WQ.st (fun _ _ kz => pw_iinc2 (v := 1) dX12_image_47 (by decide) (by decide) (k := kz)) ?_
    refine WQ.st (fun _ _ kz => pw_goto (tgt := 20) dX12_image_50 (by decide) kz) ?_
    rw [nI_1]
    exact kk
set_option maxRecDepth 20000 in
theorem l_restore {G : gT} {d : Nat} {S : sS} {V : sV} {P : sP} {B : sB} {Q : sP} {t sl o : Nat} (hF : MF S P o) {n : Nat} (hn1 : n < 2) {A0 : sV} {Z : Option Value → Ph → Prop} (kf : ∀ A : sV, CPY A0 (o + 1) (0) (o + 1) (1164 * (n + 1)) (1164) A → WQ G d mX12_restore 65 [some (.ref o), some (.int (nI n)), some (.int (nI (1164)))] [] (t, sl, gh S V P A B Q) Z) : ∀ (m k : Nat) (A : sV), k + m = 1164 → CPY A0 (o + 1) (0) (o + 1) (1164 * (n + 1)) k A → WQ G d mX12_restore 32 [some (.ref o), some (.int (nI n)), some (.int (nI k))] [] (t, sl, gh S V P A B Q) Z := by
  intro m
  induction m with
  | zero =>
    intro k A hk hC
    have hk : k = 1164 := hk
    subst hk
    refine WQ.st (fun _ _ kz => pw_iload2 dX12_restore_32 kz) ?_
    refine WQ.st (fun _ _ kz => pw_sipush (v := 1164) dX12_restore_33 (by decide) kz) ?_
    refine WQ.br (fun _ _ ka kb => pw_icmp_ge (tgt := 65) dX12_restore_36 (by decide) ka kb) (fun c36 => ?_) (fun c36 => absurd (by decide) c36)
    exact kf A hC
  | succ m ih =>
    intro k A hk hC
    have kk := ih (k + 1) _ (by omega) (hC.step (Or.inr (Or.inl (by omega))))
    refine WQ.st (fun _ _ kz => pw_iload2 dX12_restore_32 kz) ?_
    refine WQ.st (fun _ _ kz => pw_sipush (v := 1164) dX12_restore_33 (by decide) kz) ?_
    refine WQ.br (fun _ _ ka kb => pw_icmp_ge (tgt := 65) dX12_restore_36 (by decide) ka kb) (fun c36 => absurd c36 (by rw [le_i li_1164 (ix_n (j := k) (by omega))]; omega)) (fun c36 => ?_)
    refine WQ.st (fun _ _ kz => pw_aload0 dX12_restore_39 kz) ?_
    refine WQ.st (fun _ _ kz => pw_getr gX12_13 dX12_restore_40 hF.1 (mf_p1 hF) kz) ?_
    refine WQ.st (fun _ _ kz => pw_iload2 dX12_restore_43 kz) ?_
    refine WQ.st (fun _ _ kz => pw_aload0 dX12_restore_44 kz) ?_
    refine WQ.st (fun _ _ kz => pw_getr gX12_13 dX12_restore_45 hF.1 (mf_p1 hF) kz) ?_
    refine WQ.st (fun _ _ kz => pw_sipush (v := 1164) dX12_restore_48 (by decide) kz) ?_
    refine WQ.st (fun _ _ kz => pw_iload1 dX12_restore_51 kz) ?_
    refine WQ.st (fun _ _ kz => pw_iconst (v := 1) dX12_restore_52 (by decide) kz) ?_
    refine WQ.st (fun _ _ kz => pw_iadd dX12_restore_53 kz) ?_
    rw [nI_1]
    refine WQ.st (fun _ _ kz => pw_imul dX12_restore_54 kz) ?_
    refine WQ.st (fun _ _ kz => pw_iload2 dX12_restore_55 kz) ?_
    refine WQ.st (fun _ _ kz => pw_iadd dX12_restore_56 kz) ?_
    refine WQ.st (fun _ _ kz => pw_ald (j := (1164 * (n + 1)) + k) dX12_restore_57 (mf_s1 hF) (by simp (disch := omega) only [nl_1164, nI_add, pk_mul, pk_sub]; exact ix_m (by omega) (by omega)) (by omega) kz) ?_
    refine WQ.st (fun _ _ kz => pw_ast (j := 0 + k) dX12_restore_58 (mf_s1 hF) (ix_m (by omega) (by omega)) (by omega)  kz) ?_
    refine WQ.st (fun _ _ kz => pw_iinc2 (v := 1) dX12_restore_59 (by decide) (by decide) (k := kz)) ?_
    refine WQ.st (fun _ _ kz => pw_goto (tgt := 32) dX12_restore_62 (by decide) kz) ?_
    rw [nI_1]
    exact kk
def sp_im (al : Nat → Int32) (n : Nat) : Nat → Int32 := fun i => if 1164 * (n + 1) ≤ i ∧ i < 1164 * (n + 1) + 1164 then al (i - 1164 * (n + 1)) else al i
def sp_rs (al : Nat → Int32) (n : Nat) : Nat → Int32 := fun i => if i = 92 then 0 else if i < 1164 then al (i + 1164 * (n + 1)) else al i
set_option maxRecDepth 20000 in
theorem p_image {G : gT} {d : Nat} {S : sS} {V : sV} {P : sP} {A : sV} {B : sB} {Q : sP} {t sl o : Nat} (hF : MF S P o) (x : Int32) : WQ G (d + 9) mX12_image 0 [some (.ref o), some (.int x), none] [] (t, sl, gh S V P A B Q) (fun r h' => (¬ (0 ≤ x.toInt ∧ x.toInt ≤ 1) ∧ r = some (.int (-99000002)) ∧ ∃ V' : sV, h' = (t, sl, gh S V' P A B Q) ∧ FP o V V') ∨ ((0 ≤ x.toInt ∧ x.toInt ≤ 1) ∧ r = some (.int 0) ∧ ∃ V' A' : sV, h' = (t, sl, gh S V' P A' B Q) ∧ FP o V V' ∧ (∀ a, a ≠ o + 1 → a ≠ o + 2 → A' a = A a) ∧ A' (o + 1) = sp_im (A (o + 1)) x.toInt.toNat ∧ A' (o + 2) = pm_up (A (o + 2)) x.toInt.toNat 1)) := by
  refine WQ.st (fun _ _ kz => pw_aload0 dX12_image_0 kz) ?_
  refine WQ.st (fun _ _ kz => pw_iconst (v := 0) dX12_image_1 (by decide) kz) ?_
  refine WQ.st (fun _ _ kz => pw_puti (pX12_1 _ rfl) dX12_image_2 hF.1 rfl rfl kz) ?_
  refine WQ.st (fun _ _ kz => pw_iload1 dX12_image_5 kz) ?_
  refine WQ.st (fun _ _ kz => pw_i2l dX12_image_6 kz) ?_
  refine WQ.st (fun _ _ kz => pw_lconst (v := 0) dX12_image_7 (by decide) kz) ?_
  refine WQ.st (fun _ _ kz => pw_lconst (v := 1) dX12_image_8 (by decide) kz) ?_
  refine WQ.st (fun _ _ kz => pw_s3i wX12_within lX12_152 dX12_image_9 (c_withinI _ _ _) rfl (Nat.le_of_ble_eq_true rfl) (Nat.le_of_ble_eq_true rfl) kz) ?_
  refine WQ.bn (fun _ _ ka kb => pw_if_ne (tgt := 18) dX12_image_12 (by decide) ka kb) (fun c12 => ?_) (fun c12 => ?_)
  · rw [bI_n] at c12
    have c12 : 0 ≤ x.toInt ∧ x.toInt ≤ 1 := by
      rw [il_t] at c12
      exact of_decide_eq_true c12
    obtain ⟨n, en, tn, ln⟩ := nI_get (x := x) (n := 2) (by omega) (by omega) (by decide)
    refine WQ.st (fun _ _ kz => pw_iconst (v := 0) dX12_image_18 (by decide) kz) ?_
    refine WQ.st (fun _ _ kz => pw_istore2 dX12_image_19 (by decide) (k := kz)) ?_
    have kl := l_image (S := S) (P := P) (G := G) (V := up2 V o 0 0) (B := B) (Q := Q) (t := t) (sl := sl) (d := d + 9) hF (n := n) (by omega) (A0 := A) (Z := (fun r h' => (¬ (0 ≤ x.toInt ∧ x.toInt ≤ 1) ∧ r = some (.int (-99000002)) ∧ ∃ V' : sV, h' = (t, sl, gh S V' P A B Q) ∧ FP o V V') ∨ ((0 ≤ x.toInt ∧ x.toInt ≤ 1) ∧ r = some (.int 0) ∧ ∃ V' A' : sV, h' = (t, sl, gh S V' P A' B Q) ∧ FP o V V' ∧ (∀ a, a ≠ o + 1 → a ≠ o + 2 → A' a = A a) ∧ A' (o + 1) = sp_im (A (o + 1)) x.toInt.toNat ∧ A' (o + 2) = pm_up (A (o + 2)) x.toInt.toNat 1))) (fun A1 hC => by
      refine WQ.st (fun _ _ kz => pw_aload0 dX12_image_53 kz) ?_
      refine WQ.st (fun _ _ kz => pw_getr gX12_17 dX12_image_54 hF.1 (mf_p2 hF) kz) ?_
      refine WQ.st (fun _ _ kz => pw_iload1 dX12_image_57 kz) ?_
      refine WQ.st (fun _ _ kz => pw_iconst (v := 1) dX12_image_58 (by decide) kz) ?_
      refine WQ.st (fun _ _ kz => pw_zst (j := n) dX12_image_59 (mf_s2 hF) (ix_n (by omega)) (by omega) (by decide) kz) ?_
      refine WQ.st (fun _ _ kz => pw_iconst (v := 0) dX12_image_60 (by decide) kz) ?_
      refine ⟨_, _, pw_iret dX12_image_61 rfl rfl rfl rfl, ?_⟩
      refine Or.inr ⟨c12, rfl, up2 V o 0 0, _, rfl, FP.up (by decide), fun a h1 h2 => by rw [up2_na h2, hC.1 a h1], ?_, ?_⟩
      · rw [up2_na (by omega), tn, Int.toNat_natCast]
        funext j
        rw [hC.2]
        rfl
      · rw [tn, Int.toNat_natCast, up2_at, hC.1 _ (by omega)]) 1164 0 A rfl (CPY.zero _ _ _ _ _)
    rw [← en] at kl
    exact kl
  · rw [bI_0] at c12
    have c12 : ¬ (0 ≤ x.toInt ∧ x.toInt ≤ 1) := by
      rw [il_t] at c12
      exact of_decide_eq_false c12
    refine WQ.st (fun _ _ kz => pw_ldc kX12_247 dX12_image_15 kz) ?_
    refine ⟨_, _, pw_iret dX12_image_17 rfl rfl rfl rfl, ?_⟩
    exact Or.inl ⟨c12, rfl, up2 V o 0 0, rfl, FP.up (by decide)⟩
set_option maxRecDepth 20000 in
theorem p_restore {G : gT} {d : Nat} {S : sS} {V : sV} {P : sP} {A : sV} {B : sB} {Q : sP} {t sl o : Nat} (hF : MF S P o) (x : Int32) : WQ G (d + 9) mX12_restore 0 [some (.ref o), some (.int x), none] [] (t, sl, gh S V P A B Q) (fun r h' => (¬ (0 ≤ x.toInt ∧ x.toInt ≤ 1) ∧ r = some (.int (-99000002)) ∧ ∃ V' : sV, h' = (t, sl, gh S V' P A B Q) ∧ FP o V V') ∨ ((0 ≤ x.toInt ∧ x.toInt ≤ 1) ∧ A (o + 2) x.toInt.toNat = 0 ∧ r = some (.int (-99000005)) ∧ ∃ V' : sV, h' = (t, sl, gh S V' P A B Q) ∧ FP o V V') ∨ ((0 ≤ x.toInt ∧ x.toInt ≤ 1) ∧ ¬ A (o + 2) x.toInt.toNat = 0 ∧ r = some (.int 0) ∧ ∃ V' A' : sV, h' = (t, sl, gh S V' P A' B Q) ∧ FP o V V' ∧ (∀ a, a ≠ o + 1 → A' a = A a) ∧ A' (o + 1) = sp_rs (A (o + 1)) x.toInt.toNat)) := by
  refine WQ.st (fun _ _ kz => pw_aload0 dX12_restore_0 kz) ?_
  refine WQ.st (fun _ _ kz => pw_iconst (v := 0) dX12_restore_1 (by decide) kz) ?_
  refine WQ.st (fun _ _ kz => pw_puti (pX12_1 _ rfl) dX12_restore_2 hF.1 rfl rfl kz) ?_
  refine WQ.st (fun _ _ kz => pw_iload1 dX12_restore_5 kz) ?_
  refine WQ.st (fun _ _ kz => pw_i2l dX12_restore_6 kz) ?_
  refine WQ.st (fun _ _ kz => pw_lconst (v := 0) dX12_restore_7 (by decide) kz) ?_
  refine WQ.st (fun _ _ kz => pw_lconst (v := 1) dX12_restore_8 (by decide) kz) ?_
  refine WQ.st (fun _ _ kz => pw_s3i wX12_within lX12_152 dX12_restore_9 (c_withinI _ _ _) rfl (Nat.le_of_ble_eq_true rfl) (Nat.le_of_ble_eq_true rfl) kz) ?_
  refine WQ.bn (fun _ _ ka kb => pw_if_ne (tgt := 18) dX12_restore_12 (by decide) ka kb) (fun c12 => ?_) (fun c12 => ?_)
  · rw [bI_n] at c12
    have c12 : 0 ≤ x.toInt ∧ x.toInt ≤ 1 := by
      rw [il_t] at c12
      exact of_decide_eq_true c12
    obtain ⟨n, en, tn, ln⟩ := nI_get (x := x) (n := 2) (by omega) (by omega) (by decide)
    refine WQ.st (fun _ _ kz => pw_aload0 dX12_restore_18 kz) ?_
    refine WQ.st (fun _ _ kz => pw_getr gX12_17 dX12_restore_19 hF.1 (mf_p2 hF) kz) ?_
    refine WQ.st (fun _ _ kz => pw_iload1 dX12_restore_22 kz) ?_
    refine WQ.st (fun _ _ kz => pw_zld (j := n) dX12_restore_23 (mf_s2 hF) (by rw [tn]) (by omega) kz) ?_
    refine WQ.bn (fun _ _ ka kb => pw_if_ne (tgt := 30) dX12_restore_24 (by decide) ka kb) (fun c24 => ?_) (fun c24 => ?_)
    · have c24' : ¬ A (o + 2) x.toInt.toNat = 0 := by rw [tn, Int.toNat_natCast]; exact c24
      refine WQ.st (fun _ _ kz => pw_iconst (v := 0) dX12_restore_30 (by decide) kz) ?_
      refine WQ.st (fun _ _ kz => pw_istore2 dX12_restore_31 (by decide) (k := kz)) ?_
      have kl := l_restore (S := S) (P := P) (G := G) (V := up2 V o 0 0) (B := B) (Q := Q) (t := t) (sl := sl) (d := d + 9) hF (n := n) (by omega) (A0 := A) (Z := (fun r h' => (¬ (0 ≤ x.toInt ∧ x.toInt ≤ 1) ∧ r = some (.int (-99000002)) ∧ ∃ V' : sV, h' = (t, sl, gh S V' P A B Q) ∧ FP o V V') ∨ ((0 ≤ x.toInt ∧ x.toInt ≤ 1) ∧ A (o + 2) x.toInt.toNat = 0 ∧ r = some (.int (-99000005)) ∧ ∃ V' : sV, h' = (t, sl, gh S V' P A B Q) ∧ FP o V V') ∨ ((0 ≤ x.toInt ∧ x.toInt ≤ 1) ∧ ¬ A (o + 2) x.toInt.toNat = 0 ∧ r = some (.int 0) ∧ ∃ V' A' : sV, h' = (t, sl, gh S V' P A' B Q) ∧ FP o V V' ∧ (∀ a, a ≠ o + 1 → A' a = A a) ∧ A' (o + 1) = sp_rs (A (o + 1)) x.toInt.toNat))) (fun A1 hC => by
        refine WQ.st (fun _ _ kz => pw_aload0 dX12_restore_65 kz) ?_
        refine WQ.st (fun _ _ kz => pw_getr gX12_13 dX12_restore_66 hF.1 (mf_p1 hF) kz) ?_
        refine WQ.st (fun _ _ kz => pw_bipush (v := 92) dX12_restore_69 (by decide) kz) ?_
        refine WQ.st (fun _ _ kz => pw_iconst (v := 0) dX12_restore_71 (by decide) kz) ?_
        refine WQ.st (fun _ _ kz => pw_ast (j := 92) dX12_restore_72 (mf_s1 hF) rfl (by omega)  kz) ?_
        refine WQ.st (fun _ _ kz => pw_iconst (v := 0) dX12_restore_73 (by decide) kz) ?_
        refine ⟨_, _, pw_iret dX12_restore_74 rfl rfl rfl rfl, ?_⟩
        refine Or.inr (Or.inr ⟨c12, c24', rfl, up2 V o 0 0, _, rfl, FP.up (by decide), fun a h1 => by rw [up2_na h1, hC.1 a h1], ?_⟩)
        rw [tn, Int.toNat_natCast, up2_at]
        funext j
        unfold pm_up sp_rs
        by_cases e : j = 92
        · rw [if_pos e, if_pos e]
        · rw [if_neg e, if_neg e, hC.2]
          by_cases e2 : j < 1164
          · rw [if_pos (by omega), if_pos e2]
            exact congrArg _ (by omega)
          · rw [if_neg (by omega), if_neg e2]) 1164 0 A rfl (CPY.zero _ _ _ _ _)
      rw [← en] at kl
      exact kl
    · have c24' : A (o + 2) x.toInt.toNat = 0 := by rw [tn, Int.toNat_natCast]; exact c24
      refine WQ.st (fun _ _ kz => pw_ldc kX12_92 dX12_restore_27 kz) ?_
      refine ⟨_, _, pw_iret dX12_restore_29 rfl rfl rfl rfl, ?_⟩
      exact Or.inr (Or.inl ⟨c12, c24', rfl, up2 V o 0 0, rfl, FP.up (by decide)⟩)
  · rw [bI_0] at c12
    have c12 : ¬ (0 ≤ x.toInt ∧ x.toInt ≤ 1) := by
      rw [il_t] at c12
      exact of_decide_eq_false c12
    refine WQ.st (fun _ _ kz => pw_ldc kX12_247 dX12_restore_15 kz) ?_
    refine ⟨_, _, pw_iret dX12_restore_17 rfl rfl rfl rfl, ?_⟩
    exact Or.inl ⟨c12, rfl, up2 V o 0 0, rfl, FP.up (by decide)⟩
