/-! ===== the class: deeds told, deeds drawn ===== -/
theorem nI_div {k m : Nat} (hk : k < 1000000) (hm : 0 < m) (hm2 : m < 1000000) : nI k / nI m = nI (k / m) := by
  have hle : k / m ≤ k := Nat.div_le_self k m
  rw [← Int32.toInt_inj, Int32.toInt_div_of_ne_left _ _ (fun q => by rw [← Int32.toInt_inj, nI_toInt (by omega)] at q; have q : (k : Int) = -2147483648 := q; omega), nI_toInt (by omega), nI_toInt (by omega), nI_toInt (by omega)]
  rw [Int.tdiv_eq_ediv_of_nonneg (by omega)]
  rfl
section TO
variable (al : Nat → Int32) {n : Nat}
theorem to_c (h : n < 100) : sp_why al (n : Int) = sp_wp al ((n / 10 : Nat) : Int) ((n % 10 : Nat) : Int) ∧ sp_act al (n : Int) = sp_pc al (n / 10) (n % 10) := by
  refine ⟨?_, ?_⟩
  · unfold sp_why
    rw [if_neg (by omega), if_pos (by omega)]
    rfl
  · unfold sp_act
    rw [if_neg (by omega), if_pos (by omega)]
    rfl
theorem to_b (h0 : 100 ≤ n) (h : n < 200) : sp_why al (n : Int) = sp_wb al ((n / 10 - 10 : Nat) : Int) ((n % 10 : Nat) : Int) ∧ sp_act al (n : Int) = sp_pb al (n / 10 - 10) (n % 10) := by
  have e : ((n : Int) - 100) / 10 = ((n / 10 - 10 : Nat) : Int) := by omega
  refine ⟨?_, ?_⟩
  · unfold sp_why
    rw [if_neg (by omega), if_neg (by omega), if_pos (by omega), e]
    rfl
  · unfold sp_act
    rw [if_neg (by omega), if_neg (by omega), if_pos (by omega), e]
    rfl
theorem to_l (h0 : 1000 ≤ n) (h : n < 10000) : sp_why al (n : Int) = sp_wl al ((n / 1000 - 1 : Nat) : Int) ((n / 100 % 10 : Nat) : Int) ((n % 100 : Nat) : Int) ∧ sp_act al (n : Int) = sp_lend al (n / 1000 - 1) (n / 100 % 10) (nI (n % 100)) := by
  have e : ((n : Int) - 1000) / 1000 = ((n / 1000 - 1 : Nat) : Int) := by omega
  refine ⟨?_, ?_⟩
  · unfold sp_why
    rw [if_neg (by omega), if_neg (by omega), if_neg (by omega), if_pos (by omega), e]
    rfl
  · unfold sp_act
    rw [if_neg (by omega), if_neg (by omega), if_neg (by omega), e]
    rfl
theorem to_n {v : Int} (h : ¬ v = -1) (h2 : v < 0 ∨ 9999 < v ∨ (200 ≤ v ∧ v < 1000)) : sp_why al v = 1 := by
  unfold sp_why
  rw [if_neg h, if_neg (by omega), if_neg (by omega), if_neg (by omega)]
end TO
set_option maxRecDepth 20000 in
theorem k_doTold {G : gT} {d : Nat} {S : sS} {V : sV} {P : sP} {A : sV} {B : sB} {Q : sP} {t sl : Nat} {al : Nat → Int32} {sh ls a : Nat} (hE : DE S V P A B Q t al sh ls a) (hls : ls + 1 < 2000000000) (v : Int64) : WQ G (d + 6) mX2_doTold 0 [some (.ref 137), some (.ref a), some (.long v), none, none] [] (t, sl, gh S V P A B Q) (fun r h' => r = some (.int (sp_why al v.toInt)) ∧ ∃ (t' sl' ls' : Nat) (S' : sS) (V' : sV) (P' : sP) (A' : sV) (B' : sB) (Q' : sP), h' = (t', sl', gh S' V' P' A' B' Q') ∧ DE S' V' P' A' B' Q' t' (if sp_why al v.toInt = 0 then sp_act al v.toInt else al) sh ls' a ∧ ls' ≤ ls + 1 ∧ FrD a S V P A B Q t S' V' P' A' B' Q' t' ∧ (∀ k1 k2, Room2 S Q t sl k1 k2 → Room2 S' Q' t' sl' k1 k2) ∧ V' 137 4 = V 137 4) := by
  have hC := hE.dc.ka.cf
  have hD := hE.dc.ka.dv
  have hSe := hE.dc.ka.se
  have hST := hE.st
  have ha := hE.a2
  have hsa := hE.dc.ka.sa
  refine WQ.st (fun _ _ kz => pw_lload2 dX2_doTold_0 kz) ?_
  refine WQ.st (fun _ _ kz => pw_ldc2 kX2_99 dX2_doTold_1 kz) ?_
  refine WQ.st (fun _ _ kz => pw_lcmp dX2_doTold_4 kz) ?_
  refine WQ.bn (fun _ _ ka kb => pw_if_ne (tgt := 14) dX2_doTold_5 (by decide) ka kb) (fun c5 => ?_) (fun c5 => ?_)
  · rw [lg_cmp_eq] at c5
    have g5 : ¬ v.toInt = -1 := fun w => c5 (Int64.toInt_inj.mp w)
    refine WQ.st (fun _ _ kz => pw_lload2 dX2_doTold_14 kz) ?_
    refine WQ.st (fun _ _ kz => pw_lconst (v := 0) dX2_doTold_15 (by decide) kz) ?_
    refine WQ.st (fun _ _ kz => pw_lcmp dX2_doTold_16 kz) ?_
    refine WQ.br (fun _ _ ka kb => pw_if_lt (tgt := 28) dX2_doTold_17 (by decide) ka kb) (fun c17 => ?_) (fun c17 => ?_)
    · refine WQ.st (fun _ _ kz => pw_iconst (v := 1) dX2_doTold_28 (by decide) kz) ?_
      refine ⟨_, _, pw_iret dX2_doTold_29 rfl rfl rfl rfl, ?_⟩
      rw [to_n al g5 (Or.inl (by rw [lg_cmp_lt, Int64.lt_iff_toInt_lt] at c17; exact c17)), if_neg (by decide)]
      exact ⟨rfl, t, sl, ls, S, V, P, A, B, Q, rfl, hE, by omega, FrD.rfl, fun _ _ h => h, rfl⟩
    · refine WQ.st (fun _ _ kz => pw_lload2 dX2_doTold_20 kz) ?_
      refine WQ.st (fun _ _ kz => pw_ldc2 kX2_105 dX2_doTold_21 kz) ?_
      refine WQ.st (fun _ _ kz => pw_lcmp dX2_doTold_24 kz) ?_
      refine WQ.br (fun _ _ ka kb => pw_if_le (tgt := 30) dX2_doTold_25 (by decide) ka kb) (fun c25 => ?_) (fun c25 => ?_)
      · have h0 : 0 ≤ v.toInt := by rw [lg_cmp_lt, Int64.lt_iff_toInt_lt] at c17; exact Int.not_lt.mp c17
        have h9 : v.toInt ≤ 9999 := by rw [lg_cmp_le, Int64.le_iff_toInt_le] at c25; exact c25
        obtain ⟨n, hn⟩ : ∃ n : Nat, v.toInt = (n : Int) := ⟨v.toInt.toNat, by omega⟩
        have hn4 : n < 10000 := by omega
        have en : v.toInt32 = nI n := by rw [li_n h0 (by omega), hn, Int.toNat_natCast]
        rw [hn]
        refine WQ.st (fun _ _ kz => pw_lload2 dX2_doTold_30 kz) ?_
        refine WQ.st (fun _ _ kz => pw_l2i dX2_doTold_31 kz) ?_
        rw [en]
        refine WQ.st (fun _ _ kz => pw_istore4 dX2_doTold_32 (by decide) (k := kz)) ?_
        refine WQ.st (fun _ _ kz => pw_iload4 dX2_doTold_34 kz) ?_
        refine WQ.st (fun _ _ kz => pw_bipush (v := 100) dX2_doTold_36 (by decide) kz) ?_
        refine WQ.br (fun _ _ ka kb => pw_icmp_ge (tgt := 57) dX2_doTold_38 (by decide) ka kb) (fun c38 => ?_) (fun c38 => ?_)
        · have g38 : 100 ≤ n := by have := (le_i (show (100 : Int32).toInt = 100 from rfl) (ix_n (j := n) (by omega))).mp c38; omega
          refine WQ.st (fun _ _ kz => pw_iload4 dX2_doTold_57 kz) ?_
          refine WQ.st (fun _ _ kz => pw_sipush (v := 200) dX2_doTold_59 (by decide) kz) ?_
          refine WQ.br (fun _ _ ka kb => pw_icmp_ge (tgt := 84) dX2_doTold_62 (by decide) ka kb) (fun c62 => ?_) (fun c62 => ?_)
          · have g62 : 200 ≤ n := by have := (le_i (show (200 : Int32).toInt = 200 from rfl) (ix_n (j := n) (by omega))).mp c62; omega
            refine WQ.st (fun _ _ kz => pw_iload4 dX2_doTold_84 kz) ?_
            refine WQ.st (fun _ _ kz => pw_sipush (v := 1000) dX2_doTold_86 (by decide) kz) ?_
            refine WQ.br (fun _ _ ka kb => pw_icmp_ge (tgt := 96) dX2_doTold_89 (by decide) ka kb) (fun c89 => ?_) (fun c89 => ?_)
            · have g89 : 1000 ≤ n := by have := (le_i (show (1000 : Int32).toInt = 1000 from rfl) (ix_n (j := n) (by omega))).mp c89; omega
              refine WQ.st (fun _ _ kz => pw_aload0 dX2_doTold_96 kz) ?_
              refine WQ.st (fun _ _ kz => pw_aload1 dX2_doTold_97 kz) ?_
              refine WQ.st (fun _ _ kz => pw_iload4 dX2_doTold_98 kz) ?_
              refine WQ.st (fun _ _ kz => pw_sipush (v := 1000) dX2_doTold_100 (by decide) kz) ?_
              refine WQ.st (fun _ _ kz => pw_idiv dX2_doTold_103 (by decide) kz) ?_
              rw [show (1000 : Int32) = nI 1000 from rfl, nI_div (by omega) (by decide) (by decide)]
              refine WQ.st (fun _ _ kz => pw_iconst (v := 1) dX2_doTold_104 (by decide) kz) ?_
              refine WQ.st (fun _ _ kz => pw_isub dX2_doTold_105 kz) ?_
              rw [nl_1, pk_sub (by omega)]
              refine WQ.st (fun _ _ kz => pw_iload4 dX2_doTold_106 kz) ?_
              refine WQ.st (fun _ _ kz => pw_bipush (v := 100) dX2_doTold_108 (by decide) kz) ?_
              refine WQ.st (fun _ _ kz => pw_idiv dX2_doTold_110 (by decide) kz) ?_
              rw [show (100 : Int32) = nI 100 from rfl, nI_div (by omega) (by decide) (by decide)]
              refine WQ.st (fun _ _ kz => pw_bipush (v := 10) dX2_doTold_111 (by decide) kz) ?_
              refine WQ.st (fun _ _ kz => pw_irem dX2_doTold_113 (by decide) kz) ?_
              rw [show (10 : Int32) = nI 10 from rfl, pk_rem (by omega) (by omega) (by omega)]
              refine WQ.st (fun _ _ kz => pw_iload4 dX2_doTold_114 kz) ?_
              refine WQ.st (fun _ _ kz => pw_bipush (v := 100) dX2_doTold_116 (by decide) kz) ?_
              refine WQ.st (fun _ _ kz => pw_irem dX2_doTold_118 (by decide) kz) ?_
              rw [show (100 : Int32) = nI 100 from rfl, pk_rem (by omega) (by omega) (by omega)]
              refine wq_o4i wX2_lendTicks lX2_113 rfl dX2_doTold_119 (cf_s137 hC) (k_lendTicks hE _ _ _) rfl (Nat.le_of_ble_eq_true rfl) (Nat.le_of_ble_eq_true rfl) (fun h119 z119 => ?_)
              obtain ⟨t5, sl5, ls5, S5, V5, P5, A5, B5, Q5, rfl, z1, z2, z3, z4, z5⟩ := z119
              refine ⟨_, _, pw_iret dX2_doTold_122 rfl rfl rfl rfl, ?_⟩
              obtain ⟨e1, e2⟩ := to_l al g89 hn4
              rw [ix_n (j := n / 1000 - 1) (by omega), ix_n (j := n / 100 % 10) (by omega), ix_n (j := n % 100) (by omega)] at z1 ⊢
              simp only [Int.toNat_natCast] at z1
              rw [e2, e1]
              exact ⟨rfl, t5, sl5, ls5, S5, V5, P5, A5, B5, Q5, rfl, z1, (by omega), z3, z4, z5⟩
            · have g89 : n < 1000 := Nat.lt_of_not_le (fun w => c89 ((le_i (show (1000 : Int32).toInt = 1000 from rfl) (ix_n (j := n) (by omega))).mpr (by omega)))
              refine WQ.st (fun _ _ kz => pw_iconst (v := 1) dX2_doTold_92 (by decide) kz) ?_
              refine WQ.st (fun _ _ kz => pw_goto (tgt := 122) dX2_doTold_93 (by decide) kz) ?_
              refine ⟨_, _, pw_iret dX2_doTold_122 rfl rfl rfl rfl, ?_⟩
              rw [to_n al (by omega) (Or.inr (Or.inr (by omega))), if_neg (by decide)]
              exact ⟨rfl, t, sl, ls, S, V, P, A, B, Q, rfl, hE, by omega, FrD.rfl, fun _ _ h => h, rfl⟩
          · have g62 : n < 200 := Nat.lt_of_not_le (fun w => c62 ((le_i (show (200 : Int32).toInt = 200 from rfl) (ix_n (j := n) (by omega))).mpr (by omega)))
            refine WQ.st (fun _ _ kz => pw_aload0 dX2_doTold_65 kz) ?_
            refine WQ.st (fun _ _ kz => pw_aload1 dX2_doTold_66 kz) ?_
            refine WQ.st (fun _ _ kz => pw_iload4 dX2_doTold_67 kz) ?_
            refine WQ.st (fun _ _ kz => pw_bipush (v := 10) dX2_doTold_69 (by decide) kz) ?_
            refine WQ.st (fun _ _ kz => pw_idiv dX2_doTold_71 (by decide) kz) ?_
            rw [show (10 : Int32) = nI 10 from rfl, nI_div (by omega) (by decide) (by decide)]
            refine WQ.st (fun _ _ kz => pw_bipush (v := 10) dX2_doTold_72 (by decide) kz) ?_
            refine WQ.st (fun _ _ kz => pw_isub dX2_doTold_74 kz) ?_
            rw [show (10 : Int32) = nI 10 from rfl, pk_sub (by omega)]
            refine WQ.st (fun _ _ kz => pw_iload4 dX2_doTold_75 kz) ?_
            refine WQ.st (fun _ _ kz => pw_bipush (v := 10) dX2_doTold_77 (by decide) kz) ?_
            refine WQ.st (fun _ _ kz => pw_irem dX2_doTold_79 (by decide) kz) ?_
            rw [show (10 : Int32) = nI 10 from rfl, pk_rem (by omega) (by omega) (by omega)]
            refine wq_o3i wX2_playBest lX2_110 rfl dX2_doTold_80 (cf_s137 hC) (k_playBest hE hls _ _) rfl (Nat.le_of_ble_eq_true rfl) (Nat.le_of_ble_eq_true rfl) (fun h80 z80 => ?_)
            obtain ⟨t5, sl5, ls5, S5, V5, P5, A5, B5, Q5, rfl, z1, z2, z3, z4, z5, _⟩ := z80
            refine ⟨_, _, pw_iret dX2_doTold_83 rfl rfl rfl rfl, ?_⟩
            obtain ⟨e1, e2⟩ := to_b al g38 g62
            rw [ix_n (j := n / 10 - 10) (by omega), ix_n (j := n % 10) (by omega)] at z1 ⊢
            simp only [Int.toNat_natCast] at z1
            rw [e2, e1]
            exact ⟨rfl, t5, sl5, ls5, S5, V5, P5, A5, B5, Q5, rfl, z1, z2, z3, z4, z5⟩
        · have g38 : n < 100 := Nat.lt_of_not_le (fun w => c38 ((le_i (show (100 : Int32).toInt = 100 from rfl) (ix_n (j := n) (by omega))).mpr (by omega)))
          refine WQ.st (fun _ _ kz => pw_aload0 dX2_doTold_41 kz) ?_
          refine WQ.st (fun _ _ kz => pw_aload1 dX2_doTold_42 kz) ?_
          refine WQ.st (fun _ _ kz => pw_iload4 dX2_doTold_43 kz) ?_
          refine WQ.st (fun _ _ kz => pw_bipush (v := 10) dX2_doTold_45 (by decide) kz) ?_
          refine WQ.st (fun _ _ kz => pw_idiv dX2_doTold_47 (by decide) kz) ?_
          rw [show (10 : Int32) = nI 10 from rfl, nI_div (by omega) (by decide) (by decide)]
          refine WQ.st (fun _ _ kz => pw_iload4 dX2_doTold_48 kz) ?_
          refine WQ.st (fun _ _ kz => pw_bipush (v := 10) dX2_doTold_50 (by decide) kz) ?_
          refine WQ.st (fun _ _ kz => pw_irem dX2_doTold_52 (by decide) kz) ?_
          rw [show (10 : Int32) = nI 10 from rfl, pk_rem (by omega) (by omega) (by omega)]
          refine wq_o3i wX2_playComing lX2_107 rfl dX2_doTold_53 (cf_s137 hC) (k_playComing hE hls _ _) rfl (Nat.le_of_ble_eq_true rfl) (Nat.le_of_ble_eq_true rfl) (fun h53 z53 => ?_)
          obtain ⟨t5, sl5, ls5, S5, V5, P5, A5, B5, Q5, rfl, z1, z2, z3, z4, z5, _⟩ := z53
          refine ⟨_, _, pw_iret dX2_doTold_56 rfl rfl rfl rfl, ?_⟩
          obtain ⟨e1, e2⟩ := to_c al g38
          rw [ix_n (j := n / 10) (by omega), ix_n (j := n % 10) (by omega)] at z1 ⊢
          simp only [Int.toNat_natCast] at z1
          rw [e2, e1]
          exact ⟨rfl, t5, sl5, ls5, S5, V5, P5, A5, B5, Q5, rfl, z1, z2, z3, z4, z5⟩
      · refine WQ.st (fun _ _ kz => pw_iconst (v := 1) dX2_doTold_28 (by decide) kz) ?_
        refine ⟨_, _, pw_iret dX2_doTold_29 rfl rfl rfl rfl, ?_⟩
        rw [to_n al g5 (Or.inr (Or.inl (by rw [lg_cmp_le, Int64.le_iff_toInt_le] at c25; exact Int.not_le.mp c25))), if_neg (by decide)]
        exact ⟨rfl, t, sl, ls, S, V, P, A, B, Q, rfl, hE, by omega, FrD.rfl, fun _ _ h => h, rfl⟩
  · have g5 : v.toInt = -1 := by rw [lg_cmp_eq] at c5; rw [c5]; rfl
    refine WQ.st (fun _ _ kz => pw_aload0 dX2_doTold_8 kz) ?_
    refine WQ.st (fun _ _ kz => pw_aload1 dX2_doTold_9 kz) ?_
    refine wq_o1i wX2_holdFriday lX2_101 rfl dX2_doTold_10 (cf_s137 hC) (k_holdFriday hE) rfl (Nat.le_of_ble_eq_true rfl) (Nat.le_of_ble_eq_true rfl) (fun h10 z10 => ?_)
    obtain ⟨t5, sl5, ls5, S5, V5, P5, A5, B5, Q5, rfl, z1, z2, z3, z4, z5⟩ := z10
    refine ⟨_, _, pw_iret dX2_doTold_13 rfl rfl rfl rfl, ?_⟩
    have e1 : sp_why al v.toInt = 0 := by unfold sp_why; rw [if_pos g5]
    have e2 : sp_act al v.toInt = sp_fri al := by unfold sp_act; rw [if_pos g5]
    rw [e1, if_pos rfl, e2]
    exact ⟨rfl, t5, sl5, ls5, S5, V5, P5, A5, B5, Q5, rfl, z1, by omega, z3, z4, z5⟩
set_option maxRecDepth 20000 in
theorem k_sow {G : gT} {d : Nat} {S : sS} {V : sV} {P : sP} {A : sV} {B : sB} {Q : sP} {t sl : Nat} (hC : CF S P) (x : Int32) : WQ G d mX2_sow 0 [some (.ref 137), some (.int x)] [] (t, sl, gh S V P A B Q) (fun r h' => r = none ∧ h' = (t, sl, gh S (up2 V 137 4 x) P A B Q)) := by
  refine WQ.st (fun _ _ kz => pw_aload0 dX2_sow_0 kz) ?_
  refine WQ.st (fun _ _ kz => pw_iload1 dX2_sow_1 kz) ?_
  refine WQ.st (fun _ _ kz => pw_puti (pX2_15 _ rfl) dX2_sow_2 (cf_s137 hC) rfl rfl kz) ?_
  refine ⟨_, _, pw_vret dX2_sow_5 rfl rfl rfl, ?_⟩
  exact ⟨rfl, rfl⟩
set_option maxRecDepth 20000 in
theorem k_drawn {G : gT} {d : Nat} {S : sS} {V : sV} {P : sP} {A : sV} {B : sB} {Q : sP} {t sl : Nat} (hC : CF S P) {b : Nat} (hb : 0 < b) (hb2 : b < 100) : WQ G d mX2_drawn 0 [some (.ref 137), some (.int (nI b))] [] (t, sl, gh S V P A B Q) (fun r h' => r = some (.int (nI (dw (V 137 4) b))) ∧ h' = (t, sl, gh S (up2 V 137 4 (dx (V 137 4))) P A B Q)) := by
  refine WQ.st (fun _ _ kz => pw_aload0 dX2_drawn_0 kz) ?_
  refine WQ.st (fun _ _ kz => pw_ldc kX2_117 dX2_drawn_1 kz) ?_
  refine WQ.st (fun _ _ kz => pw_aload0 dX2_drawn_3 kz) ?_
  refine WQ.st (fun _ _ kz => pw_geti gX2_15 dX2_drawn_4 (cf_s137 hC) kz) ?_
  refine WQ.st (fun _ _ kz => pw_imul dX2_drawn_7 kz) ?_
  refine WQ.st (fun _ _ kz => pw_sipush (v := 12345) dX2_drawn_8 (by decide) kz) ?_
  refine WQ.st (fun _ _ kz => pw_iadd dX2_drawn_11 kz) ?_
  refine WQ.st (fun _ _ kz => pw_puti (pX2_15 _ rfl) dX2_drawn_12 (cf_s137 hC) rfl rfl kz) ?_
  have e27 : up2 V 137 4 (1103515245 * V 137 4 + 12345) 137 4 = dx (V 137 4) := up2_eq
  refine WQ.st (fun _ _ kz => pw_iload1 dX2_drawn_15 kz) ?_
  refine WQ.br (fun _ _ ka kb => pw_if_le (tgt := 31) dX2_drawn_16 (by decide) ka kb) (fun c16 => absurd c16 (by rw [show (0 : Int32) = nI 0 from rfl, le_i (ix_n (j := b) (by omega)) (ix_n (j := 0) (by decide))]; omega)) (fun c16 => ?_)
  refine WQ.st (fun _ _ kz => pw_aload0 dX2_drawn_19 kz) ?_
  refine WQ.st (fun _ _ kz => pw_geti gX2_15 dX2_drawn_20 (cf_s137 hC) kz) ?_
  rw [e27]
  refine WQ.st (fun _ _ kz => pw_bipush (v := 16) dX2_drawn_23 (by decide) kz) ?_
  refine WQ.st (fun _ _ kz => pw_iushr dX2_drawn_25 kz) ?_
  rw [ush16]
  refine WQ.st (fun _ _ kz => pw_iload1 dX2_drawn_26 kz) ?_
  refine WQ.st (fun _ _ kz => pw_irem dX2_drawn_27 (by rw [nl_0, nI_eq (by omega) (by decide)]; omega) kz) ?_
  rw [pk_rem (by have := u16_lt (dx (V 137 4)); omega) (by omega) (by omega)]
  refine WQ.st (fun _ _ kz => pw_goto (tgt := 32) dX2_drawn_28 (by decide) kz) ?_
  refine ⟨_, _, pw_iret dX2_drawn_32 rfl rfl rfl rfl, ?_⟩
  exact ⟨rfl, rfl⟩
