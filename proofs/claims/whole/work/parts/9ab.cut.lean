/-- the text that the reader is given -/
def CTX (x : Nat → Int32) (L : Nat) (V : sV) (P : sP) (A : sV) : Prop := V 10 8 = nI L ∧ L ≤ 900 ∧ P 10 7 = some 9 ∧ ∀ i, i < L → A 9 i &&& 255 = x i
section CTS
variable {x : Nat → Int32} {L : Nat} {V : sV} {P : sP} {A : sV}
theorem CTX.le (h : CTX x L V P A) : V 10 8 = nI L := h.1
theorem CTX.l9 (h : CTX x L V P A) : L ≤ 900 := h.2.1
theorem CTX.tp (h : CTX x L V P A) : P 10 7 = some 9 := h.2.2.1
theorem CTX.at (h : CTX x L V P A) : ∀ i, i < L → A 9 i &&& 255 = x i := h.2.2.2
end CTS
def sgT (x : Nat → Int32) (L p : Nat) : Int32 := if p < L then x p else 0
set_option maxRecDepth 20000 in
theorem k_signAt {G : gT} {d : Nat} {S : sS} {V : sV} {P : sP} {A : sV} {B : sB} {Q : sP} {t sl : Nat} (hC : CF S P) {x : Nat → Int32} {L p : Nat} (hX : CTX x L V P A) (hp : p ≤ 2000) : WQ G d mX6_signAt 0 [some (.ref 10), some (.int (nI p))] [] (t, sl, gh S V P A B Q) (fun r h' => r = some (.int (sgT x L p)) ∧ h' = (t, sl, gh S V P A B Q)) := by
  have h9 := hX.l9
  refine WQ.st (fun _ _ kz => pw_iload1 dX6_signAt_0 kz) ?_
  refine WQ.br (fun _ _ ka kb => pw_if_lt (tgt := 25) dX6_signAt_1 (by decide) ka kb) (fun c1 => absurd c1 (ix_nn (ix_n (by omega)))) (fun c1 => ?_)
  refine WQ.st (fun _ _ kz => pw_iload1 dX6_signAt_4 kz) ?_
  refine WQ.st (fun _ _ kz => pw_aload0 dX6_signAt_5 kz) ?_
  refine WQ.st (fun _ _ kz => pw_geti gX6_38 dX6_signAt_6 (cf_s10 hC) kz) ?_
  rw [hX.le]
  refine WQ.br (fun _ _ ka kb => pw_icmp_ge (tgt := 25) dX6_signAt_9 (by decide) ka kb) (fun c9 => ?_) (fun c9 => ?_)
  · rw [le_i (ix_n (by omega)) (ix_n (by omega))] at c9
    have c9 : ¬ p < L := by omega
    refine WQ.st (fun _ _ kz => pw_iconst (v := 0) dX6_signAt_25 (by decide) kz) ?_
    refine ⟨_, _, pw_iret dX6_signAt_26 rfl rfl rfl rfl, ?_⟩
    exact ⟨rI (by unfold sgT; rw [if_neg c9]), rfl⟩
  · rw [le_i (ix_n (by omega)) (ix_n (by omega))] at c9
    have c9 : p < L := by omega
    refine WQ.st (fun _ _ kz => pw_aload0 dX6_signAt_12 kz) ?_
    refine WQ.st (fun _ _ kz => pw_getr gX6_34 dX6_signAt_13 (cf_s10 hC) hX.tp kz) ?_
    refine WQ.st (fun _ _ kz => pw_iload1 dX6_signAt_16 kz) ?_
    refine WQ.st (fun _ _ kz => pw_bld (j := p) dX6_signAt_17 (cf_s9 hC) (ix_n (by omega)) (by omega) kz) ?_
    refine WQ.st (fun _ _ kz => pw_sipush (v := 255) dX6_signAt_18 (by decide) kz) ?_
    refine WQ.st (fun _ _ kz => pw_iand dX6_signAt_21 kz) ?_
    rw [hX.at p c9]
    refine WQ.st (fun _ _ kz => pw_goto (tgt := 26) dX6_signAt_22 (by decide) kz) ?_
    refine ⟨_, _, pw_iret dX6_signAt_26 rfl rfl rfl rfl, ?_⟩
    exact ⟨rI (by unfold sgT; rw [if_pos c9]), rfl⟩
set_option maxRecDepth 20000 in
theorem k_isLetter {G : gT} {d : Nat} {h : Ph} (c : Int32) : WQ G d mX6_isLetter 0 [some (.int c)] [] h (fun r h' => r = some (.int (bI (isSmI c))) ∧ h' = h) := by
  refine WQ.st (fun _ _ kz => pw_iload0 dX6_isLetter_0 kz) ?_
  refine WQ.st (fun _ _ kz => pw_bipush (v := 97) dX6_isLetter_1 (by decide) kz) ?_
  refine WQ.br (fun _ _ ka kb => pw_icmp_lt (tgt := 16) dX6_isLetter_3 (by decide) ka kb) (fun c3 => ?_) (fun c3 => ?_)
  · refine WQ.st (fun _ _ kz => pw_iconst (v := 0) dX6_isLetter_16 (by decide) kz) ?_
    refine ⟨_, _, pw_iret dX6_isLetter_17 rfl rfl rfl rfl, ?_⟩
    exact ⟨rI (bI_z (by unfold isSmI; rw [decide_eq_false_iff_not]; rw [lt_i rfl (show (97 : Int32).toInt = 97 from rfl)] at c3; omega)), rfl⟩
  · refine WQ.st (fun _ _ kz => pw_iload0 dX6_isLetter_6 kz) ?_
    refine WQ.st (fun _ _ kz => pw_bipush (v := 122) dX6_isLetter_7 (by decide) kz) ?_
    refine WQ.br (fun _ _ ka kb => pw_icmp_gt (tgt := 16) dX6_isLetter_9 (by decide) ka kb) (fun c9 => ?_) (fun c9 => ?_)
    · refine WQ.st (fun _ _ kz => pw_iconst (v := 0) dX6_isLetter_16 (by decide) kz) ?_
      refine ⟨_, _, pw_iret dX6_isLetter_17 rfl rfl rfl rfl, ?_⟩
      exact ⟨rI (bI_z (by unfold isSmI; rw [decide_eq_false_iff_not]; rw [lt_i (show (122 : Int32).toInt = 122 from rfl) rfl] at c9; omega)), rfl⟩
    · refine WQ.st (fun _ _ kz => pw_iconst (v := 1) dX6_isLetter_12 (by decide) kz) ?_
      refine WQ.st (fun _ _ kz => pw_goto (tgt := 17) dX6_isLetter_13 (by decide) kz) ?_
      refine ⟨_, _, pw_iret dX6_isLetter_17 rfl rfl rfl rfl, ?_⟩
      exact ⟨rI (bI_t (by unfold isSmI; rw [decide_eq_true_iff]; rw [lt_i rfl (show (97 : Int32).toInt = 97 from rfl)] at c3; rw [lt_i (show (122 : Int32).toInt = 122 from rfl) rfl] at c9; omega)), rfl⟩
set_option maxRecDepth 20000 in
theorem k_isDigit {G : gT} {d : Nat} {h : Ph} (c : Int32) : WQ G d mX6_isDigit 0 [some (.int c)] [] h (fun r h' => r = some (.int (bI (isDgI c))) ∧ h' = h) := by
  refine WQ.st (fun _ _ kz => pw_iload0 dX6_isDigit_0 kz) ?_
  refine WQ.st (fun _ _ kz => pw_bipush (v := 48) dX6_isDigit_1 (by decide) kz) ?_
  refine WQ.br (fun _ _ ka kb => pw_icmp_lt (tgt := 16) dX6_isDigit_3 (by decide) ka kb) (fun c3 => ?_) (fun c3 => ?_)
  · refine WQ.st (fun _ _ kz => pw_iconst (v := 0) dX6_isDigit_16 (by decide) kz) ?_
    refine ⟨_, _, pw_iret dX6_isDigit_17 rfl rfl rfl rfl, ?_⟩
    exact ⟨rI (bI_z (by unfold isDgI; rw [decide_eq_false_iff_not]; rw [lt_i rfl (show (48 : Int32).toInt = 48 from rfl)] at c3; omega)), rfl⟩
  · refine WQ.st (fun _ _ kz => pw_iload0 dX6_isDigit_6 kz) ?_
    refine WQ.st (fun _ _ kz => pw_bipush (v := 57) dX6_isDigit_7 (by decide) kz) ?_
    refine WQ.br (fun _ _ ka kb => pw_icmp_gt (tgt := 16) dX6_isDigit_9 (by decide) ka kb) (fun c9 => ?_) (fun c9 => ?_)
    · refine WQ.st (fun _ _ kz => pw_iconst (v := 0) dX6_isDigit_16 (by decide) kz) ?_
      refine ⟨_, _, pw_iret dX6_isDigit_17 rfl rfl rfl rfl, ?_⟩
      exact ⟨rI (bI_z (by unfold isDgI; rw [decide_eq_false_iff_not]; rw [lt_i (show (57 : Int32).toInt = 57 from rfl) rfl] at c9; omega)), rfl⟩
    · refine WQ.st (fun _ _ kz => pw_iconst (v := 1) dX6_isDigit_12 (by decide) kz) ?_
      refine WQ.st (fun _ _ kz => pw_goto (tgt := 17) dX6_isDigit_13 (by decide) kz) ?_
      refine ⟨_, _, pw_iret dX6_isDigit_17 rfl rfl rfl rfl, ?_⟩
      exact ⟨rI (bI_t (by unfold isDgI; rw [decide_eq_true_iff]; rw [lt_i rfl (show (48 : Int32).toInt = 48 from rfl)] at c3; rw [lt_i (show (57 : Int32).toInt = 57 from rfl) rfl] at c9; omega)), rfl⟩
set_option maxRecDepth 20000 in
theorem k_isSign {G : gT} {d : Nat} {h : Ph} (c : Int32) : WQ G d mX6_isSign 0 [some (.int c)] [] h (fun r h' => r = some (.int (bI (decide (sgF c 12 ≠ 25)))) ∧ h' = h) := by
  refine WQ.st (fun _ _ kz => pw_iload0 dX6_isSign_0 kz) ?_
  by_cases h1_40 : c = 40
  · refine WQ.st (fun _ _ kz => pw_lookup (off := 107) (tgt := 108) dX6_isSign_1 (by decide) (by rw [h1_40]; rfl) (by decide) kz) ?_
    refine WQ.st (fun _ _ kz => pw_iconst (v := 1) dX6_isSign_108 (by decide) kz) ?_
    refine ⟨_, _, pw_iret dX6_isSign_109 rfl rfl rfl rfl, ?_⟩
    exact ⟨rI (bI_t (by rw [h1_40]; decide +kernel)), rfl⟩
  by_cases h1_41 : c = 41
  · refine WQ.st (fun _ _ kz => pw_lookup (off := 107) (tgt := 108) dX6_isSign_1 (by decide) (by rw [h1_41]; rfl) (by decide) kz) ?_
    refine WQ.st (fun _ _ kz => pw_iconst (v := 1) dX6_isSign_108 (by decide) kz) ?_
    refine ⟨_, _, pw_iret dX6_isSign_109 rfl rfl rfl rfl, ?_⟩
    exact ⟨rI (bI_t (by rw [h1_41]; decide +kernel)), rfl⟩
  by_cases h1_42 : c = 42
  · refine WQ.st (fun _ _ kz => pw_lookup (off := 107) (tgt := 108) dX6_isSign_1 (by decide) (by rw [h1_42]; rfl) (by decide) kz) ?_
    refine WQ.st (fun _ _ kz => pw_iconst (v := 1) dX6_isSign_108 (by decide) kz) ?_
    refine ⟨_, _, pw_iret dX6_isSign_109 rfl rfl rfl rfl, ?_⟩
    exact ⟨rI (bI_t (by rw [h1_42]; decide +kernel)), rfl⟩
  by_cases h1_43 : c = 43
  · refine WQ.st (fun _ _ kz => pw_lookup (off := 107) (tgt := 108) dX6_isSign_1 (by decide) (by rw [h1_43]; rfl) (by decide) kz) ?_
    refine WQ.st (fun _ _ kz => pw_iconst (v := 1) dX6_isSign_108 (by decide) kz) ?_
    refine ⟨_, _, pw_iret dX6_isSign_109 rfl rfl rfl rfl, ?_⟩
    exact ⟨rI (bI_t (by rw [h1_43]; decide +kernel)), rfl⟩
  by_cases h1_45 : c = 45
  · refine WQ.st (fun _ _ kz => pw_lookup (off := 107) (tgt := 108) dX6_isSign_1 (by decide) (by rw [h1_45]; rfl) (by decide) kz) ?_
    refine WQ.st (fun _ _ kz => pw_iconst (v := 1) dX6_isSign_108 (by decide) kz) ?_
    refine ⟨_, _, pw_iret dX6_isSign_109 rfl rfl rfl rfl, ?_⟩
    exact ⟨rI (bI_t (by rw [h1_45]; decide +kernel)), rfl⟩
  by_cases h1_58 : c = 58
  · refine WQ.st (fun _ _ kz => pw_lookup (off := 107) (tgt := 108) dX6_isSign_1 (by decide) (by rw [h1_58]; rfl) (by decide) kz) ?_
    refine WQ.st (fun _ _ kz => pw_iconst (v := 1) dX6_isSign_108 (by decide) kz) ?_
    refine ⟨_, _, pw_iret dX6_isSign_109 rfl rfl rfl rfl, ?_⟩
    exact ⟨rI (bI_t (by rw [h1_58]; decide +kernel)), rfl⟩
  by_cases h1_59 : c = 59
  · refine WQ.st (fun _ _ kz => pw_lookup (off := 107) (tgt := 108) dX6_isSign_1 (by decide) (by rw [h1_59]; rfl) (by decide) kz) ?_
    refine WQ.st (fun _ _ kz => pw_iconst (v := 1) dX6_isSign_108 (by decide) kz) ?_
    refine ⟨_, _, pw_iret dX6_isSign_109 rfl rfl rfl rfl, ?_⟩
    exact ⟨rI (bI_t (by rw [h1_59]; decide +kernel)), rfl⟩
  by_cases h1_60 : c = 60
  · refine WQ.st (fun _ _ kz => pw_lookup (off := 107) (tgt := 108) dX6_isSign_1 (by decide) (by rw [h1_60]; rfl) (by decide) kz) ?_
    refine WQ.st (fun _ _ kz => pw_iconst (v := 1) dX6_isSign_108 (by decide) kz) ?_
    refine ⟨_, _, pw_iret dX6_isSign_109 rfl rfl rfl rfl, ?_⟩
    exact ⟨rI (bI_t (by rw [h1_60]; decide +kernel)), rfl⟩
  by_cases h1_61 : c = 61
  · refine WQ.st (fun _ _ kz => pw_lookup (off := 107) (tgt := 108) dX6_isSign_1 (by decide) (by rw [h1_61]; rfl) (by decide) kz) ?_
    refine WQ.st (fun _ _ kz => pw_iconst (v := 1) dX6_isSign_108 (by decide) kz) ?_
    refine ⟨_, _, pw_iret dX6_isSign_109 rfl rfl rfl rfl, ?_⟩
    exact ⟨rI (bI_t (by rw [h1_61]; decide +kernel)), rfl⟩
  by_cases h1_62 : c = 62
  · refine WQ.st (fun _ _ kz => pw_lookup (off := 107) (tgt := 108) dX6_isSign_1 (by decide) (by rw [h1_62]; rfl) (by decide) kz) ?_
    refine WQ.st (fun _ _ kz => pw_iconst (v := 1) dX6_isSign_108 (by decide) kz) ?_
    refine ⟨_, _, pw_iret dX6_isSign_109 rfl rfl rfl rfl, ?_⟩
    exact ⟨rI (bI_t (by rw [h1_62]; decide +kernel)), rfl⟩
  by_cases h1_91 : c = 91
  · refine WQ.st (fun _ _ kz => pw_lookup (off := 107) (tgt := 108) dX6_isSign_1 (by decide) (by rw [h1_91]; rfl) (by decide) kz) ?_
    refine WQ.st (fun _ _ kz => pw_iconst (v := 1) dX6_isSign_108 (by decide) kz) ?_
    refine ⟨_, _, pw_iret dX6_isSign_109 rfl rfl rfl rfl, ?_⟩
    exact ⟨rI (bI_t (by rw [h1_91]; decide +kernel)), rfl⟩
  by_cases h1_93 : c = 93
  · refine WQ.st (fun _ _ kz => pw_lookup (off := 107) (tgt := 108) dX6_isSign_1 (by decide) (by rw [h1_93]; rfl) (by decide) kz) ?_
    refine WQ.st (fun _ _ kz => pw_iconst (v := 1) dX6_isSign_108 (by decide) kz) ?_
    refine ⟨_, _, pw_iret dX6_isSign_109 rfl rfl rfl rfl, ?_⟩
    exact ⟨rI (bI_t (by rw [h1_93]; decide +kernel)), rfl⟩
  have g1_40 := i32_ne (z := 40) rfl h1_40
  have g1_41 := i32_ne (z := 41) rfl h1_41
  have g1_42 := i32_ne (z := 42) rfl h1_42
  have g1_43 := i32_ne (z := 43) rfl h1_43
  have g1_45 := i32_ne (z := 45) rfl h1_45
  have g1_58 := i32_ne (z := 58) rfl h1_58
  have g1_59 := i32_ne (z := 59) rfl h1_59
  have g1_60 := i32_ne (z := 60) rfl h1_60
  have g1_61 := i32_ne (z := 61) rfl h1_61
  have g1_62 := i32_ne (z := 62) rfl h1_62
  have g1_91 := i32_ne (z := 91) rfl h1_91
  have g1_93 := i32_ne (z := 93) rfl h1_93
  refine WQ.st (fun _ _ kz => pw_lookup (off := 109) (tgt := 110) dX6_isSign_1 (by decide) (by simp [Op.lookupswitch.offset, Ne.symm g1_40, Ne.symm g1_41, Ne.symm g1_42, Ne.symm g1_43, Ne.symm g1_45, Ne.symm g1_58, Ne.symm g1_59, Ne.symm g1_60, Ne.symm g1_61, Ne.symm g1_62, Ne.symm g1_91, Ne.symm g1_93]) (by decide) kz) ?_
  refine WQ.st (fun _ _ kz => pw_iconst (v := 0) dX6_isSign_110 (by decide) kz) ?_
  refine ⟨_, _, pw_iret dX6_isSign_111 rfl rfl rfl rfl, ?_⟩
  refine ⟨rI (bI_z ?_), rfl⟩
  rw [decide_eq_false_iff_not, Classical.not_not]
  rcases sgF_sp c 12 with ⟨i, q1, q2, q3⟩ | ⟨q1, q2⟩
  · exfalso
    have e : c = 59 ∨ c = 58 ∨ c = 43 ∨ c = 45 ∨ c = 42 ∨ c = 40 ∨ c = 41 ∨ c = 91 ∨ c = 93 ∨ c = 61 ∨ c = 60 ∨ c = 62 := by
      rw [q2]
      exact (by decide +kernel : ∀ i, i < 12 → (sch 2 i = 59 ∨ sch 2 i = 58 ∨ sch 2 i = 43 ∨ sch 2 i = 45 ∨ sch 2 i = 42 ∨ sch 2 i = 40 ∨ sch 2 i = 41 ∨ sch 2 i = 91 ∨ sch 2 i = 93 ∨ sch 2 i = 61 ∨ sch 2 i = 60 ∨ sch 2 i = 62)) i q1
    rcases e with e | e | e | e | e | e | e | e | e | e | e | e
    · exact h1_59 e
    · exact h1_58 e
    · exact h1_43 e
    · exact h1_45 e
    · exact h1_42 e
    · exact h1_40 e
    · exact h1_41 e
    · exact h1_91 e
    · exact h1_93 e
    · exact h1_61 e
    · exact h1_60 e
    · exact h1_62 e
  · exact q2
