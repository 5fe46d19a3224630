set_option maxRecDepth 20000 in
theorem l_endOfLetters {G : gT} {d : Nat} {S : sS} {V : sV} {P : sP} {A : sV} {B : sB} {Q : sP} {t sl : Nat} (hC : CF S P) {x : Nat → Int32} {L : Nat} (hX : CTX x L V P A) {y : Int32} : ∀ (m p : Nat), p + m = L → WQ G (d + 1) mX6_endOfLetters 2 [some (.ref 10), some (.int y), some (.int (nI p))] [] (t, sl, gh S V P A B Q) (fun r h' => r = some (.int (nI (runF x isSmI m p))) ∧ h' = (t, sl, gh S V P A B Q)) := by
  have h9 := hX.l9
  intro m
  induction m with
  | zero =>
    intro p hp
    refine WQ.st (fun _ _ kz => pw_iload2 dX6_endOfLetters_2 kz) ?_
    refine WQ.st (fun _ _ kz => pw_aload0 dX6_endOfLetters_3 kz) ?_
    refine WQ.st (fun _ _ kz => pw_geti gX6_38 dX6_endOfLetters_4 (cf_s10 hC) kz) ?_
    rw [hX.le]
    refine WQ.br (fun _ _ ka kb => pw_icmp_ge (tgt := 27) dX6_endOfLetters_7 (by decide) ka kb) (fun c7 => ?_) (fun c7 => absurd (by rw [le_i (ix_n (by omega)) (ix_n (by omega))]; omega) c7)
    refine WQ.st (fun _ _ kz => pw_iload2 dX6_endOfLetters_27 kz) ?_
    refine ⟨_, _, pw_iret dX6_endOfLetters_28 rfl rfl rfl rfl, ?_⟩
    exact ⟨rfl, rfl⟩
  | succ m ih =>
    intro p hp
    refine WQ.st (fun _ _ kz => pw_iload2 dX6_endOfLetters_2 kz) ?_
    refine WQ.st (fun _ _ kz => pw_aload0 dX6_endOfLetters_3 kz) ?_
    refine WQ.st (fun _ _ kz => pw_geti gX6_38 dX6_endOfLetters_4 (cf_s10 hC) kz) ?_
    rw [hX.le]
    refine WQ.br (fun _ _ ka kb => pw_icmp_ge (tgt := 27) dX6_endOfLetters_7 (by decide) ka kb) (fun c7 => absurd c7 (by rw [le_i (ix_n (by omega)) (ix_n (by omega))]; omega)) (fun c7 => ?_)
    refine WQ.st (fun _ _ kz => pw_aload0 dX6_endOfLetters_10 kz) ?_
    refine WQ.st (fun _ _ kz => pw_iload2 dX6_endOfLetters_11 kz) ?_
    refine wq_o1i wX6_signAt lX6_78 rfl dX6_endOfLetters_12 (cf_s10 hC) (k_signAt hC hX (by omega)) rfl (Nat.le_of_ble_eq_true rfl) (Nat.le_of_ble_eq_true rfl) (fun h12 z12 => ?_)
    subst z12
    rw [show sgT x L p = x p from if_pos (by omega)]
    refine wq_s1i wX6_isLetter lX6_82 dX6_endOfLetters_15 (k_isLetter _) rfl (Nat.le_of_ble_eq_true rfl) (Nat.le_of_ble_eq_true rfl) (fun h15 z15 => ?_)
    subst z15
    refine WQ.br (fun _ _ ka kb => pw_if_eq (tgt := 27) dX6_endOfLetters_18 (by decide) ka kb) (fun c18 => ?_) (fun c18 => ?_)
    · rw [bI_0] at c18
      rw [runF, if_neg (by rw [c18]; decide)]
      refine WQ.st (fun _ _ kz => pw_iload2 dX6_endOfLetters_27 kz) ?_
      refine ⟨_, _, pw_iret dX6_endOfLetters_28 rfl rfl rfl rfl, ?_⟩
      exact ⟨rfl, rfl⟩
    · rw [bI_n] at c18
      rw [runF, if_pos c18]
      refine WQ.st (fun _ _ kz => pw_iinc2 (v := 1) dX6_endOfLetters_21 (by decide) (by decide) (k := kz)) ?_
      refine WQ.st (fun _ _ kz => pw_goto (tgt := 2) dX6_endOfLetters_24 (by decide) kz) ?_
      rw [nI_1]
      exact ih (p + 1) (by omega)
set_option maxRecDepth 20000 in
theorem k_endOfLetters {G : gT} {d : Nat} {S : sS} {V : sV} {P : sP} {A : sV} {B : sB} {Q : sP} {t sl : Nat} (hC : CF S P) {x : Nat → Int32} {L p : Nat} (hX : CTX x L V P A) (hp : p ≤ L) : WQ G (d + 1) mX6_endOfLetters 0 [some (.ref 10), some (.int (nI p)), none] [] (t, sl, gh S V P A B Q) (fun r h' => r = some (.int (nI (runF x isSmI (L - p) p))) ∧ h' = (t, sl, gh S V P A B Q)) := by
  refine WQ.st (fun _ _ kz => pw_iload1 dX6_endOfLetters_0 kz) ?_
  refine WQ.st (fun _ _ kz => pw_istore2 dX6_endOfLetters_1 (by decide) (k := kz)) ?_
  exact l_endOfLetters hC hX (L - p) p (by omega)
set_option maxRecDepth 20000 in
theorem l_endOfDigits {G : gT} {d : Nat} {S : sS} {V : sV} {P : sP} {A : sV} {B : sB} {Q : sP} {t sl : Nat} (hC : CF S P) {x : Nat → Int32} {L : Nat} (hX : CTX x L V P A) {y : Int32} : ∀ (m p : Nat), p + m = L → WQ G (d + 1) mX6_endOfDigits 2 [some (.ref 10), some (.int y), some (.int (nI p))] [] (t, sl, gh S V P A B Q) (fun r h' => r = some (.int (nI (runF x isDgI m p))) ∧ h' = (t, sl, gh S V P A B Q)) := by
  have h9 := hX.l9
  intro m
  induction m with
  | zero =>
    intro p hp
    refine WQ.st (fun _ _ kz => pw_iload2 dX6_endOfDigits_2 kz) ?_
    refine WQ.st (fun _ _ kz => pw_aload0 dX6_endOfDigits_3 kz) ?_
    refine WQ.st (fun _ _ kz => pw_geti gX6_38 dX6_endOfDigits_4 (cf_s10 hC) kz) ?_
    rw [hX.le]
    refine WQ.br (fun _ _ ka kb => pw_icmp_ge (tgt := 27) dX6_endOfDigits_7 (by decide) ka kb) (fun c7 => ?_) (fun c7 => absurd (by rw [le_i (ix_n (by omega)) (ix_n (by omega))]; omega) c7)
    refine WQ.st (fun _ _ kz => pw_iload2 dX6_endOfDigits_27 kz) ?_
    refine ⟨_, _, pw_iret dX6_endOfDigits_28 rfl rfl rfl rfl, ?_⟩
    exact ⟨rfl, rfl⟩
  | succ m ih =>
    intro p hp
    refine WQ.st (fun _ _ kz => pw_iload2 dX6_endOfDigits_2 kz) ?_
    refine WQ.st (fun _ _ kz => pw_aload0 dX6_endOfDigits_3 kz) ?_
    refine WQ.st (fun _ _ kz => pw_geti gX6_38 dX6_endOfDigits_4 (cf_s10 hC) kz) ?_
    rw [hX.le]
    refine WQ.br (fun _ _ ka kb => pw_icmp_ge (tgt := 27) dX6_endOfDigits_7 (by decide) ka kb) (fun c7 => absurd c7 (by rw [le_i (ix_n (by omega)) (ix_n (by omega))]; omega)) (fun c7 => ?_)
    refine WQ.st (fun _ _ kz => pw_aload0 dX6_endOfDigits_10 kz) ?_
    refine WQ.st (fun _ _ kz => pw_iload2 dX6_endOfDigits_11 kz) ?_
    refine wq_o1i wX6_signAt lX6_78 rfl dX6_endOfDigits_12 (cf_s10 hC) (k_signAt hC hX (by omega)) rfl (Nat.le_of_ble_eq_true rfl) (Nat.le_of_ble_eq_true rfl) (fun h12 z12 => ?_)
    subst z12
    rw [show sgT x L p = x p from if_pos (by omega)]
    refine wq_s1i wX6_isDigit lX6_95 dX6_endOfDigits_15 (k_isDigit _) rfl (Nat.le_of_ble_eq_true rfl) (Nat.le_of_ble_eq_true rfl) (fun h15 z15 => ?_)
    subst z15
    refine WQ.br (fun _ _ ka kb => pw_if_eq (tgt := 27) dX6_endOfDigits_18 (by decide) ka kb) (fun c18 => ?_) (fun c18 => ?_)
    · rw [bI_0] at c18
      rw [runF, if_neg (by rw [c18]; decide)]
      refine WQ.st (fun _ _ kz => pw_iload2 dX6_endOfDigits_27 kz) ?_
      refine ⟨_, _, pw_iret dX6_endOfDigits_28 rfl rfl rfl rfl, ?_⟩
      exact ⟨rfl, rfl⟩
    · rw [bI_n] at c18
      rw [runF, if_pos c18]
      refine WQ.st (fun _ _ kz => pw_iinc2 (v := 1) dX6_endOfDigits_21 (by decide) (by decide) (k := kz)) ?_
      refine WQ.st (fun _ _ kz => pw_goto (tgt := 2) dX6_endOfDigits_24 (by decide) kz) ?_
      rw [nI_1]
      exact ih (p + 1) (by omega)
set_option maxRecDepth 20000 in
theorem k_endOfDigits {G : gT} {d : Nat} {S : sS} {V : sV} {P : sP} {A : sV} {B : sB} {Q : sP} {t sl : Nat} (hC : CF S P) {x : Nat → Int32} {L p : Nat} (hX : CTX x L V P A) (hp : p ≤ L) : WQ G (d + 1) mX6_endOfDigits 0 [some (.ref 10), some (.int (nI p)), none] [] (t, sl, gh S V P A B Q) (fun r h' => r = some (.int (nI (runF x isDgI (L - p) p))) ∧ h' = (t, sl, gh S V P A B Q)) := by
  refine WQ.st (fun _ _ kz => pw_iload1 dX6_endOfDigits_0 kz) ?_
  refine WQ.st (fun _ _ kz => pw_istore2 dX6_endOfDigits_1 (by decide) (k := kz)) ?_
  exact l_endOfDigits hC hX (L - p) p (by omega)
set_option maxRecDepth 20000 in
theorem l_numberAt {G : gT} {d : Nat} {S : sS} {V : sV} {P : sP} {A : sV} {B : sB} {Q : sP} {t sl : Nat} (hC : CF S P) {x : Nat → Int32} {L s e : Nat} (hX : CTX x L V P A) (hse : s ≤ e) (heL : e ≤ L) : ∀ (m j : Nat), 3 - j < m → j ≤ (if e - s < 3 then e - s else 3) → WQ G (d + 1) mX6_numberAt 5 [some (.ref 10), some (.int (nI s)), some (.int (nI e)), some (.int (numF x s j)), some (.int (nI (s + j)))] [] (t, sl, gh S V P A B Q) (fun r h' => r = some (.int (numF x s (if e - s < 3 then e - s else 3))) ∧ h' = (t, sl, gh S V P A B Q)) := by
  have h9 := hX.l9
  intro m
  induction m with
  | zero => intro j hm _; omega
  | succ m ih =>
    intro j hm hj
    have hj3 : j ≤ e - s ∧ j ≤ 3 := by split at hj <;> omega
    refine WQ.st (fun _ _ kz => pw_iload4 dX6_numberAt_5 kz) ?_
    refine WQ.st (fun _ _ kz => pw_iload2 dX6_numberAt_7 kz) ?_
    refine WQ.br (fun _ _ ka kb => pw_icmp_ge (tgt := 40) dX6_numberAt_8 (by decide) ka kb) (fun c8 => ?_) (fun c8 => ?_)
    · rw [le_i (ix_n (by omega)) (ix_n (by omega))] at c8
      refine WQ.st (fun _ _ kz => pw_iload3 dX6_numberAt_40 kz) ?_
      refine ⟨_, _, pw_iret dX6_numberAt_41 rfl rfl rfl rfl, ?_⟩
      exact ⟨rI (congrArg (numF x s) (by split <;> omega)), rfl⟩
    · rw [le_i (ix_n (by omega)) (ix_n (by omega))] at c8
      refine WQ.st (fun _ _ kz => pw_iload4 dX6_numberAt_11 kz) ?_
      refine WQ.st (fun _ _ kz => pw_iload1 dX6_numberAt_13 kz) ?_
      refine WQ.st (fun _ _ kz => pw_iconst (v := 3) dX6_numberAt_14 (by decide) kz) ?_
      refine WQ.st (fun _ _ kz => pw_iadd dX6_numberAt_15 kz) ?_
      rw [show (3 : Int32) = nI 3 from rfl, nI_pl]
      refine WQ.br (fun _ _ ka kb => pw_icmp_ge (tgt := 40) dX6_numberAt_16 (by decide) ka kb) (fun c16 => ?_) (fun c16 => ?_)
      · rw [le_i (ix_n (by omega)) (ix_n (by omega))] at c16
        refine WQ.st (fun _ _ kz => pw_iload3 dX6_numberAt_40 kz) ?_
        refine ⟨_, _, pw_iret dX6_numberAt_41 rfl rfl rfl rfl, ?_⟩
        exact ⟨rI (congrArg (numF x s) (by split <;> omega)), rfl⟩
      · rw [le_i (ix_n (by omega)) (ix_n (by omega))] at c16
        refine WQ.st (fun _ _ kz => pw_bipush (v := 10) dX6_numberAt_19 (by decide) kz) ?_
        refine WQ.st (fun _ _ kz => pw_iload3 dX6_numberAt_21 kz) ?_
        refine WQ.st (fun _ _ kz => pw_imul dX6_numberAt_22 kz) ?_
        refine WQ.st (fun _ _ kz => pw_aload0 dX6_numberAt_23 kz) ?_
        refine WQ.st (fun _ _ kz => pw_iload4 dX6_numberAt_24 kz) ?_
        refine wq_o1i wX6_signAt lX6_78 rfl dX6_numberAt_26 (cf_s10 hC) (k_signAt hC hX (by omega)) rfl (Nat.le_of_ble_eq_true rfl) (Nat.le_of_ble_eq_true rfl) (fun h26 z26 => ?_)
        subst z26
        rw [show sgT x L (s + j) = x (s + j) from if_pos (by omega)]
        refine WQ.st (fun _ _ kz => pw_iadd dX6_numberAt_29 kz) ?_
        refine WQ.st (fun _ _ kz => pw_bipush (v := 48) dX6_numberAt_30 (by decide) kz) ?_
        refine WQ.st (fun _ _ kz => pw_isub dX6_numberAt_32 kz) ?_
        refine WQ.st (fun _ _ kz => pw_istore3 dX6_numberAt_33 (by decide) (k := kz)) ?_
        refine WQ.st (fun _ _ kz => pw_iinc4 (v := 1) dX6_numberAt_34 (by decide) (by decide) (k := kz)) ?_
        refine WQ.st (fun _ _ kz => pw_goto (tgt := 5) dX6_numberAt_37 (by decide) kz) ?_
        rw [nI_1]
        exact ih (j + 1) (by omega) (by split <;> omega)
set_option maxRecDepth 20000 in
theorem k_numberAt {G : gT} {d : Nat} {S : sS} {V : sV} {P : sP} {A : sV} {B : sB} {Q : sP} {t sl : Nat} (hC : CF S P) {x : Nat → Int32} {L s e : Nat} (hX : CTX x L V P A) (hse : s ≤ e) (heL : e ≤ L) : WQ G (d + 1) mX6_numberAt 0 [some (.ref 10), some (.int (nI s)), some (.int (nI e)), none, none] [] (t, sl, gh S V P A B Q) (fun r h' => r = some (.int (numF x s (if e - s < 3 then e - s else 3))) ∧ h' = (t, sl, gh S V P A B Q)) := by
  refine WQ.st (fun _ _ kz => pw_iconst (v := 0) dX6_numberAt_0 (by decide) kz) ?_
  refine WQ.st (fun _ _ kz => pw_istore3 dX6_numberAt_1 (by decide) (k := kz)) ?_
  refine WQ.st (fun _ _ kz => pw_iload1 dX6_numberAt_2 kz) ?_
  refine WQ.st (fun _ _ kz => pw_istore4 dX6_numberAt_3 (by decide) (k := kz)) ?_
  exact l_numberAt hC hX hse heL 4 0 (by omega) (Nat.zero_le _)
