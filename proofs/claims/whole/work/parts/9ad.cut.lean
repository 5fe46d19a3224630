set_option maxRecDepth 20000 in
theorem l_wdX {G : gT} {d : Nat} {S : sS} {V : sV} {P : sP} {A : sV} {B : sB} {Q : sP} {t sl : Nat} (hC : CF S P) {s e k : Nat} (hk : k < 20) {Z : Option Value → Ph → Prop} (kf : ∀ y : Int32, WQ G (d + 4) mX6_wordAt 11 [some (.ref 10), some (.int (nI s)), some (.int (nI e)), some (.int (nI (k + 1))), some (.int 0), some (.int 1), some (.int (nI (bC (k + 1)))), some (.int y)] [] (t, sl, gh S V P A B Q) Z) : ∀ (r m : Nat) (a : Int32) (y : Option Value), m + r = lC k → WQ G (d + 4) mX6_wordAt 11 [some (.ref 10), some (.int (nI s)), some (.int (nI e)), some (.int (nI k)), some (.int a), some (.int 0), some (.int (nI (bC k + m))), y] [] (t, sl, gh S V P A B Q) Z := by
  have hf := bC_f k hk
  intro r
  induction r with
  | zero =>
    intro m a y hm
    have hm : m = lC k := hm
    refine WQ.st (fun _ _ kz => pw_iload6 dX6_wordAt_11 kz) ?_
    refine WQ.st (fun _ _ kz => pw_ldcS0 rfl dX6_wordAt_13 kz) ?_
    refine WQ.st (fun _ _ kz => pw_S0 (i := 0) (by decide) rfl wJ0_length_8abf5 lX6_109 dX6_wordAt_15 (c_strLen (i := 0) (by decide)) rfl (Nat.le_of_ble_eq_true rfl) (Nat.le_of_ble_eq_true rfl) kz) ?_
    refine WQ.br (fun _ _ ka kb => pw_icmp_ge (tgt := 109) dX6_wordAt_18 (by decide) ka kb) (fun c18 => absurd c18 (by rw [le_i (show (nI (pm_len.getD 0 0)).toInt = 97 from rfl) (ix_n (by omega))]; omega)) (fun c18 => ?_)
    refine WQ.st (fun _ _ kz => pw_ldcS0 rfl dX6_wordAt_21 kz) ?_
    refine WQ.st (fun _ _ kz => pw_iload6 dX6_wordAt_23 kz) ?_
    refine WQ.st (fun _ _ kz => pw_S1 (i := 0) (by decide) rfl wJ0_charAt_5068e lX6_113 dX6_wordAt_25 (c_strAt (i := 0) (by decide) (j := bC k + m) (by show bC k + m < 97; omega)) rfl (Nat.le_of_ble_eq_true rfl) (Nat.le_of_ble_eq_true rfl) kz) ?_
    rw [show sch 0 (bC k + m) = 32 from by rw [hm]; exact hf.2.2.1]
    refine WQ.st (fun _ _ kz => pw_istore7 dX6_wordAt_28 (by decide) (k := kz)) ?_
    refine WQ.st (fun _ _ kz => pw_iload7 dX6_wordAt_30 kz) ?_
    refine WQ.st (fun _ _ kz => pw_bipush (v := 32) dX6_wordAt_32 (by decide) kz) ?_
    refine WQ.bn (fun _ _ ka kb => pw_icmp_ne (tgt := 68) dX6_wordAt_34 (by decide) ka kb) (fun c34 => absurd rfl c34) (fun c34 => ?_)
    refine WQ.st (fun _ _ kz => pw_iload5 dX6_wordAt_37 kz) ?_
    refine WQ.br (fun _ _ ka kb => pw_if_eq (tgt := 56) dX6_wordAt_39 (by decide) ka kb) (fun c39 => ?_) (fun c39 => absurd rfl c39)
    refine WQ.st (fun _ _ kz => pw_iinc3 (v := 1) dX6_wordAt_56 (by decide) (by decide) (k := kz)) ?_
    refine WQ.st (fun _ _ kz => pw_iconst (v := 0) dX6_wordAt_59 (by decide) kz) ?_
    refine WQ.st (fun _ _ kz => pw_istore4 dX6_wordAt_60 (by decide) (k := kz)) ?_
    refine WQ.st (fun _ _ kz => pw_iconst (v := 1) dX6_wordAt_62 (by decide) kz) ?_
    refine WQ.st (fun _ _ kz => pw_istore5 dX6_wordAt_63 (by decide) (k := kz)) ?_
    refine WQ.st (fun _ _ kz => pw_goto (tgt := 103) dX6_wordAt_65 (by decide) kz) ?_
    refine WQ.st (fun _ _ kz => pw_iinc6 (v := 1) dX6_wordAt_103 (by decide) (by decide) (k := kz)) ?_
    refine WQ.st (fun _ _ kz => pw_goto (tgt := 11) dX6_wordAt_106 (by decide) kz) ?_
    rw [nI_1, nI_1, show bC k + m + 1 = bC (k + 1) from by rw [hm]; omega]
    exact kf _
  | succ r ih =>
    intro m a y hm
    have hn32 : ¬ sch 0 (bC k + m) = 32 := hf.2.2.2.1 m (by omega) (by omega)
    refine WQ.st (fun _ _ kz => pw_iload6 dX6_wordAt_11 kz) ?_
    refine WQ.st (fun _ _ kz => pw_ldcS0 rfl dX6_wordAt_13 kz) ?_
    refine WQ.st (fun _ _ kz => pw_S0 (i := 0) (by decide) rfl wJ0_length_8abf5 lX6_109 dX6_wordAt_15 (c_strLen (i := 0) (by decide)) rfl (Nat.le_of_ble_eq_true rfl) (Nat.le_of_ble_eq_true rfl) kz) ?_
    refine WQ.br (fun _ _ ka kb => pw_icmp_ge (tgt := 109) dX6_wordAt_18 (by decide) ka kb) (fun c18 => absurd c18 (by rw [le_i (show (nI (pm_len.getD 0 0)).toInt = 97 from rfl) (ix_n (by omega))]; omega)) (fun c18 => ?_)
    refine WQ.st (fun _ _ kz => pw_ldcS0 rfl dX6_wordAt_21 kz) ?_
    refine WQ.st (fun _ _ kz => pw_iload6 dX6_wordAt_23 kz) ?_
    refine WQ.st (fun _ _ kz => pw_S1 (i := 0) (by decide) rfl wJ0_charAt_5068e lX6_113 dX6_wordAt_25 (c_strAt (i := 0) (by decide) (j := bC k + m) (by show bC k + m < 97; omega)) rfl (Nat.le_of_ble_eq_true rfl) (Nat.le_of_ble_eq_true rfl) kz) ?_
    refine WQ.st (fun _ _ kz => pw_istore7 dX6_wordAt_28 (by decide) (k := kz)) ?_
    refine WQ.st (fun _ _ kz => pw_iload7 dX6_wordAt_30 kz) ?_
    refine WQ.st (fun _ _ kz => pw_bipush (v := 32) dX6_wordAt_32 (by decide) kz) ?_
    refine WQ.bn (fun _ _ ka kb => pw_icmp_ne (tgt := 68) dX6_wordAt_34 (by decide) ka kb) (fun c34 => ?_) (fun c34 => absurd c34 hn32)
    refine WQ.st (fun _ _ kz => pw_iload5 dX6_wordAt_68 kz) ?_
    refine WQ.br (fun _ _ ka kb => pw_if_eq (tgt := 100) dX6_wordAt_70 (by decide) ka kb) (fun c70 => ?_) (fun c70 => absurd rfl c70)
    refine WQ.st (fun _ _ kz => pw_iconst (v := 0) dX6_wordAt_100 (by decide) kz) ?_
    refine WQ.st (fun _ _ kz => pw_istore5 dX6_wordAt_101 (by decide) (k := kz)) ?_
    refine WQ.st (fun _ _ kz => pw_iinc6 (v := 1) dX6_wordAt_103 (by decide) (by decide) (k := kz)) ?_
    refine WQ.st (fun _ _ kz => pw_goto (tgt := 11) dX6_wordAt_106 (by decide) kz) ?_
    rw [nI_1]
    exact ih (m + 1) _ _ (by omega)
set_option maxRecDepth 20000 in
theorem l_wdI {G : gT} {d : Nat} {S : sS} {V : sV} {P : sP} {A : sV} {B : sB} {Q : sP} {t sl : Nat} (hC : CF S P) {x : Nat → Int32} {L s e k : Nat} (hX : CTX x L V P A) (hse : s ≤ e) (heL : e ≤ L) (hk : k < 20) {Z : Option Value → Ph → Prop} (kf : ∀ y : Int32, wmC x s e k = false → WQ G (d + 4) mX6_wordAt 11 [some (.ref 10), some (.int (nI s)), some (.int (nI e)), some (.int (nI (k + 1))), some (.int 0), some (.int 1), some (.int (nI (bC (k + 1)))), some (.int y)] [] (t, sl, gh S V P A B Q) Z) (kr : wmC x s e k = true → Z (some (.int (nI (200 + k)))) (t, sl, gh S V P A B Q)) : ∀ (r m : Nat) (y : Option Value), m + r = lC k → (∀ i, i < m → x (s + i) = sch 0 (bC k + i)) → m ≤ e - s → WQ G (d + 4) mX6_wordAt 11 [some (.ref 10), some (.int (nI s)), some (.int (nI e)), some (.int (nI k)), some (.int (nI m)), some (.int 1), some (.int (nI (bC k + m))), y] [] (t, sl, gh S V P A B Q) Z := by
  have hf := bC_f k hk
  have h9 := hX.l9
  intro r
  induction r with
  | zero =>
    intro m y hm heq hme
    have hm : m = lC k := hm
    refine WQ.st (fun _ _ kz => pw_iload6 dX6_wordAt_11 kz) ?_
    refine WQ.st (fun _ _ kz => pw_ldcS0 rfl dX6_wordAt_13 kz) ?_
    refine WQ.st (fun _ _ kz => pw_S0 (i := 0) (by decide) rfl wJ0_length_8abf5 lX6_109 dX6_wordAt_15 (c_strLen (i := 0) (by decide)) rfl (Nat.le_of_ble_eq_true rfl) (Nat.le_of_ble_eq_true rfl) kz) ?_
    refine WQ.br (fun _ _ ka kb => pw_icmp_ge (tgt := 109) dX6_wordAt_18 (by decide) ka kb) (fun c18 => absurd c18 (by rw [le_i (show (nI (pm_len.getD 0 0)).toInt = 97 from rfl) (ix_n (by omega))]; omega)) (fun c18 => ?_)
    refine WQ.st (fun _ _ kz => pw_ldcS0 rfl dX6_wordAt_21 kz) ?_
    refine WQ.st (fun _ _ kz => pw_iload6 dX6_wordAt_23 kz) ?_
    refine WQ.st (fun _ _ kz => pw_S1 (i := 0) (by decide) rfl wJ0_charAt_5068e lX6_113 dX6_wordAt_25 (c_strAt (i := 0) (by decide) (j := bC k + m) (by show bC k + m < 97; omega)) rfl (Nat.le_of_ble_eq_true rfl) (Nat.le_of_ble_eq_true rfl) kz) ?_
    rw [show sch 0 (bC k + m) = 32 from by rw [hm]; exact hf.2.2.1]
    refine WQ.st (fun _ _ kz => pw_istore7 dX6_wordAt_28 (by decide) (k := kz)) ?_
    refine WQ.st (fun _ _ kz => pw_iload7 dX6_wordAt_30 kz) ?_
    refine WQ.st (fun _ _ kz => pw_bipush (v := 32) dX6_wordAt_32 (by decide) kz) ?_
    refine WQ.bn (fun _ _ ka kb => pw_icmp_ne (tgt := 68) dX6_wordAt_34 (by decide) ka kb) (fun c34 => absurd rfl c34) (fun c34 => ?_)
    refine WQ.st (fun _ _ kz => pw_iload5 dX6_wordAt_37 kz) ?_
    refine WQ.br (fun _ _ ka kb => pw_if_eq (tgt := 56) dX6_wordAt_39 (by decide) ka kb) (fun c39 => absurd c39 (by decide)) (fun c39 => ?_)
    refine WQ.st (fun _ _ kz => pw_iload4 dX6_wordAt_42 kz) ?_
    refine WQ.st (fun _ _ kz => pw_iload2 dX6_wordAt_44 kz) ?_
    refine WQ.st (fun _ _ kz => pw_iload1 dX6_wordAt_45 kz) ?_
    refine WQ.st (fun _ _ kz => pw_isub dX6_wordAt_46 kz) ?_
    rw [nI_subk hse]
    refine WQ.bn (fun _ _ ka kb => pw_icmp_ne (tgt := 56) dX6_wordAt_47 (by decide) ka kb) (fun c47 => ?_) (fun c47 => ?_)
    · have c47 : ¬ m = e - s := fun q => c47 (by rw [q])
      refine WQ.st (fun _ _ kz => pw_iinc3 (v := 1) dX6_wordAt_56 (by decide) (by decide) (k := kz)) ?_
      refine WQ.st (fun _ _ kz => pw_iconst (v := 0) dX6_wordAt_59 (by decide) kz) ?_
      refine WQ.st (fun _ _ kz => pw_istore4 dX6_wordAt_60 (by decide) (k := kz)) ?_
      refine WQ.st (fun _ _ kz => pw_iconst (v := 1) dX6_wordAt_62 (by decide) kz) ?_
      refine WQ.st (fun _ _ kz => pw_istore5 dX6_wordAt_63 (by decide) (k := kz)) ?_
      refine WQ.st (fun _ _ kz => pw_goto (tgt := 103) dX6_wordAt_65 (by decide) kz) ?_
      refine WQ.st (fun _ _ kz => pw_iinc6 (v := 1) dX6_wordAt_103 (by decide) (by decide) (k := kz)) ?_
      refine WQ.st (fun _ _ kz => pw_goto (tgt := 11) dX6_wordAt_106 (by decide) kz) ?_
      rw [nI_1, nI_1, show bC k + m + 1 = bC (k + 1) from by rw [hm]; omega]
      exact kf _ (Bool.eq_false_iff.mpr (fun q => c47 (by have := (wmC_iff.mp q).1; omega)))
    · rw [eq_i (ix_n (by omega)) (ix_n (by omega))] at c47
      refine WQ.st (fun _ _ kz => pw_sipush (v := 200) dX6_wordAt_50 (by decide) kz) ?_
      refine WQ.st (fun _ _ kz => pw_iload3 dX6_wordAt_53 kz) ?_
      refine WQ.st (fun _ _ kz => pw_iadd dX6_wordAt_54 kz) ?_
      refine ⟨_, _, pw_iret dX6_wordAt_55 rfl rfl rfl rfl, ?_⟩
      rw [show (200 : Int32) = nI 200 from rfl, nI_pl]
      exact kr (wmC_iff.mpr ⟨by omega, by rw [← hm]; exact heq⟩)
  | succ r ih =>
    intro m y hm heq hme
    have hn32 : ¬ sch 0 (bC k + m) = 32 := hf.2.2.2.1 m (by omega) (by omega)
    refine WQ.st (fun _ _ kz => pw_iload6 dX6_wordAt_11 kz) ?_
    refine WQ.st (fun _ _ kz => pw_ldcS0 rfl dX6_wordAt_13 kz) ?_
    refine WQ.st (fun _ _ kz => pw_S0 (i := 0) (by decide) rfl wJ0_length_8abf5 lX6_109 dX6_wordAt_15 (c_strLen (i := 0) (by decide)) rfl (Nat.le_of_ble_eq_true rfl) (Nat.le_of_ble_eq_true rfl) kz) ?_
    refine WQ.br (fun _ _ ka kb => pw_icmp_ge (tgt := 109) dX6_wordAt_18 (by decide) ka kb) (fun c18 => absurd c18 (by rw [le_i (show (nI (pm_len.getD 0 0)).toInt = 97 from rfl) (ix_n (by omega))]; omega)) (fun c18 => ?_)
    refine WQ.st (fun _ _ kz => pw_ldcS0 rfl dX6_wordAt_21 kz) ?_
    refine WQ.st (fun _ _ kz => pw_iload6 dX6_wordAt_23 kz) ?_
    refine WQ.st (fun _ _ kz => pw_S1 (i := 0) (by decide) rfl wJ0_charAt_5068e lX6_113 dX6_wordAt_25 (c_strAt (i := 0) (by decide) (j := bC k + m) (by show bC k + m < 97; omega)) rfl (Nat.le_of_ble_eq_true rfl) (Nat.le_of_ble_eq_true rfl) kz) ?_
    refine WQ.st (fun _ _ kz => pw_istore7 dX6_wordAt_28 (by decide) (k := kz)) ?_
    refine WQ.st (fun _ _ kz => pw_iload7 dX6_wordAt_30 kz) ?_
    refine WQ.st (fun _ _ kz => pw_bipush (v := 32) dX6_wordAt_32 (by decide) kz) ?_
    refine WQ.bn (fun _ _ ka kb => pw_icmp_ne (tgt := 68) dX6_wordAt_34 (by decide) ka kb) (fun c34 => ?_) (fun c34 => absurd c34 hn32)
    refine WQ.st (fun _ _ kz => pw_iload5 dX6_wordAt_68 kz) ?_
    refine WQ.br (fun _ _ ka kb => pw_if_eq (tgt := 100) dX6_wordAt_70 (by decide) ka kb) (fun c70 => absurd c70 (by decide)) (fun c70 => ?_)
    refine WQ.st (fun _ _ kz => pw_iload4 dX6_wordAt_73 kz) ?_
    refine WQ.st (fun _ _ kz => pw_iload2 dX6_wordAt_75 kz) ?_
    refine WQ.st (fun _ _ kz => pw_iload1 dX6_wordAt_76 kz) ?_
    refine WQ.st (fun _ _ kz => pw_isub dX6_wordAt_77 kz) ?_
    rw [nI_subk hse]
    refine WQ.br (fun _ _ ka kb => pw_icmp_ge (tgt := 100) dX6_wordAt_78 (by decide) ka kb) (fun c78 => ?_) (fun c78 => ?_)
    · rw [le_i (ix_n (by omega)) (ix_n (by omega))] at c78
      refine WQ.st (fun _ _ kz => pw_iconst (v := 0) dX6_wordAt_100 (by decide) kz) ?_
      refine WQ.st (fun _ _ kz => pw_istore5 dX6_wordAt_101 (by decide) (k := kz)) ?_
      refine WQ.st (fun _ _ kz => pw_iinc6 (v := 1) dX6_wordAt_103 (by decide) (by decide) (k := kz)) ?_
      refine WQ.st (fun _ _ kz => pw_goto (tgt := 11) dX6_wordAt_106 (by decide) kz) ?_
      rw [nI_1]
      exact l_wdX hC hk (fun y => kf y (Bool.eq_false_iff.mpr (fun q => by have := (wmC_iff.mp q).1; omega))) r (m + 1) _ _ (by omega)
    · rw [le_i (ix_n (by omega)) (ix_n (by omega))] at c78
      refine WQ.st (fun _ _ kz => pw_aload0 dX6_wordAt_81 kz) ?_
      refine WQ.st (fun _ _ kz => pw_iload1 dX6_wordAt_82 kz) ?_
      refine WQ.st (fun _ _ kz => pw_iload4 dX6_wordAt_83 kz) ?_
      refine WQ.st (fun _ _ kz => pw_iadd dX6_wordAt_85 kz) ?_
      rw [nI_pl]
      refine wq_o1i wX6_signAt lX6_78 rfl dX6_wordAt_86 (cf_s10 hC) (k_signAt hC hX (by omega)) rfl (Nat.le_of_ble_eq_true rfl) (Nat.le_of_ble_eq_true rfl) (fun h86 z86 => ?_)
      subst z86
      rw [show sgT x L (s + m) = x (s + m) from if_pos (by omega)]
      refine WQ.st (fun _ _ kz => pw_iload7 dX6_wordAt_89 kz) ?_
      refine WQ.bn (fun _ _ ka kb => pw_icmp_ne (tgt := 100) dX6_wordAt_91 (by decide) ka kb) (fun c91 => ?_) (fun c91 => ?_)
      · refine WQ.st (fun _ _ kz => pw_iconst (v := 0) dX6_wordAt_100 (by decide) kz) ?_
        refine WQ.st (fun _ _ kz => pw_istore5 dX6_wordAt_101 (by decide) (k := kz)) ?_
        refine WQ.st (fun _ _ kz => pw_iinc6 (v := 1) dX6_wordAt_103 (by decide) (by decide) (k := kz)) ?_
        refine WQ.st (fun _ _ kz => pw_goto (tgt := 11) dX6_wordAt_106 (by decide) kz) ?_
        rw [nI_1]
        exact l_wdX hC hk (fun y => kf y (Bool.eq_false_iff.mpr (fun q => c91 ((wmC_iff.mp q).2 m (by omega))))) r (m + 1) _ _ (by omega)
      · refine WQ.st (fun _ _ kz => pw_iinc4 (v := 1) dX6_wordAt_94 (by decide) (by decide) (k := kz)) ?_
        refine WQ.st (fun _ _ kz => pw_goto (tgt := 103) dX6_wordAt_97 (by decide) kz) ?_
        refine WQ.st (fun _ _ kz => pw_iinc6 (v := 1) dX6_wordAt_103 (by decide) (by decide) (k := kz)) ?_
        refine WQ.st (fun _ _ kz => pw_goto (tgt := 11) dX6_wordAt_106 (by decide) kz) ?_
        rw [nI_1, nI_1]
        exact ih (m + 1) _ (by omega) (fun i hi => by
          by_cases e1 : i = m
          · rw [e1]; exact c91
          · exact heq i (by omega)) (by omega)
set_option maxRecDepth 20000 in
theorem l_word {G : gT} {d : Nat} {S : sS} {V : sV} {P : sP} {A : sV} {B : sB} {Q : sP} {t sl : Nat} (hC : CF S P) {x : Nat → Int32} {L s e : Nat} (hX : CTX x L V P A) (hse : s ≤ e) (heL : e ≤ L) : ∀ (n k : Nat) (y : Option Value), k + n = 20 → (∀ i, i < k → wmC x s e i = false) → WQ G (d + 4) mX6_wordAt 11 [some (.ref 10), some (.int (nI s)), some (.int (nI e)), some (.int (nI k)), some (.int 0), some (.int 1), some (.int (nI (bC k))), y] [] (t, sl, gh S V P A B Q) (fun r h' => r = some (.int (wCC x s e)) ∧ h' = (t, sl, gh S V P A B Q)) := by
  intro n
  induction n with
  | zero =>
    intro k y hk hw
    have hk : k = 20 := hk
    subst hk
    refine WQ.st (fun _ _ kz => pw_iload6 dX6_wordAt_11 kz) ?_
    refine WQ.st (fun _ _ kz => pw_ldcS0 rfl dX6_wordAt_13 kz) ?_
    refine WQ.st (fun _ _ kz => pw_S0 (i := 0) (by decide) rfl wJ0_length_8abf5 lX6_109 dX6_wordAt_15 (c_strLen (i := 0) (by decide)) rfl (Nat.le_of_ble_eq_true rfl) (Nat.le_of_ble_eq_true rfl) kz) ?_
    refine WQ.br (fun _ _ ka kb => pw_icmp_ge (tgt := 109) dX6_wordAt_18 (by decide) ka kb) (fun c18 => ?_) (fun c18 => absurd (by decide) c18)
    refine WQ.st (fun _ _ kz => pw_iconst (v := 4) dX6_wordAt_109 (by decide) kz) ?_
    refine ⟨_, _, pw_iret dX6_wordAt_110 rfl rfl rfl rfl, ?_⟩
    refine ⟨rI ?_, rfl⟩
    unfold wCC
    rw [if_neg (by rw [fpn_none 20 0 (fun i _ hi => hw i (by omega))]; omega)]
  | succ n ih =>
    intro k y hk hw
    refine l_wdI hC hX hse heL (show k < 20 by omega) (fun y hno => ih (k + 1) _ (by omega) (fun i hi => ?_)) (fun hm => ⟨rI ?_, rfl⟩) (lC k) 0 y (by omega) (fun i hi => by omega) (by omega)
    · by_cases e1 : i = k
      · rw [e1]; exact hno
      · exact hw i (by omega)
    · unfold wCC
      rw [fpn_first hm 20 0 (by omega) (by omega) (fun i _ hi => hw i hi), if_pos (by omega)]
set_option maxRecDepth 20000 in
theorem k_wordAt {G : gT} {d : Nat} {S : sS} {V : sV} {P : sP} {A : sV} {B : sB} {Q : sP} {t sl : Nat} (hC : CF S P) {x : Nat → Int32} {L s e : Nat} (hX : CTX x L V P A) (hse : s ≤ e) (heL : e ≤ L) : WQ G (d + 4) mX6_wordAt 0 [some (.ref 10), some (.int (nI s)), some (.int (nI e)), none, none, none, none, none] [] (t, sl, gh S V P A B Q) (fun r h' => r = some (.int (ccK (wR x s e))) ∧ h' = (t, sl, gh S V P A B Q)) := by
  rw [← wCC_R]
  refine WQ.st (fun _ _ kz => pw_iconst (v := 0) dX6_wordAt_0 (by decide) kz) ?_
  refine WQ.st (fun _ _ kz => pw_istore3 dX6_wordAt_1 (by decide) (k := kz)) ?_
  refine WQ.st (fun _ _ kz => pw_iconst (v := 0) dX6_wordAt_2 (by decide) kz) ?_
  refine WQ.st (fun _ _ kz => pw_istore4 dX6_wordAt_3 (by decide) (k := kz)) ?_
  refine WQ.st (fun _ _ kz => pw_iconst (v := 1) dX6_wordAt_5 (by decide) kz) ?_
  refine WQ.st (fun _ _ kz => pw_istore5 dX6_wordAt_6 (by decide) (k := kz)) ?_
  refine WQ.st (fun _ _ kz => pw_iconst (v := 0) dX6_wordAt_8 (by decide) kz) ?_
  refine WQ.st (fun _ _ kz => pw_istore6 dX6_wordAt_9 (by decide) (k := kz)) ?_
  exact l_word hC hX hse heL 20 0 none rfl (fun i hi => by omega)
