def seT (x : Nat → Int32) (L p : Nat) : Int32 := if p < L then x p else -1
def FRV (o : Nat) (V0 V : sV) : Prop := (∀ a, a ≠ o → V a = V0 a) ∧ ∀ k, k ≠ 6 → k ≠ 7 → k ≠ 9 → k ≠ 10 → V o k = V0 o k
theorem FRV.rfl {o : Nat} {V : sV} : FRV o V V := ⟨fun _ _ => _root_.rfl, fun _ _ _ _ _ => _root_.rfl⟩
theorem FRV.up {o : Nat} {V0 V : sV} {k : Nat} {y : Int32} (h : FRV o V0 V) (hk : k = 6 ∨ k = 7 ∨ k = 9 ∨ k = 10) : FRV o V0 (up2 V o k y) := ⟨fun a ha => by rw [up2_na ha]; exact h.1 a ha, fun j h1 h2 h3 h4 => by rw [up2_nk (by omega)]; exact h.2 j h1 h2 h3 h4⟩
def TXR (x : Nat → Int32) (L o : Nat) (V A : sV) : Prop := V o 8 = nI L ∧ L ≤ 900 ∧ ∀ i, i < L → A (o + 3) i = x i
theorem TXR.fr {x : Nat → Int32} {L o : Nat} {V V' A : sV} (h : TXR x L o V A) (hf : FRV o V V') : TXR x L o V' A := ⟨by rw [hf.2 8 (by omega) (by omega) (by omega) (by omega)]; exact h.1, h.2⟩
set_option maxRecDepth 20000 in
theorem c_seeT {G : gT} {d : Nat} {S : sS} {V : sV} {P : sP} {A : sV} {B : sB} {Q : sP} {t sl o : Nat} (hF : MF S P o) {x : Nat → Int32} {L p : Nat} (hX : TXR x L o V A) (hp : p ≤ 2000) : PW G d mX12_see 0 [some (.ref o), some (.int (nI p))] [] (t, sl, gh S V P A B Q) (some (.int (seT x L p))) (t, sl, gh S V P A B Q) := by
  have k := c_see (G := G) (d := d) (V := V) (A := A) (B := B) (Q := Q) (t := t) (sl := sl) hF (nI p) (by rw [ix_n (by omega)]; omega) (by rw [hX.1, ix_n (by have := hX.2.1; omega)]; have := hX.2.1; omega)
  have e : (if nI p < V o 8 then A (o + 3) (nI p).toInt.toNat else -1) = seT x L p := by
    have h9 := hX.2.1
    unfold seT
    rw [hX.1, ix_n (by omega), Int.toNat_natCast]
    by_cases c : p < L
    · rw [if_pos c, if_pos (by rw [lt_i (ix_n (by omega)) (ix_n (by omega))]; omega)]
      exact hX.2.2 p c
    · rw [if_neg c, if_neg (by rw [lt_i (ix_n (by omega)) (ix_n (by omega))]; omega)]
  rw [e] at k
  exact k
theorem sm_I (c : Int32) : decide (97 ≤ c ∧ c ≤ 122) = isSmI c := by
  unfold isSmI
  rw [decide_eq_decide, le_i (show (97 : Int32).toInt = 97 from rfl) rfl, le_i rfl (show (122 : Int32).toInt = 122 from rfl)]
theorem dg_I (c : Int32) : decide (48 ≤ c ∧ c ≤ 57) = isDgI c := by
  unfold isDgI
  rw [decide_eq_decide, le_i (show (48 : Int32).toInt = 48 from rfl) rfl, le_i rfl (show (57 : Int32).toInt = 57 from rfl)]
set_option maxRecDepth 20000 in
theorem l_keyI {G : gT} {d : Nat} {S : sS} {V : sV} {P : sP} {A : sV} {B : sB} {Q : sP} {t sl o : Nat} (hF : MF S P o) {x : Nat → Int32} {L s e k : Nat} (hX : TXR x L o V A) (hs6 : V o 6 = nI s) (hs7 : V o 7 = nI e) (hse : s ≤ e) (heL : e ≤ L) (hk : k < 20) {Z : Option Value → Ph → Prop} (kf : ∀ j, j ≤ lR k → ((j = lR k ∧ eqw x s (bR k) (lR k) = true) ∨ (j < lR k ∧ (e ≤ s + j ∨ (s + j < e ∧ ¬ x (s + j) = sch 1 (bR k + j))))) → WQ G (d + 4) mX12_keyAt 69 [some (.ref o), some (.int (nI k)), some (.int (nI (bR k))), some (.int (nI j))] [] (t, sl, gh S V P A B Q) Z) : ∀ (m j : Nat), j + m = lR k → eqw x s (bR k) j = true → s + j ≤ e → WQ G (d + 4) mX12_keyAt 15 [some (.ref o), some (.int (nI k)), some (.int (nI (bR k))), some (.int (nI j))] [] (t, sl, gh S V P A B Q) Z := by
  have hf := bR_f k hk
  have h9 := hX.2.1
  intro m
  induction m with
  | zero =>
    intro j hjl heq hje
    have hjl : j = lR k := hjl
    rw [hjl] at heq
    refine WQ.st (fun _ _ kz => pw_ldcS1 rfl dX12_keyAt_15 kz) ?_
    refine WQ.st (fun _ _ kz => pw_iload2 dX12_keyAt_17 kz) ?_
    refine WQ.st (fun _ _ kz => pw_iload3 dX12_keyAt_18 kz) ?_
    refine WQ.st (fun _ _ kz => pw_iadd dX12_keyAt_19 kz) ?_
    rw [nI_pl]
    refine WQ.st (fun _ _ kz => pw_S1 (i := 1) (by decide) rfl wJ0_charAt_5068e lX12_104 dX12_keyAt_20 (c_strAt (i := 1) (by decide) (j := bR k + j) (by show bR k + j < 98; omega)) rfl (Nat.le_of_ble_eq_true rfl) (Nat.le_of_ble_eq_true rfl) kz) ?_
    rw [show sch 1 (bR k + j) = 32 from by rw [hjl]; exact hf.2.2.1]
    refine WQ.st (fun _ _ kz => pw_bipush (v := 32) dX12_keyAt_23 (by decide) kz) ?_
    refine WQ.br (fun _ _ ka kb => pw_icmp_eq (tgt := 69) dX12_keyAt_25 (by decide) ka kb) (fun c25 => ?_) (fun c25 => absurd rfl c25)
    exact kf j (by omega) (Or.inl ⟨hjl, heq⟩)
  | succ m ih =>
    intro j hjl heq hje
    have hn32 : ¬ sch 1 (bR k + j) = 32 := hf.2.2.2.1 j (by omega) (by omega)
    refine WQ.st (fun _ _ kz => pw_ldcS1 rfl dX12_keyAt_15 kz) ?_
    refine WQ.st (fun _ _ kz => pw_iload2 dX12_keyAt_17 kz) ?_
    refine WQ.st (fun _ _ kz => pw_iload3 dX12_keyAt_18 kz) ?_
    refine WQ.st (fun _ _ kz => pw_iadd dX12_keyAt_19 kz) ?_
    rw [nI_pl]
    refine WQ.st (fun _ _ kz => pw_S1 (i := 1) (by decide) rfl wJ0_charAt_5068e lX12_104 dX12_keyAt_20 (c_strAt (i := 1) (by decide) (j := bR k + j) (by show bR k + j < 98; omega)) rfl (Nat.le_of_ble_eq_true rfl) (Nat.le_of_ble_eq_true rfl) kz) ?_
    refine WQ.st (fun _ _ kz => pw_bipush (v := 32) dX12_keyAt_23 (by decide) kz) ?_
    refine WQ.br (fun _ _ ka kb => pw_icmp_eq (tgt := 69) dX12_keyAt_25 (by decide) ka kb) (fun c25 => absurd c25 hn32) (fun c25 => ?_)
    refine WQ.st (fun _ _ kz => pw_aload0 dX12_keyAt_28 kz) ?_
    refine WQ.st (fun _ _ kz => pw_geti gX12_108 dX12_keyAt_29 hF.1 kz) ?_
    rw [hs6]
    refine WQ.st (fun _ _ kz => pw_iload3 dX12_keyAt_32 kz) ?_
    refine WQ.st (fun _ _ kz => pw_iadd dX12_keyAt_33 kz) ?_
    rw [nI_pl]
    refine WQ.st (fun _ _ kz => pw_aload0 dX12_keyAt_34 kz) ?_
    refine WQ.st (fun _ _ kz => pw_geti gX12_111 dX12_keyAt_35 hF.1 kz) ?_
    rw [hs7]
    refine WQ.br (fun _ _ ka kb => pw_icmp_ge (tgt := 69) dX12_keyAt_38 (by decide) ka kb) (fun c38 => ?_) (fun c38 => ?_)
    · rw [le_i (ix_n (by omega)) (ix_n (by omega))] at c38
      exact kf j (by omega) (Or.inr ⟨by omega, Or.inl (by omega)⟩)
    · rw [le_i (ix_n (by omega)) (ix_n (by omega))] at c38
      refine WQ.st (fun _ _ kz => pw_aload0 dX12_keyAt_41 kz) ?_
      refine WQ.st (fun _ _ kz => pw_getr gX12_21 dX12_keyAt_42 hF.1 (mf_p3 hF) kz) ?_
      refine WQ.st (fun _ _ kz => pw_aload0 dX12_keyAt_45 kz) ?_
      refine WQ.st (fun _ _ kz => pw_geti gX12_108 dX12_keyAt_46 hF.1 kz) ?_
      rw [hs6]
      refine WQ.st (fun _ _ kz => pw_iload3 dX12_keyAt_49 kz) ?_
      refine WQ.st (fun _ _ kz => pw_iadd dX12_keyAt_50 kz) ?_
      rw [nI_pl]
      refine WQ.st (fun _ _ kz => pw_ald (j := (s + j)) dX12_keyAt_51 (mf_s3 hF) (ix_n (by omega)) (by omega) kz) ?_
      rw [hX.2.2 _ (by omega)]
      refine WQ.st (fun _ _ kz => pw_ldcS1 rfl dX12_keyAt_52 kz) ?_
      refine WQ.st (fun _ _ kz => pw_iload2 dX12_keyAt_54 kz) ?_
      refine WQ.st (fun _ _ kz => pw_iload3 dX12_keyAt_55 kz) ?_
      refine WQ.st (fun _ _ kz => pw_iadd dX12_keyAt_56 kz) ?_
      rw [nI_pl]
      refine WQ.st (fun _ _ kz => pw_S1 (i := 1) (by decide) rfl wJ0_charAt_5068e lX12_104 dX12_keyAt_57 (c_strAt (i := 1) (by decide) (j := bR k + j) (by show bR k + j < 98; omega)) rfl (Nat.le_of_ble_eq_true rfl) (Nat.le_of_ble_eq_true rfl) kz) ?_
      refine WQ.bn (fun _ _ ka kb => pw_icmp_ne (tgt := 69) dX12_keyAt_60 (by decide) ka kb) (fun c60 => ?_) (fun c60 => ?_)
      · exact kf j (by omega) (Or.inr ⟨by omega, Or.inr ⟨by omega, c60⟩⟩)
      · refine WQ.st (fun _ _ kz => pw_iinc3 (v := 1) dX12_keyAt_63 (by decide) (by decide) (k := kz)) ?_
        refine WQ.st (fun _ _ kz => pw_goto (tgt := 15) dX12_keyAt_66 (by decide) kz) ?_
        rw [nI_1]
        exact ih (j + 1) (by omega) (by show (eqw x s (bR k) j && decide (x (s + j) = sch 1 (bR k + j))) = true; rw [heq, decide_eq_true c60]; rfl) (by omega)
set_option maxRecDepth 20000 in
theorem l_keyA {G : gT} {d : Nat} {S : sS} {V : sV} {P : sP} {A : sV} {B : sB} {Q : sP} {t sl o : Nat} (hF : MF S P o) {k : Nat} (hk : k < 20) {y : Option Value} {Z : Option Value → Ph → Prop} (kf : WQ G (d + 4) mX12_keyAt 4 [some (.ref o), some (.int (nI (k + 1))), some (.int (nI (bR (k + 1)))), y] [] (t, sl, gh S V P A B Q) Z) : ∀ (m i : Nat), i + m = lR k → WQ G (d + 4) mX12_keyAt 97 [some (.ref o), some (.int (nI k)), some (.int (nI (bR k + i))), y] [] (t, sl, gh S V P A B Q) Z := by
  have hf := bR_f k hk
  intro m
  induction m with
  | zero =>
    intro i hi
    have hi : i = lR k := hi
    refine WQ.st (fun _ _ kz => pw_ldcS1 rfl dX12_keyAt_97 kz) ?_
    refine WQ.st (fun _ _ kz => pw_iload2 dX12_keyAt_99 kz) ?_
    refine WQ.st (fun _ _ kz => pw_S1 (i := 1) (by decide) rfl wJ0_charAt_5068e lX12_104 dX12_keyAt_100 (c_strAt (i := 1) (by decide) (j := bR k + i) (by show bR k + i < 98; omega)) rfl (Nat.le_of_ble_eq_true rfl) (Nat.le_of_ble_eq_true rfl) kz) ?_
    rw [show sch 1 (bR k + i) = 32 from by rw [hi]; exact hf.2.2.1]
    refine WQ.st (fun _ _ kz => pw_bipush (v := 32) dX12_keyAt_103 (by decide) kz) ?_
    refine WQ.br (fun _ _ ka kb => pw_icmp_eq (tgt := 114) dX12_keyAt_105 (by decide) ka kb) (fun c105 => ?_) (fun c105 => absurd rfl c105)
    refine WQ.st (fun _ _ kz => pw_iinc2 (v := 1) dX12_keyAt_114 (by decide) (by decide) (k := kz)) ?_
    refine WQ.st (fun _ _ kz => pw_iinc1 (v := 1) dX12_keyAt_117 (by decide) (by decide) (k := kz)) ?_
    refine WQ.st (fun _ _ kz => pw_goto (tgt := 4) dX12_keyAt_120 (by decide) kz) ?_
    rw [nI_1, nI_1, show bR k + i + 1 = bR (k + 1) from by rw [hi]; omega]
    exact kf
  | succ m ih =>
    intro i hi
    refine WQ.st (fun _ _ kz => pw_ldcS1 rfl dX12_keyAt_97 kz) ?_
    refine WQ.st (fun _ _ kz => pw_iload2 dX12_keyAt_99 kz) ?_
    refine WQ.st (fun _ _ kz => pw_S1 (i := 1) (by decide) rfl wJ0_charAt_5068e lX12_104 dX12_keyAt_100 (c_strAt (i := 1) (by decide) (j := bR k + i) (by show bR k + i < 98; omega)) rfl (Nat.le_of_ble_eq_true rfl) (Nat.le_of_ble_eq_true rfl) kz) ?_
    refine WQ.st (fun _ _ kz => pw_bipush (v := 32) dX12_keyAt_103 (by decide) kz) ?_
    refine WQ.br (fun _ _ ka kb => pw_icmp_eq (tgt := 114) dX12_keyAt_105 (by decide) ka kb) (fun c105 => absurd c105 (hf.2.2.2.1 i (by omega) (by omega))) (fun c105 => ?_)
    refine WQ.st (fun _ _ kz => pw_iinc2 (v := 1) dX12_keyAt_108 (by decide) (by decide) (k := kz)) ?_
    refine WQ.st (fun _ _ kz => pw_goto (tgt := 97) dX12_keyAt_111 (by decide) kz) ?_
    rw [nI_1]
    exact ih (i + 1) (by omega)
theorem fpn_none {c : Nat → Bool} : ∀ m p, (∀ i, p ≤ i → i < p + m → c i = false) → fpn c m p = p + m
  | 0, p, _ => rfl
  | m + 1, p, h => by
    show (if c p then p else fpn c m (p + 1)) = _
    rw [h p (by omega) (by omega), if_neg (by decide), fpn_none m (p + 1) (fun i h1 h2 => h i (by omega) (by omega))]
    omega
theorem eqw_no {x : Nat → Int32} {s b j : Nat} : ∀ {n : Nat}, j < n → ¬ x (s + j) = sch 1 (b + j) → eqw x s b n = false
  | 0, h, _ => by omega
  | n + 1, h, h2 => by
    show (eqw x s b n && decide (x (s + n) = sch 1 (b + n))) = false
    by_cases e : j = n
    · subst e
      rw [decide_eq_false h2, Bool.and_false]
    · rw [eqw_no (n := n) (by omega) h2, Bool.false_and]
set_option maxRecDepth 20000 in
theorem l_keyO {G : gT} {d : Nat} {S : sS} {V : sV} {P : sP} {A : sV} {B : sB} {Q : sP} {t sl o : Nat} (hF : MF S P o) {x : Nat → Int32} {L s e : Nat} (hX : TXR x L o V A) (hs6 : V o 6 = nI s) (hs7 : V o 7 = nI e) (hse : s < e) (heL : e ≤ L) : ∀ (m k : Nat) (y : Option Value), k + m = 20 → (∀ i, i < k → wmB x s e i = false) → WQ G (d + 4) mX12_keyAt 4 [some (.ref o), some (.int (nI k)), some (.int (nI (bR k))), y] [] (t, sl, gh S V P A B Q) (fun r h' => r = some (.int (nI (wR x s e))) ∧ h' = (t, sl, gh S V P A B Q)) := by
  have h9 := hX.2.1
  intro m
  induction m with
  | zero =>
    intro k y hk hw
    have hk : k = 20 := hk
    subst hk
    refine WQ.st (fun _ _ kz => pw_iload2 dX12_keyAt_4 kz) ?_
    refine WQ.st (fun _ _ kz => pw_ldcS1 rfl dX12_keyAt_5 kz) ?_
    refine WQ.st (fun _ _ kz => pw_S0 (i := 1) (by decide) rfl wJ0_length_8abf5 lX12_98 dX12_keyAt_7 (c_strLen (i := 1) (by decide)) rfl (Nat.le_of_ble_eq_true rfl) (Nat.le_of_ble_eq_true rfl) kz) ?_
    refine WQ.br (fun _ _ ka kb => pw_icmp_ge (tgt := 123) dX12_keyAt_10 (by decide) ka kb) (fun c10 => ?_) (fun c10 => absurd (by decide) c10)
    refine WQ.st (fun _ _ kz => pw_bipush (v := 22) dX12_keyAt_123 (by decide) kz) ?_
    refine ⟨_, _, pw_iret dX12_keyAt_125 rfl rfl rfl rfl, ?_⟩
    refine ⟨rI ?_, rfl⟩
    unfold wR
    rw [if_neg (by rw [fpn_none 20 0 (fun i _ hi => hw i (by omega))]; omega)]
    rfl
  | succ m ih =>
    intro k y hk0 hw
    have hk : k < 20 := by omega
    have hf := bR_f k hk
    have hse : s ≤ e := by omega
    refine WQ.st (fun _ _ kz => pw_iload2 dX12_keyAt_4 kz) ?_
    refine WQ.st (fun _ _ kz => pw_ldcS1 rfl dX12_keyAt_5 kz) ?_
    refine WQ.st (fun _ _ kz => pw_S0 (i := 1) (by decide) rfl wJ0_length_8abf5 lX12_98 dX12_keyAt_7 (c_strLen (i := 1) (by decide)) rfl (Nat.le_of_ble_eq_true rfl) (Nat.le_of_ble_eq_true rfl) kz) ?_
    refine WQ.br (fun _ _ ka kb => pw_icmp_ge (tgt := 123) dX12_keyAt_10 (by decide) ka kb) (fun c10 => absurd c10 (by rw [le_i (show (nI (pm_len.getD 1 0)).toInt = 98 from rfl) (ix_n (by omega))]; omega)) (fun c10 => ?_)
    refine WQ.st (fun _ _ kz => pw_iconst (v := 0) dX12_keyAt_13 (by decide) kz) ?_
    refine WQ.st (fun _ _ kz => pw_istore3 dX12_keyAt_14 (by decide) (k := kz)) ?_
    rw [show (0 : Int32) = nI 0 from rfl]
    refine l_keyI hF hX hs6 hs7 hse heL hk (fun j hj hcase => ?_) (lR k) 0 (by omega) rfl (by omega)
    refine WQ.st (fun _ _ kz => pw_ldcS1 rfl dX12_keyAt_69 kz) ?_
    refine WQ.st (fun _ _ kz => pw_iload2 dX12_keyAt_71 kz) ?_
    refine WQ.st (fun _ _ kz => pw_iload3 dX12_keyAt_72 kz) ?_
    refine WQ.st (fun _ _ kz => pw_iadd dX12_keyAt_73 kz) ?_
    rw [nI_pl]
    refine WQ.st (fun _ _ kz => pw_S1 (i := 1) (by decide) rfl wJ0_charAt_5068e lX12_104 dX12_keyAt_74 (c_strAt (i := 1) (by decide) (j := bR k + j) (by show bR k + j < 98; omega)) rfl (Nat.le_of_ble_eq_true rfl) (Nat.le_of_ble_eq_true rfl) kz) ?_
    refine WQ.st (fun _ _ kz => pw_bipush (v := 32) dX12_keyAt_77 (by decide) kz) ?_
    refine WQ.bn (fun _ _ ka kb => pw_icmp_ne (tgt := 97) dX12_keyAt_79 (by decide) ka kb) (fun c79 => ?_) (fun c79 => ?_)
    · have hno : wmB x s e k = false := by
        unfold wmB
        rcases hcase with ⟨h1, _⟩ | ⟨h1, h2⟩
        · rw [h1] at c79; exact absurd hf.2.2.1 c79
        · rcases h2 with h2 | ⟨h2, h3⟩
          · rw [decide_eq_false (show ¬ e - s = lR k by omega)]; rfl
          · rw [eqw_no h1 h3, Bool.and_false]
      refine l_keyA hF hk (ih (k + 1) _ (by omega) (fun i hi => ?_)) (lR k) 0 (by omega)
      by_cases e1 : i = k
      · rw [e1]; exact hno
      · exact hw i (by omega)
    · have hj1 : j = lR k := Decidable.byContradiction (fun q => hf.2.2.2.1 j (by omega) (by omega) c79)
      have hj2 : eqw x s (bR k) (lR k) = true := by
        rcases hcase with h | ⟨h, _⟩
        · exact h.2
        · omega
      refine WQ.st (fun _ _ kz => pw_aload0 dX12_keyAt_82 kz) ?_
      refine WQ.st (fun _ _ kz => pw_geti gX12_108 dX12_keyAt_83 hF.1 kz) ?_
      rw [hs6]
      refine WQ.st (fun _ _ kz => pw_iload3 dX12_keyAt_86 kz) ?_
      refine WQ.st (fun _ _ kz => pw_iadd dX12_keyAt_87 kz) ?_
      rw [nI_pl]
      refine WQ.st (fun _ _ kz => pw_aload0 dX12_keyAt_88 kz) ?_
      refine WQ.st (fun _ _ kz => pw_geti gX12_111 dX12_keyAt_89 hF.1 kz) ?_
      rw [hs7]
      refine WQ.bn (fun _ _ ka kb => pw_icmp_ne (tgt := 97) dX12_keyAt_92 (by decide) ka kb) (fun c92 => ?_) (fun c92 => ?_)
      · have c92 : ¬ s + j = e := fun q => c92 (by rw [q])
        have hno : wmB x s e k = false := by
          unfold wmB
          rw [decide_eq_false (show ¬ e - s = lR k by omega)]; rfl
        refine l_keyA hF hk (ih (k + 1) _ (by omega) (fun i hi => ?_)) (lR k) 0 (by omega)
        by_cases e1 : i = k
        · rw [e1]; exact hno
        · exact hw i (by omega)
      · rw [eq_i (ix_n (by omega)) (ix_n (by omega))] at c92
        have hm : wmB x s e k = true := by
          unfold wmB
          rw [decide_eq_true (show e - s = lR k by omega), hj2]; rfl
        refine WQ.st (fun _ _ kz => pw_iload1 dX12_keyAt_95 kz) ?_
        refine ⟨_, _, pw_iret dX12_keyAt_96 rfl rfl rfl rfl, ?_⟩
        refine ⟨rI ?_, rfl⟩
        unfold wR
        rw [fpn_first hm 20 0 (by omega) (by omega) (fun i _ hi => hw i hi), if_pos hk]
set_option maxRecDepth 20000 in
theorem c_keyAt {G : gT} {d : Nat} {S : sS} {V : sV} {P : sP} {A : sV} {B : sB} {Q : sP} {t sl o : Nat} (hF : MF S P o) {x : Nat → Int32} {L s e : Nat} (hX : TXR x L o V A) (hs6 : V o 6 = nI s) (hs7 : V o 7 = nI e) (hse : s < e) (heL : e ≤ L) : WQ G (d + 4) mX12_keyAt 0 [some (.ref o), none, none, none] [] (t, sl, gh S V P A B Q) (fun r h' => r = some (.int (nI (wR x s e))) ∧ h' = (t, sl, gh S V P A B Q)) := by
  refine WQ.st (fun _ _ kz => pw_iconst (v := 0) dX12_keyAt_0 (by decide) kz) ?_
  refine WQ.st (fun _ _ kz => pw_istore1 dX12_keyAt_1 (by decide) (k := kz)) ?_
  refine WQ.st (fun _ _ kz => pw_iconst (v := 1) dX12_keyAt_2 (by decide) kz) ?_
  refine WQ.st (fun _ _ kz => pw_istore2 dX12_keyAt_3 (by decide) (k := kz)) ?_
  rw [show (0 : Int32) = nI 0 from rfl, show (1 : Int32) = nI (bR 0) from rfl]
  exact l_keyO hF hX hs6 hs7 hse heL 20 0 none (by omega) (fun i hi => by omega)
