/-! ===== the reference: small numbers ===== -/
theorem lN_div {a b : Nat} (ha : a < 9223372036854775808) (hb : b < 9223372036854775808) : lN a / lN b = lN (a / b) := by
  rw [← Int64.toInt_inj, Int64.toInt_div, lN_t ha, lN_t hb, lN_t (Nat.lt_of_le_of_lt (Nat.div_le_self a b) ha), ← Int.ofNat_tdiv]
  have h1 : (a / b : Nat) < 9223372036854775808 := Nat.lt_of_le_of_lt (Nat.div_le_self a b) ha
  generalize a / b = c at h1 ⊢
  exact Int.bmod_eq_of_le (by show -(18446744073709551616 / 2 : Int) ≤ (c : Int); omega) (by show (c : Int) < (18446744073709551616 + 1) / 2; omega)
theorem lN_rem {a b : Nat} (ha : a < 9223372036854775808) (hb : b < 9223372036854775808) : lN a - lN a / lN b * lN b = lN (a % b) := by
  rw [lN_div ha hb, lN_mul]
  have h1 : a / b * b ≤ a := Nat.div_mul_le_self a b
  rw [lN_sub h1]
  congr 1
  have := Nat.div_add_mod a b
  rw [Nat.mul_comm] at this
  omega
theorem lN_inj {a b : Nat} (ha : a < 9223372036854775808) (hb : b < 9223372036854775808) : lN a = lN b ↔ a = b := by
  rw [← Int64.toInt_inj, lN_t ha, lN_t hb]
  omega
theorem common_1 {x y : Nat} (hy : y ≠ 0) : Nat.gcd y (x % y) = Nat.gcd x y := by
  rw [Nat.gcd_comm x y, Nat.gcd_rec y x, Nat.gcd_comm]
set_option maxRecDepth 20000 in
theorem l_tens {G : gT} {d : Nat} {h : Ph} {n : Nat} (hn : n < 2147483648) : ∀ (m k : Nat), k + m = n → PW G d mX12_tens 4 [some (.int (nI n)), some (.long (lN (10 ^ k))), none, some (.int (nI k))] [] h (some (.long (lN (10 ^ n)))) h := by
  intro m
  induction m with
  | zero =>
    intro k hk
    have hk : k = n := hk
    subst hk
    refine pw_iload3 dX12_tens_4 ?_
    refine pw_iload0 dX12_tens_5 ?_
    refine pw_icmp_ge (tgt := 21) dX12_tens_6 (by decide) (fun c6 => ?_) (fun c6 => absurd (Int32.le_refl _) c6)
    refine pw_lload1 dX12_tens_21 ?_
    exact pw_lret dX12_tens_22 rfl rfl rfl
  | succ m ih =>
    intro k hk
    have kk := ih (k + 1) (by omega)
    rw [Nat.pow_succ] at kk
    refine pw_iload3 dX12_tens_4 ?_
    refine pw_iload0 dX12_tens_5 ?_
    refine pw_icmp_ge (tgt := 21) dX12_tens_6 (by decide) (fun c6 => absurd c6 (by rw [le_i (ix_n (j := n) (by omega)) (ix_n (j := k) (by omega))]; omega)) (fun c6 => ?_)
    refine pw_lload1 dX12_tens_9 ?_
    refine pw_ldc2 kX12_361 dX12_tens_10 ?_
    refine pw_lmul dX12_tens_13 ?_
    rw [show (10 : Int64) = lN 10 from rfl, lN_mul]
    refine pw_lstore1 dX12_tens_14 (by decide) (k := ?_)
    refine pw_iinc3 (v := 1) dX12_tens_15 (by decide) (by decide) (k := ?_)
    refine pw_goto (tgt := 4) dX12_tens_18 (by decide) ?_
    rw [nI_1]
    exact kk
set_option maxRecDepth 20000 in
theorem c_tens {G : gT} {d : Nat} {h : Ph} {n : Nat} (hn : n < 2147483648) : PW G d mX12_tens 0 [some (.int (nI n)), none, none, none] [] h (some (.long (lN (10 ^ n)))) h := by
  refine pw_lconst (v := 1) dX12_tens_0 (by decide) ?_
  rw [show (1 : Int64) = lN (10 ^ 0) from rfl]
  refine pw_lstore1 dX12_tens_1 (by decide) (k := ?_)
  refine pw_iconst (v := 0) dX12_tens_2 (by decide) ?_
  rw [show (0 : Int32) = nI 0 from rfl]
  refine pw_istore3 dX12_tens_3 (by decide) (k := ?_)
  exact l_tens hn n 0 (by omega)
set_option maxRecDepth 20000 in
theorem s_common {G : gT} {d : Nat} {h : Ph} {x y : Nat} (hx : x < 9223372036854775808) (hy : y < 9223372036854775808) (h0 : y ≠ 0) (kc : PW G d mX12_common 0 [some (.long (lN y)), none, some (.long (lN (x % y))), none] [] h (some (.long (lN (Nat.gcd y (x % y))))) h) : PW G (d + 1) mX12_common 0 [some (.long (lN x)), none, some (.long (lN y)), none] [] h (some (.long (lN (Nat.gcd x y)))) h := by
    refine pw_lload2 dX12_common_0 ?_
    refine pw_lconst (v := 0) dX12_common_1 (by decide) ?_
    refine pw_lcmp dX12_common_2 ?_
    refine pw_if_ne (tgt := 10) dX12_common_3 (by decide) (fun c3 => ?_) (fun c3 => absurd c3 (by rw [lg_cmp_eq, show (0 : Int64) = lN 0 from rfl, lN_inj hy (by decide)]; exact h0))
    refine pw_lload2 dX12_common_10 ?_
    refine pw_lload0 dX12_common_11 ?_
    refine pw_lload2 dX12_common_12 ?_
    refine pw_lrem dX12_common_13 (by rw [show (0 : Int64) = lN 0 from rfl, lN_inj hy (by decide)]; exact h0) ?_
    rw [lN_rem hx hy]
    refine pw_s2i wX12_common lX12_491 dX12_common_14 (kc) rfl (Nat.le_of_ble_eq_true rfl) (Nat.le_of_ble_eq_true rfl) ?_
    exact pw_lret dX12_common_17 rfl (by rw [common_1 h0]) rfl
set_option maxRecDepth 20000 in
theorem c_common {G : gT} {d : Nat} {h : Ph} : ∀ (k x y : Nat), x < 9223372036854775808 → y < 2 ^ k → y < 9223372036854775808 → PW G (d + 2 * k) mX12_common 0 [some (.long (lN x)), none, some (.long (lN y)), none] [] h (some (.long (lN (Nat.gcd x y)))) h := by
  have kz : ∀ (d x : Nat), PW G d mX12_common 0 [some (.long (lN x)), none, some (.long (lN 0)), none] [] h (some (.long (lN (Nat.gcd x 0)))) h := by
    intro d x
    refine pw_lload2 dX12_common_0 ?_
    refine pw_lconst (v := 0) dX12_common_1 (by decide) ?_
    refine pw_lcmp dX12_common_2 ?_
    refine pw_if_ne (tgt := 10) dX12_common_3 (by decide) (fun c3 => absurd (by rw [lg_cmp_eq]; rfl) c3) (fun c3 => ?_)
    refine pw_lload0 dX12_common_6 ?_
    refine pw_goto (tgt := 17) dX12_common_7 (by decide) ?_
    exact pw_lret dX12_common_17 rfl (by rw [Nat.gcd_zero_right]) rfl
  intro k
  induction k with
  | zero =>
    intro x y hx hy hy2
    have : y = 0 := by omega
    subst this
    exact kz _ x
  | succ k ih =>
    intro x y hx hy hy2
    by_cases h0 : y = 0
    · subst h0
      exact kz _ x
    · have hm : x % y < y := Nat.mod_lt x (by omega)
      rw [show d + 2 * (k + 1) = d + 2 * k + 1 + 1 by omega]
      refine s_common hx hy2 h0 ?_
      by_cases hz : x % y < 2 ^ k
      · exact (ih y (x % y) hy2 hz (by omega)).mono (by omega)
      · by_cases h1 : x % y = 0
        · rw [h1]
          exact kz _ y
        · refine s_common hy2 (by omega) h1 (ih (x % y) (y % (x % y)) (by omega) ?_ (Nat.lt_of_le_of_lt (Nat.mod_le _ _) hy2))
          rw [Nat.pow_succ] at hy
          have e1 : y % (x % y) = y - x % y := by
            rw [Nat.mod_eq_sub_mod (by omega), Nat.mod_eq_of_lt (by omega)]
          omega
def rf_cut (v : Int64) (sort : Int32) : Int64 := if sort = 0 then v.toInt32.toInt8.toInt32.toInt64 else if sort = 1 then v.toInt32.toInt16.toInt32.toInt64 else if sort = 2 then v.toInt32.toInt64 else v
set_option maxRecDepth 20000 in
theorem c_cut {G : gT} {d : Nat} {h : Ph} (v : Int64) (x : Int32) : PW G d mX12_cut 0 [some (.long v), none, some (.int x)] [] h (some (.long (rf_cut v x))) h := by
  refine pw_iload2 dX12_cut_0 ?_
  refine pw_if_ne (tgt := 11) dX12_cut_1 (by decide) (fun c1 => ?_) (fun c1 => ?_)
  · refine pw_iload2 dX12_cut_11 ?_
    refine pw_iconst (v := 1) dX12_cut_12 (by decide) ?_
    refine pw_icmp_ne (tgt := 23) dX12_cut_13 (by decide) (fun c13 => ?_) (fun c13 => ?_)
    · refine pw_iload2 dX12_cut_23 ?_
      refine pw_iconst (v := 2) dX12_cut_24 (by decide) ?_
      refine pw_icmp_ne (tgt := 34) dX12_cut_25 (by decide) (fun c25 => ?_) (fun c25 => ?_)
      · refine pw_lload0 dX12_cut_34 ?_
        exact pw_lret dX12_cut_35 rfl (rL (by unfold rf_cut; rw [if_neg c1, if_neg c13, if_neg c25])) rfl
      · refine pw_lload0 dX12_cut_28 ?_
        refine pw_l2i dX12_cut_29 ?_
        refine pw_i2l dX12_cut_30 ?_
        refine pw_goto (tgt := 35) dX12_cut_31 (by decide) ?_
        exact pw_lret dX12_cut_35 rfl (rL (by unfold rf_cut; rw [if_neg c1, if_neg c13, if_pos c25])) rfl
    · refine pw_lload0 dX12_cut_16 ?_
      refine pw_l2i dX12_cut_17 ?_
      refine pw_i2s dX12_cut_18 ?_
      refine pw_i2l dX12_cut_19 ?_
      refine pw_goto (tgt := 35) dX12_cut_20 (by decide) ?_
      exact pw_lret dX12_cut_35 rfl (rL (by unfold rf_cut; rw [if_neg c1, if_pos c13])) rfl
  · refine pw_lload0 dX12_cut_4 ?_
    refine pw_l2i dX12_cut_5 ?_
    refine pw_i2b dX12_cut_6 ?_
    refine pw_i2l dX12_cut_7 ?_
    refine pw_goto (tgt := 35) dX12_cut_8 (by decide) ?_
    exact pw_lret dX12_cut_35 rfl (rL (by unfold rf_cut; rw [if_pos c1])) rfl
def rf_bits (set : Int32) : Int32 → Nat → Nat → Int32
  | acc, _, 0 => acc
  | acc, k, m + 1 => rf_bits set (acc + ((set >>> (nI k &&& 31)) &&& 1)) (k + 1) m
set_option maxRecDepth 20000 in
theorem l_bitsOf {G : gT} {d : Nat} {h : Ph} (set : Int32) : ∀ (m k : Nat) (acc : Int32), k + m = 10 → PW G d mX12_bitsOf 4 [some (.int set), some (.int acc), some (.int (nI k))] [] h (some (.int (rf_bits set acc k m))) h := by
  intro m
  induction m with
  | zero =>
    intro k acc hk
    have hk : k = 10 := hk
    subst hk
    refine pw_iload2 dX12_bitsOf_4 ?_
    refine pw_bipush (v := 10) dX12_bitsOf_5 (by decide) ?_
    refine pw_icmp_ge (tgt := 24) dX12_bitsOf_7 (by decide) (fun c7 => ?_) (fun c7 => absurd (by decide) c7)
    refine pw_iload1 dX12_bitsOf_24 ?_
    exact pw_iret dX12_bitsOf_25 rfl rfl rfl rfl
  | succ m ih =>
    intro k acc hk
    rw [rf_bits]
    refine pw_iload2 dX12_bitsOf_4 ?_
    refine pw_bipush (v := 10) dX12_bitsOf_5 (by decide) ?_
    refine pw_icmp_ge (tgt := 24) dX12_bitsOf_7 (by decide) (fun c7 => absurd c7 (by rw [le_i li_10 (ix_n (j := k) (by omega))]; omega)) (fun c7 => ?_)
    refine pw_iload1 dX12_bitsOf_10 ?_
    refine pw_iload0 dX12_bitsOf_11 ?_
    refine pw_iload2 dX12_bitsOf_12 ?_
    refine pw_ishr dX12_bitsOf_13 ?_
    refine pw_iconst (v := 1) dX12_bitsOf_14 (by decide) ?_
    refine pw_iand dX12_bitsOf_15 ?_
    refine pw_iadd dX12_bitsOf_16 ?_
    refine pw_istore1 dX12_bitsOf_17 (by decide) (k := ?_)
    refine pw_iinc2 (v := 1) dX12_bitsOf_18 (by decide) (by decide) (k := ?_)
    refine pw_goto (tgt := 4) dX12_bitsOf_21 (by decide) ?_
    rw [nI_1]
    exact ih (k + 1) _ (by omega)
set_option maxRecDepth 20000 in
theorem c_bitsOf {G : gT} {d : Nat} {h : Ph} (set : Int32) : PW G d mX12_bitsOf 0 [some (.int set), none, none] [] h (some (.int (rf_bits set 0 0 10))) h := by
  refine pw_iconst (v := 0) dX12_bitsOf_0 (by decide) ?_
  refine pw_istore1 dX12_bitsOf_1 (by decide) (k := ?_)
  refine pw_iconst (v := 0) dX12_bitsOf_2 (by decide) ?_
  refine pw_istore2 dX12_bitsOf_3 (by decide) (k := ?_)
  exact l_bitsOf set 10 0 0 rfl
set_option maxRecDepth 20000 in
theorem c_rowAt {G : gT} {d : Nat} {S : sS} {V : sV} {P : sP} {A : sV} {B : sB} {Q : sP} {t sl o : Nat} (hF : MF S P o) {q n i : Nat} (hq : q < 4) (hn12 : n ≤ 12) (hn : A (o + 1) (10 + q) = nI n) (hi : i < 12) : PW G d mX12_rowAt 0 [some (.ref o), some (.int (nI q)), some (.int (nI i))] [] (t, sl, gh S V P A B Q) (some (.int (if i < n then A (o + 9) i else 9))) (t, sl, gh S V P A B Q) := by
  refine pw_iload2 dX12_rowAt_0 ?_
  refine pw_aload0 dX12_rowAt_1 ?_
  refine pw_getr gX12_13 dX12_rowAt_2 hF.1 (mf_p1 hF) ?_
  refine pw_bipush (v := 10) dX12_rowAt_5 (by decide) ?_
  refine pw_iload1 dX12_rowAt_7 ?_
  refine pw_iadd dX12_rowAt_8 ?_
  refine pw_ald (j := 10 + q) dX12_rowAt_9 (mf_s1 hF) (by simp (disch := omega) only [nl_10, nI_add, pk_mul, pk_sub]; exact ix_m (by omega) (by omega)) (by omega) ?_
  rw [hn]
  refine pw_icmp_ge (tgt := 22) dX12_rowAt_10 (by decide) (fun c10 => ?_) (fun c10 => ?_)
  · refine pw_bipush (v := 9) dX12_rowAt_22 (by decide) ?_
    exact pw_iret dX12_rowAt_24 rfl rfl (rI (by rw [le_i (ix_n (j := n) (by omega)) (ix_n (j := i) (by omega))] at c10; rw [if_neg (by omega)])) rfl
  · refine pw_aload0 dX12_rowAt_13 ?_
    refine pw_getr gX12_42 dX12_rowAt_14 hF.1 (mf_p19 hF) ?_
    refine pw_iload2 dX12_rowAt_17 ?_
    refine pw_ald (j := i) dX12_rowAt_18 (mf_s9 hF) (ix_m rfl (by omega)) (by omega) ?_
    refine pw_goto (tgt := 24) dX12_rowAt_19 (by decide) ?_
    exact pw_iret dX12_rowAt_24 rfl rfl (rI (by rw [le_i (ix_n (j := n) (by omega)) (ix_n (j := i) (by omega))] at c10; rw [if_pos (by omega)])) rfl
set_option maxRecDepth 20000 in
theorem c_isIn {G : gT} {d : Nat} {h : Ph} (x : Int64) (k : Int32) : PW G d mX12_isIn 0 [some (.long x), none, some (.int k)] [] h (some (.int (bI (decide ((x >>> (k.toInt64 &&& 63)) &&& 1 = 1))))) h := by
  refine pw_lload0 dX12_isIn_0 ?_
  refine pw_iload2 dX12_isIn_1 ?_
  refine pw_lshr dX12_isIn_2 ?_
  refine pw_lconst (v := 1) dX12_isIn_3 (by decide) ?_
  refine pw_land dX12_isIn_4 ?_
  refine pw_lconst (v := 1) dX12_isIn_5 (by decide) ?_
  refine pw_lcmp dX12_isIn_6 ?_
  refine pw_if_ne (tgt := 14) dX12_isIn_7 (by decide) (fun c7 => ?_) (fun c7 => ?_)
  · refine pw_iconst (v := 0) dX12_isIn_14 (by decide) ?_
    exact pw_iret dX12_isIn_15 rfl rfl (rI (bI_z (by rw [lg_cmp_eq] at c7; simp only [decide_eq_false_iff_not]; exact c7))) rfl
  · refine pw_iconst (v := 1) dX12_isIn_10 (by decide) ?_
    refine pw_goto (tgt := 15) dX12_isIn_11 (by decide) ?_
    exact pw_iret dX12_isIn_15 rfl rfl (rI (bI_t (by rw [lg_cmp_eq] at c7; simp only [decide_eq_true_eq]; exact c7))) rfl
