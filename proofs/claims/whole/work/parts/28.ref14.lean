theorem lN_t {a : Nat} (h : a < 9223372036854775808) : (lN a).toInt = (a : Int) := Int64.toInt_ofNat_of_lt h
theorem lN_z {a : Nat} (h : a < 9223372036854775808) : lN a ≤ 0 ↔ a = 0 := by
  rw [i64_le (lN_t h) (show (0 : Int64).toInt = 0 by decide)]
  omega
theorem p10_12 {b : Nat} (h : b ≤ 12) : 10 ^ b ≤ 1000000000000 := Nat.le_trans (Nat.pow_le_pow_right (show 0 < 10 by decide) h) (by decide)
theorem nI_10 {k : Nat} (h : k ≤ 10) : (10 - nI k).toInt64 = lN (10 - k) := by
  rw [show (10 : Int32) = nI 10 from rfl, pk_sub h, nI_l (by omega)]
set_option maxRecDepth 20000 in
theorem l_chance1 {G : gT} {d : Nat} {S : sS} {V : sV} {P : sP} {A : sV} {Q : sP} {t sl o : Nat} (hF : MF S P o) {n k : Nat} {x2 x3 : Int32} {y : Int64} {X : sB → Prop} (hn12 : n ≤ 12) (hk : k ≤ 10) (h3 : A (o + 1) 3 = nI k) (hin : ∀ b l s w, b < n → l < 5 → s < 41 → w < 5 → rT (A (o + 7)) b l s w ≠ (-268435456) → rf_in s w = true) {b : Nat} (hb : b < n) {B0 : sB} {c : Nat → Nat → Nat} (hc : sm (fl2 c) 205 ≤ 1000000000000) (hB0 : ∀ l s, l < 5 → s < 41 → B0 (o + 12) (l * 41 + s) = lN (c l s)) {l : Nat} (hl : l < 5) (kf0 : ∀ B : sB, HPm o B0 (rT (A (o + 7))) k b c (l + 1) 0 B → ∃ F : sB, PW G (d + 4) mX12_chanceFrom 93 [some (.ref o), some (.int (nI n)), some (.int x2), some (.int x3), some (.int (nI b)), some (.int (dI l)), some (.int (sI 41))] [] (t, sl, gh S V P A B Q) (some (.long y)) (t, sl, gh S V P A F Q) ∧ X F) : ∀ (j s : Nat) (B : sB), s + j = 41 → HPm o B0 (rT (A (o + 7))) k b c l s B → ∃ F : sB, PW G (d + 4) mX12_chanceFrom 53 [some (.ref o), some (.int (nI n)), some (.int x2), some (.int x3), some (.int (nI b)), some (.int (dI l)), some (.int (sI s))] [] (t, sl, gh S V P A B Q) (some (.long y)) (t, sl, gh S V P A F Q) ∧ X F := by
  intro j
  induction j with
  | zero =>
    intro s B hs hG
    have hs : s = 41 := hs
    subst hs
    obtain ⟨F, kf, hX⟩ := kf0 B hG.last
    refine ⟨F, ?_, hX⟩
    refine pw_iload6 dX12_chanceFrom_53 ?_
    refine pw_bipush (v := 20) dX12_chanceFrom_55 (by decide) ?_
    refine pw_icmp_gt (tgt := 93) dX12_chanceFrom_57 (by decide) (fun c57 => ?_) (fun c57 => absurd (by rw [lt_i li_20 (sI_t (by omega))]; omega) c57)
    exact kf
  | succ j ih =>
    intro s B hs hG
    have hs41 : s < 41 := by omega
    have e12 : B (o + 12) (l * 41 + s) = lN (c l s) := by rw [hG.1 _ (by omega)]; exact hB0 l s hl hs41
    have hcl : c l s ≤ 1000000000000 := by
      have := sm_at (f := fl2 c) (show l * 41 + s < 205 by omega)
      rw [fl2_at c hs41] at this
      omega
    by_cases h0 : c l s = 0
    · obtain ⟨F, kk, hX⟩ := ih (s + 1) B (by omega) (hG.skip hs41 (fun w t _ q => by
        unfold hct
        rw [show t + w - 2 = s by omega, h0, Nat.zero_mul, Nat.zero_mul]
        simp))
      refine ⟨F, ?_, hX⟩
      refine pw_iload6 dX12_chanceFrom_53 ?_
      refine pw_bipush (v := 20) dX12_chanceFrom_55 (by decide) ?_
      refine pw_icmp_gt (tgt := 93) dX12_chanceFrom_57 (by decide) (fun c57 => absurd c57 (by rw [lt_i li_20 (sI_t (by omega))]; omega)) (fun c57 => ?_)
      refine pw_aload0 dX12_chanceFrom_60 ?_
      refine pw_getr gX12_51 dX12_chanceFrom_61 hF.1 (mf_p28 hF) ?_
      refine pw_iload5 dX12_chanceFrom_64 ?_
      refine pw_iload6 dX12_chanceFrom_66 ?_
      refine pw_s2i wX12_mark lX12_427 dX12_chanceFrom_68 (c_markI l s) rfl (Nat.le_of_ble_eq_true rfl) (Nat.le_of_ble_eq_true rfl) ?_
      refine pw_lld (j := l * 41 + s) dX12_chanceFrom_71 (mf_s12 hF) (ix_m rfl (by omega)) (by omega) ?_
      rw [e12]
      refine pw_lconst (v := 0) dX12_chanceFrom_72 (by decide) ?_
      refine pw_lcmp dX12_chanceFrom_73 ?_
      refine pw_if_le (tgt := 87) dX12_chanceFrom_74 (by decide) (fun c74 => ?_) (fun c74 => absurd (by rw [lg_cmp_le, lN_z (by omega)]; omega) c74)
      refine pw_iinc6 (v := 1) dX12_chanceFrom_87 (by decide) (by decide) (k := ?_)
      refine pw_goto (tgt := 53) dX12_chanceFrom_90 (by decide) ?_
      rw [sI_1]
      exact kk
    by_cases h9 : rf_na ((rT (A (o + 7))) b l s) = 9
    · have ks := c_slipsOn0 (G := G) (d := d) (V := V) (A := A) (B := B) (Q := Q) (t := t) (sl := sl) hF (show b < 12 by omega) hl hs41 h9
      obtain ⟨F, kk, hX⟩ := ih (s + 1) B (by omega) (hG.skip hs41 (fun w t hw q => by
        unfold hct
        rw [show t + w - 2 = s by omega, h9, rf_sl_9 h9, if_neg (show ¬ 9 = w by omega), if_neg (show ¬ 9 = w by omega)]
        simp))
      refine ⟨F, ?_, hX⟩
      refine pw_iload6 dX12_chanceFrom_53 ?_
      refine pw_bipush (v := 20) dX12_chanceFrom_55 (by decide) ?_
      refine pw_icmp_gt (tgt := 93) dX12_chanceFrom_57 (by decide) (fun c57 => absurd c57 (by rw [lt_i li_20 (sI_t (by omega))]; omega)) (fun c57 => ?_)
      refine pw_aload0 dX12_chanceFrom_60 ?_
      refine pw_getr gX12_51 dX12_chanceFrom_61 hF.1 (mf_p28 hF) ?_
      refine pw_iload5 dX12_chanceFrom_64 ?_
      refine pw_iload6 dX12_chanceFrom_66 ?_
      refine pw_s2i wX12_mark lX12_427 dX12_chanceFrom_68 (c_markI l s) rfl (Nat.le_of_ble_eq_true rfl) (Nat.le_of_ble_eq_true rfl) ?_
      refine pw_lld (j := l * 41 + s) dX12_chanceFrom_71 (mf_s12 hF) (ix_m rfl (by omega)) (by omega) ?_
      rw [e12]
      refine pw_lconst (v := 0) dX12_chanceFrom_72 (by decide) ?_
      refine pw_lcmp dX12_chanceFrom_73 ?_
      refine pw_if_le (tgt := 87) dX12_chanceFrom_74 (by decide) (fun c74 => absurd c74 (by rw [lg_cmp_le, lN_z (by omega)]; omega)) (fun c74 => ?_)
      refine pw_aload0 dX12_chanceFrom_77 ?_
      refine pw_iload4 dX12_chanceFrom_78 ?_
      refine pw_iload5 dX12_chanceFrom_80 ?_
      refine pw_iload6 dX12_chanceFrom_82 ?_
      refine pw_o3v wX12_slipsOn lX12_495 rfl dX12_chanceFrom_84 hF.1 (ks) rfl (Nat.le_of_ble_eq_true rfl) (Nat.le_of_ble_eq_true rfl) ?_
      refine pw_iinc6 (v := 1) dX12_chanceFrom_87 (by decide) (by decide) (k := ?_)
      refine pw_goto (tgt := 53) dX12_chanceFrom_90 (by decide) ?_
      rw [sI_1]
      exact kk
    · obtain ⟨ks, g1, g2, g3, g4⟩ := c_slipsOn1 (G := G) (d := d) (V := V) (A := A) (B := B) (Q := Q) (t := t) (sl := sl) hF (show b < 12 by omega) hl hs41 (fun w hw => hin b l s w hb hl hs41 hw) h3 e12 h9
      obtain ⟨F, kk, hX⟩ := ih (s + 1) _ (by omega) (hG.add hl hs41 hk rfl rfl g1 g2 g3 g4 (x := lN (c l s) * (10 - nI k).toInt64) (y := lN (c l s) * (nI k).toInt64) (by rw [nI_10 hk, lN_mul]) (by rw [nI_l (by omega), lN_mul]))
      refine ⟨F, ?_, hX⟩
      refine pw_iload6 dX12_chanceFrom_53 ?_
      refine pw_bipush (v := 20) dX12_chanceFrom_55 (by decide) ?_
      refine pw_icmp_gt (tgt := 93) dX12_chanceFrom_57 (by decide) (fun c57 => absurd c57 (by rw [lt_i li_20 (sI_t (by omega))]; omega)) (fun c57 => ?_)
      refine pw_aload0 dX12_chanceFrom_60 ?_
      refine pw_getr gX12_51 dX12_chanceFrom_61 hF.1 (mf_p28 hF) ?_
      refine pw_iload5 dX12_chanceFrom_64 ?_
      refine pw_iload6 dX12_chanceFrom_66 ?_
      refine pw_s2i wX12_mark lX12_427 dX12_chanceFrom_68 (c_markI l s) rfl (Nat.le_of_ble_eq_true rfl) (Nat.le_of_ble_eq_true rfl) ?_
      refine pw_lld (j := l * 41 + s) dX12_chanceFrom_71 (mf_s12 hF) (ix_m rfl (by omega)) (by omega) ?_
      rw [e12]
      refine pw_lconst (v := 0) dX12_chanceFrom_72 (by decide) ?_
      refine pw_lcmp dX12_chanceFrom_73 ?_
      refine pw_if_le (tgt := 87) dX12_chanceFrom_74 (by decide) (fun c74 => absurd c74 (by rw [lg_cmp_le, lN_z (by omega)]; omega)) (fun c74 => ?_)
      refine pw_aload0 dX12_chanceFrom_77 ?_
      refine pw_iload4 dX12_chanceFrom_78 ?_
      refine pw_iload5 dX12_chanceFrom_80 ?_
      refine pw_iload6 dX12_chanceFrom_82 ?_
      refine pw_o3v wX12_slipsOn lX12_495 rfl dX12_chanceFrom_84 hF.1 (ks) rfl (Nat.le_of_ble_eq_true rfl) (Nat.le_of_ble_eq_true rfl) ?_
      refine pw_iinc6 (v := 1) dX12_chanceFrom_87 (by decide) (by decide) (k := ?_)
      refine pw_goto (tgt := 53) dX12_chanceFrom_90 (by decide) ?_
      rw [sI_1]
      exact kk
set_option maxRecDepth 20000 in
theorem l_chance2 {G : gT} {d : Nat} {S : sS} {V : sV} {P : sP} {A : sV} {Q : sP} {t sl o : Nat} (hF : MF S P o) {n k : Nat} {x2 x3 : Int32} {y : Int64} {X : sB → Prop} (hn12 : n ≤ 12) (hk : k ≤ 10) (h3 : A (o + 1) 3 = nI k) (hin : ∀ b l s w, b < n → l < 5 → s < 41 → w < 5 → rT (A (o + 7)) b l s w ≠ (-268435456) → rf_in s w = true) {b : Nat} (hb : b < n) {B0 : sB} {c : Nat → Nat → Nat} (hc : sm (fl2 c) 205 ≤ 1000000000000) (hB0 : ∀ l s, l < 5 → s < 41 → B0 (o + 12) (l * 41 + s) = lN (c l s)) (kf0 : ∀ (B : sB) (x6 : Option Value), HPm o B0 (rT (A (o + 7))) k b c 5 0 B → ∃ F : sB, PW G (d + 4) mX12_chanceFrom 99 [some (.ref o), some (.int (nI n)), some (.int x2), some (.int x3), some (.int (nI b)), some (.int (dI 5)), x6] [] (t, sl, gh S V P A B Q) (some (.long y)) (t, sl, gh S V P A F Q) ∧ X F) : ∀ (j l : Nat) (B : sB) (x6 : Option Value), l + j = 5 → HPm o B0 (rT (A (o + 7))) k b c l 0 B → ∃ F : sB, PW G (d + 4) mX12_chanceFrom 43 [some (.ref o), some (.int (nI n)), some (.int x2), some (.int x3), some (.int (nI b)), some (.int (dI l)), x6] [] (t, sl, gh S V P A B Q) (some (.long y)) (t, sl, gh S V P A F Q) ∧ X F := by
  intro j
  induction j with
  | zero =>
    intro l B x6 hl hG
    have hl : l = 5 := hl
    subst hl
    obtain ⟨F, kf, hX⟩ := kf0 B x6 hG
    refine ⟨F, ?_, hX⟩
    refine pw_iload5 dX12_chanceFrom_43 ?_
    refine pw_iconst (v := 2) dX12_chanceFrom_45 (by decide) ?_
    refine pw_icmp_gt (tgt := 99) dX12_chanceFrom_46 (by decide) (fun c46 => ?_) (fun c46 => absurd (by rw [lt_i li_2 (dI_t (by omega))]; omega) c46)
    exact kf
  | succ j ih =>
    intro l B x6 hl hG
    obtain ⟨F, kk, hX⟩ := l_chance1 (G := G) (d := d) (V := V) (A := A) (Q := Q) (t := t) (sl := sl) (x2 := x2) (x3 := x3) (y := y) (X := X) hF hn12 hk h3 hin hb hc hB0 (show l < 5 by omega) (fun B1 h1 => by
      obtain ⟨F, kk, hX⟩ := ih (l + 1) B1 (some (.int (sI 41))) (by omega) h1
      refine ⟨F, ?_, hX⟩
      refine pw_iinc5 (v := 1) dX12_chanceFrom_93 (by decide) (by decide) (k := ?_)
      refine pw_goto (tgt := 43) dX12_chanceFrom_96 (by decide) ?_
      rw [dI_1]
      exact kk) 41 0 B rfl hG
    refine ⟨F, ?_, hX⟩
    refine pw_iload5 dX12_chanceFrom_43 ?_
    refine pw_iconst (v := 2) dX12_chanceFrom_45 (by decide) ?_
    refine pw_icmp_gt (tgt := 99) dX12_chanceFrom_46 (by decide) (fun c46 => absurd c46 (by rw [lt_i li_2 (dI_t (by omega))]; omega)) (fun c46 => ?_)
    refine pw_bipush (v := -20) dX12_chanceFrom_49 (by decide) ?_
    rw [show (-20 : Int32) = sI 0 from rfl]
    refine pw_istore6 dX12_chanceFrom_51 (by decide) (k := ?_)
    exact kk
theorem fl2_sum {z : Nat → Nat} {c : Nat → Nat → Nat} (h : ∀ l s, l < 5 → s < 41 → z (l * 41 + s) = c l s) : sm z 205 = sm (fl2 c) 205 := by
  refine sm_cong 205 (fun j hj => ?_)
  have := h (j / 41) (j % 41) (by omega) (by omega)
  rw [show j / 41 * 41 + j % 41 = j by omega] at this
  rw [this]
  rfl
set_option maxRecDepth 20000 in
theorem l_chance3 {G : gT} {d : Nat} {S : sS} {V : sV} {P : sP} {A : sV} {Q : sP} {t sl o : Nat} (hF : MF S P o) {n k : Nat} {x2 x3 : Int32} {y : Int64} {X : sB → Prop} (hn12 : n ≤ 12) (hk : k ≤ 10) (h3 : A (o + 1) 3 = nI k) (hin : ∀ b l s w, b < n → l < 5 → s < 41 → w < 5 → rT (A (o + 7)) b l s w ≠ (-268435456) → rf_in s w = true) {s0 : Nat} {Bz : sB} (kf0 : ∀ (B : sB) (x5 x6 : Option Value), (∀ a, a ≠ o + 12 → a ≠ o + 13 → B a = Bz a) → (∀ l s, l < 5 → s < 41 → B (o + 12) (l * 41 + s) = lN (rf_h (rT (A (o + 7))) k s0 n l s)) → sm (fl2 (rf_h (rT (A (o + 7))) k s0 n)) 205 ≤ 10 ^ n → ∃ F : sB, PW G (d + 4) mX12_chanceFrom 109 [some (.ref o), some (.int (nI n)), some (.int x2), some (.int x3), some (.int (nI n)), x5, x6] [] (t, sl, gh S V P A B Q) (some (.long y)) (t, sl, gh S V P A F Q) ∧ X F) : ∀ (j b : Nat) (B : sB) (x5 x6 : Option Value), b + j = n → (∀ a, a ≠ o + 12 → a ≠ o + 13 → B a = Bz a) → (∀ l s, l < 5 → s < 41 → B (o + 12) (l * 41 + s) = lN (rf_h (rT (A (o + 7))) k s0 b l s)) → (∀ i, i < 205 → B (o + 13) i = 0) → sm (fl2 (rf_h (rT (A (o + 7))) k s0 b)) 205 ≤ 10 ^ b → ∃ F : sB, PW G (d + 4) mX12_chanceFrom 33 [some (.ref o), some (.int (nI n)), some (.int x2), some (.int x3), some (.int (nI b)), x5, x6] [] (t, sl, gh S V P A B Q) (some (.long y)) (t, sl, gh S V P A F Q) ∧ X F := by
  intro j
  induction j with
  | zero =>
    intro b B x5 x6 hb g1 g2 g3 g4
    have hb : b = n := hb
    subst hb
    obtain ⟨F, kf, hX⟩ := kf0 B x5 x6 g1 g2 g4
    refine ⟨F, ?_, hX⟩
    refine pw_iload4 dX12_chanceFrom_33 ?_
    refine pw_iload1 dX12_chanceFrom_35 ?_
    refine pw_icmp_ge (tgt := 109) dX12_chanceFrom_36 (by decide) (fun c36 => ?_) (fun c36 => absurd (Int32.le_refl _) c36)
    exact kf
  | succ j ih =>
    intro b B x5 x6 hb g1 g2 g3 g4
    have hc : sm (fl2 (rf_h (rT (A (o + 7))) k s0 b)) 205 ≤ 1000000000000 := Nat.le_trans g4 (p10_12 (by omega))
    obtain ⟨F, kk, hX⟩ := l_chance2 (G := G) (d := d) (V := V) (A := A) (Q := Q) (t := t) (sl := sl) (x2 := x2) (x3 := x3) (y := y) (X := X) hF hn12 hk h3 hin (show b < n by omega) hc g2 (fun B1 x6 f1 => by
      obtain ⟨B2, k1, f2, f3⟩ := c_isThen (G := G) (d := d + 3) (V := V) (A := A) (B := B1) (Q := Q) (t := t) (sl := sl) hF
      obtain ⟨f4, z, z1, z2, z3⟩ := f1
      have z4 : ∀ l s, l < 5 → s < 41 → z (l * 41 + s) = rf_h (rT (A (o + 7))) k s0 (b + 1) l s := by
        intro l s hl hs
        rw [z3 l s hl hs, rf_h]
        have e2 : (if s + l < 0 + 2 then hct (rT (A (o + 7))) k b (rf_h (rT (A (o + 7))) k s0 b) 5 l s else 0) = 0 := by
          by_cases q : s + l < 2
          · rw [if_pos q]
            unfold hct
            rw [if_neg (by omega)]
          · rw [if_neg q]
        rw [e2, Nat.add_zero]
      obtain ⟨F, kk, hX⟩ := ih (b + 1) B2 (some (.int (dI 5))) x6 (by omega) (fun a h12 h13 => by rw [f2 a h12 h13, f4 a h13]; exact g1 a h12 h13) (fun l s hl hs => by rw [(f3 _ (by omega)).1, z1 _ (by omega), z4 l s hl hs]) (fun i hi => (f3 i hi).2) (by
        rw [← fl2_sum z4, Nat.pow_succ, Nat.mul_comm]
        have : 5 * 41 + 0 = 205 := rfl
        exact Nat.le_trans z2 (Nat.mul_le_mul_left 10 g4))
      refine ⟨F, ?_, hX⟩
      refine pw_aload0 dX12_chanceFrom_99 ?_
      refine pw_o0v wX12_isThen lX12_433 rfl dX12_chanceFrom_100 hF.1 (k1) rfl (Nat.le_of_ble_eq_true rfl) (Nat.le_of_ble_eq_true rfl) ?_
      refine pw_iinc4 (v := 1) dX12_chanceFrom_103 (by decide) (by decide) (k := ?_)
      refine pw_goto (tgt := 33) dX12_chanceFrom_106 (by decide) ?_
      rw [nI_1]
      exact kk) 5 0 B x6 rfl ⟨fun _ _ => rfl, fun _ => 0, fun j hj => g3 j hj, by
        have : ∀ n, sm (fun _ => 0) n = 0 := by
          intro n
          induction n with
          | zero => rfl
          | succ n ih => rw [sm, ih]
        rw [this]
        exact Nat.zero_le _, fun w t hw ht => by
      have e2 : (if t + w < 0 + 2 then hct (rT (A (o + 7))) k b (rf_h (rT (A (o + 7))) k s0 b) 0 w t else 0) = 0 := by
        by_cases q : t + w < 2
        · rw [if_pos q]
          unfold hct
          rw [if_neg (by omega)]
        · rw [if_neg q]
      rw [e2]
      rfl⟩
    refine ⟨F, ?_, hX⟩
    refine pw_iload4 dX12_chanceFrom_33 ?_
    refine pw_iload1 dX12_chanceFrom_35 ?_
    refine pw_icmp_ge (tgt := 109) dX12_chanceFrom_36 (by decide) (fun c36 => absurd c36 (by rw [le_i (ix_n (j := n) (by omega)) (ix_n (j := b) (by omega))]; omega)) (fun c36 => ?_)
    refine pw_bipush (v := -2) dX12_chanceFrom_39 (by decide) ?_
    rw [show (-2 : Int32) = dI 0 from rfl]
    refine pw_istore5 dX12_chanceFrom_41 (by decide) (k := ?_)
    exact kk
set_option maxRecDepth 20000 in
theorem l_chance0 {G : gT} {d : Nat} {S : sS} {V : sV} {P : sP} {A : sV} {Q : sP} {t sl o : Nat} (hF : MF S P o) {n : Nat} {x2 x3 : Int32} {y : Int64} {X : sB → Prop} {B0 : sB} (kf0 : ∀ B : sB, (∀ a, a ≠ o + 13 → B a = B0 a) → (∀ i, i < 205 → B (o + 13) i = 0) → ∃ F : sB, PW G d mX12_chanceFrom 30 [some (.ref o), some (.int (nI n)), some (.int x2), some (.int x3), some (.int (nI 205)), none, none] [] (t, sl, gh S V P A B Q) (some (.long y)) (t, sl, gh S V P A F Q) ∧ X F) : ∀ (m i : Nat) (B : sB), i + m = 205 → (∀ a, a ≠ o + 13 → B a = B0 a) → (∀ j, j < i → B (o + 13) j = 0) → ∃ F : sB, PW G d mX12_chanceFrom 8 [some (.ref o), some (.int (nI n)), some (.int x2), some (.int x3), some (.int (nI i)), none, none] [] (t, sl, gh S V P A B Q) (some (.long y)) (t, sl, gh S V P A F Q) ∧ X F := by
  intro m
  induction m with
  | zero =>
    intro i B hk h1 h2
    have hk : i = 205 := hk
    subst hk
    obtain ⟨F, kf, hX⟩ := kf0 B h1 h2
    refine ⟨F, ?_, hX⟩
    refine pw_iload4 dX12_chanceFrom_8 ?_
    refine pw_sipush (v := 205) dX12_chanceFrom_10 (by decide) ?_
    refine pw_icmp_ge (tgt := 30) dX12_chanceFrom_13 (by decide) (fun c13 => ?_) (fun c13 => absurd (by decide) c13)
    exact kf
  | succ m ih =>
    intro i B hk h1 h2
    obtain ⟨F, kk, hX⟩ := ih (i + 1) (up2 B (o + 13) i 0) (by omega) (fun a ha => by rw [up2_na ha]; exact h1 a ha) (fun j hj => by
      rw [up2_at]
      unfold pm_up
      by_cases e : j = i
      · rw [if_pos e]
      · rw [if_neg e]
        exact h2 j (by omega))
    refine ⟨F, ?_, hX⟩
    refine pw_iload4 dX12_chanceFrom_8 ?_
    refine pw_sipush (v := 205) dX12_chanceFrom_10 (by decide) ?_
    refine pw_icmp_ge (tgt := 30) dX12_chanceFrom_13 (by decide) (fun c13 => absurd c13 (by rw [le_i li_205 (ix_n (j := i) (by omega))]; omega)) (fun c13 => ?_)
    refine pw_aload0 dX12_chanceFrom_16 ?_
    refine pw_getr gX12_55 dX12_chanceFrom_17 hF.1 (mf_p29 hF) ?_
    refine pw_iload4 dX12_chanceFrom_20 ?_
    refine pw_lconst (v := 0) dX12_chanceFrom_22 (by decide) ?_
    refine pw_lst (j := i) dX12_chanceFrom_23 (mf_s13 hF) (ix_m rfl (by omega)) (by omega)  ?_
    refine pw_iinc4 (v := 1) dX12_chanceFrom_24 (by decide) (by decide) (k := ?_)
    refine pw_goto (tgt := 8) dX12_chanceFrom_27 (by decide) ?_
    rw [nI_1]
    exact kk
theorem sm_shift (f : Nat → Nat) : ∀ n, sm f (n + 1) = f 0 + sm (fun i => f (i + 1)) n
  | 0 => by rw [sm, sm, sm, Nat.zero_add, Nat.add_zero]
  | n + 1 => by
    rw [sm, sm_shift f n, sm]
    omega
set_option maxRecDepth 20000 in
theorem l_chance9 {G : gT} {d : Nat} {S : sS} {V : sV} {P : sP} {A : sV} {B : sB} {Q : sP} {t sl o : Nat} (hF : MF S P o) {n : Nat} {x2 x3 : Int32} {c : Nat → Nat → Nat} (hB : ∀ l s, l < 5 → s < 41 → B (o + 12) (l * 41 + s) = lN (c l s)) : ∀ (j s a : Nat), s + j = 41 → PW G (d + 2) mX12_chanceFrom 115 [some (.ref o), some (.int (nI n)), some (.int x2), some (.int x3), some (.long (lN a)), none, some (.int (sI s))] [] (t, sl, gh S V P A B Q) (some (.long (lN (a + sm (fun i => sm (fun l => c l (s + i)) 5) j)))) (t, sl, gh S V P A B Q) := by
  intro j
  induction j with
  | zero =>
    intro s a hs
    have hs : s = 41 := hs
    subst hs
    rw [show sm (fun i => sm (fun l => c l (41 + i)) 5) 0 = 0 from rfl, Nat.add_zero]
    refine pw_iload6 dX12_chanceFrom_115 ?_
    refine pw_bipush (v := 20) dX12_chanceFrom_117 (by decide) ?_
    refine pw_icmp_gt (tgt := 139) dX12_chanceFrom_119 (by decide) (fun c119 => ?_) (fun c119 => absurd (by rw [lt_i li_20 (sI_t (by omega))]; omega) c119)
    refine pw_lload4 dX12_chanceFrom_139 ?_
    exact pw_lret dX12_chanceFrom_141 rfl rfl rfl
  | succ j ih =>
    intro s a hs
    have ke := c_endsWith (G := G) (d := d) (V := V) (A := A) (B := B) (Q := Q) (t := t) (sl := sl) hF (show s < 41 by omega)
    have hv : smL (fun l => B (o + 12) (l * 41 + s)) 0 0 5 = lN (sm (fun l => c l s) 5) := by
      have := smL_N (f := fun l => B (o + 12) (l * 41 + s)) (g := fun l => c l s) 5 0 0 (fun i hi => hB i s (by omega) (by omega))
      rw [Nat.zero_add, Nat.zero_add] at this
      exact this
    rw [hv] at ke
    have kk := ih (s + 1) (a + sm (fun l => c l s) 5) (by omega)
    have hm : sm (fun i => sm (fun l => c l (s + i)) 5) (j + 1) = sm (fun l => c l s) 5 + sm (fun i => sm (fun l => c l (s + 1 + i)) 5) j := by
      rw [sm_shift]
      congr 1
      refine sm_cong j (fun i _ => ?_)
      rw [show s + (i + 1) = s + 1 + i by omega]
    rw [hm, ← Nat.add_assoc]
    refine pw_iload6 dX12_chanceFrom_115 ?_
    refine pw_bipush (v := 20) dX12_chanceFrom_117 (by decide) ?_
    refine pw_icmp_gt (tgt := 139) dX12_chanceFrom_119 (by decide) (fun c119 => absurd c119 (by rw [lt_i li_20 (sI_t (by omega))]; omega)) (fun c119 => ?_)
    refine pw_lload4 dX12_chanceFrom_122 ?_
    refine pw_aload0 dX12_chanceFrom_124 ?_
    refine pw_iload6 dX12_chanceFrom_125 ?_
    refine pw_o1i wX12_endsWith lX12_443 rfl dX12_chanceFrom_127 hF.1 (ke) rfl (Nat.le_of_ble_eq_true rfl) (Nat.le_of_ble_eq_true rfl) ?_
    refine pw_ladd dX12_chanceFrom_130 ?_
    refine pw_lstore4 dX12_chanceFrom_131 (by decide) (k := ?_)
    refine pw_iinc6 (v := 1) dX12_chanceFrom_133 (by decide) (by decide) (k := ?_)
    refine pw_goto (tgt := 115) dX12_chanceFrom_136 (by decide) ?_
    rw [sI_1, lN_add]
    exact kk
/-- in how many of the ways the store comes to the place g0 at least -/
def rf_hs (T : Nat → Nat → Nat → Nat → Int32) (k s0 n g0 : Nat) : Nat := sm (fun i => sm (fun l => rf_h T k s0 n l (g0 + i)) 5) (41 - g0)
set_option maxRecDepth 20000 in
theorem c_chanceFrom {G : gT} {d : Nat} {S : sS} {V : sV} {P : sP} {A : sV} {B : sB} {Q : sP} {t sl o : Nat} (hF : MF S P o) {n k s0 g0 : Nat} (hn12 : n ≤ 12) (hk : k ≤ 10) (h3 : A (o + 1) 3 = nI k) (hin : ∀ b l s w, b < n → l < 5 → s < 41 → w < 5 → rT (A (o + 7)) b l s w ≠ (-268435456) → rf_in s w = true) (h0 : s0 < 41) (hg : g0 < 41) : ∃ F : sB, PW G (d + 4) mX12_chanceFrom 0 [some (.ref o), some (.int (nI n)), some (.int (sI s0)), some (.int (sI g0)), none, none, none] [] (t, sl, gh S V P A B Q) (some (.long (lN (rf_hs (rT (A (o + 7))) k s0 n g0)))) (t, sl, gh S V P A F Q) ∧ (∀ a, a ≠ o + 12 → a ≠ o + 13 → F a = B a) ∧ sm (fl2 (rf_h (rT (A (o + 7))) k s0 n)) 205 ≤ 10 ^ n := by
  obtain ⟨R2, k2, hR2⟩ := c_beginsMany (G := G) (d := d + 2) (V := V) (A := A) (B := B) (Q := Q) (t := t) (sl := sl) hF h0
  obtain ⟨F, kk, hX⟩ := l_chance0 (G := G) (d := d + 4) (V := V) (A := A) (Q := Q) (t := t) (sl := sl) (n := n) (x2 := sI s0) (x3 := sI g0) (y := lN (rf_hs (rT (A (o + 7))) k s0 n g0)) (X := fun F => (∀ a, a ≠ o + 12 → a ≠ o + 13 → F a = B a) ∧ sm (fl2 (rf_h (rT (A (o + 7))) k s0 n)) 205 ≤ 10 ^ n) (B0 := pm_up B (o + 12) R2) hF (fun B1 f1 f2 => by
    obtain ⟨F, kk, hX⟩ := l_chance3 (G := G) (d := d) (V := V) (A := A) (Q := Q) (t := t) (sl := sl) (x2 := sI s0) (x3 := sI g0) (y := lN (rf_hs (rT (A (o + 7))) k s0 n g0)) (X := fun F => (∀ a, a ≠ o + 12 → a ≠ o + 13 → F a = B a) ∧ sm (fl2 (rf_h (rT (A (o + 7))) k s0 n)) 205 ≤ 10 ^ n) (s0 := s0) (Bz := B) hF hn12 hk h3 hin (fun B2 x5 x6 e1 e2 e3 => by
      have kk := l_chance9 (G := G) (d := d + 2) (V := V) (A := A) (B := B2) (Q := Q) (t := t) (sl := sl) (n := n) (x2 := sI s0) (x3 := sI g0) hF e2 (41 - g0) g0 0 (by omega)
      rw [Nat.zero_add] at kk
      refine ⟨B2, ?_, e1, e3⟩
      refine pw_lconst (v := 0) dX12_chanceFrom_109 (by decide) ?_
      rw [show (0 : Int64) = lN 0 from rfl]
      refine pw_lstore4 dX12_chanceFrom_110 (by decide) (k := ?_)
      refine pw_iload3 dX12_chanceFrom_112 ?_
      refine pw_istore6 dX12_chanceFrom_113 (by decide) (k := ?_)
      exact kk) n 0 B1 none none (by omega) (fun a h12 h13 => by rw [f1 a h13, pm_up_ne h12]) (fun l s hl hs => by rw [f1 _ (by omega), pm_up_eq, hR2 l s hl hs]; rfl) f2 (by
        have e9 : ∀ j, j < 205 → fl2 (rf_h (rT (A (o + 7))) k s0 0) j = pm_up (fun _ => 0) (82 + s0) (0 + 1) j := by
          intro j hj
          unfold fl2 pm_up
          rw [rf_h]
          by_cases q : j = 82 + s0
          · rw [if_pos q, if_pos (by omega)]
          · rw [if_neg q, if_neg (by omega)]
        have z0 : ∀ n, sm (fun _ => 0) n = 0 := by
          intro n
          induction n with
          | zero => rfl
          | succ n ih => rw [sm, ih]
        rw [sm_cong 205 e9, sm_upd (fun _ => 0) (82 + s0) 1 205 (by omega), z0]
        decide)
    refine ⟨F, ?_, hX⟩
    refine pw_iconst (v := 0) dX12_chanceFrom_30 (by decide) ?_
    rw [show (0 : Int32) = nI 0 from rfl]
    refine pw_istore4 dX12_chanceFrom_31 (by decide) (k := ?_)
    exact kk) 205 0 (pm_up B (o + 12) R2) rfl (fun _ _ => rfl) (fun i hi => absurd hi (Nat.not_lt_zero i))
  refine ⟨F, ?_, hX⟩
  refine pw_aload0 dX12_chanceFrom_0 ?_
  refine pw_iload2 dX12_chanceFrom_1 ?_
  refine pw_o1v wX12_beginsMany lX12_430 rfl dX12_chanceFrom_2 hF.1 (k2) rfl (Nat.le_of_ble_eq_true rfl) (Nat.le_of_ble_eq_true rfl) ?_
  refine pw_iconst (v := 0) dX12_chanceFrom_5 (by decide) ?_
  rw [show (0 : Int32) = nI 0 from rfl]
  refine pw_istore4 dX12_chanceFrom_6 (by decide) (k := ?_)
  exact kk
