/-! ===== best rows: bounds, the last draw, the first of the best ===== -/
/-- nothing, or at most so many millions -/
def bnd (k : Nat) (x : Int32) : Prop := x = -268435456 ∨ (-(1000000 * (k : Int)) ≤ x.toInt ∧ x.toInt ≤ 1000000 * (k : Int))
theorem bnd.ok {k : Nat} {x : Int32} (h : bnd k x) (hk : k ≤ 100) : okv x := h.elim Or.inl (fun h => Or.inr ⟨by omega, by omega⟩)
theorem bnd.up {k k' : Nat} {x : Int32} (h : bnd k x) (hk : k ≤ k') : bnd k' x := h.elim Or.inl (fun h => Or.inr ⟨by omega, by omega⟩)
theorem bnd_sml {x : Int32} (h : x = -268435456 ∨ sml x) : bnd 1 x := h.elim Or.inl (fun h => Or.inr ⟨by have := h.1; omega, by have := h.2; omega⟩)
theorem bnd_add {a b : Nat} {x y : Int32} (hx : bnd a x) (hy : bnd b y) (h : a + b ≤ 100) (nx : x ≠ -268435456) (ny : y ≠ -268435456) : bnd (a + b) (x + y) ∧ (x + y).toInt = x.toInt + y.toInt := by
  have h1 := hx.resolve_left nx
  have h2 := hy.resolve_left ny
  have e := ti_add (x := x) (y := y) rfl rfl (by omega)
  exact ⟨Or.inr ⟨by rw [e]; omega, by rw [e]; omega⟩, e⟩
theorem bnd_ge {k : Nat} {x : Int32} (h : bnd k x) (hk : k ≤ 100) : (-268435456 : Int32) ≤ x := by
  rcases h with h | h
  · rw [h]; exact Int32.le_refl _
  · rw [le_i (show (-268435456 : Int32).toInt = -268435456 from rfl) rfl]
    omega
theorem okv_ge {x : Int32} (h : okv x) : (-268435456 : Int32) ≤ x := by
  rcases h with h | h
  · rw [h]; exact Int32.le_refl _
  · rw [le_i (show (-268435456 : Int32).toInt = -268435456 from rfl) rfl]
    omega
theorem rf_gb_bnd {T : Nat → Nat → Nat → Nat → Int32} {kp : Nat → Nat → Bool} {N : Nat → Nat → Int32} {b l s w k : Nat} (hT : bnd 1 (T b l s w)) (hN : T b l s w ≠ -268435456 → bnd k (N w (s + 2 - w))) (hk : k ≤ 90) : bnd (k + 1) (rf_gb T kp N b l s w) := by
  unfold rf_gb
  by_cases h1 : kp b w = true
  · rw [if_pos h1]
    by_cases h2 : T b l s w = -268435456
    · rw [if_pos h2]
      exact Or.inl rfl
    · rw [if_neg h2]
      by_cases h3 : N w (s + 2 - w) = -268435456
      · rw [if_pos h3]
        exact Or.inl rfl
      · rw [if_neg h3]
        exact ((bnd_add hT (hN h2) (by omega) h2 h3).1).up (by omega)
  · rw [if_neg h1]
    exact Or.inl rfl
theorem rf_mf_bnd {f : Nat → Int32} {k : Nat} (hf : ∀ w, w < 5 → bnd k (f w)) : ∀ (c w : Nat) (acc : Int32), w + c = 5 → bnd k acc → bnd k (rf_mf f acc w c)
  | 0, _, _, _, h => h
  | c + 1, w, acc, hw, h => by
    rw [rf_mf]
    refine rf_mf_bnd hf c (w + 1) _ (by omega) ?_
    split
    · exact h
    · exact hf w (by omega)
theorem rf_mx_bnd {f : Nat → Int32} {k : Nat} (hf : ∀ w, w < 5 → bnd k (f w)) : bnd k (rf_mx f) := rf_mf_bnd hf 5 0 _ rfl (Or.inl rfl)
theorem rf_T_bnd {T : Nat → Nat → Nat → Nat → Int32} {kp : Nat → Nat → Bool} {n : Nat} {e : Nat → Int32} (hn : n ≤ 12) (hT : ∀ b l s w, b < n → l < 5 → s < 41 → w < 5 → bnd 1 (T b l s w)) (hin : ∀ b l s w, b < n → l < 5 → s < 41 → w < 5 → T b l s w ≠ -268435456 → rf_in s w = true) (he : ∀ s, s < 41 → bnd 0 (e s)) : ∀ (r : Nat), r ≤ n → ∀ l s, l < 5 → s < 41 → bnd r (rf_T T kp n e r l s)
  | 0, _, _, s, _, hs => he s hs
  | r + 1, hr, l, s, hl, hs => by
    rw [rf_T]
    refine rf_mx_bnd (fun w hw => rf_gb_bnd (hT _ l s w (by omega) hl hs hw) (fun h => ?_) (by omega))
    have h9 := hin _ l s w (by omega) hl hs hw h
    unfold rf_in at h9
    have h9 := of_decide_eq_true h9
    exact rf_T_bnd hn hT hin he r (by omega) w _ hw (by omega)
theorem rf_T_l2 {T : Nat → Nat → Nat → Nat → Int32} {kp : Nat → Nat → Bool} {n : Nat} {e : Nat → Int32} (hi : ∀ b l s w, b < n → l < 5 → s < 41 → w < 5 → T b l s w = T b 2 s w) : ∀ (r : Nat), r ≤ n → ∀ l s, l < 5 → s < 41 → rf_T T kp n e r l s = rf_T T kp n e r 2 s
  | 0, _, _, _, _, _ => rfl
  | r + 1, hr, l, s, hl, hs => by
    rw [rf_T, rf_T]
    refine rf_mx_cong (fun w hw => ?_)
    unfold rf_gb
    rw [hi _ l s w (by omega) hl hs hw]
theorem rf_mf_ge (f : Nat → Int32) : ∀ (c w : Nat) (acc : Int32), acc ≤ rf_mf f acc w c ∧ ∀ i, w ≤ i → i < w + c → f i ≤ rf_mf f acc w c
  | 0, w, acc => ⟨Int32.le_refl _, fun i h1 h2 => by omega⟩
  | c + 1, w, acc => by
    rw [rf_mf]
    obtain ⟨h1, h2⟩ := rf_mf_ge f c (w + 1) (if f w ≤ acc then acc else f w)
    have h3 : acc ≤ (if f w ≤ acc then acc else f w) ∧ f w ≤ (if f w ≤ acc then acc else f w) := by
      by_cases g : f w ≤ acc
      · rw [if_pos g]; exact ⟨Int32.le_refl _, g⟩
      · rw [if_neg g]; exact ⟨Int32.le_of_lt (Int32.not_le.mp g), Int32.le_refl _⟩
    refine ⟨Int32.le_trans h3.1 h1, fun i a b => ?_⟩
    by_cases e : i = w
    · rw [e]; exact Int32.le_trans h3.2 h1
    · exact h2 i (by omega) (by omega)
/-- the first of the best is where the most comes first -/
theorem nf_fw (f : Nat → Int32) : ∀ (c w best : Nat) (most : Int32), w + c = 5 → (∀ i, i < w → f i ≤ most) → (best = 9 → most = -268435456 ∧ ∀ i, i < w → f i = -268435456 ∨ f i < -268435456) → (best ≠ 9 → best < w ∧ f best = most ∧ ∀ i, i < best → f i < most) → rf_nf f best most w c = 9 ∨ (rf_nf f best most w c < 5 ∧ f (rf_nf f best most w c) = rf_mf f most w c ∧ ∀ i, i < rf_nf f best most w c → f i < rf_mf f most w c)
  | 0, w, best, most, hw, h1, h2, h3 => by
    show best = 9 ∨ (best < 5 ∧ f best = most ∧ ∀ i, i < best → f i < most)
    by_cases e : best = 9
    · exact Or.inl e
    · obtain ⟨a, b, c⟩ := h3 e
      exact Or.inr ⟨by omega, b, c⟩
  | c + 1, w, best, most, hw, h1, h2, h3 => by
    rw [rf_nf, rf_mf]
    by_cases g : most < f w
    · rw [if_pos g, if_neg (Int32.not_le.mpr g)]
      refine nf_fw f c (w + 1) w (f w) (by omega) (fun i hi => ?_) (fun e => by omega) (fun _ => ⟨by omega, rfl, fun i hi => ?_⟩)
      · by_cases e : i = w
        · rw [e]; exact Int32.le_refl _
        · exact Int32.le_of_lt (Int32.lt_of_le_of_lt (h1 i (by omega)) g)
      · exact Int32.lt_of_le_of_lt (h1 i hi) g
    · have g' : f w ≤ most := Int32.not_lt.mp g
      rw [if_neg g, if_pos g']
      refine nf_fw f c (w + 1) best most (by omega) (fun i hi => ?_) (fun e => ?_) (fun e => ?_)
      · by_cases e : i = w
        · rw [e]; exact g'
        · exact h1 i (by omega)
      · obtain ⟨a, b⟩ := h2 e
        refine ⟨a, fun i hi => ?_⟩
        by_cases e2 : i = w
        · rw [e2]
          by_cases e3 : f w = -268435456
          · exact Or.inl e3
          · refine Or.inr ?_
            rw [a] at g'
            have := Int32.le_iff_toInt_le.mp g'
            rw [Int32.lt_iff_toInt_lt]
            have : (f w).toInt ≠ (-268435456 : Int32).toInt := fun q => e3 (Int32.toInt_inj.mp q)
            omega
        · exact b i (by omega)
      · obtain ⟨a, b, d⟩ := h3 e
        exact ⟨by omega, b, d⟩
theorem nf_lt9 (f : Nat → Int32) : ∀ (c w best : Nat) (most : Int32), w + c = 5 → best < 5 → rf_nf f best most w c < 5
  | 0, _, _, _, _, h => h
  | c + 1, w, best, most, hw, h => by
    rw [rf_nf]
    split
    · exact nf_lt9 f c (w + 1) w _ (by omega) (by omega)
    · exact nf_lt9 f c (w + 1) best _ (by omega) h
theorem na_fw {f : Nat → Int32} (hm : rf_mx f ≠ -268435456) : rf_na f = rf_fw f (rf_mx f) ∧ rf_na f < 5 := by
  have h := nf_fw f 5 0 9 (-268435456) rfl (fun i hi => by omega) (fun _ => ⟨rfl, fun i hi => by omega⟩) (fun e => absurd rfl e)
  have e1 : rf_nf f 9 (-268435456) 0 5 = rf_na f := rfl
  have e2 : rf_mf f (-268435456) 0 5 = rf_mx f := rfl
  rw [e1, e2] at h
  obtain ⟨w, hw, hwx⟩ := rf_mx_in hm
  have hn9 : rf_na f ≠ 9 := by
    intro q
    rcases h with h | h
    · -- none found: all are nothing
      have h2 : ∀ (c w best : Nat) (most : Int32), rf_nf f best most w c = 9 → best = 9 → w + c = 5 → rf_mf f most w c = most := by
        intro c
        induction c with
        | zero => intro w best most _ _ _; rfl
        | succ c ih =>
          intro w best most h9 hb hwc
          rw [rf_nf] at h9
          rw [rf_mf]
          by_cases g : most < f w
          · rw [if_pos g] at h9
            have h5 := nf_lt9 f c (w + 1) w (f w) (by omega) (by omega)
            omega
          · rw [if_neg g] at h9
            rw [if_pos (Int32.not_lt.mp g)]
            exact ih (w + 1) best most h9 hb (by omega)
      exact hm (h2 5 0 9 (-268435456) q rfl rfl)
    · omega
  obtain ⟨a, b, c⟩ := h.resolve_left hn9
  refine ⟨?_, a⟩
  have h1 := rf_fw_at (f := f) (x := rf_mx f) ⟨w, hw, hwx⟩
  have h2 : ∀ i, i < rf_fw f (rf_mx f) → f i ≠ rf_mx f := fun i hi => rf_fw_first hi
  rcases Nat.lt_trichotomy (rf_na f) (rf_fw f (rf_mx f)) with g | g | g
  · exact absurd b (h2 _ g)
  · exact g
  · have := c _ g
    rw [h1] at this
    exact (Int32.lt_irrefl this).elim
theorem nd_8 {w : Nat} (h : w < 5 ∨ w = 9) : (nd w).toInt8.toInt32 = nd w := by
  rcases (show w = 0 ∨ w = 1 ∨ w = 2 ∨ w = 3 ∨ w = 4 ∨ w = 9 by omega) with rfl | rfl | rfl | rfl | rfl | rfl <;> decide
theorem cv_sum {a b : Nat} {x y : Int32} (hx : bnd a x) (hy : bnd b y) (h : a + b ≤ 100) (nx : x ≠ -268435456) (ny : y ≠ -268435456) : cv (x + y) = x + y := by
  refine cv_n (fun q => ?_)
  have h1 := (bnd_add hx hy h nx ny).2
  have h2 := hx.resolve_left nx
  have h3 := hy.resolve_left ny
  rw [q] at h1
  have h1 : (-268435456 : Int) = x.toInt + y.toInt := h1
  omega
set_option maxRecDepth 20000 in
theorem l_settleAt {G : gT} {d : Nat} {S : sS} {V : sV} {P : sP} {Q : sP} {t sl : Nat} {al : Nat → Int32} {sh ls p tm q : Nat} {A0 : sV} {B0 : sB} {b l s : Nat} {am : Int32} {kp : Nat → Nat → Bool} {N : Nat → Nat → Int32} {K : Nat} (hb : b < 12) (hl : l < 5) (hs : s < 41) (hkp : ∀ w, w < 5 → kp b w = inM am (dI w)) (hK90 : K ≤ 90) (hN : ∀ w, w < 5 → (TT (atm al p tm) p q) b l s w ≠ -268435456 → bnd K (N w (s + 2 - w)) ∧ A0 110 ((b + 1) * 205 + ((s + 2 - w) * 5 + (lbN (asks al 6) w))) = cv (N w (s + 2 - w))) : ∀ (c w : Nat) (A : sV) (B : sB) (f : Nat) (m : Int32) (x8 x9 : Option Value), w + c = 5 → okv m → KB S V P A B Q t al sh ls p tm q → FrG A0 B0 A B → rf_mf (rf_gb (TT (atm al p tm) p q) kp N b l s) m w c = rf_mx (rf_gb (TT (atm al p tm) p q) kp N b l s) → rf_nf (rf_gb (TT (atm al p tm) p q) kp N b l s) f m w c = rf_na (rf_gb (TT (atm al p tm) p q) kp N b l s) → WQ G (d + 3) mX10_settleAt 12 [some (.ref 107), some (.int (nI b)), some (.int (sI s)), some (.int (dI l)), some (.int am), some (.int (cv m)), some (.int (nd f)), some (.int (dI w)), x8, x9] [] (t, sl, gh S V P A B Q) (fun r h' => r = none ∧ ∃ (A' : sV) (B' : sB), h' = (t, sl, gh S V P A' B' Q) ∧ KB S V P A' B' Q t al sh ls p tm q ∧ (∀ x, x ≠ 97 → x ≠ 98 → x ≠ 110 → x ≠ 111 → A' x = A0 x) ∧ A' 110 = pm_up (A0 110) (b * 205 + (s * 5 + l)) (cv (rf_mx (rf_gb (TT (atm al p tm) p q) kp N b l s))) ∧ A' 111 = pm_up (A0 111) (b * 205 + (s * 5 + l)) (nd (rf_na (rf_gb (TT (atm al p tm) p q) kp N b l s))) ∧ ∀ x, x < 161 → B' x = B0 x) := by
  intro c
  induction c with
  | zero =>
    intro w A B f m x8 x9 hw hmo hK hF hm hf
    have hw : w = 5 := hw
    subst hw
    refine WQ.st (fun _ _ kz => pw_iload7 dX10_settleAt_12 kz) ?_
    refine WQ.st (fun _ _ kz => pw_iconst (v := 2) dX10_settleAt_14 (by decide) kz) ?_
    refine WQ.br (fun _ _ ka kb => pw_icmp_gt (tgt := 120) dX10_settleAt_15 (by decide) ka kb) (fun c15 => ?_) (fun c15 => absurd (by decide) c15)
    refine WQ.st (fun _ _ kz => pw_iload1 dX10_settleAt_120 kz) ?_
    refine WQ.st (fun _ _ kz => pw_sipush (v := 205) dX10_settleAt_121 (by decide) kz) ?_
    refine WQ.st (fun _ _ kz => pw_imul dX10_settleAt_124 kz) ?_
    refine WQ.st (fun _ _ kz => pw_iload2 dX10_settleAt_125 kz) ?_
    refine WQ.st (fun _ _ kz => pw_iload3 dX10_settleAt_126 kz) ?_
    refine wq_s2i wX0_placeOf lX10_91 dX10_settleAt_127 (k_placeOf _ _) rfl (Nat.le_of_ble_eq_true rfl) (Nat.le_of_ble_eq_true rfl) (fun h127 z127 => ?_)
    subst z127
    refine WQ.st (fun _ _ kz => pw_iadd dX10_settleAt_130 kz) ?_
    rw [show (205 : Int32) = nI 205 from rfl, pk_mul, nI_add]
    refine WQ.st (fun _ _ kz => pw_istore7 dX10_settleAt_131 (by decide) (k := kz)) ?_
    refine WQ.st (fun _ _ kz => pw_aload0 dX10_settleAt_133 kz) ?_
    refine WQ.st (fun _ _ kz => pw_getr gX10_25 dX10_settleAt_134 (cf_s107 hK.cf) (cf_p107_5 hK.cf) kz) ?_
    refine WQ.st (fun _ _ kz => pw_iload7 dX10_settleAt_137 kz) ?_
    refine WQ.st (fun _ _ kz => pw_iload5 dX10_settleAt_139 kz) ?_
    refine WQ.st (fun _ _ kz => pw_ast (j := (b * 205 + (s * 5 + l))) dX10_settleAt_141 (cf_s110 hK.cf) (ix_n (by omega)) (by omega)  kz) ?_
    refine WQ.st (fun _ _ kz => pw_aload0 dX10_settleAt_142 kz) ?_
    refine WQ.st (fun _ _ kz => pw_getr gX10_28 dX10_settleAt_143 (cf_s107 hK.cf) (cf_p107_6 hK.cf) kz) ?_
    refine WQ.st (fun _ _ kz => pw_iload7 dX10_settleAt_146 kz) ?_
    refine WQ.st (fun _ _ kz => pw_iload6 dX10_settleAt_148 kz) ?_
    refine WQ.st (fun _ _ kz => pw_i2b dX10_settleAt_150 kz) ?_
    refine WQ.st (fun _ _ kz => pw_bst (j := (b * 205 + (s * 5 + l))) dX10_settleAt_151 (cf_s111 hK.cf) (ix_n (by omega)) (by omega)  kz) ?_
    refine ⟨_, _, pw_vret dX10_settleAt_152 rfl rfl rfl, ?_⟩
    have hnf : rf_na (rf_gb (TT (atm al p tm) p q) kp N b l s) < 5 ∨ rf_na (rf_gb (TT (atm al p tm) p q) kp N b l s) = 9 := (rf_na_ok _).elim Or.inr (fun h => Or.inl h.1)
    have hm' : m = rf_mx (rf_gb (TT (atm al p tm) p q) kp N b l s) := hm
    have hf' : f = rf_na (rf_gb (TT (atm al p tm) p q) kp N b l s) := hf
    rw [hm', hf', nd_8 hnf, nd_8 hnf]
    refine ⟨rfl, _, B, rfl, hK.fr ((FrK.a (a := 110) (by decide)).tr (FrK.a (a := 111) (by decide))), fun x h1 h2 h3 h4 => ?_, ?_, ?_, fun x hx => hF.2 x hx⟩
    · rw [up2_na h4, up2_na h3]
      exact hF.1 x h1 h2
    · rw [up2_na (by decide), up2_at, hF.1 110 (by decide) (by decide)]
    · rw [up2_at, up2_na (by decide), hF.1 111 (by decide) (by decide)]
  | succ c ih =>
    intro w A B f m x8 x9 hw hmo hK hF hm hf
    obtain ⟨hp, ht, hq⟩ := hK.r
    refine WQ.st (fun _ _ kz => pw_iload7 dX10_settleAt_12 kz) ?_
    refine WQ.st (fun _ _ kz => pw_iconst (v := 2) dX10_settleAt_14 (by decide) kz) ?_
    refine WQ.br (fun _ _ ka kb => pw_icmp_gt (tgt := 120) dX10_settleAt_15 (by decide) ka kb) (fun c15 => absurd c15 (by rw [lt_i (show (2 : Int32).toInt = 2 from rfl) (dI_t (q := w) (by omega))]; omega)) (fun c15 => ?_)
    refine WQ.st (fun _ _ kz => pw_iload4 dX10_settleAt_18 kz) ?_
    refine WQ.st (fun _ _ kz => pw_iload7 dX10_settleAt_20 kz) ?_
    refine wq_s1i wX11_bitOf lX10_81 dX10_settleAt_22 (k_bitOf _) rfl (Nat.le_of_ble_eq_true rfl) (Nat.le_of_ble_eq_true rfl) (fun h22 z22 => ?_)
    subst z22
    refine WQ.st (fun _ _ kz => pw_iand dX10_settleAt_25 kz) ?_
    refine WQ.bn (fun _ _ ka kb => pw_if_ne (tgt := 34) dX10_settleAt_26 (by decide) ka kb) (fun c26 => ?_) (fun c26 => ?_)
    · refine WQ.st (fun _ _ kz => pw_aload0 dX10_settleAt_34 kz) ?_
      refine WQ.st (fun _ _ kz => pw_getr gX10_45 dX10_settleAt_35 (cf_s107 hK.cf) (cf_p107_4 hK.cf) kz) ?_
      refine WQ.st (fun _ _ kz => pw_iload1 dX10_settleAt_38 kz) ?_
      refine WQ.st (fun _ _ kz => pw_iload2 dX10_settleAt_39 kz) ?_
      refine WQ.st (fun _ _ kz => pw_iload3 dX10_settleAt_40 kz) ?_
      refine WQ.st (fun _ _ kz => pw_iload7 dX10_settleAt_41 kz) ?_
      refine wq_o4i wX0_gladAt lX10_84 rfl dX10_settleAt_43 (cf_s96 hK.cf) (k_gladAt hK hb hl hs (w := w) (by omega)) rfl (Nat.le_of_ble_eq_true rfl) (Nat.le_of_ble_eq_true rfl) (fun h43 z43 => ?_)
      obtain ⟨A1, B1, rfl, hK1, hG1⟩ := z43
      refine WQ.st (fun _ _ kz => pw_istore8 dX10_settleAt_46 (by decide) (k := kz)) ?_
      refine WQ.st (fun _ _ kz => pw_iload8 dX10_settleAt_48 kz) ?_
      refine WQ.st (fun _ _ kz => pw_ldc kX10_70 dX10_settleAt_50 kz) ?_
      refine WQ.br (fun _ _ ka kb => pw_icmp_eq (tgt := 114) dX10_settleAt_52 (by decide) ka kb) (fun c52 => ?_) (fun c52 => ?_)
      · rw [cv_not (okv_sml (TT_ok hK.dv hp ht hq hb hl hs (by omega)))] at c52
        refine WQ.st (fun _ _ kz => pw_iinc7 (v := 1) dX10_settleAt_114 (by decide) (by decide) (k := kz)) ?_
        refine WQ.st (fun _ _ kz => pw_goto (tgt := 12) dX10_settleAt_117 (by decide) kz) ?_
        have fw : (rf_gb (TT (atm al p tm) p q) kp N b l s) w = -268435456 := by
          unfold rf_gb
          rw [hkp w (by omega), show inM am (dI w) = true from decide_eq_true c26, if_pos rfl, if_pos c52]
        rw [dI_1]
        refine ih (w + 1) A1 B1 f m _ _ (by omega) hmo hK1 (hF.tr hG1) ?_ ?_
        · rw [← hm, rf_mf, if_pos (by rw [fw]; exact okv_ge hmo)]
        · rw [← hf, rf_nf, if_neg (Int32.not_lt.mpr (by rw [fw]; exact okv_ge hmo))]
      · rw [cv_not (okv_sml (TT_ok hK.dv hp ht hq hb hl hs (by omega)))] at c52
        have hin := TT_in c52
        unfold rf_in at hin
        have hin := of_decide_eq_true hin
        obtain ⟨hNb, hNv⟩ := hN w (by omega) c52
        have hTb := bnd_sml (TT_ok hK.dv hp ht hq hb hl hs (show w < 5 by omega))
        rw [cv_n c52]
        have hlb : lbN (asks al 6) w < 5 := by unfold lbN; split <;> omega
        refine WQ.st (fun _ _ kz => pw_aload0 dX10_settleAt_55 kz) ?_
        refine WQ.st (fun _ _ kz => pw_getr gX10_25 dX10_settleAt_56 (cf_s107 hK.cf) (cf_p107_5 hK.cf) kz) ?_
        refine WQ.st (fun _ _ kz => pw_iload1 dX10_settleAt_59 kz) ?_
        refine WQ.st (fun _ _ kz => pw_iconst (v := 1) dX10_settleAt_60 (by decide) kz) ?_
        refine WQ.st (fun _ _ kz => pw_iadd dX10_settleAt_61 kz) ?_
        refine WQ.st (fun _ _ kz => pw_sipush (v := 205) dX10_settleAt_62 (by decide) kz) ?_
        refine WQ.st (fun _ _ kz => pw_imul dX10_settleAt_65 kz) ?_
        rw [nI_1, show (205 : Int32) = nI 205 from rfl, pk_mul]
        refine WQ.st (fun _ _ kz => pw_iload2 dX10_settleAt_66 kz) ?_
        refine WQ.st (fun _ _ kz => pw_iload7 dX10_settleAt_67 kz) ?_
        refine WQ.st (fun _ _ kz => pw_isub dX10_settleAt_69 kz) ?_
        rw [sw_I hin.1]
        refine WQ.st (fun _ _ kz => pw_aload0 dX10_settleAt_70 kz) ?_
        refine WQ.st (fun _ _ kz => pw_getr gX10_45 dX10_settleAt_71 (cf_s107 hK.cf) (cf_p107_4 hK.cf) kz) ?_
        refine WQ.st (fun _ _ kz => pw_iload7 dX10_settleAt_74 kz) ?_
        refine wq_o1i wX0_lastBehind lX10_88 rfl dX10_settleAt_76 (cf_s96 hK.cf) (k_lastBehind hK1.cf hK1.v1 w) rfl (Nat.le_of_ble_eq_true rfl) (Nat.le_of_ble_eq_true rfl) (fun h76 z76 => ?_)
        subst z76
        refine wq_s2i wX0_placeOf lX10_91 dX10_settleAt_79 (k_placeOf _ _) rfl (Nat.le_of_ble_eq_true rfl) (Nat.le_of_ble_eq_true rfl) (fun h79 z79 => ?_)
        subst z79
        refine WQ.st (fun _ _ kz => pw_iadd dX10_settleAt_82 kz) ?_
        rw [nI_add]
        refine WQ.st (fun _ _ kz => pw_ald (j := ((b + 1) * 205 + ((s + 2 - w) * 5 + (lbN (asks al 6) w)))) dX10_settleAt_83 (cf_s110 hK.cf) (ix_n (by omega)) (by omega) kz) ?_
        rw [hG1.1 110 (by decide) (by decide), hF.1 110 (by decide) (by decide), hNv]
        refine WQ.st (fun _ _ kz => pw_istore9 dX10_settleAt_84 (by decide) (k := kz)) ?_
        refine WQ.st (fun _ _ kz => pw_iload9 dX10_settleAt_86 kz) ?_
        refine WQ.st (fun _ _ kz => pw_ldc kX10_70 dX10_settleAt_88 kz) ?_
        refine WQ.br (fun _ _ ka kb => pw_icmp_eq (tgt := 114) dX10_settleAt_90 (by decide) ka kb) (fun c90 => ?_) (fun c90 => ?_)
        · rw [cv_not (hNb.ok (by omega))] at c90
          refine WQ.st (fun _ _ kz => pw_iinc7 (v := 1) dX10_settleAt_114 (by decide) (by decide) (k := kz)) ?_
          refine WQ.st (fun _ _ kz => pw_goto (tgt := 12) dX10_settleAt_117 (by decide) kz) ?_
          have fw : (rf_gb (TT (atm al p tm) p q) kp N b l s) w = -268435456 := by
            unfold rf_gb
            rw [hkp w (by omega), show inM am (dI w) = true from decide_eq_true c26, if_pos rfl, if_neg c52, if_pos c90]
          rw [dI_1]
          refine ih (w + 1) A1 B1 f m _ _ (by omega) hmo hK1 (hF.tr hG1) ?_ ?_
          · rw [← hm, rf_mf, if_pos (by rw [fw]; exact okv_ge hmo)]
          · rw [← hf, rf_nf, if_neg (Int32.not_lt.mpr (by rw [fw]; exact okv_ge hmo))]
        · rw [cv_not (hNb.ok (by omega))] at c90
          rw [cv_n c90]
          refine WQ.st (fun _ _ kz => pw_iload8 dX10_settleAt_93 kz) ?_
          refine WQ.st (fun _ _ kz => pw_iload9 dX10_settleAt_95 kz) ?_
          refine WQ.st (fun _ _ kz => pw_iadd dX10_settleAt_97 kz) ?_
          refine WQ.st (fun _ _ kz => pw_iload5 dX10_settleAt_98 kz) ?_
          refine WQ.br (fun _ _ ka kb => pw_icmp_le (tgt := 114) dX10_settleAt_100 (by decide) ka kb) (fun c100 => ?_) (fun c100 => ?_)
          · rw [← cv_sum hTb hNb (by omega) c52 c90, cv_le ((bnd_add hTb hNb (by omega) c52 c90).1.ok (by omega)) hmo] at c100
            refine WQ.st (fun _ _ kz => pw_iinc7 (v := 1) dX10_settleAt_114 (by decide) (by decide) (k := kz)) ?_
            refine WQ.st (fun _ _ kz => pw_goto (tgt := 12) dX10_settleAt_117 (by decide) kz) ?_
            have fw : (rf_gb (TT (atm al p tm) p q) kp N b l s) w = ((TT (atm al p tm) p q) b l s w + N w (s + 2 - w)) := by
              unfold rf_gb
              rw [hkp w (by omega), show inM am (dI w) = true from decide_eq_true c26, if_pos rfl, if_neg c52, if_neg c90]
            rw [dI_1]
            refine ih (w + 1) A1 B1 f m _ _ (by omega) hmo hK1 (hF.tr hG1) ?_ ?_
            · rw [← hm, rf_mf, if_pos (by rw [fw]; exact c100)]
            · rw [← hf, rf_nf, if_neg (Int32.not_lt.mpr (by rw [fw]; exact c100))]
          · rw [← cv_sum hTb hNb (by omega) c52 c90, cv_le ((bnd_add hTb hNb (by omega) c52 c90).1.ok (by omega)) hmo] at c100
            refine WQ.st (fun _ _ kz => pw_iload8 dX10_settleAt_103 kz) ?_
            refine WQ.st (fun _ _ kz => pw_iload9 dX10_settleAt_105 kz) ?_
            refine WQ.st (fun _ _ kz => pw_iadd dX10_settleAt_107 kz) ?_
            refine WQ.st (fun _ _ kz => pw_istore5 dX10_settleAt_108 (by decide) (k := kz)) ?_
            refine WQ.st (fun _ _ kz => pw_iload7 dX10_settleAt_110 kz) ?_
            refine WQ.st (fun _ _ kz => pw_istore6 dX10_settleAt_112 (by decide) (k := kz)) ?_
            refine WQ.st (fun _ _ kz => pw_iinc7 (v := 1) dX10_settleAt_114 (by decide) (by decide) (k := kz)) ?_
            refine WQ.st (fun _ _ kz => pw_goto (tgt := 12) dX10_settleAt_117 (by decide) kz) ?_
            have fw : (rf_gb (TT (atm al p tm) p q) kp N b l s) w = ((TT (atm al p tm) p q) b l s w + N w (s + 2 - w)) := by
              unfold rf_gb
              rw [hkp w (by omega), show inM am (dI w) = true from decide_eq_true c26, if_pos rfl, if_neg c52, if_neg c90]
            rw [dI_1, ← nd_lt (show w < 5 by omega), ← cv_sum hTb hNb (by omega) c52 c90]
            refine ih (w + 1) A1 B1 w _ _ _ (by omega) ((bnd_add hTb hNb (by omega) c52 c90).1.ok (by omega)) hK1 (hF.tr hG1) ?_ ?_
            · rw [← hm, rf_mf, if_neg (by rw [fw]; exact c100), fw]
            · rw [← hf, rf_nf, if_pos (by rw [fw]; exact Int32.not_le.mp c100), fw]
    · refine WQ.st (fun _ _ kz => pw_ldc kX10_70 dX10_settleAt_29 kz) ?_
      refine WQ.st (fun _ _ kz => pw_goto (tgt := 46) dX10_settleAt_31 (by decide) kz) ?_
      refine WQ.st (fun _ _ kz => pw_istore8 dX10_settleAt_46 (by decide) (k := kz)) ?_
      refine WQ.st (fun _ _ kz => pw_iload8 dX10_settleAt_48 kz) ?_
      refine WQ.st (fun _ _ kz => pw_ldc kX10_70 dX10_settleAt_50 kz) ?_
      refine WQ.br (fun _ _ ka kb => pw_icmp_eq (tgt := 114) dX10_settleAt_52 (by decide) ka kb) (fun c52 => ?_) (fun c52 => absurd (by decide) c52)
      refine WQ.st (fun _ _ kz => pw_iinc7 (v := 1) dX10_settleAt_114 (by decide) (by decide) (k := kz)) ?_
      refine WQ.st (fun _ _ kz => pw_goto (tgt := 12) dX10_settleAt_117 (by decide) kz) ?_
      have fw : (rf_gb (TT (atm al p tm) p q) kp N b l s) w = -268435456 := by
        unfold rf_gb
        rw [hkp w (by omega), show inM am (dI w) = false from decide_eq_false (fun q => q c26), if_neg (by decide)]
      rw [dI_1]
      refine ih (w + 1) A B f m _ _ (by omega) hmo hK hF ?_ ?_
      · rw [← hm, rf_mf, if_pos (by rw [fw]; exact okv_ge hmo)]
      · rw [← hf, rf_nf, if_neg (Int32.not_lt.mpr (by rw [fw]; exact okv_ge hmo))]
set_option maxRecDepth 20000 in
theorem k_settleAt {G : gT} {d : Nat} {S : sS} {V : sV} {P : sP} {A : sV} {B : sB} {Q : sP} {t sl : Nat} {al : Nat → Int32} {sh ls p tm q : Nat} (hK : KB S V P A B Q t al sh ls p tm q) {b l s : Nat} {am : Int32} {kp : Nat → Nat → Bool} {N : Nat → Nat → Int32} {K : Nat} (hb : b < 12) (hl : l < 5) (hs : s < 41) (hkp : ∀ w, w < 5 → kp b w = inM am (dI w)) (hK90 : K ≤ 90) (hN : ∀ w, w < 5 → (TT (atm al p tm) p q) b l s w ≠ -268435456 → bnd K (N w (s + 2 - w)) ∧ A 110 ((b + 1) * 205 + ((s + 2 - w) * 5 + (lbN (asks al 6) w))) = cv (N w (s + 2 - w))) : WQ G (d + 3) mX10_settleAt 0 [some (.ref 107), some (.int (nI b)), some (.int (sI s)), some (.int (dI l)), some (.int am), none, none, none, none, none] [] (t, sl, gh S V P A B Q) (fun r h' => r = none ∧ ∃ (A' : sV) (B' : sB), h' = (t, sl, gh S V P A' B' Q) ∧ KB S V P A' B' Q t al sh ls p tm q ∧ (∀ x, x ≠ 97 → x ≠ 98 → x ≠ 110 → x ≠ 111 → A' x = A x) ∧ A' 110 = pm_up (A 110) (b * 205 + (s * 5 + l)) (cv (rf_mx (rf_gb (TT (atm al p tm) p q) kp N b l s))) ∧ A' 111 = pm_up (A 111) (b * 205 + (s * 5 + l)) (nd (rf_na (rf_gb (TT (atm al p tm) p q) kp N b l s))) ∧ ∀ x, x < 161 → B' x = B x) := by
  refine WQ.st (fun _ _ kz => pw_ldc kX10_70 dX10_settleAt_0 kz) ?_
  refine WQ.st (fun _ _ kz => pw_istore5 dX10_settleAt_2 (by decide) (k := kz)) ?_
  refine WQ.st (fun _ _ kz => pw_bipush (v := 9) dX10_settleAt_4 (by decide) kz) ?_
  refine WQ.st (fun _ _ kz => pw_istore6 dX10_settleAt_6 (by decide) (k := kz)) ?_
  refine WQ.st (fun _ _ kz => pw_bipush (v := -2) dX10_settleAt_8 (by decide) kz) ?_
  refine WQ.st (fun _ _ kz => pw_istore7 dX10_settleAt_10 (by decide) (k := kz)) ?_
  exact l_settleAt (A0 := A) (B0 := B) (kp := kp) (N := N) (K := K) hb hl hs hkp hK90 hN 5 0 A B 9 (-268435456) none none rfl (Or.inl rfl) hK FrG.rfl rfl rfl
