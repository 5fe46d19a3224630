/-! ===== the reference: a piece as it comes ===== -/
def v3 (V : sV) (o : Nat) (g s k : Int32) : sV := up2 (up2 (up2 V o 20 g) o 21 s) o 22 k
theorem v3_20 (V : sV) (o : Nat) (g s k g' : Int32) : up2 (v3 V o g s k) o 20 g' = v3 V o g' s k := by
  unfold v3
  rw [up2_comm (show 22 ≠ 20 by decide), up2_comm (show 21 ≠ 20 by decide), up2_up2]
theorem v3_21 (V : sV) (o : Nat) (g s k s' : Int32) : up2 (v3 V o g s k) o 21 s' = v3 V o g s' k := by
  unfold v3
  rw [up2_comm (show 22 ≠ 21 by decide), up2_up2]
theorem v3_22 (V : sV) (o : Nat) (g s k k' : Int32) : up2 (v3 V o g s k) o 22 k' = v3 V o g s k' := by
  unfold v3
  rw [up2_up2]
theorem v3r_20 (V : sV) (o : Nat) (g s k : Int32) : v3 V o g s k o 20 = g := by
  unfold v3
  rw [up2_nk (by decide), up2_nk (by decide), up2_eq]
theorem v3r_21 (V : sV) (o : Nat) (g s k : Int32) : v3 V o g s k o 21 = s := by
  unfold v3
  rw [up2_nk (by decide), up2_eq]
theorem v3r_22 (V : sV) (o : Nat) (g s k : Int32) : v3 V o g s k o 22 = k := up2_eq
/-- last draw, store, gladness, where it broke off, ahead of bar b -/
def rf_cm (T : Nat → Nat → Nat → Nat → Int32) (s0 : Nat) : Nat → (Nat × Nat) × (Int32 × Int32)
  | 0 => ((2, s0), (0, -1))
  | b + 1 => if (rf_cm T s0 b).2.2 = -1 then
      (if rf_na (T b (rf_cm T s0 b).1.1 (rf_cm T s0 b).1.2) = 9 then ((rf_cm T s0 b).1, ((rf_cm T s0 b).2.1, nI b))
       else ((rf_na (T b (rf_cm T s0 b).1.1 (rf_cm T s0 b).1.2), (rf_cm T s0 b).1.2 + 2 - rf_na (T b (rf_cm T s0 b).1.1 (rf_cm T s0 b).1.2)), ((rf_cm T s0 b).2.1 + T b (rf_cm T s0 b).1.1 (rf_cm T s0 b).1.2 (rf_na (T b (rf_cm T s0 b).1.1 (rf_cm T s0 b).1.2)), -1)))
    else rf_cm T s0 b
def rf_cw (T : Nat → Nat → Nat → Nat → Int32) (s0 b : Nat) : Int32 := if (rf_cm T s0 b).2.2 = -1 then nd (rf_na (T b (rf_cm T s0 b).1.1 (rf_cm T s0 b).1.2)) else 9
theorem rf_cm_b {T : Nat → Nat → Nat → Nat → Int32} {s0 b : Nat} (h : ¬ (rf_cm T s0 b).2.2 = -1) : rf_cm T s0 (b + 1) = rf_cm T s0 b := by
  rw [rf_cm, if_neg h]
theorem rf_cm_n {T : Nat → Nat → Nat → Nat → Int32} {s0 b : Nat} (h : (rf_cm T s0 b).2.2 = -1) (h9 : rf_na (T b (rf_cm T s0 b).1.1 (rf_cm T s0 b).1.2) = 9) : rf_cm T s0 (b + 1) = ((rf_cm T s0 b).1, ((rf_cm T s0 b).2.1, nI b)) := by
  rw [rf_cm, if_pos h, if_pos h9]
theorem rf_cm_g {T : Nat → Nat → Nat → Nat → Int32} {s0 b : Nat} (h : (rf_cm T s0 b).2.2 = -1) (h9 : ¬ rf_na (T b (rf_cm T s0 b).1.1 (rf_cm T s0 b).1.2) = 9) : rf_cm T s0 (b + 1) = ((rf_na (T b (rf_cm T s0 b).1.1 (rf_cm T s0 b).1.2), (rf_cm T s0 b).1.2 + 2 - rf_na (T b (rf_cm T s0 b).1.1 (rf_cm T s0 b).1.2)), ((rf_cm T s0 b).2.1 + T b (rf_cm T s0 b).1.1 (rf_cm T s0 b).1.2 (rf_na (T b (rf_cm T s0 b).1.1 (rf_cm T s0 b).1.2)), -1)) := by
  rw [rf_cm, if_pos h, if_neg h9]
theorem rf_cm_ok {T : Nat → Nat → Nat → Nat → Int32} {s0 n : Nat} (h0 : s0 < 41) (hin : ∀ b l s w, b < n → l < 5 → s < 41 → w < 5 → T b l s w ≠ (-268435456) → rf_in s w = true) : ∀ b, b ≤ n → (rf_cm T s0 b).1.1 < 5 ∧ (rf_cm T s0 b).1.2 < 41 := by
  intro b
  induction b with
  | zero => intro _; exact ⟨by show 2 < 5; decide, h0⟩
  | succ b ih =>
    intro hb
    obtain ⟨i1, i2⟩ := ih (by omega)
    by_cases h : (rf_cm T s0 b).2.2 = -1
    · by_cases h9 : rf_na (T b (rf_cm T s0 b).1.1 (rf_cm T s0 b).1.2) = 9
      · rw [rf_cm_n h h9]
        exact ⟨i1, i2⟩
      · obtain ⟨h5, hT⟩ := (rf_na_ok (T b (rf_cm T s0 b).1.1 (rf_cm T s0 b).1.2)).resolve_left h9
        have hi := hin b _ _ _ (by omega) i1 i2 h5 hT
        unfold rf_in at hi
        simp only [decide_eq_true_eq] at hi
        rw [rf_cm_g h h9]
        exact ⟨h5, by show (rf_cm T s0 b).1.2 + 2 - rf_na (T b (rf_cm T s0 b).1.1 (rf_cm T s0 b).1.2) < 41; omega⟩
    · rw [rf_cm_b h]
      exact ⟨i1, i2⟩
theorem rf_nf_cong {f g : Nat → Int32} (h : ∀ i, i < 5 → f i = g i) : ∀ (c w best : Nat) (most : Int32), w + c = 5 → rf_nf f best most w c = rf_nf g best most w c
  | 0, _, _, _, _ => rfl
  | c + 1, w, best, most, hw => by
    rw [rf_nf, rf_nf, h w (by omega), rf_nf_cong h c (w + 1) _ _ (by omega), rf_nf_cong h c (w + 1) _ _ (by omega)]
theorem rf_na_cong {f g : Nat → Int32} (h : ∀ i, i < 5 → f i = g i) : rf_na f = rf_na g := rf_nf_cong h 5 0 9 _ rfl
theorem rf_cm_cong {T T' : Nat → Nat → Nat → Nat → Int32} {s0 n : Nat} (h0 : s0 < 41) (hT : ∀ b l s w, b < n → l < 5 → s < 41 → w < 5 → T b l s w = T' b l s w) (hin : ∀ b l s w, b < n → l < 5 → s < 41 → w < 5 → T' b l s w ≠ (-268435456) → rf_in s w = true) : ∀ b, b ≤ n → rf_cm T s0 b = rf_cm T' s0 b := by
  intro b
  induction b with
  | zero => intro _; rfl
  | succ b ih =>
    intro hb
    have i0 := ih (by omega)
    obtain ⟨i1, i2⟩ := rf_cm_ok h0 hin b (by omega)
    have hna : rf_na (T b (rf_cm T' s0 b).1.1 (rf_cm T' s0 b).1.2) = rf_na (T' b (rf_cm T' s0 b).1.1 (rf_cm T' s0 b).1.2) := rf_na_cong (fun w hw => hT b _ _ w (by omega) i1 i2 hw)
    by_cases h : (rf_cm T' s0 b).2.2 = -1
    · by_cases h9 : rf_na (T' b (rf_cm T' s0 b).1.1 (rf_cm T' s0 b).1.2) = 9
      · rw [rf_cm_n h h9, rf_cm_n (by rw [i0]; exact h) (by rw [i0, hna]; exact h9), i0]
      · obtain ⟨h5, -⟩ := (rf_na_ok (T' b (rf_cm T' s0 b).1.1 (rf_cm T' s0 b).1.2)).resolve_left h9
        rw [rf_cm_g h h9, rf_cm_g (by rw [i0]; exact h) (by rw [i0, hna]; exact h9), i0, hna, hT b _ _ _ (by omega) i1 i2 h5]
    · rw [rf_cm_b h, rf_cm_b (by rw [i0]; exact h), i0]
theorem rf_cw_cong {T T' : Nat → Nat → Nat → Nat → Int32} {s0 n : Nat} (h0 : s0 < 41) (hT : ∀ b l s w, b < n → l < 5 → s < 41 → w < 5 → T b l s w = T' b l s w) (hin : ∀ b l s w, b < n → l < 5 → s < 41 → w < 5 → T' b l s w ≠ (-268435456) → rf_in s w = true) {b : Nat} (hb : b < n) : rf_cw T s0 b = rf_cw T' s0 b := by
  obtain ⟨i1, i2⟩ := rf_cm_ok h0 hin b (by omega)
  unfold rf_cw
  rw [rf_cm_cong h0 hT hin b (by omega), rf_na_cong (fun w hw => hT b _ _ w hb i1 i2 hw)]
set_option maxRecDepth 20000 in
theorem l_laysComes {G : gT} {d : Nat} {S : sS} {V : sV} {P : sP} {A : sV} {B : sB} {Q : sP} {t sl o : Nat} (hF : MF S P o) {p q n s0 : Nat} (hp : p < 5) (hq : q < 4) (hn12 : n ≤ 12) (hn : A (o + 1) (10 + q) = nI n) (h0 : s0 < 41) (hin : ∀ b l s w, b < n → l < 5 → s < 41 → w < 5 → rT (A (o + 7)) b l s w ≠ (-268435456) → rf_in s w = true) : ∀ (c b : Nat) (R : Nat → Int32) (x5 : Option Value), b + c = n → ∃ R' : Nat → Int32, PW G (d + 5) mX12_laysComes 34 [some (.ref o), some (.int (nI p)), some (.int (nI q)), some (.int (dI (rf_cm (rT (A (o + 7))) s0 b).1.1)), some (.int (nI b)), x5] [] (t, sl, gh S (v3 V o (rf_cm (rT (A (o + 7))) s0 b).2.1 (sI (rf_cm (rT (A (o + 7))) s0 b).1.2) (rf_cm (rT (A (o + 7))) s0 b).2.2) P (pm_up A (o + 9) R) B Q) none (t, sl, gh S (v3 V o (rf_cm (rT (A (o + 7))) s0 n).2.1 (sI (rf_cm (rT (A (o + 7))) s0 n).1.2) (rf_cm (rT (A (o + 7))) s0 n).2.2) P (pm_up A (o + 9) R') B Q) ∧ ∀ i, R' i = if b ≤ i ∧ i < n then rf_cw (rT (A (o + 7))) s0 i else R i := by
  intro c
  induction c with
  | zero =>
    intro b R x5 hb
    have hb : b = n := hb
    subst hb
    refine ⟨R, ?_, fun i => by rw [if_neg (by omega)]⟩
    refine pw_iload4 dX12_laysComes_34 ?_
    refine pw_aload0 dX12_laysComes_36 ?_
    refine pw_getr gX12_13 dX12_laysComes_37 hF.1 (mf_p1 hF) ?_
    refine pw_bipush (v := 10) dX12_laysComes_40 (by decide) ?_
    refine pw_iload2 dX12_laysComes_42 ?_
    refine pw_iadd dX12_laysComes_43 ?_
    refine pw_ald (j := 10 + q) dX12_laysComes_44 (mf_s1 hF) (by simp (disch := omega) only [nl_10, nI_add, pk_mul, pk_sub]; exact ix_m (by omega) (by omega)) (by omega) ?_
    rw [pm_up_ne (show o + 1 ≠ o + 9 by omega), hn]
    refine pw_icmp_ge (tgt := 156) dX12_laysComes_45 (by decide) (fun c45 => ?_) (fun c45 => absurd (Int32.le_refl _) c45)
    exact pw_vret dX12_laysComes_156 rfl rfl rfl
  | succ c ih =>
    intro b R x5 hb
    obtain ⟨i1, i2⟩ := rf_cm_ok h0 hin b (by omega)
    have fin : ∀ (x : Int32) (R' : Nat → Int32), x = rf_cw (rT (A (o + 7))) s0 b → (∀ i, R' i = if b + 1 ≤ i ∧ i < n then rf_cw (rT (A (o + 7))) s0 i else pm_up R b x i) → ∀ i, R' i = if b ≤ i ∧ i < n then rf_cw (rT (A (o + 7))) s0 i else R i := by
      intro x R' hx h i
      rw [h]
      unfold pm_up
      by_cases ei : i = b
      · rw [ei, if_neg (by omega), if_pos rfl, if_pos (by omega), hx]
      · rw [if_neg ei]
        by_cases e2 : b + 1 ≤ i ∧ i < n
        · rw [if_pos e2, if_pos (by omega)]
        · rw [if_neg e2, if_neg (by omega)]
    have f7 : ∀ R : Nat → Int32, (pm_up A (o + 9) R) (o + 7) = A (o + 7) := fun R => pm_up_ne (by omega)
    by_cases hbr : (rf_cm (rT (A (o + 7))) s0 b).2.2 = -1
    · have knat := c_naturally (G := G) (d := d + 2) (V := (v3 V o (rf_cm (rT (A (o + 7))) s0 b).2.1 (sI (rf_cm (rT (A (o + 7))) s0 b).1.2) (rf_cm (rT (A (o + 7))) s0 b).2.2)) (A := (pm_up A (o + 9) R)) (B := B) (Q := Q) (t := t) (sl := sl) hF (show b < 12 by omega) i1 i2
      rw [f7] at knat
      by_cases h9 : rf_na ((rT (A (o + 7))) b (rf_cm (rT (A (o + 7))) s0 b).1.1 (rf_cm (rT (A (o + 7))) s0 b).1.2) = 9
      · have e1 := rf_cm_n hbr h9
        obtain ⟨R', kk, hR'⟩ := ih (b + 1) (pm_up R b 9) (some (.int 9)) (by omega)
        rw [e1] at kk
        refine ⟨R', ?_, fin 9 R' (by unfold rf_cw; rw [if_pos hbr, h9]; rfl) hR'⟩
        rw [h9, show nd 9 = 9 from rfl] at knat
        refine pw_iload4 dX12_laysComes_34 ?_
        refine pw_aload0 dX12_laysComes_36 ?_
        refine pw_getr gX12_13 dX12_laysComes_37 hF.1 (mf_p1 hF) ?_
        refine pw_bipush (v := 10) dX12_laysComes_40 (by decide) ?_
        refine pw_iload2 dX12_laysComes_42 ?_
        refine pw_iadd dX12_laysComes_43 ?_
        refine pw_ald (j := 10 + q) dX12_laysComes_44 (mf_s1 hF) (by simp (disch := omega) only [nl_10, nI_add, pk_mul, pk_sub]; exact ix_m (by omega) (by omega)) (by omega) ?_
        rw [pm_up_ne (show o + 1 ≠ o + 9 by omega), hn]
        refine pw_icmp_ge (tgt := 156) dX12_laysComes_45 (by decide) (fun c45 => absurd c45 (by rw [le_i (ix_n (j := n) (by omega)) (ix_n (j := b) (by omega))]; omega)) (fun c45 => ?_)
        refine pw_aload0 dX12_laysComes_48 ?_
        refine pw_geti gX12_309 dX12_laysComes_49 hF.1 ?_
        rw [v3r_22]
        refine pw_iconst (v := -1) dX12_laysComes_52 (by decide) ?_
        refine pw_icmp_ne (tgt := 70) dX12_laysComes_53 (by decide) (fun c53 => absurd hbr c53) (fun c53 => ?_)
        refine pw_aload0 dX12_laysComes_56 ?_
        refine pw_iload4 dX12_laysComes_57 ?_
        refine pw_iload3 dX12_laysComes_59 ?_
        refine pw_aload0 dX12_laysComes_60 ?_
        refine pw_geti gX12_293 dX12_laysComes_61 hF.1 ?_
        rw [v3r_21]
        refine pw_o3i wX12_naturally lX12_312 rfl dX12_laysComes_64 hF.1 (knat) rfl (Nat.le_of_ble_eq_true rfl) (Nat.le_of_ble_eq_true rfl) ?_
        refine pw_goto (tgt := 72) dX12_laysComes_67 (by decide) ?_
        refine pw_istore5 dX12_laysComes_72 (by decide) (k := ?_)
        refine pw_aload0 dX12_laysComes_74 ?_
        refine pw_getr gX12_42 dX12_laysComes_75 hF.1 (mf_p19 hF) ?_
        refine pw_iload4 dX12_laysComes_78 ?_
        refine pw_iload5 dX12_laysComes_80 ?_
        refine pw_ast (j := b) dX12_laysComes_82 (mf_s9 hF) (ix_m rfl (by omega)) (by omega)  ?_
        refine pw_iload5 dX12_laysComes_83 ?_
        refine pw_bipush (v := 9) dX12_laysComes_85 (by decide) ?_
        refine pw_icmp_ne (tgt := 114) dX12_laysComes_87 (by decide) (fun c87 => absurd rfl c87) (fun c87 => ?_)
        refine pw_aload0 dX12_laysComes_90 ?_
        refine pw_aload0 dX12_laysComes_91 ?_
        refine pw_geti gX12_309 dX12_laysComes_92 hF.1 ?_
        rw [v3r_22]
        refine pw_iconst (v := -1) dX12_laysComes_95 (by decide) ?_
        refine pw_icmp_ne (tgt := 104) dX12_laysComes_96 (by decide) (fun c96 => absurd hbr c96) (fun c96 => ?_)
        refine pw_iload4 dX12_laysComes_99 ?_
        refine pw_goto (tgt := 108) dX12_laysComes_101 (by decide) ?_
        refine pw_puti (pX12_309 _ rfl) dX12_laysComes_108 hF.1 rfl rfl ?_
        rw [v3_22]
        refine pw_goto (tgt := 150) dX12_laysComes_111 (by decide) ?_
        refine pw_iinc4 (v := 1) dX12_laysComes_150 (by decide) (by decide) (k := ?_)
        refine pw_goto (tgt := 34) dX12_laysComes_153 (by decide) ?_
        rw [nI_1, up2_up]
        exact kk
      · have e1 := rf_cm_g hbr h9
        obtain ⟨h5, hT⟩ := (rf_na_ok ((rT (A (o + 7))) b (rf_cm (rT (A (o + 7))) s0 b).1.1 (rf_cm (rT (A (o + 7))) s0 b).1.2)).resolve_left h9
        have hi := hin b _ _ _ (by omega) i1 i2 h5 hT
        unfold rf_in at hi
        simp only [decide_eq_true_eq] at hi
        have hsw := hi.1
        have hd9 : ¬ dI (rf_na ((rT (A (o + 7))) b (rf_cm (rT (A (o + 7))) s0 b).1.1 (rf_cm (rT (A (o + 7))) s0 b).1.2)) = 9 := by
          rw [eq_i (dI_t (by omega)) li_9]
          omega
        obtain ⟨R', kk, hR'⟩ := ih (b + 1) (pm_up R b (dI (rf_na ((rT (A (o + 7))) b (rf_cm (rT (A (o + 7))) s0 b).1.1 (rf_cm (rT (A (o + 7))) s0 b).1.2)))) (some (.int (dI (rf_na ((rT (A (o + 7))) b (rf_cm (rT (A (o + 7))) s0 b).1.1 (rf_cm (rT (A (o + 7))) s0 b).1.2))))) (by omega)
        rw [e1] at kk
        have kga := c_gladAt (G := G) (d := d + 3) (V := (v3 V o (rf_cm (rT (A (o + 7))) s0 b).2.1 (sI (rf_cm (rT (A (o + 7))) s0 b).1.2) (rf_cm (rT (A (o + 7))) s0 b).2.2)) (A := pm_up A (o + 9) (pm_up R b (dI (rf_na ((rT (A (o + 7))) b (rf_cm (rT (A (o + 7))) s0 b).1.1 (rf_cm (rT (A (o + 7))) s0 b).1.2))))) (B := B) (Q := Q) (t := t) (sl := sl) hF (show b < 12 by omega) i1 i2 h5
        rw [f7, ← up2_up (A := A)] at kga
        refine ⟨R', ?_, fin _ R' (by unfold rf_cw; rw [if_pos hbr, nd_lt h5]) hR'⟩
        refine pw_iload4 dX12_laysComes_34 ?_
        refine pw_aload0 dX12_laysComes_36 ?_
        refine pw_getr gX12_13 dX12_laysComes_37 hF.1 (mf_p1 hF) ?_
        refine pw_bipush (v := 10) dX12_laysComes_40 (by decide) ?_
        refine pw_iload2 dX12_laysComes_42 ?_
        refine pw_iadd dX12_laysComes_43 ?_
        refine pw_ald (j := 10 + q) dX12_laysComes_44 (mf_s1 hF) (by simp (disch := omega) only [nl_10, nI_add, pk_mul, pk_sub]; exact ix_m (by omega) (by omega)) (by omega) ?_
        rw [pm_up_ne (show o + 1 ≠ o + 9 by omega), hn]
        refine pw_icmp_ge (tgt := 156) dX12_laysComes_45 (by decide) (fun c45 => absurd c45 (by rw [le_i (ix_n (j := n) (by omega)) (ix_n (j := b) (by omega))]; omega)) (fun c45 => ?_)
        refine pw_aload0 dX12_laysComes_48 ?_
        refine pw_geti gX12_309 dX12_laysComes_49 hF.1 ?_
        rw [v3r_22]
        refine pw_iconst (v := -1) dX12_laysComes_52 (by decide) ?_
        refine pw_icmp_ne (tgt := 70) dX12_laysComes_53 (by decide) (fun c53 => absurd hbr c53) (fun c53 => ?_)
        refine pw_aload0 dX12_laysComes_56 ?_
        refine pw_iload4 dX12_laysComes_57 ?_
        refine pw_iload3 dX12_laysComes_59 ?_
        refine pw_aload0 dX12_laysComes_60 ?_
        refine pw_geti gX12_293 dX12_laysComes_61 hF.1 ?_
        rw [v3r_21]
        refine pw_o3i wX12_naturally lX12_312 rfl dX12_laysComes_64 hF.1 (knat) rfl (Nat.le_of_ble_eq_true rfl) (Nat.le_of_ble_eq_true rfl) ?_
        rw [nd_lt h5]
        refine pw_goto (tgt := 72) dX12_laysComes_67 (by decide) ?_
        refine pw_istore5 dX12_laysComes_72 (by decide) (k := ?_)
        refine pw_aload0 dX12_laysComes_74 ?_
        refine pw_getr gX12_42 dX12_laysComes_75 hF.1 (mf_p19 hF) ?_
        refine pw_iload4 dX12_laysComes_78 ?_
        refine pw_iload5 dX12_laysComes_80 ?_
        refine pw_ast (j := b) dX12_laysComes_82 (mf_s9 hF) (ix_m rfl (by omega)) (by omega)  ?_
        refine pw_iload5 dX12_laysComes_83 ?_
        refine pw_bipush (v := 9) dX12_laysComes_85 (by decide) ?_
        refine pw_icmp_ne (tgt := 114) dX12_laysComes_87 (by decide) (fun c87 => ?_) (fun c87 => absurd c87 hd9)
        refine pw_aload0 dX12_laysComes_114 ?_
        refine pw_dup dX12_laysComes_115 rfl ?_
        refine pw_geti gX12_290 dX12_laysComes_116 hF.1 ?_
        rw [v3r_20]
        refine pw_aload0 dX12_laysComes_119 ?_
        refine pw_iload4 dX12_laysComes_120 ?_
        refine pw_iload3 dX12_laysComes_122 ?_
        refine pw_aload0 dX12_laysComes_123 ?_
        refine pw_geti gX12_293 dX12_laysComes_124 hF.1 ?_
        rw [v3r_21]
        refine pw_iload5 dX12_laysComes_127 ?_
        refine pw_o4i wX12_gladAt lX12_280 rfl dX12_laysComes_129 hF.1 (kga) rfl (Nat.le_of_ble_eq_true rfl) (Nat.le_of_ble_eq_true rfl) ?_
        refine pw_iadd dX12_laysComes_132 ?_
        refine pw_puti (pX12_290 _ rfl) dX12_laysComes_133 hF.1 rfl rfl ?_
        rw [v3_20]
        refine pw_aload0 dX12_laysComes_136 ?_
        refine pw_dup dX12_laysComes_137 rfl ?_
        refine pw_geti gX12_293 dX12_laysComes_138 hF.1 ?_
        rw [v3r_21]
        refine pw_iload5 dX12_laysComes_141 ?_
        refine pw_isub dX12_laysComes_143 ?_
        rw [sw_I hsw]
        refine pw_puti (pX12_293 _ rfl) dX12_laysComes_144 hF.1 rfl rfl ?_
        rw [v3_21]
        refine pw_iload5 dX12_laysComes_147 ?_
        refine pw_istore3 dX12_laysComes_149 (by decide) (k := ?_)
        refine pw_iinc4 (v := 1) dX12_laysComes_150 (by decide) (by decide) (k := ?_)
        refine pw_goto (tgt := 34) dX12_laysComes_153 (by decide) ?_
        rw [nI_1, up2_up, hbr]
        exact kk
    · have e1 := rf_cm_b hbr
      obtain ⟨R', kk, hR'⟩ := ih (b + 1) (pm_up R b 9) (some (.int 9)) (by omega)
      rw [e1] at kk
      refine ⟨R', ?_, fin 9 R' (by unfold rf_cw; rw [if_neg hbr]) hR'⟩
      refine pw_iload4 dX12_laysComes_34 ?_
      refine pw_aload0 dX12_laysComes_36 ?_
      refine pw_getr gX12_13 dX12_laysComes_37 hF.1 (mf_p1 hF) ?_
      refine pw_bipush (v := 10) dX12_laysComes_40 (by decide) ?_
      refine pw_iload2 dX12_laysComes_42 ?_
      refine pw_iadd dX12_laysComes_43 ?_
      refine pw_ald (j := 10 + q) dX12_laysComes_44 (mf_s1 hF) (by simp (disch := omega) only [nl_10, nI_add, pk_mul, pk_sub]; exact ix_m (by omega) (by omega)) (by omega) ?_
      rw [pm_up_ne (show o + 1 ≠ o + 9 by omega), hn]
      refine pw_icmp_ge (tgt := 156) dX12_laysComes_45 (by decide) (fun c45 => absurd c45 (by rw [le_i (ix_n (j := n) (by omega)) (ix_n (j := b) (by omega))]; omega)) (fun c45 => ?_)
      refine pw_aload0 dX12_laysComes_48 ?_
      refine pw_geti gX12_309 dX12_laysComes_49 hF.1 ?_
      rw [v3r_22]
      refine pw_iconst (v := -1) dX12_laysComes_52 (by decide) ?_
      refine pw_icmp_ne (tgt := 70) dX12_laysComes_53 (by decide) (fun c53 => ?_) (fun c53 => absurd c53 hbr)
      refine pw_bipush (v := 9) dX12_laysComes_70 (by decide) ?_
      refine pw_istore5 dX12_laysComes_72 (by decide) (k := ?_)
      refine pw_aload0 dX12_laysComes_74 ?_
      refine pw_getr gX12_42 dX12_laysComes_75 hF.1 (mf_p19 hF) ?_
      refine pw_iload4 dX12_laysComes_78 ?_
      refine pw_iload5 dX12_laysComes_80 ?_
      refine pw_ast (j := b) dX12_laysComes_82 (mf_s9 hF) (ix_m rfl (by omega)) (by omega)  ?_
      refine pw_iload5 dX12_laysComes_83 ?_
      refine pw_bipush (v := 9) dX12_laysComes_85 (by decide) ?_
      refine pw_icmp_ne (tgt := 114) dX12_laysComes_87 (by decide) (fun c87 => absurd rfl c87) (fun c87 => ?_)
      refine pw_aload0 dX12_laysComes_90 ?_
      refine pw_aload0 dX12_laysComes_91 ?_
      refine pw_geti gX12_309 dX12_laysComes_92 hF.1 ?_
      rw [v3r_22]
      refine pw_iconst (v := -1) dX12_laysComes_95 (by decide) ?_
      refine pw_icmp_ne (tgt := 104) dX12_laysComes_96 (by decide) (fun c96 => ?_) (fun c96 => absurd c96 hbr)
      refine pw_aload0 dX12_laysComes_104 ?_
      refine pw_geti gX12_309 dX12_laysComes_105 hF.1 ?_
      rw [v3r_22]
      refine pw_puti (pX12_309 _ rfl) dX12_laysComes_108 hF.1 rfl rfl ?_
      rw [v3_22]
      refine pw_goto (tgt := 150) dX12_laysComes_111 (by decide) ?_
      refine pw_iinc4 (v := 1) dX12_laysComes_150 (by decide) (by decide) (k := ?_)
      refine pw_goto (tgt := 34) dX12_laysComes_153 (by decide) ?_
      rw [nI_1, up2_up]
      exact kk
/-- what lies behind laysComes -/
def CP (o : Nat) (V A V' A' : sV) (T : Nat → Nat → Nat → Nat → Int32) (n s0 : Nat) : Prop :=
  (∀ a, a < o + 5 ∨ o + 7 < a → a ≠ o + 9 → A' a = A a) ∧ V' = v3 V o (rf_cm T s0 n).2.1 (sI (rf_cm T s0 n).1.2) (rf_cm T s0 n).2.2 ∧ ∀ b, b < n → A' (o + 9) b = rf_cw T s0 b
set_option maxRecDepth 20000 in
theorem c_laysComes {G : gT} {d : Nat} {S : sS} {V : sV} {P : sP} {A : sV} {B : sB} {Q : sP} {t sl o : Nat} (hF : MF S P o) {p q n s0 : Nat} (hp : p < 5) (hq : q < 4) (hn12 : n ≤ 12) (hn : A (o + 1) (10 + q) = nI n) (hs : A (o + 1) (77 + p) = sI s0) (h0 : s0 < 41) {g m : Option (List Int32)} (hg : LW (A (o + 1)) 0 g) (hm : LW (A (o + 1)) 1 m) : ∃ V' A' : sV, PW G (d + 5) mX12_laysComes 0 [some (.ref o), some (.int (nI p)), some (.int (nI q)), none, none, none] [] (t, sl, gh S V P A B Q) none (t, sl, gh S V' P A' B Q) ∧ CP o V A V' A' (rf_g (A (o + 1)) g m p q) n s0 := by
  obtain ⟨F1, k1, h2⟩ := c_laysGlads (G := G) (d := d) (V := V) (A := A) (B := B) (Q := Q) (t := t) (sl := sl) hF hp hq hn12 (by rw [hn]; exact ix_n (by omega)) hg hm
  have hGT : ∀ b l s w, b < n → l < 5 → s < 41 → w < 5 → rT (F1 (o + 7)) b l s w = (rf_g (A (o + 1)) g m p q) b l s w := fun b l s w hb hl hs hw => h2.rT hb hl hs hw
  have hin : ∀ b l s w, b < n → l < 5 → s < 41 → w < 5 → rT (F1 (o + 7)) b l s w ≠ (-268435456) → rf_in s w = true := by
    intro b l s w hb hl hs hw h
    rw [hGT b l s w hb hl hs hw] at h
    exact rf_g_in h
  have hin0 : ∀ b l s w, b < n → l < 5 → s < 41 → w < 5 → (rf_g (A (o + 1)) g m p q) b l s w ≠ (-268435456) → rf_in s w = true := fun b l s w _ _ _ _ h => rf_g_in h
  have e1 : F1 (o + 1) = A (o + 1) := h2.1 _ (by omega) (by omega) (by omega)
  obtain ⟨R, kk, hR⟩ := l_laysComes (G := G) (d := d) (V := V) (A := F1) (B := B) (Q := Q) (t := t) (sl := sl) hF hp hq hn12 (by rw [e1]; exact hn) h0 hin n 0 (F1 (o + 9)) none (by omega)
  rw [pm_up_self, show rf_cm (rT (F1 (o + 7))) s0 0 = ((2, s0), (0, -1)) from rfl, rf_cm_cong h0 hGT hin0 n (Nat.le_refl n)] at kk
  refine ⟨v3 V o (rf_cm (rf_g (A (o + 1)) g m p q) s0 n).2.1 (sI (rf_cm (rf_g (A (o + 1)) g m p q) s0 n).1.2) (rf_cm (rf_g (A (o + 1)) g m p q) s0 n).2.2, pm_up F1 (o + 9) R, ?_, fun a ha h9 => ?_, rfl, fun b hb => ?_⟩
  · refine pw_aload0 dX12_laysComes_0 ?_
    refine pw_iload1 dX12_laysComes_1 ?_
    refine pw_iload2 dX12_laysComes_2 ?_
    refine pw_o2v wX12_laysGlads lX12_299 rfl dX12_laysComes_3 hF.1 (k1) rfl (Nat.le_of_ble_eq_true rfl) (Nat.le_of_ble_eq_true rfl) ?_
    refine pw_aload0 dX12_laysComes_6 ?_
    refine pw_iconst (v := 0) dX12_laysComes_7 (by decide) ?_
    refine pw_puti (pX12_290 _ rfl) dX12_laysComes_8 hF.1 rfl rfl ?_
    refine pw_aload0 dX12_laysComes_11 ?_
    refine pw_aload0 dX12_laysComes_12 ?_
    refine pw_getr gX12_13 dX12_laysComes_13 hF.1 (mf_p1 hF) ?_
    refine pw_bipush (v := 77) dX12_laysComes_16 (by decide) ?_
    refine pw_iload1 dX12_laysComes_18 ?_
    refine pw_iadd dX12_laysComes_19 ?_
    refine pw_ald (j := 77 + p) dX12_laysComes_20 (mf_s1 hF) (by simp (disch := omega) only [nl_77, nI_add, pk_mul, pk_sub]; exact ix_m (by omega) (by omega)) (by omega) ?_
    rw [e1, hs]
    refine pw_puti (pX12_293 _ rfl) dX12_laysComes_21 hF.1 rfl rfl ?_
    refine pw_aload0 dX12_laysComes_24 ?_
    refine pw_iconst (v := -1) dX12_laysComes_25 (by decide) ?_
    refine pw_puti (pX12_309 _ rfl) dX12_laysComes_26 hF.1 rfl rfl ?_
    rw [show up2 (up2 (up2 V o 20 0) o 21 (sI s0)) o 22 (-1) = v3 V o 0 (sI s0) (-1) from rfl]
    refine pw_iconst (v := 0) dX12_laysComes_29 (by decide) ?_
    rw [show (0 : Int32) = dI 2 from rfl]
    refine pw_istore3 dX12_laysComes_30 (by decide) (k := ?_)
    refine pw_iconst (v := 0) dX12_laysComes_31 (by decide) ?_
    rw [show (0 : Int32) = nI 0 from rfl]
    refine pw_istore4 dX12_laysComes_32 (by decide) (k := ?_)
    exact kk
  · rw [pm_up_ne h9]
    exact h2.1 a (by omega) (by omega) (by omega)
  · rw [pm_up_eq, hR, if_pos (by omega), rf_cw_cong h0 hGT hin0 hb]
