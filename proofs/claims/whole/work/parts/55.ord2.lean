/-! ===== the reference: through a piece from store to store ===== -/
def thT (al : Nat → Int32) (p q f t : Nat) : Int32 := rf_T (TT al p q) kpA (lgN al q) (rf_e1 (sI t)) (lgN al q) 2 f
def TR (o : Nat) (al : Nat → Int32) (p K : Nat) (A : sV) : Prop := ∀ q f t, f < 41 → t < 41 → (q * 41 + t) * 41 + f < K → A (o + 14) ((41 * q + f) * 41 + t) = thT al p q f t
theorem TR.put {o : Nat} {al : Nat → Int32} {p q f t : Nat} {A : sV} {x : Int32} (h : TR o al p ((q * 41 + t) * 41 + f) A) (hf : f < 41) (ht : t < 41) (hx : x = thT al p q f t) : TR o al p ((q * 41 + t) * 41 + (f + 1)) (up2 A (o + 14) ((41 * q + f) * 41 + t) x) := by
  intro q' f' t' hf' ht' hk
  rw [up2_at]
  by_cases e : (q' * 41 + t') * 41 + f' = (q * 41 + t) * 41 + f
  · have e1 : f' = f := by omega
    have e2 : t' = t := by omega
    have e3 : q' = q := by omega
    subst e1
    subst e2
    subst e3
    rw [pm_up_eq]
    exact hx
  · rw [pm_up_ne (by omega)]
    exact h q' f' t' hf' ht' (by omega)
set_option maxRecDepth 20000 in
theorem c_throughBy {G : gT} {d : Nat} {S : sS} {V : sV} {P : sP} {A : sV} {B : sB} {Q : sP} {t sl o : Nat} (hF : MF S P o) {q f u : Nat} (hq : q < 4) (hf : f < 41) (hu : u < 41) : PW G d mX12_throughBy 0 [some (.ref o), some (.int (nI q)), some (.int (nI f)), some (.int (nI u))] [] (t, sl, gh S V P A B Q) (some (.int (A (o + 14) ((41 * q + f) * 41 + u)))) (t, sl, gh S V P A B Q) := by
  refine pw_aload0 dX12_throughBy_0 ?_
  refine pw_getr gX12_58 dX12_throughBy_1 hF.1 (mf_p30 hF) ?_
  refine pw_bipush (v := 41) dX12_throughBy_4 (by decide) ?_
  refine pw_iload1 dX12_throughBy_6 ?_
  refine pw_imul dX12_throughBy_7 ?_
  refine pw_iload2 dX12_throughBy_8 ?_
  refine pw_iadd dX12_throughBy_9 ?_
  refine pw_bipush (v := 41) dX12_throughBy_10 (by decide) ?_
  refine pw_imul dX12_throughBy_12 ?_
  refine pw_iload3 dX12_throughBy_13 ?_
  refine pw_iadd dX12_throughBy_14 ?_
  refine pw_ald (j := (41 * q + f) * 41 + u) dX12_throughBy_15 (mf_s14 hF) (by simp (disch := omega) only [nl_41, nI_add, pk_mul, pk_sub]; exact ix_m (by omega) (by omega)) (by omega) ?_
  exact pw_iret dX12_throughBy_16 rfl rfl rfl rfl
set_option maxRecDepth 20000 in
theorem l_thr1 {G : gT} {d : Nat} {S : sS} {V : sV} {P : sP} {B : sB} {Q : sP} {t sl o : Nat} (hF : MF S P o) {A0 : sV} {al : Nat → Int32} {p q u : Nat} (hq : q < 4) (hu : u < 41) (h8 : ∀ s, s < 41 → A0 (o + 8) (82 + s) = thT al p q s u) {Z : Option Value → Ph → Prop} (kf : ∀ A : sV, (∀ a, a ≠ o + 14 → A a = A0 a) → TR o al p ((q * 41 + u) * 41 + 41) A → WQ G (d + 1) mX12_laysThrough 95 [some (.ref o), some (.int (nI p)), some (.int (nI q)), some (.int (nI u)), some (.int (nI 41))] [] (t, sl, gh S V P A B Q) Z) : ∀ (m k : Nat) (A : sV), k + m = 41 → (∀ a, a ≠ o + 14 → A a = A0 a) → TR o al p ((q * 41 + u) * 41 + k) A → WQ G (d + 1) mX12_laysThrough 50 [some (.ref o), some (.int (nI p)), some (.int (nI q)), some (.int (nI u)), some (.int (nI k))] [] (t, sl, gh S V P A B Q) Z := by
  intro m
  induction m with
  | zero =>
    intro k A hk h1 h2
    have hk : k = 41 := hk
    subst hk
    refine WQ.st (fun _ _ kz => pw_iload4 dX12_laysThrough_50 kz) ?_
    refine WQ.st (fun _ _ kz => pw_bipush (v := 41) dX12_laysThrough_52 (by decide) kz) ?_
    refine WQ.br (fun _ _ ka kb => pw_icmp_ge (tgt := 95) dX12_laysThrough_54 (by decide) ka kb) (fun c54 => ?_) (fun c54 => absurd (by decide) c54)
    exact kf A h1 h2
  | succ m ih =>
    intro k A hk h1 h2
    refine WQ.st (fun _ _ kz => pw_iload4 dX12_laysThrough_50 kz) ?_
    refine WQ.st (fun _ _ kz => pw_bipush (v := 41) dX12_laysThrough_52 (by decide) kz) ?_
    refine WQ.br (fun _ _ ka kb => pw_icmp_ge (tgt := 95) dX12_laysThrough_54 (by decide) ka kb) (fun c54 => absurd c54 (by rw [le_i li_41 (ix_n (j := k) (by omega))]; omega)) (fun c54 => ?_)
    refine WQ.st (fun _ _ kz => pw_aload0 dX12_laysThrough_57 kz) ?_
    refine WQ.st (fun _ _ kz => pw_getr gX12_58 dX12_laysThrough_58 hF.1 (mf_p30 hF) kz) ?_
    refine WQ.st (fun _ _ kz => pw_bipush (v := 41) dX12_laysThrough_61 (by decide) kz) ?_
    refine WQ.st (fun _ _ kz => pw_iload2 dX12_laysThrough_63 kz) ?_
    refine WQ.st (fun _ _ kz => pw_imul dX12_laysThrough_64 kz) ?_
    refine WQ.st (fun _ _ kz => pw_iload4 dX12_laysThrough_65 kz) ?_
    refine WQ.st (fun _ _ kz => pw_iadd dX12_laysThrough_67 kz) ?_
    refine WQ.st (fun _ _ kz => pw_bipush (v := 41) dX12_laysThrough_68 (by decide) kz) ?_
    refine WQ.st (fun _ _ kz => pw_imul dX12_laysThrough_70 kz) ?_
    refine WQ.st (fun _ _ kz => pw_iload3 dX12_laysThrough_71 kz) ?_
    refine WQ.st (fun _ _ kz => pw_iadd dX12_laysThrough_72 kz) ?_
    refine WQ.st (fun _ _ kz => pw_aload0 dX12_laysThrough_73 kz) ?_
    refine WQ.st (fun _ _ kz => pw_getr gX12_39 dX12_laysThrough_74 hF.1 (mf_p18 hF) kz) ?_
    refine WQ.st (fun _ _ kz => pw_iconst (v := 0) dX12_laysThrough_77 (by decide) kz) ?_
    refine WQ.st (fun _ _ kz => pw_iconst (v := 0) dX12_laysThrough_78 (by decide) kz) ?_
    refine WQ.st (fun _ _ kz => pw_iload4 dX12_laysThrough_79 kz) ?_
    refine WQ.st (fun _ _ kz => pw_bipush (v := 20) dX12_laysThrough_81 (by decide) kz) ?_
    refine WQ.st (fun _ _ kz => pw_isub dX12_laysThrough_83 kz) ?_
    rw [show nI k - 20 = sI k by unfold sI; rw [iI_nat, show (20 : Int32) = iI 20 from rfl, iI_sub]]
    refine WQ.st (fun _ _ kz => pw_s3i wX12_spot lX12_262 dX12_laysThrough_84 (c_spotI 0 2 k) rfl (Nat.le_of_ble_eq_true rfl) (Nat.le_of_ble_eq_true rfl) kz) ?_
    refine WQ.st (fun _ _ kz => pw_ald (j := 82 + k) dX12_laysThrough_87 (mf_s8 hF) (ix_m (by omega) (by omega)) (by omega) kz) ?_
    refine WQ.st (fun _ _ kz => pw_ast (j := (41 * q + k) * 41 + u) dX12_laysThrough_88 (mf_s14 hF) (by simp (disch := omega) only [nl_41, nI_add, pk_mul, pk_sub]; exact ix_m (by omega) (by omega)) (by omega)  kz) ?_
    refine WQ.st (fun _ _ kz => pw_iinc4 (v := 1) dX12_laysThrough_89 (by decide) (by decide) (k := kz)) ?_
    refine WQ.st (fun _ _ kz => pw_goto (tgt := 50) dX12_laysThrough_92 (by decide) kz) ?_
    rw [nI_1]
    exact ih (k + 1) _ (by omega) (fun a ha => by rw [up2_na ha]; exact h1 a ha) (h2.put (by omega) hu (by rw [h1 _ (by omega)]; exact h8 k (by omega)))
set_option maxRecDepth 20000 in
theorem l_thr2 {G : gT} {d : Nat} {S : sS} {V : sV} {P : sP} {B : sB} {Q : sP} {t sl o : Nat} (hF : MF S P o) {A0 : sV} {al : Nat → Int32} (hal : A0 (o + 1) = al) (hD : DV al) {p q : Nat} (hq : q < 4) (hTT : ∀ b l s w, b < lgN al q → l < 5 → s < 41 → w < 5 → rT (A0 (o + 7)) b l s w = TT al p q b l s w) (hkp : ∀ b w, b < lgN al q → w < 5 → rf_k (A0 (o + 10)) (V o 24) b w = kpA b w) {Z : Option Value → Ph → Prop} (kf : ∀ (A : sV) (x4 : Option Value), (∀ a, a ≠ o + 8 → a ≠ o + 14 → A a = A0 a) → TR o al p ((q * 41 + 41) * 41) A → WQ G (d + 5) mX12_laysThrough 101 [some (.ref o), some (.int (nI p)), some (.int (nI q)), some (.int (nI 41)), x4] [] (t, sl, gh S V P A B Q) Z) : ∀ (m u : Nat) (A : sV) (x4 : Option Value), u + m = 41 → (∀ a, a ≠ o + 8 → a ≠ o + 14 → A a = A0 a) → TR o al p ((q * 41 + u) * 41) A → WQ G (d + 5) mX12_laysThrough 24 [some (.ref o), some (.int (nI p)), some (.int (nI q)), some (.int (nI u)), x4] [] (t, sl, gh S V P A B Q) Z := by
  intro m
  induction m with
  | zero =>
    intro u A x4 hk h1 h2
    have hk : u = 41 := hk
    subst hk
    refine WQ.st (fun _ _ kz => pw_iload3 dX12_laysThrough_24 kz) ?_
    refine WQ.st (fun _ _ kz => pw_bipush (v := 41) dX12_laysThrough_25 (by decide) kz) ?_
    refine WQ.br (fun _ _ ka kb => pw_icmp_ge (tgt := 101) dX12_laysThrough_27 (by decide) ka kb) (fun c27 => ?_) (fun c27 => absurd (by decide) c27)
    exact kf A x4 h1 h2
  | succ m ih =>
    intro u A x4 hk h1 h2
    refine WQ.st (fun _ _ kz => pw_iload3 dX12_laysThrough_24 kz) ?_
    refine WQ.st (fun _ _ kz => pw_bipush (v := 41) dX12_laysThrough_25 (by decide) kz) ?_
    refine WQ.br (fun _ _ ka kb => pw_icmp_ge (tgt := 101) dX12_laysThrough_27 (by decide) ka kb) (fun c27 => absurd c27 (by rw [le_i li_41 (ix_n (j := u) (by omega))]; omega)) (fun c27 => ?_)
    refine WQ.st (fun _ _ kz => pw_aload0 dX12_laysThrough_30 kz) ?_
    refine WQ.st (fun _ _ kz => pw_aload0 dX12_laysThrough_31 kz) ?_
    refine WQ.st (fun _ _ kz => pw_getr gX12_13 dX12_laysThrough_32 hF.1 (mf_p1 hF) kz) ?_
    refine WQ.st (fun _ _ kz => pw_bipush (v := 10) dX12_laysThrough_35 (by decide) kz) ?_
    refine WQ.st (fun _ _ kz => pw_iload2 dX12_laysThrough_37 kz) ?_
    refine WQ.st (fun _ _ kz => pw_iadd dX12_laysThrough_38 kz) ?_
    refine WQ.st (fun _ _ kz => pw_ald (j := 10 + q) dX12_laysThrough_39 (mf_s1 hF) (by simp (disch := omega) only [nl_10, nI_add, pk_mul, pk_sub]; exact ix_m (by omega) (by omega)) (by omega) kz) ?_
    rw [h1 _ (by omega) (by omega), hal, (hD.lgE hq).1]
    refine WQ.st (fun _ _ kz => pw_iload3 dX12_laysThrough_40 kz) ?_
    refine WQ.st (fun _ _ kz => pw_bipush (v := 20) dX12_laysThrough_41 (by decide) kz) ?_
    refine WQ.st (fun _ _ kz => pw_isub dX12_laysThrough_43 kz) ?_
    rw [show nI u - 20 = sI u by unfold sI; rw [iI_nat, show (20 : Int32) = iI 20 from rfl, iI_sub]]
    have e7 : A (o + 7) = A0 (o + 7) := h1 _ (by omega) (by omega)
    have e10 : A (o + 10) = A0 (o + 10) := h1 _ (by omega) (by omega)
    obtain ⟨F, k1, t1⟩ := c_laysEnd (d := d) (P := P) (S := S) (G := G) (V := V) (A := A) (B := B) (Q := Q) (t := t) (sl := sl) hF (n := lgN al q) (hD.lgE hq).2 (goal := sI u) (fun b l s w hb hl hs hw h => rf_g_in (by rw [e7, hTT b l s w hb hl hs hw] at h; exact h))
    have h8 : ∀ s, s < 41 → F (o + 8) (82 + s) = thT al p q s u := fun s hs => by
      have := t1.2 0 (Nat.le_refl _) (Nat.zero_le _) 2 s (by decide) hs
      rw [show (5 * 0 + 2) * 41 + s = 82 + s by omega, Nat.sub_zero] at this
      rw [this, e7, e10]
      exact rf_T_cong hTT (fun b w hb hw => hkp b w hb hw) (fun b l s w _ _ _ _ h => rf_g_in h) _ (Nat.le_refl _) 2 s (by decide) hs
    refine WQ.st (fun _ _ kz => pw_o2v wX12_laysEnd lX12_447 rfl dX12_laysThrough_44 hF.1 (k1) rfl (Nat.le_of_ble_eq_true rfl) (Nat.le_of_ble_eq_true rfl) kz) ?_
    refine WQ.st (fun _ _ kz => pw_iconst (v := 0) dX12_laysThrough_47 (by decide) kz) ?_
    refine WQ.st (fun _ _ kz => pw_istore4 dX12_laysThrough_48 (by decide) (k := kz)) ?_
    exact l_thr1 (S := S) (P := P) (G := G) (V := V) (B := B) (Q := Q) (t := t) (sl := sl) (d := d + 4) hF (A0 := F) (al := al) hq (show u < 41 by omega) h8 (fun A1 g1 g2 => by
      refine WQ.st (fun _ _ kz => pw_iinc3 (v := 1) dX12_laysThrough_95 (by decide) (by decide) (k := kz)) ?_
      refine WQ.st (fun _ _ kz => pw_goto (tgt := 24) dX12_laysThrough_98 (by decide) kz) ?_
      rw [nI_1]
      exact ih (u + 1) A1 _ (by omega) (fun a h8 h14 => by rw [g1 a h14, t1.1 a h8]; exact h1 a h8 h14) (by rw [show (q * 41 + (u + 1)) * 41 = (q * 41 + u) * 41 + 41 by omega]; exact g2)) 41 0 F rfl (fun _ _ => rfl) (fun q' f' t' a b c => by rw [t1.1 _ (by omega)]; exact h2 q' f' t' a b (by omega))
set_option maxRecDepth 20000 in
theorem l_thr3 {G : gT} {d : Nat} {S : sS} {V : sV} {P : sP} {B : sB} {Q : sP} {t sl o : Nat} (hF : MF S P o) {A0 : sV} {al : Nat → Int32} (hal : A0 (o + 1) = al) (hD : DV al) {p N : Nat} (hp : p < 5) (hN4 : N ≤ 4) (hN : al 1 = nI N) (hkp : ∀ b w, b < 12 → w < 5 → rf_k (A0 (o + 10)) (V o 24) b w = kpA b w) : ∀ (m q : Nat) (A : sV) (x3 x4 : Option Value), q + m = N → (∀ a, a < o + 5 ∨ (o + 9 < a ∧ a ≠ o + 14) → A a = A0 a) → TR o al p (q * 1681) A → WQ G (d + 5) mX12_laysThrough 6 [some (.ref o), some (.int (nI p)), some (.int (nI q)), x3, x4] [] (t, sl, gh S V P A B Q) (fun r h' => r = none ∧ ∃ A' : sV, h' = (t, sl, gh S V P A' B Q) ∧ (∀ a, a < o + 5 ∨ (o + 9 < a ∧ a ≠ o + 14) → A' a = A0 a) ∧ TR o al p (N * 1681) A') := by
  intro m
  induction m with
  | zero =>
    intro q A x3 x4 hk h1 h2
    have hk : q = N := hk
    subst hk
    refine WQ.st (fun _ _ kz => pw_iload2 dX12_laysThrough_6 kz) ?_
    refine WQ.st (fun _ _ kz => pw_aload0 dX12_laysThrough_7 kz) ?_
    refine WQ.st (fun _ _ kz => pw_getr gX12_13 dX12_laysThrough_8 hF.1 (mf_p1 hF) kz) ?_
    refine WQ.st (fun _ _ kz => pw_iconst (v := 1) dX12_laysThrough_11 (by decide) kz) ?_
    refine WQ.st (fun _ _ kz => pw_ald (j := 1) dX12_laysThrough_12 (mf_s1 hF) rfl (by omega) kz) ?_
    rw [h1 _ (by omega), hal, hN]
    refine WQ.br (fun _ _ ka kb => pw_icmp_ge (tgt := 107) dX12_laysThrough_13 (by decide) ka kb) (fun c13 => ?_) (fun c13 => absurd (Int32.le_refl _) c13)
    refine ⟨_, _, pw_vret dX12_laysThrough_107 rfl rfl rfl, ?_⟩
    exact ⟨rfl, A, rfl, h1, h2⟩
  | succ m ih =>
    intro q A x3 x4 hk h1 h2
    refine WQ.st (fun _ _ kz => pw_iload2 dX12_laysThrough_6 kz) ?_
    refine WQ.st (fun _ _ kz => pw_aload0 dX12_laysThrough_7 kz) ?_
    refine WQ.st (fun _ _ kz => pw_getr gX12_13 dX12_laysThrough_8 hF.1 (mf_p1 hF) kz) ?_
    refine WQ.st (fun _ _ kz => pw_iconst (v := 1) dX12_laysThrough_11 (by decide) kz) ?_
    refine WQ.st (fun _ _ kz => pw_ald (j := 1) dX12_laysThrough_12 (mf_s1 hF) rfl (by omega) kz) ?_
    rw [h1 _ (by omega), hal, hN]
    refine WQ.br (fun _ _ ka kb => pw_icmp_ge (tgt := 107) dX12_laysThrough_13 (by decide) ka kb) (fun c13 => absurd c13 (by rw [le_i (ix_n (j := N) (by omega)) (ix_n (j := q) (by omega))]; omega)) (fun c13 => ?_)
    refine WQ.st (fun _ _ kz => pw_aload0 dX12_laysThrough_16 kz) ?_
    refine WQ.st (fun _ _ kz => pw_iload1 dX12_laysThrough_17 kz) ?_
    refine WQ.st (fun _ _ kz => pw_iload2 dX12_laysThrough_18 kz) ?_
    have hal2 : A (o + 1) = al := (h1 _ (by omega)).trans hal
    obtain ⟨F, k1, g1⟩ := c_laysGlads (d := d) (P := P) (S := S) (G := G) (V := V) (A := A) (B := B) (Q := Q) (t := t) (sl := sl) hF hp (show q < 4 by omega) (hD.lgE (show q < 4 by omega)).2 (by rw [hal2, (hD.lgE (show q < 4 by omega)).1]; exact ix_n (by have := (hD.lgE (show q < 4 by omega)).2; omega)) (by rw [hal2]; exact hD.gl) (by rw [hal2]; exact hD.ml)
    have hTT : ∀ b l s w, b < lgN al q → l < 5 → s < 41 → w < 5 → rT (F (o + 7)) b l s w = TT al p q b l s w := fun b l s w hb hl hs hw => by
      rw [g1.rT hb hl hs hw, hal2]
      rfl
    refine WQ.st (fun _ _ kz => pw_o2v wX12_laysGlads lX12_299 rfl dX12_laysThrough_19 hF.1 (k1) rfl (Nat.le_of_ble_eq_true rfl) (Nat.le_of_ble_eq_true rfl) kz) ?_
    refine WQ.st (fun _ _ kz => pw_iconst (v := 0) dX12_laysThrough_22 (by decide) kz) ?_
    refine WQ.st (fun _ _ kz => pw_istore3 dX12_laysThrough_23 (by decide) (k := kz)) ?_
    exact l_thr2 (S := S) (P := P) (G := G) (V := V) (B := B) (Q := Q) (t := t) (sl := sl) (d := d) hF (A0 := F) (al := al) (p := p) ((g1.1 _ (by omega) (by omega) (by omega)).trans hal2) hD (show q < 4 by omega) hTT (fun b w hb hw => by rw [g1.1 _ (by omega) (by omega) (by omega), h1 _ (by omega)]; exact hkp b w (by have := (hD.lgE (show q < 4 by omega)).2; omega) hw) (fun A1 x4 m1 m2 => by
      refine WQ.st (fun _ _ kz => pw_iinc2 (v := 1) dX12_laysThrough_101 (by decide) (by decide) (k := kz)) ?_
      refine WQ.st (fun _ _ kz => pw_goto (tgt := 6) dX12_laysThrough_104 (by decide) kz) ?_
      rw [nI_1]
      exact ih (q + 1) A1 _ _ (by omega) (fun a ha => by rw [m1 a (by omega) (by omega), g1.1 a (by omega) (by omega) (by omega)]; exact h1 a ha) (by rw [show (q + 1) * 1681 = (q * 41 + 41) * 41 by omega]; exact m2)) 41 0 F _ rfl (fun _ _ _ => rfl) (fun q' f' t' a b c => by rw [g1.1 _ (by omega) (by omega) (by omega)]; exact h2 q' f' t' a b (by omega))
set_option maxRecDepth 20000 in
theorem c_laysThrough {G : gT} {d : Nat} {S : sS} {V : sV} {P : sP} {A : sV} {B : sB} {Q : sP} {t sl o : Nat} (hF : MF S P o) {al : Nat → Int32} (hal : A (o + 1) = al) (hD : DV al) {p : Nat} (hp : p < 5) : WQ G (d + 5) mX12_laysThrough 0 [some (.ref o), some (.int (nI p)), none, none, none] [] (t, sl, gh S V P A B Q) (fun r h' => r = none ∧ ∃ A' : sV, h' = (t, sl, gh S (up2 V o 24 0) P A' B Q) ∧ (∀ a, a < o + 5 ∨ (o + 10 < a ∧ a ≠ o + 14) → A' a = A a) ∧ TR o al p ((al 1).toInt.toNat * 1681) A') := by
  refine WQ.st (fun _ _ kz => pw_aload0 dX12_laysThrough_0 kz) ?_
  obtain ⟨R1, k1, hR1⟩ := c_keepsAny (d := d + 4) (P := P) (S := S) (G := G) (V := V) (A := A) (B := B) (Q := Q) (t := t) (sl := sl) hF
  refine WQ.st (fun _ _ kz => pw_o0v wX12_keepsAny lX12_296 rfl dX12_laysThrough_1 hF.1 (k1) rfl (Nat.le_of_ble_eq_true rfl) (Nat.le_of_ble_eq_true rfl) kz) ?_
  refine WQ.st (fun _ _ kz => pw_iconst (v := 0) dX12_laysThrough_4 (by decide) kz) ?_
  refine WQ.st (fun _ _ kz => pw_istore2 dX12_laysThrough_5 (by decide) (k := kz)) ?_
  refine (l_thr3 (S := S) (P := P) (G := G) (V := up2 V o 24 0) (B := B) (Q := Q) (t := t) (sl := sl) (d := d) hF (A0 := pm_up A (o + 10) R1) (al := al) (by rw [pm_up_ne (by omega)]; exact hal) hD hp (N := (al 1).toInt.toNat) (by have := hD.n4; omega) (nI_ofI hD.n4.1) (fun b w hb hw => by rw [pm_up_eq]; exact rf_k9 (hR1 b hb)) _ 0 _ none none (Nat.zero_add _) (fun _ _ => rfl) (fun q f t _ _ c => absurd c (by omega))).imp (fun r h' z => ?_)
  obtain ⟨rfl, A', rfl, f1, f2⟩ := z
  exact ⟨rfl, A', rfl, fun a ha => by rw [f1 a (by omega), pm_up_ne (by omega)], f2⟩
