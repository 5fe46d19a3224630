/-! ===== the reference: what is to go ===== -/
def rf_T (T : Nat → Nat → Nat → Nat → Int32) (kp : Nat → Nat → Bool) (n : Nat) (e : Nat → Int32) : Nat → Nat → Nat → Int32
  | 0, _, s => e s
  | r + 1, l, s => rf_mx (rf_gb T kp (rf_T T kp n e r) (n - (r + 1)) l s)
theorem rf_mf_cong {f g : Nat → Int32} : ∀ (c w : Nat) (acc : Int32), w + c ≤ 5 → (∀ i, i < 5 → f i = g i) → rf_mf f acc w c = rf_mf g acc w c
  | 0, w, acc, _, _ => rfl
  | c + 1, w, acc, hw, h => by
    rw [rf_mf, rf_mf, h w (by omega)]
    exact rf_mf_cong c (w + 1) _ (by omega) h
theorem rf_mx_cong {f g : Nat → Int32} (h : ∀ i, i < 5 → f i = g i) : rf_mx f = rf_mx g := rf_mf_cong 5 0 _ (by omega) h
theorem rf_gb_cong {T : Nat → Nat → Nat → Nat → Int32} {kp : Nat → Nat → Bool} {N N' : Nat → Nat → Int32} {b l s w : Nat} (hs : s < 41) (hw : w < 5) (hin : T b l s w ≠ (-268435456) → rf_in s w = true) (h : ∀ l s, l < 5 → s < 41 → N l s = N' l s) : rf_gb T kp N b l s w = rf_gb T kp N' b l s w := by
  unfold rf_gb
  by_cases hT : T b l s w = (-268435456)
  · rw [if_pos hT, if_pos hT]
  · have h9 := hin hT
    unfold rf_in at h9
    simp only [decide_eq_true_eq] at h9
    rw [h w (s + 2 - w) hw (by omega)]
/-- the end that is asked for: a store of the goal at least -/
def rf_e (goal : Int32) (s : Nat) : Int32 := if sI s < goal then (-268435456) else 0
/-- rows of 'to go' from bar r on are right, all else is as it was -/
def TG (o : Nat) (A0 : sV) (T : Nat → Nat → Nat → Nat → Int32) (kp : Nat → Nat → Bool) (n : Nat) (e : Nat → Int32) (r : Nat) (A : sV) : Prop := (∀ a, a ≠ o + 8 → A a = A0 a) ∧ ∀ b, r ≤ b → b ≤ n → ∀ l s, l < 5 → s < 41 → A (o + 8) ((5 * b + l) * 41 + s) = rf_T T kp n e (n - b) l s
/-- and the row of bar b up to the place K -/
def TP (o : Nat) (A0 : sV) (T : Nat → Nat → Nat → Nat → Int32) (kp : Nat → Nat → Bool) (n : Nat) (e : Nat → Int32) (b K : Nat) (A : sV) : Prop := TG o A0 T kp n e (b + 1) A ∧ ∀ l s, l < 5 → s < 41 → l * 41 + s < K → A (o + 8) ((5 * b + l) * 41 + s) = rf_T T kp n e (n - b) l s
theorem TP.full {o : Nat} {A0 : sV} {T : Nat → Nat → Nat → Nat → Int32} {kp : Nat → Nat → Bool} {n : Nat} {e : Nat → Int32} {b : Nat} {A : sV} (h : TP o A0 T kp n e b 205 A) : TG o A0 T kp n e b A := by
  refine ⟨h.1.1, fun b' h1 h2 l s hl hs => ?_⟩
  by_cases hb : b' = b
  · subst hb
    exact h.2 l s hl hs (by omega)
  · exact h.1.2 b' (by omega) h2 l s hl hs
theorem TG.start {o : Nat} {A0 : sV} {T : Nat → Nat → Nat → Nat → Int32} {kp : Nat → Nat → Bool} {n : Nat} {e : Nat → Int32} {b : Nat} {A : sV} (h : TG o A0 T kp n e (b + 1) A) : TP o A0 T kp n e b 0 A := ⟨h, fun _ _ _ _ q => absurd q (Nat.not_lt_zero _)⟩
theorem TP.put {o : Nat} {A0 : sV} {T : Nat → Nat → Nat → Nat → Int32} {kp : Nat → Nat → Bool} {n : Nat} {e : Nat → Int32} {b l s : Nat} {A : sV} {x : Int32} (h : TP o A0 T kp n e b (l * 41 + s) A) (hb : b ≤ n) (hl : l < 5) (hs : s < 41) (hx : x = rf_T T kp n e (n - b) l s) : TP o A0 T kp n e b (l * 41 + (s + 1)) (up2 A (o + 8) ((5 * b + l) * 41 + s) x) := by
  refine ⟨⟨fun a ha => by rw [up2_na ha]; exact h.1.1 a ha, fun b' h1 h2 l' s' hl' hs' => ?_⟩, fun l' s' hl' hs' hk => ?_⟩
  · rw [up2_at, pm_up_ne (by omega)]
    exact h.1.2 b' h1 h2 l' s' hl' hs'
  · rw [up2_at]
    by_cases hc : l' * 41 + s' = l * 41 + s
    · have h1 : l' = l := by omega
      have h2 : s' = s := by omega
      subst h1
      subst h2
      rw [pm_up_eq]
      exact hx
    · rw [pm_up_ne (by omega)]
      exact h.2 l' s' hl' hs' (by omega)
set_option maxRecDepth 20000 in
theorem l_laysToGo1 {G : gT} {d : Nat} {S : sS} {V : sV} {P : sP} {B : sB} {Q : sP} {t sl o : Nat} (hF : MF S P o) {A0 : sV} {n : Nat} (hn12 : n ≤ 12) {goal : Int32} (hin : ∀ b l s w, b < n → l < 5 → s < 41 → w < 5 → rT (A0 (o + 7)) b l s w ≠ (-268435456) → rf_in s w = true) {l : Nat} (hl : l < 5) (kf0 : ∀ A : sV, TP o A0 (rT (A0 (o + 7))) (rf_k (A0 (o + 10)) (V o 24)) n (rf_e goal) n ((l + 1) * 41) A → ∃ F : sV, PW G (d + 4) mX12_laysToGo 50 [some (.ref o), some (.int (nI n)), some (.int goal), some (.int (dI l)), some (.int (sI 41)), none] [] (t, sl, gh S V P A B Q) none (t, sl, gh S V P F B Q) ∧ TG o A0 (rT (A0 (o + 7))) (rf_k (A0 (o + 10)) (V o 24)) n (rf_e goal) 0 F) : ∀ (c s : Nat) (A : sV), s + c = 41 → TP o A0 (rT (A0 (o + 7))) (rf_k (A0 (o + 10)) (V o 24)) n (rf_e goal) n (l * 41 + s) A → ∃ F : sV, PW G (d + 4) mX12_laysToGo 12 [some (.ref o), some (.int (nI n)), some (.int goal), some (.int (dI l)), some (.int (sI s)), none] [] (t, sl, gh S V P A B Q) none (t, sl, gh S V P F B Q) ∧ TG o A0 (rT (A0 (o + 7))) (rf_k (A0 (o + 10)) (V o 24)) n (rf_e goal) 0 F := by
  intro c
  induction c with
  | zero =>
    intro s A hs hG
    have hs : s = 41 := hs
    subst hs
    obtain ⟨F, kf, hF2⟩ := kf0 A (by rw [show (l + 1) * 41 = l * 41 + 41 by omega]; exact hG)
    refine ⟨F, ?_, hF2⟩
    refine pw_iload4 dX12_laysToGo_12 ?_
    refine pw_bipush (v := 20) dX12_laysToGo_14 (by decide) ?_
    refine pw_icmp_gt (tgt := 50) dX12_laysToGo_16 (by decide) (fun c16 => ?_) (fun c16 => absurd (by rw [lt_i li_20 (sI_t (by omega))]; omega) c16)
    exact kf
  | succ c ih =>
    intro s A hs hG
    have h0 : rf_T (rT (A0 (o + 7))) (rf_k (A0 (o + 10)) (V o 24)) n (rf_e goal) (n - n) l s = rf_e goal s := by rw [Nat.sub_self]; rfl
    by_cases hc : sI s < goal
    · obtain ⟨F, kk, hF2⟩ := ih (s + 1) _ (by omega) (hG.put (x := (-268435456)) (Nat.le_refl n) hl (by omega) (by rw [h0]; unfold rf_e; rw [if_pos hc]))
      refine ⟨F, ?_, hF2⟩
      have kp1 := fun _ : sI s < goal => kk
      have kp0 : ∀ {X : Prop}, ¬ sI s < goal → X := fun q => absurd hc q
      refine pw_iload4 dX12_laysToGo_12 ?_
      refine pw_bipush (v := 20) dX12_laysToGo_14 (by decide) ?_
      refine pw_icmp_gt (tgt := 50) dX12_laysToGo_16 (by decide) (fun c16 => absurd c16 (by rw [lt_i li_20 (sI_t (by omega))]; omega)) (fun c16 => ?_)
      refine pw_aload0 dX12_laysToGo_19 ?_
      refine pw_getr gX12_39 dX12_laysToGo_20 hF.1 (mf_p18 hF) ?_
      refine pw_iload1 dX12_laysToGo_23 ?_
      refine pw_iload3 dX12_laysToGo_24 ?_
      refine pw_iload4 dX12_laysToGo_25 ?_
      refine pw_s3i wX12_spot lX12_262 dX12_laysToGo_27 (c_spotI n l s) rfl (Nat.le_of_ble_eq_true rfl) (Nat.le_of_ble_eq_true rfl) ?_
      refine pw_iload4 dX12_laysToGo_30 ?_
      refine pw_iload2 dX12_laysToGo_32 ?_
      refine pw_icmp_lt (tgt := 40) dX12_laysToGo_33 (by decide) (fun c33 => ?_) (fun c33 => ?_)
      · refine pw_ldcw kX12_273 dX12_laysToGo_40 ?_
        refine pw_ast (j := (5 * n + l) * 41 + s) dX12_laysToGo_43 (mf_s8 hF) (ix_m rfl (by omega)) (by omega)  ?_
        refine pw_iinc4 (v := 1) dX12_laysToGo_44 (by decide) (by decide) (k := ?_)
        refine pw_goto (tgt := 12) dX12_laysToGo_47 (by decide) ?_
        rw [sI_1]
        exact kp1 c33
      · refine pw_iconst (v := 0) dX12_laysToGo_36 (by decide) ?_
        refine pw_goto (tgt := 43) dX12_laysToGo_37 (by decide) ?_
        refine pw_ast (j := (5 * n + l) * 41 + s) dX12_laysToGo_43 (mf_s8 hF) (ix_m rfl (by omega)) (by omega)  ?_
        refine pw_iinc4 (v := 1) dX12_laysToGo_44 (by decide) (by decide) (k := ?_)
        refine pw_goto (tgt := 12) dX12_laysToGo_47 (by decide) ?_
        rw [sI_1]
        exact kp0 c33
    · obtain ⟨F, kk, hF2⟩ := ih (s + 1) _ (by omega) (hG.put (x := 0) (Nat.le_refl n) hl (by omega) (by rw [h0]; unfold rf_e; rw [if_neg hc]))
      refine ⟨F, ?_, hF2⟩
      have kp0 := fun _ : ¬ sI s < goal => kk
      have kp1 : ∀ {X : Prop}, sI s < goal → X := fun q => absurd q hc
      refine pw_iload4 dX12_laysToGo_12 ?_
      refine pw_bipush (v := 20) dX12_laysToGo_14 (by decide) ?_
      refine pw_icmp_gt (tgt := 50) dX12_laysToGo_16 (by decide) (fun c16 => absurd c16 (by rw [lt_i li_20 (sI_t (by omega))]; omega)) (fun c16 => ?_)
      refine pw_aload0 dX12_laysToGo_19 ?_
      refine pw_getr gX12_39 dX12_laysToGo_20 hF.1 (mf_p18 hF) ?_
      refine pw_iload1 dX12_laysToGo_23 ?_
      refine pw_iload3 dX12_laysToGo_24 ?_
      refine pw_iload4 dX12_laysToGo_25 ?_
      refine pw_s3i wX12_spot lX12_262 dX12_laysToGo_27 (c_spotI n l s) rfl (Nat.le_of_ble_eq_true rfl) (Nat.le_of_ble_eq_true rfl) ?_
      refine pw_iload4 dX12_laysToGo_30 ?_
      refine pw_iload2 dX12_laysToGo_32 ?_
      refine pw_icmp_lt (tgt := 40) dX12_laysToGo_33 (by decide) (fun c33 => ?_) (fun c33 => ?_)
      · refine pw_ldcw kX12_273 dX12_laysToGo_40 ?_
        refine pw_ast (j := (5 * n + l) * 41 + s) dX12_laysToGo_43 (mf_s8 hF) (ix_m rfl (by omega)) (by omega)  ?_
        refine pw_iinc4 (v := 1) dX12_laysToGo_44 (by decide) (by decide) (k := ?_)
        refine pw_goto (tgt := 12) dX12_laysToGo_47 (by decide) ?_
        rw [sI_1]
        exact kp1 c33
      · refine pw_iconst (v := 0) dX12_laysToGo_36 (by decide) ?_
        refine pw_goto (tgt := 43) dX12_laysToGo_37 (by decide) ?_
        refine pw_ast (j := (5 * n + l) * 41 + s) dX12_laysToGo_43 (mf_s8 hF) (ix_m rfl (by omega)) (by omega)  ?_
        refine pw_iinc4 (v := 1) dX12_laysToGo_44 (by decide) (by decide) (k := ?_)
        refine pw_goto (tgt := 12) dX12_laysToGo_47 (by decide) ?_
        rw [sI_1]
        exact kp0 c33
set_option maxRecDepth 20000 in
theorem l_laysToGo2 {G : gT} {d : Nat} {S : sS} {V : sV} {P : sP} {B : sB} {Q : sP} {t sl o : Nat} (hF : MF S P o) {A0 : sV} {n : Nat} (hn12 : n ≤ 12) {goal : Int32} (hin : ∀ b l s w, b < n → l < 5 → s < 41 → w < 5 → rT (A0 (o + 7)) b l s w ≠ (-268435456) → rf_in s w = true) (kf0 : ∀ (A : sV) (x4 : Option Value), TG o A0 (rT (A0 (o + 7))) (rf_k (A0 (o + 10)) (V o 24)) n (rf_e goal) n A → ∃ F : sV, PW G (d + 4) mX12_laysToGo 56 [some (.ref o), some (.int (nI n)), some (.int goal), some (.int (dI 5)), x4, none] [] (t, sl, gh S V P A B Q) none (t, sl, gh S V P F B Q) ∧ TG o A0 (rT (A0 (o + 7))) (rf_k (A0 (o + 10)) (V o 24)) n (rf_e goal) 0 F) : ∀ (c l : Nat) (A : sV) (x4 : Option Value), l + c = 5 → TP o A0 (rT (A0 (o + 7))) (rf_k (A0 (o + 10)) (V o 24)) n (rf_e goal) n (l * 41) A → ∃ F : sV, PW G (d + 4) mX12_laysToGo 3 [some (.ref o), some (.int (nI n)), some (.int goal), some (.int (dI l)), x4, none] [] (t, sl, gh S V P A B Q) none (t, sl, gh S V P F B Q) ∧ TG o A0 (rT (A0 (o + 7))) (rf_k (A0 (o + 10)) (V o 24)) n (rf_e goal) 0 F := by
  intro c
  induction c with
  | zero =>
    intro l A x4 hl hG
    have hl : l = 5 := hl
    subst hl
    obtain ⟨F, kf, hF2⟩ := kf0 A x4 hG.full
    refine ⟨F, ?_, hF2⟩
    refine pw_iload3 dX12_laysToGo_3 ?_
    refine pw_iconst (v := 2) dX12_laysToGo_4 (by decide) ?_
    refine pw_icmp_gt (tgt := 56) dX12_laysToGo_5 (by decide) (fun c5 => ?_) (fun c5 => absurd (by rw [lt_i li_2 (dI_t (by omega))]; omega) c5)
    exact kf
  | succ c ih =>
    intro l A x4 hl hG
    obtain ⟨F, kk, hF2⟩ := l_laysToGo1 (G := G) (d := d) (V := V) (B := B) (Q := Q) (t := t) (sl := sl) hF hn12 hin (show l < 5 by omega) (fun A1 h1 => by
      obtain ⟨F, kk, hF2⟩ := ih (l + 1) A1 (some (.int (sI 41))) (by omega) h1
      refine ⟨F, ?_, hF2⟩
      refine pw_iinc3 (v := 1) dX12_laysToGo_50 (by decide) (by decide) (k := ?_)
      refine pw_goto (tgt := 3) dX12_laysToGo_53 (by decide) ?_
      rw [dI_1]
      exact kk) 41 0 A rfl hG
    refine ⟨F, ?_, hF2⟩
    refine pw_iload3 dX12_laysToGo_3 ?_
    refine pw_iconst (v := 2) dX12_laysToGo_4 (by decide) ?_
    refine pw_icmp_gt (tgt := 56) dX12_laysToGo_5 (by decide) (fun c5 => absurd c5 (by rw [lt_i li_2 (dI_t (by omega))]; omega)) (fun c5 => ?_)
    refine pw_bipush (v := -20) dX12_laysToGo_8 (by decide) ?_
    rw [show (-20 : Int32) = sI 0 from rfl]
    refine pw_istore4 dX12_laysToGo_10 (by decide) (k := ?_)
    exact kk
set_option maxRecDepth 20000 in
theorem l_laysToGo3 {G : gT} {d : Nat} {S : sS} {V : sV} {P : sP} {B : sB} {Q : sP} {t sl o : Nat} (hF : MF S P o) {A0 : sV} {n : Nat} (hn12 : n ≤ 12) {goal : Int32} (hin : ∀ b l s w, b < n → l < 5 → s < 41 → w < 5 → rT (A0 (o + 7)) b l s w ≠ (-268435456) → rf_in s w = true) {b l : Nat} (hb : b < n) (hl : l < 5) (kf0 : ∀ A : sV, TP o A0 (rT (A0 (o + 7))) (rf_k (A0 (o + 10)) (V o 24)) n (rf_e goal) b ((l + 1) * 41) A → ∃ F : sV, PW G (d + 4) mX12_laysToGo 113 [some (.ref o), some (.int (nI n)), some (.int goal), some (.int (nI b)), some (.int (dI l)), some (.int (sI 41))] [] (t, sl, gh S V P A B Q) none (t, sl, gh S V P F B Q) ∧ TG o A0 (rT (A0 (o + 7))) (rf_k (A0 (o + 10)) (V o 24)) n (rf_e goal) 0 F) : ∀ (c s : Nat) (A : sV), s + c = 41 → TP o A0 (rT (A0 (o + 7))) (rf_k (A0 (o + 10)) (V o 24)) n (rf_e goal) b (l * 41 + s) A → ∃ F : sV, PW G (d + 4) mX12_laysToGo 78 [some (.ref o), some (.int (nI n)), some (.int goal), some (.int (nI b)), some (.int (dI l)), some (.int (sI s))] [] (t, sl, gh S V P A B Q) none (t, sl, gh S V P F B Q) ∧ TG o A0 (rT (A0 (o + 7))) (rf_k (A0 (o + 10)) (V o 24)) n (rf_e goal) 0 F := by
  intro c
  induction c with
  | zero =>
    intro s A hs hG
    have hs : s = 41 := hs
    subst hs
    obtain ⟨F, kf, hF2⟩ := kf0 A (by rw [show (l + 1) * 41 = l * 41 + 41 by omega]; exact hG)
    refine ⟨F, ?_, hF2⟩
    refine pw_iload5 dX12_laysToGo_78 ?_
    refine pw_bipush (v := 20) dX12_laysToGo_80 (by decide) ?_
    refine pw_icmp_gt (tgt := 113) dX12_laysToGo_82 (by decide) (fun c82 => ?_) (fun c82 => absurd (by rw [lt_i li_20 (sI_t (by omega))]; omega) c82)
    exact kf
  | succ c ih =>
    intro s A hs hG
    have e7 : A (o + 7) = A0 (o + 7) := hG.1.1 _ (by omega)
    have e10 : A (o + 10) = A0 (o + 10) := hG.1.1 _ (by omega)
    have kmb := c_mostBy (G := G) (d := d) (V := V) (A := A) (B := B) (Q := Q) (t := t) (sl := sl) hF (show b < 12 by omega) hl (show s < 41 by omega) (fun w hw => by rw [e7]; exact hin b l s w hb hl (by omega) hw)
    have hx : rf_mx (rf_gb (rT (A (o + 7))) (rf_k (A (o + 10)) (V o 24)) (fun w' s' => A (o + 8) ((5 * (b + 1) + w') * 41 + s')) b l s) = rf_T (rT (A0 (o + 7))) (rf_k (A0 (o + 10)) (V o 24)) n (rf_e goal) (n - b) l s := by
      rw [e7, e10, show n - b = (n - (b + 1)) + 1 by omega, rf_T, show n - (n - (b + 1) + 1) = b by omega]
      exact rf_mx_cong (fun w hw => rf_gb_cong (by omega) hw (hin b l s w hb hl (by omega) hw) (fun l' s' hl' hs' => hG.1.2 (b + 1) (Nat.le_refl _) (by omega) l' s' hl' hs'))
    rw [hx] at kmb
    obtain ⟨F, kk, hF2⟩ := ih (s + 1) _ (by omega) (hG.put (Nat.le_of_lt hb) hl (by omega) rfl)
    refine ⟨F, ?_, hF2⟩
    refine pw_iload5 dX12_laysToGo_78 ?_
    refine pw_bipush (v := 20) dX12_laysToGo_80 (by decide) ?_
    refine pw_icmp_gt (tgt := 113) dX12_laysToGo_82 (by decide) (fun c82 => absurd c82 (by rw [lt_i li_20 (sI_t (by omega))]; omega)) (fun c82 => ?_)
    refine pw_aload0 dX12_laysToGo_85 ?_
    refine pw_getr gX12_39 dX12_laysToGo_86 hF.1 (mf_p18 hF) ?_
    refine pw_iload3 dX12_laysToGo_89 ?_
    refine pw_iload4 dX12_laysToGo_90 ?_
    refine pw_iload5 dX12_laysToGo_92 ?_
    refine pw_s3i wX12_spot lX12_262 dX12_laysToGo_94 (c_spotI b l s) rfl (Nat.le_of_ble_eq_true rfl) (Nat.le_of_ble_eq_true rfl) ?_
    refine pw_aload0 dX12_laysToGo_97 ?_
    refine pw_iload3 dX12_laysToGo_98 ?_
    refine pw_iload4 dX12_laysToGo_99 ?_
    refine pw_iload5 dX12_laysToGo_101 ?_
    refine pw_o3i wX12_mostBy lX12_284 rfl dX12_laysToGo_103 hF.1 (kmb) rfl (Nat.le_of_ble_eq_true rfl) (Nat.le_of_ble_eq_true rfl) ?_
    refine pw_ast (j := (5 * b + l) * 41 + s) dX12_laysToGo_106 (mf_s8 hF) (ix_m rfl (by omega)) (by omega)  ?_
    refine pw_iinc5 (v := 1) dX12_laysToGo_107 (by decide) (by decide) (k := ?_)
    refine pw_goto (tgt := 78) dX12_laysToGo_110 (by decide) ?_
    rw [sI_1]
    exact kk
set_option maxRecDepth 20000 in
theorem l_laysToGo4 {G : gT} {d : Nat} {S : sS} {V : sV} {P : sP} {B : sB} {Q : sP} {t sl o : Nat} (hF : MF S P o) {A0 : sV} {n : Nat} (hn12 : n ≤ 12) {goal : Int32} (hin : ∀ b l s w, b < n → l < 5 → s < 41 → w < 5 → rT (A0 (o + 7)) b l s w ≠ (-268435456) → rf_in s w = true) {b : Nat} (hb : b < n) (kf0 : ∀ (A : sV) (x5 : Option Value), TG o A0 (rT (A0 (o + 7))) (rf_k (A0 (o + 10)) (V o 24)) n (rf_e goal) b A → ∃ F : sV, PW G (d + 4) mX12_laysToGo 119 [some (.ref o), some (.int (nI n)), some (.int goal), some (.int (nI b)), some (.int (dI 5)), x5] [] (t, sl, gh S V P A B Q) none (t, sl, gh S V P F B Q) ∧ TG o A0 (rT (A0 (o + 7))) (rf_k (A0 (o + 10)) (V o 24)) n (rf_e goal) 0 F) : ∀ (c l : Nat) (A : sV) (x5 : Option Value), l + c = 5 → TP o A0 (rT (A0 (o + 7))) (rf_k (A0 (o + 10)) (V o 24)) n (rf_e goal) b (l * 41) A → ∃ F : sV, PW G (d + 4) mX12_laysToGo 68 [some (.ref o), some (.int (nI n)), some (.int goal), some (.int (nI b)), some (.int (dI l)), x5] [] (t, sl, gh S V P A B Q) none (t, sl, gh S V P F B Q) ∧ TG o A0 (rT (A0 (o + 7))) (rf_k (A0 (o + 10)) (V o 24)) n (rf_e goal) 0 F := by
  intro c
  induction c with
  | zero =>
    intro l A x5 hl hG
    have hl : l = 5 := hl
    subst hl
    obtain ⟨F, kf, hF2⟩ := kf0 A x5 hG.full
    refine ⟨F, ?_, hF2⟩
    refine pw_iload4 dX12_laysToGo_68 ?_
    refine pw_iconst (v := 2) dX12_laysToGo_70 (by decide) ?_
    refine pw_icmp_gt (tgt := 119) dX12_laysToGo_71 (by decide) (fun c71 => ?_) (fun c71 => absurd (by rw [lt_i li_2 (dI_t (by omega))]; omega) c71)
    exact kf
  | succ c ih =>
    intro l A x5 hl hG
    obtain ⟨F, kk, hF2⟩ := l_laysToGo3 (G := G) (d := d) (V := V) (B := B) (Q := Q) (t := t) (sl := sl) hF hn12 hin hb (show l < 5 by omega) (fun A1 h1 => by
      obtain ⟨F, kk, hF2⟩ := ih (l + 1) A1 (some (.int (sI 41))) (by omega) h1
      refine ⟨F, ?_, hF2⟩
      refine pw_iinc4 (v := 1) dX12_laysToGo_113 (by decide) (by decide) (k := ?_)
      refine pw_goto (tgt := 68) dX12_laysToGo_116 (by decide) ?_
      rw [dI_1]
      exact kk) 41 0 A rfl hG
    refine ⟨F, ?_, hF2⟩
    refine pw_iload4 dX12_laysToGo_68 ?_
    refine pw_iconst (v := 2) dX12_laysToGo_70 (by decide) ?_
    refine pw_icmp_gt (tgt := 119) dX12_laysToGo_71 (by decide) (fun c71 => absurd c71 (by rw [lt_i li_2 (dI_t (by omega))]; omega)) (fun c71 => ?_)
    refine pw_bipush (v := -20) dX12_laysToGo_74 (by decide) ?_
    rw [show (-20 : Int32) = sI 0 from rfl]
    refine pw_istore5 dX12_laysToGo_76 (by decide) (k := ?_)
    exact kk
/-- one less than r -/
def pI (r : Nat) : Int32 := iI ((r : Int) - 1)
theorem pI_s (r : Nat) : pI (r + 1) = nI r := by
  unfold pI
  rw [iI_nat]
  congr 1
  omega
theorem pI_m (r : Nat) : nI r + (-1) = pI r := by
  unfold pI
  rw [iI_nat, show (-1 : Int32) = iI (-1) from rfl, iI_add]
  congr 1
theorem pI_n (r : Nat) : nI r - 1 = pI r := by
  unfold pI
  rw [iI_nat, show (1 : Int32) = iI 1 from rfl, iI_sub]
set_option maxRecDepth 20000 in
theorem l_laysToGo5 {G : gT} {d : Nat} {S : sS} {V : sV} {P : sP} {B : sB} {Q : sP} {t sl o : Nat} (hF : MF S P o) {A0 : sV} {n : Nat} (hn12 : n ≤ 12) {goal : Int32} (hin : ∀ b l s w, b < n → l < 5 → s < 41 → w < 5 → rT (A0 (o + 7)) b l s w ≠ (-268435456) → rf_in s w = true) : ∀ (r : Nat) (A : sV) (x4 x5 : Option Value), r ≤ n → TG o A0 (rT (A0 (o + 7))) (rf_k (A0 (o + 10)) (V o 24)) n (rf_e goal) r A → ∃ F : sV, PW G (d + 4) mX12_laysToGo 60 [some (.ref o), some (.int (nI n)), some (.int goal), some (.int (pI r)), x4, x5] [] (t, sl, gh S V P A B Q) none (t, sl, gh S V P F B Q) ∧ TG o A0 (rT (A0 (o + 7))) (rf_k (A0 (o + 10)) (V o 24)) n (rf_e goal) 0 F := by
  intro r
  induction r with
  | zero =>
    intro A x4 x5 hr hG
    refine ⟨A, ?_, hG⟩
    refine pw_iload3 dX12_laysToGo_60 ?_
    refine pw_if_lt (tgt := 125) dX12_laysToGo_61 (by decide) (fun c61 => ?_) (fun c61 => absurd (by decide) c61)
    exact pw_vret dX12_laysToGo_125 rfl rfl rfl
  | succ r ih =>
    intro A x4 x5 hr hG
    obtain ⟨F, kk, hF2⟩ := l_laysToGo4 (G := G) (d := d) (V := V) (B := B) (Q := Q) (t := t) (sl := sl) hF hn12 hin (show r < n by omega) (fun A1 x5 h1 => by
      obtain ⟨F, kk, hF2⟩ := ih A1 (some (.int (dI 5))) x5 (by omega) h1
      refine ⟨F, ?_, hF2⟩
      refine pw_iinc3 (v := -1) dX12_laysToGo_119 (by decide) (by decide) (k := ?_)
      refine pw_goto (tgt := 60) dX12_laysToGo_122 (by decide) ?_
      rw [pI_m]
      exact kk) 5 0 A x5 rfl hG.start
    refine ⟨F, ?_, hF2⟩
    rw [pI_s]
    refine pw_iload3 dX12_laysToGo_60 ?_
    refine pw_if_lt (tgt := 125) dX12_laysToGo_61 (by decide) (fun c61 => absurd c61 (by rw [lt_i (ix_n (j := r) (by omega)) li_0]; omega)) (fun c61 => ?_)
    refine pw_bipush (v := -2) dX12_laysToGo_64 (by decide) ?_
    rw [show (-2 : Int32) = dI 0 from rfl]
    refine pw_istore4 dX12_laysToGo_66 (by decide) (k := ?_)
    exact kk
set_option maxRecDepth 20000 in
theorem c_laysToGo {G : gT} {d : Nat} {S : sS} {V : sV} {P : sP} {A : sV} {B : sB} {Q : sP} {t sl o : Nat} (hF : MF S P o) {n : Nat} (hn12 : n ≤ 12) {goal : Int32} (hin : ∀ b l s w, b < n → l < 5 → s < 41 → w < 5 → rT (A (o + 7)) b l s w ≠ (-268435456) → rf_in s w = true) : ∃ F : sV, PW G (d + 4) mX12_laysToGo 0 [some (.ref o), some (.int (nI n)), some (.int goal), none, none, none] [] (t, sl, gh S V P A B Q) none (t, sl, gh S V P F B Q) ∧ TG o A (rT (A (o + 7))) (rf_k (A (o + 10)) (V o 24)) n (rf_e goal) 0 F := by
  obtain ⟨F, kk, h⟩ := l_laysToGo2 (G := G) (d := d) (V := V) (B := B) (Q := Q) (t := t) (sl := sl) (A0 := A) (goal := goal) hF hn12 hin (fun A1 x4 h1 => by
    obtain ⟨F, kk, hF2⟩ := l_laysToGo5 (G := G) (d := d) (V := V) (B := B) (Q := Q) (t := t) (sl := sl) (A0 := A) (goal := goal) hF hn12 hin n A1 x4 none (Nat.le_refl n) h1
    refine ⟨F, ?_, hF2⟩
    refine pw_iload1 dX12_laysToGo_56 ?_
    refine pw_iconst (v := 1) dX12_laysToGo_57 (by decide) ?_
    refine pw_isub dX12_laysToGo_58 ?_
    rw [pI_n]
    refine pw_istore3 dX12_laysToGo_59 (by decide) (k := ?_)
    exact kk) 5 0 A none rfl ⟨⟨fun _ _ => rfl, fun b h1 h2 => by omega⟩, fun _ _ _ _ q => by omega⟩
  refine ⟨F, ?_, h⟩
  refine pw_bipush (v := -2) dX12_laysToGo_0 (by decide) ?_
  rw [show (-2 : Int32) = dI 0 from rfl]
  refine pw_istore3 dX12_laysToGo_2 (by decide) (k := ?_)
  exact kk
