/-! ===== the reference: least, gladdest, squarest, lends, reply ===== -/
def up1 (f : Nat → Bool) : Nat → Nat → Int32
  | 0, _ => -99000001
  | m + 1, k => if f k then sI k else up1 f m (k + 1)
set_option maxRecDepth 20000 in
theorem q_laysRow {G : gT} {d : Nat} {S : sS} {V : sV} {P : sP} {A : sV} {B : sB} {Q : sP} {t sl o : Nat} (hF : MF S P o) {n : Nat} (hn12 : n ≤ 12) {e : Nat → Int32} {T : Nat → Nat → Nat → Nat → Int32} {kp : Nat → Nat → Bool} (hTT : ∀ b l s w, b < n → l < 5 → s < 41 → w < 5 → rT (A (o + 7)) b l s w = T b l s w) (hk : ∀ b w, b < n → w < 5 → rf_k (A (o + 10)) (V o 24) b w = kp b w) (hin : ∀ b l s w, b < n → l < 5 → s < 41 → w < 5 → T b l s w ≠ (-268435456) → rf_in s w = true) (hT : ∀ b, b ≤ n → ∀ l s, l < 5 → s < 41 → A (o + 8) ((5 * b + l) * 41 + s) = rf_T (rT (A (o + 7))) (rf_k (A (o + 10)) (V o 24)) n e (n - b) l s) {s0 : Nat} (h0 : s0 < 41) : ∃ V' A' : sV, PW G (d + 3) mX12_laysRow 0 [some (.ref o), some (.int (nI n)), some (.int (sI s0)), none, none, none] [] (t, sl, gh S V P A B Q) (some (.int (bI (decide (rf_T T kp n e n 2 s0 ≠ (-268435456)))))) (t, sl, gh S V' P A' B Q) ∧ (∀ a, a ≠ o + 9 → A' a = A a) ∧ (∀ a, a ≠ o → V' a = V a) ∧ (∀ k, k ≠ 20 → k ≠ 21 → V' o k = V o k) ∧ V' o 20 = rf_T T kp n e n 2 s0 ∧ (rf_T T kp n e n 2 s0 ≠ (-268435456) → V' o 21 = sI (rf_st T kp n e s0 n).2 ∧ ∀ b, b < n → A' (o + 9) b = dI (rf_st T kp n e s0 (b + 1)).1) := by
  have hin2 : ∀ b l s w, b < n → l < 5 → s < 41 → w < 5 → rT (A (o + 7)) b l s w ≠ (-268435456) → rf_in s w = true := fun b l s w hb hl hs hw h => hin b l s w hb hl hs hw (by rw [← hTT b l s w hb hl hs hw]; exact h)
  have e1 : rf_T (rT (A (o + 7))) (rf_k (A (o + 10)) (V o 24)) n e n 2 s0 = rf_T T kp n e n 2 s0 := rf_T_cong hTT hk hin n (Nat.le_refl _) 2 s0 (by decide) h0
  by_cases hc : rf_T T kp n e n 2 s0 = (-268435456)
  · have k := c_laysRow0 (G := G) (d := d) (V := V) (A := A) (B := B) (Q := Q) (t := t) (sl := sl) hF hn12 hin2 hT h0 (e1.trans hc)
    have kb : bI (decide (rf_T T kp n e n 2 s0 ≠ (-268435456))) = 0 := by rw [decide_eq_false (fun q => q hc)]; rfl
    rw [kb]
    exact ⟨_, A, k, fun _ _ => rfl, fun a ha => up2_na ha, fun k h1 h2 => up2_nk h1, by rw [up2_eq, hc], fun q => absurd hc q⟩
  · obtain ⟨R, k, hR⟩ := c_laysRow1 (G := G) (d := d) (V := V) (A := A) (B := B) (Q := Q) (t := t) (sl := sl) hF hn12 hin2 hT h0 (by rw [e1]; exact hc)
    have es := rf_st_cong h0 hTT hk hin hc
    have kb : bI (decide (rf_T T kp n e n 2 s0 ≠ (-268435456))) = 1 := by rw [decide_eq_true hc]; rfl
    rw [kb]
    exact ⟨_, _, k, fun a ha => pm_up_ne ha, fun a ha => by rw [up2_na ha, up2_na ha], fun k h1 h2 => by rw [up2_nk h2, up2_nk h1], by rw [up2_nk (by decide), up2_eq, e1], fun _ => ⟨by rw [up2_eq, es n (Nat.le_refl _)], fun b hb => by rw [pm_up_eq, hR, if_pos hb, es (b + 1) (by omega)]⟩⟩
set_option maxRecDepth 20000 in
theorem q_laysBestB {G : gT} {d : Nat} {S : sS} {V : sV} {P : sP} {A : sV} {B : sB} {Q : sP} {t sl o : Nat} (hF : MF S P o) (hD : DV (A (o + 1))) (hK : KV ((A (o + 1)) 2).toInt (fun k => (A (o + 1)) (75 + k))) {p q : Nat} (hp : p < 5) (hq : q < 4) (goal : Int32) : ∃ V' A' : sV, PW G (d + 5) mX12_laysBest 0 [some (.ref o), some (.int (nI p)), some (.int (nI q)), some (.int goal)] [] (t, sl, gh S V P A B Q) (some (.int (bI (decide (bsT (A (o + 1)) p q goal ≠ -268435456))))) (t, sl, gh S V' P A' B Q) ∧ (∀ a, a < o + 5 ∨ o + 10 < a → A' a = A a) ∧ FV o V V' ∧ (∀ s, s < 41 → A' (o + 8) (82 + s) = rf_T (TT (A (o + 1)) p q) kpA (lgN (A (o + 1)) q) (rf_e goal) (lgN (A (o + 1)) q) 2 s) := by
  obtain ⟨V', A', kb, hb⟩ := c_laysBest (G := G) (d := d) (V := V) (A := A) (B := B) (Q := Q) (t := t) (sl := sl) hF hp hq (hD.lgE hq).2 (hD.lgE hq).1 (hK.stE hp).1 (hK.stE hp).2 hD.gl hD.ml goal
  exact ⟨V', A', kb, hb.1, hb.FV, hb.2.2.2.2.1⟩
def sp_least (al : Nat → Int32) (x y : Int) (goal gl : Int32) : Int32 := if isP al x && isQ al y then (if isS goal.toInt then up1 (fun s => decide (rf_T (TT al x.toNat y.toNat) kpA (lgN al y.toNat) (rf_e goal) (lgN al y.toNat) 2 s ≠ -268435456) && decide (gl ≤ rf_T (TT al x.toNat y.toNat) kpA (lgN al y.toNat) (rf_e goal) (lgN al y.toNat) 2 s)) 41 0 else -99000003) else -99000002
set_option maxRecDepth 20000 in
theorem l_least {G : gT} {d : Nat} {S : sS} {V : sV} {P : sP} {A : sV} {B : sB} {Q : sP} {t sl o : Nat} (hF : MF S P o) {T : Nat → Int32} (hT : ∀ s, s < 41 → A (o + 8) (82 + s) = T s) {x1 x2 x3 gl : Int32} : ∀ (m k : Nat), k + m = 41 → WQ G (d + 1) mX12_least 40 [some (.ref o), some (.int x1), some (.int x2), some (.int x3), some (.int gl), some (.int (sI k))] [] (t, sl, gh S V P A B Q) (fun r h' => r = some (.int (up1 (fun s => decide (T s ≠ (-268435456)) && decide (gl ≤ T s)) m k)) ∧ h' = (t, sl, gh S V P A B Q)) := by
  intro m
  induction m with
  | zero =>
    intro k hk
    have hk : k = 41 := hk
    subst hk
    refine WQ.st (fun _ _ kz => pw_iload5 dX12_least_40 kz) ?_
    refine WQ.st (fun _ _ kz => pw_bipush (v := 20) dX12_least_42 (by decide) kz) ?_
    refine WQ.br (fun _ _ ka kb => pw_icmp_gt (tgt := 91) dX12_least_44 (by decide) ka kb) (fun c44 => ?_) (fun c44 => absurd (by decide) c44)
    refine WQ.st (fun _ _ kz => pw_ldcw kX12_422 dX12_least_91 kz) ?_
    refine ⟨_, _, pw_iret dX12_least_94 rfl rfl rfl rfl, ?_⟩
    exact ⟨rfl, rfl⟩
  | succ m ih =>
    intro k hk
    refine WQ.st (fun _ _ kz => pw_iload5 dX12_least_40 kz) ?_
    refine WQ.st (fun _ _ kz => pw_bipush (v := 20) dX12_least_42 (by decide) kz) ?_
    refine WQ.br (fun _ _ ka kb => pw_icmp_gt (tgt := 91) dX12_least_44 (by decide) ka kb) (fun c44 => absurd c44 (by rw [lt_i (show (20 : Int32).toInt = 20 by decide) (sI_t (by omega))]; omega)) (fun c44 => ?_)
    refine WQ.st (fun _ _ kz => pw_aload0 dX12_least_47 kz) ?_
    refine WQ.st (fun _ _ kz => pw_getr gX12_39 dX12_least_48 hF.1 (mf_p18 hF) kz) ?_
    refine WQ.st (fun _ _ kz => pw_iconst (v := 0) dX12_least_51 (by decide) kz) ?_
    refine WQ.st (fun _ _ kz => pw_iconst (v := 0) dX12_least_52 (by decide) kz) ?_
    refine WQ.st (fun _ _ kz => pw_iload5 dX12_least_53 kz) ?_
    refine WQ.st (fun _ _ kz => pw_s3i wX12_spot lX12_262 dX12_least_55 (c_spotI 0 2 k) rfl (Nat.le_of_ble_eq_true rfl) (Nat.le_of_ble_eq_true rfl) kz) ?_
    refine WQ.st (fun _ _ kz => pw_ald (j := 82 + k) dX12_least_58 (mf_s8 hF) (ix_m (by omega) (by omega)) (by omega) kz) ?_
    rw [hT k (by omega)]
    refine WQ.st (fun _ _ kz => pw_ldcw kX12_273 dX12_least_59 kz) ?_
    refine WQ.br (fun _ _ ka kb => pw_icmp_eq (tgt := 85) dX12_least_62 (by decide) ka kb) (fun c62 => ?_) (fun c62 => ?_)
    · refine WQ.st (fun _ _ kz => pw_iinc5 (v := 1) dX12_least_85 (by decide) (by decide) (k := kz)) ?_
      refine WQ.st (fun _ _ kz => pw_goto (tgt := 40) dX12_least_88 (by decide) kz) ?_
      rw [sI_1]
      rw [up1, if_neg (by rw [c62]; simp)]
      exact ih (k + 1) (by omega)
    · refine WQ.st (fun _ _ kz => pw_aload0 dX12_least_65 kz) ?_
      refine WQ.st (fun _ _ kz => pw_getr gX12_39 dX12_least_66 hF.1 (mf_p18 hF) kz) ?_
      refine WQ.st (fun _ _ kz => pw_iconst (v := 0) dX12_least_69 (by decide) kz) ?_
      refine WQ.st (fun _ _ kz => pw_iconst (v := 0) dX12_least_70 (by decide) kz) ?_
      refine WQ.st (fun _ _ kz => pw_iload5 dX12_least_71 kz) ?_
      refine WQ.st (fun _ _ kz => pw_s3i wX12_spot lX12_262 dX12_least_73 (c_spotI 0 2 k) rfl (Nat.le_of_ble_eq_true rfl) (Nat.le_of_ble_eq_true rfl) kz) ?_
      refine WQ.st (fun _ _ kz => pw_ald (j := 82 + k) dX12_least_76 (mf_s8 hF) (ix_m (by omega) (by omega)) (by omega) kz) ?_
      rw [hT k (by omega)]
      refine WQ.st (fun _ _ kz => pw_iload4 dX12_least_77 kz) ?_
      refine WQ.br (fun _ _ ka kb => pw_icmp_lt (tgt := 85) dX12_least_79 (by decide) ka kb) (fun c79 => ?_) (fun c79 => ?_)
      · refine WQ.st (fun _ _ kz => pw_iinc5 (v := 1) dX12_least_85 (by decide) (by decide) (k := kz)) ?_
        refine WQ.st (fun _ _ kz => pw_goto (tgt := 40) dX12_least_88 (by decide) kz) ?_
        rw [sI_1]
        rw [up1, if_neg (by rw [decide_eq_false (fun q => absurd c79 (Int32.not_lt.mpr q))]; simp)]
        exact ih (k + 1) (by omega)
      · refine WQ.st (fun _ _ kz => pw_iload5 dX12_least_82 kz) ?_
        refine ⟨_, _, pw_iret dX12_least_84 rfl rfl rfl rfl, ?_⟩
        rw [up1, if_pos (by rw [decide_eq_true c62, decide_eq_true (Int32.not_lt.mp c79)]; rfl)]
        exact ⟨rfl, rfl⟩
set_option maxRecDepth 20000 in
theorem p_least {G : gT} {d : Nat} {S : sS} {V : sV} {P : sP} {A : sV} {B : sB} {Q : sP} {t sl o : Nat} (hF : MF S P o) (hA : AV (A (o + 1)))  (x y g gl : Int32) : WQ G (d + 9) mX12_least 0 [some (.ref o), some (.int x), some (.int y), some (.int g), some (.int gl), none] [] (t, sl, gh S V P A B Q) (PZ o S P Q t sl V A B (.int (sp_least (A (o + 1)) x.toInt y.toInt g gl)) (A (o + 1))) := by
  refine WQ.st (fun _ _ kz => pw_aload0 dX12_least_0 kz) ?_
  refine WQ.st (fun _ _ kz => pw_iconst (v := 0) dX12_least_1 (by decide) kz) ?_
  refine WQ.st (fun _ _ kz => pw_puti (pX12_1 _ rfl) dX12_least_2 hF.1 rfl rfl kz) ?_
  refine WQ.st (fun _ _ kz => pw_aload0 dX12_least_5 kz) ?_
  refine WQ.st (fun _ _ kz => pw_iload1 dX12_least_6 kz) ?_
  refine WQ.st (fun _ _ kz => pw_iload2 dX12_least_7 kz) ?_
  obtain ⟨_, _, k8, rfl, rfl⟩ := c_areBoth (d := d + 6) (P := P) (S := S) (G := G) (V := (up2 V o 0 0)) (A := A) (B := B) (Q := Q) (t := t) (sl := sl) hF hA.dv x y
  refine WQ.st (fun _ _ kz => pw_o2i wX12_areBoth lX12_413 rfl dX12_least_8 hF.1 (k8) rfl (Nat.le_of_ble_eq_true rfl) (Nat.le_of_ble_eq_true rfl) kz) ?_
  refine WQ.bn (fun _ _ ka kb => pw_if_ne (tgt := 17) dX12_least_11 (by decide) ka kb) (fun c11 => ?_) (fun c11 => ?_)
  · rw [bI_n] at c11
    have hb11 := Bool.and_eq_true _ _ |>.mp c11
    have hp5 := hA.dv.p5
    have hn4 := hA.dv.n4
    have g1p := isP_t hb11.1
    have g2q := isQ_t hb11.2
    obtain ⟨p, ep, tp, lp⟩ := nI_get g1p.1 g1p.2 (by omega)
    obtain ⟨q, eq, tq, lq⟩ := nI_get g2q.1 g2q.2 (by omega)
    have hp : p < 5 := by omega
    have hq : q < 4 := by omega
    
    refine WQ.st (fun _ _ kz => pw_iload3 dX12_least_17 kz) ?_
    refine WQ.st (fun _ _ kz => pw_i2l dX12_least_18 kz) ?_
    refine WQ.st (fun _ _ kz => pw_s1i wX12_isStore lX12_240 dX12_least_19 (c_isStoreI _) rfl (Nat.le_of_ble_eq_true rfl) (Nat.le_of_ble_eq_true rfl) kz) ?_
    refine WQ.bn (fun _ _ ka kb => pw_if_ne (tgt := 28) dX12_least_22 (by decide) ka kb) (fun c22 => ?_) (fun c22 => ?_)
    · rw [bI_n] at c22
      rw [il_t] at c22
      rw [ep, eq]
      refine WQ.st (fun _ _ kz => pw_aload0 dX12_least_28 kz) ?_
      refine WQ.st (fun _ _ kz => pw_iload1 dX12_least_29 kz) ?_
      refine WQ.st (fun _ _ kz => pw_iload2 dX12_least_30 kz) ?_
      refine WQ.st (fun _ _ kz => pw_iload3 dX12_least_31 kz) ?_
      obtain ⟨V2, A2, k2, b1, b2, b4⟩ := q_laysBestB (d := d + 3) (P := P) (S := S) (G := G) (V := (up2 V o 0 0)) (A := A) (B := B) (Q := Q) (t := t) (sl := sl) hF hA.dv hA.kv hp hq g
      refine WQ.st (fun _ _ kz => pw_o3i wX12_laysBest lX12_323 rfl dX12_least_32 hF.1 (k2) rfl (Nat.le_of_ble_eq_true rfl) (Nat.le_of_ble_eq_true rfl) kz) ?_
      refine WQ.st (fun _ _ kz => pw_pop dX12_least_35 rfl kz) ?_
      refine WQ.st (fun _ _ kz => pw_bipush (v := -20) dX12_least_36 (by decide) kz) ?_
      refine WQ.st (fun _ _ kz => pw_istore5 dX12_least_38 (by decide) (k := kz)) ?_
      rw [show (-20 : Int32) = sI 0 from rfl]
      refine (l_least (d := d + 8) (P := P) (S := S) (G := G) (V := V2) (A := A2) (B := B) (Q := Q) (t := t) (sl := sl) hF b4 (x1 := nI p) (x2 := nI q) (x3 := g) (gl := gl) 41 0 rfl).imp (fun r h' z => ?_)
      obtain ⟨rfl, rfl⟩ := z
      have c0 : sp_least (A (o + 1)) x.toInt y.toInt g gl = up1 (fun s => decide (rf_T (TT (A (o + 1)) p q) kpA (lgN (A (o + 1)) q) (rf_e g) (lgN (A (o + 1)) q) 2 s ≠ -268435456) && decide (gl ≤ rf_T (TT (A (o + 1)) p q) kpA (lgN (A (o + 1)) q) (rf_e g) (lgN (A (o + 1)) q) 2 s)) 41 0 := by
        unfold sp_least
        rw [if_pos c11, if_pos c22, tp, tq, Int.toNat_natCast, Int.toNat_natCast]
      rw [← ep, ← eq, c0]
      exact PZ.q ((FP.up (by decide)).tr b2.FP) (fun a ha => b1 a (by omega)) FB.rfl
    · rw [bI_0] at c22
      rw [il_t] at c22
      refine WQ.st (fun _ _ kz => pw_ldc kX12_206 dX12_least_25 kz) ?_
      refine ⟨_, _, pw_iret dX12_least_27 rfl rfl rfl rfl, ?_⟩
      have c0 : sp_least (A (o + 1)) x.toInt y.toInt g gl = -99000003 := by unfold sp_least; rw [if_pos c11, if_neg (by rw [c22]; decide)]
      rw [c0]
      exact PZ.q (FP.up (by decide)) FQ.rfl FB.rfl
  · rw [bI_0] at c11
    refine WQ.st (fun _ _ kz => pw_ldc kX12_247 dX12_least_14 kz) ?_
    refine ⟨_, _, pw_iret dX12_least_16 rfl rfl rfl rfl, ?_⟩
    have c0 : sp_least (A (o + 1)) x.toInt y.toInt g gl = -99000002 := by unfold sp_least; rw [if_neg (by rw [c11]; decide)]
    rw [c0]
    exact PZ.q (FP.up (by decide)) FQ.rfl FB.rfl
def sp_gd (f : Nat → Int32) : Nat → Nat → Int32 → Int32 → Int32
  | 0, _, b, _ => b
  | m + 1, p, b, mo => if f p ≠ -268435456 ∧ mo < f p then sp_gd f m (p + 1) (nI p) (f p) else sp_gd f m (p + 1) b mo
def sp_glst (al : Nat → Int32) (x : Int) : Int32 := if isQ al x then sp_gd (fun p => bsT al p x.toNat 0) (al 2).toInt.toNat 0 (-1) (-268435456) else -99000002
set_option maxRecDepth 20000 in
theorem l_gladdest {G : gT} {d : Nat} {S : sS} {P : sP} {B : sB} {Q : sP} {t sl o : Nat} (hF : MF S P o) {V0 A0 : sV} (hD : DV (A0 (o + 1))) (hK : KV ((A0 (o + 1)) 2).toInt (fun k => (A0 (o + 1)) (75 + k))) {q N : Nat} (hq : q < 4) (hN5 : N ≤ 5) (hN : (A0 (o + 1)) 2 = nI N) : ∀ (m k : Nat) (b mo : Int32) (V A : sV), k + m = N → FV o V0 V → FA o A0 A → WQ G (d + 6) mX12_gladdest 26 [some (.ref o), some (.int (nI q)), some (.int b), some (.int mo), some (.int (nI k))] [] (t, sl, gh S V P A B Q) (fun r h' => r = some (.int (sp_gd (fun p => bsT (A0 (o + 1)) p q 0) m k b mo)) ∧ ∃ V' A' : sV, h' = (t, sl, gh S V' P A' B Q) ∧ FV o V0 V' ∧ FA o A0 A') := by
  intro m
  induction m with
  | zero =>
    intro k b mo V A hk hV hA0
    have hk : k = N := hk
    subst hk
    have hal : A (o + 1) = (A0 (o + 1)) := hA0 _ (by omega)
    refine WQ.st (fun _ _ kz => pw_iload4 dX12_gladdest_26 kz) ?_
    refine WQ.st (fun _ _ kz => pw_aload0 dX12_gladdest_28 kz) ?_
    refine WQ.st (fun _ _ kz => pw_getr gX12_13 dX12_gladdest_29 hF.1 (mf_p1 hF) kz) ?_
    refine WQ.st (fun _ _ kz => pw_iconst (v := 2) dX12_gladdest_32 (by decide) kz) ?_
    refine WQ.st (fun _ _ kz => pw_ald (j := 2) dX12_gladdest_33 (mf_s1 hF) rfl (by omega) kz) ?_
    rw [hal, hN]
    refine WQ.br (fun _ _ ka kb => pw_icmp_ge (tgt := 73) dX12_gladdest_34 (by decide) ka kb) (fun c34 => ?_) (fun c34 => absurd (Int32.le_refl _) c34)
    refine WQ.st (fun _ _ kz => pw_iload2 dX12_gladdest_73 kz) ?_
    refine ⟨_, _, pw_iret dX12_gladdest_74 rfl rfl rfl rfl, ?_⟩
    exact ⟨rfl, V, A, rfl, hV, hA0⟩
  | succ m ih =>
    intro k b mo V A hk hV hA0
    have hal : A (o + 1) = (A0 (o + 1)) := hA0 _ (by omega)
    refine WQ.st (fun _ _ kz => pw_iload4 dX12_gladdest_26 kz) ?_
    refine WQ.st (fun _ _ kz => pw_aload0 dX12_gladdest_28 kz) ?_
    refine WQ.st (fun _ _ kz => pw_getr gX12_13 dX12_gladdest_29 hF.1 (mf_p1 hF) kz) ?_
    refine WQ.st (fun _ _ kz => pw_iconst (v := 2) dX12_gladdest_32 (by decide) kz) ?_
    refine WQ.st (fun _ _ kz => pw_ald (j := 2) dX12_gladdest_33 (mf_s1 hF) rfl (by omega) kz) ?_
    rw [hal, hN]
    refine WQ.br (fun _ _ ka kb => pw_icmp_ge (tgt := 73) dX12_gladdest_34 (by decide) ka kb) (fun c34 => absurd c34 (by rw [le_i (ix_n (j := N) (by omega)) (ix_n (j := k) (by omega))]; omega)) (fun c34 => ?_)
    refine WQ.st (fun _ _ kz => pw_aload0 dX12_gladdest_37 kz) ?_
    refine WQ.st (fun _ _ kz => pw_iload4 dX12_gladdest_38 kz) ?_
    refine WQ.st (fun _ _ kz => pw_iload1 dX12_gladdest_40 kz) ?_
    refine WQ.st (fun _ _ kz => pw_iconst (v := 0) dX12_gladdest_41 (by decide) kz) ?_
    obtain ⟨V2, A2, k2, b1, b2, b3, b4, b5⟩ := q_laysBest (d := d) (P := P) (S := S) (G := G) (V := V) (A := A) (B := B) (Q := Q) (t := t) (sl := sl) hF (by rw [hal]; exact hD) (by rw [hal]; exact hK) (show k < 5 by omega) hq 0
    rw [hal] at k2 b3
    refine WQ.st (fun _ _ kz => pw_o3i wX12_laysBest lX12_323 rfl dX12_gladdest_42 hF.1 (k2) rfl (Nat.le_of_ble_eq_true rfl) (Nat.le_of_ble_eq_true rfl) kz) ?_
    refine WQ.br (fun _ _ ka kb => pw_if_eq (tgt := 67) dX12_gladdest_45 (by decide) ka kb) (fun c45 => ?_) (fun c45 => ?_)
    · rw [bI_0] at c45
      have c45 := Classical.not_not.mp (of_decide_eq_false c45)
      refine WQ.st (fun _ _ kz => pw_iinc4 (v := 1) dX12_gladdest_67 (by decide) (by decide) (k := kz)) ?_
      refine WQ.st (fun _ _ kz => pw_goto (tgt := 26) dX12_gladdest_70 (by decide) kz) ?_
      rw [nI_1]
      refine (ih (k + 1) b mo V2 A2 (by omega) (hV.tr b2) (hA0.tr b1)).imp (fun r h' z => ?_)
      rw [sp_gd, if_neg (fun q => q.1 c45)]
      exact z
    · rw [bI_n] at c45
      have c45 := of_decide_eq_true c45
      refine WQ.st (fun _ _ kz => pw_aload0 dX12_gladdest_48 kz) ?_
      refine WQ.st (fun _ _ kz => pw_geti gX12_290 dX12_gladdest_49 hF.1 kz) ?_
      rw [b3]
      refine WQ.st (fun _ _ kz => pw_iload3 dX12_gladdest_52 kz) ?_
      refine WQ.br (fun _ _ ka kb => pw_icmp_gt (tgt := 59) dX12_gladdest_53 (by decide) ka kb) (fun c53 => ?_) (fun c53 => ?_)
      · refine WQ.st (fun _ _ kz => pw_iload4 dX12_gladdest_59 kz) ?_
        refine WQ.st (fun _ _ kz => pw_istore2 dX12_gladdest_61 (by decide) (k := kz)) ?_
        refine WQ.st (fun _ _ kz => pw_aload0 dX12_gladdest_62 kz) ?_
        refine WQ.st (fun _ _ kz => pw_geti gX12_290 dX12_gladdest_63 hF.1 kz) ?_
        rw [b3]
        refine WQ.st (fun _ _ kz => pw_istore3 dX12_gladdest_66 (by decide) (k := kz)) ?_
        refine WQ.st (fun _ _ kz => pw_iinc4 (v := 1) dX12_gladdest_67 (by decide) (by decide) (k := kz)) ?_
        refine WQ.st (fun _ _ kz => pw_goto (tgt := 26) dX12_gladdest_70 (by decide) kz) ?_
        rw [nI_1]
        refine (ih (k + 1) (nI k) (bsT (A0 (o + 1)) k q 0) V2 A2 (by omega) (hV.tr b2) (hA0.tr b1)).imp (fun r h' z => ?_)
        rw [sp_gd, if_pos ⟨c45, c53⟩]
        exact z
      · refine WQ.st (fun _ _ kz => pw_goto (tgt := 67) dX12_gladdest_56 (by decide) kz) ?_
        refine WQ.st (fun _ _ kz => pw_iinc4 (v := 1) dX12_gladdest_67 (by decide) (by decide) (k := kz)) ?_
        refine WQ.st (fun _ _ kz => pw_goto (tgt := 26) dX12_gladdest_70 (by decide) kz) ?_
        rw [nI_1]
        refine (ih (k + 1) b mo V2 A2 (by omega) (hV.tr b2) (hA0.tr b1)).imp (fun r h' z => ?_)
        rw [sp_gd, if_neg (fun q => c53 q.2)]
        exact z
set_option maxRecDepth 20000 in
theorem p_gladdest {G : gT} {d : Nat} {S : sS} {V : sV} {P : sP} {A : sV} {B : sB} {Q : sP} {t sl o : Nat} (hF : MF S P o) (hA : AV (A (o + 1)))  (x : Int32) : WQ G (d + 9) mX12_gladdest 0 [some (.ref o), some (.int x), none, none, none] [] (t, sl, gh S V P A B Q) (PZ o S P Q t sl V A B (.int (sp_glst (A (o + 1)) x.toInt)) (A (o + 1))) := by
  refine WQ.st (fun _ _ kz => pw_aload0 dX12_gladdest_0 kz) ?_
  refine WQ.st (fun _ _ kz => pw_iconst (v := 0) dX12_gladdest_1 (by decide) kz) ?_
  refine WQ.st (fun _ _ kz => pw_puti (pX12_1 _ rfl) dX12_gladdest_2 hF.1 rfl rfl kz) ?_
  refine WQ.st (fun _ _ kz => pw_aload0 dX12_gladdest_5 kz) ?_
  refine WQ.st (fun _ _ kz => pw_iload1 dX12_gladdest_6 kz) ?_
  refine WQ.st (fun _ _ kz => pw_i2l dX12_gladdest_7 kz) ?_
  refine WQ.st (fun _ _ kz => pw_o1i wX12_isPiece lX12_248 rfl dX12_gladdest_8 hF.1 (c_isPiece hF hA.dv _) rfl (Nat.le_of_ble_eq_true rfl) (Nat.le_of_ble_eq_true rfl) kz) ?_
  refine WQ.bn (fun _ _ ka kb => pw_if_ne (tgt := 17) dX12_gladdest_11 (by decide) ka kb) (fun c11 => ?_) (fun c11 => ?_)
  · rw [bI_n] at c11
    rw [il_t] at c11
    have hp5 := hA.dv.p5
    have hn4 := hA.dv.n4
    have g2 := isQ_t c11
    obtain ⟨q, eq, tq, lq⟩ := nI_get g2.1 g2.2 (by omega)
    have hq : q < 4 := by omega
    rw [eq]
    refine WQ.st (fun _ _ kz => pw_iconst (v := -1) dX12_gladdest_17 (by decide) kz) ?_
    refine WQ.st (fun _ _ kz => pw_istore2 dX12_gladdest_18 (by decide) (k := kz)) ?_
    refine WQ.st (fun _ _ kz => pw_ldcw kX12_273 dX12_gladdest_19 kz) ?_
    refine WQ.st (fun _ _ kz => pw_istore3 dX12_gladdest_22 (by decide) (k := kz)) ?_
    refine WQ.st (fun _ _ kz => pw_iconst (v := 0) dX12_gladdest_23 (by decide) kz) ?_
    refine WQ.st (fun _ _ kz => pw_istore4 dX12_gladdest_24 (by decide) (k := kz)) ?_
    refine (l_gladdest (S := S) (P := P) (G := G) (B := B) (Q := Q) (t := t) (sl := sl) (d := d + 3) hF (V0 := up2 V o 0 0) (A0 := A) hA.dv hA.kv (N := (A (o + 1) 2).toInt.toNat) hq (by omega) (nI_ofI hp5.1) _ 0 (-1) (-268435456) _ A (Nat.zero_add _) FV.rfl FA.rfl).imp (fun r h' z => ?_)
    obtain ⟨rfl, V2, A2, rfl, f1, f2⟩ := z
    have c0 : sp_glst (A (o + 1)) x.toInt = sp_gd (fun p => bsT (A (o + 1)) p q 0) (A (o + 1) 2).toInt.toNat 0 (-1) (-268435456) := by unfold sp_glst; rw [if_pos c11, tq, Int.toNat_natCast]
    rw [← eq, c0]
    exact PZ.q ((FP.up (by decide)).tr f1.FP) f2.FQ FB.rfl
  · rw [bI_0] at c11
    rw [il_t] at c11
    refine WQ.st (fun _ _ kz => pw_ldc kX12_247 dX12_gladdest_14 kz) ?_
    refine ⟨_, _, pw_iret dX12_gladdest_16 rfl rfl rfl rfl, ?_⟩
    have c0 : sp_glst (A (o + 1)) x.toInt = -99000002 := by unfold sp_glst; rw [if_neg (by rw [c11]; decide)]
    rw [c0]
    exact PZ.q (FP.up (by decide)) FQ.rfl FB.rfl
