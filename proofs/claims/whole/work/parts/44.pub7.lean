/-! ===== the reference: rows ===== -/
theorem rf_c_ck {T : Nat → Nat → Nat → Nat → Int32} {kp kp' : Nat → Nat → Bool} {s0 n : Nat} (hk : ∀ b w, b < n → w < 5 → kp b w = kp' b w) : ∀ b, b ≤ n → ∀ l s, l < 5 → rf_c T kp s0 b l s = rf_c T kp' s0 b l s
  | 0, _, _, _, _ => rfl
  | b + 1, hb, w, t, hw => by
    rw [rf_c, rf_c]
    refine sm_cong 5 (fun l hl => ?_)
    unfold ctr
    rw [hk b w (by omega) hw, rf_c_ck hk b (by omega) l (t + w - 2) hl]
set_option maxRecDepth 20000 in
theorem q_laysMany {G : gT} {d : Nat} {S : sS} {V : sV} {P : sP} {A : sV} {B : sB} {Q : sP} {t sl o : Nat} (hF : MF S P o) (hD : DV (A (o + 1))) (hK : KV ((A (o + 1)) 2).toInt (fun k => (A (o + 1)) (75 + k))) {p q : Nat} (hp : p < 5) (hq : q < 4) {kp : Nat → Nat → Bool} (hk : ∀ b w, b < lgN (A (o + 1)) q → w < 5 → rf_k (A (o + 10)) (V o 24) b w = kp b w) : ∃ (A' : sV) (B' : sB), PW G (d + 6) mX12_laysMany 0 [some (.ref o), some (.int (nI p)), some (.int (nI q)), none, none, none, none] [] (t, sl, gh S V P A B Q) none (t, sl, gh S V P A' B' Q) ∧ (∀ a, a < o + 5 ∨ o + 7 < a → A' a = A a) ∧ FB o B B' ∧ ∀ l s, l < 5 → s < 41 → B' (o + 12) (l * 41 + s) = lN (rf_c (TT (A (o + 1)) p q) kp (stN (A (o + 1)) p) (lgN (A (o + 1)) q) l s) := by
  obtain ⟨A', B', k, h1, h2, h3⟩ := c_laysMany (G := G) (d := d) (V := V) (A := A) (B := B) (Q := Q) (t := t) (sl := sl) hF hp hq (hD.lgE hq).2 (hD.lgE hq).1 (hK.stE hp).1 (hK.stE hp).2 hD.gl hD.ml
  refine ⟨A', B', k, h1, h2, fun l s hl hs => ?_⟩
  rw [h3 l s hl hs]
  exact congrArg lN (rf_c_ck hk _ (Nat.le_refl _) l s hl)
theorem q_endsWith {G : gT} {d : Nat} {S : sS} {V : sV} {P : sP} {A : sV} {B : sB} {Q : sP} {t sl o : Nat} (hF : MF S P o) {c : Nat → Nat → Nat} (hB : ∀ l s, l < 5 → s < 41 → B (o + 12) (l * 41 + s) = lN (c l s)) {s : Nat} (hs : s < 41) : PW G (d + 1) mX12_endsWith 0 [some (.ref o), some (.int (sI s)), none, none, none] [] (t, sl, gh S V P A B Q) (some (.long (lN (sm (fun l => c l s) 5)))) (t, sl, gh S V P A B Q) := by
  have ke := c_endsWith (G := G) (d := d) (V := V) (A := A) (B := B) (Q := Q) (t := t) (sl := sl) hF hs
  have hv : smL (fun l => B (o + 12) (l * 41 + s)) 0 0 5 = lN (sm (fun l => c l s) 5) := by
    have := smL_N (f := fun l => B (o + 12) (l * 41 + s)) (g := fun l => c l s) 5 0 0 (fun i hi => hB i s (by omega) (by omega))
    rw [Nat.zero_add, Nat.zero_add] at this
    exact this
  rw [hv] at ke
  exact ke
theorem isS_get {x : Int32} (h : isS x.toInt = true) : ∃ s : Nat, x = sI s ∧ x.toInt = (s : Int) - 20 ∧ s < 41 := by
  have := of_decide_eq_true h
  exact ⟨(x.toInt + 20).toNat, sI_of this.1 (by omega), by omega, by omega⟩
theorem tr_cong {is : Bool} {rg rs rg' rs' : Int32} {row row' : Nat → Int32} {n : Nat} {w : Int} (h : is = true → rg = rg' ∧ rs = rs' ∧ ∀ b, b < n → row b = row' b) : sp_tr is rg rs row n w = sp_tr is rg' rs' row' n w := by
  unfold sp_tr
  cases is with
  | false => rfl
  | true =>
    obtain ⟨rfl, rfl, h3⟩ := h rfl
    by_cases e : (w - 10).toNat < n
    · rw [h3 _ e]
    · rw [if_neg e, if_neg e]
def sp_comes (al : Nat → Int32) (x y w : Int) : Int32 := if (isP al x && isQ al y) && isT w 2 then (if w = 0 then (cmF al x.toNat y.toNat (lgN al y.toNat)).2.1 else if w = 1 then sI (cmF al x.toNat y.toNat (lgN al y.toNat)).1.2 else if w = 2 then (cmF al x.toNat y.toNat (lgN al y.toNat)).2.2 else if (w - 10).toNat < lgN al y.toNat then rf_cw (TT al x.toNat y.toNat) (stN al x.toNat) (w - 10).toNat else 9) else -99000002
def sp_best (al : Nat → Int32) (x y : Int) (goal : Int32) (w : Int) : Int32 := if (isP al x && isQ al y) && isT w 1 then (if isS goal.toInt then sp_tr (decide (bsT al x.toNat y.toNat goal ≠ -268435456)) (bsT al x.toNat y.toNat goal) (sI (bsS al x.toNat y.toNat goal (lgN al y.toNat)).2) (fun b => dI (bsS al x.toNat y.toNat goal (b + 1)).1) (lgN al y.toNat) w else -99000003) else -99000002
set_option maxRecDepth 20000 in
theorem p_comes {G : gT} {d : Nat} {S : sS} {V : sV} {P : sP} {A : sV} {B : sB} {Q : sP} {t sl o : Nat} (hF : MF S P o) (hA : AV (A (o + 1)))  (x y w : Int32) : WQ G (d + 9) mX12_comes 0 [some (.ref o), some (.int x), some (.int y), some (.int w)] [] (t, sl, gh S V P A B Q) (PZ o S P Q t sl V A B (.int (sp_comes (A (o + 1)) x.toInt y.toInt w.toInt)) (A (o + 1))) := by
  refine WQ.st (fun _ _ kz => pw_aload0 dX12_comes_0 kz) ?_
  refine WQ.st (fun _ _ kz => pw_iconst (v := 0) dX12_comes_1 (by decide) kz) ?_
  refine WQ.st (fun _ _ kz => pw_puti (pX12_1 _ rfl) dX12_comes_2 hF.1 rfl rfl kz) ?_
  refine WQ.st (fun _ _ kz => pw_aload0 dX12_comes_5 kz) ?_
  refine WQ.st (fun _ _ kz => pw_iload1 dX12_comes_6 kz) ?_
  refine WQ.st (fun _ _ kz => pw_iload2 dX12_comes_7 kz) ?_
  obtain ⟨_, _, k8, rfl, rfl⟩ := c_areBoth (d := d + 6) (P := P) (S := S) (G := G) (V := (up2 V o 0 0)) (A := A) (B := B) (Q := Q) (t := t) (sl := sl) hF hA.dv x y
  refine WQ.st (fun _ _ kz => pw_o2i wX12_areBoth lX12_413 rfl dX12_comes_8 hF.1 (k8) rfl (Nat.le_of_ble_eq_true rfl) (Nat.le_of_ble_eq_true rfl) kz) ?_
  refine WQ.br (fun _ _ ka kb => pw_if_eq (tgt := 22) dX12_comes_11 (by decide) ka kb) (fun c11 => ?_) (fun c11 => ?_)
  · rw [bI_0] at c11
    refine WQ.st (fun _ _ kz => pw_ldc kX12_247 dX12_comes_22 kz) ?_
    refine ⟨_, _, pw_iret dX12_comes_24 rfl rfl rfl rfl, ?_⟩
    have c0 : sp_comes (A (o + 1)) x.toInt y.toInt w.toInt = -99000002 := by unfold sp_comes; rw [c11, Bool.false_and, if_neg (by decide)]
    rw [c0]
    exact PZ.q (FP.up (by decide)) FQ.rfl FB.rfl
  · rw [bI_n] at c11
    have hb11 := Bool.and_eq_true _ _ |>.mp c11
    have hp5 := hA.dv.p5
    have hn4 := hA.dv.n4
    have g1p := isP_t hb11.1
    have g2q := isQ_t hb11.2
    obtain ⟨p, ep, tp, lp⟩ := nI_get g1p.1 g1p.2 (by omega)
    obtain ⟨q, eq, tq, lq⟩ := nI_get g2q.1 g2q.2 (by omega)
    have hp : p < 5 := by omega
    have hq : q < 4 := by omega
    
    refine WQ.st (fun _ _ kz => pw_iload3 dX12_comes_14 kz) ?_
    refine WQ.st (fun _ _ kz => pw_iconst (v := 2) dX12_comes_15 (by decide) kz) ?_
    obtain ⟨_, _, k16, rfl, rfl⟩ := c_isTold (G := G) (d := d + 7) (h := (t, sl, gh S (up2 V o 0 0) P A B Q)) w 2
    refine WQ.st (fun _ _ kz => pw_s2i wX12_isTold lX12_416 dX12_comes_16 (k16) rfl (Nat.le_of_ble_eq_true rfl) (Nat.le_of_ble_eq_true rfl) kz) ?_
    refine WQ.bn (fun _ _ ka kb => pw_if_ne (tgt := 25) dX12_comes_19 (by decide) ka kb) (fun c19 => ?_) (fun c19 => ?_)
    · rw [bI_n] at c19
      rw [ep, eq]
      refine WQ.st (fun _ _ kz => pw_aload0 dX12_comes_25 kz) ?_
      refine WQ.st (fun _ _ kz => pw_iload1 dX12_comes_26 kz) ?_
      refine WQ.st (fun _ _ kz => pw_iload2 dX12_comes_27 kz) ?_
      obtain ⟨V2, A2, k2, f1, f2, f3, f4, f5, f6⟩ := q_laysComes (d := d + 3) (P := P) (S := S) (G := G) (V := (up2 V o 0 0)) (A := A) (B := B) (Q := Q) (t := t) (sl := sl) hF hA.dv hA.kv hp hq
      refine WQ.st (fun _ _ kz => pw_o2v wX12_laysComes lX12_335 rfl dX12_comes_28 hF.1 (k2) rfl (Nat.le_of_ble_eq_true rfl) (Nat.le_of_ble_eq_true rfl) kz) ?_
      refine WQ.st (fun _ _ kz => pw_iload3 dX12_comes_31 kz) ?_
      refine WQ.bn (fun _ _ ka kb => pw_if_ne (tgt := 42) dX12_comes_32 (by decide) ka kb) (fun c32 => ?_) (fun c32 => ?_)
      · refine WQ.st (fun _ _ kz => pw_iload3 dX12_comes_42 kz) ?_
        refine WQ.st (fun _ _ kz => pw_iconst (v := 1) dX12_comes_43 (by decide) kz) ?_
        refine WQ.bn (fun _ _ ka kb => pw_icmp_ne (tgt := 54) dX12_comes_44 (by decide) ka kb) (fun c44 => ?_) (fun c44 => ?_)
        · refine WQ.st (fun _ _ kz => pw_iload3 dX12_comes_54 kz) ?_
          refine WQ.st (fun _ _ kz => pw_iconst (v := 2) dX12_comes_55 (by decide) kz) ?_
          refine WQ.bn (fun _ _ ka kb => pw_icmp_ne (tgt := 66) dX12_comes_56 (by decide) ka kb) (fun c56 => ?_) (fun c56 => ?_)
          · refine WQ.st (fun _ _ kz => pw_aload0 dX12_comes_66 kz) ?_
            refine WQ.st (fun _ _ kz => pw_iload2 dX12_comes_67 kz) ?_
            refine WQ.st (fun _ _ kz => pw_iload3 dX12_comes_68 kz) ?_
            refine WQ.st (fun _ _ kz => pw_bipush (v := 10) dX12_comes_69 (by decide) kz) ?_
            refine WQ.st (fun _ _ kz => pw_isub dX12_comes_71 kz) ?_
            have hw : 10 ≤ w.toInt ∧ w.toInt ≤ 21 := by
              have h0 := i32_ne (z := 0) rfl c32
              have h1 := i32_ne (z := 1) rfl c44
              have h2 := i32_ne (z := 2) rfl c56
              unfold isT at c19
              rw [Bool.or_eq_true] at c19
              rcases c19 with q | q
              · have q := of_decide_eq_true q
                have q : 0 ≤ w.toInt ∧ w.toInt ≤ 2 := q
                omega
              · exact of_decide_eq_true q
            have ew : w - 10 = nI (w.toInt - 10).toNat := by
              rw [← Int32.toInt_inj, ti_sub rfl li_10 (by omega), nI_toInt (by omega)]
              omega
            rw [ew]
            refine WQ.st (fun _ _ kz => pw_o2i wX12_rowAt lX12_419 rfl dX12_comes_72 hF.1 (c_rowAt hF hq (hA.dv.lgE hq).2 (by rw [f1 _ (by omega)]; exact (hA.dv.lgE hq).1) (by omega)) rfl (Nat.le_of_ble_eq_true rfl) (Nat.le_of_ble_eq_true rfl) kz) ?_
            refine ⟨_, _, pw_iret dX12_comes_75 rfl rfl rfl rfl, ?_⟩
            have c0 : sp_comes (A (o + 1)) x.toInt y.toInt w.toInt = if (w.toInt - 10).toNat < lgN (A (o + 1)) q then A2 (o + 9) (w.toInt - 10).toNat else 9 := by
              unfold sp_comes
              rw [c11, show isT w.toInt 2 = true from c19, if_pos (by rfl), tp, tq, Int.toNat_natCast, Int.toNat_natCast, if_neg (i32_ne (z := 0) rfl c32), if_neg (i32_ne (z := 1) rfl c44), if_neg (i32_ne (z := 2) rfl c56)]
              by_cases e : (w.toInt - 10).toNat < lgN (A (o + 1)) q
              · rw [if_pos e, if_pos e, f6 _ e]
              · rw [if_neg e, if_neg e]
            rw [← ep, ← eq, c0]
            exact PZ.q ((FP.up (by decide)).tr f2.FP) f1.FQ FB.rfl
          · refine WQ.st (fun _ _ kz => pw_aload0 dX12_comes_59 kz) ?_
            refine WQ.st (fun _ _ kz => pw_geti gX12_309 dX12_comes_60 hF.1 kz) ?_
            rw [f5]
            refine WQ.st (fun _ _ kz => pw_goto (tgt := 75) dX12_comes_63 (by decide) kz) ?_
            refine ⟨_, _, pw_iret dX12_comes_75 rfl rfl rfl rfl, ?_⟩
            have c0 : sp_comes (A (o + 1)) x.toInt y.toInt w.toInt = (cmF (A (o + 1)) p q (lgN (A (o + 1)) q)).2.2 := by unfold sp_comes; rw [c11, show isT w.toInt 2 = true from c19, if_pos (by rfl), tp, tq, Int.toNat_natCast, Int.toNat_natCast, if_neg (i32_ne (z := 0) rfl c32), if_neg (i32_ne (z := 1) rfl c44), if_pos (show w.toInt = 2 by rw [c56]; rfl)]
            rw [← ep, ← eq, c0]
            exact PZ.q ((FP.up (by decide)).tr f2.FP) f1.FQ FB.rfl
        · refine WQ.st (fun _ _ kz => pw_aload0 dX12_comes_47 kz) ?_
          refine WQ.st (fun _ _ kz => pw_geti gX12_293 dX12_comes_48 hF.1 kz) ?_
          rw [f4]
          refine WQ.st (fun _ _ kz => pw_goto (tgt := 75) dX12_comes_51 (by decide) kz) ?_
          refine ⟨_, _, pw_iret dX12_comes_75 rfl rfl rfl rfl, ?_⟩
          have c0 : sp_comes (A (o + 1)) x.toInt y.toInt w.toInt = sI (cmF (A (o + 1)) p q (lgN (A (o + 1)) q)).1.2 := by unfold sp_comes; rw [c11, show isT w.toInt 2 = true from c19, if_pos (by rfl), tp, tq, Int.toNat_natCast, Int.toNat_natCast, if_neg (i32_ne (z := 0) rfl c32), if_pos (show w.toInt = 1 by rw [c44]; rfl)]
          rw [← ep, ← eq, c0]
          exact PZ.q ((FP.up (by decide)).tr f2.FP) f1.FQ FB.rfl
      · refine WQ.st (fun _ _ kz => pw_aload0 dX12_comes_35 kz) ?_
        refine WQ.st (fun _ _ kz => pw_geti gX12_290 dX12_comes_36 hF.1 kz) ?_
        rw [f3]
        refine WQ.st (fun _ _ kz => pw_goto (tgt := 75) dX12_comes_39 (by decide) kz) ?_
        refine ⟨_, _, pw_iret dX12_comes_75 rfl rfl rfl rfl, ?_⟩
        have c0 : sp_comes (A (o + 1)) x.toInt y.toInt w.toInt = (cmF (A (o + 1)) p q (lgN (A (o + 1)) q)).2.1 := by unfold sp_comes; rw [c11, show isT w.toInt 2 = true from c19, if_pos (by rfl), tp, tq, Int.toNat_natCast, Int.toNat_natCast, if_pos (show w.toInt = 0 by rw [c32]; rfl)]
        rw [← ep, ← eq, c0]
        exact PZ.q ((FP.up (by decide)).tr f2.FP) f1.FQ FB.rfl
    · rw [bI_0] at c19
      refine WQ.st (fun _ _ kz => pw_ldc kX12_247 dX12_comes_22 kz) ?_
      refine ⟨_, _, pw_iret dX12_comes_24 rfl rfl rfl rfl, ?_⟩
      have c0 : sp_comes (A (o + 1)) x.toInt y.toInt w.toInt = -99000002 := by unfold sp_comes; rw [c11, show isT w.toInt 2 = false from c19, if_neg (by decide)]
      rw [c0]
      exact PZ.q (FP.up (by decide)) FQ.rfl FB.rfl
set_option maxRecDepth 20000 in
theorem p_best {G : gT} {d : Nat} {S : sS} {V : sV} {P : sP} {A : sV} {B : sB} {Q : sP} {t sl o : Nat} (hF : MF S P o) (hA : AV (A (o + 1)))  (x y g w : Int32) : WQ G (d + 9) mX12_best 0 [some (.ref o), some (.int x), some (.int y), some (.int g), some (.int w)] [] (t, sl, gh S V P A B Q) (PZ o S P Q t sl V A B (.int (sp_best (A (o + 1)) x.toInt y.toInt g w.toInt)) (A (o + 1))) := by
  refine WQ.st (fun _ _ kz => pw_aload0 dX12_best_0 kz) ?_
  refine WQ.st (fun _ _ kz => pw_iconst (v := 0) dX12_best_1 (by decide) kz) ?_
  refine WQ.st (fun _ _ kz => pw_puti (pX12_1 _ rfl) dX12_best_2 hF.1 rfl rfl kz) ?_
  refine WQ.st (fun _ _ kz => pw_aload0 dX12_best_5 kz) ?_
  refine WQ.st (fun _ _ kz => pw_iload1 dX12_best_6 kz) ?_
  refine WQ.st (fun _ _ kz => pw_iload2 dX12_best_7 kz) ?_
  obtain ⟨_, _, k8, rfl, rfl⟩ := c_areBoth (d := d + 6) (P := P) (S := S) (G := G) (V := (up2 V o 0 0)) (A := A) (B := B) (Q := Q) (t := t) (sl := sl) hF hA.dv x y
  refine WQ.st (fun _ _ kz => pw_o2i wX12_areBoth lX12_413 rfl dX12_best_8 hF.1 (k8) rfl (Nat.le_of_ble_eq_true rfl) (Nat.le_of_ble_eq_true rfl) kz) ?_
  refine WQ.br (fun _ _ ka kb => pw_if_eq (tgt := 23) dX12_best_11 (by decide) ka kb) (fun c11 => ?_) (fun c11 => ?_)
  · rw [bI_0] at c11
    refine WQ.st (fun _ _ kz => pw_ldc kX12_247 dX12_best_23 kz) ?_
    refine ⟨_, _, pw_iret dX12_best_25 rfl rfl rfl rfl, ?_⟩
    have c0 : sp_best (A (o + 1)) x.toInt y.toInt g w.toInt = -99000002 := by unfold sp_best; rw [c11, Bool.false_and, if_neg (by decide)]
    rw [c0]
    exact PZ.q (FP.up (by decide)) FQ.rfl FB.rfl
  · rw [bI_n] at c11
    have hb11 := Bool.and_eq_true _ _ |>.mp c11
    have hp5 := hA.dv.p5
    have hn4 := hA.dv.n4
    have g1p := isP_t hb11.1
    have g2q := isQ_t hb11.2
    obtain ⟨p, ep, tp, lp⟩ := nI_get g1p.1 g1p.2 (by omega)
    obtain ⟨q, eq, tq, lq⟩ := nI_get g2q.1 g2q.2 (by omega)
    have hp : p < 5 := by omega
    have hq : q < 4 := by omega
    
    refine WQ.st (fun _ _ kz => pw_iload4 dX12_best_14 kz) ?_
    refine WQ.st (fun _ _ kz => pw_iconst (v := 1) dX12_best_16 (by decide) kz) ?_
    obtain ⟨_, _, k17, rfl, rfl⟩ := c_isTold (G := G) (d := d + 7) (h := (t, sl, gh S (up2 V o 0 0) P A B Q)) w 1
    refine WQ.st (fun _ _ kz => pw_s2i wX12_isTold lX12_416 dX12_best_17 (k17) rfl (Nat.le_of_ble_eq_true rfl) (Nat.le_of_ble_eq_true rfl) kz) ?_
    refine WQ.bn (fun _ _ ka kb => pw_if_ne (tgt := 26) dX12_best_20 (by decide) ka kb) (fun c20 => ?_) (fun c20 => ?_)
    · rw [bI_n] at c20
      refine WQ.st (fun _ _ kz => pw_iload3 dX12_best_26 kz) ?_
      refine WQ.st (fun _ _ kz => pw_i2l dX12_best_27 kz) ?_
      refine WQ.st (fun _ _ kz => pw_s1i wX12_isStore lX12_240 dX12_best_28 (c_isStoreI _) rfl (Nat.le_of_ble_eq_true rfl) (Nat.le_of_ble_eq_true rfl) kz) ?_
      refine WQ.bn (fun _ _ ka kb => pw_if_ne (tgt := 37) dX12_best_31 (by decide) ka kb) (fun c31 => ?_) (fun c31 => ?_)
      · rw [bI_n] at c31
        rw [il_t] at c31
        rw [ep, eq]
        refine WQ.st (fun _ _ kz => pw_aload0 dX12_best_37 kz) ?_
        refine WQ.st (fun _ _ kz => pw_aload0 dX12_best_38 kz) ?_
        refine WQ.st (fun _ _ kz => pw_iload1 dX12_best_39 kz) ?_
        refine WQ.st (fun _ _ kz => pw_iload2 dX12_best_40 kz) ?_
        refine WQ.st (fun _ _ kz => pw_iload3 dX12_best_41 kz) ?_
        obtain ⟨V2, A2, k2, b1, b2, b3, b4, b5⟩ := q_laysBest (d := d + 3) (P := P) (S := S) (G := G) (V := (up2 V o 0 0)) (A := A) (B := B) (Q := Q) (t := t) (sl := sl) hF hA.dv hA.kv hp hq g
        refine WQ.st (fun _ _ kz => pw_o3i wX12_laysBest lX12_323 rfl dX12_best_42 hF.1 (k2) rfl (Nat.le_of_ble_eq_true rfl) (Nat.le_of_ble_eq_true rfl) kz) ?_
        refine WQ.st (fun _ _ kz => pw_iload2 dX12_best_45 kz) ?_
        refine WQ.st (fun _ _ kz => pw_iload4 dX12_best_46 kz) ?_
        obtain ⟨_, _, k3, rfl, rfl⟩ := c_tellsRow (d := d + 6) (P := P) (S := S) (G := G) (V := V2) (A := A2) (B := B) (Q := Q) (t := t) (sl := sl) hF (by rw [b1 _ (by omega)]; exact hA.dv) hq (decide (bsT (A (o + 1)) p q g ≠ -268435456)) (w := w) c20
        rw [b1 (o + 1) (by omega), tr_cong (fun e => ⟨b3, (b5 (of_decide_eq_true e)).1, (b5 (of_decide_eq_true e)).2⟩)] at k3
        refine WQ.st (fun _ _ kz => pw_o3i wX12_tellsRow lX12_423 rfl dX12_best_48 hF.1 (k3) rfl (Nat.le_of_ble_eq_true rfl) (Nat.le_of_ble_eq_true rfl) kz) ?_
        refine ⟨_, _, pw_iret dX12_best_51 rfl rfl rfl rfl, ?_⟩
        have c0 : sp_best (A (o + 1)) x.toInt y.toInt g w.toInt = sp_tr (decide (bsT (A (o + 1)) p q g ≠ -268435456)) (bsT (A (o + 1)) p q g) (sI (bsS (A (o + 1)) p q g (lgN (A (o + 1)) q)).2) (fun b => dI (bsS (A (o + 1)) p q g (b + 1)).1) (lgN (A (o + 1)) q) w.toInt := by unfold sp_best; rw [c11, show isT w.toInt 1 = true from c20, if_pos (by rfl), if_pos c31, tp, tq, Int.toNat_natCast, Int.toNat_natCast]
        rw [← ep, ← eq, c0]
        exact PZ.q ((FP.up (by decide)).tr b2.FP) b1.FQ FB.rfl
      · rw [bI_0] at c31
        rw [il_t] at c31
        refine WQ.st (fun _ _ kz => pw_ldc kX12_206 dX12_best_34 kz) ?_
        refine ⟨_, _, pw_iret dX12_best_36 rfl rfl rfl rfl, ?_⟩
        have c0 : sp_best (A (o + 1)) x.toInt y.toInt g w.toInt = -99000003 := by unfold sp_best; rw [c11, show isT w.toInt 1 = true from c20, if_pos (by rfl), if_neg (by rw [c31]; decide)]
        rw [c0]
        exact PZ.q (FP.up (by decide)) FQ.rfl FB.rfl
    · rw [bI_0] at c20
      refine WQ.st (fun _ _ kz => pw_ldc kX12_247 dX12_best_23 kz) ?_
      refine ⟨_, _, pw_iret dX12_best_25 rfl rfl rfl rfl, ?_⟩
      have c0 : sp_best (A (o + 1)) x.toInt y.toInt g w.toInt = -99000002 := by unfold sp_best; rw [c11, show isT w.toInt 1 = false from c20, if_neg (by decide)]
      rw [c0]
      exact PZ.q (FP.up (by decide)) FQ.rfl FB.rfl
def mnC (al : Nat → Int32) (p q : Nat) (kp : Nat → Nat → Bool) (s : Nat) : Nat := sm (fun l => rf_c (TT al p q) kp (stN al p) (lgN al q) l s) 5
theorem mnC_le (al : Nat → Int32) (p q : Nat) (kp : Nat → Nat → Bool) (s : Nat) (h : lgN al q ≤ 12) : mnC al p q kp s ≤ 1220703125 := by
  refine Nat.le_trans (sm_le (m := 5 ^ 12) (fun i => Nat.le_trans (rf_c_le _ _ _ _ _ _) (Nat.pow_le_pow_right (by decide) h)) 5) (by decide)
def sp_rows (al : Nat → Int32) (x y e : Int) : Int64 := if isP al x && isQ al y then (if isS e then lN (mnC al x.toNat y.toNat kpA (e + 20).toNat) else -99000003) else -99000002
set_option maxRecDepth 20000 in
theorem p_rows {G : gT} {d : Nat} {S : sS} {V : sV} {P : sP} {A : sV} {B : sB} {Q : sP} {t sl o : Nat} (hF : MF S P o) (hA : AV (A (o + 1)))  (x y e : Int32) : WQ G (d + 9) mX12_rows 0 [some (.ref o), some (.int x), some (.int y), some (.int e)] [] (t, sl, gh S V P A B Q) (PZ o S P Q t sl V A B (.long (sp_rows (A (o + 1)) x.toInt y.toInt e.toInt)) (A (o + 1))) := by
  refine WQ.st (fun _ _ kz => pw_aload0 dX12_rows_0 kz) ?_
  refine WQ.st (fun _ _ kz => pw_iconst (v := 0) dX12_rows_1 (by decide) kz) ?_
  refine WQ.st (fun _ _ kz => pw_puti (pX12_1 _ rfl) dX12_rows_2 hF.1 rfl rfl kz) ?_
  refine WQ.st (fun _ _ kz => pw_aload0 dX12_rows_5 kz) ?_
  refine WQ.st (fun _ _ kz => pw_iload1 dX12_rows_6 kz) ?_
  refine WQ.st (fun _ _ kz => pw_iload2 dX12_rows_7 kz) ?_
  obtain ⟨_, _, k8, rfl, rfl⟩ := c_areBoth (d := d + 6) (P := P) (S := S) (G := G) (V := (up2 V o 0 0)) (A := A) (B := B) (Q := Q) (t := t) (sl := sl) hF hA.dv x y
  refine WQ.st (fun _ _ kz => pw_o2i wX12_areBoth lX12_413 rfl dX12_rows_8 hF.1 (k8) rfl (Nat.le_of_ble_eq_true rfl) (Nat.le_of_ble_eq_true rfl) kz) ?_
  refine WQ.bn (fun _ _ ka kb => pw_if_ne (tgt := 18) dX12_rows_11 (by decide) ka kb) (fun c11 => ?_) (fun c11 => ?_)
  · rw [bI_n] at c11
    have hb11 := Bool.and_eq_true _ _ |>.mp c11
    have hp5 := hA.dv.p5
    have hn4 := hA.dv.n4
    have g1p := isP_t hb11.1
    have g2q := isQ_t hb11.2
    obtain ⟨p, ep, tp, lp⟩ := nI_get g1p.1 g1p.2 (by omega)
    obtain ⟨q, eq, tq, lq⟩ := nI_get g2q.1 g2q.2 (by omega)
    have hp : p < 5 := by omega
    have hq : q < 4 := by omega
    
    refine WQ.st (fun _ _ kz => pw_iload3 dX12_rows_18 kz) ?_
    refine WQ.st (fun _ _ kz => pw_i2l dX12_rows_19 kz) ?_
    refine WQ.st (fun _ _ kz => pw_s1i wX12_isStore lX12_240 dX12_rows_20 (c_isStoreI _) rfl (Nat.le_of_ble_eq_true rfl) (Nat.le_of_ble_eq_true rfl) kz) ?_
    refine WQ.bn (fun _ _ ka kb => pw_if_ne (tgt := 30) dX12_rows_23 (by decide) ka kb) (fun c23 => ?_) (fun c23 => ?_)
    · rw [bI_n] at c23
      rw [il_t] at c23
      obtain ⟨s, es, ts, hs⟩ := isS_get c23
      rw [ep, eq, es]
      refine WQ.st (fun _ _ kz => pw_aload0 dX12_rows_30 kz) ?_
      obtain ⟨R1, k1, hR1⟩ := c_keepsAny (d := d + 8) (P := P) (S := S) (G := G) (V := (up2 V o 0 0)) (A := A) (B := B) (Q := Q) (t := t) (sl := sl) hF
      refine WQ.st (fun _ _ kz => pw_o0v wX12_keepsAny lX12_296 rfl dX12_rows_31 hF.1 (k1) rfl (Nat.le_of_ble_eq_true rfl) (Nat.le_of_ble_eq_true rfl) kz) ?_
      refine WQ.st (fun _ _ kz => pw_aload0 dX12_rows_34 kz) ?_
      refine WQ.st (fun _ _ kz => pw_iload1 dX12_rows_35 kz) ?_
      refine WQ.st (fun _ _ kz => pw_iload2 dX12_rows_36 kz) ?_
      have e1 : pm_up A (o + 10) R1 (o + 1) = A (o + 1) := pm_up_ne (by omega)
      obtain ⟨A2, B2, k2, m1, m2, m3⟩ := q_laysMany (d := d + 2) (P := P) (S := S) (G := G) (V := (up2 (up2 V o 0 0) o 24 0)) (A := (pm_up A (o + 10) R1)) (B := B) (Q := Q) (t := t) (sl := sl) hF (by rw [e1]; exact hA.dv) (by rw [e1]; exact hA.kv) hp hq (kp := kpA) (fun b w hb hw => by
        rw [pm_up_eq]
        rw [e1] at hb
        exact rf_k9 (hR1 b (by have := (hA.dv.lgE hq).2; omega)))
      rw [e1] at m3
      have hfa : FQ o A A2 := fun a ha => by rw [m1 a (by omega), pm_up_ne (by omega)]
      have hfp : FP o V (up2 (up2 V o 0 0) o 24 0) := (FP.up (by decide)).tr (FP.up (by decide))
      refine WQ.st (fun _ _ kz => pw_o2v wX12_laysMany lX12_440 rfl dX12_rows_37 hF.1 (k2) rfl (Nat.le_of_ble_eq_true rfl) (Nat.le_of_ble_eq_true rfl) kz) ?_
      refine WQ.st (fun _ _ kz => pw_aload0 dX12_rows_40 kz) ?_
      refine WQ.st (fun _ _ kz => pw_iload3 dX12_rows_41 kz) ?_
      refine WQ.st (fun _ _ kz => pw_o1i wX12_endsWith lX12_443 rfl dX12_rows_42 hF.1 (q_endsWith hF m3 hs) rfl (Nat.le_of_ble_eq_true rfl) (Nat.le_of_ble_eq_true rfl) kz) ?_
      refine ⟨_, _, pw_lret dX12_rows_45 rfl rfl rfl, ?_⟩
      have c0 : sp_rows (A (o + 1)) x.toInt y.toInt e.toInt = lN (mnC (A (o + 1)) p q kpA s) := by unfold sp_rows; rw [if_pos c11, if_pos c23, tp, tq, ts, Int.toNat_natCast, Int.toNat_natCast, show ((s : Int) - 20 + 20).toNat = s by omega]
      rw [← ep, ← eq, ← es, c0]
      exact PZ.q hfp hfa m2
    · rw [bI_0] at c23
      rw [il_t] at c23
      refine WQ.st (fun _ _ kz => pw_ldc2 kX12_438 dX12_rows_26 kz) ?_
      refine ⟨_, _, pw_lret dX12_rows_29 rfl rfl rfl, ?_⟩
      have c0 : sp_rows (A (o + 1)) x.toInt y.toInt e.toInt = -99000003 := by unfold sp_rows; rw [if_pos c11, if_neg (by rw [c23]; decide)]
      rw [c0]
      exact PZ.q (FP.up (by decide)) FQ.rfl FB.rfl
  · rw [bI_0] at c11
    refine WQ.st (fun _ _ kz => pw_ldc2 kX12_436 dX12_rows_14 kz) ?_
    refine ⟨_, _, pw_lret dX12_rows_17 rfl rfl rfl, ?_⟩
    have c0 : sp_rows (A (o + 1)) x.toInt y.toInt e.toInt = -99000002 := by unfold sp_rows; rw [if_neg (by rw [c11]; decide)]
    rw [c0]
    exact PZ.q (FP.up (by decide)) FQ.rfl FB.rfl
def dn1 (f : Nat → Bool) : Nat → Int32
  | 0 => -99000001
  | k + 1 => if f k then sI k else dn1 f k
def sp_thri (al : Nat → Int32) (x y : Int) : Int32 := if isP al x && isQ al y then dn1 (fun s => decide (mnC al x.toNat y.toNat kpA s ≠ 0)) 41 else -99000002
theorem sI_m (s : Nat) : sI (s + 1) + (-1) = sI s := by
  unfold sI
  rw [show (-1 : Int32) = iI (-1) from rfl, iI_add]
  congr 1
  omega
set_option maxRecDepth 20000 in
theorem l_thri {G : gT} {d : Nat} {S : sS} {V : sV} {P : sP} {A : sV} {B : sB} {Q : sP} {t sl o : Nat} (hF : MF S P o) {c : Nat → Nat → Nat} (hB : ∀ l s, l < 5 → s < 41 → B (o + 12) (l * 41 + s) = lN (c l s)) (hc : ∀ s, sm (fun l => c l s) 5 ≤ 1220703125) {x1 x2 : Int32} : ∀ k : Nat, k ≤ 41 → WQ G (d + 2) mX12_thriftiest 30 [some (.ref o), some (.int x1), some (.int x2), some (.int (iI ((k : Int) - 21)))] [] (t, sl, gh S V P A B Q) (fun r h' => r = some (.int (dn1 (fun s => decide (sm (fun l => c l s) 5 ≠ 0)) k)) ∧ h' = (t, sl, gh S V P A B Q)) := by
  intro k
  induction k with
  | zero =>
    intro hk
    refine WQ.st (fun _ _ kz => pw_iload3 dX12_thriftiest_30 kz) ?_
    refine WQ.st (fun _ _ kz => pw_bipush (v := -20) dX12_thriftiest_31 (by decide) kz) ?_
    refine WQ.br (fun _ _ ka kb => pw_icmp_lt (tgt := 54) dX12_thriftiest_33 (by decide) ka kb) (fun c33 => ?_) (fun c33 => absurd (by decide) c33)
    refine WQ.st (fun _ _ kz => pw_ldcw kX12_422 dX12_thriftiest_54 kz) ?_
    refine ⟨_, _, pw_iret dX12_thriftiest_57 rfl rfl rfl rfl, ?_⟩
    exact ⟨rfl, rfl⟩
  | succ k ih =>
    intro hk
    refine WQ.st (fun _ _ kz => pw_iload3 dX12_thriftiest_30 kz) ?_
    refine WQ.st (fun _ _ kz => pw_bipush (v := -20) dX12_thriftiest_31 (by decide) kz) ?_
    refine WQ.br (fun _ _ ka kb => pw_icmp_lt (tgt := 54) dX12_thriftiest_33 (by decide) ka kb) (fun c33 => absurd c33 (by rw [lt_i (iI_toInt (by omega)) (show (-20 : Int32).toInt = -20 by decide)]; omega)) (fun c33 => ?_)
    refine WQ.st (fun _ _ kz => pw_aload0 dX12_thriftiest_36 kz) ?_
    refine WQ.st (fun _ _ kz => pw_iload3 dX12_thriftiest_37 kz) ?_
    rw [show (((k + 1 : Nat) : Int) - 21) = (k : Int) - 20 by omega]
    rw [show iI ((k : Int) - 20) = sI k from rfl]
    refine WQ.st (fun _ _ kz => pw_o1i wX12_endsWith lX12_443 rfl dX12_thriftiest_38 hF.1 (q_endsWith hF hB (show k < 41 by omega)) rfl (Nat.le_of_ble_eq_true rfl) (Nat.le_of_ble_eq_true rfl) kz) ?_
    refine WQ.st (fun _ _ kz => pw_lconst (v := 0) dX12_thriftiest_41 (by decide) kz) ?_
    refine WQ.st (fun _ _ kz => pw_lcmp dX12_thriftiest_42 kz) ?_
    refine WQ.br (fun _ _ ka kb => pw_if_le (tgt := 48) dX12_thriftiest_43 (by decide) ka kb) (fun c43 => ?_) (fun c43 => ?_)
    · refine WQ.st (fun _ _ kz => pw_iinc3 (v := -1) dX12_thriftiest_48 (by decide) (by decide) (k := kz)) ?_
      refine WQ.st (fun _ _ kz => pw_goto (tgt := 30) dX12_thriftiest_51 (by decide) kz) ?_
      rw [show sI k + (-1) = iI ((k : Int) - 21) by unfold sI; rw [show (-1 : Int32) = iI (-1) from rfl, iI_add]; congr 1; omega]
      rw [lg_cmp_le, lN_z (by have := hc k; omega)] at c43
      rw [dn1, if_neg (by rw [decide_eq_true_eq]; exact fun q => q c43)]
      exact ih (by omega)
    · refine WQ.st (fun _ _ kz => pw_iload3 dX12_thriftiest_46 kz) ?_
      refine ⟨_, _, pw_iret dX12_thriftiest_47 rfl rfl rfl rfl, ?_⟩
      rw [lg_cmp_le, lN_z (by have := hc k; omega)] at c43
      rw [dn1, if_pos (decide_eq_true c43)]
      exact ⟨rfl, rfl⟩
set_option maxRecDepth 20000 in
theorem p_thriftiest {G : gT} {d : Nat} {S : sS} {V : sV} {P : sP} {A : sV} {B : sB} {Q : sP} {t sl o : Nat} (hF : MF S P o) (hA : AV (A (o + 1)))  (x y : Int32) : WQ G (d + 9) mX12_thriftiest 0 [some (.ref o), some (.int x), some (.int y), none] [] (t, sl, gh S V P A B Q) (PZ o S P Q t sl V A B (.int (sp_thri (A (o + 1)) x.toInt y.toInt)) (A (o + 1))) := by
  refine WQ.st (fun _ _ kz => pw_aload0 dX12_thriftiest_0 kz) ?_
  refine WQ.st (fun _ _ kz => pw_iconst (v := 0) dX12_thriftiest_1 (by decide) kz) ?_
  refine WQ.st (fun _ _ kz => pw_puti (pX12_1 _ rfl) dX12_thriftiest_2 hF.1 rfl rfl kz) ?_
  refine WQ.st (fun _ _ kz => pw_aload0 dX12_thriftiest_5 kz) ?_
  refine WQ.st (fun _ _ kz => pw_iload1 dX12_thriftiest_6 kz) ?_
  refine WQ.st (fun _ _ kz => pw_iload2 dX12_thriftiest_7 kz) ?_
  obtain ⟨_, _, k8, rfl, rfl⟩ := c_areBoth (d := d + 6) (P := P) (S := S) (G := G) (V := (up2 V o 0 0)) (A := A) (B := B) (Q := Q) (t := t) (sl := sl) hF hA.dv x y
  refine WQ.st (fun _ _ kz => pw_o2i wX12_areBoth lX12_413 rfl dX12_thriftiest_8 hF.1 (k8) rfl (Nat.le_of_ble_eq_true rfl) (Nat.le_of_ble_eq_true rfl) kz) ?_
  refine WQ.bn (fun _ _ ka kb => pw_if_ne (tgt := 17) dX12_thriftiest_11 (by decide) ka kb) (fun c11 => ?_) (fun c11 => ?_)
  · rw [bI_n] at c11
    have hb11 := Bool.and_eq_true _ _ |>.mp c11
    have hp5 := hA.dv.p5
    have hn4 := hA.dv.n4
    have g1p := isP_t hb11.1
    have g2q := isQ_t hb11.2
    obtain ⟨p, ep, tp, lp⟩ := nI_get g1p.1 g1p.2 (by omega)
    obtain ⟨q, eq, tq, lq⟩ := nI_get g2q.1 g2q.2 (by omega)
    have hp : p < 5 := by omega
    have hq : q < 4 := by omega
    rw [ep, eq]
    refine WQ.st (fun _ _ kz => pw_aload0 dX12_thriftiest_17 kz) ?_
    obtain ⟨R1, k1, hR1⟩ := c_keepsAny (d := d + 8) (P := P) (S := S) (G := G) (V := (up2 V o 0 0)) (A := A) (B := B) (Q := Q) (t := t) (sl := sl) hF
    refine WQ.st (fun _ _ kz => pw_o0v wX12_keepsAny lX12_296 rfl dX12_thriftiest_18 hF.1 (k1) rfl (Nat.le_of_ble_eq_true rfl) (Nat.le_of_ble_eq_true rfl) kz) ?_
    refine WQ.st (fun _ _ kz => pw_aload0 dX12_thriftiest_21 kz) ?_
    refine WQ.st (fun _ _ kz => pw_iload1 dX12_thriftiest_22 kz) ?_
    refine WQ.st (fun _ _ kz => pw_iload2 dX12_thriftiest_23 kz) ?_
    have e1 : pm_up A (o + 10) R1 (o + 1) = A (o + 1) := pm_up_ne (by omega)
    obtain ⟨A2, B2, k2, m1, m2, m3⟩ := q_laysMany (d := d + 2) (P := P) (S := S) (G := G) (V := (up2 (up2 V o 0 0) o 24 0)) (A := (pm_up A (o + 10) R1)) (B := B) (Q := Q) (t := t) (sl := sl) hF (by rw [e1]; exact hA.dv) (by rw [e1]; exact hA.kv) hp hq (kp := kpA) (fun b w hb hw => by
      rw [pm_up_eq]
      rw [e1] at hb
      exact rf_k9 (hR1 b (by have := (hA.dv.lgE hq).2; omega)))
    rw [e1] at m3
    have hfa : FQ o A A2 := fun a ha => by rw [m1 a (by omega), pm_up_ne (by omega)]
    have hfp : FP o V (up2 (up2 V o 0 0) o 24 0) := (FP.up (by decide)).tr (FP.up (by decide))
    refine WQ.st (fun _ _ kz => pw_o2v wX12_laysMany lX12_440 rfl dX12_thriftiest_24 hF.1 (k2) rfl (Nat.le_of_ble_eq_true rfl) (Nat.le_of_ble_eq_true rfl) kz) ?_
    refine WQ.st (fun _ _ kz => pw_bipush (v := 20) dX12_thriftiest_27 (by decide) kz) ?_
    refine WQ.st (fun _ _ kz => pw_istore3 dX12_thriftiest_29 (by decide) (k := kz)) ?_
    have kl := l_thri (d := d + 7) (P := P) (S := S) (G := G) (V := (up2 (up2 V o 0 0) o 24 0)) (A := A2) (B := B2) (Q := Q) (t := t) (sl := sl) hF m3 (fun s => mnC_le (A (o + 1)) p q kpA s (hA.dv.lgE hq).2) (x1 := nI p) (x2 := nI q) 41 (Nat.le_refl _)
    refine kl.imp (fun r h' z => ?_)
    obtain ⟨rfl, rfl⟩ := z
    have c0 : sp_thri (A (o + 1)) x.toInt y.toInt = dn1 (fun s => decide (mnC (A (o + 1)) p q kpA s ≠ 0)) 41 := by unfold sp_thri; rw [if_pos c11, tp, tq, Int.toNat_natCast, Int.toNat_natCast]
    rw [← ep, ← eq, c0]
    exact PZ.q hfp hfa m2
  · rw [bI_0] at c11
    refine WQ.st (fun _ _ kz => pw_ldc kX12_247 dX12_thriftiest_14 kz) ?_
    refine ⟨_, _, pw_iret dX12_thriftiest_16 rfl rfl rfl rfl, ?_⟩
    have c0 : sp_thri (A (o + 1)) x.toInt y.toInt = -99000002 := by unfold sp_thri; rw [if_neg (by rw [c11]; decide)]
    rw [c0]
    exact PZ.q (FP.up (by decide)) FQ.rfl FB.rfl
