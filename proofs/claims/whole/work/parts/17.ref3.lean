/-! ===== the reference: a law reckoned ===== -/
def rk_ok (c : Int32) : Prop := (0 ≤ c.toInt ∧ c.toInt < 1008) ∨ (3000 ≤ c.toInt ∧ c.toInt ≤ 3008)
/-- a law's code over a stack, the top first -/
def rkS (w : Nat → Int32) : List Int32 → List Int32 → Option (List Int32)
  | [], s => some s
  | c :: cs, s => if c < 3000 then rkS w cs ((if c < 1000 then c else w (c.toInt - 1000).toNat) :: s)
    else if c = 3006 then (match s with | x :: s => rkS w cs ((1 - x) :: s) | [] => none)
    else (match s with | y :: x :: s => rkS w cs (rf_btw c x y :: s) | _ => none)
theorem rkS_c (w : Nat → Int32) (c : Int32) (cs s : List Int32) : rkS w (c :: cs) s = if c < 3000 then rkS w cs ((if c < 1000 then c else w (c.toInt - 1000).toNat) :: s)
    else if c = 3006 then (match s with | x :: s => rkS w cs ((1 - x) :: s) | [] => none)
    else (match s with | y :: x :: s => rkS w cs (rf_btw c x y :: s) | _ => none) := rfl
theorem pmn {α : Type} {A : Nat → α} {a b : Nat} {R : α} (h : b ≠ a) : pm_up A a R b = A b := pm_up_ne h
set_option maxRecDepth 20000 in
theorem l_reckons {G : gT} {d : Nat} {S : sS} {V : sV} {P : sP} {A : sV} {B : sB} {Q : sP} {t sl o : Nat} (hF : MF S P o) {law fr N : Nat} (hlaw : law < 2) (hn : (A (o + 1) (8 + law)).toInt = (N : Int)) (hfr : (A (o + 1) (6 + law)).toInt = (fr : Int)) (hb : fr + N ≤ 900) (v : Int32) : ∀ (cs : List Int32) (k : Nat) (s : List Int32) (R : Nat → Int32) (x4 : Option Value), k + cs.length = N → (∀ i c, cs[i]? = some c → A (o + 1) (264 + fr + (k + i)) = c ∧ rk_ok c) → s.length ≤ k → (∀ i, i < s.length → R (s.length - 1 - i) = s.getD i 0) → rkS (A (o + 6)) cs s = some [v] → ∃ R' : Nat → Int32, PW G (d + 1) mX12_reckons 4 [some (.ref o), some (.int (nI law)), some (.int (nI s.length)), some (.int (nI k)), x4] [] (t, sl, gh S V P (pm_up A (o + 5) R) B Q) (some (.int v)) (t, sl, gh S V P (pm_up A (o + 5) R') B Q) := by
  intro cs
  induction cs with
  | nil =>
    intro k s R x4 hk hc hs hR hev
    have hsv : s = [v] := Option.some.inj hev
    have hk : k = N := hk
    subst hsv
    have hsv : ([v] : List Int32) = [v] := rfl
    refine ⟨R, ?_⟩
    refine pw_iload3 dX12_reckons_4 ?_
    refine pw_aload0 dX12_reckons_5 ?_
    refine pw_getr gX12_13 dX12_reckons_6 hF.1 (mf_p1 hF) ?_
    refine pw_bipush (v := 8) dX12_reckons_9 (by decide) ?_
    refine pw_iload1 dX12_reckons_11 ?_
    refine pw_iadd dX12_reckons_12 ?_
    refine pw_ald (j := 8 + law) dX12_reckons_13 (mf_s1 hF) (by simp (disch := omega) only [nl_8, nI_add, pk_mul, pk_sub]; exact ix_m (by omega) (by omega)) (by omega) ?_
    rw [pmn (show o + 1 ≠ o + 5 by omega)]
    refine pw_icmp_ge (tgt := 148) dX12_reckons_14 (by decide) (fun c14 => ?_) (fun c14 => absurd (by rw [le_i hn (ix_n (j := k) (by omega))]; omega) c14)
    refine pw_aload0 dX12_reckons_148 ?_
    refine pw_getr gX12_30 dX12_reckons_149 hF.1 (mf_p15 hF) ?_
    refine pw_iconst (v := 0) dX12_reckons_152 (by decide) ?_
    refine pw_ald (j := 0) dX12_reckons_153 (mf_s5 hF) (by decide) (by omega) ?_
    exact pw_iret dX12_reckons_154 rfl rfl (rI (by rw [pm_up_eq]; exact hR 0 Nat.zero_lt_one)) rfl
  | cons c cs ih =>
    intro k s R x4 hk hc hs hR hev
    obtain ⟨hc0, hok⟩ := hc 0 c rfl
    have hk' : k + (cs.length + 1) = N := hk
    have hcn : ∀ i c', cs[i]? = some c' → A (o + 1) (264 + fr + (k + 1 + i)) = c' ∧ rk_ok c' := by
      intro i c' hi
      have := hc (i + 1) c' hi
      rw [show k + 1 + i = k + (i + 1) by omega]
      exact this
    rw [show 264 + fr + (k + 0) = 264 + fr + k by omega] at hc0
    rw [rkS_c] at hev
    unfold rk_ok at hok
    by_cases h3 : c < 3000
    · rw [if_pos h3] at hev
      have h3i : c.toInt < 3000 := (lt_i rfl li_3000).mp h3
      have push : ∀ x : Int32, rkS (A (o + 6)) cs (x :: s) = some [v] → ∃ R' : Nat → Int32, PW G (d + 1) mX12_reckons 4 [some (.ref o), some (.int (nI law)), some (.int (nI (s.length + 1))), some (.int (nI (k + 1))), some (.int c)] [] (t, sl, gh S V P (pm_up A (o + 5) (pm_up R s.length x)) B Q) (some (.int v)) (t, sl, gh S V P (pm_up A (o + 5) R') B Q) := by
        intro x hx
        refine ih (k + 1) (x :: s) (pm_up R s.length x) (some (.int c)) (by omega) hcn (by simp only [List.length_cons]; omega) (fun i hi => ?_) hx
        match i with
        | 0 => exact pm_up_eq
        | i + 1 =>
          simp only [List.length_cons] at hi ⊢
          rw [pm_up_ne (by omega), show s.length + 1 - 1 - (i + 1) = s.length - 1 - i by omega, hR i (by omega)]
          rfl
      by_cases h1 : c < 1000
      · rw [if_pos h1] at hev
        obtain ⟨R', kk⟩ := push c hev
        have kn : c < 1000 → PW G (d + 1) mX12_reckons 4 [some (.ref o), some (.int (nI law)), some (.int (nI (s.length + 1))), some (.int (nI (k + 1))), some (.int c)] [] (t, sl, gh S V P (pm_up A (o + 5) (pm_up R s.length c)) B Q) (some (.int v)) (t, sl, gh S V P (pm_up A (o + 5) R') B Q) := fun _ => kk
        have kw : ¬ c < 1000 → PW G (d + 1) mX12_reckons 4 [some (.ref o), some (.int (nI law)), some (.int (nI (s.length + 1))), some (.int (nI (k + 1))), some (.int c)] [] (t, sl, gh S V P (pm_up A (o + 5) (pm_up R s.length (A (o + 6) (c.toInt - 1000).toNat))) B Q) (some (.int v)) (t, sl, gh S V P (pm_up A (o + 5) R') B Q) := fun q => absurd h1 q
        refine ⟨R', ?_⟩
        refine pw_iload3 dX12_reckons_4 ?_
        refine pw_aload0 dX12_reckons_5 ?_
        refine pw_getr gX12_13 dX12_reckons_6 hF.1 (mf_p1 hF) ?_
        refine pw_bipush (v := 8) dX12_reckons_9 (by decide) ?_
        refine pw_iload1 dX12_reckons_11 ?_
        refine pw_iadd dX12_reckons_12 ?_
        refine pw_ald (j := 8 + law) dX12_reckons_13 (mf_s1 hF) (by simp (disch := omega) only [nl_8, nI_add, pk_mul, pk_sub]; exact ix_m (by omega) (by omega)) (by omega) ?_
        rw [pmn (show o + 1 ≠ o + 5 by omega)]
        refine pw_icmp_ge (tgt := 148) dX12_reckons_14 (by decide) (fun c14 => absurd c14 (by rw [le_i hn (ix_n (j := k) (by omega))]; omega)) (fun c14 => ?_)
        refine pw_aload0 dX12_reckons_17 ?_
        refine pw_getr gX12_13 dX12_reckons_18 hF.1 (mf_p1 hF) ?_
        refine pw_sipush (v := 264) dX12_reckons_21 (by decide) ?_
        refine pw_aload0 dX12_reckons_24 ?_
        refine pw_getr gX12_13 dX12_reckons_25 hF.1 (mf_p1 hF) ?_
        refine pw_bipush (v := 6) dX12_reckons_28 (by decide) ?_
        refine pw_iload1 dX12_reckons_30 ?_
        refine pw_iadd dX12_reckons_31 ?_
        refine pw_ald (j := 6 + law) dX12_reckons_32 (mf_s1 hF) (by simp (disch := omega) only [nl_6, nI_add, pk_mul, pk_sub]; exact ix_m (by omega) (by omega)) (by omega) ?_
        rw [pmn (show o + 1 ≠ o + 5 by omega)]
        refine pw_iadd dX12_reckons_33 ?_
        refine pw_iload3 dX12_reckons_34 ?_
        refine pw_iadd dX12_reckons_35 ?_
        refine pw_ald (j := 264 + fr + k) dX12_reckons_36 (mf_s1 hF) (by rw [show (264 : Int32) = nI 264 from rfl]; exact ti_add (ti_add (ix_m rfl (by omega)) hfr (by omega)) (ix_m rfl (by omega)) (by omega)) (by omega) ?_
        rw [pmn (show o + 1 ≠ o + 5 by omega), hc0]
        refine pw_istore4 dX12_reckons_37 (by decide) (k := ?_)
        refine pw_iload4 dX12_reckons_39 ?_
        refine pw_sipush (v := 3000) dX12_reckons_41 (by decide) ?_
        refine pw_icmp_ge (tgt := 83) dX12_reckons_44 (by decide) (fun c44 => absurd c44 (Int32.not_le.mpr h3)) (fun c44 => ?_)
        refine pw_aload0 dX12_reckons_47 ?_
        refine pw_getr gX12_30 dX12_reckons_48 hF.1 (mf_p15 hF) ?_
        refine pw_iload2 dX12_reckons_51 ?_
        refine pw_iload4 dX12_reckons_52 ?_
        refine pw_sipush (v := 1000) dX12_reckons_54 (by decide) ?_
        refine pw_icmp_ge (tgt := 65) dX12_reckons_57 (by decide) (fun c57 => ?_) (fun c57 => ?_)
        · have h1i : 1000 ≤ c.toInt := (le_i li_1000 rfl).mp c57
          refine pw_aload0 dX12_reckons_65 ?_
          refine pw_getr gX12_33 dX12_reckons_66 hF.1 (mf_p16 hF) ?_
          refine pw_iload4 dX12_reckons_69 ?_
          refine pw_sipush (v := 1000) dX12_reckons_71 (by decide) ?_
          refine pw_isub dX12_reckons_74 ?_
          refine pw_ald (j := (c.toInt - 1000).toNat) dX12_reckons_75 (mf_s6 hF) ((ti_sub rfl li_1000 (by omega)).trans (by omega)) (by omega) ?_
          rw [pmn (show o + 6 ≠ o + 5 by omega)]
          refine pw_ast (j := s.length) dX12_reckons_76 (mf_s5 hF) (ix_m rfl (by omega)) (by omega)  ?_
          refine pw_iinc2 (v := 1) dX12_reckons_77 (by decide) (by decide) (k := ?_)
          refine pw_goto (tgt := 142) dX12_reckons_80 (by decide) ?_
          refine pw_iinc3 (v := 1) dX12_reckons_142 (by decide) (by decide) (k := ?_)
          refine pw_goto (tgt := 4) dX12_reckons_145 (by decide) ?_
          rw [nI_1, nI_1, up2_up]
          exact kw (Int32.not_lt.mpr c57)
        · refine pw_iload4 dX12_reckons_60 ?_
          refine pw_goto (tgt := 76) dX12_reckons_62 (by decide) ?_
          refine pw_ast (j := s.length) dX12_reckons_76 (mf_s5 hF) (ix_m rfl (by omega)) (by omega)  ?_
          refine pw_iinc2 (v := 1) dX12_reckons_77 (by decide) (by decide) (k := ?_)
          refine pw_goto (tgt := 142) dX12_reckons_80 (by decide) ?_
          refine pw_iinc3 (v := 1) dX12_reckons_142 (by decide) (by decide) (k := ?_)
          refine pw_goto (tgt := 4) dX12_reckons_145 (by decide) ?_
          rw [nI_1, nI_1, up2_up]
          exact kn (Int32.not_le.mp c57)
      · rw [if_neg h1] at hev
        obtain ⟨R', kk⟩ := push _ hev
        have kw : ¬ c < 1000 → PW G (d + 1) mX12_reckons 4 [some (.ref o), some (.int (nI law)), some (.int (nI (s.length + 1))), some (.int (nI (k + 1))), some (.int c)] [] (t, sl, gh S V P (pm_up A (o + 5) (pm_up R s.length (A (o + 6) (c.toInt - 1000).toNat))) B Q) (some (.int v)) (t, sl, gh S V P (pm_up A (o + 5) R') B Q) := fun _ => kk
        have kn : c < 1000 → PW G (d + 1) mX12_reckons 4 [some (.ref o), some (.int (nI law)), some (.int (nI (s.length + 1))), some (.int (nI (k + 1))), some (.int c)] [] (t, sl, gh S V P (pm_up A (o + 5) (pm_up R s.length c)) B Q) (some (.int v)) (t, sl, gh S V P (pm_up A (o + 5) R') B Q) := fun q => absurd q h1
        refine ⟨R', ?_⟩
        refine pw_iload3 dX12_reckons_4 ?_
        refine pw_aload0 dX12_reckons_5 ?_
        refine pw_getr gX12_13 dX12_reckons_6 hF.1 (mf_p1 hF) ?_
        refine pw_bipush (v := 8) dX12_reckons_9 (by decide) ?_
        refine pw_iload1 dX12_reckons_11 ?_
        refine pw_iadd dX12_reckons_12 ?_
        refine pw_ald (j := 8 + law) dX12_reckons_13 (mf_s1 hF) (by simp (disch := omega) only [nl_8, nI_add, pk_mul, pk_sub]; exact ix_m (by omega) (by omega)) (by omega) ?_
        rw [pmn (show o + 1 ≠ o + 5 by omega)]
        refine pw_icmp_ge (tgt := 148) dX12_reckons_14 (by decide) (fun c14 => absurd c14 (by rw [le_i hn (ix_n (j := k) (by omega))]; omega)) (fun c14 => ?_)
        refine pw_aload0 dX12_reckons_17 ?_
        refine pw_getr gX12_13 dX12_reckons_18 hF.1 (mf_p1 hF) ?_
        refine pw_sipush (v := 264) dX12_reckons_21 (by decide) ?_
        refine pw_aload0 dX12_reckons_24 ?_
        refine pw_getr gX12_13 dX12_reckons_25 hF.1 (mf_p1 hF) ?_
        refine pw_bipush (v := 6) dX12_reckons_28 (by decide) ?_
        refine pw_iload1 dX12_reckons_30 ?_
        refine pw_iadd dX12_reckons_31 ?_
        refine pw_ald (j := 6 + law) dX12_reckons_32 (mf_s1 hF) (by simp (disch := omega) only [nl_6, nI_add, pk_mul, pk_sub]; exact ix_m (by omega) (by omega)) (by omega) ?_
        rw [pmn (show o + 1 ≠ o + 5 by omega)]
        refine pw_iadd dX12_reckons_33 ?_
        refine pw_iload3 dX12_reckons_34 ?_
        refine pw_iadd dX12_reckons_35 ?_
        refine pw_ald (j := 264 + fr + k) dX12_reckons_36 (mf_s1 hF) (by rw [show (264 : Int32) = nI 264 from rfl]; exact ti_add (ti_add (ix_m rfl (by omega)) hfr (by omega)) (ix_m rfl (by omega)) (by omega)) (by omega) ?_
        rw [pmn (show o + 1 ≠ o + 5 by omega), hc0]
        refine pw_istore4 dX12_reckons_37 (by decide) (k := ?_)
        refine pw_iload4 dX12_reckons_39 ?_
        refine pw_sipush (v := 3000) dX12_reckons_41 (by decide) ?_
        refine pw_icmp_ge (tgt := 83) dX12_reckons_44 (by decide) (fun c44 => absurd c44 (Int32.not_le.mpr h3)) (fun c44 => ?_)
        refine pw_aload0 dX12_reckons_47 ?_
        refine pw_getr gX12_30 dX12_reckons_48 hF.1 (mf_p15 hF) ?_
        refine pw_iload2 dX12_reckons_51 ?_
        refine pw_iload4 dX12_reckons_52 ?_
        refine pw_sipush (v := 1000) dX12_reckons_54 (by decide) ?_
        refine pw_icmp_ge (tgt := 65) dX12_reckons_57 (by decide) (fun c57 => ?_) (fun c57 => ?_)
        · have h1i : 1000 ≤ c.toInt := (le_i li_1000 rfl).mp c57
          refine pw_aload0 dX12_reckons_65 ?_
          refine pw_getr gX12_33 dX12_reckons_66 hF.1 (mf_p16 hF) ?_
          refine pw_iload4 dX12_reckons_69 ?_
          refine pw_sipush (v := 1000) dX12_reckons_71 (by decide) ?_
          refine pw_isub dX12_reckons_74 ?_
          refine pw_ald (j := (c.toInt - 1000).toNat) dX12_reckons_75 (mf_s6 hF) ((ti_sub rfl li_1000 (by omega)).trans (by omega)) (by omega) ?_
          rw [pmn (show o + 6 ≠ o + 5 by omega)]
          refine pw_ast (j := s.length) dX12_reckons_76 (mf_s5 hF) (ix_m rfl (by omega)) (by omega)  ?_
          refine pw_iinc2 (v := 1) dX12_reckons_77 (by decide) (by decide) (k := ?_)
          refine pw_goto (tgt := 142) dX12_reckons_80 (by decide) ?_
          refine pw_iinc3 (v := 1) dX12_reckons_142 (by decide) (by decide) (k := ?_)
          refine pw_goto (tgt := 4) dX12_reckons_145 (by decide) ?_
          rw [nI_1, nI_1, up2_up]
          exact kw (Int32.not_lt.mpr c57)
        · refine pw_iload4 dX12_reckons_60 ?_
          refine pw_goto (tgt := 76) dX12_reckons_62 (by decide) ?_
          refine pw_ast (j := s.length) dX12_reckons_76 (mf_s5 hF) (ix_m rfl (by omega)) (by omega)  ?_
          refine pw_iinc2 (v := 1) dX12_reckons_77 (by decide) (by decide) (k := ?_)
          refine pw_goto (tgt := 142) dX12_reckons_80 (by decide) ?_
          refine pw_iinc3 (v := 1) dX12_reckons_142 (by decide) (by decide) (k := ?_)
          refine pw_goto (tgt := 4) dX12_reckons_145 (by decide) ?_
          rw [nI_1, nI_1, up2_up]
          exact kn (Int32.not_le.mp c57)
    · rw [if_neg h3] at hev
      by_cases h6 : c = 3006
      · rw [if_pos h6] at hev
        match s, hs, hR, hev with
        | [], _, _, hev => cases hev
        | x :: s, hs, hR, hev =>
          have hx0 : R s.length = x := hR 0 (Nat.succ_pos _)
          have hl9 : nI (x :: s).length - 1 = nI s.length := nI_pred s.length
          have hs' : s.length + 1 ≤ k := hs
          obtain ⟨R', kk⟩ := ih (k + 1) ((1 - x) :: s) (pm_up R s.length (1 - x)) (some (.int c)) (by omega) hcn (by simp only [List.length_cons]; omega) (fun i hi => by
            match i with
            | 0 => exact pm_up_eq
            | i + 1 =>
              simp only [List.length_cons] at hi ⊢
              rw [pm_up_ne (by omega)]
              exact hR (i + 1) (by simp only [List.length_cons]; omega)) hev
          refine ⟨R', ?_⟩
          refine pw_iload3 dX12_reckons_4 ?_
          refine pw_aload0 dX12_reckons_5 ?_
          refine pw_getr gX12_13 dX12_reckons_6 hF.1 (mf_p1 hF) ?_
          refine pw_bipush (v := 8) dX12_reckons_9 (by decide) ?_
          refine pw_iload1 dX12_reckons_11 ?_
          refine pw_iadd dX12_reckons_12 ?_
          refine pw_ald (j := 8 + law) dX12_reckons_13 (mf_s1 hF) (by simp (disch := omega) only [nl_8, nI_add, pk_mul, pk_sub]; exact ix_m (by omega) (by omega)) (by omega) ?_
          rw [pmn (show o + 1 ≠ o + 5 by omega)]
          refine pw_icmp_ge (tgt := 148) dX12_reckons_14 (by decide) (fun c14 => absurd c14 (by rw [le_i hn (ix_n (j := k) (by omega))]; omega)) (fun c14 => ?_)
          refine pw_aload0 dX12_reckons_17 ?_
          refine pw_getr gX12_13 dX12_reckons_18 hF.1 (mf_p1 hF) ?_
          refine pw_sipush (v := 264) dX12_reckons_21 (by decide) ?_
          refine pw_aload0 dX12_reckons_24 ?_
          refine pw_getr gX12_13 dX12_reckons_25 hF.1 (mf_p1 hF) ?_
          refine pw_bipush (v := 6) dX12_reckons_28 (by decide) ?_
          refine pw_iload1 dX12_reckons_30 ?_
          refine pw_iadd dX12_reckons_31 ?_
          refine pw_ald (j := 6 + law) dX12_reckons_32 (mf_s1 hF) (by simp (disch := omega) only [nl_6, nI_add, pk_mul, pk_sub]; exact ix_m (by omega) (by omega)) (by omega) ?_
          rw [pmn (show o + 1 ≠ o + 5 by omega)]
          refine pw_iadd dX12_reckons_33 ?_
          refine pw_iload3 dX12_reckons_34 ?_
          refine pw_iadd dX12_reckons_35 ?_
          refine pw_ald (j := 264 + fr + k) dX12_reckons_36 (mf_s1 hF) (by rw [show (264 : Int32) = nI 264 from rfl]; exact ti_add (ti_add (ix_m rfl (by omega)) hfr (by omega)) (ix_m rfl (by omega)) (by omega)) (by omega) ?_
          rw [pmn (show o + 1 ≠ o + 5 by omega), hc0]
          refine pw_istore4 dX12_reckons_37 (by decide) (k := ?_)
          refine pw_iload4 dX12_reckons_39 ?_
          refine pw_sipush (v := 3000) dX12_reckons_41 (by decide) ?_
          refine pw_icmp_ge (tgt := 83) dX12_reckons_44 (by decide) (fun c44 => ?_) (fun c44 => absurd (Int32.not_lt.mp h3) c44)
          refine pw_iload4 dX12_reckons_83 ?_
          refine pw_sipush (v := 3006) dX12_reckons_85 (by decide) ?_
          refine pw_icmp_ne (tgt := 112) dX12_reckons_88 (by decide) (fun c88 => absurd h6 c88) (fun c88 => ?_)
          refine pw_aload0 dX12_reckons_91 ?_
          refine pw_getr gX12_30 dX12_reckons_92 hF.1 (mf_p15 hF) ?_
          refine pw_iload2 dX12_reckons_95 ?_
          refine pw_iconst (v := 1) dX12_reckons_96 (by decide) ?_
          refine pw_isub dX12_reckons_97 ?_
          refine pw_iconst (v := 1) dX12_reckons_98 (by decide) ?_
          refine pw_aload0 dX12_reckons_99 ?_
          refine pw_getr gX12_30 dX12_reckons_100 hF.1 (mf_p15 hF) ?_
          refine pw_iload2 dX12_reckons_103 ?_
          refine pw_iconst (v := 1) dX12_reckons_104 (by decide) ?_
          refine pw_isub dX12_reckons_105 ?_
          refine pw_ald (j := s.length) dX12_reckons_106 (mf_s5 hF) (by rw [hl9]; exact ix_m rfl (by omega)) (by omega) ?_
          rw [pm_up_eq, hx0]
          refine pw_isub dX12_reckons_107 ?_
          refine pw_ast (j := s.length) dX12_reckons_108 (mf_s5 hF) (by rw [hl9]; exact ix_m rfl (by omega)) (by omega)  ?_
          refine pw_goto (tgt := 142) dX12_reckons_109 (by decide) ?_
          refine pw_iinc3 (v := 1) dX12_reckons_142 (by decide) (by decide) (k := ?_)
          refine pw_goto (tgt := 4) dX12_reckons_145 (by decide) ?_
          rw [nI_1, up2_up]
          exact kk
      · rw [if_neg h6] at hev
        match s, hs, hR, hev with
        | [], _, _, hev => cases hev
        | [_], _, _, hev => cases hev
        | y :: x :: s, hs, hR, hev =>
          have hy0 : R (s.length + 1) = y := hR 0 (Nat.succ_pos _)
          have hx0 : R s.length = x := hR 1 (by simp only [List.length_cons]; omega)
          have hl9 : nI (y :: x :: s).length + (-1) = nI (s.length + 1) := pk_m1 (s.length + 1)
          have hl8 : nI (s.length + 1) - 1 = nI s.length := nI_pred s.length
          have hs' : s.length + 2 ≤ k := hs
          obtain ⟨R', kk⟩ := ih (k + 1) (rf_btw c x y :: s) (pm_up R s.length (rf_btw c x y)) (some (.int c)) (by omega) hcn (by simp only [List.length_cons]; omega) (fun i hi => by
            match i with
            | 0 => exact pm_up_eq
            | i + 1 =>
              simp only [List.length_cons] at hi ⊢
              rw [pm_up_ne (by omega)]
              have := hR (i + 2) (by simp only [List.length_cons]; omega)
              simp only [List.length_cons] at this
              rw [show s.length + 1 - 1 - (i + 1) = s.length + 1 + 1 - 1 - (i + 2) by omega]
              exact this) hev
          refine ⟨R', ?_⟩
          refine pw_iload3 dX12_reckons_4 ?_
          refine pw_aload0 dX12_reckons_5 ?_
          refine pw_getr gX12_13 dX12_reckons_6 hF.1 (mf_p1 hF) ?_
          refine pw_bipush (v := 8) dX12_reckons_9 (by decide) ?_
          refine pw_iload1 dX12_reckons_11 ?_
          refine pw_iadd dX12_reckons_12 ?_
          refine pw_ald (j := 8 + law) dX12_reckons_13 (mf_s1 hF) (by simp (disch := omega) only [nl_8, nI_add, pk_mul, pk_sub]; exact ix_m (by omega) (by omega)) (by omega) ?_
          rw [pmn (show o + 1 ≠ o + 5 by omega)]
          refine pw_icmp_ge (tgt := 148) dX12_reckons_14 (by decide) (fun c14 => absurd c14 (by rw [le_i hn (ix_n (j := k) (by omega))]; omega)) (fun c14 => ?_)
          refine pw_aload0 dX12_reckons_17 ?_
          refine pw_getr gX12_13 dX12_reckons_18 hF.1 (mf_p1 hF) ?_
          refine pw_sipush (v := 264) dX12_reckons_21 (by decide) ?_
          refine pw_aload0 dX12_reckons_24 ?_
          refine pw_getr gX12_13 dX12_reckons_25 hF.1 (mf_p1 hF) ?_
          refine pw_bipush (v := 6) dX12_reckons_28 (by decide) ?_
          refine pw_iload1 dX12_reckons_30 ?_
          refine pw_iadd dX12_reckons_31 ?_
          refine pw_ald (j := 6 + law) dX12_reckons_32 (mf_s1 hF) (by simp (disch := omega) only [nl_6, nI_add, pk_mul, pk_sub]; exact ix_m (by omega) (by omega)) (by omega) ?_
          rw [pmn (show o + 1 ≠ o + 5 by omega)]
          refine pw_iadd dX12_reckons_33 ?_
          refine pw_iload3 dX12_reckons_34 ?_
          refine pw_iadd dX12_reckons_35 ?_
          refine pw_ald (j := 264 + fr + k) dX12_reckons_36 (mf_s1 hF) (by rw [show (264 : Int32) = nI 264 from rfl]; exact ti_add (ti_add (ix_m rfl (by omega)) hfr (by omega)) (ix_m rfl (by omega)) (by omega)) (by omega) ?_
          rw [pmn (show o + 1 ≠ o + 5 by omega), hc0]
          refine pw_istore4 dX12_reckons_37 (by decide) (k := ?_)
          refine pw_iload4 dX12_reckons_39 ?_
          refine pw_sipush (v := 3000) dX12_reckons_41 (by decide) ?_
          refine pw_icmp_ge (tgt := 83) dX12_reckons_44 (by decide) (fun c44 => ?_) (fun c44 => absurd (Int32.not_lt.mp h3) c44)
          refine pw_iload4 dX12_reckons_83 ?_
          refine pw_sipush (v := 3006) dX12_reckons_85 (by decide) ?_
          refine pw_icmp_ne (tgt := 112) dX12_reckons_88 (by decide) (fun c88 => ?_) (fun c88 => absurd c88 h6)
          refine pw_iinc2 (v := -1) dX12_reckons_112 (by decide) (by decide) (k := ?_)
          rw [hl9]
          refine pw_aload0 dX12_reckons_115 ?_
          refine pw_getr gX12_30 dX12_reckons_116 hF.1 (mf_p15 hF) ?_
          refine pw_iload2 dX12_reckons_119 ?_
          refine pw_iconst (v := 1) dX12_reckons_120 (by decide) ?_
          refine pw_isub dX12_reckons_121 ?_
          refine pw_iload4 dX12_reckons_122 ?_
          refine pw_aload0 dX12_reckons_124 ?_
          refine pw_getr gX12_30 dX12_reckons_125 hF.1 (mf_p15 hF) ?_
          refine pw_iload2 dX12_reckons_128 ?_
          refine pw_iconst (v := 1) dX12_reckons_129 (by decide) ?_
          refine pw_isub dX12_reckons_130 ?_
          refine pw_ald (j := s.length) dX12_reckons_131 (mf_s5 hF) (by rw [hl8]; exact ix_m rfl (by omega)) (by omega) ?_
          rw [pm_up_eq, hx0]
          refine pw_aload0 dX12_reckons_132 ?_
          refine pw_getr gX12_30 dX12_reckons_133 hF.1 (mf_p15 hF) ?_
          refine pw_iload2 dX12_reckons_136 ?_
          refine pw_ald (j := s.length + 1) dX12_reckons_137 (mf_s5 hF) (ix_m rfl (by omega)) (by omega) ?_
          rw [pm_up_eq, hy0]
          refine pw_s3i wX12_between lX12_229 dX12_reckons_138 (c_between c x y) rfl (Nat.le_of_ble_eq_true rfl) (Nat.le_of_ble_eq_true rfl) ?_
          refine pw_ast (j := s.length) dX12_reckons_141 (mf_s5 hF) (by rw [hl8]; exact ix_m rfl (by omega)) (by omega)  ?_
          refine pw_iinc3 (v := 1) dX12_reckons_142 (by decide) (by decide) (k := ?_)
          refine pw_goto (tgt := 4) dX12_reckons_145 (by decide) ?_
          rw [nI_1, up2_up]
          exact kk
set_option maxRecDepth 20000 in
theorem c_reckons {G : gT} {d : Nat} {S : sS} {V : sV} {P : sP} {A : sV} {B : sB} {Q : sP} {t sl o : Nat} (hF : MF S P o) {law fr : Nat} {cs : List Int32} {v : Int32} (hlaw : law < 2) (hn : (A (o + 1) (8 + law)).toInt = (cs.length : Int)) (hfr : (A (o + 1) (6 + law)).toInt = (fr : Int)) (hb : fr + cs.length ≤ 900) (hc : ∀ (i : Nat) (c : Int32), cs[i]? = some c → A (o + 1) (264 + fr + i) = c ∧ rk_ok c) (hev : rkS (A (o + 6)) cs [] = some [v]) : ∃ R' : Nat → Int32, PW G (d + 1) mX12_reckons 0 [some (.ref o), some (.int (nI law)), none, none, none] [] (t, sl, gh S V P A B Q) (some (.int v)) (t, sl, gh S V P (pm_up A (o + 5) R') B Q) := by
  obtain ⟨R', kk⟩ := l_reckons (G := G) (d := d) (V := V) (B := B) (Q := Q) (t := t) (sl := sl) hF hlaw hn hfr hb v cs 0 [] (A (o + 5)) none (by omega) (fun i c hi => by rw [Nat.zero_add]; exact hc i c hi) (Nat.le_refl 0) (fun i hi => absurd hi (by simp)) hev
  rw [pm_up_self] at kk
  refine ⟨R', ?_⟩
  refine pw_iconst (v := 0) dX12_reckons_0 (by decide) ?_
  refine pw_istore2 dX12_reckons_1 (by decide) (k := ?_)
  refine pw_iconst (v := 0) dX12_reckons_2 (by decide) ?_
  refine pw_istore3 dX12_reckons_3 (by decide) (k := ?_)
  exact kk
