/-! ===== the reference: a deed done ===== -/
def sp_pc (al : Nat → Int32) (p q : Nat) : Nat → Int32 := sp_plays al p (cmF al p q (lgN al q)).2.1 (sI (cmF al p q (lgN al q)).1.2)
def sp_pb (al : Nat → Int32) (p q : Nat) : Nat → Int32 := sp_plays al p (bsT al p q (-20)) (sI (bsS al p q (-20) (lgN al q)).2)
def sp_act (al : Nat → Int32) (v : Int) : Nat → Int32 := if v = -1 then sp_fri al else if v ≤ 99 then sp_pc al (v / 10).toNat (v % 10).toNat else if v ≤ 199 then sp_pb al ((v - 100) / 10).toNat (v % 10).toNat else sp_lend al ((v - 1000) / 1000).toNat (v / 100 % 10).toNat (nI (v % 100).toNat)
theorem why_0 {al : Nat → Int32} {v : Int} (h : sp_why al v = 0) : v = -1 ∨ (0 ≤ v ∧ v ≤ 99 ∧ sp_wp al (v / 10) (v % 10) = 0) ∨ (100 ≤ v ∧ v ≤ 199 ∧ sp_wb al ((v - 100) / 10) (v % 10) = 0) ∨ (1000 ≤ v ∧ v ≤ 9999 ∧ sp_wl al ((v - 1000) / 1000) (v / 100 % 10) (v % 100) = 0) := by
  unfold sp_why at h
  by_cases h1 : v = -1
  · exact Or.inl h1
  rw [if_neg h1] at h
  by_cases h2 : 0 ≤ v ∧ v ≤ 99
  · rw [if_pos h2] at h
    exact Or.inr (Or.inl ⟨h2.1, h2.2, h⟩)
  rw [if_neg h2] at h
  by_cases h3 : 100 ≤ v ∧ v ≤ 199
  · rw [if_pos h3] at h
    exact Or.inr (Or.inr (Or.inl ⟨h3.1, h3.2, h⟩))
  rw [if_neg h3] at h
  by_cases h4 : 1000 ≤ v ∧ v ≤ 9999
  · rw [if_pos h4] at h
    exact Or.inr (Or.inr (Or.inr ⟨h4.1, h4.2, h⟩))
  rw [if_neg h4] at h
  exact absurd h (by decide)
theorem wb_0 {al : Nat → Int32} {x y : Int} (h : sp_wb al x y = 0) : sp_wp al x y = 0 ∧ bsT al x.toNat y.toNat (-20) ≠ -268435456 := by
  unfold sp_wb at h
  by_cases h1 : sp_wp al x y = 0
  · rw [if_pos h1] at h
    refine ⟨h1, fun q => ?_⟩
    rw [if_pos q] at h
    exact absurd h (by decide)
  · rw [if_neg h1] at h
    exact absurd h h1
theorem wl_0 {al : Nat → Int32} {x y z : Int} (h : sp_wl al x y z = 0) : isP al x = true ∧ isP al y = true ∧ x ≠ y ∧ (1 ≤ z ∧ z ≤ 40) ∧ (-20 ≤ (al (77 + x.toNat)).toInt - z ∧ (al (77 + x.toNat)).toInt - z ≤ 20) ∧ (-20 ≤ (al (77 + y.toNat)).toInt + z ∧ (al (77 + y.toNat)).toInt + z ≤ 20) := by
  unfold sp_wl at h
  by_cases e : (isP al x && (isP al y && (decide (x ≠ y) && decide (1 ≤ z ∧ z ≤ 40)))) = true
  · rw [if_pos e] at h
    simp only [Bool.and_eq_true, decide_eq_true_eq] at e
    by_cases e2 : (isS ((al (77 + x.toNat)).toInt - z) && isS ((al (77 + y.toNat)).toInt + z)) = true
    · rw [Bool.and_eq_true] at e2
      exact ⟨e.1, e.2.1, e.2.2.1, e.2.2.2, of_decide_eq_true e2.1, of_decide_eq_true e2.2⟩
    · rw [if_neg e2] at h
      exact absurd h (by decide)
  · rw [if_neg e] at h
    exact absurd h (by decide)
theorem rf_jo_b (x : Int32) : -9999999 ≤ (rf_jo x).toInt ∧ (rf_jo x).toInt ≤ 9999999 := by
  unfold rf_jo
  by_cases h : x ≤ 9999999
  · rw [if_pos h]
    rw [Int32.le_iff_toInt_le] at h
    by_cases h2 : -9999999 ≤ x
    · rw [if_pos h2]
      rw [Int32.le_iff_toInt_le] at h2
      exact ⟨h2, h⟩
    · rw [if_neg h2]
      decide
  · rw [if_neg h]
    decide
theorem KV.plays {np : Int} {al : Nat → Int32} (h : KV np (fun k => al (75 + k))) {p : Nat} (hp : p < 5) (hnp : (p : Int) < np) {s : Int32} (hs : -20 ≤ s.toInt ∧ s.toInt ≤ 20) (g : Int32) : KV np (fun k => sp_plays al p g s (75 + k)) := by
  refine ⟨fun j hj => ?_, fun j hj => ?_, fun j hj => ?_, fun j hj hn => ?_⟩
  · show -20 ≤ (sp_plays al p g s (75 + (2 + j))).toInt ∧ (sp_plays al p g s (75 + (2 + j))).toInt ≤ 20
    unfold sp_plays pm_up
    rw [if_neg (by omega)]
    by_cases e : 75 + (2 + j) = 77 + p
    · rw [if_pos e]
      exact hs
    · rw [if_neg e]
      exact h.st j hj
  · show -9999999 ≤ (sp_plays al p g s (75 + (7 + j))).toInt ∧ (sp_plays al p g s (75 + (7 + j))).toInt ≤ 9999999
    unfold sp_plays pm_up
    by_cases e : 75 + (7 + j) = 82 + p
    · rw [if_pos e]
      exact rf_jo_b _
    · rw [if_neg e, if_neg (by omega)]
      exact h.jo j hj
  · show 0 ≤ (sp_plays al p g s (75 + (12 + j))).toInt ∧ (sp_plays al p g s (75 + (12 + j))).toInt ≤ 9
    unfold sp_plays pm_up
    rw [if_neg (by omega), if_neg (by omega)]
    exact h.tm j hj
  · show sp_plays al p g s (75 + (2 + j)) = 0 ∧ sp_plays al p g s (75 + (7 + j)) = 0
    unfold sp_plays pm_up
    rw [if_neg (by omega), if_neg (by omega), if_neg (by omega), if_neg (by omega)]
    exact h.ze j hj hn
theorem KV.lend {np : Int} {al : Nat → Int32} (h : KV np (fun k => al (75 + k))) {p q : Nat} (hp : p < 5) (hq : q < 5) (hnp : (p : Int) < np) (hnq : (q : Int) < np) (hpq : p ≠ q) {z : Int32} (hs : -20 ≤ (al (77 + p)).toInt - z.toInt ∧ (al (77 + p)).toInt - z.toInt ≤ 20) (hs2 : -20 ≤ (al (77 + q)).toInt + z.toInt ∧ (al (77 + q)).toInt + z.toInt ≤ 20) : KV np (fun k => sp_lend al p q z (75 + k)) := by
  refine ⟨fun j hj => ?_, fun j hj => ?_, fun j hj => ?_, fun j hj hn => ?_⟩
  · show -20 ≤ (sp_lend al p q z (75 + (2 + j))).toInt ∧ (sp_lend al p q z (75 + (2 + j))).toInt ≤ 20
    unfold sp_lend pm_up
    by_cases e2 : 75 + (2 + j) = 77 + q
    · rw [if_pos e2, if_neg (by omega), ti_add rfl rfl (by omega)]
      exact hs2
    · rw [if_neg e2]
      by_cases e : 75 + (2 + j) = 77 + p
      · rw [if_pos e, ti_sub rfl rfl (by omega)]
        exact hs
      · rw [if_neg e]
        exact h.st j hj
  · show -9999999 ≤ (sp_lend al p q z (75 + (7 + j))).toInt ∧ (sp_lend al p q z (75 + (7 + j))).toInt ≤ 9999999
    unfold sp_lend pm_up
    rw [if_neg (by omega), if_neg (by omega)]
    exact h.jo j hj
  · show 0 ≤ (sp_lend al p q z (75 + (12 + j))).toInt ∧ (sp_lend al p q z (75 + (12 + j))).toInt ≤ 9
    unfold sp_lend pm_up
    rw [if_neg (by omega), if_neg (by omega)]
    exact h.tm j hj
  · show sp_lend al p q z (75 + (2 + j)) = 0 ∧ sp_lend al p q z (75 + (7 + j)) = 0
    unfold sp_lend pm_up
    rw [if_neg (by omega), if_neg (by omega), if_neg (by omega), if_neg (by omega)]
    exact h.ze j hj hn
theorem KV.fri {np : Int} {al : Nat → Int32} (h : KV np (fun k => al (75 + k))) : KV np (fun k => sp_fri al (75 + k)) := by
  have e : ∀ k, 2 ≤ k → sp_fri al (75 + k) = al (75 + k) := fun k hk => by
    unfold sp_fri pm_up
    rw [if_neg (by omega), if_neg (by omega)]
  refine ⟨fun j hj => ?_, fun j hj => ?_, fun j hj => ?_, fun j hj hn => ?_⟩
  · show -20 ≤ (sp_fri al (75 + (2 + j))).toInt ∧ (sp_fri al (75 + (2 + j))).toInt ≤ 20
    rw [e _ (by omega)]
    exact h.st j hj
  · show -9999999 ≤ (sp_fri al (75 + (7 + j))).toInt ∧ (sp_fri al (75 + (7 + j))).toInt ≤ 9999999
    rw [e _ (by omega)]
    exact h.jo j hj
  · show 0 ≤ (sp_fri al (75 + (12 + j))).toInt ∧ (sp_fri al (75 + (12 + j))).toInt ≤ 9
    rw [e _ (by omega)]
    exact h.tm j hj
  · show sp_fri al (75 + (2 + j)) = 0 ∧ sp_fri al (75 + (7 + j)) = 0
    rw [e _ (by omega), e _ (by omega)]
    exact h.ze j hj hn
theorem pl_out {al : Nat → Int32} {p : Nat} (hp : p < 5) {g s : Int32} {i : Nat} (hi : i < 75 ∨ 92 ≤ i) : sp_plays al p g s i = al i := by
  unfold sp_plays pm_up
  rw [if_neg (by omega), if_neg (by omega)]
theorem le_out {al : Nat → Int32} {p q : Nat} (hp : p < 5) (hq : q < 5) {z : Int32} {i : Nat} (hi : i < 75 ∨ 92 ≤ i) : sp_lend al p q z i = al i := by
  unfold sp_lend pm_up
  rw [if_neg (by omega), if_neg (by omega)]
theorem fr_out {al : Nat → Int32} {i : Nat} (hi : i < 75 ∨ 92 ≤ i) : sp_fri al i = al i := by
  unfold sp_fri pm_up
  rw [if_neg (by omega), if_neg (by omega)]
theorem sI_b {s : Nat} (h : s < 41) : -20 ≤ (sI s).toInt ∧ (sI s).toInt ≤ 20 := by
  rw [sI_t (by omega)]
  omega
theorem cm_st {al : Nat → Int32} (hD : DV al) {np : Int} (hK : KV np (fun k => al (75 + k))) {p q : Nat} (hp : p < 5) (hq : q < 4) : (cmF al p q (lgN al q)).1.2 < 41 := (rf_cm_ok (hK.stE hp).2 (fun b l s w _ _ _ _ h => rf_g_in h) _ (Nat.le_refl _)).2
theorem bs_st {al : Nat → Int32} (hD : DV al) {np : Int} (hK : KV np (fun k => al (75 + k))) {p q : Nat} (hp : p < 5) (hq : q < 4) {goal : Int32} (h : bsT al p q goal ≠ -268435456) : (bsS al p q goal (lgN al q)).2 < 41 := (rf_st_ok (hK.stE hp).2 (fun b l s w _ _ _ _ h => rf_g_in h) h _ (Nat.le_refl _)).2.1
/-- the desk stands, after a deed too -/
theorem act_ok {al : Nat → Int32} (hD : DV al) (hK : KV (al 2).toInt (fun k => al (75 + k))) {v : Int} (h : sp_why al v = 0) : (∀ i, i < 75 ∨ 92 ≤ i → sp_act al v i = al i) ∧ KV (al 2).toInt (fun k => sp_act al v (75 + k)) := by
  have hp5 := hD.p5
  have hn4 := hD.n4
  rcases why_0 h with h1 | ⟨h1, h2, h3⟩ | ⟨h1, h2, h3⟩ | ⟨h1, h2, h3⟩
  · have e : sp_act al v = sp_fri al := by unfold sp_act; rw [if_pos h1]
    rw [e]
    exact ⟨fun i hi => fr_out hi, hK.fri⟩
  · have e : sp_act al v = sp_pc al (v / 10).toNat (v % 10).toNat := by unfold sp_act; rw [if_neg (by omega), if_pos h2]
    have g1 := isP_t (wp_0 h3).1
    have g2 := isQ_t (wp_0 h3).2
    rw [e]
    exact ⟨fun i hi => pl_out (by omega) hi, hK.plays (by omega) (by omega) (sI_b (cm_st hD hK (by omega) (by omega))) _⟩
  · have e : sp_act al v = sp_pb al ((v - 100) / 10).toNat (v % 10).toNat := by unfold sp_act; rw [if_neg (by omega), if_neg (by omega), if_pos h2]
    have g0 := wb_0 h3
    have g1 := isP_t (wp_0 g0.1).1
    have g2 := isQ_t (wp_0 g0.1).2
    rw [e]
    exact ⟨fun i hi => pl_out (by omega) hi, hK.plays (by omega) (by omega) (sI_b (bs_st hD hK (by omega) (by omega) g0.2)) _⟩
  · have e : sp_act al v = sp_lend al ((v - 1000) / 1000).toNat (v / 100 % 10).toNat (nI (v % 100).toNat) := by unfold sp_act; rw [if_neg (by omega), if_neg (by omega), if_neg (by omega)]
    obtain ⟨g1, g2, g3, g4, g5, g6⟩ := wl_0 h3
    have g1 := isP_t g1
    have g2 := isP_t g2
    rw [e]
    have ez : (nI (v % 100).toNat).toInt = v % 100 := by rw [nI_toInt (by omega)]; omega
    exact ⟨fun i hi => le_out (by omega) (by omega) hi, hK.lend (by omega) (by omega) (by omega) (by omega) (by omega) (by rw [ez]; exact g5) (by rw [ez]; exact g6)⟩
theorem FA.app {o : Nat} {A A' : sV} (h : FA o A A') (al : Nat → Int32) : FA o (pm_up A (o + 1) al) (pm_up A' (o + 1) al) := fun a ha => by
  by_cases e : a = o + 1
  · rw [e, pm_up_eq, pm_up_eq]
  · rw [pm_up_ne e, pm_up_ne e]
    exact h a ha
theorem w3_20 {V : sV} {o : Nat} {g s k : Int32} : v3 V o g s k o 20 = g := by
  unfold v3
  rw [up2_nk (by decide), up2_nk (by decide), up2_eq]
theorem w3_21 {V : sV} {o : Nat} {g s k : Int32} : v3 V o g s k o 21 = s := by
  unfold v3
  rw [up2_nk (by decide), up2_eq]
theorem w3_22 {V : sV} {o : Nat} {g s k : Int32} : v3 V o g s k o 22 = k := up2_eq
set_option maxRecDepth 20000 in
theorem q_laysComes {G : gT} {d : Nat} {S : sS} {V : sV} {P : sP} {A : sV} {B : sB} {Q : sP} {t sl o : Nat} (hF : MF S P o) (hD : DV (A (o + 1))) (hK : KV ((A (o + 1)) 2).toInt (fun k => (A (o + 1)) (75 + k))) {p q : Nat} (hp : p < 5) (hq : q < 4) : ∃ V' A' : sV, PW G (d + 5) mX12_laysComes 0 [some (.ref o), some (.int (nI p)), some (.int (nI q)), none, none, none] [] (t, sl, gh S V P A B Q) none (t, sl, gh S V' P A' B Q) ∧ FA o A A' ∧ FV o V V' ∧ V' o 20 = (cmF (A (o + 1)) p q (lgN (A (o + 1)) q)).2.1 ∧ V' o 21 = sI (cmF (A (o + 1)) p q (lgN (A (o + 1)) q)).1.2 ∧ V' o 22 = (cmF (A (o + 1)) p q (lgN (A (o + 1)) q)).2.2 ∧ ∀ b, b < lgN (A (o + 1)) q → A' (o + 9) b = rf_cw (TT (A (o + 1)) p q) (stN (A (o + 1)) p) b := by
  obtain ⟨V', A', kb, hb⟩ := c_laysComes (G := G) (d := d) (V := V) (A := A) (B := B) (Q := Q) (t := t) (sl := sl) hF hp hq (hD.lgE hq).2 (hD.lgE hq).1 (hK.stE hp).1 (hK.stE hp).2 hD.gl hD.ml
  exact ⟨V', A', kb, hb.FA, hb.FV, by rw [hb.2.1]; exact w3_20, by rw [hb.2.1]; exact w3_21, by rw [hb.2.1]; exact w3_22, hb.2.2⟩
set_option maxRecDepth 20000 in
theorem c_acts {G : gT} {d : Nat} {S : sS} {V : sV} {P : sP} {A : sV} {B : sB} {Q : sP} {t sl o : Nat} (hF : MF S P o) (hD : DV (A (o + 1))) (hK : KV ((A (o + 1)) 2).toInt (fun k => (A (o + 1)) (75 + k))) (v : Int32) (hw : sp_why (A (o + 1)) v.toInt = 0) (hV : 100 ≤ v.toInt → v.toInt ≤ 199 → V o 20 = bsT (A (o + 1)) ((v.toInt - 100) / 10).toNat (v.toInt % 10).toNat (-20) ∧ V o 21 = sI (bsS (A (o + 1)) ((v.toInt - 100) / 10).toNat (v.toInt % 10).toNat (-20) (lgN (A (o + 1)) (v.toInt % 10).toNat)).2) : WQ G (d + 7) mX12_acts 0 [some (.ref o), some (.int v)] [] (t, sl, gh S V P A B Q) (fun r h' => r = none ∧ ∃ V' A' : sV, h' = (t, sl, gh S V' P A' B Q) ∧ FV o V V' ∧ FA o (pm_up A (o + 1) (sp_act (A (o + 1)) v.toInt)) A') := by
  have hp5 := hD.p5
  have hn4 := hD.n4
  rcases why_0 hw with h1 | ⟨h1, h2, h3⟩ | ⟨h1, h2, h3⟩ | ⟨h1, h2, h3⟩
  · have hv : v = -1 := by rw [← Int32.toInt_inj]; exact h1
    have es : sp_act (A (o + 1)) v.toInt = sp_fri (A (o + 1)) := by unfold sp_act; rw [if_pos h1]
    refine WQ.st (fun _ _ kz => pw_iload1 dX12_acts_0 kz) ?_
    refine WQ.st (fun _ _ kz => pw_iconst (v := -1) dX12_acts_1 (by decide) kz) ?_
    refine WQ.bn (fun _ _ ka kb => pw_icmp_ne (tgt := 12) dX12_acts_2 (by decide) ka kb) (fun c2 => absurd hv c2) (fun c2 => ?_)
    refine WQ.st (fun _ _ kz => pw_aload0 dX12_acts_5 kz) ?_
    obtain ⟨r0, h0, k0, rfl, A', rfl, e⟩ := c_goesFriday (d := d + 6) (P := P) (S := S) (G := G) (V := V) (A := A) (B := B) (Q := Q) (t := t) (sl := sl) hF hD
    refine WQ.st (fun _ _ kz => pw_o0v wX12_goesFriday lX12_358 rfl dX12_acts_6 hF.1 (k0) rfl (Nat.le_of_ble_eq_true rfl) (Nat.le_of_ble_eq_true rfl) kz) ?_
    refine WQ.st (fun _ _ kz => pw_goto (tgt := 86) dX12_acts_9 (by decide) kz) ?_
    refine ⟨_, _, pw_vret dX12_acts_86 rfl rfl rfl, ?_⟩
    exact ⟨rfl, V, A', rfl, FV.rfl, by rw [e, es]; exact FA.rfl⟩
  · obtain ⟨n, hn⟩ : ∃ n : Nat, v.toInt = (n : Int) := ⟨v.toInt.toNat, by omega⟩
    have hv : v = nI n := by rw [nI_ofI (x := v) (by omega), hn]; congr 1
    subst hv
    rw [hn] at h1 h2 h3
    have g1 := isP_t (wp_0 h3).1
    have g2 := isQ_t (wp_0 h3).2
    have hp : n / 10 < 5 := by omega
    have hq : n % 10 < 4 := by omega
    have es : sp_act (A (o + 1)) (nI n).toInt = sp_pc (A (o + 1)) (n / 10) (n % 10) := by
      unfold sp_act
      rw [hn, if_neg (by omega), if_pos h2]
      congr 1 <;> omega
    unfold sp_pc at es
    refine WQ.st (fun _ _ kz => pw_iload1 dX12_acts_0 kz) ?_
    refine WQ.st (fun _ _ kz => pw_iconst (v := -1) dX12_acts_1 (by decide) kz) ?_
    refine WQ.bn (fun _ _ ka kb => pw_icmp_ne (tgt := 12) dX12_acts_2 (by decide) ka kb) (fun c2 => ?_) (fun c2 => absurd c2 (by intro q; have := congrArg Int32.toInt q; rw [ix_n (j := n) (by omega)] at this; exact absurd this (by show ¬ ((n : Int) = -1); omega)))
    refine WQ.st (fun _ _ kz => pw_iload1 dX12_acts_12 kz) ?_
    refine WQ.st (fun _ _ kz => pw_bipush (v := 100) dX12_acts_13 (by decide) kz) ?_
    refine WQ.br (fun _ _ ka kb => pw_icmp_ge (tgt := 41) dX12_acts_15 (by decide) ka kb) (fun c15 => absurd c15 (by rw [le_i li_100 (ix_n (j := n) (by omega))]; omega)) (fun c15 => ?_)
    refine WQ.st (fun _ _ kz => pw_aload0 dX12_acts_18 kz) ?_
    refine WQ.st (fun _ _ kz => pw_iload1 dX12_acts_19 kz) ?_
    refine WQ.st (fun _ _ kz => pw_bipush (v := 10) dX12_acts_20 (by decide) kz) ?_
    refine WQ.st (fun _ _ kz => pw_idiv dX12_acts_22 (by decide) kz) ?_
    rw [nl_10, pk_div (by omega) (by omega) (by omega)]
    refine WQ.st (fun _ _ kz => pw_iload1 dX12_acts_23 kz) ?_
    refine WQ.st (fun _ _ kz => pw_bipush (v := 10) dX12_acts_24 (by decide) kz) ?_
    refine WQ.st (fun _ _ kz => pw_irem dX12_acts_26 (by decide) kz) ?_
    rw [nl_10, pk_rem (by omega) (by omega) (by omega)]
    obtain ⟨V', A', k0, f1, f2, f3, f4, f5, f6⟩ := q_laysComes (d := d + 1) (P := P) (S := S) (G := G) (V := V) (A := A) (B := B) (Q := Q) (t := t) (sl := sl) hF hD hK hp hq
    refine WQ.st (fun _ _ kz => pw_o2v wX12_laysComes lX12_335 rfl dX12_acts_27 hF.1 (k0) rfl (Nat.le_of_ble_eq_true rfl) (Nat.le_of_ble_eq_true rfl) kz) ?_
    refine WQ.st (fun _ _ kz => pw_aload0 dX12_acts_30 kz) ?_
    refine WQ.st (fun _ _ kz => pw_iload1 dX12_acts_31 kz) ?_
    refine WQ.st (fun _ _ kz => pw_bipush (v := 10) dX12_acts_32 (by decide) kz) ?_
    refine WQ.st (fun _ _ kz => pw_idiv dX12_acts_34 (by decide) kz) ?_
    rw [nl_10, pk_div (by omega) (by omega) (by omega)]
    obtain ⟨r0, h0, k0, rfl, A2, rfl, e⟩ := c_plays (d := d + 6) (P := P) (S := S) (G := G) (V := V') (A := A') (B := B) (Q := Q) (t := t) (sl := sl) hF hp
    refine WQ.st (fun _ _ kz => pw_o1v wX12_plays lX12_338 rfl dX12_acts_35 hF.1 (k0) rfl (Nat.le_of_ble_eq_true rfl) (Nat.le_of_ble_eq_true rfl) kz) ?_
    refine WQ.st (fun _ _ kz => pw_goto (tgt := 86) dX12_acts_38 (by decide) kz) ?_
    refine ⟨_, _, pw_vret dX12_acts_86 rfl rfl rfl, ?_⟩
    exact ⟨rfl, V', A2, rfl, f2, by rw [e, f3, f4, f1 (o + 1) (by omega), es]; exact f1.app _⟩
  · obtain ⟨n, hn⟩ : ∃ n : Nat, v.toInt = (n : Int) := ⟨v.toInt.toNat, by omega⟩
    have hv : v = nI n := by rw [nI_ofI (x := v) (by omega), hn]; congr 1
    subst hv
    rw [hn] at h1 h2 h3
    have g0 := wb_0 h3
    have g1 := isP_t (wp_0 g0.1).1
    have g2 := isQ_t (wp_0 g0.1).2
    have hp : (n - 100) / 10 < 5 := by omega
    have es : sp_act (A (o + 1)) (nI n).toInt = sp_pb (A (o + 1)) ((n - 100) / 10) (n % 10) := by
      unfold sp_act
      rw [hn, if_neg (by omega), if_neg (by omega), if_pos h2]
      congr 1 <;> omega
    unfold sp_pb at es
    have hv2 := hV (by omega) (by omega)
    rw [hn, show (((n : Int) - 100) / 10).toNat = (n - 100) / 10 by omega, show ((n : Int) % 10).toNat = n % 10 by omega] at hv2
    refine WQ.st (fun _ _ kz => pw_iload1 dX12_acts_0 kz) ?_
    refine WQ.st (fun _ _ kz => pw_iconst (v := -1) dX12_acts_1 (by decide) kz) ?_
    refine WQ.bn (fun _ _ ka kb => pw_icmp_ne (tgt := 12) dX12_acts_2 (by decide) ka kb) (fun c2 => ?_) (fun c2 => absurd c2 (by intro q; have := congrArg Int32.toInt q; rw [ix_n (j := n) (by omega)] at this; exact absurd this (by show ¬ ((n : Int) = -1); omega)))
    refine WQ.st (fun _ _ kz => pw_iload1 dX12_acts_12 kz) ?_
    refine WQ.st (fun _ _ kz => pw_bipush (v := 100) dX12_acts_13 (by decide) kz) ?_
    refine WQ.br (fun _ _ ka kb => pw_icmp_ge (tgt := 41) dX12_acts_15 (by decide) ka kb) (fun c15 => ?_) (fun c15 => absurd (by rw [le_i li_100 (ix_n (j := n) (by omega))]; omega) c15)
    refine WQ.st (fun _ _ kz => pw_iload1 dX12_acts_41 kz) ?_
    refine WQ.st (fun _ _ kz => pw_sipush (v := 200) dX12_acts_42 (by decide) kz) ?_
    refine WQ.br (fun _ _ ka kb => pw_icmp_ge (tgt := 62) dX12_acts_45 (by decide) ka kb) (fun c45 => absurd c45 (by rw [le_i li_200 (ix_n (j := n) (by omega))]; omega)) (fun c45 => ?_)
    refine WQ.st (fun _ _ kz => pw_aload0 dX12_acts_48 kz) ?_
    refine WQ.st (fun _ _ kz => pw_iload1 dX12_acts_49 kz) ?_
    refine WQ.st (fun _ _ kz => pw_bipush (v := 100) dX12_acts_50 (by decide) kz) ?_
    refine WQ.st (fun _ _ kz => pw_isub dX12_acts_52 kz) ?_
    rw [nl_100, pk_sub (by omega)]
    refine WQ.st (fun _ _ kz => pw_bipush (v := 10) dX12_acts_53 (by decide) kz) ?_
    refine WQ.st (fun _ _ kz => pw_idiv dX12_acts_55 (by decide) kz) ?_
    rw [nl_10, pk_div (by omega) (by omega) (by omega)]
    obtain ⟨r0, h0, k0, rfl, A2, rfl, e⟩ := c_plays (d := d + 6) (P := P) (S := S) (G := G) (V := V) (A := A) (B := B) (Q := Q) (t := t) (sl := sl) hF hp
    refine WQ.st (fun _ _ kz => pw_o1v wX12_plays lX12_338 rfl dX12_acts_56 hF.1 (k0) rfl (Nat.le_of_ble_eq_true rfl) (Nat.le_of_ble_eq_true rfl) kz) ?_
    refine WQ.st (fun _ _ kz => pw_goto (tgt := 86) dX12_acts_59 (by decide) kz) ?_
    refine ⟨_, _, pw_vret dX12_acts_86 rfl rfl rfl, ?_⟩
    exact ⟨rfl, V, A2, rfl, FV.rfl, by rw [e, hv2.1, hv2.2, es]; exact FA.rfl⟩
  · obtain ⟨n, hn⟩ : ∃ n : Nat, v.toInt = (n : Int) := ⟨v.toInt.toNat, by omega⟩
    have hv : v = nI n := by rw [nI_ofI (x := v) (by omega), hn]; congr 1
    subst hv
    rw [hn] at h1 h2 h3
    obtain ⟨g1, g2, g3, g4, g5, g6⟩ := wl_0 h3
    have g1 := isP_t g1
    have g2 := isP_t g2
    have hp : (n - 1000) / 1000 < 5 := by omega
    have hq : n / 100 % 10 < 5 := by omega
    have es : sp_act (A (o + 1)) (nI n).toInt = sp_lend (A (o + 1)) ((n - 1000) / 1000) (n / 100 % 10) (nI (n % 100)) := by
      unfold sp_act
      rw [hn, if_neg (by omega), if_neg (by omega), if_neg (by omega)]
      congr 1 <;> first | omega | (congr 1; omega)
    refine WQ.st (fun _ _ kz => pw_iload1 dX12_acts_0 kz) ?_
    refine WQ.st (fun _ _ kz => pw_iconst (v := -1) dX12_acts_1 (by decide) kz) ?_
    refine WQ.bn (fun _ _ ka kb => pw_icmp_ne (tgt := 12) dX12_acts_2 (by decide) ka kb) (fun c2 => ?_) (fun c2 => absurd c2 (by intro q; have := congrArg Int32.toInt q; rw [ix_n (j := n) (by omega)] at this; exact absurd this (by show ¬ ((n : Int) = -1); omega)))
    refine WQ.st (fun _ _ kz => pw_iload1 dX12_acts_12 kz) ?_
    refine WQ.st (fun _ _ kz => pw_bipush (v := 100) dX12_acts_13 (by decide) kz) ?_
    refine WQ.br (fun _ _ ka kb => pw_icmp_ge (tgt := 41) dX12_acts_15 (by decide) ka kb) (fun c15 => ?_) (fun c15 => absurd (by rw [le_i li_100 (ix_n (j := n) (by omega))]; omega) c15)
    refine WQ.st (fun _ _ kz => pw_iload1 dX12_acts_41 kz) ?_
    refine WQ.st (fun _ _ kz => pw_sipush (v := 200) dX12_acts_42 (by decide) kz) ?_
    refine WQ.br (fun _ _ ka kb => pw_icmp_ge (tgt := 62) dX12_acts_45 (by decide) ka kb) (fun c45 => ?_) (fun c45 => absurd (by rw [le_i li_200 (ix_n (j := n) (by omega))]; omega) c45)
    refine WQ.st (fun _ _ kz => pw_aload0 dX12_acts_62 kz) ?_
    refine WQ.st (fun _ _ kz => pw_iload1 dX12_acts_63 kz) ?_
    refine WQ.st (fun _ _ kz => pw_sipush (v := 1000) dX12_acts_64 (by decide) kz) ?_
    refine WQ.st (fun _ _ kz => pw_isub dX12_acts_67 kz) ?_
    rw [nl_1000, pk_sub (by omega)]
    refine WQ.st (fun _ _ kz => pw_sipush (v := 1000) dX12_acts_68 (by decide) kz) ?_
    refine WQ.st (fun _ _ kz => pw_idiv dX12_acts_71 (by decide) kz) ?_
    rw [nl_1000, pk_div (by omega) (by omega) (by omega)]
    refine WQ.st (fun _ _ kz => pw_iload1 dX12_acts_72 kz) ?_
    refine WQ.st (fun _ _ kz => pw_bipush (v := 100) dX12_acts_73 (by decide) kz) ?_
    refine WQ.st (fun _ _ kz => pw_idiv dX12_acts_75 (by decide) kz) ?_
    rw [nl_100, pk_div (by omega) (by omega) (by omega)]
    refine WQ.st (fun _ _ kz => pw_bipush (v := 10) dX12_acts_76 (by decide) kz) ?_
    refine WQ.st (fun _ _ kz => pw_irem dX12_acts_78 (by decide) kz) ?_
    rw [nl_10, pk_rem (by omega) (by omega) (by omega)]
    refine WQ.st (fun _ _ kz => pw_iload1 dX12_acts_79 kz) ?_
    refine WQ.st (fun _ _ kz => pw_bipush (v := 100) dX12_acts_80 (by decide) kz) ?_
    refine WQ.st (fun _ _ kz => pw_irem dX12_acts_82 (by decide) kz) ?_
    rw [nl_100, pk_rem (by omega) (by omega) (by omega)]
    obtain ⟨r0, h0, k0, rfl, A2, rfl, e⟩ := c_lends1 (d := d + 6) (P := P) (S := S) (G := G) (V := V) (A := A) (B := B) (Q := Q) (t := t) (sl := sl) hF hp hq (nI (n % 100))
    refine WQ.st (fun _ _ kz => pw_o3v wX12_lends1 lX12_351 rfl dX12_acts_83 hF.1 (k0) rfl (Nat.le_of_ble_eq_true rfl) (Nat.le_of_ble_eq_true rfl) kz) ?_
    refine ⟨_, _, pw_vret dX12_acts_86 rfl rfl rfl, ?_⟩
    exact ⟨rfl, V, A2, rfl, FV.rfl, by rw [e, es]; exact FA.rfl⟩
