/-! ===== the reference: term, and what is only told ===== -/
theorem dd_ok {al : Nat → Int32} (hD : DV al) (hK : KV (al 2).toInt (fun k => al (75 + k))) (x : Int32) : (∀ i, i < 75 ∨ 92 ≤ i → (sp_dd al x).1.2 i = al i) ∧ KV (al 2).toInt (fun k => (sp_dd al x).1.2 (75 + k)) := by
  have hv : ∀ v : Int, (∀ i, i < 75 ∨ 92 ≤ i → (ddV al v).2 i = al i) ∧ KV (al 2).toInt (fun k => (ddV al v).2 (75 + k)) := fun v => by
    unfold ddV
    by_cases e : sp_why al v = 0
    · rw [if_pos e]
      exact act_ok hD hK e
    · rw [if_neg e]
      exact ⟨fun _ _ => rfl, hK⟩
  unfold sp_dd
  by_cases h0 : dw x 5 = 0
  · rw [if_pos h0]
    exact ⟨fun i hi => fr_out hi, hK.fri⟩
  rw [if_neg h0]
  by_cases h4 : dw x 5 = 4
  · rw [if_pos h4]
    show (∀ i, i < 75 ∨ 92 ≤ i → (dd4 al (dw (dx x) 5) (dw (dx (dx x)) 10)).2 i = al i) ∧ KV (al 2).toInt (fun k => (dd4 al (dw (dx x) 5) (dw (dx (dx x)) 10)).2 (75 + k))
    have b1 := dw_lt (dx x) (b := 5) (by decide)
    have b2 := dw_lt (dx (dx x)) (b := 10) (by decide)
    unfold dd4
    by_cases e : isP al (dw (dx x) 5 : Nat) = true
    · rw [if_pos e]
      exact ⟨fun i hi => pm_up_ne (by omega), temp_ok hK b1 b2⟩
    · rw [if_neg e]
      exact ⟨fun _ _ => rfl, hK⟩
  rw [if_neg h4]
  by_cases h3 : dw x 5 = 3
  · rw [if_pos h3]
    exact hv _
  · rw [if_neg h3]
    exact hv _
def sp_term : Nat → (Nat → Int32) → Int32 → Nat → (Nat → Int32) × Nat
  | 0, al, _, c => (al, c)
  | m + 1, al, x, c => sp_term m (sp_dd al x).1.2 (sp_dd al x).2 (c + if (sp_dd al x).1.1 then 1 else 0)
theorem term_ok : ∀ (m : Nat) (al : Nat → Int32) (x : Int32) (c : Nat), DV al → KV (al 2).toInt (fun k => al (75 + k)) → (∀ i, i < 75 ∨ 92 ≤ i → (sp_term m al x c).1 i = al i) ∧ KV (al 2).toInt (fun k => (sp_term m al x c).1 (75 + k)) ∧ (sp_term m al x c).2 ≤ c + m
  | 0, al, x, c, hD, hK => ⟨fun _ _ => rfl, hK, Nat.le_refl _⟩
  | m + 1, al, x, c, hD, hK => by
    rw [sp_term]
    have ok := dd_ok hD hK x
    have h2 := ok.1 2 (by omega)
    have ih := term_ok m (sp_dd al x).1.2 (sp_dd al x).2 (c + if (sp_dd al x).1.1 then 1 else 0) (hD.cong (fun i hi => ok.1 i (by omega))) (by rw [h2]; exact ok.2)
    rw [h2] at ih
    refine ⟨fun i hi => (ih.1 i hi).trans (ok.1 i hi), ih.2.1, ?_⟩
    have := ih.2.2
    by_cases e : (sp_dd al x).1.1 = true
    · rw [if_pos e] at this ⊢
      omega
    · rw [if_neg e] at this ⊢
      omega
def sp_termC (al : Nat → Int32) (x : Int32) (y : Int) : Int32 × (Nat → Int32) := if 1 ≤ y ∧ y ≤ 40 then (nI (sp_term y.toNat al x 0).2, if (sp_term y.toNat al x 0).2 = 0 then (sp_term y.toNat al x 0).1 else nk al (sp_term y.toNat al x 0).1) else (-99000003, al)
set_option maxRecDepth 20000 in
theorem l_term {G : gT} {d : Nat} {S : sS} {P : sP} {B : sB} {Q : sP} {t sl o : Nat} (hF : MF S P o) {T : Nat} {x1 : Int32} (hT : T ≤ 40) {V0 A0 : sV} {R : (Nat → Int32) × Nat} {Z : Option Value → Ph → Prop} (kf : ∀ (V A : sV) (c : Nat), FP o V0 V → DV (A (o + 1)) → KV ((A (o + 1)) 2).toInt (fun k => (A (o + 1)) (75 + k)) → FA o (pm_up A0 (o + 1) (A (o + 1))) A → sp_term 0 (A (o + 1)) (V o 27) c = R → WQ G (d + 9) mX12_term 61 [some (.ref o), some (.int x1), some (.int (nI T)), some (.int (nI c)), some (.int (nI T))] [] (t, sl, gh S V P A B Q) Z) : ∀ (m k c : Nat) (V A : sV), k + m = T → FP o V0 V → DV (A (o + 1)) → KV ((A (o + 1)) 2).toInt (fun k => (A (o + 1)) (75 + k)) → FA o (pm_up A0 (o + 1) (A (o + 1))) A → sp_term m (A (o + 1)) (V o 27) c = R → c ≤ k → WQ G (d + 9) mX12_term 34 [some (.ref o), some (.int x1), some (.int (nI T)), some (.int (nI c)), some (.int (nI k))] [] (t, sl, gh S V P A B Q) Z := by
  intro m
  induction m with
  | zero =>
    intro k c V A hk i1 i2 i3 i5 i6 i7
    have hk : k = T := hk
    subst hk
    refine WQ.st (fun _ _ kz => pw_iload4 dX12_term_34 kz) ?_
    refine WQ.st (fun _ _ kz => pw_iload2 dX12_term_36 kz) ?_
    refine WQ.br (fun _ _ ka kb => pw_icmp_ge (tgt := 61) dX12_term_37 (by decide) ka kb) (fun c37 => ?_) (fun c37 => absurd (Int32.le_refl _) c37)
    exact kf V A c i1 i2 i3 i5 i6
  | succ m ih =>
    intro k c V A hk i1 i2 i3 i5 i6 i7
    refine WQ.st (fun _ _ kz => pw_iload4 dX12_term_34 kz) ?_
    refine WQ.st (fun _ _ kz => pw_iload2 dX12_term_36 kz) ?_
    refine WQ.br (fun _ _ ka kb => pw_icmp_ge (tgt := 61) dX12_term_37 (by decide) ka kb) (fun c37 => absurd c37 (by rw [le_i (ix_n (j := T) (by omega)) (ix_n (j := k) (by omega))]; omega)) (fun c37 => ?_)
    refine WQ.st (fun _ _ kz => pw_iload3 dX12_term_40 kz) ?_
    refine WQ.st (fun _ _ kz => pw_aload0 dX12_term_41 kz) ?_
    obtain ⟨_, _, k0, rfl, V1, A1, rfl, f1, f2, f3⟩ := c_goesDrawn (d := d) (P := P) (S := S) (G := G) (V := V) (A := A) (B := B) (Q := Q) (t := t) (sl := sl) hF i2 i3
    have hA1 : A1 (o + 1) = (sp_dd (A (o + 1)) (V o 27)).1.2 := by rw [f3 _ (by omega), pm_up_eq]
    have ok := dd_ok i2 i3 (V o 27)
    have h2 := ok.1 2 (by omega)
    refine WQ.st (fun _ _ kz => pw_o0i wX12_goesDrawn lX12_407 rfl dX12_term_42 hF.1 (k0) rfl (Nat.le_of_ble_eq_true rfl) (Nat.le_of_ble_eq_true rfl) kz) ?_
    refine WQ.br (fun _ _ ka kb => pw_if_eq (tgt := 52) dX12_term_45 (by decide) ka kb) (fun c45 => ?_) (fun c45 => ?_)
    · rw [bI_0] at c45
      refine WQ.st (fun _ _ kz => pw_iconst (v := 0) dX12_term_52 (by decide) kz) ?_
      refine WQ.st (fun _ _ kz => pw_iadd dX12_term_53 kz) ?_
      refine WQ.st (fun _ _ kz => pw_istore3 dX12_term_54 (by decide) (k := kz)) ?_
      refine WQ.st (fun _ _ kz => pw_iinc4 (v := 1) dX12_term_55 (by decide) (by decide) (k := kz)) ?_
      refine WQ.st (fun _ _ kz => pw_goto (tgt := 34) dX12_term_58 (by decide) kz) ?_
      rw [show nI c + 0 = nI (c + if false = true then 1 else 0) from by rw [show (0 : Int32) = nI 0 from rfl, nI_add]; rfl, nI_1]
      rw [sp_term, c45] at i6
      exact ih (k + 1) _ V1 A1 (by omega) (i1.tr f1) (by rw [hA1]; exact i2.cong (fun i hi => ok.1 i (by omega))) (by rw [hA1, h2]; exact ok.2) (fun a ha => by
        rw [f3 a ha]
        by_cases e : a = o + 1
        · rw [e, pm_up_eq, pm_up_eq, hA1]
        · rw [pm_up_ne e, pm_up_ne e, i5 a ha, pm_up_ne e]) (by rw [hA1, f2]; exact i6) (by show c + 0 ≤ k + 1; omega)
    · rw [bI_n] at c45
      refine WQ.st (fun _ _ kz => pw_iconst (v := 1) dX12_term_48 (by decide) kz) ?_
      refine WQ.st (fun _ _ kz => pw_goto (tgt := 53) dX12_term_49 (by decide) kz) ?_
      refine WQ.st (fun _ _ kz => pw_iadd dX12_term_53 kz) ?_
      refine WQ.st (fun _ _ kz => pw_istore3 dX12_term_54 (by decide) (k := kz)) ?_
      refine WQ.st (fun _ _ kz => pw_iinc4 (v := 1) dX12_term_55 (by decide) (by decide) (k := kz)) ?_
      refine WQ.st (fun _ _ kz => pw_goto (tgt := 34) dX12_term_58 (by decide) kz) ?_
      rw [show nI c + 1 = nI (c + if true = true then 1 else 0) from nI_add c 1, nI_1]
      rw [sp_term, c45] at i6
      exact ih (k + 1) _ V1 A1 (by omega) (i1.tr f1) (by rw [hA1]; exact i2.cong (fun i hi => ok.1 i (by omega))) (by rw [hA1, h2]; exact ok.2) (fun a ha => by
        rw [f3 a ha]
        by_cases e : a = o + 1
        · rw [e, pm_up_eq, pm_up_eq, hA1]
        · rw [pm_up_ne e, pm_up_ne e, i5 a ha, pm_up_ne e]) (by rw [hA1, f2]; exact i6) (by show c + 1 ≤ k + 1; omega)
set_option maxRecDepth 20000 in
theorem p_term {G : gT} {d : Nat} {S : sS} {V : sV} {P : sP} {A : sV} {B : sB} {Q : sP} {t sl o : Nat} (hF : MF S P o) (hA : AV (A (o + 1)))  (x y : Int32) : WQ G (d + 9) mX12_term 0 [some (.ref o), some (.int x), some (.int y), none, none] [] (t, sl, gh S V P A B Q) (PZ o S P Q t sl V A B (.int (sp_termC (A (o + 1)) x y.toInt).1) (sp_termC (A (o + 1)) x y.toInt).2) := by
  refine WQ.st (fun _ _ kz => pw_aload0 dX12_term_0 kz) ?_
  refine WQ.st (fun _ _ kz => pw_iconst (v := 0) dX12_term_1 (by decide) kz) ?_
  refine WQ.st (fun _ _ kz => pw_puti (pX12_1 _ rfl) dX12_term_2 hF.1 rfl rfl kz) ?_
  refine WQ.st (fun _ _ kz => pw_iload2 dX12_term_5 kz) ?_
  refine WQ.st (fun _ _ kz => pw_i2l dX12_term_6 kz) ?_
  refine WQ.st (fun _ _ kz => pw_lconst (v := 1) dX12_term_7 (by decide) kz) ?_
  refine WQ.st (fun _ _ kz => pw_ldc2 kX12_327 dX12_term_8 kz) ?_
  refine WQ.st (fun _ _ kz => pw_s3i wX12_within lX12_152 dX12_term_11 (c_withinI _ _ _) rfl (Nat.le_of_ble_eq_true rfl) (Nat.le_of_ble_eq_true rfl) kz) ?_
  refine WQ.bn (fun _ _ ka kb => pw_if_ne (tgt := 20) dX12_term_14 (by decide) ka kb) (fun c14 => ?_) (fun c14 => ?_)
  · rw [bI_n] at c14
    have g1 : 1 ≤ y.toInt ∧ y.toInt ≤ 40 := by
      rw [il_t] at c14
      exact of_decide_eq_true c14
    obtain ⟨T, ey, ty, ly⟩ := nI_get (x := y) (n := 41) (by omega) (by omega) (by decide)
    refine WQ.st (fun _ _ kz => pw_aload0 dX12_term_20 kz) ?_
    obtain ⟨_, _, k1, rfl, A1, rfl, hC⟩ := c_keeps (d := d + 8) (P := P) (S := S) (G := G) (V := (up2 V o 0 0)) (A := A) (B := B) (Q := Q) (t := t) (sl := sl) hF
    have hA1 := keeps_al hC
    have hD1 : DV (A1 (o + 1)) := by rw [hA1]; exact hA.dv
    have hK1 : KV (A1 (o + 1) 2).toInt (fun k => A1 (o + 1) (75 + k)) := by rw [hA1]; exact hA.kv
    refine WQ.st (fun _ _ kz => pw_o0v wX12_keeps lX12_332 rfl dX12_term_21 hF.1 (k1) rfl (Nat.le_of_ble_eq_true rfl) (Nat.le_of_ble_eq_true rfl) kz) ?_
    refine WQ.st (fun _ _ kz => pw_aload0 dX12_term_24 kz) ?_
    refine WQ.st (fun _ _ kz => pw_iload1 dX12_term_25 kz) ?_
    refine WQ.st (fun _ _ kz => pw_puti (pX12_401 _ rfl) dX12_term_26 hF.1 rfl rfl kz) ?_
    refine WQ.st (fun _ _ kz => pw_iconst (v := 0) dX12_term_29 (by decide) kz) ?_
    refine WQ.st (fun _ _ kz => pw_istore3 dX12_term_30 (by decide) (k := kz)) ?_
    refine WQ.st (fun _ _ kz => pw_iconst (v := 0) dX12_term_31 (by decide) kz) ?_
    refine WQ.st (fun _ _ kz => pw_istore4 dX12_term_32 (by decide) (k := kz)) ?_
    rw [ey]
    exact l_term (S := S) (P := P) (G := G) (B := B) (Q := Q) (t := t) (sl := sl) (d := d) (x1 := x) hF (T := T) (by omega) (V0 := up2 (up2 V o 0 0) o 27 x) (A0 := A1) (R := sp_term T (A (o + 1)) x 0) (fun V2 A2 c i1 i2 i3 i5 i6 => by
      have ok := term_ok T (A (o + 1)) x 0 hA.dv hA.kv
      rw [← i6] at ok
      have hcT : c ≤ 40 := by
        have : c ≤ 0 + T := ok.2.2
        omega
      have h92 : A2 (o + 1) 92 = A (o + 1) 92 := ok.1 92 (by omega)
      have hc : (A2 (o + 1), c) = sp_term T (A (o + 1)) x 0 := i6
      refine WQ.st (fun _ _ kz => pw_iload3 dX12_term_61 kz) ?_
      refine WQ.br (fun _ _ ka kb => pw_if_le (tgt := 69) dX12_term_62 (by decide) ka kb) (fun c62 => ?_) (fun c62 => ?_)
      · refine WQ.st (fun _ _ kz => pw_iload3 dX12_term_69 kz) ?_
        refine ⟨_, _, pw_iret dX12_term_70 rfl rfl rfl rfl, ?_⟩
        rw [le_i (ix_n (j := c) (by omega)) li_0] at c62
        have c0 : sp_termC (A (o + 1)) x y.toInt = (nI c, A2 (o + 1)) := by
          unfold sp_termC
          rw [if_pos g1, ty, Int.toNat_natCast, ← hc, if_pos (show c = 0 by omega)]
        rw [← ey, c0]
        exact ⟨rfl, V2, A2, B, rfl, ((FP.up (by decide)).tr (FP.up (by decide))).tr i1, FQ.of rfl (fun a e ha => by rw [i5 a (by omega), pm_up_ne e, hC.1 a (by omega)]), FB.rfl⟩
      · refine WQ.st (fun _ _ kz => pw_aload0 dX12_term_65 kz) ?_
        obtain ⟨_, _, k9, rfl, A4, rfl, n1, n2⟩ := c_notes (d := d + 8) (P := P) (S := S) (G := G) (V := V2) (A := A2) (B := B) (Q := Q) (t := t) (sl := sl) hF (by rw [h92]; exact hA.dn)
        refine WQ.st (fun _ _ kz => pw_o0v wX12_notes lX12_341 rfl dX12_term_66 hF.1 (k9) rfl (Nat.le_of_ble_eq_true rfl) (Nat.le_of_ble_eq_true rfl) kz) ?_
        refine WQ.st (fun _ _ kz => pw_iload3 dX12_term_69 kz) ?_
        refine ⟨_, _, pw_iret dX12_term_70 rfl rfl rfl rfl, ?_⟩
        rw [le_i (ix_n (j := c) (by omega)) li_0] at c62
        have c0 : sp_termC (A (o + 1)) x y.toInt = (nI c, nk (A (o + 1)) (A2 (o + 1))) := by
          unfold sp_termC
          rw [if_pos g1, ty, Int.toNat_natCast, ← hc, if_neg (show ¬ c = 0 by omega)]
        rw [← ey, c0]
        exact ⟨rfl, V2, A4, B, rfl, ((FP.up (by decide)).tr (FP.up (by decide))).tr i1, fin_notes hC i5 n1 n2, FB.rfl⟩) T 0 0 _ A1 (by omega) FP.rfl hD1 hK1 (by rw [pm_up_self]; exact FA.rfl) (by rw [hA1, up2_eq]) (by omega)
  · rw [bI_0] at c14
    have g1 : ¬ (1 ≤ y.toInt ∧ y.toInt ≤ 40) := by
      rw [il_t] at c14
      exact of_decide_eq_false c14
    refine WQ.st (fun _ _ kz => pw_ldc kX12_206 dX12_term_17 kz) ?_
    refine ⟨_, _, pw_iret dX12_term_19 rfl rfl rfl rfl, ?_⟩
    have c0 : sp_termC (A (o + 1)) x y.toInt = (-99000003, A (o + 1)) := by unfold sp_termC; rw [if_neg g1]
    rw [c0]
    exact PZ.q (FP.up (by decide)) FQ.rfl FB.rfl
