/-! ===== the reference: told deeds ===== -/
def FP (o : Nat) (V V' : sV) : Prop := (∀ a, a ≠ o → V' a = V a) ∧ V' o 5 = V o 5 ∧ V' o 13 = V o 13 ∧ V' o 14 = V o 14
theorem FV.FP {o : Nat} {V V' : sV} (h : FV o V V') : FP o V V' := ⟨h.1, h.2 5 (by decide) (by decide) (by decide) (by decide) (by decide), h.2 13 (by decide) (by decide) (by decide) (by decide) (by decide), h.2 14 (by decide) (by decide) (by decide) (by decide) (by decide)⟩
theorem FP.rfl {o : Nat} {V : sV} : FP o V V := ⟨fun _ _ => Eq.refl _, Eq.refl _, Eq.refl _, Eq.refl _⟩
theorem FP.tr {o : Nat} {V V' V2 : sV} (h : FP o V V') (h2 : FP o V' V2) : FP o V V2 := ⟨fun a ha => (h2.1 a ha).trans (h.1 a ha), h2.2.1.trans h.2.1, h2.2.2.1.trans h.2.2.1, h2.2.2.2.trans h.2.2.2⟩
theorem FP.up {o k : Nat} {V : sV} {x : Int32} (hk : k ≠ 5 ∧ k ≠ 13 ∧ k ≠ 14) : FP o V (up2 V o k x) := ⟨fun a ha => up2_na ha, up2_nk (Ne.symm hk.1), up2_nk (Ne.symm hk.2.1), up2_nk (Ne.symm hk.2.2)⟩
def FQ (o : Nat) (A A' : sV) : Prop := ∀ a, a < o + 5 ∨ (o + 11 < a ∧ a < o + 14) ∨ o + 19 < a → A' a = A a
theorem FA.FQ {o : Nat} {A A' : sV} (h : FA o A A') : FQ o A A' := fun a ha => h a (by omega)
theorem FQ.rfl {o : Nat} {A : sV} : FQ o A A := fun _ _ => Eq.refl _
theorem FQ.tr {o : Nat} {A A' A2 : sV} (h : FQ o A A') (h2 : FQ o A' A2) : FQ o A A2 := fun a ha => (h2 a ha).trans (h a ha)
theorem FQ.app {o : Nat} {A A' : sV} (h : FQ o A A') (al : Nat → Int32) : FQ o (pm_up A (o + 1) al) (pm_up A' (o + 1) al) := fun a ha => by
  by_cases e : a = o + 1
  · rw [e, pm_up_eq, pm_up_eq]
  · rw [pm_up_ne e, pm_up_ne e]
    exact h a ha
theorem FQ.of {o : Nat} {A A' : sV} {al : Nat → Int32} (h1 : A' (o + 1) = al) (h : ∀ a, a ≠ o + 1 → (a < o + 5 ∨ (o + 11 < a ∧ a < o + 14) ∨ o + 19 < a) → A' a = A a) : FQ o (pm_up A (o + 1) al) A' := fun a ha => by
  by_cases e : a = o + 1
  · rw [e, pm_up_eq, h1]
  · rw [pm_up_ne e]
    exact h a e ha
def PZ (o : Nat) (S : sS) (P Q : sP) (t sl : Nat) (V A : sV) (B : sB) (ans : Value) (al : Nat → Int32) : Option Value → Ph → Prop := fun r h' => r = some ans ∧ ∃ (V' A' : sV) (B' : sB), h' = (t, sl, gh S V' P A' B' Q) ∧ FP o V V' ∧ FQ o (pm_up A (o + 1) al) A' ∧ FB o B B'
theorem PZ.q {o : Nat} {S : sS} {P Q : sP} {t sl : Nat} {V A V' A' : sV} {B B' : sB} {v : Value} (h1 : FP o V V') (h2 : FQ o A A') (h3 : FB o B B') : PZ o S P Q t sl V A B v (A (o + 1)) (some v) (t, sl, gh S V' P A' B' Q) := ⟨rfl, V', A', B', rfl, h1, by rw [pm_up_self]; exact h2, h3⟩
def sp_tell (f : Nat → Int) : Nat → Nat → (Nat → Int32) → (Nat → Int32) × Nat × Int32
  | 0, k, al => (al, k, 0)
  | m + 1, k, al => if sp_why al (f k) = 0 then sp_tell f m (k + 1) (sp_act al (f k)) else (al, k, sp_why al (f k))
set_option maxRecDepth 20000 in
theorem l_tells {G : gT} {d : Nat} {S : sS} {P : sP} {B : sB} {Q : sP} {t sl o : Nat} (hF : MF S P o) {tr n : Nat} (htr : tr < 4) (hn40 : n ≤ 40) : ∀ (m k : Nat) (V A : sV), k + m = n → DV (A (o + 1)) → KV ((A (o + 1)) 2).toInt (fun k => (A (o + 1)) (75 + k)) → A (o + 21) tr = nI n → V o 26 = 0 → WQ G (d + 8) mX12_tells 7 [some (.ref o), some (.int (nI tr)), some (.int (nI k))] [] (t, sl, gh S V P A B Q) (fun r h' => r = some (.int (nI (sp_tell (fun k => (B (o + 22) (40 * tr + k)).toInt) m k (A (o + 1))).2.1)) ∧ ∃ V' A' : sV, h' = (t, sl, gh S V' P A' B Q) ∧ FP o V V' ∧ V' o 26 = (sp_tell (fun k => (B (o + 22) (40 * tr + k)).toInt) m k (A (o + 1))).2.2 ∧ FA o (pm_up A (o + 1) (sp_tell (fun k => (B (o + 22) (40 * tr + k)).toInt) m k (A (o + 1))).1) A') := by
  intro m
  induction m with
  | zero =>
    intro k V A hk hD hK hn h26
    have hk : k = n := hk
    subst hk
    refine WQ.st (fun _ _ kz => pw_iload2 dX12_tells_7 kz) ?_
    refine WQ.st (fun _ _ kz => pw_aload0 dX12_tells_8 kz) ?_
    refine WQ.st (fun _ _ kz => pw_getr gX12_79 dX12_tells_9 hF.1 (mf_p37 hF) kz) ?_
    refine WQ.st (fun _ _ kz => pw_iload1 dX12_tells_12 kz) ?_
    refine WQ.st (fun _ _ kz => pw_ald (j := tr) dX12_tells_13 (mf_s21 hF) (ix_m rfl (by omega)) (by omega) kz) ?_
    rw [hn]
    refine WQ.br (fun _ _ ka kb => pw_icmp_ge (tgt := 67) dX12_tells_14 (by decide) ka kb) (fun c14 => ?_) (fun c14 => absurd (Int32.le_refl _) c14)
    refine WQ.st (fun _ _ kz => pw_aload0 dX12_tells_67 kz) ?_
    refine WQ.st (fun _ _ kz => pw_getr gX12_79 dX12_tells_68 hF.1 (mf_p37 hF) kz) ?_
    refine WQ.st (fun _ _ kz => pw_iload1 dX12_tells_71 kz) ?_
    refine WQ.st (fun _ _ kz => pw_ald (j := tr) dX12_tells_72 (mf_s21 hF) (ix_m rfl (by omega)) (by omega) kz) ?_
    rw [hn]
    refine ⟨_, _, pw_iret dX12_tells_73 rfl rfl rfl rfl, ?_⟩
    exact ⟨rfl, V, A, rfl, FP.rfl, h26, by show FA o (pm_up A (o + 1) (A (o + 1))) A; rw [pm_up_self]; exact FA.rfl⟩
  | succ m ih =>
    intro k V A hk hD hK hn h26
    refine WQ.st (fun _ _ kz => pw_iload2 dX12_tells_7 kz) ?_
    refine WQ.st (fun _ _ kz => pw_aload0 dX12_tells_8 kz) ?_
    refine WQ.st (fun _ _ kz => pw_getr gX12_79 dX12_tells_9 hF.1 (mf_p37 hF) kz) ?_
    refine WQ.st (fun _ _ kz => pw_iload1 dX12_tells_12 kz) ?_
    refine WQ.st (fun _ _ kz => pw_ald (j := tr) dX12_tells_13 (mf_s21 hF) (ix_m rfl (by omega)) (by omega) kz) ?_
    rw [hn]
    refine WQ.br (fun _ _ ka kb => pw_icmp_ge (tgt := 67) dX12_tells_14 (by decide) ka kb) (fun c14 => absurd c14 (by rw [le_i (ix_n (j := n) (by omega)) (ix_n (j := k) (by omega))]; omega)) (fun c14 => ?_)
    refine WQ.st (fun _ _ kz => pw_aload0 dX12_tells_17 kz) ?_
    refine WQ.st (fun _ _ kz => pw_aload0 dX12_tells_18 kz) ?_
    refine WQ.st (fun _ _ kz => pw_aload0 dX12_tells_19 kz) ?_
    refine WQ.st (fun _ _ kz => pw_getr gX12_82 dX12_tells_20 hF.1 (mf_p38 hF) kz) ?_
    refine WQ.st (fun _ _ kz => pw_bipush (v := 40) dX12_tells_23 (by decide) kz) ?_
    refine WQ.st (fun _ _ kz => pw_iload1 dX12_tells_25 kz) ?_
    refine WQ.st (fun _ _ kz => pw_imul dX12_tells_26 kz) ?_
    refine WQ.st (fun _ _ kz => pw_iload2 dX12_tells_27 kz) ?_
    refine WQ.st (fun _ _ kz => pw_iadd dX12_tells_28 kz) ?_
    refine WQ.st (fun _ _ kz => pw_lld (j := (40 * tr) + k) dX12_tells_29 (mf_s22 hF) (by simp (disch := omega) only [nl_40, nI_add, pk_mul, pk_sub]; exact ix_m (by omega) (by omega)) (by omega) kz) ?_
    obtain ⟨r0, h0, k0, rfl, V1, A1, rfl, f1, f2, f3⟩ := c_whyNot (d := d) (P := P) (S := S) (G := G) (V := V) (A := A) (B := B) (Q := Q) (t := t) (sl := sl) hF hD hK (B (o + 22) (40 * tr + k))
    refine WQ.st (fun _ _ kz => pw_o1i wX12_whyNot lX12_378 rfl dX12_tells_30 hF.1 (k0) rfl (Nat.le_of_ble_eq_true rfl) (Nat.le_of_ble_eq_true rfl) kz) ?_
    refine WQ.st (fun _ _ kz => pw_puti (pX12_375 _ rfl) dX12_tells_33 hF.1 rfl rfl kz) ?_
    refine WQ.st (fun _ _ kz => pw_aload0 dX12_tells_36 kz) ?_
    refine WQ.st (fun _ _ kz => pw_geti gX12_375 dX12_tells_37 hF.1 kz) ?_
    refine WQ.br (fun _ _ ka kb => pw_if_eq (tgt := 45) dX12_tells_40 (by decide) ka kb) (fun c40 => ?_) (fun c40 => ?_)
    · refine WQ.st (fun _ _ kz => pw_aload0 dX12_tells_45 kz) ?_
      refine WQ.st (fun _ _ kz => pw_aload0 dX12_tells_46 kz) ?_
      refine WQ.st (fun _ _ kz => pw_getr gX12_82 dX12_tells_47 hF.1 (mf_p38 hF) kz) ?_
      refine WQ.st (fun _ _ kz => pw_bipush (v := 40) dX12_tells_50 (by decide) kz) ?_
      refine WQ.st (fun _ _ kz => pw_iload1 dX12_tells_52 kz) ?_
      refine WQ.st (fun _ _ kz => pw_imul dX12_tells_53 kz) ?_
      refine WQ.st (fun _ _ kz => pw_iload2 dX12_tells_54 kz) ?_
      refine WQ.st (fun _ _ kz => pw_iadd dX12_tells_55 kz) ?_
      refine WQ.st (fun _ _ kz => pw_lld (j := (40 * tr) + k) dX12_tells_56 (mf_s22 hF) (by simp (disch := omega) only [nl_40, nI_add, pk_mul, pk_sub]; exact ix_m (by omega) (by omega)) (by omega) kz) ?_
      refine WQ.st (fun _ _ kz => pw_l2i dX12_tells_57 kz) ?_
      rw [up2_eq] at c40
      have hal : A1 (o + 1) = A (o + 1) := f1 _ (by omega)
      have hvi : (B (o + 22) (40 * tr + k)).toInt32.toInt = (B (o + 22) (40 * tr + k)).toInt := li_t (by
        rcases why_0 c40 with q | q | q | q <;> omega)
      obtain ⟨r0, h0, k1, rfl, V3, A3, rfl, g1, g2⟩ := c_acts (d := d) (P := P) (S := S) (G := G) (V := (up2 V1 o 26 (sp_why (A (o + 1)) (B (o + 22) (40 * tr + k)).toInt))) (A := A1) (B := B) (Q := Q) (t := t) (sl := sl) hF (by rw [hal]; exact hD) (by rw [hal]; exact hK) (B (o + 22) (40 * tr + k)).toInt32 (by rw [hal, hvi]; exact c40) (by rw [hal, hvi]; intro q1 q2; rw [up2_nk (by decide), up2_nk (by decide)]; exact f3 q1 q2 c40)
      refine WQ.st (fun _ _ kz => pw_o1v wX12_acts lX12_382 rfl dX12_tells_58 hF.1 (k1) rfl (Nat.le_of_ble_eq_true rfl) (Nat.le_of_ble_eq_true rfl) kz) ?_
      refine WQ.st (fun _ _ kz => pw_iinc2 (v := 1) dX12_tells_61 (by decide) (by decide) (k := kz)) ?_
      refine WQ.st (fun _ _ kz => pw_goto (tgt := 7) dX12_tells_64 (by decide) kz) ?_
      rw [nI_1]
      rw [hal, hvi] at g2
      have hA3 : A3 (o + 1) = sp_act (A (o + 1)) (B (o + 22) (40 * tr + k)).toInt := by rw [g2 _ (by omega), pm_up_eq]
      have ok := act_ok hD hK c40
      have kk := ih (k + 1) V3 A3 (by omega) (by rw [hA3]; exact hD.cong (fun i hi => ok.1 i (by omega))) (by rw [hA3, ok.1 2 (by omega)]; exact ok.2) (by rw [g2 _ (by omega), pm_up_ne (by omega), f1 _ (by omega)]; exact hn) (by rw [g1.2 26 (by decide) (by decide) (by decide) (by decide) (by decide), up2_eq]; exact c40)
      refine kk.imp (fun r h' z => ?_)
      rw [hA3] at z
      rw [sp_tell, if_pos c40]
      obtain ⟨z1, V', A', z2, z3, z4, z5⟩ := z
      refine ⟨z1, V', A', z2, (f2.FP.tr (FP.up (by decide))).tr (g1.FP.tr z3), z4, fun a ha => ?_⟩
      rw [z5 a ha]
      by_cases e : a = o + 1
      · rw [e, pm_up_eq, pm_up_eq]
      · rw [pm_up_ne e, pm_up_ne e, g2 a ha, pm_up_ne e, f1 a ha]
    · refine WQ.st (fun _ _ kz => pw_iload2 dX12_tells_43 kz) ?_
      refine ⟨_, _, pw_iret dX12_tells_44 rfl rfl rfl rfl, ?_⟩
      rw [up2_eq] at c40
      rw [sp_tell, if_neg c40]
      exact ⟨rfl, _, A1, rfl, f2.FP.tr (FP.up (by decide)), up2_eq, by rw [pm_up_self]; exact f1⟩
set_option maxRecDepth 20000 in
theorem c_tells {G : gT} {d : Nat} {S : sS} {V : sV} {P : sP} {A : sV} {B : sB} {Q : sP} {t sl o : Nat} (hF : MF S P o) (hD : DV (A (o + 1))) (hK : KV ((A (o + 1)) 2).toInt (fun k => (A (o + 1)) (75 + k))) {tr n : Nat} (htr : tr < 4) (hn40 : n ≤ 40) (hn : A (o + 21) tr = nI n) : WQ G (d + 8) mX12_tells 0 [some (.ref o), some (.int (nI tr)), none] [] (t, sl, gh S V P A B Q) (fun r h' => r = some (.int (nI (sp_tell (fun k => (B (o + 22) (40 * tr + k)).toInt) n 0 (A (o + 1))).2.1)) ∧ ∃ V' A' : sV, h' = (t, sl, gh S V' P A' B Q) ∧ FP o V V' ∧ V' o 26 = (sp_tell (fun k => (B (o + 22) (40 * tr + k)).toInt) n 0 (A (o + 1))).2.2 ∧ FA o (pm_up A (o + 1) (sp_tell (fun k => (B (o + 22) (40 * tr + k)).toInt) n 0 (A (o + 1))).1) A') := by
  refine WQ.st (fun _ _ kz => pw_aload0 dX12_tells_0 kz) ?_
  refine WQ.st (fun _ _ kz => pw_iconst (v := 0) dX12_tells_1 (by decide) kz) ?_
  refine WQ.st (fun _ _ kz => pw_puti (pX12_375 _ rfl) dX12_tells_2 hF.1 rfl rfl kz) ?_
  refine WQ.st (fun _ _ kz => pw_iconst (v := 0) dX12_tells_5 (by decide) kz) ?_
  refine WQ.st (fun _ _ kz => pw_istore2 dX12_tells_6 (by decide) (k := kz)) ?_
  have kk := l_tells (P := P) (S := S) (G := G) (d := d) (B := B) (Q := Q) (t := t) (sl := sl) hF htr hn40 n 0 (up2 V o 26 0) A (by omega) hD hK hn up2_eq
  refine kk.imp (fun r h' z => ?_)
  obtain ⟨z1, V', A', z2, z3, z4, z5⟩ := z
  exact ⟨z1, V', A', z2, (FP.up (by decide)).tr z3, z4, z5⟩
