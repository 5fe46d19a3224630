/-! ===== the reference: undo, judge, does, term ===== -/
def un (al : Nat → Int32) (k : Nat) : Nat → Int32 := fun i => if i = 92 then nI k else if 75 ≤ i ∧ i < 75 + 17 then al (i - 75 + (93 + 17 * k)) else al i
def sp_undo (al : Nat → Int32) (x : Int) : Int32 × (Nat → Int32) := if (1 ≤ x ∧ x ≤ 10) ∧ x ≤ (al 92).toInt then (nI ((al 92).toInt - x).toNat, un al ((al 92).toInt - x).toNat) else (-99000003, al)
set_option maxRecDepth 20000 in
theorem l_undo {G : gT} {d : Nat} {S : sS} {V : sV} {P : sP} {B : sB} {Q : sP} {t sl o : Nat} (hF : MF S P o) {n : Nat} {x : Int32} (hn9 : n ≤ 9) {A0 : sV} (hn : A0 (o + 1) 92 = nI n) {Z : Option Value → Ph → Prop} (kf : ∀ A : sV, CPY A0 (o + 1) (75) (o + 1) (93 + 17 * n) (17) A → WQ G d mX12_undo 85 [some (.ref o), some (.int x), some (.int (nI (17)))] [] (t, sl, gh S V P A B Q) Z) : ∀ (m k : Nat) (A : sV), k + m = 17 → CPY A0 (o + 1) (75) (o + 1) (93 + 17 * n) k A → WQ G d mX12_undo 44 [some (.ref o), some (.int x), some (.int (nI k))] [] (t, sl, gh S V P A B Q) Z := by
  intro m
  induction m with
  | zero =>
    intro k A hk hC
    have hk : k = 17 := hk
    subst hk
    have e92 : A (o + 1) 92 = nI n := by rw [hC.2, if_neg (by omega)]; exact hn
    refine WQ.st (fun _ _ kz => pw_iload2 dX12_undo_44 kz) ?_
    refine WQ.st (fun _ _ kz => pw_bipush (v := 17) dX12_undo_45 (by decide) kz) ?_
    refine WQ.br (fun _ _ ka kb => pw_icmp_ge (tgt := 85) dX12_undo_47 (by decide) ka kb) (fun c47 => ?_) (fun c47 => absurd (by decide) c47)
    exact kf A hC
  | succ m ih =>
    intro k A hk hC
    have kk := ih (k + 1) _ (by omega) (hC.step (Or.inr (Or.inl (by omega))))
    have e92 : A (o + 1) 92 = nI n := by rw [hC.2, if_neg (by omega)]; exact hn
    refine WQ.st (fun _ _ kz => pw_iload2 dX12_undo_44 kz) ?_
    refine WQ.st (fun _ _ kz => pw_bipush (v := 17) dX12_undo_45 (by decide) kz) ?_
    refine WQ.br (fun _ _ ka kb => pw_icmp_ge (tgt := 85) dX12_undo_47 (by decide) ka kb) (fun c47 => absurd c47 (by rw [le_i li_17 (ix_n (j := k) (by omega))]; omega)) (fun c47 => ?_)
    refine WQ.st (fun _ _ kz => pw_aload0 dX12_undo_50 kz) ?_
    refine WQ.st (fun _ _ kz => pw_getr gX12_13 dX12_undo_51 hF.1 (mf_p1 hF) kz) ?_
    refine WQ.st (fun _ _ kz => pw_bipush (v := 75) dX12_undo_54 (by decide) kz) ?_
    refine WQ.st (fun _ _ kz => pw_iload2 dX12_undo_56 kz) ?_
    refine WQ.st (fun _ _ kz => pw_iadd dX12_undo_57 kz) ?_
    refine WQ.st (fun _ _ kz => pw_aload0 dX12_undo_58 kz) ?_
    refine WQ.st (fun _ _ kz => pw_getr gX12_13 dX12_undo_59 hF.1 (mf_p1 hF) kz) ?_
    refine WQ.st (fun _ _ kz => pw_bipush (v := 93) dX12_undo_62 (by decide) kz) ?_
    refine WQ.st (fun _ _ kz => pw_bipush (v := 17) dX12_undo_64 (by decide) kz) ?_
    refine WQ.st (fun _ _ kz => pw_aload0 dX12_undo_66 kz) ?_
    refine WQ.st (fun _ _ kz => pw_getr gX12_13 dX12_undo_67 hF.1 (mf_p1 hF) kz) ?_
    refine WQ.st (fun _ _ kz => pw_bipush (v := 92) dX12_undo_70 (by decide) kz) ?_
    refine WQ.st (fun _ _ kz => pw_ald (j := 92) dX12_undo_72 (mf_s1 hF) rfl (by omega) kz) ?_
    rw [e92]
    refine WQ.st (fun _ _ kz => pw_imul dX12_undo_73 kz) ?_
    refine WQ.st (fun _ _ kz => pw_iadd dX12_undo_74 kz) ?_
    refine WQ.st (fun _ _ kz => pw_iload2 dX12_undo_75 kz) ?_
    refine WQ.st (fun _ _ kz => pw_iadd dX12_undo_76 kz) ?_
    refine WQ.st (fun _ _ kz => pw_ald (j := (93 + (17 * n)) + k) dX12_undo_77 (mf_s1 hF) (by simp (disch := omega) only [nl_17, nl_93, nI_add, pk_mul, pk_sub]; exact ix_m (by omega) (by omega)) (by omega) kz) ?_
    refine WQ.st (fun _ _ kz => pw_ast (j := 75 + k) dX12_undo_78 (mf_s1 hF) (by simp (disch := omega) only [nl_75, nI_add, pk_mul, pk_sub]; exact ix_m (by omega) (by omega)) (by omega)  kz) ?_
    refine WQ.st (fun _ _ kz => pw_iinc2 (v := 1) dX12_undo_79 (by decide) (by decide) (k := kz)) ?_
    refine WQ.st (fun _ _ kz => pw_goto (tgt := 44) dX12_undo_82 (by decide) kz) ?_
    rw [nI_1]
    exact kk
set_option maxRecDepth 20000 in
theorem p_undo {G : gT} {d : Nat} {S : sS} {V : sV} {P : sP} {A : sV} {B : sB} {Q : sP} {t sl o : Nat} (hF : MF S P o) (hA : AV (A (o + 1)))  (x : Int32) : WQ G (d + 9) mX12_undo 0 [some (.ref o), some (.int x), none] [] (t, sl, gh S V P A B Q) (PZ o S P Q t sl V A B (.int (sp_undo (A (o + 1)) x.toInt).1) (sp_undo (A (o + 1)) x.toInt).2) := by
  refine WQ.st (fun _ _ kz => pw_aload0 dX12_undo_0 kz) ?_
  refine WQ.st (fun _ _ kz => pw_iconst (v := 0) dX12_undo_1 (by decide) kz) ?_
  refine WQ.st (fun _ _ kz => pw_puti (pX12_1 _ rfl) dX12_undo_2 hF.1 rfl rfl kz) ?_
  refine WQ.st (fun _ _ kz => pw_iload1 dX12_undo_5 kz) ?_
  refine WQ.st (fun _ _ kz => pw_i2l dX12_undo_6 kz) ?_
  refine WQ.st (fun _ _ kz => pw_lconst (v := 1) dX12_undo_7 (by decide) kz) ?_
  refine WQ.st (fun _ _ kz => pw_ldc2 kX12_361 dX12_undo_8 kz) ?_
  refine WQ.st (fun _ _ kz => pw_s3i wX12_within lX12_152 dX12_undo_11 (c_withinI _ _ _) rfl (Nat.le_of_ble_eq_true rfl) (Nat.le_of_ble_eq_true rfl) kz) ?_
  refine WQ.br (fun _ _ ka kb => pw_if_eq (tgt := 28) dX12_undo_14 (by decide) ka kb) (fun c14 => ?_) (fun c14 => ?_)
  · rw [bI_0] at c14
    rw [il_t] at c14
    have g1 : ¬ (1 ≤ x.toInt ∧ x.toInt ≤ 10) := of_decide_eq_false c14
    refine WQ.st (fun _ _ kz => pw_ldc kX12_206 dX12_undo_28 kz) ?_
    refine ⟨_, _, pw_iret dX12_undo_30 rfl rfl rfl rfl, ?_⟩
    have c0 : sp_undo (A (o + 1)) x.toInt = (-99000003, A (o + 1)) := by unfold sp_undo; rw [if_neg (fun q => g1 q.1)]
    rw [c0]
    exact PZ.q (FP.up (by decide)) FQ.rfl FB.rfl
  · rw [bI_n] at c14
    rw [il_t] at c14
    have g1 : 1 ≤ x.toInt ∧ x.toInt ≤ 10 := of_decide_eq_true c14
    refine WQ.st (fun _ _ kz => pw_iload1 dX12_undo_17 kz) ?_
    refine WQ.st (fun _ _ kz => pw_aload0 dX12_undo_18 kz) ?_
    refine WQ.st (fun _ _ kz => pw_getr gX12_13 dX12_undo_19 hF.1 (mf_p1 hF) kz) ?_
    refine WQ.st (fun _ _ kz => pw_bipush (v := 92) dX12_undo_22 (by decide) kz) ?_
    refine WQ.st (fun _ _ kz => pw_ald (j := 92) dX12_undo_24 (mf_s1 hF) rfl (by omega) kz) ?_
    refine WQ.br (fun _ _ ka kb => pw_icmp_le (tgt := 31) dX12_undo_25 (by decide) ka kb) (fun c25 => ?_) (fun c25 => ?_)
    · rw [Int32.le_iff_toInt_le] at c25
      obtain ⟨n, hn⟩ : ∃ n : Nat, n = ((A (o + 1) 92).toInt - x.toInt).toNat := ⟨_, rfl⟩
      have hd := hA.dn
      have hn9 : n ≤ 9 := by omega
      have g2 := c25
      have esub : A (o + 1) 92 - x = nI n := by
        rw [← Int32.toInt_inj, ti_sub rfl rfl (by omega), nI_toInt (by omega)]
        omega
      refine WQ.st (fun _ _ kz => pw_aload0 dX12_undo_31 kz) ?_
      refine WQ.st (fun _ _ kz => pw_getr gX12_13 dX12_undo_32 hF.1 (mf_p1 hF) kz) ?_
      refine WQ.st (fun _ _ kz => pw_bipush (v := 92) dX12_undo_35 (by decide) kz) ?_
      refine WQ.st (fun _ _ kz => pw_dup2_11 dX12_undo_37 rfl rfl kz) ?_
      refine WQ.st (fun _ _ kz => pw_ald (j := 92) dX12_undo_38 (mf_s1 hF) rfl (by omega) kz) ?_
      refine WQ.st (fun _ _ kz => pw_iload1 dX12_undo_39 kz) ?_
      refine WQ.st (fun _ _ kz => pw_isub dX12_undo_40 kz) ?_
      rw [esub]
      refine WQ.st (fun _ _ kz => pw_ast (j := 92) dX12_undo_41 (mf_s1 hF) rfl (by omega)  kz) ?_
      refine WQ.st (fun _ _ kz => pw_iconst (v := 0) dX12_undo_42 (by decide) kz) ?_
      refine WQ.st (fun _ _ kz => pw_istore2 dX12_undo_43 (by decide) (k := kz)) ?_
      exact l_undo (S := S) (P := P) (G := G) (V := up2 V o 0 0) (B := B) (Q := Q) (t := t) (sl := sl) (d := d + 9) (x := x) hF hn9 (A0 := up2 A (o + 1) 92 (nI n)) up2_eq (fun A1 hC => by
        have e92 : A1 (o + 1) 92 = nI n := by rw [hC.2, if_neg (by omega)]; exact up2_eq
        refine WQ.st (fun _ _ kz => pw_aload0 dX12_undo_85 kz) ?_
        refine WQ.st (fun _ _ kz => pw_getr gX12_13 dX12_undo_86 hF.1 (mf_p1 hF) kz) ?_
        refine WQ.st (fun _ _ kz => pw_bipush (v := 92) dX12_undo_89 (by decide) kz) ?_
        refine WQ.st (fun _ _ kz => pw_ald (j := 92) dX12_undo_91 (mf_s1 hF) rfl (by omega) kz) ?_
        rw [e92]
        refine ⟨_, _, pw_iret dX12_undo_92 rfl rfl rfl rfl, ?_⟩
        have c0 : sp_undo (A (o + 1)) x.toInt = (nI n, un (A (o + 1)) n) := by
          unfold sp_undo
          rw [if_pos ⟨g1, g2⟩, ← hn]
        rw [c0]
        refine ⟨rfl, up2 V o 0 0, A1, B, rfl, FP.up (by decide), FQ.of ?_ (fun a e _ => by rw [hC.1 a e, up2_na e]), FB.rfl⟩
        funext j
        rw [hC.2]
        show _ = un (A (o + 1)) n j
        unfold un
        by_cases e : j = 92
        · rw [if_neg (by omega), if_pos e, up2_at, e, pm_up_eq]
        · rw [if_neg e]
          by_cases e2 : 75 ≤ j ∧ j < 75 + 17
          · rw [if_pos e2, if_pos e2, up2_at, pm_up_ne (by omega)]
          · rw [if_neg e2, if_neg e2, up2_at, pm_up_ne e]) 17 0 _ rfl (CPY.zero _ _ _ _ _)
    · rw [Int32.le_iff_toInt_le] at c25
      refine WQ.st (fun _ _ kz => pw_ldc kX12_206 dX12_undo_28 kz) ?_
      refine ⟨_, _, pw_iret dX12_undo_30 rfl rfl rfl rfl, ?_⟩
      have c0 : sp_undo (A (o + 1)) x.toInt = (-99000003, A (o + 1)) := by unfold sp_undo; rw [if_neg (fun q => c25 q.2)]
      rw [c0]
      exact PZ.q (FP.up (by decide)) FQ.rfl FB.rfl
theorem tell_ok (f : Nat → Int) : ∀ (m k : Nat) (al : Nat → Int32), DV al → KV (al 2).toInt (fun k => al (75 + k)) → (∀ i, i < 75 ∨ 92 ≤ i → (sp_tell f m k al).1 i = al i) ∧ KV (al 2).toInt (fun i => (sp_tell f m k al).1 (75 + i)) ∧ (sp_tell f m k al).2.1 ≤ k + m
  | 0, k, al, hD, hK => ⟨fun _ _ => rfl, hK, Nat.le_refl _⟩
  | m + 1, k, al, hD, hK => by
    rw [sp_tell]
    by_cases e : sp_why al (f k) = 0
    · rw [if_pos e]
      have ok := act_ok hD hK e
      have h2 := ok.1 2 (by omega)
      have ih := tell_ok f m (k + 1) (sp_act al (f k)) (hD.cong (fun i hi => ok.1 i (by omega))) (by rw [h2]; exact ok.2)
      rw [h2] at ih
      exact ⟨fun i hi => (ih.1 i hi).trans (ok.1 i hi), ih.2.1, by omega⟩
    · rw [if_neg e]
      exact ⟨fun _ _ => rfl, hK, Nat.le_add_right _ _⟩
def tlR (al mn : Nat → Int32) (nb : Nat → Int64) (tr : Nat) : (Nat → Int32) × Nat × Int32 := sp_tell (fun k => (nb (40 * tr + k)).toInt) (mn tr).toInt.toNat 0 al
def sp_judge (al so mn : Nat → Int32) (nb : Nat → Int64) (x y : Int) : Int32 := if 0 ≤ y ∧ y ≤ 3 then (if sp_nt so x = 0 then (if y = 0 then (if (tlR al mn nb x.toNat).2.2 = 0 then -1 else nI (tlR al mn nb x.toNat).2.1) else if y = 1 then (tlR al mn nb x.toNat).2.2 else if y = 2 then smI (fun p => (tlR al mn nb x.toNat).1 (77 + p)) (al 2).toInt.toNat else smI (fun p => (tlR al mn nb x.toNat).1 (82 + p)) (al 2).toInt.toNat) else sp_nt so x) else -99000002
def sp_does (al so mn : Nat → Int32) (nb : Nat → Int64) (x : Int) : Int32 × (Nat → Int32) := if sp_nt so x = 0 then (nI (tlR al mn nb x.toNat).2.1, if (tlR al mn nb x.toNat).2.1 = 0 then (tlR al mn nb x.toNat).1 else nk al (tlR al mn nb x.toNat).1) else (sp_nt so x, al)
theorem nt_0 {so : Nat → Int32} {x : Int} (h : sp_nt so x = 0) : 0 ≤ x ∧ x ≤ 3 := by
  unfold sp_nt at h
  by_cases e : 0 ≤ x ∧ x ≤ 3
  · exact e
  · rw [if_neg e] at h
    exact absurd h (by decide)
set_option maxRecDepth 20000 in
theorem p_judge {G : gT} {d : Nat} {S : sS} {V : sV} {P : sP} {A : sV} {B : sB} {Q : sP} {t sl o : Nat} (hF : MF S P o) (hA : AV (A (o + 1))) (hR : ∀ tr, tr < 4 → 0 ≤ (A (o + 21) tr).toInt ∧ (A (o + 21) tr).toInt ≤ 40) (x y : Int32) : WQ G (d + 9) mX12_judge 0 [some (.ref o), some (.int x), some (.int y), none, none, none, none] [] (t, sl, gh S V P A B Q) (PZ o S P Q t sl V A B (.int (sp_judge (A (o + 1)) (A (o + 20)) (A (o + 21)) (B (o + 22)) x.toInt y.toInt)) (A (o + 1))) := by
  refine WQ.st (fun _ _ kz => pw_aload0 dX12_judge_0 kz) ?_
  refine WQ.st (fun _ _ kz => pw_iconst (v := 0) dX12_judge_1 (by decide) kz) ?_
  refine WQ.st (fun _ _ kz => pw_puti (pX12_1 _ rfl) dX12_judge_2 hF.1 rfl rfl kz) ?_
  refine WQ.st (fun _ _ kz => pw_iload2 dX12_judge_5 kz) ?_
  refine WQ.st (fun _ _ kz => pw_i2l dX12_judge_6 kz) ?_
  refine WQ.st (fun _ _ kz => pw_lconst (v := 0) dX12_judge_7 (by decide) kz) ?_
  refine WQ.st (fun _ _ kz => pw_ldc2 kX12_385 dX12_judge_8 kz) ?_
  refine WQ.st (fun _ _ kz => pw_s3i wX12_within lX12_152 dX12_judge_11 (c_withinI _ _ _) rfl (Nat.le_of_ble_eq_true rfl) (Nat.le_of_ble_eq_true rfl) kz) ?_
  refine WQ.bn (fun _ _ ka kb => pw_if_ne (tgt := 20) dX12_judge_14 (by decide) ka kb) (fun c14 => ?_) (fun c14 => ?_)
  · rw [bI_n] at c14
    refine WQ.st (fun _ _ kz => pw_aload0 dX12_judge_20 kz) ?_
    refine WQ.st (fun _ _ kz => pw_iload1 dX12_judge_21 kz) ?_
    obtain ⟨_, _, k0, rfl, rfl⟩ := c_noTray (d := d + 7) (P := P) (S := S) (G := G) (V := (up2 V o 0 0)) (A := A) (B := B) (Q := Q) (t := t) (sl := sl) hF x
    refine WQ.st (fun _ _ kz => pw_o1i wX12_noTray lX12_388 rfl dX12_judge_22 hF.1 (k0) rfl (Nat.le_of_ble_eq_true rfl) (Nat.le_of_ble_eq_true rfl) kz) ?_
    refine WQ.st (fun _ _ kz => pw_istore3 dX12_judge_25 (by decide) (k := kz)) ?_
    refine WQ.st (fun _ _ kz => pw_iload3 dX12_judge_26 kz) ?_
    refine WQ.br (fun _ _ ka kb => pw_if_eq (tgt := 32) dX12_judge_27 (by decide) ka kb) (fun c27 => ?_) (fun c27 => ?_)
    · have hx := nt_0 c27
      obtain ⟨tr, etr, ttr, ltr⟩ := nI_get (x := x) (n := 4) (by omega) (by omega) (by decide)
      have htr : tr < 4 := by omega
      rw [etr]
      have hR1 := hR tr htr
      refine WQ.st (fun _ _ kz => pw_aload0 dX12_judge_32 kz) ?_
      obtain ⟨_, _, k1, rfl, A1, rfl, hC⟩ := c_keeps (d := d + 8) (P := P) (S := S) (G := G) (V := (up2 V o 0 0)) (A := A) (B := B) (Q := Q) (t := t) (sl := sl) hF
      have hA1 := keeps_al hC
      have hD1 : DV (A1 (o + 1)) := by rw [hA1]; exact hA.dv
      have hK1 : KV (A1 (o + 1) 2).toInt (fun k => A1 (o + 1) (75 + k)) := by rw [hA1]; exact hA.kv
      refine WQ.st (fun _ _ kz => pw_o0v wX12_keeps lX12_332 rfl dX12_judge_33 hF.1 (k1) rfl (Nat.le_of_ble_eq_true rfl) (Nat.le_of_ble_eq_true rfl) kz) ?_
      refine WQ.st (fun _ _ kz => pw_aload0 dX12_judge_36 kz) ?_
      refine WQ.st (fun _ _ kz => pw_iload1 dX12_judge_37 kz) ?_
      obtain ⟨_, _, k2, rfl, V2, A2, rfl, f1, f2, f3⟩ := c_tells (d := d) (P := P) (S := S) (G := G) (V := (up2 V o 0 0)) (A := A1) (B := B) (Q := Q) (t := t) (sl := sl) hF hD1 hK1 htr (n := (A (o + 21) tr).toInt.toNat) (by omega) (by rw [hC.1 _ (by omega)]; exact nI_ofI hR1.1)
      rw [hA1] at k2 f2 f3
      have ok := tell_ok (fun k => (B (o + 22) (40 * tr + k)).toInt) (A (o + 21) tr).toInt.toNat 0 (A (o + 1)) hA.dv hA.kv
      obtain ⟨R, hRR⟩ : ∃ R, R = tlR (A (o + 1)) (A (o + 21)) (B (o + 22)) tr := ⟨_, rfl⟩
      have hRt : sp_tell (fun k => (B (o + 22) (40 * tr + k)).toInt) (A (o + 21) tr).toInt.toNat 0 (A (o + 1)) = R := hRR.symm
      rw [hRt] at k2 f2 f3 ok
      have hA2 : A2 (o + 1) = R.1 := by rw [f3 _ (by omega), pm_up_eq]
      have hD2 : DV (A2 (o + 1)) := by rw [hA2]; exact hA.dv.cong (fun i hi => ok.1 i (by omega))
      refine WQ.st (fun _ _ kz => pw_o1i wX12_tells lX12_391 rfl dX12_judge_38 hF.1 (k2) rfl (Nat.le_of_ble_eq_true rfl) (Nat.le_of_ble_eq_true rfl) kz) ?_
      refine WQ.st (fun _ _ kz => pw_istore4 dX12_judge_41 (by decide) (k := kz)) ?_
      refine WQ.st (fun _ _ kz => pw_aload0 dX12_judge_43 kz) ?_
      refine WQ.st (fun _ _ kz => pw_bipush (v := 77) dX12_judge_44 (by decide) kz) ?_
      rw [show (77 : Int32) = nI 77 from rfl]
      refine WQ.st (fun _ _ kz => pw_o1i wX12_sumOf lX12_394 rfl dX12_judge_46 hF.1 (c_sumOf (d := d + 8) hF hD2 (f := 77) (by decide)) rfl (Nat.le_of_ble_eq_true rfl) (Nat.le_of_ble_eq_true rfl) kz) ?_
      rw [hA2, ok.1 2 (by omega)]
      refine WQ.st (fun _ _ kz => pw_istore5 dX12_judge_49 (by decide) (k := kz)) ?_
      refine WQ.st (fun _ _ kz => pw_aload0 dX12_judge_51 kz) ?_
      refine WQ.st (fun _ _ kz => pw_bipush (v := 82) dX12_judge_52 (by decide) kz) ?_
      rw [show (82 : Int32) = nI 82 from rfl]
      refine WQ.st (fun _ _ kz => pw_o1i wX12_sumOf lX12_394 rfl dX12_judge_54 hF.1 (c_sumOf (d := d + 8) hF hD2 (f := 82) (by decide)) rfl (Nat.le_of_ble_eq_true rfl) (Nat.le_of_ble_eq_true rfl) kz) ?_
      rw [hA2, ok.1 2 (by omega)]
      refine WQ.st (fun _ _ kz => pw_istore6 dX12_judge_57 (by decide) (k := kz)) ?_
      refine WQ.st (fun _ _ kz => pw_aload0 dX12_judge_59 kz) ?_
      obtain ⟨_, _, k5, rfl, A3, rfl, hC3⟩ := c_isAgain (d := d + 8) (P := P) (S := S) (G := G) (V := V2) (A := A2) (B := B) (Q := Q) (t := t) (sl := sl) hF
      refine WQ.st (fun _ _ kz => pw_o0v wX12_isAgain lX12_397 rfl dX12_judge_60 hF.1 (k5) rfl (Nat.le_of_ble_eq_true rfl) (Nat.le_of_ble_eq_true rfl) kz) ?_
      refine WQ.st (fun _ _ kz => pw_iload2 dX12_judge_63 kz) ?_
      refine WQ.bn (fun _ _ ka kb => pw_if_ne (tgt := 83) dX12_judge_64 (by decide) ka kb) (fun c64 => ?_) (fun c64 => ?_)
      · refine WQ.st (fun _ _ kz => pw_iload2 dX12_judge_83 kz) ?_
        refine WQ.st (fun _ _ kz => pw_iconst (v := 1) dX12_judge_84 (by decide) kz) ?_
        refine WQ.bn (fun _ _ ka kb => pw_icmp_ne (tgt := 95) dX12_judge_85 (by decide) ka kb) (fun c85 => ?_) (fun c85 => ?_)
        · refine WQ.st (fun _ _ kz => pw_iload2 dX12_judge_95 kz) ?_
          refine WQ.st (fun _ _ kz => pw_iconst (v := 2) dX12_judge_96 (by decide) kz) ?_
          refine WQ.bn (fun _ _ ka kb => pw_icmp_ne (tgt := 105) dX12_judge_97 (by decide) ka kb) (fun c97 => ?_) (fun c97 => ?_)
          · refine WQ.st (fun _ _ kz => pw_iload6 dX12_judge_105 kz) ?_
            refine ⟨_, _, pw_iret dX12_judge_107 rfl rfl rfl rfl, ?_⟩
            have hq : FQ o A A3 := fun a ha => by
              by_cases e : a = o + 1
              · subst e
                funext j
                rw [hC3.2]
                by_cases e2 : 75 ≤ j ∧ j < 75 + 17
                · rw [if_pos e2, f3 _ (by omega), pm_up_ne (by omega), hC.2, if_pos (by omega)]
                  exact congrArg _ (by omega)
                · rw [if_neg e2, hA2]
                  exact ok.1 j (by omega)
              · rw [hC3.1 a e, f3 a (by omega), pm_up_ne e, hC.1 a (by omega)]
            have hfp : FP o V V2 := (FP.up (by decide)).tr f1
            rw [il_t] at c14
            have cy : 0 ≤ y.toInt ∧ y.toInt ≤ 3 := of_decide_eq_true c14
            have c0 : sp_judge (A (o + 1)) (A (o + 20)) (A (o + 21)) (B (o + 22)) x.toInt y.toInt = smI (fun p => R.1 (82 + p)) (A (o + 1) 2).toInt.toNat := by
              unfold sp_judge
              rw [if_pos cy, if_pos c27, ttr, Int.toNat_natCast, ← hRR, if_neg (i32_ne (z := 0) rfl c64), if_neg (i32_ne (z := 1) rfl c85), if_neg (i32_ne (z := 2) rfl c97)]
            rw [← etr, c0]
            exact PZ.q hfp hq FB.rfl
          · refine WQ.st (fun _ _ kz => pw_iload5 dX12_judge_100 kz) ?_
            refine WQ.st (fun _ _ kz => pw_goto (tgt := 107) dX12_judge_102 (by decide) kz) ?_
            refine ⟨_, _, pw_iret dX12_judge_107 rfl rfl rfl rfl, ?_⟩
            have hq : FQ o A A3 := fun a ha => by
              by_cases e : a = o + 1
              · subst e
                funext j
                rw [hC3.2]
                by_cases e2 : 75 ≤ j ∧ j < 75 + 17
                · rw [if_pos e2, f3 _ (by omega), pm_up_ne (by omega), hC.2, if_pos (by omega)]
                  exact congrArg _ (by omega)
                · rw [if_neg e2, hA2]
                  exact ok.1 j (by omega)
              · rw [hC3.1 a e, f3 a (by omega), pm_up_ne e, hC.1 a (by omega)]
            have hfp : FP o V V2 := (FP.up (by decide)).tr f1
            rw [il_t] at c14
            have cy : 0 ≤ y.toInt ∧ y.toInt ≤ 3 := of_decide_eq_true c14
            have c0 : sp_judge (A (o + 1)) (A (o + 20)) (A (o + 21)) (B (o + 22)) x.toInt y.toInt = smI (fun p => R.1 (77 + p)) (A (o + 1) 2).toInt.toNat := by
              unfold sp_judge
              rw [if_pos cy, if_pos c27, ttr, Int.toNat_natCast, ← hRR, if_neg (i32_ne (z := 0) rfl c64), if_neg (i32_ne (z := 1) rfl c85), if_pos (show y.toInt = 2 by rw [c97]; rfl)]
            rw [← etr, c0]
            exact PZ.q hfp hq FB.rfl
        · refine WQ.st (fun _ _ kz => pw_aload0 dX12_judge_88 kz) ?_
          refine WQ.st (fun _ _ kz => pw_geti gX12_375 dX12_judge_89 hF.1 kz) ?_
          rw [f2]
          refine WQ.st (fun _ _ kz => pw_goto (tgt := 107) dX12_judge_92 (by decide) kz) ?_
          refine ⟨_, _, pw_iret dX12_judge_107 rfl rfl rfl rfl, ?_⟩
          have hq : FQ o A A3 := fun a ha => by
            by_cases e : a = o + 1
            · subst e
              funext j
              rw [hC3.2]
              by_cases e2 : 75 ≤ j ∧ j < 75 + 17
              · rw [if_pos e2, f3 _ (by omega), pm_up_ne (by omega), hC.2, if_pos (by omega)]
                exact congrArg _ (by omega)
              · rw [if_neg e2, hA2]
                exact ok.1 j (by omega)
            · rw [hC3.1 a e, f3 a (by omega), pm_up_ne e, hC.1 a (by omega)]
          have hfp : FP o V V2 := (FP.up (by decide)).tr f1
          rw [il_t] at c14
          have cy : 0 ≤ y.toInt ∧ y.toInt ≤ 3 := of_decide_eq_true c14
          have c0 : sp_judge (A (o + 1)) (A (o + 20)) (A (o + 21)) (B (o + 22)) x.toInt y.toInt = R.2.2 := by
            unfold sp_judge
            rw [if_pos cy, if_pos c27, ttr, Int.toNat_natCast, ← hRR, if_neg (i32_ne (z := 0) rfl c64), if_pos (show y.toInt = 1 by rw [c85]; rfl)]
          rw [← etr, c0]
          exact PZ.q hfp hq FB.rfl
      · refine WQ.st (fun _ _ kz => pw_aload0 dX12_judge_67 kz) ?_
        refine WQ.st (fun _ _ kz => pw_geti gX12_375 dX12_judge_68 hF.1 kz) ?_
        refine WQ.bn (fun _ _ ka kb => pw_if_ne (tgt := 78) dX12_judge_71 (by decide) ka kb) (fun c71 => ?_) (fun c71 => ?_)
        · refine WQ.st (fun _ _ kz => pw_iload4 dX12_judge_78 kz) ?_
          refine WQ.st (fun _ _ kz => pw_goto (tgt := 107) dX12_judge_80 (by decide) kz) ?_
          refine ⟨_, _, pw_iret dX12_judge_107 rfl rfl rfl rfl, ?_⟩
          have hq : FQ o A A3 := fun a ha => by
            by_cases e : a = o + 1
            · subst e
              funext j
              rw [hC3.2]
              by_cases e2 : 75 ≤ j ∧ j < 75 + 17
              · rw [if_pos e2, f3 _ (by omega), pm_up_ne (by omega), hC.2, if_pos (by omega)]
                exact congrArg _ (by omega)
              · rw [if_neg e2, hA2]
                exact ok.1 j (by omega)
            · rw [hC3.1 a e, f3 a (by omega), pm_up_ne e, hC.1 a (by omega)]
          have hfp : FP o V V2 := (FP.up (by decide)).tr f1
          rw [il_t] at c14
          have cy : 0 ≤ y.toInt ∧ y.toInt ≤ 3 := of_decide_eq_true c14
          have c0 : sp_judge (A (o + 1)) (A (o + 20)) (A (o + 21)) (B (o + 22)) x.toInt y.toInt = nI R.2.1 := by
            unfold sp_judge
            rw [if_pos cy, if_pos c27, ttr, Int.toNat_natCast, ← hRR, if_pos (show y.toInt = 0 by rw [c64]; rfl), if_neg (fun q => c71 (f2.trans q))]
          rw [← etr, c0]
          exact PZ.q hfp hq FB.rfl
        · refine WQ.st (fun _ _ kz => pw_iconst (v := -1) dX12_judge_74 (by decide) kz) ?_
          refine WQ.st (fun _ _ kz => pw_goto (tgt := 107) dX12_judge_75 (by decide) kz) ?_
          refine ⟨_, _, pw_iret dX12_judge_107 rfl rfl rfl rfl, ?_⟩
          have hq : FQ o A A3 := fun a ha => by
            by_cases e : a = o + 1
            · subst e
              funext j
              rw [hC3.2]
              by_cases e2 : 75 ≤ j ∧ j < 75 + 17
              · rw [if_pos e2, f3 _ (by omega), pm_up_ne (by omega), hC.2, if_pos (by omega)]
                exact congrArg _ (by omega)
              · rw [if_neg e2, hA2]
                exact ok.1 j (by omega)
            · rw [hC3.1 a e, f3 a (by omega), pm_up_ne e, hC.1 a (by omega)]
          have hfp : FP o V V2 := (FP.up (by decide)).tr f1
          rw [il_t] at c14
          have cy : 0 ≤ y.toInt ∧ y.toInt ≤ 3 := of_decide_eq_true c14
          have c0 : sp_judge (A (o + 1)) (A (o + 20)) (A (o + 21)) (B (o + 22)) x.toInt y.toInt = -1 := by
            unfold sp_judge
            rw [if_pos cy, if_pos c27, ttr, Int.toNat_natCast, ← hRR, if_pos (show y.toInt = 0 by rw [c64]; rfl), if_pos (f2.symm.trans c71)]
          rw [← etr, c0]
          exact PZ.q hfp hq FB.rfl
    · refine WQ.st (fun _ _ kz => pw_iload3 dX12_judge_30 kz) ?_
      refine ⟨_, _, pw_iret dX12_judge_31 rfl rfl rfl rfl, ?_⟩
      rw [il_t] at c14
      have cy : 0 ≤ y.toInt ∧ y.toInt ≤ 3 := of_decide_eq_true c14
      have c0 : sp_judge (A (o + 1)) (A (o + 20)) (A (o + 21)) (B (o + 22)) x.toInt y.toInt = sp_nt (A (o + 20)) x.toInt := by unfold sp_judge; rw [if_pos cy, if_neg c27]
      rw [c0]
      exact PZ.q (FP.up (by decide)) FQ.rfl FB.rfl
  · rw [bI_0] at c14
    rw [il_t] at c14
    have cy : ¬ (0 ≤ y.toInt ∧ y.toInt ≤ 3) := of_decide_eq_false c14
    refine WQ.st (fun _ _ kz => pw_ldc kX12_247 dX12_judge_17 kz) ?_
    refine ⟨_, _, pw_iret dX12_judge_19 rfl rfl rfl rfl, ?_⟩
    have c0 : sp_judge (A (o + 1)) (A (o + 20)) (A (o + 21)) (B (o + 22)) x.toInt y.toInt = -99000002 := by unfold sp_judge; rw [if_neg cy]
    rw [c0]
    exact PZ.q (FP.up (by decide)) FQ.rfl FB.rfl
set_option maxRecDepth 20000 in
theorem p_does {G : gT} {d : Nat} {S : sS} {V : sV} {P : sP} {A : sV} {B : sB} {Q : sP} {t sl o : Nat} (hF : MF S P o) (hA : AV (A (o + 1))) (hR : ∀ tr, tr < 4 → 0 ≤ (A (o + 21) tr).toInt ∧ (A (o + 21) tr).toInt ≤ 40) (x : Int32) : WQ G (d + 9) mX12_does 0 [some (.ref o), some (.int x), none, none] [] (t, sl, gh S V P A B Q) (PZ o S P Q t sl V A B (.int (sp_does (A (o + 1)) (A (o + 20)) (A (o + 21)) (B (o + 22)) x.toInt).1) (sp_does (A (o + 1)) (A (o + 20)) (A (o + 21)) (B (o + 22)) x.toInt).2) := by
  refine WQ.st (fun _ _ kz => pw_aload0 dX12_does_0 kz) ?_
  refine WQ.st (fun _ _ kz => pw_iconst (v := 0) dX12_does_1 (by decide) kz) ?_
  refine WQ.st (fun _ _ kz => pw_puti (pX12_1 _ rfl) dX12_does_2 hF.1 rfl rfl kz) ?_
  refine WQ.st (fun _ _ kz => pw_aload0 dX12_does_5 kz) ?_
  refine WQ.st (fun _ _ kz => pw_iload1 dX12_does_6 kz) ?_
  obtain ⟨_, _, k0, rfl, rfl⟩ := c_noTray (d := d + 7) (P := P) (S := S) (G := G) (V := (up2 V o 0 0)) (A := A) (B := B) (Q := Q) (t := t) (sl := sl) hF x
  refine WQ.st (fun _ _ kz => pw_o1i wX12_noTray lX12_388 rfl dX12_does_7 hF.1 (k0) rfl (Nat.le_of_ble_eq_true rfl) (Nat.le_of_ble_eq_true rfl) kz) ?_
  refine WQ.st (fun _ _ kz => pw_istore2 dX12_does_10 (by decide) (k := kz)) ?_
  refine WQ.st (fun _ _ kz => pw_iload2 dX12_does_11 kz) ?_
  refine WQ.br (fun _ _ ka kb => pw_if_eq (tgt := 17) dX12_does_12 (by decide) ka kb) (fun c12 => ?_) (fun c12 => ?_)
  · have hx := nt_0 c12
    obtain ⟨tr, etr, ttr, ltr⟩ := nI_get (x := x) (n := 4) (by omega) (by omega) (by decide)
    have htr : tr < 4 := by omega
    rw [etr]
    have hR1 := hR tr htr
    refine WQ.st (fun _ _ kz => pw_aload0 dX12_does_17 kz) ?_
    obtain ⟨_, _, k1, rfl, A1, rfl, hC⟩ := c_keeps (d := d + 8) (P := P) (S := S) (G := G) (V := (up2 V o 0 0)) (A := A) (B := B) (Q := Q) (t := t) (sl := sl) hF
    have hA1 := keeps_al hC
    have hD1 : DV (A1 (o + 1)) := by rw [hA1]; exact hA.dv
    have hK1 : KV (A1 (o + 1) 2).toInt (fun k => A1 (o + 1) (75 + k)) := by rw [hA1]; exact hA.kv
    refine WQ.st (fun _ _ kz => pw_o0v wX12_keeps lX12_332 rfl dX12_does_18 hF.1 (k1) rfl (Nat.le_of_ble_eq_true rfl) (Nat.le_of_ble_eq_true rfl) kz) ?_
    refine WQ.st (fun _ _ kz => pw_aload0 dX12_does_21 kz) ?_
    refine WQ.st (fun _ _ kz => pw_iload1 dX12_does_22 kz) ?_
    obtain ⟨_, _, k2, rfl, V2, A2, rfl, f1, f2, f3⟩ := c_tells (d := d) (P := P) (S := S) (G := G) (V := (up2 V o 0 0)) (A := A1) (B := B) (Q := Q) (t := t) (sl := sl) hF hD1 hK1 htr (n := (A (o + 21) tr).toInt.toNat) (by omega) (by rw [hC.1 _ (by omega)]; exact nI_ofI hR1.1)
    rw [hA1] at k2 f2 f3
    have ok := tell_ok (fun k => (B (o + 22) (40 * tr + k)).toInt) (A (o + 21) tr).toInt.toNat 0 (A (o + 1)) hA.dv hA.kv
    obtain ⟨R, hRR⟩ : ∃ R, R = tlR (A (o + 1)) (A (o + 21)) (B (o + 22)) tr := ⟨_, rfl⟩
    have hRt : sp_tell (fun k => (B (o + 22) (40 * tr + k)).toInt) (A (o + 21) tr).toInt.toNat 0 (A (o + 1)) = R := hRR.symm
    rw [hRt] at k2 f2 f3 ok
    have hA2 : A2 (o + 1) = R.1 := by rw [f3 _ (by omega), pm_up_eq]
    have hD2 : DV (A2 (o + 1)) := by rw [hA2]; exact hA.dv.cong (fun i hi => ok.1 i (by omega))
    refine WQ.st (fun _ _ kz => pw_o1i wX12_tells lX12_391 rfl dX12_does_23 hF.1 (k2) rfl (Nat.le_of_ble_eq_true rfl) (Nat.le_of_ble_eq_true rfl) kz) ?_
    refine WQ.st (fun _ _ kz => pw_istore3 dX12_does_26 (by decide) (k := kz)) ?_
    refine WQ.st (fun _ _ kz => pw_iload3 dX12_does_27 kz) ?_
    refine WQ.br (fun _ _ ka kb => pw_if_le (tgt := 35) dX12_does_28 (by decide) ka kb) (fun c28 => ?_) (fun c28 => ?_)
    · refine WQ.st (fun _ _ kz => pw_iload3 dX12_does_35 kz) ?_
      refine ⟨_, _, pw_iret dX12_does_36 rfl rfl rfl rfl, ?_⟩
      rw [le_i (ix_n (j := R.2.1) (by omega)) li_0] at c28
      have c0 : sp_does (A (o + 1)) (A (o + 20)) (A (o + 21)) (B (o + 22)) x.toInt = (nI R.2.1, R.1) := by
        unfold sp_does
        rw [if_pos c12, ttr, Int.toNat_natCast, ← hRR, if_pos (show R.2.1 = 0 by omega)]
      rw [← etr, c0]
      have hfp : FP o V V2 := (FP.up (by decide)).tr f1
      exact ⟨rfl, V2, A2, B, rfl, hfp, FQ.of hA2 (fun a e ha => by rw [f3 a (by omega), pm_up_ne e, hC.1 a (by omega)]), FB.rfl⟩
    · refine WQ.st (fun _ _ kz => pw_aload0 dX12_does_31 kz) ?_
      obtain ⟨_, _, k9, rfl, A4, rfl, n1, n2⟩ := c_notes (d := d + 8) (P := P) (S := S) (G := G) (V := V2) (A := A2) (B := B) (Q := Q) (t := t) (sl := sl) hF (by rw [hA2, ok.1 92 (by omega)]; exact hA.dn)
      refine WQ.st (fun _ _ kz => pw_o0v wX12_notes lX12_341 rfl dX12_does_32 hF.1 (k9) rfl (Nat.le_of_ble_eq_true rfl) (Nat.le_of_ble_eq_true rfl) kz) ?_
      refine WQ.st (fun _ _ kz => pw_iload3 dX12_does_35 kz) ?_
      refine ⟨_, _, pw_iret dX12_does_36 rfl rfl rfl rfl, ?_⟩
      rw [le_i (ix_n (j := R.2.1) (by omega)) li_0] at c28
      have c0 : sp_does (A (o + 1)) (A (o + 20)) (A (o + 21)) (B (o + 22)) x.toInt = (nI R.2.1, nk (A (o + 1)) R.1) := by
        unfold sp_does
        rw [if_pos c12, ttr, Int.toNat_natCast, ← hRR, if_neg (show ¬ R.2.1 = 0 by omega)]
      rw [← etr, c0]
      have hfp : FP o V V2 := (FP.up (by decide)).tr f1
      exact ⟨rfl, V2, A4, B, rfl, hfp, fin_notes hC f3 n1 n2, FB.rfl⟩
  · refine WQ.st (fun _ _ kz => pw_iload2 dX12_does_15 kz) ?_
    refine ⟨_, _, pw_iret dX12_does_16 rfl rfl rfl rfl, ?_⟩
    have c0 : sp_does (A (o + 1)) (A (o + 20)) (A (o + 21)) (B (o + 22)) x.toInt = (sp_nt (A (o + 20)) x.toInt, A (o + 1)) := by unfold sp_does; rw [if_neg c12]
    rw [c0]
    exact PZ.q (FP.up (by decide)) FQ.rfl FB.rfl
