/-! ===== the reference: Friday, sums, a deed told ===== -/
def frb (al : Nat → Int32) : Nat → Int32
  | 0 => 0
  | n + 1 => frb al n ||| (if 0 ≤ al (77 + n) then (0 : Int32) else (1 : Int32) <<< (nI n &&& 31))
def sp_fri (al : Nat → Int32) : Nat → Int32 := pm_up (pm_up al 75 (frb al (al 2).toInt.toNat)) 76 (al 76 + 1)
def smI (f : Nat → Int32) : Nat → Int32
  | 0 => 0
  | n + 1 => smI f n + f n
set_option maxRecDepth 20000 in
theorem l_fri {G : gT} {d : Nat} {S : sS} {V : sV} {P : sP} {B : sB} {Q : sP} {t sl o : Nat} (hF : MF S P o) {A0 : sV} {n : Nat} (hn5 : n ≤ 5) (hn : A0 (o + 1) 2 = nI n) {Z : Option Value → Ph → Prop} (kf : WQ G d mX12_goesFriday 55 [some (.ref o), some (.int (nI n))] [] (t, sl, gh S V P (pm_up A0 (o + 1) (pm_up (A0 (o + 1)) 75 (frb (A0 (o + 1)) n))) B Q) Z) : ∀ (m k : Nat), k + m = n → WQ G d mX12_goesFriday 10 [some (.ref o), some (.int (nI k))] [] (t, sl, gh S V P (pm_up A0 (o + 1) (pm_up (A0 (o + 1)) 75 (frb (A0 (o + 1)) k))) B Q) Z := by
  intro m
  induction m with
  | zero =>
    intro k hk
    have hk : k = n := hk
    subst hk
    refine WQ.st (fun _ _ kz => pw_iload1 dX12_goesFriday_10 kz) ?_
    refine WQ.st (fun _ _ kz => pw_aload0 dX12_goesFriday_11 kz) ?_
    refine WQ.st (fun _ _ kz => pw_getr gX12_13 dX12_goesFriday_12 hF.1 (mf_p1 hF) kz) ?_
    refine WQ.st (fun _ _ kz => pw_iconst (v := 2) dX12_goesFriday_15 (by decide) kz) ?_
    refine WQ.st (fun _ _ kz => pw_ald (j := 2) dX12_goesFriday_16 (mf_s1 hF) rfl (by omega) kz) ?_
    rw [pm_up_eq, pm_up_ne (show 2 ≠ 75 by decide), hn]
    refine WQ.br (fun _ _ ka kb => pw_icmp_ge (tgt := 55) dX12_goesFriday_17 (by decide) ka kb) (fun c17 => ?_) (fun c17 => absurd (Int32.le_refl _) c17)
    exact kf
  | succ m ih =>
    intro k hk
    have kk := ih (k + 1) (by omega)
    refine WQ.st (fun _ _ kz => pw_iload1 dX12_goesFriday_10 kz) ?_
    refine WQ.st (fun _ _ kz => pw_aload0 dX12_goesFriday_11 kz) ?_
    refine WQ.st (fun _ _ kz => pw_getr gX12_13 dX12_goesFriday_12 hF.1 (mf_p1 hF) kz) ?_
    refine WQ.st (fun _ _ kz => pw_iconst (v := 2) dX12_goesFriday_15 (by decide) kz) ?_
    refine WQ.st (fun _ _ kz => pw_ald (j := 2) dX12_goesFriday_16 (mf_s1 hF) rfl (by omega) kz) ?_
    rw [pm_up_eq, pm_up_ne (show 2 ≠ 75 by decide), hn]
    refine WQ.br (fun _ _ ka kb => pw_icmp_ge (tgt := 55) dX12_goesFriday_17 (by decide) ka kb) (fun c17 => absurd c17 (by rw [le_i (ix_n (j := n) (by omega)) (ix_n (j := k) (by omega))]; omega)) (fun c17 => ?_)
    refine WQ.st (fun _ _ kz => pw_aload0 dX12_goesFriday_20 kz) ?_
    refine WQ.st (fun _ _ kz => pw_getr gX12_13 dX12_goesFriday_21 hF.1 (mf_p1 hF) kz) ?_
    refine WQ.st (fun _ _ kz => pw_bipush (v := 75) dX12_goesFriday_24 (by decide) kz) ?_
    refine WQ.st (fun _ _ kz => pw_dup2_11 dX12_goesFriday_26 rfl rfl kz) ?_
    refine WQ.st (fun _ _ kz => pw_ald (j := 75) dX12_goesFriday_27 (mf_s1 hF) rfl (by omega) kz) ?_
    rw [pm_up_eq, pm_up_eq]
    refine WQ.st (fun _ _ kz => pw_aload0 dX12_goesFriday_28 kz) ?_
    refine WQ.st (fun _ _ kz => pw_getr gX12_13 dX12_goesFriday_29 hF.1 (mf_p1 hF) kz) ?_
    refine WQ.st (fun _ _ kz => pw_bipush (v := 77) dX12_goesFriday_32 (by decide) kz) ?_
    refine WQ.st (fun _ _ kz => pw_iload1 dX12_goesFriday_34 kz) ?_
    refine WQ.st (fun _ _ kz => pw_iadd dX12_goesFriday_35 kz) ?_
    refine WQ.st (fun _ _ kz => pw_ald (j := 77 + k) dX12_goesFriday_36 (mf_s1 hF) (by simp (disch := omega) only [nl_77, nI_add, pk_mul, pk_sub]; exact ix_m (by omega) (by omega)) (by omega) kz) ?_
    rw [pm_up_eq, pm_up_ne (show 77 + k ≠ 75 by omega)]
    refine WQ.br (fun _ _ ka kb => pw_if_ge (tgt := 46) dX12_goesFriday_37 (by decide) ka kb) (fun c37 => ?_) (fun c37 => ?_)
    · refine WQ.st (fun _ _ kz => pw_iconst (v := 0) dX12_goesFriday_46 (by decide) kz) ?_
      refine WQ.st (fun _ _ kz => pw_ior dX12_goesFriday_47 kz) ?_
      refine WQ.st (fun _ _ kz => pw_ast (j := 75) dX12_goesFriday_48 (mf_s1 hF) rfl (by omega)  kz) ?_
      refine WQ.st (fun _ _ kz => pw_iinc1 (v := 1) dX12_goesFriday_49 (by decide) (by decide) (k := kz)) ?_
      refine WQ.st (fun _ _ kz => pw_goto (tgt := 10) dX12_goesFriday_52 (by decide) kz) ?_
      rw [nI_1, up2_up, pm_up_up]
      rw [frb, if_pos c37] at kk
      exact kk
    · refine WQ.st (fun _ _ kz => pw_iconst (v := 1) dX12_goesFriday_40 (by decide) kz) ?_
      refine WQ.st (fun _ _ kz => pw_iload1 dX12_goesFriday_41 kz) ?_
      refine WQ.st (fun _ _ kz => pw_ishl dX12_goesFriday_42 kz) ?_
      refine WQ.st (fun _ _ kz => pw_goto (tgt := 47) dX12_goesFriday_43 (by decide) kz) ?_
      refine WQ.st (fun _ _ kz => pw_ior dX12_goesFriday_47 kz) ?_
      refine WQ.st (fun _ _ kz => pw_ast (j := 75) dX12_goesFriday_48 (mf_s1 hF) rfl (by omega)  kz) ?_
      refine WQ.st (fun _ _ kz => pw_iinc1 (v := 1) dX12_goesFriday_49 (by decide) (by decide) (k := kz)) ?_
      refine WQ.st (fun _ _ kz => pw_goto (tgt := 10) dX12_goesFriday_52 (by decide) kz) ?_
      rw [nI_1, up2_up, pm_up_up]
      rw [frb, if_neg c37] at kk
      exact kk
set_option maxRecDepth 20000 in
theorem c_goesFriday {G : gT} {d : Nat} {S : sS} {V : sV} {P : sP} {A : sV} {B : sB} {Q : sP} {t sl o : Nat} (hF : MF S P o) (hD : DV (A (o + 1))) : WQ G d mX12_goesFriday 0 [some (.ref o), none] [] (t, sl, gh S V P A B Q) (fun r h' => r = none ∧ ∃ A' : sV, h' = (t, sl, gh S V P A' B Q) ∧ A' = pm_up A (o + 1) (sp_fri (A (o + 1)))) := by
  refine WQ.st (fun _ _ kz => pw_aload0 dX12_goesFriday_0 kz) ?_
  refine WQ.st (fun _ _ kz => pw_getr gX12_13 dX12_goesFriday_1 hF.1 (mf_p1 hF) kz) ?_
  refine WQ.st (fun _ _ kz => pw_bipush (v := 75) dX12_goesFriday_4 (by decide) kz) ?_
  refine WQ.st (fun _ _ kz => pw_iconst (v := 0) dX12_goesFriday_6 (by decide) kz) ?_
  refine WQ.st (fun _ _ kz => pw_ast (j := 75) dX12_goesFriday_7 (mf_s1 hF) rfl (by omega)  kz) ?_
  refine WQ.st (fun _ _ kz => pw_iconst (v := 0) dX12_goesFriday_8 (by decide) kz) ?_
  refine WQ.st (fun _ _ kz => pw_istore1 dX12_goesFriday_9 (by decide) (k := kz)) ?_
  rw [up2_pm]
  exact l_fri (G := G) (V := V) (B := B) (Q := Q) (t := t) (sl := sl) (d := d) hF (n := (A (o + 1) 2).toInt.toNat) (by have := hD.p5; omega) (nI_ofI hD.p5.1) (by
    refine WQ.st (fun _ _ kz => pw_aload0 dX12_goesFriday_55 kz) ?_
    refine WQ.st (fun _ _ kz => pw_getr gX12_13 dX12_goesFriday_56 hF.1 (mf_p1 hF) kz) ?_
    refine WQ.st (fun _ _ kz => pw_bipush (v := 76) dX12_goesFriday_59 (by decide) kz) ?_
    refine WQ.st (fun _ _ kz => pw_dup2_11 dX12_goesFriday_61 rfl rfl kz) ?_
    refine WQ.st (fun _ _ kz => pw_ald (j := 76) dX12_goesFriday_62 (mf_s1 hF) rfl (by omega) kz) ?_
    rw [pm_up_eq, pm_up_ne (show 76 ≠ 75 by decide)]
    refine WQ.st (fun _ _ kz => pw_iconst (v := 1) dX12_goesFriday_63 (by decide) kz) ?_
    refine WQ.st (fun _ _ kz => pw_iadd dX12_goesFriday_64 kz) ?_
    refine WQ.st (fun _ _ kz => pw_ast (j := 76) dX12_goesFriday_65 (mf_s1 hF) rfl (by omega)  kz) ?_
    refine ⟨_, _, pw_vret dX12_goesFriday_66 rfl rfl rfl, ?_⟩
    exact ⟨rfl, _, rfl, by rw [up2_up]; rfl⟩) _ 0 (Nat.zero_add _)
set_option maxRecDepth 20000 in
theorem l_sumOf {G : gT} {d : Nat} {S : sS} {V : sV} {P : sP} {A : sV} {B : sB} {Q : sP} {t sl o : Nat} (hF : MF S P o) {n : Nat} {f : Nat} (hf : f ≤ 82) (hn5 : n ≤ 5) (hn : A (o + 1) 2 = nI n) : ∀ (m k : Nat), k + m = n → PW G d mX12_sumOf 4 [some (.ref o), some (.int (nI f)), some (.int (smI (fun p => A (o + 1) (f + p)) k)), some (.int (nI k))] [] (t, sl, gh S V P A B Q) (some (.int (smI (fun p => A (o + 1) (f + p)) n))) (t, sl, gh S V P A B Q) := by
  intro m
  induction m with
  | zero =>
    intro k hk
    have hk : k = n := hk
    subst hk
    refine pw_iload3 dX12_sumOf_4 ?_
    refine pw_aload0 dX12_sumOf_5 ?_
    refine pw_getr gX12_13 dX12_sumOf_6 hF.1 (mf_p1 hF) ?_
    refine pw_iconst (v := 2) dX12_sumOf_9 (by decide) ?_
    refine pw_ald (j := 2) dX12_sumOf_10 (mf_s1 hF) rfl (by omega) ?_
    rw [hn]
    refine pw_icmp_ge (tgt := 31) dX12_sumOf_11 (by decide) (fun c11 => ?_) (fun c11 => absurd (Int32.le_refl _) c11)
    refine pw_iload2 dX12_sumOf_31 ?_
    exact pw_iret dX12_sumOf_32 rfl rfl rfl rfl
  | succ m ih =>
    intro k hk
    have kk := ih (k + 1) (by omega)
    rw [smI] at kk
    refine pw_iload3 dX12_sumOf_4 ?_
    refine pw_aload0 dX12_sumOf_5 ?_
    refine pw_getr gX12_13 dX12_sumOf_6 hF.1 (mf_p1 hF) ?_
    refine pw_iconst (v := 2) dX12_sumOf_9 (by decide) ?_
    refine pw_ald (j := 2) dX12_sumOf_10 (mf_s1 hF) rfl (by omega) ?_
    rw [hn]
    refine pw_icmp_ge (tgt := 31) dX12_sumOf_11 (by decide) (fun c11 => absurd c11 (by rw [le_i (ix_n (j := n) (by omega)) (ix_n (j := k) (by omega))]; omega)) (fun c11 => ?_)
    refine pw_iload2 dX12_sumOf_14 ?_
    refine pw_aload0 dX12_sumOf_15 ?_
    refine pw_getr gX12_13 dX12_sumOf_16 hF.1 (mf_p1 hF) ?_
    refine pw_iload1 dX12_sumOf_19 ?_
    refine pw_iload3 dX12_sumOf_20 ?_
    refine pw_iadd dX12_sumOf_21 ?_
    refine pw_ald (j := f + k) dX12_sumOf_22 (mf_s1 hF) (by simp (disch := omega) only [nI_add, pk_mul, pk_sub]; exact ix_m (by omega) (by omega)) (by omega) ?_
    refine pw_iadd dX12_sumOf_23 ?_
    refine pw_istore2 dX12_sumOf_24 (by decide) (k := ?_)
    refine pw_iinc3 (v := 1) dX12_sumOf_25 (by decide) (by decide) (k := ?_)
    refine pw_goto (tgt := 4) dX12_sumOf_28 (by decide) ?_
    rw [nI_1]
    exact kk
set_option maxRecDepth 20000 in
theorem c_sumOf {G : gT} {d : Nat} {S : sS} {V : sV} {P : sP} {A : sV} {B : sB} {Q : sP} {t sl o : Nat} (hF : MF S P o) (hD : DV (A (o + 1))) {f : Nat} (hf : f ≤ 82) : PW G d mX12_sumOf 0 [some (.ref o), some (.int (nI f)), none, none] [] (t, sl, gh S V P A B Q) (some (.int (smI (fun p => A (o + 1) (f + p)) (A (o + 1) 2).toInt.toNat))) (t, sl, gh S V P A B Q) := by
  refine pw_iconst (v := 0) dX12_sumOf_0 (by decide) ?_
  refine pw_istore2 dX12_sumOf_1 (by decide) (k := ?_)
  refine pw_iconst (v := 0) dX12_sumOf_2 (by decide) ?_
  refine pw_istore3 dX12_sumOf_3 (by decide) (k := ?_)
  exact l_sumOf hF hf (by have := hD.p5; omega) (nI_ofI hD.p5.1) _ 0 (Nat.zero_add _)
set_option maxRecDepth 20000 in
theorem l_barsAll {G : gT} {d : Nat} {S : sS} {V : sV} {P : sP} {A : sV} {B : sB} {Q : sP} {t sl o : Nat} (hF : MF S P o) {n : Nat}  (hn5 : n ≤ 4) (hn : A (o + 1) 1 = nI n) : ∀ (m k : Nat), k + m = n → PW G d mX12_barsAll 4 [some (.ref o), some (.int (smI (fun p => A (o + 1) (10 + p)) k)), some (.int (nI k))] [] (t, sl, gh S V P A B Q) (some (.int (smI (fun p => A (o + 1) (10 + p)) n))) (t, sl, gh S V P A B Q) := by
  intro m
  induction m with
  | zero =>
    intro k hk
    have hk : k = n := hk
    subst hk
    refine pw_iload2 dX12_barsAll_4 ?_
    refine pw_aload0 dX12_barsAll_5 ?_
    refine pw_getr gX12_13 dX12_barsAll_6 hF.1 (mf_p1 hF) ?_
    refine pw_iconst (v := 1) dX12_barsAll_9 (by decide) ?_
    refine pw_ald (j := 1) dX12_barsAll_10 (mf_s1 hF) rfl (by omega) ?_
    rw [hn]
    refine pw_icmp_ge (tgt := 32) dX12_barsAll_11 (by decide) (fun c11 => ?_) (fun c11 => absurd (Int32.le_refl _) c11)
    refine pw_iload1 dX12_barsAll_32 ?_
    exact pw_iret dX12_barsAll_33 rfl rfl rfl rfl
  | succ m ih =>
    intro k hk
    have kk := ih (k + 1) (by omega)
    rw [smI] at kk
    refine pw_iload2 dX12_barsAll_4 ?_
    refine pw_aload0 dX12_barsAll_5 ?_
    refine pw_getr gX12_13 dX12_barsAll_6 hF.1 (mf_p1 hF) ?_
    refine pw_iconst (v := 1) dX12_barsAll_9 (by decide) ?_
    refine pw_ald (j := 1) dX12_barsAll_10 (mf_s1 hF) rfl (by omega) ?_
    rw [hn]
    refine pw_icmp_ge (tgt := 32) dX12_barsAll_11 (by decide) (fun c11 => absurd c11 (by rw [le_i (ix_n (j := n) (by omega)) (ix_n (j := k) (by omega))]; omega)) (fun c11 => ?_)
    refine pw_iload1 dX12_barsAll_14 ?_
    refine pw_aload0 dX12_barsAll_15 ?_
    refine pw_getr gX12_13 dX12_barsAll_16 hF.1 (mf_p1 hF) ?_
    refine pw_bipush (v := 10) dX12_barsAll_19 (by decide) ?_
    refine pw_iload2 dX12_barsAll_21 ?_
    refine pw_iadd dX12_barsAll_22 ?_
    refine pw_ald (j := 10 + k) dX12_barsAll_23 (mf_s1 hF) (by simp (disch := omega) only [nl_10, nI_add, pk_mul, pk_sub]; exact ix_m (by omega) (by omega)) (by omega) ?_
    refine pw_iadd dX12_barsAll_24 ?_
    refine pw_istore1 dX12_barsAll_25 (by decide) (k := ?_)
    refine pw_iinc2 (v := 1) dX12_barsAll_26 (by decide) (by decide) (k := ?_)
    refine pw_goto (tgt := 4) dX12_barsAll_29 (by decide) ?_
    rw [nI_1]
    exact kk
set_option maxRecDepth 20000 in
theorem c_barsAll {G : gT} {d : Nat} {S : sS} {V : sV} {P : sP} {A : sV} {B : sB} {Q : sP} {t sl o : Nat} (hF : MF S P o) (hD : DV (A (o + 1)))  : PW G d mX12_barsAll 0 [some (.ref o), none, none] [] (t, sl, gh S V P A B Q) (some (.int (smI (fun p => A (o + 1) (10 + p)) (A (o + 1) 1).toInt.toNat))) (t, sl, gh S V P A B Q) := by
  refine pw_iconst (v := 0) dX12_barsAll_0 (by decide) ?_
  refine pw_istore1 dX12_barsAll_1 (by decide) (k := ?_)
  refine pw_iconst (v := 0) dX12_barsAll_2 (by decide) ?_
  refine pw_istore2 dX12_barsAll_3 (by decide) (k := ?_)
  exact l_barsAll hF (by have := hD.n4; omega) (nI_ofI hD.n4.1) _ 0 (Nat.zero_add _)
def sp_nt (so : Nat → Int32) (x : Int) : Int32 := if 0 ≤ x ∧ x ≤ 3 then (if so x.toNat = -1 then -99000006 else 0) else -99000002
set_option maxRecDepth 20000 in
theorem c_noTray {G : gT} {d : Nat} {S : sS} {V : sV} {P : sP} {A : sV} {B : sB} {Q : sP} {t sl o : Nat} (hF : MF S P o) (x : Int32) : WQ G (d + 1) mX12_noTray 0 [some (.ref o), some (.int x)] [] (t, sl, gh S V P A B Q) (fun r h' => r = some (.int (sp_nt (A (o + 20)) x.toInt)) ∧ h' = (t, sl, gh S V P A B Q)) := by
  refine WQ.st (fun _ _ kz => pw_iload1 dX12_noTray_0 kz) ?_
  refine WQ.st (fun _ _ kz => pw_i2l dX12_noTray_1 kz) ?_
  refine WQ.st (fun _ _ kz => pw_lconst (v := 0) dX12_noTray_2 (by decide) kz) ?_
  refine WQ.st (fun _ _ kz => pw_ldc2 kX12_385 dX12_noTray_3 kz) ?_
  refine WQ.st (fun _ _ kz => pw_s3i wX12_within lX12_152 dX12_noTray_6 (c_withinI _ _ _) rfl (Nat.le_of_ble_eq_true rfl) (Nat.le_of_ble_eq_true rfl) kz) ?_
  refine WQ.bn (fun _ _ ka kb => pw_if_ne (tgt := 17) dX12_noTray_9 (by decide) ka kb) (fun c9 => ?_) (fun c9 => ?_)
  · rw [bI_n] at c9
    have cc : 0 ≤ x.toInt ∧ x.toInt ≤ 3 := by
      have := of_decide_eq_true c9
      rw [il_t] at this
      exact this
    have ex : x = nI x.toInt.toNat := nI_ofI cc.1
    refine WQ.st (fun _ _ kz => pw_aload0 dX12_noTray_17 kz) ?_
    refine WQ.st (fun _ _ kz => pw_getr gX12_76 dX12_noTray_18 hF.1 (mf_p36 hF) kz) ?_
    refine WQ.st (fun _ _ kz => pw_iload1 dX12_noTray_21 kz) ?_
    refine WQ.st (fun _ _ kz => pw_ald (j := x.toInt.toNat) dX12_noTray_22 (mf_s20 hF) (by omega) (by omega) kz) ?_
    refine WQ.st (fun _ _ kz => pw_iconst (v := -1) dX12_noTray_23 (by decide) kz) ?_
    refine WQ.bn (fun _ _ ka kb => pw_icmp_ne (tgt := 33) dX12_noTray_24 (by decide) ka kb) (fun c24 => ?_) (fun c24 => ?_)
    · refine WQ.st (fun _ _ kz => pw_iconst (v := 0) dX12_noTray_33 (by decide) kz) ?_
      refine ⟨_, _, pw_iret dX12_noTray_34 rfl rfl rfl rfl, ?_⟩
      exact ⟨rI (by unfold sp_nt; rw [if_pos cc, if_neg c24]), rfl⟩
    · refine WQ.st (fun _ _ kz => pw_ldcw kX12_387 dX12_noTray_27 kz) ?_
      refine WQ.st (fun _ _ kz => pw_goto (tgt := 34) dX12_noTray_30 (by decide) kz) ?_
      refine ⟨_, _, pw_iret dX12_noTray_34 rfl rfl rfl rfl, ?_⟩
      exact ⟨rI (by unfold sp_nt; rw [if_pos cc, if_pos c24]), rfl⟩
  · rw [bI_0] at c9
    refine WQ.st (fun _ _ kz => pw_ldc kX12_247 dX12_noTray_12 kz) ?_
    refine WQ.st (fun _ _ kz => pw_goto (tgt := 34) dX12_noTray_14 (by decide) kz) ?_
    refine ⟨_, _, pw_iret dX12_noTray_34 rfl rfl rfl rfl, ?_⟩
    have cc : ¬ (0 ≤ x.toInt ∧ x.toInt ≤ 3) := by
      have := of_decide_eq_false c9
      rw [il_t] at this
      exact this
    exact ⟨rI (by unfold sp_nt; rw [if_neg cc]), rfl⟩
def sp_why (al : Nat → Int32) (v : Int) : Int32 := if v = -1 then 0 else if 0 ≤ v ∧ v ≤ 99 then sp_wp al (v / 10) (v % 10) else if 100 ≤ v ∧ v ≤ 199 then sp_wb al ((v - 100) / 10) (v % 10) else if 1000 ≤ v ∧ v ≤ 9999 then sp_wl al ((v - 1000) / 1000) (v / 100 % 10) (v % 100) else 1
theorem lN_of {v : Int64} (h0 : 0 ≤ v.toInt) : ∃ n : Nat, (n : Int) = v.toInt ∧ v = lN n := by
  have h2 := Int64.toInt_lt v
  refine ⟨v.toInt.toNat, by omega, ?_⟩
  rw [← Int64.toInt_inj, lN_t (by omega)]
  omega
theorem lj_10 : (10 : Int64) = lN 10 := rfl
theorem lj_100 : (100 : Int64) = lN 100 := rfl
theorem lj_1000 : (1000 : Int64) = lN 1000 := rfl
set_option maxRecDepth 20000 in
theorem c_whyNot {G : gT} {d : Nat} {S : sS} {V : sV} {P : sP} {A : sV} {B : sB} {Q : sP} {t sl o : Nat} (hF : MF S P o) (hD : DV (A (o + 1))) (hK : KV ((A (o + 1)) 2).toInt (fun k => (A (o + 1)) (75 + k))) (v : Int64) : WQ G (d + 7) mX12_whyNot 0 [some (.ref o), some (.long v), none] [] (t, sl, gh S V P A B Q) (fun r h' => r = some (.int (sp_why (A (o + 1)) v.toInt)) ∧ ∃ V' A' : sV, h' = (t, sl, gh S V' P A' B Q) ∧ FA o A A' ∧ FV o V V' ∧ (100 ≤ v.toInt → v.toInt ≤ 199 → sp_why (A (o + 1)) v.toInt = 0 → V' o 20 = bsT (A (o + 1)) ((v.toInt - 100) / 10).toNat (v.toInt % 10).toNat (-20) ∧ V' o 21 = sI (bsS (A (o + 1)) ((v.toInt - 100) / 10).toNat (v.toInt % 10).toNat (-20) (lgN (A (o + 1)) (v.toInt % 10).toNat)).2)) := by
  refine WQ.st (fun _ _ kz => pw_lload1 dX12_whyNot_0 kz) ?_
  refine WQ.st (fun _ _ kz => pw_ldc2 kX12_363 dX12_whyNot_1 kz) ?_
  refine WQ.st (fun _ _ kz => pw_lcmp dX12_whyNot_4 kz) ?_
  refine WQ.bn (fun _ _ ka kb => pw_if_ne (tgt := 10) dX12_whyNot_5 (by decide) ka kb) (fun c5 => ?_) (fun c5 => ?_)
  · rw [lg_cmp_eq] at c5
    have d5 : v.toInt ≠ -1 := fun q => c5 (Int64.toInt_inj.mp q)
    refine WQ.st (fun _ _ kz => pw_lload1 dX12_whyNot_10 kz) ?_
    refine WQ.st (fun _ _ kz => pw_lconst (v := 0) dX12_whyNot_11 (by decide) kz) ?_
    refine WQ.st (fun _ _ kz => pw_ldc2 kX12_365 dX12_whyNot_12 kz) ?_
    refine WQ.st (fun _ _ kz => pw_s3i wX12_within lX12_152 dX12_whyNot_15 (c_withinI _ _ _) rfl (Nat.le_of_ble_eq_true rfl) (Nat.le_of_ble_eq_true rfl) kz) ?_
    refine WQ.br (fun _ _ ka kb => pw_if_eq (tgt := 36) dX12_whyNot_18 (by decide) ka kb) (fun c18 => ?_) (fun c18 => ?_)
    · rw [bI_0] at c18
      have d18 : ¬ (0 ≤ v.toInt ∧ v.toInt ≤ 99) := of_decide_eq_false c18
      refine WQ.st (fun _ _ kz => pw_lload1 dX12_whyNot_36 kz) ?_
      refine WQ.st (fun _ _ kz => pw_ldc2 kX12_367 dX12_whyNot_37 kz) ?_
      refine WQ.st (fun _ _ kz => pw_ldc2 kX12_369 dX12_whyNot_40 kz) ?_
      refine WQ.st (fun _ _ kz => pw_s3i wX12_within lX12_152 dX12_whyNot_43 (c_withinI _ _ _) rfl (Nat.le_of_ble_eq_true rfl) (Nat.le_of_ble_eq_true rfl) kz) ?_
      refine WQ.br (fun _ _ ka kb => pw_if_eq (tgt := 68) dX12_whyNot_46 (by decide) ka kb) (fun c46 => ?_) (fun c46 => ?_)
      · rw [bI_0] at c46
        have d46 : ¬ (100 ≤ v.toInt ∧ v.toInt ≤ 199) := of_decide_eq_false c46
        refine WQ.st (fun _ _ kz => pw_lload1 dX12_whyNot_68 kz) ?_
        refine WQ.st (fun _ _ kz => pw_ldc2 kX12_371 dX12_whyNot_69 kz) ?_
        refine WQ.st (fun _ _ kz => pw_ldc2 kX12_373 dX12_whyNot_72 kz) ?_
        refine WQ.st (fun _ _ kz => pw_s3i wX12_within lX12_152 dX12_whyNot_75 (c_withinI _ _ _) rfl (Nat.le_of_ble_eq_true rfl) (Nat.le_of_ble_eq_true rfl) kz) ?_
        refine WQ.br (fun _ _ ka kb => pw_if_eq (tgt := 111) dX12_whyNot_78 (by decide) ka kb) (fun c78 => ?_) (fun c78 => ?_)
        · rw [bI_0] at c78
          have d78 : ¬ (1000 ≤ v.toInt ∧ v.toInt ≤ 9999) := of_decide_eq_false c78
          refine WQ.st (fun _ _ kz => pw_iconst (v := 1) dX12_whyNot_111 (by decide) kz) ?_
          refine ⟨_, _, pw_iret dX12_whyNot_112 rfl rfl rfl rfl, ?_⟩
          refine ⟨rI (by unfold sp_why; rw [if_neg d5, if_neg d18, if_neg d46, if_neg d78]), V, A, rfl, FA.rfl, FV.rfl, fun q1 q2 => absurd ⟨q1, q2⟩ d46⟩
        · rw [bI_n] at c78
          have cc : 1000 ≤ v.toInt ∧ v.toInt ≤ 9999 := of_decide_eq_true c78
          obtain ⟨n, hn, rfl⟩ := lN_of (v := v) (by omega)
          rw [← hn] at cc
          refine WQ.st (fun _ _ kz => pw_aload0 dX12_whyNot_81 kz) ?_
          refine WQ.st (fun _ _ kz => pw_lload1 dX12_whyNot_82 kz) ?_
          refine WQ.st (fun _ _ kz => pw_ldc2 kX12_371 dX12_whyNot_83 kz) ?_
          refine WQ.st (fun _ _ kz => pw_lsub dX12_whyNot_86 kz) ?_
          rw [lj_1000, lN_sub (by omega)]
          refine WQ.st (fun _ _ kz => pw_ldc2 kX12_371 dX12_whyNot_87 kz) ?_
          refine WQ.st (fun _ _ kz => pw_ldiv dX12_whyNot_90 (by decide) kz) ?_
          rw [lj_1000, lN_div (by omega) (by decide)]
          refine WQ.st (fun _ _ kz => pw_lload1 dX12_whyNot_91 kz) ?_
          refine WQ.st (fun _ _ kz => pw_ldc2 kX12_367 dX12_whyNot_92 kz) ?_
          refine WQ.st (fun _ _ kz => pw_ldiv dX12_whyNot_95 (by decide) kz) ?_
          rw [lj_100, lN_div (by omega) (by decide)]
          refine WQ.st (fun _ _ kz => pw_ldc2 kX12_361 dX12_whyNot_96 kz) ?_
          refine WQ.st (fun _ _ kz => pw_lrem dX12_whyNot_99 (by decide) kz) ?_
          rw [lj_10, lN_rem (by omega) (by decide)]
          refine WQ.st (fun _ _ kz => pw_lload1 dX12_whyNot_100 kz) ?_
          refine WQ.st (fun _ _ kz => pw_ldc2 kX12_367 dX12_whyNot_101 kz) ?_
          refine WQ.st (fun _ _ kz => pw_lrem dX12_whyNot_104 (by decide) kz) ?_
          rw [lj_100, lN_rem (by omega) (by decide)]
          obtain ⟨r0, h0, k0, rfl, rfl⟩ := c_whyLend (d := d + 3) (P := P) (S := S) (G := G) (V := V) (A := A) (B := B) (Q := Q) (t := t) (sl := sl) hF hD hK (lN ((n - 1000) / 1000)) (lN (n / 100 % 10)) (lN (n % 100))
          refine WQ.st (fun _ _ kz => pw_o3i wX12_whyLend lX12_347 rfl dX12_whyNot_105 hF.1 (k0.mono (by omega)) rfl (Nat.le_of_ble_eq_true rfl) (Nat.le_of_ble_eq_true rfl) kz) ?_
          refine WQ.st (fun _ _ kz => pw_goto (tgt := 112) dX12_whyNot_108 (by decide) kz) ?_
          refine ⟨_, _, pw_iret dX12_whyNot_112 rfl rfl rfl rfl, ?_⟩
          refine ⟨rI (by unfold sp_why; rw [lN_t (by omega), lN_t (by omega), lN_t (by omega), lN_t (by omega), if_neg (by omega), if_neg (by omega), if_neg (by omega), if_pos (by omega)]; congr 1 <;> omega), V, A, rfl, FA.rfl, FV.rfl, fun q1 q2 => absurd q2 (by omega)⟩
      · rw [bI_n] at c46
        have cc : 100 ≤ v.toInt ∧ v.toInt ≤ 199 := of_decide_eq_true c46
        obtain ⟨n, hn, rfl⟩ := lN_of (v := v) (by omega)
        rw [← hn] at cc
        refine WQ.st (fun _ _ kz => pw_aload0 dX12_whyNot_49 kz) ?_
        refine WQ.st (fun _ _ kz => pw_lload1 dX12_whyNot_50 kz) ?_
        refine WQ.st (fun _ _ kz => pw_ldc2 kX12_367 dX12_whyNot_51 kz) ?_
        refine WQ.st (fun _ _ kz => pw_lsub dX12_whyNot_54 kz) ?_
        rw [lj_100, lN_sub (by omega)]
        refine WQ.st (fun _ _ kz => pw_ldc2 kX12_361 dX12_whyNot_55 kz) ?_
        refine WQ.st (fun _ _ kz => pw_ldiv dX12_whyNot_58 (by decide) kz) ?_
        rw [lj_10, lN_div (by omega) (by decide)]
        refine WQ.st (fun _ _ kz => pw_lload1 dX12_whyNot_59 kz) ?_
        refine WQ.st (fun _ _ kz => pw_ldc2 kX12_361 dX12_whyNot_60 kz) ?_
        refine WQ.st (fun _ _ kz => pw_lrem dX12_whyNot_63 (by decide) kz) ?_
        rw [lj_10, lN_rem (by omega) (by decide)]
        obtain ⟨r0, h0, k0, rfl, V', A', rfl, f1, f2, f3⟩ := c_whyBest (d := d) (P := P) (S := S) (G := G) (V := V) (A := A) (B := B) (Q := Q) (t := t) (sl := sl) hF hD hK (lN ((n - 100) / 10)) (lN (n % 10))
        refine WQ.st (fun _ _ kz => pw_o2i wX12_whyBest lX12_344 rfl dX12_whyNot_64 hF.1 (k0) rfl (Nat.le_of_ble_eq_true rfl) (Nat.le_of_ble_eq_true rfl) kz) ?_
        refine ⟨_, _, pw_iret dX12_whyNot_67 rfl rfl rfl rfl, ?_⟩
        have e0 : sp_why (A (o + 1)) (lN n).toInt = sp_wb (A (o + 1)) (lN ((n - 100) / 10)).toInt (lN (n % 10)).toInt := by
          unfold sp_why
          rw [lN_t (by omega), lN_t (by omega), lN_t (by omega), if_neg (by omega), if_neg (by omega), if_pos (by omega)]
          congr 1 <;> omega
        refine ⟨rI e0.symm, V', A', rfl, f1, f2, fun q1 q2 q3 => ?_⟩
        have := f3 (e0.symm.trans q3)
        rw [lN_t (by omega), lN_t (by omega)] at this
        rw [lN_t (by omega)]
        rw [show (((n : Int) - 100) / 10).toNat = (((n - 100) / 10 : Nat) : Int).toNat by omega, show ((n : Int) % 10).toNat = ((n % 10 : Nat) : Int).toNat by omega]
        exact this
    · rw [bI_n] at c18
      have cc : 0 ≤ v.toInt ∧ v.toInt ≤ 99 := of_decide_eq_true c18
      obtain ⟨n, hn, rfl⟩ := lN_of (v := v) (by omega)
      rw [← hn] at cc
      refine WQ.st (fun _ _ kz => pw_aload0 dX12_whyNot_21 kz) ?_
      refine WQ.st (fun _ _ kz => pw_lload1 dX12_whyNot_22 kz) ?_
      refine WQ.st (fun _ _ kz => pw_ldc2 kX12_361 dX12_whyNot_23 kz) ?_
      refine WQ.st (fun _ _ kz => pw_ldiv dX12_whyNot_26 (by decide) kz) ?_
      rw [lj_10, lN_div (by omega) (by decide)]
      refine WQ.st (fun _ _ kz => pw_lload1 dX12_whyNot_27 kz) ?_
      refine WQ.st (fun _ _ kz => pw_ldc2 kX12_361 dX12_whyNot_28 kz) ?_
      refine WQ.st (fun _ _ kz => pw_lrem dX12_whyNot_31 (by decide) kz) ?_
      rw [lj_10, lN_rem (by omega) (by decide)]
      obtain ⟨r0, h0, k0, rfl, rfl⟩ := c_whyPlay (d := d + 3) (P := P) (S := S) (G := G) (V := V) (A := A) (B := B) (Q := Q) (t := t) (sl := sl) hF hD (lN (n / 10)) (lN (n % 10))
      refine WQ.st (fun _ _ kz => pw_o2i wX12_whyPlay lX12_319 rfl dX12_whyNot_32 hF.1 (k0.mono (by omega)) rfl (Nat.le_of_ble_eq_true rfl) (Nat.le_of_ble_eq_true rfl) kz) ?_
      refine ⟨_, _, pw_iret dX12_whyNot_35 rfl rfl rfl rfl, ?_⟩
      refine ⟨rI (by unfold sp_why; rw [lN_t (by omega), lN_t (by omega), lN_t (by omega), if_neg (by omega), if_pos (by omega)]; congr 1 <;> omega), V, A, rfl, FA.rfl, FV.rfl, fun q => absurd q (by omega)⟩
  · rw [lg_cmp_eq] at c5
    refine WQ.st (fun _ _ kz => pw_iconst (v := 0) dX12_whyNot_8 (by decide) kz) ?_
    refine ⟨_, _, pw_iret dX12_whyNot_9 rfl rfl rfl rfl, ?_⟩
    exact ⟨rI (by unfold sp_why; rw [c5]; rfl), V, A, rfl, FA.rfl, FV.rfl, by rw [c5]; exact fun q _ _ => absurd q (by decide)⟩
