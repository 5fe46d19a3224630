/-! ===== the reference: what was heard ===== -/
def nhL (f : Nat → Int) : Nat → Nat → Int32
  | 0, _ => 0
  | m + 1, k => if isD (f k) || decide (f k = 9) then nhL f m (k + 1) else -99000003
def sp_nh (al so mn : Nat → Int32) (nb : Nat → Int64) (x y z : Int) : Int32 := if decide (0 ≤ x ∧ x ≤ 3) && (isP al y && isQ al z) then (if sp_nt so x = 0 then (if mn x.toNat = al (10 + z.toNat) then nhL (fun k => (nb (40 * x.toNat + k)).toInt) (lgN al z.toNat) 0 else -99000004) else sp_nt so x) else -99000002
theorem nhL_0 {f : Nat → Int} : ∀ (m k : Nat), nhL f m k = 0 → ∀ i, k ≤ i → i < k + m → isD (f i) = true ∨ f i = 9
  | 0, k, _, i, h1, h2 => absurd h2 (by omega)
  | m + 1, k, h, i, h1, h2 => by
    rw [nhL] at h
    by_cases e : (isD (f k) || decide (f k = 9)) = true
    · rw [if_pos e] at h
      by_cases q : i = k
      · subst q
        rw [Bool.or_eq_true, decide_eq_true_eq] at e
        exact e
      · exact nhL_0 m (k + 1) h i (by omega) (by omega)
    · rw [if_neg e] at h
      exact absurd h (by decide)
set_option maxRecDepth 20000 in
theorem l_noHeard {G : gT} {d : Nat} {S : sS} {V : sV} {P : sP} {A : sV} {B : sB} {Q : sP} {t sl o : Nat} (hF : MF S P o) {tr n : Nat} (htr : tr < 4) (hn40 : n ≤ 40) (hn : A (o + 21) tr = nI n) {x2 x3 x4 : Int32} : ∀ (m k : Nat) (x6 : Option Value), k + m = n → WQ G (d + 2) mX12_noHeard 64 [some (.ref o), some (.int (nI tr)), some (.int x2), some (.int x3), some (.int x4), some (.int (nI k)), x6, none] [] (t, sl, gh S V P A B Q) (fun r h' => r = some (.int (nhL (fun k => (B (o + 22) (40 * tr + k)).toInt) m k)) ∧ h' = (t, sl, gh S V P A B Q)) := by
  intro m
  induction m with
  | zero =>
    intro k x6 hk
    have hk : k = n := hk
    subst hk
    refine WQ.st (fun _ _ kz => pw_iload5 dX12_noHeard_64 kz) ?_
    refine WQ.st (fun _ _ kz => pw_aload0 dX12_noHeard_66 kz) ?_
    refine WQ.st (fun _ _ kz => pw_getr gX12_79 dX12_noHeard_67 hF.1 (mf_p37 hF) kz) ?_
    refine WQ.st (fun _ _ kz => pw_iload1 dX12_noHeard_70 kz) ?_
    refine WQ.st (fun _ _ kz => pw_ald (j := tr) dX12_noHeard_71 (mf_s21 hF) (ix_m rfl (by omega)) (by omega) kz) ?_
    rw [hn]
    refine WQ.br (fun _ _ ka kb => pw_icmp_ge (tgt := 115) dX12_noHeard_72 (by decide) ka kb) (fun c72 => ?_) (fun c72 => absurd (Int32.le_refl _) c72)
    refine WQ.st (fun _ _ kz => pw_iconst (v := 0) dX12_noHeard_115 (by decide) kz) ?_
    refine ⟨_, _, pw_iret dX12_noHeard_116 rfl rfl rfl rfl, ?_⟩
    exact ⟨rfl, rfl⟩
  | succ m ih =>
    intro k x6 hk
    refine WQ.st (fun _ _ kz => pw_iload5 dX12_noHeard_64 kz) ?_
    refine WQ.st (fun _ _ kz => pw_aload0 dX12_noHeard_66 kz) ?_
    refine WQ.st (fun _ _ kz => pw_getr gX12_79 dX12_noHeard_67 hF.1 (mf_p37 hF) kz) ?_
    refine WQ.st (fun _ _ kz => pw_iload1 dX12_noHeard_70 kz) ?_
    refine WQ.st (fun _ _ kz => pw_ald (j := tr) dX12_noHeard_71 (mf_s21 hF) (ix_m rfl (by omega)) (by omega) kz) ?_
    rw [hn]
    refine WQ.br (fun _ _ ka kb => pw_icmp_ge (tgt := 115) dX12_noHeard_72 (by decide) ka kb) (fun c72 => absurd c72 (by rw [le_i (ix_n (j := n) (by omega)) (ix_n (j := k) (by omega))]; omega)) (fun c72 => ?_)
    refine WQ.st (fun _ _ kz => pw_aload0 dX12_noHeard_75 kz) ?_
    refine WQ.st (fun _ _ kz => pw_getr gX12_82 dX12_noHeard_76 hF.1 (mf_p38 hF) kz) ?_
    refine WQ.st (fun _ _ kz => pw_bipush (v := 40) dX12_noHeard_79 (by decide) kz) ?_
    refine WQ.st (fun _ _ kz => pw_iload1 dX12_noHeard_81 kz) ?_
    refine WQ.st (fun _ _ kz => pw_imul dX12_noHeard_82 kz) ?_
    refine WQ.st (fun _ _ kz => pw_iload5 dX12_noHeard_83 kz) ?_
    refine WQ.st (fun _ _ kz => pw_iadd dX12_noHeard_85 kz) ?_
    refine WQ.st (fun _ _ kz => pw_lld (j := 40 * tr + k) dX12_noHeard_86 (mf_s22 hF) (by simp (disch := omega) only [nl_40, nI_add, pk_mul, pk_sub]; exact ix_m (by omega) (by omega)) (by omega) kz) ?_
    refine WQ.st (fun _ _ kz => pw_lstore6 dX12_noHeard_87 (by decide) (k := kz)) ?_
    refine WQ.st (fun _ _ kz => pw_lload6 dX12_noHeard_89 kz) ?_
    refine WQ.st (fun _ _ kz => pw_s1i wX12_isDraw lX12_255 dX12_noHeard_91 (c_isDrawI _) rfl (Nat.le_of_ble_eq_true rfl) (Nat.le_of_ble_eq_true rfl) kz) ?_
    refine WQ.bn (fun _ _ ka kb => pw_if_ne (tgt := 109) dX12_noHeard_94 (by decide) ka kb) (fun c94 => ?_) (fun c94 => ?_)
    · rw [bI_n] at c94
      refine WQ.st (fun _ _ kz => pw_iinc5 (v := 1) dX12_noHeard_109 (by decide) (by decide) (k := kz)) ?_
      refine WQ.st (fun _ _ kz => pw_goto (tgt := 64) dX12_noHeard_112 (by decide) kz) ?_
      rw [nI_1]
      refine (ih (k + 1) _ (by omega)).imp (fun r h' z => ?_)
      rw [nhL, if_pos (by rw [c94]; simp)]
      exact z
    · rw [bI_0] at c94
      refine WQ.st (fun _ _ kz => pw_lload6 dX12_noHeard_97 kz) ?_
      refine WQ.st (fun _ _ kz => pw_ldc2 kX12_355 dX12_noHeard_99 kz) ?_
      refine WQ.st (fun _ _ kz => pw_lcmp dX12_noHeard_102 kz) ?_
      refine WQ.br (fun _ _ ka kb => pw_if_eq (tgt := 109) dX12_noHeard_103 (by decide) ka kb) (fun c103 => ?_) (fun c103 => ?_)
      · rw [lg_cmp_eq] at c103
        refine WQ.st (fun _ _ kz => pw_iinc5 (v := 1) dX12_noHeard_109 (by decide) (by decide) (k := kz)) ?_
        refine WQ.st (fun _ _ kz => pw_goto (tgt := 64) dX12_noHeard_112 (by decide) kz) ?_
        rw [nI_1]
        refine (ih (k + 1) _ (by omega)).imp (fun r h' z => ?_)
        have e9 : (B (o + 22) (40 * tr + k)).toInt = 9 := by rw [c103]; rfl
        rw [nhL, if_pos (by rw [decide_eq_true e9]; simp)]
        exact z
      · rw [lg_cmp_eq] at c103
        refine WQ.st (fun _ _ kz => pw_ldc kX12_206 dX12_noHeard_106 kz) ?_
        refine ⟨_, _, pw_iret dX12_noHeard_108 rfl rfl rfl rfl, ?_⟩
        rw [nhL, if_neg (by rw [c94, decide_eq_false (p := (B (o + 22) (40 * tr + k)).toInt = 9) (fun q => c103 (Int64.toInt_inj.mp q))]; simp)]
        exact ⟨rfl, rfl⟩
set_option maxRecDepth 20000 in
theorem c_noHeard {G : gT} {d : Nat} {S : sS} {V : sV} {P : sP} {A : sV} {B : sB} {Q : sP} {t sl o : Nat} (hF : MF S P o) (hD : DV (A (o + 1))) (x y z : Int32) : WQ G (d + 3) mX12_noHeard 0 [some (.ref o), some (.int x), some (.int y), some (.int z), none, none, none, none] [] (t, sl, gh S V P A B Q) (fun r h' => r = some (.int (sp_nh (A (o + 1)) (A (o + 20)) (A (o + 21)) (B (o + 22)) x.toInt y.toInt z.toInt)) ∧ h' = (t, sl, gh S V P A B Q)) := by
  refine WQ.st (fun _ _ kz => pw_iload1 dX12_noHeard_0 kz) ?_
  refine WQ.st (fun _ _ kz => pw_i2l dX12_noHeard_1 kz) ?_
  refine WQ.st (fun _ _ kz => pw_lconst (v := 0) dX12_noHeard_2 (by decide) kz) ?_
  refine WQ.st (fun _ _ kz => pw_ldc2 kX12_385 dX12_noHeard_3 kz) ?_
  refine WQ.st (fun _ _ kz => pw_s3i wX12_within lX12_152 dX12_noHeard_6 (c_withinI _ _ _) rfl (Nat.le_of_ble_eq_true rfl) (Nat.le_of_ble_eq_true rfl) kz) ?_
  refine WQ.br (fun _ _ ka kb => pw_if_eq (tgt := 21) dX12_noHeard_9 (by decide) ka kb) (fun c9 => ?_) (fun c9 => ?_)
  · rw [bI_0] at c9
    have c9 : ¬ (0 ≤ x.toInt ∧ x.toInt ≤ 3) := by
      rw [il_t] at c9
      exact of_decide_eq_false c9
    refine WQ.st (fun _ _ kz => pw_ldc kX12_247 dX12_noHeard_21 kz) ?_
    refine ⟨_, _, pw_iret dX12_noHeard_23 rfl rfl rfl rfl, ?_⟩
    have c0 : sp_nh (A (o + 1)) (A (o + 20)) (A (o + 21)) (B (o + 22)) x.toInt y.toInt z.toInt = -99000002 := by unfold sp_nh; rw [decide_eq_false c9, Bool.false_and, if_neg (by decide)]
    rw [c0]
    exact ⟨rfl, rfl⟩
  · rw [bI_n] at c9
    have c9 : 0 ≤ x.toInt ∧ x.toInt ≤ 3 := by
      rw [il_t] at c9
      exact of_decide_eq_true c9
    refine WQ.st (fun _ _ kz => pw_aload0 dX12_noHeard_12 kz) ?_
    refine WQ.st (fun _ _ kz => pw_iload2 dX12_noHeard_13 kz) ?_
    refine WQ.st (fun _ _ kz => pw_iload3 dX12_noHeard_14 kz) ?_
    obtain ⟨_, _, k15, rfl, rfl⟩ := c_areBoth (d := d) (P := P) (S := S) (G := G) (V := V) (A := A) (B := B) (Q := Q) (t := t) (sl := sl) hF hD y z
    refine WQ.st (fun _ _ kz => pw_o2i wX12_areBoth lX12_413 rfl dX12_noHeard_15 hF.1 (k15) rfl (Nat.le_of_ble_eq_true rfl) (Nat.le_of_ble_eq_true rfl) kz) ?_
    refine WQ.bn (fun _ _ ka kb => pw_if_ne (tgt := 24) dX12_noHeard_18 (by decide) ka kb) (fun c18 => ?_) (fun c18 => ?_)
    · rw [bI_n] at c18
      have hb18 := Bool.and_eq_true _ _ |>.mp c18
      have hp5 := hD.p5
      have hn4 := hD.n4
      have g1p := isP_t hb18.1
      have g2q := isQ_t hb18.2
      obtain ⟨p, ep, tp, lp⟩ := nI_get g1p.1 g1p.2 (by omega)
      obtain ⟨q, eq, tq, lq⟩ := nI_get g2q.1 g2q.2 (by omega)
      have hp : p < 5 := by omega
      have hq : q < 4 := by omega
      
      refine WQ.st (fun _ _ kz => pw_aload0 dX12_noHeard_24 kz) ?_
      refine WQ.st (fun _ _ kz => pw_iload1 dX12_noHeard_25 kz) ?_
      obtain ⟨_, _, k26, rfl, rfl⟩ := c_noTray (d := d + 1) (P := P) (S := S) (G := G) (V := V) (A := A) (B := B) (Q := Q) (t := t) (sl := sl) hF x
      refine WQ.st (fun _ _ kz => pw_o1i wX12_noTray lX12_388 rfl dX12_noHeard_26 hF.1 (k26) rfl (Nat.le_of_ble_eq_true rfl) (Nat.le_of_ble_eq_true rfl) kz) ?_
      refine WQ.st (fun _ _ kz => pw_istore4 dX12_noHeard_29 (by decide) (k := kz)) ?_
      refine WQ.st (fun _ _ kz => pw_iload4 dX12_noHeard_31 kz) ?_
      refine WQ.br (fun _ _ ka kb => pw_if_eq (tgt := 39) dX12_noHeard_33 (by decide) ka kb) (fun c33 => ?_) (fun c33 => ?_)
      · obtain ⟨tr, et, tt, lt⟩ := nI_get (x := x) (n := 4) (by omega) (by omega) (by decide)
        have htr : tr < 4 := by omega
        rw [et, ep, eq]
        refine WQ.st (fun _ _ kz => pw_aload0 dX12_noHeard_39 kz) ?_
        refine WQ.st (fun _ _ kz => pw_getr gX12_79 dX12_noHeard_40 hF.1 (mf_p37 hF) kz) ?_
        refine WQ.st (fun _ _ kz => pw_iload1 dX12_noHeard_43 kz) ?_
        refine WQ.st (fun _ _ kz => pw_ald (j := tr) dX12_noHeard_44 (mf_s21 hF) (ix_m rfl (by omega)) (by omega) kz) ?_
        refine WQ.st (fun _ _ kz => pw_aload0 dX12_noHeard_45 kz) ?_
        refine WQ.st (fun _ _ kz => pw_getr gX12_13 dX12_noHeard_46 hF.1 (mf_p1 hF) kz) ?_
        refine WQ.st (fun _ _ kz => pw_bipush (v := 10) dX12_noHeard_49 (by decide) kz) ?_
        refine WQ.st (fun _ _ kz => pw_iload3 dX12_noHeard_51 kz) ?_
        refine WQ.st (fun _ _ kz => pw_iadd dX12_noHeard_52 kz) ?_
        refine WQ.st (fun _ _ kz => pw_ald (j := 10 + q) dX12_noHeard_53 (mf_s1 hF) (by simp (disch := omega) only [nl_10, nI_add, pk_mul, pk_sub]; exact ix_m (by omega) (by omega)) (by omega) kz) ?_
        refine WQ.br (fun _ _ ka kb => pw_icmp_eq (tgt := 61) dX12_noHeard_54 (by decide) ka kb) (fun c54 => ?_) (fun c54 => ?_)
        · refine WQ.st (fun _ _ kz => pw_iconst (v := 0) dX12_noHeard_61 (by decide) kz) ?_
          refine WQ.st (fun _ _ kz => pw_istore5 dX12_noHeard_62 (by decide) (k := kz)) ?_
          refine (l_noHeard (d := d + 1) (P := P) (S := S) (G := G) (V := V) (A := A) (B := B) (Q := Q) (t := t) (sl := sl) hF htr (n := lgN (A (o + 1)) q) (by have := (hD.lgE hq).2; omega) (by rw [c54]; exact (hD.lgE hq).1) (x2 := nI p) (x3 := nI q) _ 0 _ (Nat.zero_add _)).imp (fun r h' zz => ?_)
          obtain ⟨rfl, rfl⟩ := zz
          have c0 : sp_nh (A (o + 1)) (A (o + 20)) (A (o + 21)) (B (o + 22)) x.toInt y.toInt z.toInt = nhL (fun k => (B (o + 22) (40 * tr + k)).toInt) (lgN (A (o + 1)) q) 0 := by unfold sp_nh; rw [decide_eq_true c9, c18, if_pos (by rfl), if_pos c33, tt, tq, Int.toNat_natCast, Int.toNat_natCast, if_pos c54]
          rw [← et, ← ep, ← eq, c0]
          exact ⟨rfl, rfl⟩
        · refine WQ.st (fun _ _ kz => pw_ldcw kX12_473 dX12_noHeard_57 kz) ?_
          refine ⟨_, _, pw_iret dX12_noHeard_60 rfl rfl rfl rfl, ?_⟩
          have c0 : sp_nh (A (o + 1)) (A (o + 20)) (A (o + 21)) (B (o + 22)) x.toInt y.toInt z.toInt = -99000004 := by unfold sp_nh; rw [decide_eq_true c9, c18, if_pos (by rfl), if_pos c33, tt, tq, Int.toNat_natCast, Int.toNat_natCast, if_neg c54]
          rw [← et, ← ep, ← eq, c0]
          exact ⟨rfl, rfl⟩
      · refine WQ.st (fun _ _ kz => pw_iload4 dX12_noHeard_36 kz) ?_
        refine ⟨_, _, pw_iret dX12_noHeard_38 rfl rfl rfl rfl, ?_⟩
        have c0 : sp_nh (A (o + 1)) (A (o + 20)) (A (o + 21)) (B (o + 22)) x.toInt y.toInt z.toInt = sp_nt (A (o + 20)) x.toInt := by unfold sp_nh; rw [decide_eq_true c9, c18, if_pos (by rfl), if_neg c33]
        rw [c0]
        exact ⟨rfl, rfl⟩
    · rw [bI_0] at c18
      refine WQ.st (fun _ _ kz => pw_ldc kX12_247 dX12_noHeard_21 kz) ?_
      refine ⟨_, _, pw_iret dX12_noHeard_23 rfl rfl rfl rfl, ?_⟩
      have c0 : sp_nh (A (o + 1)) (A (o + 20)) (A (o + 21)) (B (o + 22)) x.toInt y.toInt z.toInt = -99000002 := by unfold sp_nh; rw [c18, Bool.and_false, if_neg (by decide)]
      rw [c0]
      exact ⟨rfl, rfl⟩
theorem nh_0 {al so mn : Nat → Int32} (hD : DV al) {nb : Nat → Int64} {x y z : Int32} (h : sp_nh al so mn nb x.toInt y.toInt z.toInt = 0) : ∃ tr p q : Nat, x = nI tr ∧ x.toInt = (tr : Int) ∧ tr < 4 ∧ y = nI p ∧ y.toInt = (p : Int) ∧ p < 5 ∧ z = nI q ∧ z.toInt = (q : Int) ∧ q < 4 ∧ mn tr = nI (lgN al q) ∧ (∀ k, k < lgN al q → isD (nb (40 * tr + k)).toInt = true ∨ (nb (40 * tr + k)).toInt = 9) ∧ isP al y.toInt = true ∧ isQ al z.toInt = true := by
  unfold sp_nh at h
  by_cases e : (decide (0 ≤ x.toInt ∧ x.toInt ≤ 3) && (isP al y.toInt && isQ al z.toInt)) = true
  · rw [if_pos e] at h
    rw [Bool.and_eq_true, Bool.and_eq_true, decide_eq_true_eq] at e
    by_cases e2 : sp_nt so x.toInt = 0
    · rw [if_pos e2] at h
      by_cases e3 : mn x.toInt.toNat = al (10 + z.toInt.toNat)
      · rw [if_pos e3] at h
        have g1 := isP_t e.2.1
        have g2 := isQ_t e.2.2
        have hp5 := hD.p5
        have hn4 := hD.n4
        refine ⟨x.toInt.toNat, y.toInt.toNat, z.toInt.toNat, nI_ofI e.1.1, by omega, by omega, nI_ofI g1.1, by omega, by omega, nI_ofI g2.1, by omega, by omega, ?_, fun k hk => nhL_0 _ 0 h k (Nat.zero_le k) (by omega), e.2.1, e.2.2⟩
        rw [e3]
        exact (hD.lgE (by omega)).1
      · rw [if_neg e3] at h
        exact absurd h (by decide)
    · rw [if_neg e2] at h
      exact absurd h e2
  · rw [if_neg e] at h
    exact absurd h (by decide)
/-- what was heard, as it is told of the bars -/
def hdF (nb : Nat → Int64) (tr : Nat) : Nat → Int32 := fun b => (nb (40 * tr + b)).toInt32
def hdN (al : Nat → Int32) (p q : Nat) (f : Nat → Int32) (e : Int) : Nat := if e = 99 then sm (fun s => mnC al p q (rf_k f 0) s) 41 else mnC al p q (rf_k f 0) (e + 20).toNat
def hdV (al : Nat → Int32) (p q : Nat) (f : Nat → Int32) (e : Int) (b : Nat) (w : Int32) : Nat := if w = 9 then hdN al p q f e else if f b ≠ 9 ∧ f b ≠ w then 0 else hdN al p q (pm_up f b w) e
theorem hdN_le (al : Nat → Int32) (p q : Nat) (f : Nat → Int32) (e : Int) (h : lgN al q ≤ 12) : hdN al p q f e ≤ 50048828125 := by
  unfold hdN
  by_cases q : e = 99
  · rw [if_pos q]
    exact Nat.le_trans (sm_le (m := 1220703125) (fun i => mnC_le _ _ _ _ _ h) 41) (by decide)
  · rw [if_neg q]
    exact Nat.le_trans (mnC_le _ _ _ _ _ h) (by decide)
theorem rf_k_at {f g : Nat → Int32} {ap : Int32} {b w : Nat} (h : f b = g b) : rf_k f ap b w = rf_k g ap b w := by
  unfold rf_k
  rw [h]
set_option maxRecDepth 20000 in
theorem l_heardBy {G : gT} {d : Nat} {S : sS} {V : sV} {P : sP} {B : sB} {Q : sP} {t sl o : Nat} (hF : MF S P o) {tr n : Nat} (htr : tr < 4) (hn12 : n ≤ 12) {A0 : sV} (hn : A0 (o + 21) tr = nI n) {x2 x3 x4 x5 x6 : Int32} {Z : Option Value → Ph → Prop} (kf : ∀ A : sV, (∀ a, a ≠ o + 10 → A a = A0 a) → (∀ i, i < n → A (o + 10) i = hdF (B (o + 22)) tr i) → WQ G d mX12_heardBy 44 [some (.ref o), some (.int (nI tr)), some (.int x2), some (.int x3), some (.int x4), some (.int x5), some (.int x6), some (.int (nI n)), none, none] [] (t, sl, gh S V P A B Q) Z) : ∀ (m k : Nat) (A : sV), k + m = n → (∀ a, a ≠ o + 10 → A a = A0 a) → (∀ i, i < k → A (o + 10) i = hdF (B (o + 22)) tr i) → WQ G d mX12_heardBy 7 [some (.ref o), some (.int (nI tr)), some (.int x2), some (.int x3), some (.int x4), some (.int x5), some (.int x6), some (.int (nI k)), none, none] [] (t, sl, gh S V P A B Q) Z := by
  intro m
  induction m with
  | zero =>
    intro k A hk h1 h2
    have hn1 : A (o + 21) tr = nI n := by rw [h1 _ (by omega)]; exact hn
    have hk : k = n := hk
    subst hk
    refine WQ.st (fun _ _ kz => pw_iload7 dX12_heardBy_7 kz) ?_
    refine WQ.st (fun _ _ kz => pw_aload0 dX12_heardBy_9 kz) ?_
    refine WQ.st (fun _ _ kz => pw_getr gX12_79 dX12_heardBy_10 hF.1 (mf_p37 hF) kz) ?_
    refine WQ.st (fun _ _ kz => pw_iload1 dX12_heardBy_13 kz) ?_
    refine WQ.st (fun _ _ kz => pw_ald (j := tr) dX12_heardBy_14 (mf_s21 hF) (ix_m rfl (by omega)) (by omega) kz) ?_
    rw [hn1]
    refine WQ.br (fun _ _ ka kb => pw_icmp_ge (tgt := 44) dX12_heardBy_15 (by decide) ka kb) (fun c15 => ?_) (fun c15 => absurd (Int32.le_refl _) c15)
    exact kf A h1 h2
  | succ m ih =>
    intro k A hk h1 h2
    have hn1 : A (o + 21) tr = nI n := by rw [h1 _ (by omega)]; exact hn
    refine WQ.st (fun _ _ kz => pw_iload7 dX12_heardBy_7 kz) ?_
    refine WQ.st (fun _ _ kz => pw_aload0 dX12_heardBy_9 kz) ?_
    refine WQ.st (fun _ _ kz => pw_getr gX12_79 dX12_heardBy_10 hF.1 (mf_p37 hF) kz) ?_
    refine WQ.st (fun _ _ kz => pw_iload1 dX12_heardBy_13 kz) ?_
    refine WQ.st (fun _ _ kz => pw_ald (j := tr) dX12_heardBy_14 (mf_s21 hF) (ix_m rfl (by omega)) (by omega) kz) ?_
    rw [hn1]
    refine WQ.br (fun _ _ ka kb => pw_icmp_ge (tgt := 44) dX12_heardBy_15 (by decide) ka kb) (fun c15 => absurd c15 (by rw [le_i (ix_n (j := n) (by omega)) (ix_n (j := k) (by omega))]; omega)) (fun c15 => ?_)
    refine WQ.st (fun _ _ kz => pw_aload0 dX12_heardBy_18 kz) ?_
    refine WQ.st (fun _ _ kz => pw_getr gX12_45 dX12_heardBy_19 hF.1 (mf_p23 hF) kz) ?_
    refine WQ.st (fun _ _ kz => pw_iload7 dX12_heardBy_22 kz) ?_
    refine WQ.st (fun _ _ kz => pw_aload0 dX12_heardBy_24 kz) ?_
    refine WQ.st (fun _ _ kz => pw_getr gX12_82 dX12_heardBy_25 hF.1 (mf_p38 hF) kz) ?_
    refine WQ.st (fun _ _ kz => pw_bipush (v := 40) dX12_heardBy_28 (by decide) kz) ?_
    refine WQ.st (fun _ _ kz => pw_iload1 dX12_heardBy_30 kz) ?_
    refine WQ.st (fun _ _ kz => pw_imul dX12_heardBy_31 kz) ?_
    refine WQ.st (fun _ _ kz => pw_iload7 dX12_heardBy_32 kz) ?_
    refine WQ.st (fun _ _ kz => pw_iadd dX12_heardBy_34 kz) ?_
    refine WQ.st (fun _ _ kz => pw_lld (j := 40 * tr + k) dX12_heardBy_35 (mf_s22 hF) (by simp (disch := omega) only [nl_40, nI_add, pk_mul, pk_sub]; exact ix_m (by omega) (by omega)) (by omega) kz) ?_
    refine WQ.st (fun _ _ kz => pw_l2i dX12_heardBy_36 kz) ?_
    refine WQ.st (fun _ _ kz => pw_ast (j := k) dX12_heardBy_37 (mf_s10 hF) (ix_m rfl (by omega)) (by omega)  kz) ?_
    refine WQ.st (fun _ _ kz => pw_iinc7 (v := 1) dX12_heardBy_38 (by decide) (by decide) (k := kz)) ?_
    refine WQ.st (fun _ _ kz => pw_goto (tgt := 7) dX12_heardBy_41 (by decide) kz) ?_
    rw [nI_1]
    refine ih (k + 1) _ (by omega) (fun a ha => by rw [up2_na ha]; exact h1 a ha) (fun i hi => ?_)
    rw [up2_at]
    unfold pm_up
    by_cases e : i = k
    · rw [if_pos e, e]
      rfl
    · rw [if_neg e]
      exact h2 i (by omega)
set_option maxRecDepth 20000 in
theorem l_heardS {G : gT} {d : Nat} {S : sS} {V : sV} {P : sP} {A : sV} {B : sB} {Q : sP} {t sl o : Nat} (hF : MF S P o) {c : Nat → Nat → Nat} (hB : ∀ l s, l < 5 → s < 41 → B (o + 12) (l * 41 + s) = lN (c l s)) {x1 x2 x3 x4 x5 x6 : Int32} : ∀ (j s a : Nat), s + j = 41 → PW G (d + 2) mX12_heardBy 113 [some (.ref o), some (.int x1), some (.int x2), some (.int x3), some (.int x4), some (.int x5), some (.int x6), some (.long (lN a)), none, some (.int (sI s))] [] (t, sl, gh S V P A B Q) (some (.long (lN (a + sm (fun i => sm (fun l => c l (s + i)) 5) j)))) (t, sl, gh S V P A B Q) := by
  intro j
  induction j with
  | zero =>
    intro s a hs
    have hs : s = 41 := hs
    subst hs
    rw [show sm (fun i => sm (fun l => c l (41 + i)) 5) 0 = 0 from rfl, Nat.add_zero]
    refine pw_iload9 dX12_heardBy_113 ?_
    refine pw_bipush (v := 20) dX12_heardBy_115 (by decide) ?_
    refine pw_icmp_gt (tgt := 137) dX12_heardBy_117 (by decide) (fun c117 => ?_) (fun c117 => absurd (by decide) c117)
    refine pw_lload7 dX12_heardBy_137 ?_
    exact pw_lret dX12_heardBy_139 rfl rfl rfl
  | succ j ih =>
    intro s a hs
    have kk := ih (s + 1) (a + sm (fun l => c l s) 5) (by omega)
    have hm : sm (fun i => sm (fun l => c l (s + i)) 5) (j + 1) = sm (fun l => c l s) 5 + sm (fun i => sm (fun l => c l (s + 1 + i)) 5) j := by
      rw [sm_shift]
      congr 1
      refine sm_cong j (fun i _ => ?_)
      rw [show s + (i + 1) = s + 1 + i by omega]
    rw [hm, ← Nat.add_assoc]
    refine pw_iload9 dX12_heardBy_113 ?_
    refine pw_bipush (v := 20) dX12_heardBy_115 (by decide) ?_
    refine pw_icmp_gt (tgt := 137) dX12_heardBy_117 (by decide) (fun c117 => absurd c117 (by rw [lt_i (show (20 : Int32).toInt = 20 by decide) (sI_t (by omega))]; omega)) (fun c117 => ?_)
    refine pw_lload7 dX12_heardBy_120 ?_
    refine pw_aload0 dX12_heardBy_122 ?_
    refine pw_iload9 dX12_heardBy_123 ?_
    refine pw_o1i wX12_endsWith lX12_443 rfl dX12_heardBy_125 hF.1 (q_endsWith hF hB (show s < 41 by omega)) rfl (Nat.le_of_ble_eq_true rfl) (Nat.le_of_ble_eq_true rfl) ?_
    refine pw_ladd dX12_heardBy_128 ?_
    refine pw_lstore7 dX12_heardBy_129 (by decide) (k := ?_)
    refine pw_iinc9 (v := 1) dX12_heardBy_131 (by decide) (by decide) (k := ?_)
    refine pw_goto (tgt := 113) dX12_heardBy_134 (by decide) ?_
    rw [sI_1, lN_add]
    exact kk
set_option maxRecDepth 20000 in
theorem c_heard86 {G : gT} {d : Nat} {S : sS} {V : sV} {P : sP} {A : sV} {B : sB} {Q : sP} {t sl o : Nat} (hF : MF S P o) {al : Nat → Int32} (hal : A (o + 1) = al) (hD : DV al) (hK : KV (al 2).toInt (fun k => al (75 + k))) {p q : Nat} (hp : p < 5) (hq : q < 4) {f : Nat → Int32} (h24 : V o 24 = 0) (hf : ∀ b, b < lgN al q → A (o + 10) b = f b) {e : Int32} (hE : isS e.toInt = true ∨ e.toInt = 99) {x1 x5 x6 : Int32} {x7 : Option Value} : WQ G (d + 7) mX12_heardBy 86 [some (.ref o), some (.int x1), some (.int (nI p)), some (.int (nI q)), some (.int e), some (.int x5), some (.int x6), x7, none, none] [] (t, sl, gh S V P A B Q) (fun r h' => r = some (.long (lN (hdN al p q f e.toInt))) ∧ ∃ (A' : sV) (B' : sB), h' = (t, sl, gh S V P A' B' Q) ∧ (∀ a, a < o + 5 ∨ o + 7 < a → A' a = A a) ∧ FB o B B') := by
  refine WQ.st (fun _ _ kz => pw_aload0 dX12_heardBy_86 kz) ?_
  refine WQ.st (fun _ _ kz => pw_iload2 dX12_heardBy_87 kz) ?_
  refine WQ.st (fun _ _ kz => pw_iload3 dX12_heardBy_88 kz) ?_
  obtain ⟨A2, B2, k2, m1, m2, m3⟩ := q_laysMany (d := d) (P := P) (S := S) (G := G) (V := V) (A := A) (B := B) (Q := Q) (t := t) (sl := sl) hF (by rw [hal]; exact hD) (by rw [hal]; exact hK) hp hq (kp := rf_k f 0) (fun b w hb hw => by
    rw [h24]
    rw [hal] at hb
    exact rf_k_at (hf b hb))
  rw [hal] at m3
  refine WQ.st (fun _ _ kz => pw_o2v wX12_laysMany lX12_440 rfl dX12_heardBy_89 hF.1 (k2) rfl (Nat.le_of_ble_eq_true rfl) (Nat.le_of_ble_eq_true rfl) kz) ?_
  refine WQ.st (fun _ _ kz => pw_iload4 dX12_heardBy_92 kz) ?_
  refine WQ.st (fun _ _ kz => pw_bipush (v := 99) dX12_heardBy_94 (by decide) kz) ?_
  refine WQ.br (fun _ _ ka kb => pw_icmp_eq (tgt := 106) dX12_heardBy_96 (by decide) ka kb) (fun c96 => ?_) (fun c96 => ?_)
  · refine WQ.st (fun _ _ kz => pw_lconst (v := 0) dX12_heardBy_106 (by decide) kz) ?_
    rw [show (0 : Int64) = lN 0 from rfl]
    refine WQ.st (fun _ _ kz => pw_lstore7 dX12_heardBy_107 (by decide) (k := kz)) ?_
    
    refine WQ.st (fun _ _ kz => pw_bipush (v := -20) dX12_heardBy_109 (by decide) kz) ?_
    rw [show (-20 : Int32) = sI 0 from rfl]
    refine WQ.st (fun _ _ kz => pw_istore9 dX12_heardBy_111 (by decide) (k := kz)) ?_
    have k9 := l_heardS (d := d + 5) (P := P) (S := S) (G := G) (V := V) (A := A2) (B := B2) (Q := Q) (t := t) (sl := sl) hF m3 (x1 := x1) (x2 := nI p) (x3 := nI q) (x4 := e) (x5 := x5) (x6 := x6) 41 0 0 rfl
    rw [Nat.zero_add] at k9
    refine ⟨_, _, k9, rL ?_, A2, B2, rfl, m1, m2⟩
    unfold hdN
    rw [if_pos (show e.toInt = 99 by rw [c96]; rfl)]
    exact congrArg lN (sm_cong 41 (fun i _ => by rw [Nat.zero_add]; rfl))
  · obtain ⟨s, es, ts, hs⟩ := isS_get (hE.resolve_right (i32_ne (z := 99) rfl c96))
    rw [es]
    refine WQ.st (fun _ _ kz => pw_aload0 dX12_heardBy_99 kz) ?_
    refine WQ.st (fun _ _ kz => pw_iload4 dX12_heardBy_100 kz) ?_
    refine WQ.st (fun _ _ kz => pw_o1i wX12_endsWith lX12_443 rfl dX12_heardBy_102 hF.1 (q_endsWith hF m3 hs) rfl (Nat.le_of_ble_eq_true rfl) (Nat.le_of_ble_eq_true rfl) kz) ?_
    refine ⟨_, _, pw_lret dX12_heardBy_105 rfl rfl rfl, ?_⟩
    refine ⟨rL ?_, A2, B2, rfl, m1, m2⟩
    unfold hdN
    rw [← es, if_neg (i32_ne (z := 99) rfl c96), ts, show ((s : Int) - 20 + 20).toNat = s by omega]
    rfl
