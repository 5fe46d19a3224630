/-! ===== the class: Ways, how many rows ===== -/
def FrW (V A : sV) (B : sB) (V' A' : sV) (B' : sB) : Prop := (∀ x, x ≠ 107 → V' x = V x) ∧ (∀ x, x ≠ 97 → x ≠ 98 → (x < 108 ∨ 113 < x ∨ x = 109) → A' x = A x) ∧ ∀ x, x < 161 → x ≠ 114 → x ≠ 115 → B' x = B x
theorem FrW.rfl {V A : sV} {B : sB} : FrW V A B V A B := ⟨fun _ _ => _root_.rfl, fun _ _ _ _ => _root_.rfl, fun _ _ _ _ => _root_.rfl⟩
theorem FrW.tr {V A V1 A1 V2 A2 : sV} {B B1 B2 : sB} (h : FrW V A B V1 A1 B1) (g : FrW V1 A1 B1 V2 A2 B2) : FrW V A B V2 A2 B2 := ⟨fun x h1 => (g.1 x h1).trans (h.1 x h1), fun x h1 h2 h3 => (g.2.1 x h1 h2 h3).trans (h.2.1 x h1 h2 h3), fun x h1 h2 h3 => (g.2.2 x h1 h2 h3).trans (h.2.2 x h1 h2 h3)⟩
theorem FrG.w {V A : sV} {B : sB} {A' : sV} {B' : sB} (h : FrG A B A' B') : FrW V A B V A' B' := ⟨fun _ _ => _root_.rfl, fun x h1 h2 _ => h.1 x h1 h2, fun x h1 _ _ => h.2 x h1⟩
theorem FrW.v {V A : sV} {B : sB} {k : Nat} {x : Int32} : FrW V A B (up2 V 107 k x) A B := ⟨fun y hy => up2_na hy, fun _ _ _ _ => _root_.rfl, fun _ _ _ _ => _root_.rfl⟩
theorem FrW.a {V A : sV} {B : sB} {a : Nat} {f : Nat → Int32} (h : a = 108 ∨ (110 ≤ a ∧ a ≤ 113)) : FrW V A B V (pm_up A a f) B := ⟨fun _ _ => _root_.rfl, fun y _ _ hy => pm_up_ne (by omega), fun _ _ _ _ => _root_.rfl⟩
theorem FrW.b {V A : sV} {B : sB} {a : Nat} {f : Nat → Int64} (h : a = 114 ∨ a = 115) : FrW V A B V A (pm_up B a f) := ⟨fun _ _ => _root_.rfl, fun _ _ _ _ => _root_.rfl, fun y _ h1 h2 => pm_up_ne (by omega)⟩
/-- the draws that a row of masks allows -/
def kpM (f : Nat → Int32) (b w : Nat) : Bool := inM (f b) (dI w)
theorem acc1 {f : Nat → Int64} {g : Nat → Nat} {j0 x : Nat} (hf : ∀ j, j < 205 → f j = lN (g j)) (h0 : j0 < 205) : ∀ j, j < 205 → pm_up f j0 (f j0 + lN x) j = lN (g j + (if j0 = j then x else 0)) := by
  intro j hj
  unfold pm_up
  by_cases h : j = j0
  · rw [if_pos h, if_pos h.symm, hf j0 h0, lN_add, h]
  · rw [if_neg h, if_neg (fun q => h q.symm), hf j hj, Nat.add_zero]
def RH (P : sP) : Prop := ∃ rh rb : Nat, P 107 9 = some rh ∧ P 107 10 = some rb ∧ ((rh = 114 ∧ rb = 115) ∨ (rh = 115 ∧ rb = 114))
set_option maxRecDepth 20000 in
theorem l_count1 {G : gT} {d : Nat} {S : sS} {V : sV} {P : sP} {Q : sP} {t sl : Nat} {al : Nat → Int32} {sh ls p tm q : Nat} {A0 : sV} {B0 : sB} {rh rb b : Nat} {c : Nat → Nat} {kp : Nat → Nat → Bool} {am : Int32} (h9 : P 107 9 = some rh) (h10 : P 107 10 = some rb) (hrb : (rh = 114 ∧ rb = 115) ∨ (rh = 115 ∧ rb = 114)) (sr9 : S rh = (22, 205)) (sr10 : S rb = (22, 205)) (hb12 : b < 12) (hkp : ∀ w, w < 5 → kp b w = inM am (dI w)) (hc : ∀ j, j < 205 → c j < 9223372036854775808) {i : Nat} (hi : i < 205) (kf : ∀ (A : sV) (B : sB) (x6 : Option Value), KB S V P A B Q t al sh ls p tm q → (∀ j, j < 205 → B rh j = lN (c j)) → (∀ j, j < 205 → B rb j = lN (sm (fun i' => sm (fun w => if tgP (asks al 6) (i' / 5) w = j then c i' * wtC (TT (atm al p tm) p q) kp b (i' % 5) (i' / 5) w else 0) 5) (i + 1))) → FrW V A0 B0 V A B → WQ G (d + 3) mX10_countBar 116 [some (.ref 107), some (.int (nI b)), some (.int am), some (.int (nI i)), some (.int (sI (i / 5))), some (.int (dI (i % 5))), x6] [] (t, sl, gh S V P A B Q) (fun r h' => r = none ∧ ∃ (A' : sV) (B' : sB), h' = (t, sl, gh S V (up2 (up2 P 107 9 (some rb)) 107 10 (some rh)) A' B' Q) ∧ KB S V (up2 (up2 P 107 9 (some rb)) 107 10 (some rh)) A' B' Q t al sh ls p tm q ∧ (∀ j, j < 205 → B' rb j = lN (cstep (wtC (TT (atm al p tm) p q) kp b) (asks al 6) c j)) ∧ FrW V A0 B0 V A' B')) : ∀ (m w : Nat) (A : sV) (B : sB), w + m = 5 → KB S V P A B Q t al sh ls p tm q → (∀ j, j < 205 → B rh j = lN (c j)) → (∀ j, j < 205 → B rb j = lN (sm (fun i' => sm (fun w => if tgP (asks al 6) (i' / 5) w = j then c i' * wtC (TT (atm al p tm) p q) kp b (i' % 5) (i' / 5) w else 0) 5) i + sm (fun w => if tgP (asks al 6) (i / 5) w = j then c i * wtC (TT (atm al p tm) p q) kp b (i % 5) (i / 5) w else 0) w)) → FrW V A0 B0 V A B → WQ G (d + 3) mX10_countBar 33 [some (.ref 107), some (.int (nI b)), some (.int am), some (.int (nI i)), some (.int (sI (i / 5))), some (.int (dI (i % 5))), some (.int (dI w))] [] (t, sl, gh S V P A B Q) (fun r h' => r = none ∧ ∃ (A' : sV) (B' : sB), h' = (t, sl, gh S V (up2 (up2 P 107 9 (some rb)) 107 10 (some rh)) A' B' Q) ∧ KB S V (up2 (up2 P 107 9 (some rb)) 107 10 (some rh)) A' B' Q t al sh ls p tm q ∧ (∀ j, j < 205 → B' rb j = lN (cstep (wtC (TT (atm al p tm) p q) kp b) (asks al 6) c j)) ∧ FrW V A0 B0 V A' B') := by
  have hne : rh ≠ rb := by omega
  intro m
  induction m with
  | zero =>
    intro w A B hw hK hh0 hB hF
    have hw : w = 5 := hw
    subst hw
    refine WQ.st (fun _ _ kz => pw_iload6 dX10_countBar_33 kz) ?_
    refine WQ.st (fun _ _ kz => pw_iconst (v := 2) dX10_countBar_35 (by decide) kz) ?_
    refine WQ.br (fun _ _ ka kb => pw_icmp_gt (tgt := 116) dX10_countBar_36 (by decide) ka kb) (fun c36 => ?_) (fun c36 => absurd (by decide) c36)
    exact kf A B _ hK hh0 hB hF
  | succ m ih =>
    intro w A B hw hK hh0 hB hF
    obtain ⟨hp, ht, hq⟩ := hK.r
    refine WQ.st (fun _ _ kz => pw_iload6 dX10_countBar_33 kz) ?_
    refine WQ.st (fun _ _ kz => pw_iconst (v := 2) dX10_countBar_35 (by decide) kz) ?_
    refine WQ.br (fun _ _ ka kb => pw_icmp_gt (tgt := 116) dX10_countBar_36 (by decide) ka kb) (fun c36 => absurd c36 (by rw [lt_i (show (2 : Int32).toInt = 2 from rfl) (dI_t (q := w) (by omega))]; omega)) (fun c36 => ?_)
    refine WQ.st (fun _ _ kz => pw_aload0 dX10_countBar_39 kz) ?_
    refine WQ.st (fun _ _ kz => pw_getr gX10_38 dX10_countBar_40 (cf_s107 hK.cf) h9 kz) ?_
    refine WQ.st (fun _ _ kz => pw_iload3 dX10_countBar_43 kz) ?_
    refine WQ.st (fun _ _ kz => pw_lld (j := i) dX10_countBar_44 sr9 (ix_m rfl (by omega)) (by omega) kz) ?_
    rw [hh0 i hi]
    refine WQ.st (fun _ _ kz => pw_lconst (v := 0) dX10_countBar_45 (by decide) kz) ?_
    refine WQ.st (fun _ _ kz => pw_lcmp dX10_countBar_46 kz) ?_
    refine WQ.br (fun _ _ ka kb => pw_if_eq (tgt := 116) dX10_countBar_47 (by decide) ka kb) (fun c47 => ?_) (fun c47 => ?_)
    · rw [lg_cmp_eq, show (0 : Int64) = lN 0 from rfl, lN_inj (hc i hi) (by decide)] at c47
      refine kf A B _ hK hh0 (fun j hj => ?_) hF
      have e0 : ∀ n, sm (fun w => if tgP (asks al 6) (i / 5) w = j then c i * wtC (TT (atm al p tm) p q) kp b (i % 5) (i / 5) w else 0) n = 0 := fun n => sm_0 (fun w _ => by rw [c47, Nat.zero_mul]; split <;> rfl)
      rw [hB j hj, sm, e0, e0]
    · rw [lg_cmp_eq, show (0 : Int64) = lN 0 from rfl, lN_inj (hc i hi) (by decide)] at c47
      refine WQ.st (fun _ _ kz => pw_iload2 dX10_countBar_50 kz) ?_
      refine WQ.st (fun _ _ kz => pw_iload6 dX10_countBar_51 kz) ?_
      refine wq_s1i wX11_bitOf lX10_81 dX10_countBar_53 (k_bitOf _) rfl (Nat.le_of_ble_eq_true rfl) (Nat.le_of_ble_eq_true rfl) (fun h53 z53 => ?_)
      subst z53
      refine WQ.st (fun _ _ kz => pw_iand dX10_countBar_56 kz) ?_
      refine WQ.br (fun _ _ ka kb => pw_if_eq (tgt := 110) dX10_countBar_57 (by decide) ka kb) (fun c57 => ?_) (fun c57 => ?_)
      · refine WQ.st (fun _ _ kz => pw_iinc6 (v := 1) dX10_countBar_110 (by decide) (by decide) (k := kz)) ?_
        refine WQ.st (fun _ _ kz => pw_goto (tgt := 33) dX10_countBar_113 (by decide) kz) ?_
        rw [dI_1]
        refine ih (w + 1) A B (by omega) hK hh0 (fun j hj => ?_) hF
        rw [hB j hj, sm, show (if tgP (asks al 6) (i / 5) w = j then c i * wtC (TT (atm al p tm) p q) kp b (i % 5) (i / 5) w else 0) = 0 from by
          have : wtC (TT (atm al p tm) p q) kp b (i % 5) (i / 5) w = 0 := if_neg (fun q => by rw [hkp w (by omega)] at q; exact absurd q.1 (by rw [show inM am (dI w) = false from decide_eq_false (fun q => q c57)]; decide))
          rw [this, Nat.mul_zero]
          split <;> rfl, Nat.add_zero]
      · refine WQ.st (fun _ _ kz => pw_aload0 dX10_countBar_60 kz) ?_
        refine WQ.st (fun _ _ kz => pw_getr gX10_45 dX10_countBar_61 (cf_s107 hK.cf) (cf_p107_4 hK.cf) kz) ?_
        refine WQ.st (fun _ _ kz => pw_iload1 dX10_countBar_64 kz) ?_
        refine WQ.st (fun _ _ kz => pw_iload4 dX10_countBar_65 kz) ?_
        refine WQ.st (fun _ _ kz => pw_iload5 dX10_countBar_67 kz) ?_
        refine WQ.st (fun _ _ kz => pw_iload6 dX10_countBar_69 kz) ?_
        refine wq_o4i wX0_gladAt lX10_84 rfl dX10_countBar_71 (cf_s96 hK.cf) (k_gladAt hK hb12 (by omega) (by omega) (w := w) (by omega)) rfl (Nat.le_of_ble_eq_true rfl) (Nat.le_of_ble_eq_true rfl) (fun h71 z71 => ?_)
        obtain ⟨A1, B1, rfl, hK1, hG1⟩ := z71
        refine WQ.st (fun _ _ kz => pw_ldc kX10_70 dX10_countBar_74 kz) ?_
        refine WQ.br (fun _ _ ka kb => pw_icmp_eq (tgt := 110) dX10_countBar_76 (by decide) ka kb) (fun c76 => ?_) (fun c76 => ?_)
        · rw [cv_not (okv_sml (TT_ok hK.dv hp ht hq hb12 (by omega) (by omega) (by omega)))] at c76
          refine WQ.st (fun _ _ kz => pw_iinc6 (v := 1) dX10_countBar_110 (by decide) (by decide) (k := kz)) ?_
          refine WQ.st (fun _ _ kz => pw_goto (tgt := 33) dX10_countBar_113 (by decide) kz) ?_
          rw [dI_1]
          refine ih (w + 1) A1 B1 (by omega) hK1 (fun j hj => by rw [hG1.2 rh (by omega)]; exact hh0 j hj) (fun j hj => ?_) (hF.tr hG1.w)
          rw [hG1.2 rb (by omega), hB j hj, sm, show (if tgP (asks al 6) (i / 5) w = j then c i * wtC (TT (atm al p tm) p q) kp b (i % 5) (i / 5) w else 0) = 0 from by
            have : wtC (TT (atm al p tm) p q) kp b (i % 5) (i / 5) w = 0 := if_neg (fun q => q.2 c76)
            rw [this, Nat.mul_zero]
            split <;> rfl, Nat.add_zero]
        · rw [cv_not (okv_sml (TT_ok hK.dv hp ht hq hb12 (by omega) (by omega) (by omega)))] at c76
          have hin := TT_in c76
          unfold rf_in at hin
          have hin := of_decide_eq_true hin
          have ht0 := tgP_lt (bl := asks al 6) (show w < 5 by omega) hin
          refine WQ.st (fun _ _ kz => pw_aload0 dX10_countBar_79 kz) ?_
          refine WQ.st (fun _ _ kz => pw_getr gX10_42 dX10_countBar_80 (cf_s107 hK.cf) h10 kz) ?_
          refine WQ.st (fun _ _ kz => pw_iload4 dX10_countBar_83 kz) ?_
          refine WQ.st (fun _ _ kz => pw_iload6 dX10_countBar_85 kz) ?_
          refine WQ.st (fun _ _ kz => pw_isub dX10_countBar_87 kz) ?_
          rw [sw_I hin.1]
          refine WQ.st (fun _ _ kz => pw_aload0 dX10_countBar_88 kz) ?_
          refine WQ.st (fun _ _ kz => pw_getr gX10_45 dX10_countBar_89 (cf_s107 hK.cf) (cf_p107_4 hK.cf) kz) ?_
          refine WQ.st (fun _ _ kz => pw_iload6 dX10_countBar_92 kz) ?_
          refine wq_o1i wX0_lastBehind lX10_88 rfl dX10_countBar_94 (cf_s96 hK.cf) (k_lastBehind hK1.cf hK1.v1 w) rfl (Nat.le_of_ble_eq_true rfl) (Nat.le_of_ble_eq_true rfl) (fun h94 z94 => ?_)
          subst z94
          refine wq_s2i wX0_placeOf lX10_91 dX10_countBar_97 (k_placeOf _ _) rfl (Nat.le_of_ble_eq_true rfl) (Nat.le_of_ble_eq_true rfl) (fun h97 z97 => ?_)
          subst z97
          rw [show (i / 5 + 2 - w) * 5 + lbN (asks al 6) w = tgP (asks al 6) (i / 5) w from rfl]
          refine WQ.st (fun _ _ kz => pw_dup2_11 dX10_countBar_100 rfl rfl kz) ?_
          refine WQ.st (fun _ _ kz => pw_lld (j := (tgP (asks al 6) (i / 5) w)) dX10_countBar_101 sr10 (ix_n (by omega)) (by omega) kz) ?_
          refine WQ.st (fun _ _ kz => pw_aload0 dX10_countBar_102 kz) ?_
          refine WQ.st (fun _ _ kz => pw_getr gX10_38 dX10_countBar_103 (cf_s107 hK.cf) h9 kz) ?_
          refine WQ.st (fun _ _ kz => pw_iload3 dX10_countBar_106 kz) ?_
          refine WQ.st (fun _ _ kz => pw_lld (j := i) dX10_countBar_107 sr9 (ix_m rfl (by omega)) (by omega) kz) ?_
          rw [hG1.2 rh (by omega), hh0 i hi]
          refine WQ.st (fun _ _ kz => pw_ladd dX10_countBar_108 kz) ?_
          refine WQ.st (fun _ _ kz => pw_lst (j := (tgP (asks al 6) (i / 5) w)) dX10_countBar_109 sr10 (ix_n (by omega)) (by omega)  kz) ?_
          refine WQ.st (fun _ _ kz => pw_iinc6 (v := 1) dX10_countBar_110 (by decide) (by decide) (k := kz)) ?_
          refine WQ.st (fun _ _ kz => pw_goto (tgt := 33) dX10_countBar_113 (by decide) kz) ?_
          rw [dI_1]
          refine ih (w + 1) A1 _ (by omega) (hK1.fr (FrK.b (a := rb) (by omega))) (fun j hj => by rw [up2_na hne, hG1.2 rh (by omega)]; exact hh0 j hj) (fun j hj => ?_) ((hF.tr hG1.w).tr (FrW.b (by omega)))
          rw [up2_at, acc1 (x := c i) (g := fun j => sm (fun i' => sm (fun w => if tgP (asks al 6) (i' / 5) w = j then c i' * wtC (TT (atm al p tm) p q) kp b (i' % 5) (i' / 5) w else 0) 5) i + sm (fun w => if tgP (asks al 6) (i / 5) w = j then c i * wtC (TT (atm al p tm) p q) kp b (i % 5) (i / 5) w else 0) w) (fun j hj => by rw [hG1.2 rb (by omega)]; exact hB j hj) ht0 j hj]
          show lN (sm (fun i' => sm (fun w => if tgP (asks al 6) (i' / 5) w = j then c i' * wtC (TT (atm al p tm) p q) kp b (i' % 5) (i' / 5) w else 0) 5) i + sm (fun w => if tgP (asks al 6) (i / 5) w = j then c i * wtC (TT (atm al p tm) p q) kp b (i % 5) (i / 5) w else 0) w + _) = _
          have es : ∀ f : Nat → Nat, sm f (w + 1) = sm f w + f w := fun _ => rfl
          rw [es, show wtC (TT (atm al p tm) p q) kp b (i % 5) (i / 5) w = 1 from if_pos ⟨by rw [hkp w (by omega)]; exact decide_eq_true c57, c76⟩, Nat.mul_one, Nat.add_assoc]
set_option maxRecDepth 20000 in
theorem l_count2 {G : gT} {d : Nat} {S : sS} {V : sV} {P : sP} {Q : sP} {t sl : Nat} {al : Nat → Int32} {sh ls p tm q : Nat} {A0 : sV} {B0 : sB} {rh rb b : Nat} {c : Nat → Nat} {kp : Nat → Nat → Bool} {am : Int32} (h9 : P 107 9 = some rh) (h10 : P 107 10 = some rb) (hrb : (rh = 114 ∧ rb = 115) ∨ (rh = 115 ∧ rb = 114)) (sr9 : S rh = (22, 205)) (sr10 : S rb = (22, 205)) (hb12 : b < 12) (hkp : ∀ w, w < 5 → kp b w = inM am (dI w)) (hc : ∀ j, j < 205 → c j < 9223372036854775808) : ∀ (m i : Nat) (A : sV) (B : sB) (x4 x5 x6 : Option Value), i + m = 205 → KB S V P A B Q t al sh ls p tm q → (∀ j, j < 205 → B rh j = lN (c j)) → (∀ j, j < 205 → B rb j = lN (sm (fun i' => sm (fun w => if tgP (asks al 6) (i' / 5) w = j then c i' * wtC (TT (atm al p tm) p q) kp b (i' % 5) (i' / 5) w else 0) 5) i)) → FrW V A0 B0 V A B → WQ G (d + 3) mX10_countBar 10 [some (.ref 107), some (.int (nI b)), some (.int am), some (.int (nI i)), x4, x5, x6] [] (t, sl, gh S V P A B Q) (fun r h' => r = none ∧ ∃ (A' : sV) (B' : sB), h' = (t, sl, gh S V (up2 (up2 P 107 9 (some rb)) 107 10 (some rh)) A' B' Q) ∧ KB S V (up2 (up2 P 107 9 (some rb)) 107 10 (some rh)) A' B' Q t al sh ls p tm q ∧ (∀ j, j < 205 → B' rb j = lN (cstep (wtC (TT (atm al p tm) p q) kp b) (asks al 6) c j)) ∧ FrW V A0 B0 V A' B') := by
  intro m
  induction m with
  | zero =>
    intro i A B x4 x5 x6 hi hK hh0 hB hF
    have hi : i = 205 := hi
    subst hi
    refine WQ.st (fun _ _ kz => pw_iload3 dX10_countBar_10 kz) ?_
    refine WQ.st (fun _ _ kz => pw_sipush (v := 205) dX10_countBar_11 (by decide) kz) ?_
    refine WQ.br (fun _ _ ka kb => pw_icmp_ge (tgt := 122) dX10_countBar_14 (by decide) ka kb) (fun c14 => ?_) (fun c14 => absurd (by decide) c14)
    refine WQ.st (fun _ _ kz => pw_aload0 dX10_countBar_122 kz) ?_
    refine WQ.st (fun _ _ kz => pw_getr gX10_38 dX10_countBar_123 (cf_s107 hK.cf) h9 kz) ?_
    refine WQ.st (fun _ _ kz => pw_astore3 dX10_countBar_126 (by decide) (k := kz)) ?_
    refine WQ.st (fun _ _ kz => pw_aload0 dX10_countBar_127 kz) ?_
    refine WQ.st (fun _ _ kz => pw_aload0 dX10_countBar_128 kz) ?_
    refine WQ.st (fun _ _ kz => pw_getr gX10_42 dX10_countBar_129 (cf_s107 hK.cf) h10 kz) ?_
    refine WQ.st (fun _ _ kz => pw_putr (pX10_38 _ rfl) dX10_countBar_132 (cf_s107 hK.cf) kz) ?_
    refine WQ.st (fun _ _ kz => pw_aload0 dX10_countBar_135 kz) ?_
    refine WQ.st (fun _ _ kz => pw_aload3 dX10_countBar_136 kz) ?_
    refine WQ.st (fun _ _ kz => pw_putr (pX10_42 _ rfl) dX10_countBar_137 (cf_s107 hK.cf) kz) ?_
    refine ⟨_, _, pw_vret dX10_countBar_140 rfl rfl rfl, ?_⟩
    refine ⟨rfl, A, B, rfl, hK.frP ((hK.cf.up (by decide)).up (by decide)) (fun x _ a1 => by rw [up2_na a1, up2_na a1]), hB, hF⟩
  | succ m ih =>
    intro i A B x4 x5 x6 him hK hh0 hB hF
    refine WQ.st (fun _ _ kz => pw_iload3 dX10_countBar_10 kz) ?_
    refine WQ.st (fun _ _ kz => pw_sipush (v := 205) dX10_countBar_11 (by decide) kz) ?_
    refine WQ.br (fun _ _ ka kb => pw_icmp_ge (tgt := 122) dX10_countBar_14 (by decide) ka kb) (fun c14 => absurd c14 (by rw [show (205 : Int32) = nI 205 from rfl, le_i (ix_n (j := 205) (by omega)) (ix_n (j := i) (by omega))]; omega)) (fun c14 => ?_)
    refine WQ.st (fun _ _ kz => pw_iload3 dX10_countBar_17 kz) ?_
    refine wq_s1i wX0_storeOf lX10_66 dX10_countBar_18 (k_storeOf (by omega)) rfl (Nat.le_of_ble_eq_true rfl) (Nat.le_of_ble_eq_true rfl) (fun h18 z18 => ?_)
    subst z18
    refine WQ.st (fun _ _ kz => pw_istore4 dX10_countBar_21 (by decide) (k := kz)) ?_
    refine WQ.st (fun _ _ kz => pw_iload3 dX10_countBar_23 kz) ?_
    refine wq_s1i wX0_lastOf lX10_101 dX10_countBar_24 (k_lastOf (by omega)) rfl (Nat.le_of_ble_eq_true rfl) (Nat.le_of_ble_eq_true rfl) (fun h24 z24 => ?_)
    subst z24
    refine WQ.st (fun _ _ kz => pw_istore5 dX10_countBar_27 (by decide) (k := kz)) ?_
    refine WQ.st (fun _ _ kz => pw_bipush (v := -2) dX10_countBar_29 (by decide) kz) ?_
    refine WQ.st (fun _ _ kz => pw_istore6 dX10_countBar_31 (by decide) (k := kz)) ?_
    rw [dI_m2]
    refine l_count1 (A0 := A0) (B0 := B0) (kp := kp) h9 h10 hrb sr9 sr10 hb12 hkp hc (by omega) (fun A1 B1 x6 hK1 hh1 hB1 hF1 => ?_) 5 0 A B rfl hK hh0 (fun j hj => by rw [hB j hj]; rfl) hF
    refine WQ.st (fun _ _ kz => pw_iinc3 (v := 1) dX10_countBar_116 (by decide) (by decide) (k := kz)) ?_
    refine WQ.st (fun _ _ kz => pw_goto (tgt := 10) dX10_countBar_119 (by decide) kz) ?_
    rw [nI_1]
    exact ih (i + 1) A1 B1 _ _ _ (by omega) hK1 hh1 hB1 hF1
set_option maxRecDepth 20000 in
theorem k_countBar {G : gT} {d : Nat} {S : sS} {V : sV} {P : sP} {A : sV} {B : sB} {Q : sP} {t sl : Nat} {al : Nat → Int32} {sh ls p tm q : Nat} (hK : KB S V P A B Q t al sh ls p tm q) {rh rb b : Nat} {c : Nat → Nat} {kp : Nat → Nat → Bool} {am : Int32} (h9 : P 107 9 = some rh) (h10 : P 107 10 = some rb) (hrb : (rh = 114 ∧ rb = 115) ∨ (rh = 115 ∧ rb = 114)) (sr9 : S rh = (22, 205)) (sr10 : S rb = (22, 205)) (hb12 : b < 12) (hkp : ∀ w, w < 5 → kp b w = inM am (dI w)) (hc : ∀ j, j < 205 → c j < 9223372036854775808) (hc0 : ∀ j, j < 205 → B rh j = lN (c j)) : WQ G (d + 3) mX10_countBar 0 [some (.ref 107), some (.int (nI b)), some (.int am), none, none, none, none] [] (t, sl, gh S V P A B Q) (fun r h' => r = none ∧ ∃ (A' : sV) (B' : sB), h' = (t, sl, gh S V (up2 (up2 P 107 9 (some rb)) 107 10 (some rh)) A' B' Q) ∧ KB S V (up2 (up2 P 107 9 (some rb)) 107 10 (some rh)) A' B' Q t al sh ls p tm q ∧ (∀ j, j < 205 → B' rb j = lN (cstep (wtC (TT (atm al p tm) p q) kp b) (asks al 6) c j)) ∧ FrW V A B V A' B') := by
  refine WQ.st (fun _ _ kz => pw_aload0 dX10_countBar_0 kz) ?_
  refine WQ.st (fun _ _ kz => pw_getr gX10_42 dX10_countBar_1 (cf_s107 hK.cf) h10 kz) ?_
  refine WQ.st (fun _ _ kz => pw_lconst (v := 0) dX10_countBar_4 (by decide) kz) ?_
  refine WQ.st (fun _ _ kz => pw_s2v wJ7_fill_d0a16 lX10_104 dX10_countBar_5 (c_filll sr10 (by omega) _) rfl (Nat.le_of_ble_eq_true rfl) (Nat.le_of_ble_eq_true rfl) kz) ?_
  refine WQ.st (fun _ _ kz => pw_iconst (v := 0) dX10_countBar_8 (by decide) kz) ?_
  refine WQ.st (fun _ _ kz => pw_istore3 dX10_countBar_9 (by decide) (k := kz)) ?_
  exact l_count2 (A0 := A) (B0 := B) (kp := kp) h9 h10 hrb sr9 sr10 hb12 hkp hc 205 0 A _ none none none rfl (hK.fr (FrK.b (a := rb) (by omega))) (fun j hj => by rw [pm_up_ne (by omega)]; exact hc0 j hj) (fun j hj => by rw [pm_up_eq, fillF_i hj]; rfl) (FrW.b (by omega))
