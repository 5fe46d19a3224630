/-! ===== the class: Ways.spread ===== -/
def HW (P : sP) : Prop := ∃ hh hb : Nat, P 107 7 = some hh ∧ P 107 8 = some hb ∧ ((hh = 112 ∧ hb = 113) ∨ (hh = 113 ∧ hb = 112))
theorem mxo_c {x : Int32} (h : -268435456 ≤ x) : mxo x (-268435456) = x := by
  unfold mxo
  rw [if_neg (Int32.not_lt.mpr h)]
theorem mfo_skip (f : Nat → Int32) (a : Nat) : ∀ m, (∀ k, a ≤ k → k < a + m → f k = -268435456) → mfo f (a + m) = mfo f a
  | 0, _ => rfl
  | m + 1, h => by
    rw [← Nat.add_assoc, mfo, mfo_skip f a m (fun k h1 h2 => h k h1 (by omega)), h (a + m) (by omega) (by omega), mxo_c (mfo_c _ _)]
theorem cv_mx {x z : Int32} (hx : okv x) (hz : okv z) : (if cv x < cv z then cv z else cv x) = cv (mxo x z) := by
  unfold mxo
  by_cases h : x < z
  · rw [if_pos h, if_pos ((cv_lt hx hz).mpr h)]
  · rw [if_neg h, if_neg (fun q => h ((cv_lt hx hz).mp q))]
set_option maxRecDepth 20000 in
theorem l_spread1 {G : gT} {d : Nat} {S : sS} {V : sV} {P : sP} {Q : sP} {t sl : Nat} {al : Nat → Int32} {sh ls p tm q : Nat} {A0 : sV} {B0 : sB} {hh hb b K : Nat} {h : Nat → Int32} (h7 : P 107 7 = some hh) (h8 : P 107 8 = some hb) (hhb : (hh = 112 ∧ hb = 113) ∨ (hh = 113 ∧ hb = 112)) (s7 : S hh = (20, 205)) (s8 : S hb = (20, 205)) (hb12 : b < 12) (hK85 : K ≤ 85) (hh9 : ∀ j, j < 205 → bnd K (h j)) {i : Nat} (hi : i < 205) (kf : ∀ (A : sV) (B : sB) (x5 x6 x7 : Option Value), KB S V P A B Q t al sh ls p tm q → (∀ j, j < 205 → A hh j = cv (h j)) → (∀ j, j < 205 → A hb j = cv (mfo (mtm (TT (atm al p tm) p q) (asks al 6) b h j) ((i + 1) * 5))) → FrW V A0 B0 V A B → WQ G (d + 3) mX10_spreadBar 122 [some (.ref 107), some (.int (nI b)), some (.int (nI i)), some (.int (sI (i / 5))), some (.int (dI (i % 5))), x5, x6, x7] [] (t, sl, gh S V P A B Q) (fun r h' => r = none ∧ ∃ (A' : sV) (B' : sB), h' = (t, sl, gh S V (up2 (up2 P 107 7 (some hb)) 107 8 (some hh)) A' B' Q) ∧ KB S V (up2 (up2 P 107 7 (some hb)) 107 8 (some hh)) A' B' Q t al sh ls p tm q ∧ (∀ j, j < 205 → A' hb j = cv (mstep (TT (atm al p tm) p q) (asks al 6) b h j)) ∧ FrW V A0 B0 V A' B')) : ∀ (m w : Nat) (A : sV) (B : sB) (x6 x7 : Option Value), w + m = 5 → KB S V P A B Q t al sh ls p tm q → (∀ j, j < 205 → A hh j = cv (h j)) → (∀ j, j < 205 → A hb j = cv (mfo (mtm (TT (atm al p tm) p q) (asks al 6) b h j) (i * 5 + w))) → FrW V A0 B0 V A B → WQ G (d + 3) mX10_spreadBar 33 [some (.ref 107), some (.int (nI b)), some (.int (nI i)), some (.int (sI (i / 5))), some (.int (dI (i % 5))), some (.int (dI w)), x6, x7] [] (t, sl, gh S V P A B Q) (fun r h' => r = none ∧ ∃ (A' : sV) (B' : sB), h' = (t, sl, gh S V (up2 (up2 P 107 7 (some hb)) 107 8 (some hh)) A' B' Q) ∧ KB S V (up2 (up2 P 107 7 (some hb)) 107 8 (some hh)) A' B' Q t al sh ls p tm q ∧ (∀ j, j < 205 → A' hb j = cv (mstep (TT (atm al p tm) p q) (asks al 6) b h j)) ∧ FrW V A0 B0 V A' B') := by
  intro m
  induction m with
  | zero =>
    intro w A B x6 x7 hw hK hh0 hB hF
    have hw : w = 5 := hw
    subst hw
    refine WQ.st (fun _ _ kz => pw_iload5 dX10_spreadBar_33 kz) ?_
    refine WQ.st (fun _ _ kz => pw_iconst (v := 2) dX10_spreadBar_35 (by decide) kz) ?_
    refine WQ.br (fun _ _ ka kb => pw_icmp_gt (tgt := 122) dX10_spreadBar_36 (by decide) ka kb) (fun c36 => ?_) (fun c36 => absurd (by decide) c36)
    exact kf A B _ _ _ hK hh0 (fun j hj => by rw [hB j hj, show i * 5 + 5 = (i + 1) * 5 by omega]) hF
  | succ m ih =>
    intro w A B x6 x7 hw hK hh0 hB hF
    obtain ⟨hp, ht, hq⟩ := hK.r
    refine WQ.st (fun _ _ kz => pw_iload5 dX10_spreadBar_33 kz) ?_
    refine WQ.st (fun _ _ kz => pw_iconst (v := 2) dX10_spreadBar_35 (by decide) kz) ?_
    refine WQ.br (fun _ _ ka kb => pw_icmp_gt (tgt := 122) dX10_spreadBar_36 (by decide) ka kb) (fun c36 => absurd c36 (by rw [lt_i (show (2 : Int32).toInt = 2 from rfl) (dI_t (q := w) (by omega))]; omega)) (fun c36 => ?_)
    refine WQ.st (fun _ _ kz => pw_aload0 dX10_spreadBar_39 kz) ?_
    refine WQ.st (fun _ _ kz => pw_getr gX10_32 dX10_spreadBar_40 (cf_s107 hK.cf) h7 kz) ?_
    refine WQ.st (fun _ _ kz => pw_iload2 dX10_spreadBar_43 kz) ?_
    refine WQ.st (fun _ _ kz => pw_ald (j := i) dX10_spreadBar_44 s7 (ix_m rfl (by omega)) (by omega) kz) ?_
    rw [hh0 i hi]
    refine WQ.st (fun _ _ kz => pw_ldc kX10_70 dX10_spreadBar_45 kz) ?_
    refine WQ.br (fun _ _ ka kb => pw_icmp_eq (tgt := 122) dX10_spreadBar_47 (by decide) ka kb) (fun c47 => ?_) (fun c47 => ?_)
    · rw [cv_not ((hh9 i hi).ok (by omega))] at c47
      refine kf A B _ _ _ hK hh0 (fun j hj => ?_) hF
      have hs9 := mfo_skip (mtm (TT (atm al p tm) p q) (asks al 6) b h j) (i * 5 + w) (5 - w) (fun k h1 h2 => by
        unfold mtm
        rw [show k / 5 = i by omega]
        split
        · exact ob_c (Or.inl c47)
        · rfl)
      rw [hB j hj, show (i + 1) * 5 = i * 5 + w + (5 - w) by omega, hs9]
    · rw [cv_not ((hh9 i hi).ok (by omega))] at c47
      refine WQ.st (fun _ _ kz => pw_aload0 dX10_spreadBar_50 kz) ?_
      refine WQ.st (fun _ _ kz => pw_getr gX10_45 dX10_spreadBar_51 (cf_s107 hK.cf) (cf_p107_4 hK.cf) kz) ?_
      refine WQ.st (fun _ _ kz => pw_iload1 dX10_spreadBar_54 kz) ?_
      refine WQ.st (fun _ _ kz => pw_iload3 dX10_spreadBar_55 kz) ?_
      refine WQ.st (fun _ _ kz => pw_iload4 dX10_spreadBar_56 kz) ?_
      refine WQ.st (fun _ _ kz => pw_iload5 dX10_spreadBar_58 kz) ?_
      refine wq_o4i wX0_gladAt lX10_84 rfl dX10_spreadBar_60 (cf_s96 hK.cf) (k_gladAt hK hb12 (by omega) (by omega) (w := w) (by omega)) rfl (Nat.le_of_ble_eq_true rfl) (Nat.le_of_ble_eq_true rfl) (fun h60 z60 => ?_)
      obtain ⟨A1, B1, rfl, hK1, hG1⟩ := z60
      refine WQ.st (fun _ _ kz => pw_istore6 dX10_spreadBar_63 (by decide) (k := kz)) ?_
      refine WQ.st (fun _ _ kz => pw_iload6 dX10_spreadBar_65 kz) ?_
      refine WQ.st (fun _ _ kz => pw_ldc kX10_70 dX10_spreadBar_67 kz) ?_
      refine WQ.br (fun _ _ ka kb => pw_icmp_eq (tgt := 116) dX10_spreadBar_69 (by decide) ka kb) (fun c69 => ?_) (fun c69 => ?_)
      · rw [cv_not (okv_sml (TT_ok hK.dv hp ht hq hb12 (by omega) (by omega) (by omega)))] at c69
        refine WQ.st (fun _ _ kz => pw_iinc5 (v := 1) dX10_spreadBar_116 (by decide) (by decide) (k := kz)) ?_
        refine WQ.st (fun _ _ kz => pw_goto (tgt := 33) dX10_spreadBar_119 (by decide) kz) ?_
        have fw : ∀ j, mtm (TT (atm al p tm) p q) (asks al 6) b h j (i * 5 + w) = -268435456 := by
          intro j
          unfold mtm
          rw [show (i * 5 + w) / 25 = i / 5 by omega, show (i * 5 + w) % 5 = w by omega, show (i * 5 + w) / 5 = i by omega]
          split
          · exact ob_c (Or.inr c69)
          · rfl
        rw [dI_1]
        refine ih (w + 1) A1 B1 _ _ (by omega) hK1 (fun j hj => by rw [hG1.1 hh (by omega) (by omega)]; exact hh0 j hj) (fun j hj => ?_) (hF.tr hG1.w)
        rw [hG1.1 hb (by omega) (by omega), hB j hj, show i * 5 + (w + 1) = i * 5 + w + 1 by omega, mfo, fw, mxo_c (mfo_c _ _)]
      · rw [cv_not (okv_sml (TT_ok hK.dv hp ht hq hb12 (by omega) (by omega) (by omega)))] at c69
        have hin := TT_in c69
        unfold rf_in at hin
        have hin := of_decide_eq_true hin
        have ht0 := tgP_lt (bl := asks al 6) (show w < 5 by omega) hin
        rw [cv_n c69]
        have hTb := bnd_sml (TT_ok hK.dv hp ht hq hb12 (show i % 5 < 5 by omega) (show i / 5 < 41 by omega) (show w < 5 by omega))
        refine WQ.st (fun _ _ kz => pw_iload3 dX10_spreadBar_72 kz) ?_
        refine WQ.st (fun _ _ kz => pw_iload5 dX10_spreadBar_73 kz) ?_
        refine WQ.st (fun _ _ kz => pw_isub dX10_spreadBar_75 kz) ?_
        rw [sw_I hin.1]
        refine WQ.st (fun _ _ kz => pw_aload0 dX10_spreadBar_76 kz) ?_
        refine WQ.st (fun _ _ kz => pw_getr gX10_45 dX10_spreadBar_77 (cf_s107 hK.cf) (cf_p107_4 hK.cf) kz) ?_
        refine WQ.st (fun _ _ kz => pw_iload5 dX10_spreadBar_80 kz) ?_
        refine wq_o1i wX0_lastBehind lX10_88 rfl dX10_spreadBar_82 (cf_s96 hK.cf) (k_lastBehind hK1.cf hK1.v1 w) rfl (Nat.le_of_ble_eq_true rfl) (Nat.le_of_ble_eq_true rfl) (fun h82 z82 => ?_)
        subst z82
        refine wq_s2i wX0_placeOf lX10_91 dX10_spreadBar_85 (k_placeOf _ _) rfl (Nat.le_of_ble_eq_true rfl) (Nat.le_of_ble_eq_true rfl) (fun h85 z85 => ?_)
        subst z85
        rw [show (i / 5 + 2 - w) * 5 + lbN (asks al 6) w = tgP (asks al 6) (i / 5) w from rfl]
        refine WQ.st (fun _ _ kz => pw_istore7 dX10_spreadBar_88 (by decide) (k := kz)) ?_
        refine WQ.st (fun _ _ kz => pw_aload0 dX10_spreadBar_90 kz) ?_
        refine WQ.st (fun _ _ kz => pw_getr gX10_35 dX10_spreadBar_91 (cf_s107 hK.cf) h8 kz) ?_
        refine WQ.st (fun _ _ kz => pw_iload7 dX10_spreadBar_94 kz) ?_
        refine WQ.st (fun _ _ kz => pw_aload0 dX10_spreadBar_96 kz) ?_
        refine WQ.st (fun _ _ kz => pw_getr gX10_35 dX10_spreadBar_97 (cf_s107 hK.cf) h8 kz) ?_
        refine WQ.st (fun _ _ kz => pw_iload7 dX10_spreadBar_100 kz) ?_
        refine WQ.st (fun _ _ kz => pw_ald (j := (tgP (asks al 6) (i / 5) w)) dX10_spreadBar_102 s8 (ix_n (by omega)) (by omega) kz) ?_
        rw [hG1.1 hb (by omega) (by omega), hB _ ht0]
        refine WQ.st (fun _ _ kz => pw_aload0 dX10_spreadBar_103 kz) ?_
        refine WQ.st (fun _ _ kz => pw_getr gX10_32 dX10_spreadBar_104 (cf_s107 hK.cf) h7 kz) ?_
        refine WQ.st (fun _ _ kz => pw_iload2 dX10_spreadBar_107 kz) ?_
        refine WQ.st (fun _ _ kz => pw_ald (j := i) dX10_spreadBar_108 s7 (ix_m rfl (by omega)) (by omega) kz) ?_
        rw [hG1.1 hh (by omega) (by omega), hh0 i hi, cv_n c47]
        refine WQ.st (fun _ _ kz => pw_iload6 dX10_spreadBar_109 kz) ?_
        refine WQ.st (fun _ _ kz => pw_iadd dX10_spreadBar_111 kz) ?_
        refine WQ.st (fun _ _ kz => pw_max mmX10_74 dX10_spreadBar_112 (Nat.le_of_ble_eq_true rfl) (by omega) kz) ?_
        refine WQ.st (fun _ _ kz => pw_ast (j := (tgP (asks al 6) (i / 5) w)) dX10_spreadBar_115 s8 (ix_n (by omega)) (by omega)  kz) ?_
        refine WQ.st (fun _ _ kz => pw_iinc5 (v := 1) dX10_spreadBar_116 (by decide) (by decide) (k := kz)) ?_
        refine WQ.st (fun _ _ kz => pw_goto (tgt := 33) dX10_spreadBar_119 (by decide) kz) ?_
        rw [dI_1]
        refine ih (w + 1) _ B1 _ _ (by omega) (hK1.fr (FrK.a (a := hb) (by omega))) (fun j hj => by rw [up2_na (by omega), hG1.1 hh (by omega) (by omega)]; exact hh0 j hj) (fun j hj => ?_) ((hF.tr hG1.w).tr (FrW.a (by omega)))
        rw [up2_at, show i * 5 + (w + 1) = i * 5 + w + 1 by omega, mfo]
        unfold pm_up
        have ok1 : ∀ j, okv (mfo (mtm (TT (atm al p tm) p q) (asks al 6) b h j) (i * 5 + w)) := fun j => (mfo_bnd (K := K + 1) (fun k hk => by
          unfold mtm
          split
          · exact ob_bnd (hh9 (k / 5) (by omega)) (bnd_sml (TT_ok hK.dv hp ht hq hb12 (by omega) (by omega) (by omega))) (by omega)
          · exact Or.inl rfl)).ok (by omega)
        have ev : mtm (TT (atm al p tm) p q) (asks al 6) b h j (i * 5 + w) = if tgP (asks al 6) (i / 5) w = j then h i + (TT (atm al p tm) p q) b (i % 5) (i / 5) w else -268435456 := by
          unfold mtm
          rw [show (i * 5 + w) / 25 = i / 5 by omega, show (i * 5 + w) % 5 = w by omega, show (i * 5 + w) / 5 = i by omega, ob_n c47 c69]
        by_cases e : j = tgP (asks al 6) (i / 5) w
        · rw [if_pos e, ev, if_pos e.symm]
          have hs9 := bnd_add (hh9 i hi) hTb (by omega) c47 c69
          rw [← cv_mx (ok1 j) (hs9.1.ok (by omega)), cv_sum (hh9 i hi) hTb (by omega) c47 c69, e]
        · rw [if_neg e, ev, if_neg (fun q => e q.symm), mxo_c (mfo_c _ _), hG1.1 hb (by omega) (by omega)]
          exact hB j hj
