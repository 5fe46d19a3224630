set_option maxRecDepth 20000 in
theorem l_laysMany1 {G : gT} {d : Nat} {S : sS} {V : sV} {P : sP} {A : sV} {Q : sP} {t sl o : Nat} (hF : MF S P o) {p q n s0 : Nat} {Bz : sB} (hn12 : n ≤ 12) (hin : ∀ b l s w, b < n → l < 5 → s < 41 → w < 5 → rT (A (o + 7)) b l s w ≠ (-268435456) → rf_in s w = true) {b : Nat} (hb : b < n) {B0 : sB} {c : Nat → Nat → Nat} (hc : ∀ l s, c l s ≤ 244140625) (hB0 : ∀ l s, l < 5 → s < 41 → B0 (o + 12) (l * 41 + s) = lN (c l s)) {l s : Nat} (hl : l < 5) (hs : s < 41) (kf0 : ∀ (B : sB) (x6 : Option Value), MPm o B0 (rT (A (o + 7))) (rf_k (A (o + 10)) (V o 24)) b c l (s + 1) 0 B → ∃ F : sB, PW G (d + 6) mX12_laysMany 167 [some (.ref o), some (.int (nI p)), some (.int (nI q)), some (.int (nI b)), some (.int (dI l)), some (.int (sI s)), x6] [] (t, sl, gh S V P A B Q) none (t, sl, gh S V P A F Q) ∧ ((∀ a, a ≠ o + 12 → a ≠ o + 13 → F a = Bz a) ∧ ∀ l s, l < 5 → s < 41 → F (o + 12) (l * 41 + s) = lN (rf_c (rT (A (o + 7))) (rf_k (A (o + 10)) (V o 24)) s0 n l s))) : ∀ (k w : Nat) (B : sB), w + k = 5 → MPm o B0 (rT (A (o + 7))) (rf_k (A (o + 10)) (V o 24)) b c l s w B → ∃ F : sB, PW G (d + 6) mX12_laysMany 81 [some (.ref o), some (.int (nI p)), some (.int (nI q)), some (.int (nI b)), some (.int (dI l)), some (.int (sI s)), some (.int (dI w))] [] (t, sl, gh S V P A B Q) none (t, sl, gh S V P A F Q) ∧ ((∀ a, a ≠ o + 12 → a ≠ o + 13 → F a = Bz a) ∧ ∀ l s, l < 5 → s < 41 → F (o + 12) (l * 41 + s) = lN (rf_c (rT (A (o + 7))) (rf_k (A (o + 10)) (V o 24)) s0 n l s)) := by
  intro k
  induction k with
  | zero =>
    intro w B hw hG
    have hw : w = 5 := hw
    subst hw
    obtain ⟨F, kf, hF2⟩ := kf0 B (some (.int (dI 5))) hG.row
    refine ⟨F, ?_, hF2⟩
    refine pw_iload6 dX12_laysMany_81 ?_
    refine pw_iconst (v := 2) dX12_laysMany_83 (by decide) ?_
    refine pw_icmp_gt (tgt := 167) dX12_laysMany_84 (by decide) (fun c84 => ?_) (fun c84 => absurd (by rw [lt_i li_2 (dI_t (by omega))]; omega) c84)
    exact kf
  | succ k ih =>
    intro w B hw hG
    have e12 : B (o + 12) (l * 41 + s) = lN (c l s) := by rw [hG.1 _ (by omega)]; exact hB0 l s hl hs
    have hcl := hc l s
    by_cases h0 : c l s = 0
    · obtain ⟨F, kf, hF2⟩ := kf0 B (some (.int (dI w))) (hG.none h0)
      refine ⟨F, ?_, hF2⟩
      refine pw_iload6 dX12_laysMany_81 ?_
      refine pw_iconst (v := 2) dX12_laysMany_83 (by decide) ?_
      refine pw_icmp_gt (tgt := 167) dX12_laysMany_84 (by decide) (fun c84 => absurd c84 (by rw [lt_i li_2 (dI_t (by omega))]; omega)) (fun c84 => ?_)
      refine pw_aload0 dX12_laysMany_87 ?_
      refine pw_getr gX12_51 dX12_laysMany_88 hF.1 (mf_p28 hF) ?_
      refine pw_iload4 dX12_laysMany_91 ?_
      refine pw_iload5 dX12_laysMany_93 ?_
      refine pw_s2i wX12_mark lX12_427 dX12_laysMany_95 (c_markI l s) rfl (Nat.le_of_ble_eq_true rfl) (Nat.le_of_ble_eq_true rfl) ?_
      refine pw_lld (j := l * 41 + s) dX12_laysMany_98 (mf_s12 hF) (ix_m rfl (by omega)) (by omega) ?_
      rw [e12]
      refine pw_lconst (v := 0) dX12_laysMany_99 (by decide) ?_
      refine pw_lcmp dX12_laysMany_100 ?_
      refine pw_if_le (tgt := 167) dX12_laysMany_101 (by decide) (fun c101 => ?_) (fun c101 => absurd (by rw [lg_cmp_le, show (0 : Int64) = lN 0 from rfl, lN_le (by omega) (by decide)]; omega) c101)
      exact kf
    · cases hk : (rf_k (A (o + 10)) (V o 24)) b w with
      | false =>
        obtain ⟨F, kk, hF2⟩ := ih (w + 1) B (by omega) (hG.skip (fun t _ _ => by unfold ctr; rw [if_neg (by rw [hk]; intro q; exact absurd q.2.2.1 (by decide))]))
        refine ⟨F, ?_, hF2⟩
        refine pw_iload6 dX12_laysMany_81 ?_
        refine pw_iconst (v := 2) dX12_laysMany_83 (by decide) ?_
        refine pw_icmp_gt (tgt := 167) dX12_laysMany_84 (by decide) (fun c84 => absurd c84 (by rw [lt_i li_2 (dI_t (by omega))]; omega)) (fun c84 => ?_)
        refine pw_aload0 dX12_laysMany_87 ?_
        refine pw_getr gX12_51 dX12_laysMany_88 hF.1 (mf_p28 hF) ?_
        refine pw_iload4 dX12_laysMany_91 ?_
        refine pw_iload5 dX12_laysMany_93 ?_
        refine pw_s2i wX12_mark lX12_427 dX12_laysMany_95 (c_markI l s) rfl (Nat.le_of_ble_eq_true rfl) (Nat.le_of_ble_eq_true rfl) ?_
        refine pw_lld (j := l * 41 + s) dX12_laysMany_98 (mf_s12 hF) (ix_m rfl (by omega)) (by omega) ?_
        rw [e12]
        refine pw_lconst (v := 0) dX12_laysMany_99 (by decide) ?_
        refine pw_lcmp dX12_laysMany_100 ?_
        refine pw_if_le (tgt := 167) dX12_laysMany_101 (by decide) (fun c101 => absurd c101 (by rw [lg_cmp_le, show (0 : Int64) = lN 0 from rfl, lN_le (by omega) (by decide)]; omega)) (fun c101 => ?_)
        refine pw_aload0 dX12_laysMany_104 ?_
        refine pw_iload3 dX12_laysMany_105 ?_
        refine pw_iload6 dX12_laysMany_106 ?_
        refine pw_o2i wX12_isKept lX12_277 rfl dX12_laysMany_108 hF.1 (c_isKept hF (show b < 12 by omega)) rfl (Nat.le_of_ble_eq_true rfl) (Nat.le_of_ble_eq_true rfl) ?_
        refine pw_if_eq (tgt := 161) dX12_laysMany_111 (by decide) (fun c111 => ?_) (fun c111 => absurd (bI_0.mpr hk) c111)
        refine pw_iinc6 (v := 1) dX12_laysMany_161 (by decide) (by decide) (k := ?_)
        refine pw_goto (tgt := 81) dX12_laysMany_164 (by decide) ?_
        rw [dI_1]
        exact kk
      | true =>
      by_cases hT : (rT (A (o + 7))) b l s w = (-268435456)
      · obtain ⟨F, kk, hF2⟩ := ih (w + 1) B (by omega) (hG.skip (fun t ht _ => by unfold ctr; rw [if_neg (by rw [show t + w - 2 = s by omega]; intro q; exact q.2.2.2 hT)]))
        refine ⟨F, ?_, hF2⟩
        refine pw_iload6 dX12_laysMany_81 ?_
        refine pw_iconst (v := 2) dX12_laysMany_83 (by decide) ?_
        refine pw_icmp_gt (tgt := 167) dX12_laysMany_84 (by decide) (fun c84 => absurd c84 (by rw [lt_i li_2 (dI_t (by omega))]; omega)) (fun c84 => ?_)
        refine pw_aload0 dX12_laysMany_87 ?_
        refine pw_getr gX12_51 dX12_laysMany_88 hF.1 (mf_p28 hF) ?_
        refine pw_iload4 dX12_laysMany_91 ?_
        refine pw_iload5 dX12_laysMany_93 ?_
        refine pw_s2i wX12_mark lX12_427 dX12_laysMany_95 (c_markI l s) rfl (Nat.le_of_ble_eq_true rfl) (Nat.le_of_ble_eq_true rfl) ?_
        refine pw_lld (j := l * 41 + s) dX12_laysMany_98 (mf_s12 hF) (ix_m rfl (by omega)) (by omega) ?_
        rw [e12]
        refine pw_lconst (v := 0) dX12_laysMany_99 (by decide) ?_
        refine pw_lcmp dX12_laysMany_100 ?_
        refine pw_if_le (tgt := 167) dX12_laysMany_101 (by decide) (fun c101 => absurd c101 (by rw [lg_cmp_le, show (0 : Int64) = lN 0 from rfl, lN_le (by omega) (by decide)]; omega)) (fun c101 => ?_)
        refine pw_aload0 dX12_laysMany_104 ?_
        refine pw_iload3 dX12_laysMany_105 ?_
        refine pw_iload6 dX12_laysMany_106 ?_
        refine pw_o2i wX12_isKept lX12_277 rfl dX12_laysMany_108 hF.1 (c_isKept hF (show b < 12 by omega)) rfl (Nat.le_of_ble_eq_true rfl) (Nat.le_of_ble_eq_true rfl) ?_
        refine pw_if_eq (tgt := 161) dX12_laysMany_111 (by decide) (fun c111 => absurd c111 (bI_n.mpr hk)) (fun c111 => ?_)
        refine pw_aload0 dX12_laysMany_114 ?_
        refine pw_iload3 dX12_laysMany_115 ?_
        refine pw_iload4 dX12_laysMany_116 ?_
        refine pw_iload5 dX12_laysMany_118 ?_
        refine pw_iload6 dX12_laysMany_120 ?_
        refine pw_o4i wX12_gladAt lX12_280 rfl dX12_laysMany_122 hF.1 (c_gladAt hF (show b < 12 by omega) hl hs (show w < 5 by omega)) rfl (Nat.le_of_ble_eq_true rfl) (Nat.le_of_ble_eq_true rfl) ?_
        refine pw_ldcw kX12_273 dX12_laysMany_125 ?_
        refine pw_icmp_eq (tgt := 161) dX12_laysMany_128 (by decide) (fun c128 => ?_) (fun c128 => absurd hT c128)
        refine pw_iinc6 (v := 1) dX12_laysMany_161 (by decide) (by decide) (k := ?_)
        refine pw_goto (tgt := 81) dX12_laysMany_164 (by decide) ?_
        rw [dI_1]
        exact kk
      · have hi := hin b l s w hb hl hs (by omega) hT
        obtain ⟨F, kk, hF2⟩ := ih (w + 1) _ (by omega) (hG.add (by omega) hs hi hk hT rfl)
        refine ⟨F, ?_, hF2⟩
        unfold rf_in at hi
        simp only [decide_eq_true_eq] at hi
        have hsw := hi.1
        refine pw_iload6 dX12_laysMany_81 ?_
        refine pw_iconst (v := 2) dX12_laysMany_83 (by decide) ?_
        refine pw_icmp_gt (tgt := 167) dX12_laysMany_84 (by decide) (fun c84 => absurd c84 (by rw [lt_i li_2 (dI_t (by omega))]; omega)) (fun c84 => ?_)
        refine pw_aload0 dX12_laysMany_87 ?_
        refine pw_getr gX12_51 dX12_laysMany_88 hF.1 (mf_p28 hF) ?_
        refine pw_iload4 dX12_laysMany_91 ?_
        refine pw_iload5 dX12_laysMany_93 ?_
        refine pw_s2i wX12_mark lX12_427 dX12_laysMany_95 (c_markI l s) rfl (Nat.le_of_ble_eq_true rfl) (Nat.le_of_ble_eq_true rfl) ?_
        refine pw_lld (j := l * 41 + s) dX12_laysMany_98 (mf_s12 hF) (ix_m rfl (by omega)) (by omega) ?_
        rw [e12]
        refine pw_lconst (v := 0) dX12_laysMany_99 (by decide) ?_
        refine pw_lcmp dX12_laysMany_100 ?_
        refine pw_if_le (tgt := 167) dX12_laysMany_101 (by decide) (fun c101 => absurd c101 (by rw [lg_cmp_le, show (0 : Int64) = lN 0 from rfl, lN_le (by omega) (by decide)]; omega)) (fun c101 => ?_)
        refine pw_aload0 dX12_laysMany_104 ?_
        refine pw_iload3 dX12_laysMany_105 ?_
        refine pw_iload6 dX12_laysMany_106 ?_
        refine pw_o2i wX12_isKept lX12_277 rfl dX12_laysMany_108 hF.1 (c_isKept hF (show b < 12 by omega)) rfl (Nat.le_of_ble_eq_true rfl) (Nat.le_of_ble_eq_true rfl) ?_
        refine pw_if_eq (tgt := 161) dX12_laysMany_111 (by decide) (fun c111 => absurd c111 (bI_n.mpr hk)) (fun c111 => ?_)
        refine pw_aload0 dX12_laysMany_114 ?_
        refine pw_iload3 dX12_laysMany_115 ?_
        refine pw_iload4 dX12_laysMany_116 ?_
        refine pw_iload5 dX12_laysMany_118 ?_
        refine pw_iload6 dX12_laysMany_120 ?_
        refine pw_o4i wX12_gladAt lX12_280 rfl dX12_laysMany_122 hF.1 (c_gladAt hF (show b < 12 by omega) hl hs (show w < 5 by omega)) rfl (Nat.le_of_ble_eq_true rfl) (Nat.le_of_ble_eq_true rfl) ?_
        refine pw_ldcw kX12_273 dX12_laysMany_125 ?_
        refine pw_icmp_eq (tgt := 161) dX12_laysMany_128 (by decide) (fun c128 => absurd c128 hT) (fun c128 => ?_)
        refine pw_aload0 dX12_laysMany_131 ?_
        refine pw_getr gX12_55 dX12_laysMany_132 hF.1 (mf_p29 hF) ?_
        refine pw_iload6 dX12_laysMany_135 ?_
        refine pw_iload5 dX12_laysMany_137 ?_
        refine pw_iload6 dX12_laysMany_139 ?_
        refine pw_isub dX12_laysMany_141 ?_
        rw [sw_I hsw]
        refine pw_s2i wX12_mark lX12_427 dX12_laysMany_142 (c_markI w (s + 2 - w)) rfl (Nat.le_of_ble_eq_true rfl) (Nat.le_of_ble_eq_true rfl) ?_
        refine pw_dup2_11 dX12_laysMany_145 rfl rfl ?_
        refine pw_lld (j := w * 41 + (s + 2 - w)) dX12_laysMany_146 (mf_s13 hF) (ix_m rfl (by omega)) (by omega) ?_
        refine pw_aload0 dX12_laysMany_147 ?_
        refine pw_getr gX12_51 dX12_laysMany_148 hF.1 (mf_p28 hF) ?_
        refine pw_iload4 dX12_laysMany_151 ?_
        refine pw_iload5 dX12_laysMany_153 ?_
        refine pw_s2i wX12_mark lX12_427 dX12_laysMany_155 (c_markI l s) rfl (Nat.le_of_ble_eq_true rfl) (Nat.le_of_ble_eq_true rfl) ?_
        refine pw_lld (j := l * 41 + s) dX12_laysMany_158 (mf_s12 hF) (ix_m rfl (by omega)) (by omega) ?_
        rw [e12]
        refine pw_ladd dX12_laysMany_159 ?_
        refine pw_lst (j := w * 41 + (s + 2 - w)) dX12_laysMany_160 (mf_s13 hF) (ix_m rfl (by omega)) (by omega)  ?_
        refine pw_iinc6 (v := 1) dX12_laysMany_161 (by decide) (by decide) (k := ?_)
        refine pw_goto (tgt := 81) dX12_laysMany_164 (by decide) ?_
        rw [dI_1]
        exact kk
set_option maxRecDepth 20000 in
theorem l_laysMany2 {G : gT} {d : Nat} {S : sS} {V : sV} {P : sP} {A : sV} {Q : sP} {t sl o : Nat} (hF : MF S P o) {p q n s0 : Nat} {Bz : sB} (hn12 : n ≤ 12) (hin : ∀ b l s w, b < n → l < 5 → s < 41 → w < 5 → rT (A (o + 7)) b l s w ≠ (-268435456) → rf_in s w = true) {b : Nat} (hb : b < n) {B0 : sB} {c : Nat → Nat → Nat} (hc : ∀ l s, c l s ≤ 244140625) (hB0 : ∀ l s, l < 5 → s < 41 → B0 (o + 12) (l * 41 + s) = lN (c l s)) {l : Nat} (hl : l < 5) (kf0 : ∀ (B : sB) (x5 x6 : Option Value), MPm o B0 (rT (A (o + 7))) (rf_k (A (o + 10)) (V o 24)) b c (l + 1) 0 0 B → ∃ F : sB, PW G (d + 6) mX12_laysMany 173 [some (.ref o), some (.int (nI p)), some (.int (nI q)), some (.int (nI b)), some (.int (dI l)), x5, x6] [] (t, sl, gh S V P A B Q) none (t, sl, gh S V P A F Q) ∧ ((∀ a, a ≠ o + 12 → a ≠ o + 13 → F a = Bz a) ∧ ∀ l s, l < 5 → s < 41 → F (o + 12) (l * 41 + s) = lN (rf_c (rT (A (o + 7))) (rf_k (A (o + 10)) (V o 24)) s0 n l s))) : ∀ (k s : Nat) (B : sB) (x6 : Option Value), s + k = 41 → MPm o B0 (rT (A (o + 7))) (rf_k (A (o + 10)) (V o 24)) b c l s 0 B → ∃ F : sB, PW G (d + 6) mX12_laysMany 70 [some (.ref o), some (.int (nI p)), some (.int (nI q)), some (.int (nI b)), some (.int (dI l)), some (.int (sI s)), x6] [] (t, sl, gh S V P A B Q) none (t, sl, gh S V P A F Q) ∧ ((∀ a, a ≠ o + 12 → a ≠ o + 13 → F a = Bz a) ∧ ∀ l s, l < 5 → s < 41 → F (o + 12) (l * 41 + s) = lN (rf_c (rT (A (o + 7))) (rf_k (A (o + 10)) (V o 24)) s0 n l s)) := by
  intro k
  induction k with
  | zero =>
    intro s B x6 hs hG
    have hs : s = 41 := hs
    subst hs
    obtain ⟨F, kf, hF2⟩ := kf0 B (some (.int (sI 41))) x6 hG.last
    refine ⟨F, ?_, hF2⟩
    refine pw_iload5 dX12_laysMany_70 ?_
    refine pw_bipush (v := 20) dX12_laysMany_72 (by decide) ?_
    refine pw_icmp_gt (tgt := 173) dX12_laysMany_74 (by decide) (fun c74 => ?_) (fun c74 => absurd (by rw [lt_i li_20 (sI_t (by omega))]; omega) c74)
    exact kf
  | succ k ih =>
    intro s B x6 hs hG
    obtain ⟨F, kk, hF2⟩ := l_laysMany1 (G := G) (d := d) (V := V) (A := A) (Q := Q) (t := t) (sl := sl) (p := p) (q := q) (s0 := s0) (Bz := Bz) hF hn12 hin hb hc hB0 hl (show s < 41 by omega) (fun B1 x6 h1 => by
      obtain ⟨F, kk, hF2⟩ := ih (s + 1) B1 x6 (by omega) h1
      refine ⟨F, ?_, hF2⟩
      refine pw_iinc5 (v := 1) dX12_laysMany_167 (by decide) (by decide) (k := ?_)
      refine pw_goto (tgt := 70) dX12_laysMany_170 (by decide) ?_
      rw [sI_1]
      exact kk) 5 0 B rfl hG
    refine ⟨F, ?_, hF2⟩
    refine pw_iload5 dX12_laysMany_70 ?_
    refine pw_bipush (v := 20) dX12_laysMany_72 (by decide) ?_
    refine pw_icmp_gt (tgt := 173) dX12_laysMany_74 (by decide) (fun c74 => absurd c74 (by rw [lt_i li_20 (sI_t (by omega))]; omega)) (fun c74 => ?_)
    refine pw_bipush (v := -2) dX12_laysMany_77 (by decide) ?_
    rw [show (-2 : Int32) = dI 0 from rfl]
    refine pw_istore6 dX12_laysMany_79 (by decide) (k := ?_)
    exact kk
set_option maxRecDepth 20000 in
theorem l_laysMany3 {G : gT} {d : Nat} {S : sS} {V : sV} {P : sP} {A : sV} {Q : sP} {t sl o : Nat} (hF : MF S P o) {p q n s0 : Nat} {Bz : sB} (hn12 : n ≤ 12) (hin : ∀ b l s w, b < n → l < 5 → s < 41 → w < 5 → rT (A (o + 7)) b l s w ≠ (-268435456) → rf_in s w = true) {b : Nat} (hb : b < n) {B0 : sB} {c : Nat → Nat → Nat} (hc : ∀ l s, c l s ≤ 244140625) (hB0 : ∀ l s, l < 5 → s < 41 → B0 (o + 12) (l * 41 + s) = lN (c l s)) (kf0 : ∀ (B : sB) (x5 x6 : Option Value), MPm o B0 (rT (A (o + 7))) (rf_k (A (o + 10)) (V o 24)) b c 5 0 0 B → ∃ F : sB, PW G (d + 6) mX12_laysMany 179 [some (.ref o), some (.int (nI p)), some (.int (nI q)), some (.int (nI b)), some (.int (dI 5)), x5, x6] [] (t, sl, gh S V P A B Q) none (t, sl, gh S V P A F Q) ∧ ((∀ a, a ≠ o + 12 → a ≠ o + 13 → F a = Bz a) ∧ ∀ l s, l < 5 → s < 41 → F (o + 12) (l * 41 + s) = lN (rf_c (rT (A (o + 7))) (rf_k (A (o + 10)) (V o 24)) s0 n l s))) : ∀ (k l : Nat) (B : sB) (x5 x6 : Option Value), l + k = 5 → MPm o B0 (rT (A (o + 7))) (rf_k (A (o + 10)) (V o 24)) b c l 0 0 B → ∃ F : sB, PW G (d + 6) mX12_laysMany 60 [some (.ref o), some (.int (nI p)), some (.int (nI q)), some (.int (nI b)), some (.int (dI l)), x5, x6] [] (t, sl, gh S V P A B Q) none (t, sl, gh S V P A F Q) ∧ ((∀ a, a ≠ o + 12 → a ≠ o + 13 → F a = Bz a) ∧ ∀ l s, l < 5 → s < 41 → F (o + 12) (l * 41 + s) = lN (rf_c (rT (A (o + 7))) (rf_k (A (o + 10)) (V o 24)) s0 n l s)) := by
  intro k
  induction k with
  | zero =>
    intro l B x5 x6 hl hG
    have hl : l = 5 := hl
    subst hl
    obtain ⟨F, kf, hF2⟩ := kf0 B x5 x6 hG
    refine ⟨F, ?_, hF2⟩
    refine pw_iload4 dX12_laysMany_60 ?_
    refine pw_iconst (v := 2) dX12_laysMany_62 (by decide) ?_
    refine pw_icmp_gt (tgt := 179) dX12_laysMany_63 (by decide) (fun c63 => ?_) (fun c63 => absurd (by rw [lt_i li_2 (dI_t (by omega))]; omega) c63)
    exact kf
  | succ k ih =>
    intro l B x5 x6 hl hG
    obtain ⟨F, kk, hF2⟩ := l_laysMany2 (G := G) (d := d) (V := V) (A := A) (Q := Q) (t := t) (sl := sl) (p := p) (q := q) (s0 := s0) (Bz := Bz) hF hn12 hin hb hc hB0 (show l < 5 by omega) (fun B1 x5 x6 h1 => by
      obtain ⟨F, kk, hF2⟩ := ih (l + 1) B1 x5 x6 (by omega) h1
      refine ⟨F, ?_, hF2⟩
      refine pw_iinc4 (v := 1) dX12_laysMany_173 (by decide) (by decide) (k := ?_)
      refine pw_goto (tgt := 60) dX12_laysMany_176 (by decide) ?_
      rw [dI_1]
      exact kk) 41 0 B x6 rfl hG
    refine ⟨F, ?_, hF2⟩
    refine pw_iload4 dX12_laysMany_60 ?_
    refine pw_iconst (v := 2) dX12_laysMany_62 (by decide) ?_
    refine pw_icmp_gt (tgt := 179) dX12_laysMany_63 (by decide) (fun c63 => absurd c63 (by rw [lt_i li_2 (dI_t (by omega))]; omega)) (fun c63 => ?_)
    refine pw_bipush (v := -20) dX12_laysMany_66 (by decide) ?_
    rw [show (-20 : Int32) = sI 0 from rfl]
    refine pw_istore5 dX12_laysMany_68 (by decide) (k := ?_)
    exact kk
set_option maxRecDepth 20000 in
theorem l_laysMany4 {G : gT} {d : Nat} {S : sS} {V : sV} {P : sP} {A : sV} {Q : sP} {t sl o : Nat} (hF : MF S P o) {p q n s0 : Nat} {Bz : sB} (hn12 : n ≤ 12) (hin : ∀ b l s w, b < n → l < 5 → s < 41 → w < 5 → rT (A (o + 7)) b l s w ≠ (-268435456) → rf_in s w = true) (hq : q < 4) (hn : A (o + 1) (10 + q) = nI n) : ∀ (k b : Nat) (B : sB) (x4 x5 x6 : Option Value), b + k = n → (∀ a, a ≠ o + 12 → a ≠ o + 13 → B a = Bz a) → (∀ l s, l < 5 → s < 41 → B (o + 12) (l * 41 + s) = lN (rf_c (rT (A (o + 7))) (rf_k (A (o + 10)) (V o 24)) s0 b l s)) → (∀ i, i < 205 → B (o + 13) i = 0) → ∃ F : sB, PW G (d + 6) mX12_laysMany 43 [some (.ref o), some (.int (nI p)), some (.int (nI q)), some (.int (nI b)), x4, x5, x6] [] (t, sl, gh S V P A B Q) none (t, sl, gh S V P A F Q) ∧ ((∀ a, a ≠ o + 12 → a ≠ o + 13 → F a = Bz a) ∧ ∀ l s, l < 5 → s < 41 → F (o + 12) (l * 41 + s) = lN (rf_c (rT (A (o + 7))) (rf_k (A (o + 10)) (V o 24)) s0 n l s)) := by
  intro k
  induction k with
  | zero =>
    intro b B x4 x5 x6 hb h1 h2 h3
    have hb : b = n := hb
    subst hb
    refine ⟨B, ?_, h1, h2⟩
    refine pw_iload3 dX12_laysMany_43 ?_
    refine pw_aload0 dX12_laysMany_44 ?_
    refine pw_getr gX12_13 dX12_laysMany_45 hF.1 (mf_p1 hF) ?_
    refine pw_bipush (v := 10) dX12_laysMany_48 (by decide) ?_
    refine pw_iload2 dX12_laysMany_50 ?_
    refine pw_iadd dX12_laysMany_51 ?_
    refine pw_ald (j := 10 + q) dX12_laysMany_52 (mf_s1 hF) (by simp (disch := omega) only [nl_10, nI_add, pk_mul, pk_sub]; exact ix_m (by omega) (by omega)) (by omega) ?_
    rw [hn]
    refine pw_icmp_ge (tgt := 189) dX12_laysMany_53 (by decide) (fun c53 => ?_) (fun c53 => absurd (Int32.le_refl _) c53)
    exact pw_vret dX12_laysMany_189 rfl rfl rfl
  | succ k ih =>
    intro b B x4 x5 x6 hb h1 h2 h3
    have hc : ∀ l s, rf_c (rT (A (o + 7))) (rf_k (A (o + 10)) (V o 24)) s0 b l s ≤ 244140625 := fun l s => Nat.le_trans (rf_c_le _ _ _ b l s) (p5_12 (by omega))
    obtain ⟨F, kk, hF2⟩ := l_laysMany3 (G := G) (d := d) (V := V) (A := A) (Q := Q) (t := t) (sl := sl) (p := p) (q := q) (s0 := s0) (Bz := Bz) hF hn12 hin (show b < n by omega) hc h2 (fun B1 x5 x6 g1 => by
      obtain ⟨B2, k1, f1, f2⟩ := c_isThen (G := G) (d := d + 5) (V := V) (A := A) (B := B1) (Q := Q) (t := t) (sl := sl) hF
      obtain ⟨F, kk, hF2⟩ := ih (b + 1) B2 (some (.int (dI 5))) x5 x6 (by omega) (fun a h12 h13 => by rw [f1 a h12 h13, g1.1 a h13]; exact h1 a h12 h13) (fun l s hl hs => by
        rw [(f2 _ (by omega)).1, g1.2 l s hl hs]
        congr 1
        rw [rf_c]
        have e2 : (if s + l < 0 + 2 ∨ (s + l = 0 + 2 ∧ l < 0) then ctr (rT (A (o + 7))) (rf_k (A (o + 10)) (V o 24)) b (rf_c (rT (A (o + 7))) (rf_k (A (o + 10)) (V o 24)) s0 b) 5 l s else 0) = 0 := by
          by_cases q : s + l < 2
          · rw [if_pos (by omega)]
            unfold ctr
            rw [if_neg (by omega)]
          · rw [if_neg (by omega)]
        rw [e2, Nat.add_zero]) (fun i hi => (f2 i hi).2)
      refine ⟨F, ?_, hF2⟩
      refine pw_aload0 dX12_laysMany_179 ?_
      refine pw_o0v wX12_isThen lX12_433 rfl dX12_laysMany_180 hF.1 (k1) rfl (Nat.le_of_ble_eq_true rfl) (Nat.le_of_ble_eq_true rfl) ?_
      refine pw_iinc3 (v := 1) dX12_laysMany_183 (by decide) (by decide) (k := ?_)
      refine pw_goto (tgt := 43) dX12_laysMany_186 (by decide) ?_
      rw [nI_1]
      exact kk) 5 0 B x5 x6 rfl ⟨fun _ _ => rfl, fun w t hw ht => by
      rw [h3 _ (by omega)]
      have e2 : (if t + w < 0 + 2 ∨ (t + w = 0 + 2 ∧ w < 0) then ctr (rT (A (o + 7))) (rf_k (A (o + 10)) (V o 24)) b (rf_c (rT (A (o + 7))) (rf_k (A (o + 10)) (V o 24)) s0 b) 0 w t else 0) = 0 := by
        by_cases q : t + w < 2
        · rw [if_pos (by omega)]
          unfold ctr
          rw [if_neg (by omega)]
        · rw [if_neg (by omega)]
      rw [e2]
      rfl⟩
    refine ⟨F, ?_, hF2⟩
    refine pw_iload3 dX12_laysMany_43 ?_
    refine pw_aload0 dX12_laysMany_44 ?_
    refine pw_getr gX12_13 dX12_laysMany_45 hF.1 (mf_p1 hF) ?_
    refine pw_bipush (v := 10) dX12_laysMany_48 (by decide) ?_
    refine pw_iload2 dX12_laysMany_50 ?_
    refine pw_iadd dX12_laysMany_51 ?_
    refine pw_ald (j := 10 + q) dX12_laysMany_52 (mf_s1 hF) (by simp (disch := omega) only [nl_10, nI_add, pk_mul, pk_sub]; exact ix_m (by omega) (by omega)) (by omega) ?_
    rw [hn]
    refine pw_icmp_ge (tgt := 189) dX12_laysMany_53 (by decide) (fun c53 => absurd c53 (by rw [le_i (ix_n (j := n) (by omega)) (ix_n (j := b) (by omega))]; omega)) (fun c53 => ?_)
    refine pw_bipush (v := -2) dX12_laysMany_56 (by decide) ?_
    rw [show (-2 : Int32) = dI 0 from rfl]
    refine pw_istore4 dX12_laysMany_58 (by decide) (k := ?_)
    exact kk
set_option maxRecDepth 20000 in
theorem l_laysMany0 {G : gT} {d : Nat} {S : sS} {V : sV} {P : sP} {A : sV} {Q : sP} {t sl o : Nat} (hF : MF S P o) {p q : Nat} {X : sB → Prop} {B0 : sB} (kf0 : ∀ B : sB, (∀ a, a ≠ o + 13 → B a = B0 a) → (∀ i, i < 205 → B (o + 13) i = 0) → ∃ F : sB, PW G d mX12_laysMany 41 [some (.ref o), some (.int (nI p)), some (.int (nI q)), some (.int (nI 205)), none, none, none] [] (t, sl, gh S V P A B Q) none (t, sl, gh S V P A F Q) ∧ X F) : ∀ (m k : Nat) (B : sB), k + m = 205 → (∀ a, a ≠ o + 13 → B a = B0 a) → (∀ i, i < k → B (o + 13) i = 0) → ∃ F : sB, PW G d mX12_laysMany 21 [some (.ref o), some (.int (nI p)), some (.int (nI q)), some (.int (nI k)), none, none, none] [] (t, sl, gh S V P A B Q) none (t, sl, gh S V P A F Q) ∧ X F := by
  intro m
  induction m with
  | zero =>
    intro k B hk h1 h2
    have hk : k = 205 := hk
    subst hk
    obtain ⟨F, kf, hX⟩ := kf0 B h1 h2
    refine ⟨F, ?_, hX⟩
    refine pw_iload3 dX12_laysMany_21 ?_
    refine pw_sipush (v := 205) dX12_laysMany_22 (by decide) ?_
    refine pw_icmp_ge (tgt := 41) dX12_laysMany_25 (by decide) (fun c25 => ?_) (fun c25 => absurd (by decide) c25)
    exact kf
  | succ m ih =>
    intro k B hk h1 h2
    obtain ⟨F, kk, hX⟩ := ih (k + 1) (up2 B (o + 13) k 0) (by omega) (fun a ha => by rw [up2_na ha]; exact h1 a ha) (fun i hi => by
      rw [up2_at]
      unfold pm_up
      by_cases e : i = k
      · rw [if_pos e]
      · rw [if_neg e]
        exact h2 i (by omega))
    refine ⟨F, ?_, hX⟩
    refine pw_iload3 dX12_laysMany_21 ?_
    refine pw_sipush (v := 205) dX12_laysMany_22 (by decide) ?_
    refine pw_icmp_ge (tgt := 41) dX12_laysMany_25 (by decide) (fun c25 => absurd c25 (by rw [le_i li_205 (ix_n (j := k) (by omega))]; omega)) (fun c25 => ?_)
    refine pw_aload0 dX12_laysMany_28 ?_
    refine pw_getr gX12_55 dX12_laysMany_29 hF.1 (mf_p29 hF) ?_
    refine pw_iload3 dX12_laysMany_32 ?_
    refine pw_lconst (v := 0) dX12_laysMany_33 (by decide) ?_
    refine pw_lst (j := k) dX12_laysMany_34 (mf_s13 hF) (ix_m rfl (by omega)) (by omega)  ?_
    refine pw_iinc3 (v := 1) dX12_laysMany_35 (by decide) (by decide) (k := ?_)
    refine pw_goto (tgt := 21) dX12_laysMany_38 (by decide) ?_
    rw [nI_1]
    exact kk
theorem rf_c_cong {T T' : Nat → Nat → Nat → Nat → Int32} {kp : Nat → Nat → Bool} {s0 n : Nat} (hT : ∀ b l s w, b < n → l < 5 → s < 41 → w < 5 → T b l s w = T' b l s w) : ∀ b, b ≤ n → ∀ l s, l < 5 → s < 41 → rf_c T kp s0 b l s = rf_c T' kp s0 b l s
  | 0, _, _, _, _, _ => rfl
  | b + 1, hb, w, t, hw, ht => by
    rw [rf_c, rf_c]
    refine sm_cong 5 (fun l hl => ?_)
    unfold ctr
    by_cases q : 2 ≤ t + w ∧ t + w < 43
    · rw [hT b l (t + w - 2) w (by omega) hl (by omega) hw, rf_c_cong hT b (by omega) l (t + w - 2) hl (by omega)]
    · rw [if_neg (fun z => q ⟨z.1, z.2.1⟩), if_neg (fun z => q ⟨z.1, z.2.1⟩)]
set_option maxRecDepth 20000 in
theorem c_laysMany {G : gT} {d : Nat} {S : sS} {V : sV} {P : sP} {A : sV} {B : sB} {Q : sP} {t sl o : Nat} (hF : MF S P o) {p q n s0 : Nat} (hp : p < 5) (hq : q < 4) (hn12 : n ≤ 12) (hn : A (o + 1) (10 + q) = nI n) (hs : A (o + 1) (77 + p) = sI s0) (h0 : s0 < 41) {g m : Option (List Int32)} (hg : LW (A (o + 1)) 0 g) (hm : LW (A (o + 1)) 1 m) : ∃ (A' : sV) (B' : sB), PW G (d + 6) mX12_laysMany 0 [some (.ref o), some (.int (nI p)), some (.int (nI q)), none, none, none, none] [] (t, sl, gh S V P A B Q) none (t, sl, gh S V P A' B' Q) ∧ (∀ a, a < o + 5 ∨ o + 7 < a → A' a = A a) ∧ (∀ a, a ≠ o + 12 → a ≠ o + 13 → B' a = B a) ∧ ∀ l s, l < 5 → s < 41 → B' (o + 12) (l * 41 + s) = lN (rf_c (rf_g (A (o + 1)) g m p q) (rf_k (A (o + 10)) (V o 24)) s0 n l s) := by
  obtain ⟨F1, k1, h2⟩ := c_laysGlads (G := G) (d := d + 1) (V := V) (A := A) (B := B) (Q := Q) (t := t) (sl := sl) hF hp hq hn12 (by rw [hn]; exact ix_n (by omega)) hg hm
  have hGT : ∀ b l s w, b < n → l < 5 → s < 41 → w < 5 → rT (F1 (o + 7)) b l s w = (rf_g (A (o + 1)) g m p q) b l s w := fun b l s w hb hl hs hw => h2.rT hb hl hs hw
  have hin : ∀ b l s w, b < n → l < 5 → s < 41 → w < 5 → rT (F1 (o + 7)) b l s w ≠ (-268435456) → rf_in s w = true := by
    intro b l s w hb hl hs hw h
    rw [hGT b l s w hb hl hs hw] at h
    exact rf_g_in h
  have e1 : F1 (o + 1) = A (o + 1) := h2.1 _ (by omega) (by omega) (by omega)
  have e10 : F1 (o + 10) = A (o + 10) := h2.1 _ (by omega) (by omega) (by omega)
  obtain ⟨R2, k2, hR2⟩ := c_beginsMany (G := G) (d := d + 4) (V := V) (A := F1) (B := B) (Q := Q) (t := t) (sl := sl) hF h0
  obtain ⟨F, kk, hX⟩ := l_laysMany0 (G := G) (d := d + 6) (V := V) (A := F1) (Q := Q) (t := t) (sl := sl) (p := p) (q := q) (X := fun F => (∀ a, a ≠ o + 12 → a ≠ o + 13 → F a = B a) ∧ ∀ l s, l < 5 → s < 41 → F (o + 12) (l * 41 + s) = lN (rf_c (rT (F1 (o + 7))) (rf_k (F1 (o + 10)) (V o 24)) s0 n l s)) (B0 := pm_up B (o + 12) R2) hF (fun B1 g1 g2 => by
    obtain ⟨F, kk, hX⟩ := l_laysMany4 (G := G) (d := d) (V := V) (A := F1) (Q := Q) (t := t) (sl := sl) (p := p) (q := q) (s0 := s0) (Bz := B) hF hn12 hin hq (by rw [e1]; exact hn) n 0 B1 none none none (by omega) (fun a h12 h13 => by rw [g1 a h13, pm_up_ne h12]) (fun l s hl hs => by rw [g1 _ (by omega), pm_up_eq, hR2 l s hl hs]; rfl) g2
    refine ⟨F, ?_, hX⟩
    refine pw_iconst (v := 0) dX12_laysMany_41 (by decide) ?_
    rw [show (0 : Int32) = nI 0 from rfl]
    refine pw_istore3 dX12_laysMany_42 (by decide) (k := ?_)
    exact kk) 205 0 (pm_up B (o + 12) R2) rfl (fun _ _ => rfl) (fun i hi => absurd hi (Nat.not_lt_zero i))
  refine ⟨F1, F, ?_, fun a ha => h2.1 a (by omega) (by omega) (by omega), hX.1, fun l s hl hs => ?_⟩
  · refine pw_aload0 dX12_laysMany_0 ?_
    refine pw_iload1 dX12_laysMany_1 ?_
    refine pw_iload2 dX12_laysMany_2 ?_
    refine pw_o2v wX12_laysGlads lX12_299 rfl dX12_laysMany_3 hF.1 (k1) rfl (Nat.le_of_ble_eq_true rfl) (Nat.le_of_ble_eq_true rfl) ?_
    refine pw_aload0 dX12_laysMany_6 ?_
    refine pw_aload0 dX12_laysMany_7 ?_
    refine pw_getr gX12_13 dX12_laysMany_8 hF.1 (mf_p1 hF) ?_
    refine pw_bipush (v := 77) dX12_laysMany_11 (by decide) ?_
    refine pw_iload1 dX12_laysMany_13 ?_
    refine pw_iadd dX12_laysMany_14 ?_
    refine pw_ald (j := 77 + p) dX12_laysMany_15 (mf_s1 hF) (by simp (disch := omega) only [nl_77, nI_add, pk_mul, pk_sub]; exact ix_m (by omega) (by omega)) (by omega) ?_
    rw [e1, hs]
    refine pw_o1v wX12_beginsMany lX12_430 rfl dX12_laysMany_16 hF.1 (k2) rfl (Nat.le_of_ble_eq_true rfl) (Nat.le_of_ble_eq_true rfl) ?_
    refine pw_iconst (v := 0) dX12_laysMany_19 (by decide) ?_
    rw [show (0 : Int32) = nI 0 from rfl]
    refine pw_istore3 dX12_laysMany_20 (by decide) (k := ?_)
    exact kk
  · rw [hX.2 l s hl hs, e10, rf_c_cong hGT n (Nat.le_refl n) l s hl hs]
