set_option maxRecDepth 20000 in
theorem l_settle1 {G : gT} {d : Nat} {S : sS} {V : sV} {P : sP} {Q : sP} {t sl : Nat} {al : Nat → Int32} {sh ls p tm q : Nat} {A0 : sV} {B0 : sB} {lo hi am : Nat} {goal : Int32} (ham : S am = (20, 12)) (ham2 : am = 69 ∨ am = 109) {b s : Nat} (hb : b < (lgN al q)) (hs : s < 41) (hlo : lo ≤ s + 2 * b) (hhi : s ≤ hi + 2 * b) (kf : ∀ (A : sV) (B : sB), KB S V P A B Q t al sh ls p tm q → SP A (TT (atm al p tm) p q) (kpM (A0 am)) (lgN al q) (rf_e goal) (asks al 6) lo hi b s ((l1N (asks al 6) b) + 1) → FrS2 A0 B0 A B → WQ G (d + 4) mX10_settle 152 [some (.ref 107), some (.int (sI lo)), some (.int (sI hi)), some (.int goal), some (.ref am), some (.int (nI (lgN al q))), some (.int (nI b)), some (.int (dI (l1N (asks al 6) b))), some (.int (sI (lo - 2 * b))), some (.int (sI (min (hi + 2 * b) 40))), some (.int (sI s)), some (.int (dI ((l1N (asks al 6) b) + 1)))] [] (t, sl, gh S V P A B Q) (fun r h' => r = none ∧ ∃ (A' : sV) (B' : sB), h' = (t, sl, gh S V P A' B' Q) ∧ KB S V P A' B' Q t al sh ls p tm q ∧ SR A' (TT (atm al p tm) p q) (kpM (A0 am)) (lgN al q) (rf_e goal) (asks al 6) lo hi 0 ∧ FrS2 A0 B0 A' B')) : ∀ (m l : Nat) (A : sV) (B : sB), l + m = (l1N (asks al 6) b) + 1 → 4 - (l1N (asks al 6) b) ≤ l → KB S V P A B Q t al sh ls p tm q → SP A (TT (atm al p tm) p q) (kpM (A0 am)) (lgN al q) (rf_e goal) (asks al 6) lo hi b s l → FrS2 A0 B0 A B → WQ G (d + 4) mX10_settle 124 [some (.ref 107), some (.int (sI lo)), some (.int (sI hi)), some (.int goal), some (.ref am), some (.int (nI (lgN al q))), some (.int (nI b)), some (.int (dI (l1N (asks al 6) b))), some (.int (sI (lo - 2 * b))), some (.int (sI (min (hi + 2 * b) 40))), some (.int (sI s)), some (.int (dI l))] [] (t, sl, gh S V P A B Q) (fun r h' => r = none ∧ ∃ (A' : sV) (B' : sB), h' = (t, sl, gh S V P A' B' Q) ∧ KB S V P A' B' Q t al sh ls p tm q ∧ SR A' (TT (atm al p tm) p q) (kpM (A0 am)) (lgN al q) (rf_e goal) (asks al 6) lo hi 0 ∧ FrS2 A0 B0 A' B') := by
  have hl1 := l1_or (asks al 6) b
  intro m
  induction m with
  | zero =>
    intro l A B hl hl0 hK hP hF
    have hl : l = (l1N (asks al 6) b) + 1 := hl
    subst hl
    refine WQ.st (fun _ _ kz => pw_iload11 dX10_settle_124 kz) ?_
    refine WQ.st (fun _ _ kz => pw_iload7 dX10_settle_126 kz) ?_
    refine WQ.br (fun _ _ ka kb => pw_icmp_gt (tgt := 152) dX10_settle_128 (by decide) ka kb) (fun c128 => ?_) (fun c128 => absurd (by rw [lt_i (dI_t (q := (l1N (asks al 6) b)) (by omega)) (dI_t (q := (l1N (asks al 6) b) + 1) (by omega))]; omega) c128)
    exact kf A B hK hP hF
  | succ m ih =>
    intro l A B hl hl0 hK hP hF
    obtain ⟨hp, ht, hq⟩ := hK.r
    have hn := hK.len
    refine WQ.st (fun _ _ kz => pw_iload11 dX10_settle_124 kz) ?_
    refine WQ.st (fun _ _ kz => pw_iload7 dX10_settle_126 kz) ?_
    refine WQ.br (fun _ _ ka kb => pw_icmp_gt (tgt := 152) dX10_settle_128 (by decide) ka kb) (fun c128 => absurd c128 (by rw [lt_i (dI_t (q := (l1N (asks al 6) b)) (by omega)) (dI_t (q := l) (by omega))]; omega)) (fun c128 => ?_)
    refine WQ.st (fun _ _ kz => pw_aload0 dX10_settle_131 kz) ?_
    refine WQ.st (fun _ _ kz => pw_iload6 dX10_settle_132 kz) ?_
    refine WQ.st (fun _ _ kz => pw_iload10 dX10_settle_134 kz) ?_
    refine WQ.st (fun _ _ kz => pw_iload11 dX10_settle_136 kz) ?_
    refine WQ.st (fun _ _ kz => pw_aload4 dX10_settle_138 kz) ?_
    refine WQ.st (fun _ _ kz => pw_iload6 dX10_settle_140 kz) ?_
    refine WQ.st (fun _ _ kz => pw_ald (j := b) dX10_settle_142 ham (ix_m rfl (by omega)) (by omega) kz) ?_
    refine wq_o4v wX10_settleAt lX10_77 rfl dX10_settle_143 (cf_s107 hK.cf) (k_settleAt hK (kp := (kpM (A0 am))) (N := rf_T (TT (atm al p tm) p q) (kpM (A0 am)) (lgN al q) (rf_e goal) ((lgN al q) - (b + 1))) (K := (lgN al q)) (by omega) (by omega) hs (fun w _ => by unfold kpM; rw [hF.1 am (by omega) (by omega) (by omega) (by omega)]) (by omega) (SR.need hK.dv hp ht hq hn.2 (fun s _ => rf_e_bnd goal s) hP.1 hb (by omega) hs hlo hhi)) rfl (Nat.le_of_ble_eq_true rfl) (Nat.le_of_ble_eq_true rfl) (fun h143 z143 => ?_)
    obtain ⟨A1, B1, rfl, hK1, g1, g2, g3, g4⟩ := z143
    refine WQ.st (fun _ _ kz => pw_iinc11 (v := 1) dX10_settle_146 (by decide) (by decide) (k := kz)) ?_
    refine WQ.st (fun _ _ kz => pw_goto (tgt := 124) dX10_settle_149 (by decide) kz) ?_
    rw [dI_1]
    exact ih (l + 1) A1 B1 (by omega) (by omega) hK1 (hP.put hb hs (by omega) g2 g3) (hF.tr ⟨g1, g4⟩)
