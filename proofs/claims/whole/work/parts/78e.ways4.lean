set_option maxRecDepth 20000 in
theorem l_settle3 {G : gT} {d : Nat} {S : sS} {V : sV} {P : sP} {Q : sP} {t sl : Nat} {al : Nat → Int32} {sh ls p tm q : Nat} {A0 : sV} {B0 : sB} {lo hi am : Nat} {goal : Int32} (ham : S am = (20, 12)) (ham2 : am = 69 ∨ am = 109) (hlh : lo ≤ hi) (hlo40 : lo ≤ 40) (hhi40 : hi ≤ 40) : ∀ (r : Nat) (A : sV) (B : sB) (x7 x8 x9 x10 x11 : Option Value), r ≤ (lgN al q) → KB S V P A B Q t al sh ls p tm q → SR A (TT (atm al p tm) p q) (kpM (A0 am)) (lgN al q) (rf_e goal) (asks al 6) lo hi r → FrS2 A0 B0 A B → WQ G (d + 4) mX10_settle 66 [some (.ref 107), some (.int (sI lo)), some (.int (sI hi)), some (.int goal), some (.ref am), some (.int (nI (lgN al q))), some (.int (pI r)), x7, x8, x9, x10, x11] [] (t, sl, gh S V P A B Q) (fun r h' => r = none ∧ ∃ (A' : sV) (B' : sB), h' = (t, sl, gh S V P A' B' Q) ∧ KB S V P A' B' Q t al sh ls p tm q ∧ SR A' (TT (atm al p tm) p q) (kpM (A0 am)) (lgN al q) (rf_e goal) (asks al 6) lo hi 0 ∧ FrS2 A0 B0 A' B') := by
  intro r
  induction r with
  | zero =>
    intro A B x7 x8 x9 x10 x11 hr hK hP hF
    refine WQ.st (fun _ _ kz => pw_iload6 dX10_settle_66 kz) ?_
    refine WQ.br (fun _ _ ka kb => pw_if_lt (tgt := 164) dX10_settle_68 (by decide) ka kb) (fun c68 => ?_) (fun c68 => absurd (by decide) c68)
    refine ⟨_, _, pw_vret dX10_settle_164 rfl rfl rfl, ?_⟩
    exact ⟨rfl, A, B, rfl, hK, hP, hF⟩
  | succ r ih =>
    intro A B x7 x8 x9 x10 x11 hr hK hP hF
    have hn := hK.len
    refine WQ.st (fun _ _ kz => pw_iload6 dX10_settle_66 kz) ?_
    refine WQ.br (fun _ _ ka kb => pw_if_lt (tgt := 164) dX10_settle_68 (by decide) ka kb) (fun c68 => absurd c68 (by rw [pI_s, lt_i (ix_n (j := r) (by omega)) li_0]; omega)) (fun c68 => ?_)
    refine WQ.st (fun _ _ kz => pw_aload0 dX10_settle_71 kz) ?_
    refine WQ.st (fun _ _ kz => pw_getr gX10_45 dX10_settle_72 (cf_s107 hK.cf) (cf_p107_4 hK.cf) kz) ?_
    rw [pI_s]
    refine WQ.st (fun _ _ kz => pw_iload6 dX10_settle_75 kz) ?_
    refine wq_o1i wX0_lastsAt lX10_71 rfl dX10_settle_77 (cf_s96 hK.cf) (k_lastsAt hK.cf hK.v1 (b := r) (by omega)) rfl (Nat.le_of_ble_eq_true rfl) (Nat.le_of_ble_eq_true rfl) (fun h77 z77 => ?_)
    subst z77
    rw [show (if asks al 6 && decide (0 < r) then (2 : Int32) else 0) = dI (l1N (asks al 6) r) from by unfold l1N; split <;> decide]
    refine WQ.st (fun _ _ kz => pw_istore7 dX10_settle_80 (by decide) (k := kz)) ?_
    refine WQ.st (fun _ _ kz => pw_bipush (v := -20) dX10_settle_82 (by decide) kz) ?_
    refine WQ.st (fun _ _ kz => pw_iload1 dX10_settle_84 kz) ?_
    refine WQ.st (fun _ _ kz => pw_iload6 dX10_settle_85 kz) ?_
    refine WQ.st (fun _ _ kz => pw_iconst (v := 2) dX10_settle_87 (by decide) kz) ?_
    refine WQ.st (fun _ _ kz => pw_imul dX10_settle_88 kz) ?_
    refine WQ.st (fun _ _ kz => pw_isub dX10_settle_89 kz) ?_
    refine WQ.st (fun _ _ kz => pw_max mmX10_74 dX10_settle_90 (Nat.le_of_ble_eq_true rfl) (by omega) kz) ?_
    rw [show (if (-20 : Int32) < sI lo - nI r * 2 then sI lo - nI r * 2 else -20) = sI (lo - 2 * r) from mx_lo (by omega) (by omega)]
    refine WQ.st (fun _ _ kz => pw_istore8 dX10_settle_93 (by decide) (k := kz)) ?_
    refine WQ.st (fun _ _ kz => pw_bipush (v := 20) dX10_settle_95 (by decide) kz) ?_
    refine WQ.st (fun _ _ kz => pw_iload2 dX10_settle_97 kz) ?_
    refine WQ.st (fun _ _ kz => pw_iload6 dX10_settle_98 kz) ?_
    refine WQ.st (fun _ _ kz => pw_iconst (v := 2) dX10_settle_100 (by decide) kz) ?_
    refine WQ.st (fun _ _ kz => pw_imul dX10_settle_101 kz) ?_
    refine WQ.st (fun _ _ kz => pw_iadd dX10_settle_102 kz) ?_
    refine WQ.st (fun _ _ kz => pw_min mmX10_60 dX10_settle_103 (Nat.le_of_ble_eq_true rfl) (by omega) kz) ?_
    rw [show (if sI hi + nI r * 2 < (20 : Int32) then sI hi + nI r * 2 else 20) = sI (min (hi + 2 * r) 40) from mn_hi (by omega) (by omega)]
    refine WQ.st (fun _ _ kz => pw_istore9 dX10_settle_106 (by decide) (k := kz)) ?_
    refine WQ.st (fun _ _ kz => pw_iload8 dX10_settle_108 kz) ?_
    refine WQ.st (fun _ _ kz => pw_istore10 dX10_settle_110 (by decide) (k := kz)) ?_
    refine l_settle2 (A0 := A0) (B0 := B0) ham ham2 (by omega) hlh hlo40 hhi40 hn.2 (fun A1 B1 x11 hK1 hP1 hF1 => ?_) (min (hi + 2 * r) 40 + 1 - (lo - 2 * r)) (lo - 2 * r) A B _ (by omega) (Nat.le_refl _) hK ⟨hP, fun s' l' a1 a2 a3 a4 a5 => by omega⟩ hF
    refine WQ.st (fun _ _ kz => pw_iinc6 (v := -1) dX10_settle_158 (by decide) (by decide) (k := kz)) ?_
    rw [pI_m]
    refine WQ.st (fun _ _ kz => pw_goto (tgt := 66) dX10_settle_161 (by decide) kz) ?_
    exact ih A1 B1 _ _ _ _ _ (by omega) hK1 hP1 hF1
