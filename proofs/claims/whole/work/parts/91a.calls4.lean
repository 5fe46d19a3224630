/-! ===== the class's calls that only ask: rows ===== -/
theorem nI_subk {a b : Nat} (h : b ≤ a) : nI a - nI b = nI (a - b) := by
  rw [iI_nat, iI_nat, iI_nat, iI_sub]
  congr 1
  omega
theorem cv_min {x : Int32} {k : Nat} (h : bnd k x) (hk : k ≤ 100) : cv x = -2147483648 ↔ x = -268435456 := by
  constructor
  · intro e
    by_cases c : x = -268435456
    · exact c
    · rw [cv_n c] at e
      rcases h with h | h
      · exact h
      · rw [e] at h
        have h1 : -(1000000 * (k : Int)) ≤ -2147483648 := h.1
        omega
  · intro e
    rw [e]
    rfl
theorem wtC_TT {al : Nat → Int32} (hD : DV al) {p tm q : Nat} (hp : p < 5) (ht : tm < 10) (hq : q < 4) {n : Nat} (hn : n ≤ 12) {kp : Nat → Nat → Bool} : ∀ b, b < n → wtOK (wtC (TT (atm al p tm) p q) kp b) (asks al 6) := fun b hb => wtC_ok (fun l s w _ _ _ h => TT_in h) (fun h6 l s w hl hs hw => TT_l2 hD hp ht hq h6 (by omega) hl hs hw)
theorem TT_b1 {al : Nat → Int32} (hD : DV al) {p tm q : Nat} (hp : p < 5) (ht : tm < 10) (hq : q < 4) {n : Nat} (hn : n ≤ 12) : ∀ b l s w, b < n → l < 5 → s < 41 → w < 5 → bnd 1 (TT (atm al p tm) p q b l s w) := fun b l s w hb hl hs hw => bnd_sml (TT_ok hD hp ht hq (by omega) hl hs hw)
set_option maxRecDepth 20000 in
theorem k_findBest {G : gT} {d : Nat} {S : sS} {V : sV} {P : sP} {A : sV} {B : sB} {Q : sP} {t sl : Nat} {al : Nat → Int32} {W : WT} {sh ls : Nat} (hI : CI S V P A B Q t al W sh ls) (hls : ls + 1 < 2000000000) {p q am : Nat} (hp : p < 5) (hq : q < 4) (hiq : isQ al (nI q).toInt = true) (ham2 : am = 69 ∨ am = 109) (goal : Int32) {kp : Nat → Nat → Bool} (hk : ∀ b w, b < lgN al q → w < 5 → kpM (A am) b w = kp b w) : WQ G (d + 6) mX11_findBest 0 [some (.ref 8), some (.int (nI p)), some (.int (nI q)), some (.int goal), some (.ref am), none] [] (t, sl, gh S V P A B Q) (fun r h' => r = some (.int (bI (decide (rf_T (TT al p q) kp (lgN al q) (rf_e goal) (lgN al q) 2 (stN al p) ≠ -268435456)))) ∧ ∃ (t' sl' ls' : Nat) (S' : sS) (V' : sV) (P' : sP) (A' : sV) (B' : sB) (Q' : sP), h' = (t', sl', gh S' V' P' A' B' Q') ∧ CI S' V' P' A' B' Q' t' al W sh ls' ∧ ls' ≤ ls + 1 ∧ FrO S V P A B t S' V' P' A' B' t' ∧ (∀ k1 k2, Room2 S Q t sl k1 k2 → Room2 S' Q' t' sl' k1 k2) ∧ ((∀ x, x < 96 → A' x = A x) ∧ (∀ x, x < 96 → V' x = V x) ∧ (∀ x, x < 96 → B' x = B x) ∧ ∀ x, x < 96 → Q' x = Q x) ∧ (rf_T (TT al p q) kp (lgN al q) (rf_e goal) (lgN al q) 2 (stN al p) ≠ -268435456 → V' 107 2 = rf_T (TT al p q) kp (lgN al q) (rf_e goal) (lgN al q) 2 (stN al p) ∧ V' 107 3 = sI (rf_st (TT al p q) kp (lgN al q) (rf_e goal) (stN al p) (lgN al q)).2 ∧ ∀ b, b < 12 → A' 108 b = if b < lgN al q then dI (rf_st (TT al p q) kp (lgN al q) (rf_e goal) (stN al p) (b + 1)).1 else 9)) := by
  have hE := hI.de
  have hC := hE.dc.ka.cf
  have hD := hE.dc.ka.dv
  have hSe := hE.dc.ka.se
  have hA := hI.av
  refine WQ.st (fun _ _ kz => pw_aload0 dX11_findBest_0 kz) ?_
  refine WQ.st (fun _ _ kz => pw_iload1 dX11_findBest_1 kz) ?_
  refine WQ.st (fun _ _ kz => pw_iload2 dX11_findBest_2 kz) ?_
  refine wq_o2v wX11_takeUp lX11_186 rfl dX11_findBest_3 (cf_s8 hC) (k_take hI (by omega) hp hq hiq) rfl (Nat.le_of_ble_eq_true rfl) (Nat.le_of_ble_eq_true rfl) (fun h3 z3 => ?_)
  obtain ⟨tm, hat, t5, sl5, ls5, S5, V5, P5, A5, B5, Q5, rfl, k5, i5, l5, f5, r5⟩ := z3
  have hC := k5.cf
  have hE5 := i5.de
  obtain ⟨es0, hs0⟩ := hE5.kv.stE hp
  refine WQ.st (fun _ _ kz => pw_aload0 dX11_findBest_6 kz) ?_
  refine WQ.st (fun _ _ kz => pw_getr gX11_35 dX11_findBest_7 (cf_s8 hC) (cf_p8_5 hC) kz) ?_
  refine WQ.st (fun _ _ kz => pw_getr gX11_156 dX11_findBest_10 (cf_s16 hC) (cf_p16_0 hC) kz) ?_
  refine WQ.st (fun _ _ kz => pw_iload1 dX11_findBest_13 kz) ?_
  refine WQ.st (fun _ _ kz => pw_ald (j := p) dX11_findBest_14 (cf_s17 hC) (ix_m rfl (by omega)) (by omega) kz) ?_
  rw [hE5.se.st hp, es0]
  refine WQ.st (fun _ _ kz => pw_istore5 dX11_findBest_15 (by decide) (k := kz)) ?_
  refine WQ.st (fun _ _ kz => pw_aload0 dX11_findBest_17 kz) ?_
  refine WQ.st (fun _ _ kz => pw_getr gX11_96 dX11_findBest_18 (cf_s8 hC) (cf_p8_13 hC) kz) ?_
  refine WQ.st (fun _ _ kz => pw_iload5 dX11_findBest_21 kz) ?_
  refine WQ.st (fun _ _ kz => pw_iload5 dX11_findBest_23 kz) ?_
  refine WQ.st (fun _ _ kz => pw_iload3 dX11_findBest_25 kz) ?_
  refine WQ.st (fun _ _ kz => pw_aload4 dX11_findBest_26 kz) ?_
  have ham5 : S5 am = (20, 12) := by rcases ham2 with e | e
                                     · rw [e]; exact cf_s69 hC
                                     · rw [e]; exact cf_s109 hC
  have a5 : A5 am = A am := f5.2.2.2.2.1 am (by omega) (by omega) (by omega) (by omega)
  refine wq_o4v wX10_settle lX11_308 rfl dX11_findBest_28 (cf_s107 hC) (k_settle k5 (lo := stN al p) (hi := stN al p) (am := am) (goal := goal) ham5 ham2 (Nat.le_refl _) (by omega) (by omega)) rfl (Nat.le_of_ble_eq_true rfl) (Nat.le_of_ble_eq_true rfl) (fun h28 z28 => ?_)
  obtain ⟨A6, B6, rfl, k6, z1, z2⟩ := z28
  rw [hat, a5] at z1
  refine WQ.st (fun _ _ kz => pw_aload0 dX11_findBest_31 kz) ?_
  refine WQ.st (fun _ _ kz => pw_getr gX11_96 dX11_findBest_32 (cf_s8 hC) (cf_p8_13 hC) kz) ?_
  refine WQ.st (fun _ _ kz => pw_iload5 dX11_findBest_35 kz) ?_
  refine wq_o1i wX10_follow lX11_396 rfl dX11_findBest_37 (cf_s107 hC) (k_follow2 k6 (kp := kpM (A am)) (kp' := kp) (e := rf_e goal) (fun s _ => rf_e_bnd goal s) hk (by rw [hat]; exact z1) hs0 (Nat.le_refl _) (Nat.le_refl _)) rfl (Nat.le_of_ble_eq_true rfl) (Nat.le_of_ble_eq_true rfl) (fun h37 z37 => ?_)
  obtain ⟨V7, A7, rfl, y1, y2, y3⟩ := z37
  refine ⟨_, _, pw_iret dX11_findBest_40 rfl (bI_nar _) rfl rfl, ?_⟩
  rw [hat] at y3 ⊢
  have k7 := k6.fr (V' := V7) (A' := A7) ⟨fun x hx => y1 x (by omega), fun x hx => y2 x (by omega), fun _ _ => rfl⟩
  have fw : FrW V5 A5 B5 V7 A7 B6 := ⟨y1, fun x h1 h2 h3 => (y2 x (by omega)).trans (z2.1 x h1 h2 (by omega) (by omega)), fun x h1 _ _ => z2.2 x h1⟩
  exact ⟨rfl, t5, sl5, ls5, S5, V7, P5, A7, B6, Q5, rfl, i5.frw k7 fw, l5, ((FrT.d (a := 20) f5).o (Or.inr rfl)).tr (fw.o (Q := Q5)), r5, ⟨fun x hx => (fw.2.1 x (by omega) (by omega) (by omega)).trans (f5.2.2.2.2.1 x (by omega) (by omega) (by omega) (by omega)), fun x hx => (fw.1 x (by omega)).trans (f5.2.2.1 x (by omega)), fun x hx => (fw.2.2 x (by omega) (by omega) (by omega)).trans (f5.2.2.2.2.2.1 x (by omega)), fun x hx => f5.2.2.2.2.2.2 x (by omega)⟩, y3⟩
set_option maxRecDepth 20000 in
theorem q_comes {G : gT} {d : Nat} {S : sS} {V : sV} {P : sP} {A : sV} {B : sB} {Q : sP} {t sl : Nat} {al : Nat → Int32} {W : WT} {sh ls : Nat} (hI : CI S V P A B Q t al W sh ls) (hls : ls + 1000 < 2000000000) (x y w : Int32) : WQ G (d + 9) mX11_comes 0 [some (.ref 8), some (.int x), some (.int y), some (.int w)] [] (t, sl, gh S V P A B Q) (CZ S V P A B Q t sl W sh ls (.int (sp_comes al x.toInt y.toInt w.toInt)) al) := by
  unfold CZ
  have hE := hI.de
  have hC := hE.dc.ka.cf
  have hD := hE.dc.ka.dv
  have hSe := hE.dc.ka.se
  have hA := hI.av
  have hp5 := hD.p5
  have hn4 := hD.n4
  refine WQ.st (fun _ _ kz => pw_aload0 dX11_comes_0 kz) ?_
  refine WQ.st (fun _ _ kz => pw_iload1 dX11_comes_1 kz) ?_
  refine WQ.st (fun _ _ kz => pw_iload2 dX11_comes_2 kz) ?_
  refine wq_o2i wX11_hasBoth lX11_262 rfl dX11_comes_3 (cf_s8 hC) (k_hasBoth hI _ _) rfl (Nat.le_of_ble_eq_true rfl) (Nat.le_of_ble_eq_true rfl) (fun h3 z3 => ?_)
  subst z3
  refine WQ.br (fun _ _ ka kb => pw_if_eq (tgt := 21) dX11_comes_6 (by decide) ka kb) (fun c6 => ?_) (fun c6 => ?_)
  · rw [bI_0] at c6
    refine WQ.st (fun _ _ kz => pw_ldc kX11_155 dX11_comes_21 kz) ?_
    refine ⟨_, _, pw_iret dX11_comes_23 rfl rfl rfl rfl, ?_⟩
    exact ⟨rI (by unfold sp_comes; rw [c6, Bool.false_and, if_neg (by decide)]), t, sl, ls, S, V, P, A, B, Q, rfl, hI, by omega, FrO.rfl, fun _ _ h => h⟩
  · rw [bI_n] at c6
    have hb2 := (Bool.and_eq_true _ _).mp c6
    have hiq := hb2.2
    have gx := isP_t hb2.1
    obtain ⟨p, rfl, tp, lp⟩ := nI_get gx.1 gx.2 (by omega)
    have hp : p < 5 := by omega
    have gy := isQ_t hb2.2
    obtain ⟨q, rfl, tq, lq⟩ := nI_get gy.1 gy.2 (by omega)
    have hq : q < 4 := by omega
    refine WQ.st (fun _ _ kz => pw_iload3 dX11_comes_9 kz) ?_
    refine wq_s1i wX11_isOfRow lX11_265 dX11_comes_10 (k_isOfRow _) rfl (Nat.le_of_ble_eq_true rfl) (Nat.le_of_ble_eq_true rfl) (fun h10 z10 => ?_)
    subst z10
    refine WQ.bn (fun _ _ ka kb => pw_if_ne (tgt := 24) dX11_comes_13 (by decide) ka kb) (fun c13 => ?_) (fun c13 => ?_)
    · rw [bI_n] at c13
      have hw2 : isT w.toInt 2 = true := by
        unfold isT at c13 ⊢
        rcases (Bool.or_eq_true _ _).mp c13 with h | h
        · have := of_decide_eq_true h
          rw [decide_eq_true (by omega)]; rfl
        · rw [h, Bool.or_true]
      refine WQ.st (fun _ _ kz => pw_aload0 dX11_comes_24 kz) ?_
      refine WQ.st (fun _ _ kz => pw_iload1 dX11_comes_25 kz) ?_
      refine WQ.st (fun _ _ kz => pw_iload2 dX11_comes_26 kz) ?_
      refine wq_o2v wX11_takeUp lX11_186 rfl dX11_comes_27 (cf_s8 hC) (k_take hI (by omega) hp hq hiq) rfl (Nat.le_of_ble_eq_true rfl) (Nat.le_of_ble_eq_true rfl) (fun h27 z27 => ?_)
      obtain ⟨tm, hat, t5, sl5, ls5, S5, V5, P5, A5, B5, Q5, rfl, k5, i5, l5, f5, r5⟩ := z27
      have hC := k5.cf
      have hE5 := i5.de
      obtain ⟨es0, hs0⟩ := hE5.kv.stE hp
      refine WQ.st (fun _ _ kz => pw_aload0 dX11_comes_30 kz) ?_
      refine WQ.st (fun _ _ kz => pw_getr gX11_89 dX11_comes_31 (cf_s8 hC) (cf_p8_12 hC) kz) ?_
      refine WQ.st (fun _ _ kz => pw_aload0 dX11_comes_34 kz) ?_
      refine WQ.st (fun _ _ kz => pw_getr gX11_35 dX11_comes_35 (cf_s8 hC) (cf_p8_5 hC) kz) ?_
      refine WQ.st (fun _ _ kz => pw_getr gX11_156 dX11_comes_38 (cf_s16 hC) (cf_p16_0 hC) kz) ?_
      refine WQ.st (fun _ _ kz => pw_iload1 dX11_comes_41 kz) ?_
      refine WQ.st (fun _ _ kz => pw_ald (j := p) dX11_comes_42 (cf_s17 hC) (ix_m rfl (by omega)) (by omega) kz) ?_
      rw [hE5.se.st hp, es0]
      refine wq_o1v wX1_run lX11_268 rfl dX11_comes_43 (cf_s103 hC) (k_run k5 hs0) rfl (Nat.le_of_ble_eq_true rfl) (Nat.le_of_ble_eq_true rfl) (fun h43 z43 => ?_)
      obtain ⟨V6, A6, B6, rfl, k6, cr, f6⟩ := z43
      rw [hat] at cr
      have i6 := i5.frc k6 f6
      have hO := ((FrT.d (a := 20) f5).o (Or.inr rfl)).tr (f6.o (Q := Q5))
      have hC := k6.cf
      refine WQ.st (fun _ _ kz => pw_iload3 dX11_comes_46 kz) ?_
      by_cases h47_0 : w = 0
      · refine WQ.st (fun _ _ kz => pw_tableIn (off := 25) (tgt := 72) dX11_comes_47 (by rw [h47_0]; decide) (by rw [h47_0]; decide) (by rw [h47_0]; rfl) (by decide) kz) ?_
        refine WQ.st (fun _ _ kz => pw_aload0 dX11_comes_72 kz) ?_
        refine WQ.st (fun _ _ kz => pw_getr gX11_89 dX11_comes_73 (cf_s8 hC) (cf_p8_12 hC) kz) ?_
        refine WQ.st (fun _ _ kz => pw_geti gX11_271 dX11_comes_76 (cf_s103 hC) kz) ?_
        refine ⟨_, _, pw_iret dX11_comes_79 rfl rfl rfl rfl, ?_⟩
        exact ⟨rI (by unfold sp_comes; rw [c6, hw2, Bool.true_and, if_pos (by rfl), tp, tq, Int.toNat_natCast, Int.toNat_natCast, if_pos (by rw [h47_0]; rfl)]; exact cr.1), t5, sl5, ls5, S5, V6, P5, A6, B6, Q5, rfl, i6, by omega, hO, r5⟩
      by_cases h47_1 : w = 1
      · refine WQ.st (fun _ _ kz => pw_tableIn (off := 33) (tgt := 80) dX11_comes_47 (by rw [h47_1]; decide) (by rw [h47_1]; decide) (by rw [h47_1]; rfl) (by decide) kz) ?_
        refine WQ.st (fun _ _ kz => pw_aload0 dX11_comes_80 kz) ?_
        refine WQ.st (fun _ _ kz => pw_getr gX11_89 dX11_comes_81 (cf_s8 hC) (cf_p8_12 hC) kz) ?_
        refine WQ.st (fun _ _ kz => pw_geti gX11_272 dX11_comes_84 (cf_s103 hC) kz) ?_
        refine ⟨_, _, pw_iret dX11_comes_87 rfl rfl rfl rfl, ?_⟩
        exact ⟨rI (by unfold sp_comes; rw [c6, hw2, Bool.true_and, if_pos (by rfl), tp, tq, Int.toNat_natCast, Int.toNat_natCast, if_neg (by rw [h47_1]; decide), if_pos (by rw [h47_1]; rfl)]; exact cr.2.1), t5, sl5, ls5, S5, V6, P5, A6, B6, Q5, rfl, i6, by omega, hO, r5⟩
      by_cases h47_2 : w = 2
      · refine WQ.st (fun _ _ kz => pw_tableIn (off := 41) (tgt := 88) dX11_comes_47 (by rw [h47_2]; decide) (by rw [h47_2]; decide) (by rw [h47_2]; rfl) (by decide) kz) ?_
        refine WQ.st (fun _ _ kz => pw_aload0 dX11_comes_88 kz) ?_
        refine WQ.st (fun _ _ kz => pw_getr gX11_89 dX11_comes_89 (cf_s8 hC) (cf_p8_12 hC) kz) ?_
        refine WQ.st (fun _ _ kz => pw_geti gX11_275 dX11_comes_92 (cf_s103 hC) kz) ?_
        refine ⟨_, _, pw_iret dX11_comes_95 rfl rfl rfl rfl, ?_⟩
        exact ⟨rI (by unfold sp_comes; rw [c6, hw2, Bool.true_and, if_pos (by rfl), tp, tq, Int.toNat_natCast, Int.toNat_natCast, if_neg (by rw [h47_2]; decide), if_neg (by rw [h47_2]; decide), if_pos (by rw [h47_2]; rfl)]; exact cr.2.2.1), t5, sl5, ls5, S5, V6, P5, A6, B6, Q5, rfl, i6, by omega, hO, r5⟩
      have g47_0 := i32_ne (z := 0) rfl h47_0
      have g47_1 := i32_ne (z := 1) rfl h47_1
      have g47_2 := i32_ne (z := 2) rfl h47_2
      refine WQ.st (fun _ _ kz => pw_tableOut (tgt := 96) dX11_comes_47 (by omega) (by decide) kz) ?_
      refine WQ.st (fun _ _ kz => pw_aload0 dX11_comes_96 kz) ?_
      refine WQ.st (fun _ _ kz => pw_getr gX11_89 dX11_comes_97 (cf_s8 hC) (cf_p8_12 hC) kz) ?_
      refine WQ.st (fun _ _ kz => pw_iload3 dX11_comes_100 kz) ?_
      refine WQ.st (fun _ _ kz => pw_bipush (v := 10) dX11_comes_101 (by decide) kz) ?_
      have hw3 : 10 ≤ w.toInt ∧ w.toInt ≤ 21 := by
        unfold isT at hw2
        rcases (Bool.or_eq_true _ _).mp hw2 with h | h
        · have := of_decide_eq_true h; omega
        · exact of_decide_eq_true h
      obtain ⟨k, rfl, tk, _⟩ := nI_get (x := w) (n := 22) (by omega) (by omega) (by omega)
      refine WQ.st (fun _ _ kz => pw_isub dX11_comes_103 kz) ?_
      rw [show (10 : Int32) = nI 10 from rfl, nI_subk (by omega)]
      refine wq_o1i wX1_drawOf lX11_278 rfl dX11_comes_104 (cf_s103 hC) (k_drawOf hC (k := k - 10) (by omega)) rfl (Nat.le_of_ble_eq_true rfl) (Nat.le_of_ble_eq_true rfl) (fun h104 z104 => ?_)
      subst z104
      refine ⟨_, _, pw_iret dX11_comes_107 rfl rfl rfl rfl, ?_⟩
      have ek : ((nI k).toInt - 10).toNat = k - 10 := by omega
      exact ⟨rI (by unfold sp_comes; rw [c6, hw2, Bool.true_and, if_pos (by rfl), tp, tq, Int.toNat_natCast, Int.toNat_natCast, if_neg (by omega), if_neg (by omega), if_neg (by omega), ek]; exact cr.2.2.2 _ (by omega)), t5, sl5, ls5, S5, V6, P5, A6, B6, Q5, rfl, i6, by omega, hO, r5⟩
    · rw [bI_0] at c13
      refine WQ.st (fun _ _ kz => pw_iload3 dX11_comes_16 kz) ?_
      refine WQ.st (fun _ _ kz => pw_iconst (v := 2) dX11_comes_17 (by decide) kz) ?_
      refine WQ.br (fun _ _ ka kb => pw_icmp_eq (tgt := 24) dX11_comes_18 (by decide) ka kb) (fun c18 => ?_) (fun c18 => ?_)
      · rw [i32_iff li_2] at c18
        have hw2 : isT w.toInt 2 = true := by
          unfold isT
          rw [decide_eq_true (by omega)]; rfl
        refine WQ.st (fun _ _ kz => pw_aload0 dX11_comes_24 kz) ?_
        refine WQ.st (fun _ _ kz => pw_iload1 dX11_comes_25 kz) ?_
        refine WQ.st (fun _ _ kz => pw_iload2 dX11_comes_26 kz) ?_
        refine wq_o2v wX11_takeUp lX11_186 rfl dX11_comes_27 (cf_s8 hC) (k_take hI (by omega) hp hq hiq) rfl (Nat.le_of_ble_eq_true rfl) (Nat.le_of_ble_eq_true rfl) (fun h27 z27 => ?_)
        obtain ⟨tm, hat, t5, sl5, ls5, S5, V5, P5, A5, B5, Q5, rfl, k5, i5, l5, f5, r5⟩ := z27
        have hC := k5.cf
        have hE5 := i5.de
        obtain ⟨es0, hs0⟩ := hE5.kv.stE hp
        refine WQ.st (fun _ _ kz => pw_aload0 dX11_comes_30 kz) ?_
        refine WQ.st (fun _ _ kz => pw_getr gX11_89 dX11_comes_31 (cf_s8 hC) (cf_p8_12 hC) kz) ?_
        refine WQ.st (fun _ _ kz => pw_aload0 dX11_comes_34 kz) ?_
        refine WQ.st (fun _ _ kz => pw_getr gX11_35 dX11_comes_35 (cf_s8 hC) (cf_p8_5 hC) kz) ?_
        refine WQ.st (fun _ _ kz => pw_getr gX11_156 dX11_comes_38 (cf_s16 hC) (cf_p16_0 hC) kz) ?_
        refine WQ.st (fun _ _ kz => pw_iload1 dX11_comes_41 kz) ?_
        refine WQ.st (fun _ _ kz => pw_ald (j := p) dX11_comes_42 (cf_s17 hC) (ix_m rfl (by omega)) (by omega) kz) ?_
        rw [hE5.se.st hp, es0]
        refine wq_o1v wX1_run lX11_268 rfl dX11_comes_43 (cf_s103 hC) (k_run k5 hs0) rfl (Nat.le_of_ble_eq_true rfl) (Nat.le_of_ble_eq_true rfl) (fun h43 z43 => ?_)
        obtain ⟨V6, A6, B6, rfl, k6, cr, f6⟩ := z43
        rw [hat] at cr
        have i6 := i5.frc k6 f6
        have hO := ((FrT.d (a := 20) f5).o (Or.inr rfl)).tr (f6.o (Q := Q5))
        have hC := k6.cf
        refine WQ.st (fun _ _ kz => pw_iload3 dX11_comes_46 kz) ?_
        by_cases h47_0 : w = 0
        · refine WQ.st (fun _ _ kz => pw_tableIn (off := 25) (tgt := 72) dX11_comes_47 (by rw [h47_0]; decide) (by rw [h47_0]; decide) (by rw [h47_0]; rfl) (by decide) kz) ?_
          refine WQ.st (fun _ _ kz => pw_aload0 dX11_comes_72 kz) ?_
          refine WQ.st (fun _ _ kz => pw_getr gX11_89 dX11_comes_73 (cf_s8 hC) (cf_p8_12 hC) kz) ?_
          refine WQ.st (fun _ _ kz => pw_geti gX11_271 dX11_comes_76 (cf_s103 hC) kz) ?_
          refine ⟨_, _, pw_iret dX11_comes_79 rfl rfl rfl rfl, ?_⟩
          exact ⟨rI (by unfold sp_comes; rw [c6, hw2, Bool.true_and, if_pos (by rfl), tp, tq, Int.toNat_natCast, Int.toNat_natCast, if_pos (by rw [h47_0]; rfl)]; exact cr.1), t5, sl5, ls5, S5, V6, P5, A6, B6, Q5, rfl, i6, by omega, hO, r5⟩
        by_cases h47_1 : w = 1
        · refine WQ.st (fun _ _ kz => pw_tableIn (off := 33) (tgt := 80) dX11_comes_47 (by rw [h47_1]; decide) (by rw [h47_1]; decide) (by rw [h47_1]; rfl) (by decide) kz) ?_
          refine WQ.st (fun _ _ kz => pw_aload0 dX11_comes_80 kz) ?_
          refine WQ.st (fun _ _ kz => pw_getr gX11_89 dX11_comes_81 (cf_s8 hC) (cf_p8_12 hC) kz) ?_
          refine WQ.st (fun _ _ kz => pw_geti gX11_272 dX11_comes_84 (cf_s103 hC) kz) ?_
          refine ⟨_, _, pw_iret dX11_comes_87 rfl rfl rfl rfl, ?_⟩
          exact ⟨rI (by unfold sp_comes; rw [c6, hw2, Bool.true_and, if_pos (by rfl), tp, tq, Int.toNat_natCast, Int.toNat_natCast, if_neg (by rw [h47_1]; decide), if_pos (by rw [h47_1]; rfl)]; exact cr.2.1), t5, sl5, ls5, S5, V6, P5, A6, B6, Q5, rfl, i6, by omega, hO, r5⟩
        by_cases h47_2 : w = 2
        · refine WQ.st (fun _ _ kz => pw_tableIn (off := 41) (tgt := 88) dX11_comes_47 (by rw [h47_2]; decide) (by rw [h47_2]; decide) (by rw [h47_2]; rfl) (by decide) kz) ?_
          refine WQ.st (fun _ _ kz => pw_aload0 dX11_comes_88 kz) ?_
          refine WQ.st (fun _ _ kz => pw_getr gX11_89 dX11_comes_89 (cf_s8 hC) (cf_p8_12 hC) kz) ?_
          refine WQ.st (fun _ _ kz => pw_geti gX11_275 dX11_comes_92 (cf_s103 hC) kz) ?_
          refine ⟨_, _, pw_iret dX11_comes_95 rfl rfl rfl rfl, ?_⟩
          exact ⟨rI (by unfold sp_comes; rw [c6, hw2, Bool.true_and, if_pos (by rfl), tp, tq, Int.toNat_natCast, Int.toNat_natCast, if_neg (by rw [h47_2]; decide), if_neg (by rw [h47_2]; decide), if_pos (by rw [h47_2]; rfl)]; exact cr.2.2.1), t5, sl5, ls5, S5, V6, P5, A6, B6, Q5, rfl, i6, by omega, hO, r5⟩
        have g47_0 := i32_ne (z := 0) rfl h47_0
        have g47_1 := i32_ne (z := 1) rfl h47_1
        have g47_2 := i32_ne (z := 2) rfl h47_2
        refine WQ.st (fun _ _ kz => pw_tableOut (tgt := 96) dX11_comes_47 (by omega) (by decide) kz) ?_
        refine WQ.st (fun _ _ kz => pw_aload0 dX11_comes_96 kz) ?_
        refine WQ.st (fun _ _ kz => pw_getr gX11_89 dX11_comes_97 (cf_s8 hC) (cf_p8_12 hC) kz) ?_
        refine WQ.st (fun _ _ kz => pw_iload3 dX11_comes_100 kz) ?_
        refine WQ.st (fun _ _ kz => pw_bipush (v := 10) dX11_comes_101 (by decide) kz) ?_
        have hw3 : 10 ≤ w.toInt ∧ w.toInt ≤ 21 := by
          unfold isT at hw2
          rcases (Bool.or_eq_true _ _).mp hw2 with h | h
          · have := of_decide_eq_true h; omega
          · exact of_decide_eq_true h
        obtain ⟨k, rfl, tk, _⟩ := nI_get (x := w) (n := 22) (by omega) (by omega) (by omega)
        refine WQ.st (fun _ _ kz => pw_isub dX11_comes_103 kz) ?_
        rw [show (10 : Int32) = nI 10 from rfl, nI_subk (by omega)]
        refine wq_o1i wX1_drawOf lX11_278 rfl dX11_comes_104 (cf_s103 hC) (k_drawOf hC (k := k - 10) (by omega)) rfl (Nat.le_of_ble_eq_true rfl) (Nat.le_of_ble_eq_true rfl) (fun h104 z104 => ?_)
        subst z104
        refine ⟨_, _, pw_iret dX11_comes_107 rfl rfl rfl rfl, ?_⟩
        have ek : ((nI k).toInt - 10).toNat = k - 10 := by omega
        exact ⟨rI (by unfold sp_comes; rw [c6, hw2, Bool.true_and, if_pos (by rfl), tp, tq, Int.toNat_natCast, Int.toNat_natCast, if_neg (by omega), if_neg (by omega), if_neg (by omega), ek]; exact cr.2.2.2 _ (by omega)), t5, sl5, ls5, S5, V6, P5, A6, B6, Q5, rfl, i6, by omega, hO, r5⟩
      · rw [i32_iff li_2] at c18
        have hw2 : isT w.toInt 2 = false := by
          unfold isT at c13 ⊢
          have h2 := (Bool.or_eq_false_iff).mp c13
          have h3 := of_decide_eq_false h2.1
          rw [h2.2, decide_eq_false (by omega)]; rfl
        refine WQ.st (fun _ _ kz => pw_ldc kX11_155 dX11_comes_21 kz) ?_
        refine ⟨_, _, pw_iret dX11_comes_23 rfl rfl rfl rfl, ?_⟩
        exact ⟨rI (by unfold sp_comes; rw [hw2, Bool.and_false, if_neg (by decide)]), t, sl, ls, S, V, P, A, B, Q, rfl, hI, by omega, FrO.rfl, fun _ _ h => h⟩
set_option maxRecDepth 20000 in
theorem q_best {G : gT} {d : Nat} {S : sS} {V : sV} {P : sP} {A : sV} {B : sB} {Q : sP} {t sl : Nat} {al : Nat → Int32} {W : WT} {sh ls : Nat} (hI : CI S V P A B Q t al W sh ls) (hls : ls + 1000 < 2000000000) (x y g w : Int32) : WQ G (d + 9) mX11_best 0 [some (.ref 8), some (.int x), some (.int y), some (.int g), some (.int w)] [] (t, sl, gh S V P A B Q) (CZ S V P A B Q t sl W sh ls (.int (sp_best al x.toInt y.toInt g w.toInt)) al) := by
  unfold CZ
  have hE := hI.de
  have hC := hE.dc.ka.cf
  have hD := hE.dc.ka.dv
  have hSe := hE.dc.ka.se
  have hA := hI.av
  have hp5 := hD.p5
  have hn4 := hD.n4
  refine WQ.st (fun _ _ kz => pw_aload0 dX11_best_0 kz) ?_
  refine WQ.st (fun _ _ kz => pw_iload1 dX11_best_1 kz) ?_
  refine WQ.st (fun _ _ kz => pw_iload2 dX11_best_2 kz) ?_
  refine wq_o2i wX11_hasBoth lX11_262 rfl dX11_best_3 (cf_s8 hC) (k_hasBoth hI _ _) rfl (Nat.le_of_ble_eq_true rfl) (Nat.le_of_ble_eq_true rfl) (fun h3 z3 => ?_)
  subst z3
  refine WQ.br (fun _ _ ka kb => pw_if_eq (tgt := 17) dX11_best_6 (by decide) ka kb) (fun c6 => ?_) (fun c6 => ?_)
  · rw [bI_0] at c6
    refine WQ.st (fun _ _ kz => pw_ldc kX11_155 dX11_best_17 kz) ?_
    refine ⟨_, _, pw_iret dX11_best_19 rfl rfl rfl rfl, ?_⟩
    exact ⟨rI (by unfold sp_best; rw [c6, Bool.false_and, if_neg (by decide)]), t, sl, ls, S, V, P, A, B, Q, rfl, hI, by omega, FrO.rfl, fun _ _ h => h⟩
  · rw [bI_n] at c6
    have hb2 := (Bool.and_eq_true _ _).mp c6
    have hiq := hb2.2
    have gx := isP_t hb2.1
    obtain ⟨p, rfl, tp, lp⟩ := nI_get gx.1 gx.2 (by omega)
    have hp : p < 5 := by omega
    have gy := isQ_t hb2.2
    obtain ⟨q, rfl, tq, lq⟩ := nI_get gy.1 gy.2 (by omega)
    have hq : q < 4 := by omega
    have hkk : ∀ b w, b < lgN al q → w < 5 → kpM (A 109) b w = kpA b w := fun b w hb hw => ev_kp hE.dc.ev b w (by have := (hD.lgE hq).2; omega) hw
    refine WQ.st (fun _ _ kz => pw_iload4 dX11_best_9 kz) ?_
    refine wq_s1i wX11_isOfRow lX11_265 dX11_best_11 (k_isOfRow _) rfl (Nat.le_of_ble_eq_true rfl) (Nat.le_of_ble_eq_true rfl) (fun h11 z11 => ?_)
    subst z11
    refine WQ.bn (fun _ _ ka kb => pw_if_ne (tgt := 20) dX11_best_14 (by decide) ka kb) (fun c14 => ?_) (fun c14 => ?_)
    · rw [bI_n] at c14
      refine WQ.st (fun _ _ kz => pw_iload3 dX11_best_20 kz) ?_
      refine wq_s1i wX11_isStore lX11_281 dX11_best_21 (k_isStore _) rfl (Nat.le_of_ble_eq_true rfl) (Nat.le_of_ble_eq_true rfl) (fun h21 z21 => ?_)
      subst z21
      refine WQ.bn (fun _ _ ka kb => pw_if_ne (tgt := 30) dX11_best_24 (by decide) ka kb) (fun c24 => ?_) (fun c24 => ?_)
      · rw [bI_n] at c24
        refine WQ.st (fun _ _ kz => pw_aload0 dX11_best_30 kz) ?_
        refine WQ.st (fun _ _ kz => pw_iload1 dX11_best_31 kz) ?_
        refine WQ.st (fun _ _ kz => pw_iload2 dX11_best_32 kz) ?_
        refine WQ.st (fun _ _ kz => pw_iload3 dX11_best_33 kz) ?_
        refine WQ.st (fun _ _ kz => pw_aload0 dX11_best_34 kz) ?_
        refine WQ.st (fun _ _ kz => pw_getr gX11_96 dX11_best_35 (cf_s8 hC) (cf_p8_13 hC) kz) ?_
        refine WQ.st (fun _ _ kz => pw_getr gX11_284 dX11_best_38 (cf_s107 hC) (cf_p107_1 hC) kz) ?_
        refine wq_o4i wX11_findBest lX11_287 rfl dX11_best_41 (cf_s8 hC) (k_findBest hI (by omega) hp hq hiq (Or.inr rfl) _ hkk) rfl (Nat.le_of_ble_eq_true rfl) (Nat.le_of_ble_eq_true rfl) (fun h41 z41 => ?_)
        obtain ⟨t5, sl5, ls5, S5, V5, P5, A5, B5, Q5, rfl, i5, l5, o5, r5, f5, y3⟩ := z41
        have hC := i5.de.dc.ka.cf
        refine WQ.br (fun _ _ ka kb => pw_if_eq (tgt := 59) dX11_best_44 (by decide) ka kb) (fun c44 => ?_) (fun c44 => ?_)
        · rw [bI_0] at c44
          refine WQ.st (fun _ _ kz => pw_ldcw kX11_294 dX11_best_59 kz) ?_
          refine ⟨_, _, pw_iret dX11_best_62 rfl rfl rfl rfl, ?_⟩
          exact ⟨rI (by unfold sp_best; rw [c6, c14, Bool.true_and, if_pos (by rfl), if_pos c24, tp, tq, Int.toNat_natCast, Int.toNat_natCast]; unfold sp_tr bsT; rw [c44, if_neg (by decide)]), t5, sl5, ls5, S5, V5, P5, A5, B5, Q5, rfl, i5, by omega, o5, r5⟩
        · rw [bI_n] at c44
          refine WQ.st (fun _ _ kz => pw_aload0 dX11_best_47 kz) ?_
          refine WQ.st (fun _ _ kz => pw_getr gX11_96 dX11_best_48 (cf_s8 hC) (cf_p8_13 hC) kz) ?_
          refine WQ.st (fun _ _ kz => pw_iload4 dX11_best_51 kz) ?_
          refine wq_o1i wX10_tell lX11_291 rfl dX11_best_53 (cf_s107 hC) (k_tell hC c14) rfl (Nat.le_of_ble_eq_true rfl) (Nat.le_of_ble_eq_true rfl) (fun h53 z53 => ?_)
          subst z53
          refine WQ.st (fun _ _ kz => pw_goto (tgt := 62) dX11_best_56 (by decide) kz) ?_
          refine ⟨_, _, pw_iret dX11_best_62 rfl rfl rfl rfl, ?_⟩
          obtain ⟨u1, u2, u3⟩ := y3 (of_decide_eq_true c44)
          have hw12 : (w.toInt - 10).toNat < 12 := by
            unfold isT at c14
            rcases (Bool.or_eq_true _ _).mp c14 with h | h
            · have := of_decide_eq_true h; omega
            · have := of_decide_eq_true h; omega
          have es : sp_best al (nI p).toInt (nI q).toInt g w.toInt = (if w.toInt = 0 then bsT al p q g else if w.toInt = 1 then sI (bsS al p q g (lgN al q)).2 else if (w.toInt - 10).toNat < lgN al q then dI (bsS al p q g ((w.toInt - 10).toNat + 1)).1 else 9) := by
            unfold sp_best; rw [c6, c14, Bool.true_and, if_pos (by rfl), if_pos c24, tp, tq, Int.toNat_natCast, Int.toNat_natCast]
            unfold sp_tr
            have c44 : decide (bsT al p q g ≠ -268435456) = true := c44
            rw [if_pos c44]
          exact ⟨rI (by rw [es, u1, u2, u3 _ hw12]; rfl), t5, sl5, ls5, S5, V5, P5, A5, B5, Q5, rfl, i5, by omega, o5, r5⟩
      · rw [bI_0] at c24
        refine WQ.st (fun _ _ kz => pw_ldc kX11_123 dX11_best_27 kz) ?_
        refine ⟨_, _, pw_iret dX11_best_29 rfl rfl rfl rfl, ?_⟩
        exact ⟨rI (by unfold sp_best; rw [c6, c14, Bool.true_and, if_pos (by rfl), c24, if_neg (by decide)]), t, sl, ls, S, V, P, A, B, Q, rfl, hI, by omega, FrO.rfl, fun _ _ h => h⟩
    · rw [bI_0] at c14
      refine WQ.st (fun _ _ kz => pw_ldc kX11_155 dX11_best_17 kz) ?_
      refine ⟨_, _, pw_iret dX11_best_19 rfl rfl rfl rfl, ?_⟩
      exact ⟨rI (by unfold sp_best; rw [c14, Bool.and_false, if_neg (by decide)]), t, sl, ls, S, V, P, A, B, Q, rfl, hI, by omega, FrO.rfl, fun _ _ h => h⟩
set_option maxRecDepth 20000 in
theorem q_rows {G : gT} {d : Nat} {S : sS} {V : sV} {P : sP} {A : sV} {B : sB} {Q : sP} {t sl : Nat} {al : Nat → Int32} {W : WT} {sh ls : Nat} (hI : CI S V P A B Q t al W sh ls) (hls : ls + 1000 < 2000000000) (x y e : Int32) : WQ G (d + 9) mX11_rows 0 [some (.ref 8), some (.int x), some (.int y), some (.int e)] [] (t, sl, gh S V P A B Q) (CZ S V P A B Q t sl W sh ls (.long (sp_rows al x.toInt y.toInt e.toInt)) al) := by
  unfold CZ
  have hE := hI.de
  have hC := hE.dc.ka.cf
  have hD := hE.dc.ka.dv
  have hSe := hE.dc.ka.se
  have hA := hI.av
  have hp5 := hD.p5
  have hn4 := hD.n4
  refine WQ.st (fun _ _ kz => pw_aload0 dX11_rows_0 kz) ?_
  refine WQ.st (fun _ _ kz => pw_iload1 dX11_rows_1 kz) ?_
  refine WQ.st (fun _ _ kz => pw_iload2 dX11_rows_2 kz) ?_
  refine wq_o2i wX11_hasBoth lX11_262 rfl dX11_rows_3 (cf_s8 hC) (k_hasBoth hI _ _) rfl (Nat.le_of_ble_eq_true rfl) (Nat.le_of_ble_eq_true rfl) (fun h3 z3 => ?_)
  subst z3
  refine WQ.bn (fun _ _ ka kb => pw_if_ne (tgt := 13) dX11_rows_6 (by decide) ka kb) (fun c6 => ?_) (fun c6 => ?_)
  · rw [bI_n] at c6
    have hb2 := (Bool.and_eq_true _ _).mp c6
    have hiq := hb2.2
    have gx := isP_t hb2.1
    obtain ⟨p, rfl, tp, lp⟩ := nI_get gx.1 gx.2 (by omega)
    have hp : p < 5 := by omega
    have gy := isQ_t hb2.2
    obtain ⟨q, rfl, tq, lq⟩ := nI_get gy.1 gy.2 (by omega)
    have hq : q < 4 := by omega
    have hkk : ∀ b w, b < lgN al q → w < 5 → kpM (A 109) b w = kpA b w := fun b w hb hw => ev_kp hE.dc.ev b w (by have := (hD.lgE hq).2; omega) hw
    refine WQ.st (fun _ _ kz => pw_iload3 dX11_rows_13 kz) ?_
    refine wq_s1i wX11_isStore lX11_281 dX11_rows_14 (k_isStore _) rfl (Nat.le_of_ble_eq_true rfl) (Nat.le_of_ble_eq_true rfl) (fun h14 z14 => ?_)
    subst z14
    refine WQ.bn (fun _ _ ka kb => pw_if_ne (tgt := 24) dX11_rows_17 (by decide) ka kb) (fun c17 => ?_) (fun c17 => ?_)
    · rw [bI_n] at c17
      have he := of_decide_eq_true c17
      obtain ⟨ee, he41, rfl⟩ : ∃ ee : Nat, ee < 41 ∧ e = sI ee := ⟨(e.toInt + 20).toNat, by omega, sI_of he.1 (by omega)⟩
      refine WQ.st (fun _ _ kz => pw_aload0 dX11_rows_24 kz) ?_
      refine WQ.st (fun _ _ kz => pw_iload1 dX11_rows_25 kz) ?_
      refine WQ.st (fun _ _ kz => pw_iload2 dX11_rows_26 kz) ?_
      refine wq_o2v wX11_takeUp lX11_186 rfl dX11_rows_27 (cf_s8 hC) (k_take hI (by omega) hp hq hiq) rfl (Nat.le_of_ble_eq_true rfl) (Nat.le_of_ble_eq_true rfl) (fun h27 z27 => ?_)
      obtain ⟨tm, hat, t5, sl5, ls5, S5, V5, P5, A5, B5, Q5, rfl, k5, i5, l5, f5, r5⟩ := z27
      have hC := k5.cf
      have hE5 := i5.de
      obtain ⟨es0, hs0⟩ := hE5.kv.stE hp
      refine WQ.st (fun _ _ kz => pw_aload0 dX11_rows_30 kz) ?_
      refine WQ.st (fun _ _ kz => pw_getr gX11_96 dX11_rows_31 (cf_s8 hC) (cf_p8_13 hC) kz) ?_
      refine WQ.st (fun _ _ kz => pw_aload0 dX11_rows_34 kz) ?_
      refine WQ.st (fun _ _ kz => pw_getr gX11_35 dX11_rows_35 (cf_s8 hC) (cf_p8_5 hC) kz) ?_
      refine WQ.st (fun _ _ kz => pw_getr gX11_156 dX11_rows_38 (cf_s16 hC) (cf_p16_0 hC) kz) ?_
      refine WQ.st (fun _ _ kz => pw_iload1 dX11_rows_41 kz) ?_
      refine WQ.st (fun _ _ kz => pw_ald (j := p) dX11_rows_42 (cf_s17 hC) (ix_m rfl (by omega)) (by omega) kz) ?_
      rw [hE5.se.st hp, es0]
      refine WQ.st (fun _ _ kz => pw_iload3 dX11_rows_43 kz) ?_
      refine WQ.st (fun _ _ kz => pw_aload0 dX11_rows_44 kz) ?_
      refine WQ.st (fun _ _ kz => pw_getr gX11_96 dX11_rows_45 (cf_s8 hC) (cf_p8_13 hC) kz) ?_
      refine WQ.st (fun _ _ kz => pw_getr gX11_284 dX11_rows_48 (cf_s107 hC) (cf_p107_1 hC) kz) ?_
      refine wq_o3i wX10_howMany lX11_299 rfl dX11_rows_51 (cf_s107 hC) (k_howMany k5 i5.de.dc.rh (am := 109) (cf_s109 hC) (Or.inr rfl) hs0) rfl (Nat.le_of_ble_eq_true rfl) (Nat.le_of_ble_eq_true rfl) (fun h51 z51 => ?_)
      obtain ⟨P6, A6, B6, rfl, k6, rh6, p1, p2, f6⟩ := z51
      refine ⟨_, _, pw_lret dX11_rows_54 rfl rfl rfl, ?_⟩
      have i6 := i5.step k6 ((FrD.p (fun x hx => p1 x (by omega))).tr f6.d) (f6.2.1 109 (by omega) (by omega) (by omega)) (i5.de.dc.hb.to (p1 103 (by omega))) rh6 (i5.de.dc.hw.to (p2 7 (by omega) (by omega)) (p2 8 (by omega) (by omega)))
      have hO : FrO S V P A B t S5 V5 P6 A6 B6 t5 := ((FrT.d (a := 20) f5).o (Or.inr rfl)).tr (((FrD.p (a := 20) (S := S5) (V := V5) (A := A5) (B := B5) (Q := Q5) (t := t5) (fun x hx => p1 x (by omega))).tr f6.d).o (Or.inr rfl))
      have hn12 := (hD.lgE hq).2
      have hkk5 : ∀ b w, b < lgN al q → w < 5 → kpM (A5 109) b w = kpA b w := fun b w hb hw => ev_kp i5.de.dc.ev b w (by omega) hw
      refine ⟨rL ?_, t5, sl5, ls5, S5, V5, P6, A6, B6, Q5, rfl, i6, by omega, hO, r5⟩
      have te : (sI ee).toInt = (ee : Int) - 20 := sI_t (by omega)
      have te2 : ((sI ee).toInt + 20).toNat = ee := by omega
      unfold sp_rows
      rw [if_pos c6, if_pos c17, tp, tq, Int.toNat_natCast, Int.toNat_natCast, te2, hm_at (wtC_TT hD hp k5.r.2.1 hq hn12) he41, hat]
      unfold mnC
      congr 1
      exact sm_cong _ (fun l hl => rf_c_ck hkk5 _ (Nat.le_refl _) l ee hl)
    · rw [bI_0] at c17
      refine WQ.st (fun _ _ kz => pw_ldc2 kX11_297 dX11_rows_20 kz) ?_
      refine ⟨_, _, pw_lret dX11_rows_23 rfl rfl rfl, ?_⟩
      exact ⟨rL (by unfold sp_rows; rw [if_pos c6, c17, if_neg (by decide)]), t, sl, ls, S, V, P, A, B, Q, rfl, hI, by omega, FrO.rfl, fun _ _ h => h⟩
  · rw [bI_0] at c6
    refine WQ.st (fun _ _ kz => pw_ldc2 kX11_295 dX11_rows_9 kz) ?_
    refine ⟨_, _, pw_lret dX11_rows_12 rfl rfl rfl, ?_⟩
    exact ⟨rL (by unfold sp_rows; rw [c6, if_neg (by decide)]), t, sl, ls, S, V, P, A, B, Q, rfl, hI, by omega, FrO.rfl, fun _ _ h => h⟩
