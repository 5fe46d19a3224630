/-! ===== the class: Deeds ===== -/
def DE (S : sS) (V : sV) (P : sP) (A : sV) (B : sB) (Q : sP) (t : Nat) (al : Nat → Int32) (sh ls a : Nat) : Prop := DC S V P A B Q t al sh ls ∧ KV (al 2).toInt (fun k => al (75 + k)) ∧ StE V A a (fun k => al (75 + k)) ∧ (a = 16 ∨ a = 20)
section DES
variable {S : sS} {V : sV} {P : sP} {A : sV} {B : sB} {Q : sP} {t : Nat} {al : Nat → Int32} {sh ls a : Nat}
theorem DE.dc (h : DE S V P A B Q t al sh ls a) : DC S V P A B Q t al sh ls := h.1
theorem DE.kv (h : DE S V P A B Q t al sh ls a) : KV (al 2).toInt (fun k => al (75 + k)) := h.2.1
theorem DE.se (h : DE S V P A B Q t al sh ls a) : StE V A a (fun k => al (75 + k)) := h.2.2.1
theorem DE.a2 (h : DE S V P A B Q t al sh ls a) : a = 16 ∨ a = 20 := h.2.2.2
theorem DE.st (h : DE S V P A B Q t al sh ls a) : ST S P a := by
  rcases h.a2 with e | e
  · rw [e]; exact cf_st16 h.dc.ka.cf
  · rw [e]; exact cf_st20 h.dc.ka.cf
end DES
theorem ev_kp {f : Nat → Int32} (h : ∀ i, i < 12 → f i = 31) : ∀ b w, b < 12 → w < 5 → kpM f b w = kpA b w := by
  intro b w hb hw
  unfold kpM kpA
  rw [h b hb]
  rcases (show w = 0 ∨ w = 1 ∨ w = 2 ∨ w = 3 ∨ w = 4 by omega) with rfl | rfl | rfl | rfl | rfl <;> decide
set_option maxRecDepth 20000 in
theorem k_follow2 {G : gT} {d : Nat} {S : sS} {V : sV} {P : sP} {A : sV} {B : sB} {Q : sP} {t sl : Nat} {al : Nat → Int32} {sh ls p tm q : Nat} (hK : KB S V P A B Q t al sh ls p tm q) {kp kp' : Nat → Nat → Bool} {e : Nat → Int32} (he : ∀ s, s < 41 → bnd 0 (e s)) (hk : ∀ b w, b < (lgN al q) → w < 5 → kp b w = kp' b w) {lo hi s0 : Nat} (hR : SR A (TT (atm al p tm) p q) kp (lgN al q) e (asks al 6) lo hi 0) (h0 : s0 < 41) (hlo : lo ≤ s0) (hhi : s0 ≤ hi) : WQ G (d + 2) mX10_follow 0 [some (.ref 107), some (.int (sI s0)), none, none, none] [] (t, sl, gh S V P A B Q) (fun r h' => r = some (.int (bI (decide (rf_T (TT (atm al p tm) p q) kp' (lgN al q) e (lgN al q) 2 s0 ≠ -268435456)))) ∧ ∃ V' A' : sV, h' = (t, sl, gh S V' P A' B Q) ∧ (∀ x, x ≠ 107 → V' x = V x) ∧ (∀ x, x ≠ 108 → A' x = A x) ∧ (rf_T (TT (atm al p tm) p q) kp' (lgN al q) e (lgN al q) 2 s0 ≠ -268435456 → V' 107 2 = rf_T (TT (atm al p tm) p q) kp' (lgN al q) e (lgN al q) 2 s0 ∧ V' 107 3 = sI (rf_st (TT (atm al p tm) p q) kp' (lgN al q) e s0 (lgN al q)).2 ∧ ∀ b, b < 12 → A' 108 b = if b < (lgN al q) then dI (rf_st (TT (atm al p tm) p q) kp' (lgN al q) e s0 (b + 1)).1 else 9)) := by
  have hn := hK.len
  have eT : rf_T (TT (atm al p tm) p q) kp (lgN al q) e (lgN al q) 2 s0 = rf_T (TT (atm al p tm) p q) kp' (lgN al q) e (lgN al q) 2 s0 := rf_T_cong (fun _ _ _ _ _ _ _ _ => rfl) hk (fun b l s w _ _ _ _ h => TT_in h) _ (Nat.le_refl _) 2 s0 (by omega) h0
  refine (k_follow hK he hR h0 hlo hhi).imp (fun r h' z => ?_)
  rw [eT] at z
  rcases z with ⟨hne, rfl, V', A', rfl, z1, z2, z3, z4, z5⟩ | ⟨hc, rfl, rfl⟩
  · have es : ∀ b, b ≤ (lgN al q) → rf_st (TT (atm al p tm) p q) kp (lgN al q) e s0 b = rf_st (TT (atm al p tm) p q) kp' (lgN al q) e s0 b := rf_st_cong h0 (fun _ _ _ _ _ _ _ _ => rfl) hk (fun b l s w _ _ _ _ h => TT_in h) hne
    refine ⟨by rw [decide_eq_true hne]; rfl, V', A', rfl, z1, z4, fun _ => ⟨z2, by rw [z3, es _ (Nat.le_refl _)], fun b hb => ?_⟩⟩
    rw [z5 b hb]
    by_cases g : b < (lgN al q)
    · rw [if_pos g, if_pos g, es _ (by omega)]
    · rw [if_neg g, if_neg g]
  · exact ⟨by rw [decide_eq_false (fun q => q hc)]; rfl, _, A, rfl, fun x hx => up2_na hx, fun _ _ => rfl, fun q => absurd hc q⟩
set_option maxRecDepth 20000 in
theorem k_whyNotPlay {G : gT} {d : Nat} {S : sS} {V : sV} {P : sP} {A : sV} {B : sB} {Q : sP} {t sl : Nat} {al : Nat → Int32} {sh ls a : Nat} (hE : DE S V P A B Q t al sh ls a) (x y : Int32) : WQ G (d + 2) mX2_whyNotPlay 0 [some (.ref 137), some (.ref a), some (.int x), some (.int y)] [] (t, sl, gh S V P A B Q) (fun r h' => r = some (.int (sp_wp al x.toInt y.toInt)) ∧ h' = (t, sl, gh S V P A B Q)) := by
  have hC := hE.dc.ka.cf
  have hD := hE.dc.ka.dv
  have hSe := hE.dc.ka.se
  have hST := hE.st
  have ha := hE.a2
  have hsa := hE.dc.ka.sa
  refine WQ.st (fun _ _ kz => pw_aload0 dX2_whyNotPlay_0 kz) ?_
  refine WQ.st (fun _ _ kz => pw_getr gX2_18 dX2_whyNotPlay_1 (cf_s137 hC) (cf_p137_1 hC) kz) ?_
  refine WQ.st (fun _ _ kz => pw_getr gX2_78 dX2_whyNotPlay_4 (cf_s96 hC) hE.dc.ka.p2 kz) ?_
  refine WQ.st (fun _ _ kz => pw_iload2 dX2_whyNotPlay_7 kz) ?_
  refine wq_o1i wX7_hasPlayer lX2_82 rfl dX2_whyNotPlay_8 (sh_s0 hE.dc.ka.hsh) (k_hasPlayer hE.dc.ka.hsh hSe hD _) rfl (Nat.le_of_ble_eq_true rfl) (Nat.le_of_ble_eq_true rfl) (fun h8 z8 => ?_)
  subst z8
  refine WQ.br (fun _ _ ka kb => pw_if_eq (tgt := 28) dX2_whyNotPlay_11 (by decide) ka kb) (fun c11 => ?_) (fun c11 => ?_)
  · rw [bI_0] at c11
    refine WQ.st (fun _ _ kz => pw_iconst (v := 1) dX2_whyNotPlay_28 (by decide) kz) ?_
    refine ⟨_, _, pw_iret dX2_whyNotPlay_29 rfl rfl rfl rfl, ?_⟩
    exact ⟨by unfold sp_wp; rw [c11, Bool.false_and, if_neg (by decide)], rfl⟩
  · rw [bI_n] at c11
    refine WQ.st (fun _ _ kz => pw_aload0 dX2_whyNotPlay_14 kz) ?_
    refine WQ.st (fun _ _ kz => pw_getr gX2_18 dX2_whyNotPlay_15 (cf_s137 hC) (cf_p137_1 hC) kz) ?_
    refine WQ.st (fun _ _ kz => pw_getr gX2_78 dX2_whyNotPlay_18 (cf_s96 hC) hE.dc.ka.p2 kz) ?_
    refine WQ.st (fun _ _ kz => pw_iload3 dX2_whyNotPlay_21 kz) ?_
    refine wq_o1i wX7_hasPiece lX2_87 rfl dX2_whyNotPlay_22 (sh_s0 hE.dc.ka.hsh) (k_hasPiece hE.dc.ka.hsh hSe hD _) rfl (Nat.le_of_ble_eq_true rfl) (Nat.le_of_ble_eq_true rfl) (fun h22 z22 => ?_)
    subst z22
    refine WQ.bn (fun _ _ ka kb => pw_if_ne (tgt := 30) dX2_whyNotPlay_25 (by decide) ka kb) (fun c25 => ?_) (fun c25 => ?_)
    · rw [bI_n] at c25
      have g1 := isP_t c11
      have hp5 := hD.p5
      obtain ⟨p, rfl, tp, lp⟩ := nI_get g1.1 g1.2 (by omega)
      have hp : p < 5 := by omega
      refine WQ.st (fun _ _ kz => pw_aload1 dX2_whyNotPlay_30 kz) ?_
      refine WQ.st (fun _ _ kz => pw_iload2 dX2_whyNotPlay_31 kz) ?_
      refine wq_o1i wX8_isBarred lX2_90 rfl dX2_whyNotPlay_32 (st_s0 hST) (k_isBarred hST _) rfl (Nat.le_of_ble_eq_true rfl) (Nat.le_of_ble_eq_true rfl) (fun h32 z32 => ?_)
      subst z32
      refine WQ.br (fun _ _ ka kb => pw_if_eq (tgt := 42) dX2_whyNotPlay_35 (by decide) ka kb) (fun c35 => ?_) (fun c35 => ?_)
      · rw [bI_0] at c35
        rw [brd_b hp hE.se.1] at c35
        refine WQ.st (fun _ _ kz => pw_iconst (v := 0) dX2_whyNotPlay_42 (by decide) kz) ?_
        refine ⟨_, _, pw_iret dX2_whyNotPlay_43 rfl rfl rfl rfl, ?_⟩
        have c35 : brd (al 75).toInt p = false := c35
        exact ⟨by unfold sp_wp; rw [c11, c25, Bool.true_and, if_pos (by rfl), tp, Int.toNat_natCast, c35, if_neg (by decide)], rfl⟩
      · rw [bI_n] at c35
        rw [brd_b hp hE.se.1] at c35
        refine WQ.st (fun _ _ kz => pw_iconst (v := 2) dX2_whyNotPlay_38 (by decide) kz) ?_
        refine WQ.st (fun _ _ kz => pw_goto (tgt := 43) dX2_whyNotPlay_39 (by decide) kz) ?_
        refine ⟨_, _, pw_iret dX2_whyNotPlay_43 rfl rfl rfl rfl, ?_⟩
        have c35 : brd (al 75).toInt p = true := c35
        exact ⟨by unfold sp_wp; rw [c11, c25, Bool.true_and, if_pos (by rfl), tp, Int.toNat_natCast, c35, if_pos (by rfl)], rfl⟩
    · rw [bI_0] at c25
      refine WQ.st (fun _ _ kz => pw_iconst (v := 1) dX2_whyNotPlay_28 (by decide) kz) ?_
      refine ⟨_, _, pw_iret dX2_whyNotPlay_29 rfl rfl rfl rfl, ?_⟩
      exact ⟨by unfold sp_wp; rw [c11, c25, Bool.and_false, if_neg (by decide)], rfl⟩
theorem StE.plays {V A V' A' : sV} {a : Nat} {al : Nat → Int32} (h : StE V A a (fun k => al (75 + k))) {p : Nat} (hp : p < 5) {g s : Int32} (hV : V' a = V a) (h1 : A' (a + 1) = pm_up (A (a + 1)) p s) (h2 : A' (a + 2) = pm_up (A (a + 2)) p (rf_jo (A (a + 2) p + g))) (h3 : A' (a + 3) = A (a + 3)) : StE V' A' a (fun k => sp_plays al p g s (75 + k)) := by
  have hj := h.jo hp
  refine ⟨?_, ?_, fun i hi => ?_, fun i hi => ?_, fun i hi => ?_⟩
  · rw [hV]
    show _ = sp_plays al p g s 75
    rw [show sp_plays al p g s 75 = al 75 from by unfold sp_plays; rw [pm_up_ne (by omega), pm_up_ne (by omega)]]
    exact h.1
  · rw [hV]
    show _ = sp_plays al p g s 76
    rw [show sp_plays al p g s 76 = al 76 from by unfold sp_plays; rw [pm_up_ne (by omega), pm_up_ne (by omega)]]
    exact h.2.1
  · rw [h1]
    show _ = sp_plays al p g s (75 + (2 + i))
    unfold sp_plays
    rw [pm_up_ne (show 75 + (2 + i) ≠ 82 + p by omega)]
    unfold pm_up
    by_cases e : i = p
    · rw [if_pos e, if_pos (by omega)]
    · rw [if_neg e, if_neg (by omega)]
      exact h.2.2.1 i hi
  · rw [h2]
    show _ = sp_plays al p g s (75 + (7 + i))
    unfold sp_plays
    by_cases e : i = p
    · subst e
      rw [pm_up_eq, show 75 + (7 + i) = 82 + i by omega, pm_up_eq, hj]
    · rw [pm_up_ne e, pm_up_ne (by omega), pm_up_ne (by omega)]
      exact h.2.2.2.1 i hi
  · rw [h3]
    show _ = sp_plays al p g s (75 + (12 + i))
    unfold sp_plays
    rw [pm_up_ne (by omega), pm_up_ne (by omega)]
    exact h.2.2.2.2 i hi
