/-! ===== the class: Course.chances ===== -/
def HB (P : sP) : Prop := ∃ hh hb : Nat, P 103 5 = some hh ∧ P 103 6 = some hb ∧ ((hh = 105 ∧ hb = 106) ∨ (hh = 106 ∧ hb = 105))
theorem dI_two : (0 : Int32) = dI 2 := by decide
theorem k_placeOf0 {G : gT} {d : Nat} {h : Ph} (s : Nat) : WQ G d mX0_placeOf 0 [some (.int (sI s)), some (.int 0)] [] h (fun r h' => r = some (.int (nI (s * 5 + 2))) ∧ h' = h) := by
  rw [dI_two]
  exact k_placeOf s 2
theorem k_placeOfm {G : gT} {d : Nat} {h : Ph} (s : Nat) : WQ G d mX0_placeOf 0 [some (.int (sI s)), some (.int (-2))] [] h (fun r h' => r = some (.int (nI (s * 5))) ∧ h' = h) := by
  rw [dI_m2]
  exact k_placeOf s 0
theorem cIt_sum {wt : Nat → Nat → Nat → Nat → Nat} {bl : Bool} {s0 n g0 : Nat} (hw : ∀ b, b < n → wtOK (wt b) bl) (hg : g0 < 41) : sm (fun i => cIt wt bl s0 n (g0 * 5 + i)) (205 - g0 * 5) = sm (fun i => sm (fun l => rIt wt s0 n l (g0 + i)) 5) (41 - g0) := by
  rw [show 205 - g0 * 5 = (41 - g0) * 5 by omega, sm_blk _ 5 (41 - g0)]
  refine sm_cong _ (fun i hi => ?_)
  rw [← (cIt_rel hw n (Nat.le_refl n)).st (s := g0 + i) (by omega)]
  exact sm_cong 5 (fun l _ => congrArg _ (by omega))
set_option maxRecDepth 20000 in
theorem l_chSum {G : gT} {d : Nat} {S : sS} {V : sV} {P : sP} {A : sV} {B : sB} {Q : sP} {t sl : Nat} {al : Nat → Int32} {sh ls p tm q : Nat} (hK : KB S V P A B Q t al sh ls p tm q) {hh s0 g0 : Nat} {c : Nat → Nat} (h5 : P 103 5 = some hh) (sh5 : S hh = (22, 205)) (hc0 : ∀ j, j < 205 → B hh j = lN (c j)) : ∀ (m j : Nat), j + m = 205 → g0 * 5 ≤ j → WQ G d mX1_chances 53 [some (.ref 103), some (.int (sI s0)), some (.int (sI g0)), some (.long (lN (sm (fun i => c (g0 * 5 + i)) (j - g0 * 5)))), none, some (.int (nI j))] [] (t, sl, gh S V P A B Q) (fun r h' => r = some (.long (lN (sm (fun i => c (g0 * 5 + i)) (205 - g0 * 5)))) ∧ h' = (t, sl, gh S V P A B Q)) := by
  intro m
  induction m with
  | zero =>
    intro j hj hg
    have hj : j = 205 := hj
    subst hj
    refine WQ.st (fun _ _ kz => pw_iload5 dX1_chances_53 kz) ?_
    refine WQ.st (fun _ _ kz => pw_sipush (v := 205) dX1_chances_55 (by decide) kz) ?_
    refine WQ.br (fun _ _ ka kb => pw_icmp_ge (tgt := 77) dX1_chances_58 (by decide) ka kb) (fun c58 => ?_) (fun c58 => absurd (by decide) c58)
    refine WQ.st (fun _ _ kz => pw_lload3 dX1_chances_77 kz) ?_
    refine ⟨_, _, pw_lret dX1_chances_78 rfl rfl rfl, ?_⟩
    exact ⟨rfl, rfl⟩
  | succ m ih =>
    intro j hj hg
    refine WQ.st (fun _ _ kz => pw_iload5 dX1_chances_53 kz) ?_
    refine WQ.st (fun _ _ kz => pw_sipush (v := 205) dX1_chances_55 (by decide) kz) ?_
    refine WQ.br (fun _ _ ka kb => pw_icmp_ge (tgt := 77) dX1_chances_58 (by decide) ka kb) (fun c58 => absurd c58 (by rw [show (205 : Int32) = nI 205 from rfl, le_i (ix_n (j := 205) (by omega)) (ix_n (j := j) (by omega))]; omega)) (fun c58 => ?_)
    refine WQ.st (fun _ _ kz => pw_lload3 dX1_chances_61 kz) ?_
    refine WQ.st (fun _ _ kz => pw_aload0 dX1_chances_62 kz) ?_
    refine WQ.st (fun _ _ kz => pw_getr gX1_25 dX1_chances_63 (cf_s103 hK.cf) h5 kz) ?_
    refine WQ.st (fun _ _ kz => pw_iload5 dX1_chances_66 kz) ?_
    refine WQ.st (fun _ _ kz => pw_lld (j := j) dX1_chances_68 sh5 (ix_m rfl (by omega)) (by omega) kz) ?_
    rw [hc0 j (by omega)]
    refine WQ.st (fun _ _ kz => pw_ladd dX1_chances_69 kz) ?_
    rw [lN_add, show sm (fun i => c (g0 * 5 + i)) (j - g0 * 5) + c j = sm (fun i => c (g0 * 5 + i)) (j + 1 - g0 * 5) from by rw [show j + 1 - g0 * 5 = (j - g0 * 5) + 1 by omega, sm, show g0 * 5 + (j - g0 * 5) = j by omega]]
    refine WQ.st (fun _ _ kz => pw_lstore3 dX1_chances_70 (by decide) (k := kz)) ?_
    refine WQ.st (fun _ _ kz => pw_iinc5 (v := 1) dX1_chances_71 (by decide) (by decide) (k := kz)) ?_
    refine WQ.st (fun _ _ kz => pw_goto (tgt := 53) dX1_chances_74 (by decide) kz) ?_
    rw [nI_1]
    exact ih (j + 1) (by omega) (by omega)
set_option maxRecDepth 20000 in
theorem l_chances {G : gT} {d : Nat} {S : sS} {V : sV} {Q : sP} {t sl : Nat} {al : Nat → Int32} {sh ls p tm q : Nat} {P0 : sP} {A0 : sV} {B0 : sB} {k s0 g0 : Nat} (hk3 : al 3 = nI k) (hk : k ≤ 10) (hg : g0 < 41) : ∀ (m b : Nat) (P : sP) (A : sV) (B : sB) (hh hb : Nat), b + m = (lgN al q) → KB S V P A B Q t al sh ls p tm q → P 103 5 = some hh → P 103 6 = some hb → ((hh = 105 ∧ hb = 106) ∨ (hh = 106 ∧ hb = 105)) → (∀ j, j < 205 → B hh j = lN (cIt (wtH (TT (atm al p tm) p q) k) (asks al 6) s0 b j)) → (∀ x, x ≠ 103 → P x = P0 x) → FrC V A0 B0 V A B → WQ G (d + 5) mX1_chances 21 [some (.ref 103), some (.int (sI s0)), some (.int (sI g0)), some (.int (nI b)), none, none] [] (t, sl, gh S V P A B Q) (fun r h' => r = some (.long (lN (rf_hs (TT (atm al p tm) p q) k s0 (lgN al q) g0))) ∧ ∃ (P' : sP) (A' : sV) (B' : sB), h' = (t, sl, gh S V P' A' B' Q) ∧ KB S V P' A' B' Q t al sh ls p tm q ∧ HB P' ∧ (∀ x, x ≠ 103 → P' x = P0 x) ∧ FrC V A0 B0 V A' B') := by
  intro m
  induction m with
  | zero =>
    intro b P A B hh hb hb0 hK h5 h6 hhb hc0 hP0 hF
    have hn := hK.len
    obtain ⟨hp, ht, hq⟩ := hK.r
    have sh5 : S hh = (22, 205) := by rcases hhb with ⟨h, -⟩ | ⟨h, -⟩ <;> subst h <;> first | exact cf_s105 hK.cf | exact cf_s106 hK.cf
    have hb0 : b = (lgN al q) := hb0
    subst hb0
    refine WQ.st (fun _ _ kz => pw_iload3 dX1_chances_21 kz) ?_
    refine WQ.st (fun _ _ kz => pw_aload0 dX1_chances_22 kz) ?_
    refine WQ.st (fun _ _ kz => pw_getr gX1_32 dX1_chances_23 (cf_s103 hK.cf) (cf_p103_3 hK.cf) kz) ?_
    refine WQ.st (fun _ _ kz => pw_geti gX1_42 dX1_chances_26 (cf_s96 hK.cf) kz) ?_
    rw [hn.1]
    refine WQ.br (fun _ _ ka kb => pw_icmp_ge (tgt := 43) dX1_chances_29 (by decide) ka kb) (fun c29 => ?_) (fun c29 => absurd (Int32.le_refl _) c29)
    refine WQ.st (fun _ _ kz => pw_lconst (v := 0) dX1_chances_43 (by decide) kz) ?_
    refine WQ.st (fun _ _ kz => pw_lstore3 dX1_chances_44 (by decide) (k := kz)) ?_
    refine WQ.st (fun _ _ kz => pw_iload2 dX1_chances_45 kz) ?_
    refine WQ.st (fun _ _ kz => pw_bipush (v := -2) dX1_chances_46 (by decide) kz) ?_
    refine wq_s2i wX0_placeOf lX1_67 dX1_chances_48 (k_placeOfm _) rfl (Nat.le_of_ble_eq_true rfl) (Nat.le_of_ble_eq_true rfl) (fun h48 z48 => ?_)
    subst z48
    refine WQ.st (fun _ _ kz => pw_istore5 dX1_chances_51 (by decide) (k := kz)) ?_
    have hs9 : sm (fun i => cIt (wtH (TT (atm al p tm) p q) k) (asks al 6) s0 (lgN al q) (g0 * 5 + i)) (205 - g0 * 5) = rf_hs (TT (atm al p tm) p q) k s0 (lgN al q) g0 := by
      rw [cIt_sum (fun b hb => wtH_ok (fun l s w hl hs hw h => TT_in h) (fun h l s w hl hs hw => TT_l2 hK.dv hp ht hq h (by omega) hl hs hw)) hg]
      unfold rf_hs
      exact sm_cong _ (fun i _ => sm_cong 5 (fun l _ => wtH_rf _ _ _))
    have k9 := l_chSum (G := G) (d := d + 5) (V := V) (A := A) (Q := Q) (t := t) (sl := sl) (hh := hh) (s0 := s0) (g0 := g0) hK h5 sh5 hc0 (205 - g0 * 5) (g0 * 5) (by omega) (Nat.le_refl _)
    rw [Nat.sub_self] at k9
    refine k9.imp (fun r h' z => ?_)
    obtain ⟨rfl, rfl⟩ := z
    exact ⟨by rw [hs9], P, A, B, rfl, hK, ⟨hh, hb, h5, h6, hhb⟩, hP0, hF⟩
  | succ m ih =>
    intro b P A B hh hb hb0 hK h5 h6 hhb hc0 hP0 hF
    have hn := hK.len
    have hle : ∀ b, b ≤ (lgN al q) → sm (cIt (wtH (TT (atm al p tm) p q) k) (asks al 6) s0 b) 205 ≤ 1000000000000 := fun b hb => Nat.le_trans (cIt_le (n := (lgN al q)) (fun b l s _ _ _ => wtH_le hk b l s) b hb) (p10_12 (by omega))
    refine WQ.st (fun _ _ kz => pw_iload3 dX1_chances_21 kz) ?_
    refine WQ.st (fun _ _ kz => pw_aload0 dX1_chances_22 kz) ?_
    refine WQ.st (fun _ _ kz => pw_getr gX1_32 dX1_chances_23 (cf_s103 hK.cf) (cf_p103_3 hK.cf) kz) ?_
    refine WQ.st (fun _ _ kz => pw_geti gX1_42 dX1_chances_26 (cf_s96 hK.cf) kz) ?_
    rw [hn.1]
    refine WQ.br (fun _ _ ka kb => pw_icmp_ge (tgt := 43) dX1_chances_29 (by decide) ka kb) (fun c29 => absurd c29 (by rw [le_i (ix_n (j := (lgN al q)) (by omega)) (ix_n (j := b) (by omega))]; omega)) (fun c29 => ?_)
    refine WQ.st (fun _ _ kz => pw_aload0 dX1_chances_32 kz) ?_
    refine WQ.st (fun _ _ kz => pw_iload3 dX1_chances_33 kz) ?_
    refine wq_o1v wX1_slipAt lX1_71 rfl dX1_chances_34 (cf_s103 hK.cf) (k_slipAt hK h5 h6 hhb (b := b) (by omega) hk3 hk (fun j hj => by have := sm_at (f := cIt (wtH (TT (atm al p tm) p q) k) (asks al 6) s0 b) hj; have := hle b (by omega); omega) hc0) rfl (Nat.le_of_ble_eq_true rfl) (Nat.le_of_ble_eq_true rfl) (fun h34 z34 => ?_)
    obtain ⟨A1, B1, rfl, hK1, hB1, hF1⟩ := z34
    refine WQ.st (fun _ _ kz => pw_iinc3 (v := 1) dX1_chances_37 (by decide) (by decide) (k := kz)) ?_
    refine WQ.st (fun _ _ kz => pw_goto (tgt := 21) dX1_chances_40 (by decide) kz) ?_
    rw [nI_1]
    exact ih (b + 1) _ A1 B1 hb hh (by omega) hK1 (by rw [up2_nk (by decide), up2_eq]) up2_eq (by omega) hB1 (fun x hx => by rw [up2_na hx, up2_na hx]; exact hP0 x hx) (hF.tr hF1)
set_option maxRecDepth 20000 in
theorem k_chances {G : gT} {d : Nat} {S : sS} {V : sV} {P : sP} {A : sV} {B : sB} {Q : sP} {t sl : Nat} {al : Nat → Int32} {sh ls p tm q : Nat} (hK : KB S V P A B Q t al sh ls p tm q) (hHB : HB P) {k s0 g0 : Nat} (hk3 : al 3 = nI k) (hk : k ≤ 10) (h0 : s0 < 41) (hg : g0 < 41) : WQ G (d + 5) mX1_chances 0 [some (.ref 103), some (.int (sI s0)), some (.int (sI g0)), none, none, none] [] (t, sl, gh S V P A B Q) (fun r h' => r = some (.long (lN (rf_hs (TT (atm al p tm) p q) k s0 (lgN al q) g0))) ∧ ∃ (P' : sP) (A' : sV) (B' : sB), h' = (t, sl, gh S V P' A' B' Q) ∧ KB S V P' A' B' Q t al sh ls p tm q ∧ HB P' ∧ (∀ x, x ≠ 103 → P' x = P x) ∧ FrC V A B V A' B') := by
  obtain ⟨hh, hb, h5, h6, hhb⟩ := hHB
  have sh5 : S hh = (22, 205) := by rcases hhb with ⟨h, -⟩ | ⟨h, -⟩ <;> subst h <;> first | exact cf_s105 hK.cf | exact cf_s106 hK.cf
  refine WQ.st (fun _ _ kz => pw_aload0 dX1_chances_0 kz) ?_
  refine WQ.st (fun _ _ kz => pw_getr gX1_25 dX1_chances_1 (cf_s103 hK.cf) h5 kz) ?_
  refine WQ.st (fun _ _ kz => pw_lconst (v := 0) dX1_chances_4 (by decide) kz) ?_
  refine WQ.st (fun _ _ kz => pw_s2v wJ7_fill_d0a16 lX1_64 dX1_chances_5 (c_filll sh5 (by omega) _) rfl (Nat.le_of_ble_eq_true rfl) (Nat.le_of_ble_eq_true rfl) kz) ?_
  refine WQ.st (fun _ _ kz => pw_aload0 dX1_chances_8 kz) ?_
  refine WQ.st (fun _ _ kz => pw_getr gX1_25 dX1_chances_9 (cf_s103 hK.cf) h5 kz) ?_
  refine WQ.st (fun _ _ kz => pw_iload1 dX1_chances_12 kz) ?_
  refine WQ.st (fun _ _ kz => pw_iconst (v := 0) dX1_chances_13 (by decide) kz) ?_
  refine wq_s2i wX0_placeOf lX1_67 dX1_chances_14 (k_placeOf0 _) rfl (Nat.le_of_ble_eq_true rfl) (Nat.le_of_ble_eq_true rfl) (fun h14 z14 => ?_)
  subst z14
  refine WQ.st (fun _ _ kz => pw_lconst (v := 1) dX1_chances_17 (by decide) kz) ?_
  refine WQ.st (fun _ _ kz => pw_lst (j := s0 * 5 + 2) dX1_chances_18 sh5 (ix_n (by omega)) (by omega)  kz) ?_
  refine WQ.st (fun _ _ kz => pw_iconst (v := 0) dX1_chances_19 (by decide) kz) ?_
  refine WQ.st (fun _ _ kz => pw_istore3 dX1_chances_20 (by decide) (k := kz)) ?_
  refine l_chances (P0 := P) (A0 := A) (B0 := B) hk3 hk hg (lgN al q) 0 P A _ hh hb (by omega) (hK.fr ((FrK.b (a := hh) (by omega)).tr (FrK.b (a := hh) (by omega)))) h5 h6 hhb (fun j hj => ?_) (fun _ _ => rfl) ((FrC.b (by omega)).tr (FrC.b (by omega)))
  rw [up2_at, pm_up_eq]
  unfold pm_up
  show _ = lN (if j = s0 * 5 + 2 then 1 else 0)
  by_cases e : j = s0 * 5 + 2
  · rw [if_pos e, if_pos e]
    rfl
  · rw [if_neg e, if_neg e, fillF_i hj]
    rfl
