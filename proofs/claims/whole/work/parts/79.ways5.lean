/-! ===== the class: Ways, the best row followed ===== -/
set_option maxRecDepth 20000 in
theorem k_mostFrom {G : gT} {d : Nat} {S : sS} {V : sV} {P : sP} {A : sV} {B : sB} {Q : sP} {t sl : Nat} (hC : CF S P) {s : Nat} (hs : s < 41) : WQ G (d + 1) mX10_mostFrom 0 [some (.ref 107), some (.int (sI s))] [] (t, sl, gh S V P A B Q) (fun r h' => r = some (.int (A 110 (s * 5 + 2))) ∧ h' = (t, sl, gh S V P A B Q)) := by
  refine WQ.st (fun _ _ kz => pw_aload0 dX10_mostFrom_0 kz) ?_
  refine WQ.st (fun _ _ kz => pw_getr gX10_25 dX10_mostFrom_1 (cf_s107 hC) (cf_p107_5 hC) kz) ?_
  refine WQ.st (fun _ _ kz => pw_iload1 dX10_mostFrom_4 kz) ?_
  refine WQ.st (fun _ _ kz => pw_iconst (v := 0) dX10_mostFrom_5 (by decide) kz) ?_
  refine wq_s2i wX0_placeOf lX10_91 dX10_mostFrom_6 (k_placeOf0 _) rfl (Nat.le_of_ble_eq_true rfl) (Nat.le_of_ble_eq_true rfl) (fun h6 z6 => ?_)
  subst z6
  refine WQ.st (fun _ _ kz => pw_ald (j := s * 5 + 2) dX10_mostFrom_9 (cf_s110 hC) (ix_n (by omega)) (by omega) kz) ?_
  refine ⟨_, _, pw_iret dX10_mostFrom_10 rfl rfl rfl rfl, ?_⟩
  exact ⟨rfl, rfl⟩
theorem bw_na {T : Nat → Nat → Nat → Nat → Int32} {kp : Nat → Nat → Bool} {n : Nat} {e : Nat → Int32} {b l s lc : Nat} (hb : b < n) (hne : rf_T T kp n e (n - b) l s ≠ -268435456) (hi : ∀ w, w < 5 → T b lc s w = T b l s w) : rf_na (rf_gb T kp (rf_T T kp n e (n - (b + 1))) b lc s) = rf_bw T kp n e b l s ∧ rf_bw T kp n e b l s < 5 := by
  have hr : rf_T T kp n e (n - b) l s = rf_mx (rf_gb T kp (rf_T T kp n e (n - (b + 1))) b l s) := by
    rw [show n - b = (n - (b + 1)) + 1 by omega, rf_T, show n - (n - (b + 1) + 1) = b by omega]
  have hc : rf_na (rf_gb T kp (rf_T T kp n e (n - (b + 1))) b lc s) = rf_na (rf_gb T kp (rf_T T kp n e (n - (b + 1))) b l s) := by
    refine rf_na_cong (fun w hw => ?_)
    unfold rf_gb
    rw [hi w hw]
  rw [hr] at hne
  obtain ⟨h1, h2⟩ := na_fw hne
  rw [hc]
  unfold rf_bw
  rw [hr]
  exact ⟨h1, by rw [← h1]; exact h2⟩
set_option maxRecDepth 20000 in
theorem l_follow {G : gT} {d : Nat} {S : sS} {P : sP} {B : sB} {Q : sP} {t sl : Nat} {V0 A0 : sV} {al : Nat → Int32} {sh ls p tm q : Nat} (hK : KB S V0 P A0 B Q t al sh ls p tm q) {kp : Nat → Nat → Bool} {e : Nat → Int32} {lo hi s0 : Nat} (hR : SR A0 (TT (atm al p tm) p q) kp (lgN al q) e (asks al 6) lo hi 0) (h0 : s0 < 41) (hlo : lo ≤ s0) (hhi : s0 ≤ hi) (hne : rf_T (TT (atm al p tm) p q) kp (lgN al q) e (lgN al q) 2 s0 ≠ -268435456) : ∀ (m b : Nat) (V A : sV) (x4 : Option Value), b + m = (lgN al q) → (∀ x, x ≠ 107 → V x = V0 x) → V 107 2 = V0 107 2 → V 107 3 = sI (rf_st (TT (atm al p tm) p q) kp (lgN al q) e s0 b).2 → (∀ x, x ≠ 108 → A x = A0 x) → (∀ i, i < 12 → A 108 i = if i < b then dI (rf_st (TT (atm al p tm) p q) kp (lgN al q) e s0 (i + 1)).1 else 9) → (s0 ≤ (rf_st (TT (atm al p tm) p q) kp (lgN al q) e s0 b).2 + 2 * b ∧ (rf_st (TT (atm al p tm) p q) kp (lgN al q) e s0 b).2 ≤ s0 + 2 * b) → WQ G (d + 1) mX10_follow 38 [some (.ref 107), some (.int (sI s0)), some (.int (dI (lbN (asks al 6) (rf_st (TT (atm al p tm) p q) kp (lgN al q) e s0 b).1))), some (.int (nI b)), x4] [] (t, sl, gh S V P A B Q) (fun r h' => r = some (.int 1) ∧ ∃ V' A' : sV, h' = (t, sl, gh S V' P A' B Q) ∧ (∀ x, x ≠ 107 → V' x = V0 x) ∧ V' 107 2 = V0 107 2 ∧ V' 107 3 = sI (rf_st (TT (atm al p tm) p q) kp (lgN al q) e s0 (lgN al q)).2 ∧ (∀ x, x ≠ 108 → A' x = A0 x) ∧ ∀ b, b < 12 → A' 108 b = if b < (lgN al q) then dI (rf_st (TT (atm al p tm) p q) kp (lgN al q) e s0 (b + 1)).1 else 9) := by
  have hn := hK.len
  obtain ⟨hp, ht, hq⟩ := hK.r
  have hok := rf_st_ok (T := (TT (atm al p tm) p q)) (kp := kp) (n := (lgN al q)) (e := e) h0 (fun b l s w _ _ _ _ h => TT_in h) hne
  intro m
  induction m with
  | zero =>
    intro b V A x4 hb hv hv2 h3 ha h8 hw
    have hb : b = (lgN al q) := hb
    subst hb
    refine WQ.st (fun _ _ kz => pw_iload3 dX10_follow_38 kz) ?_
    refine WQ.st (fun _ _ kz => pw_aload0 dX10_follow_39 kz) ?_
    refine WQ.st (fun _ _ kz => pw_getr gX10_45 dX10_follow_40 (cf_s107 hK.cf) (cf_p107_4 hK.cf) kz) ?_
    refine WQ.st (fun _ _ kz => pw_geti gX10_55 dX10_follow_43 (cf_s96 hK.cf) kz) ?_
    rw [hv 96 (by decide), hn.1]
    refine WQ.br (fun _ _ ka kb => pw_icmp_ge (tgt := 111) dX10_follow_46 (by decide) ka kb) (fun c46 => ?_) (fun c46 => absurd (Int32.le_refl _) c46)
    refine WQ.st (fun _ _ kz => pw_iconst (v := 1) dX10_follow_111 (by decide) kz) ?_
    refine ⟨_, _, pw_iret dX10_follow_112 rfl rfl rfl rfl, ?_⟩
    exact ⟨rfl, V, A, rfl, hv, hv2, h3, ha, h8⟩
  | succ m ih =>
    intro b V A x4 hb hv hv2 h3 ha h8 hw
    obtain ⟨ol, os, on⟩ := hok b (by omega)
    have hlb : lbN (asks al 6) (rf_st (TT (atm al p tm) p q) kp (lgN al q) e s0 b).1 < 5 := by unfold lbN; split <;> omega
    have hLs : LsN (asks al 6) b (lbN (asks al 6) (rf_st (TT (atm al p tm) p q) kp (lgN al q) e s0 b).1) := by
      cases b with
      | zero =>
        have e2 : lbN (asks al 6) (rf_st (TT (atm al p tm) p q) kp (lgN al q) e s0 0).1 = 2 := by
          rw [rf_st_0]
          unfold lbN
          split <;> rfl
        rw [e2]
        exact LsN_0 _
      | succ b => exact LsN_lb _ b _ ol
    have hfd := (hR b (Nat.zero_le _) (by omega) (rf_st (TT (atm al p tm) p q) kp (lgN al q) e s0 b).2 _ os (by omega) (by omega) hLs).2 (by omega)
    have hTi : ∀ w, w < 5 → (TT (atm al p tm) p q) b (lbN (asks al 6) (rf_st (TT (atm al p tm) p q) kp (lgN al q) e s0 b).1) (rf_st (TT (atm al p tm) p q) kp (lgN al q) e s0 b).2 w = (TT (atm al p tm) p q) b (rf_st (TT (atm al p tm) p q) kp (lgN al q) e s0 b).1 (rf_st (TT (atm al p tm) p q) kp (lgN al q) e s0 b).2 w := by
      intro w hw5
      cases h6 : asks al 6 with
      | true => rfl
      | false =>
        show (TT (atm al p tm) p q) b 2 (rf_st (TT (atm al p tm) p q) kp (lgN al q) e s0 b).2 w = _
        exact (TT_l2 hK.dv hp ht hq h6 (by omega) ol os hw5).symm
    obtain ⟨hna, hw5⟩ := bw_na (T := (TT (atm al p tm) p q)) (kp := kp) (n := (lgN al q)) (e := e) (b := b) (l := (rf_st (TT (atm al p tm) p q) kp (lgN al q) e s0 b).1) (s := (rf_st (TT (atm al p tm) p q) kp (lgN al q) e s0 b).2) (lc := lbN (asks al 6) (rf_st (TT (atm al p tm) p q) kp (lgN al q) e s0 b).1) (by omega) on hTi
    rw [hna] at hfd
    have hin := (hok (b + 1) (by omega)).2.1
    have hbo := rf_bw_ok (T := (TT (atm al p tm) p q)) (kp := kp) (n := (lgN al q)) (e := e) (b := b) (l := (rf_st (TT (atm al p tm) p q) kp (lgN al q) e s0 b).1) (s := (rf_st (TT (atm al p tm) p q) kp (lgN al q) e s0 b).2) (by omega) os (fun w _ h => TT_in h) on
    have hin : rf_bw (TT (atm al p tm) p q) kp (lgN al q) e b (rf_st (TT (atm al p tm) p q) kp (lgN al q) e s0 b).1 (rf_st (TT (atm al p tm) p q) kp (lgN al q) e s0 b).2 ≤ (rf_st (TT (atm al p tm) p q) kp (lgN al q) e s0 b).2 + 2 ∧ (rf_st (TT (atm al p tm) p q) kp (lgN al q) e s0 b).2 + 2 ≤ rf_bw (TT (atm al p tm) p q) kp (lgN al q) e b (rf_st (TT (atm al p tm) p q) kp (lgN al q) e s0 b).1 (rf_st (TT (atm al p tm) p q) kp (lgN al q) e s0 b).2 + 40 := by
      have h9 := hbo.2.1
      unfold rf_in at h9
      exact of_decide_eq_true h9
    refine WQ.st (fun _ _ kz => pw_iload3 dX10_follow_38 kz) ?_
    refine WQ.st (fun _ _ kz => pw_aload0 dX10_follow_39 kz) ?_
    refine WQ.st (fun _ _ kz => pw_getr gX10_45 dX10_follow_40 (cf_s107 hK.cf) (cf_p107_4 hK.cf) kz) ?_
    refine WQ.st (fun _ _ kz => pw_geti gX10_55 dX10_follow_43 (cf_s96 hK.cf) kz) ?_
    rw [hv 96 (by decide), hn.1]
    refine WQ.br (fun _ _ ka kb => pw_icmp_ge (tgt := 111) dX10_follow_46 (by decide) ka kb) (fun c46 => absurd c46 (by rw [le_i (ix_n (j := (lgN al q)) (by omega)) (ix_n (j := b) (by omega))]; omega)) (fun c46 => ?_)
    refine WQ.st (fun _ _ kz => pw_iload3 dX10_follow_49 kz) ?_
    refine WQ.st (fun _ _ kz => pw_bipush (v := 12) dX10_follow_50 (by decide) kz) ?_
    refine WQ.br (fun _ _ ka kb => pw_icmp_ge (tgt := 111) dX10_follow_52 (by decide) ka kb) (fun c52 => absurd c52 (by rw [nl_12, le_i (ix_n (j := 12) (by omega)) (ix_n (j := b) (by omega))]; omega)) (fun c52 => ?_)
    refine WQ.st (fun _ _ kz => pw_aload0 dX10_follow_55 kz) ?_
    refine WQ.st (fun _ _ kz => pw_getr gX10_28 dX10_follow_56 (cf_s107 hK.cf) (cf_p107_6 hK.cf) kz) ?_
    refine WQ.st (fun _ _ kz => pw_iload3 dX10_follow_59 kz) ?_
    refine WQ.st (fun _ _ kz => pw_sipush (v := 205) dX10_follow_60 (by decide) kz) ?_
    refine WQ.st (fun _ _ kz => pw_imul dX10_follow_63 kz) ?_
    rw [show (205 : Int32) = nI 205 from rfl, pk_mul]
    refine WQ.st (fun _ _ kz => pw_aload0 dX10_follow_64 kz) ?_
    refine WQ.st (fun _ _ kz => pw_geti gX10_22 dX10_follow_65 (cf_s107 hK.cf) kz) ?_
    rw [h3]
    refine WQ.st (fun _ _ kz => pw_iload2 dX10_follow_68 kz) ?_
    refine wq_s2i wX0_placeOf lX10_91 dX10_follow_69 (k_placeOf _ _) rfl (Nat.le_of_ble_eq_true rfl) (Nat.le_of_ble_eq_true rfl) (fun h69 z69 => ?_)
    subst z69
    refine WQ.st (fun _ _ kz => pw_iadd dX10_follow_72 kz) ?_
    rw [nI_add]
    refine WQ.st (fun _ _ kz => pw_bld (j := (b * 205 + ((rf_st (TT (atm al p tm) p q) kp (lgN al q) e s0 b).2 * 5 + (lbN (asks al 6) (rf_st (TT (atm al p tm) p q) kp (lgN al q) e s0 b).1)))) dX10_follow_73 (cf_s111 hK.cf) (ix_n (by omega)) (by omega) kz) ?_
    rw [ha 111 (by decide), hfd, nd_lt hw5]
    refine WQ.st (fun _ _ kz => pw_istore4 dX10_follow_74 (by decide) (k := kz)) ?_
    refine WQ.st (fun _ _ kz => pw_aload0 dX10_follow_76 kz) ?_
    refine WQ.st (fun _ _ kz => pw_getr gX10_9 dX10_follow_77 (cf_s107 hK.cf) (cf_p107_0 hK.cf) kz) ?_
    refine WQ.st (fun _ _ kz => pw_iload3 dX10_follow_80 kz) ?_
    refine WQ.st (fun _ _ kz => pw_iload4 dX10_follow_81 kz) ?_
    refine WQ.st (fun _ _ kz => pw_ast (j := b) dX10_follow_83 (cf_s108 hK.cf) (ix_m rfl (by omega)) (by omega)  kz) ?_
    refine WQ.st (fun _ _ kz => pw_aload0 dX10_follow_84 kz) ?_
    refine WQ.st (fun _ _ kz => pw_dup dX10_follow_85 rfl kz) ?_
    refine WQ.st (fun _ _ kz => pw_geti gX10_22 dX10_follow_86 (cf_s107 hK.cf) kz) ?_
    rw [h3]
    refine WQ.st (fun _ _ kz => pw_iload4 dX10_follow_89 kz) ?_
    refine WQ.st (fun _ _ kz => pw_isub dX10_follow_91 kz) ?_
    rw [sw_I hin.1]
    refine WQ.st (fun _ _ kz => pw_puti (pX10_22 _ rfl) dX10_follow_92 (cf_s107 hK.cf) rfl rfl kz) ?_
    refine WQ.st (fun _ _ kz => pw_aload0 dX10_follow_95 kz) ?_
    refine WQ.st (fun _ _ kz => pw_getr gX10_45 dX10_follow_96 (cf_s107 hK.cf) (cf_p107_4 hK.cf) kz) ?_
    refine WQ.st (fun _ _ kz => pw_iload4 dX10_follow_99 kz) ?_
    refine wq_o1i wX0_lastBehind lX10_88 rfl dX10_follow_101 (cf_s96 hK.cf) (k_lastBehind hK.cf (bl := asks al 6) (by rw [up2_na (by decide), hv 96 (by decide)]; exact hK.v1) (rf_bw (TT (atm al p tm) p q) kp (lgN al q) e b (rf_st (TT (atm al p tm) p q) kp (lgN al q) e s0 b).1 (rf_st (TT (atm al p tm) p q) kp (lgN al q) e s0 b).2)) rfl (Nat.le_of_ble_eq_true rfl) (Nat.le_of_ble_eq_true rfl) (fun h101 z101 => ?_)
    subst z101
    refine WQ.st (fun _ _ kz => pw_istore2 dX10_follow_104 (by decide) (k := kz)) ?_
    refine WQ.st (fun _ _ kz => pw_iinc3 (v := 1) dX10_follow_105 (by decide) (by decide) (k := kz)) ?_
    refine WQ.st (fun _ _ kz => pw_goto (tgt := 38) dX10_follow_108 (by decide) kz) ?_
    rw [nI_1]
    refine ih (b + 1) _ _ _ (by omega) (fun x hx => by rw [up2_na hx]; exact hv x hx) (by rw [up2_nk (by decide)]; exact hv2) ?_ (fun x hx => by rw [up2_na hx]; exact ha x hx) (fun i hi => ?_) (by rw [rf_st_2]; omega)
    · rw [up2_eq, rf_st_2]
    · rw [up2_at]
      unfold pm_up
      by_cases g : i = b
      · rw [if_pos g, if_pos (by omega), g, rf_st_1]
      · rw [if_neg g, h8 i hi]
        by_cases g2 : i < b
        · rw [if_pos g2, if_pos (by omega)]
        · rw [if_neg g2, if_neg (by omega)]
set_option maxRecDepth 20000 in
theorem k_follow {G : gT} {d : Nat} {S : sS} {V : sV} {P : sP} {A : sV} {B : sB} {Q : sP} {t sl : Nat} {al : Nat → Int32} {sh ls p tm q : Nat} (hK : KB S V P A B Q t al sh ls p tm q) {kp : Nat → Nat → Bool} {e : Nat → Int32} (he : ∀ s, s < 41 → bnd 0 (e s)) {lo hi s0 : Nat} (hR : SR A (TT (atm al p tm) p q) kp (lgN al q) e (asks al 6) lo hi 0) (h0 : s0 < 41) (hlo : lo ≤ s0) (hhi : s0 ≤ hi) : WQ G (d + 2) mX10_follow 0 [some (.ref 107), some (.int (sI s0)), none, none, none] [] (t, sl, gh S V P A B Q) (fun r h' => (rf_T (TT (atm al p tm) p q) kp (lgN al q) e (lgN al q) 2 s0 ≠ -268435456 ∧ r = some (.int 1) ∧ ∃ V' A' : sV, h' = (t, sl, gh S V' P A' B Q) ∧ (∀ x, x ≠ 107 → V' x = V x) ∧ V' 107 2 = rf_T (TT (atm al p tm) p q) kp (lgN al q) e (lgN al q) 2 s0 ∧ V' 107 3 = sI (rf_st (TT (atm al p tm) p q) kp (lgN al q) e s0 (lgN al q)).2 ∧ (∀ x, x ≠ 108 → A' x = A x) ∧ ∀ b, b < 12 → A' 108 b = if b < (lgN al q) then dI (rf_st (TT (atm al p tm) p q) kp (lgN al q) e s0 (b + 1)).1 else 9) ∨ (rf_T (TT (atm al p tm) p q) kp (lgN al q) e (lgN al q) 2 s0 = -268435456 ∧ r = some (.int 0) ∧ h' = (t, sl, gh S (up2 V 107 2 (-2147483648)) P A B Q))) := by
  have hn := hK.len
  obtain ⟨hp, ht, hq⟩ := hK.r
  have hm : A 110 (s0 * 5 + 2) = cv (rf_T (TT (atm al p tm) p q) kp (lgN al q) e (lgN al q) 2 s0) := by
    have := (hR 0 (Nat.le_refl _) (Nat.zero_le _) s0 2 h0 (by omega) (by omega) (LsN_0 _)).1
    rw [Nat.zero_mul, Nat.zero_add, Nat.sub_zero] at this
    exact this
  have hok : okv (rf_T (TT (atm al p tm) p q) kp (lgN al q) e (lgN al q) 2 s0) := (rf_T_bnd hn.2 (fun b l s w hb hl hs hw => bnd_sml (TT_ok hK.dv hp ht hq (by omega) hl hs hw)) (fun b l s w _ _ _ _ h => TT_in h) he _ (Nat.le_refl _) 2 _ (by omega) h0).ok (by omega)
  refine WQ.st (fun _ _ kz => pw_aload0 dX10_follow_0 kz) ?_
  refine WQ.st (fun _ _ kz => pw_aload0 dX10_follow_1 kz) ?_
  refine WQ.st (fun _ _ kz => pw_iload1 dX10_follow_2 kz) ?_
  refine wq_o1i wX10_mostFrom lX10_94 rfl dX10_follow_3 (cf_s107 hK.cf) (k_mostFrom hK.cf h0) rfl (Nat.le_of_ble_eq_true rfl) (Nat.le_of_ble_eq_true rfl) (fun h3 z3 => ?_)
  subst z3
  refine WQ.st (fun _ _ kz => pw_puti (pX10_18 _ rfl) dX10_follow_6 (cf_s107 hK.cf) rfl rfl kz) ?_
  refine WQ.st (fun _ _ kz => pw_aload0 dX10_follow_9 kz) ?_
  refine WQ.st (fun _ _ kz => pw_geti gX10_18 dX10_follow_10 (cf_s107 hK.cf) kz) ?_
  rw [up2_eq, hm]
  refine WQ.st (fun _ _ kz => pw_ldc kX10_70 dX10_follow_13 kz) ?_
  refine WQ.bn (fun _ _ ka kb => pw_icmp_ne (tgt := 20) dX10_follow_15 (by decide) ka kb) (fun c15 => ?_) (fun c15 => ?_)
  · have hne : rf_T (TT (atm al p tm) p q) kp (lgN al q) e (lgN al q) 2 s0 ≠ -268435456 := fun q => c15 (by rw [q]; exact cv_c)
    refine WQ.st (fun _ _ kz => pw_aload0 dX10_follow_20 kz) ?_
    refine WQ.st (fun _ _ kz => pw_getr gX10_9 dX10_follow_21 (cf_s107 hK.cf) (cf_p107_0 hK.cf) kz) ?_
    refine WQ.st (fun _ _ kz => pw_bipush (v := 9) dX10_follow_24 (by decide) kz) ?_
    refine WQ.st (fun _ _ kz => pw_s2v wJ7_fill_53178 lX10_49 dX10_follow_26 (c_filli (cf_s108 hK.cf) (by omega) _) rfl (Nat.le_of_ble_eq_true rfl) (Nat.le_of_ble_eq_true rfl) kz) ?_
    refine WQ.st (fun _ _ kz => pw_aload0 dX10_follow_29 kz) ?_
    refine WQ.st (fun _ _ kz => pw_iload1 dX10_follow_30 kz) ?_
    refine WQ.st (fun _ _ kz => pw_puti (pX10_22 _ rfl) dX10_follow_31 (cf_s107 hK.cf) rfl rfl kz) ?_
    refine WQ.st (fun _ _ kz => pw_iconst (v := 0) dX10_follow_34 (by decide) kz) ?_
    refine WQ.st (fun _ _ kz => pw_istore2 dX10_follow_35 (by decide) (k := kz)) ?_
    refine WQ.st (fun _ _ kz => pw_iconst (v := 0) dX10_follow_36 (by decide) kz) ?_
    refine WQ.st (fun _ _ kz => pw_istore3 dX10_follow_37 (by decide) (k := kz)) ?_
    have k9 := l_follow (G := G) (d := d + 1) (Q := Q) (t := t) (sl := sl) (V0 := up2 (up2 V 107 2 (cv (rf_T (TT (atm al p tm) p q) kp (lgN al q) e (lgN al q) 2 s0))) 107 3 (sI s0)) (A0 := pm_up A 108 (fillF 9 12 (A 108))) (kp := kp) (e := e) (hK.fr ((FrK.a (a := 108) (by decide)).tr ((FrK.v (a := 107) (by decide)).tr (FrK.v (a := 107) (by decide))))) (lo := lo) (hi := hi) (s0 := s0) (fun b h1 h2 s l a1 a2 a3 a4 => by
      have := hR b h1 h2 s l a1 a2 a3 a4
      unfold SA at this ⊢
      rw [pm_up_ne (by decide), pm_up_ne (by decide)]
      exact this) h0 hlo hhi hne (lgN al q) 0 (up2 (up2 V 107 2 (cv (rf_T (TT (atm al p tm) p q) kp (lgN al q) e (lgN al q) 2 s0))) 107 3 (sI s0)) (pm_up A 108 (fillF 9 12 (A 108))) none (by omega) (fun _ _ => rfl) rfl up2_eq (fun _ _ => rfl) (fun i hi => by rw [pm_up_eq, fillF_i hi, if_neg (by omega)]) (by rw [rf_st_0]; omega)
    rw [rf_st_0, show lbN (asks al 6) (2, s0).1 = 2 from by unfold lbN; split <;> rfl, ← dI_two] at k9
    refine k9.imp (fun r h' z => ?_)
    obtain ⟨rfl, V', A', rfl, z1, z2, z3, z4, z5⟩ := z
    refine Or.inl ⟨hne, rfl, V', A', rfl, fun x hx => by rw [z1 x hx, up2_na hx, up2_na hx], by rw [z2, up2_nk (by decide), up2_eq, cv_n hne], z3, fun x hx => by rw [z4 x hx, pm_up_ne hx], z5⟩
  · have hct := (cv_not hok).mp c15
    refine WQ.st (fun _ _ kz => pw_iconst (v := 0) dX10_follow_18 (by decide) kz) ?_
    refine ⟨_, _, pw_iret dX10_follow_19 rfl rfl rfl rfl, ?_⟩
    exact Or.inr ⟨hct, rfl, by rw [hct, cv_c]⟩
set_option maxRecDepth 20000 in
theorem k_tell {G : gT} {d : Nat} {S : sS} {V : sV} {P : sP} {A : sV} {B : sB} {Q : sP} {t sl : Nat} (hC : CF S P) {x : Int32} (hx : isT x.toInt 1 = true) : WQ G d mX10_tell 0 [some (.ref 107), some (.int x), none] [] (t, sl, gh S V P A B Q) (fun r h' => r = some (.int (if x.toInt = 0 then V 107 2 else if x.toInt = 1 then V 107 3 else A 108 (x.toInt - 10).toNat)) ∧ h' = (t, sl, gh S V P A B Q)) := by
  have hx : (0 ≤ x.toInt ∧ x.toInt ≤ 1) ∨ (10 ≤ x.toInt ∧ x.toInt ≤ 21) := by
    unfold isT at hx
    rcases Bool.or_eq_true_iff.mp hx with h | h
    · exact Or.inl (of_decide_eq_true h)
    · exact Or.inr (of_decide_eq_true h)
  refine WQ.st (fun _ _ kz => pw_iload1 dX10_tell_0 kz) ?_
  refine WQ.st (fun _ _ kz => pw_bipush (v := 10) dX10_tell_1 (by decide) kz) ?_
  refine WQ.br (fun _ _ ka kb => pw_icmp_ge (tgt := 22) dX10_tell_3 (by decide) ka kb) (fun c3 => ?_) (fun c3 => ?_)
  · rw [le_i (show (10 : Int32).toInt = 10 from rfl) rfl] at c3
    refine WQ.st (fun _ _ kz => pw_iload1 dX10_tell_22 kz) ?_
    refine WQ.st (fun _ _ kz => pw_bipush (v := 10) dX10_tell_23 (by decide) kz) ?_
    refine WQ.st (fun _ _ kz => pw_isub dX10_tell_25 kz) ?_
    refine WQ.st (fun _ _ kz => pw_istore2 dX10_tell_26 (by decide) (k := kz)) ?_
    refine WQ.st (fun _ _ kz => pw_iload2 dX10_tell_27 kz) ?_
    refine WQ.st (fun _ _ kz => pw_bipush (v := 12) dX10_tell_28 (by decide) kz) ?_
    refine WQ.br (fun _ _ ka kb => pw_icmp_ge (tgt := 42) dX10_tell_30 (by decide) ka kb) (fun c30 => absurd c30 (by rw [le_i li_12 (ti_sub rfl (show (10 : Int32).toInt = 10 from rfl) (by omega))]; omega)) (fun c30 => ?_)
    refine WQ.st (fun _ _ kz => pw_aload0 dX10_tell_33 kz) ?_
    refine WQ.st (fun _ _ kz => pw_getr gX10_9 dX10_tell_34 (cf_s107 hC) (cf_p107_0 hC) kz) ?_
    refine WQ.st (fun _ _ kz => pw_iload2 dX10_tell_37 kz) ?_
    refine WQ.st (fun _ _ kz => pw_ald (j := (x.toInt - 10).toNat) dX10_tell_38 (cf_s108 hC) ((ti_sub rfl (show (10 : Int32).toInt = 10 from rfl) (by omega)).trans (by omega)) (by omega) kz) ?_
    refine WQ.st (fun _ _ kz => pw_goto (tgt := 44) dX10_tell_39 (by decide) kz) ?_
    refine ⟨_, _, pw_iret dX10_tell_44 rfl rfl rfl rfl, ?_⟩
    exact ⟨by rw [if_neg (by omega), if_neg (by omega)], rfl⟩
  · rw [le_i (show (10 : Int32).toInt = 10 from rfl) rfl] at c3
    refine WQ.st (fun _ _ kz => pw_iload1 dX10_tell_6 kz) ?_
    refine WQ.bn (fun _ _ ka kb => pw_if_ne (tgt := 17) dX10_tell_7 (by decide) ka kb) (fun c7 => ?_) (fun c7 => ?_)
    · refine WQ.st (fun _ _ kz => pw_aload0 dX10_tell_17 kz) ?_
      refine WQ.st (fun _ _ kz => pw_geti gX10_22 dX10_tell_18 (cf_s107 hC) kz) ?_
      refine ⟨_, _, pw_iret dX10_tell_21 rfl rfl rfl rfl, ?_⟩
      exact ⟨by rw [if_neg (i32_ne (z := 0) rfl c7), if_pos (by have := i32_ne (z := 0) rfl c7; omega)], rfl⟩
    · refine WQ.st (fun _ _ kz => pw_aload0 dX10_tell_10 kz) ?_
      refine WQ.st (fun _ _ kz => pw_geti gX10_18 dX10_tell_11 (cf_s107 hC) kz) ?_
      refine WQ.st (fun _ _ kz => pw_goto (tgt := 21) dX10_tell_14 (by decide) kz) ?_
      refine ⟨_, _, pw_iret dX10_tell_21 rfl rfl rfl rfl, ?_⟩
      exact ⟨by rw [if_pos (by rw [c7]; rfl)], rfl⟩
