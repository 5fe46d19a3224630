set_option maxRecDepth 20000 in
theorem l_spread2 {G : gT} {d : Nat} {S : sS} {V : sV} {P : sP} {Q : sP} {t sl : Nat} {al : Nat → Int32} {sh ls p tm q : Nat} {A0 : sV} {B0 : sB} {hh hb b K : Nat} {h : Nat → Int32} (h7 : P 107 7 = some hh) (h8 : P 107 8 = some hb) (hhb : (hh = 112 ∧ hb = 113) ∨ (hh = 113 ∧ hb = 112)) (s7 : S hh = (20, 205)) (s8 : S hb = (20, 205)) (hb12 : b < 12) (hK85 : K ≤ 85) (hh9 : ∀ j, j < 205 → bnd K (h j)) : ∀ (m i : Nat) (A : sV) (B : sB) (x3 x4 x5 x6 x7 : Option Value), i + m = 205 → KB S V P A B Q t al sh ls p tm q → (∀ j, j < 205 → A hh j = cv (h j)) → (∀ j, j < 205 → A hb j = cv (mfo (mtm (TT (atm al p tm) p q) (asks al 6) b h j) (i * 5))) → FrW V A0 B0 V A B → WQ G (d + 3) mX10_spreadBar 11 [some (.ref 107), some (.int (nI b)), some (.int (nI i)), x3, x4, x5, x6, x7] [] (t, sl, gh S V P A B Q) (fun r h' => r = none ∧ ∃ (A' : sV) (B' : sB), h' = (t, sl, gh S V (up2 (up2 P 107 7 (some hb)) 107 8 (some hh)) A' B' Q) ∧ KB S V (up2 (up2 P 107 7 (some hb)) 107 8 (some hh)) A' B' Q t al sh ls p tm q ∧ (∀ j, j < 205 → A' hb j = cv (mstep (TT (atm al p tm) p q) (asks al 6) b h j)) ∧ FrW V A0 B0 V A' B') := by
  intro m
  induction m with
  | zero =>
    intro i A B x3 x4 x5 x6 x7 hi hK hh0 hB hF
    have hi : i = 205 := hi
    subst hi
    refine WQ.st (fun _ _ kz => pw_iload2 dX10_spreadBar_11 kz) ?_
    refine WQ.st (fun _ _ kz => pw_sipush (v := 205) dX10_spreadBar_12 (by decide) kz) ?_
    refine WQ.br (fun _ _ ka kb => pw_icmp_ge (tgt := 128) dX10_spreadBar_15 (by decide) ka kb) (fun c15 => ?_) (fun c15 => absurd (by decide) c15)
    refine WQ.st (fun _ _ kz => pw_aload0 dX10_spreadBar_128 kz) ?_
    refine WQ.st (fun _ _ kz => pw_getr gX10_32 dX10_spreadBar_129 (cf_s107 hK.cf) h7 kz) ?_
    refine WQ.st (fun _ _ kz => pw_astore2 dX10_spreadBar_132 (by decide) (k := kz)) ?_
    refine WQ.st (fun _ _ kz => pw_aload0 dX10_spreadBar_133 kz) ?_
    refine WQ.st (fun _ _ kz => pw_aload0 dX10_spreadBar_134 kz) ?_
    refine WQ.st (fun _ _ kz => pw_getr gX10_35 dX10_spreadBar_135 (cf_s107 hK.cf) h8 kz) ?_
    refine WQ.st (fun _ _ kz => pw_putr (pX10_32 _ rfl) dX10_spreadBar_138 (cf_s107 hK.cf) kz) ?_
    refine WQ.st (fun _ _ kz => pw_aload0 dX10_spreadBar_141 kz) ?_
    refine WQ.st (fun _ _ kz => pw_aload2 dX10_spreadBar_142 kz) ?_
    refine WQ.st (fun _ _ kz => pw_putr (pX10_35 _ rfl) dX10_spreadBar_143 (cf_s107 hK.cf) kz) ?_
    refine ⟨_, _, pw_vret dX10_spreadBar_146 rfl rfl rfl, ?_⟩
    refine ⟨rfl, A, B, rfl, hK.frP ((hK.cf.up (by decide)).up (by decide)) (fun x _ a1 => by rw [up2_na a1, up2_na a1]), hB, hF⟩
  | succ m ih =>
    intro i A B x3 x4 x5 x6 x7 him hK hh0 hB hF
    refine WQ.st (fun _ _ kz => pw_iload2 dX10_spreadBar_11 kz) ?_
    refine WQ.st (fun _ _ kz => pw_sipush (v := 205) dX10_spreadBar_12 (by decide) kz) ?_
    refine WQ.br (fun _ _ ka kb => pw_icmp_ge (tgt := 128) dX10_spreadBar_15 (by decide) ka kb) (fun c15 => absurd c15 (by rw [show (205 : Int32) = nI 205 from rfl, le_i (ix_n (j := 205) (by omega)) (ix_n (j := i) (by omega))]; omega)) (fun c15 => ?_)
    refine WQ.st (fun _ _ kz => pw_iload2 dX10_spreadBar_18 kz) ?_
    refine wq_s1i wX0_storeOf lX10_66 dX10_spreadBar_19 (k_storeOf (by omega)) rfl (Nat.le_of_ble_eq_true rfl) (Nat.le_of_ble_eq_true rfl) (fun h19 z19 => ?_)
    subst z19
    refine WQ.st (fun _ _ kz => pw_istore3 dX10_spreadBar_22 (by decide) (k := kz)) ?_
    refine WQ.st (fun _ _ kz => pw_iload2 dX10_spreadBar_23 kz) ?_
    refine wq_s1i wX0_lastOf lX10_101 dX10_spreadBar_24 (k_lastOf (by omega)) rfl (Nat.le_of_ble_eq_true rfl) (Nat.le_of_ble_eq_true rfl) (fun h24 z24 => ?_)
    subst z24
    refine WQ.st (fun _ _ kz => pw_istore4 dX10_spreadBar_27 (by decide) (k := kz)) ?_
    refine WQ.st (fun _ _ kz => pw_bipush (v := -2) dX10_spreadBar_29 (by decide) kz) ?_
    refine WQ.st (fun _ _ kz => pw_istore5 dX10_spreadBar_31 (by decide) (k := kz)) ?_
    rw [dI_m2]
    refine l_spread1 (A0 := A0) (B0 := B0) h7 h8 hhb s7 s8 hb12 hK85 hh9 (by omega) (fun A1 B1 x5 x6 x7 hK1 hh1 hB1 hF1 => ?_) 5 0 A B _ _ rfl hK hh0 hB hF
    refine WQ.st (fun _ _ kz => pw_iinc2 (v := 1) dX10_spreadBar_122 (by decide) (by decide) (k := kz)) ?_
    refine WQ.st (fun _ _ kz => pw_goto (tgt := 11) dX10_spreadBar_125 (by decide) kz) ?_
    rw [nI_1]
    exact ih (i + 1) A1 B1 _ _ _ _ _ (by omega) hK1 hh1 hB1 hF1
set_option maxRecDepth 20000 in
theorem k_spreadBar {G : gT} {d : Nat} {S : sS} {V : sV} {P : sP} {A : sV} {B : sB} {Q : sP} {t sl : Nat} {al : Nat → Int32} {sh ls p tm q : Nat} (hK : KB S V P A B Q t al sh ls p tm q) {hh hb b K : Nat} {h : Nat → Int32} (h7 : P 107 7 = some hh) (h8 : P 107 8 = some hb) (hhb : (hh = 112 ∧ hb = 113) ∨ (hh = 113 ∧ hb = 112)) (s7 : S hh = (20, 205)) (s8 : S hb = (20, 205)) (hb12 : b < 12) (hK85 : K ≤ 85) (hh9 : ∀ j, j < 205 → bnd K (h j)) (hc0 : ∀ j, j < 205 → A hh j = cv (h j)) : WQ G (d + 3) mX10_spreadBar 0 [some (.ref 107), some (.int (nI b)), none, none, none, none, none, none] [] (t, sl, gh S V P A B Q) (fun r h' => r = none ∧ ∃ (A' : sV) (B' : sB), h' = (t, sl, gh S V (up2 (up2 P 107 7 (some hb)) 107 8 (some hh)) A' B' Q) ∧ KB S V (up2 (up2 P 107 7 (some hb)) 107 8 (some hh)) A' B' Q t al sh ls p tm q ∧ (∀ j, j < 205 → A' hb j = cv (mstep (TT (atm al p tm) p q) (asks al 6) b h j)) ∧ FrW V A B V A' B') := by
  refine WQ.st (fun _ _ kz => pw_aload0 dX10_spreadBar_0 kz) ?_
  refine WQ.st (fun _ _ kz => pw_getr gX10_35 dX10_spreadBar_1 (cf_s107 hK.cf) h8 kz) ?_
  refine WQ.st (fun _ _ kz => pw_ldc kX10_70 dX10_spreadBar_4 kz) ?_
  refine WQ.st (fun _ _ kz => pw_s2v wJ7_fill_53178 lX10_49 dX10_spreadBar_6 (c_filli s8 (by omega) _) rfl (Nat.le_of_ble_eq_true rfl) (Nat.le_of_ble_eq_true rfl) kz) ?_
  refine WQ.st (fun _ _ kz => pw_iconst (v := 0) dX10_spreadBar_9 (by decide) kz) ?_
  refine WQ.st (fun _ _ kz => pw_istore2 dX10_spreadBar_10 (by decide) (k := kz)) ?_
  exact l_spread2 (A0 := A) (B0 := B) h7 h8 hhb s7 s8 hb12 hK85 hh9 205 0 _ B none none none none none rfl (hK.fr (FrK.a (a := hb) (by omega))) (fun j hj => by rw [pm_up_ne (by omega)]; exact hc0 j hj) (fun j hj => by rw [pm_up_eq, fillF_i hj]; rfl) (FrW.a (by omega))
