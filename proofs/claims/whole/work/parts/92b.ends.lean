theorem sI_20 (s : Nat) : sI s + 20 = nI s := by
  unfold sI
  rw [show (20 : Int32) = iI 20 from rfl, iI_add, iI_nat]
  congr 1
  omega
theorem cv_mxq {a b : Int32} (ha : bnd 12 a) (hb : bnd 12 b) : (if cv a < cv b then cv b else cv a) = cv (mxo a b) := by
  unfold mxo
  by_cases ca : a = -268435456
  · by_cases cb : b = -268435456
    · rw [ca, cb]; rfl
    · have h := bnd_c hb (by omega) cb
      rw [ca, if_pos h]
      have h2 : cv (-268435456) < cv b := by
        rw [cv_n cb, lt_i (show (cv (-268435456)).toInt = -2147483648 from rfl) rfl]
        rw [lt_i (show (-268435456 : Int32).toInt = -268435456 from rfl) rfl] at h
        omega
      rw [if_pos h2]
  · by_cases cb : b = -268435456
    · have h := bnd_c ha (by omega) ca
      rw [cb, if_neg (show ¬ a < -268435456 from fun q => absurd (Int32.lt_trans h q) (by decide))]
      have h2 : ¬ cv a < cv (-268435456) := by
        rw [cv_n ca, lt_i rfl (show (cv (-268435456)).toInt = -2147483648 from rfl)]
        rw [lt_i (show (-268435456 : Int32).toInt = -268435456 from rfl) rfl] at h
        omega
      rw [if_neg h2]
    · rw [cv_n ca, cv_n cb]
      by_cases c : a < b
      · rw [if_pos c, cv_n cb]
      · rw [if_neg c, cv_n ca]
theorem sq_v {f : Int32} (hf : bnd 12 f) {m : Nat} (hm : m < 41) (n : f ≠ -268435456) : -268435456 < f + 3 * sI m := by
  have e : (3 * sI m).toInt = 3 * ((m : Int) - 20) := by
    unfold sI
    rw [show (3 : Int32) = iI 3 from rfl, iI_mul, iI_toInt (by omega)]
  have h : -(1000000 * (12 : Int)) ≤ f.toInt ∧ f.toInt ≤ 1000000 * (12 : Int) := hf.resolve_left n
  rw [lt_i (show (-268435456 : Int32).toInt = -268435456 from rfl) (ad_t (by omega) (by omega)), e]
  omega
theorem th_bnd {al : Nat → Int32} (hD : DV al) {np : Int} (hK : KV np (fun k => al (75 + k))) {p q : Nat} (hp : p < 5) (hq : q < 4) (u : Nat) : bnd 12 (thT al p q (stN al p) u) := by
  obtain ⟨tm, ht, etm, hat⟩ := hK.tmE hp
  have hn12 := (hD.lgE hq).2
  have := rf_T_bnd (kp := kpA) (n := lgN al q) (e := rf_e1 (sI u)) hn12 (TT_b1 hD hp ht hq hn12) (fun b l s w _ _ _ _ h => TT_in h) (fun s _ => rf_e1_bnd (sI u) s) (lgN al q) (Nat.le_refl _) 2 (stN al p) (by omega) (hK.stE hp).2
  rw [hat] at this
  exact this.up hn12
set_option maxRecDepth 20000 in
theorem k_endsOf {G : gT} {d : Nat} {S : sS} {V : sV} {P : sP} {A : sV} {B : sB} {Q : sP} {t sl : Nat} {al : Nat → Int32} {W : WT} {sh ls : Nat} (hI : CI S V P A B Q t al W sh ls) (hls : ls + 1 < 2000000000) {p q : Nat} (hp : p < 5) (hq : q < 4) (hiq : isQ al (nI q).toInt = true) : WQ G (d + 6) mX11_endsOf 0 [some (.ref 8), some (.int (nI p)), some (.int (nI q))] [] (t, sl, gh S V P A B Q) (fun r h' => r = some (.ref 70) ∧ ∃ (t' sl' ls' : Nat) (S' : sS) (V' : sV) (P' : sP) (A' : sV) (B' : sB) (Q' : sP), h' = (t', sl', gh S' V' P' A' B' Q') ∧ CI S' V' P' A' B' Q' t' al W sh ls' ∧ ls' ≤ ls + 1 ∧ FrO S V P A B t S' V' P' A' B' t' ∧ (∀ k1 k2, Room2 S Q t sl k1 k2 → Room2 S' Q' t' sl' k1 k2) ∧ ∀ u, u < 41 → A' 70 u = cv (thT al p q (stN al p) u)) := by
  have hE := hI.de
  have hC := hE.dc.ka.cf
  have hD := hE.dc.ka.dv
  have hSe := hE.dc.ka.se
  have hA := hI.av
  refine WQ.st (fun _ _ kz => pw_aload0 dX11_endsOf_0 kz) ?_
  refine WQ.st (fun _ _ kz => pw_iload1 dX11_endsOf_1 kz) ?_
  refine WQ.st (fun _ _ kz => pw_iload2 dX11_endsOf_2 kz) ?_
  refine wq_o2v wX11_takeUp lX11_186 rfl dX11_endsOf_3 (cf_s8 hC) (k_take hI (by omega) hp hq hiq) rfl (Nat.le_of_ble_eq_true rfl) (Nat.le_of_ble_eq_true rfl) (fun h3 z3 => ?_)
  obtain ⟨tm, hat, t5, sl5, ls5, S5, V5, P5, A5, B5, Q5, rfl, k5, i5, l5, f5, r5⟩ := z3
  have hC := k5.cf
  have hE5 := i5.de
  obtain ⟨es0, hs0⟩ := hE5.kv.stE hp
  refine WQ.st (fun _ _ kz => pw_aload0 dX11_endsOf_6 kz) ?_
  refine WQ.st (fun _ _ kz => pw_getr gX11_66 dX11_endsOf_7 (cf_s8 hC) (cf_p8_17 hC) kz) ?_
  refine WQ.st (fun _ _ kz => pw_ldcw kX11_307 dX11_endsOf_10 kz) ?_
  refine WQ.st (fun _ _ kz => pw_s2v wJ7_fill_53178 lX11_399 dX11_endsOf_13 (c_filli (cf_s70 hC) (by omega) _) rfl (Nat.le_of_ble_eq_true rfl) (Nat.le_of_ble_eq_true rfl) kz) ?_
  refine WQ.st (fun _ _ kz => pw_aload0 dX11_endsOf_16 kz) ?_
  refine WQ.st (fun _ _ kz => pw_getr gX11_66 dX11_endsOf_17 (cf_s8 hC) (cf_p8_17 hC) kz) ?_
  refine WQ.st (fun _ _ kz => pw_aload0 dX11_endsOf_20 kz) ?_
  refine WQ.st (fun _ _ kz => pw_getr gX11_35 dX11_endsOf_21 (cf_s8 hC) (cf_p8_5 hC) kz) ?_
  refine WQ.st (fun _ _ kz => pw_getr gX11_156 dX11_endsOf_24 (cf_s16 hC) (cf_p16_0 hC) kz) ?_
  refine WQ.st (fun _ _ kz => pw_iload1 dX11_endsOf_27 kz) ?_
  refine WQ.st (fun _ _ kz => pw_ald (j := p) dX11_endsOf_28 (cf_s17 hC) (ix_m rfl (by omega)) (by omega) kz) ?_
  rw [pm_up_ne (by omega), hE5.se.st hp, es0]
  refine WQ.st (fun _ _ kz => pw_bipush (v := 20) dX11_endsOf_29 (by decide) kz) ?_
  refine WQ.st (fun _ _ kz => pw_iadd dX11_endsOf_31 kz) ?_
  refine WQ.st (fun _ _ kz => pw_iconst (v := 0) dX11_endsOf_32 (by decide) kz) ?_
  refine WQ.st (fun _ _ kz => pw_ast (j := stN al p) dX11_endsOf_33 (cf_s70 hC) (by rw [sI_20]; exact ix_n (by omega)) (by omega)  kz) ?_
  have f6 : ∀ x, x ≠ 70 → (up2 (pm_up A5 70 (fillF (-2147483648) 41 (A5 70))) 70 (stN al p) 0) x = A5 x := fun x hx => by rw [up2_na hx, pm_up_ne hx]
  have k6 := k5.fr (V' := V5) (A' := (up2 (pm_up A5 70 (fillF (-2147483648) 41 (A5 70))) 70 (stN al p) 0)) (B' := B5) ⟨fun _ _ => rfl, fun x hx => f6 x (by omega), fun _ _ => rfl⟩
  have h70 : ∀ s, s < 41 → (up2 (pm_up A5 70 (fillF (-2147483648) 41 (A5 70))) 70 (stN al p) 0) 70 s = cv (one1 (stN al p) s) := fun s hs => by
    rw [up2_at]
    unfold one1
    by_cases e : s = stN al p
    · rw [if_pos e, e, pm_up_eq]; rfl
    · rw [if_neg e, pm_up_ne e, pm_up_eq, fillF_i hs]; rfl
  refine WQ.st (fun _ _ kz => pw_aload0 dX11_endsOf_34 kz) ?_
  refine WQ.st (fun _ _ kz => pw_getr gX11_96 dX11_endsOf_35 (cf_s8 hC) (cf_p8_13 hC) kz) ?_
  refine WQ.st (fun _ _ kz => pw_aload0 dX11_endsOf_38 kz) ?_
  refine WQ.st (fun _ _ kz => pw_getr gX11_66 dX11_endsOf_39 (cf_s8 hC) (cf_p8_17 hC) kz) ?_
  refine WQ.st (fun _ _ kz => pw_aload0 dX11_endsOf_42 kz) ?_
  refine WQ.st (fun _ _ kz => pw_getr gX11_66 dX11_endsOf_43 (cf_s8 hC) (cf_p8_17 hC) kz) ?_
  refine wq_o2v wX10_spread lX11_405 rfl dX11_endsOf_46 (cf_s107 hC) (k_spread k6 i5.de.dc.hw (fr := 70) (to := 70) (K := 0) (F := one1 (stN al p)) (cf_s70 hC) (Or.inl rfl) (cf_s70 hC) (Or.inl rfl) (by omega) (fun s _ => one_b _ s) h70) rfl (Nat.le_of_ble_eq_true rfl) (Nat.le_of_ble_eq_true rfl) (fun h46 z46 => ?_)
  obtain ⟨P7, A7, B7, rfl, k7, w7, p1, p2, a1, a2, b2⟩ := z46
  have hC := k7.cf
  refine WQ.st (fun _ _ kz => pw_aload0 dX11_endsOf_49 kz) ?_
  refine WQ.st (fun _ _ kz => pw_getr gX11_66 dX11_endsOf_50 (cf_s8 hC) (cf_p8_17 hC) kz) ?_
  refine ⟨_, _, pw_aret dX11_endsOf_53 rfl (Or.inr ⟨_, rfl⟩) rfl rfl, ?_⟩
  have fr : FrD 20 S5 V5 P5 A5 B5 Q5 t5 S5 V5 P7 A7 B7 Q5 t5 := ⟨Nat.le_refl _, fun _ _ => rfl, fun _ _ => rfl, fun x hx => p1 x (by omega), fun x hx => (a2 x (by omega) (by omega) (by omega) (by omega)).trans (f6 x (by omega)), fun x hx => b2 x (by omega) (by omega) (by omega), fun _ _ => rfl⟩
  have i7 := i5.step k7 fr ((a2 109 (by omega) (by omega) (by omega) (by omega)).trans (f6 109 (by omega))) (i5.de.dc.hb.to (p1 103 (by omega))) (i5.de.dc.rh.to (p2 9 (by omega) (by omega)) (p2 10 (by omega) (by omega))) w7
  refine ⟨rfl, t5, sl5, ls5, S5, V5, P7, A7, B7, Q5, rfl, i7, l5, ((FrT.d (a := 20) f5).o (Or.inr rfl)).tr (fr.o (Or.inr rfl)), r5, fun u hu => ?_⟩
  rw [a1 u hu, hat, th_sp hD hE.kv hp hq hu]
set_option maxRecDepth 20000 in
theorem q_thriL {G : gT} {d : Nat} {S : sS} {V : sV} {P : sP} {A : sV} {B : sB} {Q : sP} {t sl : Nat} (hC : CF S P) {x1 x2 : Int32} : ∀ (k : Nat), k ≤ 41 → WQ G d mX11_thriftiest 23 [some (.ref 8), some (.int x1), some (.int x2), some (.ref 70), some (.int (sI k + (-1)))] [] (t, sl, gh S V P A B Q) (fun r h' => r = some (.int (dn1 (fun s => decide (A 70 s ≠ -2147483648)) k)) ∧ h' = (t, sl, gh S V P A B Q)) := by
  intro k
  induction k with
  | zero =>
    intro hk
    refine WQ.st (fun _ _ kz => pw_iload4 dX11_thriftiest_23 kz) ?_
    refine WQ.st (fun _ _ kz => pw_bipush (v := -20) dX11_thriftiest_25 (by decide) kz) ?_
    refine WQ.br (fun _ _ ka kb => pw_icmp_lt (tgt := 52) dX11_thriftiest_27 (by decide) ka kb) (fun c27 => ?_) (fun c27 => absurd (by decide) c27)
    refine WQ.st (fun _ _ kz => pw_ldcw kX11_294 dX11_thriftiest_52 kz) ?_
    refine ⟨_, _, pw_iret dX11_thriftiest_55 rfl rfl rfl rfl, ?_⟩
    exact ⟨rfl, rfl⟩
  | succ k ih =>
    intro hk
    rw [sI_m]
    refine WQ.st (fun _ _ kz => pw_iload4 dX11_thriftiest_23 kz) ?_
    refine WQ.st (fun _ _ kz => pw_bipush (v := -20) dX11_thriftiest_25 (by decide) kz) ?_
    refine WQ.br (fun _ _ ka kb => pw_icmp_lt (tgt := 52) dX11_thriftiest_27 (by decide) ka kb) (fun c27 => absurd c27 (by rw [lt_i (sI_t (by omega)) lq_m20]; omega)) (fun c27 => ?_)
    refine WQ.st (fun _ _ kz => pw_aload3 dX11_thriftiest_30 kz) ?_
    refine WQ.st (fun _ _ kz => pw_iload4 dX11_thriftiest_31 kz) ?_
    refine WQ.st (fun _ _ kz => pw_bipush (v := 20) dX11_thriftiest_33 (by decide) kz) ?_
    refine WQ.st (fun _ _ kz => pw_iadd dX11_thriftiest_35 kz) ?_
    refine WQ.st (fun _ _ kz => pw_ald (j := k) dX11_thriftiest_36 (cf_s70 hC) (by rw [sI_20]; exact ix_n (by omega)) (by omega) kz) ?_
    refine WQ.st (fun _ _ kz => pw_ldcw kX11_307 dX11_thriftiest_37 kz) ?_
    refine WQ.br (fun _ _ ka kb => pw_icmp_eq (tgt := 46) dX11_thriftiest_40 (by decide) ka kb) (fun c40 => ?_) (fun c40 => ?_)
    · have eU : dn1 (fun s => decide (A 70 s ≠ -2147483648)) (k + 1) = dn1 (fun s => decide (A 70 s ≠ -2147483648)) k := by
        show (if _ then _ else _) = _
        rw [if_neg (by show ¬ decide (A 70 k ≠ -2147483648) = true; rw [decide_eq_false (fun h => h c40)]; decide)]
      rw [eU]
      refine WQ.st (fun _ _ kz => pw_iinc4 (v := -1) dX11_thriftiest_46 (by decide) (by decide) (k := kz)) ?_
      refine WQ.st (fun _ _ kz => pw_goto (tgt := 23) dX11_thriftiest_49 (by decide) kz) ?_
      exact ih (by omega)
    · refine WQ.st (fun _ _ kz => pw_iload4 dX11_thriftiest_43 kz) ?_
      refine ⟨_, _, pw_iret dX11_thriftiest_45 rfl rfl rfl rfl, ?_⟩
      refine ⟨rI ?_, rfl⟩
      show _ = (if _ then _ else _)
      rw [if_pos (by show decide (A 70 k ≠ -2147483648) = true; exact decide_eq_true c40)]
set_option maxRecDepth 20000 in
theorem q_thriftiest {G : gT} {d : Nat} {S : sS} {V : sV} {P : sP} {A : sV} {B : sB} {Q : sP} {t sl : Nat} {al : Nat → Int32} {W : WT} {sh ls : Nat} (hI : CI S V P A B Q t al W sh ls) (hls : ls + 1000 < 2000000000) (x y : Int32) : WQ G (d + 9) mX11_thriftiest 0 [some (.ref 8), some (.int x), some (.int y), none, none] [] (t, sl, gh S V P A B Q) (CZ S V P A B Q t sl W sh ls (.int (sp_thri al x.toInt y.toInt)) al) := by
  unfold CZ
  have hE := hI.de
  have hC := hE.dc.ka.cf
  have hD := hE.dc.ka.dv
  have hSe := hE.dc.ka.se
  have hA := hI.av
  have hp5 := hD.p5
  have hn4 := hD.n4
  refine WQ.st (fun _ _ kz => pw_aload0 dX11_thriftiest_0 kz) ?_
  refine WQ.st (fun _ _ kz => pw_iload1 dX11_thriftiest_1 kz) ?_
  refine WQ.st (fun _ _ kz => pw_iload2 dX11_thriftiest_2 kz) ?_
  refine wq_o2i wX11_hasBoth lX11_262 rfl dX11_thriftiest_3 (cf_s8 hC) (k_hasBoth hI _ _) rfl (Nat.le_of_ble_eq_true rfl) (Nat.le_of_ble_eq_true rfl) (fun h3 z3 => ?_)
  subst z3
  refine WQ.bn (fun _ _ ka kb => pw_if_ne (tgt := 12) dX11_thriftiest_6 (by decide) ka kb) (fun c6 => ?_) (fun c6 => ?_)
  · rw [bI_n] at c6
    have hb2 := (Bool.and_eq_true _ _).mp c6
    have hiq := hb2.2
    have gx := isP_t hb2.1
    obtain ⟨p, rfl, tp, lp⟩ := nI_get gx.1 gx.2 (by omega)
    have hp : p < 5 := by omega
    have gy := isQ_t hb2.2
    obtain ⟨q, rfl, tq, lq⟩ := nI_get gy.1 gy.2 (by omega)
    have hq : q < 4 := by omega
    refine WQ.st (fun _ _ kz => pw_aload0 dX11_thriftiest_12 kz) ?_
    refine WQ.st (fun _ _ kz => pw_iload1 dX11_thriftiest_13 kz) ?_
    refine WQ.st (fun _ _ kz => pw_iload2 dX11_thriftiest_14 kz) ?_
    refine wq_o2i wX11_endsOf lX11_303 rfl dX11_thriftiest_15 (cf_s8 hC) (k_endsOf hI (by omega) hp hq hiq) rfl (Nat.le_of_ble_eq_true rfl) (Nat.le_of_ble_eq_true rfl) (fun h15 z15 => ?_)
    obtain ⟨t5, sl5, ls5, S5, V5, P5, A5, B5, Q5, rfl, i5, l5, o5, r5, e5⟩ := z15
    have hC := i5.de.dc.ka.cf
    refine WQ.st (fun _ _ kz => pw_astore3 dX11_thriftiest_18 (by decide) (k := kz)) ?_
    refine WQ.st (fun _ _ kz => pw_bipush (v := 20) dX11_thriftiest_19 (by decide) kz) ?_
    refine WQ.st (fun _ _ kz => pw_istore4 dX11_thriftiest_21 (by decide) (k := kz)) ?_
    rw [show (20 : Int32) = sI 41 + (-1) from rfl]
    obtain ⟨r, h', kr, rfl, rfl⟩ := q_thriL (G := G) (d := d + 9) (S := S5) (V := V5) (P := P5) (A := A5) (B := B5) (Q := Q5) (t := t5) (sl := sl5) hC (x1 := nI p) (x2 := nI q) 41 (by omega)
    refine ⟨_, _, kr, rI ?_, t5, sl5, ls5, S5, V5, P5, A5, B5, Q5, rfl, i5, by omega, o5, r5⟩
    unfold sp_thri
    rw [if_pos c6, tp, tq, Int.toNat_natCast, Int.toNat_natCast]
    obtain ⟨tm, ht, etm, hat⟩ := hE.kv.tmE hp
    have hn12 := (hD.lgE hq).2
    have hT := TT_b1 hD hp ht hq hn12
    have hw := wtC_TT (kp := kpA) hD hp ht hq hn12
    rw [hat] at hT hw
    refine dn1_cong 41 (fun s hs => decide_eq_decide.mpr ?_)
    rw [e5 s hs]
    unfold mnC
    rw [← spF_cnt hn12 hT hw hs, th_sp hD hE.kv hp hq hs]
    exact not_congr (cv_min (th_bnd hD hE.kv hp hq s) (by omega))
  · rw [bI_0] at c6
    refine WQ.st (fun _ _ kz => pw_ldc kX11_155 dX11_thriftiest_9 kz) ?_
    refine ⟨_, _, pw_iret dX11_thriftiest_11 rfl rfl rfl rfl, ?_⟩
    exact ⟨rI (by unfold sp_thri; rw [c6, if_neg (by decide)]), t, sl, ls, S, V, P, A, B, Q, rfl, hI, by omega, FrO.rfl, fun _ _ h => h⟩
