theorem cm_un {T : Nat → Nat → Nat → Nat → Int32} {s0 n : Nat} (h : (rf_cm T s0 n).2.2 = -1) {b : Nat} (hb : b < n) (hn : n ≤ 12) : ∃ j, j < 5 ∧ rf_cw T s0 b = dI j := by
  have st : ∀ k, k ≤ n → (rf_cm T s0 k).2.2 = -1 := fun k hk => by
    apply Decidable.byContradiction
    intro g
    have := rf_cm_stay g (n - k)
    rw [show k + (n - k) = n by omega] at this
    rw [this] at h
    exact g h
  have h1 := st b (by omega)
  rcases rf_na_ok (T b (rf_cm T s0 b).1.1 (rf_cm T s0 b).1.2) with g | g
  · have h2 := st (b + 1) (by omega)
    rw [rf_cm_n h1 g] at h2
    have h2 : nI b = -1 := h2
    rw [eq_i (ix_n (by omega)) (show (-1 : Int32).toInt = -1 from rfl)] at h2
    omega
  · refine ⟨_, g.1, ?_⟩
    unfold rf_cw
    rw [if_pos h1, nd_lt g.1]
theorem tmI_f {f : Nat → Int64} {rw : Nat → Int32} : ∀ m k, tmI f rw false m k = false
  | 0, _ => rfl
  | m + 1, k => by
    show tmI f rw (false && _) m (k + 1) = false
    rw [Bool.false_and]
    exact tmI_f m (k + 1)
theorem iw_tm {F G : Nat → Int32} {f : Nat → Int64} {rw : Nat → Int32} {n : Nat} : ∀ (c k : Nat) (b : Bool), k + c = n → (b = true → ∀ i, i < n → inM (F i) (G i) = (decide (f i = 9) || decide (f i = (rw i).toInt64))) → iwF F G b k c = tmI f rw b c k
  | 0, _, _, _, _ => rfl
  | c + 1, k, b, hk, h => by
    show (if b then iwF F G (inM (F k) (G k)) (k + 1) c else false) = tmI f rw (b && (decide (f k = 9) || decide (f k = (rw k).toInt64))) c (k + 1)
    cases b with
    | false => rw [Bool.false_and, tmI_f, if_neg (by decide)]
    | true =>
      rw [if_pos rfl, Bool.true_and, h rfl k (by omega)]
      exact iw_tm c (k + 1) _ (by omega) (fun _ => h rfl)
theorem in_dd {v : Int64} (h : isD v.toInt = true ∨ v = 9) {j : Nat} (hj : j < 5) : inM (hmk v) (dI j) = (decide (v = 9) || decide (v = (dI j).toInt64)) := by
  rcases h with h | h
  · obtain ⟨i, hi, e1, e2, e3⟩ := isD_j h
    have key : ∀ i j : Fin 5, inM (btF (dI i.1)) (dI j.1) = decide ((dI i.1).toInt64 = (dI j.1).toInt64) := by decide
    rw [decide_eq_false e3, Bool.false_or]
    unfold hmk
    rw [if_neg e3, e1, key ⟨i, hi⟩ ⟨j, hj⟩, e2]
  · rw [h]
    have key : ∀ j : Fin 5, inM (hmk 9) (dI j.1) = (decide ((9 : Int64) = 9) || decide ((9 : Int64) = (dI j.1).toInt64)) := by decide
    exact key ⟨j, hj⟩
theorem stN_atm {al : Nat → Int32} {p t : Nat} (hp : p < 5) : stN (atm al p t) p = stN al p := by
  unfold stN atm
  rw [pm_up_ne (by omega)]
theorem brd_x {x : Int32} {k : Nat} (hk : k < 32) : (x >>> (nI k &&& 31)) &&& 1 = 0 ↔ brd x.toInt k = false := by
  have h1 := and1_v (x >>> (nI k &&& 31))
  rw [brd_32 _ hk] at h1
  rw [h1]
  cases brd x.toInt k <;> decide
set_option maxRecDepth 20000 in
theorem q_thL {G : gT} {d : Nat} {S0 : sS} {V0 : sV} {P0 : sP} {A0 : sV} {B0 : sB} {Q0 : sP} {t0 sl0 : Nat} {al : Nat → Int32} {W : WT} {sh ls0 : Nat} {p q : Nat} {f : Nat → Int64} (hp : p < 5) (hq : q < 4) (hiq : isQ al (nI q).toInt = true) (hls : ls0 + 100 < 2000000000) (hf : ∀ b, b < lgN al q → isD (f b).toInt = true ∨ f b = 9) : ∀ (m k : Nat) (t sl ls : Nat) (S : sS) (V : sV) (P : sP) (A : sV) (B : sB) (Q : sP), k + m = 10 → CI S V P A B Q t al W sh ls → ls ≤ ls0 + k → FrO S0 V0 P0 A0 B0 t0 S V P A B t → (∀ k1 k2, Room2 S0 Q0 t0 sl0 k1 k2 → Room2 S Q t sl k1 k2) → (∀ b, b < lgN al q → A 69 b = hmk (f b)) → WQ G (d + 6) mX11_tempersHeard 5 [some (.ref 8), some (.int (nI p)), some (.int (nI q)), some (.int (tmS al p q f k)), some (.int (nI k))] [] (t, sl, gh S V P A B Q) (fun r h' => r = some (.int (tmS al p q f 10)) ∧ ∃ (t' sl' ls' : Nat) (S' : sS) (V' : sV) (P' : sP) (A' : sV) (B' : sB) (Q' : sP), h' = (t', sl', gh S' V' P' A' B' Q') ∧ CI S' V' P' A' B' Q' t' al W sh ls' ∧ ls' ≤ ls0 + 10 ∧ FrO S0 V0 P0 A0 B0 t0 S' V' P' A' B' t' ∧ ∀ k1 k2, Room2 S0 Q0 t0 sl0 k1 k2 → Room2 S' Q' t' sl' k1 k2) := by
  intro m
  induction m with
  | zero =>
    intro k t sl ls S V P A B Q hk hI hl hO hr hR
    have hk : k = 10 := hk
    subst hk
    have hE := hI.de
    have hC := hE.dc.ka.cf
    have hD := hE.dc.ka.dv
    have hn12 := (hD.lgE hq).2
    obtain ⟨es0, hs0⟩ := hE.kv.stE hp
    refine WQ.st (fun _ _ kz => pw_iload4 dX11_tempersHeard_5 kz) ?_
    refine WQ.st (fun _ _ kz => pw_bipush (v := 9) dX11_tempersHeard_7 (by decide) kz) ?_
    refine WQ.br (fun _ _ ka kb => pw_icmp_gt (tgt := 66) dX11_tempersHeard_9 (by decide) ka kb) (fun c9 => ?_) (fun c9 => absurd (by decide) c9)
    refine WQ.st (fun _ _ kz => pw_iload3 dX11_tempersHeard_66 kz) ?_
    refine ⟨_, _, pw_iret dX11_tempersHeard_67 rfl rfl rfl rfl, ?_⟩
    exact ⟨rfl, t, sl, ls, S, V, P, A, B, Q, rfl, hI, by omega, hO, hr⟩
  | succ m ih =>
    intro k t sl ls S V P A B Q hk hI hl hO hr hR
    have hE := hI.de
    have hC := hE.dc.ka.cf
    have hD := hE.dc.ka.dv
    have hn12 := (hD.lgE hq).2
    obtain ⟨es0, hs0⟩ := hE.kv.stE hp
    refine WQ.st (fun _ _ kz => pw_iload4 dX11_tempersHeard_5 kz) ?_
    refine WQ.st (fun _ _ kz => pw_bipush (v := 9) dX11_tempersHeard_7 (by decide) kz) ?_
    refine WQ.br (fun _ _ ka kb => pw_icmp_gt (tgt := 66) dX11_tempersHeard_9 (by decide) ka kb) (fun c9 => absurd c9 (by rw [lt_i li_9 (ix_n (by omega))]; omega)) (fun c9 => ?_)
    refine WQ.st (fun _ _ kz => pw_aload0 dX11_tempersHeard_12 kz) ?_
    refine WQ.st (fun _ _ kz => pw_getr gX11_80 dX11_tempersHeard_13 (cf_s8 hC) (cf_p8_11 hC) kz) ?_
    refine WQ.st (fun _ _ kz => pw_iload1 dX11_tempersHeard_16 kz) ?_
    refine WQ.st (fun _ _ kz => pw_iload4 dX11_tempersHeard_17 kz) ?_
    refine WQ.st (fun _ _ kz => pw_iload2 dX11_tempersHeard_19 kz) ?_
    refine wq_o3v wX0_takeUp lX11_393 rfl dX11_tempersHeard_20 (cf_s96 hC) (k_takeUp hE.dc.ka (by omega) hp (by omega) hq hiq) rfl (Nat.le_of_ble_eq_true rfl) (Nat.le_of_ble_eq_true rfl) (fun h20 z20 => ?_)
    obtain ⟨t5, sl5, ls5, S5, V5, P5, A5, B5, Q5, rfl, k5, l5, f5, r5⟩ := z20
    have i5 := hI.ask (k5.dc hE.dc f5.1 (hE.dc.hb.to (by rw [f5.2.2.2.1 103 (by omega)])) (hE.dc.rh.to (by rw [f5.2.2.2.1 107 (by omega)]) (by rw [f5.2.2.2.1 107 (by omega)])) (hE.dc.hw.to (by rw [f5.2.2.2.1 107 (by omega)]) (by rw [f5.2.2.2.1 107 (by omega)])) (f5.2.2.2.2.1 109 (by omega) (by omega) (by omega) (by omega))) f5.d
    have hC := k5.cf
    have hE5 := i5.de
    refine WQ.st (fun _ _ kz => pw_aload0 dX11_tempersHeard_23 kz) ?_
    refine WQ.st (fun _ _ kz => pw_getr gX11_89 dX11_tempersHeard_24 (cf_s8 hC) (cf_p8_12 hC) kz) ?_
    refine WQ.st (fun _ _ kz => pw_aload0 dX11_tempersHeard_27 kz) ?_
    refine WQ.st (fun _ _ kz => pw_getr gX11_35 dX11_tempersHeard_28 (cf_s8 hC) (cf_p8_5 hC) kz) ?_
    refine WQ.st (fun _ _ kz => pw_getr gX11_156 dX11_tempersHeard_31 (cf_s16 hC) (cf_p16_0 hC) kz) ?_
    refine WQ.st (fun _ _ kz => pw_iload1 dX11_tempersHeard_34 kz) ?_
    refine WQ.st (fun _ _ kz => pw_ald (j := p) dX11_tempersHeard_35 (cf_s17 hC) (ix_m rfl (by omega)) (by omega) kz) ?_
    rw [hE5.se.st hp, es0]
    refine wq_o1v wX1_run lX11_268 rfl dX11_tempersHeard_36 (cf_s103 hC) (k_run k5 hs0) rfl (Nat.le_of_ble_eq_true rfl) (Nat.le_of_ble_eq_true rfl) (fun h36 z36 => ?_)
    obtain ⟨V6, A6, B6, rfl, k6, cr, f6⟩ := z36
    have i6 := i5.frc k6 f6
    have hO6 := (hO.tr ((FrT.d (a := 20) f5).o (Or.inr rfl))).tr (f6.o (Q := Q5))
    have hr6 := fun k1 k2 h => r5 _ _ (hr k1 k2 h)
    have hC := k6.cf
    have hcm := rf_cm_ok (T := TT (atm al p k) p q) (n := lgN al q) hs0 (fun b l s w _ _ _ _ h => TT_in h) _ (Nat.le_refl _)
    refine WQ.st (fun _ _ kz => pw_aload0 dX11_tempersHeard_39 kz) ?_
    refine WQ.st (fun _ _ kz => pw_getr gX11_89 dX11_tempersHeard_40 (cf_s8 hC) (cf_p8_12 hC) kz) ?_
    refine WQ.st (fun _ _ kz => pw_aload0 dX11_tempersHeard_43 kz) ?_
    refine WQ.st (fun _ _ kz => pw_getr gX11_62 dX11_tempersHeard_44 (cf_s8 hC) (cf_p8_16 hC) kz) ?_
    refine wq_o1i wX1_isWithin lX11_416 rfl dX11_tempersHeard_47 (cf_s103 hC) (k_isWithin hC (cf_s69 hC) k6.len.1 hn12) rfl (Nat.le_of_ble_eq_true rfl) (Nat.le_of_ble_eq_true rfl) (fun h47 z47 => ?_)
    subst z47
    have eB : iwF (A6 69) (A6 104) (decide (V6 103 2 = -1)) 0 (lgN al q) = tmB al p q f k := by
      unfold tmB cmF
      rw [stN_atm hp, cr.2.2.1]
      refine iw_tm (n := lgN al q) (lgN al q) 0 _ (by omega) (fun h i hi => ?_)
      obtain ⟨j, hj, ej⟩ := cm_un (of_decide_eq_true h) hi hn12
      rw [cr.2.2.2 i (by omega), if_pos hi, ej, f6.2.1 69 (by omega) (by omega) (by omega), f5.2.2.2.2.1 69 (by omega) (by omega) (by omega) (by omega), hR i hi]
      exact in_dd (hf i hi) hj
    rw [eB]
    have hR6 : ∀ b, b < lgN al q → A6 69 b = hmk (f b) := fun b hb => by
      rw [f6.2.1 69 (by omega) (by omega) (by omega), f5.2.2.2.2.1 69 (by omega) (by omega) (by omega) (by omega)]
      exact hR b hb
    refine WQ.br (fun _ _ ka kb => pw_if_eq (tgt := 60) dX11_tempersHeard_50 (by decide) ka kb) (fun c50 => ?_) (fun c50 => ?_)
    · rw [bI_0] at c50
      have kk := ih (k + 1) _ _ _ _ _ _ _ _ _ (by omega) i6 (by omega) hO6 hr6 hR6
      have eS : tmS al p q f (k + 1) = tmS al p q f k ||| (if tmB al p q f k then (1 : Int32) <<< (nI k &&& 31) else 0) := rfl
      rw [c50, if_neg (by decide), Int32.or_zero] at eS
      rw [eS] at kk
      refine WQ.st (fun _ _ kz => pw_iinc4 (v := 1) dX11_tempersHeard_60 (by decide) (by decide) (k := kz)) ?_
      refine WQ.st (fun _ _ kz => pw_goto (tgt := 5) dX11_tempersHeard_63 (by decide) kz) ?_
      rw [nI_1]
      exact kk
    · rw [bI_n] at c50
      have kk := ih (k + 1) _ _ _ _ _ _ _ _ _ (by omega) i6 (by omega) hO6 hr6 hR6
      have eS : tmS al p q f (k + 1) = tmS al p q f k ||| (if tmB al p q f k then (1 : Int32) <<< (nI k &&& 31) else 0) := rfl
      rw [c50, if_pos (by rfl)] at eS
      rw [eS] at kk
      refine WQ.st (fun _ _ kz => pw_iload3 dX11_tempersHeard_53 kz) ?_
      refine WQ.st (fun _ _ kz => pw_iconst (v := 1) dX11_tempersHeard_54 (by decide) kz) ?_
      refine WQ.st (fun _ _ kz => pw_iload4 dX11_tempersHeard_55 kz) ?_
      refine WQ.st (fun _ _ kz => pw_ishl dX11_tempersHeard_57 kz) ?_
      refine WQ.st (fun _ _ kz => pw_ior dX11_tempersHeard_58 kz) ?_
      refine WQ.st (fun _ _ kz => pw_istore3 dX11_tempersHeard_59 (by decide) (k := kz)) ?_
      refine WQ.st (fun _ _ kz => pw_iinc4 (v := 1) dX11_tempersHeard_60 (by decide) (by decide) (k := kz)) ?_
      refine WQ.st (fun _ _ kz => pw_goto (tgt := 5) dX11_tempersHeard_63 (by decide) kz) ?_
      rw [nI_1]
      exact kk
set_option maxRecDepth 20000 in
theorem k_tempersHeard {G : gT} {d : Nat} {S : sS} {V : sV} {P : sP} {A : sV} {B : sB} {Q : sP} {t sl : Nat} {al : Nat → Int32} {W : WT} {sh ls : Nat} (hI : CI S V P A B Q t al W sh ls) (hls : ls + 100 < 2000000000) {p q : Nat} {f : Nat → Int64} (hp : p < 5) (hq : q < 4) (hiq : isQ al (nI q).toInt = true) (hf : ∀ b, b < lgN al q → isD (f b).toInt = true ∨ f b = 9) (hR : ∀ b, b < lgN al q → A 69 b = hmk (f b)) : WQ G (d + 6) mX11_tempersHeard 0 [some (.ref 8), some (.int (nI p)), some (.int (nI q)), none, none] [] (t, sl, gh S V P A B Q) (fun r h' => r = some (.int (tmS al p q f 10)) ∧ ∃ (t' sl' ls' : Nat) (S' : sS) (V' : sV) (P' : sP) (A' : sV) (B' : sB) (Q' : sP), h' = (t', sl', gh S' V' P' A' B' Q') ∧ CI S' V' P' A' B' Q' t' al W sh ls' ∧ ls' ≤ ls + 10 ∧ FrO S V P A B t S' V' P' A' B' t' ∧ ∀ k1 k2, Room2 S Q t sl k1 k2 → Room2 S' Q' t' sl' k1 k2) := by
  have hE := hI.de
  have hC := hE.dc.ka.cf
  have hD := hE.dc.ka.dv
  have hSe := hE.dc.ka.se
  have hA := hI.av
  refine WQ.st (fun _ _ kz => pw_iconst (v := 0) dX11_tempersHeard_0 (by decide) kz) ?_
  refine WQ.st (fun _ _ kz => pw_istore3 dX11_tempersHeard_1 (by decide) (k := kz)) ?_
  refine WQ.st (fun _ _ kz => pw_iconst (v := 0) dX11_tempersHeard_2 (by decide) kz) ?_
  refine WQ.st (fun _ _ kz => pw_istore4 dX11_tempersHeard_3 (by decide) (k := kz)) ?_
  exact q_thL hp hq hiq hls hf 10 0 t sl ls S V P A B Q (by omega) hI (by omega) FrO.rfl (fun _ _ h => h) hR
set_option maxRecDepth 20000 in
theorem q_tempers {G : gT} {d : Nat} {S : sS} {V : sV} {P : sP} {A : sV} {B : sB} {Q : sP} {t sl : Nat} {al : Nat → Int32} {W : WT} {sh ls : Nat} (hI : CI S V P A B Q t al W sh ls) (hls : ls + 1000 < 2000000000) (x y z : Int32) : WQ G (d + 9) mX11_tempers 0 [some (.ref 8), some (.int x), some (.int y), some (.int z), none] [] (t, sl, gh S V P A B Q) (CZ S V P A B Q t sl W sh ls (.int (sp_temps al W.2.1 W.2.2.1 W.2.2.2.1 x.toInt y.toInt z.toInt)) al) := by
  unfold CZ
  have hE := hI.de
  have hC := hE.dc.ka.cf
  have hD := hE.dc.ka.dv
  have hSe := hE.dc.ka.se
  have hA := hI.av
  have hp5 := hD.p5
  have hn4 := hD.n4
  refine WQ.st (fun _ _ kz => pw_aload0 dX11_tempers_0 kz) ?_
  refine WQ.st (fun _ _ kz => pw_iload1 dX11_tempers_1 kz) ?_
  refine WQ.st (fun _ _ kz => pw_iload2 dX11_tempers_2 kz) ?_
  refine WQ.st (fun _ _ kz => pw_iload3 dX11_tempers_3 kz) ?_
  refine wq_o3i wX11_refuseHeard lX11_345 rfl dX11_tempers_4 (cf_s8 hC) (k_refuseHeard hI (by omega) x y z) rfl (Nat.le_of_ble_eq_true rfl) (Nat.le_of_ble_eq_true rfl) (fun h4 z4 => ?_)
  obtain ⟨A1, rfl, g1, g2⟩ := z4
  obtain ⟨hI1, hO1⟩ := hI.a69 (fun x h1 _ => g1 x h1)
  have hE1 := hI1.de
  refine WQ.st (fun _ _ kz => pw_istore4 dX11_tempers_7 (by decide) (k := kz)) ?_
  refine WQ.st (fun _ _ kz => pw_iload4 dX11_tempers_9 kz) ?_
  refine WQ.br (fun _ _ ka kb => pw_if_eq (tgt := 19) dX11_tempers_11 (by decide) ka kb) (fun c11 => ?_) (fun c11 => ?_)
  · obtain ⟨tr, p, q, ⟨rfl, htr, tx⟩, ⟨rfl, hp, tp⟩, ⟨rfl, hq, tq, hiq⟩, hbb⟩ := g2 c11
    refine WQ.st (fun _ _ kz => pw_aload0 dX11_tempers_19 kz) ?_
    refine WQ.st (fun _ _ kz => pw_iload2 dX11_tempers_20 kz) ?_
    refine WQ.st (fun _ _ kz => pw_iload3 dX11_tempers_21 kz) ?_
    refine wq_o2i wX11_tempersHeard lX11_350 rfl dX11_tempers_22 (cf_s8 hC) (k_tempersHeard hI1 (by omega) hp hq hiq (f := fun b => W.2.2.2.1 (40 * tr + b)) (fun b hb => (hbb b hb).2) (fun b hb => (hbb b hb).1)) rfl (Nat.le_of_ble_eq_true rfl) (Nat.le_of_ble_eq_true rfl) (fun h22 z22 => ?_)
    obtain ⟨t5, sl5, ls5, S5, V5, P5, A5, B5, Q5, rfl, i5, l5, o5, r5⟩ := z22
    have hC := i5.de.dc.ka.cf
    refine ⟨_, _, pw_iret dX11_tempers_25 rfl rfl rfl rfl, ?_⟩
    exact ⟨rI (by unfold sp_temps; rw [if_pos c11, tp, tq, tx, Int.toNat_natCast, Int.toNat_natCast, Int.toNat_natCast]), t5, sl5, ls5, S5, V5, P5, A5, B5, Q5, rfl, i5, by omega, hO1.tr o5, r5⟩
  · refine WQ.st (fun _ _ kz => pw_iload4 dX11_tempers_14 kz) ?_
    refine WQ.st (fun _ _ kz => pw_goto (tgt := 25) dX11_tempers_16 (by decide) kz) ?_
    refine ⟨_, _, pw_iret dX11_tempers_25 rfl rfl rfl rfl, ?_⟩
    exact ⟨rI (by unfold sp_temps; rw [if_neg c11]), t, sl, ls, S, V, P, A1, B, Q, rfl, hI1, by omega, hO1, fun _ _ h => h⟩
