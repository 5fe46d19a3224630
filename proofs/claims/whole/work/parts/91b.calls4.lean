set_option maxRecDepth 20000 in
theorem q_leastL {G : gT} {d : Nat} {S : sS} {V : sV} {P : sP} {A : sV} {B : sB} {Q : sP} {t sl : Nat} (hC : CF S P) {F : Nat → Int32} {x1 x2 x3 gl : Int32} (hb : ∀ s, s < 41 → bnd 12 (F s)) (hF : ∀ s, s < 41 → A 110 (s * 5 + 2) = cv (F s)) : ∀ (m k : Nat) (y : Option Value), k + m = 41 → WQ G (d + 3) mX11_least 51 [some (.ref 8), some (.int x1), some (.int x2), some (.int x3), some (.int gl), some (.int (sI k)), y] [] (t, sl, gh S V P A B Q) (fun r h' => r = some (.int (up1 (fun s => decide (F s ≠ -268435456) && decide (gl ≤ F s)) m k)) ∧ h' = (t, sl, gh S V P A B Q)) := by
  intro m
  induction m with
  | zero =>
    intro k y hk
    have hk : k = 41 := hk
    subst hk
    refine WQ.st (fun _ _ kz => pw_iload5 dX11_least_51 kz) ?_
    refine WQ.st (fun _ _ kz => pw_bipush (v := 20) dX11_least_53 (by decide) kz) ?_
    refine WQ.br (fun _ _ ka kb => pw_icmp_gt (tgt := 93) dX11_least_55 (by decide) ka kb) (fun c55 => ?_) (fun c55 => absurd (by rw [lt_i li_20 (sI_t (by omega))]; omega) c55)
    refine WQ.st (fun _ _ kz => pw_ldcw kX11_294 dX11_least_93 kz) ?_
    refine ⟨_, _, pw_iret dX11_least_96 rfl rfl rfl rfl, ?_⟩
    exact ⟨rfl, rfl⟩
  | succ m ih =>
    intro k y hk
    refine WQ.st (fun _ _ kz => pw_iload5 dX11_least_51 kz) ?_
    refine WQ.st (fun _ _ kz => pw_bipush (v := 20) dX11_least_53 (by decide) kz) ?_
    refine WQ.br (fun _ _ ka kb => pw_icmp_gt (tgt := 93) dX11_least_55 (by decide) ka kb) (fun c55 => absurd c55 (by rw [lt_i li_20 (sI_t (by omega))]; omega)) (fun c55 => ?_)
    refine WQ.st (fun _ _ kz => pw_aload0 dX11_least_58 kz) ?_
    refine WQ.st (fun _ _ kz => pw_getr gX11_96 dX11_least_59 (cf_s8 hC) (cf_p8_13 hC) kz) ?_
    refine WQ.st (fun _ _ kz => pw_iload5 dX11_least_62 kz) ?_
    refine wq_o1i wX10_mostFrom lX11_312 rfl dX11_least_64 (cf_s107 hC) (k_mostFrom hC (s := k) (by omega)) rfl (Nat.le_of_ble_eq_true rfl) (Nat.le_of_ble_eq_true rfl) (fun h64 z64 => ?_)
    subst z64
    rw [hF k (by omega)]
    refine WQ.st (fun _ _ kz => pw_istore6 dX11_least_67 (by decide) (k := kz)) ?_
    refine WQ.st (fun _ _ kz => pw_iload6 dX11_least_69 kz) ?_
    refine WQ.st (fun _ _ kz => pw_ldcw kX11_307 dX11_least_71 kz) ?_
    refine WQ.br (fun _ _ ka kb => pw_icmp_eq (tgt := 87) dX11_least_74 (by decide) ka kb) (fun c74 => ?_) (fun c74 => ?_)
    · have e1 := (cv_min (hb k (by omega)) (by omega)).mp c74
      have eU : up1 (fun s => decide (F s ≠ -268435456) && decide (gl ≤ F s)) (m + 1) k = up1 (fun s => decide (F s ≠ -268435456) && decide (gl ≤ F s)) m (k + 1) := by
        show (if _ then _ else _) = _
        rw [if_neg (by show ¬ (decide (F k ≠ -268435456) && decide (gl ≤ F k)) = true; rw [decide_eq_false (fun h => h e1), Bool.false_and]; decide)]
      rw [eU]
      refine WQ.st (fun _ _ kz => pw_iinc5 (v := 1) dX11_least_87 (by decide) (by decide) (k := kz)) ?_
      refine WQ.st (fun _ _ kz => pw_goto (tgt := 51) dX11_least_90 (by decide) kz) ?_
      rw [sI_1]
      exact ih (k + 1) _ (by omega)
    · have e1 : ¬ F k = -268435456 := fun h => c74 ((cv_min (hb k (by omega)) (by omega)).mpr h)
      rw [cv_n e1]
      refine WQ.st (fun _ _ kz => pw_iload6 dX11_least_77 kz) ?_
      refine WQ.st (fun _ _ kz => pw_iload4 dX11_least_79 kz) ?_
      refine WQ.br (fun _ _ ka kb => pw_icmp_lt (tgt := 87) dX11_least_81 (by decide) ka kb) (fun c81 => ?_) (fun c81 => ?_)
      · have eU : up1 (fun s => decide (F s ≠ -268435456) && decide (gl ≤ F s)) (m + 1) k = up1 (fun s => decide (F s ≠ -268435456) && decide (gl ≤ F s)) m (k + 1) := by
          show (if _ then _ else _) = _
          rw [if_neg (by show ¬ (decide (F k ≠ -268435456) && decide (gl ≤ F k)) = true; rw [decide_eq_false (fun h => absurd (Int32.not_lt.mpr h) (fun q => q c81)), Bool.and_false]; decide)]
        rw [eU]
        refine WQ.st (fun _ _ kz => pw_iinc5 (v := 1) dX11_least_87 (by decide) (by decide) (k := kz)) ?_
        refine WQ.st (fun _ _ kz => pw_goto (tgt := 51) dX11_least_90 (by decide) kz) ?_
        rw [sI_1]
        exact ih (k + 1) _ (by omega)
      · refine WQ.st (fun _ _ kz => pw_iload5 dX11_least_84 kz) ?_
        refine ⟨_, _, pw_iret dX11_least_86 rfl rfl rfl rfl, ?_⟩
        refine ⟨rI ?_, rfl⟩
        show _ = (if _ then _ else _)
        rw [if_pos (by show (decide (F k ≠ -268435456) && decide (gl ≤ F k)) = true; rw [decide_eq_true (p := F k ≠ -268435456) e1, decide_eq_true (Int32.not_lt.mp c81)]; rfl)]
set_option maxRecDepth 20000 in
theorem q_least {G : gT} {d : Nat} {S : sS} {V : sV} {P : sP} {A : sV} {B : sB} {Q : sP} {t sl : Nat} {al : Nat → Int32} {W : WT} {sh ls : Nat} (hI : CI S V P A B Q t al W sh ls) (hls : ls + 1000 < 2000000000) (x y g l : Int32) : WQ G (d + 9) mX11_least 0 [some (.ref 8), some (.int x), some (.int y), some (.int g), some (.int l), none, none] [] (t, sl, gh S V P A B Q) (CZ S V P A B Q t sl W sh ls (.int (sp_least al x.toInt y.toInt g l)) al) := by
  unfold CZ
  have hE := hI.de
  have hC := hE.dc.ka.cf
  have hD := hE.dc.ka.dv
  have hSe := hE.dc.ka.se
  have hA := hI.av
  have hp5 := hD.p5
  have hn4 := hD.n4
  refine WQ.st (fun _ _ kz => pw_aload0 dX11_least_0 kz) ?_
  refine WQ.st (fun _ _ kz => pw_iload1 dX11_least_1 kz) ?_
  refine WQ.st (fun _ _ kz => pw_iload2 dX11_least_2 kz) ?_
  refine wq_o2i wX11_hasBoth lX11_262 rfl dX11_least_3 (cf_s8 hC) (k_hasBoth hI _ _) rfl (Nat.le_of_ble_eq_true rfl) (Nat.le_of_ble_eq_true rfl) (fun h3 z3 => ?_)
  subst z3
  refine WQ.bn (fun _ _ ka kb => pw_if_ne (tgt := 12) dX11_least_6 (by decide) ka kb) (fun c6 => ?_) (fun c6 => ?_)
  · rw [bI_n] at c6
    have hb2 := (Bool.and_eq_true _ _).mp c6
    have hiq := hb2.2
    have gx := isP_t hb2.1
    obtain ⟨p, rfl, tp, lp⟩ := nI_get gx.1 gx.2 (by omega)
    have hp : p < 5 := by omega
    have gy := isQ_t hb2.2
    obtain ⟨q, rfl, tq, lq⟩ := nI_get gy.1 gy.2 (by omega)
    have hq : q < 4 := by omega
    refine WQ.st (fun _ _ kz => pw_iload3 dX11_least_12 kz) ?_
    refine wq_s1i wX11_isStore lX11_281 dX11_least_13 (k_isStore _) rfl (Nat.le_of_ble_eq_true rfl) (Nat.le_of_ble_eq_true rfl) (fun h13 z13 => ?_)
    subst z13
    refine WQ.bn (fun _ _ ka kb => pw_if_ne (tgt := 22) dX11_least_16 (by decide) ka kb) (fun c16 => ?_) (fun c16 => ?_)
    · rw [bI_n] at c16
      refine WQ.st (fun _ _ kz => pw_aload0 dX11_least_22 kz) ?_
      refine WQ.st (fun _ _ kz => pw_iload1 dX11_least_23 kz) ?_
      refine WQ.st (fun _ _ kz => pw_iload2 dX11_least_24 kz) ?_
      refine wq_o2v wX11_takeUp lX11_186 rfl dX11_least_25 (cf_s8 hC) (k_take hI (by omega) hp hq hiq) rfl (Nat.le_of_ble_eq_true rfl) (Nat.le_of_ble_eq_true rfl) (fun h25 z25 => ?_)
      obtain ⟨tm, hat, t5, sl5, ls5, S5, V5, P5, A5, B5, Q5, rfl, k5, i5, l5, f5, r5⟩ := z25
      have hC := k5.cf
      have hE5 := i5.de
      obtain ⟨es0, hs0⟩ := hE5.kv.stE hp
      have hkk5 : ∀ b w, b < lgN al q → w < 5 → kpM (A5 109) b w = kpA b w := fun b w hb hw => ev_kp i5.de.dc.ev b w (by have := (hD.lgE hq).2; omega) hw
      refine WQ.st (fun _ _ kz => pw_aload0 dX11_least_28 kz) ?_
      refine WQ.st (fun _ _ kz => pw_getr gX11_96 dX11_least_29 (cf_s8 hC) (cf_p8_13 hC) kz) ?_
      refine WQ.st (fun _ _ kz => pw_bipush (v := -20) dX11_least_32 (by decide) kz) ?_
      refine WQ.st (fun _ _ kz => pw_bipush (v := 20) dX11_least_34 (by decide) kz) ?_
      refine WQ.st (fun _ _ kz => pw_iload3 dX11_least_36 kz) ?_
      refine WQ.st (fun _ _ kz => pw_aload0 dX11_least_37 kz) ?_
      refine WQ.st (fun _ _ kz => pw_getr gX11_96 dX11_least_38 (cf_s8 hC) (cf_p8_13 hC) kz) ?_
      refine WQ.st (fun _ _ kz => pw_getr gX11_284 dX11_least_41 (cf_s107 hC) (cf_p107_1 hC) kz) ?_
      rw [show (-20 : Int32) = sI 0 from rfl, show (20 : Int32) = sI 40 from rfl]
      refine wq_o4v wX10_settle lX11_308 rfl dX11_least_44 (cf_s107 hC) (k_settle k5 (lo := 0) (hi := 40) (am := 109) (goal := g) (cf_s109 hC) (Or.inr rfl) (by omega) (by omega) (by omega)) rfl (Nat.le_of_ble_eq_true rfl) (Nat.le_of_ble_eq_true rfl) (fun h44 z44 => ?_)
      obtain ⟨A6, B6, rfl, k6, z1, z2⟩ := z44
      rw [hat] at z1
      refine WQ.st (fun _ _ kz => pw_bipush (v := -20) dX11_least_47 (by decide) kz) ?_
      refine WQ.st (fun _ _ kz => pw_istore5 dX11_least_49 (by decide) (k := kz)) ?_
      have i6 := i5.frw k6 z2.w
      have hO : FrO S V P A B t S5 V5 P5 A6 B6 t5 := ((FrT.d (a := 20) f5).o (Or.inr rfl)).tr (z2.w.o (V := V5) (Q := Q5))
      have hn12 := (hD.lgE hq).2
      have hb12 : ∀ s, s < 41 → bnd 12 (rf_T (TT al p q) kpA (lgN al q) (rf_e g) (lgN al q) 2 s) := fun s hs => by
        have := rf_T_bnd (kp := kpA) (n := lgN al q) (e := rf_e g) hn12 (TT_b1 hD hp k5.r.2.1 hq hn12) (fun b l s w _ _ _ _ h => TT_in h) (fun s _ => rf_e_bnd g s) (lgN al q) (Nat.le_refl _) 2 s (by omega) hs
        rw [hat] at this
        exact this.up hn12
      have hF : ∀ s, s < 41 → A6 110 (s * 5 + 2) = cv (rf_T (TT al p q) kpA (lgN al q) (rf_e g) (lgN al q) 2 s) := fun s hs => by
        have := (z1 0 (by omega) (by omega) s 2 hs (by omega) (by omega) (LsN_0 _)).1
        rw [Nat.zero_mul, Nat.zero_add, Nat.sub_zero, rf_T_cong (fun _ _ _ _ _ _ _ _ => rfl) hkk5 (fun b l s w _ _ _ _ h => TT_in h) _ (Nat.le_refl _) 2 s (by omega) hs] at this
        exact this
      obtain ⟨r, h', kr, rfl, rfl⟩ := q_leastL (G := G) (d := d + 6) (S := S5) (V := V5) (P := P5) (A := A6) (B := B6) (Q := Q5) (t := t5) (sl := sl5) hC (x1 := nI p) (x2 := nI q) (x3 := g) (gl := l) hb12 hF 41 0 none (by omega)
      refine ⟨_, _, kr, rI ?_, t5, sl5, ls5, S5, V5, P5, A6, B6, Q5, rfl, i6, by omega, hO, r5⟩
      unfold sp_least
      rw [if_pos c6, if_pos c16, tp, tq, Int.toNat_natCast, Int.toNat_natCast]
    · rw [bI_0] at c16
      refine WQ.st (fun _ _ kz => pw_ldc kX11_123 dX11_least_19 kz) ?_
      refine ⟨_, _, pw_iret dX11_least_21 rfl rfl rfl rfl, ?_⟩
      exact ⟨rI (by unfold sp_least; rw [if_pos c6, c16, if_neg (by decide)]), t, sl, ls, S, V, P, A, B, Q, rfl, hI, by omega, FrO.rfl, fun _ _ h => h⟩
  · rw [bI_0] at c6
    refine WQ.st (fun _ _ kz => pw_ldc kX11_155 dX11_least_9 kz) ?_
    refine ⟨_, _, pw_iret dX11_least_11 rfl rfl rfl rfl, ?_⟩
    exact ⟨rI (by unfold sp_least; rw [c6, if_neg (by decide)]), t, sl, ls, S, V, P, A, B, Q, rfl, hI, by omega, FrO.rfl, fun _ _ h => h⟩
theorem bs_bnd {al : Nat → Int32} (hD : DV al) {np : Int} (hK : KV np (fun k => al (75 + k))) {p q : Nat} (hp : p < 5) (hq : q < 4) (g : Int32) : bnd 12 (bsT al p q g) := by
  obtain ⟨tm, ht, etm, hat⟩ := hK.tmE hp
  have hn12 := (hD.lgE hq).2
  have := rf_T_bnd (kp := kpA) (n := lgN al q) (e := rf_e g) hn12 (TT_b1 hD hp ht hq hn12) (fun b l s w _ _ _ _ h => TT_in h) (fun s _ => rf_e_bnd g s) (lgN al q) (Nat.le_refl _) 2 (stN al p) (by omega) (hK.stE hp).2
  rw [hat] at this
  exact this.up hn12
theorem gd_no {mo f : Int32} (hm : bnd 12 mo) (hf : bnd 12 f) (nf : f ≠ -268435456) (h : f ≤ cv mo) : ¬ mo < f := by
  rw [lt_i rfl rfl]
  rw [le_i rfl rfl] at h
  by_cases e : mo = -268435456
  · rw [e] at h
    have h : f.toInt ≤ -2147483648 := h
    rcases hf with hf | hf
    · exact absurd hf nf
    · omega
  · rw [cv_n e] at h
    omega
theorem gd_yes {mo f : Int32} (hm : bnd 12 mo) (hf : bnd 12 f) (nf : f ≠ -268435456) (h : ¬ f ≤ cv mo) : mo < f := by
  rw [lt_i rfl rfl]
  rw [le_i rfl rfl] at h
  by_cases e : mo = -268435456
  · rw [e]
    show -268435456 < f.toInt
    rcases hf with hf | hf
    · exact absurd hf nf
    · omega
  · rw [cv_n e] at h
    omega
set_option maxRecDepth 20000 in
theorem q_gladdestL {G : gT} {d : Nat} {S0 : sS} {V0 : sV} {P0 : sP} {A0 : sV} {B0 : sB} {Q0 : sP} {t0 sl0 : Nat} {al : Nat → Int32} {W : WT} {sh ls0 : Nat} {q n : Nat} (hq : q < 4) (hiq : isQ al (nI q).toInt = true) (hn5 : n ≤ 5) (np : al 2 = nI n) (hls : ls0 + 1000 < 2000000000) : ∀ (m k : Nat) (b mo : Int32) (t sl ls : Nat) (S : sS) (V : sV) (P : sP) (A : sV) (B : sB) (Q : sP), k + m = n → CI S V P A B Q t al W sh ls → ls ≤ ls0 + k → FrO S0 V0 P0 A0 B0 t0 S V P A B t → (∀ k1 k2, Room2 S0 Q0 t0 sl0 k1 k2 → Room2 S Q t sl k1 k2) → bnd 12 mo → WQ G (d + 9) mX11_gladdest 23 [some (.ref 8), some (.int (nI q)), some (.int b), some (.int (cv mo)), some (.int (nI k))] [] (t, sl, gh S V P A B Q) (CZ S0 V0 P0 A0 B0 Q0 t0 sl0 W sh ls0 (.int (sp_gd (fun p => bsT al p q 0) m k b mo)) al) := by
  intro m
  induction m with
  | zero =>
    intro k b mo t sl ls S V P A B Q hk hI hl hO hr hmo
    have hk : k = n := hk
    subst hk
    have hE := hI.de
    have hC := hE.dc.ka.cf
    have hD := hE.dc.ka.dv
    have hSe := hE.dc.ka.se
    have hv : V sh 7 = al 2 := hSe.2.2.1
    refine WQ.st (fun _ _ kz => pw_iload4 dX11_gladdest_23 kz) ?_
    refine WQ.st (fun _ _ kz => pw_aload0 dX11_gladdest_25 kz) ?_
    refine WQ.st (fun _ _ kz => pw_getr gX11_71 dX11_gladdest_26 (cf_s8 hC) hI.re.p84 kz) ?_
    refine WQ.st (fun _ _ kz => pw_geti gX11_335 dX11_gladdest_29 (sh_s0 hE.dc.ka.hsh) kz) ?_
    rw [hv, np]
    refine WQ.br (fun _ _ ka kb => pw_icmp_ge (tgt := 81) dX11_gladdest_32 (by decide) ka kb) (fun c32 => ?_) (fun c32 => absurd (by rw [le_i (ix_n (j := k) (by omega)) (ix_n (j := k) (by omega))]; omega) c32)
    refine WQ.st (fun _ _ kz => pw_iload2 dX11_gladdest_81 kz) ?_
    refine ⟨_, _, pw_iret dX11_gladdest_82 rfl rfl rfl rfl, ?_⟩
    unfold CZ
    exact ⟨rfl, t, sl, ls, S, V, P, A, B, Q, rfl, hI, by omega, hO, hr⟩
  | succ m ih =>
    intro k b mo t sl ls S V P A B Q hk hI hl hO hr hmo
    have hE := hI.de
    have hC := hE.dc.ka.cf
    have hD := hE.dc.ka.dv
    have hSe := hE.dc.ka.se
    have hv : V sh 7 = al 2 := hSe.2.2.1
    have hkk : ∀ b w, b < lgN al q → w < 5 → kpM (A 109) b w = kpA b w := fun b w hb hw => ev_kp hE.dc.ev b w (by have := (hD.lgE hq).2; omega) hw
    refine WQ.st (fun _ _ kz => pw_iload4 dX11_gladdest_23 kz) ?_
    refine WQ.st (fun _ _ kz => pw_aload0 dX11_gladdest_25 kz) ?_
    refine WQ.st (fun _ _ kz => pw_getr gX11_71 dX11_gladdest_26 (cf_s8 hC) hI.re.p84 kz) ?_
    refine WQ.st (fun _ _ kz => pw_geti gX11_335 dX11_gladdest_29 (sh_s0 hE.dc.ka.hsh) kz) ?_
    rw [hv, np]
    refine WQ.br (fun _ _ ka kb => pw_icmp_ge (tgt := 81) dX11_gladdest_32 (by decide) ka kb) (fun c32 => absurd c32 (by rw [le_i (ix_n (j := n) (by omega)) (ix_n (j := k) (by omega))]; omega)) (fun c32 => ?_)
    refine WQ.st (fun _ _ kz => pw_aload0 dX11_gladdest_35 kz) ?_
    refine WQ.st (fun _ _ kz => pw_iload4 dX11_gladdest_36 kz) ?_
    refine WQ.st (fun _ _ kz => pw_iload1 dX11_gladdest_38 kz) ?_
    refine WQ.st (fun _ _ kz => pw_iconst (v := 0) dX11_gladdest_39 (by decide) kz) ?_
    refine WQ.st (fun _ _ kz => pw_aload0 dX11_gladdest_40 kz) ?_
    refine WQ.st (fun _ _ kz => pw_getr gX11_96 dX11_gladdest_41 (cf_s8 hC) (cf_p8_13 hC) kz) ?_
    refine WQ.st (fun _ _ kz => pw_getr gX11_284 dX11_gladdest_44 (cf_s107 hC) (cf_p107_1 hC) kz) ?_
    refine wq_o4i wX11_findBest lX11_287 rfl dX11_gladdest_47 (cf_s8 hC) (k_findBest hI (by omega) (by omega) hq hiq (Or.inr rfl) 0 hkk) rfl (Nat.le_of_ble_eq_true rfl) (Nat.le_of_ble_eq_true rfl) (fun h47 z47 => ?_)
    obtain ⟨t5, sl5, ls5, S5, V5, P5, A5, B5, Q5, rfl, i5, l5, o5, r5, f5, y3⟩ := z47
    have hC := i5.de.dc.ka.cf
    have hbk : bnd 12 (bsT al k q 0) := bs_bnd hD hE.kv (by omega) hq 0
    refine WQ.br (fun _ _ ka kb => pw_if_eq (tgt := 75) dX11_gladdest_50 (by decide) ka kb) (fun c50 => ?_) (fun c50 => ?_)
    · rw [bI_0] at c50
      have c50 : bsT al k q 0 = -268435456 := Decidable.byContradiction (fun h => (of_decide_eq_false c50) h)
      have eG : sp_gd (fun p => bsT al p q 0) (m + 1) k b mo = sp_gd (fun p => bsT al p q 0) m (k + 1) b mo := by
        show (if _ then _ else _) = _
        rw [if_neg (fun h => h.1 c50)]
      rw [eG]
      have kk := ih (k + 1) (b) (mo) _ _ _ _ _ _ _ _ _ (by omega) i5 (by omega) (hO.tr o5) (fun k1 k2 h => r5 _ _ (hr _ _ h)) hmo
      refine WQ.st (fun _ _ kz => pw_iinc4 (v := 1) dX11_gladdest_75 (by decide) (by decide) (k := kz)) ?_
      refine WQ.st (fun _ _ kz => pw_goto (tgt := 23) dX11_gladdest_78 (by decide) kz) ?_
      rw [nI_1]
      skip
      exact kk
    · rw [bI_n] at c50
      have c50 : bsT al k q 0 ≠ -268435456 := of_decide_eq_true c50
      obtain ⟨u1, _, _⟩ := y3 c50
      have u1 : V5 107 2 = bsT al k q 0 := u1
      refine WQ.st (fun _ _ kz => pw_aload0 dX11_gladdest_53 kz) ?_
      refine WQ.st (fun _ _ kz => pw_getr gX11_96 dX11_gladdest_54 (cf_s8 hC) (cf_p8_13 hC) kz) ?_
      refine WQ.st (fun _ _ kz => pw_geti gX11_338 dX11_gladdest_57 (cf_s107 hC) kz) ?_
      rw [u1]
      refine WQ.st (fun _ _ kz => pw_iload3 dX11_gladdest_60 kz) ?_
      refine WQ.br (fun _ _ ka kb => pw_icmp_le (tgt := 75) dX11_gladdest_61 (by decide) ka kb) (fun c61 => ?_) (fun c61 => ?_)
      · have eG : sp_gd (fun p => bsT al p q 0) (m + 1) k b mo = sp_gd (fun p => bsT al p q 0) m (k + 1) b mo := by
          show (if _ then _ else _) = _
          rw [if_neg (fun h => gd_no hmo hbk h.1 c61 h.2)]
        rw [eG]
        have kk := ih (k + 1) (b) (mo) _ _ _ _ _ _ _ _ _ (by omega) i5 (by omega) (hO.tr o5) (fun k1 k2 h => r5 _ _ (hr _ _ h)) hmo
        refine WQ.st (fun _ _ kz => pw_iinc4 (v := 1) dX11_gladdest_75 (by decide) (by decide) (k := kz)) ?_
        refine WQ.st (fun _ _ kz => pw_goto (tgt := 23) dX11_gladdest_78 (by decide) kz) ?_
        rw [nI_1]
        skip
        exact kk
      · have eG : sp_gd (fun p => bsT al p q 0) (m + 1) k b mo = sp_gd (fun p => bsT al p q 0) m (k + 1) (nI k) (bsT al k q 0) := by
          show (if _ then _ else _) = _
          rw [if_pos ⟨c50, gd_yes hmo hbk c50 c61⟩]
        rw [eG]
        have kk := ih (k + 1) (nI k) (bsT al k q 0) _ _ _ _ _ _ _ _ _ (by omega) i5 (by omega) (hO.tr o5) (fun k1 k2 h => r5 _ _ (hr _ _ h)) hbk
        refine WQ.st (fun _ _ kz => pw_aload0 dX11_gladdest_64 kz) ?_
        refine WQ.st (fun _ _ kz => pw_getr gX11_96 dX11_gladdest_65 (cf_s8 hC) (cf_p8_13 hC) kz) ?_
        refine WQ.st (fun _ _ kz => pw_geti gX11_338 dX11_gladdest_68 (cf_s107 hC) kz) ?_
        rw [u1]
        refine WQ.st (fun _ _ kz => pw_istore3 dX11_gladdest_71 (by decide) (k := kz)) ?_
        refine WQ.st (fun _ _ kz => pw_iload4 dX11_gladdest_72 kz) ?_
        refine WQ.st (fun _ _ kz => pw_istore2 dX11_gladdest_74 (by decide) (k := kz)) ?_
        refine WQ.st (fun _ _ kz => pw_iinc4 (v := 1) dX11_gladdest_75 (by decide) (by decide) (k := kz)) ?_
        refine WQ.st (fun _ _ kz => pw_goto (tgt := 23) dX11_gladdest_78 (by decide) kz) ?_
        rw [nI_1]
        rw [cv_n c50] at kk
        exact kk
set_option maxRecDepth 20000 in
theorem q_gladdest {G : gT} {d : Nat} {S : sS} {V : sV} {P : sP} {A : sV} {B : sB} {Q : sP} {t sl : Nat} {al : Nat → Int32} {W : WT} {sh ls : Nat} (hI : CI S V P A B Q t al W sh ls) (hls : ls + 1000 < 2000000000) (x : Int32) : WQ G (d + 9) mX11_gladdest 0 [some (.ref 8), some (.int x), none, none, none] [] (t, sl, gh S V P A B Q) (CZ S V P A B Q t sl W sh ls (.int (sp_glst al x.toInt)) al) := by
  unfold CZ
  have hE := hI.de
  have hC := hE.dc.ka.cf
  have hD := hE.dc.ka.dv
  have hSe := hE.dc.ka.se
  have hA := hI.av
  have hp5 := hD.p5
  have hn4 := hD.n4
  refine WQ.st (fun _ _ kz => pw_aload0 dX11_gladdest_0 kz) ?_
  refine WQ.st (fun _ _ kz => pw_getr gX11_71 dX11_gladdest_1 (cf_s8 hC) hI.re.p84 kz) ?_
  refine WQ.st (fun _ _ kz => pw_iload1 dX11_gladdest_4 kz) ?_
  refine wq_o1i wX7_hasPiece lX11_176 rfl dX11_gladdest_5 (sh_s0 hE.dc.ka.hsh) (k_hasPiece hE.dc.ka.hsh hSe hD _) rfl (Nat.le_of_ble_eq_true rfl) (Nat.le_of_ble_eq_true rfl) (fun h5 z5 => ?_)
  subst z5
  refine WQ.bn (fun _ _ ka kb => pw_if_ne (tgt := 14) dX11_gladdest_8 (by decide) ka kb) (fun c8 => ?_) (fun c8 => ?_)
  · rw [bI_n] at c8
    have gx := isQ_t c8
    obtain ⟨q, rfl, tq, lq⟩ := nI_get gx.1 gx.2 (by omega)
    have hq : q < 4 := by omega
    refine WQ.st (fun _ _ kz => pw_iconst (v := -1) dX11_gladdest_14 (by decide) kz) ?_
    refine WQ.st (fun _ _ kz => pw_istore2 dX11_gladdest_15 (by decide) (k := kz)) ?_
    refine WQ.st (fun _ _ kz => pw_ldcw kX11_307 dX11_gladdest_16 kz) ?_
    refine WQ.st (fun _ _ kz => pw_istore3 dX11_gladdest_19 (by decide) (k := kz)) ?_
    refine WQ.st (fun _ _ kz => pw_iconst (v := 0) dX11_gladdest_20 (by decide) kz) ?_
    refine WQ.st (fun _ _ kz => pw_istore4 dX11_gladdest_21 (by decide) (k := kz)) ?_
    have np : al 2 = nI (al 2).toInt.toNat := nI_ofI hp5.1
    have es : sp_glst al (nI q).toInt = sp_gd (fun p => bsT al p q 0) (al 2).toInt.toNat 0 (-1) (-268435456) := by unfold sp_glst; rw [if_pos c8, tq, Int.toNat_natCast]
    rw [es, show (-2147483648 : Int32) = cv (-268435456) from rfl]
    exact q_gladdestL hq c8 (by omega) np hls _ 0 _ _ _ _ _ _ _ _ _ _ _ (by omega) hI (by omega) FrO.rfl (fun _ _ h => h) (Or.inl rfl)
  · rw [bI_0] at c8
    refine WQ.st (fun _ _ kz => pw_ldc kX11_155 dX11_gladdest_11 kz) ?_
    refine ⟨_, _, pw_iret dX11_gladdest_13 rfl rfl rfl rfl, ?_⟩
    exact ⟨rI (by unfold sp_glst; rw [c8, if_neg (by decide)]), t, sl, ls, S, V, P, A, B, Q, rfl, hI, by omega, FrO.rfl, fun _ _ h => h⟩
