theorem mx_sw {x y : Int32} : (if x < y then y else x) = (if y ≤ x then x else y) := by
  by_cases h : y ≤ x
  · rw [if_pos h, if_neg (Int32.not_lt.mpr h)]
  · rw [if_neg h, if_pos (Int32.not_le.mp h)]
set_option maxRecDepth 20000 in
theorem q_maL {G : gT} {d : Nat} {S0 : sS} {V0 : sV} {P0 : sP} {A0 : sV} {B0 : sB} {Q0 : sP} {t0 sl0 : Nat} {al : Nat → Int32} {W : WT} {sh ls0 : Nat} {p q : Nat} {set : Int32} (hp : p < 5) (hq : q < 4) (hiq : isQ al (nI q).toInt = true) (hls : ls0 + 100 < 2000000000) : ∀ (m k : Nat) (c : Nat → Int32) (mo : Int32) (t sl ls : Nat) (S : sS) (V : sV) (P : sP) (A : sV) (B : sB) (Q : sP), k + m = 10 → CI S V P A B Q t al W sh ls → ls ≤ ls0 + k → FrO S0 V0 P0 A0 B0 t0 S V P A B t → (∀ k1 k2, Room2 S0 Q0 t0 sl0 k1 k2 → Room2 S Q t sl k1 k2) → (∀ s, s < 41 → A 70 s = c s) → WQ G (d + 6) mX11_mostAlike 14 [some (.ref 8), some (.int (nI p)), some (.int (nI q)), some (.int set), some (.int mo), some (.int (nI k))] [] (t, sl, gh S V P A B Q) (fun r h' => r = some (.int (moF al p q set.toInt m k c mo)) ∧ ∃ (t' sl' ls' : Nat) (S' : sS) (V' : sV) (P' : sP) (A' : sV) (B' : sB) (Q' : sP), h' = (t', sl', gh S' V' P' A' B' Q') ∧ CI S' V' P' A' B' Q' t' al W sh ls' ∧ ls' ≤ ls0 + 10 ∧ FrO S0 V0 P0 A0 B0 t0 S' V' P' A' B' t' ∧ ∀ k1 k2, Room2 S0 Q0 t0 sl0 k1 k2 → Room2 S' Q' t' sl' k1 k2) := by
  intro m
  induction m with
  | zero =>
    intro k c mo t sl ls S V P A B Q hk hI hl hO hr hR
    have hk : k = 10 := hk
    subst hk
    have hE := hI.de
    have hC := hE.dc.ka.cf
    have hD := hE.dc.ka.dv
    have hn12 := (hD.lgE hq).2
    obtain ⟨es0, hs0⟩ := hE.kv.stE hp
    refine WQ.st (fun _ _ kz => pw_iload5 dX11_mostAlike_14 kz) ?_
    refine WQ.st (fun _ _ kz => pw_bipush (v := 9) dX11_mostAlike_16 (by decide) kz) ?_
    refine WQ.br (fun _ _ ka kb => pw_icmp_gt (tgt := 104) dX11_mostAlike_18 (by decide) ka kb) (fun c18 => ?_) (fun c18 => absurd (by decide) c18)
    refine WQ.st (fun _ _ kz => pw_iload4 dX11_mostAlike_104 kz) ?_
    refine ⟨_, _, pw_iret dX11_mostAlike_106 rfl rfl rfl rfl, ?_⟩
    exact ⟨rfl, t, sl, ls, S, V, P, A, B, Q, rfl, hI, by omega, hO, hr⟩
  | succ m ih =>
    intro k c mo t sl ls S V P A B Q hk hI hl hO hr hR
    have hE := hI.de
    have hC := hE.dc.ka.cf
    have hD := hE.dc.ka.dv
    have hn12 := (hD.lgE hq).2
    obtain ⟨es0, hs0⟩ := hE.kv.stE hp
    refine WQ.st (fun _ _ kz => pw_iload5 dX11_mostAlike_14 kz) ?_
    refine WQ.st (fun _ _ kz => pw_bipush (v := 9) dX11_mostAlike_16 (by decide) kz) ?_
    refine WQ.br (fun _ _ ka kb => pw_icmp_gt (tgt := 104) dX11_mostAlike_18 (by decide) ka kb) (fun c18 => absurd c18 (by rw [lt_i li_9 (ix_n (by omega))]; omega)) (fun c18 => ?_)
    refine WQ.st (fun _ _ kz => pw_iload3 dX11_mostAlike_21 kz) ?_
    refine WQ.st (fun _ _ kz => pw_iload5 dX11_mostAlike_22 kz) ?_
    refine WQ.st (fun _ _ kz => pw_ishr dX11_mostAlike_24 kz) ?_
    refine WQ.st (fun _ _ kz => pw_iconst (v := 1) dX11_mostAlike_25 (by decide) kz) ?_
    refine WQ.st (fun _ _ kz => pw_iand dX11_mostAlike_26 kz) ?_
    refine WQ.br (fun _ _ ka kb => pw_if_eq (tgt := 98) dX11_mostAlike_27 (by decide) ka kb) (fun c27 => ?_) (fun c27 => ?_)
    · rw [brd_x (by omega)] at c27
      have kk := ih (k + 1) c mo _ _ _ _ _ _ _ _ _ (by omega) hI (by omega) hO hr hR
      have eM : moF al p q set.toInt (m + 1) k c mo = moF al p q set.toInt m (k + 1) c mo := by
        show (if brd set.toInt k then _ else _) = _
        rw [c27, if_neg (by decide)]
      rw [eM]
      refine WQ.st (fun _ _ kz => pw_iinc5 (v := 1) dX11_mostAlike_98 (by decide) (by decide) (k := kz)) ?_
      refine WQ.st (fun _ _ kz => pw_goto (tgt := 14) dX11_mostAlike_101 (by decide) kz) ?_
      rw [nI_1]
      exact kk
    · have c27 : brd set.toInt k = true := by
        rw [brd_x (by omega)] at c27
        cases h : brd set.toInt k with
        | false => exact absurd h c27
        | true => rfl
      refine WQ.st (fun _ _ kz => pw_aload0 dX11_mostAlike_30 kz) ?_
      refine WQ.st (fun _ _ kz => pw_getr gX11_80 dX11_mostAlike_31 (cf_s8 hC) (cf_p8_11 hC) kz) ?_
      refine WQ.st (fun _ _ kz => pw_iload1 dX11_mostAlike_34 kz) ?_
      refine WQ.st (fun _ _ kz => pw_iload5 dX11_mostAlike_35 kz) ?_
      refine WQ.st (fun _ _ kz => pw_iload2 dX11_mostAlike_37 kz) ?_
      refine wq_o3v wX0_takeUp lX11_393 rfl dX11_mostAlike_38 (cf_s96 hC) (k_takeUp hE.dc.ka (by omega) hp (by omega) hq hiq) rfl (Nat.le_of_ble_eq_true rfl) (Nat.le_of_ble_eq_true rfl) (fun h38 z38 => ?_)
      obtain ⟨t5, sl5, ls5, S5, V5, P5, A5, B5, Q5, rfl, k5, l5, f5, r5⟩ := z38
      have i5 := hI.ask (k5.dc hE.dc f5.1 (hE.dc.hb.to (by rw [f5.2.2.2.1 103 (by omega)])) (hE.dc.rh.to (by rw [f5.2.2.2.1 107 (by omega)]) (by rw [f5.2.2.2.1 107 (by omega)])) (hE.dc.hw.to (by rw [f5.2.2.2.1 107 (by omega)]) (by rw [f5.2.2.2.1 107 (by omega)])) (f5.2.2.2.2.1 109 (by omega) (by omega) (by omega) (by omega))) f5.d
      have hC := k5.cf
      have hE5 := i5.de
      refine WQ.st (fun _ _ kz => pw_aload0 dX11_mostAlike_41 kz) ?_
      refine WQ.st (fun _ _ kz => pw_getr gX11_89 dX11_mostAlike_42 (cf_s8 hC) (cf_p8_12 hC) kz) ?_
      refine WQ.st (fun _ _ kz => pw_aload0 dX11_mostAlike_45 kz) ?_
      refine WQ.st (fun _ _ kz => pw_getr gX11_35 dX11_mostAlike_46 (cf_s8 hC) (cf_p8_5 hC) kz) ?_
      refine WQ.st (fun _ _ kz => pw_getr gX11_156 dX11_mostAlike_49 (cf_s16 hC) (cf_p16_0 hC) kz) ?_
      refine WQ.st (fun _ _ kz => pw_iload1 dX11_mostAlike_52 kz) ?_
      refine WQ.st (fun _ _ kz => pw_ald (j := p) dX11_mostAlike_53 (cf_s17 hC) (ix_m rfl (by omega)) (by omega) kz) ?_
      rw [hE5.se.st hp, es0]
      refine wq_o1v wX1_run lX11_268 rfl dX11_mostAlike_54 (cf_s103 hC) (k_run k5 hs0) rfl (Nat.le_of_ble_eq_true rfl) (Nat.le_of_ble_eq_true rfl) (fun h54 z54 => ?_)
      obtain ⟨V6, A6, B6, rfl, k6, cr, f6⟩ := z54
      have i6 := i5.frc k6 f6
      have hO6 := (hO.tr ((FrT.d (a := 20) f5).o (Or.inr rfl))).tr (f6.o (Q := Q5))
      have hr6 := fun k1 k2 h => r5 _ _ (hr k1 k2 h)
      have hC := k6.cf
      have hcm := rf_cm_ok (T := TT (atm al p k) p q) (n := lgN al q) hs0 (fun b l s w _ _ _ _ h => TT_in h) _ (Nat.le_refl _)
      have ee : V6 103 1 = sI (moS al p q k) := by rw [cr.2.1]; unfold moS cmF; rw [stN_atm hp]
      have he41 : moS al p q k < 41 := by unfold moS cmF; rw [stN_atm hp]; exact hcm.2
      have hc6 : ∀ s, s < 41 → A6 70 s = c s := fun s hs => by
        rw [f6.2.1 70 (by omega) (by omega) (by omega), f5.2.2.2.2.1 70 (by omega) (by omega) (by omega) (by omega)]
        exact hR s hs
      refine WQ.st (fun _ _ kz => pw_aload0 dX11_mostAlike_57 kz) ?_
      refine WQ.st (fun _ _ kz => pw_getr gX11_66 dX11_mostAlike_58 (cf_s8 hC) (cf_p8_17 hC) kz) ?_
      refine WQ.st (fun _ _ kz => pw_aload0 dX11_mostAlike_61 kz) ?_
      refine WQ.st (fun _ _ kz => pw_getr gX11_89 dX11_mostAlike_62 (cf_s8 hC) (cf_p8_12 hC) kz) ?_
      refine WQ.st (fun _ _ kz => pw_geti gX11_272 dX11_mostAlike_65 (cf_s103 hC) kz) ?_
      rw [ee]
      refine WQ.st (fun _ _ kz => pw_bipush (v := 20) dX11_mostAlike_68 (by decide) kz) ?_
      refine WQ.st (fun _ _ kz => pw_iadd dX11_mostAlike_70 kz) ?_
      refine WQ.st (fun _ _ kz => pw_dup2_11 dX11_mostAlike_71 rfl rfl kz) ?_
      refine WQ.st (fun _ _ kz => pw_ald (j := (moS al p q k)) dX11_mostAlike_72 (cf_s70 hC) (by rw [sI_20]; exact ix_n (by omega)) (by omega) kz) ?_
      rw [hc6 _ he41]
      refine WQ.st (fun _ _ kz => pw_iconst (v := 1) dX11_mostAlike_73 (by decide) kz) ?_
      refine WQ.st (fun _ _ kz => pw_iadd dX11_mostAlike_74 kz) ?_
      refine WQ.st (fun _ _ kz => pw_ast (j := (moS al p q k)) dX11_mostAlike_75 (cf_s70 hC) (by rw [sI_20]; exact ix_n (by omega)) (by omega)  kz) ?_
      refine WQ.st (fun _ _ kz => pw_iload4 dX11_mostAlike_76 kz) ?_
      refine WQ.st (fun _ _ kz => pw_aload0 dX11_mostAlike_78 kz) ?_
      refine WQ.st (fun _ _ kz => pw_getr gX11_66 dX11_mostAlike_79 (cf_s8 hC) (cf_p8_17 hC) kz) ?_
      refine WQ.st (fun _ _ kz => pw_aload0 dX11_mostAlike_82 kz) ?_
      refine WQ.st (fun _ _ kz => pw_getr gX11_89 dX11_mostAlike_83 (cf_s8 hC) (cf_p8_12 hC) kz) ?_
      refine WQ.st (fun _ _ kz => pw_geti gX11_272 dX11_mostAlike_86 (cf_s103 hC) kz) ?_
      rw [ee]
      refine WQ.st (fun _ _ kz => pw_bipush (v := 20) dX11_mostAlike_89 (by decide) kz) ?_
      refine WQ.st (fun _ _ kz => pw_iadd dX11_mostAlike_91 kz) ?_
      refine WQ.st (fun _ _ kz => pw_ald (j := (moS al p q k)) dX11_mostAlike_92 (cf_s70 hC) (by rw [sI_20]; exact ix_n (by omega)) (by omega) kz) ?_
      rw [up2_eq]
      refine WQ.st (fun _ _ kz => pw_max mmX11_315 dX11_mostAlike_93 (Nat.le_of_ble_eq_true rfl) (by omega) kz) ?_
      rw [mx_sw]
      have i7 := (i6.a69 (A' := (up2 A6 70 (moS al p q k) (c (moS al p q k) + 1))) (fun x _ h2 => up2_na h2)).1
      have o7 := (i6.a69 (A' := (up2 A6 70 (moS al p q k) (c (moS al p q k) + 1))) (fun x _ h2 => up2_na h2)).2
      have hR7 : ∀ s, s < 41 → (up2 A6 70 (moS al p q k) (c (moS al p q k) + 1)) 70 s = pm_up c (moS al p q k) (c (moS al p q k) + 1) s := fun s hs => by
        rw [up2_at]
        unfold pm_up
        by_cases e : s = moS al p q k
        · rw [if_pos e, if_pos e]
        · rw [if_neg e, if_neg e]
          exact hc6 s hs
      have kk := ih (k + 1) _ (if c (moS al p q k) + 1 ≤ mo then mo else c (moS al p q k) + 1) _ _ _ _ _ _ _ _ _ (by omega) i7 (by omega) (hO6.tr o7) hr6 hR7
      have eM : moF al p q set.toInt (m + 1) k c mo = moF al p q set.toInt m (k + 1) (pm_up c (moS al p q k) (c (moS al p q k) + 1)) (if c (moS al p q k) + 1 ≤ mo then mo else c (moS al p q k) + 1) := by
        show (if brd set.toInt k then _ else _) = _
        rw [if_pos c27]
      rw [eM]
      refine WQ.st (fun _ _ kz => pw_istore4 dX11_mostAlike_96 (by decide) (k := kz)) ?_
      refine WQ.st (fun _ _ kz => pw_iinc5 (v := 1) dX11_mostAlike_98 (by decide) (by decide) (k := kz)) ?_
      refine WQ.st (fun _ _ kz => pw_goto (tgt := 14) dX11_mostAlike_101 (by decide) kz) ?_
      rw [nI_1]
      exact kk
set_option maxRecDepth 20000 in
theorem k_mostAlike {G : gT} {d : Nat} {S : sS} {V : sV} {P : sP} {A : sV} {B : sB} {Q : sP} {t sl : Nat} {al : Nat → Int32} {W : WT} {sh ls : Nat} (hI : CI S V P A B Q t al W sh ls) (hls : ls + 100 < 2000000000) {p q : Nat} {set : Int32} (hp : p < 5) (hq : q < 4) (hiq : isQ al (nI q).toInt = true) : WQ G (d + 6) mX11_mostAlike 0 [some (.ref 8), some (.int (nI p)), some (.int (nI q)), some (.int set), none, none] [] (t, sl, gh S V P A B Q) (fun r h' => r = some (.int (moF al p q set.toInt 10 0 (fun _ => 0) 0)) ∧ ∃ (t' sl' ls' : Nat) (S' : sS) (V' : sV) (P' : sP) (A' : sV) (B' : sB) (Q' : sP), h' = (t', sl', gh S' V' P' A' B' Q') ∧ CI S' V' P' A' B' Q' t' al W sh ls' ∧ ls' ≤ ls + 10 ∧ FrO S V P A B t S' V' P' A' B' t' ∧ ∀ k1 k2, Room2 S Q t sl k1 k2 → Room2 S' Q' t' sl' k1 k2) := by
  have hE := hI.de
  have hC := hE.dc.ka.cf
  have hD := hE.dc.ka.dv
  have hSe := hE.dc.ka.se
  have hA := hI.av
  refine WQ.st (fun _ _ kz => pw_aload0 dX11_mostAlike_0 kz) ?_
  refine WQ.st (fun _ _ kz => pw_getr gX11_66 dX11_mostAlike_1 (cf_s8 hC) (cf_p8_17 hC) kz) ?_
  refine WQ.st (fun _ _ kz => pw_iconst (v := 0) dX11_mostAlike_4 (by decide) kz) ?_
  refine WQ.st (fun _ _ kz => pw_s2v wJ7_fill_53178 lX11_399 dX11_mostAlike_5 (c_filli (cf_s70 hC) (by omega) _) rfl (Nat.le_of_ble_eq_true rfl) (Nat.le_of_ble_eq_true rfl) kz) ?_
  refine WQ.st (fun _ _ kz => pw_iconst (v := 0) dX11_mostAlike_8 (by decide) kz) ?_
  refine WQ.st (fun _ _ kz => pw_istore4 dX11_mostAlike_9 (by decide) (k := kz)) ?_
  refine WQ.st (fun _ _ kz => pw_iconst (v := 0) dX11_mostAlike_11 (by decide) kz) ?_
  refine WQ.st (fun _ _ kz => pw_istore5 dX11_mostAlike_12 (by decide) (k := kz)) ?_
  obtain ⟨i1, o1⟩ := hI.a69 (A' := pm_up A 70 (fillF 0 41 (A 70))) (fun x _ h2 => pm_up_ne h2)
  exact q_maL hp hq hiq hls 10 0 (fun _ => 0) 0 t sl ls S V P _ B Q (by omega) i1 (by omega) o1 (fun _ _ h => h) (fun s hs => by rw [pm_up_eq, fillF_i hs])
set_option maxRecDepth 20000 in
theorem q_nextL {G : gT} {d : Nat} {S0 : sS} {V0 : sV} {P0 : sP} {A0 : sV} {B0 : sB} {Q0 : sP} {t0 sl0 : Nat} {al : Nat → Int32} {W : WT} {sh ls0 : Nat} {p q N : Nat} {x1 x4 set : Int32} (hp : p < 5) (hq : q < 4) (hN4 : N ≤ 4) (hN : al 1 = nI N) (hls : ls0 + 1000 < 2000000000) : ∀ (m k : Nat) (b l : Int32) (y : Option Value) (t sl ls : Nat) (S : sS) (V : sV) (P : sP) (A : sV) (B : sB) (Q : sP), k + m = N → CI S V P A B Q t al W sh ls → ls ≤ ls0 + 20 + 10 * k → FrO S0 V0 P0 A0 B0 t0 S V P A B t → (∀ k1 k2, Room2 S0 Q0 t0 sl0 k1 k2 → Room2 S Q t sl k1 k2) → l ≤ 11 → WQ G (d + 9) mX11_next 42 [some (.ref 8), some (.int x1), some (.int (nI p)), some (.int (nI q)), some (.int x4), some (.int set), some (.int b), some (.int l), some (.int (nI k)), y] [] (t, sl, gh S V P A B Q) (CZ S0 V0 P0 A0 B0 Q0 t0 sl0 W sh ls0 (.int (nxL (nxI al p q set.toInt) m k b l)) al) := by
  intro m
  induction m with
  | zero =>
    intro k b l y t sl ls S V P A B Q hk hI hl hO hr hl11
    have hk : k = N := hk
    subst hk
    have hE := hI.de
    have hC := hE.dc.ka.cf
    have hD := hE.dc.ka.dv
    have hSe := hE.dc.ka.se
    have hv : V sh 6 = nI k := by rw [hSe.2.1]; exact hN
    refine WQ.st (fun _ _ kz => pw_iload8 dX11_next_42 kz) ?_
    refine WQ.st (fun _ _ kz => pw_aload0 dX11_next_44 kz) ?_
    refine WQ.st (fun _ _ kz => pw_getr gX11_71 dX11_next_45 (cf_s8 hC) hI.re.p84 kz) ?_
    refine WQ.st (fun _ _ kz => pw_geti gX11_320 dX11_next_48 (sh_s0 hE.dc.ka.hsh) kz) ?_
    rw [hv]
    refine WQ.br (fun _ _ ka kb => pw_icmp_ge (tgt := 97) dX11_next_51 (by decide) ka kb) (fun c51 => ?_) (fun c51 => absurd (by rw [le_i (ix_n (by omega)) (ix_n (by omega))]; omega) c51)
    refine WQ.st (fun _ _ kz => pw_iload6 dX11_next_97 kz) ?_
    refine ⟨_, _, pw_iret dX11_next_99 rfl rfl rfl rfl, ?_⟩
    unfold CZ
    exact ⟨rfl, t, sl, ls, S, V, P, A, B, Q, rfl, hI, by omega, hO, hr⟩
  | succ m ih =>
    intro k b l y t sl ls S V P A B Q hk hI hl hO hr hl11
    have hE := hI.de
    have hC := hE.dc.ka.cf
    have hD := hE.dc.ka.dv
    have hSe := hE.dc.ka.se
    have hv : V sh 6 = nI N := by rw [hSe.2.1]; exact hN
    refine WQ.st (fun _ _ kz => pw_iload8 dX11_next_42 kz) ?_
    refine WQ.st (fun _ _ kz => pw_aload0 dX11_next_44 kz) ?_
    refine WQ.st (fun _ _ kz => pw_getr gX11_71 dX11_next_45 (cf_s8 hC) hI.re.p84 kz) ?_
    refine WQ.st (fun _ _ kz => pw_geti gX11_320 dX11_next_48 (sh_s0 hE.dc.ka.hsh) kz) ?_
    rw [hv]
    refine WQ.br (fun _ _ ka kb => pw_icmp_ge (tgt := 97) dX11_next_51 (by decide) ka kb) (fun c51 => absurd c51 (by rw [le_i (ix_n (by omega)) (ix_n (by omega))]; omega)) (fun c51 => ?_)
    refine WQ.st (fun _ _ kz => pw_iload8 dX11_next_54 kz) ?_
    refine WQ.st (fun _ _ kz => pw_iload3 dX11_next_56 kz) ?_
    refine WQ.bn (fun _ _ ka kb => pw_icmp_ne (tgt := 65) dX11_next_57 (by decide) ka kb) (fun c57 => ?_) (fun c57 => ?_)
    · have hik : isQ al (nI k).toInt = true := by
        unfold isQ
        rw [hN, ix_n (by omega), ix_n (by omega)]
        exact decide_eq_true (by omega)
      have ex : nxI al p q set.toInt k = moF al p k set.toInt 10 0 (fun _ => 0) 0 := by
        unfold nxI
        rw [if_neg (fun h => c57 (by rw [h]))]
      refine WQ.st (fun _ _ kz => pw_aload0 dX11_next_65 kz) ?_
      refine WQ.st (fun _ _ kz => pw_iload2 dX11_next_66 kz) ?_
      refine WQ.st (fun _ _ kz => pw_iload8 dX11_next_67 kz) ?_
      refine WQ.st (fun _ _ kz => pw_iload5 dX11_next_69 kz) ?_
      refine wq_o3i wX11_mostAlike lX11_353 rfl dX11_next_71 (cf_s8 hC) (k_mostAlike hI (by omega) hp (show k < 4 by omega) hik (set := set)) rfl (Nat.le_of_ble_eq_true rfl) (Nat.le_of_ble_eq_true rfl) (fun h71 z71 => ?_)
      obtain ⟨t5, sl5, ls5, S5, V5, P5, A5, B5, Q5, rfl, i5, l5, o5, r5⟩ := z71
      have hC := i5.de.dc.ka.cf
      refine WQ.st (fun _ _ kz => pw_istore9 dX11_next_74 (by decide) (k := kz)) ?_
      refine WQ.st (fun _ _ kz => pw_iload9 dX11_next_76 kz) ?_
      refine WQ.st (fun _ _ kz => pw_iload7 dX11_next_78 kz) ?_
      refine WQ.br (fun _ _ ka kb => pw_icmp_ge (tgt := 91) dX11_next_80 (by decide) ka kb) (fun c80 => ?_) (fun c80 => ?_)
      · have eN : nxL (nxI al p q set.toInt) (m + 1) k b l = nxL (nxI al p q set.toInt) m (k + 1) b l := by
          show (if _ then _ else _) = _
          rw [if_neg (by rw [ex]; exact Int32.not_lt.mpr c80)]
        rw [eN]
        have kk := fun y => ih (k + 1) (b) (l) y _ _ _ _ _ _ _ _ _ (by omega) i5 (by omega) (hO.tr o5) (fun k1 k2 h => r5 _ _ (hr _ _ h)) hl11
        refine WQ.st (fun _ _ kz => pw_iinc8 (v := 1) dX11_next_91 (by decide) (by decide) (k := kz)) ?_
        refine WQ.st (fun _ _ kz => pw_goto (tgt := 42) dX11_next_94 (by decide) kz) ?_
        rw [nI_1]
        exact kk _
      · have c80 := Int32.not_le.mp c80
        have eN : nxL (nxI al p q set.toInt) (m + 1) k b l = nxL (nxI al p q set.toInt) m (k + 1) (nI k) (moF al p k set.toInt 10 0 (fun _ => 0) 0) := by
          show (if _ then _ else _) = _
          rw [ex, if_pos c80]
        rw [eN]
        have kk := fun y => ih (k + 1) (nI k) (moF al p k set.toInt 10 0 (fun _ => 0) 0) y _ _ _ _ _ _ _ _ _ (by omega) i5 (by omega) (hO.tr o5) (fun k1 k2 h => r5 _ _ (hr _ _ h)) (Int32.le_trans (Int32.le_of_lt c80) hl11)
        refine WQ.st (fun _ _ kz => pw_iload9 dX11_next_83 kz) ?_
        refine WQ.st (fun _ _ kz => pw_istore7 dX11_next_85 (by decide) (k := kz)) ?_
        refine WQ.st (fun _ _ kz => pw_iload8 dX11_next_87 kz) ?_
        refine WQ.st (fun _ _ kz => pw_istore6 dX11_next_89 (by decide) (k := kz)) ?_
        refine WQ.st (fun _ _ kz => pw_iinc8 (v := 1) dX11_next_91 (by decide) (by decide) (k := kz)) ?_
        refine WQ.st (fun _ _ kz => pw_goto (tgt := 42) dX11_next_94 (by decide) kz) ?_
        rw [nI_1]
        exact kk _
    · have hkq : k = q := by
        rw [eq_i (ix_n (by omega)) (ix_n (by omega))] at c57
        omega
      refine WQ.st (fun _ _ kz => pw_iload7 dX11_next_60 kz) ?_
      refine WQ.st (fun _ _ kz => pw_goto (tgt := 74) dX11_next_62 (by decide) kz) ?_
      refine WQ.st (fun _ _ kz => pw_istore9 dX11_next_74 (by decide) (k := kz)) ?_
      refine WQ.st (fun _ _ kz => pw_iload9 dX11_next_76 kz) ?_
      refine WQ.st (fun _ _ kz => pw_iload7 dX11_next_78 kz) ?_
      refine WQ.br (fun _ _ ka kb => pw_icmp_ge (tgt := 91) dX11_next_80 (by decide) ka kb) (fun c80 => ?_) (fun c80 => ?_)
      · have ex : nxI al p q set.toInt k = 11 := by
          unfold nxI
          rw [if_pos hkq]
        have eN : nxL (nxI al p q set.toInt) (m + 1) k b l = nxL (nxI al p q set.toInt) m (k + 1) b l := by
          show (if _ then _ else _) = _
          rw [if_neg (by rw [ex]; exact Int32.not_lt.mpr hl11)]
        rw [eN]
        have kk := fun y => ih (k + 1) (b) (l) y _ _ _ _ _ _ _ _ _ (by omega) hI (by omega) hO hr hl11
        refine WQ.st (fun _ _ kz => pw_iinc8 (v := 1) dX11_next_91 (by decide) (by decide) (k := kz)) ?_
        refine WQ.st (fun _ _ kz => pw_goto (tgt := 42) dX11_next_94 (by decide) kz) ?_
        rw [nI_1]
        exact kk _
      · exact absurd (Int32.le_refl _) c80
set_option maxRecDepth 20000 in
theorem q_next {G : gT} {d : Nat} {S : sS} {V : sV} {P : sP} {A : sV} {B : sB} {Q : sP} {t sl : Nat} {al : Nat → Int32} {W : WT} {sh ls : Nat} (hI : CI S V P A B Q t al W sh ls) (hls : ls + 1000 < 2000000000) (x y z : Int32) : WQ G (d + 9) mX11_next 0 [some (.ref 8), some (.int x), some (.int y), some (.int z), none, none, none, none, none, none] [] (t, sl, gh S V P A B Q) (CZ S V P A B Q t sl W sh ls (.int (sp_next al W.2.1 W.2.2.1 W.2.2.2.1 x.toInt y.toInt z.toInt)) al) := by
  unfold CZ
  have hE := hI.de
  have hC := hE.dc.ka.cf
  have hD := hE.dc.ka.dv
  have hSe := hE.dc.ka.se
  have hA := hI.av
  have hp5 := hD.p5
  have hn4 := hD.n4
  refine WQ.st (fun _ _ kz => pw_aload0 dX11_next_0 kz) ?_
  refine WQ.st (fun _ _ kz => pw_iload1 dX11_next_1 kz) ?_
  refine WQ.st (fun _ _ kz => pw_iload2 dX11_next_2 kz) ?_
  refine WQ.st (fun _ _ kz => pw_iload3 dX11_next_3 kz) ?_
  refine wq_o3i wX11_refuseHeard lX11_345 rfl dX11_next_4 (cf_s8 hC) (k_refuseHeard hI (by omega) x y z) rfl (Nat.le_of_ble_eq_true rfl) (Nat.le_of_ble_eq_true rfl) (fun h4 z4 => ?_)
  obtain ⟨A1, rfl, g1, g2⟩ := z4
  obtain ⟨hI1, hO1⟩ := hI.a69 (fun x h1 _ => g1 x h1)
  have hE1 := hI1.de
  refine WQ.st (fun _ _ kz => pw_istore4 dX11_next_7 (by decide) (k := kz)) ?_
  refine WQ.st (fun _ _ kz => pw_iload4 dX11_next_9 kz) ?_
  refine WQ.br (fun _ _ ka kb => pw_if_eq (tgt := 17) dX11_next_11 (by decide) ka kb) (fun c11 => ?_) (fun c11 => ?_)
  · obtain ⟨tr, p, q, ⟨rfl, htr, tx⟩, ⟨rfl, hp, tp⟩, ⟨rfl, hq, tq, hiq⟩, hbb⟩ := g2 c11
    refine WQ.st (fun _ _ kz => pw_aload0 dX11_next_17 kz) ?_
    refine WQ.st (fun _ _ kz => pw_iload2 dX11_next_18 kz) ?_
    refine WQ.st (fun _ _ kz => pw_iload3 dX11_next_19 kz) ?_
    refine wq_o2i wX11_tempersHeard lX11_350 rfl dX11_next_20 (cf_s8 hC) (k_tempersHeard hI1 (by omega) hp hq hiq (f := fun b => W.2.2.2.1 (40 * tr + b)) (fun b hb => (hbb b hb).2) (fun b hb => (hbb b hb).1)) rfl (Nat.le_of_ble_eq_true rfl) (Nat.le_of_ble_eq_true rfl) (fun h20 z20 => ?_)
    obtain ⟨t5, sl5, ls5, S5, V5, P5, A5, B5, Q5, rfl, i5, l5, o5, r5⟩ := z20
    have hC := i5.de.dc.ka.cf
    refine WQ.st (fun _ _ kz => pw_istore5 dX11_next_23 (by decide) (k := kz)) ?_
    refine WQ.st (fun _ _ kz => pw_iload5 dX11_next_25 kz) ?_
    refine WQ.bn (fun _ _ ka kb => pw_if_ne (tgt := 32) dX11_next_27 (by decide) ka kb) (fun c27 => ?_) (fun c27 => ?_)
    · refine WQ.st (fun _ _ kz => pw_iconst (v := -1) dX11_next_32 (by decide) kz) ?_
      refine WQ.st (fun _ _ kz => pw_istore6 dX11_next_33 (by decide) (k := kz)) ?_
      refine WQ.st (fun _ _ kz => pw_bipush (v := 11) dX11_next_35 (by decide) kz) ?_
      refine WQ.st (fun _ _ kz => pw_istore7 dX11_next_37 (by decide) (k := kz)) ?_
      refine WQ.st (fun _ _ kz => pw_iconst (v := 0) dX11_next_39 (by decide) kz) ?_
      refine WQ.st (fun _ _ kz => pw_istore8 dX11_next_40 (by decide) (k := kz)) ?_
      have hN : al 1 = nI (al 1).toInt.toNat := nI_ofI hn4.1
      have es : sp_next al W.2.1 W.2.2.1 W.2.2.2.1 (nI tr).toInt (nI p).toInt (nI q).toInt = nxL (nxI al p q (tmS al p q (fun b => W.2.2.2.1 (40 * tr + b)) 10).toInt) (al 1).toInt.toNat 0 (-1) 11 := by
        unfold sp_next
        rw [if_pos c11, tp, tq, tx, Int.toNat_natCast, Int.toNat_natCast, Int.toNat_natCast, if_neg c27]
      rw [es]
      exact q_nextL hp hq (by omega) hN hls _ 0 _ _ _ _ _ _ _ _ _ _ _ _ (by omega) i5 (by omega) (hO1.tr o5) r5 (by decide)
    · refine WQ.st (fun _ _ kz => pw_iconst (v := -1) dX11_next_30 (by decide) kz) ?_
      refine ⟨_, _, pw_iret dX11_next_31 rfl rfl rfl rfl, ?_⟩
      exact ⟨rI (by unfold sp_next; rw [if_pos c11, tp, tq, tx, Int.toNat_natCast, Int.toNat_natCast, Int.toNat_natCast, if_pos c27]), t5, sl5, ls5, S5, V5, P5, A5, B5, Q5, rfl, i5, by omega, hO1.tr o5, r5⟩
  · refine WQ.st (fun _ _ kz => pw_iload4 dX11_next_14 kz) ?_
    refine ⟨_, _, pw_iret dX11_next_16 rfl rfl rfl rfl, ?_⟩
    exact ⟨rI (by unfold sp_next; rw [if_neg c11]), t, sl, ls, S, V, P, A1, B, Q, rfl, hI1, by omega, hO1, fun _ _ h => h⟩
