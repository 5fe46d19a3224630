set_option maxRecDepth 20000 in
theorem q_heard {G : gT} {d : Nat} {S : sS} {V : sV} {P : sP} {A : sV} {B : sB} {Q : sP} {t sl : Nat} {al : Nat → Int32} {W : WT} {sh ls : Nat} (hI : CI S V P A B Q t al W sh ls) (hls : ls + 1000 < 2000000000) (x y z e : Int32) : WQ G (d + 9) mX11_heard 0 [some (.ref 8), some (.int x), some (.int y), some (.int z), some (.int e), none] [] (t, sl, gh S V P A B Q) (CZ S V P A B Q t sl W sh ls (.long (sp_heard al W.2.1 W.2.2.1 W.2.2.2.1 x.toInt y.toInt z.toInt e.toInt)) al) := by
  unfold CZ
  have hE := hI.de
  have hC := hE.dc.ka.cf
  have hD := hE.dc.ka.dv
  have hSe := hE.dc.ka.se
  have hA := hI.av
  have hp5 := hD.p5
  have hn4 := hD.n4
  refine WQ.st (fun _ _ kz => pw_aload0 dX11_heard_0 kz) ?_
  refine WQ.st (fun _ _ kz => pw_iload1 dX11_heard_1 kz) ?_
  refine WQ.st (fun _ _ kz => pw_iload2 dX11_heard_2 kz) ?_
  refine WQ.st (fun _ _ kz => pw_iload3 dX11_heard_3 kz) ?_
  refine wq_o3i wX11_refuseHeard lX11_345 rfl dX11_heard_4 (cf_s8 hC) (k_refuseHeard hI (by omega) x y z) rfl (Nat.le_of_ble_eq_true rfl) (Nat.le_of_ble_eq_true rfl) (fun h4 z4 => ?_)
  obtain ⟨A1, rfl, g1, g2⟩ := z4
  obtain ⟨hI1, hO1⟩ := hI.a69 (fun x h1 _ => g1 x h1)
  have hE1 := hI1.de
  refine WQ.st (fun _ _ kz => pw_istore5 dX11_heard_7 (by decide) (k := kz)) ?_
  refine WQ.st (fun _ _ kz => pw_iload5 dX11_heard_9 kz) ?_
  refine WQ.br (fun _ _ ka kb => pw_if_eq (tgt := 18) dX11_heard_11 (by decide) ka kb) (fun c11 => ?_) (fun c11 => ?_)
  · obtain ⟨tr, p, q, ⟨rfl, htr, tx⟩, ⟨rfl, hp, tp⟩, ⟨rfl, hq, tq, hiq⟩, hbb⟩ := g2 c11
    refine WQ.st (fun _ _ kz => pw_iload4 dX11_heard_18 kz) ?_
    refine wq_s1i wX11_isStore lX11_281 dX11_heard_20 (k_isStore _) rfl (Nat.le_of_ble_eq_true rfl) (Nat.le_of_ble_eq_true rfl) (fun h20 z20 => ?_)
    subst z20
    refine WQ.bn (fun _ _ ka kb => pw_if_ne (tgt := 37) dX11_heard_23 (by decide) ka kb) (fun c23 => ?_) (fun c23 => ?_)
    · rw [bI_n] at c23
      have he : isE e.toInt = true := by
        unfold isE
        rw [c23]; rfl
      refine WQ.st (fun _ _ kz => pw_aload0 dX11_heard_37 kz) ?_
      refine WQ.st (fun _ _ kz => pw_iload2 dX11_heard_38 kz) ?_
      refine WQ.st (fun _ _ kz => pw_iload3 dX11_heard_39 kz) ?_
      refine wq_o2v wX11_takeUp lX11_186 rfl dX11_heard_40 (cf_s8 hC) (k_take hI1 (by omega) hp hq hiq) rfl (Nat.le_of_ble_eq_true rfl) (Nat.le_of_ble_eq_true rfl) (fun h40 z40 => ?_)
      obtain ⟨tm, hat, t5, sl5, ls5, S5, V5, P5, A5, B5, Q5, rfl, k5, i5, l5, f5, r5⟩ := z40
      have hC := k5.cf
      have hE5 := i5.de
      obtain ⟨es0, hs0⟩ := hE5.kv.stE hp
      have a5 : A5 69 = A1 69 := f5.2.2.2.2.1 69 (by omega) (by omega) (by omega) (by omega)
      have hkk : ∀ b w, b < lgN al q → w < 5 → kpM (A5 69) b w = rf_k (hdF W.2.2.2.1 tr) 0 b w := fun b w hb hw => by
        unfold kpM
        rw [a5, (hbb b hb).1, hk_kp (hbb b hb).2 hw]
        exact rf_k_b rfl
      refine WQ.st (fun _ _ kz => pw_aload0 dX11_heard_43 kz) ?_
      refine WQ.st (fun _ _ kz => pw_getr gX11_96 dX11_heard_44 (cf_s8 hC) (cf_p8_13 hC) kz) ?_
      refine WQ.st (fun _ _ kz => pw_aload0 dX11_heard_47 kz) ?_
      refine WQ.st (fun _ _ kz => pw_getr gX11_35 dX11_heard_48 (cf_s8 hC) (cf_p8_5 hC) kz) ?_
      refine WQ.st (fun _ _ kz => pw_getr gX11_156 dX11_heard_51 (cf_s16 hC) (cf_p16_0 hC) kz) ?_
      refine WQ.st (fun _ _ kz => pw_iload2 dX11_heard_54 kz) ?_
      refine WQ.st (fun _ _ kz => pw_ald (j := p) dX11_heard_55 (cf_s17 hC) (ix_m rfl (by omega)) (by omega) kz) ?_
      rw [hE5.se.st hp, es0]
      refine WQ.st (fun _ _ kz => pw_iload4 dX11_heard_56 kz) ?_
      refine WQ.st (fun _ _ kz => pw_aload0 dX11_heard_58 kz) ?_
      refine WQ.st (fun _ _ kz => pw_getr gX11_62 dX11_heard_59 (cf_s8 hC) (cf_p8_16 hC) kz) ?_
      refine wq_o3i wX10_howMany lX11_299 rfl dX11_heard_62 (cf_s107 hC) (k_howMany k5 i5.de.dc.rh (am := 69) (cf_s69 hC) (Or.inl rfl) hs0) rfl (Nat.le_of_ble_eq_true rfl) (Nat.le_of_ble_eq_true rfl) (fun h62 z62 => ?_)
      obtain ⟨P6, A6, B6, rfl, k6, rh6, p1, p2, f6⟩ := z62
      refine ⟨_, _, pw_lret dX11_heard_65 rfl rfl rfl, ?_⟩
      have i6 := i5.step k6 ((FrD.p (fun x hx => p1 x (by omega))).tr f6.d) (f6.2.1 109 (by omega) (by omega) (by omega)) (i5.de.dc.hb.to (p1 103 (by omega))) rh6 (i5.de.dc.hw.to (p2 7 (by omega) (by omega)) (p2 8 (by omega) (by omega)))
      have hO : FrO S V P A B t S5 V5 P6 A6 B6 t5 := (hO1.tr ((FrT.d (a := 20) f5).o (Or.inr rfl))).tr (((FrD.p (a := 20) (S := S5) (V := V5) (A := A5) (B := B5) (Q := Q5) (t := t5) (fun x hx => p1 x (by omega))).tr f6.d).o (Or.inr rfl))
      refine ⟨rL ?_, t5, sl5, ls5, S5, V5, P6, A6, B6, Q5, rfl, i6, by omega, hO, r5⟩
      unfold sp_heard
      rw [if_pos c11, if_pos he, tp, tq, tx, Int.toNat_natCast, Int.toNat_natCast, Int.toNat_natCast, hat, hm_mn hD hE.kv hp hq _ he, mnE_ck hkk, ← hd_mn]
    · rw [bI_0] at c23
      refine WQ.st (fun _ _ kz => pw_iload4 dX11_heard_26 kz) ?_
      refine WQ.st (fun _ _ kz => pw_bipush (v := 99) dX11_heard_28 (by decide) kz) ?_
      refine WQ.br (fun _ _ ka kb => pw_icmp_eq (tgt := 37) dX11_heard_30 (by decide) ka kb) (fun c30 => ?_) (fun c30 => ?_)
      · rw [i32_iff (show (99 : Int32).toInt = 99 from rfl)] at c30
        have he : isE e.toInt = true := by
          unfold isE
          rw [decide_eq_true c30, Bool.or_true]
        refine WQ.st (fun _ _ kz => pw_aload0 dX11_heard_37 kz) ?_
        refine WQ.st (fun _ _ kz => pw_iload2 dX11_heard_38 kz) ?_
        refine WQ.st (fun _ _ kz => pw_iload3 dX11_heard_39 kz) ?_
        refine wq_o2v wX11_takeUp lX11_186 rfl dX11_heard_40 (cf_s8 hC) (k_take hI1 (by omega) hp hq hiq) rfl (Nat.le_of_ble_eq_true rfl) (Nat.le_of_ble_eq_true rfl) (fun h40 z40 => ?_)
        obtain ⟨tm, hat, t5, sl5, ls5, S5, V5, P5, A5, B5, Q5, rfl, k5, i5, l5, f5, r5⟩ := z40
        have hC := k5.cf
        have hE5 := i5.de
        obtain ⟨es0, hs0⟩ := hE5.kv.stE hp
        have a5 : A5 69 = A1 69 := f5.2.2.2.2.1 69 (by omega) (by omega) (by omega) (by omega)
        have hkk : ∀ b w, b < lgN al q → w < 5 → kpM (A5 69) b w = rf_k (hdF W.2.2.2.1 tr) 0 b w := fun b w hb hw => by
          unfold kpM
          rw [a5, (hbb b hb).1, hk_kp (hbb b hb).2 hw]
          exact rf_k_b rfl
        refine WQ.st (fun _ _ kz => pw_aload0 dX11_heard_43 kz) ?_
        refine WQ.st (fun _ _ kz => pw_getr gX11_96 dX11_heard_44 (cf_s8 hC) (cf_p8_13 hC) kz) ?_
        refine WQ.st (fun _ _ kz => pw_aload0 dX11_heard_47 kz) ?_
        refine WQ.st (fun _ _ kz => pw_getr gX11_35 dX11_heard_48 (cf_s8 hC) (cf_p8_5 hC) kz) ?_
        refine WQ.st (fun _ _ kz => pw_getr gX11_156 dX11_heard_51 (cf_s16 hC) (cf_p16_0 hC) kz) ?_
        refine WQ.st (fun _ _ kz => pw_iload2 dX11_heard_54 kz) ?_
        refine WQ.st (fun _ _ kz => pw_ald (j := p) dX11_heard_55 (cf_s17 hC) (ix_m rfl (by omega)) (by omega) kz) ?_
        rw [hE5.se.st hp, es0]
        refine WQ.st (fun _ _ kz => pw_iload4 dX11_heard_56 kz) ?_
        refine WQ.st (fun _ _ kz => pw_aload0 dX11_heard_58 kz) ?_
        refine WQ.st (fun _ _ kz => pw_getr gX11_62 dX11_heard_59 (cf_s8 hC) (cf_p8_16 hC) kz) ?_
        refine wq_o3i wX10_howMany lX11_299 rfl dX11_heard_62 (cf_s107 hC) (k_howMany k5 i5.de.dc.rh (am := 69) (cf_s69 hC) (Or.inl rfl) hs0) rfl (Nat.le_of_ble_eq_true rfl) (Nat.le_of_ble_eq_true rfl) (fun h62 z62 => ?_)
        obtain ⟨P6, A6, B6, rfl, k6, rh6, p1, p2, f6⟩ := z62
        refine ⟨_, _, pw_lret dX11_heard_65 rfl rfl rfl, ?_⟩
        have i6 := i5.step k6 ((FrD.p (fun x hx => p1 x (by omega))).tr f6.d) (f6.2.1 109 (by omega) (by omega) (by omega)) (i5.de.dc.hb.to (p1 103 (by omega))) rh6 (i5.de.dc.hw.to (p2 7 (by omega) (by omega)) (p2 8 (by omega) (by omega)))
        have hO : FrO S V P A B t S5 V5 P6 A6 B6 t5 := (hO1.tr ((FrT.d (a := 20) f5).o (Or.inr rfl))).tr (((FrD.p (a := 20) (S := S5) (V := V5) (A := A5) (B := B5) (Q := Q5) (t := t5) (fun x hx => p1 x (by omega))).tr f6.d).o (Or.inr rfl))
        refine ⟨rL ?_, t5, sl5, ls5, S5, V5, P6, A6, B6, Q5, rfl, i6, by omega, hO, r5⟩
        unfold sp_heard
        rw [if_pos c11, if_pos he, tp, tq, tx, Int.toNat_natCast, Int.toNat_natCast, Int.toNat_natCast, hat, hm_mn hD hE.kv hp hq _ he, mnE_ck hkk, ← hd_mn]
      · rw [i32_iff (show (99 : Int32).toInt = 99 from rfl)] at c30
        have he : isE e.toInt = false := by
          unfold isE
          rw [c23, decide_eq_false c30]; rfl
        refine WQ.st (fun _ _ kz => pw_ldc2 kX11_297 dX11_heard_33 kz) ?_
        refine ⟨_, _, pw_lret dX11_heard_36 rfl rfl rfl, ?_⟩
        exact ⟨rL (by unfold sp_heard; rw [if_pos c11, he, if_neg (by decide)]), t, sl, ls, S, V, P, A1, B, Q, rfl, hI1, by omega, hO1, fun _ _ h => h⟩
  · refine WQ.st (fun _ _ kz => pw_iload5 dX11_heard_14 kz) ?_
    refine WQ.st (fun _ _ kz => pw_i2l dX11_heard_16 kz) ?_
    refine ⟨_, _, pw_lret dX11_heard_17 rfl rfl rfl, ?_⟩
    exact ⟨rL (by unfold sp_heard; rw [if_neg c11]), t, sl, ls, S, V, P, A1, B, Q, rfl, hI1, by omega, hO1, fun _ _ h => h⟩
theorem cnt_v {al : Nat → Int32} {p q b w : Nat} {g : Nat → Int64} {R : Nat → Int32} (hb : b < lgN al q) (hw : w < 5) (hg : ∀ b, b < lgN al q → isD (g b).toInt = true ∨ g b = 9) (hR : ∀ b', b' < lgN al q → b' ≠ b → R b' = hmk (g b')) (hRb : R b = hmk (g b) &&& btF (dI w)) (e : Int) : mnE al p q (kpM R) e = hdV al p q (fun b => (g b).toInt32) e b (dI w) := by
  have good : (∀ w', w' < 5 → inM (hmk (g b) &&& btF (dI w)) (dI w') = decide (w' = w)) → mnE al p q (kpM R) e = hdN al p q (pm_up (fun b => (g b).toInt32) b (dI w)) e := fun h => by
    rw [hd_mn]
    refine mnE_ck (fun b' w' hb' hw' => ?_) e
    unfold kpM
    by_cases c : b' = b
    · rw [c, hRb, h w' hw', rf_k_b (g := fun _ => dI w) (b' := 0) pm_up_eq, k0_dI hw hw']
    · rw [hR b' hb' c, hk_kp (hg b' hb') hw']
      exact rf_k_b (f := fun _ => (g b').toInt32) (b := 0) (g := pm_up (fun b => (g b).toInt32) b (dI w)) (b' := b') (pm_up_ne (f := fun b => (g b).toInt32) c).symm
  unfold hdV
  rw [if_neg (dI_9 hw)]
  rcases hg b hb with h | h
  · obtain ⟨j, hj, e1, e2, e3⟩ := isD_j h
    have em : hmk (g b) = btF (dI j) := by unfold hmk; rw [if_neg e3, e1]
    have key : ∀ j w w' : Fin 5, inM (btF (dI j.1) &&& btF (dI w.1)) (dI w'.1) = (decide (j.1 = w.1) && decide (w'.1 = w.1)) := by decide
    have key2 := fun w' (hw' : w' < 5) => key ⟨j, hj⟩ ⟨w, hw⟩ ⟨w', hw'⟩
    by_cases c : j = w
    · rw [if_neg (fun q => q.2 (by show (g b).toInt32 = dI w; rw [e1, c]))]
      refine good (fun w' hw' => ?_)
      rw [em, key2 w' hw', decide_eq_true (show j = w from c), Bool.true_and]
    · rw [if_pos ⟨by show (g b).toInt32 ≠ 9; rw [e1]; exact dI_9 hj, fun q => c (dI_in hj hw (by rw [← e1]; exact q))⟩]
      have kz : ∀ w', w' < 5 → kpM R b w' = false := fun w' hw' => by
        unfold kpM
        rw [hRb, em, key2 w' hw', decide_eq_false (show ¬ j = w from c), Bool.false_and]
      have mz : ∀ s, mnC al p q (kpM R) s = 0 := fun s => by
        unfold mnC
        refine sm_0 (fun l hl => ?_)
        have := c_zero (T := TT al p q) (s0 := stN al p) kz (lgN al q - (b + 1)) l s hl
        rw [show b + 1 + (lgN al q - (b + 1)) = lgN al q by omega] at this
        exact this
      unfold mnE
      by_cases c9 : e = 99
      · rw [if_pos c9]
        exact sm_0 (fun s _ => mz s)
      · rw [if_neg c9]
        exact mz _
  · have e9 : (g b).toInt32 = 9 := by rw [h]; rfl
    rw [if_neg (fun q => q.1 e9)]
    refine good (fun w' hw' => ?_)
    rw [h]
    have key : ∀ w w' : Fin 5, inM (hmk 9 &&& btF (dI w.1)) (dI w'.1) = decide (w'.1 = w.1) := by decide
    exact key ⟨w, hw⟩ ⟨w', hw'⟩
theorem g_f {v : Int64} (h : isD v.toInt = true ∨ v = 9) : v.toInt32 = 9 ∨ ∃ j, j < 5 ∧ v.toInt32 = dI j := by
  rcases h with h | h
  · obtain ⟨j, hj, e1, _⟩ := isD_j h
    exact Or.inr ⟨j, hj, e1⟩
  · rw [h]; exact Or.inl rfl
set_option maxRecDepth 20000 in
theorem q_sureL {G : gT} {d : Nat} {S0 : sS} {V0 : sV} {P0 : sP} {A0 : sV} {B0 : sB} {Q0 : sP} {t0 sl0 : Nat} {al : Nat → Int32} {W : WT} {sh ls0 : Nat} {S : sS} {V : sV} {Q : sP} {t sl ls p tm q b : Nat} {x1 x6 e : Int32} {g : Nat → Int64} (hp : p < 5) (hq : q < 4) (hat : atm al p tm = al) (hb : b < lgN al q) (hg : ∀ b, b < lgN al q → isD (g b).toInt = true ∨ g b = 9) (he : isE e.toInt = true) (hl : ls ≤ ls0 + 1000) (hr : (∀ k1 k2, Room2 S0 Q0 t0 sl0 k1 k2 → Room2 S Q t sl k1 k2)) : ∀ (m w : Nat) (a : Int32) (P : sP) (A : sV) (B : sB), w + m = 5 → KB S V P A B Q t al sh ls p tm q → CI S V P A B Q t al W sh ls → FrO S0 V0 P0 A0 B0 t0 S V P A B t → (∀ b', b' < lgN al q → b' ≠ b → A 69 b' = hmk (g b')) → WQ G (d + 9) mX11_sure 75 [some (.ref 8), some (.int x1), some (.int (nI p)), some (.int (nI q)), some (.int e), some (.int (nI b)), some (.int x6), some (.int (hmk (g b))), some (.int a), some (.int (dI w))] [] (t, sl, gh S V P A B Q) (CZ S0 V0 P0 A0 B0 Q0 t0 sl0 W sh ls0 (.int (suF (fun w => hdV al p q (fun b => (g b).toInt32) e.toInt b (dI w)) m w a)) al) := by
  intro m
  induction m with
  | zero =>
    intro w a P A B hw k5 hI hO hR
    have hw : w = 5 := hw
    subst hw
    have hC := k5.cf
    refine WQ.st (fun _ _ kz => pw_iload9 dX11_sure_75 kz) ?_
    refine WQ.st (fun _ _ kz => pw_iconst (v := 2) dX11_sure_77 (by decide) kz) ?_
    refine WQ.br (fun _ _ ka kb => pw_icmp_gt (tgt := 143) dX11_sure_78 (by decide) ka kb) (fun c78 => ?_) (fun c78 => absurd (by decide) c78)
    refine WQ.st (fun _ _ kz => pw_iload8 dX11_sure_143 kz) ?_
    refine ⟨_, _, pw_iret dX11_sure_145 rfl rfl rfl rfl, ?_⟩
    unfold CZ
    exact ⟨rfl, t, sl, ls, S, V, P, A, B, Q, rfl, hI, hl, hO, hr⟩
  | succ m ih =>
    intro w a P A B hw k5 hI hO hR
    have hC := k5.cf
    have hE := hI.de
    have hD := hE.dc.ka.dv
    have hn12 := (hD.lgE hq).2
    obtain ⟨es0, hs0⟩ := hE.kv.stE hp
    refine WQ.st (fun _ _ kz => pw_iload9 dX11_sure_75 kz) ?_
    refine WQ.st (fun _ _ kz => pw_iconst (v := 2) dX11_sure_77 (by decide) kz) ?_
    refine WQ.br (fun _ _ ka kb => pw_icmp_gt (tgt := 143) dX11_sure_78 (by decide) ka kb) (fun c78 => absurd c78 (by rw [lt_i li_2 (dI_t (by omega))]; omega)) (fun c78 => ?_)
    refine WQ.st (fun _ _ kz => pw_aload0 dX11_sure_81 kz) ?_
    refine WQ.st (fun _ _ kz => pw_getr gX11_62 dX11_sure_82 (cf_s8 hC) (cf_p8_16 hC) kz) ?_
    refine WQ.st (fun _ _ kz => pw_iload5 dX11_sure_85 kz) ?_
    refine WQ.st (fun _ _ kz => pw_iload7 dX11_sure_87 kz) ?_
    refine WQ.st (fun _ _ kz => pw_iload9 dX11_sure_89 kz) ?_
    refine wq_s1i wX11_bitOf lX11_342 dX11_sure_91 (k_bitOf _) rfl (Nat.le_of_ble_eq_true rfl) (Nat.le_of_ble_eq_true rfl) (fun h91 z91 => ?_)
    subst z91
    refine WQ.st (fun _ _ kz => pw_iand dX11_sure_94 kz) ?_
    refine WQ.st (fun _ _ kz => pw_ast (j := b) dX11_sure_95 (cf_s69 hC) (ix_m rfl (by omega)) (by omega)  kz) ?_
    have f0 : ∀ x, x ≠ 69 → (up2 A 69 b (hmk (g b) &&& btF (dI w))) x = A x := fun x hx => up2_na hx
    have k6 := k5.fr (V' := V) (A' := (up2 A 69 b (hmk (g b) &&& btF (dI w)))) (B' := B) ⟨fun _ _ => rfl, fun x hx => f0 x (by omega), fun _ _ => rfl⟩
    obtain ⟨hI6, hO6⟩ := hI.a69 (A' := (up2 A 69 b (hmk (g b) &&& btF (dI w)))) (fun x h1 _ => f0 x h1)
    have hcv : mnE al p q (kpM ((up2 A 69 b (hmk (g b) &&& btF (dI w))) 69)) e.toInt = hdV al p q (fun b => (g b).toInt32) e.toInt b (dI w) := cnt_v hb (by omega) hg (fun b' h1 h2 => by rw [up2_nk h2]; exact hR b' h1 h2) up2_eq e.toInt
    refine WQ.st (fun _ _ kz => pw_aload0 dX11_sure_96 kz) ?_
    refine WQ.st (fun _ _ kz => pw_getr gX11_96 dX11_sure_97 (cf_s8 hC) (cf_p8_13 hC) kz) ?_
    refine WQ.st (fun _ _ kz => pw_aload0 dX11_sure_100 kz) ?_
    refine WQ.st (fun _ _ kz => pw_getr gX11_35 dX11_sure_101 (cf_s8 hC) (cf_p8_5 hC) kz) ?_
    refine WQ.st (fun _ _ kz => pw_getr gX11_156 dX11_sure_104 (cf_s16 hC) (cf_p16_0 hC) kz) ?_
    refine WQ.st (fun _ _ kz => pw_iload2 dX11_sure_107 kz) ?_
    refine WQ.st (fun _ _ kz => pw_ald (j := p) dX11_sure_108 (cf_s17 hC) (ix_m rfl (by omega)) (by omega) kz) ?_
    rw [up2_na (by omega), hE.se.st hp, es0]
    refine WQ.st (fun _ _ kz => pw_iload4 dX11_sure_109 kz) ?_
    refine WQ.st (fun _ _ kz => pw_aload0 dX11_sure_111 kz) ?_
    refine WQ.st (fun _ _ kz => pw_getr gX11_62 dX11_sure_112 (cf_s8 hC) (cf_p8_16 hC) kz) ?_
    refine wq_o3i wX10_howMany lX11_299 rfl dX11_sure_115 (cf_s107 hC) (k_howMany k6 hI6.de.dc.rh (am := 69) (cf_s69 hC) (Or.inl rfl) hs0) rfl (Nat.le_of_ble_eq_true rfl) (Nat.le_of_ble_eq_true rfl) (fun h115 z115 => ?_)
    obtain ⟨P6, A7, B6, rfl, k7, rh7, p1, p2, f6⟩ := z115
    rw [hat, hm_mn hD hE.kv hp hq _ he, hcv]
    have hcl := hdV_le al p q (fun b => (g b).toInt32) e.toInt b (dI w) hn12
    have i7 := hI6.step k7 ((FrD.p (fun x hx => p1 x (by omega))).tr f6.d) (f6.2.1 109 (by omega) (by omega) (by omega)) (hI6.de.dc.hb.to (p1 103 (by omega))) rh7 (hI6.de.dc.hw.to (p2 7 (by omega) (by omega)) (p2 8 (by omega) (by omega)))
    have hO7 : FrO S0 V0 P0 A0 B0 t0 S V P6 A7 B6 t := (hO.tr hO6).tr (((FrD.p (a := 20) (S := S) (V := V) (A := (up2 A 69 b (hmk (g b) &&& btF (dI w)))) (B := B) (Q := Q) (t := t) (fun x hx => p1 x (by omega))).tr f6.d).o (Or.inr rfl))
    have hR7 : ∀ b', b' < lgN al q → b' ≠ b → A7 69 b' = hmk (g b') := fun b' h1 h2 => by
      rw [f6.2.1 69 (by omega) (by omega) (by omega), up2_nk h2]
      exact hR b' h1 h2
    have hC := k7.cf
    refine WQ.st (fun _ _ kz => pw_lconst (v := 0) dX11_sure_118 (by decide) kz) ?_
    refine WQ.st (fun _ _ kz => pw_lcmp dX11_sure_119 kz) ?_
    refine WQ.br (fun _ _ ka kb => pw_if_le (tgt := 137) dX11_sure_120 (by decide) ka kb) (fun c120 => ?_) (fun c120 => ?_)
    · rw [lg_cmp_le, lN_z (by omega)] at c120
      have eU : suF (fun w => hdV al p q (fun b => (g b).toInt32) e.toInt b (dI w)) (m + 1) w a = suF (fun w => hdV al p q (fun b => (g b).toInt32) e.toInt b (dI w)) m (w + 1) a := by
        show (if _ then _ else _) = _
        rw [if_pos c120]
      rw [eU]
      refine WQ.st (fun _ _ kz => pw_iinc9 (v := 1) dX11_sure_137 (by decide) (by decide) (k := kz)) ?_
      refine WQ.st (fun _ _ kz => pw_goto (tgt := 75) dX11_sure_140 (by decide) kz) ?_
      rw [dI_1]
      exact ih (w + 1) _ _ _ _ (by omega) k7 i7 hO7 hR7
    · rw [lg_cmp_le, lN_z (by omega)] at c120
      refine WQ.st (fun _ _ kz => pw_iload8 dX11_sure_123 kz) ?_
      refine WQ.st (fun _ _ kz => pw_bipush (v := 9) dX11_sure_125 (by decide) kz) ?_
      refine WQ.br (fun _ _ ka kb => pw_icmp_eq (tgt := 133) dX11_sure_127 (by decide) ka kb) (fun c127 => ?_) (fun c127 => ?_)
      · have eU : suF (fun w => hdV al p q (fun b => (g b).toInt32) e.toInt b (dI w)) (m + 1) w a = suF (fun w => hdV al p q (fun b => (g b).toInt32) e.toInt b (dI w)) m (w + 1) (dI w) := by
          show (if _ then _ else _) = _
          rw [if_neg c120, if_pos c127]
        rw [eU]
        refine WQ.st (fun _ _ kz => pw_iload9 dX11_sure_133 kz) ?_
        refine WQ.st (fun _ _ kz => pw_istore8 dX11_sure_135 (by decide) (k := kz)) ?_
        refine WQ.st (fun _ _ kz => pw_iinc9 (v := 1) dX11_sure_137 (by decide) (by decide) (k := kz)) ?_
        refine WQ.st (fun _ _ kz => pw_goto (tgt := 75) dX11_sure_140 (by decide) kz) ?_
        rw [dI_1]
        exact ih (w + 1) _ _ _ _ (by omega) k7 i7 hO7 hR7
      · have eU : suF (fun w => hdV al p q (fun b => (g b).toInt32) e.toInt b (dI w)) (m + 1) w a = 9 := by
          show (if _ then _ else _) = _
          rw [if_neg c120, if_neg c127]
        rw [eU]
        refine WQ.st (fun _ _ kz => pw_bipush (v := 9) dX11_sure_130 (by decide) kz) ?_
        refine ⟨_, _, pw_iret dX11_sure_132 rfl rfl rfl rfl, ?_⟩
        unfold CZ
        exact ⟨rfl, t, sl, ls, S, V, P6, A7, B6, Q, rfl, i7, hl, hO7, hr⟩
set_option maxRecDepth 20000 in
theorem q_sure {G : gT} {d : Nat} {S : sS} {V : sV} {P : sP} {A : sV} {B : sB} {Q : sP} {t sl : Nat} {al : Nat → Int32} {W : WT} {sh ls : Nat} (hI : CI S V P A B Q t al W sh ls) (hls : ls + 1000 < 2000000000) (x y z e b : Int32) : WQ G (d + 9) mX11_sure 0 [some (.ref 8), some (.int x), some (.int y), some (.int z), some (.int e), some (.int b), none, none, none, none] [] (t, sl, gh S V P A B Q) (CZ S V P A B Q t sl W sh ls (.int (sp_sure al W.2.1 W.2.2.1 W.2.2.2.1 x.toInt y.toInt z.toInt e.toInt b.toInt)) al) := by
  unfold CZ
  have hE := hI.de
  have hC := hE.dc.ka.cf
  have hD := hE.dc.ka.dv
  have hSe := hE.dc.ka.se
  have hA := hI.av
  have hp5 := hD.p5
  have hn4 := hD.n4
  refine WQ.st (fun _ _ kz => pw_aload0 dX11_sure_0 kz) ?_
  refine WQ.st (fun _ _ kz => pw_iload1 dX11_sure_1 kz) ?_
  refine WQ.st (fun _ _ kz => pw_iload2 dX11_sure_2 kz) ?_
  refine WQ.st (fun _ _ kz => pw_iload3 dX11_sure_3 kz) ?_
  refine wq_o3i wX11_refuseHeard lX11_345 rfl dX11_sure_4 (cf_s8 hC) (k_refuseHeard hI (by omega) x y z) rfl (Nat.le_of_ble_eq_true rfl) (Nat.le_of_ble_eq_true rfl) (fun h4 z4 => ?_)
  obtain ⟨A1, rfl, g1, g2⟩ := z4
  obtain ⟨hI1, hO1⟩ := hI.a69 (fun x h1 _ => g1 x h1)
  have hE1 := hI1.de
  refine WQ.st (fun _ _ kz => pw_istore6 dX11_sure_7 (by decide) (k := kz)) ?_
  refine WQ.st (fun _ _ kz => pw_iload6 dX11_sure_9 kz) ?_
  refine WQ.br (fun _ _ ka kb => pw_if_eq (tgt := 17) dX11_sure_11 (by decide) ka kb) (fun c11 => ?_) (fun c11 => ?_)
  · obtain ⟨tr, p, q, ⟨rfl, htr, tx⟩, ⟨rfl, hp, tp⟩, ⟨rfl, hq, tq, hiq⟩, hbb⟩ := g2 c11
    refine WQ.st (fun _ _ kz => pw_iload4 dX11_sure_17 kz) ?_
    refine wq_s1i wX11_isStore lX11_281 dX11_sure_19 (k_isStore _) rfl (Nat.le_of_ble_eq_true rfl) (Nat.le_of_ble_eq_true rfl) (fun h19 z19 => ?_)
    subst z19
    refine WQ.bn (fun _ _ ka kb => pw_if_ne (tgt := 35) dX11_sure_22 (by decide) ka kb) (fun c22 => ?_) (fun c22 => ?_)
    · rw [bI_n] at c22
      have he : isE e.toInt = true := by
        unfold isE
        rw [c22]; rfl
      refine WQ.st (fun _ _ kz => pw_aload0 dX11_sure_35 kz) ?_
      refine WQ.st (fun _ _ kz => pw_getr gX11_71 dX11_sure_36 (cf_s8 hC) hI.re.p84 kz) ?_
      refine WQ.st (fun _ _ kz => pw_iload3 dX11_sure_39 kz) ?_
      refine WQ.st (fun _ _ kz => pw_iload5 dX11_sure_40 kz) ?_
      refine wq_o2i wX7_hasBar lX11_168 rfl dX11_sure_42 (sh_s0 hE.dc.ka.hsh) (k_hasBar hE1.dc.ka.hsh hE1.dc.ka.se hD _ _) rfl (Nat.le_of_ble_eq_true rfl) (Nat.le_of_ble_eq_true rfl) (fun h42 z42 => ?_)
      subst z42
      refine WQ.bn (fun _ _ ka kb => pw_if_ne (tgt := 52) dX11_sure_45 (by decide) ka kb) (fun c45 => ?_) (fun c45 => ?_)
      · rw [bI_n] at c45
        have hb2 := (Bool.and_eq_true _ _).mp c45
        have gb := of_decide_eq_true hb2.2
        rw [tq, Int.toNat_natCast] at gb
        have hlg := hD.lg q hq
        obtain ⟨b, rfl, tb, lb⟩ := nI_get gb.1 gb.2 (by omega)
        have hb : b < lgN al q := by unfold lgN; omega
        have hn12 := (hD.lgE hq).2
        refine WQ.st (fun _ _ kz => pw_aload0 dX11_sure_52 kz) ?_
        refine WQ.st (fun _ _ kz => pw_iload2 dX11_sure_53 kz) ?_
        refine WQ.st (fun _ _ kz => pw_iload3 dX11_sure_54 kz) ?_
        refine wq_o2v wX11_takeUp lX11_186 rfl dX11_sure_55 (cf_s8 hC) (k_take hI1 (by omega) hp hq hiq) rfl (Nat.le_of_ble_eq_true rfl) (Nat.le_of_ble_eq_true rfl) (fun h55 z55 => ?_)
        obtain ⟨tm, hat, t5, sl5, ls5, S5, V5, P5, A5, B5, Q5, rfl, k5, i5, l5, f5, r5⟩ := z55
        have hC := k5.cf
        have hE5 := i5.de
        obtain ⟨es0, hs0⟩ := hE5.kv.stE hp
        have a5 : A5 69 = A1 69 := f5.2.2.2.2.1 69 (by omega) (by omega) (by omega) (by omega)
        refine WQ.st (fun _ _ kz => pw_aload0 dX11_sure_58 kz) ?_
        refine WQ.st (fun _ _ kz => pw_getr gX11_62 dX11_sure_59 (cf_s8 hC) (cf_p8_16 hC) kz) ?_
        refine WQ.st (fun _ _ kz => pw_iload5 dX11_sure_62 kz) ?_
        refine WQ.st (fun _ _ kz => pw_ald (j := b) dX11_sure_64 (cf_s69 hC) (ix_m rfl (by omega)) (by omega) kz) ?_
        rw [a5, (hbb b hb).1]
        refine WQ.st (fun _ _ kz => pw_istore7 dX11_sure_65 (by decide) (k := kz)) ?_
        refine WQ.st (fun _ _ kz => pw_bipush (v := 9) dX11_sure_67 (by decide) kz) ?_
        refine WQ.st (fun _ _ kz => pw_istore8 dX11_sure_69 (by decide) (k := kz)) ?_
        refine WQ.st (fun _ _ kz => pw_bipush (v := -2) dX11_sure_71 (by decide) kz) ?_
        refine WQ.st (fun _ _ kz => pw_istore9 dX11_sure_73 (by decide) (k := kz)) ?_
        rw [show (-2 : Int32) = dI 0 from rfl]
        have es : sp_sure al W.2.1 W.2.2.1 W.2.2.2.1 (nI tr).toInt (nI p).toInt (nI q).toInt e.toInt (nI b).toInt = suF (fun w => hdV al p q (fun b => (W.2.2.2.1 (40 * tr + b)).toInt32) e.toInt b (dI w)) 5 0 9 := by
          unfold sp_sure
          rw [if_pos c11, if_pos he, if_pos c45, tp, tq, tx, tb, Int.toNat_natCast, Int.toNat_natCast, Int.toNat_natCast, Int.toNat_natCast]
          exact (su_all (hd_sum hb (g_f (hbb b hb).2) e.toInt)).symm
        rw [es]
        exact q_sureL (g := fun b => W.2.2.2.1 (40 * tr + b)) hp hq hat hb (fun b hb => (hbb b hb).2) he (by omega) r5 5 0 9 P5 A5 B5 (by omega) k5 i5 (hO1.tr ((FrT.d (a := 20) f5).o (Or.inr rfl))) (fun b' h1 _ => by rw [a5]; exact (hbb b' h1).1)
      · rw [bI_0] at c45
        refine WQ.st (fun _ _ kz => pw_ldcw kX11_349 dX11_sure_48 kz) ?_
        refine ⟨_, _, pw_iret dX11_sure_51 rfl rfl rfl rfl, ?_⟩
        exact ⟨rI (by unfold sp_sure; rw [if_pos c11, if_pos he, c45, if_neg (by decide)]), t, sl, ls, S, V, P, A1, B, Q, rfl, hI1, by omega, hO1, fun _ _ h => h⟩
    · rw [bI_0] at c22
      refine WQ.st (fun _ _ kz => pw_iload4 dX11_sure_25 kz) ?_
      refine WQ.st (fun _ _ kz => pw_bipush (v := 99) dX11_sure_27 (by decide) kz) ?_
      refine WQ.br (fun _ _ ka kb => pw_icmp_eq (tgt := 35) dX11_sure_29 (by decide) ka kb) (fun c29 => ?_) (fun c29 => ?_)
      · rw [i32_iff (show (99 : Int32).toInt = 99 from rfl)] at c29
        have he : isE e.toInt = true := by
          unfold isE
          rw [decide_eq_true c29, Bool.or_true]
        refine WQ.st (fun _ _ kz => pw_aload0 dX11_sure_35 kz) ?_
        refine WQ.st (fun _ _ kz => pw_getr gX11_71 dX11_sure_36 (cf_s8 hC) hI.re.p84 kz) ?_
        refine WQ.st (fun _ _ kz => pw_iload3 dX11_sure_39 kz) ?_
        refine WQ.st (fun _ _ kz => pw_iload5 dX11_sure_40 kz) ?_
        refine wq_o2i wX7_hasBar lX11_168 rfl dX11_sure_42 (sh_s0 hE.dc.ka.hsh) (k_hasBar hE1.dc.ka.hsh hE1.dc.ka.se hD _ _) rfl (Nat.le_of_ble_eq_true rfl) (Nat.le_of_ble_eq_true rfl) (fun h42 z42 => ?_)
        subst z42
        refine WQ.bn (fun _ _ ka kb => pw_if_ne (tgt := 52) dX11_sure_45 (by decide) ka kb) (fun c45 => ?_) (fun c45 => ?_)
        · rw [bI_n] at c45
          have hb2 := (Bool.and_eq_true _ _).mp c45
          have gb := of_decide_eq_true hb2.2
          rw [tq, Int.toNat_natCast] at gb
          have hlg := hD.lg q hq
          obtain ⟨b, rfl, tb, lb⟩ := nI_get gb.1 gb.2 (by omega)
          have hb : b < lgN al q := by unfold lgN; omega
          have hn12 := (hD.lgE hq).2
          refine WQ.st (fun _ _ kz => pw_aload0 dX11_sure_52 kz) ?_
          refine WQ.st (fun _ _ kz => pw_iload2 dX11_sure_53 kz) ?_
          refine WQ.st (fun _ _ kz => pw_iload3 dX11_sure_54 kz) ?_
          refine wq_o2v wX11_takeUp lX11_186 rfl dX11_sure_55 (cf_s8 hC) (k_take hI1 (by omega) hp hq hiq) rfl (Nat.le_of_ble_eq_true rfl) (Nat.le_of_ble_eq_true rfl) (fun h55 z55 => ?_)
          obtain ⟨tm, hat, t5, sl5, ls5, S5, V5, P5, A5, B5, Q5, rfl, k5, i5, l5, f5, r5⟩ := z55
          have hC := k5.cf
          have hE5 := i5.de
          obtain ⟨es0, hs0⟩ := hE5.kv.stE hp
          have a5 : A5 69 = A1 69 := f5.2.2.2.2.1 69 (by omega) (by omega) (by omega) (by omega)
          refine WQ.st (fun _ _ kz => pw_aload0 dX11_sure_58 kz) ?_
          refine WQ.st (fun _ _ kz => pw_getr gX11_62 dX11_sure_59 (cf_s8 hC) (cf_p8_16 hC) kz) ?_
          refine WQ.st (fun _ _ kz => pw_iload5 dX11_sure_62 kz) ?_
          refine WQ.st (fun _ _ kz => pw_ald (j := b) dX11_sure_64 (cf_s69 hC) (ix_m rfl (by omega)) (by omega) kz) ?_
          rw [a5, (hbb b hb).1]
          refine WQ.st (fun _ _ kz => pw_istore7 dX11_sure_65 (by decide) (k := kz)) ?_
          refine WQ.st (fun _ _ kz => pw_bipush (v := 9) dX11_sure_67 (by decide) kz) ?_
          refine WQ.st (fun _ _ kz => pw_istore8 dX11_sure_69 (by decide) (k := kz)) ?_
          refine WQ.st (fun _ _ kz => pw_bipush (v := -2) dX11_sure_71 (by decide) kz) ?_
          refine WQ.st (fun _ _ kz => pw_istore9 dX11_sure_73 (by decide) (k := kz)) ?_
          rw [show (-2 : Int32) = dI 0 from rfl]
          have es : sp_sure al W.2.1 W.2.2.1 W.2.2.2.1 (nI tr).toInt (nI p).toInt (nI q).toInt e.toInt (nI b).toInt = suF (fun w => hdV al p q (fun b => (W.2.2.2.1 (40 * tr + b)).toInt32) e.toInt b (dI w)) 5 0 9 := by
            unfold sp_sure
            rw [if_pos c11, if_pos he, if_pos c45, tp, tq, tx, tb, Int.toNat_natCast, Int.toNat_natCast, Int.toNat_natCast, Int.toNat_natCast]
            exact (su_all (hd_sum hb (g_f (hbb b hb).2) e.toInt)).symm
          rw [es]
          exact q_sureL (g := fun b => W.2.2.2.1 (40 * tr + b)) hp hq hat hb (fun b hb => (hbb b hb).2) he (by omega) r5 5 0 9 P5 A5 B5 (by omega) k5 i5 (hO1.tr ((FrT.d (a := 20) f5).o (Or.inr rfl))) (fun b' h1 _ => by rw [a5]; exact (hbb b' h1).1)
        · rw [bI_0] at c45
          refine WQ.st (fun _ _ kz => pw_ldcw kX11_349 dX11_sure_48 kz) ?_
          refine ⟨_, _, pw_iret dX11_sure_51 rfl rfl rfl rfl, ?_⟩
          exact ⟨rI (by unfold sp_sure; rw [if_pos c11, if_pos he, c45, if_neg (by decide)]), t, sl, ls, S, V, P, A1, B, Q, rfl, hI1, by omega, hO1, fun _ _ h => h⟩
      · rw [i32_iff (show (99 : Int32).toInt = 99 from rfl)] at c29
        have he : isE e.toInt = false := by
          unfold isE
          rw [c22, decide_eq_false c29]; rfl
        refine WQ.st (fun _ _ kz => pw_ldc kX11_123 dX11_sure_32 kz) ?_
        refine ⟨_, _, pw_iret dX11_sure_34 rfl rfl rfl rfl, ?_⟩
        exact ⟨rI (by unfold sp_sure; rw [if_pos c11, he, if_neg (by decide)]), t, sl, ls, S, V, P, A1, B, Q, rfl, hI1, by omega, hO1, fun _ _ h => h⟩
  · refine WQ.st (fun _ _ kz => pw_iload6 dX11_sure_14 kz) ?_
    refine ⟨_, _, pw_iret dX11_sure_16 rfl rfl rfl rfl, ?_⟩
    exact ⟨rI (by unfold sp_sure; rw [if_neg c11]), t, sl, ls, S, V, P, A1, B, Q, rfl, hI1, by omega, hO1, fun _ _ h => h⟩
