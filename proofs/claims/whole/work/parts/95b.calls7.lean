set_option maxRecDepth 20000 in
theorem q_write {G : gT} {d : Nat} {S : sS} {V : sV} {P : sP} {A : sV} {B : sB} {Q : sP} {t sl : Nat} {al : Nat → Int32} {W : WT} {sh ls : Nat} (hI : CI S V P A B Q t al W sh ls) (hls : ls + 1000 < 2000000000) (x y : Int32) (v : Int64) : WQ G (d + 9) mX11_write 0 [some (.ref 8), some (.int x), some (.int y), some (.long v), none, none] [] (t, sl, gh S V P A B Q) (CZ S V P A B Q t sl (sp_wr W x y v).2 sh ls (.long ((sp_wr W x y v).1)) al) := by
  unfold CZ
  have hE := hI.de
  have hC := hE.dc.ka.cf
  have hD := hE.dc.ka.dv
  have hSe := hE.dc.ka.se
  have hA := hI.av
  have hp5 := hD.p5
  have hn4 := hD.n4
  refine WQ.st (fun _ _ kz => pw_iload1 dX11_write_0 kz) ?_
  refine wq_s1i wX11_isTray lX11_232 dX11_write_1 (k_isTray x) rfl (Nat.le_of_ble_eq_true rfl) (Nat.le_of_ble_eq_true rfl) (fun h1 z1 => ?_)
  subst z1
  refine WQ.bn (fun _ _ ka kb => pw_if_ne (tgt := 11) dX11_write_4 (by decide) ka kb) (fun c4 => ?_) (fun c4 => ?_)
  · rw [bI_n] at c4
    have hx := of_decide_eq_true c4
    obtain ⟨tr, rfl, tx, _⟩ := nI_get (x := x) (n := 4) (by omega) (by omega) (by omega)
    have htr : tr < 4 := by omega
    have hTy := cf_ty hC htr
    have tx2 : (nI tr).toInt.toNat = tr := by omega
    refine WQ.st (fun _ _ kz => pw_aload0 dX11_write_11 kz) ?_
    refine WQ.st (fun _ _ kz => pw_getr gX11_58 dX11_write_12 (cf_s8 hC) (cf_p8_10 hC) kz) ?_
    refine WQ.st (fun _ _ kz => pw_iload1 dX11_write_15 kz) ?_
    refine WQ.st (fun _ _ kz => pw_qldr (j := tr) dX11_write_16 (cf_s68 hC) (by decide) (ix_m rfl (by omega)) (by omega) (hI.re.tr.1 tr htr) kz) ?_
    refine WQ.st (fun _ _ kz => pw_astore5 dX11_write_17 (by decide) (k := kz)) ?_
    refine WQ.st (fun _ _ kz => pw_aload5 dX11_write_19 kz) ?_
    refine wq_o0i wX9_isMissing lX11_235 rfl dX11_write_21 (ty_s0 hTy) (k_isMissing hTy) rfl (Nat.le_of_ble_eq_true rfl) (Nat.le_of_ble_eq_true rfl) (fun h21 z21 => ?_)
    subst z21
    refine WQ.br (fun _ _ ka kb => pw_if_eq (tgt := 31) dX11_write_24 (by decide) ka kb) (fun c24 => ?_) (fun c24 => ?_)
    · rw [bI_0] at c24
      obtain ⟨t1, t2, t3, t4, t5⟩ := tr_ok hI.re.tr htr (of_decide_eq_false c24)
      have tmn : ((W.2.2.1 tr).toInt.toNat : Int) = (W.2.2.1 tr).toInt := by rcases hI.re.tr.2 tr htr with ⟨h, _⟩ | ⟨_, _, _, h, _⟩; exact absurd h t1; omega
      have hnt : sp_nt W.2.1 (nI tr).toInt = 0 := by
        unfold sp_nt
        rw [if_pos (by omega), tx, Int.toNat_natCast, if_neg t1]
      refine WQ.st (fun _ _ kz => pw_iload2 dX11_write_31 kz) ?_
      refine WQ.br (fun _ _ ka kb => pw_if_lt (tgt := 44) dX11_write_32 (by decide) ka kb) (fun c32 => ?_) (fun c32 => ?_)
      · rw [lt_i rfl li_0] at c32
        refine WQ.st (fun _ _ kz => pw_ldc2 kX11_374 dX11_write_44 kz) ?_
        refine ⟨_, _, pw_lret dX11_write_47 rfl rfl rfl, ?_⟩
        have es : sp_wr W (nI tr) y v = (-99000007, W) := by
          unfold sp_wr
          rw [if_pos hnt, tx2, if_neg (by omega)]
        rw [es]
        exact ⟨rfl, t, sl, ls, S, V, P, A, B, Q, rfl, hI, by omega, FrO.rfl, fun _ _ h => h⟩
      · rw [lt_i rfl li_0] at c32
        refine WQ.st (fun _ _ kz => pw_iload2 dX11_write_35 kz) ?_
        refine WQ.st (fun _ _ kz => pw_aload5 dX11_write_36 kz) ?_
        refine WQ.st (fun _ _ kz => pw_geti gX11_240 dX11_write_38 (ty_s0 hTy) kz) ?_
        rw [t3]
        refine WQ.br (fun _ _ ka kb => pw_icmp_lt (tgt := 48) dX11_write_41 (by decide) ka kb) (fun c41 => ?_) (fun c41 => ?_)
        · rw [lt_i rfl (ix_n (by omega))] at c41
          obtain ⟨k, rfl, tk, lk⟩ := nI_get (x := y) (n := (W.2.2.1 tr).toInt) (by omega) (by omega) (by omega)
          refine WQ.st (fun _ _ kz => pw_aload5 dX11_write_48 kz) ?_
          refine WQ.st (fun _ _ kz => pw_iload2 dX11_write_50 kz) ?_
          refine WQ.st (fun _ _ kz => pw_lload3 dX11_write_51 kz) ?_
          refine wq_o2v wX9_put lX11_376 rfl dX11_write_52 (ty_s0 hTy) (k_put hTy t3 t4 (show k < (W.2.2.1 tr).toInt.toNat by omega) v) rfl (Nat.le_of_ble_eq_true rfl) (Nat.le_of_ble_eq_true rfl) (fun h52 z52 => ?_)
          subst z52
          rw [t2]
          refine WQ.st (fun _ _ kz => pw_aload5 dX11_write_55 kz) ?_
          refine WQ.st (fun _ _ kz => pw_iload2 dX11_write_57 kz) ?_
          refine wq_o1i wX9_at lX11_241 rfl dX11_write_58 (ty_s0 hTy) (k_at hTy t3 t4 (show k < (W.2.2.1 tr).toInt.toNat by omega)) rfl (Nat.le_of_ble_eq_true rfl) (Nat.le_of_ble_eq_true rfl) (fun h58 z58 => ?_)
          subst z58
          rw [up2_eq]
          refine ⟨_, _, pw_lret dX11_write_61 rfl rfl rfl, ?_⟩
          have es : sp_wr W (nI tr) (nI k) v = (rf_cut v (W.2.1 tr), W.try W.2.1 W.2.2.1 (pm_up W.2.2.2.1 (40 * tr + k) (rf_cut v (W.2.1 tr)))) := by
            unfold sp_wr
            rw [if_pos hnt, tx2, if_pos (by omega), tk, Int.toNat_natCast]
          rw [es]
          have a1 : 79 + 2 * tr + 1 = 80 + 2 * tr := by omega
          have hT : TRY V (up2 B (79 + 2 * tr + 1) k (rf_cut v (W.2.1 tr))) Q W.2.1 W.2.2.1 (pm_up W.2.2.2.1 (40 * tr + k) (rf_cut v (W.2.1 tr))) := by
            refine ⟨hI.re.tr.1, fun j hj => ?_⟩
            rcases hI.re.tr.2 j hj with h | ⟨h1, h2, h3, h4, h5⟩
            · exact Or.inl h
            · refine Or.inr ⟨h1, h2, h3, h4, fun i hi => ?_⟩
              by_cases e : j = tr ∧ i = k
              · obtain ⟨rfl, rfl⟩ := e
                rw [a1, up2_eq, pm_up_eq]
              · rw [pm_up_ne (by omega), ← h5 i hi, a1]
                by_cases e2 : j = tr
                · subst e2
                  exact up2_nk (by omega)
                · rw [up2_na (by omega)]
          obtain ⟨q1, q2⟩ := hI.tray (fun _ _ => rfl) (fun x hx => up2_na (by omega)) hT
          exact ⟨rfl, t, sl, ls, S, _, P, A, _, Q, rfl, q1, by omega, q2, fun _ _ h => h⟩
        · rw [lt_i rfl (ix_n (by omega))] at c41
          refine WQ.st (fun _ _ kz => pw_ldc2 kX11_374 dX11_write_44 kz) ?_
          refine ⟨_, _, pw_lret dX11_write_47 rfl rfl rfl, ?_⟩
          have es : sp_wr W (nI tr) y v = (-99000007, W) := by
            unfold sp_wr
            rw [if_pos hnt, tx2, if_neg (by omega)]
          rw [es]
          exact ⟨rfl, t, sl, ls, S, V, P, A, B, Q, rfl, hI, by omega, FrO.rfl, fun _ _ h => h⟩
    · rw [bI_n] at c24
      refine WQ.st (fun _ _ kz => pw_ldc2 kX11_372 dX11_write_27 kz) ?_
      refine ⟨_, _, pw_lret dX11_write_30 rfl rfl rfl, ?_⟩
      have hnt : sp_nt W.2.1 (nI tr).toInt = -99000006 := by
        unfold sp_nt
        rw [if_pos (by omega), tx, Int.toNat_natCast, if_pos (tr_no hI.re.tr htr (of_decide_eq_true c24))]
      have es : sp_wr W (nI tr) y v = ((-99000006 : Int32).toInt64, W) := by
        unfold sp_wr
        rw [hnt, if_neg (by decide)]
      rw [es]
      exact ⟨rfl, t, sl, ls, S, V, P, A, B, Q, rfl, hI, by omega, FrO.rfl, fun _ _ h => h⟩
  · rw [bI_0] at c4
    refine WQ.st (fun _ _ kz => pw_ldc2 kX11_295 dX11_write_7 kz) ?_
    refine ⟨_, _, pw_lret dX11_write_10 rfl rfl rfl, ?_⟩
    have hnt : sp_nt W.2.1 x.toInt = -99000002 := by
      unfold sp_nt
      rw [if_neg (of_decide_eq_false c4)]
    have es : sp_wr W x y v = ((-99000002 : Int32).toInt64, W) := by
      unfold sp_wr
      rw [hnt, if_neg (by decide)]
    rw [es]
    exact ⟨rfl, t, sl, ls, S, V, P, A, B, Q, rfl, hI, by omega, FrO.rfl, fun _ _ h => h⟩
set_option maxRecDepth 20000 in
theorem q_listsL {G : gT} {d : Nat} {S : sS} {V : sV} {P : sP} {A : sV} {Q : sP} {t sl : Nat} (hC : CF S P) {x1 x2 x3 x4 : Int32} {tr n M : Nat} (htr : tr < 4) (hn40 : n ≤ 40) (hM : M ≤ n) (hM12 : M ≤ 12) (hv : V (79 + 2 * tr) 0 = nI n) {j : Nat → Nat} (hj : ∀ k, k < M → j k < 5) (hR : ∀ k, k < M → A 108 k = dI (j k)) {B0 : sB} {Z : Option Value → Ph → Prop} (kf : ∀ B : sB, (∀ x, x ≠ 80 + 2 * tr → B x = B0 x) → (∀ i, B (80 + 2 * tr) i = if i < M then (dI (j i)).toInt64 else B0 (80 + 2 * tr) i) → WQ G (d + 3) mX11_lists 122 [some (.ref 8), some (.int x1), some (.int x2), some (.int x3), some (.int x4), some (.ref (79 + 2 * tr)), some (.int (nI M)), some (.int (nI M))] [] (t, sl, gh S V P A B Q) Z) : ∀ (m k : Nat) (B : sB), k + m = M → (∀ x, x ≠ 80 + 2 * tr → B x = B0 x) → (∀ i, B (80 + 2 * tr) i = if i < k then (dI (j i)).toInt64 else B0 (80 + 2 * tr) i) → WQ G (d + 3) mX11_lists 91 [some (.ref 8), some (.int x1), some (.int x2), some (.int x3), some (.int x4), some (.ref (79 + 2 * tr)), some (.int (nI M)), some (.int (nI k))] [] (t, sl, gh S V P A B Q) Z := by
  have hTy := cf_ty hC htr
  intro m
  induction m with
  | zero =>
    intro k B hk h1 h2
    have hk : k = M := hk
    subst hk
    refine WQ.st (fun _ _ kz => pw_iload7 dX11_lists_91 kz) ?_
    refine WQ.st (fun _ _ kz => pw_iload6 dX11_lists_93 kz) ?_
    refine WQ.br (fun _ _ ka kb => pw_icmp_ge (tgt := 122) dX11_lists_95 (by decide) ka kb) (fun c95 => ?_) (fun c95 => absurd (by rw [le_i (ix_n (by omega)) (ix_n (by omega))]; omega) c95)
    exact kf B h1 h2
  | succ m ih =>
    intro k B hk h1 h2
    refine WQ.st (fun _ _ kz => pw_iload7 dX11_lists_91 kz) ?_
    refine WQ.st (fun _ _ kz => pw_iload6 dX11_lists_93 kz) ?_
    refine WQ.br (fun _ _ ka kb => pw_icmp_ge (tgt := 122) dX11_lists_95 (by decide) ka kb) (fun c95 => absurd c95 (by rw [le_i (ix_n (by omega)) (ix_n (by omega))]; omega)) (fun c95 => ?_)
    refine WQ.st (fun _ _ kz => pw_aload5 dX11_lists_98 kz) ?_
    refine WQ.st (fun _ _ kz => pw_iload7 dX11_lists_100 kz) ?_
    refine WQ.st (fun _ _ kz => pw_aload0 dX11_lists_102 kz) ?_
    refine WQ.st (fun _ _ kz => pw_getr gX11_96 dX11_lists_103 (cf_s8 hC) (cf_p8_13 hC) kz) ?_
    refine WQ.st (fun _ _ kz => pw_getr gX11_339 dX11_lists_106 (cf_s107 hC) (cf_p107_0 hC) kz) ?_
    refine WQ.st (fun _ _ kz => pw_iload7 dX11_lists_109 kz) ?_
    refine WQ.st (fun _ _ kz => pw_ald (j := k) dX11_lists_111 (cf_s108 hC) (ix_m rfl (by omega)) (by omega) kz) ?_
    rw [hR k (by omega)]
    refine WQ.st (fun _ _ kz => pw_i2l dX11_lists_112 kz) ?_
    refine wq_o2v wX9_put lX11_376 rfl dX11_lists_113 (ty_s0 hTy) (k_put hTy hv hn40 (show k < n by omega) _) rfl (Nat.le_of_ble_eq_true rfl) (Nat.le_of_ble_eq_true rfl) (fun h113 z113 => ?_)
    subst z113
    rw [cut_d (hj k (by omega))]
    refine WQ.st (fun _ _ kz => pw_iinc7 (v := 1) dX11_lists_116 (by decide) (by decide) (k := kz)) ?_
    refine WQ.st (fun _ _ kz => pw_goto (tgt := 91) dX11_lists_119 (by decide) kz) ?_
    rw [nI_1]
    refine ih (k + 1) _ (by omega) (fun x hx => by rw [up2_na (by omega)]; exact h1 x hx) (fun i => ?_)
    rw [show 79 + 2 * tr + 1 = 80 + 2 * tr by omega]
    by_cases e : i = k
    · rw [e, up2_eq, if_pos (by omega)]
    · rw [up2_nk e, h2 i]
      by_cases e2 : i < k
      · rw [if_pos e2, if_pos (by omega)]
      · rw [if_neg e2, if_neg (by omega)]
set_option maxRecDepth 20000 in
theorem q_lists {G : gT} {d : Nat} {S : sS} {V : sV} {P : sP} {A : sV} {B : sB} {Q : sP} {t sl : Nat} {al : Nat → Int32} {W : WT} {sh ls : Nat} (hI : CI S V P A B Q t al W sh ls) (hls : ls + 1000 < 2000000000) (x y z g : Int32) : WQ G (d + 9) mX11_lists 0 [some (.ref 8), some (.int x), some (.int y), some (.int z), some (.int g), none, none, none] [] (t, sl, gh S V P A B Q) (CZ S V P A B Q t sl (sp_li al W x y z g).2 sh ls (.int ((sp_li al W x y z g).1)) al) := by
  unfold CZ
  have hE := hI.de
  have hC := hE.dc.ka.cf
  have hD := hE.dc.ka.dv
  have hSe := hE.dc.ka.se
  have hA := hI.av
  have hp5 := hD.p5
  have hn4 := hD.n4
  refine WQ.st (fun _ _ kz => pw_iload1 dX11_lists_0 kz) ?_
  refine wq_s1i wX11_isTray lX11_232 dX11_lists_1 (k_isTray x) rfl (Nat.le_of_ble_eq_true rfl) (Nat.le_of_ble_eq_true rfl) (fun h1 z1 => ?_)
  subst z1
  refine WQ.br (fun _ _ ka kb => pw_if_eq (tgt := 16) dX11_lists_4 (by decide) ka kb) (fun c4 => ?_) (fun c4 => ?_)
  · rw [bI_0] at c4
    refine WQ.st (fun _ _ kz => pw_ldc kX11_155 dX11_lists_16 kz) ?_
    refine ⟨_, _, pw_iret dX11_lists_18 rfl rfl rfl rfl, ?_⟩
    have c0 : sp_liR al W.2.1 x.toInt y.toInt z.toInt g = -99000002 := by
      unfold sp_liR
      rw [c4, Bool.false_and, if_neg (by decide)]
    have es : sp_li al W x y z g = (-99000002, W) := by
      unfold sp_li
      rw [c0, if_neg (by decide)]
    rw [es]
    exact ⟨rfl, t, sl, ls, S, V, P, A, B, Q, rfl, hI, by omega, FrO.rfl, fun _ _ h => h⟩
  · rw [bI_n] at c4
    have hx := of_decide_eq_true c4
    obtain ⟨tr, rfl, tx, _⟩ := nI_get (x := x) (n := 4) (by omega) (by omega) (by omega)
    have htr : tr < 4 := by omega
    have hTy := cf_ty hC htr
    have tx2 : (nI tr).toInt.toNat = tr := by omega
    refine WQ.st (fun _ _ kz => pw_aload0 dX11_lists_7 kz) ?_
    refine WQ.st (fun _ _ kz => pw_iload2 dX11_lists_8 kz) ?_
    refine WQ.st (fun _ _ kz => pw_iload3 dX11_lists_9 kz) ?_
    refine wq_o2i wX11_hasBoth lX11_262 rfl dX11_lists_10 (cf_s8 hC) (k_hasBoth hI _ _) rfl (Nat.le_of_ble_eq_true rfl) (Nat.le_of_ble_eq_true rfl) (fun h10 z10 => ?_)
    subst z10
    refine WQ.bn (fun _ _ ka kb => pw_if_ne (tgt := 19) dX11_lists_13 (by decide) ka kb) (fun c13 => ?_) (fun c13 => ?_)
    · rw [bI_n] at c13
      have hb2 := (Bool.and_eq_true _ _).mp c13
      have hiq := hb2.2
      have gy := isP_t hb2.1
      obtain ⟨p, rfl, tp, lp⟩ := nI_get gy.1 gy.2 (by omega)
      have hp : p < 5 := by omega
      have gz := isQ_t hb2.2
      obtain ⟨q, rfl, tq, lq⟩ := nI_get gz.1 gz.2 (by omega)
      have hq : q < 4 := by omega
      have hkk : ∀ b w, b < lgN al q → w < 5 → kpM (A 109) b w = kpA b w := fun b w hb hw => ev_kp hE.dc.ev b w (by have := (hD.lgE hq).2; omega) hw
      refine WQ.st (fun _ _ kz => pw_aload0 dX11_lists_19 kz) ?_
      refine WQ.st (fun _ _ kz => pw_getr gX11_58 dX11_lists_20 (cf_s8 hC) (cf_p8_10 hC) kz) ?_
      refine WQ.st (fun _ _ kz => pw_iload1 dX11_lists_23 kz) ?_
      refine WQ.st (fun _ _ kz => pw_qldr (j := tr) dX11_lists_24 (cf_s68 hC) (by decide) (ix_m rfl (by omega)) (by omega) (hI.re.tr.1 tr htr) kz) ?_
      refine WQ.st (fun _ _ kz => pw_astore5 dX11_lists_25 (by decide) (k := kz)) ?_
      refine WQ.st (fun _ _ kz => pw_aload5 dX11_lists_27 kz) ?_
      refine wq_o0i wX9_isMissing lX11_235 rfl dX11_lists_29 (ty_s0 hTy) (k_isMissing hTy) rfl (Nat.le_of_ble_eq_true rfl) (Nat.le_of_ble_eq_true rfl) (fun h29 z29 => ?_)
      subst z29
      refine WQ.br (fun _ _ ka kb => pw_if_eq (tgt := 38) dX11_lists_32 (by decide) ka kb) (fun c32 => ?_) (fun c32 => ?_)
      · rw [bI_0] at c32
        obtain ⟨t1, t2, t3, t4, t5⟩ := tr_ok hI.re.tr htr (of_decide_eq_false c32)
        have tmn : ((W.2.2.1 tr).toInt.toNat : Int) = (W.2.2.1 tr).toInt := by rcases hI.re.tr.2 tr htr with ⟨h, _⟩ | ⟨_, _, _, h, _⟩; exact absurd h t1; omega
        have hnt : sp_nt W.2.1 (nI tr).toInt = 0 := by
          unfold sp_nt
          rw [if_pos (by omega), tx, Int.toNat_natCast, if_neg t1]
        refine WQ.st (fun _ _ kz => pw_iload4 dX11_lists_38 kz) ?_
        refine wq_s1i wX11_isStore lX11_281 dX11_lists_40 (k_isStore _) rfl (Nat.le_of_ble_eq_true rfl) (Nat.le_of_ble_eq_true rfl) (fun h40 z40 => ?_)
        subst z40
        refine WQ.bn (fun _ _ ka kb => pw_if_ne (tgt := 49) dX11_lists_43 (by decide) ka kb) (fun c43 => ?_) (fun c43 => ?_)
        · rw [bI_n] at c43
          refine WQ.st (fun _ _ kz => pw_aload0 dX11_lists_49 kz) ?_
          refine WQ.st (fun _ _ kz => pw_iload2 dX11_lists_50 kz) ?_
          refine WQ.st (fun _ _ kz => pw_iload3 dX11_lists_51 kz) ?_
          refine WQ.st (fun _ _ kz => pw_iload4 dX11_lists_52 kz) ?_
          refine WQ.st (fun _ _ kz => pw_aload0 dX11_lists_54 kz) ?_
          refine WQ.st (fun _ _ kz => pw_getr gX11_96 dX11_lists_55 (cf_s8 hC) (cf_p8_13 hC) kz) ?_
          refine WQ.st (fun _ _ kz => pw_getr gX11_284 dX11_lists_58 (cf_s107 hC) (cf_p107_1 hC) kz) ?_
          refine wq_o4i wX11_findBest lX11_287 rfl dX11_lists_61 (cf_s8 hC) (k_findBest hI (by omega) hp hq hiq (Or.inr rfl) _ hkk) rfl (Nat.le_of_ble_eq_true rfl) (Nat.le_of_ble_eq_true rfl) (fun h61 z61 => ?_)
          obtain ⟨t5, sl5, ls5, S5, V5, P5, A5, B5, Q5, rfl, i5, l5, o5, r5, f5, y3⟩ := z61
          have hC := i5.de.dc.ka.cf
          have hTy := cf_ty hC htr
          have hB : B5 (80 + 2 * tr) = B (80 + 2 * tr) := f5.2.2.1 _ (by omega)
          have hV5 : V5 (79 + 2 * tr) = V (79 + 2 * tr) := f5.2.1 _ (by omega)
          refine WQ.bn (fun _ _ ka kb => pw_if_ne (tgt := 70) dX11_lists_64 (by decide) ka kb) (fun c64 => ?_) (fun c64 => ?_)
          · rw [bI_n] at c64
            refine WQ.st (fun _ _ kz => pw_aload0 dX11_lists_70 kz) ?_
            refine WQ.st (fun _ _ kz => pw_getr gX11_71 dX11_lists_71 (cf_s8 hC) i5.re.p84 kz) ?_
            refine WQ.st (fun _ _ kz => pw_iload3 dX11_lists_74 kz) ?_
            refine wq_o1i wX7_barsOf lX11_179 rfl dX11_lists_75 (sh_s0 i5.de.dc.ka.hsh) (k_barsOf i5.de.dc.ka.hsh i5.de.dc.ka.se hD hq hiq) rfl (Nat.le_of_ble_eq_true rfl) (Nat.le_of_ble_eq_true rfl) (fun h75 z75 => ?_)
            subst z75
            refine WQ.st (fun _ _ kz => pw_aload5 dX11_lists_78 kz) ?_
            refine WQ.st (fun _ _ kz => pw_geti gX11_240 dX11_lists_80 (ty_s0 hTy) kz) ?_
            rw [hV5, t3]
            refine WQ.st (fun _ _ kz => pw_min mmX11_380 dX11_lists_83 (Nat.le_of_ble_eq_true rfl) (by omega) kz) ?_
            rw [show (if nI (W.2.2.1 tr).toInt.toNat < al (10 + q) then nI (W.2.2.1 tr).toInt.toNat else al (10 + q)) = nI (liM al W.2.2.1 tr q) from by
              rw [(hD.lgE hq).1]
              have := (hD.lgE hq).2
              have hlt : nI (W.2.2.1 tr).toInt.toNat < nI (lgN al q) ↔ ((W.2.2.1 tr).toInt.toNat : Int) < (lgN al q : Int) := lt_i (ix_n (by omega)) (ix_n (by omega))
              unfold liM
              by_cases e : lgN al q < (W.2.2.1 tr).toInt.toNat
              · rw [if_pos e, if_neg (fun h => by have := hlt.mp h; omega)]
              · rw [if_neg e]
                by_cases e2 : nI (W.2.2.1 tr).toInt.toNat < nI (lgN al q)
                · rw [if_pos e2]
                · have e3 : ¬ ((W.2.2.1 tr).toInt.toNat : Int) < (lgN al q : Int) := fun h => e2 (hlt.mpr h)
                  rw [if_neg e2, show lgN al q = (W.2.2.1 tr).toInt.toNat by omega]]
            refine WQ.st (fun _ _ kz => pw_istore6 dX11_lists_86 (by decide) (k := kz)) ?_
            refine WQ.st (fun _ _ kz => pw_iconst (v := 0) dX11_lists_88 (by decide) kz) ?_
            refine WQ.st (fun _ _ kz => pw_istore7 dX11_lists_89 (by decide) (k := kz)) ?_
            have hBs : bsT al p q g ≠ -268435456 := of_decide_eq_true c64
            obtain ⟨u1, u2, u3⟩ := y3 hBs
            have hn12 := (hD.lgE hq).2
            have hst := rf_st_ok (hE.kv.stE hp).2 (fun b l s w _ _ _ _ h => TT_in h) hBs
            have c0 : sp_liR al W.2.1 (nI tr).toInt (nI p).toInt (nI q).toInt g = 0 := by
              unfold sp_liR
              rw [c4, c13, Bool.true_and, if_pos (by rfl), if_pos hnt, if_pos c43, tp, tq, Int.toNat_natCast, Int.toNat_natCast, if_neg hBs]
            have hM : liM al W.2.2.1 tr q ≤ (W.2.2.1 tr).toInt.toNat ∧ liM al W.2.2.1 tr q ≤ lgN al q := by unfold liM; split <;> omega
            have es : sp_li al W (nI tr) (nI p) (nI q) g = (nI (liM al W.2.2.1 tr q), W.try W.2.1 W.2.2.1 (nbR W.2.2.2.1 (40 * tr) (fun k => (dI (bsS al p q g (k + 1)).1).toInt64) (liM al W.2.2.1 tr q))) := by
              unfold sp_li
              rw [if_pos c0, tx2, tp, tq, Int.toNat_natCast, Int.toNat_natCast]
            rw [es]
            refine q_listsL hC (M := liM al W.2.2.1 tr q) (n := (W.2.2.1 tr).toInt.toNat) (tr := tr) htr t4 hM.1 (by omega) (by rw [hV5]; exact t3) (j := fun k => (bsS al p q g (k + 1)).1) (fun k hk => (hst (k + 1) (by omega)).1) (fun k hk => by rw [u3 k (by omega), if_pos (by omega)]; rfl) (B0 := B5) (fun B7 h1 h2 => ?_) (liM al W.2.2.1 tr q) 0 B5 (by omega) (fun _ _ => rfl) (fun i => by rw [if_neg (by omega)])
            have hT : TRY V5 B7 Q5 W.2.1 W.2.2.1 (nbR W.2.2.2.1 (40 * tr) (fun k => (dI (bsS al p q g (k + 1)).1).toInt64) (liM al W.2.2.1 tr q)) := by
              refine ⟨i5.re.tr.1, fun k hk => ?_⟩
              rcases i5.re.tr.2 k hk with h | ⟨g1, g2, g3, g4, g5⟩
              · exact Or.inl h
              · refine Or.inr ⟨g1, g2, g3, g4, fun i hi => ?_⟩
                unfold nbR
                by_cases e : k = tr
                · subst e
                  rw [h2 i]
                  by_cases e2 : i < liM al W.2.2.1 k q
                  · rw [if_pos e2, if_pos (by omega), show 40 * k + i - 40 * k = i by omega]
                  · rw [if_neg e2, if_neg (by omega)]
                    exact g5 i hi
                · rw [h1 _ (by omega), if_neg (by omega)]
                  exact g5 i hi
            obtain ⟨q1, q2⟩ := i5.tray (fun _ _ => rfl) (fun x hx => h1 x (by omega)) hT
            refine WQ.st (fun _ _ kz => pw_iload6 dX11_lists_122 kz) ?_
            refine ⟨_, _, pw_iret dX11_lists_124 rfl rfl rfl rfl, ?_⟩
            exact ⟨rfl, t5, sl5, ls5, S5, V5, P5, A5, B7, Q5, rfl, q1, by omega, o5.tr q2, r5⟩
          · rw [bI_0] at c64
            refine WQ.st (fun _ _ kz => pw_ldc kX11_118 dX11_lists_67 kz) ?_
            refine ⟨_, _, pw_iret dX11_lists_69 rfl rfl rfl rfl, ?_⟩
            have hBs : bsT al p q g = -268435456 := Decidable.byContradiction (fun h => of_decide_eq_false c64 h)
            have c0 : sp_liR al W.2.1 (nI tr).toInt (nI p).toInt (nI q).toInt g = -99000005 := by
              unfold sp_liR
              rw [c4, c13, Bool.true_and, if_pos (by rfl), if_pos hnt, if_pos c43, tp, tq, Int.toNat_natCast, Int.toNat_natCast, if_pos hBs]
            have es : sp_li al W (nI tr) (nI p) (nI q) g = (-99000005, W) := by
              unfold sp_li
              rw [c0, if_neg (by decide)]
            rw [es]
            exact ⟨rfl, t5, sl5, ls5, S5, V5, P5, A5, B5, Q5, rfl, i5, by omega, o5, r5⟩
        · rw [bI_0] at c43
          refine WQ.st (fun _ _ kz => pw_ldc kX11_123 dX11_lists_46 kz) ?_
          refine ⟨_, _, pw_iret dX11_lists_48 rfl rfl rfl rfl, ?_⟩
          have c0 : sp_liR al W.2.1 (nI tr).toInt (nI p).toInt (nI q).toInt g = -99000003 := by
            unfold sp_liR
            rw [c4, c13, Bool.true_and, if_pos (by rfl), if_pos hnt, c43, if_neg (by decide)]
          have es : sp_li al W (nI tr) (nI p) (nI q) g = (-99000003, W) := by
            unfold sp_li
            rw [c0, if_neg (by decide)]
          rw [es]
          exact ⟨rfl, t, sl, ls, S, V, P, A, B, Q, rfl, hI, by omega, FrO.rfl, fun _ _ h => h⟩
      · rw [bI_n] at c32
        refine WQ.st (fun _ _ kz => pw_ldc kX11_239 dX11_lists_35 kz) ?_
        refine ⟨_, _, pw_iret dX11_lists_37 rfl rfl rfl rfl, ?_⟩
        have hnt : sp_nt W.2.1 (nI tr).toInt = -99000006 := by
          unfold sp_nt
          rw [if_pos (by omega), tx, Int.toNat_natCast, if_pos (tr_no hI.re.tr htr (of_decide_eq_true c32))]
        have c0 : sp_liR al W.2.1 (nI tr).toInt (nI p).toInt (nI q).toInt g = -99000006 := by
          unfold sp_liR
          rw [c4, c13, Bool.true_and, if_pos (by rfl), hnt, if_neg (by decide)]
        have es : sp_li al W (nI tr) (nI p) (nI q) g = (-99000006, W) := by
          unfold sp_li
          rw [c0, if_neg (by decide)]
        rw [es]
        exact ⟨rfl, t, sl, ls, S, V, P, A, B, Q, rfl, hI, by omega, FrO.rfl, fun _ _ h => h⟩
    · rw [bI_0] at c13
      refine WQ.st (fun _ _ kz => pw_ldc kX11_155 dX11_lists_16 kz) ?_
      refine ⟨_, _, pw_iret dX11_lists_18 rfl rfl rfl rfl, ?_⟩
      have c0 : sp_liR al W.2.1 (nI tr).toInt y.toInt z.toInt g = -99000002 := by
        unfold sp_liR
        rw [c13, Bool.and_false, if_neg (by decide)]
      have es : sp_li al W (nI tr) y z g = (-99000002, W) := by
        unfold sp_li
        rw [c0, if_neg (by decide)]
      rw [es]
      exact ⟨rfl, t, sl, ls, S, V, P, A, B, Q, rfl, hI, by omega, FrO.rfl, fun _ _ h => h⟩
