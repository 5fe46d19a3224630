/-! ===== the class's calls: trays, the tape ===== -/
def nbZ (g : Nat → Int64) (lo n : Nat) : Nat → Int64 := fun i => if lo ≤ i ∧ i < lo + n then 0 else g i
def nbR (g : Nat → Int64) (lo : Nat) (f : Nat → Int64) (n : Nat) : Nat → Int64 := fun i => if lo ≤ i ∧ i < lo + n then f (i - lo) else g i
def WT.try (W : WT) (so mn : Nat → Int32) (nb : Nat → Int64) : WT := (W.1, so, mn, nb, W.2.2.2.2)
def WT.tape (W : WT) (tl : Int32) (tp : Nat → Int32) : WT := (W.1, W.2.1, W.2.2.1, W.2.2.2.1, tl, W.2.2.2.2.2.1, W.2.2.2.2.2.2.1, tp)
def sp_num (W : WT) (x y z : Int32) : Int32 × WT := if (0 ≤ x.toInt ∧ x.toInt ≤ 3) ∧ (0 ≤ y.toInt ∧ y.toInt ≤ 3) then (if 0 ≤ z.toInt ∧ z.toInt ≤ 40 then (0, W.try (pm_up W.2.1 x.toInt.toNat y) (pm_up W.2.2.1 x.toInt.toNat z) (nbZ W.2.2.2.1 (40 * x.toInt.toNat) z.toInt.toNat)) else (-99000003, W)) else (-99000002, W)
def sp_wr (W : WT) (x y : Int32) (v : Int64) : Int64 × WT := if sp_nt W.2.1 x.toInt = 0 then (if 0 ≤ y.toInt ∧ y.toInt < (W.2.2.1 x.toInt.toNat).toInt then (rf_cut v (W.2.1 x.toInt.toNat), W.try W.2.1 W.2.2.1 (pm_up W.2.2.2.1 (40 * x.toInt.toNat + y.toInt.toNat) (rf_cut v (W.2.1 x.toInt.toNat)))) else (-99000007, W)) else ((sp_nt W.2.1 x.toInt).toInt64, W)
def sp_li (al : Nat → Int32) (W : WT) (x y z g : Int32) : Int32 × WT := if sp_liR al W.2.1 x.toInt y.toInt z.toInt g = 0 then (nI (liM al W.2.2.1 x.toInt.toNat z.toInt.toNat), W.try W.2.1 W.2.2.1 (nbR W.2.2.2.1 (40 * x.toInt.toNat) (fun k => (dI (bsS al y.toInt.toNat z.toInt.toNat g (k + 1)).1).toInt64) (liM al W.2.2.1 x.toInt.toNat z.toInt.toNat))) else (sp_liR al W.2.1 x.toInt y.toInt z.toInt g, W)
theorem CI.tray {S : sS} {V : sV} {P : sP} {A : sV} {B : sB} {Q : sP} {t : Nat} {V' : sV} {B' : sB} {al so' mn' : Nat → Int32} {nb' : Nat → Int64} {W : WT} {sh ls : Nat} (hI : CI S V P A B Q t al W sh ls) (hV : ∀ x, x < 79 ∨ 87 ≤ x → V' x = V x) (hB : ∀ x, x < 79 ∨ 87 ≤ x → B' x = B x) (hT : TRY V' B' Q so' mn' nb') : CI S V' P A B' Q t al (W.try so' mn' nb') sh ls ∧ FrO S V P A B t S V' P A B' t := by
  have hE := hI.de
  have h3 := hI.re.ss.2.2.1
  refine ⟨⟨⟨hE.dc.fr ⟨fun x hx => hV x (by omega), fun _ _ => rfl, fun x hx => hB x (by omega)⟩ rfl, hE.kv, hE.se.fr (hV 16 (by omega)) (fun _ _ _ => rfl), hE.a2⟩, hI.av, hI.re.hi.fr (fun x _ _ => hV x (by omega)) (fun _ _ _ => rfl) rfl, hI.re.ss, ⟨hI.re.im.1, fun i hi => ?_⟩, hT, ?_, hI.re.oq⟩, Nat.le_refl _, fun _ _ => rfl, fun x h1 h2 => ⟨hV x (by omega), rfl, rfl, hB x (by omega)⟩⟩
  · rcases hI.re.im.2 i hi with g | ⟨g0, u, g1, ⟨j, hj, g2⟩, g3, g4, g5, g6⟩
    · exact Or.inl g
    · obtain ⟨_, u2, u3⟩ := h3 j u hj g2
      exact Or.inr ⟨g0, u, g1, ⟨j, hj, g2⟩, g3.fr (fun x _ _ => hV x (by omega)) (fun _ _ _ => rfl), g4, g5.fr (hV _ (by omega)) (fun _ _ _ => rfl), g6⟩
  · have h := hI.re.tp
    unfold TPE at h ⊢
    rw [hV 8 (by omega), hV 10 (by omega)]
    exact h
theorem CI.tape {S : sS} {V : sV} {P : sP} {A : sV} {B : sB} {Q : sP} {t : Nat} {V' A' : sV} {al tp' : Nat → Int32} {tl' : Int32} {W : WT} {sh ls : Nat} (hI : CI S V P A B Q t al W sh ls) (hV : ∀ x, x ≠ 8 → V' x = V x) (hA : ∀ x, x ≠ 9 → A' x = A x) (h1 : V' 8 1 = tl') (h2 : 0 ≤ tl'.toInt ∧ tl'.toInt ≤ 900) (h3 : ∀ i : Nat, (i : Int) < tl'.toInt → A' 9 i = tp' i) : CI S V' P A' B Q t al (W.tape tl' tp') sh ls ∧ FrO S V P A B t S V' P A' B t := by
  have hE := hI.de
  have h4 := hI.re.ss.2.2.1
  refine ⟨⟨⟨hE.dc.fr ⟨fun x hx => hV x (by omega), fun x hx => hA x (by omega), fun _ _ => rfl⟩ (hA 109 (by omega)), hE.kv, hE.se.fr (hV 16 (by omega)) (fun x _ _ => hA x (by omega)), hE.a2⟩, hI.av, hI.re.hi.fr (fun x _ _ => hV x (by omega)) (fun x _ _ => hA x (by omega)) rfl, hI.re.ss, ⟨hI.re.im.1, fun i hi => ?_⟩, ⟨hI.re.tr.1, fun k hk => ?_⟩, ⟨h1, ?_, ?_, h2, h3⟩, hI.re.oq⟩, Nat.le_refl _, fun _ _ => rfl, fun x h1 h2 => ⟨hV x (by omega), rfl, hA x (by omega), rfl⟩⟩
  · rcases hI.re.im.2 i hi with g | ⟨g0, u, g1, ⟨j, hj, g2⟩, g3, g4, g5, g6⟩
    · exact Or.inl g
    · obtain ⟨_, u2, u3⟩ := h4 j u hj g2
      exact Or.inr ⟨g0, u, g1, ⟨j, hj, g2⟩, g3.fr (fun x _ _ => hV x (by omega)) (fun x _ _ => hA x (by omega)), g4, g5.fr (hV _ (by omega)) (fun x _ _ => hA x (by omega)), g6⟩
  · rw [hV _ (by omega)]
    exact hI.re.tr.2 k hk
  · rw [hV 10 (by omega)]; exact hI.re.tp.2.1
  · rw [hV 10 (by omega)]; exact hI.re.tp.2.2.1
theorem cut_d {j : Nat} (hj : j < 5) (s : Int32) : rf_cut (dI j).toInt64 s = (dI j).toInt64 := by
  have k1 : ∀ j : Fin 5, (dI j.1).toInt64.toInt32.toInt8.toInt32.toInt64 = (dI j.1).toInt64 := by decide
  have k2 : ∀ j : Fin 5, (dI j.1).toInt64.toInt32.toInt16.toInt32.toInt64 = (dI j.1).toInt64 := by decide
  have k3 : ∀ j : Fin 5, (dI j.1).toInt64.toInt32.toInt64 = (dI j.1).toInt64 := by decide
  unfold rf_cut
  split
  · exact k1 ⟨j, hj⟩
  · split
    · exact k2 ⟨j, hj⟩
    · split
      · exact k3 ⟨j, hj⟩
      · rfl
set_option maxRecDepth 20000 in
theorem q_numbers {G : gT} {d : Nat} {S : sS} {V : sV} {P : sP} {A : sV} {B : sB} {Q : sP} {t sl : Nat} {al : Nat → Int32} {W : WT} {sh ls : Nat} (hI : CI S V P A B Q t al W sh ls) (hls : ls + 1000 < 2000000000) (x y z : Int32) : WQ G (d + 9) mX11_numbers 0 [some (.ref 8), some (.int x), some (.int y), some (.int z)] [] (t, sl, gh S V P A B Q) (CZ S V P A B Q t sl (sp_num W x y z).2 sh ls (.int ((sp_num W x y z).1)) al) := by
  unfold CZ
  have hE := hI.de
  have hC := hE.dc.ka.cf
  have hD := hE.dc.ka.dv
  have hSe := hE.dc.ka.se
  have hA := hI.av
  have hp5 := hD.p5
  have hn4 := hD.n4
  refine WQ.st (fun _ _ kz => pw_iload1 dX11_numbers_0 kz) ?_
  refine wq_s1i wX11_isTray lX11_232 dX11_numbers_1 (k_isTray x) rfl (Nat.le_of_ble_eq_true rfl) (Nat.le_of_ble_eq_true rfl) (fun h1 z1 => ?_)
  subst z1
  refine WQ.br (fun _ _ ka kb => pw_if_eq (tgt := 16) dX11_numbers_4 (by decide) ka kb) (fun c4 => ?_) (fun c4 => ?_)
  · rw [bI_0] at c4
    refine WQ.st (fun _ _ kz => pw_ldc kX11_155 dX11_numbers_16 kz) ?_
    refine ⟨_, _, pw_iret dX11_numbers_18 rfl rfl rfl rfl, ?_⟩
    have es : sp_num W x y z = (-99000002, W) := by
      unfold sp_num
      rw [if_neg (fun h => of_decide_eq_false c4 h.1)]
    rw [es]
    exact ⟨rfl, t, sl, ls, S, V, P, A, B, Q, rfl, hI, by omega, FrO.rfl, fun _ _ h => h⟩
  · rw [bI_n] at c4
    refine WQ.st (fun _ _ kz => pw_iload2 dX11_numbers_7 kz) ?_
    refine WQ.br (fun _ _ ka kb => pw_if_lt (tgt := 16) dX11_numbers_8 (by decide) ka kb) (fun c8 => ?_) (fun c8 => ?_)
    · rw [lt_i rfl li_0] at c8
      refine WQ.st (fun _ _ kz => pw_ldc kX11_155 dX11_numbers_16 kz) ?_
      refine ⟨_, _, pw_iret dX11_numbers_18 rfl rfl rfl rfl, ?_⟩
      have es : sp_num W x y z = (-99000002, W) := by
        unfold sp_num
        rw [if_neg (by omega)]
      rw [es]
      exact ⟨rfl, t, sl, ls, S, V, P, A, B, Q, rfl, hI, by omega, FrO.rfl, fun _ _ h => h⟩
    · rw [lt_i rfl li_0] at c8
      refine WQ.st (fun _ _ kz => pw_iload2 dX11_numbers_11 kz) ?_
      refine WQ.st (fun _ _ kz => pw_iconst (v := 4) dX11_numbers_12 (by decide) kz) ?_
      refine WQ.br (fun _ _ ka kb => pw_icmp_lt (tgt := 19) dX11_numbers_13 (by decide) ka kb) (fun c13 => ?_) (fun c13 => ?_)
      · rw [lt_i rfl li_4] at c13
        have hx := of_decide_eq_true c4
        obtain ⟨tr, rfl, tx, _⟩ := nI_get (x := x) (n := 4) (by omega) (by omega) (by omega)
        have htr : tr < 4 := by omega
        have hTy := cf_ty hC htr
        have tx2 : (nI tr).toInt.toNat = tr := by omega
        refine WQ.st (fun _ _ kz => pw_iload3 dX11_numbers_19 kz) ?_
        refine WQ.br (fun _ _ ka kb => pw_if_lt (tgt := 29) dX11_numbers_20 (by decide) ka kb) (fun c20 => ?_) (fun c20 => ?_)
        · rw [lt_i rfl li_0] at c20
          refine WQ.st (fun _ _ kz => pw_ldc kX11_123 dX11_numbers_29 kz) ?_
          refine ⟨_, _, pw_iret dX11_numbers_31 rfl rfl rfl rfl, ?_⟩
          have es : sp_num W (nI tr) y z = (-99000003, W) := by
            unfold sp_num
            rw [if_pos (by omega), if_neg (by omega)]
          rw [es]
          exact ⟨rfl, t, sl, ls, S, V, P, A, B, Q, rfl, hI, by omega, FrO.rfl, fun _ _ h => h⟩
        · rw [lt_i rfl li_0] at c20
          refine WQ.st (fun _ _ kz => pw_iload3 dX11_numbers_23 kz) ?_
          refine WQ.st (fun _ _ kz => pw_bipush (v := 40) dX11_numbers_24 (by decide) kz) ?_
          refine WQ.br (fun _ _ ka kb => pw_icmp_le (tgt := 32) dX11_numbers_26 (by decide) ka kb) (fun c26 => ?_) (fun c26 => ?_)
          · rw [le_i rfl li_40] at c26
            obtain ⟨n, rfl, tn, _⟩ := nI_get (x := z) (n := 41) (by omega) (by omega) (by omega)
            refine WQ.st (fun _ _ kz => pw_aload0 dX11_numbers_32 kz) ?_
            refine WQ.st (fun _ _ kz => pw_getr gX11_58 dX11_numbers_33 (cf_s8 hC) (cf_p8_10 hC) kz) ?_
            refine WQ.st (fun _ _ kz => pw_iload1 dX11_numbers_36 kz) ?_
            refine WQ.st (fun _ _ kz => pw_qldr (j := tr) dX11_numbers_37 (cf_s68 hC) (by decide) (ix_m rfl (by omega)) (by omega) (hI.re.tr.1 tr htr) kz) ?_
            refine WQ.st (fun _ _ kz => pw_iload2 dX11_numbers_38 kz) ?_
            refine WQ.st (fun _ _ kz => pw_iload3 dX11_numbers_39 kz) ?_
            refine wq_o2v wX9_begin lX11_370 rfl dX11_numbers_40 (ty_s0 hTy) (k_tbegin hTy _ (show n ≤ 40 by omega)) rfl (Nat.le_of_ble_eq_true rfl) (Nat.le_of_ble_eq_true rfl) (fun h40 z40 => ?_)
            subst z40
            refine WQ.st (fun _ _ kz => pw_iconst (v := 0) dX11_numbers_43 (by decide) kz) ?_
            refine ⟨_, _, pw_iret dX11_numbers_44 rfl rfl rfl rfl, ?_⟩
            have es : sp_num W (nI tr) y (nI n) = (0, W.try (pm_up W.2.1 tr y) (pm_up W.2.2.1 tr (nI n)) (nbZ W.2.2.2.1 (40 * tr) n)) := by
              unfold sp_num
              rw [if_pos (by omega), if_pos (by omega), tx2, tn, Int.toNat_natCast]
            rw [es]
            have a1 : 79 + 2 * tr + 1 = 80 + 2 * tr := by omega
            have yn : y ≠ -1 := fun h => by rw [eq_i rfl (show (-1 : Int32).toInt = -1 from rfl)] at h; omega
            have hT : TRY (up2 (up2 V (79 + 2 * tr) 1 y) (79 + 2 * tr) 0 (nI n)) (pm_up B (79 + 2 * tr + 1) (fillF 0 40 (B (79 + 2 * tr + 1)))) Q (pm_up W.2.1 tr y) (pm_up W.2.2.1 tr (nI n)) (nbZ W.2.2.2.1 (40 * tr) n) := by
              refine ⟨hI.re.tr.1, fun k hk => ?_⟩
              by_cases e : k = tr
              · subst e
                refine Or.inr ⟨by rw [pm_up_eq]; exact yn, by rw [up2_nk (by omega), up2_eq, pm_up_eq], by rw [up2_eq, pm_up_eq], by rw [pm_up_eq]; omega, fun i hi => ?_⟩
                rw [pm_up_eq, tn] at hi
                rw [a1, pm_up_eq, fillF_i (by omega)]
                unfold nbZ
                rw [if_pos (by omega)]
              · rw [pm_up_ne e, pm_up_ne e, up2_na (by omega), up2_na (by omega)]
                rcases hI.re.tr.2 k hk with h | ⟨h1, h2, h3, h4, h5⟩
                · exact Or.inl h
                · refine Or.inr ⟨h1, h2, h3, h4, fun i hi => ?_⟩
                  rw [pm_up_ne (by omega), h5 i hi]
                  unfold nbZ
                  rw [if_neg (by omega)]
            obtain ⟨q1, q2⟩ := hI.tray (fun x hx => by rw [up2_na (by omega), up2_na (by omega)]) (fun x hx => pm_up_ne (by omega)) hT
            exact ⟨rfl, t, sl, ls, S, _, P, A, _, Q, rfl, q1, by omega, q2, fun _ _ h => h⟩
          · rw [le_i rfl li_40] at c26
            refine WQ.st (fun _ _ kz => pw_ldc kX11_123 dX11_numbers_29 kz) ?_
            refine ⟨_, _, pw_iret dX11_numbers_31 rfl rfl rfl rfl, ?_⟩
            have es : sp_num W (nI tr) y z = (-99000003, W) := by
              unfold sp_num
              rw [if_pos (by omega), if_neg (by omega)]
            rw [es]
            exact ⟨rfl, t, sl, ls, S, V, P, A, B, Q, rfl, hI, by omega, FrO.rfl, fun _ _ h => h⟩
      · rw [lt_i rfl li_4] at c13
        refine WQ.st (fun _ _ kz => pw_ldc kX11_155 dX11_numbers_16 kz) ?_
        refine ⟨_, _, pw_iret dX11_numbers_18 rfl rfl rfl rfl, ?_⟩
        have es : sp_num W x y z = (-99000002, W) := by
          unfold sp_num
          rw [if_neg (by omega)]
        rw [es]
        exact ⟨rfl, t, sl, ls, S, V, P, A, B, Q, rfl, hI, by omega, FrO.rfl, fun _ _ h => h⟩
