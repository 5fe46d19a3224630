set_option maxRecDepth 20000 in
theorem k_useSheetB {G : gT} {d : Nat} {S : sS} {V : sV} {P : sP} {A : sV} {B : sB} {Q : sP} {t sl : Nat} (hC : CF S P) {u : Nat} (hU : SH S P u) (hu : u = 87 ∨ 161 ≤ u) {al : Nat → Int32} (hE : ShE V A u al) {ls : Nat} (hW : BarW S V B Q t ls) : WQ G (d + 2) mX0_useSheet 0 [some (.ref 96), some (.ref u)] [] (t, sl, gh S V P A B Q) (fun r h' => r = none ∧ ∃ (V' : sV) (P' : sP) (A' : sV), h' = (t, sl, gh S V' P' A' B Q) ∧ BarI S V' P' A' B Q t al u ls ∧ (∀ x, x ≠ 96 → V' x = V x) ∧ (∀ x, x ≠ 96 → P' x = P x) ∧ (∀ x, x ≠ 100 → A' x = A x) ∧ CF S P' ∧ ∀ q, q < 4 → A' 100 q = -1) := by
  have hC2 : CF S (up2 P 96 2 (some u)) := hC.up (by decide)
  have hU2 : SH S (up2 P 96 2 (some u)) u := hU.up (fun x a1 a2 => up2_na (by omega))
  refine WQ.st (fun _ _ kz => pw_aload0 dX0_useSheet_0 kz) ?_
  refine WQ.st (fun _ _ kz => pw_aload1 dX0_useSheet_1 kz) ?_
  refine WQ.st (fun _ _ kz => pw_putr (pX0_63 _ rfl) dX0_useSheet_2 (cf_s96 hC) kz) ?_
  refine WQ.st (fun _ _ kz => pw_aload0 dX0_useSheet_5 kz) ?_
  refine WQ.st (fun _ _ kz => pw_iconst (v := 0) dX0_useSheet_6 (by decide) kz) ?_
  refine WQ.st (fun _ _ kz => pw_puti (pX0_9 _ rfl) dX0_useSheet_7 (cf_s96 hC2) rfl rfl kz) ?_
  refine WQ.st (fun _ _ kz => pw_aload0 dX0_useSheet_10 kz) ?_
  refine WQ.st (fun _ _ kz => pw_aload0 dX0_useSheet_11 kz) ?_
  refine WQ.st (fun _ _ kz => pw_bipush (v := 6) dX0_useSheet_12 (by decide) kz) ?_
  refine wq_o1i wX0_asksFor lX0_73 rfl dX0_useSheet_14 (cf_s96 hC2) (k_barsAsk hC2 hU2 up2_eq (al := al) (hE.fr (fun x a1 a2 => by simp (disch := omega) only [up2_na]) (fun _ _ _ => rfl)) (w := 6) (by decide)) rfl (Nat.le_of_ble_eq_true rfl) (Nat.le_of_ble_eq_true rfl) (fun h14 z14 => ?_)
  subst z14
  refine WQ.st (fun _ _ kz => pw_puti (pX0_15 _ rfl) dX0_useSheet_17 (cf_s96 hC2) (bI_nar _) (bI_fit _) kz) ?_
  refine WQ.st (fun _ _ kz => pw_aload0 dX0_useSheet_20 kz) ?_
  refine WQ.st (fun _ _ kz => pw_aload0 dX0_useSheet_21 kz) ?_
  refine WQ.st (fun _ _ kz => pw_bipush (v := 7) dX0_useSheet_22 (by decide) kz) ?_
  refine wq_o1i wX0_asksFor lX0_73 rfl dX0_useSheet_24 (cf_s96 hC2) (k_barsAsk hC2 hU2 up2_eq (al := al) (hE.fr (fun x a1 a2 => by simp (disch := omega) only [up2_na]) (fun _ _ _ => rfl)) (w := 7) (by decide)) rfl (Nat.le_of_ble_eq_true rfl) (Nat.le_of_ble_eq_true rfl) (fun h24 z24 => ?_)
  subst z24
  refine WQ.st (fun _ _ kz => pw_puti (pX0_19 _ rfl) dX0_useSheet_27 (cf_s96 hC2) (bI_nar _) (bI_fit _) kz) ?_
  refine WQ.st (fun _ _ kz => pw_aload0 dX0_useSheet_30 kz) ?_
  refine WQ.st (fun _ _ kz => pw_aload0 dX0_useSheet_31 kz) ?_
  refine WQ.st (fun _ _ kz => pw_iconst (v := 0) dX0_useSheet_32 (by decide) kz) ?_
  refine wq_o1i wX0_asksFor lX0_73 rfl dX0_useSheet_33 (cf_s96 hC2) (k_barsAsk hC2 hU2 up2_eq (al := al) (hE.fr (fun x a1 a2 => by simp (disch := omega) only [up2_na]) (fun _ _ _ => rfl)) (w := 0) (by decide)) rfl (Nat.le_of_ble_eq_true rfl) (Nat.le_of_ble_eq_true rfl) (fun h33 z33 => ?_)
  subst z33
  refine WQ.st (fun _ _ kz => pw_puti (pX0_22 _ rfl) dX0_useSheet_36 (cf_s96 hC2) (bI_nar _) (bI_fit _) kz) ?_
  refine WQ.st (fun _ _ kz => pw_aload0 dX0_useSheet_39 kz) ?_
  refine WQ.st (fun _ _ kz => pw_aload0 dX0_useSheet_40 kz) ?_
  refine WQ.st (fun _ _ kz => pw_iconst (v := 1) dX0_useSheet_41 (by decide) kz) ?_
  refine wq_o1i wX0_asksFor lX0_73 rfl dX0_useSheet_42 (cf_s96 hC2) (k_barsAsk hC2 hU2 up2_eq (al := al) (hE.fr (fun x a1 a2 => by simp (disch := omega) only [up2_na]) (fun _ _ _ => rfl)) (w := 1) (by decide)) rfl (Nat.le_of_ble_eq_true rfl) (Nat.le_of_ble_eq_true rfl) (fun h42 z42 => ?_)
  subst z42
  refine WQ.st (fun _ _ kz => pw_puti (pX0_25 _ rfl) dX0_useSheet_45 (cf_s96 hC2) (bI_nar _) (bI_fit _) kz) ?_
  refine WQ.st (fun _ _ kz => pw_aload0 dX0_useSheet_48 kz) ?_
  refine WQ.st (fun _ _ kz => pw_getr gX0_48 dX0_useSheet_49 (cf_s96 hC2) (cf_p96_10 hC2) kz) ?_
  refine WQ.st (fun _ _ kz => pw_iconst (v := -1) dX0_useSheet_52 (by decide) kz) ?_
  refine WQ.st (fun _ _ kz => pw_s2v wJ7_fill_53178 lX0_67 dX0_useSheet_53 (c_filli (cf_s100 hC2) (by omega) _) rfl (Nat.le_of_ble_eq_true rfl) (Nat.le_of_ble_eq_true rfl) kz) ?_
  refine ⟨_, _, pw_vret dX0_useSheet_56 rfl rfl rfl, ?_⟩
  refine ⟨rfl, _, _, _, rfl, ⟨by rw [up2_eq], ?_, ?_, ?_, ?_, ?_, fun q hq => ⟨hW.2.1 q hq, fun hn => absurd ?_ hn⟩, hW.2.2⟩, fun x hx => by simp only [up2_na hx], fun x hx => up2_na hx, fun x hx => pm_up_ne hx, hC.up (by decide), fun q hq => ?_⟩
  · rw [up2_nk (by decide), up2_nk (by decide), up2_nk (by decide), up2_eq]
  · rw [up2_nk (by decide), up2_nk (by decide), up2_eq]
  · rw [up2_nk (by decide), up2_eq]
  · rw [up2_eq]
  · rw [up2_nk (by decide), up2_nk (by decide), up2_nk (by decide), up2_nk (by decide), up2_nk (by decide)]
    exact hW.1
  · rw [pm_up_eq, fillF_i hq]
  · rw [pm_up_eq, fillF_i hq]
set_option maxRecDepth 20000 in
theorem k_useSB {G : gT} {d : Nat} {S : sS} {V : sV} {P : sP} {A : sV} {B : sB} {Q : sP} {t sl : Nat} (hC : CF S P) {u : Nat} (hU : SH S P u) (hu : u = 87 ∨ 161 ≤ u) {al' : Nat → Int32} (hE : ShE V A u al') {ls : Nat} (hW : BarW S V B Q t ls) : WQ G (d + 3) mX11_useSheet 0 [some (.ref 8), some (.ref u)] [] (t, sl, gh S V P A B Q) (fun r h' => r = none ∧ ∃ (V' : sV) (P' : sP) (A' : sV), h' = (t, sl, gh S V' P' A' B Q) ∧ BarI S V' P' A' B Q t al' u ls ∧ (∀ x, x ≠ 96 → V' x = V x) ∧ P' 8 4 = some u ∧ (∀ k, k ≠ 4 → P' 8 k = P 8 k) ∧ (∀ x, x ≠ 8 → x ≠ 96 → P' x = P x) ∧ (∀ x, x ≠ 100 → A' x = A x) ∧ CF S P' ∧ ∀ q, q < 4 → A' 100 q = -1) := by
  refine WQ.st (fun _ _ kz => pw_aload0 dX11_useSheet_0 kz) ?_
  refine WQ.st (fun _ _ kz => pw_aload1 dX11_useSheet_1 kz) ?_
  refine WQ.st (fun _ _ kz => pw_putr (pX11_71 _ rfl) dX11_useSheet_2 (cf_s8 hC) kz) ?_
  have hC : CF S (up2 P 8 4 (some u)) := hC.up (by decide)
  have hU2 : SH S (up2 P 8 4 (some u)) u := hU.up (fun x a1 a2 => up2_na (by omega))
  refine WQ.st (fun _ _ kz => pw_aload0 dX11_useSheet_5 kz) ?_
  refine WQ.st (fun _ _ kz => pw_getr gX11_80 dX11_useSheet_6 (cf_s8 hC) (cf_p8_11 hC) kz) ?_
  refine WQ.st (fun _ _ kz => pw_aload1 dX11_useSheet_9 kz) ?_
  refine wq_o1v wX0_useSheet lX11_392 rfl dX11_useSheet_10 (cf_s96 hC) (k_useSheetB hC hU2 hu hE hW) rfl (Nat.le_of_ble_eq_true rfl) (Nat.le_of_ble_eq_true rfl) (fun h10 z10 => ?_)
  obtain ⟨V2, P2, A2, rfl, z1, z2, z3, z4, z5, z6⟩ := z10
  refine ⟨_, _, pw_vret dX11_useSheet_13 rfl rfl rfl, ?_⟩
  exact ⟨rfl, V2, P2, A2, rfl, z1, z2, by rw [z3 8 (by omega)]; exact up2_eq, fun k hk => by rw [z3 8 (by omega)]; exact up2_nk hk, fun x h1 h2 => by rw [z3 x h2]; exact up2_na h1, z4, z5, z6⟩
theorem ShE.askE {V A : sV} {u : Nat} {al al' : Nat → Int32} (h : ShE V A u al) (h' : ShE V A u al') {w : Nat} (hw : w < 8) : asks al' w = asks al w := by
  unfold asks
  rw [← h.2.2.2.2.2.2.1.2.2.2 w hw, ← h.2.2.2.2.2.2.2.2.2.2 w hw, ← h'.2.2.2.2.2.2.1.2.2.2 w hw, ← h'.2.2.2.2.2.2.2.2.2.2 w hw]
theorem BarI.fresh {S : sS} {V : sV} {P : sP} {A : sV} {B : sB} {Q : sP} {t : Nat} {al al' : Nat → Int32} {u ls : Nat} {V0 A0 : sV} (h : BarI S V P A B Q t al u ls) (hk : ∀ q, q < 4 → A 100 q = -1) (hE : ShE V0 A0 u al) (hE' : ShE V0 A0 u al') : BarI S V P A B Q t al' u ls := by
  obtain ⟨h1, h2, h3, h4, h5, h6, h7, h8⟩ := h
  refine ⟨h1, by rw [hE.askE hE' (by omega)]; exact h2, by rw [hE.askE hE' (by omega)]; exact h3, by rw [hE.askE hE' (by omega)]; exact h4, by rw [hE.askE hE' (by omega)]; exact h5, h6, fun q hq => ⟨(h7 q hq).1, fun hn => absurd (hk q hq) hn⟩, h8⟩
set_option maxRecDepth 20000 in
theorem q_desk {G : gT} {sl : Nat} {S : sS} {V : sV} {P : sP} {A : sV} {B : sB} {Q : sP} {t : Nat} {al : Nat → Int32} {W : WT} {sh ls : Nat} (hI : CI S V P A B Q t al W sh ls) (hls : ls + 1000 < 2000000000) {m : Nat} (hm : W.2.2.2.2.1 = nI m) (hm9 : m ≤ 900) (n : Int32) {x : Nat → Int32} (hx : ∀ i, i < m → W.2.2.2.2.2.2.2 i &&& 255 = x i) {T : Nat} (hT : TK x n.toInt.toNat T = 24) (hT2 : ∀ j, j < T → TK x n.toInt.toNat j ≠ 24) (hTL : T ≤ n.toInt.toNat) {D : Nat} (hD : 130 ≤ D) : WQ G D mX11_desk 0 [some (.ref 8), some (.int n), none, none] [] (t, sl, gh S V P A B Q) (fun r h' => (¬ (0 ≤ n.toInt ∧ n.toInt ≤ (m : Int)) ∧ CZ S V P A B Q t sl W sh ls (.int (-99000003)) al r h') ∨ ((0 ≤ n.toInt ∧ n.toInt ≤ (m : Int)) ∧ match rdF (TK x n.toInt.toNat) (TV x n.toInt.toNat) (TPl x n.toInt.toNat) T with | .error e => CZ9 S V P A B Q t sl (W0 W e.1 (nI e.2)) sh ls (.int (-99000030 - e.1)) al r h' | .ok s => CZ8 S V P A B Q t sl (W0 W 0 (-1)) ls (.int (s.2.1 0)) (AlM s.2.1 s.2.2 al) r h')) := by
  have hC := hI.de.dc.ka.cf
  have htl : V 8 1 = nI m := by rw [← hm]; exact hI.re.tp.1
  obtain ⟨D, rfl⟩ : ∃ D', D = D' + 1 := ⟨D - 1, by omega⟩
  refine WQ.st (fun _ _ kz => pw_iload1 dX11_desk_0 kz) ?_
  refine WQ.br (fun _ _ ka kb => pw_if_lt (tgt := 12) dX11_desk_1 (by decide) ka kb) (fun c1 => ?_) (fun c1 => ?_)
  · rw [lt_i rfl li_0] at c1
    refine WQ.st (fun _ _ kz => pw_ldc kX11_123 dX11_desk_12 kz) ?_
    refine ⟨_, _, pw_iret dX11_desk_14 rfl rfl rfl rfl, ?_⟩
    exact Or.inl ⟨by omega, rfl, t, sl, ls, S, V, P, A, B, Q, rfl, hI, by omega, FrO.rfl, fun _ _ h => h⟩
  · rw [lt_i rfl li_0] at c1
    refine WQ.st (fun _ _ kz => pw_iload1 dX11_desk_4 kz) ?_
    refine WQ.st (fun _ _ kz => pw_aload0 dX11_desk_5 kz) ?_
    refine WQ.st (fun _ _ kz => pw_geti gX11_15 dX11_desk_6 (cf_s8 hC) kz) ?_
    rw [htl]
    refine WQ.br (fun _ _ ka kb => pw_icmp_le (tgt := 15) dX11_desk_9 (by decide) ka kb) (fun c9 => ?_) (fun c9 => ?_)
    · rw [le_i rfl (ix_n (by omega))] at c9
      have hn : 0 ≤ n.toInt ∧ n.toInt ≤ (m : Int) := ⟨by omega, c9⟩
      have hnL := nI_ofI hn.1
      refine WQ.st (fun _ _ kz => pw_aload0 dX11_desk_15 kz) ?_
      obtain ⟨r0, h0, pw0, u, rfl, t1, sl1, S1, V1, P1, A1, Q1, rfl, hI1, hj1, u1, u2, u3, fo, ⟨v8, a9⟩, rm⟩ := (k_spare (G := G) (sl := sl) (d := 0) hI).mn (by omega : 4 ≤ D)
      refine wq_o0i wX11_spareSheet lX11_124 rfl dX11_desk_16 (cf_s8 hC) (show WQ G D mX11_spareSheet 0 [some (.ref 8), none, none] [] _ (fun r h1 => r = some (.ref u) ∧ h1 = _) from ⟨_, _, pw0, rfl, rfl⟩) rfl (Nat.le_of_ble_eq_true rfl) (Nat.le_of_ble_eq_true rfl) (fun h16 z16 => ?_)
      subst z16
      have hC1 := hI1.de.dc.ka.cf
      have hC := hC1
      have ⟨j1, hj4, hju⟩ := hj1
      have ⟨hU1, hua, hut⟩ := hI1.re.ss.2.2.1 j1 u hj4 hju
      have hX : ∀ i, i < n.toInt.toNat → A1 9 i &&& 255 = x i := fun i hi => by
        have h5 := hI.re.tp.2.2.2.2 i (by rw [hm, ix_n (by omega)]; omega)
        rw [a9, h5]; exact hx i (by omega)
      refine WQ.st (fun _ _ kz => pw_astore2 dX11_desk_19 (by decide) (k := kz)) ?_
      refine WQ.st (fun _ _ kz => pw_aload0 dX11_desk_20 kz) ?_
      refine WQ.st (fun _ _ kz => pw_getr gX11_22 dX11_desk_21 (cf_s8 hC) (cf_p8_2 hC) kz) ?_
      refine WQ.st (fun _ _ kz => pw_aload0 dX11_desk_24 kz) ?_
      refine WQ.st (fun _ _ kz => pw_getr gX11_11 dX11_desk_25 (cf_s8 hC) (cf_p8_0 hC) kz) ?_
      refine WQ.st (fun _ _ kz => pw_iload1 dX11_desk_28 kz) ?_
      refine WQ.st (fun _ _ kz => pw_aload2 dX11_desk_29 kz) ?_
      have kr := k_read (G := G) (V := V1) (B := B) (Q := Q1) (t := t1) (sl := sl1) hC1 hU1 (by omega) (x := x) (L := n.toInt.toNat) (T := T) (by omega) hX hT hT2 (by omega) (D := D) (by omega)
      rw [← hnL] at kr
      refine wq_o3i wX6_read lX11_128 rfl dX11_desk_30 (cf_s10 hC) (kr) rfl (Nat.le_of_ble_eq_true rfl) (Nat.le_of_ble_eq_true rfl) (fun h30 z30 => ?_)
      obtain ⟨V2, A2, P2, rfl, z2, f2⟩ := z30
      refine WQ.st (fun _ _ kz => pw_istore3 dX11_desk_33 (by decide) (k := kz)) ?_
      have hC := hC1.p10 f2.2.2.1 f2.2.2.2
      have hU := hU1.p10 (by omega) f2.2.2.1
      cases hr : rdF (TK x n.toInt.toNat) (TV x n.toInt.toNat) (TPl x n.toInt.toNat) T with
      | error e =>
        rw [hr] at z2
        have z2 : KE e V2 := z2
        have hk0 := z2.1
        have hk1 : V2 10 1 = nI e.2 := z2.2
        refine WQ.st (fun _ _ kz => pw_aload0 dX11_desk_34 kz) ?_
        refine WQ.st (fun _ _ kz => pw_iconst (v := 0) dX11_desk_35 (by decide) kz) ?_
        refine WQ.st (fun _ _ kz => pw_puti (pX11_15 _ rfl) dX11_desk_36 (cf_s8 hC) rfl rfl kz) ?_
        refine WQ.st (fun _ _ kz => pw_iload3 dX11_desk_39 kz) ?_
        refine WQ.bn (fun _ _ ka kb => pw_if_ne (tgt := 54) dX11_desk_40 (by decide) ka kb) (fun c40 => absurd okL_e c40) (fun c40 => ?_)
        refine WQ.st (fun _ _ kz => pw_ldc kX11_132 dX11_desk_43 kz) ?_
        refine WQ.st (fun _ _ kz => pw_aload0 dX11_desk_45 kz) ?_
        refine WQ.st (fun _ _ kz => pw_getr gX11_22 dX11_desk_46 (cf_s8 hC) (cf_p8_2 hC) kz) ?_
        refine WQ.st (fun _ _ kz => pw_geti gX11_133 dX11_desk_49 (cf_s10 hC) kz) ?_
        rw [up2_na (by omega), hk0]
        refine WQ.st (fun _ _ kz => pw_isub dX11_desk_52 kz) ?_
        refine ⟨_, _, pw_iret dX11_desk_53 rfl rfl rfl rfl, ?_⟩
        refine Or.inr ⟨hn, ?_⟩
        have hI2 := hI1.rd (V' := up2 V2 8 1 0) (A' := A2) hj1 u1 u2 u3 hC (fun x h8 h10 hx => by rw [up2_na h8]; exact f2.1 x h10 hx) (fun x h1 h2 h3 h4 => f2.2.1 x h1 h2 h3 h4) f2.2.2.1 up2_eq
        rw [up2_na (by omega), hk0, hk1] at hI2
        exact ⟨rfl, t1, sl1, ls, S1, up2 V2 8 1 0, P2, A2, B, Q1, rfl, hI2, by omega, fo.tr ⟨Nat.le_refl _, fun _ _ => rfl, fun x h1 h2 => ⟨by rw [up2_na (by omega), f2.1 x (by omega) (by omega)], f2.2.2.1 x (by omega), f2.2.1 x (by omega) (by omega) (by omega) (by omega), rfl⟩⟩, rm⟩
      | ok s =>
        rw [hr] at z2
        have hG : KS x n.toInt.toNat T u s.1 s.2.1 s.2.2 V2 A2 := z2
        have hk0 : V2 10 0 = 0 := hG.1.2.2.2.2.2.1
        have hk1 : V2 10 1 = -1 := hG.1.2.2.2.2.2.2
        have iv := rdF_iv hT (by omega) (fun i h => TV_b h) hr
        have hc9 : s.2.2.length ≤ 900 := by have := iv.2.2.1; have := iv.2.1; omega
        refine WQ.st (fun _ _ kz => pw_aload0 dX11_desk_34 kz) ?_
        refine WQ.st (fun _ _ kz => pw_iconst (v := 0) dX11_desk_35 (by decide) kz) ?_
        refine WQ.st (fun _ _ kz => pw_puti (pX11_15 _ rfl) dX11_desk_36 (cf_s8 hC) rfl rfl kz) ?_
        refine WQ.st (fun _ _ kz => pw_iload3 dX11_desk_39 kz) ?_
        refine WQ.bn (fun _ _ ka kb => pw_if_ne (tgt := 54) dX11_desk_40 (by decide) ka kb) (fun c40 => ?_) (fun c40 => absurd c40 okL_k)
        have hI2 := hI1.rd (V' := up2 V2 8 1 0) (A' := A2) hj1 u1 u2 u3 hC (fun x h8 h10 hx => by rw [up2_na h8]; exact f2.1 x h10 hx) (fun x h1 h2 h3 h4 => f2.2.1 x h1 h2 h3 h4) f2.2.2.1 up2_eq
        rw [up2_na (by omega), hk0, hk1] at hI2
        have hSe : ∀ al' : Nat → Int32, AlM s.2.1 s.2.2 al al' → ShE (up2 V2 8 1 0) A2 u al' := fun al' hal => (hG.sh hal hc9 iv.1).fr (fun x h1 h2 => by rw [up2_na (by omega)]) (fun _ _ _ => rfl)
        obtain ⟨al0, hal0⟩ : ∃ al0 : Nat → Int32, AlM s.2.1 s.2.2 al al0 := ⟨fun k => if k < 263 then s.2.1 k else if k < 1164 then s.2.2.getD (k - 264) 0 else al k, fun k hk => by simp only []; rw [if_pos hk], fun k hk => by simp only []; rw [if_neg (by omega), if_pos (by omega), show 264 + k - 264 = k by omega], fun k hk => by simp only []; rw [if_neg (by omega), if_neg (by omega)]⟩
        refine WQ.st (fun _ _ kz => pw_aload0 dX11_desk_54 kz) ?_
        refine WQ.st (fun _ _ kz => pw_aload2 dX11_desk_55 kz) ?_
        refine wq_o1v wX11_useSheet lX11_136 rfl dX11_desk_56 (cf_s8 hC) ((k_useSB (d := 0) hC hU hua (hSe al0 hal0) hI2.de.dc.ka.ba.w).mn (by omega)) rfl (Nat.le_of_ble_eq_true rfl) (Nat.le_of_ble_eq_true rfl) (fun h56 z56 => ?_)
        obtain ⟨V3, P3, A3, rfl, z1, z2, z3, z4, z5, z6, z7, z8⟩ := z56
        have hC := z7
        have hU : SH S1 P3 u := hU.to (fun _ _ _ => rfl) (fun x _ _ => z5 x (by omega) (by omega))
        refine WQ.st (fun _ _ kz => pw_aload0 dX11_desk_59 kz) ?_
        refine WQ.st (fun _ _ kz => pw_getr gX11_35 dX11_desk_60 (cf_s8 hC) (cf_p8_5 hC) kz) ?_
        refine WQ.st (fun _ _ kz => pw_aload2 dX11_desk_63 kz) ?_
        refine wq_o1v wX8_begin lX11_139 rfl dX11_desk_64 (cf_s16 hC) ((k_begin (d := 0) (cf_st16 hC) hU (by omega)).mn (by omega)) rfl (Nat.le_of_ble_eq_true rfl) (Nat.le_of_ble_eq_true rfl) (fun h64 z64 => ?_)
        obtain ⟨V4, A4, rfl, w1, w2⟩ := z64
        refine WQ.st (fun _ _ kz => pw_aload0 dX11_desk_67 kz) ?_
        refine WQ.st (fun _ _ kz => pw_getr gX11_45 dX11_desk_68 (cf_s8 hC) (cf_p8_7 hC) kz) ?_
        refine wq_o0v wX3_clear lX11_142 rfl dX11_desk_71 (cf_s24 hC) (k_hclear hC) rfl (Nat.le_of_ble_eq_true rfl) (Nat.le_of_ble_eq_true rfl) (fun h71 z71 => ?_)
        subst z71
        refine WQ.st (fun _ _ kz => pw_aload2 dX11_desk_74 kz) ?_
        refine WQ.st (fun _ _ kz => pw_geti gX11_145 dX11_desk_75 (sh_s0 hU) kz) ?_
        rw [up2_na (by omega), w2.1 u (by omega), z2 u (by omega), up2_na (by omega), hG.2.1.2.1]
        refine ⟨_, _, pw_iret dX11_desk_78 rfl rfl rfl rfl, ?_⟩
        refine Or.inr ⟨hn, ?_⟩
        have v5 : ∀ x, x ≠ 96 → x ≠ 16 → x ≠ 24 → up2 V4 24 0 0 x = up2 V2 8 1 0 x := fun x h1 h2 h3 => by rw [up2_na h3, w2.1 x h2, z2 x h1]
        have a5 : ∀ x, x ≠ 100 → (x < 17 ∨ 19 < x) → A4 x = A2 x := fun x h1 h2 => by rw [w2.2 x (by omega), z6 x h1]
        have p5 : ∀ x, x ≠ 8 → x ≠ 96 → P3 x = P2 x := z5
        refine ⟨rfl, t1, sl1, ls, u, S1, up2 V4 24 0 0, P3, A4, B, Q1, rfl, fun al' hal => ?_, by omega, fo.tr ⟨Nat.le_refl _, fun _ _ => rfl, fun x h1 h2 => ⟨by rw [v5 x (by omega) (by omega) (by omega), up2_na (by omega), f2.1 x (by omega) (by omega)], by rw [p5 x (by omega) (by omega), f2.2.2.1 x (by omega)], by rw [a5 x (by omega) (by omega), f2.2.1 x (by omega) (by omega) (by omega) (by omega)], rfl⟩⟩, rm⟩
        obtain ⟨hAV, e92⟩ := hal.av hc9 iv.1
        have h3 := hI2.re.ss.2.2.1
        have hE := hI2.de
        have ht := hE.dc.ka.st
        have hS' : ShE (up2 V4 24 0 0) A4 u al' := (hG.sh hal hc9 iv.1).fr (fun x h1 h2 => by rw [v5 x (by omega) (by omega) (by omega), up2_na (by omega)]) (fun x h1 h2 => a5 x (by omega) (by omega))
        have fk : FrK V3 A3 B (up2 V4 24 0 0) A4 B := ⟨fun x hx => by rw [up2_na (by omega), w2.1 x (by omega)], fun x hx => w2.2 x (by omega), fun _ _ => rfl⟩
        have hSP : ∀ u', (u' = 87 ∨ 161 ≤ u') → SH S1 P2 u' → SH S1 P3 u' := fun u' hu' h => h.to (fun _ _ _ => rfl) (fun x _ _ => p5 x (by omega) (by omega))
        have hev : ∀ i, i < 12 → A4 109 i = 31 := by rw [a5 109 (by omega) (by omega)]; exact hE.dc.ev
        have zb := z1.fresh z8 (hSe al0 hal0) (hSe al' hal)
        have sf : ∀ i k, sft al' i k = sft al i k := fun i k => hal.2.2 _ (by omega)
        refine ⟨⟨⟨⟨hC, hU, ⟨hua, hut, ht.2⟩, hAV.1, hS', zb.fr fk⟩, hE.dc.hb.to (p5 103 (by omega) (by omega)), hE.dc.rh.to (by rw [p5 107 (by omega) (by omega)]) (by rw [p5 107 (by omega) (by omega)]), hE.dc.hw.to (by rw [p5 107 (by omega) (by omega)]) (by rw [p5 107 (by omega) (by omega)]), hev⟩, hAV.2.1, ?_, Or.inl rfl⟩, hAV, ⟨hI2.re.hi.1, by rw [up2_eq, e92], ?_⟩, ⟨z3, hj1, fun j' u' hj' hu' => ?_, hI2.re.ss.2.2.2⟩, ⟨hI2.re.im.1, fun i hi => ?_⟩, ⟨hI2.re.tr.1, fun k hk => ?_⟩, ?_, hI2.re.oq⟩
        · refine (w1.fr (up2_na (by omega)) (fun _ _ _ => rfl)).cg (fun k hk => ?_)
          rw [hG.st hal iv.1 k hk]
          unfold bgF
          rw [z6 (u + 3) (by omega), z6 (u + 4) (by omega)]
        · obtain ⟨fo', f1', f2', f3'⟩ := hI2.re.hi.2.2
          exact ⟨fo', f1', by rw [up2_nk (by omega), w2.1 24 (by omega), z2 24 (by omega)]; exact f2', fun i hi => by rw [e92] at hi; have hi : (i : Int) < 0 := hi; omega⟩
        · obtain ⟨k1, k2, k3⟩ := h3 j' u' hj' hu'
          exact ⟨hSP u' k2 k1, k2, k3⟩
        · refine (hI2.re.im.2 i hi).cg rfl rfl rfl (fun k hk => sf i k) (fun u' hu x a b => ?_) (v5 _ (by omega) (by omega) (by omega)) (fun x a b => a5 x (by omega) (by omega))
          obtain ⟨j', hj', hj2⟩ := hu
          obtain ⟨_, k2, k3⟩ := h3 j' u' hj' hj2
          exact ⟨v5 x (by omega) (by omega) (by omega), a5 x (by omega) (by omega)⟩
        · rw [v5 _ (by omega) (by omega) (by omega)]
          exact hI2.re.tr.2 k hk
        · have h := hI2.re.tp
          unfold TPE at h ⊢
          rw [v5 8 (by omega) (by omega) (by omega), v5 10 (by omega) (by omega) (by omega), a5 9 (by omega) (by omega)]
          exact h
    · rw [le_i rfl (ix_n (by omega))] at c9
      refine WQ.st (fun _ _ kz => pw_ldc kX11_123 dX11_desk_12 kz) ?_
      refine ⟨_, _, pw_iret dX11_desk_14 rfl rfl rfl rfl, ?_⟩
      exact Or.inl ⟨by omega, rfl, t, sl, ls, S, V, P, A, B, Q, rfl, hI, by omega, FrO.rfl, fun _ _ h => h⟩
