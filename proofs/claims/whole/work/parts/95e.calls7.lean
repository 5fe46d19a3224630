def sp_ima (al : Nat → Int32) (W : WT) (x : Int32) : Int32 × (Nat → Int32) × WT := if 0 ≤ x.toInt ∧ x.toInt ≤ 1 then (0, sp_im al x.toInt.toNat, (pm_up W.1 x.toInt.toNat 1, W.2)) else (-99000002, al, W)
def sp_res (al : Nat → Int32) (W : WT) (x : Int32) : Int32 × (Nat → Int32) := if 0 ≤ x.toInt ∧ x.toInt ≤ 1 then (if W.1 x.toInt.toNat = 0 then (-99000005, al) else (0, sp_rs al x.toInt.toNat)) else (-99000002, al)
theorem Room2.q {S : sS} {Q Q' : sP} {t sl k1 k2 : Nat} (hq : Q' 99 = Q 99) (h : Room2 S Q t sl k1 k2) : Room2 S Q' t sl k1 k2 := by
  unfold Room2 szQ at h ⊢
  rw [hq]
  exact h
theorem BarI.q {S : sS} {V : sV} {P : sP} {A : sV} {B : sB} {Q : sP} {t : Nat} {Q' : sP} {al : Nat → Int32} {sh ls : Nat} (h : BarI S V P A B Q t al sh ls) (hq : Q' 99 = Q 99) : BarI S V P A B Q' t al sh ls := by
  unfold BarI BMem at h ⊢
  rw [hq]
  exact h
theorem DC.q {S : sS} {V : sV} {P : sP} {A : sV} {B : sB} {Q : sP} {t : Nat} {Q' : sP} {al : Nat → Int32} {sh ls : Nat} (h : DC S V P A B Q t al sh ls) (hq : Q' 99 = Q 99) : DC S V P A B Q' t al sh ls := ⟨⟨h.ka.cf, h.ka.hsh, ⟨h.ka.sa, h.ka.st⟩, h.ka.dv, h.ka.se, h.ka.ba.q hq⟩, h.hb, h.rh, h.hw, h.ev⟩
theorem AV.cg {al al' : Nat → Int32} (h : AV al) (e : ∀ i, i < 1164 → al' i = al i) : AV al' := by
  have d := h.dn
  refine ⟨h.dv.cong (fun i hi => e i (by omega)), by rw [e 2 (by omega)]; exact h.kv.cg (fun k hk => e _ (by omega)), by rw [e 92 (by omega)]; exact d, fun j hj => ?_⟩
  rw [e 92 (by omega)] at hj
  rw [e 2 (by omega)]
  exact (h.ws j hj).cg (fun k hk => e _ (by omega))
theorem cf_im {S : sS} {P : sP} (h : CF S P) {n : Nat} (hn : n < 2) : ST S P (71 + 4 * n) := by
  rcases (show n = 0 ∨ n = 1 by omega) with rfl | rfl
  · exact cf_st71 h
  · exact cf_st75 h
theorem IM1.cg {V A V' A' : sV} {Q Q' : sP} {al al' im im' : Nat → Int32} {i : Nat} (h : IM1 V A Q al im i) (hi : im' i = im i) (hq : Q' 66 i = Q 66 i) (h15 : Q' 15 = Q 15) (e : ∀ k, k < 1164 → sft al' i k = sft al i k) (hs : ∀ u, (∃ j, j < 4 ∧ Q 15 j = some u) → ∀ x, u ≤ x → x < u + 9 → V' x = V x ∧ A' x = A x) (h0 : V' (71 + 4 * i) = V (71 + 4 * i)) (h1 : ∀ x, 71 + 4 * i + 1 ≤ x → x ≤ 71 + 4 * i + 3 → A' x = A x) : IM1 V' A' Q' al' im' i := by
  unfold IM1 at h ⊢
  rw [hi, hq, h15]
  rcases h with g | ⟨g0, u, g1, gj, g3, g4, g5, g6⟩
  · exact Or.inl g
  · have e2 : sft al' i 2 = sft al i 2 := e 2 (by omega)
    refine Or.inr ⟨g0, u, g1, gj, (g3.fr (fun x a b => (hs u gj x a b).1) (fun x a b => (hs u gj x a b).2)).cong g4 (fun k hk => e k (by omega)), g4.cong (fun k hk => e k (by omega)), (g5.fr h0 h1).cg (fun k hk => e _ (by omega)), ?_⟩
    rw [e2]
    exact g6.cg (fun k hk => e _ (by omega))
theorem sft_im {al : Nat → Int32} {n : Nat} {k : Nat} (hk : k < 1164) : sft (sp_im al n) n k = al k := by
  unfold sft sp_im
  rw [if_pos (by omega)]
  exact congrArg al (by omega)
theorem sft_imo {al : Nat → Int32} {n i : Nat} (hn : n < 2) (hi : i < 2) (hin : i ≠ n) {k : Nat} (hk : k < 1164) : sft (sp_im al n) i k = sft al i k := by
  unfold sft sp_im
  rw [if_neg (by omega)]
theorem sp_im_l {al : Nat → Int32} {n k : Nat} (hk : k < 1164) : sp_im al n k = al k := by
  unfold sp_im
  rw [if_neg (by omega)]
set_option maxRecDepth 20000 in
theorem q_image {G : gT} {d : Nat} {S : sS} {V : sV} {P : sP} {A : sV} {B : sB} {Q : sP} {t sl : Nat} {al : Nat → Int32} {W : WT} {sh ls : Nat} (hI : CI S V P A B Q t al W sh ls) (hls : ls + 1000 < 2000000000) (x : Int32) : WQ G (d + 9) mX11_image 0 [some (.ref 8), some (.int x)] [] (t, sl, gh S V P A B Q) (CZ S V P A B Q t sl (sp_ima al W x).2.2 sh ls (.int (sp_ima al W x).1) (sp_ima al W x).2.1) := by
  unfold CZ
  have hE := hI.de
  have hC := hE.dc.ka.cf
  have hD := hE.dc.ka.dv
  have hSe := hE.dc.ka.se
  have hA := hI.av
  have hp5 := hD.p5
  have hn4 := hD.n4
  refine WQ.st (fun _ _ kz => pw_iload1 dX11_image_0 kz) ?_
  refine WQ.br (fun _ _ ka kb => pw_if_lt (tgt := 9) dX11_image_1 (by decide) ka kb) (fun c1 => ?_) (fun c1 => ?_)
  · rw [lt_i rfl li_0] at c1
    refine WQ.st (fun _ _ kz => pw_ldc kX11_155 dX11_image_9 kz) ?_
    refine ⟨_, _, pw_iret dX11_image_11 rfl rfl rfl rfl, ?_⟩
    have es : sp_ima al W x = (-99000002, al, W) := by
      unfold sp_ima
      rw [if_neg (by omega)]
    rw [es]
    exact ⟨rfl, t, sl, ls, S, V, P, A, B, Q, rfl, hI, by omega, FrO.rfl, fun _ _ h => h⟩
  · rw [lt_i rfl li_0] at c1
    refine WQ.st (fun _ _ kz => pw_iload1 dX11_image_4 kz) ?_
    refine WQ.st (fun _ _ kz => pw_iconst (v := 2) dX11_image_5 (by decide) kz) ?_
    refine WQ.br (fun _ _ ka kb => pw_icmp_lt (tgt := 12) dX11_image_6 (by decide) ka kb) (fun c6 => ?_) (fun c6 => ?_)
    · rw [lt_i rfl li_2] at c6
      obtain ⟨n, rfl, tn, ln⟩ := nI_get (x := x) (n := 2) (by omega) (by omega) (by omega)
      have hn2 : n < 2 := by omega
      refine WQ.st (fun _ _ kz => pw_aload0 dX11_image_12 kz) ?_
      refine WQ.st (fun _ _ kz => pw_getr gX11_49 dX11_image_13 (cf_s8 hC) (cf_p8_8 hC) kz) ?_
      refine WQ.st (fun _ _ kz => pw_iload1 dX11_image_16 kz) ?_
      refine WQ.st (fun _ _ kz => pw_aload0 dX11_image_17 kz) ?_
      refine WQ.st (fun _ _ kz => pw_getr gX11_71 dX11_image_18 (cf_s8 hC) hI.re.p84 kz) ?_
      refine WQ.st (fun _ _ kz => pw_qst (j := n) dX11_image_21 (cf_s66 hC) (by decide) (sh_s0 hE.dc.ka.hsh) rfl (fun _ => rfl) (ix_m rfl (by omega)) (by omega) kz) ?_
      refine WQ.st (fun _ _ kz => pw_aload0 dX11_image_22 kz) ?_
      refine WQ.st (fun _ _ kz => pw_getr gX11_52 dX11_image_23 (cf_s8 hC) (cf_p8_9 hC) kz) ?_
      refine WQ.st (fun _ _ kz => pw_iload1 dX11_image_26 kz) ?_
      refine WQ.st (fun _ _ kz => pw_qldr (j := n) dX11_image_27 (cf_s67 hC) (by decide) (ix_m rfl (by omega)) (by omega) (by rw [up2_na (by omega)]; exact hI.re.im.1 n hn2) kz) ?_
      refine WQ.st (fun _ _ kz => pw_aload0 dX11_image_28 kz) ?_
      refine WQ.st (fun _ _ kz => pw_getr gX11_35 dX11_image_29 (cf_s8 hC) (cf_p8_5 hC) kz) ?_
      refine wq_o1v wX8_copy lX11_194 rfl dX11_image_32 (st_s0 (cf_im hC hn2)) (k_copy (cf_im hC hn2) (cf_st16 hC) (by omega) hE.se) rfl (Nat.le_of_ble_eq_true rfl) (Nat.le_of_ble_eq_true rfl) (fun h32 z32 => ?_)
      obtain ⟨V1, A1, rfl, w1, w2⟩ := z32
      refine WQ.st (fun _ _ kz => pw_iconst (v := 0) dX11_image_35 (by decide) kz) ?_
      refine ⟨_, _, pw_iret dX11_image_36 rfl rfl rfl rfl, ?_⟩
      have es : sp_ima al W (nI n) = (0, sp_im al n, (pm_up W.1 n 1, W.2)) := by
        unfold sp_ima
        rw [if_pos (by omega), tn, Int.toNat_natCast]
        rfl
      rw [es]
      have q9 : up2 Q 66 n (some sh) 99 = Q 99 := up2_na (by omega)
      have h3 := hI.re.ss.2.2.1
      have el : ∀ k, k < 1164 → sp_im al n k = al k := fun k hk => sp_im_l hk
      refine ⟨rfl, t, sl, ls, S, V1, P, A1, B, up2 Q 66 n (some sh), rfl, ⟨⟨((hE.dc.fr ⟨fun x hx => w2.1 x (by omega), fun x hx => w2.2 x (by omega), fun _ _ => rfl⟩ (w2.2 109 (by omega))).cong (fun i hi => el i (by omega))).q q9, by show KV (sp_im al n 2).toInt (fun k => sp_im al n (75 + k)); rw [el 2 (by omega)]; exact hE.kv.cg (fun k hk => el _ (by omega)), (hE.se.fr (w2.1 16 (by omega)) (fun x _ _ => w2.2 x (by omega))).cg (fun k hk => el _ (by omega)), Or.inl rfl⟩, hA.cg el, (hI.re.hi.fr (fun x _ _ => w2.1 x (by omega)) (fun x _ _ => w2.2 x (by omega)) (up2_na (by omega))).cong hA.dn.2 (fun i h1 h2 => el i (by omega)), ?_, ⟨fun i hi => by rw [up2_na (by omega)]; exact hI.re.im.1 i hi, fun i hi => ?_⟩, ?_, ?_, fun i hi => by rw [up2_na (by omega)]; exact hI.re.oq i hi⟩, by omega, FrO.va (fun x _ _ => w2.1 x (by omega)) (fun x _ _ => w2.2 x (by omega)), fun _ _ h => h.q q9⟩
      · have h := hI.re.ss
        unfold SHT at h ⊢
        rw [show up2 Q 66 n (some sh) 15 = Q 15 from up2_na (by omega)]
        exact h
      · by_cases e : i = n
        · subst e
          obtain ⟨j, hj, hj2⟩ := hI.re.ss.2.1
          obtain ⟨_, u2, u3⟩ := h3 j sh hj hj2
          have e2 : sft (sp_im al i) i 2 = al 2 := sft_im (by omega)
          refine Or.inr ⟨by show pm_up W.1 i 1 i ≠ 0; rw [pm_up_eq]; decide, sh, up2_eq, ⟨j, hj, by rw [up2_na (by omega)]; exact hj2⟩, (hSe.fr (fun x _ _ => w2.1 x (by omega)) (fun x _ _ => w2.2 x (by omega))).cong hD (fun k hk => sft_im (by omega)), hD.cong (fun k hk => sft_im (by omega)), w1.cg (fun k hk => sft_im (by omega)), ?_⟩
          rw [e2]
          exact hE.kv.cg (fun k hk => sft_im (by omega))
        · refine (hI.re.im.2 i hi).cg (pm_up_ne e) (up2_nk e) (up2_na (by omega)) (fun k hk => sft_imo hn2 hi e hk) (fun u hu x a b => ?_) (w2.1 _ (by omega)) (fun x a b => w2.2 x (by omega))
          obtain ⟨j, hj, hj2⟩ := hu
          obtain ⟨_, u2, u3⟩ := h3 j u hj hj2
          exact ⟨w2.1 x (by omega), w2.2 x (by omega)⟩
      · have h := hI.re.tr
        refine ⟨fun k hk => by rw [up2_na (by omega)]; exact h.1 k hk, fun k hk => ?_⟩
        rw [w2.1 _ (by omega)]
        exact h.2 k hk
      · have h := hI.re.tp
        unfold TPE at h ⊢
        rw [w2.1 8 (by omega), w2.1 10 (by omega), w2.2 9 (by omega)]
        exact h
    · rw [lt_i rfl li_2] at c6
      refine WQ.st (fun _ _ kz => pw_ldc kX11_155 dX11_image_9 kz) ?_
      refine ⟨_, _, pw_iret dX11_image_11 rfl rfl rfl rfl, ?_⟩
      have es : sp_ima al W x = (-99000002, al, W) := by
        unfold sp_ima
        rw [if_neg (by omega)]
      rw [es]
      exact ⟨rfl, t, sl, ls, S, V, P, A, B, Q, rfl, hI, by omega, FrO.rfl, fun _ _ h => h⟩
set_option maxRecDepth 20000 in
theorem k_useS {G : gT} {d : Nat} {S : sS} {V : sV} {P : sP} {A : sV} {B : sB} {Q : sP} {t sl : Nat} (hC : CF S P) {u : Nat} (hU : SH S P u) (hu : u = 87 ∨ 161 ≤ u) {al' : Nat → Int32} (hE : ShE V A u al') {ls : Nat} (hW : BarW S V B Q t ls) : WQ G (d + 3) mX11_useSheet 0 [some (.ref 8), some (.ref u)] [] (t, sl, gh S V P A B Q) (fun r h' => r = none ∧ ∃ (V' : sV) (P' : sP) (A' : sV), h' = (t, sl, gh S V' P' A' B Q) ∧ BarI S V' P' A' B Q t al' u ls ∧ (∀ x, x ≠ 96 → V' x = V x) ∧ P' 8 4 = some u ∧ (∀ k, k ≠ 4 → P' 8 k = P 8 k) ∧ (∀ x, x ≠ 8 → x ≠ 96 → P' x = P x) ∧ (∀ x, x ≠ 100 → A' x = A x) ∧ CF S P') := by
  refine WQ.st (fun _ _ kz => pw_aload0 dX11_useSheet_0 kz) ?_
  refine WQ.st (fun _ _ kz => pw_aload1 dX11_useSheet_1 kz) ?_
  refine WQ.st (fun _ _ kz => pw_putr (pX11_71 _ rfl) dX11_useSheet_2 (cf_s8 hC) kz) ?_
  have hC : CF S (up2 P 8 4 (some u)) := hC.up (by decide)
  have hU2 : SH S (up2 P 8 4 (some u)) u := hU.up (fun x a1 a2 => up2_na (by omega))
  refine WQ.st (fun _ _ kz => pw_aload0 dX11_useSheet_5 kz) ?_
  refine WQ.st (fun _ _ kz => pw_getr gX11_80 dX11_useSheet_6 (cf_s8 hC) (cf_p8_11 hC) kz) ?_
  refine WQ.st (fun _ _ kz => pw_aload1 dX11_useSheet_9 kz) ?_
  refine wq_o1v wX0_useSheet lX11_392 rfl dX11_useSheet_10 (cf_s96 hC) (k_useSheet hC hU2 hu hE hW) rfl (Nat.le_of_ble_eq_true rfl) (Nat.le_of_ble_eq_true rfl) (fun h10 z10 => ?_)
  obtain ⟨V2, P2, A2, rfl, z1, z2, z3, z4, z5⟩ := z10
  refine ⟨_, _, pw_vret dX11_useSheet_13 rfl rfl rfl, ?_⟩
  exact ⟨rfl, V2, P2, A2, rfl, z1, z2, by rw [z3 8 (by omega)]; exact up2_eq, fun k hk => by rw [z3 8 (by omega)]; exact up2_nk hk, fun x h1 h2 => by rw [z3 x h2]; exact up2_na h1, z4, z5⟩
