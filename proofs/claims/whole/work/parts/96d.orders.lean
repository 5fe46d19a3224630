theorem bsv_one {th : Nat → Nat → Nat → Int32} {e : Nat → Int32} {N left s0 : Nat} (hs : s0 < 41) (hb : bnd 48 (oG th e N left s0)) : bsv th e N (one1 s0) left = oG th e N left s0 := by
  refine Int32.le_antisymm (mfo_le (rf_c0 hb (by omega)) (fun f hf => ?_)) ?_
  · by_cases c : f = s0
    · subst c
      unfold one1
      rw [if_pos rfl]
      by_cases c : oG th e N left f = -268435456
      · rw [ob_c (Or.inr c), c]; exact Int32.le_refl _
      · rw [ob_n (by decide) c, Int32.zero_add]; exact Int32.le_refl _
    · unfold one1
      rw [if_neg c, ob_c (Or.inl rfl)]
      exact rf_c0 hb (by omega)
  · have h1 := mfo_ge (fun f => ob (one1 s0 f) (oG th e N left f)) 41 s0 hs
    refine Int32.le_trans ?_ h1
    show _ ≤ ob (one1 s0 s0) _
    unfold one1
    rw [if_pos rfl]
    by_cases c : oG th e N left s0 = -268435456
    · rw [ob_c (Or.inr c), c]; exact Int32.le_refl _
    · rw [ob_n (by decide) c, Int32.zero_add]; exact Int32.le_refl _
theorem w10 (w : Int32) : (0 ≤ (w - 10).toInt ∧ (w - 10).toInt < 4) ↔ (10 ≤ w.toInt ∧ w.toInt ≤ 13) := by
  have h1 := Int32.le_toInt w
  have h2 := Int32.toInt_lt w
  have h1 : -2147483648 ≤ w.toInt := h1
  have h2 : w.toInt < 2147483648 := h2
  rw [Int32.toInt_sub]
  show (0 ≤ (w.toInt - 10).bmod 4294967296 ∧ (w.toInt - 10).bmod 4294967296 < 4) ↔ _
  simp only [Int.bmod]
  split <;> omega
theorem WQ.mn {G : gT} {d d' : Nat} {M : mT} {pc : Nat} {ls : List (Option Value)} {st : List Value} {h : Ph} {Z : Option Value → Ph → Prop} (k : WQ G d M pc ls st h Z) (hd : d ≤ d') : WQ G d' M pc ls st h Z := by
  obtain ⟨r, h', k, z⟩ := k
  exact ⟨r, h', k.mono hd, z⟩
set_option maxRecDepth 20000 in
theorem k_find {G : gT} {d : Nat} {S : sS} {V : sV} {P : sP} {A : sV} {B : sB} {Q : sP} {t sl : Nat} {al : Nat → Int32} {W : WT} {sh ls : Nat} (hI : CI S V P A B Q t al W sh ls) (hls : ls + 1000 < 2000000000) {p gg set : Nat} (hp : p < 5) (hg : gg < 41) (hl : set < 16) (hlN : set < 2 ^ nP al) : WQ G (d + 11) mX5_find 0 [some (.ref 116), some (.int (nI p)), some (.ref 16), some (.int (nI set)), some (.int (sI gg))] [] (t, sl, gh S V P A B Q) (fun r h' => r = none ∧ ∃ (t' sl' ls' : Nat) (S' : sS) (V' : sV) (P' : sP) (A' : sV) (B' : sB) (Q' : sP), h' = (t', sl', gh S' V' P' A' B' Q') ∧ CI S' V' P' A' B' Q' t' al W sh ls' ∧ ls' ≤ ls + 400 ∧ FrO S V P A B t S' V' P' A' B' t' ∧ (∀ k1 k2, Room2 S Q t sl k1 k2 → Room2 S' Q' t' sl' k1 k2) ∧ V' 116 0 = cv (ogT al p (sI gg) set) ∧ (ogT al p (sI gg) set ≠ -268435456 → ∀ k, k < 4 → A' 136 k = oAt (thT al p) (rf_e (sI gg)) (nP al) k (fun i => decide (i = stN al p)) set)) := by
  have hE := hI.de
  have hC := hE.dc.ka.cf
  have hD := hE.dc.ka.dv
  have hSe := hE.dc.ka.se
  have hA := hI.av
  obtain ⟨tm, ht, etm, hat⟩ := hE.kv.tmE hp
  obtain ⟨es0, hs0⟩ := hE.kv.stE hp
  have hN4 : nP al ≤ 4 := by have := hD.n4; unfold nP; omega
  have hT := th_b9 hD hE.kv hp
  have he : ∀ s, s < 41 → bnd 0 (rf_e (sI gg) s) := fun s _ => rf_e_bnd _ s
  refine WQ.st (fun _ _ kz => pw_aload0 dX5_find_0 kz) ?_
  refine WQ.st (fun _ _ kz => pw_iload1 dX5_find_1 kz) ?_
  refine WQ.st (fun _ _ kz => pw_aload2 dX5_find_2 kz) ?_
  refine wq_o2v wX5_begin lX5_59 rfl dX5_find_3 (cf_s116 hC) (k_obegin hE hI.re.oq hp) rfl (Nat.le_of_ble_eq_true rfl) (Nat.le_of_ble_eq_true rfl) (fun h3 z3 => ?_)
  subst z3
  refine WQ.st (fun _ _ kz => pw_aload0 dX5_find_6 kz) ?_
  refine WQ.st (fun _ _ kz => pw_ldc kX5_9 dX5_find_7 kz) ?_
  refine WQ.st (fun _ _ kz => pw_puti (pX5_10 _ rfl) dX5_find_9 (cf_s116 hC) rfl rfl kz) ?_
  refine WQ.st (fun _ _ kz => pw_aload0 dX5_find_12 kz) ?_
  refine WQ.st (fun _ _ kz => pw_getr gX5_28 dX5_find_13 (cf_s116 hC) (cf_p116_6 hC) kz) ?_
  refine WQ.st (fun _ _ kz => pw_iconst (v := -1) dX5_find_16 (by decide) kz) ?_
  refine WQ.st (fun _ _ kz => pw_s2v wJ7_fill_53178 lX5_50 dX5_find_17 (c_filli (cf_s136 hC) (by omega) _) rfl (Nat.le_of_ble_eq_true rfl) (Nat.le_of_ble_eq_true rfl) kz) ?_
  refine WQ.st (fun _ _ kz => pw_aload0 dX5_find_20 kz) ?_
  refine WQ.st (fun _ _ kz => pw_getr gX5_25 dX5_find_21 (cf_s116 hC) (cf_p116_5 hC) kz) ?_
  refine WQ.st (fun _ _ kz => pw_iconst (v := -1) dX5_find_24 (by decide) kz) ?_
  refine WQ.st (fun _ _ kz => pw_s2v wJ7_fill_53178 lX5_50 dX5_find_25 (c_filli (cf_s135 hC) (by omega) _) rfl (Nat.le_of_ble_eq_true rfl) (Nat.le_of_ble_eq_true rfl) kz) ?_
  refine WQ.st (fun _ _ kz => pw_aload0 dX5_find_28 kz) ?_
  refine WQ.st (fun _ _ kz => pw_iload3 dX5_find_29 kz) ?_
  refine WQ.st (fun _ _ kz => pw_iconst (v := 0) dX5_find_30 (by decide) kz) ?_
  refine WQ.st (fun _ _ kz => pw_iload4 dX5_find_31 kz) ?_
  obtain ⟨i2, o2⟩ := hI.ord (V' := (up2 (up2 (up2 V 116 7 (nI p)) 116 8 (al (87 + p))) 116 0 (-2147483648))) (A' := (pm_up (pm_up (up2 (pm_up A 118 (fillF (-2147483648) 41 (A 118))) 118 (stN al p) 0) 136 (fillF (-1) 4 ((up2 (pm_up A 118 (fillF (-2147483648) 41 (A 118))) 118 (stN al p) 0) 136))) 135 (fillF (-1) 4 (pm_up (up2 (pm_up A 118 (fillF (-2147483648) 41 (A 118))) 118 (stN al p) 0) 136 (fillF (-1) 4 ((up2 (pm_up A 118 (fillF (-2147483648) 41 (A 118))) 118 (stN al p) 0) 136)) 135)))) (fun x hx => by rw [up2_na hx, up2_na hx, up2_na hx]) (fun x hx => by rw [pm_up_ne (by omega), pm_up_ne (by omega), up2_na (by omega), pm_up_ne (by omega)])
  have hn4 := crd_4 set hl
  have hR2 : ∀ s, s < 41 → (pm_up (pm_up (up2 (pm_up A 118 (fillF (-2147483648) 41 (A 118))) 118 (stN al p) 0) 136 (fillF (-1) 4 ((up2 (pm_up A 118 (fillF (-2147483648) 41 (A 118))) 118 (stN al p) 0) 136))) 135 (fillF (-1) 4 (pm_up (up2 (pm_up A 118 (fillF (-2147483648) 41 (A 118))) 118 (stN al p) 0) 136 (fillF (-1) 4 ((up2 (pm_up A 118 (fillF (-2147483648) 41 (A 118))) 118 (stN al p) 0) 136)) 135))) (118 + 0) s = cv (one1 (stN al p) s) := fun s hs => by
    rw [pm_up_ne (by omega), pm_up_ne (by omega), up2_at]
    unfold one1
    by_cases e : s = stN al p
    · rw [if_pos e, e, pm_up_eq]; rfl
    · rw [if_neg e, pm_up_ne e, pm_up_eq, fillF_i hs]; rfl
  have h340 : ∀ n, n ≤ 4 → sBn n ≤ 340 := by decide
  have h34 := h340 (crd set) hn4
  rw [show (0 : Int32) = nI 0 from rfl]
  refine wq_o3v wX5_search lX5_63 rfl dX5_find_33 (cf_s116 hC) ((k_search (d := d) hp ht hat hg (crd set) hn4 set 0 (one1 (stN al p)) (-268435456) t sl ls S (up2 (up2 (up2 V 116 7 (nI p)) 116 8 (al (87 + p))) 116 0 (-2147483648)) P (pm_up (pm_up (up2 (pm_up A 118 (fillF (-2147483648) 41 (A 118))) 118 (stN al p) 0) 136 (fillF (-1) 4 ((up2 (pm_up A 118 (fillF (-2147483648) 41 (A 118))) 118 (stN al p) 0) 136))) 135 (fillF (-1) 4 (pm_up (up2 (pm_up A 118 (fillF (-2147483648) 41 (A 118))) 118 (stN al p) 0) 136 (fillF (-1) 4 ((up2 (pm_up A 118 (fillF (-2147483648) 41 (A 118))) 118 (stN al p) 0) 136)) 135))) B Q i2 (by omega) hl hlN rfl (by omega) (fun s _ => one_b _ s) hR2 (by rw [up2_eq]; rfl) (Or.inl rfl) (by rw [up2_nk (by omega), up2_nk (by omega), up2_eq]) (by rw [up2_nk (by omega), up2_eq, etm]) (fun k _ h2 => by rw [pm_up_eq, fillF_i h2])).mn (by omega)) rfl (Nat.le_of_ble_eq_true rfl) (Nat.le_of_ble_eq_true rfl) (fun h33 z33 => ?_)
  obtain ⟨t8, sl8, ls8, S8, V8, P8, A8, B8, Q8, rfl, i8, l8, o8, r8, _, _, _, res⟩ := z33
  refine ⟨_, _, pw_vret dX5_find_36 rfl rfl rfl, ?_⟩
  have hob := oG_bnd hN4 hT he 4 (Nat.le_refl _) set hl hn4 (stN al p) hs0
  have eB : bsv (thT al p) (rf_e (sI gg)) (nP al) (one1 (stN al p)) set = ogT al p (sI gg) set := bsv_one hs0 hob
  refine ⟨rfl, t8, sl8, ls8, S8, V8, P8, A8, B8, Q8, rfl, i8, by omega, o2.tr o8, r8, ?_, fun hM k hk => ?_⟩
  · rcases res with ⟨q1, q2, _⟩ | ⟨q1, q2, _⟩
    · rw [eB] at q1
      have : ogT al p (sI gg) set = -268435456 := Int32.le_antisymm (Int32.not_lt.mp q1) (rf_c0 hob (by omega))
      rw [q2, this, up2_eq]; rfl
    · rw [q2, eB]
  · rcases res with ⟨q1, _, _⟩ | ⟨_, _, q3⟩
    · rw [eB] at q1
      exact absurd (bnd_c hob (by omega) hM) q1
    · rw [q3 k hk, if_neg (by omega), Nat.sub_zero]
      refine (oAt_lx hN4 hT he k (K := 0) (fun s _ => one_b (stN al p) s) hl hlN (by omega) (by rw [eB]; exact hM) (fun f hf => ?_)).symm
      rw [eB, decide_eq_true_iff]
      constructor
      · intro h
        rw [h]
        unfold one1
        rw [if_pos rfl, ob_n (by decide) (show oG (thT al p) (rf_e (sI gg)) (nP al) set (stN al p) ≠ -268435456 from hM), Int32.zero_add]
        rfl
      · intro h
        apply Decidable.byContradiction
        intro c
        unfold one1 at h
        rw [if_neg c, ob_c (Or.inl rfl)] at h
        exact hM h.symm
set_option maxRecDepth 20000 in
theorem k_pieceAt {G : gT} {d : Nat} {S : sS} {V : sV} {P : sP} {A : sV} {B : sB} {Q : sP} {t sl : Nat} (hC : CF S P) {k : Nat} (hk : k < 4) : WQ G d mX5_pieceAt 0 [some (.ref 116), some (.int (nI k))] [] (t, sl, gh S V P A B Q) (fun r h' => r = some (.int (A 136 k)) ∧ h' = (t, sl, gh S V P A B Q)) := by
  refine WQ.st (fun _ _ kz => pw_iload1 dX5_pieceAt_0 kz) ?_
  refine WQ.br (fun _ _ ka kb => pw_if_lt (tgt := 18) dX5_pieceAt_1 (by decide) ka kb) (fun c1 => absurd c1 (by rw [lt_i (ix_n (by omega)) li_0]; omega)) (fun c1 => ?_)
  refine WQ.st (fun _ _ kz => pw_iload1 dX5_pieceAt_4 kz) ?_
  refine WQ.st (fun _ _ kz => pw_iconst (v := 4) dX5_pieceAt_5 (by decide) kz) ?_
  refine WQ.br (fun _ _ ka kb => pw_icmp_ge (tgt := 18) dX5_pieceAt_6 (by decide) ka kb) (fun c6 => absurd c6 (by rw [le_i li_4 (ix_n (by omega))]; omega)) (fun c6 => ?_)
  refine WQ.st (fun _ _ kz => pw_aload0 dX5_pieceAt_9 kz) ?_
  refine WQ.st (fun _ _ kz => pw_getr gX5_28 dX5_pieceAt_10 (cf_s116 hC) (cf_p116_6 hC) kz) ?_
  refine WQ.st (fun _ _ kz => pw_iload1 dX5_pieceAt_13 kz) ?_
  refine WQ.st (fun _ _ kz => pw_ald (j := k) dX5_pieceAt_14 (cf_s136 hC) (ix_m rfl (by omega)) (by omega) kz) ?_
  refine WQ.st (fun _ _ kz => pw_goto (tgt := 19) dX5_pieceAt_15 (by decide) kz) ?_
  refine ⟨_, _, pw_iret dX5_pieceAt_19 rfl rfl rfl rfl, ?_⟩
  exact ⟨rfl, rfl⟩
set_option maxRecDepth 20000 in
theorem q_order {G : gT} {d : Nat} {S : sS} {V : sV} {P : sP} {A : sV} {B : sB} {Q : sP} {t sl : Nat} {al : Nat → Int32} {W : WT} {sh ls : Nat} (hI : CI S V P A B Q t al W sh ls) (hls : ls + 1000 < 2000000000) (x y g w : Int32) : WQ G (d + 13) mX11_order 0 [some (.ref 8), some (.int x), some (.int y), some (.int g), some (.int w), none] [] (t, sl, gh S V P A B Q) (CZ S V P A B Q t sl W sh ls (.int (sp_order al x.toInt y.toInt g w.toInt)) al) := by
  unfold CZ
  have hE := hI.de
  have hC := hE.dc.ka.cf
  have hD := hE.dc.ka.dv
  have hSe := hE.dc.ka.se
  have hA := hI.av
  have hp5 := hD.p5
  have hn4 := hD.n4
  have hN1 : al 1 = nI (nP al) := nI_ofI hn4.1
  have hN4 : nP al < 5 := by unfold nP; omega
  have h16 := pow_N (N := nP al) (by omega)
  refine WQ.st (fun _ _ kz => pw_iload4 dX11_order_0 kz) ?_
  refine WQ.st (fun _ _ kz => pw_bipush (v := 10) dX11_order_2 (by decide) kz) ?_
  refine WQ.st (fun _ _ kz => pw_isub dX11_order_4 kz) ?_
  refine WQ.st (fun _ _ kz => pw_istore5 dX11_order_5 (by decide) (k := kz)) ?_
  refine WQ.st (fun _ _ kz => pw_aload0 dX11_order_7 kz) ?_
  refine WQ.st (fun _ _ kz => pw_getr gX11_71 dX11_order_8 (cf_s8 hC) hI.re.p84 kz) ?_
  refine WQ.st (fun _ _ kz => pw_iload1 dX11_order_11 kz) ?_
  refine wq_o1i wX7_hasPlayer lX11_151 rfl dX11_order_12 (sh_s0 hE.dc.ka.hsh) (k_hasPlayer hE.dc.ka.hsh hSe hD _) rfl (Nat.le_of_ble_eq_true rfl) (Nat.le_of_ble_eq_true rfl) (fun h12 z12 => ?_)
  subst z12
  refine WQ.br (fun _ _ ka kb => pw_if_eq (tgt := 34) dX11_order_15 (by decide) ka kb) (fun c15 => ?_) (fun c15 => ?_)
  · rw [bI_0] at c15
    refine WQ.st (fun _ _ kz => pw_ldc kX11_155 dX11_order_34 kz) ?_
    refine ⟨_, _, pw_iret dX11_order_36 rfl rfl rfl rfl, ?_⟩
    exact ⟨rI (by unfold sp_order; rw [c15, Bool.false_and, if_neg (by decide)]), t, sl, ls, S, V, P, A, B, Q, rfl, hI, by omega, FrO.rfl, fun _ _ h => h⟩
  · rw [bI_n] at c15
    have gx := isP_t c15
    obtain ⟨p, rfl, tp, lp⟩ := nI_get gx.1 gx.2 (by omega)
    have hp : p < 5 := by omega
    refine WQ.st (fun _ _ kz => pw_iload4 dX11_order_18 kz) ?_
    refine WQ.br (fun _ _ ka kb => pw_if_eq (tgt := 37) dX11_order_20 (by decide) ka kb) (fun c20 => ?_) (fun c20 => ?_)
    · rw [i32_iff li_0] at c20
      have hw : (decide (w.toInt = 0) || decide (10 ≤ w.toInt ∧ w.toInt ≤ 13)) = true := by rw [decide_eq_true c20]; rfl
      refine WQ.st (fun _ _ kz => pw_iload2 dX11_order_37 kz) ?_
      refine WQ.br (fun _ _ ka kb => pw_if_le (tgt := 61) dX11_order_38 (by decide) ka kb) (fun c38 => ?_) (fun c38 => ?_)
      · rw [le_i rfl li_0] at c38
        refine WQ.st (fun _ _ kz => pw_ldc kX11_123 dX11_order_61 kz) ?_
        refine ⟨_, _, pw_iret dX11_order_63 rfl rfl rfl rfl, ?_⟩
        exact ⟨rI (by unfold sp_order; rw [c15, hw, Bool.true_and, if_pos (by rfl), if_neg (fun h => by have := h.1.1; omega)]), t, sl, ls, S, V, P, A, B, Q, rfl, hI, by omega, FrO.rfl, fun _ _ h => h⟩
      · rw [le_i rfl li_0] at c38
        refine WQ.st (fun _ _ kz => pw_iload2 dX11_order_41 kz) ?_
        refine WQ.st (fun _ _ kz => pw_iconst (v := 1) dX11_order_42 (by decide) kz) ?_
        refine WQ.st (fun _ _ kz => pw_aload0 dX11_order_43 kz) ?_
        refine WQ.st (fun _ _ kz => pw_getr gX11_71 dX11_order_44 (cf_s8 hC) hI.re.p84 kz) ?_
        refine WQ.st (fun _ _ kz => pw_geti gX11_320 dX11_order_47 (sh_s0 hE.dc.ka.hsh) kz) ?_
        rw [hSe.2.1, hN1]
        refine WQ.st (fun _ _ kz => pw_ishl dX11_order_50 kz) ?_
        rw [shl_N _ (by omega)]
        refine WQ.br (fun _ _ ka kb => pw_icmp_ge (tgt := 61) dX11_order_51 (by decide) ka kb) (fun c51 => ?_) (fun c51 => ?_)
        · rw [le_i (ix_n (by omega)) rfl] at c51
          refine WQ.st (fun _ _ kz => pw_ldc kX11_123 dX11_order_61 kz) ?_
          refine ⟨_, _, pw_iret dX11_order_63 rfl rfl rfl rfl, ?_⟩
          exact ⟨rI (by unfold sp_order; rw [c15, hw, Bool.true_and, if_pos (by rfl), if_neg (fun h => by have := h.1.2; omega)]), t, sl, ls, S, V, P, A, B, Q, rfl, hI, by omega, FrO.rfl, fun _ _ h => h⟩
        · rw [le_i (ix_n (by omega)) rfl] at c51
          refine WQ.st (fun _ _ kz => pw_iload3 dX11_order_54 kz) ?_
          refine wq_s1i wX11_isStore lX11_281 dX11_order_55 (k_isStore _) rfl (Nat.le_of_ble_eq_true rfl) (Nat.le_of_ble_eq_true rfl) (fun h55 z55 => ?_)
          subst z55
          refine WQ.bn (fun _ _ ka kb => pw_if_ne (tgt := 64) dX11_order_58 (by decide) ka kb) (fun c58 => ?_) (fun c58 => ?_)
          · rw [bI_n] at c58
            have hc2 := of_decide_eq_true c58
            obtain ⟨gg, hg41, rfl⟩ : ∃ gg : Nat, gg < 41 ∧ g = sI gg := ⟨(g.toInt + 20).toNat, by omega, sI_of hc2.1 (by omega)⟩
            obtain ⟨set, rfl, ts, _⟩ := nI_get (x := y) (n := 16) (by omega) (by omega) (by omega)
            have hl : set < 16 := by omega
            have hlN : set < 2 ^ nP al := by omega
            have hcs : (0 < (nI set).toInt ∧ (nI set).toInt < ((2 ^ nP al : Nat) : Int)) ∧ isS (sI gg).toInt = true := ⟨by omega, c58⟩
            refine WQ.st (fun _ _ kz => pw_aload0 dX11_order_64 kz) ?_
            refine WQ.st (fun _ _ kz => pw_getr gX11_105 dX11_order_65 (cf_s8 hC) (cf_p8_14 hC) kz) ?_
            refine WQ.st (fun _ _ kz => pw_iload1 dX11_order_68 kz) ?_
            refine WQ.st (fun _ _ kz => pw_aload0 dX11_order_69 kz) ?_
            refine WQ.st (fun _ _ kz => pw_getr gX11_35 dX11_order_70 (cf_s8 hC) (cf_p8_5 hC) kz) ?_
            refine WQ.st (fun _ _ kz => pw_iload2 dX11_order_73 kz) ?_
            refine WQ.st (fun _ _ kz => pw_iload3 dX11_order_74 kz) ?_
            have hob : bnd 48 (ogT al p (sI gg) set) := oG_bnd (by omega) (th_b9 hD hE.kv hp) (fun s _ => rf_e_bnd _ s) 4 (Nat.le_refl _) set hl (crd_4 set hl) (stN al p) (hE.kv.stE hp).2
            refine wq_o4v wX5_find lX11_323 rfl dX11_order_75 (cf_s116 hC) (k_find hI hls hp hg41 hl hlN) rfl (Nat.le_of_ble_eq_true rfl) (Nat.le_of_ble_eq_true rfl) (fun h75 z75 => ?_)
            obtain ⟨t5, sl5, ls5, S5, V5, P5, A5, B5, Q5, rfl, i5, l5, o5, r5, y1, y2⟩ := z75
            have hC := i5.de.dc.ka.cf
            refine WQ.st (fun _ _ kz => pw_aload0 dX11_order_78 kz) ?_
            refine WQ.st (fun _ _ kz => pw_getr gX11_105 dX11_order_79 (cf_s8 hC) (cf_p8_14 hC) kz) ?_
            refine WQ.st (fun _ _ kz => pw_geti gX11_327 dX11_order_82 (cf_s116 hC) kz) ?_
            rw [y1]
            refine WQ.st (fun _ _ kz => pw_ldcw kX11_307 dX11_order_85 kz) ?_
            refine WQ.bn (fun _ _ ka kb => pw_icmp_ne (tgt := 95) dX11_order_88 (by decide) ka kb) (fun c88 => ?_) (fun c88 => ?_)
            · have hM : ogT al p (sI gg) set ≠ -268435456 := fun h => c88 (by rw [h]; rfl)
              refine WQ.st (fun _ _ kz => pw_iload4 dX11_order_95 kz) ?_
              refine WQ.bn (fun _ _ ka kb => pw_if_ne (tgt := 110) dX11_order_97 (by decide) ka kb) (fun c97 => ?_) (fun c97 => ?_)
              · rw [i32_iff li_0] at c97
                have hw4 : 10 ≤ w.toInt ∧ w.toInt ≤ 13 := by
                  rw [decide_eq_false c97, Bool.false_or] at hw
                  exact of_decide_eq_true hw
                have h10 := (w10 w).mpr hw4
                obtain ⟨k, ek, tk, lk⟩ := nI_get (x := w - 10) (n := 4) h10.1 h10.2 (by omega)
                rw [ek]
                have ek2 : (w.toInt - 10).toNat = k := by
                  have := su_t (x := w) (z := 10) (by rw [li_10]; omega) (by rw [li_10]; omega)
                  rw [tk, li_10] at this
                  omega
                refine WQ.st (fun _ _ kz => pw_aload0 dX11_order_110 kz) ?_
                refine WQ.st (fun _ _ kz => pw_getr gX11_105 dX11_order_111 (cf_s8 hC) (cf_p8_14 hC) kz) ?_
                refine WQ.st (fun _ _ kz => pw_iload5 dX11_order_114 kz) ?_
                refine wq_o1i wX5_pieceAt lX11_328 rfl dX11_order_116 (cf_s116 hC) (k_pieceAt hC (k := k) (by omega)) rfl (Nat.le_of_ble_eq_true rfl) (Nat.le_of_ble_eq_true rfl) (fun h116 z116 => ?_)
                subst z116
                refine ⟨_, _, pw_iret dX11_order_119 rfl rfl rfl rfl, ?_⟩
                exact ⟨rI (by unfold sp_order; rw [c15, hw, Bool.true_and, if_pos (by rfl), if_pos hcs, tp, ts, Int.toNat_natCast, Int.toNat_natCast, if_neg hM, if_neg c97, ek2]; exact y2 hM k (by omega)), t5, sl5, ls5, S5, V5, P5, A5, B5, Q5, rfl, i5, by omega, o5, r5⟩
              · rw [i32_iff li_0] at c97
                refine WQ.st (fun _ _ kz => pw_aload0 dX11_order_100 kz) ?_
                refine WQ.st (fun _ _ kz => pw_getr gX11_105 dX11_order_101 (cf_s8 hC) (cf_p8_14 hC) kz) ?_
                refine WQ.st (fun _ _ kz => pw_geti gX11_327 dX11_order_104 (cf_s116 hC) kz) ?_
                rw [y1]
                refine WQ.st (fun _ _ kz => pw_goto (tgt := 119) dX11_order_107 (by decide) kz) ?_
                refine ⟨_, _, pw_iret dX11_order_119 rfl rfl rfl rfl, ?_⟩
                exact ⟨rI (by unfold sp_order; rw [c15, hw, Bool.true_and, if_pos (by rfl), if_pos hcs, tp, ts, Int.toNat_natCast, Int.toNat_natCast, if_neg hM, if_pos c97, cv_n hM]), t5, sl5, ls5, S5, V5, P5, A5, B5, Q5, rfl, i5, by omega, o5, r5⟩
            · have hM : ogT al p (sI gg) set = -268435456 := (cv_min hob (by omega)).mp c88
              refine WQ.st (fun _ _ kz => pw_ldcw kX11_294 dX11_order_91 kz) ?_
              refine ⟨_, _, pw_iret dX11_order_94 rfl rfl rfl rfl, ?_⟩
              exact ⟨rI (by unfold sp_order; rw [c15, hw, Bool.true_and, if_pos (by rfl), if_pos hcs, tp, ts, Int.toNat_natCast, Int.toNat_natCast, if_pos hM]), t5, sl5, ls5, S5, V5, P5, A5, B5, Q5, rfl, i5, by omega, o5, r5⟩
          · rw [bI_0] at c58
            refine WQ.st (fun _ _ kz => pw_ldc kX11_123 dX11_order_61 kz) ?_
            refine ⟨_, _, pw_iret dX11_order_63 rfl rfl rfl rfl, ?_⟩
            exact ⟨rI (by unfold sp_order; rw [c15, hw, Bool.true_and, if_pos (by rfl), if_neg (fun h => by rw [h.2] at c58; exact absurd c58 (by decide))]), t, sl, ls, S, V, P, A, B, Q, rfl, hI, by omega, FrO.rfl, fun _ _ h => h⟩
    · rw [i32_iff li_0] at c20
      refine WQ.st (fun _ _ kz => pw_iload5 dX11_order_23 kz) ?_
      refine WQ.br (fun _ _ ka kb => pw_if_lt (tgt := 34) dX11_order_25 (by decide) ka kb) (fun c25 => ?_) (fun c25 => ?_)
      · rw [lt_i rfl li_0] at c25
        have hw : (decide (w.toInt = 0) || decide (10 ≤ w.toInt ∧ w.toInt ≤ 13)) = false := by
          rw [decide_eq_false c20, decide_eq_false (fun h => by have := (w10 w).mpr h; omega)]; rfl
        refine WQ.st (fun _ _ kz => pw_ldc kX11_155 dX11_order_34 kz) ?_
        refine ⟨_, _, pw_iret dX11_order_36 rfl rfl rfl rfl, ?_⟩
        exact ⟨rI (by unfold sp_order; rw [c15, hw, Bool.true_and, if_neg (by decide)]), t, sl, ls, S, V, P, A, B, Q, rfl, hI, by omega, FrO.rfl, fun _ _ h => h⟩
      · rw [lt_i rfl li_0] at c25
        refine WQ.st (fun _ _ kz => pw_iload5 dX11_order_28 kz) ?_
        refine WQ.st (fun _ _ kz => pw_iconst (v := 4) dX11_order_30 (by decide) kz) ?_
        refine WQ.br (fun _ _ ka kb => pw_icmp_lt (tgt := 37) dX11_order_31 (by decide) ka kb) (fun c31 => ?_) (fun c31 => ?_)
        · rw [lt_i rfl li_4] at c31
          have hw4 := (w10 w).mp ⟨by omega, c31⟩
          have hw : (decide (w.toInt = 0) || decide (10 ≤ w.toInt ∧ w.toInt ≤ 13)) = true := by rw [decide_eq_true hw4, Bool.or_true]
          refine WQ.st (fun _ _ kz => pw_iload2 dX11_order_37 kz) ?_
          refine WQ.br (fun _ _ ka kb => pw_if_le (tgt := 61) dX11_order_38 (by decide) ka kb) (fun c38 => ?_) (fun c38 => ?_)
          · rw [le_i rfl li_0] at c38
            refine WQ.st (fun _ _ kz => pw_ldc kX11_123 dX11_order_61 kz) ?_
            refine ⟨_, _, pw_iret dX11_order_63 rfl rfl rfl rfl, ?_⟩
            exact ⟨rI (by unfold sp_order; rw [c15, hw, Bool.true_and, if_pos (by rfl), if_neg (fun h => by have := h.1.1; omega)]), t, sl, ls, S, V, P, A, B, Q, rfl, hI, by omega, FrO.rfl, fun _ _ h => h⟩
          · rw [le_i rfl li_0] at c38
            refine WQ.st (fun _ _ kz => pw_iload2 dX11_order_41 kz) ?_
            refine WQ.st (fun _ _ kz => pw_iconst (v := 1) dX11_order_42 (by decide) kz) ?_
            refine WQ.st (fun _ _ kz => pw_aload0 dX11_order_43 kz) ?_
            refine WQ.st (fun _ _ kz => pw_getr gX11_71 dX11_order_44 (cf_s8 hC) hI.re.p84 kz) ?_
            refine WQ.st (fun _ _ kz => pw_geti gX11_320 dX11_order_47 (sh_s0 hE.dc.ka.hsh) kz) ?_
            rw [hSe.2.1, hN1]
            refine WQ.st (fun _ _ kz => pw_ishl dX11_order_50 kz) ?_
            rw [shl_N _ (by omega)]
            refine WQ.br (fun _ _ ka kb => pw_icmp_ge (tgt := 61) dX11_order_51 (by decide) ka kb) (fun c51 => ?_) (fun c51 => ?_)
            · rw [le_i (ix_n (by omega)) rfl] at c51
              refine WQ.st (fun _ _ kz => pw_ldc kX11_123 dX11_order_61 kz) ?_
              refine ⟨_, _, pw_iret dX11_order_63 rfl rfl rfl rfl, ?_⟩
              exact ⟨rI (by unfold sp_order; rw [c15, hw, Bool.true_and, if_pos (by rfl), if_neg (fun h => by have := h.1.2; omega)]), t, sl, ls, S, V, P, A, B, Q, rfl, hI, by omega, FrO.rfl, fun _ _ h => h⟩
            · rw [le_i (ix_n (by omega)) rfl] at c51
              refine WQ.st (fun _ _ kz => pw_iload3 dX11_order_54 kz) ?_
              refine wq_s1i wX11_isStore lX11_281 dX11_order_55 (k_isStore _) rfl (Nat.le_of_ble_eq_true rfl) (Nat.le_of_ble_eq_true rfl) (fun h55 z55 => ?_)
              subst z55
              refine WQ.bn (fun _ _ ka kb => pw_if_ne (tgt := 64) dX11_order_58 (by decide) ka kb) (fun c58 => ?_) (fun c58 => ?_)
              · rw [bI_n] at c58
                have hc2 := of_decide_eq_true c58
                obtain ⟨gg, hg41, rfl⟩ : ∃ gg : Nat, gg < 41 ∧ g = sI gg := ⟨(g.toInt + 20).toNat, by omega, sI_of hc2.1 (by omega)⟩
                obtain ⟨set, rfl, ts, _⟩ := nI_get (x := y) (n := 16) (by omega) (by omega) (by omega)
                have hl : set < 16 := by omega
                have hlN : set < 2 ^ nP al := by omega
                have hcs : (0 < (nI set).toInt ∧ (nI set).toInt < ((2 ^ nP al : Nat) : Int)) ∧ isS (sI gg).toInt = true := ⟨by omega, c58⟩
                refine WQ.st (fun _ _ kz => pw_aload0 dX11_order_64 kz) ?_
                refine WQ.st (fun _ _ kz => pw_getr gX11_105 dX11_order_65 (cf_s8 hC) (cf_p8_14 hC) kz) ?_
                refine WQ.st (fun _ _ kz => pw_iload1 dX11_order_68 kz) ?_
                refine WQ.st (fun _ _ kz => pw_aload0 dX11_order_69 kz) ?_
                refine WQ.st (fun _ _ kz => pw_getr gX11_35 dX11_order_70 (cf_s8 hC) (cf_p8_5 hC) kz) ?_
                refine WQ.st (fun _ _ kz => pw_iload2 dX11_order_73 kz) ?_
                refine WQ.st (fun _ _ kz => pw_iload3 dX11_order_74 kz) ?_
                have hob : bnd 48 (ogT al p (sI gg) set) := oG_bnd (by omega) (th_b9 hD hE.kv hp) (fun s _ => rf_e_bnd _ s) 4 (Nat.le_refl _) set hl (crd_4 set hl) (stN al p) (hE.kv.stE hp).2
                refine wq_o4v wX5_find lX11_323 rfl dX11_order_75 (cf_s116 hC) (k_find hI hls hp hg41 hl hlN) rfl (Nat.le_of_ble_eq_true rfl) (Nat.le_of_ble_eq_true rfl) (fun h75 z75 => ?_)
                obtain ⟨t5, sl5, ls5, S5, V5, P5, A5, B5, Q5, rfl, i5, l5, o5, r5, y1, y2⟩ := z75
                have hC := i5.de.dc.ka.cf
                refine WQ.st (fun _ _ kz => pw_aload0 dX11_order_78 kz) ?_
                refine WQ.st (fun _ _ kz => pw_getr gX11_105 dX11_order_79 (cf_s8 hC) (cf_p8_14 hC) kz) ?_
                refine WQ.st (fun _ _ kz => pw_geti gX11_327 dX11_order_82 (cf_s116 hC) kz) ?_
                rw [y1]
                refine WQ.st (fun _ _ kz => pw_ldcw kX11_307 dX11_order_85 kz) ?_
                refine WQ.bn (fun _ _ ka kb => pw_icmp_ne (tgt := 95) dX11_order_88 (by decide) ka kb) (fun c88 => ?_) (fun c88 => ?_)
                · have hM : ogT al p (sI gg) set ≠ -268435456 := fun h => c88 (by rw [h]; rfl)
                  refine WQ.st (fun _ _ kz => pw_iload4 dX11_order_95 kz) ?_
                  refine WQ.bn (fun _ _ ka kb => pw_if_ne (tgt := 110) dX11_order_97 (by decide) ka kb) (fun c97 => ?_) (fun c97 => ?_)
                  · rw [i32_iff li_0] at c97
                    have hw4 : 10 ≤ w.toInt ∧ w.toInt ≤ 13 := by
                      rw [decide_eq_false c97, Bool.false_or] at hw
                      exact of_decide_eq_true hw
                    have h10 := (w10 w).mpr hw4
                    obtain ⟨k, ek, tk, lk⟩ := nI_get (x := w - 10) (n := 4) h10.1 h10.2 (by omega)
                    rw [ek]
                    have ek2 : (w.toInt - 10).toNat = k := by
                      have := su_t (x := w) (z := 10) (by rw [li_10]; omega) (by rw [li_10]; omega)
                      rw [tk, li_10] at this
                      omega
                    refine WQ.st (fun _ _ kz => pw_aload0 dX11_order_110 kz) ?_
                    refine WQ.st (fun _ _ kz => pw_getr gX11_105 dX11_order_111 (cf_s8 hC) (cf_p8_14 hC) kz) ?_
                    refine WQ.st (fun _ _ kz => pw_iload5 dX11_order_114 kz) ?_
                    refine wq_o1i wX5_pieceAt lX11_328 rfl dX11_order_116 (cf_s116 hC) (k_pieceAt hC (k := k) (by omega)) rfl (Nat.le_of_ble_eq_true rfl) (Nat.le_of_ble_eq_true rfl) (fun h116 z116 => ?_)
                    subst z116
                    refine ⟨_, _, pw_iret dX11_order_119 rfl rfl rfl rfl, ?_⟩
                    exact ⟨rI (by unfold sp_order; rw [c15, hw, Bool.true_and, if_pos (by rfl), if_pos hcs, tp, ts, Int.toNat_natCast, Int.toNat_natCast, if_neg hM, if_neg c97, ek2]; exact y2 hM k (by omega)), t5, sl5, ls5, S5, V5, P5, A5, B5, Q5, rfl, i5, by omega, o5, r5⟩
                  · rw [i32_iff li_0] at c97
                    refine WQ.st (fun _ _ kz => pw_aload0 dX11_order_100 kz) ?_
                    refine WQ.st (fun _ _ kz => pw_getr gX11_105 dX11_order_101 (cf_s8 hC) (cf_p8_14 hC) kz) ?_
                    refine WQ.st (fun _ _ kz => pw_geti gX11_327 dX11_order_104 (cf_s116 hC) kz) ?_
                    rw [y1]
                    refine WQ.st (fun _ _ kz => pw_goto (tgt := 119) dX11_order_107 (by decide) kz) ?_
                    refine ⟨_, _, pw_iret dX11_order_119 rfl rfl rfl rfl, ?_⟩
                    exact ⟨rI (by unfold sp_order; rw [c15, hw, Bool.true_and, if_pos (by rfl), if_pos hcs, tp, ts, Int.toNat_natCast, Int.toNat_natCast, if_neg hM, if_pos c97, cv_n hM]), t5, sl5, ls5, S5, V5, P5, A5, B5, Q5, rfl, i5, by omega, o5, r5⟩
                · have hM : ogT al p (sI gg) set = -268435456 := (cv_min hob (by omega)).mp c88
                  refine WQ.st (fun _ _ kz => pw_ldcw kX11_294 dX11_order_91 kz) ?_
                  refine ⟨_, _, pw_iret dX11_order_94 rfl rfl rfl rfl, ?_⟩
                  exact ⟨rI (by unfold sp_order; rw [c15, hw, Bool.true_and, if_pos (by rfl), if_pos hcs, tp, ts, Int.toNat_natCast, Int.toNat_natCast, if_pos hM]), t5, sl5, ls5, S5, V5, P5, A5, B5, Q5, rfl, i5, by omega, o5, r5⟩
              · rw [bI_0] at c58
                refine WQ.st (fun _ _ kz => pw_ldc kX11_123 dX11_order_61 kz) ?_
                refine ⟨_, _, pw_iret dX11_order_63 rfl rfl rfl rfl, ?_⟩
                exact ⟨rI (by unfold sp_order; rw [c15, hw, Bool.true_and, if_pos (by rfl), if_neg (fun h => by rw [h.2] at c58; exact absurd c58 (by decide))]), t, sl, ls, S, V, P, A, B, Q, rfl, hI, by omega, FrO.rfl, fun _ _ h => h⟩
        · rw [lt_i rfl li_4] at c31
          have hw : (decide (w.toInt = 0) || decide (10 ≤ w.toInt ∧ w.toInt ≤ 13)) = false := by
            rw [decide_eq_false c20, decide_eq_false (fun h => by have := (w10 w).mpr h; omega)]; rfl
          refine WQ.st (fun _ _ kz => pw_ldc kX11_155 dX11_order_34 kz) ?_
          refine ⟨_, _, pw_iret dX11_order_36 rfl rfl rfl rfl, ?_⟩
          exact ⟨rI (by unfold sp_order; rw [c15, hw, Bool.true_and, if_neg (by decide)]), t, sl, ls, S, V, P, A, B, Q, rfl, hI, by omega, FrO.rfl, fun _ _ h => h⟩
