def sBn : Nat → Nat
  | 0 => 0
  | n + 1 => 4 * (1 + sBn n)
theorem mx_le9 {a b : Int32} (h : b ≤ a) : mxo a b = a := by
  unfold mxo
  rw [if_neg (Int32.not_lt.mpr h)]
theorem mx_lt9 {a b : Int32} (h : a < b) : mxo a b = b := by
  unfold mxo
  rw [if_pos h]
theorem in_b9 {left k : Nat} (hl : left < 16) (hk : k < 4) : (nI left >>> (nI k &&& 31)) &&& 1 = 0 ↔ inB left k = false := by
  rw [brd_x (by omega), ix_n (by omega), inB_brd]
theorem sB4 : ∀ n, n < 4 → sBn n ≤ 84 := by decide
set_option maxRecDepth 20000 in
theorem k_search {G : gT} {d : Nat} {al : Nat → Int32} {W : WT} {sh p tm gg : Nat} (hp : p < 5) (htm : tm < 10) (hat : atm al p tm = al) (hg : gg < 41) : ∀ n, n ≤ 4 → ∀ (left dp : Nat) (F : Nat → Int32) (g : Int32) (t sl ls : Nat) (S : sS) (V : sV) (P : sP) (A : sV) (B : sB) (Q : sP), CI S V P A B Q t al W sh ls → ls + sBn n + 5 < 2000000000 → left < 16 → left < 2 ^ nP al → crd left = n → dp + n ≤ 4 → (∀ s, s < 41 → bnd (12 * dp) (F s)) → (∀ s, s < 41 → A (118 + dp) s = cv (F s)) → V 116 0 = cv g → bnd 48 g → V 116 7 = nI p → V 116 8 = nI tm → (∀ k, dp + n ≤ k → k < 4 → A 135 k = -1) → WQ G (d + 6 + n) mX5_search 0 [some (.ref 116), some (.int (nI left)), some (.int (nI dp)), some (.int (sI gg)), none] [] (t, sl, gh S V P A B Q) (fun r h' => r = none ∧ ∃ (t' sl' ls' : Nat) (S' : sS) (V' : sV) (P' : sP) (A' : sV) (B' : sB) (Q' : sP), h' = (t', sl', gh S' V' P' A' B' Q') ∧ CI S' V' P' A' B' Q' t' al W sh ls' ∧ ls' ≤ ls + sBn n ∧ FrO S V P A B t S' V' P' A' B' t' ∧ (∀ k1 k2, Room2 S Q t sl k1 k2 → Room2 S' Q' t' sl' k1 k2) ∧ (V' 116 7 = nI p ∧ V' 116 8 = nI tm) ∧ (∀ i, i ≤ dp → A' (118 + i) = A (118 + i)) ∧ ((∀ k, k < dp → A' 135 k = A 135 k) ∧ ∀ k, dp + n ≤ k → k < 4 → A' 135 k = -1) ∧ ((¬ g < bsv (thT al p) (rf_e (sI gg)) (nP al) F left ∧ V' 116 0 = V 116 0 ∧ A' 136 = A 136) ∨ (g < bsv (thT al p) (rf_e (sI gg)) (nP al) F left ∧ V' 116 0 = cv (bsv (thT al p) (rf_e (sI gg)) (nP al) F left) ∧ ∀ k, k < 4 → A' 136 k = if k < dp then A 135 k else lx (thT al p) (rf_e (sI gg)) (nP al) (k - dp) F left))) := by
  intro n
  induction n with
  | zero =>
    intro _ left dp F g t sl ls S V P A B Q hI hls hl hlN hn hdp hF hR hv0 hg48 hv7 hv8 htl
    have : left = 0 := crd_0 left hl hn
    subst this
    rw [show nI 0 = 0 from rfl]
    have hE := hI.de
    have hC := hE.dc.ka.cf
    have hD := hE.dc.ka.dv
    have hOQ := hI.re.oq
    have hN4 : nP al ≤ 4 := by have := hD.n4; unfold nP; omega
    have hT := th_b9 hD hE.kv hp
    have he : ∀ s, s < 41 → bnd 0 (rf_e (sI gg) s) := fun s _ => rf_e_bnd _ s
    have eM : mfo (fun f => ob (F f) (rf_e (sI gg) f)) 41 = bsv (thT al p) (rf_e (sI gg)) (nP al) F 0 := rfl
    have hMb : bnd 48 (bsv (thT al p) (rf_e (sI gg)) (nP al) F 0) := bsv_bnd hN4 hT he hF (by omega) (by show 12 * dp + 12 * 0 ≤ 48; omega)
    refine WQ.st (fun _ _ kz => pw_iload1 dX5_search_0 kz) ?_
    refine WQ.bn (fun _ _ ka kb => pw_if_ne (tgt := 46) dX5_search_1 (by decide) ka kb) (fun c1 => absurd (by decide) c1) (fun c1 => ?_)
    refine WQ.st (fun _ _ kz => pw_aload0 dX5_search_4 kz) ?_
    refine WQ.st (fun _ _ kz => pw_getr gX5_18 dX5_search_5 (cf_s116 hC) (cf_p116_3 hC) kz) ?_
    refine WQ.st (fun _ _ kz => pw_iload2 dX5_search_8 kz) ?_
    refine WQ.st (fun _ _ kz => pw_qldr (j := dp) dX5_search_9 (cf_s117 hC) (by decide) (ix_m rfl (by omega)) (by omega) (hOQ dp (by omega)) kz) ?_
    refine WQ.st (fun _ _ kz => pw_iload3 dX5_search_10 kz) ?_
    refine wq_s2i wX5_mostFrom lX5_67 dX5_search_11 (k_omost (cf_e hC (by omega)) hg (fun s hs => (hF s hs).up (by omega)) hR) rfl (Nat.le_of_ble_eq_true rfl) (Nat.le_of_ble_eq_true rfl) (fun h11 z11 => ?_)
    subst z11
    rw [eM]
    refine WQ.st (fun _ _ kz => pw_istore4 dX5_search_14 (by decide) (k := kz)) ?_
    refine WQ.st (fun _ _ kz => pw_iload4 dX5_search_16 kz) ?_
    refine WQ.st (fun _ _ kz => pw_aload0 dX5_search_18 kz) ?_
    refine WQ.st (fun _ _ kz => pw_geti gX5_10 dX5_search_19 (cf_s116 hC) kz) ?_
    rw [hv0]
    refine WQ.br (fun _ _ ka kb => pw_icmp_le (tgt := 45) dX5_search_22 (by decide) ka kb) (fun c22 => ?_) (fun c22 => ?_)
    · have c22 : ¬ g < bsv (thT al p) (rf_e (sI gg)) (nP al) F 0 := fun q => absurd ((cv_lt9 hg48 hMb (by omega) (by omega)).mpr q) (Int32.not_lt.mpr c22)
      refine ⟨_, _, pw_vret dX5_search_45 rfl rfl rfl, ?_⟩
      exact ⟨rfl, t, sl, ls, S, V, P, A, B, Q, rfl, hI, by omega, FrO.rfl, fun _ _ h => h, ⟨hv7, hv8⟩, fun _ _ => rfl, ⟨fun _ _ => rfl, htl⟩, Or.inl ⟨c22, hv0, rfl⟩⟩
    · have c22 : g < bsv (thT al p) (rf_e (sI gg)) (nP al) F 0 := (cv_lt9 hg48 hMb (by omega) (by omega)).mp (Int32.not_le.mp c22)
      refine WQ.st (fun _ _ kz => pw_aload0 dX5_search_25 kz) ?_
      refine WQ.st (fun _ _ kz => pw_iload4 dX5_search_26 kz) ?_
      refine WQ.st (fun _ _ kz => pw_puti (pX5_10 _ rfl) dX5_search_28 (cf_s116 hC) rfl rfl kz) ?_
      refine WQ.st (fun _ _ kz => pw_aload0 dX5_search_31 kz) ?_
      refine WQ.st (fun _ _ kz => pw_getr gX5_25 dX5_search_32 (cf_s116 hC) (cf_p116_5 hC) kz) ?_
      refine WQ.st (fun _ _ kz => pw_iconst (v := 0) dX5_search_35 (by decide) kz) ?_
      refine WQ.st (fun _ _ kz => pw_aload0 dX5_search_36 kz) ?_
      refine WQ.st (fun _ _ kz => pw_getr gX5_28 dX5_search_37 (cf_s116 hC) (cf_p116_6 hC) kz) ?_
      refine WQ.st (fun _ _ kz => pw_iconst (v := 0) dX5_search_40 (by decide) kz) ?_
      refine WQ.st (fun _ _ kz => pw_iconst (v := 4) dX5_search_41 (by decide) kz) ?_
      refine WQ.st (fun _ _ kz => pw_acpy (sp := 0) (dp := 0) (n := 4) acX5_71 dX5_search_42 (cf_s135 hC) (cf_s136 hC) rfl rfl rfl (by decide) (by decide) (by omega) (Nat.le_of_ble_eq_true rfl) kz) ?_
      refine ⟨_, _, pw_vret dX5_search_45 rfl rfl rfl, ?_⟩
      obtain ⟨i1, o1⟩ := hI.ord (V' := up2 V 116 0 (cv (bsv (thT al p) (rf_e (sI gg)) (nP al) F 0))) (A' := pm_up A 136 (cpyF (A 135) (A 136) 0 0 4)) (fun x hx => up2_na hx) (fun x hx => pm_up_ne (by omega))
      refine ⟨rfl, t, sl, ls, S, _, P, _, B, Q, rfl, i1, by omega, o1, fun _ _ h => h, ⟨by rw [up2_nk (by omega)]; exact hv7, by rw [up2_nk (by omega)]; exact hv8⟩, fun i hi => pm_up_ne (by omega), ⟨fun k hk => by rw [pm_up_ne (by omega)], fun k h1 h2 => by rw [pm_up_ne (by omega)]; exact htl k h1 h2⟩, Or.inr ⟨c22, up2_eq, fun k hk => ?_⟩⟩
      rw [pm_up_eq, cpyF_i hk]
      by_cases e : k < dp
      · rw [if_pos e]
      · rw [if_neg e, htl k (by omega) hk]
        cases k - dp <;> rfl
  | succ n ih =>
    intro hn4 left dp F g t0 sl0 ls0 S0 V0 P0 A0 B0 Q0 hI hls hl hlN hn hdp hF hR hv0 hg48 hv7 hv8 htl
    rw [show d + 6 + (n + 1) = d + n + 6 + 1 by omega]
    rw [show d + 6 + n = d + n + 6 by omega] at ih
    have h0 : left ≠ 0 := fun q => by rw [q] at hn; exact absurd hn (by show ¬ (0 = n + 1); omega)
    have hE0 := hI.de
    have hE := hI.de
    have hC := hE.dc.ka.cf
    have hD := hE.dc.ka.dv
    have hOQ := hI.re.oq
    have hN4 : nP al ≤ 4 := by have := hD.n4; unfold nP; omega
    have hT := th_b9 hD hE.kv hp
    have he : ∀ s, s < 41 → bnd 0 (rf_e (sI gg) s) := fun s _ => rf_e_bnd _ s
    have hKc : 12 * dp + 12 * crd left ≤ 48 := by omega
    have hcb : ∀ j, j < 4 → bnd 48 ((fun j => if inB left j = true then bsv (thT al p) (rf_e (sI gg)) (nP al) (spr (thT al p) j F) (rmB left j) else -268435456) j) := fun j hj => by
      show bnd 48 (if inB left j = true then _ else _)
      by_cases hb : inB left j = true
      · rw [if_pos hb]
        have hc := rm_c left hl j hj hb
        exact bsv_bnd hN4 hT he (spr_bnd (fun f t h1 h2 => hT j f t (inB_N (nP al) (by omega) left hl hlN j hj hb) h1 h2) hF (by omega)) (rm_lt hl) (by omega)
      · rw [if_neg hb]
        exact Or.inl rfl
    have loop : ∀ (m k : Nat) (t sl ls : Nat) (S : sS) (V : sV) (P : sP) (A : sV) (B : sB) (Q : sP), k + m = 4 → CI S V P A B Q t al W sh ls → ls ≤ ls0 + k * (1 + sBn n) → FrO S0 V0 P0 A0 B0 t0 S V P A B t → (∀ k1 k2, Room2 S0 Q0 t0 sl0 k1 k2 → Room2 S Q t sl k1 k2) → V 116 7 = nI p → V 116 8 = nI tm → (∀ i, i ≤ dp → A (118 + i) = A0 (118 + i)) → (∀ x, x < dp → A 135 x = A0 135 x) → (∀ x, dp + (n + 1) ≤ x → x < 4 → A 135 x = -1) → ((¬ g < mfo (fun j => if inB left j = true then bsv (thT al p) (rf_e (sI gg)) (nP al) (spr (thT al p) j F) (rmB left j) else -268435456) k ∧ V 116 0 = V0 116 0 ∧ A 136 = A0 136) ∨ (g < mfo (fun j => if inB left j = true then bsv (thT al p) (rf_e (sI gg)) (nP al) (spr (thT al p) j F) (rmB left j) else -268435456) k ∧ V 116 0 = cv (mfo (fun j => if inB left j = true then bsv (thT al p) (rf_e (sI gg)) (nP al) (spr (thT al p) j F) (rmB left j) else -268435456) k) ∧ ∃ i, i < k ∧ inB left i = true ∧ bsv (thT al p) (rf_e (sI gg)) (nP al) (spr (thT al p) i F) (rmB left i) = mfo (fun j => if inB left j = true then bsv (thT al p) (rf_e (sI gg)) (nP al) (spr (thT al p) j F) (rmB left j) else -268435456) k ∧ (∀ j, j < i → inB left j = true → ¬ bsv (thT al p) (rf_e (sI gg)) (nP al) (spr (thT al p) j F) (rmB left j) = mfo (fun j => if inB left j = true then bsv (thT al p) (rf_e (sI gg)) (nP al) (spr (thT al p) j F) (rmB left j) else -268435456) k) ∧ ∀ x, x < 4 → A 136 x = if x < dp then A0 135 x else if x = dp then nI i else lx (thT al p) (rf_e (sI gg)) (nP al) (x - dp - 1) (spr (thT al p) i F) (rmB left i))) → WQ G (d + n + 6 + 1) mX5_search 49 [some (.ref 116), some (.int (nI left)), some (.int (nI dp)), some (.int (sI gg)), some (.int (nI k))] [] (t, sl, gh S V P A B Q) (fun r h' => r = none ∧ ∃ (t' sl' ls' : Nat) (S' : sS) (V' : sV) (P' : sP) (A' : sV) (B' : sB) (Q' : sP), h' = (t', sl', gh S' V' P' A' B' Q') ∧ CI S' V' P' A' B' Q' t' al W sh ls' ∧ ls' ≤ ls0 + sBn (n + 1) ∧ FrO S0 V0 P0 A0 B0 t0 S' V' P' A' B' t' ∧ (∀ k1 k2, Room2 S0 Q0 t0 sl0 k1 k2 → Room2 S' Q' t' sl' k1 k2) ∧ (V' 116 7 = nI p ∧ V' 116 8 = nI tm) ∧ (∀ i, i ≤ dp → A' (118 + i) = A0 (118 + i)) ∧ ((∀ k, k < dp → A' 135 k = A0 135 k) ∧ ∀ k, dp + (n + 1) ≤ k → k < 4 → A' 135 k = -1) ∧ ((¬ g < bsv (thT al p) (rf_e (sI gg)) (nP al) F left ∧ V' 116 0 = V0 116 0 ∧ A' 136 = A0 136) ∨ (g < bsv (thT al p) (rf_e (sI gg)) (nP al) F left ∧ V' 116 0 = cv (bsv (thT al p) (rf_e (sI gg)) (nP al) F left) ∧ ∀ k, k < 4 → A' 136 k = if k < dp then A0 135 k else lx (thT al p) (rf_e (sI gg)) (nP al) (k - dp) F left))) := by
      intro m
      induction m with
      | zero =>
        intro k t sl ls S V P A B Q hk hI hls2 hO hr h7 h8 hrow htr htl hinv
        have hk : k = 4 := hk
        subst hk
        have hC := hI.de.dc.ka.cf
        rw [show nI 4 = 4 from rfl]
        refine WQ.st (fun _ _ kz => pw_iload4 dX5_search_49 kz) ?_
        refine WQ.st (fun _ _ kz => pw_iconst (v := 4) dX5_search_51 (by decide) kz) ?_
        refine WQ.br (fun _ _ ka kb => pw_icmp_ge (tgt := 137) dX5_search_52 (by decide) ka kb) (fun c52 => ?_) (fun c52 => absurd (by decide) c52)
        refine ⟨_, _, pw_vret dX5_search_137 rfl rfl rfl, ?_⟩
        have hm := bsv_mfo hN4 hT he hF hl hKc hlN h0
        rw [hm] at hinv
        refine ⟨rfl, t, sl, ls, S, V, P, A, B, Q, rfl, hI, by show ls ≤ ls0 + 4 * (1 + sBn n); omega, hO, hr, ⟨h7, h8⟩, hrow, ⟨htr, htl⟩, ?_⟩
        rcases hinv with h | ⟨h1, h2, i, hi, hb, hq, hfi, hx⟩
        · exact Or.inl h
        · refine Or.inr ⟨h1, h2, fun x hx4 => ?_⟩
          have elf : lfp (thT al p) (rf_e (sI gg)) (nP al) F left = i := fpn_first (by rw [hb, decide_eq_true hq]; rfl) 4 0 (by omega) (by omega) (fun j _ hj => by
            cases hbj : inB left j with
            | false => rfl
            | true => rw [decide_eq_false (hfi j hj hbj)]; rfl)
          rw [hx x hx4]
          by_cases e1 : x < dp
          · rw [if_pos e1, if_pos e1]
          · rw [if_neg e1, if_neg e1]
            by_cases e2 : x = dp
            · rw [if_pos e2, e2, Nat.sub_self]
              show _ = (if left = 0 then -1 else nI (lfp (thT al p) (rf_e (sI gg)) (nP al) F left))
              rw [if_neg h0, elf]
            · rw [if_neg e2, show x - dp = (x - dp - 1) + 1 by omega]
              show _ = (if left = 0 then -1 else lx (thT al p) (rf_e (sI gg)) (nP al) (x - dp - 1 + 1 - 1) (spr (thT al p) (lfp (thT al p) (rf_e (sI gg)) (nP al) F left) F) (rmB left (lfp (thT al p) (rf_e (sI gg)) (nP al) F left)))
              rw [if_neg h0, elf]
      | succ m ihm =>
        intro k t sl ls S V P A B Q hk hI hls2 hO hr h7 h8 hrow htr htl hinv
        have hC := hI.de.dc.ka.cf
        have hOQ := hI.re.oq
        have hsb := sB4 n (by omega)
        have hs1 : sBn (n + 1) = 4 * (1 + sBn n) := rfl
        have hmul := Nat.mul_le_mul (show k ≤ 3 by omega) (Nat.le_refl (1 + sBn n))
        refine WQ.st (fun _ _ kz => pw_iload4 dX5_search_49 kz) ?_
        refine WQ.st (fun _ _ kz => pw_iconst (v := 4) dX5_search_51 (by decide) kz) ?_
        refine WQ.br (fun _ _ ka kb => pw_icmp_ge (tgt := 137) dX5_search_52 (by decide) ka kb) (fun c52 => absurd c52 (by rw [le_i li_4 (ix_n (by omega))]; omega)) (fun c52 => ?_)
        refine WQ.st (fun _ _ kz => pw_iload2 dX5_search_55 kz) ?_
        refine WQ.st (fun _ _ kz => pw_iconst (v := 4) dX5_search_56 (by decide) kz) ?_
        refine WQ.br (fun _ _ ka kb => pw_icmp_ge (tgt := 137) dX5_search_57 (by decide) ka kb) (fun c57 => absurd c57 (by rw [le_i li_4 (ix_n (by omega))]; omega)) (fun c57 => ?_)
        refine WQ.st (fun _ _ kz => pw_iload1 dX5_search_60 kz) ?_
        refine WQ.st (fun _ _ kz => pw_iload4 dX5_search_61 kz) ?_
        refine WQ.st (fun _ _ kz => pw_ishr dX5_search_63 kz) ?_
        refine WQ.st (fun _ _ kz => pw_iconst (v := 1) dX5_search_64 (by decide) kz) ?_
        refine WQ.st (fun _ _ kz => pw_iand dX5_search_65 kz) ?_
        refine WQ.br (fun _ _ ka kb => pw_if_eq (tgt := 131) dX5_search_66 (by decide) ka kb) (fun c66 => ?_) (fun c66 => ?_)
        · rw [in_b9 hl (by omega)] at c66
          have eM : mfo (fun j => if inB left j = true then bsv (thT al p) (rf_e (sI gg)) (nP al) (spr (thT al p) j F) (rmB left j) else -268435456) (k + 1) = mfo (fun j => if inB left j = true then bsv (thT al p) (rf_e (sI gg)) (nP al) (spr (thT al p) j F) (rmB left j) else -268435456) k := by
            show mxo (mfo (fun j => if inB left j = true then bsv (thT al p) (rf_e (sI gg)) (nP al) (spr (thT al p) j F) (rmB left j) else -268435456) k) ((fun j => if inB left j = true then bsv (thT al p) (rf_e (sI gg)) (nP al) (spr (thT al p) j F) (rmB left j) else -268435456) k) = _
            rw [show (fun j => if inB left j = true then bsv (thT al p) (rf_e (sI gg)) (nP al) (spr (thT al p) j F) (rmB left j) else -268435456) k = -268435456 from by show (if inB left k = true then _ else _) = _; rw [c66, if_neg (by decide)]]
            exact mx_le9 (mfo_c _ _)
          refine WQ.st (fun _ _ kz => pw_iinc4 (v := 1) dX5_search_131 (by decide) (by decide) (k := kz)) ?_
          refine WQ.st (fun _ _ kz => pw_goto (tgt := 49) dX5_search_134 (by decide) kz) ?_
          rw [nI_1]
          exact ihm (k + 1) t sl ls S V P A B Q (by omega) hI (by rw [Nat.succ_mul]; omega) hO hr h7 h8 hrow htr htl (by
            rw [eM]
            rcases hinv with h | ⟨h1, h2, i, hi, h3⟩
            · exact Or.inl h
            · exact Or.inr ⟨h1, h2, i, by omega, h3⟩)
        · have hbk : inB left k = true := by
            rw [in_b9 hl (by omega)] at c66
            cases h : inB left k with
            | false => exact absurd h c66
            | true => rfl
          have hkN := inB_N (nP al) (by omega) left hl hlN k (by omega) hbk
          have hik : isQ al (nI k).toInt = true := by
            unfold isQ
            rw [ix_n (by omega)]
            exact decide_eq_true (by unfold nP at hkN; omega)
          have hrc := rm_c left hl k (by omega) hbk
          refine WQ.st (fun _ _ kz => pw_aload0 dX5_search_69 kz) ?_
          refine WQ.st (fun _ _ kz => pw_getr gX5_25 dX5_search_70 (cf_s116 hC) (cf_p116_5 hC) kz) ?_
          refine WQ.st (fun _ _ kz => pw_iload2 dX5_search_73 kz) ?_
          refine WQ.st (fun _ _ kz => pw_iload4 dX5_search_74 kz) ?_
          refine WQ.st (fun _ _ kz => pw_ast (j := dp) dX5_search_76 (cf_s135 hC) (ix_m rfl (by omega)) (by omega)  kz) ?_
          obtain ⟨iT, oT⟩ := hI.ord (V' := V) (A' := (up2 A 135 dp (nI k))) (fun _ _ => rfl) (fun x hx => up2_na (by omega))
          refine WQ.st (fun _ _ kz => pw_aload0 dX5_search_77 kz) ?_
          refine WQ.st (fun _ _ kz => pw_getr gX5_37 dX5_search_78 (cf_s116 hC) (cf_p116_1 hC) kz) ?_
          refine WQ.st (fun _ _ kz => pw_aload0 dX5_search_81 kz) ?_
          refine WQ.st (fun _ _ kz => pw_geti gX5_31 dX5_search_82 (cf_s116 hC) kz) ?_
          rw [h7]
          refine WQ.st (fun _ _ kz => pw_aload0 dX5_search_85 kz) ?_
          refine WQ.st (fun _ _ kz => pw_geti gX5_34 dX5_search_86 (cf_s116 hC) kz) ?_
          rw [h8]
          refine WQ.st (fun _ _ kz => pw_iload4 dX5_search_89 kz) ?_
          refine wq_o3v wX0_takeUp lX5_77 rfl dX5_search_91 (cf_s96 hC) (k_takeUp iT.de.dc.ka (by omega) hp htm (show k < 4 by omega) hik) rfl (Nat.le_of_ble_eq_true rfl) (Nat.le_of_ble_eq_true rfl) (fun h91 z91 => ?_)
          obtain ⟨t5, sl5, ls5, S5, V5, P5, A5, B5, Q5, rfl, k5, l5, f5, r5⟩ := z91
          have i5 := iT.ask (k5.dc iT.de.dc f5.1 (iT.de.dc.hb.to (by rw [f5.2.2.2.1 103 (by omega)])) (iT.de.dc.rh.to (by rw [f5.2.2.2.1 107 (by omega)]) (by rw [f5.2.2.2.1 107 (by omega)])) (iT.de.dc.hw.to (by rw [f5.2.2.2.1 107 (by omega)]) (by rw [f5.2.2.2.1 107 (by omega)])) (f5.2.2.2.2.1 109 (by omega) (by omega) (by omega) (by omega))) f5.d
          have hC := k5.cf
          have hOQ := i5.re.oq
          have a5 : ∀ x, x ≠ 97 → x ≠ 98 → x ≠ 100 → x ≠ 101 → A5 x = (up2 A 135 dp (nI k)) x := f5.2.2.2.2.1
          have hR5 : ∀ s, s < 41 → A5 (118 + dp) s = cv (F s) := fun s hs => by rw [a5 _ (by omega) (by omega) (by omega) (by omega), up2_na (by omega), hrow dp (Nat.le_refl _)]; exact hR s hs
          refine WQ.st (fun _ _ kz => pw_aload0 dX5_search_94 kz) ?_
          refine WQ.st (fun _ _ kz => pw_getr gX5_41 dX5_search_95 (cf_s116 hC) (cf_p116_2 hC) kz) ?_
          refine WQ.st (fun _ _ kz => pw_aload0 dX5_search_98 kz) ?_
          refine WQ.st (fun _ _ kz => pw_getr gX5_18 dX5_search_99 (cf_s116 hC) (cf_p116_3 hC) kz) ?_
          refine WQ.st (fun _ _ kz => pw_iload2 dX5_search_102 kz) ?_
          refine WQ.st (fun _ _ kz => pw_qldr (j := dp) dX5_search_103 (cf_s117 hC) (by decide) (ix_m rfl (by omega)) (by omega) (hOQ dp (by omega)) kz) ?_
          refine WQ.st (fun _ _ kz => pw_aload0 dX5_search_104 kz) ?_
          refine WQ.st (fun _ _ kz => pw_getr gX5_18 dX5_search_105 (cf_s116 hC) (cf_p116_3 hC) kz) ?_
          refine WQ.st (fun _ _ kz => pw_iload2 dX5_search_108 kz) ?_
          refine WQ.st (fun _ _ kz => pw_iconst (v := 1) dX5_search_109 (by decide) kz) ?_
          refine WQ.st (fun _ _ kz => pw_iadd dX5_search_110 kz) ?_
          rw [show nI dp + 1 = nI (dp + 1) from nI_1 _]
          refine WQ.st (fun _ _ kz => pw_qldr (j := (dp + 1)) dX5_search_111 (cf_s117 hC) (by decide) (ix_m rfl (by omega)) (by omega) (hOQ (dp + 1) (by omega)) kz) ?_
          refine wq_o2v wX10_spread lX5_82 rfl dX5_search_112 (cf_s107 hC) (k_spread k5 i5.de.dc.hw (fr := 118 + dp) (to := 118 + (dp + 1)) (K := 12 * dp) (F := F) (cf_e hC (by omega)) (by omega) (cf_e hC (by omega)) (by omega) (by omega) hF hR5) rfl (Nat.le_of_ble_eq_true rfl) (Nat.le_of_ble_eq_true rfl) (fun h112 z112 => ?_)
          obtain ⟨P7, A7, B7, rfl, k7, w7, p1, p2, a1, a2, b2⟩ := z112
          have fr : FrD 20 S5 V5 P5 A5 B5 Q5 t5 S5 V5 P7 A7 B7 Q5 t5 := ⟨Nat.le_refl _, fun _ _ => rfl, fun _ _ => rfl, fun x hx => p1 x (by omega), fun x hx => a2 x (by omega) (by omega) (by omega) (by omega), fun x hx => b2 x (by omega) (by omega) (by omega), fun _ _ => rfl⟩
          have i7 := i5.step k7 fr (a2 109 (by omega) (by omega) (by omega) (by omega)) (i5.de.dc.hb.to (p1 103 (by omega))) (i5.de.dc.rh.to (p2 9 (by omega) (by omega)) (p2 10 (by omega) (by omega))) w7
          have hO7 := ((hO.tr oT).tr ((FrT.d (a := 20) f5).o (Or.inr rfl))).tr (fr.o (Or.inr rfl))
          have hC := k7.cf
          have v7 : V5 116 = V 116 := f5.2.2.1 116 (by omega)
          have a7 : ∀ x, (x < 97 ∨ 113 < x) → x ≠ 118 + (dp + 1) → A7 x = (up2 A 135 dp (nI k)) x := fun x h1 h2 => by rw [a2 x (by omega) (by omega) h2 (by omega), a5 x (by omega) (by omega) (by omega) (by omega)]
          have hR7 : ∀ s, s < 41 → A7 (118 + (dp + 1)) s = cv ((spr (thT al p) k F) s) := fun s hs => by rw [a1 s hs, hat, sp_spr hD hE0.kv hp (by omega) hF (by omega) hs]
          have hF7 : ∀ s, s < 41 → bnd (12 * (dp + 1)) ((spr (thT al p) k F) s) := fun s hs => (spr_bnd (fun f t h1 h2 => hT k f t hkN h1 h2) hF (by omega) s hs).up (by omega)
          obtain ⟨gc, hgc, hgb, hgv⟩ : ∃ gc : Int32, ((¬ g < mfo (fun j => if inB left j = true then bsv (thT al p) (rf_e (sI gg)) (nP al) (spr (thT al p) j F) (rmB left j) else -268435456) k ∧ gc = g) ∨ (g < mfo (fun j => if inB left j = true then bsv (thT al p) (rf_e (sI gg)) (nP al) (spr (thT al p) j F) (rmB left j) else -268435456) k ∧ gc = mfo (fun j => if inB left j = true then bsv (thT al p) (rf_e (sI gg)) (nP al) (spr (thT al p) j F) (rmB left j) else -268435456) k)) ∧ bnd 48 gc ∧ V 116 0 = cv gc := by
            rcases hinv with ⟨h1, h2, _⟩ | ⟨h1, h2, _⟩
            · exact ⟨g, Or.inl ⟨h1, rfl⟩, hg48, by rw [h2]; exact hv0⟩
            · exact ⟨_, Or.inr ⟨h1, rfl⟩, mfo_bnd (fun j hj => hcb j (by omega)), h2⟩
          refine WQ.st (fun _ _ kz => pw_aload0 dX5_search_115 kz) ?_
          refine WQ.st (fun _ _ kz => pw_iload1 dX5_search_116 kz) ?_
          refine WQ.st (fun _ _ kz => pw_iconst (v := 1) dX5_search_117 (by decide) kz) ?_
          refine WQ.st (fun _ _ kz => pw_iload4 dX5_search_118 kz) ?_
          refine WQ.st (fun _ _ kz => pw_ishl dX5_search_120 kz) ?_
          refine WQ.st (fun _ _ kz => pw_iconst (v := -1) dX5_search_121 (by decide) kz) ?_
          refine WQ.st (fun _ _ kz => pw_ixor dX5_search_122 kz) ?_
          refine WQ.st (fun _ _ kz => pw_iand dX5_search_123 kz) ?_
          refine WQ.st (fun _ _ kz => pw_iload2 dX5_search_124 kz) ?_
          refine WQ.st (fun _ _ kz => pw_iconst (v := 1) dX5_search_125 (by decide) kz) ?_
          refine WQ.st (fun _ _ kz => pw_iadd dX5_search_126 kz) ?_
          refine WQ.st (fun _ _ kz => pw_iload3 dX5_search_127 kz) ?_
          rw [rmB_I left hl k (by omega), show nI dp + 1 = nI (dp + 1) from nI_1 _]
          refine wq_o3v wX5_search lX5_63 rfl dX5_search_128 (cf_s116 hC) (ih (by omega) (rmB left k) (dp + 1) (spr (thT al p) k F) gc t5 sl5 ls5 S5 V5 P7 A7 B7 Q5 i7 (by have := sB4 n (by omega); have := Nat.mul_le_mul (show k ≤ 3 by omega) (Nat.le_refl (1 + sBn n)); omega) (rm_lt hl) (rm_lt hlN) (by omega) (by omega) hF7 hR7 (by rw [v7]; exact hgv) hgb (by rw [v7]; exact h7) (by rw [v7]; exact h8) (fun x h1 h2 => by rw [a7 135 (by omega) (by omega), up2_nk (by omega)]; exact htl x (by omega) h2)) rfl (Nat.le_of_ble_eq_true rfl) (Nat.le_of_ble_eq_true rfl) (fun h128 z128 => ?_)
          obtain ⟨t8, sl8, ls8, S8, V8, P8, A8, B8, Q8, rfl, i8, l8, o8, r8, ⟨s7, s8⟩, e8, ⟨u8, x8⟩, res⟩ := z128
          have hC := i8.de.dc.ka.cf
          have hk8 : ls8 ≤ ls0 + (k + 1) * (1 + sBn n) := by rw [Nat.succ_mul]; omega
          have kk := fun hv => ihm (k + 1) t8 sl8 ls8 S8 V8 P8 A8 B8 Q8 (by omega) i8 hk8 (hO7.tr o8) (fun k1 k2 h => r8 _ _ (r5 _ _ (hr k1 k2 h))) s7 s8 (fun i hi => by rw [e8 i (by omega), a7 _ (by omega) (by omega), up2_na (by omega)]; exact hrow i hi) (fun x hx => by rw [u8 x (by omega), a7 135 (by omega) (by omega), up2_nk (by omega)]; exact htr x hx) (fun x h1 h2 => x8 x (by omega) h2) hv
          have eMk : mfo (fun j => if inB left j = true then bsv (thT al p) (rf_e (sI gg)) (nP al) (spr (thT al p) j F) (rmB left j) else -268435456) (k + 1) = mxo (mfo (fun j => if inB left j = true then bsv (thT al p) (rf_e (sI gg)) (nP al) (spr (thT al p) j F) (rmB left j) else -268435456) k) (bsv (thT al p) (rf_e (sI gg)) (nP al) (spr (thT al p) k F) (rmB left k)) := by
            show mxo (mfo (fun j => if inB left j = true then bsv (thT al p) (rf_e (sI gg)) (nP al) (spr (thT al p) j F) (rmB left j) else -268435456) k) ((fun j => if inB left j = true then bsv (thT al p) (rf_e (sI gg)) (nP al) (spr (thT al p) j F) (rmB left j) else -268435456) k) = _
            rw [show (fun j => if inB left j = true then bsv (thT al p) (rf_e (sI gg)) (nP al) (spr (thT al p) j F) (rmB left j) else -268435456) k = bsv (thT al p) (rf_e (sI gg)) (nP al) (spr (thT al p) k F) (rmB left k) from by show (if inB left k = true then _ else _) = _; rw [if_pos hbk]]
          rw [eMk] at kk
          refine WQ.st (fun _ _ kz => pw_iinc4 (v := 1) dX5_search_131 (by decide) (by decide) (k := kz)) ?_
          refine WQ.st (fun _ _ kz => pw_goto (tgt := 49) dX5_search_134 (by decide) kz) ?_
          rw [nI_1]
          refine kk ?_
          rcases res with ⟨q1, q2, q3⟩ | ⟨q1, q2, q3⟩
          · have q1 := Int32.not_lt.mp q1
            have v0 : V8 116 0 = V 116 0 := by rw [q2, v7]
            have f0 : A8 136 = A 136 := by rw [q3, a7 136 (by omega) (by omega), up2_na (by omega)]
            rcases hinv with ⟨h1, h2, h3⟩ | ⟨h1, h2, i, hi, hb, hq, hfi, hx⟩
            · have egc : gc = g := by rcases hgc with ⟨_, e⟩ | ⟨e, _⟩; exact e; exact absurd e h1
              rw [egc] at q1
              refine Or.inl ⟨fun q => ?_, by rw [v0]; exact h2, by rw [f0]; exact h3⟩
              rcases mxo_or (mfo (fun j => if inB left j = true then bsv (thT al p) (rf_e (sI gg)) (nP al) (spr (thT al p) j F) (rmB left j) else -268435456) k) (bsv (thT al p) (rf_e (sI gg)) (nP al) (spr (thT al p) k F) (rmB left k)) with e | e
              · rw [e] at q; exact h1 q
              · rw [e] at q; exact absurd q (Int32.not_lt.mpr q1)
            · have egc : gc = mfo (fun j => if inB left j = true then bsv (thT al p) (rf_e (sI gg)) (nP al) (spr (thT al p) j F) (rmB left j) else -268435456) k := by rcases hgc with ⟨e, _⟩ | ⟨_, e⟩; exact absurd h1 e; exact e
              rw [egc] at q1
              rw [mx_le9 q1]
              exact Or.inr ⟨h1, by rw [v0]; exact h2, i, by omega, hb, hq, hfi, fun x hx4 => by rw [f0]; exact hx x hx4⟩
          · have hmk : mfo (fun j => if inB left j = true then bsv (thT al p) (rf_e (sI gg)) (nP al) (spr (thT al p) j F) (rmB left j) else -268435456) k < bsv (thT al p) (rf_e (sI gg)) (nP al) (spr (thT al p) k F) (rmB left k) := by
              rcases hgc with ⟨e1, e2⟩ | ⟨e1, e2⟩
              · rw [e2] at q1
                exact Int32.lt_of_le_of_lt (Int32.not_lt.mp e1) q1
              · rw [e2] at q1
                exact q1
            have hgk : g < bsv (thT al p) (rf_e (sI gg)) (nP al) (spr (thT al p) k F) (rmB left k) := by
              rcases hgc with ⟨e1, e2⟩ | ⟨e1, e2⟩
              · rw [e2] at q1
                exact q1
              · exact Int32.lt_trans e1 hmk
            rw [mx_lt9 hmk]
            refine Or.inr ⟨hgk, q2, k, by omega, hbk, rfl, fun j hj hbj q => ?_, fun x hx4 => ?_⟩
            · have := mfo_ge (fun j => if inB left j = true then bsv (thT al p) (rf_e (sI gg)) (nP al) (spr (thT al p) j F) (rmB left j) else -268435456) k j hj
              rw [if_pos hbj, q] at this
              exact absurd hmk (Int32.not_lt.mpr this)
            · rw [q3 x hx4]
              by_cases e1 : x < dp
              · rw [if_pos (by omega), if_pos e1, a7 135 (by omega) (by omega), up2_nk (by omega)]
                exact htr x e1
              · rw [if_neg e1]
                by_cases e2 : x = dp
                · rw [if_pos (by omega), if_pos e2, e2, a7 135 (by omega) (by omega), up2_eq]
                · rw [if_neg (by omega), if_neg e2, show x - (dp + 1) = x - dp - 1 by omega]
    refine WQ.st (fun _ _ kz => pw_iload1 dX5_search_0 kz) ?_
    refine WQ.bn (fun _ _ ka kb => pw_if_ne (tgt := 46) dX5_search_1 (by decide) ka kb) (fun c1 => ?_) (fun c1 => absurd c1 (fun q => h0 (by rw [eq_i (ix_n (by omega)) li_0] at q; omega)))
    refine WQ.st (fun _ _ kz => pw_iconst (v := 0) dX5_search_46 (by decide) kz) ?_
    refine WQ.st (fun _ _ kz => pw_istore4 dX5_search_47 (by decide) (k := kz)) ?_
    rw [show (0 : Int32) = nI 0 from rfl]
    exact loop 4 0 t0 sl0 ls0 S0 V0 P0 A0 B0 Q0 (by omega) hI (by omega) FrO.rfl (fun _ _ h => h) hv7 hv8 (fun _ _ => rfl) (fun _ _ => rfl) htl (Or.inl ⟨fun q => absurd q (by have := rf_c0 hg48 (by omega); exact Int32.not_lt.mpr this), rfl, rfl⟩)
