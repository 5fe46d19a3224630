theorem WQ.kl {G : gT} {D : Nat} {M : mT} {pc : Nat} {ls : List (Option Value)} {st : List Value} {h : Ph} {S : sS} {B : sB} {Q : sP} {t sl u : Nat} {x : Nat → Int32} {L T : Nat} {r : RLn} {V A V1 A1 : sV} {P P1 : sP} (k : WQ G D M pc ls st h (KZL x L T u S B Q t sl r V1 A1 P1)) (f : FRW u V A P V1 A1 P1) : WQ G D M pc ls st h (KZL x L T u S B Q t sl r V A P) := by
  obtain ⟨q, h', k, z1, V2, A2, P2, z2, z3, z4⟩ := k
  exact ⟨q, h', k, z1, V2, A2, P2, z2, z3, f.tr z4⟩
theorem RLn.at_er (e : Int32 × Nat) (f : Nat → (Nat → Int32) → List Int32 → RLn) : RLn.nx (.error e) f = .error e := rfl
set_option maxRecDepth 20000 in
theorem l_read {G : gT} {S : sS} {B : sB} {Q : sP} {t sl u : Nat} (hu : 87 ≤ u) {x : Nat → Int32} {L T : Nat} (hT : TK x L T = 24) {D : Nat} (hD : 116 ≤ D) {y2 : Int32} : ∀ (n i : Nat) (F : Nat → Int32) (c : List Int32) (V A : sV) (P : sP) (k : Nat), T - i < n → KS x L T u i F c V A → RB T T i c → IVF F c → CF S P → SH S P u → P 10 9 = some u → k ≤ i → WQ G D mX6_read 78 [some (.ref 10), some (.ref 9), some (.int y2), some (.ref u), some (.int (nI k))] [] (t, sl, gh S V P A B Q) (KZL x L T u S B Q t sl (lpF (TK x L) (TV x L) (TPl x L) T n i F c) V A P) := by
  intro n
  induction n with
  | zero => intro i F c V A P k hn; omega
  | succ n ih =>
    intro i F c V A P k hn hS hB hI hC hU hp9 hk
    have hN := hS.1
    have hiT := hN.le
    have ht9 := hN.t9
    obtain ⟨D, rfl⟩ : ∃ D', D = D' + 1 := ⟨D - 1, by omega⟩
    refine WQ.st (fun _ _ kz => pw_iload4 dX6_read_78 kz) ?_
    refine WQ.st (fun _ _ kz => pw_sipush (v := 900) dX6_read_80 (by decide) kz) ?_
    refine WQ.br (fun _ _ ka kb => pw_icmp_ge (tgt := 131) dX6_read_83 (by decide) ka kb) (fun c83 => ?_) (fun c83 => ?_)
    · rw [le_i (show (900 : Int32).toInt = 900 from rfl) (ix_n (by omega))] at c83
      rw [lpF, if_pos (by rw [show i = T by omega]; exact hT)]
      refine WQ.st (fun _ _ kz => pw_iconst (v := 1) dX6_read_131 (by decide) kz) ?_
      refine ⟨_, _, pw_iret dX6_read_132 rfl rfl rfl rfl, ?_⟩
      exact ⟨rfl, V, A, P, rfl, hS, FRW.rfl⟩
    · rw [le_i (show (900 : Int32).toInt = 900 from rfl) (ix_n (by omega))] at c83
      refine WQ.st (fun _ _ kz => pw_aload0 dX6_read_86 kz) ?_
      refine wq_o0i wX6_kind lX6_70 rfl dX6_read_87 (cf_s10 hC) (k_kind hC hN) rfl (Nat.le_of_ble_eq_true rfl) (Nat.le_of_ble_eq_true rfl) (fun h87 z87 => ?_)
      subst z87
      refine WQ.st (fun _ _ kz => pw_iconst (v := 1) dX6_read_90 (by decide) kz) ?_
      refine WQ.br (fun _ _ ka kb => pw_icmp_eq (tgt := 131) dX6_read_91 (by decide) ka kb) (fun c91 => ?_) (fun c91 => ?_)
      · have h24 : TK x L i = 24 := (cc_i (TK_o (x := x) (L := L) (i := i)) (show tkO 24 by unfold tkO; omega) (by decide +kernel)).mp c91
        rw [lpF, if_pos h24]
        refine WQ.st (fun _ _ kz => pw_iconst (v := 1) dX6_read_131 (by decide) kz) ?_
        refine ⟨_, _, pw_iret dX6_read_132 rfl rfl rfl rfl, ?_⟩
        exact ⟨rfl, V, A, P, rfl, hS, FRW.rfl⟩
      · have h24 : ¬ TK x L i = 24 := fun q => c91 ((cc_i (TK_o (x := x) (L := L) (i := i)) (show tkO 24 by unfold tkO; omega) (by decide +kernel)).mpr q)
        rw [lpF, if_neg h24]
        have hlt := lt_T hT hiT rfl h24
        refine WQ.st (fun _ _ kz => pw_aload0 dX6_read_94 kz) ?_
        refine wq_o0i wX6_readLine lX6_74 rfl dX6_read_95 (cf_s10 hC) (k_readLine hC hU hp9 hu hT hS hI hB h24 (D := D) (by omega)) rfl (Nat.le_of_ble_eq_true rfl) (Nat.le_of_ble_eq_true rfl) (fun h95 z95 => ?_)
        obtain ⟨V2, A2, P2, rfl, z2, f2⟩ := z95
        generalize hr : lnF (TK x L) (TV x L) (TPl x L) T i F c = rr at *
        cases rr with
        | error e =>
          rw [RLn.at_er]
          refine WQ.br (fun _ _ ka kb => pw_if_eq (tgt := 110) dX6_read_98 (by decide) ka kb) (fun c98 => ?_) (fun c98 => absurd okL_e c98)
          refine WQ.st (fun _ _ kz => pw_iconst (v := 0) dX6_read_110 (by decide) kz) ?_
          refine ⟨_, _, pw_iret dX6_read_111 rfl rfl rfl rfl, ?_⟩
          exact ⟨rfl, V2, A2, P2, rfl, z2, f2⟩
        | ok s =>
          have s2 : KS x L T u s.1 s.2.1 s.2.2 V2 A2 := z2
          have n2 := s2.1
          have iv := lnF_iv hT (fun i h => TV_b h) hB h24 hI hr
          have hls := lnF_lt hT hB h24 hr
          have rb2 := lnF_rb hT hB h24 hr
          have hC := hC.fw f2
          have hU := hU.fw (by omega) f2
          have hp9 : P2 10 9 = some u := by rw [f2.2.2.2.2 9 (by omega)]; exact hp9
          rw [RLn.at_ok]
          unfold enF
          refine WQ.br (fun _ _ ka kb => pw_if_eq (tgt := 110) dX6_read_98 (by decide) ka kb) (fun c98 => absurd c98 okL_k) (fun c98 => ?_)
          refine WQ.st (fun _ _ kz => pw_aload0 dX6_read_101 kz) ?_
          refine WQ.st (fun _ _ kz => pw_bipush (v := 59) dX6_read_102 (by decide) kz) ?_
          refine wq_o1i wX6_take lX6_63 rfl dX6_read_104 (cf_s10 hC) ((k_rtake (d := 0) hC n2 hT (k := 30) (y := 59) (by unfold tkO; omega) (by decide +kernel) (by omega)).mn (by omega)) rfl (Nat.le_of_ble_eq_true rfl) (Nat.le_of_ble_eq_true rfl) (fun h104 z104 => ?_)
          obtain ⟨V3, rfl, g3, e3, f3⟩ := z104
          refine WQ.bn (fun _ _ ka kb => pw_if_ne (tgt := 112) dX6_read_107 (by decide) ka kb) (fun c107 => ?_) (fun c107 => ?_)
          · rw [bI_n] at c107
            have c107 := of_decide_eq_true c107
            rw [if_pos c107, RLn.at_ok]
            have n3 := g3 c107
            have hl9 : V3 u 9 = s.2.1 0 := by rw [f3.1 u (by omega)]; exact s2.2.1.2.1
            refine WQ.st (fun _ _ kz => pw_aload0 dX6_read_112 kz) ?_
            refine WQ.st (fun _ _ kz => pw_getr gX6_41 dX6_read_113 (cf_s10 hC) hp9 kz) ?_
            refine WQ.st (fun _ _ kz => pw_dup dX6_read_116 rfl kz) ?_
            refine WQ.st (fun _ _ kz => pw_geti gX6_67 dX6_read_117 (sh_s0 hU) kz) ?_
            rw [hl9]
            refine WQ.st (fun _ _ kz => pw_iconst (v := 1) dX6_read_120 (by decide) kz) ?_
            refine WQ.st (fun _ _ kz => pw_iadd dX6_read_121 kz) ?_
            refine WQ.st (fun _ _ kz => pw_puti (pX6_67 _ rfl) dX6_read_122 (sh_s0 hU) rfl rfl kz) ?_
            refine WQ.st (fun _ _ kz => pw_iinc4 (v := 1) dX6_read_125 (by decide) (by decide) (k := kz)) ?_
            rw [nI_1]
            refine WQ.st (fun _ _ kz => pw_goto (tgt := 78) dX6_read_128 (by decide) kz) ?_
            have ks3 : KS x L T u (s.1 + 1) (pm_up s.2.1 0 (s.2.1 0 + 1)) s.2.2 (up2 V3 u 9 (s.2.1 0 + 1)) A2 := by
              obtain ⟨_, hG, h6, h7, ⟨d0, y1, y2⟩, ⟨d1, y3, y4⟩⟩ := s2
              refine ⟨n3.fq (u := u) (by omega) (by rw [up2_na (by omega)]) (fun _ _ => rfl), ⟨?_, ?_, ?_, ?_, ?_, ?_⟩, ?_, ?_, ⟨d0, ?_, ?_⟩, ⟨d1, ?_, ?_⟩⟩
              · rw [up2_nk (by omega), f3.1 u (by omega), pm_up_ne (by omega)]; exact hG.1
              · rw [up2_eq, pm_up_eq]
              · intro j hj; rw [pm_up_ne (by omega)]; exact hG.2.2.1 j hj
              · intro j hj; rw [pm_up_ne (by omega)]; exact hG.2.2.2.1 j hj
              · intro j hj; rw [pm_up_ne (by omega)]; exact hG.2.2.2.2.1 j hj
              · intro j hj; rw [pm_up_ne (by omega)]; exact hG.2.2.2.2.2 j hj
              · rw [up2_nk (by omega), f3.1 u (by omega), pm_up_ne (by omega)]; exact h6
              · rw [up2_nk (by omega), f3.1 u (by omega), pm_up_ne (by omega)]; exact h7
              · exact (y1.fk f3 (by omega)).fr (by rw [up2_na (by omega)]) rfl
              · exact y2.f0 (pm_up_ne (by omega)) (pm_up_ne (by omega)) (pm_up_ne (by omega))
              · exact (y3.fk f3 (by omega)).fr (by rw [up2_na (by omega)]) rfl
              · exact y4.f0 (pm_up_ne (by omega)) (pm_up_ne (by omega)) (pm_up_ne (by omega))
            have rb3 : RB T T (s.1 + 1) s.2.2 := (rb2.eat hT c107 (by omega)).1 |> fun h => ⟨h.1, by have := h.2.1; omega, rb2.2.2⟩
            exact (ih (s.1 + 1) _ s.2.2 _ A2 P2 (k + 1) (by omega) ks3 rb3 (iv.li _) hC hU hp9 (by omega)).kl ((f2.tr f3.fw).tr (FRW.u (by omega)))
          · rw [bI_0] at c107
            have c107 := of_decide_eq_false c107
            rw [if_neg c107]
            refine WQ.st (fun _ _ kz => pw_iconst (v := 0) dX6_read_110 (by decide) kz) ?_
            refine ⟨_, _, pw_iret dX6_read_111 rfl rfl rfl rfl, ?_⟩
            exact ⟨rfl, V3, A2, P2, rfl, e3 c107, f2.tr f3.fw⟩
def FRD (u : Nat) (V A : sV) (P : sP) (V' A' : sV) (P' : sP) : Prop := (∀ b, b ≠ 10 → b < u ∨ u + 8 < b → V' b = V b) ∧ (∀ b, b ≠ 11 → b ≠ 12 → b ≠ 13 → b < u ∨ u + 8 < b → A' b = A b) ∧ (∀ b, b ≠ 10 → P' b = P b) ∧ ∀ k, k ≠ 7 → k ≠ 9 → k ≠ 10 → P' 10 k = P 10 k
theorem FRD.fw {u : Nat} {V A V1 A1 V2 A2 : sV} {P P1 P2 : sP} (h : FRD u V A P V1 A1 P1) (g : FRW u V1 A1 P1 V2 A2 P2) : FRD u V A P V2 A2 P2 := ⟨fun b h1 h2 => (g.1 b h1 h2).trans (h.1 b h1 h2), fun b h1 h2 h3 h4 => (g.2.2.1 b h4).trans (h.2.1 b h1 h2 h3 h4), fun b h1 => (g.2.2.2.1 b h1).trans (h.2.2.1 b h1), fun k h1 h2 h3 => (g.2.2.2.2 k h3).trans (h.2.2.2 k h1 h2 h3)⟩
set_option maxRecDepth 20000 in
theorem k_read {G : gT} {S : sS} {V A : sV} {P : sP} {B : sB} {Q : sP} {t sl u : Nat} (hC : CF S P) (hU : SH S P u) (hu : 87 ≤ u) {x : Nat → Int32} {L T : Nat} (hL9 : L ≤ 900) (hX : ∀ i, i < L → A 9 i &&& 255 = x i) (hT : TK x L T = 24) (hT2 : ∀ j, j < T → TK x L j ≠ 24) (hT9 : T ≤ 900) {D : Nat} (hD : 120 ≤ D) : WQ G D mX6_read 0 [some (.ref 10), some (.ref 9), some (.int (nI L)), some (.ref u), none] [] (t, sl, gh S V P A B Q) (fun q h' => q = some (.int (bI (okL (rdF (TK x L) (TV x L) (TPl x L) T)))) ∧ ∃ (V' A' : sV) (P' : sP), h' = (t, sl, gh S V' P' A' B Q) ∧ KXL x L T u (rdF (TK x L) (TV x L) (TPl x L) T) V' A' ∧ FRD u V A P V' A' P') := by
  obtain ⟨D, rfl⟩ : ∃ D', D = D' + 1 := ⟨D - 1, by omega⟩
  refine WQ.st (fun _ _ kz => pw_aload0 dX6_read_0 kz) ?_
  refine WQ.st (fun _ _ kz => pw_aload1 dX6_read_1 kz) ?_
  refine WQ.st (fun _ _ kz => pw_putr (pX6_34 _ rfl) dX6_read_2 (cf_s10 hC) kz) ?_
  refine WQ.st (fun _ _ kz => pw_aload0 dX6_read_5 kz) ?_
  refine WQ.st (fun _ _ kz => pw_iload2 dX6_read_6 kz) ?_
  refine WQ.st (fun _ _ kz => pw_aload1 dX6_read_7 kz) ?_
  refine WQ.st (fun _ _ kz => pw_len dX6_read_8 (cf_s9 hC) (by decide) kz) ?_
  refine WQ.st (fun _ _ kz => pw_min mmX6_49 dX6_read_9 (Nat.le_of_ble_eq_true rfl) (by omega) kz) ?_
  rw [if_neg (by rw [lt_i (show (Int32.ofNat 900).toInt = 900 from rfl) (ix_n (by omega))]; omega)]
  refine WQ.st (fun _ _ kz => pw_puti (pX6_38 _ rfl) dX6_read_12 (cf_s10 hC) rfl rfl kz) ?_
  refine WQ.st (fun _ _ kz => pw_aload0 dX6_read_15 kz) ?_
  refine WQ.st (fun _ _ kz => pw_aload3 dX6_read_16 kz) ?_
  refine WQ.st (fun _ _ kz => pw_putr (pX6_41 _ rfl) dX6_read_17 (cf_s10 hC) kz) ?_
  refine WQ.st (fun _ _ kz => pw_aload0 dX6_read_20 kz) ?_
  refine WQ.st (fun _ _ kz => pw_getr gX6_41 dX6_read_21 (cf_s10 hC) up2_eq kz) ?_
  have hC : CF S (up2 (up2 P 10 7 (some 9)) 10 9 (some u)) := hC.p10 (fun b h1 => by rw [up2_na h1, up2_na h1]) (fun k h7 h9 _ => by rw [up2_nk h9, up2_nk h7])
  have hU : SH S (up2 (up2 P 10 7 (some 9)) 10 9 (some u)) u := hU.p10 (by omega) (fun b h1 => by rw [up2_na h1, up2_na h1])
  have hp9 : (up2 (up2 P 10 7 (some 9)) 10 9 (some u)) 10 9 = some u := up2_eq
  refine wq_o0v wX7_clear lX6_55 rfl dX6_read_24 (sh_s0 hU) ((k_shclear (d := 0) hU).mn (by omega)) rfl (Nat.le_of_ble_eq_true rfl) (Nat.le_of_ble_eq_true rfl) (fun h24 z24 => ?_)
  obtain ⟨V1, A1, rfl, s1, p1, y1, la1, lb1, u1⟩ := z24
  refine WQ.st (fun _ _ kz => pw_aload0 dX6_read_27 kz) ?_
  refine WQ.st (fun _ _ kz => pw_iconst (v := 0) dX6_read_28 (by decide) kz) ?_
  refine WQ.st (fun _ _ kz => pw_puti (pX6_31 _ rfl) dX6_read_29 (cf_s10 hC) rfl rfl kz) ?_
  refine WQ.st (fun _ _ kz => pw_aload0 dX6_read_32 kz) ?_
  refine WQ.st (fun _ _ kz => pw_iconst (v := 0) dX6_read_33 (by decide) kz) ?_
  refine WQ.st (fun _ _ kz => pw_puti (pX6_11 _ rfl) dX6_read_34 (cf_s10 hC) rfl rfl kz) ?_
  refine WQ.st (fun _ _ kz => pw_aload0 dX6_read_37 kz) ?_
  refine WQ.st (fun _ _ kz => pw_iconst (v := -1) dX6_read_38 (by decide) kz) ?_
  refine WQ.st (fun _ _ kz => pw_puti (pX6_15 _ rfl) dX6_read_39 (cf_s10 hC) rfl rfl kz) ?_
  refine WQ.st (fun _ _ kz => pw_aload0 dX6_read_42 kz) ?_
  have hX1 : CTX x L (up2 (up2 (up2 V1 10 6 0) 10 0 0) 10 1 (-1)) (up2 (up2 P 10 7 (some 9)) 10 9 (some u)) A1 := ⟨by rw [up2_nk (by omega), up2_nk (by omega), up2_nk (by omega), u1.1 10 (by omega), up2_eq], hL9, by rw [up2_nk (by omega), up2_eq], by rw [u1.2 9 (by omega)]; exact hX⟩
  refine wq_o0v wX6_cut lX6_60 rfl dX6_read_43 (cf_s10 hC) ((k_rcut (d := 0) hC hX1 hT hT2).mn (by omega)) rfl (Nat.le_of_ble_eq_true rfl) (Nat.le_of_ble_eq_true rfl) (fun h43 z43 => ?_)
  obtain ⟨V3, A3, rfl, kt3, f3⟩ := z43
  have n3 : KN x L T 0 V3 A3 := ⟨kt3, by rw [f3.2.1 6 (by omega), up2_nk (by omega), up2_nk (by omega), up2_eq]; rfl, by omega, hT9, by rw [f3.2.1 8 (by omega)]; exact hX1.1, by rw [f3.2.1 0 (by omega), up2_nk (by omega), up2_eq], by rw [f3.2.1 1 (by omega), up2_eq]⟩
  have fd3 : FRD u V A P V3 A3 (up2 (up2 P 10 7 (some 9)) 10 9 (some u)) := ⟨fun b h1 h2 => by rw [f3.1 b h1, up2_na h1, up2_na h1, up2_na h1, u1.1 b h2, up2_na h1], fun b h1 h2 h3 h4 => by rw [f3.2.2 b h1 h2 h3, u1.2 b h4], fun b h1 => by rw [up2_na h1, up2_na h1], fun k h7 h9 _ => by rw [up2_nk h9, up2_nk h7]⟩
  have vu3 : V3 u = V1 u := by rw [f3.1 u (by omega), up2_na (by omega), up2_na (by omega), up2_na (by omega)]
  refine WQ.st (fun _ _ kz => pw_aload0 dX6_read_46 kz) ?_
  refine WQ.st (fun _ _ kz => pw_sipush (v := 208) dX6_read_47 (by decide) kz) ?_
  refine wq_o1i wX6_take lX6_63 rfl dX6_read_50 (cf_s10 hC) ((k_rtake (d := 0) hC n3 hT (k := 0) (y := 208) (by unfold tkO; omega) (by decide +kernel) (by omega)).mn (by omega)) rfl (Nat.le_of_ble_eq_true rfl) (Nat.le_of_ble_eq_true rfl) (fun h50 z50 => ?_)
  obtain ⟨V4, rfl, g4, e4, f4⟩ := z50
  refine WQ.br (fun _ _ ka kb => pw_if_eq (tgt := 65) dX6_read_53 (by decide) ka kb) (fun c53 => ?_) (fun c53 => ?_)
  · rw [bI_0] at c53
    have c53 := of_decide_eq_false c53
    unfold rdF
    rw [if_neg c53]
    refine WQ.st (fun _ _ kz => pw_iconst (v := 0) dX6_read_65 (by decide) kz) ?_
    refine ⟨_, _, pw_iret dX6_read_66 rfl rfl rfl rfl, ?_⟩
    exact ⟨rfl, V4, A3, _, rfl, e4 c53, fd3.fw f4.fw⟩
  · rw [bI_n] at c53
    have c53 := of_decide_eq_true c53
    unfold rdF
    rw [if_pos c53]
    have n4 := g4 c53
    refine WQ.st (fun _ _ kz => pw_aload0 dX6_read_56 kz) ?_
    refine WQ.st (fun _ _ kz => pw_bipush (v := 59) dX6_read_57 (by decide) kz) ?_
    refine wq_o1i wX6_take lX6_63 rfl dX6_read_59 (cf_s10 hC) ((k_rtake (d := 0) hC n4 hT (k := 30) (y := 59) (by unfold tkO; omega) (by decide +kernel) (by omega)).mn (by omega)) rfl (Nat.le_of_ble_eq_true rfl) (Nat.le_of_ble_eq_true rfl) (fun h59 z59 => ?_)
    obtain ⟨V5, rfl, g5, e5, f5⟩ := z59
    refine WQ.bn (fun _ _ ka kb => pw_if_ne (tgt := 67) dX6_read_62 (by decide) ka kb) (fun c62 => ?_) (fun c62 => ?_)
    · rw [bI_n] at c62
      have c62 := of_decide_eq_true c62
      unfold enF
      rw [if_pos c62, RLn.at_ok]
      have n5 := g5 c62
      have fk := f4.tr f5
      refine WQ.st (fun _ _ kz => pw_aload0 dX6_read_67 kz) ?_
      refine WQ.st (fun _ _ kz => pw_getr gX6_41 dX6_read_68 (cf_s10 hC) up2_eq kz) ?_
      refine WQ.st (fun _ _ kz => pw_iconst (v := 1) dX6_read_71 (by decide) kz) ?_
      refine WQ.st (fun _ _ kz => pw_puti (pX6_67 _ rfl) dX6_read_72 (sh_s0 hU) rfl rfl kz) ?_
      refine WQ.st (fun _ _ kz => pw_iconst (v := 0) dX6_read_75 (by decide) kz) ?_
      refine WQ.st (fun _ _ kz => pw_istore4 dX6_read_76 (by decide) (k := kz)) ?_
      have hlt1 := lt_T hT n4.le c62 (by omega)
      have ks : KS x L T u 2 (pm_up (fun _ => 0) 0 (0 + 1)) [] (up2 V5 u 9 1) A3 := by
        refine ⟨n5.fq (u := u) (by omega) (by rw [up2_na (by omega)]) (fun _ _ => rfl), ⟨?_, ?_, ?_, ?_, ?_, ?_⟩, ?_, ?_, ⟨[], ?_, Or.inl ⟨rfl, rfl⟩⟩, ⟨[], ?_, Or.inl ⟨rfl, rfl⟩⟩⟩
        · rw [up2_nk (by omega), fk.1 u (by omega), vu3]; exact s1.1
        · rw [up2_eq, pm_up_eq]; rfl
        · intro j hj; rw [pm_up_ne (by omega), f3.2.2 _ (by omega) (by omega) (by omega)]; exact s1.2.2.1 j hj
        · intro j hj; rw [pm_up_ne (by omega), f3.2.2 _ (by omega) (by omega) (by omega)]; exact s1.2.2.2.1 j hj
        · intro j hj; rw [pm_up_ne (by omega), f3.2.2 _ (by omega) (by omega) (by omega)]; exact s1.2.2.2.2.1 j hj
        · intro j hj; rw [pm_up_ne (by omega), f3.2.2 _ (by omega) (by omega) (by omega)]; exact s1.2.2.2.2.2 j hj
        · rw [up2_nk (by omega), fk.1 u (by omega), vu3]; exact p1
        · rw [up2_nk (by omega), fk.1 u (by omega), vu3]; exact y1
        · exact la1.fr (by rw [up2_na (by omega), fk.1 _ (by omega), f3.1 _ (by omega), up2_na (by omega), up2_na (by omega), up2_na (by omega)]) (f3.2.2 _ (by omega) (by omega) (by omega))
        · exact lb1.fr (by rw [up2_na (by omega), fk.1 _ (by omega), f3.1 _ (by omega), up2_na (by omega), up2_na (by omega), up2_na (by omega)]) (f3.2.2 _ (by omega) (by omega) (by omega))
      have fw5 : FRW u V3 A3 (up2 (up2 P 10 7 (some 9)) 10 9 (some u)) (up2 V5 u 9 1) A3 (up2 (up2 P 10 7 (some 9)) 10 9 (some u)) := fk.fw.tr (FRW.u (by omega))
      refine (l_read hu hT (by omega) (T + 1) 2 _ [] _ A3 _ 0 (by omega) ks ⟨by omega, by show 0 + (T - 2) ≤ T; omega, hT9⟩ (IVF.zero.li _) hC hU hp9 (by omega)).imp (fun r h' z => ?_)
      obtain ⟨z1, V6, A6, P6, z2, z3, z4⟩ := z
      exact ⟨z1, V6, A6, P6, z2, z3, fd3.fw (fw5.tr z4)⟩
    · rw [bI_0] at c62
      have c62 := of_decide_eq_false c62
      unfold enF
      rw [if_neg c62]
      refine WQ.st (fun _ _ kz => pw_iconst (v := 0) dX6_read_65 (by decide) kz) ?_
      refine ⟨_, _, pw_iret dX6_read_66 rfl rfl rfl rfl, ?_⟩
      exact ⟨rfl, V5, A3, _, rfl, e5 c62, fd3.fw (f4.tr f5).fw⟩
