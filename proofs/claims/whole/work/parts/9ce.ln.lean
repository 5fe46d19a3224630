theorem FRA.fw {u a : Nat} {V A V' A' : sV} {P : sP} (h : FRA a V A V' A') (ha : u ≤ a) (ha2 : a + 1 ≤ u + 8) : FRW u V A P V' A' P := ⟨fun b h1 h2 => h.1 b h1 (by omega), h.2.1, fun b h1 => h.2.2 b (by omega), fun _ _ => _root_.rfl, fun _ _ => _root_.rfl⟩
set_option maxRecDepth 20000 in
theorem k_readLaw0 {G : gT} {S : sS} {P : sP} {B : sB} {Q : sP} {t sl u : Nat} (hC : CF S P) (hU : SH S P u) (hp9 : P 10 9 = some u) (hu : 87 ≤ u) {x : Nat → Int32} {L T : Nat} (hT : TK x L T = 24) {i : Nat} {F : Nat → Int32} {c : List Int32} {V A : sV} (hS : KS x L T u i F c V A) (hI : IVF F c) (hB : RB T T i c) (hk : TK x L i ≠ 24) {D : Nat} (hD : 112 ≤ D) : WQ G D mX6_readLaw 0 [some (.ref 10), some (.ref (u + 5)), some (.int 2)] [] (t, sl, gh S V P A B Q) (KZL x L T u S B Q t sl (lnL (TK x L) (TV x L) (TPl x L) T 0 2 i F c) V A P) := by
  obtain ⟨hN, hG, h6, h7, hl0, hl1⟩ := hS
  have hiT := hN.le
  have ht9 := hN.t9
  have hlt := lt_T hT hiT rfl hk
  obtain ⟨D, rfl⟩ : ∃ D', D = D' + 1 := ⟨D - 1, by omega⟩
  unfold lnL
  refine WQ.st (fun _ _ kz => pw_aload0 dX6_readLaw_0 kz) ?_
  refine WQ.st (fun _ _ kz => pw_dup dX6_readLaw_1 rfl kz) ?_
  refine WQ.st (fun _ _ kz => pw_geti gX6_31 dX6_readLaw_2 (cf_s10 hC) kz) ?_
  rw [hN.at]
  refine WQ.st (fun _ _ kz => pw_iconst (v := 1) dX6_readLaw_5 (by decide) kz) ?_
  refine WQ.st (fun _ _ kz => pw_iadd dX6_readLaw_6 kz) ?_
  rw [nI_1]
  refine WQ.st (fun _ _ kz => pw_puti (pX6_31 _ rfl) dX6_readLaw_7 (cf_s10 hC) rfl rfl kz) ?_
  refine WQ.st (fun _ _ kz => pw_aload0 dX6_readLaw_10 kz) ?_
  refine WQ.st (fun _ _ kz => pw_aload1 dX6_readLaw_11 kz) ?_
  refine WQ.st (fun _ _ kz => pw_putr (pX6_45 _ rfl) dX6_readLaw_12 (cf_s10 hC) kz) ?_
  have hC : CF S (up2 P 10 10 (some (u + 5))) := hC.p10 (fun b h1 => up2_na h1) (fun k _ _ h3 => up2_nk h3)
  have hU : SH S (up2 P 10 10 (some (u + 5))) u := hU.p10 (by omega) (fun b h1 => up2_na h1)
  have hL : LA S (up2 P 10 10 (some (u + 5))) (u + 5) := hU.la
  have hLs := la_s0 hL
  have hp10 : (up2 P 10 10 (some (u + 5))) 10 10 = some (u + 5) := up2_eq
  refine WQ.st (fun _ _ kz => pw_aload0 dX6_readLaw_15 kz) ?_
  refine WQ.st (fun _ _ kz => pw_getr gX6_45 dX6_readLaw_16 (cf_s10 hC) hp10 kz) ?_
  refine wq_o0v wX4_clear lX6_167 rfl dX6_readLaw_19 hLs (k_lclear (a := u + 5) hL) rfl (Nat.le_of_ble_eq_true rfl) (Nat.le_of_ble_eq_true rfl) (fun h19 z19 => ?_)
  subst z19
  have g1 : FRK V (up2 V 10 6 (nI (i + 1))) := FRK.up (by omega)
  have w1 : FRW u V A P (up2 (up2 (up2 V 10 6 (nI (i + 1))) (u + 5) 1 0) (u + 5) 2 0) A (up2 P 10 10 (some (u + 5))) := ⟨fun b h1 h2 => by rw [up2_na (by omega), up2_na (by omega), up2_na h1], fun k h1 h2 h3 => by rw [up2_na (by omega), up2_na (by omega), up2_nk h3], fun _ _ => rfl, fun b h1 => up2_na h1, fun k h1 => up2_nk h1⟩
  have n1 : KN x L T (i + 1) (up2 (up2 (up2 V 10 6 (nI (i + 1))) (u + 5) 1 0) (u + 5) 2 0) A := (hN.go hlt).fq (u := u) (by omega) (by rw [up2_na (by omega), up2_na (by omega)]) (fun _ _ => rfl)
  refine WQ.st (fun _ _ kz => pw_aload0 dX6_readLaw_22 kz) ?_
  refine WQ.st (fun _ _ kz => pw_bipush (v := 58) dX6_readLaw_23 (by decide) kz) ?_
  refine wq_o1i wX6_take lX6_63 rfl dX6_readLaw_25 (cf_s10 hC) ((k_rtake (d := 0) hC n1 hT (k := 31) (y := 58) (by unfold tkO; omega) (by decide +kernel) (by omega)).mn (by omega)) rfl (Nat.le_of_ble_eq_true rfl) (Nat.le_of_ble_eq_true rfl) (fun h25 z25 => ?_)
  obtain ⟨V3, rfl, g3, e3, f3⟩ := z25
  refine WQ.br (fun _ _ ka kb => pw_if_eq (tgt := 44) dX6_readLaw_28 (by decide) ka kb) (fun c28 => ?_) (fun c28 => ?_)
  · rw [bI_0] at c28
    have c28 := of_decide_eq_false c28
    rw [if_neg c28]
    refine WQ.st (fun _ _ kz => pw_iconst (v := 0) dX6_readLaw_44 (by decide) kz) ?_
    refine ⟨_, _, pw_iret dX6_readLaw_45 rfl rfl rfl rfl, ?_⟩
    exact ⟨rfl, V3, A, _, rfl, e3 c28, w1.tr f3.fw⟩
  · rw [bI_n] at c28
    have c28 := of_decide_eq_true c28
    rw [if_pos c28]
    have n3 := g3 c28
    have hlt2 := lt_T hT n1.le c28 (by omega)
    have rb2 : RB T T (i + 2) (c ++ []) := by rw [List.append_nil]; exact ⟨by omega, by have := hB.2.1; omega, hB.2.2⟩
    have wd0 : LWD V3 A (u + 5) [] := (LWD.nil (by rw [up2_nk (by omega), up2_eq]) up2_eq).fk f3 (by omega)
    have vu : ∀ {V4 A4 : sV}, FRA (u + 5) V3 A V4 A4 → V4 u = V u := fun f4 => by rw [f4.1 u (by omega) (by omega), f3.1 u (by omega), up2_na (by omega), up2_na (by omega), up2_na (by omega)]
    have rk : rkT 2 ≤ 9 := rk_9 _
    refine WQ.st (fun _ _ kz => pw_aload0 dX6_readLaw_31 kz) ?_
    refine WQ.st (fun _ _ kz => pw_iload2 dX6_readLaw_32 kz) ?_
    refine WQ.st (fun _ _ kz => pw_iconst (v := 0) dX6_readLaw_33 (by decide) kz) ?_
    refine wq_o2i wX6_readChain lX6_170 rfl dX6_readLaw_34 (cf_s10 hC) (((kc_all hC hL hp10 (by omega) hT (10 * T + 20)).2.2.2.1 (i + 2) 0 c [] T V3 A 108 (by omega) (by omega) n3 wd0 rb2 (by omega)).mn (by omega)) rfl (Nat.le_of_ble_eq_true rfl) (Nat.le_of_ble_eq_true rfl) (fun h34 z34 => ?_)
    obtain ⟨V4, A4, rfl, z4, f4⟩ := z34
    have vu := vu f4
    rw [List.append_nil] at z4 ⊢
    generalize hr : ps (TK x L) (TV x L) (TPl x L) (10 * T + 20) 2 (i + 2) 0 c = rr at *
    cases rr with
    | error e =>
      refine WQ.br (fun _ _ ka kb => pw_if_eq (tgt := 44) dX6_readLaw_37 (by decide) ka kb) (fun c37 => ?_) (fun c37 => absurd okB_e c37)
      refine WQ.st (fun _ _ kz => pw_iconst (v := 0) dX6_readLaw_44 (by decide) kz) ?_
      refine ⟨_, _, pw_iret dX6_readLaw_45 rfl rfl rfl rfl, ?_⟩
      exact ⟨rfl, V4, A4, (up2 P 10 10 (some (u + 5))), rfl, z4, (w1.tr f3.fw).tr (f4.fw (by omega) (by omega))⟩
    | ok s =>
      refine WQ.br (fun _ _ ka kb => pw_if_eq (tgt := 44) dX6_readLaw_37 (by decide) ka kb) (fun c37 => absurd c37 okB_k) (fun c37 => ?_)
      refine WQ.st (fun _ _ kz => pw_iconst (v := 1) dX6_readLaw_40 (by decide) kz) ?_
      refine WQ.st (fun _ _ kz => pw_goto (tgt := 45) dX6_readLaw_41 (by decide) kz) ?_
      refine ⟨_, _, pw_iret dX6_readLaw_45 rfl rfl rfl rfl, ?_⟩
      obtain ⟨n4, d4, e4, w4⟩ := z4
      have e4 : s.2 = c ++ d4 := e4
      have sle : nI s.2.length - nI c.length = nI d4.length := by rw [e4, List.length_append, nI_subk (by omega), Nat.add_sub_cancel_left]
      have fa := (w1.tr f3.fw).tr (f4.fw (P := (up2 P 10 10 (some (u + 5)))) (u := u) (by omega) (by omega))
      refine ⟨rfl, V4, A4, (up2 P 10 10 (some (u + 5))), rfl, ⟨n4, ?_, ?_, ?_, ?_, ?_⟩, fa⟩
      · refine SG.cg (F := F) ⟨?_, ?_, ?_, ?_, ?_, ?_⟩ ?_ ?_ ?_
        · rw [vu]; exact hG.1
        · rw [vu]; exact hG.2.1
        · rw [f4.2.2 (u + 1) (by omega)]; exact hG.2.2.1
        · rw [f4.2.2 (u + 2) (by omega)]; exact hG.2.2.2.1
        · rw [f4.2.2 (u + 3) (by omega)]; exact hG.2.2.2.2.1
        · rw [f4.2.2 (u + 4) (by omega)]; exact hG.2.2.2.2.2
        · show pm_up (pm_up (pm_up F 4 1) 6 (nI c.length)) 8 (nI s.2.length - nI c.length) 3 = F 3
          rw [pm_up_ne (by omega), pm_up_ne (by omega), pm_up_ne (by omega)]
        · show pm_up (pm_up (pm_up F 4 1) 6 (nI c.length)) 8 (nI s.2.length - nI c.length) 0 = F 0
          rw [pm_up_ne (by omega), pm_up_ne (by omega), pm_up_ne (by omega)]
        · intro k hk
          show pm_up (pm_up (pm_up F 4 1) 6 (nI c.length)) 8 (nI s.2.length - nI c.length) k = F k
          rw [pm_up_ne (by omega), pm_up_ne (by omega), pm_up_ne (by omega)]
      · show V4 u 6 = pm_up (pm_up (pm_up F 4 1) 6 (nI c.length)) 8 (nI s.2.length - nI c.length) 1
        rw [pm_up_ne (by omega), pm_up_ne (by omega), pm_up_ne (by omega), vu]; exact h6
      · show V4 u 7 = pm_up (pm_up (pm_up F 4 1) 6 (nI c.length)) 8 (nI s.2.length - nI c.length) 2
        rw [pm_up_ne (by omega), pm_up_ne (by omega), pm_up_ne (by omega), vu]; exact h7
      · refine ⟨d4, w4, Or.inr ⟨?_, c, [], ?_, ?_, ?_⟩⟩
        · show pm_up (pm_up (pm_up F 4 1) 6 (nI c.length)) 8 (nI s.2.length - nI c.length) 4 = 1
          rw [pm_up_ne (by omega), pm_up_ne (by omega), pm_up_eq]
        · rw [List.append_nil]; exact e4
        · show pm_up (pm_up (pm_up F 4 1) 6 (nI c.length)) 8 (nI s.2.length - nI c.length) 6 = nI c.length
          rw [pm_up_ne (by omega), pm_up_eq]
        · show pm_up (pm_up (pm_up F 4 1) 6 (nI c.length)) 8 (nI s.2.length - nI c.length) 8 = nI d4.length
          rw [pm_up_eq]; exact sle
      · obtain ⟨d, y1, y2⟩ := hl1
        show ∃ d, LWD V4 A4 (u + 7) d ∧ lawD _ s.2 1 d
        rw [e4]
        refine ⟨d, y1.fr ?_ (f4.2.2 _ (by omega)), y2.fr ?_ ?_ ?_ _⟩
        · rw [f4.1 _ (by omega) (by omega), f3.1 _ (by omega), up2_na (by omega), up2_na (by omega), up2_na (by omega)]
        · show pm_up (pm_up (pm_up F 4 1) 6 (nI c.length)) 8 (nI s.2.length - nI c.length) 5 = F 5
          rw [pm_up_ne (by omega), pm_up_ne (by omega), pm_up_ne (by omega)]
        · show pm_up (pm_up (pm_up F 4 1) 6 (nI c.length)) 8 (nI s.2.length - nI c.length) 7 = F 7
          rw [pm_up_ne (by omega), pm_up_ne (by omega), pm_up_ne (by omega)]
        · show pm_up (pm_up (pm_up F 4 1) 6 (nI c.length)) 8 (nI s.2.length - nI c.length) 9 = F 9
          rw [pm_up_ne (by omega), pm_up_ne (by omega), pm_up_ne (by omega)]
set_option maxRecDepth 20000 in
theorem k_readLaw1 {G : gT} {S : sS} {P : sP} {B : sB} {Q : sP} {t sl u : Nat} (hC : CF S P) (hU : SH S P u) (hp9 : P 10 9 = some u) (hu : 87 ≤ u) {x : Nat → Int32} {L T : Nat} (hT : TK x L T = 24) {i : Nat} {F : Nat → Int32} {c : List Int32} {V A : sV} (hS : KS x L T u i F c V A) (hI : IVF F c) (hB : RB T T i c) (hk : TK x L i ≠ 24) {D : Nat} (hD : 112 ≤ D) : WQ G D mX6_readLaw 0 [some (.ref 10), some (.ref (u + 7)), some (.int 0)] [] (t, sl, gh S V P A B Q) (KZL x L T u S B Q t sl (lnL (TK x L) (TV x L) (TPl x L) T 1 5 i F c) V A P) := by
  obtain ⟨hN, hG, h6, h7, hl0, hl1⟩ := hS
  have hiT := hN.le
  have ht9 := hN.t9
  have hlt := lt_T hT hiT rfl hk
  obtain ⟨D, rfl⟩ : ∃ D', D = D' + 1 := ⟨D - 1, by omega⟩
  unfold lnL
  refine WQ.st (fun _ _ kz => pw_aload0 dX6_readLaw_0 kz) ?_
  refine WQ.st (fun _ _ kz => pw_dup dX6_readLaw_1 rfl kz) ?_
  refine WQ.st (fun _ _ kz => pw_geti gX6_31 dX6_readLaw_2 (cf_s10 hC) kz) ?_
  rw [hN.at]
  refine WQ.st (fun _ _ kz => pw_iconst (v := 1) dX6_readLaw_5 (by decide) kz) ?_
  refine WQ.st (fun _ _ kz => pw_iadd dX6_readLaw_6 kz) ?_
  rw [nI_1]
  refine WQ.st (fun _ _ kz => pw_puti (pX6_31 _ rfl) dX6_readLaw_7 (cf_s10 hC) rfl rfl kz) ?_
  refine WQ.st (fun _ _ kz => pw_aload0 dX6_readLaw_10 kz) ?_
  refine WQ.st (fun _ _ kz => pw_aload1 dX6_readLaw_11 kz) ?_
  refine WQ.st (fun _ _ kz => pw_putr (pX6_45 _ rfl) dX6_readLaw_12 (cf_s10 hC) kz) ?_
  have hC : CF S (up2 P 10 10 (some (u + 7))) := hC.p10 (fun b h1 => up2_na h1) (fun k _ _ h3 => up2_nk h3)
  have hU : SH S (up2 P 10 10 (some (u + 7))) u := hU.p10 (by omega) (fun b h1 => up2_na h1)
  have hL : LA S (up2 P 10 10 (some (u + 7))) (u + 7) := hU.lb
  have hLs := la_s0 hL
  have hp10 : (up2 P 10 10 (some (u + 7))) 10 10 = some (u + 7) := up2_eq
  refine WQ.st (fun _ _ kz => pw_aload0 dX6_readLaw_15 kz) ?_
  refine WQ.st (fun _ _ kz => pw_getr gX6_45 dX6_readLaw_16 (cf_s10 hC) hp10 kz) ?_
  refine wq_o0v wX4_clear lX6_167 rfl dX6_readLaw_19 hLs (k_lclear (a := u + 7) hL) rfl (Nat.le_of_ble_eq_true rfl) (Nat.le_of_ble_eq_true rfl) (fun h19 z19 => ?_)
  subst z19
  have g1 : FRK V (up2 V 10 6 (nI (i + 1))) := FRK.up (by omega)
  have w1 : FRW u V A P (up2 (up2 (up2 V 10 6 (nI (i + 1))) (u + 7) 1 0) (u + 7) 2 0) A (up2 P 10 10 (some (u + 7))) := ⟨fun b h1 h2 => by rw [up2_na (by omega), up2_na (by omega), up2_na h1], fun k h1 h2 h3 => by rw [up2_na (by omega), up2_na (by omega), up2_nk h3], fun _ _ => rfl, fun b h1 => up2_na h1, fun k h1 => up2_nk h1⟩
  have n1 : KN x L T (i + 1) (up2 (up2 (up2 V 10 6 (nI (i + 1))) (u + 7) 1 0) (u + 7) 2 0) A := (hN.go hlt).fq (u := u) (by omega) (by rw [up2_na (by omega), up2_na (by omega)]) (fun _ _ => rfl)
  refine WQ.st (fun _ _ kz => pw_aload0 dX6_readLaw_22 kz) ?_
  refine WQ.st (fun _ _ kz => pw_bipush (v := 58) dX6_readLaw_23 (by decide) kz) ?_
  refine wq_o1i wX6_take lX6_63 rfl dX6_readLaw_25 (cf_s10 hC) ((k_rtake (d := 0) hC n1 hT (k := 31) (y := 58) (by unfold tkO; omega) (by decide +kernel) (by omega)).mn (by omega)) rfl (Nat.le_of_ble_eq_true rfl) (Nat.le_of_ble_eq_true rfl) (fun h25 z25 => ?_)
  obtain ⟨V3, rfl, g3, e3, f3⟩ := z25
  refine WQ.br (fun _ _ ka kb => pw_if_eq (tgt := 44) dX6_readLaw_28 (by decide) ka kb) (fun c28 => ?_) (fun c28 => ?_)
  · rw [bI_0] at c28
    have c28 := of_decide_eq_false c28
    rw [if_neg c28]
    refine WQ.st (fun _ _ kz => pw_iconst (v := 0) dX6_readLaw_44 (by decide) kz) ?_
    refine ⟨_, _, pw_iret dX6_readLaw_45 rfl rfl rfl rfl, ?_⟩
    exact ⟨rfl, V3, A, _, rfl, e3 c28, w1.tr f3.fw⟩
  · rw [bI_n] at c28
    have c28 := of_decide_eq_true c28
    rw [if_pos c28]
    have n3 := g3 c28
    have hlt2 := lt_T hT n1.le c28 (by omega)
    have rb2 : RB T T (i + 2) (c ++ []) := by rw [List.append_nil]; exact ⟨by omega, by have := hB.2.1; omega, hB.2.2⟩
    have wd0 : LWD V3 A (u + 7) [] := (LWD.nil (by rw [up2_nk (by omega), up2_eq]) up2_eq).fk f3 (by omega)
    have vu : ∀ {V4 A4 : sV}, FRA (u + 7) V3 A V4 A4 → V4 u = V u := fun f4 => by rw [f4.1 u (by omega) (by omega), f3.1 u (by omega), up2_na (by omega), up2_na (by omega), up2_na (by omega)]
    have rk : rkT 5 ≤ 9 := rk_9 _
    refine WQ.st (fun _ _ kz => pw_aload0 dX6_readLaw_31 kz) ?_
    refine WQ.st (fun _ _ kz => pw_iload2 dX6_readLaw_32 kz) ?_
    refine WQ.st (fun _ _ kz => pw_iconst (v := 0) dX6_readLaw_33 (by decide) kz) ?_
    refine wq_o2i wX6_readChain lX6_170 rfl dX6_readLaw_34 (cf_s10 hC) (((kc_all hC hL hp10 (by omega) hT (10 * T + 20)).2.2.2.2.2.2.2.2.1 (i + 2) 0 c [] T V3 A 108 (by omega) (by omega) n3 wd0 rb2 (by omega)).mn (by omega)) rfl (Nat.le_of_ble_eq_true rfl) (Nat.le_of_ble_eq_true rfl) (fun h34 z34 => ?_)
    obtain ⟨V4, A4, rfl, z4, f4⟩ := z34
    have vu := vu f4
    rw [List.append_nil] at z4 ⊢
    generalize hr : ps (TK x L) (TV x L) (TPl x L) (10 * T + 20) 5 (i + 2) 0 c = rr at *
    cases rr with
    | error e =>
      refine WQ.br (fun _ _ ka kb => pw_if_eq (tgt := 44) dX6_readLaw_37 (by decide) ka kb) (fun c37 => ?_) (fun c37 => absurd okB_e c37)
      refine WQ.st (fun _ _ kz => pw_iconst (v := 0) dX6_readLaw_44 (by decide) kz) ?_
      refine ⟨_, _, pw_iret dX6_readLaw_45 rfl rfl rfl rfl, ?_⟩
      exact ⟨rfl, V4, A4, (up2 P 10 10 (some (u + 7))), rfl, z4, (w1.tr f3.fw).tr (f4.fw (by omega) (by omega))⟩
    | ok s =>
      refine WQ.br (fun _ _ ka kb => pw_if_eq (tgt := 44) dX6_readLaw_37 (by decide) ka kb) (fun c37 => absurd c37 okB_k) (fun c37 => ?_)
      refine WQ.st (fun _ _ kz => pw_iconst (v := 1) dX6_readLaw_40 (by decide) kz) ?_
      refine WQ.st (fun _ _ kz => pw_goto (tgt := 45) dX6_readLaw_41 (by decide) kz) ?_
      refine ⟨_, _, pw_iret dX6_readLaw_45 rfl rfl rfl rfl, ?_⟩
      obtain ⟨n4, d4, e4, w4⟩ := z4
      have e4 : s.2 = c ++ d4 := e4
      have sle : nI s.2.length - nI c.length = nI d4.length := by rw [e4, List.length_append, nI_subk (by omega), Nat.add_sub_cancel_left]
      have fa := (w1.tr f3.fw).tr (f4.fw (P := (up2 P 10 10 (some (u + 7)))) (u := u) (by omega) (by omega))
      refine ⟨rfl, V4, A4, (up2 P 10 10 (some (u + 7))), rfl, ⟨n4, ?_, ?_, ?_, ?_, ?_⟩, fa⟩
      · refine SG.cg (F := F) ⟨?_, ?_, ?_, ?_, ?_, ?_⟩ ?_ ?_ ?_
        · rw [vu]; exact hG.1
        · rw [vu]; exact hG.2.1
        · rw [f4.2.2 (u + 1) (by omega)]; exact hG.2.2.1
        · rw [f4.2.2 (u + 2) (by omega)]; exact hG.2.2.2.1
        · rw [f4.2.2 (u + 3) (by omega)]; exact hG.2.2.2.2.1
        · rw [f4.2.2 (u + 4) (by omega)]; exact hG.2.2.2.2.2
        · show pm_up (pm_up (pm_up F 5 1) 7 (nI c.length)) 9 (nI s.2.length - nI c.length) 3 = F 3
          rw [pm_up_ne (by omega), pm_up_ne (by omega), pm_up_ne (by omega)]
        · show pm_up (pm_up (pm_up F 5 1) 7 (nI c.length)) 9 (nI s.2.length - nI c.length) 0 = F 0
          rw [pm_up_ne (by omega), pm_up_ne (by omega), pm_up_ne (by omega)]
        · intro k hk
          show pm_up (pm_up (pm_up F 5 1) 7 (nI c.length)) 9 (nI s.2.length - nI c.length) k = F k
          rw [pm_up_ne (by omega), pm_up_ne (by omega), pm_up_ne (by omega)]
      · show V4 u 6 = pm_up (pm_up (pm_up F 5 1) 7 (nI c.length)) 9 (nI s.2.length - nI c.length) 1
        rw [pm_up_ne (by omega), pm_up_ne (by omega), pm_up_ne (by omega), vu]; exact h6
      · show V4 u 7 = pm_up (pm_up (pm_up F 5 1) 7 (nI c.length)) 9 (nI s.2.length - nI c.length) 2
        rw [pm_up_ne (by omega), pm_up_ne (by omega), pm_up_ne (by omega), vu]; exact h7
      · obtain ⟨d, y1, y2⟩ := hl0
        show ∃ d, LWD V4 A4 (u + 5) d ∧ lawD _ s.2 0 d
        rw [e4]
        refine ⟨d, y1.fr ?_ (f4.2.2 _ (by omega)), y2.fr ?_ ?_ ?_ _⟩
        · rw [f4.1 _ (by omega) (by omega), f3.1 _ (by omega), up2_na (by omega), up2_na (by omega), up2_na (by omega)]
        · show pm_up (pm_up (pm_up F 5 1) 7 (nI c.length)) 9 (nI s.2.length - nI c.length) 4 = F 4
          rw [pm_up_ne (by omega), pm_up_ne (by omega), pm_up_ne (by omega)]
        · show pm_up (pm_up (pm_up F 5 1) 7 (nI c.length)) 9 (nI s.2.length - nI c.length) 6 = F 6
          rw [pm_up_ne (by omega), pm_up_ne (by omega), pm_up_ne (by omega)]
        · show pm_up (pm_up (pm_up F 5 1) 7 (nI c.length)) 9 (nI s.2.length - nI c.length) 8 = F 8
          rw [pm_up_ne (by omega), pm_up_ne (by omega), pm_up_ne (by omega)]
      · refine ⟨d4, w4, Or.inr ⟨?_, c, [], ?_, ?_, ?_⟩⟩
        · show pm_up (pm_up (pm_up F 5 1) 7 (nI c.length)) 9 (nI s.2.length - nI c.length) 5 = 1
          rw [pm_up_ne (by omega), pm_up_ne (by omega), pm_up_eq]
        · rw [List.append_nil]; exact e4
        · show pm_up (pm_up (pm_up F 5 1) 7 (nI c.length)) 9 (nI s.2.length - nI c.length) 7 = nI c.length
          rw [pm_up_ne (by omega), pm_up_eq]
        · show pm_up (pm_up (pm_up F 5 1) 7 (nI c.length)) 9 (nI s.2.length - nI c.length) 9 = nI d4.length
          rw [pm_up_eq]; exact sle
