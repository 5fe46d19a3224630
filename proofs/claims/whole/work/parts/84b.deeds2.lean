set_option maxRecDepth 20000 in
theorem k_lendTicks {G : gT} {d : Nat} {S : sS} {V : sV} {P : sP} {A : sV} {B : sB} {Q : sP} {t sl : Nat} {al : Nat → Int32} {sh ls a : Nat} (hE : DE S V P A B Q t al sh ls a) (x y z : Int32) : WQ G (d + 2) mX2_lendTicks 0 [some (.ref 137), some (.ref a), some (.int x), some (.int y), some (.int z), none] [] (t, sl, gh S V P A B Q) (fun r h' => r = some (.int (sp_wl al x.toInt y.toInt z.toInt)) ∧ ∃ (t' sl' ls' : Nat) (S' : sS) (V' : sV) (P' : sP) (A' : sV) (B' : sB) (Q' : sP), h' = (t', sl', gh S' V' P' A' B' Q') ∧ DE S' V' P' A' B' Q' t' (if sp_wl al x.toInt y.toInt z.toInt = 0 then sp_lend al x.toInt.toNat y.toInt.toNat z else al) sh ls' a ∧ ls' ≤ ls + 0 ∧ FrD a S V P A B Q t S' V' P' A' B' Q' t' ∧ (∀ k1 k2, Room2 S Q t sl k1 k2 → Room2 S' Q' t' sl' k1 k2) ∧ V' 137 4 = V 137 4) := by
  have hC := hE.dc.ka.cf
  have hD := hE.dc.ka.dv
  have hSe := hE.dc.ka.se
  have hST := hE.st
  have ha := hE.a2
  have hsa := hE.dc.ka.sa
  refine WQ.st (fun _ _ kz => pw_aload0 dX2_lendTicks_0 kz) ?_
  refine WQ.st (fun _ _ kz => pw_getr gX2_18 dX2_lendTicks_1 (cf_s137 hC) (cf_p137_1 hC) kz) ?_
  refine WQ.st (fun _ _ kz => pw_getr gX2_78 dX2_lendTicks_4 (cf_s96 hC) hE.dc.ka.p2 kz) ?_
  refine WQ.st (fun _ _ kz => pw_iload2 dX2_lendTicks_7 kz) ?_
  refine wq_o1i wX7_hasPlayer lX2_82 rfl dX2_lendTicks_8 (sh_s0 hE.dc.ka.hsh) (k_hasPlayer hE.dc.ka.hsh hSe hD _) rfl (Nat.le_of_ble_eq_true rfl) (Nat.le_of_ble_eq_true rfl) (fun h8 z8 => ?_)
  subst z8
  refine WQ.br (fun _ _ ka kb => pw_if_eq (tgt := 37) dX2_lendTicks_11 (by decide) ka kb) (fun c11 => ?_) (fun c11 => ?_)
  · rw [bI_0] at c11
    refine WQ.st (fun _ _ kz => pw_iconst (v := 0) dX2_lendTicks_37 (by decide) kz) ?_
    refine WQ.st (fun _ _ kz => pw_istore5 dX2_lendTicks_38 (by decide) (k := kz)) ?_
    refine WQ.st (fun _ _ kz => pw_iload5 dX2_lendTicks_40 kz) ?_
    refine WQ.br (fun _ _ ka kb => pw_if_eq (tgt := 58) dX2_lendTicks_42 (by decide) ka kb) (fun c42 => ?_) (fun c42 => absurd (by decide) c42)
    refine WQ.st (fun _ _ kz => pw_iconst (v := 1) dX2_lendTicks_58 (by decide) kz) ?_
    refine ⟨_, _, pw_iret dX2_lendTicks_59 rfl rfl rfl rfl, ?_⟩
    have hz0 : sp_wl al x.toInt y.toInt z.toInt = 1 := by unfold sp_wl; rw [c11]; rfl
    rw [hz0, if_neg (by decide)]
    exact ⟨rfl, t, sl, ls, S, V, P, A, B, Q, rfl, hE, by omega, FrD.rfl, fun _ _ h => h, rfl⟩
  · rw [bI_n] at c11
    refine WQ.st (fun _ _ kz => pw_aload0 dX2_lendTicks_14 kz) ?_
    refine WQ.st (fun _ _ kz => pw_getr gX2_18 dX2_lendTicks_15 (cf_s137 hC) (cf_p137_1 hC) kz) ?_
    refine WQ.st (fun _ _ kz => pw_getr gX2_78 dX2_lendTicks_18 (cf_s96 hC) hE.dc.ka.p2 kz) ?_
    refine WQ.st (fun _ _ kz => pw_iload3 dX2_lendTicks_21 kz) ?_
    refine wq_o1i wX7_hasPlayer lX2_82 rfl dX2_lendTicks_22 (sh_s0 hE.dc.ka.hsh) (k_hasPlayer hE.dc.ka.hsh hSe hD _) rfl (Nat.le_of_ble_eq_true rfl) (Nat.le_of_ble_eq_true rfl) (fun h22 z22 => ?_)
    subst z22
    refine WQ.br (fun _ _ ka kb => pw_if_eq (tgt := 37) dX2_lendTicks_25 (by decide) ka kb) (fun c25 => ?_) (fun c25 => ?_)
    · rw [bI_0] at c25
      refine WQ.st (fun _ _ kz => pw_iconst (v := 0) dX2_lendTicks_37 (by decide) kz) ?_
      refine WQ.st (fun _ _ kz => pw_istore5 dX2_lendTicks_38 (by decide) (k := kz)) ?_
      refine WQ.st (fun _ _ kz => pw_iload5 dX2_lendTicks_40 kz) ?_
      refine WQ.br (fun _ _ ka kb => pw_if_eq (tgt := 58) dX2_lendTicks_42 (by decide) ka kb) (fun c42 => ?_) (fun c42 => absurd (by decide) c42)
      refine WQ.st (fun _ _ kz => pw_iconst (v := 1) dX2_lendTicks_58 (by decide) kz) ?_
      refine ⟨_, _, pw_iret dX2_lendTicks_59 rfl rfl rfl rfl, ?_⟩
      have hz0 : sp_wl al x.toInt y.toInt z.toInt = 1 := by unfold sp_wl; rw [c11, c25]; rfl
      rw [hz0, if_neg (by decide)]
      exact ⟨rfl, t, sl, ls, S, V, P, A, B, Q, rfl, hE, by omega, FrD.rfl, fun _ _ h => h, rfl⟩
    · rw [bI_n] at c25
      refine WQ.st (fun _ _ kz => pw_iload2 dX2_lendTicks_28 kz) ?_
      refine WQ.st (fun _ _ kz => pw_iload3 dX2_lendTicks_29 kz) ?_
      refine WQ.br (fun _ _ ka kb => pw_icmp_eq (tgt := 37) dX2_lendTicks_30 (by decide) ka kb) (fun c30 => ?_) (fun c30 => ?_)
      · refine WQ.st (fun _ _ kz => pw_iconst (v := 0) dX2_lendTicks_37 (by decide) kz) ?_
        refine WQ.st (fun _ _ kz => pw_istore5 dX2_lendTicks_38 (by decide) (k := kz)) ?_
        refine WQ.st (fun _ _ kz => pw_iload5 dX2_lendTicks_40 kz) ?_
        refine WQ.br (fun _ _ ka kb => pw_if_eq (tgt := 58) dX2_lendTicks_42 (by decide) ka kb) (fun c42 => ?_) (fun c42 => absurd (by decide) c42)
        refine WQ.st (fun _ _ kz => pw_iconst (v := 1) dX2_lendTicks_58 (by decide) kz) ?_
        refine ⟨_, _, pw_iret dX2_lendTicks_59 rfl rfl rfl rfl, ?_⟩
        subst c30
        have hz0 : sp_wl al x.toInt x.toInt z.toInt = 1 := by unfold sp_wl; rw [c11, decide_eq_false (fun w : x.toInt ≠ x.toInt => w rfl)]; rfl
        rw [hz0, if_neg (by decide)]
        exact ⟨rfl, t, sl, ls, S, V, P, A, B, Q, rfl, hE, by omega, FrD.rfl, fun _ _ h => h, rfl⟩
      · refine WQ.st (fun _ _ kz => pw_iconst (v := 1) dX2_lendTicks_33 (by decide) kz) ?_
        refine WQ.st (fun _ _ kz => pw_goto (tgt := 38) dX2_lendTicks_34 (by decide) kz) ?_
        refine WQ.st (fun _ _ kz => pw_istore5 dX2_lendTicks_38 (by decide) (k := kz)) ?_
        refine WQ.st (fun _ _ kz => pw_iload5 dX2_lendTicks_40 kz) ?_
        refine WQ.br (fun _ _ ka kb => pw_if_eq (tgt := 58) dX2_lendTicks_42 (by decide) ka kb) (fun c42 => absurd c42 (by decide)) (fun c42 => ?_)
        refine WQ.st (fun _ _ kz => pw_iload4 dX2_lendTicks_45 kz) ?_
        refine WQ.st (fun _ _ kz => pw_iconst (v := 1) dX2_lendTicks_47 (by decide) kz) ?_
        refine WQ.br (fun _ _ ka kb => pw_icmp_lt (tgt := 58) dX2_lendTicks_48 (by decide) ka kb) (fun c48 => ?_) (fun c48 => ?_)
        · refine WQ.st (fun _ _ kz => pw_iconst (v := 1) dX2_lendTicks_58 (by decide) kz) ?_
          refine ⟨_, _, pw_iret dX2_lendTicks_59 rfl rfl rfl rfl, ?_⟩
          have hz0 : sp_wl al x.toInt y.toInt z.toInt = 1 := by unfold sp_wl; rw [c11, c25, decide_eq_false (show ¬ (1 ≤ z.toInt ∧ z.toInt ≤ 40) from fun w => by have := (lt_i rfl (show (1 : Int32).toInt = 1 from rfl)).mp c48; omega)]; cases decide (x.toInt ≠ y.toInt) <;> rfl
          rw [hz0, if_neg (by decide)]
          exact ⟨rfl, t, sl, ls, S, V, P, A, B, Q, rfl, hE, by omega, FrD.rfl, fun _ _ h => h, rfl⟩
        · refine WQ.st (fun _ _ kz => pw_iload4 dX2_lendTicks_51 kz) ?_
          refine WQ.st (fun _ _ kz => pw_bipush (v := 40) dX2_lendTicks_53 (by decide) kz) ?_
          refine WQ.br (fun _ _ ka kb => pw_icmp_le (tgt := 60) dX2_lendTicks_55 (by decide) ka kb) (fun c55 => ?_) (fun c55 => ?_)
          · have hp5 := hD.p5
            have g1 := isP_t c11
            obtain ⟨p, rfl, tp, lp⟩ := nI_get g1.1 g1.2 (by omega)
            have g2 := isP_t c25
            obtain ⟨q, rfl, tq, lq⟩ := nI_get g2.1 g2.2 (by omega)
            have hp : p < 5 := by omega
            have hq : q < 5 := by omega
            have hz : 1 ≤ z.toInt ∧ z.toInt ≤ 40 := ⟨Int.not_lt.mp (fun w => c48 ((lt_i rfl rfl).mpr w)), (le_i rfl rfl).mp c55⟩
            have bp := hE.kv.sb hp
            have bq := hE.kv.sb hq
            have hne : (nI p).toInt ≠ (nI q).toInt := fun w => c30 (Int32.toInt_inj.mp w)
            refine WQ.st (fun _ _ kz => pw_aload1 dX2_lendTicks_60 kz) ?_
            refine WQ.st (fun _ _ kz => pw_getr gX2_46 dX2_lendTicks_61 (st_s0 hST) (st_p0_0 hST) kz) ?_
            refine WQ.st (fun _ _ kz => pw_iload2 dX2_lendTicks_64 kz) ?_
            refine WQ.st (fun _ _ kz => pw_ald (j := p) dX2_lendTicks_65 (st_s1 hST) (ix_m rfl (by omega)) (by omega) kz) ?_
            rw [hE.se.st hp]
            refine WQ.st (fun _ _ kz => pw_iload4 dX2_lendTicks_66 kz) ?_
            refine WQ.st (fun _ _ kz => pw_isub dX2_lendTicks_68 kz) ?_
            refine WQ.st (fun _ _ kz => pw_bipush (v := -20) dX2_lendTicks_69 (by decide) kz) ?_
            refine WQ.br (fun _ _ ka kb => pw_icmp_lt (tgt := 88) dX2_lendTicks_71 (by decide) ka kb) (fun c71 => ?_) (fun c71 => ?_)
            · refine WQ.st (fun _ _ kz => pw_iconst (v := 3) dX2_lendTicks_88 (by decide) kz) ?_
              refine ⟨_, _, pw_iret dX2_lendTicks_89 rfl rfl rfl rfl, ?_⟩
              have e1 : (al (77 + p) - z).toInt = (al (77 + p)).toInt - z.toInt := su_t (by omega) (by omega)
              have s1 : isS ((al (77 + p)).toInt - z.toInt) = false := decide_eq_false (fun w => by have := (lt_i e1 (show (-20 : Int32).toInt = -20 from rfl)).mp c71; omega)
              have hz0 : sp_wl al (nI p).toInt (nI q).toInt z.toInt = 3 := by unfold sp_wl; rw [c11, c25, decide_eq_true hne, decide_eq_true hz, tp, tq, Int.toNat_natCast, Int.toNat_natCast]; rw [s1]; rfl
              rw [hz0, if_neg (by decide)]
              exact ⟨rfl, t, sl, ls, S, V, P, A, B, Q, rfl, hE, by omega, FrD.rfl, fun _ _ h => h, rfl⟩
            · refine WQ.st (fun _ _ kz => pw_aload1 dX2_lendTicks_74 kz) ?_
              refine WQ.st (fun _ _ kz => pw_getr gX2_46 dX2_lendTicks_75 (st_s0 hST) (st_p0_0 hST) kz) ?_
              refine WQ.st (fun _ _ kz => pw_iload3 dX2_lendTicks_78 kz) ?_
              refine WQ.st (fun _ _ kz => pw_ald (j := q) dX2_lendTicks_79 (st_s1 hST) (ix_m rfl (by omega)) (by omega) kz) ?_
              rw [hE.se.st hq]
              refine WQ.st (fun _ _ kz => pw_iload4 dX2_lendTicks_80 kz) ?_
              refine WQ.st (fun _ _ kz => pw_iadd dX2_lendTicks_82 kz) ?_
              refine WQ.st (fun _ _ kz => pw_bipush (v := 20) dX2_lendTicks_83 (by decide) kz) ?_
              refine WQ.br (fun _ _ ka kb => pw_icmp_le (tgt := 90) dX2_lendTicks_85 (by decide) ka kb) (fun c85 => ?_) (fun c85 => ?_)
              · refine WQ.st (fun _ _ kz => pw_aload1 dX2_lendTicks_90 kz) ?_
                refine WQ.st (fun _ _ kz => pw_getr gX2_46 dX2_lendTicks_91 (st_s0 hST) (st_p0_0 hST) kz) ?_
                refine WQ.st (fun _ _ kz => pw_iload2 dX2_lendTicks_94 kz) ?_
                refine WQ.st (fun _ _ kz => pw_dup2_11 dX2_lendTicks_95 rfl rfl kz) ?_
                refine WQ.st (fun _ _ kz => pw_ald (j := p) dX2_lendTicks_96 (st_s1 hST) (ix_m rfl (by omega)) (by omega) kz) ?_
                refine WQ.st (fun _ _ kz => pw_iload4 dX2_lendTicks_97 kz) ?_
                refine WQ.st (fun _ _ kz => pw_isub dX2_lendTicks_99 kz) ?_
                refine WQ.st (fun _ _ kz => pw_ast (j := p) dX2_lendTicks_100 (st_s1 hST) (ix_m rfl (by omega)) (by omega)  kz) ?_
                refine WQ.st (fun _ _ kz => pw_aload1 dX2_lendTicks_101 kz) ?_
                refine WQ.st (fun _ _ kz => pw_getr gX2_46 dX2_lendTicks_102 (st_s0 hST) (st_p0_0 hST) kz) ?_
                refine WQ.st (fun _ _ kz => pw_iload3 dX2_lendTicks_105 kz) ?_
                refine WQ.st (fun _ _ kz => pw_dup2_11 dX2_lendTicks_106 rfl rfl kz) ?_
                refine WQ.st (fun _ _ kz => pw_ald (j := q) dX2_lendTicks_107 (st_s1 hST) (ix_m rfl (by omega)) (by omega) kz) ?_
                refine WQ.st (fun _ _ kz => pw_iload4 dX2_lendTicks_108 kz) ?_
                refine WQ.st (fun _ _ kz => pw_iadd dX2_lendTicks_110 kz) ?_
                refine WQ.st (fun _ _ kz => pw_ast (j := q) dX2_lendTicks_111 (st_s1 hST) (ix_m rfl (by omega)) (by omega)  kz) ?_
                refine WQ.st (fun _ _ kz => pw_iconst (v := 0) dX2_lendTicks_112 (by decide) kz) ?_
                refine ⟨_, _, pw_iret dX2_lendTicks_113 rfl rfl rfl rfl, ?_⟩
                have e1 : (al (77 + p) - z).toInt = (al (77 + p)).toInt - z.toInt := su_t (by omega) (by omega)
                have s1 : isS ((al (77 + p)).toInt - z.toInt) = true := decide_eq_true ⟨Int.not_lt.mp (fun w => c71 ((lt_i e1 (show (-20 : Int32).toInt = -20 from rfl)).mpr w)), by omega⟩
                have e2 : (al (77 + q) + z).toInt = (al (77 + q)).toInt + z.toInt := ad_t (by omega) (by omega)
                have s2 : isS ((al (77 + q)).toInt + z.toInt) = true := decide_eq_true ⟨by omega, (le_i e2 (show (20 : Int32).toInt = 20 from rfl)).mp c85⟩
                have hz0 : sp_wl al (nI p).toInt (nI q).toInt z.toInt = 0 := by unfold sp_wl; rw [c11, c25, decide_eq_true hne, decide_eq_true hz, tp, tq, Int.toNat_natCast, Int.toNat_natCast, s1, s2]; rfl
                rw [hz0, if_pos rfl, tp, tq, Int.toNat_natCast, Int.toNat_natCast]
                obtain ⟨w1, w2⟩ := hE.upd (V' := V) (fun _ _ _ => rfl) (fun x hx => by rw [up2_na (by omega), up2_na (by omega)]) (fun i hi => le_out hp hq (z := z) hi) (hE.kv.lend hp hq (by omega) (by omega) (by omega) (of_decide_eq_true s1) (of_decide_eq_true s2)) (hE.se.lend hp hq z)
                exact ⟨rfl, t, sl, ls, S, _, P, _, B, Q, rfl, w1, by omega, w2, fun _ _ h => h, rfl⟩
              · refine WQ.st (fun _ _ kz => pw_iconst (v := 3) dX2_lendTicks_88 (by decide) kz) ?_
                refine ⟨_, _, pw_iret dX2_lendTicks_89 rfl rfl rfl rfl, ?_⟩
                have e1 : (al (77 + p) - z).toInt = (al (77 + p)).toInt - z.toInt := su_t (by omega) (by omega)
                have s1 : isS ((al (77 + p)).toInt - z.toInt) = true := decide_eq_true ⟨Int.not_lt.mp (fun w => c71 ((lt_i e1 (show (-20 : Int32).toInt = -20 from rfl)).mpr w)), by omega⟩
                have e2 : (al (77 + q) + z).toInt = (al (77 + q)).toInt + z.toInt := ad_t (by omega) (by omega)
                have s2 : isS ((al (77 + q)).toInt + z.toInt) = false := decide_eq_false (fun w => c85 ((le_i e2 (show (20 : Int32).toInt = 20 from rfl)).mpr w.2))
                have hz0 : sp_wl al (nI p).toInt (nI q).toInt z.toInt = 3 := by unfold sp_wl; rw [c11, c25, decide_eq_true hne, decide_eq_true hz, tp, tq, Int.toNat_natCast, Int.toNat_natCast]; rw [s1, s2]; rfl
                rw [hz0, if_neg (by decide)]
                exact ⟨rfl, t, sl, ls, S, V, P, A, B, Q, rfl, hE, by omega, FrD.rfl, fun _ _ h => h, rfl⟩
          · refine WQ.st (fun _ _ kz => pw_iconst (v := 1) dX2_lendTicks_58 (by decide) kz) ?_
            refine ⟨_, _, pw_iret dX2_lendTicks_59 rfl rfl rfl rfl, ?_⟩
            have hz0 : sp_wl al x.toInt y.toInt z.toInt = 1 := by unfold sp_wl; rw [c11, c25, decide_eq_false (show ¬ (1 ≤ z.toInt ∧ z.toInt ≤ 40) from fun w => c55 ((le_i rfl (show (40 : Int32).toInt = 40 from rfl)).mpr w.2))]; cases decide (x.toInt ≠ y.toInt) <;> rfl
            rw [hz0, if_neg (by decide)]
            exact ⟨rfl, t, sl, ls, S, V, P, A, B, Q, rfl, hE, by omega, FrD.rfl, fun _ _ h => h, rfl⟩
set_option maxRecDepth 20000 in
theorem k_haveTemper {G : gT} {d : Nat} {S : sS} {V : sV} {P : sP} {A : sV} {B : sB} {Q : sP} {t sl : Nat} {al : Nat → Int32} {sh ls a : Nat} (hE : DE S V P A B Q t al sh ls a) (x y : Int32) : WQ G (d + 2) mX2_haveTemper 0 [some (.ref 137), some (.ref a), some (.int x), some (.int y)] [] (t, sl, gh S V P A B Q) (fun r h' => r = some (.int (if isP al x.toInt && decide (0 ≤ y.toInt ∧ y.toInt ≤ 9) then 0 else 1)) ∧ ∃ (t' sl' ls' : Nat) (S' : sS) (V' : sV) (P' : sP) (A' : sV) (B' : sB) (Q' : sP), h' = (t', sl', gh S' V' P' A' B' Q') ∧ DE S' V' P' A' B' Q' t' (if isP al x.toInt && decide (0 ≤ y.toInt ∧ y.toInt ≤ 9) then pm_up al (87 + x.toInt.toNat) y else al) sh ls' a ∧ ls' ≤ ls + 0 ∧ FrD a S V P A B Q t S' V' P' A' B' Q' t' ∧ (∀ k1 k2, Room2 S Q t sl k1 k2 → Room2 S' Q' t' sl' k1 k2) ∧ V' 137 4 = V 137 4) := by
  have hC := hE.dc.ka.cf
  have hD := hE.dc.ka.dv
  have hSe := hE.dc.ka.se
  have hST := hE.st
  have ha := hE.a2
  have hsa := hE.dc.ka.sa
  refine WQ.st (fun _ _ kz => pw_aload0 dX2_haveTemper_0 kz) ?_
  refine WQ.st (fun _ _ kz => pw_getr gX2_18 dX2_haveTemper_1 (cf_s137 hC) (cf_p137_1 hC) kz) ?_
  refine WQ.st (fun _ _ kz => pw_getr gX2_78 dX2_haveTemper_4 (cf_s96 hC) hE.dc.ka.p2 kz) ?_
  refine WQ.st (fun _ _ kz => pw_iload2 dX2_haveTemper_7 kz) ?_
  refine wq_o1i wX7_hasPlayer lX2_82 rfl dX2_haveTemper_8 (sh_s0 hE.dc.ka.hsh) (k_hasPlayer hE.dc.ka.hsh hSe hD _) rfl (Nat.le_of_ble_eq_true rfl) (Nat.le_of_ble_eq_true rfl) (fun h8 z8 => ?_)
  subst z8
  refine WQ.br (fun _ _ ka kb => pw_if_eq (tgt := 24) dX2_haveTemper_11 (by decide) ka kb) (fun c11 => ?_) (fun c11 => ?_)
  · rw [bI_0] at c11
    refine WQ.st (fun _ _ kz => pw_iconst (v := 1) dX2_haveTemper_24 (by decide) kz) ?_
    refine ⟨_, _, pw_iret dX2_haveTemper_25 rfl rfl rfl rfl, ?_⟩
    have hz0 : (isP al x.toInt && decide (0 ≤ y.toInt ∧ y.toInt ≤ 9)) = false := by rw [c11]; rfl
    rw [hz0]
    exact ⟨rfl, t, sl, ls, S, V, P, A, B, Q, rfl, hE, by omega, FrD.rfl, fun _ _ h => h, rfl⟩
  · rw [bI_n] at c11
    refine WQ.st (fun _ _ kz => pw_iload3 dX2_haveTemper_14 kz) ?_
    refine WQ.br (fun _ _ ka kb => pw_if_lt (tgt := 24) dX2_haveTemper_15 (by decide) ka kb) (fun c15 => ?_) (fun c15 => ?_)
    · refine WQ.st (fun _ _ kz => pw_iconst (v := 1) dX2_haveTemper_24 (by decide) kz) ?_
      refine ⟨_, _, pw_iret dX2_haveTemper_25 rfl rfl rfl rfl, ?_⟩
      have hz0 : (isP al x.toInt && decide (0 ≤ y.toInt ∧ y.toInt ≤ 9)) = false := by rw [c11, decide_eq_false (fun w => by have := (lt_i rfl (show (0 : Int32).toInt = 0 from rfl)).mp c15; omega)]; rfl
      rw [hz0]
      exact ⟨rfl, t, sl, ls, S, V, P, A, B, Q, rfl, hE, by omega, FrD.rfl, fun _ _ h => h, rfl⟩
    · refine WQ.st (fun _ _ kz => pw_iload3 dX2_haveTemper_18 kz) ?_
      refine WQ.st (fun _ _ kz => pw_bipush (v := 9) dX2_haveTemper_19 (by decide) kz) ?_
      refine WQ.br (fun _ _ ka kb => pw_icmp_le (tgt := 26) dX2_haveTemper_21 (by decide) ka kb) (fun c21 => ?_) (fun c21 => ?_)
      · have hp5 := hD.p5
        have g1 := isP_t c11
        obtain ⟨p, rfl, tp, lp⟩ := nI_get g1.1 g1.2 (by omega)
        have hp : p < 5 := by omega
        have h0 : 0 ≤ y.toInt := Int.not_lt.mp (fun w => c15 ((lt_i rfl rfl).mpr w))
        have h9 : y.toInt ≤ 9 := (le_i rfl rfl).mp c21
        obtain ⟨n, rfl, tn, ln⟩ := nI_get h0 (show y.toInt < 10 by omega) (by omega)
        have hn : n < 10 := by omega
        refine WQ.st (fun _ _ kz => pw_aload1 dX2_haveTemper_26 kz) ?_
        refine WQ.st (fun _ _ kz => pw_getr gX2_34 dX2_haveTemper_27 (st_s0 hST) (st_p0_2 hST) kz) ?_
        refine WQ.st (fun _ _ kz => pw_iload2 dX2_haveTemper_30 kz) ?_
        refine WQ.st (fun _ _ kz => pw_iload3 dX2_haveTemper_31 kz) ?_
        refine WQ.st (fun _ _ kz => pw_ast (j := p) dX2_haveTemper_32 (st_s3 hST) (ix_m rfl (by omega)) (by omega)  kz) ?_
        refine WQ.st (fun _ _ kz => pw_iconst (v := 0) dX2_haveTemper_33 (by decide) kz) ?_
        refine ⟨_, _, pw_iret dX2_haveTemper_34 rfl rfl rfl rfl, ?_⟩
        have hz0 : (isP al (nI p).toInt && decide (0 ≤ (nI n).toInt ∧ (nI n).toInt ≤ 9)) = true := by rw [c11, decide_eq_true (by omega)]; rfl
        rw [hz0, if_pos rfl, if_pos rfl, tp, Int.toNat_natCast]
        obtain ⟨w1, w2⟩ := hE.upd (V' := V) (A' := up2 A (a + 3) p (nI n)) (fun _ _ _ => rfl) (fun x hx => by rw [up2_na (by omega)]) (fun i hi => pm_up_ne (f := al) (a := 87 + p) (e := nI n) (by omega)) (temp_ok hE.kv hp hn) (hE.se.temp hp (nI n))
        exact ⟨rfl, t, sl, ls, S, _, P, _, B, Q, rfl, w1, by omega, w2, fun _ _ h => h, rfl⟩
      · refine WQ.st (fun _ _ kz => pw_iconst (v := 1) dX2_haveTemper_24 (by decide) kz) ?_
        refine ⟨_, _, pw_iret dX2_haveTemper_25 rfl rfl rfl rfl, ?_⟩
        have hz0 : (isP al x.toInt && decide (0 ≤ y.toInt ∧ y.toInt ≤ 9)) = false := by rw [c11, decide_eq_false (fun w => c21 ((le_i rfl (show (9 : Int32).toInt = 9 from rfl)).mpr w.2))]; rfl
        rw [hz0]
        exact ⟨rfl, t, sl, ls, S, V, P, A, B, Q, rfl, hE, by omega, FrD.rfl, fun _ _ h => h, rfl⟩
set_option maxRecDepth 20000 in
theorem l_hF {G : gT} {d : Nat} {S : sS} {P : sP} {A : sV} {B : sB} {Q : sP} {t sl : Nat} {a : Nat} (hST : ST S P a) {al : Nat → Int32} (hA : ∀ i, i < 5 → A (a + 1) i = al (77 + i)) : ∀ (m k : Nat) (V : sV), k + m = 5 → V a 3 = frb al k → WQ G d mX2_holdFriday 7 [some (.ref 137), some (.ref a), some (.int (nI k))] [] (t, sl, gh S V P A B Q) (fun r h' => r = some (.int 0) ∧ ∃ V' : sV, h' = (t, sl, gh S V' P A B Q) ∧ V' a 3 = frb al 5 ∧ V' a 4 = V a 4 + 1 ∧ ∀ x, x ≠ a → V' x = V x) := by
  intro m
  induction m with
  | zero =>
    intro k V hk h3
    have hk : k = 5 := hk
    subst hk
    refine WQ.st (fun _ _ kz => pw_iload2 dX2_holdFriday_7 kz) ?_
    refine WQ.st (fun _ _ kz => pw_aload1 dX2_holdFriday_8 kz) ?_
    refine WQ.st (fun _ _ kz => pw_getr gX2_46 dX2_holdFriday_9 (st_s0 hST) (st_p0_0 hST) kz) ?_
    refine WQ.st (fun _ _ kz => pw_len dX2_holdFriday_12 (st_s1 hST) (by decide) kz) ?_
    refine WQ.br (fun _ _ ka kb => pw_icmp_ge (tgt := 43) dX2_holdFriday_13 (by decide) ka kb) (fun c13 => ?_) (fun c13 => absurd (Int32.le_refl _) c13)
    refine WQ.st (fun _ _ kz => pw_aload1 dX2_holdFriday_43 kz) ?_
    refine WQ.st (fun _ _ kz => pw_dup dX2_holdFriday_44 rfl kz) ?_
    refine WQ.st (fun _ _ kz => pw_geti gX2_96 dX2_holdFriday_45 (st_s0 hST) kz) ?_
    refine WQ.st (fun _ _ kz => pw_iconst (v := 1) dX2_holdFriday_48 (by decide) kz) ?_
    refine WQ.st (fun _ _ kz => pw_iadd dX2_holdFriday_49 kz) ?_
    refine WQ.st (fun _ _ kz => pw_puti (pX2_96 _ rfl) dX2_holdFriday_50 (st_s0 hST) rfl rfl kz) ?_
    refine WQ.st (fun _ _ kz => pw_iconst (v := 0) dX2_holdFriday_53 (by decide) kz) ?_
    refine ⟨_, _, pw_iret dX2_holdFriday_54 rfl rfl rfl rfl, ?_⟩
    refine ⟨rfl, _, rfl, ?_, up2_eq, fun x hx => up2_na hx⟩
    rw [up2_nk (by decide)]
    exact h3
  | succ m ih =>
    intro k V hk h3
    refine WQ.st (fun _ _ kz => pw_iload2 dX2_holdFriday_7 kz) ?_
    refine WQ.st (fun _ _ kz => pw_aload1 dX2_holdFriday_8 kz) ?_
    refine WQ.st (fun _ _ kz => pw_getr gX2_46 dX2_holdFriday_9 (st_s0 hST) (st_p0_0 hST) kz) ?_
    refine WQ.st (fun _ _ kz => pw_len dX2_holdFriday_12 (st_s1 hST) (by decide) kz) ?_
    refine WQ.br (fun _ _ ka kb => pw_icmp_ge (tgt := 43) dX2_holdFriday_13 (by decide) ka kb) (fun c13 => absurd c13 (fun q => by have := (le_i (show (5 : Int32).toInt = 5 from rfl) (nI_toInt (by omega))).mp q; omega)) (fun c13 => ?_)
    refine WQ.st (fun _ _ kz => pw_aload1 dX2_holdFriday_16 kz) ?_
    refine WQ.st (fun _ _ kz => pw_getr gX2_46 dX2_holdFriday_17 (st_s0 hST) (st_p0_0 hST) kz) ?_
    refine WQ.st (fun _ _ kz => pw_iload2 dX2_holdFriday_20 kz) ?_
    refine WQ.st (fun _ _ kz => pw_ald (j := k) dX2_holdFriday_21 (st_s1 hST) (ix_m rfl (by omega)) (by omega) kz) ?_
    rw [hA k (by omega)]
    refine WQ.br (fun _ _ ka kb => pw_if_ge (tgt := 37) dX2_holdFriday_22 (by decide) ka kb) (fun c22 => ?_) (fun c22 => ?_)
    · refine WQ.st (fun _ _ kz => pw_iinc2 (v := 1) dX2_holdFriday_37 (by decide) (by decide) (k := kz)) ?_
      refine WQ.st (fun _ _ kz => pw_goto (tgt := 7) dX2_holdFriday_40 (by decide) kz) ?_
      rw [nI_1]
      exact ih (k + 1) V (by omega) (by show _ = frb al k ||| _; rw [if_pos c22, h3]; exact Int32.or_zero.symm)
    · refine WQ.st (fun _ _ kz => pw_aload1 dX2_holdFriday_25 kz) ?_
      refine WQ.st (fun _ _ kz => pw_dup dX2_holdFriday_26 rfl kz) ?_
      refine WQ.st (fun _ _ kz => pw_geti gX2_93 dX2_holdFriday_27 (st_s0 hST) kz) ?_
      refine WQ.st (fun _ _ kz => pw_iconst (v := 1) dX2_holdFriday_30 (by decide) kz) ?_
      refine WQ.st (fun _ _ kz => pw_iload2 dX2_holdFriday_31 kz) ?_
      refine WQ.st (fun _ _ kz => pw_ishl dX2_holdFriday_32 kz) ?_
      refine WQ.st (fun _ _ kz => pw_ior dX2_holdFriday_33 kz) ?_
      refine WQ.st (fun _ _ kz => pw_puti (pX2_93 _ rfl) dX2_holdFriday_34 (st_s0 hST) rfl rfl kz) ?_
      refine WQ.st (fun _ _ kz => pw_iinc2 (v := 1) dX2_holdFriday_37 (by decide) (by decide) (k := kz)) ?_
      refine WQ.st (fun _ _ kz => pw_goto (tgt := 7) dX2_holdFriday_40 (by decide) kz) ?_
      rw [nI_1]
      refine (ih (k + 1) _ (by omega) (by rw [up2_eq, h3]; show _ = frb al k ||| _; rw [if_neg c22])).imp (fun r h' z => ?_)
      obtain ⟨z0, V', z1, z2, z3, z4⟩ := z
      exact ⟨z0, V', z1, z2, by rw [z3, up2_nk (by decide)], fun x hx => by rw [z4 x hx, up2_na hx]⟩
set_option maxRecDepth 20000 in
theorem k_holdFriday {G : gT} {d : Nat} {S : sS} {V : sV} {P : sP} {A : sV} {B : sB} {Q : sP} {t sl : Nat} {al : Nat → Int32} {sh ls a : Nat} (hE : DE S V P A B Q t al sh ls a) : WQ G d mX2_holdFriday 0 [some (.ref 137), some (.ref a), none] [] (t, sl, gh S V P A B Q) (fun r h' => r = some (.int (0)) ∧ ∃ (t' sl' ls' : Nat) (S' : sS) (V' : sV) (P' : sP) (A' : sV) (B' : sB) (Q' : sP), h' = (t', sl', gh S' V' P' A' B' Q') ∧ DE S' V' P' A' B' Q' t' (sp_fri al) sh ls' a ∧ ls' ≤ ls + 0 ∧ FrD a S V P A B Q t S' V' P' A' B' Q' t' ∧ (∀ k1 k2, Room2 S Q t sl k1 k2 → Room2 S' Q' t' sl' k1 k2) ∧ V' 137 4 = V 137 4) := by
  have hC := hE.dc.ka.cf
  have hD := hE.dc.ka.dv
  have hSe := hE.dc.ka.se
  have hST := hE.st
  have ha := hE.a2
  have hsa := hE.dc.ka.sa
  refine WQ.st (fun _ _ kz => pw_aload1 dX2_holdFriday_0 kz) ?_
  refine WQ.st (fun _ _ kz => pw_iconst (v := 0) dX2_holdFriday_1 (by decide) kz) ?_
  refine WQ.st (fun _ _ kz => pw_puti (pX2_93 _ rfl) dX2_holdFriday_2 (st_s0 hST) rfl rfl kz) ?_
  refine WQ.st (fun _ _ kz => pw_iconst (v := 0) dX2_holdFriday_5 (by decide) kz) ?_
  refine WQ.st (fun _ _ kz => pw_istore2 dX2_holdFriday_6 (by decide) (k := kz)) ?_
  rw [nl_0]
  refine (l_hF hST (al := al) (fun i hi => hE.se.st hi) 5 0 _ (by omega) (by rw [up2_eq]; rfl)).imp (fun r h' z => ?_)
  obtain ⟨z0, V', rfl, z2, z3, z4⟩ := z
  have hp5 := hD.p5
  have hs : StE V' A a (fun k => sp_fri al (75 + k)) := by
    have eo : ∀ i, 77 ≤ i → sp_fri al i = al i := fun i hi => by unfold sp_fri pm_up; rw [if_neg (by omega), if_neg (by omega)]
    refine ⟨?_, ?_, fun i hi => ?_, fun i hi => ?_, fun i hi => ?_⟩
    · show _ = sp_fri al 75
      unfold sp_fri
      rw [z2, pm_up_ne (by omega), pm_up_eq]
      exact frb_5 hE.kv (5 - (al 2).toInt.toNat) _ (by omega) (by omega)
    · show _ = sp_fri al 76
      unfold sp_fri
      rw [z3, pm_up_eq, up2_nk (by decide), hE.se.2.1]
    · show _ = sp_fri al (75 + (2 + i))
      rw [eo _ (by omega)]
      exact hE.se.2.2.1 i hi
    · show _ = sp_fri al (75 + (7 + i))
      rw [eo _ (by omega)]
      exact hE.se.2.2.2.1 i hi
    · show _ = sp_fri al (75 + (12 + i))
      rw [eo _ (by omega)]
      exact hE.se.2.2.2.2 i hi
  obtain ⟨w1, w2⟩ := hE.upd (V' := V') (A' := A) (fun x hx _ => by rw [z4 x hx, up2_na hx]) (fun x hx => rfl) (fun i hi => fr_out hi) hE.kv.fri hs
  exact ⟨z0, t, sl, ls, S, _, P, _, B, Q, rfl, w1, by omega, w2, fun _ _ h => h, by rw [z4 137 (by omega), up2_na (by omega)]⟩
