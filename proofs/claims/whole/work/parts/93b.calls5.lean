def rpM (x : Int32) : Int32 := ((btF x * 7) >>> ((1 : Int32) &&& 31)) &&& 31
theorem rp_kp {j w : Nat} (hj : j < 5) (hw : w < 5) : inM (rpM (dI j)) (dI w) = rf_k (fun _ => dI j) 1 0 w := by
  revert j w
  have h : ∀ j : Fin 5, ∀ w : Fin 5, inM (rpM (dI j.1)) (dI w.1) = rf_k (fun _ => dI j.1) 1 0 w.1 := by decide
  intro j w hj hw
  exact h ⟨j, hj⟩ ⟨w, hw⟩
set_option maxRecDepth 20000 in
theorem q_replyL {G : gT} {d : Nat} {S : sS} {V : sV} {P : sP} {B : sB} {Q : sP} {t sl : Nat} (hC : CF S P) {x1 x2 x3 x4 : Int32} {A0 : sV} {Z : Option Value → Ph → Prop} (kf : ∀ A : sV, (∀ x, x ≠ 69 → A x = A0 x) → (∀ u, u < 12 → A 69 u = rpM (A0 108 u)) → WQ G (d + 3) mX11_reply 101 [some (.ref 8), some (.int x1), some (.int x2), some (.int x3), some (.int x4), some (.int (nI 12))] [] (t, sl, gh S V P A B Q) Z) : ∀ (m k : Nat) (A : sV), k + m = 12 → (∀ x, x ≠ 69 → A x = A0 x) → (∀ u, u < k → A 69 u = rpM (A0 108 u)) → WQ G (d + 3) mX11_reply 60 [some (.ref 8), some (.int x1), some (.int x2), some (.int x3), some (.int x4), some (.int (nI k))] [] (t, sl, gh S V P A B Q) Z := by
  intro m
  induction m with
  | zero =>
    intro k A hk h1 h2
    have hk : k = 12 := hk
    subst hk
    refine WQ.st (fun _ _ kz => pw_iload5 dX11_reply_60 kz) ?_
    refine WQ.st (fun _ _ kz => pw_bipush (v := 12) dX11_reply_62 (by decide) kz) ?_
    refine WQ.br (fun _ _ ka kb => pw_icmp_ge (tgt := 101) dX11_reply_64 (by decide) ka kb) (fun c64 => ?_) (fun c64 => absurd (by decide) c64)
    exact kf A h1 h2
  | succ m ih =>
    intro k A hk h1 h2
    refine WQ.st (fun _ _ kz => pw_iload5 dX11_reply_60 kz) ?_
    refine WQ.st (fun _ _ kz => pw_bipush (v := 12) dX11_reply_62 (by decide) kz) ?_
    refine WQ.br (fun _ _ ka kb => pw_icmp_ge (tgt := 101) dX11_reply_64 (by decide) ka kb) (fun c64 => absurd c64 (by rw [le_i li_12 (ix_n (by omega))]; omega)) (fun c64 => ?_)
    refine WQ.st (fun _ _ kz => pw_aload0 dX11_reply_67 kz) ?_
    refine WQ.st (fun _ _ kz => pw_getr gX11_62 dX11_reply_68 (cf_s8 hC) (cf_p8_16 hC) kz) ?_
    refine WQ.st (fun _ _ kz => pw_iload5 dX11_reply_71 kz) ?_
    refine WQ.st (fun _ _ kz => pw_aload0 dX11_reply_73 kz) ?_
    refine WQ.st (fun _ _ kz => pw_getr gX11_96 dX11_reply_74 (cf_s8 hC) (cf_p8_13 hC) kz) ?_
    refine WQ.st (fun _ _ kz => pw_getr gX11_339 dX11_reply_77 (cf_s107 hC) (cf_p107_0 hC) kz) ?_
    refine WQ.st (fun _ _ kz => pw_iload5 dX11_reply_80 kz) ?_
    refine WQ.st (fun _ _ kz => pw_ald (j := k) dX11_reply_82 (cf_s108 hC) (ix_m rfl (by omega)) (by omega) kz) ?_
    refine wq_s1i wX11_bitOf lX11_342 dX11_reply_83 (k_bitOf _) rfl (Nat.le_of_ble_eq_true rfl) (Nat.le_of_ble_eq_true rfl) (fun h83 z83 => ?_)
    subst z83
    refine WQ.st (fun _ _ kz => pw_bipush (v := 7) dX11_reply_86 (by decide) kz) ?_
    refine WQ.st (fun _ _ kz => pw_imul dX11_reply_88 kz) ?_
    refine WQ.st (fun _ _ kz => pw_iconst (v := 1) dX11_reply_89 (by decide) kz) ?_
    refine WQ.st (fun _ _ kz => pw_ishr dX11_reply_90 kz) ?_
    refine WQ.st (fun _ _ kz => pw_bipush (v := 31) dX11_reply_91 (by decide) kz) ?_
    refine WQ.st (fun _ _ kz => pw_iand dX11_reply_93 kz) ?_
    refine WQ.st (fun _ _ kz => pw_ast (j := k) dX11_reply_94 (cf_s69 hC) (ix_m rfl (by omega)) (by omega)  kz) ?_
    refine WQ.st (fun _ _ kz => pw_iinc5 (v := 1) dX11_reply_95 (by decide) (by decide) (k := kz)) ?_
    refine WQ.st (fun _ _ kz => pw_goto (tgt := 60) dX11_reply_98 (by decide) kz) ?_
    rw [nI_1]
    refine ih (k + 1) _ (by omega) (fun x hx => by rw [up2_na hx]; exact h1 x hx) (fun u hu => ?_)
    by_cases e : u = k
    · rw [e, up2_eq, h1 108 (by omega)]
      rfl
    · rw [up2_nk e]
      exact h2 u (by omega)
set_option maxRecDepth 20000 in
theorem q_reply {G : gT} {d : Nat} {S : sS} {V : sV} {P : sP} {A : sV} {B : sB} {Q : sP} {t sl : Nat} {al : Nat → Int32} {W : WT} {sh ls : Nat} (hI : CI S V P A B Q t al W sh ls) (hls : ls + 1000 < 2000000000) (x y z w : Int32) : WQ G (d + 9) mX11_reply 0 [some (.ref 8), some (.int x), some (.int y), some (.int z), some (.int w), none] [] (t, sl, gh S V P A B Q) (CZ S V P A B Q t sl W sh ls (.int (sp_reply al x.toInt y.toInt z.toInt w.toInt)) al) := by
  unfold CZ
  have hE := hI.de
  have hC := hE.dc.ka.cf
  have hD := hE.dc.ka.dv
  have hSe := hE.dc.ka.se
  have hA := hI.av
  have hp5 := hD.p5
  have hn4 := hD.n4
  refine WQ.st (fun _ _ kz => pw_aload0 dX11_reply_0 kz) ?_
  refine WQ.st (fun _ _ kz => pw_iload1 dX11_reply_1 kz) ?_
  refine WQ.st (fun _ _ kz => pw_iload3 dX11_reply_2 kz) ?_
  refine wq_o2i wX11_hasBoth lX11_262 rfl dX11_reply_3 (cf_s8 hC) (k_hasBoth hI _ _) rfl (Nat.le_of_ble_eq_true rfl) (Nat.le_of_ble_eq_true rfl) (fun h3 z3 => ?_)
  subst z3
  refine WQ.br (fun _ _ ka kb => pw_if_eq (tgt := 33) dX11_reply_6 (by decide) ka kb) (fun c6 => ?_) (fun c6 => ?_)
  · rw [bI_0] at c6
    refine WQ.st (fun _ _ kz => pw_ldc kX11_155 dX11_reply_33 kz) ?_
    refine ⟨_, _, pw_iret dX11_reply_35 rfl rfl rfl rfl, ?_⟩
    rcases Bool.eq_false_or_eq_true (isP al x.toInt) with h1 | h1
    · rw [h1, Bool.true_and] at c6
      exact ⟨rI (by unfold sp_reply; rw [c6, Bool.false_and, Bool.and_false, Bool.and_false, Bool.and_false, if_neg (by decide)]), t, sl, ls, S, V, P, A, B, Q, rfl, hI, by omega, FrO.rfl, fun _ _ h => h⟩
    · exact ⟨rI (by unfold sp_reply; rw [h1, Bool.false_and, if_neg (by decide)]), t, sl, ls, S, V, P, A, B, Q, rfl, hI, by omega, FrO.rfl, fun _ _ h => h⟩
  · rw [bI_n] at c6
    have hb2 := (Bool.and_eq_true _ _).mp c6
    have hiq := hb2.2
    have gx := isP_t hb2.1
    obtain ⟨p, rfl, tp, lp⟩ := nI_get gx.1 gx.2 (by omega)
    have hp : p < 5 := by omega
    have gz := isQ_t hb2.2
    obtain ⟨q, rfl, tq, lq⟩ := nI_get gz.1 gz.2 (by omega)
    have hq : q < 4 := by omega
    have hkk : ∀ b w, b < lgN al q → w < 5 → kpM (A 109) b w = kpA b w := fun b w hb hw => ev_kp hE.dc.ev b w (by have := (hD.lgE hq).2; omega) hw
    refine WQ.st (fun _ _ kz => pw_aload0 dX11_reply_9 kz) ?_
    refine WQ.st (fun _ _ kz => pw_getr gX11_71 dX11_reply_10 (cf_s8 hC) hI.re.p84 kz) ?_
    refine WQ.st (fun _ _ kz => pw_iload2 dX11_reply_13 kz) ?_
    refine wq_o1i wX7_hasPlayer lX11_151 rfl dX11_reply_14 (sh_s0 hE.dc.ka.hsh) (k_hasPlayer hE.dc.ka.hsh hSe hD _) rfl (Nat.le_of_ble_eq_true rfl) (Nat.le_of_ble_eq_true rfl) (fun h14 z14 => ?_)
    subst z14
    refine WQ.br (fun _ _ ka kb => pw_if_eq (tgt := 33) dX11_reply_17 (by decide) ka kb) (fun c17 => ?_) (fun c17 => ?_)
    · rw [bI_0] at c17
      refine WQ.st (fun _ _ kz => pw_ldc kX11_155 dX11_reply_33 kz) ?_
      refine ⟨_, _, pw_iret dX11_reply_35 rfl rfl rfl rfl, ?_⟩
      exact ⟨rI (by unfold sp_reply; rw [c17, Bool.false_and, Bool.and_false, if_neg (by decide)]), t, sl, ls, S, V, P, A, B, Q, rfl, hI, by omega, FrO.rfl, fun _ _ h => h⟩
    · rw [bI_n] at c17
      have gy := isP_t c17
      obtain ⟨r, rfl, tr, lr⟩ := nI_get gy.1 gy.2 (by omega)
      have hr : r < 5 := by omega
      refine WQ.st (fun _ _ kz => pw_iload1 dX11_reply_20 kz) ?_
      refine WQ.st (fun _ _ kz => pw_iload2 dX11_reply_21 kz) ?_
      refine WQ.br (fun _ _ ka kb => pw_icmp_eq (tgt := 33) dX11_reply_22 (by decide) ka kb) (fun c22 => ?_) (fun c22 => ?_)
      · refine WQ.st (fun _ _ kz => pw_ldc kX11_155 dX11_reply_33 kz) ?_
        refine ⟨_, _, pw_iret dX11_reply_35 rfl rfl rfl rfl, ?_⟩
        exact ⟨rI (by unfold sp_reply; rw [decide_eq_false (fun h : (nI p).toInt ≠ (nI r).toInt => h (by rw [c22])), Bool.false_and, Bool.and_false, Bool.and_false, if_neg (by decide)]), t, sl, ls, S, V, P, A, B, Q, rfl, hI, by omega, FrO.rfl, fun _ _ h => h⟩
      · have hne : decide ((nI p).toInt ≠ (nI r).toInt) = true := decide_eq_true (fun h => c22 (Int32.toInt_inj.mp h))
        refine WQ.st (fun _ _ kz => pw_iload4 dX11_reply_25 kz) ?_
        refine wq_s1i wX11_isOfRow lX11_265 dX11_reply_27 (k_isOfRow _) rfl (Nat.le_of_ble_eq_true rfl) (Nat.le_of_ble_eq_true rfl) (fun h27 z27 => ?_)
        subst z27
        refine WQ.bn (fun _ _ ka kb => pw_if_ne (tgt := 36) dX11_reply_30 (by decide) ka kb) (fun c30 => ?_) (fun c30 => ?_)
        · rw [bI_n] at c30
          refine WQ.st (fun _ _ kz => pw_aload0 dX11_reply_36 kz) ?_
          refine WQ.st (fun _ _ kz => pw_iload1 dX11_reply_37 kz) ?_
          refine WQ.st (fun _ _ kz => pw_iload3 dX11_reply_38 kz) ?_
          refine WQ.st (fun _ _ kz => pw_iconst (v := 0) dX11_reply_39 (by decide) kz) ?_
          refine WQ.st (fun _ _ kz => pw_aload0 dX11_reply_40 kz) ?_
          refine WQ.st (fun _ _ kz => pw_getr gX11_96 dX11_reply_41 (cf_s8 hC) (cf_p8_13 hC) kz) ?_
          refine WQ.st (fun _ _ kz => pw_getr gX11_284 dX11_reply_44 (cf_s107 hC) (cf_p107_1 hC) kz) ?_
          refine wq_o4i wX11_findBest lX11_287 rfl dX11_reply_47 (cf_s8 hC) (k_findBest hI (by omega) hp hq hiq (Or.inr rfl) 0 hkk) rfl (Nat.le_of_ble_eq_true rfl) (Nat.le_of_ble_eq_true rfl) (fun h47 z47 => ?_)
          obtain ⟨t5, sl5, ls5, S5, V5, P5, A5, B5, Q5, rfl, i5, l5, o5, r5, f5, y3⟩ := z47
          have hC := i5.de.dc.ka.cf
          refine WQ.bn (fun _ _ ka kb => pw_if_ne (tgt := 57) dX11_reply_50 (by decide) ka kb) (fun c50 => ?_) (fun c50 => ?_)
          · rw [bI_n] at c50
            refine WQ.st (fun _ _ kz => pw_iconst (v := 0) dX11_reply_57 (by decide) kz) ?_
            refine WQ.st (fun _ _ kz => pw_istore5 dX11_reply_58 (by decide) (k := kz)) ?_
            have hB : bsT al p q 0 ≠ -268435456 := of_decide_eq_true c50
            obtain ⟨u1, u2, u3⟩ := y3 hB
            refine q_replyL hC (A0 := A5) (fun A7 g1 g2 => ?_) 12 0 A5 (by omega) (fun _ _ => rfl) (fun u hu => by omega)
            have f7 : FrD 20 S5 V5 P5 A5 B5 Q5 t5 S5 V5 P5 A7 B5 Q5 t5 := FrD.va (fun _ _ => rfl) (fun x hx => g1 x (by omega))
            have i7 : CI S5 V5 P5 A7 B5 Q5 t5 al W sh ls5 := i5.ask (i5.de.dc.fr ⟨fun _ _ => rfl, fun x hx => g1 x (by omega), fun _ _ => rfl⟩ (g1 109 (by omega))) f7
            have hn12 := (hD.lgE hq).2
            have hst := rf_st_ok (hE.kv.stE hp).2 (fun b l s w _ _ _ _ h => TT_in h) hB
            have hk2 : ∀ b w, b < lgN al q → w < 5 → kpM (A7 69) b w = rpK al p q b w := fun b w hb hw => by
              unfold kpM
              rw [g2 b (by omega), u3 b (by omega), if_pos hb]
              exact rp_kp (hst (b + 1) (by omega)).1 hw
            refine WQ.st (fun _ _ kz => pw_aload0 dX11_reply_101 kz) ?_
            refine WQ.st (fun _ _ kz => pw_iload2 dX11_reply_102 kz) ?_
            refine WQ.st (fun _ _ kz => pw_iload3 dX11_reply_103 kz) ?_
            refine WQ.st (fun _ _ kz => pw_iconst (v := 0) dX11_reply_104 (by decide) kz) ?_
            refine WQ.st (fun _ _ kz => pw_aload0 dX11_reply_105 kz) ?_
            refine WQ.st (fun _ _ kz => pw_getr gX11_62 dX11_reply_106 (cf_s8 hC) (cf_p8_16 hC) kz) ?_
            refine wq_o4i wX11_findBest lX11_287 rfl dX11_reply_109 (cf_s8 hC) (k_findBest i7 (by omega) hr hq hiq (Or.inl rfl) 0 hk2) rfl (Nat.le_of_ble_eq_true rfl) (Nat.le_of_ble_eq_true rfl) (fun h109 z109 => ?_)
            obtain ⟨t8, sl8, ls8, S8, V8, P8, A8, B8, Q8, rfl, i8, l8, o8, r8, f8, y8⟩ := z109
            have hC := i8.de.dc.ka.cf
            refine WQ.br (fun _ _ ka kb => pw_if_eq (tgt := 127) dX11_reply_112 (by decide) ka kb) (fun c112 => ?_) (fun c112 => ?_)
            · rw [bI_0] at c112
              refine WQ.st (fun _ _ kz => pw_ldcw kX11_294 dX11_reply_127 kz) ?_
              refine ⟨_, _, pw_iret dX11_reply_130 rfl rfl rfl rfl, ?_⟩
              have es : sp_reply al (nI p).toInt (nI r).toInt (nI q).toInt w.toInt = sp_tr (decide (rpT al p r q ≠ -268435456)) (rpT al p r q) (sI (rpS al p r q (lgN al q)).2) (fun b => dI (rpS al p r q (b + 1)).1) (lgN al q) w.toInt := by
                unfold sp_reply
                rw [hb2.1, c17, hne, hb2.2, c30, Bool.true_and, if_pos (by rfl), tp, tr, tq, Int.toNat_natCast, Int.toNat_natCast, Int.toNat_natCast, if_neg hB]
              have c112 : decide (rpT al p r q ≠ -268435456) = false := c112
              exact ⟨rI (by rw [es]; unfold sp_tr; rw [c112, if_neg (by decide)]), t8, sl8, ls8, S8, V8, P8, A8, B8, Q8, rfl, i8, by omega, (o5.tr (f7.o (Or.inr rfl))).tr o8, fun k1 k2 h => r8 _ _ (r5 _ _ h)⟩
            · rw [bI_n] at c112
              refine WQ.st (fun _ _ kz => pw_aload0 dX11_reply_115 kz) ?_
              refine WQ.st (fun _ _ kz => pw_getr gX11_96 dX11_reply_116 (cf_s8 hC) (cf_p8_13 hC) kz) ?_
              refine WQ.st (fun _ _ kz => pw_iload4 dX11_reply_119 kz) ?_
              refine wq_o1i wX10_tell lX11_291 rfl dX11_reply_121 (cf_s107 hC) (k_tell hC c30) rfl (Nat.le_of_ble_eq_true rfl) (Nat.le_of_ble_eq_true rfl) (fun h121 z121 => ?_)
              subst z121
              refine WQ.st (fun _ _ kz => pw_goto (tgt := 130) dX11_reply_124 (by decide) kz) ?_
              refine ⟨_, _, pw_iret dX11_reply_130 rfl rfl rfl rfl, ?_⟩
              have es : sp_reply al (nI p).toInt (nI r).toInt (nI q).toInt w.toInt = sp_tr (decide (rpT al p r q ≠ -268435456)) (rpT al p r q) (sI (rpS al p r q (lgN al q)).2) (fun b => dI (rpS al p r q (b + 1)).1) (lgN al q) w.toInt := by
                unfold sp_reply
                rw [hb2.1, c17, hne, hb2.2, c30, Bool.true_and, if_pos (by rfl), tp, tr, tq, Int.toNat_natCast, Int.toNat_natCast, Int.toNat_natCast, if_neg hB]
              have c112 : decide (rpT al p r q ≠ -268435456) = true := c112
              obtain ⟨v1, v2, v3⟩ := y8 (of_decide_eq_true c112)
              have hw12 : (w.toInt - 10).toNat < 12 := by
                unfold isT at c30
                rcases (Bool.or_eq_true _ _).mp c30 with h | h
                · have := of_decide_eq_true h; omega
                · have := of_decide_eq_true h; omega
              have e2 : sp_tr (decide (rpT al p r q ≠ -268435456)) (rpT al p r q) (sI (rpS al p r q (lgN al q)).2) (fun b => dI (rpS al p r q (b + 1)).1) (lgN al q) w.toInt = (if w.toInt = 0 then rpT al p r q else if w.toInt = 1 then sI (rpS al p r q (lgN al q)).2 else if (w.toInt - 10).toNat < lgN al q then dI (rpS al p r q ((w.toInt - 10).toNat + 1)).1 else 9) := by
                unfold sp_tr
                rw [if_pos c112]
              exact ⟨rI (by rw [es, e2, v1, v2, v3 _ hw12]; rfl), t8, sl8, ls8, S8, V8, P8, A8, B8, Q8, rfl, i8, by omega, (o5.tr (f7.o (Or.inr rfl))).tr o8, fun k1 k2 h => r8 _ _ (r5 _ _ h)⟩
          · rw [bI_0] at c50
            refine WQ.st (fun _ _ kz => pw_ldcw kX11_294 dX11_reply_53 kz) ?_
            refine ⟨_, _, pw_iret dX11_reply_56 rfl rfl rfl rfl, ?_⟩
            have hB : bsT al p q 0 = -268435456 := Decidable.byContradiction (fun h => of_decide_eq_false c50 h)
            exact ⟨rI (by unfold sp_reply; rw [hb2.1, c17, hne, hb2.2, c30, Bool.true_and, if_pos (by rfl), tp, tr, tq, Int.toNat_natCast, Int.toNat_natCast, Int.toNat_natCast, if_pos hB]), t5, sl5, ls5, S5, V5, P5, A5, B5, Q5, rfl, i5, by omega, o5, r5⟩
        · rw [bI_0] at c30
          refine WQ.st (fun _ _ kz => pw_ldc kX11_155 dX11_reply_33 kz) ?_
          refine ⟨_, _, pw_iret dX11_reply_35 rfl rfl rfl rfl, ?_⟩
          exact ⟨rI (by unfold sp_reply; rw [c30, Bool.and_false, Bool.and_false, Bool.and_false, Bool.and_false, if_neg (by decide)]), t, sl, ls, S, V, P, A, B, Q, rfl, hI, by omega, FrO.rfl, fun _ _ h => h⟩
