set_option maxRecDepth 20000 in
theorem q_termL {G : gT} {d : Nat} {S0 : sS} {V0 : sV} {P0 : sP} {A0 : sV} {B0 : sB} {Q0 : sP} {t0 sl0 : Nat} {sh ls0 : Nat} {T : Nat} {x1 : Int32} (hT : T ≤ 40) (hls : ls0 + 1000 < 2000000000) {R : (Nat → Int32) × Nat} {Z : Option Value → Ph → Prop} (kf : ∀ (t sl ls : Nat) (S : sS) (V : sV) (P : sP) (A : sV) (B : sB) (Q : sP) (al : Nat → Int32) (c : Nat), DE S V P A B Q t al sh ls 16 → FrD 16 S0 V0 P0 A0 B0 Q0 t0 S V P A B Q t → ls ≤ ls0 + 40 → (∀ k1 k2, Room2 S0 Q0 t0 sl0 k1 k2 → Room2 S Q t sl k1 k2) → sp_term 0 al (V 137 4) c = R → c ≤ T → WQ G (d + 9) mX11_term 67 [some (.ref 8), some (.int x1), some (.int (nI T)), some (.int (nI c)), some (.int (nI T))] [] (t, sl, gh S V P A B Q) Z) : ∀ (m k c : Nat) (t sl ls : Nat) (S : sS) (V : sV) (P : sP) (A : sV) (B : sB) (Q : sP) (al : Nat → Int32), k + m = T → DE S V P A B Q t al sh ls 16 → FrD 16 S0 V0 P0 A0 B0 Q0 t0 S V P A B Q t → ls ≤ ls0 + k → (∀ k1 k2, Room2 S0 Q0 t0 sl0 k1 k2 → Room2 S Q t sl k1 k2) → sp_term m al (V 137 4) c = R → c ≤ k → WQ G (d + 9) mX11_term 38 [some (.ref 8), some (.int x1), some (.int (nI T)), some (.int (nI c)), some (.int (nI k))] [] (t, sl, gh S V P A B Q) Z := by
  intro m
  induction m with
  | zero =>
    intro k c t sl ls S V P A B Q al hk hE hf hl hr hR hc
    have hk : k = T := hk
    subst hk
    have hC := hE.dc.ka.cf
    refine WQ.st (fun _ _ kz => pw_iload4 dX11_term_38 kz) ?_
    refine WQ.st (fun _ _ kz => pw_iload2 dX11_term_40 kz) ?_
    refine WQ.br (fun _ _ ka kb => pw_icmp_ge (tgt := 67) dX11_term_41 (by decide) ka kb) (fun c41 => ?_) (fun c41 => absurd (by rw [le_i (ix_n (j := k) (by omega)) (ix_n (j := k) (by omega))]; omega) c41)
    exact kf _ _ _ _ _ _ _ _ _ _ _ hE hf (by omega) hr hR (by omega)
  | succ m ih =>
    intro k c t sl ls S V P A B Q al hk hE hf hl hr hR hc
    have hR : sp_term m (sp_dd al (V 137 4)).1.2 (sp_dd al (V 137 4)).2 (c + if (sp_dd al (V 137 4)).1.1 then 1 else 0) = R := hR
    have hC := hE.dc.ka.cf
    refine WQ.st (fun _ _ kz => pw_iload4 dX11_term_38 kz) ?_
    refine WQ.st (fun _ _ kz => pw_iload2 dX11_term_40 kz) ?_
    refine WQ.br (fun _ _ ka kb => pw_icmp_ge (tgt := 67) dX11_term_41 (by decide) ka kb) (fun c41 => absurd c41 (by rw [le_i (ix_n (j := T) (by omega)) (ix_n (j := k) (by omega))]; omega)) (fun c41 => ?_)
    refine WQ.st (fun _ _ kz => pw_aload0 dX11_term_44 kz) ?_
    refine WQ.st (fun _ _ kz => pw_getr gX11_114 dX11_term_45 (cf_s8 hC) (cf_p8_15 hC) kz) ?_
    refine WQ.st (fun _ _ kz => pw_aload0 dX11_term_48 kz) ?_
    refine WQ.st (fun _ _ kz => pw_getr gX11_35 dX11_term_49 (cf_s8 hC) (cf_p8_5 hC) kz) ?_
    obtain ⟨_, _, k0, w, rfl, e0, t5, sl5, ls5, S5, V5, P5, A5, B5, Q5, rfl, z1, z2, z3, z4, z5⟩ := k_doDrawn (G := G) (d := d + 2) (sl := sl) hE (by omega)
    refine WQ.st (fun _ _ kz => pw_o1i wX2_doDrawn lX11_259 rfl dX11_term_52 (cf_s137 hC) (k0) rfl (Nat.le_of_ble_eq_true rfl) (Nat.le_of_ble_eq_true rfl) kz) ?_
    refine WQ.bn (fun _ _ ka kb => pw_if_ne (tgt := 61) dX11_term_55 (by decide) ka kb) (fun c55 => ?_) (fun c55 => ?_)
    · rw [decide_eq_false c55] at e0
      rw [← e0, if_neg (by decide)] at hR
      have kk := ih (k + 1) (c) _ _ _ _ _ _ _ _ _ _ (by omega) z1 (hf.tr z3) (by omega) (fun k1 k2 h => z4 _ _ (hr _ _ h)) (by rw [z5]; exact hR) (by omega)
      refine WQ.st (fun _ _ kz => pw_iinc4 (v := 1) dX11_term_61 (by decide) (by decide) (k := kz)) ?_
      refine WQ.st (fun _ _ kz => pw_goto (tgt := 38) dX11_term_64 (by decide) kz) ?_
      rw [nI_1]
      skip
      exact kk
    · rw [decide_eq_true c55] at e0
      rw [← e0, if_pos rfl] at hR
      have kk := ih (k + 1) (c + 1) _ _ _ _ _ _ _ _ _ _ (by omega) z1 (hf.tr z3) (by omega) (fun k1 k2 h => z4 _ _ (hr _ _ h)) (by rw [z5]; exact hR) (by omega)
      refine WQ.st (fun _ _ kz => pw_iinc3 (v := 1) dX11_term_58 (by decide) (by decide) (k := kz)) ?_
      refine WQ.st (fun _ _ kz => pw_iinc4 (v := 1) dX11_term_61 (by decide) (by decide) (k := kz)) ?_
      refine WQ.st (fun _ _ kz => pw_goto (tgt := 38) dX11_term_64 (by decide) kz) ?_
      rw [nI_1]
      rw [nI_1]
      exact kk
set_option maxRecDepth 20000 in
theorem q_term {G : gT} {d : Nat} {S : sS} {V : sV} {P : sP} {A : sV} {B : sB} {Q : sP} {t sl : Nat} {al : Nat → Int32} {W : WT} {sh ls : Nat} (hI : CI S V P A B Q t al W sh ls) (hls : ls + 1000 < 2000000000) (x y : Int32) : WQ G (d + 9) mX11_term 0 [some (.ref 8), some (.int x), some (.int y), none, none] [] (t, sl, gh S V P A B Q) (CZ S V P A B Q t sl W sh ls (.int (sp_termC al x y.toInt).1) (sp_termC al x y.toInt).2) := by
  unfold CZ
  have hE := hI.de
  have hC := hE.dc.ka.cf
  have hD := hE.dc.ka.dv
  have hSe := hE.dc.ka.se
  have hA := hI.av
  refine WQ.st (fun _ _ kz => pw_iload2 dX11_term_0 kz) ?_
  refine WQ.st (fun _ _ kz => pw_iconst (v := 1) dX11_term_1 (by decide) kz) ?_
  refine WQ.br (fun _ _ ka kb => pw_icmp_lt (tgt := 11) dX11_term_2 (by decide) ka kb) (fun c2 => ?_) (fun c2 => ?_)
  · rw [lt_i rfl li_1] at c2
    refine WQ.st (fun _ _ kz => pw_ldc kX11_123 dX11_term_11 kz) ?_
    refine ⟨_, _, pw_iret dX11_term_13 rfl rfl rfl rfl, ?_⟩
    have es : sp_termC al x y.toInt = (-99000003, al) := by
      unfold sp_termC
      rw [if_neg (fun h => by omega)]
    rw [es]
    exact ⟨rfl, t, sl, ls, S, V, P, A, B, Q, rfl, hI, by omega, FrO.rfl, fun _ _ h => h⟩
  · rw [lt_i rfl li_1] at c2
    refine WQ.st (fun _ _ kz => pw_iload2 dX11_term_5 kz) ?_
    refine WQ.st (fun _ _ kz => pw_bipush (v := 40) dX11_term_6 (by decide) kz) ?_
    refine WQ.br (fun _ _ ka kb => pw_icmp_le (tgt := 14) dX11_term_8 (by decide) ka kb) (fun c8 => ?_) (fun c8 => ?_)
    · rw [le_i rfl li_40] at c8
      have hc0 : 1 ≤ y.toInt ∧ y.toInt ≤ 40 := ⟨by omega, c8⟩
      refine WQ.st (fun _ _ kz => pw_aload0 dX11_term_14 kz) ?_
      refine WQ.st (fun _ _ kz => pw_getr gX11_39 dX11_term_15 (cf_s8 hC) (cf_p8_6 hC) kz) ?_
      refine WQ.st (fun _ _ kz => pw_aload0 dX11_term_18 kz) ?_
      refine WQ.st (fun _ _ kz => pw_getr gX11_35 dX11_term_19 (cf_s8 hC) (cf_p8_5 hC) kz) ?_
      refine wq_o1v wX8_copy lX11_194 rfl dX11_term_22 (cf_s20 hC) (k_copy (cf_st20 hC) (cf_st16 hC) (by omega) hE.se) rfl (Nat.le_of_ble_eq_true rfl) (Nat.le_of_ble_eq_true rfl) (fun h22 z22 => ?_)
      obtain ⟨V1, A1, rfl, w1, w2⟩ := z22
      have hE1 := hE.aside w2
      refine WQ.st (fun _ _ kz => pw_aload0 dX11_term_25 kz) ?_
      refine WQ.st (fun _ _ kz => pw_getr gX11_114 dX11_term_26 (cf_s8 hC) (cf_p8_15 hC) kz) ?_
      refine WQ.st (fun _ _ kz => pw_iload1 dX11_term_29 kz) ?_
      refine wq_o1v wX2_sow lX11_256 rfl dX11_term_30 (cf_s137 hC) (k_sow hC x) rfl (Nat.le_of_ble_eq_true rfl) (Nat.le_of_ble_eq_true rfl) (fun h30 z30 => ?_)
      subst z30
      refine WQ.st (fun _ _ kz => pw_iconst (v := 0) dX11_term_33 (by decide) kz) ?_
      refine WQ.st (fun _ _ kz => pw_istore3 dX11_term_34 (by decide) (k := kz)) ?_
      refine WQ.st (fun _ _ kz => pw_iconst (v := 0) dX11_term_35 (by decide) kz) ?_
      refine WQ.st (fun _ _ kz => pw_istore4 dX11_term_36 (by decide) (k := kz)) ?_
      obtain ⟨T, rfl, tT, _⟩ := nI_get (x := y) (n := 41) (by omega) (by omega) (by omega)
      have hf0 := (hE1.seed x).2
      have tT2 : (nI T).toInt.toNat = T := by omega
      refine q_termL (T := T) (R := sp_term T al x 0) (by omega) (by omega) (fun t5 sl5 ls5 S5 V5 P5 A5 B5 Q5 al5 c z1 z3 z2 z4 hR hc => ?_) T 0 0 _ _ _ _ _ _ _ _ _ al (by omega) (hE1.seed x).1 FrD.rfl (by omega) (fun _ _ h => h) (by rw [up2_eq]) (by omega)
      have e1 : al5 = (sp_term T al x 0).1 := by rw [← hR]; rfl
      have e2 : (sp_term T al x 0).2 = c := by rw [← hR]; rfl
      rw [e1] at z1
      have z3 := hf0.tr z3
      have ho := (term_ok T al x 0 hA.dv hA.kv).1
      have hC := z1.dc.ka.cf
      have hR5 := (hI.re.aside w2).fr (z3.r (Or.inl rfl))
      have hH5 := hR5.hi.cong hA.dn.2 (fun i h1 h2 => ho i (by omega))
      have w5 : StE V5 A5 20 (fun k => al (75 + k)) := w1.fr (z3.2.2.1 20 (by omega)) (fun x _ _ => z3.2.2.2.2.1 x (by omega))
      refine WQ.st (fun _ _ kz => pw_iload3 dX11_term_67 kz) ?_
      refine WQ.br (fun _ _ ka kb => pw_if_le (tgt := 82) dX11_term_68 (by decide) ka kb) (fun c68 => ?_) (fun c68 => ?_)
      · rw [le_i (ix_n (j := c) (by omega)) rfl] at c68
        have c68 : (c : Int) ≤ 0 := c68
        have c0 : c = 0 := by omega
        refine WQ.st (fun _ _ kz => pw_iload3 dX11_term_82 kz) ?_
        refine ⟨_, _, pw_iret dX11_term_83 rfl rfl rfl rfl, ?_⟩
        have es : sp_termC al x (nI T).toInt = (nI c, if c = 0 then (sp_term T al x 0).1 else nk al (sp_term T al x 0).1) := by
          unfold sp_termC
          rw [if_pos hc0, tT2, e2]
        rw [es, if_pos c0]
        exact ⟨rfl, t5, sl5, ls5, S5, V5, P5, A5, B5, Q5, rfl, CI.plain hA (hI.re.aside w2) z1 z3 ho, by omega, w2.o.tr (z3.o (Or.inl rfl)), z4⟩
      · rw [le_i (ix_n (j := c) (by omega)) rfl] at c68
        have c68 : ¬ (c : Int) ≤ 0 := c68
        have c0 : ¬ c = 0 := by omega
        refine WQ.st (fun _ _ kz => pw_aload0 dX11_term_71 kz) ?_
        refine WQ.st (fun _ _ kz => pw_getr gX11_45 dX11_term_72 (cf_s8 hC) (cf_p8_7 hC) kz) ?_
        refine WQ.st (fun _ _ kz => pw_aload0 dX11_term_75 kz) ?_
        refine WQ.st (fun _ _ kz => pw_getr gX11_39 dX11_term_76 (cf_s8 hC) (cf_p8_6 hC) kz) ?_
        refine wq_o1v wX3_keep lX11_203 rfl dX11_term_79 (cf_s24 hC) (k_keep hC hH5 (by rw [ho 92 (by omega)]; exact hA.dn) (Or.inr rfl) w5) rfl (Nat.le_of_ble_eq_true rfl) (Nat.le_of_ble_eq_true rfl) (fun h79 z79 => ?_)
        obtain ⟨V7, A7, rfl, g1, g2⟩ := z79
        refine WQ.st (fun _ _ kz => pw_iload3 dX11_term_82 kz) ?_
        refine ⟨_, _, pw_iret dX11_term_83 rfl rfl rfl rfl, ?_⟩
        obtain ⟨q1, q2⟩ := CI.deed hA (hI.re.aside w2) z1 z3 ho g1 g2
        have es : sp_termC al x (nI T).toInt = (nI c, if c = 0 then (sp_term T al x 0).1 else nk al (sp_term T al x 0).1) := by
          unfold sp_termC
          rw [if_pos hc0, tT2, e2]
        rw [es, if_neg c0]
        exact ⟨rfl, t5, sl5, ls5, S5, V7, P5, A7, B5, Q5, rfl, q1, by omega, w2.o.tr q2, z4⟩
    · rw [le_i rfl li_40] at c8
      refine WQ.st (fun _ _ kz => pw_ldc kX11_123 dX11_term_11 kz) ?_
      refine ⟨_, _, pw_iret dX11_term_13 rfl rfl rfl rfl, ?_⟩
      have es : sp_termC al x y.toInt = (-99000003, al) := by
        unfold sp_termC
        rw [if_neg (fun h => by omega)]
      rw [es]
      exact ⟨rfl, t, sl, ls, S, V, P, A, B, Q, rfl, hI, by omega, FrO.rfl, fun _ _ h => h⟩
