set_option maxRecDepth 20000 in
theorem q_judgeL {G : gT} {d : Nat} {S0 : sS} {V0 : sV} {P0 : sP} {A0 : sV} {B0 : sB} {Q0 : sP} {t0 sl0 : Nat} {sh ls0 : Nat} {tr n : Nat} {x1 y : Int32} (htr : tr < 4) (hn : n ≤ 40) {f : Nat → Int} (hls : ls0 + 1000 < 2000000000) (hV : V0 (79 + 2 * tr) 0 = nI n) (hB : ∀ i, i < n → (B0 (80 + 2 * tr) i).toInt = f i) {R : (Nat → Int32) × Nat × Int32} {Z : Option Value → Ph → Prop} (kf : ∀ (t sl ls : Nat) (S : sS) (V : sV) (P : sP) (A : sV) (B : sB) (Q : sP) (al : Nat → Int32) (p c k : Int32), DE S V P A B Q t al sh ls 20 → FrD 20 S0 V0 P0 A0 B0 Q0 t0 S V P A B Q t → ls ≤ ls0 + 40 → (∀ k1 k2, Room2 S0 Q0 t0 sl0 k1 k2 → Room2 S Q t sl k1 k2) → al = R.1 → c = R.2.2 → (¬ c = 0 → p = nI R.2.1) → WQ G (d + 9) mX11_judge 99 [some (.ref 8), some (.int x1), some (.int y), some (.ref (79 + 2 * tr)), some (.int p), some (.int c), some (.int k)] [] (t, sl, gh S V P A B Q) Z) : ∀ (m k : Nat) (p : Int32) (t sl ls : Nat) (S : sS) (V : sV) (P : sP) (A : sV) (B : sB) (Q : sP) (al : Nat → Int32), k + m = n → DE S V P A B Q t al sh ls 20 → FrD 20 S0 V0 P0 A0 B0 Q0 t0 S V P A B Q t → ls ≤ ls0 + k → (∀ k1 k2, Room2 S0 Q0 t0 sl0 k1 k2 → Room2 S Q t sl k1 k2) → sp_tell f m k al = R → WQ G (d + 9) mX11_judge 56 [some (.ref 8), some (.int x1), some (.int y), some (.ref (79 + 2 * tr)), some (.int p), some (.int 0), some (.int (nI k))] [] (t, sl, gh S V P A B Q) Z := by
  intro m
  induction m with
  | zero =>
    intro k p t sl ls S V P A B Q al hk hE hf hl hr hR
    have hk : k = n := hk
    subst hk
    have hC := hE.dc.ka.cf
    have hTy := cf_ty hC htr
    have hv : V (79 + 2 * tr) 0 = nI k := by rw [hf.2.2.1 _ (by omega)]; exact hV
    refine WQ.st (fun _ _ kz => pw_iload6 dX11_judge_56 kz) ?_
    refine WQ.st (fun _ _ kz => pw_aload3 dX11_judge_58 kz) ?_
    refine WQ.st (fun _ _ kz => pw_geti gX11_240 dX11_judge_59 (ty_s0 hTy) kz) ?_
    rw [hv]
    refine WQ.br (fun _ _ ka kb => pw_icmp_ge (tgt := 99) dX11_judge_62 (by decide) ka kb) (fun c62 => ?_) (fun c62 => absurd (by rw [le_i (ix_n (j := k) (by omega)) (ix_n (j := k) (by omega))]; omega) c62)
    exact kf _ _ _ _ _ _ _ _ _ _ _ _ _  hE hf (by omega) hr (by rw [← hR]; rfl) (by rw [← hR]; rfl) (fun h => absurd rfl h)
  | succ m ih =>
    intro k p t sl ls S V P A B Q al hk hE hf hl hr hR
    have hR : (if sp_why al (f k) = 0 then sp_tell f m (k + 1) (sp_act al (f k)) else (al, k, sp_why al (f k))) = R := hR
    have hC := hE.dc.ka.cf
    have hTy := cf_ty hC htr
    have hv : V (79 + 2 * tr) 0 = nI n := by rw [hf.2.2.1 _ (by omega)]; exact hV
    refine WQ.st (fun _ _ kz => pw_iload6 dX11_judge_56 kz) ?_
    refine WQ.st (fun _ _ kz => pw_aload3 dX11_judge_58 kz) ?_
    refine WQ.st (fun _ _ kz => pw_geti gX11_240 dX11_judge_59 (ty_s0 hTy) kz) ?_
    rw [hv]
    refine WQ.br (fun _ _ ka kb => pw_icmp_ge (tgt := 99) dX11_judge_62 (by decide) ka kb) (fun c62 => absurd c62 (by rw [le_i (ix_n (j := n) (by omega)) (ix_n (j := k) (by omega))]; omega)) (fun c62 => ?_)
    refine WQ.st (fun _ _ kz => pw_iload5 dX11_judge_65 kz) ?_
    refine WQ.bn (fun _ _ ka kb => pw_if_ne (tgt := 99) dX11_judge_67 (by decide) ka kb) (fun c67 => absurd (by decide) c67) (fun c67 => ?_)
    refine WQ.st (fun _ _ kz => pw_iload6 dX11_judge_70 kz) ?_
    refine WQ.st (fun _ _ kz => pw_istore4 dX11_judge_72 (by decide) (k := kz)) ?_
    refine WQ.st (fun _ _ kz => pw_aload0 dX11_judge_74 kz) ?_
    refine WQ.st (fun _ _ kz => pw_getr gX11_114 dX11_judge_75 (cf_s8 hC) (cf_p8_15 hC) kz) ?_
    refine WQ.st (fun _ _ kz => pw_aload0 dX11_judge_78 kz) ?_
    refine WQ.st (fun _ _ kz => pw_getr gX11_39 dX11_judge_79 (cf_s8 hC) (cf_p8_6 hC) kz) ?_
    refine WQ.st (fun _ _ kz => pw_aload3 dX11_judge_82 kz) ?_
    refine WQ.st (fun _ _ kz => pw_iload6 dX11_judge_83 kz) ?_
    refine wq_o1i wX9_at lX11_241 rfl dX11_judge_85 (ty_s0 hTy) (k_at hTy hv hn (by omega)) rfl (Nat.le_of_ble_eq_true rfl) (Nat.le_of_ble_eq_true rfl) (fun h85 z85 => ?_)
    subst z85
    refine wq_o2i wX2_doTold lX11_245 rfl dX11_judge_88 (cf_s137 hC) (k_doTold hE (by omega) _) rfl (Nat.le_of_ble_eq_true rfl) (Nat.le_of_ble_eq_true rfl) (fun h88 z88 => ?_)
    obtain ⟨t5, sl5, ls5, S5, V5, P5, A5, B5, Q5, rfl, z1, z2, z3, z4, z5⟩ := z88
    have eB : (B (79 + 2 * tr + 1) k).toInt = f k := by
      rw [show 79 + 2 * tr + 1 = 80 + 2 * tr by omega, hf.2.2.2.2.2.1 _ (by omega)]
      exact hB k (by omega)
    rw [eB] at z1
    rw [eB]
    refine WQ.st (fun _ _ kz => pw_istore5 dX11_judge_91 (by decide) (k := kz)) ?_
    refine WQ.st (fun _ _ kz => pw_iinc6 (v := 1) dX11_judge_93 (by decide) (by decide) (k := kz)) ?_
    refine WQ.st (fun _ _ kz => pw_goto (tgt := 56) dX11_judge_96 (by decide) kz) ?_
    rw [nI_1]
    by_cases cw : sp_why al (f k) = 0
    · rw [if_pos cw] at z1 hR
      have kk := ih (k + 1) (nI k) _ _ _ _ _ _ _ _ _ _ (by omega) z1 (hf.tr z3) (by omega) (fun k1 k2 h => z4 _ _ (hr _ _ h)) hR
      rw [cw]
      exact kk
    · rw [if_neg cw] at z1 hR
      have hC5 := z1.dc.ka.cf
      have hTy5 := cf_ty hC5 htr
      refine WQ.st (fun _ _ kz => pw_iload6 dX11_judge_56 kz) ?_
      refine WQ.st (fun _ _ kz => pw_aload3 dX11_judge_58 kz) ?_
      refine WQ.st (fun _ _ kz => pw_geti gX11_240 dX11_judge_59 (ty_s0 hTy5) kz) ?_
      refine WQ.br (fun _ _ ka kb => pw_icmp_ge (tgt := 99) dX11_judge_62 (by decide) ka kb) (fun c62 => ?_) (fun c62 => ?_)
      · exact kf _ _ _ _ _ _ _ _ _ _ _ _ _  z1 (hf.tr z3) (by omega) (fun k1 k2 h => z4 _ _ (hr _ _ h)) (by rw [← hR]) (by rw [← hR]) (fun _ => by rw [← hR])
      · refine WQ.st (fun _ _ kz => pw_iload5 dX11_judge_65 kz) ?_
        refine WQ.bn (fun _ _ ka kb => pw_if_ne (tgt := 99) dX11_judge_67 (by decide) ka kb) (fun c67 => ?_) (fun c67 => absurd c67 cw)
        exact kf _ _ _ _ _ _ _ _ _ _ _ _ _  z1 (hf.tr z3) (by omega) (fun k1 k2 h => z4 _ _ (hr _ _ h)) (by rw [← hR]) (by rw [← hR]) (fun _ => by rw [← hR])
set_option maxRecDepth 20000 in
theorem q_judge {G : gT} {d : Nat} {S : sS} {V : sV} {P : sP} {A : sV} {B : sB} {Q : sP} {t sl : Nat} {al : Nat → Int32} {W : WT} {sh ls : Nat} (hI : CI S V P A B Q t al W sh ls) (hls : ls + 1000 < 2000000000) (x y : Int32) : WQ G (d + 9) mX11_judge 0 [some (.ref 8), some (.int x), some (.int y), none, none, none, none] [] (t, sl, gh S V P A B Q) (CZ S V P A B Q t sl W sh ls (.int (sp_judge al W.2.1 W.2.2.1 W.2.2.2.1 x.toInt y.toInt)) al) := by
  unfold CZ
  have hE := hI.de
  have hC := hE.dc.ka.cf
  have hD := hE.dc.ka.dv
  have hSe := hE.dc.ka.se
  have hA := hI.av
  refine WQ.st (fun _ _ kz => pw_iload1 dX11_judge_0 kz) ?_
  refine wq_s1i wX11_isTray lX11_232 dX11_judge_1 (k_isTray x) rfl (Nat.le_of_ble_eq_true rfl) (Nat.le_of_ble_eq_true rfl) (fun h1 z1 => ?_)
  subst z1
  refine WQ.br (fun _ _ ka kb => pw_if_eq (tgt := 16) dX11_judge_4 (by decide) ka kb) (fun c4 => ?_) (fun c4 => ?_)
  · rw [bI_0] at c4
    refine WQ.st (fun _ _ kz => pw_ldc kX11_155 dX11_judge_16 kz) ?_
    refine ⟨_, _, pw_iret dX11_judge_18 rfl rfl rfl rfl, ?_⟩
    have hnt : sp_nt W.2.1 x.toInt = -99000002 := by
      unfold sp_nt
      rw [if_neg (of_decide_eq_false c4)]
    have es : sp_judge al W.2.1 W.2.2.1 W.2.2.2.1 x.toInt y.toInt = -99000002 := by
      unfold sp_judge
      by_cases hy : 0 ≤ y.toInt ∧ y.toInt ≤ 3
      · rw [if_pos hy, hnt, if_neg (by decide)]
      · rw [if_neg hy]
    rw [es]
    exact ⟨rfl, t, sl, ls, S, V, P, A, B, Q, rfl, hI, by omega, FrO.rfl, fun _ _ h => h⟩
  · rw [bI_n] at c4
    refine WQ.st (fun _ _ kz => pw_iload2 dX11_judge_7 kz) ?_
    refine WQ.br (fun _ _ ka kb => pw_if_lt (tgt := 16) dX11_judge_8 (by decide) ka kb) (fun c8 => ?_) (fun c8 => ?_)
    · rw [lt_i rfl li_0] at c8
      refine WQ.st (fun _ _ kz => pw_ldc kX11_155 dX11_judge_16 kz) ?_
      refine ⟨_, _, pw_iret dX11_judge_18 rfl rfl rfl rfl, ?_⟩
      have es : sp_judge al W.2.1 W.2.2.1 W.2.2.2.1 x.toInt y.toInt = -99000002 := by
        unfold sp_judge
        rw [if_neg (by omega)]
      rw [es]
      exact ⟨rfl, t, sl, ls, S, V, P, A, B, Q, rfl, hI, by omega, FrO.rfl, fun _ _ h => h⟩
    · rw [lt_i rfl li_0] at c8
      refine WQ.st (fun _ _ kz => pw_iload2 dX11_judge_11 kz) ?_
      refine WQ.st (fun _ _ kz => pw_iconst (v := 3) dX11_judge_12 (by decide) kz) ?_
      refine WQ.br (fun _ _ ka kb => pw_icmp_le (tgt := 19) dX11_judge_13 (by decide) ka kb) (fun c13 => ?_) (fun c13 => ?_)
      · rw [le_i rfl li_3] at c13
        have hx := of_decide_eq_true c4
        obtain ⟨tr, rfl, tx, _⟩ := nI_get (x := x) (n := 4) (by omega) (by omega) (by omega)
        have htr : tr < 4 := by omega
        have hTy := cf_ty hC htr
        have tx2 : (nI tr).toInt.toNat = tr := by omega
        refine WQ.st (fun _ _ kz => pw_aload0 dX11_judge_19 kz) ?_
        refine WQ.st (fun _ _ kz => pw_getr gX11_58 dX11_judge_20 (cf_s8 hC) (cf_p8_10 hC) kz) ?_
        refine WQ.st (fun _ _ kz => pw_iload1 dX11_judge_23 kz) ?_
        refine WQ.st (fun _ _ kz => pw_qldr (j := tr) dX11_judge_24 (cf_s68 hC) (by decide) (ix_m rfl (by omega)) (by omega) (hI.re.tr.1 tr htr) kz) ?_
        refine WQ.st (fun _ _ kz => pw_astore3 dX11_judge_25 (by decide) (k := kz)) ?_
        refine WQ.st (fun _ _ kz => pw_aload3 dX11_judge_26 kz) ?_
        refine wq_o0i wX9_isMissing lX11_235 rfl dX11_judge_27 (ty_s0 hTy) (k_isMissing hTy) rfl (Nat.le_of_ble_eq_true rfl) (Nat.le_of_ble_eq_true rfl) (fun h27 z27 => ?_)
        subst z27
        refine WQ.br (fun _ _ ka kb => pw_if_eq (tgt := 36) dX11_judge_30 (by decide) ka kb) (fun c30 => ?_) (fun c30 => ?_)
        · rw [bI_0] at c30
          refine WQ.st (fun _ _ kz => pw_aload0 dX11_judge_36 kz) ?_
          refine WQ.st (fun _ _ kz => pw_getr gX11_39 dX11_judge_37 (cf_s8 hC) (cf_p8_6 hC) kz) ?_
          refine WQ.st (fun _ _ kz => pw_aload0 dX11_judge_40 kz) ?_
          refine WQ.st (fun _ _ kz => pw_getr gX11_35 dX11_judge_41 (cf_s8 hC) (cf_p8_5 hC) kz) ?_
          refine wq_o1v wX8_copy lX11_194 rfl dX11_judge_44 (cf_s20 hC) (k_copy (cf_st20 hC) (cf_st16 hC) (by omega) hE.se) rfl (Nat.le_of_ble_eq_true rfl) (Nat.le_of_ble_eq_true rfl) (fun h44 z44 => ?_)
          obtain ⟨V1, A1, rfl, w1, w2⟩ := z44
          have hE1 := hE.aside w2
          refine WQ.st (fun _ _ kz => pw_iconst (v := 0) dX11_judge_47 (by decide) kz) ?_
          refine WQ.st (fun _ _ kz => pw_istore4 dX11_judge_48 (by decide) (k := kz)) ?_
          refine WQ.st (fun _ _ kz => pw_iconst (v := 0) dX11_judge_50 (by decide) kz) ?_
          refine WQ.st (fun _ _ kz => pw_istore5 dX11_judge_51 (by decide) (k := kz)) ?_
          refine WQ.st (fun _ _ kz => pw_iconst (v := 0) dX11_judge_53 (by decide) kz) ?_
          refine WQ.st (fun _ _ kz => pw_istore6 dX11_judge_54 (by decide) (k := kz)) ?_
          obtain ⟨t1, t2, t3, t4, t5⟩ := tr_ok hI.re.tr htr (of_decide_eq_false c30)
          have hnt : sp_nt W.2.1 (nI tr).toInt = 0 := by
            unfold sp_nt
            rw [if_pos (by omega), tx, Int.toNat_natCast, if_neg t1]
          have hv1 : V1 (79 + 2 * tr) 0 = nI (W.2.2.1 tr).toInt.toNat := by rw [w2.1 _ (by omega)]; exact t3
          have hE2 : DE S V1 P A1 B Q t al sh ls 20 := ⟨hE1.dc, hE1.kv, w1, Or.inr rfl⟩
          refine q_judgeL (tr := tr) (n := (W.2.2.1 tr).toInt.toNat) (f := fun k => (W.2.2.2.1 (40 * tr + k)).toInt) (R := tlR al W.2.2.1 W.2.2.2.1 tr) htr t4 hls hv1 (fun i hi => by rw [t5 i hi]) (fun t5 sl5 ls5 S5 V5 P5 A5 B5 Q5 al5 p c k z1 z3 z2 z4 e1 e2 e3 => ?_) (W.2.2.1 tr).toInt.toNat 0 _ _ _ _ _ _ _ _ _ _ al (by omega) hE2 FrD.rfl (by omega) (fun _ _ h => h) rfl
          subst e1
          have hok := tell_ok (fun k => (W.2.2.2.1 (40 * tr + k)).toInt) (W.2.2.1 tr).toInt.toNat 0 al hA.dv hA.kv
          have ho : ∀ i, i < 75 ∨ 92 ≤ i → (tlR al W.2.2.1 W.2.2.2.1 tr).1 i = al i := hok.1
          have hkv : KV (al 2).toInt (fun i => (tlR al W.2.2.1 W.2.2.2.1 tr).1 (75 + i)) := hok.2.1
          have hC := z1.dc.ka.cf
          have hI5 : CI S5 V5 P5 A5 B5 Q5 t5 al W sh ls5 := ⟨⟨z1.dc.cong (fun i hi => (ho i (by omega)).symm), hE1.kv, hE1.se.fr (z3.2.2.1 16 (by omega)) (fun x _ _ => z3.2.2.2.2.1 x (by omega)), Or.inl rfl⟩, hA, (hI.re.aside w2).fr (z3.r (Or.inr rfl))⟩
          have hZ : ∀ v : Int32, v = sp_judge al W.2.1 W.2.2.1 W.2.2.2.1 (nI tr).toInt y.toInt → CZ S V P A B Q t sl W sh ls (.int (sp_judge al W.2.1 W.2.2.1 W.2.2.2.1 (nI tr).toInt y.toInt)) al (some (.int v)) (t5, sl5, gh S5 V5 P5 A5 B5 Q5) := fun v hv => by
            rw [hv]
            unfold CZ
            exact ⟨rfl, t5, sl5, ls5, S5, V5, P5, A5, B5, Q5, rfl, hI5, by omega, w2.o.tr (z3.o (Or.inr rfl)), z4⟩
          have es : sp_judge al W.2.1 W.2.2.1 W.2.2.2.1 (nI tr).toInt y.toInt = (if y.toInt = 0 then (if c = 0 then -1 else nI (tlR al W.2.2.1 W.2.2.2.1 tr).2.1) else if y.toInt = 1 then c else if y.toInt = 2 then smI (fun p => (tlR al W.2.2.1 W.2.2.2.1 tr).1 (77 + p)) (al 2).toInt.toNat else smI (fun p => (tlR al W.2.2.1 W.2.2.2.1 tr).1 (82 + p)) (al 2).toInt.toNat) := by
            unfold sp_judge
            rw [if_pos (by omega), if_pos hnt, tx2, ← e2]
          have h5 := hA.dv.p5
          refine WQ.st (fun _ _ kz => pw_iload2 dX11_judge_99 kz) ?_
          by_cases h100_0 : y = 0
          · refine WQ.st (fun _ _ kz => pw_tableIn (off := 28) (tgt := 128) dX11_judge_100 (by rw [h100_0]; decide) (by rw [h100_0]; decide) (by rw [h100_0]; rfl) (by decide) kz) ?_
            refine WQ.st (fun _ _ kz => pw_iload5 dX11_judge_128 kz) ?_
            refine WQ.bn (fun _ _ ka kb => pw_if_ne (tgt := 137) dX11_judge_130 (by decide) ka kb) (fun c130 => ?_) (fun c130 => ?_)
            · refine WQ.st (fun _ _ kz => pw_iload4 dX11_judge_137 kz) ?_
              refine ⟨_, _, pw_iret dX11_judge_139 rfl rfl rfl rfl, ?_⟩
              refine hZ _ ?_
              have y0 : y.toInt = 0 := by rw [h100_0]; rfl
              rw [es, if_pos y0, if_neg c130]
              exact e3 c130
            · refine WQ.st (fun _ _ kz => pw_iconst (v := -1) dX11_judge_133 (by decide) kz) ?_
              refine WQ.st (fun _ _ kz => pw_goto (tgt := 139) dX11_judge_134 (by decide) kz) ?_
              refine ⟨_, _, pw_iret dX11_judge_139 rfl rfl rfl rfl, ?_⟩
              refine hZ _ ?_
              have y0 : y.toInt = 0 := by rw [h100_0]; rfl
              rw [es, if_pos y0, if_pos c130]
          by_cases h100_1 : y = 1
          · refine WQ.st (fun _ _ kz => pw_tableIn (off := 40) (tgt := 140) dX11_judge_100 (by rw [h100_1]; decide) (by rw [h100_1]; decide) (by rw [h100_1]; rfl) (by decide) kz) ?_
            refine WQ.st (fun _ _ kz => pw_iload5 dX11_judge_140 kz) ?_
            refine ⟨_, _, pw_iret dX11_judge_142 rfl rfl rfl rfl, ?_⟩
            refine hZ _ ?_
            have y1 : y.toInt = 1 := by rw [h100_1]; rfl
            rw [es, if_neg (by omega), if_pos y1]
          by_cases h100_2 : y = 2
          · refine WQ.st (fun _ _ kz => pw_tableIn (off := 43) (tgt := 143) dX11_judge_100 (by rw [h100_2]; decide) (by rw [h100_2]; decide) (by rw [h100_2]; rfl) (by decide) kz) ?_
            refine WQ.st (fun _ _ kz => pw_aload0 dX11_judge_143 kz) ?_
            refine WQ.st (fun _ _ kz => pw_getr gX11_39 dX11_judge_144 (cf_s8 hC) (cf_p8_6 hC) kz) ?_
            refine wq_o0i wX8_allStores lX11_249 rfl dX11_judge_147 (cf_s20 hC) (k_allStores (cf_st20 hC)) rfl (Nat.le_of_ble_eq_true rfl) (Nat.le_of_ble_eq_true rfl) (fun h147 z147 => ?_)
            subst z147
            refine ⟨_, _, pw_iret dX11_judge_150 rfl rfl rfl rfl, ?_⟩
            refine hZ _ ?_
            have y2 : y.toInt = 2 := by rw [h100_2]; rfl
            rw [es, if_neg (by omega), if_neg (by omega), if_pos y2]
            exact (smI_5 (n := (al 2).toInt.toNat) (by omega) (fun i hi => z1.se.st hi) (fun i h1 h2 => by
              have := (hkv.ze i h2 (by omega)).1
              rw [show 75 + (2 + i) = 77 + i by omega] at this
              exact this))
          have g100_0 := i32_ne (z := 0) rfl h100_0
          have g100_1 := i32_ne (z := 1) rfl h100_1
          have g100_2 := i32_ne (z := 2) rfl h100_2
          refine WQ.st (fun _ _ kz => pw_tableOut (tgt := 151) dX11_judge_100 (by omega) (by decide) kz) ?_
          refine WQ.st (fun _ _ kz => pw_aload0 dX11_judge_151 kz) ?_
          refine WQ.st (fun _ _ kz => pw_getr gX11_39 dX11_judge_152 (cf_s8 hC) (cf_p8_6 hC) kz) ?_
          refine wq_o0i wX8_allJoy lX11_253 rfl dX11_judge_155 (cf_s20 hC) (k_allJoy (cf_st20 hC)) rfl (Nat.le_of_ble_eq_true rfl) (Nat.le_of_ble_eq_true rfl) (fun h155 z155 => ?_)
          subst z155
          refine ⟨_, _, pw_iret dX11_judge_158 rfl rfl rfl rfl, ?_⟩
          refine hZ _ ?_
          rw [es, if_neg g100_0, if_neg g100_1, if_neg g100_2]
          exact (smI_5 (n := (al 2).toInt.toNat) (by omega) (fun i hi => z1.se.jo hi) (fun i h1 h2 => by
            have := (hkv.ze i h2 (by omega)).2
            rw [show 75 + (7 + i) = 82 + i by omega] at this
            exact this))
        · rw [bI_n] at c30
          refine WQ.st (fun _ _ kz => pw_ldc kX11_239 dX11_judge_33 kz) ?_
          refine ⟨_, _, pw_iret dX11_judge_35 rfl rfl rfl rfl, ?_⟩
          have hnt : sp_nt W.2.1 (nI tr).toInt = -99000006 := by
            unfold sp_nt
            rw [if_pos (by omega), tx, Int.toNat_natCast, if_pos (tr_no hI.re.tr htr (of_decide_eq_true c30))]
          have es : sp_judge al W.2.1 W.2.2.1 W.2.2.2.1 (nI tr).toInt y.toInt = -99000006 := by
            unfold sp_judge
            rw [if_pos (by omega), hnt, if_neg (by decide)]
          rw [es]
          exact ⟨rfl, t, sl, ls, S, V, P, A, B, Q, rfl, hI, by omega, FrO.rfl, fun _ _ h => h⟩
      · rw [le_i rfl li_3] at c13
        refine WQ.st (fun _ _ kz => pw_ldc kX11_155 dX11_judge_16 kz) ?_
        refine ⟨_, _, pw_iret dX11_judge_18 rfl rfl rfl rfl, ?_⟩
        have es : sp_judge al W.2.1 W.2.2.1 W.2.2.2.1 x.toInt y.toInt = -99000002 := by
          unfold sp_judge
          rw [if_neg (by omega)]
        rw [es]
        exact ⟨rfl, t, sl, ls, S, V, P, A, B, Q, rfl, hI, by omega, FrO.rfl, fun _ _ h => h⟩
