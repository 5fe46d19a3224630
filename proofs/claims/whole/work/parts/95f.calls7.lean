theorem sp_rs_l {al : Nat → Int32} {n k : Nat} (hk : k < 1164) (h : k ≠ 92) : sp_rs al n k = sft al n k := by
  unfold sp_rs sft
  rw [if_neg h, if_pos hk]
theorem sft_rs {al : Nat → Int32} {n i k : Nat} : sft (sp_rs al n) i k = sft al i k := by
  unfold sft sp_rs
  rw [if_neg (by omega), if_neg (by omega)]
set_option maxRecDepth 20000 in
theorem q_restore {G : gT} {d : Nat} {S : sS} {V : sV} {P : sP} {A : sV} {B : sB} {Q : sP} {t sl : Nat} {al : Nat → Int32} {W : WT} {sh ls : Nat} (hI : CI S V P A B Q t al W sh ls) (hls : ls + 1000 < 2000000000) (x : Int32) : WQ G (d + 9) mX11_restore 0 [some (.ref 8), some (.int x), none] [] (t, sl, gh S V P A B Q) (fun r h' => ∃ sh' : Nat, (CZ S V P A B Q t sl W sh' ls (.int (sp_res al W x).1) (sp_res al W x).2) r h') := by
  unfold CZ
  have hE := hI.de
  have hC := hE.dc.ka.cf
  have hD := hE.dc.ka.dv
  have hSe := hE.dc.ka.se
  have hA := hI.av
  have hp5 := hD.p5
  have hn4 := hD.n4
  refine WQ.st (fun _ _ kz => pw_iload1 dX11_restore_0 kz) ?_
  refine WQ.br (fun _ _ ka kb => pw_if_lt (tgt := 9) dX11_restore_1 (by decide) ka kb) (fun c1 => ?_) (fun c1 => ?_)
  · rw [lt_i rfl li_0] at c1
    refine WQ.st (fun _ _ kz => pw_ldc kX11_155 dX11_restore_9 kz) ?_
    refine ⟨_, _, pw_iret dX11_restore_11 rfl rfl rfl rfl, ?_⟩
    have es : sp_res al W x = (-99000002, al) := by
      unfold sp_res
      rw [if_neg (by omega)]
    rw [es]
    exact ⟨sh, rfl, t, sl, ls, S, V, P, A, B, Q, rfl, hI, by omega, FrO.rfl, fun _ _ h => h⟩
  · rw [lt_i rfl li_0] at c1
    refine WQ.st (fun _ _ kz => pw_iload1 dX11_restore_4 kz) ?_
    refine WQ.st (fun _ _ kz => pw_iconst (v := 2) dX11_restore_5 (by decide) kz) ?_
    refine WQ.br (fun _ _ ka kb => pw_icmp_lt (tgt := 12) dX11_restore_6 (by decide) ka kb) (fun c6 => ?_) (fun c6 => ?_)
    · rw [lt_i rfl li_2] at c6
      obtain ⟨n, rfl, tn, ln⟩ := nI_get (x := x) (n := 2) (by omega) (by omega) (by omega)
      have hn2 : n < 2 := by omega
      refine WQ.st (fun _ _ kz => pw_aload0 dX11_restore_12 kz) ?_
      refine WQ.st (fun _ _ kz => pw_getr gX11_49 dX11_restore_13 (cf_s8 hC) (cf_p8_8 hC) kz) ?_
      refine WQ.st (fun _ _ kz => pw_iload1 dX11_restore_16 kz) ?_
      rcases hI.re.im.2 n hn2 with ⟨g0, g1⟩ | ⟨g0, u, g1, ⟨j, hj, g2⟩, g3, g4, g5, g6⟩
      · refine WQ.st (fun _ _ kz => pw_qld (j := n) dX11_restore_17 (cf_s66 hC) (by decide) (ix_m rfl (by omega)) (by omega) kz) ?_
        rw [g1]
        refine WQ.st (fun _ _ kz => pw_astore_nN dX11_restore_18 rfl (by decide) (fun w _ hw => by cases hw; exact fun q => absurd q (by simp [Value.category])) kz) ?_
        refine WQ.st (fun _ _ kz => pw_aload_nN dX11_restore_19 rfl rfl kz) ?_
        refine WQ.st (fun _ _ kz => pw_ifnonnullN dX11_restore_20 kz) ?_
        refine WQ.st (fun _ _ kz => pw_ldc kX11_118 dX11_restore_23 kz) ?_
        refine ⟨_, _, pw_iret dX11_restore_25 rfl rfl rfl rfl, ?_⟩
        have es : sp_res al W (nI n) = (-99000005, al) := by
          unfold sp_res
          rw [if_pos (by omega), tn, Int.toNat_natCast, if_pos g0]
        rw [es]
        exact ⟨sh, rfl, t, sl, ls, S, V, P, A, B, Q, rfl, hI, by omega, FrO.rfl, fun _ _ h => h⟩
      · obtain ⟨hU, u2, u3⟩ := hI.re.ss.2.2.1 j u hj g2
        refine WQ.st (fun _ _ kz => pw_qldr (j := n) dX11_restore_17 (cf_s66 hC) (by decide) (ix_m rfl (by omega)) (by omega) g1 kz) ?_
        refine WQ.st (fun _ _ kz => pw_astore2 dX11_restore_18 (by decide) (k := kz)) ?_
        refine WQ.st (fun _ _ kz => pw_aload2 dX11_restore_19 kz) ?_
        refine WQ.st (fun _ _ kz => pw_ifnonnull (tgt := 26) dX11_restore_20 (by decide) kz) ?_
        refine WQ.st (fun _ _ kz => pw_aload0 dX11_restore_26 kz) ?_
        refine WQ.st (fun _ _ kz => pw_aload2 dX11_restore_27 kz) ?_
        have hSh : ShE V A u (sp_rs al n) := g3.cong g4 (fun i hi => sp_rs_l (by omega) (by omega))
        refine wq_o1v wX11_useSheet lX11_136 rfl dX11_restore_28 (cf_s8 hC) (k_useS hC hU u2 hSh hE.dc.ka.ba.w) rfl (Nat.le_of_ble_eq_true rfl) (Nat.le_of_ble_eq_true rfl) (fun h28 z28 => ?_)
        obtain ⟨V1, P1, A1, rfl, z1, z2, z3, z4, z5, z6, z7⟩ := z28
        have hC := z7
        refine WQ.st (fun _ _ kz => pw_aload0 dX11_restore_31 kz) ?_
        refine WQ.st (fun _ _ kz => pw_getr gX11_35 dX11_restore_32 (cf_s8 hC) (cf_p8_5 hC) kz) ?_
        refine WQ.st (fun _ _ kz => pw_aload0 dX11_restore_35 kz) ?_
        refine WQ.st (fun _ _ kz => pw_getr gX11_52 dX11_restore_36 (cf_s8 hC) (cf_p8_9 hC) kz) ?_
        refine WQ.st (fun _ _ kz => pw_iload1 dX11_restore_39 kz) ?_
        refine WQ.st (fun _ _ kz => pw_qldr (j := n) dX11_restore_40 (cf_s67 hC) (by decide) (ix_m rfl (by omega)) (by omega) (hI.re.im.1 n hn2) kz) ?_
        refine wq_o1v wX8_copy lX11_194 rfl dX11_restore_41 (cf_s16 hC) (k_copy (cf_st16 hC) (cf_im hC hn2) (by omega) (g5.fr (z2 _ (by omega)) (fun x _ _ => z6 x (by omega)))) rfl (Nat.le_of_ble_eq_true rfl) (Nat.le_of_ble_eq_true rfl) (fun h41 z41 => ?_)
        obtain ⟨V2, A2, rfl, w1, w2⟩ := z41
        refine WQ.st (fun _ _ kz => pw_aload0 dX11_restore_44 kz) ?_
        refine WQ.st (fun _ _ kz => pw_getr gX11_45 dX11_restore_45 (cf_s8 hC) (cf_p8_7 hC) kz) ?_
        refine wq_o0v wX3_clear lX11_142 rfl dX11_restore_48 (cf_s24 hC) (k_hclear hC) rfl (Nat.le_of_ble_eq_true rfl) (Nat.le_of_ble_eq_true rfl) (fun h48 z48 => ?_)
        subst z48
        refine WQ.st (fun _ _ kz => pw_iconst (v := 0) dX11_restore_51 (by decide) kz) ?_
        refine ⟨_, _, pw_iret dX11_restore_52 rfl rfl rfl rfl, ?_⟩
        have es : sp_res al W (nI n) = (0, sp_rs al n) := by
          unfold sp_res
          rw [if_pos (by omega), tn, Int.toNat_natCast, if_neg g0]
        rw [es]
        have v5 : ∀ x, x ≠ 96 → x ≠ 16 → x ≠ 24 → up2 V2 24 0 0 x = V x := fun x h1 h2 h3 => by rw [up2_na h3, w2.1 x h2, z2 x h1]
        have a5 : ∀ x, x ≠ 100 → (x < 17 ∨ 19 < x) → A2 x = A x := fun x h1 h2 => by rw [w2.2 x (by omega), z6 x h1]
        have p5 : ∀ x, x ≠ 8 → x ≠ 96 → P1 x = P x := z5
        have h3 := hI.re.ss.2.2.1
        have hD' : DV (sp_rs al n) := g4.cong (fun i hi => sp_rs_l (by omega) (by omega))
        have e2 : sp_rs al n 2 = sft al n 2 := sp_rs_l (by omega) (by omega)
        have e92 : sp_rs al n 92 = 0 := by unfold sp_rs; rw [if_pos rfl]
        have hK' : KV (sp_rs al n 2).toInt (fun k => sp_rs al n (75 + k)) := by rw [e2]; exact g6.cg (fun k hk => sp_rs_l (by omega) (by omega))
        have hA' : AV (sp_rs al n) := ⟨hD', hK', by rw [e92]; decide, fun j hj => by rw [e92] at hj; have hj : (j : Int) < 0 := hj; omega⟩
        have fk : FrK V1 A1 B (up2 V2 24 0 0) A2 B := ⟨fun x hx => by rw [up2_na (by omega), w2.1 x (by omega)], fun x hx => w2.2 x (by omega), fun _ _ => rfl⟩
        have hS' : ShE (up2 V2 24 0 0) A2 u (sp_rs al n) := hSh.fr (fun x _ _ => v5 x (by omega) (by omega) (by omega)) (fun x _ _ => a5 x (by omega) (by omega))
        have hSP : ∀ u', (u' = 87 ∨ 161 ≤ u') → SH S P u' → SH S P1 u' := fun u' hu' h => h.to (fun _ _ _ => rfl) (fun x _ _ => p5 x (by omega) (by omega))
        have hev : ∀ i, i < 12 → A2 109 i = 31 := by rw [a5 109 (by omega) (by omega)]; exact hE.dc.ev
        refine ⟨u, rfl, t, sl, ls, S, up2 V2 24 0 0, P1, A2, B, Q, rfl, ⟨⟨⟨⟨hC, hSP u u2 hU, ⟨u2, u3, hE.dc.ka.st.2⟩, hD', hS', z1.fr fk⟩, hE.dc.hb.to (p5 103 (by omega) (by omega)), hE.dc.rh.to (by rw [p5 107 (by omega) (by omega)]) (by rw [p5 107 (by omega) (by omega)]), hE.dc.hw.to (by rw [p5 107 (by omega) (by omega)]) (by rw [p5 107 (by omega) (by omega)]), hev⟩, hK', ?_, Or.inl rfl⟩, hA', ⟨hI.re.hi.1, by show _ = sp_rs al n 92; rw [up2_eq, e92], ?_⟩, ⟨z3, ⟨j, hj, g2⟩, fun j' u' hj' hu' => ?_, hI.re.ss.2.2.2⟩, ⟨hI.re.im.1, fun i hi => ?_⟩, ⟨hI.re.tr.1, fun k hk => ?_⟩, ?_, hI.re.oq⟩, by omega, ⟨Nat.le_refl _, fun _ _ => rfl, fun x h1 h2 => ⟨v5 x (by omega) (by omega) (by omega), p5 x (by omega) (by omega), a5 x (by omega) (by omega), rfl⟩⟩, fun _ _ h => h⟩
        · exact (w1.fr (up2_na (by omega)) (fun _ _ _ => rfl)).cg (fun k hk => sp_rs_l (by omega) (by omega))
        · obtain ⟨fo, f1, f2, f3⟩ := hI.re.hi.2.2
          exact ⟨fo, f1, by rw [up2_nk (by omega), w2.1 24 (by omega), z2 24 (by omega)]; exact f2, fun i hi => by have hi : (i : Int) < (sp_rs al n 92).toInt := hi; rw [e92] at hi; have hi : (i : Int) < 0 := hi; omega⟩
        · obtain ⟨k1, k2, k3⟩ := h3 j' u' hj' hu'
          exact ⟨hSP u' k2 k1, k2, k3⟩
        · refine (hI.re.im.2 i hi).cg rfl rfl rfl (fun k hk => sft_rs) (fun u' hu x a b => ?_) (v5 _ (by omega) (by omega) (by omega)) (fun x a b => a5 x (by omega) (by omega))
          obtain ⟨j', hj', hj2⟩ := hu
          obtain ⟨_, k2, k3⟩ := h3 j' u' hj' hj2
          exact ⟨v5 x (by omega) (by omega) (by omega), a5 x (by omega) (by omega)⟩
        · rw [v5 _ (by omega) (by omega) (by omega)]
          exact hI.re.tr.2 k hk
        · have h := hI.re.tp
          unfold TPE at h ⊢
          rw [v5 8 (by omega) (by omega) (by omega), v5 10 (by omega) (by omega) (by omega), a5 9 (by omega) (by omega)]
          exact h
    · rw [lt_i rfl li_2] at c6
      refine WQ.st (fun _ _ kz => pw_ldc kX11_155 dX11_restore_9 kz) ?_
      refine ⟨_, _, pw_iret dX11_restore_11 rfl rfl rfl rfl, ?_⟩
      have es : sp_res al W x = (-99000002, al) := by
        unfold sp_res
        rw [if_neg (by omega)]
      rw [es]
      exact ⟨sh, rfl, t, sl, ls, S, V, P, A, B, Q, rfl, hI, by omega, FrO.rfl, fun _ _ h => h⟩
