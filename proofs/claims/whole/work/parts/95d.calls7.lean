set_option maxRecDepth 20000 in
theorem q_ffL {G : gT} {d : Nat} {S : sS} {P : sP} {B : sB} {Q : sP} {t sl : Nat} (hC : CF S P) {V0 A0 : sV} {v : Int32} {N : Nat} (hN : N + 4 ≤ 900) : ∀ (m j : Nat) (V A : sV), j + m = 4 → (∀ x, x ≠ 8 → V x = V0 x) → V 8 1 = nI (N + j) → (∀ x, x ≠ 9 → A x = A0 x) → (∀ i, A 9 i = if N ≤ i ∧ i < N + j then btB (fdb v (i - N)) else A0 9 i) → WQ G d mX11_feedFour 3 [some (.ref 8), some (.int v), some (.int (iI (24 - 8 * (j : Int))))] [] (t, sl, gh S V P A B Q) (fun r h' => r = none ∧ ∃ V' A' : sV, h' = (t, sl, gh S V' P A' B Q) ∧ (∀ x, x ≠ 8 → V' x = V0 x) ∧ V' 8 1 = nI (N + 4) ∧ (∀ x, x ≠ 9 → A' x = A0 x) ∧ ∀ i, A' 9 i = if N ≤ i ∧ i < N + 4 then btB (fdb v (i - N)) else A0 9 i) := by
  intro m
  induction m with
  | zero =>
    intro j V A hj h1 h2 h3 h4
    have hj : j = 4 := hj
    subst hj
    refine WQ.st (fun _ _ kz => pw_iload2 dX11_feedFour_3 kz) ?_
    refine WQ.br (fun _ _ ka kb => pw_if_lt (tgt := 48) dX11_feedFour_4 (by decide) ka kb) (fun c4 => ?_) (fun c4 => absurd (by decide) c4)
    refine ⟨_, _, pw_vret dX11_feedFour_48 rfl rfl rfl, ?_⟩
    exact ⟨rfl, V, A, rfl, h1, h2, h3, h4⟩
  | succ m ih =>
    intro j V A hj h1 h2 h3 h4
    have eb : (v.toUInt32 >>> ((nI (24 - 8 * j)).toUInt32 &&& Int32.toUInt32 31)).toInt32.toInt8.toInt32.toInt8.toInt32 = btB (fdb v j) := by
      show btB (btB _) = _
      rw [btB_2]
      rcases (show j = 0 ∨ j = 1 ∨ j = 2 ∨ j = 3 by omega) with rfl | rfl | rfl | rfl
      · exact btB_24 v
      · exact btB_16 v
      · exact btB_8 v
      · exact btB_0 v
    refine WQ.st (fun _ _ kz => pw_iload2 dX11_feedFour_3 kz) ?_
    refine WQ.br (fun _ _ ka kb => pw_if_lt (tgt := 48) dX11_feedFour_4 (by decide) ka kb) (fun c4 => absurd c4 (by rw [lt_i (iI_toInt (by omega)) li_0]; omega)) (fun c4 => ?_)
    refine WQ.st (fun _ _ kz => pw_aload0 dX11_feedFour_7 kz) ?_
    refine WQ.st (fun _ _ kz => pw_geti gX11_15 dX11_feedFour_8 (cf_s8 hC) kz) ?_
    rw [h2]
    refine WQ.st (fun _ _ kz => pw_aload0 dX11_feedFour_11 kz) ?_
    refine WQ.st (fun _ _ kz => pw_getr gX11_11 dX11_feedFour_12 (cf_s8 hC) (cf_p8_0 hC) kz) ?_
    refine WQ.st (fun _ _ kz => pw_len dX11_feedFour_15 (cf_s9 hC) (by decide) kz) ?_
    refine WQ.br (fun _ _ ka kb => pw_icmp_ge (tgt := 48) dX11_feedFour_16 (by decide) ka kb) (fun c16 => absurd c16 (by rw [le_i (show (Int32.ofNat 900).toInt = 900 from rfl) (ix_n (by omega))]; omega)) (fun c16 => ?_)
    refine WQ.st (fun _ _ kz => pw_aload0 dX11_feedFour_19 kz) ?_
    refine WQ.st (fun _ _ kz => pw_getr gX11_11 dX11_feedFour_20 (cf_s8 hC) (cf_p8_0 hC) kz) ?_
    refine WQ.st (fun _ _ kz => pw_aload0 dX11_feedFour_23 kz) ?_
    refine WQ.st (fun _ _ kz => pw_geti gX11_15 dX11_feedFour_24 (cf_s8 hC) kz) ?_
    rw [h2]
    refine WQ.st (fun _ _ kz => pw_iload1 dX11_feedFour_27 kz) ?_
    refine WQ.st (fun _ _ kz => pw_iload2 dX11_feedFour_28 kz) ?_
    refine WQ.st (fun _ _ kz => pw_iushr dX11_feedFour_29 kz) ?_
    refine WQ.st (fun _ _ kz => pw_i2b dX11_feedFour_30 kz) ?_
    refine WQ.st (fun _ _ kz => pw_bst (j := (N + j)) dX11_feedFour_31 (cf_s9 hC) (ix_n (by omega)) (by omega)  kz) ?_
    rw [show (iI (24 - 8 * (j : Int))) = nI (24 - 8 * j) from by rw [iI_nat]; congr 1; omega]
    rw [eb]
    refine WQ.st (fun _ _ kz => pw_aload0 dX11_feedFour_32 kz) ?_
    refine WQ.st (fun _ _ kz => pw_dup dX11_feedFour_33 rfl kz) ?_
    refine WQ.st (fun _ _ kz => pw_geti gX11_15 dX11_feedFour_34 (cf_s8 hC) kz) ?_
    rw [h2]
    refine WQ.st (fun _ _ kz => pw_iconst (v := 1) dX11_feedFour_37 (by decide) kz) ?_
    refine WQ.st (fun _ _ kz => pw_iadd dX11_feedFour_38 kz) ?_
    refine WQ.st (fun _ _ kz => pw_puti (pX11_15 _ rfl) dX11_feedFour_39 (cf_s8 hC) rfl rfl kz) ?_
    refine WQ.st (fun _ _ kz => pw_iinc2 (v := -8) dX11_feedFour_42 (by decide) (by decide) (k := kz)) ?_
    refine WQ.st (fun _ _ kz => pw_goto (tgt := 3) dX11_feedFour_45 (by decide) kz) ?_
    rw [show nI (N + j) + 1 = nI (N + (j + 1)) from nI_1 _, show nI (24 - 8 * j) + (-8) = iI (24 - 8 * ((j + 1 : Nat) : Int)) from by rw [show (-8 : Int32) = iI (-8) from rfl, iI_nat, iI_add]; congr 1; omega]
    refine ih (j + 1) _ _ (by omega) (fun x hx => by rw [up2_na hx]; exact h1 x hx) up2_eq (fun x hx => by rw [up2_na hx]; exact h3 x hx) (fun i => ?_)
    rw [up2_at]
    unfold pm_up
    by_cases e : i = N + j
    · rw [if_pos e, if_pos (by omega), show i - N = j by omega]
    · rw [if_neg e, h4 i]
      by_cases e2 : N ≤ i ∧ i < N + j
      · rw [if_pos e2, if_pos (by omega)]
      · rw [if_neg e2, if_neg (by omega)]
set_option maxRecDepth 20000 in
theorem k_feedFour {G : gT} {d : Nat} {S : sS} {V : sV} {P : sP} {A : sV} {B : sB} {Q : sP} {t sl : Nat} (hC : CF S P) (v : Int32) {N : Nat} (hN : N + 4 ≤ 900) (h2 : V 8 1 = nI N) : WQ G d mX11_feedFour 0 [some (.ref 8), some (.int v), none] [] (t, sl, gh S V P A B Q) (fun r h' => r = none ∧ ∃ V' A' : sV, h' = (t, sl, gh S V' P A' B Q) ∧ (∀ x, x ≠ 8 → V' x = V x) ∧ V' 8 1 = nI (N + 4) ∧ (∀ x, x ≠ 9 → A' x = A x) ∧ ∀ i, A' 9 i = if N ≤ i ∧ i < N + 4 then btB (fdb v (i - N)) else A 9 i) := by
  refine WQ.st (fun _ _ kz => pw_bipush (v := 24) dX11_feedFour_0 (by decide) kz) ?_
  refine WQ.st (fun _ _ kz => pw_istore2 dX11_feedFour_2 (by decide) (k := kz)) ?_
  rw [show (24 : Int32) = iI (24 - 8 * ((0 : Nat) : Int)) from rfl]
  exact q_ffL hC hN 4 0 V A (by omega) (fun _ _ => rfl) h2 (fun _ _ => rfl) (fun i => by rw [if_neg (by omega)])
theorem nI_pl (a b : Nat) : nI a + nI b = nI (a + b) := by
  rw [iI_nat, iI_nat, iI_nat, iI_add]
  congr 1
set_option maxRecDepth 20000 in
theorem q_feed {G : gT} {d : Nat} {S : sS} {V : sV} {P : sP} {A : sV} {B : sB} {Q : sP} {t sl : Nat} {al : Nat → Int32} {W : WT} {sh ls : Nat} (hI : CI S V P A B Q t al W sh ls) (hls : ls + 1000 < 2000000000) (a b c e f : Int32) : WQ G (d + 9) mX11_feed 0 [some (.ref 8), some (.int a), some (.int b), some (.int c), some (.int e), some (.int f)] [] (t, sl, gh S V P A B Q) (CZ S V P A B Q t sl (sp_fd W a b c e f).2 sh ls (.int ((sp_fd W a b c e f).1)) al) := by
  unfold CZ
  have hE := hI.de
  have hC := hE.dc.ka.cf
  have hD := hE.dc.ka.dv
  have hSe := hE.dc.ka.se
  have hA := hI.av
  have hp5 := hD.p5
  have hn4 := hD.n4
  obtain ⟨htp, htl⟩ : V 8 1 = W.2.2.2.2.1 ∧ (0 ≤ W.2.2.2.2.1.toInt ∧ W.2.2.2.2.1.toInt ≤ 900) := ⟨hI.re.tp.1, hI.re.tp.2.2.2.1⟩
  obtain ⟨N, hN⟩ : ∃ N : Nat, W.2.2.2.2.1.toInt.toNat = N := ⟨_, rfl⟩
  have hv : V 8 1 = nI N := by rw [htp, ← hN]; exact nI_ofI htl.1
  have tN : W.2.2.2.2.1.toInt = (N : Int) := by omega
  refine WQ.st (fun _ _ kz => pw_aload0 dX11_feed_0 kz) ?_
  refine WQ.st (fun _ _ kz => pw_geti gX11_15 dX11_feed_1 (cf_s8 hC) kz) ?_
  rw [hv]
  refine WQ.st (fun _ _ kz => pw_bipush (v := 20) dX11_feed_4 (by decide) kz) ?_
  refine WQ.st (fun _ _ kz => pw_iadd dX11_feed_6 kz) ?_
  refine WQ.st (fun _ _ kz => pw_sipush (v := 900) dX11_feed_7 (by decide) kz) ?_
  refine WQ.br (fun _ _ ka kb => pw_icmp_le (tgt := 16) dX11_feed_10 (by decide) ka kb) (fun c10 => ?_) (fun c10 => ?_)
  · rw [show nI N + 20 = nI (N + 20) from nI_pl N 20, le_i (ix_n (by omega)) (show (900 : Int32).toInt = 900 from rfl)] at c10
    refine WQ.st (fun _ _ kz => pw_aload0 dX11_feed_16 kz) ?_
    refine WQ.st (fun _ _ kz => pw_iload1 dX11_feed_17 kz) ?_
    refine wq_o1v wX11_feedFour lX11_119 rfl dX11_feed_18 (cf_s8 hC) (k_feedFour hC a (N := N) (by omega) hv) rfl (Nat.le_of_ble_eq_true rfl) (Nat.le_of_ble_eq_true rfl) (fun h18 z18 => ?_)
    obtain ⟨V0x, A0x, rfl, u0, v0, w0, y0⟩ := z18
    refine WQ.st (fun _ _ kz => pw_aload0 dX11_feed_21 kz) ?_
    refine WQ.st (fun _ _ kz => pw_iload2 dX11_feed_22 kz) ?_
    refine wq_o1v wX11_feedFour lX11_119 rfl dX11_feed_23 (cf_s8 hC) (k_feedFour hC b (N := N + 4) (by omega) v0) rfl (Nat.le_of_ble_eq_true rfl) (Nat.le_of_ble_eq_true rfl) (fun h23 z23 => ?_)
    obtain ⟨V1x, A1x, rfl, u1, v1, w1, y1⟩ := z23
    refine WQ.st (fun _ _ kz => pw_aload0 dX11_feed_26 kz) ?_
    refine WQ.st (fun _ _ kz => pw_iload3 dX11_feed_27 kz) ?_
    refine wq_o1v wX11_feedFour lX11_119 rfl dX11_feed_28 (cf_s8 hC) (k_feedFour hC c (N := N + 8) (by omega) v1) rfl (Nat.le_of_ble_eq_true rfl) (Nat.le_of_ble_eq_true rfl) (fun h28 z28 => ?_)
    obtain ⟨V2x, A2x, rfl, u2, v2, w2, y2⟩ := z28
    refine WQ.st (fun _ _ kz => pw_aload0 dX11_feed_31 kz) ?_
    refine WQ.st (fun _ _ kz => pw_iload4 dX11_feed_32 kz) ?_
    refine wq_o1v wX11_feedFour lX11_119 rfl dX11_feed_34 (cf_s8 hC) (k_feedFour hC e (N := N + 12) (by omega) v2) rfl (Nat.le_of_ble_eq_true rfl) (Nat.le_of_ble_eq_true rfl) (fun h34 z34 => ?_)
    obtain ⟨V3x, A3x, rfl, u3, v3, w3, y3⟩ := z34
    refine WQ.st (fun _ _ kz => pw_aload0 dX11_feed_37 kz) ?_
    refine WQ.st (fun _ _ kz => pw_iload5 dX11_feed_38 kz) ?_
    refine wq_o1v wX11_feedFour lX11_119 rfl dX11_feed_40 (cf_s8 hC) (k_feedFour hC f (N := N + 16) (by omega) v3) rfl (Nat.le_of_ble_eq_true rfl) (Nat.le_of_ble_eq_true rfl) (fun h40 z40 => ?_)
    obtain ⟨V4x, A4x, rfl, u4, v4, w4, y4⟩ := z40
    refine WQ.st (fun _ _ kz => pw_aload0 dX11_feed_43 kz) ?_
    refine WQ.st (fun _ _ kz => pw_geti gX11_15 dX11_feed_44 (cf_s8 hC) kz) ?_
    rw [v4]
    refine ⟨_, _, pw_iret dX11_feed_47 rfl rfl rfl rfl, ?_⟩
    have es : sp_fd W a b c e f = (nI (N + 20), W.tape (nI (N + 20)) (fun i => if N ≤ i ∧ i < N + 20 then btB (fdb (fdv a b c e f (i - N)) (i - N)) else W.2.2.2.2.2.2.2 i)) := by
      unfold sp_fd
      rw [if_pos (by omega), hN]
    rw [es]
    obtain ⟨q1, q2⟩ := hI.tape (V' := V4x) (A' := A4x) (tl' := nI (N + 20)) (tp' := fun i => if N ≤ i ∧ i < N + 20 then btB (fdb (fdv a b c e f (i - N)) (i - N)) else W.2.2.2.2.2.2.2 i) (fun x hx => by rw [u4 x hx, u3 x hx, u2 x hx, u1 x hx, u0 x hx]) (fun x hx => by rw [w4 x hx, w3 x hx, w2 x hx, w1 x hx, w0 x hx]) v4 (by rw [ix_n (by omega)]; omega) (fun i hi => by
      rw [ix_n (by omega)] at hi
      rw [y4 i, y3 i, y2 i, y1 i, y0 i]
      have hB := fun v : Int32 => fun k j : Nat => fun (h : k % 4 = j % 4) => show btB (fdb v k) = btB (fdb v j) from by unfold fdb; rw [h]
      unfold fdv
      by_cases c5 : N + 16 ≤ i ∧ i < N + 16 + 4
      · rw [if_pos c5, if_pos (by omega), if_neg (by omega), if_neg (by omega), if_neg (by omega), if_neg (by omega)]
        exact hB f _ _ (by omega)
      · rw [if_neg c5]
        by_cases c4 : N + 12 ≤ i ∧ i < N + 12 + 4
        · rw [if_pos c4, if_pos (by omega), if_neg (by omega), if_neg (by omega), if_neg (by omega), if_pos (by omega)]
          exact hB e _ _ (by omega)
        · rw [if_neg c4]
          by_cases c3 : N + 8 ≤ i ∧ i < N + 8 + 4
          · rw [if_pos c3, if_pos (by omega), if_neg (by omega), if_neg (by omega), if_pos (by omega)]
            exact hB c _ _ (by omega)
          · rw [if_neg c3]
            by_cases c2 : N + 4 ≤ i ∧ i < N + 4 + 4
            · rw [if_pos c2, if_pos (by omega), if_neg (by omega), if_pos (by omega)]
              exact hB b _ _ (by omega)
            · rw [if_neg c2]
              by_cases c1 : N ≤ i ∧ i < N + 4
              · rw [if_pos c1, if_pos (by omega), if_pos (by omega)]
              · rw [if_neg c1, if_neg (by omega)]
                exact hI.re.tp.2.2.2.2 i (by omega))
    exact ⟨rfl, t, sl, ls, S, _, P, _, B, Q, rfl, q1, by omega, q2, fun _ _ h => h⟩
  · rw [show nI N + 20 = nI (N + 20) from nI_pl N 20, le_i (ix_n (by omega)) (show (900 : Int32).toInt = 900 from rfl)] at c10
    refine WQ.st (fun _ _ kz => pw_ldc kX11_118 dX11_feed_13 kz) ?_
    refine ⟨_, _, pw_iret dX11_feed_15 rfl rfl rfl rfl, ?_⟩
    have es : sp_fd W a b c e f = (-99000005, W) := by
      unfold sp_fd
      rw [if_neg (by omega)]
    rw [es]
    exact ⟨rfl, t, sl, ls, S, V, P, A, B, Q, rfl, hI, by omega, FrO.rfl, fun _ _ h => h⟩
