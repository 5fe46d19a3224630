/-! ===== the reference: the deeds that are called ===== -/
def nk (al al1 : Nat → Int32) : Nat → Int32 := sp_notes al1 (fun k => al (75 + k))
theorem nt1_cong {al w w' : Nat → Int32} {n : Nat} (h : ∀ k, k < 17 → w k = w' k) : nt1 al w n = nt1 al w' n := by
  funext i
  unfold nt1
  by_cases e : i = 92
  · rw [if_pos e, if_pos e]
  · rw [if_neg e, if_neg e]
    by_cases e2 : 93 + 17 * n ≤ i ∧ i < 93 + 17 * n + 17
    · rw [if_pos e2, if_pos e2]
      exact h _ (by omega)
    · rw [if_neg e2, if_neg e2]
theorem notes_cong {al w w' : Nat → Int32} (h : ∀ k, k < 17 → w k = w' k) : sp_notes al w = sp_notes al w' := by
  unfold sp_notes
  rw [nt1_cong (n := 9) h, nt1_cong (n := (al 92).toInt.toNat) h]
theorem notes_out {al w : Nat → Int32} {i : Nat} (hn : 0 ≤ (al 92).toInt ∧ (al 92).toInt ≤ 10) (hi : i < 92 ∨ 263 ≤ i) : sp_notes al w i = al i := by
  unfold sp_notes
  by_cases e : al 92 = 10
  · rw [if_pos e]
    unfold nt1 nt0
    rw [if_neg (by omega), if_neg (by omega), if_neg (by omega)]
  · have := i32_ne (z := 10) rfl e
    rw [if_neg e]
    unfold nt1
    rw [if_neg (by omega), if_neg (by omega)]
theorem note_ok {al al1 : Nat → Int32} (hA : AV al) (h1 : ∀ i, i < 75 ∨ 92 ≤ i → al1 i = al i) (hK : KV (al 2).toInt (fun k => al1 (75 + k))) : AV (nk al al1) := by
  have hn : 0 ≤ (al1 92).toInt ∧ (al1 92).toInt ≤ 10 := by rw [h1 92 (by omega)]; exact hA.dn
  have ho : ∀ i, i < 92 ∨ 263 ≤ i → nk al al1 i = al1 i := fun i hi => notes_out hn hi
  have h2 : nk al al1 2 = al 2 := by rw [ho 2 (by omega), h1 2 (by omega)]
  refine ⟨hA.dv.cong (fun i hi => by rw [ho i (by omega), h1 i (by omega)]), ?_, ?_, ?_⟩
  · rw [h2]
    refine ⟨fun p hp => ?_, fun p hp => ?_, fun p hp => ?_, fun p hp hn => ?_⟩
    · show -20 ≤ (nk al al1 (75 + (2 + p))).toInt ∧ (nk al al1 (75 + (2 + p))).toInt ≤ 20
      rw [ho _ (by omega)]
      exact hK.st p hp
    · show -9999999 ≤ (nk al al1 (75 + (7 + p))).toInt ∧ (nk al al1 (75 + (7 + p))).toInt ≤ 9999999
      rw [ho _ (by omega)]
      exact hK.jo p hp
    · show 0 ≤ (nk al al1 (75 + (12 + p))).toInt ∧ (nk al al1 (75 + (12 + p))).toInt ≤ 9
      rw [ho _ (by omega)]
      exact hK.tm p hp
    · show nk al al1 (75 + (2 + p)) = 0 ∧ nk al al1 (75 + (7 + p)) = 0
      rw [ho _ (by omega), ho _ (by omega)]
      exact hK.ze p hp hn
  · unfold nk sp_notes
    by_cases e : al1 92 = 10
    · rw [if_pos e]
      show 0 ≤ (nI (9 + 1)).toInt ∧ (nI (9 + 1)).toInt ≤ 10
      decide
    · have := i32_ne (z := 10) rfl e
      rw [if_neg e]
      unfold nt1
      rw [if_pos rfl, nI_toInt (by omega)]
      omega
  · intro j hj
    rw [h2]
    have key : ∃ f : Nat → Int32, KV (al 2).toInt f ∧ ∀ k, k < 17 → nk al al1 (93 + 17 * j + k) = f k := by
      unfold nk sp_notes at hj ⊢
      by_cases e : al1 92 = 10
      · rw [if_pos e] at hj ⊢
        have hj : (j : Int) < (nI (9 + 1)).toInt := hj
        rw [nI_toInt (by decide)] at hj
        by_cases e2 : j = 9
        · refine ⟨fun k => al (75 + k), hA.kv, fun k hk => ?_⟩
          unfold nt1
          rw [if_neg (by omega), if_pos (by omega)]
          exact congrArg al (by omega)
        · have e92 : al 92 = 10 := by rw [← h1 92 (by omega)]; exact e
          refine ⟨fun k => al (93 + 17 * (j + 1) + k), hA.ws (j + 1) (by rw [e92]; show ((j + 1 : Nat) : Int) < 10; omega), fun k hk => ?_⟩
          unfold nt1 nt0
          rw [if_neg (by omega), if_neg (by omega), if_pos (by omega), h1 _ (by omega)]
          show al (93 + 17 * j + k - 93 + 110) = al (93 + 17 * (j + 1) + k)
          exact congrArg al (by omega)
      · rw [if_neg e] at hj ⊢
        have hm : ((nt1 al1 (fun k => al (75 + k)) (al1 92).toInt.toNat) 92).toInt = (al1 92).toInt + 1 := by
          unfold nt1
          rw [if_pos rfl, nI_toInt (by omega)]
          omega
        rw [hm] at hj
        by_cases e2 : (j : Int) = (al1 92).toInt
        · refine ⟨fun k => al (75 + k), hA.kv, fun k hk => ?_⟩
          unfold nt1
          rw [if_neg (by omega), if_pos (by omega)]
          exact congrArg al (by omega)
        · refine ⟨fun k => al (93 + 17 * j + k), hA.ws j (by rw [← h1 92 (by omega)]; omega), fun k hk => ?_⟩
          unfold nt1
          rw [if_neg (by omega), if_neg (by omega), h1 _ (by omega)]
    obtain ⟨f, hf, he⟩ := key
    refine ⟨fun p hp => ?_, fun p hp => ?_, fun p hp => ?_, fun p hp hn => ?_⟩
    · show -20 ≤ (nk al al1 (93 + 17 * j + (2 + p))).toInt ∧ (nk al al1 (93 + 17 * j + (2 + p))).toInt ≤ 20
      rw [he _ (by omega)]
      exact hf.st p hp
    · show -9999999 ≤ (nk al al1 (93 + 17 * j + (7 + p))).toInt ∧ (nk al al1 (93 + 17 * j + (7 + p))).toInt ≤ 9999999
      rw [he _ (by omega)]
      exact hf.jo p hp
    · show 0 ≤ (nk al al1 (93 + 17 * j + (12 + p))).toInt ∧ (nk al al1 (93 + 17 * j + (12 + p))).toInt ≤ 9
      rw [he _ (by omega)]
      exact hf.tm p hp
    · show nk al al1 (93 + 17 * j + (2 + p)) = 0 ∧ nk al al1 (93 + 17 * j + (7 + p)) = 0
      rw [he _ (by omega), he _ (by omega)]
      exact hf.ze p hp hn
theorem fin_notes {o : Nat} {A A1 A3 A4 : sV} {al3 : Nat → Int32} (hC : CPY A (o + 11) 0 (o + 1) 75 17 A1) (h3 : FA o (pm_up A1 (o + 1) al3) A3) (h4 : ∀ a, a ≠ o + 1 → A4 a = A3 a) (h5 : ∀ j, A4 (o + 1) j = sp_notes (A3 (o + 1)) (A3 (o + 11)) j) : FQ o (pm_up A (o + 1) (nk (A (o + 1)) al3)) A4 := by
  refine FQ.of ?_ (fun a e ha => ?_)
  · funext j
    rw [h5, h3 (o + 1) (by omega), h3 (o + 11) (by omega), pm_up_eq, pm_up_ne (by omega)]
    unfold nk
    rw [notes_cong (w := A1 (o + 11)) (w' := fun k => A (o + 1) (75 + k)) (fun k hk => by
      rw [hC.2, if_pos (by omega)]
      congr 1
      omega)]
  · rw [h4 a e, h3 a (by omega), pm_up_ne e, hC.1 a (by omega)]
theorem keeps_al {o : Nat} {A A1 : sV} (hC : CPY A (o + 11) 0 (o + 1) 75 17 A1) : A1 (o + 1) = A (o + 1) := hC.1 _ (by omega)
def sp_play (al : Nat → Int32) (x y : Int) : Int32 × (Nat → Int32) := if sp_wp al x y = 0 then ((cmF al x.toNat y.toNat (lgN al y.toNat)).2.1, nk al (sp_pc al x.toNat y.toNat)) else (-99000010 - sp_wp al x y, al)
theorem nI_get {x : Int32} {n : Int} (h0 : 0 ≤ x.toInt) (h : x.toInt < n) (hn : n ≤ 2147483648) : ∃ p : Nat, x = nI p ∧ x.toInt = (p : Int) ∧ (p : Int) < n := ⟨x.toInt.toNat, nI_ofI h0, by omega, by omega⟩
set_option maxRecDepth 20000 in
theorem p_play {G : gT} {d : Nat} {S : sS} {V : sV} {P : sP} {A : sV} {B : sB} {Q : sP} {t sl o : Nat} (hF : MF S P o) (hA : AV (A (o + 1))) (x y : Int32) : WQ G (d + 9) mX12_play 0 [some (.ref o), some (.int x), some (.int y), none] [] (t, sl, gh S V P A B Q) (PZ o S P Q t sl V A B (.int (sp_play (A (o + 1)) x.toInt y.toInt).1) (sp_play (A (o + 1)) x.toInt y.toInt).2) := by
  refine WQ.st (fun _ _ kz => pw_aload0 dX12_play_0 kz) ?_
  refine WQ.st (fun _ _ kz => pw_iconst (v := 0) dX12_play_1 (by decide) kz) ?_
  refine WQ.st (fun _ _ kz => pw_puti (pX12_1 _ rfl) dX12_play_2 hF.1 rfl rfl kz) ?_
  refine WQ.st (fun _ _ kz => pw_aload0 dX12_play_5 kz) ?_
  refine WQ.st (fun _ _ kz => pw_iload1 dX12_play_6 kz) ?_
  refine WQ.st (fun _ _ kz => pw_i2l dX12_play_7 kz) ?_
  refine WQ.st (fun _ _ kz => pw_iload2 dX12_play_8 kz) ?_
  refine WQ.st (fun _ _ kz => pw_i2l dX12_play_9 kz) ?_
  obtain ⟨_, _, k0, rfl, rfl⟩ := c_whyPlay (d := d) (P := P) (S := S) (G := G) (V := (up2 V o 0 0)) (A := A) (B := B) (Q := Q) (t := t) (sl := sl) hF hA.dv x.toInt64 y.toInt64
  rw [il_t, il_t] at k0
  refine WQ.st (fun _ _ kz => pw_o2i wX12_whyPlay lX12_319 rfl dX12_play_10 hF.1 (k0.mono (by omega)) rfl (Nat.le_of_ble_eq_true rfl) (Nat.le_of_ble_eq_true rfl) kz) ?_
  refine WQ.st (fun _ _ kz => pw_istore3 dX12_play_13 (by decide) (k := kz)) ?_
  refine WQ.st (fun _ _ kz => pw_iload3 dX12_play_14 kz) ?_
  refine WQ.br (fun _ _ ka kb => pw_if_eq (tgt := 24) dX12_play_15 (by decide) ka kb) (fun c15 => ?_) (fun c15 => ?_)
  · have hp5 := hA.dv.p5
    have hn4 := hA.dv.n4
    have g1 := isP_t (wp_0 c15).1
    have g2 := isQ_t (wp_0 c15).2
    obtain ⟨p, ep, tp, lp⟩ := nI_get g1.1 g1.2 (by omega)
    obtain ⟨q, eq, tq, lq⟩ := nI_get g2.1 g2.2 (by omega)
    have hp : p < 5 := by omega
    have hq : q < 4 := by omega
    rw [ep, eq]
    refine WQ.st (fun _ _ kz => pw_aload0 dX12_play_24 kz) ?_
    obtain ⟨_, _, k1, rfl, A1, rfl, hC⟩ := c_keeps (d := d + 8) (P := P) (S := S) (G := G) (V := (up2 V o 0 0)) (A := A) (B := B) (Q := Q) (t := t) (sl := sl) hF
    have hA1 := keeps_al hC
    have hD1 : DV (A1 (o + 1)) := by rw [hA1]; exact hA.dv
    have hK1 : KV (A1 (o + 1) 2).toInt (fun k => A1 (o + 1) (75 + k)) := by rw [hA1]; exact hA.kv
    refine WQ.st (fun _ _ kz => pw_o0v wX12_keeps lX12_332 rfl dX12_play_25 hF.1 (k1) rfl (Nat.le_of_ble_eq_true rfl) (Nat.le_of_ble_eq_true rfl) kz) ?_
    refine WQ.st (fun _ _ kz => pw_aload0 dX12_play_28 kz) ?_
    refine WQ.st (fun _ _ kz => pw_iload1 dX12_play_29 kz) ?_
    refine WQ.st (fun _ _ kz => pw_iload2 dX12_play_30 kz) ?_
    obtain ⟨V2, A2, k2, f1, f2, f3, f4, f5, f6⟩ := q_laysComes (d := d + 3) (P := P) (S := S) (G := G) (V := (up2 V o 0 0)) (A := A1) (B := B) (Q := Q) (t := t) (sl := sl) hF hD1 hK1 hp hq
    rw [hA1] at f3 f4 f5 f6
    refine WQ.st (fun _ _ kz => pw_o2v wX12_laysComes lX12_335 rfl dX12_play_31 hF.1 (k2) rfl (Nat.le_of_ble_eq_true rfl) (Nat.le_of_ble_eq_true rfl) kz) ?_
    refine WQ.st (fun _ _ kz => pw_aload0 dX12_play_34 kz) ?_
    refine WQ.st (fun _ _ kz => pw_iload1 dX12_play_35 kz) ?_
    obtain ⟨_, _, k3, rfl, A3, rfl, e3⟩ := c_plays (d := d + 8) (P := P) (S := S) (G := G) (V := V2) (A := A2) (B := B) (Q := Q) (t := t) (sl := sl) hF hp
    rw [f3, f4, f1 (o + 1) (by omega), hA1] at e3
    have e3' : A3 = pm_up A2 (o + 1) (sp_pc (A (o + 1)) p q) := e3
    have f92 : A3 (o + 1) 92 = A (o + 1) 92 := by rw [e3', pm_up_eq]; exact pl_out hp (by omega)
    refine WQ.st (fun _ _ kz => pw_o1v wX12_plays lX12_338 rfl dX12_play_36 hF.1 (k3) rfl (Nat.le_of_ble_eq_true rfl) (Nat.le_of_ble_eq_true rfl) kz) ?_
    refine WQ.st (fun _ _ kz => pw_aload0 dX12_play_39 kz) ?_
    obtain ⟨_, _, k9, rfl, A4, rfl, n1, n2⟩ := c_notes (d := d + 8) (P := P) (S := S) (G := G) (V := V2) (A := A3) (B := B) (Q := Q) (t := t) (sl := sl) hF (by rw [f92]; exact hA.dn)
    refine WQ.st (fun _ _ kz => pw_o0v wX12_notes lX12_341 rfl dX12_play_40 hF.1 (k9) rfl (Nat.le_of_ble_eq_true rfl) (Nat.le_of_ble_eq_true rfl) kz) ?_
    refine WQ.st (fun _ _ kz => pw_aload0 dX12_play_43 kz) ?_
    refine WQ.st (fun _ _ kz => pw_geti gX12_290 dX12_play_44 hF.1 kz) ?_
    rw [f3]
    refine ⟨_, _, pw_iret dX12_play_47 rfl rfl rfl rfl, ?_⟩
    have c0 : sp_play (A (o + 1)) x.toInt y.toInt = ((cmF (A (o + 1)) p q (lgN (A (o + 1)) q)).2.1, nk (A (o + 1)) (sp_pc (A (o + 1)) p q)) := by unfold sp_play; rw [if_pos c15, tp, tq, Int.toNat_natCast, Int.toNat_natCast]
    rw [← ep, ← eq, c0]
    exact ⟨rfl, V2, A4, B, rfl, (FP.up (by decide)).tr f2.FP, fin_notes hC (by rw [e3']; exact f1.app _) n1 n2, FB.rfl⟩
  · refine WQ.st (fun _ _ kz => pw_ldcw kX12_331 dX12_play_18 kz) ?_
    refine WQ.st (fun _ _ kz => pw_iload3 dX12_play_21 kz) ?_
    refine WQ.st (fun _ _ kz => pw_isub dX12_play_22 kz) ?_
    refine ⟨_, _, pw_iret dX12_play_23 rfl rfl rfl rfl, ?_⟩
    have c0 : sp_play (A (o + 1)) x.toInt y.toInt = (-99000010 - sp_wp (A (o + 1)) x.toInt y.toInt, A (o + 1)) := by unfold sp_play; rw [if_neg c15]
    rw [c0]
    exact PZ.q (FP.up (by decide)) FQ.rfl FB.rfl
def sp_perf (al : Nat → Int32) (x y : Int) : Int32 × (Nat → Int32) := if sp_wb al x y = 0 then (bsT al x.toNat y.toNat (-20), nk al (sp_pb al x.toNat y.toNat)) else (-99000010 - sp_wb al x y, al)
set_option maxRecDepth 20000 in
theorem p_perform {G : gT} {d : Nat} {S : sS} {V : sV} {P : sP} {A : sV} {B : sB} {Q : sP} {t sl o : Nat} (hF : MF S P o) (hA : AV (A (o + 1))) (x y : Int32) : WQ G (d + 9) mX12_perform 0 [some (.ref o), some (.int x), some (.int y), none] [] (t, sl, gh S V P A B Q) (PZ o S P Q t sl V A B (.int (sp_perf (A (o + 1)) x.toInt y.toInt).1) (sp_perf (A (o + 1)) x.toInt y.toInt).2) := by
  refine WQ.st (fun _ _ kz => pw_aload0 dX12_perform_0 kz) ?_
  refine WQ.st (fun _ _ kz => pw_iconst (v := 0) dX12_perform_1 (by decide) kz) ?_
  refine WQ.st (fun _ _ kz => pw_puti (pX12_1 _ rfl) dX12_perform_2 hF.1 rfl rfl kz) ?_
  refine WQ.st (fun _ _ kz => pw_aload0 dX12_perform_5 kz) ?_
  refine WQ.st (fun _ _ kz => pw_iload1 dX12_perform_6 kz) ?_
  refine WQ.st (fun _ _ kz => pw_i2l dX12_perform_7 kz) ?_
  refine WQ.st (fun _ _ kz => pw_iload2 dX12_perform_8 kz) ?_
  refine WQ.st (fun _ _ kz => pw_i2l dX12_perform_9 kz) ?_
  obtain ⟨_, _, k0, rfl, V2, A0, rfl, f1, f2, f3⟩ := c_whyBest (d := d + 2) (P := P) (S := S) (G := G) (V := (up2 V o 0 0)) (A := A) (B := B) (Q := Q) (t := t) (sl := sl) hF hA.dv hA.kv x.toInt64 y.toInt64
  rw [il_t, il_t] at k0 f3
  have hA0 := f1 (o + 1) (by omega)
  refine WQ.st (fun _ _ kz => pw_o2i wX12_whyBest lX12_344 rfl dX12_perform_10 hF.1 (k0) rfl (Nat.le_of_ble_eq_true rfl) (Nat.le_of_ble_eq_true rfl) kz) ?_
  refine WQ.st (fun _ _ kz => pw_istore3 dX12_perform_13 (by decide) (k := kz)) ?_
  refine WQ.st (fun _ _ kz => pw_iload3 dX12_perform_14 kz) ?_
  refine WQ.br (fun _ _ ka kb => pw_if_eq (tgt := 24) dX12_perform_15 (by decide) ka kb) (fun c15 => ?_) (fun c15 => ?_)
  · have hp5 := hA.dv.p5
    have hn4 := hA.dv.n4
    have g1 := isP_t (wp_0 (wb_0 c15).1).1
    have g2 := isQ_t (wp_0 (wb_0 c15).1).2
    obtain ⟨p, ep, tp, lp⟩ := nI_get g1.1 g1.2 (by omega)
    obtain ⟨q, eq, tq, lq⟩ := nI_get g2.1 g2.2 (by omega)
    have hp : p < 5 := by omega
    have hq : q < 4 := by omega
    rw [ep]
    have f3 := f3 c15
    rw [tp, tq, Int.toNat_natCast, Int.toNat_natCast] at f3
    refine WQ.st (fun _ _ kz => pw_aload0 dX12_perform_24 kz) ?_
    obtain ⟨_, _, k1, rfl, A1, rfl, hC⟩ := c_keeps (d := d + 8) (P := P) (S := S) (G := G) (V := V2) (A := A0) (B := B) (Q := Q) (t := t) (sl := sl) hF
    have hA1 : A1 (o + 1) = A (o + 1) := (keeps_al hC).trans hA0
    refine WQ.st (fun _ _ kz => pw_o0v wX12_keeps lX12_332 rfl dX12_perform_25 hF.1 (k1) rfl (Nat.le_of_ble_eq_true rfl) (Nat.le_of_ble_eq_true rfl) kz) ?_
    refine WQ.st (fun _ _ kz => pw_aload0 dX12_perform_28 kz) ?_
    refine WQ.st (fun _ _ kz => pw_iload1 dX12_perform_29 kz) ?_
    obtain ⟨_, _, k3, rfl, A3, rfl, e3⟩ := c_plays (d := d + 8) (P := P) (S := S) (G := G) (V := V2) (A := A1) (B := B) (Q := Q) (t := t) (sl := sl) hF hp
    rw [f3.1, f3.2, hA1] at e3
    have e3' : A3 = pm_up A1 (o + 1) (sp_pb (A (o + 1)) p q) := e3
    have f92 : A3 (o + 1) 92 = A (o + 1) 92 := by rw [e3', pm_up_eq]; exact pl_out hp (by omega)
    refine WQ.st (fun _ _ kz => pw_o1v wX12_plays lX12_338 rfl dX12_perform_30 hF.1 (k3) rfl (Nat.le_of_ble_eq_true rfl) (Nat.le_of_ble_eq_true rfl) kz) ?_
    refine WQ.st (fun _ _ kz => pw_aload0 dX12_perform_33 kz) ?_
    obtain ⟨_, _, k9, rfl, A4, rfl, n1, n2⟩ := c_notes (d := d + 8) (P := P) (S := S) (G := G) (V := V2) (A := A3) (B := B) (Q := Q) (t := t) (sl := sl) hF (by rw [f92]; exact hA.dn)
    refine WQ.st (fun _ _ kz => pw_o0v wX12_notes lX12_341 rfl dX12_perform_34 hF.1 (k9) rfl (Nat.le_of_ble_eq_true rfl) (Nat.le_of_ble_eq_true rfl) kz) ?_
    refine WQ.st (fun _ _ kz => pw_aload0 dX12_perform_37 kz) ?_
    refine WQ.st (fun _ _ kz => pw_geti gX12_290 dX12_perform_38 hF.1 kz) ?_
    rw [f3.1]
    refine ⟨_, _, pw_iret dX12_perform_41 rfl rfl rfl rfl, ?_⟩
    have c0 : sp_perf (A (o + 1)) x.toInt y.toInt = (bsT (A (o + 1)) p q (-20), nk (A (o + 1)) (sp_pb (A (o + 1)) p q)) := by unfold sp_perf; rw [if_pos c15, tp, tq, Int.toNat_natCast, Int.toNat_natCast]
    rw [← ep, c0]
    have hf := fin_notes hC (by rw [e3']; exact FA.rfl) n1 n2
    rw [hA0] at hf
    exact ⟨rfl, V2, A4, B, rfl, (FP.up (by decide)).tr f2.FP, (f1.FQ.app _).tr hf, FB.rfl⟩
  · refine WQ.st (fun _ _ kz => pw_ldcw kX12_331 dX12_perform_18 kz) ?_
    refine WQ.st (fun _ _ kz => pw_iload3 dX12_perform_21 kz) ?_
    refine WQ.st (fun _ _ kz => pw_isub dX12_perform_22 kz) ?_
    refine ⟨_, _, pw_iret dX12_perform_23 rfl rfl rfl rfl, ?_⟩
    have c0 : sp_perf (A (o + 1)) x.toInt y.toInt = (-99000010 - sp_wb (A (o + 1)) x.toInt y.toInt, A (o + 1)) := by unfold sp_perf; rw [if_neg c15]
    rw [c0]
    exact PZ.q ((FP.up (by decide)).tr f2.FP) f1.FQ FB.rfl
def sp_lendC (al : Nat → Int32) (x y z : Int) : Int32 × (Nat → Int32) := if sp_wl al x y z = 0 then (al (77 + x.toNat) - nI z.toNat, nk al (sp_lend al x.toNat y.toNat (nI z.toNat))) else (-99000010 - sp_wl al x y z, al)
set_option maxRecDepth 20000 in
theorem p_lend {G : gT} {d : Nat} {S : sS} {V : sV} {P : sP} {A : sV} {B : sB} {Q : sP} {t sl o : Nat} (hF : MF S P o) (hA : AV (A (o + 1))) (x y z : Int32) : WQ G (d + 9) mX12_lend 0 [some (.ref o), some (.int x), some (.int y), some (.int z), none] [] (t, sl, gh S V P A B Q) (PZ o S P Q t sl V A B (.int (sp_lendC (A (o + 1)) x.toInt y.toInt z.toInt).1) (sp_lendC (A (o + 1)) x.toInt y.toInt z.toInt).2) := by
  refine WQ.st (fun _ _ kz => pw_aload0 dX12_lend_0 kz) ?_
  refine WQ.st (fun _ _ kz => pw_iconst (v := 0) dX12_lend_1 (by decide) kz) ?_
  refine WQ.st (fun _ _ kz => pw_puti (pX12_1 _ rfl) dX12_lend_2 hF.1 rfl rfl kz) ?_
  refine WQ.st (fun _ _ kz => pw_aload0 dX12_lend_5 kz) ?_
  refine WQ.st (fun _ _ kz => pw_iload1 dX12_lend_6 kz) ?_
  refine WQ.st (fun _ _ kz => pw_i2l dX12_lend_7 kz) ?_
  refine WQ.st (fun _ _ kz => pw_iload2 dX12_lend_8 kz) ?_
  refine WQ.st (fun _ _ kz => pw_i2l dX12_lend_9 kz) ?_
  refine WQ.st (fun _ _ kz => pw_iload3 dX12_lend_10 kz) ?_
  refine WQ.st (fun _ _ kz => pw_i2l dX12_lend_11 kz) ?_
  obtain ⟨_, _, k0, rfl, rfl⟩ := c_whyLend (d := d + 6) (P := P) (S := S) (G := G) (V := (up2 V o 0 0)) (A := A) (B := B) (Q := Q) (t := t) (sl := sl) hF hA.dv hA.kv x.toInt64 y.toInt64 z.toInt64
  rw [il_t, il_t, il_t] at k0
  refine WQ.st (fun _ _ kz => pw_o3i wX12_whyLend lX12_347 rfl dX12_lend_12 hF.1 (k0) rfl (Nat.le_of_ble_eq_true rfl) (Nat.le_of_ble_eq_true rfl) kz) ?_
  refine WQ.st (fun _ _ kz => pw_istore4 dX12_lend_15 (by decide) (k := kz)) ?_
  refine WQ.st (fun _ _ kz => pw_iload4 dX12_lend_17 kz) ?_
  refine WQ.br (fun _ _ ka kb => pw_if_eq (tgt := 29) dX12_lend_19 (by decide) ka kb) (fun c19 => ?_) (fun c19 => ?_)
  · obtain ⟨g1, g2, g3, g4, g5, g6⟩ := wl_0 c19
    have hp5 := hA.dv.p5
    have g1 := isP_t g1
    have g2 := isP_t g2
    obtain ⟨p, ep, tp, lp⟩ := nI_get g1.1 g1.2 (by omega)
    obtain ⟨q, eq, tq, lq⟩ := nI_get g2.1 g2.2 (by omega)
    obtain ⟨k, ek, tk, lk⟩ := nI_get (x := z) (n := 41) (by omega) (by omega) (by decide)
    have hp : p < 5 := by omega
    have hq : q < 5 := by omega
    rw [ep, eq, ek]
    refine WQ.st (fun _ _ kz => pw_aload0 dX12_lend_29 kz) ?_
    obtain ⟨_, _, k1, rfl, A1, rfl, hC⟩ := c_keeps (d := d + 8) (P := P) (S := S) (G := G) (V := (up2 V o 0 0)) (A := A) (B := B) (Q := Q) (t := t) (sl := sl) hF
    have hA1 := keeps_al hC
    have hD1 : DV (A1 (o + 1)) := by rw [hA1]; exact hA.dv
    have hK1 : KV (A1 (o + 1) 2).toInt (fun k => A1 (o + 1) (75 + k)) := by rw [hA1]; exact hA.kv
    refine WQ.st (fun _ _ kz => pw_o0v wX12_keeps lX12_332 rfl dX12_lend_30 hF.1 (k1) rfl (Nat.le_of_ble_eq_true rfl) (Nat.le_of_ble_eq_true rfl) kz) ?_
    refine WQ.st (fun _ _ kz => pw_aload0 dX12_lend_33 kz) ?_
    refine WQ.st (fun _ _ kz => pw_iload1 dX12_lend_34 kz) ?_
    refine WQ.st (fun _ _ kz => pw_iload2 dX12_lend_35 kz) ?_
    refine WQ.st (fun _ _ kz => pw_iload3 dX12_lend_36 kz) ?_
    obtain ⟨_, _, k3, rfl, A3, rfl, e3⟩ := c_lends1 (d := d + 8) (P := P) (S := S) (G := G) (V := (up2 V o 0 0)) (A := A1) (B := B) (Q := Q) (t := t) (sl := sl) hF hp hq (nI k)
    rw [hA1] at e3
    have f92 : A3 (o + 1) 92 = A (o + 1) 92 := by rw [e3, pm_up_eq]; exact le_out hp hq (by omega)
    refine WQ.st (fun _ _ kz => pw_o3v wX12_lends1 lX12_351 rfl dX12_lend_37 hF.1 (k3) rfl (Nat.le_of_ble_eq_true rfl) (Nat.le_of_ble_eq_true rfl) kz) ?_
    refine WQ.st (fun _ _ kz => pw_aload0 dX12_lend_40 kz) ?_
    obtain ⟨_, _, k9, rfl, A4, rfl, n1, n2⟩ := c_notes (d := d + 8) (P := P) (S := S) (G := G) (V := (up2 V o 0 0)) (A := A3) (B := B) (Q := Q) (t := t) (sl := sl) hF (by rw [f92]; exact hA.dn)
    refine WQ.st (fun _ _ kz => pw_o0v wX12_notes lX12_341 rfl dX12_lend_41 hF.1 (k9) rfl (Nat.le_of_ble_eq_true rfl) (Nat.le_of_ble_eq_true rfl) kz) ?_
    refine WQ.st (fun _ _ kz => pw_aload0 dX12_lend_44 kz) ?_
    refine WQ.st (fun _ _ kz => pw_getr gX12_13 dX12_lend_45 hF.1 (mf_p1 hF) kz) ?_
    refine WQ.st (fun _ _ kz => pw_bipush (v := 77) dX12_lend_48 (by decide) kz) ?_
    refine WQ.st (fun _ _ kz => pw_iload1 dX12_lend_50 kz) ?_
    refine WQ.st (fun _ _ kz => pw_iadd dX12_lend_51 kz) ?_
    
    refine WQ.st (fun _ _ kz => pw_ald (j := 77 + p) dX12_lend_52 (mf_s1 hF) (by simp (disch := omega) only [nl_77, nI_add, pk_mul, pk_sub]; exact ix_m (by omega) (by omega)) (by omega) kz) ?_
    have e77 : A4 (o + 1) (77 + p) = A (o + 1) (77 + p) - nI k := by
      rw [n2, notes_out (by rw [f92]; exact hA.dn) (by omega), e3, pm_up_eq]
      unfold sp_lend
      rw [pm_up_ne (by omega), pm_up_eq]
    rw [e77]
    refine ⟨_, _, pw_iret dX12_lend_53 rfl rfl rfl rfl, ?_⟩
    have c0 : sp_lendC (A (o + 1)) x.toInt y.toInt z.toInt = (A (o + 1) (77 + p) - nI k, nk (A (o + 1)) (sp_lend (A (o + 1)) p q (nI k))) := by unfold sp_lendC; rw [if_pos c19, tp, tq, tk, Int.toNat_natCast, Int.toNat_natCast, Int.toNat_natCast]
    rw [← ep, ← eq, ← ek, c0]
    exact ⟨by rw [ek], up2 V o 0 0, A4, B, rfl, FP.up (by decide), fin_notes hC (by rw [e3]; exact FA.rfl) n1 n2, FB.rfl⟩
  · refine WQ.st (fun _ _ kz => pw_ldcw kX12_331 dX12_lend_22 kz) ?_
    refine WQ.st (fun _ _ kz => pw_iload4 dX12_lend_25 kz) ?_
    refine WQ.st (fun _ _ kz => pw_isub dX12_lend_27 kz) ?_
    refine ⟨_, _, pw_iret dX12_lend_28 rfl rfl rfl rfl, ?_⟩
    have c0 : sp_lendC (A (o + 1)) x.toInt y.toInt z.toInt = (-99000010 - sp_wl (A (o + 1)) x.toInt y.toInt z.toInt, A (o + 1)) := by unfold sp_lendC; rw [if_neg c19]
    rw [c0]
    exact PZ.q (FP.up (by decide)) FQ.rfl FB.rfl
def sp_temp (al : Nat → Int32) (x y : Int) : Int32 × (Nat → Int32) := if isP al x && decide (0 ≤ y ∧ y ≤ 9) then (al (87 + x.toNat), nk al (pm_up al (87 + x.toNat) (nI y.toNat))) else (-99000011, al)
theorem temp_ok {np : Int} {al : Nat → Int32} (h : KV np (fun k => al (75 + k))) {p : Nat} (hp : p < 5) {n : Nat} (hn : n < 10) : KV np (fun k => pm_up al (87 + p) (nI n) (75 + k)) := by
  refine ⟨fun j hj => ?_, fun j hj => ?_, fun j hj => ?_, fun j hj hn => ?_⟩
  · show -20 ≤ (pm_up al (87 + p) (nI n) (75 + (2 + j))).toInt ∧ (pm_up al (87 + p) (nI n) (75 + (2 + j))).toInt ≤ 20
    rw [pm_up_ne (by omega)]
    exact h.st j hj
  · show -9999999 ≤ (pm_up al (87 + p) (nI n) (75 + (7 + j))).toInt ∧ (pm_up al (87 + p) (nI n) (75 + (7 + j))).toInt ≤ 9999999
    rw [pm_up_ne (by omega)]
    exact h.jo j hj
  · show 0 ≤ (pm_up al (87 + p) (nI n) (75 + (12 + j))).toInt ∧ (pm_up al (87 + p) (nI n) (75 + (12 + j))).toInt ≤ 9
    by_cases e : 75 + (12 + j) = 87 + p
    · rw [e, pm_up_eq, nI_toInt (by omega)]
      omega
    · rw [pm_up_ne e]
      exact h.tm j hj
  · show pm_up al (87 + p) (nI n) (75 + (2 + j)) = 0 ∧ pm_up al (87 + p) (nI n) (75 + (7 + j)) = 0
    rw [pm_up_ne (by omega), pm_up_ne (by omega)]
    exact h.ze j hj hn
set_option maxRecDepth 20000 in
theorem p_temper {G : gT} {d : Nat} {S : sS} {V : sV} {P : sP} {A : sV} {B : sB} {Q : sP} {t sl o : Nat} (hF : MF S P o) (hA : AV (A (o + 1))) (x y : Int32) : WQ G (d + 9) mX12_temper 0 [some (.ref o), some (.int x), some (.int y)] [] (t, sl, gh S V P A B Q) (PZ o S P Q t sl V A B (.int (sp_temp (A (o + 1)) x.toInt y.toInt).1) (sp_temp (A (o + 1)) x.toInt y.toInt).2) := by
  refine WQ.st (fun _ _ kz => pw_aload0 dX12_temper_0 kz) ?_
  refine WQ.st (fun _ _ kz => pw_iconst (v := 0) dX12_temper_1 (by decide) kz) ?_
  refine WQ.st (fun _ _ kz => pw_puti (pX12_1 _ rfl) dX12_temper_2 hF.1 rfl rfl kz) ?_
  refine WQ.st (fun _ _ kz => pw_aload0 dX12_temper_5 kz) ?_
  refine WQ.st (fun _ _ kz => pw_iload1 dX12_temper_6 kz) ?_
  refine WQ.st (fun _ _ kz => pw_i2l dX12_temper_7 kz) ?_
  refine WQ.st (fun _ _ kz => pw_o1i wX12_isPlayer lX12_244 rfl dX12_temper_8 hF.1 (c_isPlayer hF hA.dv _) rfl (Nat.le_of_ble_eq_true rfl) (Nat.le_of_ble_eq_true rfl) kz) ?_
  refine WQ.br (fun _ _ ka kb => pw_if_eq (tgt := 26) dX12_temper_11 (by decide) ka kb) (fun c11 => ?_) (fun c11 => ?_)
  · rw [bI_0] at c11
    rw [il_t] at c11
    refine WQ.st (fun _ _ kz => pw_ldcw kX12_357 dX12_temper_26 kz) ?_
    refine ⟨_, _, pw_iret dX12_temper_29 rfl rfl rfl rfl, ?_⟩
    have c0 : sp_temp (A (o + 1)) x.toInt y.toInt = (-99000011, A (o + 1)) := by unfold sp_temp; rw [c11]; rfl
    rw [c0]
    exact PZ.q (FP.up (by decide)) FQ.rfl FB.rfl
  · rw [bI_n] at c11
    rw [il_t] at c11
    refine WQ.st (fun _ _ kz => pw_iload2 dX12_temper_14 kz) ?_
    refine WQ.st (fun _ _ kz => pw_i2l dX12_temper_15 kz) ?_
    refine WQ.st (fun _ _ kz => pw_lconst (v := 0) dX12_temper_16 (by decide) kz) ?_
    refine WQ.st (fun _ _ kz => pw_ldc2 kX12_355 dX12_temper_17 kz) ?_
    refine WQ.st (fun _ _ kz => pw_s3i wX12_within lX12_152 dX12_temper_20 (c_withinI _ _ _) rfl (Nat.le_of_ble_eq_true rfl) (Nat.le_of_ble_eq_true rfl) kz) ?_
    refine WQ.bn (fun _ _ ka kb => pw_if_ne (tgt := 30) dX12_temper_23 (by decide) ka kb) (fun c23 => ?_) (fun c23 => ?_)
    · rw [bI_n] at c23
      rw [il_t] at c23
      have c23' : decide (0 ≤ y.toInt ∧ y.toInt ≤ 9) = true := c23
      have hp5 := hA.dv.p5
      have g1 := isP_t c11
      have g2 := of_decide_eq_true c23'
      obtain ⟨p, ep, tp, lp⟩ := nI_get g1.1 g1.2 (by omega)
      obtain ⟨n, en, tn, ln⟩ := nI_get (x := y) (n := 10) (by omega) (by omega) (by decide)
      have hp : p < 5 := by omega
      rw [ep, en]
      refine WQ.st (fun _ _ kz => pw_aload0 dX12_temper_30 kz) ?_
      obtain ⟨_, _, k1, rfl, A1, rfl, hC⟩ := c_keeps (d := d + 8) (P := P) (S := S) (G := G) (V := (up2 V o 0 0)) (A := A) (B := B) (Q := Q) (t := t) (sl := sl) hF
      have hA1 := keeps_al hC
      have hD1 : DV (A1 (o + 1)) := by rw [hA1]; exact hA.dv
      have hK1 : KV (A1 (o + 1) 2).toInt (fun k => A1 (o + 1) (75 + k)) := by rw [hA1]; exact hA.kv
      refine WQ.st (fun _ _ kz => pw_o0v wX12_keeps lX12_332 rfl dX12_temper_31 hF.1 (k1) rfl (Nat.le_of_ble_eq_true rfl) (Nat.le_of_ble_eq_true rfl) kz) ?_
      refine WQ.st (fun _ _ kz => pw_aload0 dX12_temper_34 kz) ?_
      refine WQ.st (fun _ _ kz => pw_getr gX12_13 dX12_temper_35 hF.1 (mf_p1 hF) kz) ?_
      refine WQ.st (fun _ _ kz => pw_bipush (v := 87) dX12_temper_38 (by decide) kz) ?_
      refine WQ.st (fun _ _ kz => pw_iload1 dX12_temper_40 kz) ?_
      refine WQ.st (fun _ _ kz => pw_iadd dX12_temper_41 kz) ?_
      refine WQ.st (fun _ _ kz => pw_iload2 dX12_temper_42 kz) ?_
      refine WQ.st (fun _ _ kz => pw_ast (j := 87 + p) dX12_temper_43 (mf_s1 hF) (by simp (disch := omega) only [nl_87, nI_add, pk_mul, pk_sub]; exact ix_m (by omega) (by omega)) (by omega)  kz) ?_
      have f92 : up2 A1 (o + 1) (87 + p) (nI n) (o + 1) 92 = A (o + 1) 92 := by rw [up2_nk (by omega), hA1]
      have e3 : up2 A1 (o + 1) (87 + p) (nI n) = pm_up A1 (o + 1) (pm_up (A (o + 1)) (87 + p) (nI n)) := by rw [up2_pm, hA1]
      refine WQ.st (fun _ _ kz => pw_aload0 dX12_temper_44 kz) ?_
      obtain ⟨_, _, k9, rfl, A4, rfl, n1, n2⟩ := c_notes (d := d + 8) (P := P) (S := S) (G := G) (V := (up2 V o 0 0)) (A := (up2 A1 (o + 1) (87 + p) (nI n))) (B := B) (Q := Q) (t := t) (sl := sl) hF (by rw [f92]; exact hA.dn)
      refine WQ.st (fun _ _ kz => pw_o0v wX12_notes lX12_341 rfl dX12_temper_45 hF.1 (k9) rfl (Nat.le_of_ble_eq_true rfl) (Nat.le_of_ble_eq_true rfl) kz) ?_
      refine WQ.st (fun _ _ kz => pw_aload0 dX12_temper_48 kz) ?_
      refine WQ.st (fun _ _ kz => pw_getr gX12_48 dX12_temper_49 hF.1 (mf_p25 hF) kz) ?_
      refine WQ.st (fun _ _ kz => pw_bipush (v := 12) dX12_temper_52 (by decide) kz) ?_
      refine WQ.st (fun _ _ kz => pw_iload1 dX12_temper_54 kz) ?_
      refine WQ.st (fun _ _ kz => pw_iadd dX12_temper_55 kz) ?_
      refine WQ.st (fun _ _ kz => pw_ald (j := 12 + p) dX12_temper_56 (mf_s11 hF) (by simp (disch := omega) only [nl_12, nI_add, pk_mul, pk_sub]; exact ix_m (by omega) (by omega)) (by omega) kz) ?_
      have ew : A4 (o + 11) (12 + p) = A (o + 1) (87 + p) := by
        rw [n1 _ (by omega), up2_na (by omega), hC.2, if_pos (by omega)]
        exact congrArg _ (by omega)
      rw [ew]
      refine ⟨_, _, pw_iret dX12_temper_57 rfl rfl rfl rfl, ?_⟩
      have c0 : sp_temp (A (o + 1)) x.toInt y.toInt = (A (o + 1) (87 + p), nk (A (o + 1)) (pm_up (A (o + 1)) (87 + p) (nI n))) := by unfold sp_temp; rw [c11, c23', tp, tn]; rfl
      rw [← ep, ← en, c0]
      exact ⟨rfl, up2 V o 0 0, A4, B, rfl, FP.up (by decide), fin_notes hC (by rw [e3]; exact FA.rfl) n1 n2, FB.rfl⟩
    · rw [bI_0] at c23
      rw [il_t] at c23
      have c23' : decide (0 ≤ y.toInt ∧ y.toInt ≤ 9) = false := c23
      refine WQ.st (fun _ _ kz => pw_ldcw kX12_357 dX12_temper_26 kz) ?_
      refine ⟨_, _, pw_iret dX12_temper_29 rfl rfl rfl rfl, ?_⟩
      have c0 : sp_temp (A (o + 1)) x.toInt y.toInt = (-99000011, A (o + 1)) := by unfold sp_temp; rw [c11, c23']; rfl
      rw [c0]
      exact PZ.q (FP.up (by decide)) FQ.rfl FB.rfl
set_option maxRecDepth 20000 in
theorem p_friday {G : gT} {d : Nat} {S : sS} {V : sV} {P : sP} {A : sV} {B : sB} {Q : sP} {t sl o : Nat} (hF : MF S P o) (hA : AV (A (o + 1)))  : WQ G (d + 9) mX12_friday 0 [some (.ref o)] [] (t, sl, gh S V P A B Q) (PZ o S P Q t sl V A B (.int (frb (A (o + 1)) ((A (o + 1)) 2).toInt.toNat)) (nk (A (o + 1)) (sp_fri (A (o + 1))))) := by
  refine WQ.st (fun _ _ kz => pw_aload0 dX12_friday_0 kz) ?_
  refine WQ.st (fun _ _ kz => pw_iconst (v := 0) dX12_friday_1 (by decide) kz) ?_
  refine WQ.st (fun _ _ kz => pw_puti (pX12_1 _ rfl) dX12_friday_2 hF.1 rfl rfl kz) ?_
  refine WQ.st (fun _ _ kz => pw_aload0 dX12_friday_5 kz) ?_
  obtain ⟨_, _, k1, rfl, A1, rfl, hC⟩ := c_keeps (d := d + 8) (P := P) (S := S) (G := G) (V := (up2 V o 0 0)) (A := A) (B := B) (Q := Q) (t := t) (sl := sl) hF
  have hA1 := keeps_al hC
  have hD1 : DV (A1 (o + 1)) := by rw [hA1]; exact hA.dv
  have hK1 : KV (A1 (o + 1) 2).toInt (fun k => A1 (o + 1) (75 + k)) := by rw [hA1]; exact hA.kv
  refine WQ.st (fun _ _ kz => pw_o0v wX12_keeps lX12_332 rfl dX12_friday_6 hF.1 (k1) rfl (Nat.le_of_ble_eq_true rfl) (Nat.le_of_ble_eq_true rfl) kz) ?_
  refine WQ.st (fun _ _ kz => pw_aload0 dX12_friday_9 kz) ?_
  obtain ⟨_, _, k3, rfl, A3, rfl, e3⟩ := c_goesFriday (d := d + 8) (P := P) (S := S) (G := G) (V := (up2 V o 0 0)) (A := A1) (B := B) (Q := Q) (t := t) (sl := sl) hF hD1
  rw [hA1] at e3
  have f92 : A3 (o + 1) 92 = A (o + 1) 92 := by rw [e3, pm_up_eq]; exact fr_out (by omega)
  refine WQ.st (fun _ _ kz => pw_o0v wX12_goesFriday lX12_358 rfl dX12_friday_10 hF.1 (k3) rfl (Nat.le_of_ble_eq_true rfl) (Nat.le_of_ble_eq_true rfl) kz) ?_
  refine WQ.st (fun _ _ kz => pw_aload0 dX12_friday_13 kz) ?_
  obtain ⟨_, _, k9, rfl, A4, rfl, n1, n2⟩ := c_notes (d := d + 8) (P := P) (S := S) (G := G) (V := (up2 V o 0 0)) (A := A3) (B := B) (Q := Q) (t := t) (sl := sl) hF (by rw [f92]; exact hA.dn)
  refine WQ.st (fun _ _ kz => pw_o0v wX12_notes lX12_341 rfl dX12_friday_14 hF.1 (k9) rfl (Nat.le_of_ble_eq_true rfl) (Nat.le_of_ble_eq_true rfl) kz) ?_
  refine WQ.st (fun _ _ kz => pw_aload0 dX12_friday_17 kz) ?_
  refine WQ.st (fun _ _ kz => pw_getr gX12_13 dX12_friday_18 hF.1 (mf_p1 hF) kz) ?_
  refine WQ.st (fun _ _ kz => pw_bipush (v := 75) dX12_friday_21 (by decide) kz) ?_
  refine WQ.st (fun _ _ kz => pw_ald (j := 75) dX12_friday_23 (mf_s1 hF) rfl (by omega) kz) ?_
  have e75 : A4 (o + 1) 75 = frb (A (o + 1)) (A (o + 1) 2).toInt.toNat := by
    rw [n2, notes_out (by rw [f92]; exact hA.dn) (by omega), e3, pm_up_eq]
    unfold sp_fri
    rw [pm_up_ne (by omega), pm_up_eq]
  rw [e75]
  refine ⟨_, _, pw_iret dX12_friday_24 rfl rfl rfl rfl, ?_⟩
  exact ⟨rfl, up2 V o 0 0, A4, B, rfl, FP.up (by decide), fin_notes hC (by rw [e3]; exact FA.rfl) n1 n2, FB.rfl⟩
