def PDS (o m : Nat) (n : Int32) (T : Nat) (S : sS) (P : sP) (B : sB) (Q : sP) (t sl : Nat) (V A : sV) : Option Value → Ph → Prop := (fun r h' => (¬ (0 ≤ n.toInt ∧ n.toInt ≤ (m : Int)) ∧ r = some (.int (-99000003)) ∧ ∃ V' : sV, h' = (t, sl, gh S V' P A B Q) ∧ FP o V V') ∨ ((0 ≤ n.toInt ∧ n.toInt ≤ (m : Int)) ∧ ∃ V' A' : sV, h' = (t, sl, gh S V' P A' B Q) ∧ (∀ a, a ≠ o → V' a = V a) ∧ V' o 5 = 0 ∧ (∀ a, a ≠ o + 1 → a ≠ o + 4 → A' a = A a) ∧ match rdF (TK (A (o + 3)) n.toInt.toNat) (TV (A (o + 3)) n.toInt.toNat) (TPl (A (o + 3)) n.toInt.toNat) T with | .error e => r = some (.int (-99000030 - e.1)) ∧ V' o 13 = e.1 ∧ V' o 14 = nI e.2 ∧ A' (o + 1) = A (o + 1) | .ok s => r = some (.int (s.2.1 0)) ∧ V' o 13 = 0 ∧ V' o 14 = -1 ∧ AlM s.2.1 s.2.2 (A (o + 1)) (A' (o + 1))))
set_option maxRecDepth 20000 in
theorem p_desk {G : gT} {S : sS} {V : sV} {P : sP} {A : sV} {B : sB} {Q : sP} {t sl o : Nat} (hF : MF S P o) {m : Nat} (hm : V o 5 = nI m) (hm9 : m ≤ 900) (n : Int32) {T : Nat} (hT : TK (A (o + 3)) n.toInt.toNat T = 24) (hTL : T ≤ n.toInt.toNat) {D : Nat} (hD : 40 ≤ D) : WQ G D mX12_desk 0 [some (.ref o), some (.int n), none] [] (t, sl, gh S V P A B Q) (PDS o m n T S P B Q t sl V A) := by
  obtain ⟨D, rfl⟩ : ∃ D', D = D' + 1 := ⟨D - 1, by omega⟩
  refine WQ.st (fun _ _ kz => pw_aload0 dX12_desk_0 kz) ?_
  refine WQ.st (fun _ _ kz => pw_iconst (v := 0) dX12_desk_1 (by decide) kz) ?_
  refine WQ.st (fun _ _ kz => pw_puti (pX12_1 _ rfl) dX12_desk_2 hF.1 rfl rfl kz) ?_
  refine WQ.st (fun _ _ kz => pw_iload1 dX12_desk_5 kz) ?_
  refine WQ.st (fun _ _ kz => pw_i2l dX12_desk_6 kz) ?_
  refine WQ.st (fun _ _ kz => pw_lconst (v := 0) dX12_desk_7 (by decide) kz) ?_
  refine WQ.st (fun _ _ kz => pw_aload0 dX12_desk_8 kz) ?_
  refine WQ.st (fun _ _ kz => pw_geti gX12_89 dX12_desk_9 hF.1 kz) ?_
  refine WQ.st (fun _ _ kz => pw_i2l dX12_desk_12 kz) ?_
  rw [up2_nk (by omega), hm]
  refine WQ.st (fun _ _ kz => pw_s3i wX12_within lX12_152 dX12_desk_13 (c_withinI _ _ _) rfl (Nat.le_of_ble_eq_true rfl) (Nat.le_of_ble_eq_true rfl) kz) ?_
  refine WQ.bn (fun _ _ ka kb => pw_if_ne (tgt := 22) dX12_desk_16 (by decide) ka kb) (fun c16 => ?_) (fun c16 => ?_)
  · rw [bI_n] at c16
    rw [il_t, il_t, ix_n (by omega)] at c16
    have c16 := of_decide_eq_true c16
    have e0 : (0 : Int64).toInt = 0 := rfl
    rw [e0] at c16
    refine WQ.st (fun _ _ kz => pw_aload0 dX12_desk_22 kz) ?_
    refine WQ.st (fun _ _ kz => pw_iload1 dX12_desk_23 kz) ?_
    refine WQ.st (fun _ _ kz => pw_puti (pX12_93 _ rfl) dX12_desk_24 hF.1 rfl rfl kz) ?_
    refine WQ.st (fun _ _ kz => pw_aload0 dX12_desk_27 kz) ?_
    refine WQ.st (fun _ _ kz => pw_iconst (v := 0) dX12_desk_28 (by decide) kz) ?_
    refine WQ.st (fun _ _ kz => pw_puti (pX12_89 _ rfl) dX12_desk_29 hF.1 rfl rfl kz) ?_
    refine WQ.st (fun _ _ kz => pw_aload0 dX12_desk_32 kz) ?_
    refine WQ.st (fun _ _ kz => pw_iconst (v := 0) dX12_desk_33 (by decide) kz) ?_
    refine WQ.st (fun _ _ kz => pw_puti (pX12_111 _ rfl) dX12_desk_34 hF.1 rfl rfl kz) ?_
    refine WQ.st (fun _ _ kz => pw_aload0 dX12_desk_37 kz) ?_
    refine WQ.st (fun _ _ kz => pw_iconst (v := 0) dX12_desk_38 (by decide) kz) ?_
    refine WQ.st (fun _ _ kz => pw_puti (pX12_136 _ rfl) dX12_desk_39 hF.1 rfl rfl kz) ?_
    refine WQ.st (fun _ _ kz => pw_aload0 dX12_desk_42 kz) ?_
    refine WQ.st (fun _ _ kz => pw_getr gX12_24 dX12_desk_43 hF.1 (mf_p4 hF) kz) ?_
    generalize hV5 : up2 (up2 (up2 (up2 (up2 V o 0 0) o 8 n) o 5 0) o 7 0) o 11 0 = V5
    obtain ⟨A1, k0, p1, p2⟩ := c_plain (G := G) (d := D) (V := V5) (P := P) (A := A) (B := B) (Q := Q) (t := t) (sl := sl) (mf_s4 hF) (by omega)
    refine WQ.st (fun _ _ kz => pw_s1v wX12_plain lX12_85 dX12_desk_46 (k0) rfl (Nat.le_of_ble_eq_true rfl) (Nat.le_of_ble_eq_true rfl) kz) ?_
    refine WQ.st (fun _ _ kz => pw_aload0 dX12_desk_49 kz) ?_
    have hL : V o 8 = V o 8 := rfl
    have enL : n = nI n.toInt.toNat := nI_ofI c16.1
    have hX : TXR (A (o + 3)) n.toInt.toNat o V5 A1 := ⟨by rw [← hV5, up2_nk (by omega), up2_nk (by omega), up2_nk (by omega), up2_eq]; exact enL, by omega, fun i _ => by rw [p1 (o + 3) (by omega)]⟩
    have k := (c_nextToken (G := G) (d := 0) (B := B) (Q := Q) (t := t) (sl := sl) hF hX (p := 0) (by omega) (by rw [← hV5, up2_nk (by omega), up2_eq]; rfl)).mn (show 0 + 5 ≤ D by omega)
    refine wq_o0v wX12_nextToken lX12_145 rfl dX12_desk_50 hF.1 (k) rfl (Nat.le_of_ble_eq_true rfl) (Nat.le_of_ble_eq_true rfl) (fun h50 z50 => ?_)
    obtain ⟨V6, rfl, f6, h6, h7, h9, h10⟩ := z50
    have f6' : FRV o (up2 (up2 (up2 (up2 (up2 V o 0 0) o 8 n) o 5 0) o 7 0) o 11 0) V6 := by rw [hV5]; exact f6
    have f6 := f6'
    have kf : ∀ V' A' : sV, RXL (A (o + 3)) n.toInt.toNat o T (rdF (TK (A (o + 3)) n.toInt.toNat) (TV (A (o + 3)) n.toInt.toNat) (TPl (A (o + 3)) n.toInt.toNat) T) V' A' → FRL o V6 A1 V' A' → WQ G (D + 1) mX12_desk 97 [some (.ref o), some (.int n), none] [] (t, sl, gh S V' P A' B Q) (PDS o m n T S P B Q t sl V A) := by
      intro V' A' z f
      refine (c_desk97 (G := G) (d := D + 1) (B := B) (Q := Q) (t := t) (sl := sl) hF z n).imp (fun r h' w => ?_)
      obtain ⟨V9, A9, rfl, w1, w2, w3, w4⟩ := w
      refine Or.inr ⟨c16, V9, A9, rfl, fun a ha => ?_, ?_, fun a h1 h2 => ?_, ?_⟩
      · rw [w1 a ha, f.1 a ha, f6.1 a ha, up2_na ha, up2_na ha, up2_na ha, up2_na ha, up2_na ha]
      · rw [w2 5 (by omega) (by omega), f.2.1 5 (by omega) (by omega) (by omega) (by omega) (by omega) (by omega), f6.2 5 (by omega) (by omega) (by omega) (by omega), up2_nk (by omega), up2_nk (by omega), up2_eq]
      · rw [w3 a h1, f.2.2 a h2, p1 a h2]
      · have e1 : A' (o + 1) = A (o + 1) := by rw [f.2.2 (o + 1) (by omega), p1 (o + 1) (by omega)]
        generalize rdF (TK (A (o + 3)) n.toInt.toNat) (TV (A (o + 3)) n.toInt.toNat) (TPl (A (o + 3)) n.toInt.toNat) T = r at *
        cases r with
        | error e => exact ⟨w4.1, w4.2.1, w4.2.2.1, w4.2.2.2.trans e1⟩
        | ok s =>
          have z : RNF (A (o + 3)) n.toInt.toNat o s.1 s.2.2 s.2.1 V' A' ∧ RB T T s.1 s.2.2 := z
          have l9 : s.2.2.length ≤ 900 := by have := z.2.2.1; have := z.2.2.2; omega
          exact ⟨w4.1, w4.2.1, w4.2.2.1, fun k hk => by rw [w4.2.2.2.1 k (by omega)]; exact z.1.2 k hk, fun k hk => by rw [w4.2.2.2.1 (264 + k) (by omega)]; exact z.1.1.co k hk, fun k hk => by rw [w4.2.2.2.2 k hk, e1]⟩
    have hN : RNF (A (o + 3)) n.toInt.toNat o 0 [] (fun _ => 0) V6 A1 := ⟨⟨hX.fr (by rw [← hV5]; exact f6), by rw [f6.2 11 (by omega) (by omega) (by omega) (by omega), up2_eq], h9, h6, h7, h10, p2 263, fun k hk => absurd hk (Nat.not_lt_zero k)⟩, fun k hk => by rw [p2 k, if_pos (by omega)]⟩
    have hB : RB T T 0 [] := ⟨by omega, by show 0 + (T - 0) ≤ T; omega, by omega⟩
    unfold rdF at kf
    refine WQ.st (fun _ _ kz => pw_aload0 dX12_desk_53 kz) ?_
    refine WQ.st (fun _ _ kz => pw_iconst (v := 0) dX12_desk_54 (by decide) kz) ?_
    refine wq_o1i wX12_eats lX12_172 rfl dX12_desk_55 hF.1 (c_eatsN hF hN.1 (k := 0) rfl (by omega)) rfl (Nat.le_of_ble_eq_true rfl) (Nat.le_of_ble_eq_true rfl) (fun h55 z55 => ?_)
    obtain ⟨V1, A2, rfl, e1, e2, f1⟩ := z55
    refine WQ.bn (fun _ _ ka kb => pw_if_ne (tgt := 66) dX12_desk_58 (by decide) ka kb) (fun c58 => ?_) (fun c58 => ?_)
    · rw [bI_n] at c58
      have c58 := of_decide_eq_true c58
      rw [if_pos c58] at kf
      have n1 := e1 c58
      have m1 := hN.m n1 f1
      have b1 := hB.nx hT c58 (by omega)
      refine WQ.st (fun _ _ kz => pw_aload0 dX12_desk_66 kz) ?_
      refine wq_o0v wX12_ends lX12_207 rfl dX12_desk_67 hF.1 (c_endsN hF hT m1 b1 (by omega)) rfl (Nat.le_of_ble_eq_true rfl) (Nat.le_of_ble_eq_true rfl) (fun h67 z67 => ?_)
      obtain ⟨V4, A4, rfl, z4, f4⟩ := z67
      generalize hr4 : enF (TK (A (o + 3)) n.toInt.toNat) (TPl (A (o + 3)) n.toInt.toNat) 1 (fun _ => 0) [] = r4 at *
      cases r4 with
      | error e =>
        have hw := RXL_err z4
        refine WQ.st (fun _ _ kz => pw_aload0 dX12_desk_70 kz) ?_
        refine WQ.st (fun _ _ kz => pw_geti gX12_136 dX12_desk_71 hF.1 kz) ?_
        refine WQ.bn (fun _ _ ka kb => pw_if_ne (tgt := 97) dX12_desk_74 (by decide) ka kb) (fun c74 => ?_) (fun c74 => absurd c74 hw)
        exact kf _ _ z4 (f1.l.tr f4)
      | ok s4 =>
        rw [RLn.at_ok] at kf
        have z4 : RNF (A (o + 3)) n.toInt.toNat o s4.1 s4.2.2 s4.2.1 V4 A4 ∧ RB T T s4.1 s4.2.2 := z4
        have es := enF_ok hr4
        exact l_desk hF hT (by omega) (T + 1) s4.1 s4.2.1 s4.2.2 V4 A4 (by omega) z4.1 z4.2 (by rw [es]; exact IVF.zero.li _) (f1.l.tr f4) kf
    · rw [bI_0] at c58
      have c58 := of_decide_eq_false c58
      rw [if_neg c58] at kf
      obtain ⟨rfl, rfl⟩ := e2 c58
      refine WQ.st (fun _ _ kz => pw_aload0 dX12_desk_61 kz) ?_
      refine WQ.st (fun _ _ kz => pw_iconst (v := 2) dX12_desk_62 (by decide) kz) ?_
      refine wq_o1v wX12_fails lX12_148 rfl dX12_desk_63 hF.1 (c_failsN (T := T) (m := T) hF hN.1 (by decide)) rfl (Nat.le_of_ble_eq_true rfl) (Nat.le_of_ble_eq_true rfl) (fun h63 z63 => ?_)
      obtain ⟨V3, A3, rfl, z3, f3, _⟩ := z63
      have hw := RX_bad z3
      refine WQ.st (fun _ _ kz => pw_aload0 dX12_desk_66 kz) ?_
      refine wq_o0v wX12_ends lX12_207 rfl dX12_desk_67 hF.1 (c_endsW hF hw (by omega)) rfl (Nat.le_of_ble_eq_true rfl) (Nat.le_of_ble_eq_true rfl) (fun h67 z67 => ?_)
      obtain ⟨A4, rfl, f4⟩ := z67
      refine WQ.st (fun _ _ kz => pw_aload0 dX12_desk_70 kz) ?_
      refine WQ.st (fun _ _ kz => pw_geti gX12_136 dX12_desk_71 hF.1 kz) ?_
      refine WQ.bn (fun _ _ ka kb => pw_if_ne (tgt := 97) dX12_desk_74 (by decide) ka kb) (fun c74 => ?_) (fun c74 => absurd c74 hw)
      exact kf _ _ z3 (f3.l.tr f4)
  · rw [bI_0] at c16
    rw [il_t, il_t, ix_n (by omega)] at c16
    have c16 := of_decide_eq_false c16
    have e0 : (0 : Int64).toInt = 0 := rfl
    rw [e0] at c16
    refine WQ.st (fun _ _ kz => pw_ldc kX12_206 dX12_desk_19 kz) ?_
    refine ⟨_, _, pw_iret dX12_desk_21 rfl rfl rfl rfl, ?_⟩
    exact Or.inl ⟨c16, rfl, _, rfl, fun a ha => up2_na ha, up2_nk (by omega), up2_nk (by omega), up2_nk (by omega)⟩
