set_option maxRecDepth 20000 in
theorem c_readPiece {G : gT} {S : sS} {V : sV} {P : sP} {A : sV} {B : sB} {Q : sP} {t sl o : Nat} (hF : MF S P o) {x : Nat → Int32} {L T : Nat} (hT : TK x L T = 24) {i : Nat} {c : List Int32} {F : Nat → Int32} (hN : RNF x L o i c F V A) (hB : RB T T i c) {D : Nat} (hk : TK x L i = 1) {q : Nat} (hq4 : q ≤ 4) (hq : F 1 = nI q) (hz : F (10 + q) = 0) (hD : 10 ≤ D) : WQ G D mX12_readPiece 0 [some (.ref o), none, none, none] [] (t, sl, gh S V P A B Q) (RZL x L o T S P B Q t sl (lnP (TK x L) (TV x L) (TPl x L) T i F c) V A) := by
  obtain ⟨D, rfl⟩ : ∃ D', D = D' + 1 := ⟨D - 1, by omega⟩
  unfold lnP
  refine WQ.st (fun _ _ kz => pw_aload0 dX12_readPiece_0 kz) ?_
  refine WQ.st (fun _ _ kz => pw_getr gX12_24 dX12_readPiece_1 hF.1 (mf_p4 hF) kz) ?_
  refine WQ.st (fun _ _ kz => pw_iconst (v := 1) dX12_readPiece_4 (by decide) kz) ?_
  refine WQ.st (fun _ _ kz => pw_ald (j := 1) dX12_readPiece_5 (mf_s4 hF) rfl (by omega) kz) ?_
  rw [hN.2 1 (by omega), hq]
  refine WQ.st (fun _ _ kz => pw_istore1 dX12_readPiece_6 (by decide) (k := kz)) ?_
  refine WQ.st (fun _ _ kz => pw_iload1 dX12_readPiece_7 kz) ?_
  refine WQ.st (fun _ _ kz => pw_iconst (v := 4) dX12_readPiece_8 (by decide) kz) ?_
  refine WQ.bn (fun _ _ ka kb => pw_icmp_ne (tgt := 17) dX12_readPiece_9 (by decide) ka kb) (fun c9 => ?_) (fun c9 => ?_)
  · rw [eq_i (ix_n (by omega)) (show (4 : Int32).toInt = 4 from rfl)] at c9
    have c9 : ¬ q = 4 := by omega
    rw [if_neg (show ¬ nI q = 4 from fun e => c9 (by rw [eq_i (ix_n (by omega)) (show (4 : Int32).toInt = 4 from rfl)] at e; omega)), show (nI q).toInt.toNat = q from by rw [ix_n (by omega)]; rfl]
    refine WQ.st (fun _ _ kz => pw_aload0 dX12_readPiece_17 kz) ?_
    refine WQ.st (fun _ _ kz => pw_geti gX12_136 dX12_readPiece_18 hF.1 kz) ?_
    refine WQ.br (fun _ _ ka kb => pw_if_eq (tgt := 25) dX12_readPiece_21 (by decide) ka kb) (fun c21 => ?_) (fun c21 => absurd hN.1.w0 c21)
    refine WQ.st (fun _ _ kz => pw_aload0 dX12_readPiece_25 kz) ?_
    refine wq_o0v wX12_nextToken lX12_145 rfl dX12_readPiece_26 hF.1 (c_ntN hF hN.1 (by omega)) rfl (Nat.le_of_ble_eq_true rfl) (Nat.le_of_ble_eq_true rfl) (fun h26 z26 => ?_)
    obtain ⟨V1, A1, rfl, rfl, n1, f1⟩ := z26
    have k := l_readPiece (G := G) (B := B) (Q := Q) (t := t) (sl := sl) hF hT (show q < 4 by omega) (D := D + 1) (by omega) (T + 1) (i + 1) F V1 A 0 (y2 := none) (y3 := none) (by omega) (by omega) (hN.m n1 f1) (by rw [hz]; rfl) (hB.nx hT hk (by omega))
    refine k.imp (fun r h' z => ?_)
    obtain ⟨z1, V9, A9, z3, z4, z5⟩ := z
    exact ⟨z1, V9, A9, z3, z4.l, f1.l.tr z5⟩
  · rw [eq_i (ix_n (by omega)) (show (4 : Int32).toInt = 4 from rfl)] at c9
    have c9 : q = 4 := by omega
    rw [if_pos (show nI q = 4 by rw [c9]; rfl)]
    refine WQ.st (fun _ _ kz => pw_aload0 dX12_readPiece_12 kz) ?_
    refine WQ.st (fun _ _ kz => pw_iconst (v := 4) dX12_readPiece_13 (by decide) kz) ?_
    refine wq_o1v wX12_fails lX12_148 rfl dX12_readPiece_14 hF.1 (c_failsN (T := T) (m := T) hF hN.1 (by decide)) rfl (Nat.le_of_ble_eq_true rfl) (Nat.le_of_ble_eq_true rfl) (fun h14 z14 => ?_)
    obtain ⟨V1, A1, rfl, z1, f1, _⟩ := z14
    have hw := RX_bad z1
    unfold badT at z1
    rw [if_neg (by omega)] at z1
    refine WQ.st (fun _ _ kz => pw_aload0 dX12_readPiece_17 kz) ?_
    refine WQ.st (fun _ _ kz => pw_geti gX12_136 dX12_readPiece_18 hF.1 kz) ?_
    refine WQ.br (fun _ _ ka kb => pw_if_eq (tgt := 25) dX12_readPiece_21 (by decide) ka kb) (fun c21 => absurd c21 hw) (fun c21 => ?_)
    refine ⟨_, _, pw_vret dX12_readPiece_24 rfl rfl rfl, ?_⟩
    exact ⟨rfl, _, _, rfl, z1, f1.l⟩
