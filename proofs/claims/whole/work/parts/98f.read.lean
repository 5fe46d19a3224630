def RZ (x : Nat → Int32) (L o T m : Nat) (S : sS) (P : sP) (B : sB) (Q : sP) (t sl : Nat) (r : PR) (V A : sV) : Option Value → Ph → Prop := fun q h' => q = none ∧ ∃ V' A' : sV, h' = (t, sl, gh S V' P A' B Q) ∧ RX x L o T m r V' A' ∧ FRM o V A V' A'
section RZS
variable {G : gT} {D : Nat} {M : mT} {pc : Nat} {ls : List (Option Value)} {st : List Value} {h : Ph} {S : sS} {P : sP} {B : sB} {Q : sP} {t sl o : Nat} {x : Nat → Int32} {L T m m' : Nat} {r : PR} {V A V1 A1 : sV}
theorem WQ.rz (k : WQ G D M pc ls st h (RZ x L o T m S P B Q t sl r V1 A1)) (f : FRM o V A V1 A1) : WQ G D M pc ls st h (RZ x L o T m S P B Q t sl r V A) := by
  obtain ⟨q, h', k, z1, V2, A2, z2, z3, z4⟩ := k
  exact ⟨q, h', k, z1, V2, A2, z2, z3, f.tr z4⟩
theorem WQ.re {D' : Nat} (k : WQ G D' M pc ls st h (fun q h' => q = none ∧ h' = (t, sl, gh S V1 P A1 B Q))) (hd : D' ≤ D) (z : RX x L o T m r V1 A1) (f : FRM o V A V1 A1) : WQ G D M pc ls st h (RZ x L o T m S P B Q t sl r V A) := by
  obtain ⟨q, h', k, z1, z2⟩ := k.mn hd
  exact ⟨q, h', k, z1, V1, A1, z2, z, f⟩
theorem RX_em {e : Int32 × Nat} (h : RX x L o T m (.error e) V A) : RX x L o T m' (.error e) V A := h
end RZS
def GC (G : gT) (S : sS) (P : sP) (B : sB) (Q : sP) (t sl o : Nat) (x : Nat → Int32) (L T : Nat) (M : mT) (pc : Nat) (lc : Nat → Option Value → List (Option Value)) (nt off n : Nat) : Prop := ∀ (i dep : Nat) (c : List Int32) (m : Nat) (V A : sV) (D : Nat) (y : Option Value), dep ≤ 6 → 10 * (T - i) + rkT nt < n → RN x L o i c V A → RB T m i c → 8 + 3 * (6 - dep) + off ≤ D → WQ G D M pc (lc dep y) [] (t, sl, gh S V P A B Q) (RZ x L o T m S P B Q t sl (ps (TK x L) (TV x L) (TPl x L) n nt i dep c) V A)
set_option maxRecDepth 20000 in
theorem g_1 {G : gT} {S : sS} {P : sP} {B : sB} {Q : sP} {t sl o : Nat} (hF : MF S P o) {x : Nat → Int32} {L T n : Nat} (hT : TK x L T = 24) (h0 : GC G S P B Q t sl o x L T mX12_readAtom 0 (fun dep _ => [some (.ref o), some (.int (nI dep))]) 0 0 n) (h11 : GC G S P B Q t sl o x L T mX12_readTerm 5 (fun dep _ => [some (.ref o), some (.int (nI dep))]) 11 1 n) : GC G S P B Q t sl o x L T mX12_readTerm 0 (fun dep _ => [some (.ref o), some (.int (nI dep))]) 1 1 (n + 1) := by
  intro i dep c m V A D y hd hn hN hB hD
  have hB1 := hB.1
  have hm9 := hB.2.2
  have r0 : rkT 0 = 0 := rfl
  have r11 : rkT 11 = 1 := rfl
  have r1 : rkT 1 = 2 := rfl
  obtain ⟨D, rfl⟩ : ∃ D', D = D' + 1 := ⟨D - 1, by omega⟩
  rw [ps_1]
  refine WQ.st (fun _ _ kz => pw_aload0 dX12_readTerm_0 kz) ?_
  refine WQ.st (fun _ _ kz => pw_iload1 dX12_readTerm_1 kz) ?_
  refine wq_o1v wX12_readAtom lX12_175 rfl dX12_readTerm_2 hF.1 (h0 i dep c m V A D none hd (by omega) hN hB (by omega)) rfl (Nat.le_of_ble_eq_true rfl) (Nat.le_of_ble_eq_true rfl) (fun h2 z2 => ?_)
  obtain ⟨V2, A2, rfl, z2, f2⟩ := z2
  have pk := ps_ok (Vl := TV x L) (Pl := TPl x L) hT n 0 i dep c m (by omega) hB
  generalize hr : ps (TK x L) (TV x L) (TPl x L) n 0 i dep c = r at *
  cases r with
  | error e =>
    rw [PR.at_er]
    exact WQ.re (w_readTerm5 (d := 0) hF (RX_err z2) _) (by omega) z2 f2
  | ok s =>
    rw [PR.at_ok]
    have z2 : RN x L o s.1 s.2 V2 A2 ∧ RB T m s.1 s.2 := z2
    have pk : RB T m s.1 s.2 ∧ i ≤ s.1 := pk
    exact (h11 s.1 dep s.2 m V2 A2 (D + 1) none hd (by omega) z2.1 z2.2 (by omega)).rz f2
set_option maxRecDepth 20000 in
theorem g_2 {G : gT} {S : sS} {P : sP} {B : sB} {Q : sP} {t sl o : Nat} (hF : MF S P o) {x : Nat → Int32} {L T n : Nat} (hT : TK x L T = 24) (h1 : GC G S P B Q t sl o x L T mX12_readTerm 0 (fun dep _ => [some (.ref o), some (.int (nI dep))]) 1 1 n) (h12 : GC G S P B Q t sl o x L T mX12_readSum 5 (fun dep y => [some (.ref o), some (.int (nI dep)), y]) 12 2 n) : GC G S P B Q t sl o x L T mX12_readSum 0 (fun dep _ => [some (.ref o), some (.int (nI dep)), none]) 2 2 (n + 1) := by
  intro i dep c m V A D y hd hn hN hB hD
  have hB1 := hB.1
  have hm9 := hB.2.2
  have r1 : rkT 1 = 2 := rfl
  have r12 : rkT 12 = 3 := rfl
  have r2 : rkT 2 = 4 := rfl
  obtain ⟨D, rfl⟩ : ∃ D', D = D' + 1 := ⟨D - 1, by omega⟩
  rw [ps_2]
  refine WQ.st (fun _ _ kz => pw_aload0 dX12_readSum_0 kz) ?_
  refine WQ.st (fun _ _ kz => pw_iload1 dX12_readSum_1 kz) ?_
  refine wq_o1v wX12_readTerm lX12_178 rfl dX12_readSum_2 hF.1 (h1 i dep c m V A D none hd (by omega) hN hB (by omega)) rfl (Nat.le_of_ble_eq_true rfl) (Nat.le_of_ble_eq_true rfl) (fun h2 z2 => ?_)
  obtain ⟨V2, A2, rfl, z2, f2⟩ := z2
  have pk := ps_ok (Vl := TV x L) (Pl := TPl x L) hT n 1 i dep c m (by omega) hB
  generalize hr : ps (TK x L) (TV x L) (TPl x L) n 1 i dep c = r at *
  cases r with
  | error e =>
    rw [PR.at_er]
    exact WQ.re (w_readSum5 (d := 0) hF (RX_err z2) _ _) (by omega) z2 f2
  | ok s =>
    rw [PR.at_ok]
    have z2 : RN x L o s.1 s.2 V2 A2 ∧ RB T m s.1 s.2 := z2
    have pk : RB T m s.1 s.2 ∧ i ≤ s.1 := pk
    exact (h12 s.1 dep s.2 m V2 A2 (D + 1) none hd (by omega) z2.1 z2.2 (by omega)).rz f2
set_option maxRecDepth 20000 in
theorem g_4 {G : gT} {S : sS} {P : sP} {B : sB} {Q : sP} {t sl o : Nat} (hF : MF S P o) {x : Nat → Int32} {L T n : Nat} (hT : TK x L T = 24) (h3 : GC G S P B Q t sl o x L T mX12_readUnit 0 (fun dep _ => [some (.ref o), some (.int (nI dep)), none]) 3 3 n) (h14 : GC G S P B Q t sl o x L T mX12_readBoth 5 (fun dep _ => [some (.ref o), some (.int (nI dep))]) 14 4 n) : GC G S P B Q t sl o x L T mX12_readBoth 0 (fun dep _ => [some (.ref o), some (.int (nI dep))]) 4 4 (n + 1) := by
  intro i dep c m V A D y hd hn hN hB hD
  have hB1 := hB.1
  have hm9 := hB.2.2
  have r3 : rkT 3 = 5 := rfl
  have r14 : rkT 14 = 6 := rfl
  have r4 : rkT 4 = 7 := rfl
  obtain ⟨D, rfl⟩ : ∃ D', D = D' + 1 := ⟨D - 1, by omega⟩
  rw [ps_4]
  refine WQ.st (fun _ _ kz => pw_aload0 dX12_readBoth_0 kz) ?_
  refine WQ.st (fun _ _ kz => pw_iload1 dX12_readBoth_1 kz) ?_
  refine wq_o1v wX12_readUnit lX12_181 rfl dX12_readBoth_2 hF.1 (h3 i dep c m V A D none hd (by omega) hN hB (by omega)) rfl (Nat.le_of_ble_eq_true rfl) (Nat.le_of_ble_eq_true rfl) (fun h2 z2 => ?_)
  obtain ⟨V2, A2, rfl, z2, f2⟩ := z2
  have pk := ps_ok (Vl := TV x L) (Pl := TPl x L) hT n 3 i dep c m (by omega) hB
  generalize hr : ps (TK x L) (TV x L) (TPl x L) n 3 i dep c = r at *
  cases r with
  | error e =>
    rw [PR.at_er]
    exact WQ.re (w_readBoth5 (d := 0) hF (RX_err z2) _) (by omega) z2 f2
  | ok s =>
    rw [PR.at_ok]
    have z2 : RN x L o s.1 s.2 V2 A2 ∧ RB T m s.1 s.2 := z2
    have pk : RB T m s.1 s.2 ∧ i ≤ s.1 := pk
    exact (h14 s.1 dep s.2 m V2 A2 (D + 1) none hd (by omega) z2.1 z2.2 (by omega)).rz f2
set_option maxRecDepth 20000 in
theorem g_5 {G : gT} {S : sS} {P : sP} {B : sB} {Q : sP} {t sl o : Nat} (hF : MF S P o) {x : Nat → Int32} {L T n : Nat} (hT : TK x L T = 24) (h4 : GC G S P B Q t sl o x L T mX12_readBoth 0 (fun dep _ => [some (.ref o), some (.int (nI dep))]) 4 4 n) (h15 : GC G S P B Q t sl o x L T mX12_readTruth 5 (fun dep _ => [some (.ref o), some (.int (nI dep))]) 15 5 n) : GC G S P B Q t sl o x L T mX12_readTruth 0 (fun dep _ => [some (.ref o), some (.int (nI dep))]) 5 5 (n + 1) := by
  intro i dep c m V A D y hd hn hN hB hD
  have hB1 := hB.1
  have hm9 := hB.2.2
  have r4 : rkT 4 = 7 := rfl
  have r15 : rkT 15 = 8 := rfl
  have r5 : rkT 5 = 9 := rfl
  obtain ⟨D, rfl⟩ : ∃ D', D = D' + 1 := ⟨D - 1, by omega⟩
  rw [ps_5]
  refine WQ.st (fun _ _ kz => pw_aload0 dX12_readTruth_0 kz) ?_
  refine WQ.st (fun _ _ kz => pw_iload1 dX12_readTruth_1 kz) ?_
  refine wq_o1v wX12_readBoth lX12_187 rfl dX12_readTruth_2 hF.1 (h4 i dep c m V A D none hd (by omega) hN hB (by omega)) rfl (Nat.le_of_ble_eq_true rfl) (Nat.le_of_ble_eq_true rfl) (fun h2 z2 => ?_)
  obtain ⟨V2, A2, rfl, z2, f2⟩ := z2
  have pk := ps_ok (Vl := TV x L) (Pl := TPl x L) hT n 4 i dep c m (by omega) hB
  generalize hr : ps (TK x L) (TV x L) (TPl x L) n 4 i dep c = r at *
  cases r with
  | error e =>
    rw [PR.at_er]
    exact WQ.re (w_readTruth5 (d := 0) hF (RX_err z2) _) (by omega) z2 f2
  | ok s =>
    rw [PR.at_ok]
    have z2 : RN x L o s.1 s.2 V2 A2 ∧ RB T m s.1 s.2 := z2
    have pk : RB T m s.1 s.2 ∧ i ≤ s.1 := pk
    exact (h15 s.1 dep s.2 m V2 A2 (D + 1) none hd (by omega) z2.1 z2.2 (by omega)).rz f2
set_option maxRecDepth 20000 in
theorem g_11 {G : gT} {S : sS} {P : sP} {B : sB} {Q : sP} {t sl o : Nat} (hF : MF S P o) {x : Nat → Int32} {L T n : Nat} (hT : TK x L T = 24) (h0 : GC G S P B Q t sl o x L T mX12_readAtom 0 (fun dep _ => [some (.ref o), some (.int (nI dep))]) 0 0 n) (h11 : GC G S P B Q t sl o x L T mX12_readTerm 5 (fun dep _ => [some (.ref o), some (.int (nI dep))]) 11 1 n) : GC G S P B Q t sl o x L T mX12_readTerm 5 (fun dep _ => [some (.ref o), some (.int (nI dep))]) 11 1 (n + 1) := by
  intro i dep c m V A D y hd hn hN hB hD
  have hB1 := hB.1
  have hm9 := hB.2.2
  have r0 : rkT 0 = 0 := rfl
  have r11 : rkT 11 = 1 := rfl
  obtain ⟨D, rfl⟩ : ∃ D', D = D' + 1 := ⟨D - 1, by omega⟩
  rw [ps_11]
  refine WQ.st (fun _ _ kz => pw_aload0 dX12_readTerm_5 kz) ?_
  refine WQ.st (fun _ _ kz => pw_bipush (v := 34) dX12_readTerm_6 (by decide) kz) ?_
  refine wq_o1i wX12_eats lX12_172 rfl dX12_readTerm_8 hF.1 (c_eatsN hF hN (k := 34) rfl (by omega)) rfl (Nat.le_of_ble_eq_true rfl) (Nat.le_of_ble_eq_true rfl) (fun h8 z8 => ?_)
  obtain ⟨V1, A1, rfl, e1, e2, f1⟩ := z8
  refine WQ.br (fun _ _ ka kb => pw_if_eq (tgt := 29) dX12_readTerm_11 (by decide) ka kb) (fun c11 => ?_) (fun c11 => ?_)
  · rw [bI_0] at c11
    have c11 := of_decide_eq_false c11
    obtain ⟨rfl, rfl⟩ := e2 c11
    rw [if_neg c11]
    refine ⟨_, _, pw_vret dX12_readTerm_29 rfl rfl rfl, ?_⟩
    exact ⟨rfl, _, _, rfl, ⟨hN, hB⟩, FRM.rfl⟩
  · rw [bI_n] at c11
    have c11 := of_decide_eq_true c11
    have n1 := e1 c11
    obtain ⟨b1, b2⟩ := hB.eat hT c11 (by omega)
    have hiT := lt_T hT hB1 c11 (by omega)
    rw [if_pos c11]
    refine WQ.st (fun _ _ kz => pw_aload0 dX12_readTerm_14 kz) ?_
    refine WQ.st (fun _ _ kz => pw_iload1 dX12_readTerm_15 kz) ?_
    refine wq_o1v wX12_readAtom lX12_175 rfl dX12_readTerm_16 hF.1 (h0 (i + 1) dep c (m - 1) V1 A1 D none hd (by omega) n1 b1 (by omega)) rfl (Nat.le_of_ble_eq_true rfl) (Nat.le_of_ble_eq_true rfl) (fun h16 z16 => ?_)
    obtain ⟨V2, A2, rfl, z2, f2⟩ := z16
    have pk := ps_ok (Vl := TV x L) (Pl := TPl x L) hT n 0 (i + 1) dep c (m - 1) (by omega) b1
    generalize hr : ps (TK x L) (TV x L) (TPl x L) n 0 (i + 1) dep c = r at *
    cases r with
    | error e =>
      rw [PR.at_er]
      have hw := RX_err z2
      have z2 := RX_em (m' := m) z2
      refine WQ.st (fun _ _ kz => pw_aload0 dX12_readTerm_19 kz) ?_
      refine WQ.st (fun _ _ kz => pw_sipush (v := 3002) dX12_readTerm_20 (by decide) kz) ?_
      refine wq_o1v wX12_codes lX12_160 rfl dX12_readTerm_23 hF.1 (c_codesW hF hw _) rfl (Nat.le_of_ble_eq_true rfl) (Nat.le_of_ble_eq_true rfl) (fun h23 z23 => ?_)
      subst z23
      refine WQ.st (fun _ _ kz => pw_goto (tgt := 5) dX12_readTerm_26 (by decide) kz) ?_
      exact WQ.re (w_readTerm5 (d := 0) hF hw _) (by omega) z2 (f1.tr f2)
    | ok s =>
      rw [PR.at_ok]
      have z2 : RN x L o s.1 s.2 V2 A2 ∧ RB T (m - 1) s.1 s.2 := z2
      have pk : RB T (m - 1) s.1 s.2 ∧ i + 1 ≤ s.1 := pk
      refine WQ.st (fun _ _ kz => pw_aload0 dX12_readTerm_19 kz) ?_
      refine WQ.st (fun _ _ kz => pw_sipush (v := 3002) dX12_readTerm_20 (by decide) kz) ?_
      refine wq_o1v wX12_codes lX12_160 rfl dX12_readTerm_23 hF.1 (c_codesN hF z2.1 (by have := z2.2.2.1; omega) 3002) rfl (Nat.le_of_ble_eq_true rfl) (Nat.le_of_ble_eq_true rfl) (fun h23 z23 => ?_)
      obtain ⟨V3, A3, rfl, n3, f3⟩ := z23
      refine WQ.st (fun _ _ kz => pw_goto (tgt := 5) dX12_readTerm_26 (by decide) kz) ?_
      exact (h11 s.1 dep (s.2 ++ [3002]) m V3 A3 (D + 1) none hd (by omega) n3 (z2.2.say b2 hm9) (by omega)).rz ((f1.tr f2).tr f3)
set_option maxRecDepth 20000 in
theorem g_14 {G : gT} {S : sS} {P : sP} {B : sB} {Q : sP} {t sl o : Nat} (hF : MF S P o) {x : Nat → Int32} {L T n : Nat} (hT : TK x L T = 24) (h3 : GC G S P B Q t sl o x L T mX12_readUnit 0 (fun dep _ => [some (.ref o), some (.int (nI dep)), none]) 3 3 n) (h14 : GC G S P B Q t sl o x L T mX12_readBoth 5 (fun dep _ => [some (.ref o), some (.int (nI dep))]) 14 4 n) : GC G S P B Q t sl o x L T mX12_readBoth 5 (fun dep _ => [some (.ref o), some (.int (nI dep))]) 14 4 (n + 1) := by
  intro i dep c m V A D y hd hn hN hB hD
  have hB1 := hB.1
  have hm9 := hB.2.2
  have r3 : rkT 3 = 5 := rfl
  have r14 : rkT 14 = 6 := rfl
  obtain ⟨D, rfl⟩ : ∃ D', D = D' + 1 := ⟨D - 1, by omega⟩
  rw [ps_14]
  refine WQ.st (fun _ _ kz => pw_aload0 dX12_readBoth_5 kz) ?_
  refine WQ.st (fun _ _ kz => pw_bipush (v := 17) dX12_readBoth_6 (by decide) kz) ?_
  refine wq_o1i wX12_eats lX12_172 rfl dX12_readBoth_8 hF.1 (c_eatsN hF hN (k := 17) rfl (by omega)) rfl (Nat.le_of_ble_eq_true rfl) (Nat.le_of_ble_eq_true rfl) (fun h8 z8 => ?_)
  obtain ⟨V1, A1, rfl, e1, e2, f1⟩ := z8
  refine WQ.br (fun _ _ ka kb => pw_if_eq (tgt := 29) dX12_readBoth_11 (by decide) ka kb) (fun c11 => ?_) (fun c11 => ?_)
  · rw [bI_0] at c11
    have c11 := of_decide_eq_false c11
    obtain ⟨rfl, rfl⟩ := e2 c11
    rw [if_neg c11]
    refine ⟨_, _, pw_vret dX12_readBoth_29 rfl rfl rfl, ?_⟩
    exact ⟨rfl, _, _, rfl, ⟨hN, hB⟩, FRM.rfl⟩
  · rw [bI_n] at c11
    have c11 := of_decide_eq_true c11
    have n1 := e1 c11
    obtain ⟨b1, b2⟩ := hB.eat hT c11 (by omega)
    have hiT := lt_T hT hB1 c11 (by omega)
    rw [if_pos c11]
    refine WQ.st (fun _ _ kz => pw_aload0 dX12_readBoth_14 kz) ?_
    refine WQ.st (fun _ _ kz => pw_iload1 dX12_readBoth_15 kz) ?_
    refine wq_o1v wX12_readUnit lX12_181 rfl dX12_readBoth_16 hF.1 (h3 (i + 1) dep c (m - 1) V1 A1 D none hd (by omega) n1 b1 (by omega)) rfl (Nat.le_of_ble_eq_true rfl) (Nat.le_of_ble_eq_true rfl) (fun h16 z16 => ?_)
    obtain ⟨V2, A2, rfl, z2, f2⟩ := z16
    have pk := ps_ok (Vl := TV x L) (Pl := TPl x L) hT n 3 (i + 1) dep c (m - 1) (by omega) b1
    generalize hr : ps (TK x L) (TV x L) (TPl x L) n 3 (i + 1) dep c = r at *
    cases r with
    | error e =>
      rw [PR.at_er]
      have hw := RX_err z2
      have z2 := RX_em (m' := m) z2
      refine WQ.st (fun _ _ kz => pw_aload0 dX12_readBoth_19 kz) ?_
      refine WQ.st (fun _ _ kz => pw_sipush (v := 3007) dX12_readBoth_20 (by decide) kz) ?_
      refine wq_o1v wX12_codes lX12_160 rfl dX12_readBoth_23 hF.1 (c_codesW hF hw _) rfl (Nat.le_of_ble_eq_true rfl) (Nat.le_of_ble_eq_true rfl) (fun h23 z23 => ?_)
      subst z23
      refine WQ.st (fun _ _ kz => pw_goto (tgt := 5) dX12_readBoth_26 (by decide) kz) ?_
      exact WQ.re (w_readBoth5 (d := 0) hF hw _) (by omega) z2 (f1.tr f2)
    | ok s =>
      rw [PR.at_ok]
      have z2 : RN x L o s.1 s.2 V2 A2 ∧ RB T (m - 1) s.1 s.2 := z2
      have pk : RB T (m - 1) s.1 s.2 ∧ i + 1 ≤ s.1 := pk
      refine WQ.st (fun _ _ kz => pw_aload0 dX12_readBoth_19 kz) ?_
      refine WQ.st (fun _ _ kz => pw_sipush (v := 3007) dX12_readBoth_20 (by decide) kz) ?_
      refine wq_o1v wX12_codes lX12_160 rfl dX12_readBoth_23 hF.1 (c_codesN hF z2.1 (by have := z2.2.2.1; omega) 3007) rfl (Nat.le_of_ble_eq_true rfl) (Nat.le_of_ble_eq_true rfl) (fun h23 z23 => ?_)
      obtain ⟨V3, A3, rfl, n3, f3⟩ := z23
      refine WQ.st (fun _ _ kz => pw_goto (tgt := 5) dX12_readBoth_26 (by decide) kz) ?_
      exact (h14 s.1 dep (s.2 ++ [3007]) m V3 A3 (D + 1) none hd (by omega) n3 (z2.2.say b2 hm9) (by omega)).rz ((f1.tr f2).tr f3)
set_option maxRecDepth 20000 in
theorem g_15 {G : gT} {S : sS} {P : sP} {B : sB} {Q : sP} {t sl o : Nat} (hF : MF S P o) {x : Nat → Int32} {L T n : Nat} (hT : TK x L T = 24) (h4 : GC G S P B Q t sl o x L T mX12_readBoth 0 (fun dep _ => [some (.ref o), some (.int (nI dep))]) 4 4 n) (h15 : GC G S P B Q t sl o x L T mX12_readTruth 5 (fun dep _ => [some (.ref o), some (.int (nI dep))]) 15 5 n) : GC G S P B Q t sl o x L T mX12_readTruth 5 (fun dep _ => [some (.ref o), some (.int (nI dep))]) 15 5 (n + 1) := by
  intro i dep c m V A D y hd hn hN hB hD
  have hB1 := hB.1
  have hm9 := hB.2.2
  have r4 : rkT 4 = 7 := rfl
  have r15 : rkT 15 = 8 := rfl
  obtain ⟨D, rfl⟩ : ∃ D', D = D' + 1 := ⟨D - 1, by omega⟩
  rw [ps_15]
  refine WQ.st (fun _ _ kz => pw_aload0 dX12_readTruth_5 kz) ?_
  refine WQ.st (fun _ _ kz => pw_bipush (v := 18) dX12_readTruth_6 (by decide) kz) ?_
  refine wq_o1i wX12_eats lX12_172 rfl dX12_readTruth_8 hF.1 (c_eatsN hF hN (k := 18) rfl (by omega)) rfl (Nat.le_of_ble_eq_true rfl) (Nat.le_of_ble_eq_true rfl) (fun h8 z8 => ?_)
  obtain ⟨V1, A1, rfl, e1, e2, f1⟩ := z8
  refine WQ.br (fun _ _ ka kb => pw_if_eq (tgt := 29) dX12_readTruth_11 (by decide) ka kb) (fun c11 => ?_) (fun c11 => ?_)
  · rw [bI_0] at c11
    have c11 := of_decide_eq_false c11
    obtain ⟨rfl, rfl⟩ := e2 c11
    rw [if_neg c11]
    refine ⟨_, _, pw_vret dX12_readTruth_29 rfl rfl rfl, ?_⟩
    exact ⟨rfl, _, _, rfl, ⟨hN, hB⟩, FRM.rfl⟩
  · rw [bI_n] at c11
    have c11 := of_decide_eq_true c11
    have n1 := e1 c11
    obtain ⟨b1, b2⟩ := hB.eat hT c11 (by omega)
    have hiT := lt_T hT hB1 c11 (by omega)
    rw [if_pos c11]
    refine WQ.st (fun _ _ kz => pw_aload0 dX12_readTruth_14 kz) ?_
    refine WQ.st (fun _ _ kz => pw_iload1 dX12_readTruth_15 kz) ?_
    refine wq_o1v wX12_readBoth lX12_187 rfl dX12_readTruth_16 hF.1 (h4 (i + 1) dep c (m - 1) V1 A1 D none hd (by omega) n1 b1 (by omega)) rfl (Nat.le_of_ble_eq_true rfl) (Nat.le_of_ble_eq_true rfl) (fun h16 z16 => ?_)
    obtain ⟨V2, A2, rfl, z2, f2⟩ := z16
    have pk := ps_ok (Vl := TV x L) (Pl := TPl x L) hT n 4 (i + 1) dep c (m - 1) (by omega) b1
    generalize hr : ps (TK x L) (TV x L) (TPl x L) n 4 (i + 1) dep c = r at *
    cases r with
    | error e =>
      rw [PR.at_er]
      have hw := RX_err z2
      have z2 := RX_em (m' := m) z2
      refine WQ.st (fun _ _ kz => pw_aload0 dX12_readTruth_19 kz) ?_
      refine WQ.st (fun _ _ kz => pw_sipush (v := 3008) dX12_readTruth_20 (by decide) kz) ?_
      refine wq_o1v wX12_codes lX12_160 rfl dX12_readTruth_23 hF.1 (c_codesW hF hw _) rfl (Nat.le_of_ble_eq_true rfl) (Nat.le_of_ble_eq_true rfl) (fun h23 z23 => ?_)
      subst z23
      refine WQ.st (fun _ _ kz => pw_goto (tgt := 5) dX12_readTruth_26 (by decide) kz) ?_
      exact WQ.re (w_readTruth5 (d := 0) hF hw _) (by omega) z2 (f1.tr f2)
    | ok s =>
      rw [PR.at_ok]
      have z2 : RN x L o s.1 s.2 V2 A2 ∧ RB T (m - 1) s.1 s.2 := z2
      have pk : RB T (m - 1) s.1 s.2 ∧ i + 1 ≤ s.1 := pk
      refine WQ.st (fun _ _ kz => pw_aload0 dX12_readTruth_19 kz) ?_
      refine WQ.st (fun _ _ kz => pw_sipush (v := 3008) dX12_readTruth_20 (by decide) kz) ?_
      refine wq_o1v wX12_codes lX12_160 rfl dX12_readTruth_23 hF.1 (c_codesN hF z2.1 (by have := z2.2.2.1; omega) 3008) rfl (Nat.le_of_ble_eq_true rfl) (Nat.le_of_ble_eq_true rfl) (fun h23 z23 => ?_)
      obtain ⟨V3, A3, rfl, n3, f3⟩ := z23
      refine WQ.st (fun _ _ kz => pw_goto (tgt := 5) dX12_readTruth_26 (by decide) kz) ?_
      exact (h15 s.1 dep (s.2 ++ [3008]) m V3 A3 (D + 1) none hd (by omega) n3 (z2.2.say b2 hm9) (by omega)).rz ((f1.tr f2).tr f3)
