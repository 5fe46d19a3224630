set_option maxRecDepth 20000 in
theorem g_12 {G : gT} {S : sS} {P : sP} {B : sB} {Q : sP} {t sl o : Nat} (hF : MF S P o) {x : Nat → Int32} {L T n : Nat} (hT : TK x L T = 24) (h1 : GC G S P B Q t sl o x L T mX12_readTerm 0 (fun dep _ => [some (.ref o), some (.int (nI dep))]) 1 1 n) (h12 : GC G S P B Q t sl o x L T mX12_readSum 5 (fun dep y => [some (.ref o), some (.int (nI dep)), y]) 12 2 n) : GC G S P B Q t sl o x L T mX12_readSum 5 (fun dep y => [some (.ref o), some (.int (nI dep)), y]) 12 2 (n + 1) := by
  intro i dep c m V A D y hd hn hN hB hD
  have hB1 := hB.1
  have hm9 := hB.2.2
  have r1 : rkT 1 = 2 := rfl
  have r12 : rkT 12 = 3 := rfl
  obtain ⟨D, rfl⟩ : ∃ D', D = D' + 1 := ⟨D - 1, by omega⟩
  rw [ps_12]
  refine WQ.st (fun _ _ kz => pw_aload0 dX12_readSum_5 kz) ?_
  refine WQ.st (fun _ _ kz => pw_bipush (v := 32) dX12_readSum_6 (by decide) kz) ?_
  refine wq_o1i wX12_is lX12_142 rfl dX12_readSum_8 hF.1 (c_isN hF hN (k := 32) rfl) rfl (Nat.le_of_ble_eq_true rfl) (Nat.le_of_ble_eq_true rfl) (fun h8 z8 => ?_)
  subst z8
  refine WQ.bn (fun _ _ ka kb => pw_if_ne (tgt := 23) dX12_readSum_11 (by decide) ka kb) (fun c11 => ?_) (fun c11 => ?_)
  · rw [bI_n] at c11
    have c11 := of_decide_eq_true c11
    have hk : TK x L i = 32 ∨ TK x L i = 33 := Or.inl c11
    obtain ⟨b1, b2⟩ := hB.eat hT (k := TK x L i) rfl (by omega)
    have hiT := lt_T hT hB1 (k := TK x L i) rfl (by omega)
    rw [if_pos hk]
    refine WQ.st (fun _ _ kz => pw_aload0 dX12_readSum_23 kz) ?_
    refine WQ.st (fun _ _ kz => pw_geti gX12_118 dX12_readSum_24 hF.1 kz) ?_
    refine WQ.st (fun _ _ kz => pw_bipush (v := 32) dX12_readSum_27 (by decide) kz) ?_
    refine WQ.bn (fun _ _ ka kb => pw_icmp_ne (tgt := 38) dX12_readSum_29 (by decide) ka kb) (fun c29 => ?_) (fun c29 => ?_)
    · have c29 : ¬ TK x L i = 32 := fun q => c29 ((hN.k (k := 32) rfl).mpr q)
      have hv : (3001 : Int32) = (if TK x L i = 32 then 3000 else 3001) := by rw [if_neg c29]
      refine WQ.st (fun _ _ kz => pw_sipush (v := 3001) dX12_readSum_38 (by decide) kz) ?_
      refine WQ.st (fun _ _ kz => pw_istore2 dX12_readSum_41 (by decide) (k := kz)) ?_
      refine WQ.st (fun _ _ kz => pw_aload0 dX12_readSum_42 kz) ?_
      refine wq_o0v wX12_nextToken lX12_145 rfl dX12_readSum_43 hF.1 (c_ntN hF hN (by omega)) rfl (Nat.le_of_ble_eq_true rfl) (Nat.le_of_ble_eq_true rfl) (fun h43 z43 => ?_)
      obtain ⟨V1, A1, rfl, rfl, n1, f1⟩ := z43
      refine WQ.st (fun _ _ kz => pw_aload0 dX12_readSum_46 kz) ?_
      refine WQ.st (fun _ _ kz => pw_iload1 dX12_readSum_47 kz) ?_
      refine wq_o1v wX12_readTerm lX12_178 rfl dX12_readSum_48 hF.1 (h1 (i + 1) dep c (m - 1) V1 A D none hd (by omega) n1 b1 (by omega)) rfl (Nat.le_of_ble_eq_true rfl) (Nat.le_of_ble_eq_true rfl) (fun h48 z48 => ?_)
      obtain ⟨V2, A2, rfl, z2, f2⟩ := z48
      have pk := ps_ok (Vl := TV x L) (Pl := TPl x L) hT n 1 (i + 1) dep c (m - 1) (by omega) b1
      generalize hr : ps (TK x L) (TV x L) (TPl x L) n 1 (i + 1) dep c = r at *
      cases r with
      | error e =>
        rw [PR.at_er]
        have hw := RX_err z2
        have z2 := RX_em (m' := m) z2
        refine WQ.st (fun _ _ kz => pw_aload0 dX12_readSum_51 kz) ?_
        refine WQ.st (fun _ _ kz => pw_iload2 dX12_readSum_52 kz) ?_
        refine wq_o1v wX12_codes lX12_160 rfl dX12_readSum_53 hF.1 (c_codesW hF hw _) rfl (Nat.le_of_ble_eq_true rfl) (Nat.le_of_ble_eq_true rfl) (fun h53 z53 => ?_)
        subst z53
        refine WQ.st (fun _ _ kz => pw_goto (tgt := 5) dX12_readSum_56 (by decide) kz) ?_
        exact WQ.re (w_readSum5 (d := 0) hF hw _ _) (by omega) z2 (f1.tr f2)
      | ok s =>
        rw [PR.at_ok]
        have z2 : RN x L o s.1 s.2 V2 A2 ∧ RB T (m - 1) s.1 s.2 := z2
        have pk : RB T (m - 1) s.1 s.2 ∧ i + 1 ≤ s.1 := pk
        refine WQ.st (fun _ _ kz => pw_aload0 dX12_readSum_51 kz) ?_
        refine WQ.st (fun _ _ kz => pw_iload2 dX12_readSum_52 kz) ?_
        refine wq_o1v wX12_codes lX12_160 rfl dX12_readSum_53 hF.1 (c_codesN hF z2.1 (by have := z2.2.2.1; omega) _) rfl (Nat.le_of_ble_eq_true rfl) (Nat.le_of_ble_eq_true rfl) (fun h53 z53 => ?_)
        obtain ⟨V3, A3, rfl, n3, f3⟩ := z53
        refine WQ.st (fun _ _ kz => pw_goto (tgt := 5) dX12_readSum_56 (by decide) kz) ?_
        rw [hv] at n3
        exact (h12 s.1 dep _ m V3 A3 (D + 1) _ hd (by omega) n3 (z2.2.say b2 hm9) (by omega)).rz ((f1.tr f2).tr f3)
    · have c29 := (hN.k (k := 32) rfl).mp c29
      have hv : (3000 : Int32) = (if TK x L i = 32 then 3000 else 3001) := by rw [if_pos c29]
      refine WQ.st (fun _ _ kz => pw_sipush (v := 3000) dX12_readSum_32 (by decide) kz) ?_
      refine WQ.st (fun _ _ kz => pw_goto (tgt := 41) dX12_readSum_35 (by decide) kz) ?_
      refine WQ.st (fun _ _ kz => pw_istore2 dX12_readSum_41 (by decide) (k := kz)) ?_
      refine WQ.st (fun _ _ kz => pw_aload0 dX12_readSum_42 kz) ?_
      refine wq_o0v wX12_nextToken lX12_145 rfl dX12_readSum_43 hF.1 (c_ntN hF hN (by omega)) rfl (Nat.le_of_ble_eq_true rfl) (Nat.le_of_ble_eq_true rfl) (fun h43 z43 => ?_)
      obtain ⟨V1, A1, rfl, rfl, n1, f1⟩ := z43
      refine WQ.st (fun _ _ kz => pw_aload0 dX12_readSum_46 kz) ?_
      refine WQ.st (fun _ _ kz => pw_iload1 dX12_readSum_47 kz) ?_
      refine wq_o1v wX12_readTerm lX12_178 rfl dX12_readSum_48 hF.1 (h1 (i + 1) dep c (m - 1) V1 A D none hd (by omega) n1 b1 (by omega)) rfl (Nat.le_of_ble_eq_true rfl) (Nat.le_of_ble_eq_true rfl) (fun h48 z48 => ?_)
      obtain ⟨V2, A2, rfl, z2, f2⟩ := z48
      have pk := ps_ok (Vl := TV x L) (Pl := TPl x L) hT n 1 (i + 1) dep c (m - 1) (by omega) b1
      generalize hr : ps (TK x L) (TV x L) (TPl x L) n 1 (i + 1) dep c = r at *
      cases r with
      | error e =>
        rw [PR.at_er]
        have hw := RX_err z2
        have z2 := RX_em (m' := m) z2
        refine WQ.st (fun _ _ kz => pw_aload0 dX12_readSum_51 kz) ?_
        refine WQ.st (fun _ _ kz => pw_iload2 dX12_readSum_52 kz) ?_
        refine wq_o1v wX12_codes lX12_160 rfl dX12_readSum_53 hF.1 (c_codesW hF hw _) rfl (Nat.le_of_ble_eq_true rfl) (Nat.le_of_ble_eq_true rfl) (fun h53 z53 => ?_)
        subst z53
        refine WQ.st (fun _ _ kz => pw_goto (tgt := 5) dX12_readSum_56 (by decide) kz) ?_
        exact WQ.re (w_readSum5 (d := 0) hF hw _ _) (by omega) z2 (f1.tr f2)
      | ok s =>
        rw [PR.at_ok]
        have z2 : RN x L o s.1 s.2 V2 A2 ∧ RB T (m - 1) s.1 s.2 := z2
        have pk : RB T (m - 1) s.1 s.2 ∧ i + 1 ≤ s.1 := pk
        refine WQ.st (fun _ _ kz => pw_aload0 dX12_readSum_51 kz) ?_
        refine WQ.st (fun _ _ kz => pw_iload2 dX12_readSum_52 kz) ?_
        refine wq_o1v wX12_codes lX12_160 rfl dX12_readSum_53 hF.1 (c_codesN hF z2.1 (by have := z2.2.2.1; omega) _) rfl (Nat.le_of_ble_eq_true rfl) (Nat.le_of_ble_eq_true rfl) (fun h53 z53 => ?_)
        obtain ⟨V3, A3, rfl, n3, f3⟩ := z53
        refine WQ.st (fun _ _ kz => pw_goto (tgt := 5) dX12_readSum_56 (by decide) kz) ?_
        rw [hv] at n3
        exact (h12 s.1 dep _ m V3 A3 (D + 1) _ hd (by omega) n3 (z2.2.say b2 hm9) (by omega)).rz ((f1.tr f2).tr f3)
  · rw [bI_0] at c11
    have c11 := of_decide_eq_false c11
    refine WQ.st (fun _ _ kz => pw_aload0 dX12_readSum_14 kz) ?_
    refine WQ.st (fun _ _ kz => pw_bipush (v := 33) dX12_readSum_15 (by decide) kz) ?_
    refine wq_o1i wX12_is lX12_142 rfl dX12_readSum_17 hF.1 (c_isN hF hN (k := 33) rfl) rfl (Nat.le_of_ble_eq_true rfl) (Nat.le_of_ble_eq_true rfl) (fun h17 z17 => ?_)
    subst z17
    refine WQ.br (fun _ _ ka kb => pw_if_eq (tgt := 59) dX12_readSum_20 (by decide) ka kb) (fun c20 => ?_) (fun c20 => ?_)
    · rw [bI_0] at c20
      have c20 := of_decide_eq_false c20
      rw [if_neg (fun q => q.elim c11 c20)]
      refine ⟨_, _, pw_vret dX12_readSum_59 rfl rfl rfl, ?_⟩
      exact ⟨rfl, _, _, rfl, ⟨hN, hB⟩, FRM.rfl⟩
    · rw [bI_n] at c20
      have c20 := of_decide_eq_true c20
      have hk : TK x L i = 32 ∨ TK x L i = 33 := Or.inr c20
      obtain ⟨b1, b2⟩ := hB.eat hT (k := TK x L i) rfl (by omega)
      have hiT := lt_T hT hB1 (k := TK x L i) rfl (by omega)
      rw [if_pos hk]
      refine WQ.st (fun _ _ kz => pw_aload0 dX12_readSum_23 kz) ?_
      refine WQ.st (fun _ _ kz => pw_geti gX12_118 dX12_readSum_24 hF.1 kz) ?_
      refine WQ.st (fun _ _ kz => pw_bipush (v := 32) dX12_readSum_27 (by decide) kz) ?_
      refine WQ.bn (fun _ _ ka kb => pw_icmp_ne (tgt := 38) dX12_readSum_29 (by decide) ka kb) (fun c29 => ?_) (fun c29 => ?_)
      · have c29 : ¬ TK x L i = 32 := fun q => c29 ((hN.k (k := 32) rfl).mpr q)
        have hv : (3001 : Int32) = (if TK x L i = 32 then 3000 else 3001) := by rw [if_neg c29]
        refine WQ.st (fun _ _ kz => pw_sipush (v := 3001) dX12_readSum_38 (by decide) kz) ?_
        refine WQ.st (fun _ _ kz => pw_istore2 dX12_readSum_41 (by decide) (k := kz)) ?_
        refine WQ.st (fun _ _ kz => pw_aload0 dX12_readSum_42 kz) ?_
        refine wq_o0v wX12_nextToken lX12_145 rfl dX12_readSum_43 hF.1 (c_ntN hF hN (by omega)) rfl (Nat.le_of_ble_eq_true rfl) (Nat.le_of_ble_eq_true rfl) (fun h43 z43 => ?_)
        obtain ⟨V1, A1, rfl, rfl, n1, f1⟩ := z43
        refine WQ.st (fun _ _ kz => pw_aload0 dX12_readSum_46 kz) ?_
        refine WQ.st (fun _ _ kz => pw_iload1 dX12_readSum_47 kz) ?_
        refine wq_o1v wX12_readTerm lX12_178 rfl dX12_readSum_48 hF.1 (h1 (i + 1) dep c (m - 1) V1 A D none hd (by omega) n1 b1 (by omega)) rfl (Nat.le_of_ble_eq_true rfl) (Nat.le_of_ble_eq_true rfl) (fun h48 z48 => ?_)
        obtain ⟨V2, A2, rfl, z2, f2⟩ := z48
        have pk := ps_ok (Vl := TV x L) (Pl := TPl x L) hT n 1 (i + 1) dep c (m - 1) (by omega) b1
        generalize hr : ps (TK x L) (TV x L) (TPl x L) n 1 (i + 1) dep c = r at *
        cases r with
        | error e =>
          rw [PR.at_er]
          have hw := RX_err z2
          have z2 := RX_em (m' := m) z2
          refine WQ.st (fun _ _ kz => pw_aload0 dX12_readSum_51 kz) ?_
          refine WQ.st (fun _ _ kz => pw_iload2 dX12_readSum_52 kz) ?_
          refine wq_o1v wX12_codes lX12_160 rfl dX12_readSum_53 hF.1 (c_codesW hF hw _) rfl (Nat.le_of_ble_eq_true rfl) (Nat.le_of_ble_eq_true rfl) (fun h53 z53 => ?_)
          subst z53
          refine WQ.st (fun _ _ kz => pw_goto (tgt := 5) dX12_readSum_56 (by decide) kz) ?_
          exact WQ.re (w_readSum5 (d := 0) hF hw _ _) (by omega) z2 (f1.tr f2)
        | ok s =>
          rw [PR.at_ok]
          have z2 : RN x L o s.1 s.2 V2 A2 ∧ RB T (m - 1) s.1 s.2 := z2
          have pk : RB T (m - 1) s.1 s.2 ∧ i + 1 ≤ s.1 := pk
          refine WQ.st (fun _ _ kz => pw_aload0 dX12_readSum_51 kz) ?_
          refine WQ.st (fun _ _ kz => pw_iload2 dX12_readSum_52 kz) ?_
          refine wq_o1v wX12_codes lX12_160 rfl dX12_readSum_53 hF.1 (c_codesN hF z2.1 (by have := z2.2.2.1; omega) _) rfl (Nat.le_of_ble_eq_true rfl) (Nat.le_of_ble_eq_true rfl) (fun h53 z53 => ?_)
          obtain ⟨V3, A3, rfl, n3, f3⟩ := z53
          refine WQ.st (fun _ _ kz => pw_goto (tgt := 5) dX12_readSum_56 (by decide) kz) ?_
          rw [hv] at n3
          exact (h12 s.1 dep _ m V3 A3 (D + 1) _ hd (by omega) n3 (z2.2.say b2 hm9) (by omega)).rz ((f1.tr f2).tr f3)
      · have c29 := (hN.k (k := 32) rfl).mp c29
        have hv : (3000 : Int32) = (if TK x L i = 32 then 3000 else 3001) := by rw [if_pos c29]
        refine WQ.st (fun _ _ kz => pw_sipush (v := 3000) dX12_readSum_32 (by decide) kz) ?_
        refine WQ.st (fun _ _ kz => pw_goto (tgt := 41) dX12_readSum_35 (by decide) kz) ?_
        refine WQ.st (fun _ _ kz => pw_istore2 dX12_readSum_41 (by decide) (k := kz)) ?_
        refine WQ.st (fun _ _ kz => pw_aload0 dX12_readSum_42 kz) ?_
        refine wq_o0v wX12_nextToken lX12_145 rfl dX12_readSum_43 hF.1 (c_ntN hF hN (by omega)) rfl (Nat.le_of_ble_eq_true rfl) (Nat.le_of_ble_eq_true rfl) (fun h43 z43 => ?_)
        obtain ⟨V1, A1, rfl, rfl, n1, f1⟩ := z43
        refine WQ.st (fun _ _ kz => pw_aload0 dX12_readSum_46 kz) ?_
        refine WQ.st (fun _ _ kz => pw_iload1 dX12_readSum_47 kz) ?_
        refine wq_o1v wX12_readTerm lX12_178 rfl dX12_readSum_48 hF.1 (h1 (i + 1) dep c (m - 1) V1 A D none hd (by omega) n1 b1 (by omega)) rfl (Nat.le_of_ble_eq_true rfl) (Nat.le_of_ble_eq_true rfl) (fun h48 z48 => ?_)
        obtain ⟨V2, A2, rfl, z2, f2⟩ := z48
        have pk := ps_ok (Vl := TV x L) (Pl := TPl x L) hT n 1 (i + 1) dep c (m - 1) (by omega) b1
        generalize hr : ps (TK x L) (TV x L) (TPl x L) n 1 (i + 1) dep c = r at *
        cases r with
        | error e =>
          rw [PR.at_er]
          have hw := RX_err z2
          have z2 := RX_em (m' := m) z2
          refine WQ.st (fun _ _ kz => pw_aload0 dX12_readSum_51 kz) ?_
          refine WQ.st (fun _ _ kz => pw_iload2 dX12_readSum_52 kz) ?_
          refine wq_o1v wX12_codes lX12_160 rfl dX12_readSum_53 hF.1 (c_codesW hF hw _) rfl (Nat.le_of_ble_eq_true rfl) (Nat.le_of_ble_eq_true rfl) (fun h53 z53 => ?_)
          subst z53
          refine WQ.st (fun _ _ kz => pw_goto (tgt := 5) dX12_readSum_56 (by decide) kz) ?_
          exact WQ.re (w_readSum5 (d := 0) hF hw _ _) (by omega) z2 (f1.tr f2)
        | ok s =>
          rw [PR.at_ok]
          have z2 : RN x L o s.1 s.2 V2 A2 ∧ RB T (m - 1) s.1 s.2 := z2
          have pk : RB T (m - 1) s.1 s.2 ∧ i + 1 ≤ s.1 := pk
          refine WQ.st (fun _ _ kz => pw_aload0 dX12_readSum_51 kz) ?_
          refine WQ.st (fun _ _ kz => pw_iload2 dX12_readSum_52 kz) ?_
          refine wq_o1v wX12_codes lX12_160 rfl dX12_readSum_53 hF.1 (c_codesN hF z2.1 (by have := z2.2.2.1; omega) _) rfl (Nat.le_of_ble_eq_true rfl) (Nat.le_of_ble_eq_true rfl) (fun h53 z53 => ?_)
          obtain ⟨V3, A3, rfl, n3, f3⟩ := z53
          refine WQ.st (fun _ _ kz => pw_goto (tgt := 5) dX12_readSum_56 (by decide) kz) ?_
          rw [hv] at n3
          exact (h12 s.1 dep _ m V3 A3 (D + 1) _ hd (by omega) n3 (z2.2.say b2 hm9) (by omega)).rz ((f1.tr f2).tr f3)
set_option maxRecDepth 20000 in
theorem g_0 {G : gT} {S : sS} {P : sP} {B : sB} {Q : sP} {t sl o : Nat} (hF : MF S P o) {x : Nat → Int32} {L T n : Nat} (hT : TK x L T = 24) (h2 : GC G S P B Q t sl o x L T mX12_readSum 0 (fun dep _ => [some (.ref o), some (.int (nI dep)), none]) 2 2 n) : GC G S P B Q t sl o x L T mX12_readAtom 0 (fun dep _ => [some (.ref o), some (.int (nI dep))]) 0 0 (n + 1) := by
  intro i dep c m V A D y hd hn hN hB hD
  have hB1 := hB.1
  have hm9 := hB.2.2
  have r0 : rkT 0 = 0 := rfl
  have r2 : rkT 2 = 4 := rfl
  obtain ⟨D, rfl⟩ : ∃ D', D = D' + 1 := ⟨D - 1, by omega⟩
  rw [ps_0]
  refine WQ.st (fun _ _ kz => pw_aload0 dX12_readAtom_0 kz) ?_
  refine WQ.st (fun _ _ kz => pw_bipush (v := 23) dX12_readAtom_1 (by decide) kz) ?_
  refine wq_o1i wX12_is lX12_142 rfl dX12_readAtom_3 hF.1 (c_isN hF hN (k := 23) rfl) rfl (Nat.le_of_ble_eq_true rfl) (Nat.le_of_ble_eq_true rfl) (fun h3 z3 => ?_)
  subst z3
  refine WQ.br (fun _ _ ka kb => pw_if_eq (tgt := 24) dX12_readAtom_6 (by decide) ka kb) (fun c6 => ?_) (fun c6 => ?_)
  · rw [bI_0] at c6
    have c6 := of_decide_eq_false c6
    rw [if_neg c6]
    refine WQ.st (fun _ _ kz => pw_aload0 dX12_readAtom_24 kz) ?_
    refine WQ.st (fun _ _ kz => pw_geti gX12_136 dX12_readAtom_25 hF.1 kz) ?_
    refine WQ.bn (fun _ _ ka kb => pw_if_ne (tgt := 66) dX12_readAtom_28 (by decide) ka kb) (fun c28 => absurd hN.w0 c28) (fun c28 => ?_)
    refine WQ.st (fun _ _ kz => pw_aload0 dX12_readAtom_31 kz) ?_
    refine WQ.st (fun _ _ kz => pw_aload0 dX12_readAtom_32 kz) ?_
    refine WQ.st (fun _ _ kz => pw_geti gX12_118 dX12_readAtom_33 hF.1 kz) ?_
    rw [hN.kd]
    refine wq_o1i wX12_wordOf lX12_163 rfl dX12_readAtom_36 hF.1 ((c_wordOf (d := 0) (TK_lt x L i)).mn (by omega)) rfl (Nat.le_of_ble_eq_true rfl) (Nat.le_of_ble_eq_true rfl) (fun h36 z36 => ?_)
    subst z36
    refine WQ.st (fun _ _ kz => pw_iconst (v := -1) dX12_readAtom_39 (by decide) kz) ?_
    refine WQ.br (fun _ _ ka kb => pw_icmp_eq (tgt := 66) dX12_readAtom_40 (by decide) ka kb) (fun c40 => ?_) (fun c40 => ?_)
    · rw [if_neg (fun q => q c40)]
      refine WQ.st (fun _ _ kz => pw_aload0 dX12_readAtom_66 kz) ?_
      refine WQ.st (fun _ _ kz => pw_bipush (v := 35) dX12_readAtom_67 (by decide) kz) ?_
      refine wq_o1i wX12_is lX12_142 rfl dX12_readAtom_69 hF.1 (c_isN hF hN (k := 35) rfl) rfl (Nat.le_of_ble_eq_true rfl) (Nat.le_of_ble_eq_true rfl) (fun h69 z69 => ?_)
      subst z69
      refine WQ.br (fun _ _ ka kb => pw_if_eq (tgt := 108) dX12_readAtom_72 (by decide) ka kb) (fun c72 => ?_) (fun c72 => ?_)
      · rw [bI_0] at c72
        have c72 := of_decide_eq_false c72
        rw [if_neg c72]
        refine WQ.st (fun _ _ kz => pw_aload0 dX12_readAtom_108 kz) ?_
        refine WQ.st (fun _ _ kz => pw_iconst (v := 2) dX12_readAtom_109 (by decide) kz) ?_
        refine wq_o1v wX12_fails lX12_148 rfl dX12_readAtom_110 hF.1 (c_failsN (T := T) (m := m) hF hN (by decide)) rfl (Nat.le_of_ble_eq_true rfl) (Nat.le_of_ble_eq_true rfl) (fun h110 z110 => ?_)
        obtain ⟨V1, A1, rfl, z1, f1, _⟩ := z110
        refine ⟨_, _, pw_vret dX12_readAtom_113 rfl rfl rfl, ?_⟩
        exact ⟨rfl, _, _, rfl, z1, f1⟩
      · rw [bI_n] at c72
        have c72 := of_decide_eq_true c72
        rw [if_pos c72]
        obtain ⟨b1, b2⟩ := hB.eat hT c72 (by omega)
        have hiT := lt_T hT hB1 c72 (by omega)
        refine WQ.st (fun _ _ kz => pw_aload0 dX12_readAtom_75 kz) ?_
        refine WQ.st (fun _ _ kz => pw_iload1 dX12_readAtom_76 kz) ?_
        refine wq_o1i wX12_goesIn lX12_166 rfl dX12_readAtom_77 hF.1 (c_goesInN (m := m - 1) hF hN hd b1 (by omega)) rfl (Nat.le_of_ble_eq_true rfl) (Nat.le_of_ble_eq_true rfl) (fun h77 z77 => ?_)
        obtain ⟨V1, A1, rfl, z1, f1⟩ := z77
        refine WQ.bn (fun _ _ ka kb => pw_if_ne (tgt := 84) dX12_readAtom_80 (by decide) ka kb) (fun c80 => ?_) (fun c80 => ?_)
        · rw [bI_n] at c80
          have c80 := of_decide_eq_true c80
          rw [if_neg c80] at z1 ⊢
          have z1 : RN x L o (i + 1) c V1 A1 ∧ RB T (m - 1) (i + 1) c := z1
          refine WQ.st (fun _ _ kz => pw_aload0 dX12_readAtom_84 kz) ?_
          refine WQ.st (fun _ _ kz => pw_iload1 dX12_readAtom_85 kz) ?_
          refine WQ.st (fun _ _ kz => pw_iconst (v := 1) dX12_readAtom_86 (by decide) kz) ?_
          refine WQ.st (fun _ _ kz => pw_iadd dX12_readAtom_87 kz) ?_
          rw [nI_1]
          refine wq_o1v wX12_readSum lX12_169 rfl dX12_readAtom_88 hF.1 (h2 (i + 1) (dep + 1) c (m - 1) V1 A1 D none (by omega) (by omega) z1.1 z1.2 (by omega)) rfl (Nat.le_of_ble_eq_true rfl) (Nat.le_of_ble_eq_true rfl) (fun h88 z88 => ?_)
          obtain ⟨V2, A2, rfl, z2, f2⟩ := z88
          have pk := True.intro
          generalize hr : ps (TK x L) (TV x L) (TPl x L) n 2 (i + 1) (dep + 1) c = r at *
          cases r with
          | error e =>
            rw [PR.at_er]
            have hw := RX_err z2
            have z2 := RX_em (m' := m) z2
            refine WQ.st (fun _ _ kz => pw_aload0 dX12_readAtom_91 kz) ?_
            refine WQ.st (fun _ _ kz => pw_bipush (v := 36) dX12_readAtom_92 (by decide) kz) ?_
            refine wq_o1i wX12_eats lX12_172 rfl dX12_readAtom_94 hF.1 ((c_eatsW (d := 0) hF hw _).mn (by omega)) rfl (Nat.le_of_ble_eq_true rfl) (Nat.le_of_ble_eq_true rfl) (fun h94 z94 => ?_)
            subst z94
            refine WQ.bn (fun _ _ ka kb => pw_if_ne (tgt := 113) dX12_readAtom_97 (by decide) ka kb) (fun c97 => absurd (by decide) c97) (fun c97 => ?_)
            refine WQ.st (fun _ _ kz => pw_aload0 dX12_readAtom_100 kz) ?_
            refine WQ.st (fun _ _ kz => pw_iconst (v := 2) dX12_readAtom_101 (by decide) kz) ?_
            refine wq_o1v wX12_fails lX12_148 rfl dX12_readAtom_102 hF.1 (c_failsW hF hw _) rfl (Nat.le_of_ble_eq_true rfl) (Nat.le_of_ble_eq_true rfl) (fun h102 z102 => ?_)
            subst z102
            refine WQ.st (fun _ _ kz => pw_goto (tgt := 113) dX12_readAtom_105 (by decide) kz) ?_
            refine ⟨_, _, pw_vret dX12_readAtom_113 rfl rfl rfl, ?_⟩
            exact ⟨rfl, _, _, rfl, z2, f1.tr f2⟩
          | ok s =>
            rw [PR.at_ok]
            have z2 : RN x L o s.1 s.2 V2 A2 ∧ RB T (m - 1) s.1 s.2 := z2
            refine WQ.st (fun _ _ kz => pw_aload0 dX12_readAtom_91 kz) ?_
            refine WQ.st (fun _ _ kz => pw_bipush (v := 36) dX12_readAtom_92 (by decide) kz) ?_
            refine wq_o1i wX12_eats lX12_172 rfl dX12_readAtom_94 hF.1 (c_eatsN hF z2.1 (k := 36) rfl (by omega)) rfl (Nat.le_of_ble_eq_true rfl) (Nat.le_of_ble_eq_true rfl) (fun h94 z94 => ?_)
            obtain ⟨V3, A3, rfl, e1, e2, f3⟩ := z94
            refine WQ.bn (fun _ _ ka kb => pw_if_ne (tgt := 113) dX12_readAtom_97 (by decide) ka kb) (fun c97 => ?_) (fun c97 => ?_)
            · rw [bI_n] at c97
              have c97 := of_decide_eq_true c97
              have n3 := e1 c97
              obtain ⟨b3, _⟩ := z2.2.eat hT c97 (by omega)
              rw [if_pos c97]
              refine ⟨_, _, pw_vret dX12_readAtom_113 rfl rfl rfl, ?_⟩
              exact ⟨rfl, _, _, rfl, ⟨n3, ⟨b3.1, by have := b3.2.1; show s.2.length + (T - (s.1 + 1)) ≤ m; omega, hm9⟩⟩, (f1.tr f2).tr f3⟩
            · rw [bI_0] at c97
              have c97 := of_decide_eq_false c97
              obtain ⟨rfl, rfl⟩ := e2 c97
              rw [if_neg c97]
              refine WQ.st (fun _ _ kz => pw_aload0 dX12_readAtom_100 kz) ?_
              refine WQ.st (fun _ _ kz => pw_iconst (v := 2) dX12_readAtom_101 (by decide) kz) ?_
              refine wq_o1v wX12_fails lX12_148 rfl dX12_readAtom_102 hF.1 (c_failsN (T := T) (m := m) hF z2.1 (by decide)) rfl (Nat.le_of_ble_eq_true rfl) (Nat.le_of_ble_eq_true rfl) (fun h102 z102 => ?_)
              obtain ⟨V4, A4, rfl, z4, f4, _⟩ := z102
              refine WQ.st (fun _ _ kz => pw_goto (tgt := 113) dX12_readAtom_105 (by decide) kz) ?_
              refine ⟨_, _, pw_vret dX12_readAtom_113 rfl rfl rfl, ?_⟩
              exact ⟨rfl, _, _, rfl, z4, (f1.tr f2).tr f4⟩
        · rw [bI_0] at c80
          have c80 : dep = 6 := Decidable.byContradiction (fun q => of_decide_eq_false c80 q)
          rw [if_pos c80] at z1 ⊢
          unfold badT at z1
          rw [if_neg (by omega)] at z1
          refine ⟨_, _, pw_vret dX12_readAtom_83 rfl rfl rfl, ?_⟩
          exact ⟨rfl, _, _, rfl, RX_em z1, f1⟩
    · rw [if_pos c40]
      obtain ⟨b1, b2⟩ := hB.eat hT (k := TK x L i) rfl (fun q => c40 (by rw [q]; rfl))
      refine WQ.st (fun _ _ kz => pw_aload0 dX12_readAtom_43 kz) ?_
      refine WQ.st (fun _ _ kz => pw_sipush (v := 1000) dX12_readAtom_44 (by decide) kz) ?_
      refine WQ.st (fun _ _ kz => pw_aload0 dX12_readAtom_47 kz) ?_
      refine WQ.st (fun _ _ kz => pw_aload0 dX12_readAtom_48 kz) ?_
      refine WQ.st (fun _ _ kz => pw_geti gX12_118 dX12_readAtom_49 hF.1 kz) ?_
      rw [hN.kd]
      refine wq_o1i wX12_wordOf lX12_163 rfl dX12_readAtom_52 hF.1 ((c_wordOf (d := 0) (TK_lt x L i)).mn (by omega)) rfl (Nat.le_of_ble_eq_true rfl) (Nat.le_of_ble_eq_true rfl) (fun h52 z52 => ?_)
      subst z52
      refine WQ.st (fun _ _ kz => pw_iadd dX12_readAtom_55 kz) ?_
      refine wq_o1v wX12_codes lX12_160 rfl dX12_readAtom_56 hF.1 (c_codesN hF hN (by have := b1.2.1; omega) _) rfl (Nat.le_of_ble_eq_true rfl) (Nat.le_of_ble_eq_true rfl) (fun h56 z56 => ?_)
      obtain ⟨V1, A1, rfl, n1, f1⟩ := z56
      refine WQ.st (fun _ _ kz => pw_aload0 dX12_readAtom_59 kz) ?_
      refine wq_o0v wX12_nextToken lX12_145 rfl dX12_readAtom_60 hF.1 (c_ntN hF n1 (by omega)) rfl (Nat.le_of_ble_eq_true rfl) (Nat.le_of_ble_eq_true rfl) (fun h60 z60 => ?_)
      obtain ⟨V2, A2, rfl, rfl, n2, f2⟩ := z60
      refine WQ.st (fun _ _ kz => pw_goto (tgt := 113) dX12_readAtom_63 (by decide) kz) ?_
      refine ⟨_, _, pw_vret dX12_readAtom_113 rfl rfl rfl, ?_⟩
      exact ⟨rfl, _, _, rfl, ⟨n2, b1.say b2 hm9⟩, f1.tr f2⟩
  · rw [bI_n] at c6
    have c6 := of_decide_eq_true c6
    rw [if_pos c6]
    obtain ⟨b1, b2⟩ := hB.eat hT c6 (by omega)
    refine WQ.st (fun _ _ kz => pw_aload0 dX12_readAtom_9 kz) ?_
    refine WQ.st (fun _ _ kz => pw_aload0 dX12_readAtom_10 kz) ?_
    refine WQ.st (fun _ _ kz => pw_geti gX12_131 dX12_readAtom_11 hF.1 kz) ?_
    rw [hN.nu c6]
    refine wq_o1v wX12_codes lX12_160 rfl dX12_readAtom_14 hF.1 (c_codesN hF hN (by have := b1.2.1; omega) _) rfl (Nat.le_of_ble_eq_true rfl) (Nat.le_of_ble_eq_true rfl) (fun h14 z14 => ?_)
    obtain ⟨V1, A1, rfl, n1, f1⟩ := z14
    refine WQ.st (fun _ _ kz => pw_aload0 dX12_readAtom_17 kz) ?_
    refine wq_o0v wX12_nextToken lX12_145 rfl dX12_readAtom_18 hF.1 (c_ntN hF n1 (by omega)) rfl (Nat.le_of_ble_eq_true rfl) (Nat.le_of_ble_eq_true rfl) (fun h18 z18 => ?_)
    obtain ⟨V2, A2, rfl, rfl, n2, f2⟩ := z18
    refine WQ.st (fun _ _ kz => pw_goto (tgt := 113) dX12_readAtom_21 (by decide) kz) ?_
    refine ⟨_, _, pw_vret dX12_readAtom_113 rfl rfl rfl, ?_⟩
    exact ⟨rfl, _, _, rfl, ⟨n2, b1.say b2 hm9⟩, f1.tr f2⟩
