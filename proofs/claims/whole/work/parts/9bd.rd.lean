set_option maxRecDepth 20000 in
theorem kc_seq {G : gT} {S : sS} {P : sP} {B : sB} {Q : sP} {t sl a : Nat} (hC : CF S P) (hL : LA S P a) (hp10 : P 10 10 = some a) (ha : 20 ≤ a) {x : Nat → Int32} {L T n : Nat} (hT : TK x L T = 24) {lv ntP ntC ntL off : Nat} (eC : ∀ i dep c, ps (TK x L) (TV x L) (TPl x L) (n + 1) ntC i dep c = (ps (TK x L) (TV x L) (TPl x L) n ntP i dep c).andThen (fun j c' => ps (TK x L) (TV x L) (TPl x L) n ntL j dep c')) (r1 : rkT ntP < rkT ntC) (r2 : rkT ntL < rkT ntC) (hP : HC G S P B Q t sl a x L T mX6_readPart (fun dep => [some (.ref 10), some (.int (nI lv)), some (.int (nI dep))]) ntP off n) (hl : HL G S P B Q t sl a x L T lv ntL (off + 1) n) : HC G S P B Q t sl a x L T mX6_readChain (fun dep => [some (.ref 10), some (.int (nI lv)), some (.int (nI dep)), none, none]) ntC (off + 1) (n + 1) := by
  intro i dep pre d m V A D hd hn hN hW hB hD
  have hB1 := hB.1
  have hm9 := hB.2.2
  have hiT := hN.le
  have ht9 := hN.t9
  obtain ⟨D, rfl⟩ : ∃ D', D = D' + 1 := ⟨D - 1, by omega⟩
  rw [eC]
  refine WQ.st (fun _ _ kz => pw_aload0 dX6_readChain_0 kz) ?_
  refine WQ.st (fun _ _ kz => pw_iload1 dX6_readChain_1 kz) ?_
  refine WQ.st (fun _ _ kz => pw_iload2 dX6_readChain_2 kz) ?_
  refine wq_o2i wX6_readPart lX6_174 rfl dX6_readChain_3 (cf_s10 hC) (hP i dep pre d m V A D hd (by omega) hN hW hB (by omega)) rfl (Nat.le_of_ble_eq_true rfl) (Nat.le_of_ble_eq_true rfl) (fun h3 z3 => ?_)
  obtain ⟨V2, A2, rfl, z2, f2⟩ := z3
  have pk := ps_ok (Vl := TV x L) (Pl := TPl x L) hT n ntP i dep (pre ++ d) m (by omega) hB
  generalize hr : ps (TK x L) (TV x L) (TPl x L) n ntP i dep (pre ++ d) = r at *
  cases r with
  | error e =>
    rw [PR.at_er]
    refine WQ.bn (fun _ _ ka kb => pw_if_ne (tgt := 11) dX6_readChain_6 (by decide) ka kb) (fun c6 => absurd okB_e c6) (fun c6 => ?_)
    refine WQ.st (fun _ _ kz => pw_iconst (v := 0) dX6_readChain_9 (by decide) kz) ?_
    refine ⟨_, _, pw_iret dX6_readChain_10 rfl rfl rfl rfl, ?_⟩
    exact ⟨rfl, V2, A2, rfl, z2, f2⟩
  | ok s =>
    refine WQ.bn (fun _ _ ka kb => pw_if_ne (tgt := 11) dX6_readChain_6 (by decide) ka kb) (fun c6 => ?_) (fun c6 => absurd c6 okB_k)
    refine WQ.st (fun _ _ kz => pw_iconst (v := 0) dX6_readChain_11 (by decide) kz) ?_
    refine WQ.st (fun _ _ kz => pw_istore3 dX6_readChain_12 (by decide) (k := kz)) ?_
    obtain ⟨n2, d2, e2, w2⟩ := z2
    have pk : RB T m s.1 s.2 ∧ i ≤ s.1 := pk
    rw [PR.at_ok, e2]
    exact (hl s.1 dep 0 pre d2 m V2 A2 (D + 1) none hd (by omega) (by omega) n2 w2 (by rw [← e2]; exact pk.1) (by omega)).kz f2
set_option maxRecDepth 20000 in
theorem kc_loop {G : gT} {S : sS} {P : sP} {B : sB} {Q : sP} {t sl a : Nat} (hC : CF S P) (hL : LA S P a) (hp10 : P 10 10 = some a) (ha : 20 ≤ a) {x : Nat → Int32} {L T n : Nat} (hT : TK x L T = 24) {lv ntP ntL off : Nat} (hlv : lv < 4) (eL : ∀ i dep c, ps (TK x L) (TV x L) (TPl x L) (n + 1) ntL i dep c = if jkF lv (TK x L i) = true then (ps (TK x L) (TV x L) (TPl x L) n ntP (i + 1) dep c).andThen (fun j c' => ps (TK x L) (TV x L) (TPl x L) n ntL j dep (c' ++ [jcF (TK x L i)])) else .ok (i, c)) (hP : HC G S P B Q t sl a x L T mX6_readPart (fun dep => [some (.ref 10), some (.int (nI lv)), some (.int (nI dep))]) ntP off n) (hl : HL G S P B Q t sl a x L T lv ntL (off + 1) n) : HL G S P B Q t sl a x L T lv ntL (off + 1) (n + 1) := by
  intro i dep k pre d m V A D y hd hn hk hN hW hB hD
  have hB1 := hB.1
  have hm9 := hB.2.2
  have hiT := hN.le
  have ht9 := hN.t9
  obtain ⟨D, rfl⟩ : ∃ D', D = D' + 1 := ⟨D - 1, by omega⟩
  rw [eL]
  refine WQ.st (fun _ _ kz => pw_iload3 dX6_readChain_13 kz) ?_
  refine WQ.st (fun _ _ kz => pw_sipush (v := 900) dX6_readChain_14 (by decide) kz) ?_
  refine WQ.br (fun _ _ ka kb => pw_icmp_ge (tgt := 77) dX6_readChain_17 (by decide) ka kb) (fun c17 => ?_) (fun c17 => ?_)
  · rw [le_i (show (900 : Int32).toInt = 900 from rfl) (ix_n (by omega))] at c17
    rw [if_neg (by rw [show i = T by omega, hT, jk_24]; decide)]
    refine WQ.st (fun _ _ kz => pw_iconst (v := 1) dX6_readChain_77 (by decide) kz) ?_
    refine ⟨_, _, pw_iret dX6_readChain_78 rfl rfl rfl rfl, ?_⟩
    exact ⟨rfl, V, A, rfl, ⟨hN, d, rfl, hW⟩, FRA.rfl⟩
  · rw [le_i (show (900 : Int32).toInt = 900 from rfl) (ix_n (by omega))] at c17
    refine WQ.st (fun _ _ kz => pw_iload1 dX6_readChain_20 kz) ?_
    refine WQ.st (fun _ _ kz => pw_aload0 dX6_readChain_21 kz) ?_
    refine wq_o0i wX6_kind lX6_70 rfl dX6_readChain_22 (cf_s10 hC) (k_kind hC hN) rfl (Nat.le_of_ble_eq_true rfl) (Nat.le_of_ble_eq_true rfl) (fun h22 z22 => ?_)
    subst z22
    refine wq_s2i wX6_joins lX6_177 dX6_readChain_25 (k_joins hlv TK_o) rfl (Nat.le_of_ble_eq_true rfl) (Nat.le_of_ble_eq_true rfl) (fun h25 z25 => ?_)
    subst z25
    refine WQ.br (fun _ _ ka kb => pw_if_eq (tgt := 77) dX6_readChain_28 (by decide) ka kb) (fun c28 => ?_) (fun c28 => ?_)
    · rw [bI_0] at c28
      rw [if_neg (by rw [c28]; decide)]
      refine WQ.st (fun _ _ kz => pw_iconst (v := 1) dX6_readChain_77 (by decide) kz) ?_
      refine ⟨_, _, pw_iret dX6_readChain_78 rfl rfl rfl rfl, ?_⟩
      exact ⟨rfl, V, A, rfl, ⟨hN, d, rfl, hW⟩, FRA.rfl⟩
    · rw [bI_n] at c28
      rw [if_pos c28]
      have h24 : TK x L i ≠ 24 := fun q => by rw [q, jk_24] at c28; cases c28
      obtain ⟨b1, b2⟩ := hB.eat hT (k := TK x L i) rfl h24
      have hlt := lt_T hT hB1 (k := TK x L i) rfl h24
      refine WQ.st (fun _ _ kz => pw_aload0 dX6_readChain_31 kz) ?_
      refine wq_o0i wX6_kind lX6_70 rfl dX6_readChain_32 (cf_s10 hC) (k_kind hC hN) rfl (Nat.le_of_ble_eq_true rfl) (Nat.le_of_ble_eq_true rfl) (fun h32 z32 => ?_)
      subst z32
      refine WQ.st (fun _ _ kz => pw_istore4 dX6_readChain_35 (by decide) (k := kz)) ?_
      refine WQ.st (fun _ _ kz => pw_aload0 dX6_readChain_37 kz) ?_
      refine WQ.st (fun _ _ kz => pw_dup dX6_readChain_38 rfl kz) ?_
      refine WQ.st (fun _ _ kz => pw_geti gX6_31 dX6_readChain_39 (cf_s10 hC) kz) ?_
      rw [hN.at]
      refine WQ.st (fun _ _ kz => pw_iconst (v := 1) dX6_readChain_42 (by decide) kz) ?_
      refine WQ.st (fun _ _ kz => pw_iadd dX6_readChain_43 kz) ?_
      rw [nI_1]
      refine WQ.st (fun _ _ kz => pw_puti (pX6_31 _ rfl) dX6_readChain_44 (cf_s10 hC) rfl rfl kz) ?_
      have g1 : FRK V (up2 V 10 6 (nI (i + 1))) := FRK.up (by omega)
      have f1 : FRA a V A (up2 V 10 6 (nI (i + 1))) A := g1.fa
      have n9 := rk_9 ntP
      refine WQ.st (fun _ _ kz => pw_aload0 dX6_readChain_47 kz) ?_
      refine WQ.st (fun _ _ kz => pw_iload1 dX6_readChain_48 kz) ?_
      refine WQ.st (fun _ _ kz => pw_iload2 dX6_readChain_49 kz) ?_
      refine wq_o2i wX6_readPart lX6_174 rfl dX6_readChain_50 (cf_s10 hC) (hP (i + 1) dep pre d (m - 1) _ A D hd (by omega) (hN.go hlt) (g1.lw ha hW) b1 (by omega)) rfl (Nat.le_of_ble_eq_true rfl) (Nat.le_of_ble_eq_true rfl) (fun h50 z50 => ?_)
      obtain ⟨V2, A2, rfl, z2, f2⟩ := z50
      have pk := ps_ok (Vl := TV x L) (Pl := TPl x L) hT n ntP (i + 1) dep (pre ++ d) (m - 1) (by have := rk_9 ntP; omega) b1
      generalize hr : ps (TK x L) (TV x L) (TPl x L) n ntP (i + 1) dep (pre ++ d) = r at *
      cases r with
      | error e =>
        rw [PR.at_er]
        refine WQ.bn (fun _ _ ka kb => pw_if_ne (tgt := 58) dX6_readChain_53 (by decide) ka kb) (fun c53 => absurd okB_e c53) (fun c53 => ?_)
        refine WQ.st (fun _ _ kz => pw_iconst (v := 0) dX6_readChain_56 (by decide) kz) ?_
        refine ⟨_, _, pw_iret dX6_readChain_57 rfl rfl rfl rfl, ?_⟩
        exact ⟨rfl, V2, A2, rfl, z2, f1.tr f2⟩
      | ok s =>
        obtain ⟨n2, d2, e2, w2⟩ := z2
        have pk : RB T (m - 1) s.1 s.2 ∧ i + 1 ≤ s.1 := pk
        refine WQ.bn (fun _ _ ka kb => pw_if_ne (tgt := 58) dX6_readChain_53 (by decide) ka kb) (fun c53 => ?_) (fun c53 => absurd c53 okB_k)
        refine WQ.st (fun _ _ kz => pw_aload0 dX6_readChain_58 kz) ?_
        refine WQ.st (fun _ _ kz => pw_getr gX6_45 dX6_readChain_59 (cf_s10 hC) hp10 kz) ?_
        refine WQ.st (fun _ _ kz => pw_sipush (v := 2000) dX6_readChain_62 (by decide) kz) ?_
        refine WQ.st (fun _ _ kz => pw_iload4 dX6_readChain_65 kz) ?_
        refine WQ.st (fun _ _ kz => pw_iadd dX6_readChain_67 kz) ?_
        refine wq_o1v wX4_add lX6_180 rfl dX6_readChain_68 (la_s0 hL) (k_ladd hL w2 (by have := pk.1.2.1; rw [e2, List.length_append] at this; have := b2; omega) (Or.inr (jc_ok _ (TK_lt x L i) lv hlv c28).2) (jc_ok _ (TK_lt x L i) lv hlv c28).1) rfl (Nat.le_of_ble_eq_true rfl) (Nat.le_of_ble_eq_true rfl) (fun h68 z68 => ?_)
        obtain ⟨V3, A3, rfl, w3, f3⟩ := z68
        refine WQ.st (fun _ _ kz => pw_iinc3 (v := 1) dX6_readChain_71 (by decide) (by decide) (k := kz)) ?_
        rw [nI_1]
        refine WQ.st (fun _ _ kz => pw_goto (tgt := 13) dX6_readChain_74 (by decide) kz) ?_
        rw [PR.at_ok, e2, List.append_assoc]
        have pk3 : RB T m s.1 (pre ++ (d2 ++ [jcF (TK x L i)])) := by
          rw [← List.append_assoc, ← e2]
          exact pk.1.say b2 hm9
        have pk2 := pk.2
        have n9 := rk_9 ntL
        exact (hl s.1 dep (k + 1) pre _ m V3 A3 (D + 1) _ hd (by omega) (by omega) (f3.kn ha n2) w3 pk3 (by omega)).kz ((f1.tr f2).tr (f3.fa ha))
