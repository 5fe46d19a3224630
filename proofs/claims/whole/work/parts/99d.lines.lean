theorem fl_go {K : Nat → Nat} {Vl : Nat → Int32} {Pl : Nat → Nat} {p j : Nat} {F : Nat → Int32} {s : Nat × (Nat → Int32)} (h : flS K Vl Pl p j F = some (.ok s)) : s.1 = j + 2 := by
  have num : ∀ (hi i k : Nat) (f : Int32 → Nat → Int32), numR K Vl Pl hi i (fun v => .ok (k, f v)) = .ok s → s.1 = k := by
    intro hi i k f h
    unfold numR badR at h
    by_cases c1 : K i = 23
    · rw [if_pos c1] at h
      by_cases c2 : (Vl i).toInt ≤ (hi : Int)
      · rw [if_pos c2] at h; cases h; rfl
      · rw [if_neg c2] at h; cases h
    · rw [if_neg c1] at h; cases h
  unfold flS at h
  by_cases c5 : K j = 5
  · rw [if_pos c5] at h; exact num 20 (j + 1) (j + 2) (fun v => pm_up F (77 + p) v) (Option.some.inj h)
  · rw [if_neg c5] at h
    by_cases c6 : K j = 6
    · rw [if_pos c6] at h; exact num 20 (j + 1) (j + 2) (fun v => pm_up F (77 + p) (-v)) (Option.some.inj h)
    · rw [if_neg c6] at h
      by_cases c7 : K j = 7
      · rw [if_pos c7] at h; exact num 9 (j + 1) (j + 2) (fun v => pm_up F (87 + p) v) (Option.some.inj h)
      · rw [if_neg c7] at h; cases h
set_option maxRecDepth 20000 in
theorem l_readPlayer {G : gT} {S : sS} {P : sP} {B : sB} {Q : sP} {t sl o : Nat} (hF : MF S P o) {x : Nat → Int32} {L T p : Nat} (hT : TK x L T = 24) (hp : p < 5) {c : List Int32} {D : Nat} (hD : 9 ≤ D) : ∀ (n j : Nat) (F : Nat → Int32) (V A : sV), T - j < n → RNF x L o j c F V A → RB T T j c → WQ G D mX12_readPlayer 29 [some (.ref o), some (.int (nI p))] [] (t, sl, gh S V P A B Q) (RZF x L o T T c S P B Q t sl ((rfL (TK x L) (TV x L) (TPl x L) p n j F).andThen (fun j F' => .ok (j, pm_up F' 2 (F' 2 + 1)))) V A) := by
  obtain ⟨D, rfl⟩ : ∃ D', D = D' + 1 := ⟨D - 1, by omega⟩
  intro n
  induction n with
  | zero => intro j F V A hn _ _; omega
  | succ n ih =>
    intro j F V A hn hN hB
    refine WQ.st (fun _ _ kz => pw_aload0 dX12_readPlayer_29 kz) ?_
    refine WQ.st (fun _ _ kz => pw_geti gX12_136 dX12_readPlayer_30 hF.1 kz) ?_
    refine WQ.bn (fun _ _ ka kb => pw_if_ne (tgt := 47) dX12_readPlayer_33 (by decide) ka kb) (fun c33 => absurd hN.1.w0 c33) (fun c33 => ?_)
    refine WQ.st (fun _ _ kz => pw_aload0 dX12_readPlayer_36 kz) ?_
    refine WQ.st (fun _ _ kz => pw_iload1 dX12_readPlayer_37 kz) ?_
    obtain ⟨r9, _, k9, V9, A9, rfl, f9, z9⟩ := c_readFlag (G := G) (D := D) (B := B) (Q := Q) (t := t) (sl := sl) hF hT hN hB hp (by omega)
    rw [rfL_st]
    cases hfl : flS (TK x L) (TV x L) (TPl x L) p j F with
    | none =>
      rw [hfl] at z9
      obtain ⟨rfl, n9⟩ := z9
      refine WQ.st (fun _ _ kz => pw_o1i wX12_readFlag lX12_194 rfl dX12_readPlayer_38 hF.1 (k9) rfl (Nat.le_of_ble_eq_true rfl) (Nat.le_of_ble_eq_true rfl) kz) ?_
      refine WQ.br (fun _ _ ka kb => pw_if_eq (tgt := 47) dX12_readPlayer_41 (by decide) ka kb) (fun c41 => ?_) (fun c41 => absurd rfl c41)
      refine WQ.st (fun _ _ kz => pw_aload0 dX12_readPlayer_47 kz) ?_
      refine WQ.st (fun _ _ kz => pw_geti gX12_136 dX12_readPlayer_48 hF.1 kz) ?_
      refine WQ.bn (fun _ _ ka kb => pw_if_ne (tgt := 64) dX12_readPlayer_51 (by decide) ka kb) (fun c51 => absurd n9.1.w0 c51) (fun c51 => ?_)
      refine WQ.st (fun _ _ kz => pw_aload0 dX12_readPlayer_54 kz) ?_
      refine WQ.st (fun _ _ kz => pw_getr gX12_24 dX12_readPlayer_55 hF.1 (mf_p4 hF) kz) ?_
      refine WQ.st (fun _ _ kz => pw_iconst (v := 2) dX12_readPlayer_58 (by decide) kz) ?_
      refine WQ.st (fun _ _ kz => pw_dup2_11 dX12_readPlayer_59 rfl rfl kz) ?_
      refine WQ.st (fun _ _ kz => pw_ald (j := 2) dX12_readPlayer_60 (mf_s4 hF) rfl (by omega) kz) ?_
      rw [n9.2 2 (by omega)]
      refine WQ.st (fun _ _ kz => pw_iconst (v := 1) dX12_readPlayer_61 (by decide) kz) ?_
      refine WQ.st (fun _ _ kz => pw_iadd dX12_readPlayer_62 kz) ?_
      refine WQ.st (fun _ _ kz => pw_ast (j := 2) dX12_readPlayer_63 (mf_s4 hF) rfl (by omega)  kz) ?_
      refine ⟨_, _, pw_vret dX12_readPlayer_64 rfl rfl rfl, ?_⟩
      exact ⟨rfl, _, _, rfl, ⟨n9.put (by omega) _, hB⟩, f9.tr FRL.a⟩
    | some q =>
      rw [hfl] at z9
      obtain ⟨rfl, z9⟩ := z9
      cases q with
      | error e =>
        have hw := RXF_err z9
        rw [decide_eq_false hw] at k9
        refine WQ.st (fun _ _ kz => pw_o1i wX12_readFlag lX12_194 rfl dX12_readPlayer_38 hF.1 (k9) rfl (Nat.le_of_ble_eq_true rfl) (Nat.le_of_ble_eq_true rfl) kz) ?_
        refine WQ.br (fun _ _ ka kb => pw_if_eq (tgt := 47) dX12_readPlayer_41 (by decide) ka kb) (fun c41 => ?_) (fun c41 => absurd rfl c41)
        refine WQ.st (fun _ _ kz => pw_aload0 dX12_readPlayer_47 kz) ?_
        refine WQ.st (fun _ _ kz => pw_geti gX12_136 dX12_readPlayer_48 hF.1 kz) ?_
        refine WQ.bn (fun _ _ ka kb => pw_if_ne (tgt := 64) dX12_readPlayer_51 (by decide) ka kb) (fun c51 => ?_) (fun c51 => absurd c51 hw)
        refine ⟨_, _, pw_vret dX12_readPlayer_64 rfl rfl rfl, ?_⟩
        exact ⟨rfl, _, _, rfl, z9, f9⟩
      | ok s =>
        have z9 : RNF x L o s.1 c s.2 V9 A9 ∧ RB T T s.1 c := z9
        rw [decide_eq_true z9.1.1.w0] at k9
        refine WQ.st (fun _ _ kz => pw_o1i wX12_readFlag lX12_194 rfl dX12_readPlayer_38 hF.1 (k9) rfl (Nat.le_of_ble_eq_true rfl) (Nat.le_of_ble_eq_true rfl) kz) ?_
        refine WQ.br (fun _ _ ka kb => pw_if_eq (tgt := 47) dX12_readPlayer_41 (by decide) ka kb) (fun c41 => absurd c41 (by decide)) (fun c41 => ?_)
        refine WQ.st (fun _ _ kz => pw_goto (tgt := 29) dX12_readPlayer_44 (by decide) kz) ?_
        show WQ _ _ _ _ _ _ _ (RZF x L o T T c S P B Q t sl ((rfL (TK x L) (TV x L) (TPl x L) p n s.1 s.2).andThen _) V A)
        refine (ih s.1 s.2 _ _ (by have hs1 := fl_go hfl; have hs2 := z9.2.1; omega) z9.1 z9.2).imp (fun r h' z => ?_)
        obtain ⟨z1, V8, A8, z3, z4, z5⟩ := z
        exact ⟨z1, V8, A8, z3, z4, f9.tr z5⟩
set_option maxRecDepth 20000 in
theorem c_readPlayer {G : gT} {S : sS} {V : sV} {P : sP} {A : sV} {B : sB} {Q : sP} {t sl o : Nat} (hF : MF S P o) {x : Nat → Int32} {L T : Nat} (hT : TK x L T = 24) {i : Nat} {c : List Int32} {F : Nat → Int32} (hN : RNF x L o i c F V A) (hB : RB T T i c) {D : Nat} (hk : TK x L i = 4) {p : Nat} (hp5 : p ≤ 5) (hq : F 2 = nI p) (hD : 10 ≤ D) : WQ G D mX12_readPlayer 0 [some (.ref o), none] [] (t, sl, gh S V P A B Q) (RZL x L o T S P B Q t sl (lnY (TK x L) (TV x L) (TPl x L) T i F c) V A) := by
  obtain ⟨D, rfl⟩ : ∃ D', D = D' + 1 := ⟨D - 1, by omega⟩
  unfold lnY
  refine WQ.st (fun _ _ kz => pw_aload0 dX12_readPlayer_0 kz) ?_
  refine WQ.st (fun _ _ kz => pw_getr gX12_24 dX12_readPlayer_1 hF.1 (mf_p4 hF) kz) ?_
  refine WQ.st (fun _ _ kz => pw_iconst (v := 2) dX12_readPlayer_4 (by decide) kz) ?_
  refine WQ.st (fun _ _ kz => pw_ald (j := 2) dX12_readPlayer_5 (mf_s4 hF) rfl (by omega) kz) ?_
  rw [hN.2 2 (by omega), hq]
  refine WQ.st (fun _ _ kz => pw_istore1 dX12_readPlayer_6 (by decide) (k := kz)) ?_
  refine WQ.st (fun _ _ kz => pw_iload1 dX12_readPlayer_7 kz) ?_
  refine WQ.st (fun _ _ kz => pw_iconst (v := 5) dX12_readPlayer_8 (by decide) kz) ?_
  refine WQ.bn (fun _ _ ka kb => pw_icmp_ne (tgt := 17) dX12_readPlayer_9 (by decide) ka kb) (fun c9 => ?_) (fun c9 => ?_)
  · rw [eq_i (ix_n (by omega)) (show (5 : Int32).toInt = 5 from rfl)] at c9
    have c9 : ¬ p = 5 := by omega
    rw [if_neg (show ¬ nI p = 5 from fun e => c9 (by rw [eq_i (ix_n (by omega)) (show (5 : Int32).toInt = 5 from rfl)] at e; omega)), show (nI p).toInt.toNat = p from by rw [ix_n (by omega)]; rfl]
    refine WQ.st (fun _ _ kz => pw_aload0 dX12_readPlayer_17 kz) ?_
    refine WQ.st (fun _ _ kz => pw_geti gX12_136 dX12_readPlayer_18 hF.1 kz) ?_
    refine WQ.br (fun _ _ ka kb => pw_if_eq (tgt := 25) dX12_readPlayer_21 (by decide) ka kb) (fun c21 => ?_) (fun c21 => absurd hN.1.w0 c21)
    refine WQ.st (fun _ _ kz => pw_aload0 dX12_readPlayer_25 kz) ?_
    refine wq_o0v wX12_nextToken lX12_145 rfl dX12_readPlayer_26 hF.1 (c_ntN hF hN.1 (by omega)) rfl (Nat.le_of_ble_eq_true rfl) (Nat.le_of_ble_eq_true rfl) (fun h26 z26 => ?_)
    obtain ⟨V1, A1, rfl, rfl, n1, f1⟩ := z26
    have k := l_readPlayer (G := G) (B := B) (Q := Q) (t := t) (sl := sl) hF hT (show p < 5 by omega) (D := D + 1) (by omega) (T + 1) (i + 1) F V1 A (by omega) (hN.m n1 f1) (hB.nx hT hk (by omega))
    refine k.imp (fun r h' z => ?_)
    obtain ⟨z1, V9, A9, z3, z4, z5⟩ := z
    exact ⟨z1, V9, A9, z3, z4.l, f1.l.tr z5⟩
  · rw [eq_i (ix_n (by omega)) (show (5 : Int32).toInt = 5 from rfl)] at c9
    have c9 : p = 5 := by omega
    rw [if_pos (show nI p = 5 by rw [c9]; rfl)]
    refine WQ.st (fun _ _ kz => pw_aload0 dX12_readPlayer_12 kz) ?_
    refine WQ.st (fun _ _ kz => pw_iconst (v := 4) dX12_readPlayer_13 (by decide) kz) ?_
    refine wq_o1v wX12_fails lX12_148 rfl dX12_readPlayer_14 hF.1 (c_failsN (T := T) (m := T) hF hN.1 (by decide)) rfl (Nat.le_of_ble_eq_true rfl) (Nat.le_of_ble_eq_true rfl) (fun h14 z14 => ?_)
    obtain ⟨V1, A1, rfl, z1, f1, _⟩ := z14
    have hw := RX_bad z1
    unfold badT at z1
    rw [if_neg (by omega)] at z1
    refine WQ.st (fun _ _ kz => pw_aload0 dX12_readPlayer_17 kz) ?_
    refine WQ.st (fun _ _ kz => pw_geti gX12_136 dX12_readPlayer_18 hF.1 kz) ?_
    refine WQ.br (fun _ _ ka kb => pw_if_eq (tgt := 25) dX12_readPlayer_21 (by decide) ka kb) (fun c21 => absurd c21 hw) (fun c21 => ?_)
    refine ⟨_, _, pw_vret dX12_readPlayer_24 rfl rfl rfl, ?_⟩
    exact ⟨rfl, _, _, rfl, z1, f1.l⟩
