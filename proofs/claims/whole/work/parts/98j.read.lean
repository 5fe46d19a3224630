def RNF (x : Nat → Int32) (L o i : Nat) (c : List Int32) (F : Nat → Int32) (V A : sV) : Prop := RN x L o i c V A ∧ ∀ k, k < 263 → A (o + 4) k = F k
def RXF (x : Nat → Int32) (L o T m : Nat) (c : List Int32) (r : RR) (V A : sV) : Prop := match r with | .error e => V o 11 = e.1 ∧ e.1 ≠ 0 ∧ V o 12 = nI e.2 | .ok s => RNF x L o s.1 c s.2 V A ∧ RB T m s.1 c
def FRL (o : Nat) (V0 A0 V A : sV) : Prop := (∀ a, a ≠ o → V a = V0 a) ∧ (∀ k, k ≠ 6 → k ≠ 7 → k ≠ 9 → k ≠ 10 → k ≠ 11 → k ≠ 12 → V o k = V0 o k) ∧ ∀ a, a ≠ o + 4 → A a = A0 a
theorem FRM.l {o : Nat} {V A V1 A1 : sV} (h : FRM o V A V1 A1) : FRL o V A V1 A1 := ⟨h.1, h.2.1, h.2.2.1⟩
theorem FRL.rfl {o : Nat} {V A : sV} : FRL o V A V A := ⟨fun _ _ => _root_.rfl, fun _ _ _ _ _ _ _ => _root_.rfl, fun _ _ => _root_.rfl⟩
theorem FRL.tr {o : Nat} {V A V1 A1 V2 A2 : sV} (h : FRL o V A V1 A1) (g : FRL o V1 A1 V2 A2) : FRL o V A V2 A2 := ⟨fun a ha => (g.1 a ha).trans (h.1 a ha), fun k a b c d e f => (g.2.1 k a b c d e f).trans (h.2.1 k a b c d e f), fun a ha => (g.2.2 a ha).trans (h.2.2 a ha)⟩
theorem FRL.a {o k : Nat} {V A : sV} {y : Int32} : FRL o V A V (up2 A (o + 4) k y) := ⟨fun _ _ => _root_.rfl, fun _ _ _ _ _ _ _ => _root_.rfl, fun a ha => up2_na ha⟩
theorem RN.row {x : Nat → Int32} {L o i k : Nat} {c : List Int32} {V A : sV} (h : RN x L o i c V A) (hk : k < 263) (y : Int32) : RN x L o i c V (up2 A (o + 4) k y) := ⟨⟨h.tx.1, h.tx.2.1, fun j hj => by rw [up2_na (by omega)]; exact h.tx.2.2 j hj⟩, h.w0, h.kd, h.pl, h.be, h.nu, by rw [up2_nk (by omega)]; exact h.le, fun j hj => by rw [up2_nk (by omega)]; exact h.co j hj⟩
theorem RNF.put {x : Nat → Int32} {L o i k : Nat} {c : List Int32} {F : Nat → Int32} {V A : sV} (h : RNF x L o i c F V A) (hk : k < 263) (y : Int32) : RNF x L o i c (pm_up F k y) V (up2 A (o + 4) k y) := ⟨h.1.row hk y, fun j hj => by
  rw [up2_at]
  unfold pm_up
  by_cases e : j = k
  · rw [if_pos e, if_pos e]
  · rw [if_neg e, if_neg e]; exact h.2 j hj⟩
theorem RNF.m {x : Nat → Int32} {L o i j : Nat} {c : List Int32} {F : Nat → Int32} {V A V1 A1 : sV} (h : RNF x L o i c F V A) (n : RN x L o j c V1 A1) (f : FRM o V A V1 A1) : RNF x L o j c F V1 A1 := ⟨n, fun k hk => (f.2.2.2 k hk).trans (h.2 k hk)⟩
theorem RB.nx {K : Nat → Nat} {T m i k : Nat} {c : List Int32} (hT : K T = 24) (h : RB T m i c) (hk : K i = k) (hn : k ≠ 24) : RB T m (i + 1) c := ⟨lt_T hT h.1 hk hn, by have := h.2.1; omega, h.2.2⟩
def RZF (x : Nat → Int32) (L o T m : Nat) (c : List Int32) (S : sS) (P : sP) (B : sB) (Q : sP) (t sl : Nat) (r : RR) (V A : sV) : Option Value → Ph → Prop := fun q h' => q = none ∧ ∃ V' A' : sV, h' = (t, sl, gh S V' P A' B Q) ∧ RXF x L o T m c r V' A' ∧ FRL o V A V' A'
set_option maxRecDepth 20000 in
theorem w_takes {G : gT} {d : Nat} {S : sS} {V : sV} {P : sP} {A : sV} {B : sB} {Q : sP} {t sl o : Nat} (hF : MF S P o) (hw : ¬ V o 11 = 0) (a b : Int32) : WQ G (d + 1) mX12_takes 0 [some (.ref o), some (.int a), some (.int b), none] [] (t, sl, gh S V P A B Q) (fun r h' => r = some (.int (V o 10)) ∧ h' = (t, sl, gh S V P A B Q)) := by
  refine WQ.st (fun _ _ kz => pw_aload0 dX12_takes_0 kz) ?_
  refine WQ.st (fun _ _ kz => pw_bipush (v := 23) dX12_takes_1 (by decide) kz) ?_
  refine wq_o1i wX12_is lX12_142 rfl dX12_takes_3 hF.1 (c_isW hF hw _) rfl (Nat.le_of_ble_eq_true rfl) (Nat.le_of_ble_eq_true rfl) (fun h3 z3 => ?_)
  subst z3
  refine WQ.bn (fun _ _ ka kb => pw_if_ne (tgt := 17) dX12_takes_6 (by decide) ka kb) (fun c6 => absurd (by decide) c6) (fun c6 => ?_)
  refine WQ.st (fun _ _ kz => pw_aload0 dX12_takes_9 kz) ?_
  refine WQ.st (fun _ _ kz => pw_iconst (v := 2) dX12_takes_10 (by decide) kz) ?_
  refine wq_o1v wX12_fails lX12_148 rfl dX12_takes_11 hF.1 (c_failsW hF hw _) rfl (Nat.le_of_ble_eq_true rfl) (Nat.le_of_ble_eq_true rfl) (fun h11 z11 => ?_)
  subst z11
  refine WQ.st (fun _ _ kz => pw_goto (tgt := 37) dX12_takes_14 (by decide) kz) ?_
  refine WQ.st (fun _ _ kz => pw_aload0 dX12_takes_37 kz) ?_
  refine WQ.st (fun _ _ kz => pw_geti gX12_131 dX12_takes_38 hF.1 kz) ?_
  refine WQ.st (fun _ _ kz => pw_istore3 dX12_takes_41 (by decide) (k := kz)) ?_
  refine WQ.st (fun _ _ kz => pw_aload0 dX12_takes_42 kz) ?_
  refine WQ.st (fun _ _ kz => pw_geti gX12_136 dX12_takes_43 hF.1 kz) ?_
  refine WQ.bn (fun _ _ ka kb => pw_if_ne (tgt := 53) dX12_takes_46 (by decide) ka kb) (fun c46 => ?_) (fun c46 => absurd c46 hw)
  refine WQ.st (fun _ _ kz => pw_iload3 dX12_takes_53 kz) ?_
  refine ⟨_, _, pw_iret dX12_takes_54 rfl rfl rfl rfl, ?_⟩
  exact ⟨rfl, rfl⟩
theorem ix_w (q b : Nat) : (15 : Int32) + 12 * nI q + nI b = nI (15 + 12 * q + b) := by
  rw [show (15 : Int32) = nI 15 from rfl, show (12 : Int32) = nI 12 from rfl, iI_nat, iI_nat, iI_nat, iI_nat, iI_nat, iI_mul, iI_add, iI_add]
  congr 1
set_option maxRecDepth 20000 in
theorem l_readPiece {G : gT} {S : sS} {P : sP} {B : sB} {Q : sP} {t sl o : Nat} (hF : MF S P o) {x : Nat → Int32} {L T m q : Nat} (hT : TK x L T = 24) (hq : q < 4) {c : List Int32} {D : Nat} (hD : 9 ≤ D) : ∀ (n j : Nat) (F : Nat → Int32) (V A : sV) (b : Nat) {y2 y3 : Option Value}, T - j < n → b ≤ 12 → RNF x L o j c F V A → F (10 + q) = nI b → RB T m j c → WQ G D mX12_readPiece 29 [some (.ref o), some (.int (nI q)), y2, y3] [] (t, sl, gh S V P A B Q) (RZF x L o T m c S P B Q t sl ((rpL (TK x L) (TV x L) (TPl x L) q n j F).andThen (fun j F' => .ok (j, pm_up F' 1 (F' 1 + 1)))) V A) := by
  obtain ⟨D, rfl⟩ : ∃ D', D = D' + 1 := ⟨D - 1, by omega⟩
  intro n
  induction n with
  | zero => intro j F V A b y2 y3 hn _ _ _ _; omega
  | succ n ih =>
    intro j F V A b y2 y3 hn hb12 hN hb hB
    have hB0 := hB.1
    rw [rpL]
    refine WQ.st (fun _ _ kz => pw_aload0 dX12_readPiece_29 kz) ?_
    refine WQ.st (fun _ _ kz => pw_geti gX12_136 dX12_readPiece_30 hF.1 kz) ?_
    refine WQ.bn (fun _ _ ka kb => pw_if_ne (tgt := 153) dX12_readPiece_33 (by decide) ka kb) (fun c33 => absurd hN.1.w0 c33) (fun c33 => ?_)
    refine WQ.st (fun _ _ kz => pw_aload0 dX12_readPiece_36 kz) ?_
    refine WQ.st (fun _ _ kz => pw_iconst (v := 2) dX12_readPiece_37 (by decide) kz) ?_
    refine wq_o1i wX12_is lX12_142 rfl dX12_readPiece_38 hF.1 (c_isN hF hN.1 (k := 2) rfl) rfl (Nat.le_of_ble_eq_true rfl) (Nat.le_of_ble_eq_true rfl) (fun h38 z38 => ?_)
    subst z38
    refine WQ.bn (fun _ _ ka kb => pw_if_ne (tgt := 52) dX12_readPiece_41 (by decide) ka kb) (fun c41 => ?_) (fun c41 => ?_)
    · rw [bI_n] at c41
      have c41 := of_decide_eq_true c41
      have hk : TK x L j = 2 ∨ TK x L j = 3 := Or.inl c41
      rw [if_pos hk]
      refine WQ.st (fun _ _ kz => pw_aload0 dX12_readPiece_52 kz) ?_
      refine WQ.st (fun _ _ kz => pw_getr gX12_24 dX12_readPiece_53 hF.1 (mf_p4 hF) kz) ?_
      refine WQ.st (fun _ _ kz => pw_bipush (v := 10) dX12_readPiece_56 (by decide) kz) ?_
      refine WQ.st (fun _ _ kz => pw_iload1 dX12_readPiece_58 kz) ?_
      refine WQ.st (fun _ _ kz => pw_iadd dX12_readPiece_59 kz) ?_
      refine WQ.st (fun _ _ kz => pw_ald (j := (10 + q)) dX12_readPiece_60 (mf_s4 hF) (by rw [show (10 : Int32) = nI 10 from rfl, nI_pl]; exact ix_n (by omega)) (by omega) kz) ?_
      rw [hN.2 _ (by omega), hb]
      refine WQ.st (fun _ _ kz => pw_bipush (v := 12) dX12_readPiece_61 (by decide) kz) ?_
      refine WQ.bn (fun _ _ ka kb => pw_icmp_ne (tgt := 71) dX12_readPiece_63 (by decide) ka kb) (fun c63 => ?_) (fun c63 => ?_)
      · rw [eq_i (ix_n (by omega)) li_12] at c63
        have c63 : ¬ b = 12 := by omega
        rw [if_neg (show ¬ nI b = 12 from fun q => c63 (by rw [eq_i (ix_n (by omega)) li_12] at q; omega))]
        refine WQ.st (fun _ _ kz => pw_aload0 dX12_readPiece_71 kz) ?_
        refine WQ.st (fun _ _ kz => pw_iconst (v := 2) dX12_readPiece_72 (by decide) kz) ?_
        refine wq_o1i wX12_is lX12_142 rfl dX12_readPiece_73 hF.1 (c_isN hF hN.1 (k := 2) rfl) rfl (Nat.le_of_ble_eq_true rfl) (Nat.le_of_ble_eq_true rfl) (fun h73 z73 => ?_)
        subst z73
        refine WQ.br (fun _ _ ka kb => pw_if_eq (tgt := 83) dX12_readPiece_76 (by decide) ka kb) (fun c76 => ?_) (fun c76 => ?_)
        · rw [bI_0] at c76
          have c76 := of_decide_eq_false c76
          refine WQ.st (fun _ _ kz => pw_iconst (v := -1) dX12_readPiece_83 (by decide) kz) ?_
          refine WQ.st (fun _ _ kz => pw_istore2 dX12_readPiece_84 (by decide) (k := kz)) ?_
          refine WQ.st (fun _ _ kz => pw_aload0 dX12_readPiece_85 kz) ?_
          refine WQ.st (fun _ _ kz => pw_geti gX12_136 dX12_readPiece_86 hF.1 kz) ?_
          refine WQ.bn (fun _ _ ka kb => pw_if_ne (tgt := 96) dX12_readPiece_89 (by decide) ka kb) (fun c89 => absurd hN.1.w0 c89) (fun c89 => ?_)
          refine WQ.st (fun _ _ kz => pw_aload0 dX12_readPiece_92 kz) ?_
          refine wq_o0v wX12_nextToken lX12_145 rfl dX12_readPiece_93 hF.1 (c_ntN hF hN.1 (by omega)) rfl (Nat.le_of_ble_eq_true rfl) (Nat.le_of_ble_eq_true rfl) (fun h93 z93 => ?_)
          obtain ⟨V1, A1, rfl, rfl, n1, f1⟩ := z93
          have hB1 := hB.nx hT (k := TK x L j) rfl (by omega)
          refine WQ.st (fun _ _ kz => pw_aload0 dX12_readPiece_96 kz) ?_
          refine WQ.st (fun _ _ kz => pw_iconst (v := 0) dX12_readPiece_97 (by decide) kz) ?_
          refine WQ.st (fun _ _ kz => pw_bipush (v := 9) dX12_readPiece_98 (by decide) kz) ?_
          obtain ⟨_, _, k0, v, rfl, V2, A2, rfl, z2, hv2, f2⟩ := c_takesN (G := G) (D := D) (B := B) (Q := Q) (t := t) (sl := sl) (T := T) (m := m) (hi := 9) hF n1 (by omega) (fun q => hB1.nx hT rfl q) (by omega)
          rw [show (9 : Int32) = nI 9 from rfl]
          refine WQ.st (fun _ _ kz => pw_o2i wX12_takes lX12_190 rfl dX12_readPiece_100 hF.1 (k0) rfl (Nat.le_of_ble_eq_true rfl) (Nat.le_of_ble_eq_true rfl) kz) ?_
          refine WQ.st (fun _ _ kz => pw_istore3 dX12_readPiece_103 (by decide) (k := kz)) ?_
          rw [show (nI b).toInt.toNat = b from by rw [ix_n (by omega)]; rfl]
          unfold tkN at z2
          unfold numR
          by_cases c1 : TK x L (j + 1) = 23
          · rw [if_pos c1] at z2 ⊢
            by_cases c2 : (TV x L (j + 1)).toInt ≤ ((9 : Nat) : Int)
            · rw [if_pos c2] at z2 ⊢
              have z2 : RN x L o (j + 2) c V2 A2 ∧ RB T m (j + 2) c := z2
              rw [hv2 c1]
              have hv2 := hv2 c1
              subst hv2
              rw [if_neg c76]
              show WQ _ _ _ _ _ _ _ (RZF x L o T m c S P B Q t sl ((rpL (TK x L) (TV x L) (TPl x L) q n (j + 2) (pm_up (pm_up F (15 + 12 * q + b) ((-1 : Int32) * TV x L (j + 1))) (10 + q) (nI b + 1))).andThen _) V A)
              refine WQ.st (fun _ _ kz => pw_aload0 dX12_readPiece_104 kz) ?_
              refine WQ.st (fun _ _ kz => pw_geti gX12_136 dX12_readPiece_105 hF.1 kz) ?_
              refine WQ.br (fun _ _ ka kb => pw_if_eq (tgt := 112) dX12_readPiece_108 (by decide) ka kb) (fun c108 => ?_) (fun c108 => absurd z2.1.w0 c108)
              refine WQ.st (fun _ _ kz => pw_aload0 dX12_readPiece_112 kz) ?_
              refine WQ.st (fun _ _ kz => pw_getr gX12_24 dX12_readPiece_113 hF.1 (mf_p4 hF) kz) ?_
              refine WQ.st (fun _ _ kz => pw_bipush (v := 15) dX12_readPiece_116 (by decide) kz) ?_
              refine WQ.st (fun _ _ kz => pw_bipush (v := 12) dX12_readPiece_118 (by decide) kz) ?_
              refine WQ.st (fun _ _ kz => pw_iload1 dX12_readPiece_120 kz) ?_
              refine WQ.st (fun _ _ kz => pw_imul dX12_readPiece_121 kz) ?_
              refine WQ.st (fun _ _ kz => pw_iadd dX12_readPiece_122 kz) ?_
              refine WQ.st (fun _ _ kz => pw_aload0 dX12_readPiece_123 kz) ?_
              refine WQ.st (fun _ _ kz => pw_getr gX12_24 dX12_readPiece_124 hF.1 (mf_p4 hF) kz) ?_
              refine WQ.st (fun _ _ kz => pw_bipush (v := 10) dX12_readPiece_127 (by decide) kz) ?_
              refine WQ.st (fun _ _ kz => pw_iload1 dX12_readPiece_129 kz) ?_
              refine WQ.st (fun _ _ kz => pw_iadd dX12_readPiece_130 kz) ?_
              refine WQ.st (fun _ _ kz => pw_ald (j := (10 + q)) dX12_readPiece_131 (mf_s4 hF) (by rw [show (10 : Int32) = nI 10 from rfl, nI_pl]; exact ix_n (by omega)) (by omega) kz) ?_
              rw [show A2 (o + 4) (10 + q) = nI b from by rw [f2.2.2.2 _ (by omega), f1.2.2.2 _ (by omega), hN.2 _ (by omega)]; exact hb]
              refine WQ.st (fun _ _ kz => pw_iadd dX12_readPiece_132 kz) ?_
              rw [ix_w]
              refine WQ.st (fun _ _ kz => pw_iload2 dX12_readPiece_133 kz) ?_
              refine WQ.st (fun _ _ kz => pw_iload3 dX12_readPiece_134 kz) ?_
              refine WQ.st (fun _ _ kz => pw_imul dX12_readPiece_135 kz) ?_
              refine WQ.st (fun _ _ kz => pw_ast (j := (15 + 12 * q + b)) dX12_readPiece_136 (mf_s4 hF) (ix_n (by omega)) (by omega)  kz) ?_
              refine WQ.st (fun _ _ kz => pw_aload0 dX12_readPiece_137 kz) ?_
              refine WQ.st (fun _ _ kz => pw_getr gX12_24 dX12_readPiece_138 hF.1 (mf_p4 hF) kz) ?_
              refine WQ.st (fun _ _ kz => pw_bipush (v := 10) dX12_readPiece_141 (by decide) kz) ?_
              refine WQ.st (fun _ _ kz => pw_iload1 dX12_readPiece_143 kz) ?_
              refine WQ.st (fun _ _ kz => pw_iadd dX12_readPiece_144 kz) ?_
              refine WQ.st (fun _ _ kz => pw_dup2_11 dX12_readPiece_145 rfl rfl kz) ?_
              refine WQ.st (fun _ _ kz => pw_ald (j := (10 + q)) dX12_readPiece_146 (mf_s4 hF) (by rw [show (10 : Int32) = nI 10 from rfl, nI_pl]; exact ix_n (by omega)) (by omega) kz) ?_
              rw [up2_nk (by omega), show A2 (o + 4) (10 + q) = nI b from by rw [f2.2.2.2 _ (by omega), f1.2.2.2 _ (by omega), hN.2 _ (by omega)]; exact hb]
              refine WQ.st (fun _ _ kz => pw_iconst (v := 1) dX12_readPiece_147 (by decide) kz) ?_
              refine WQ.st (fun _ _ kz => pw_iadd dX12_readPiece_148 kz) ?_
              refine WQ.st (fun _ _ kz => pw_ast (j := (10 + q)) dX12_readPiece_149 (mf_s4 hF) (by rw [show (10 : Int32) = nI 10 from rfl, nI_pl]; exact ix_n (by omega)) (by omega)  kz) ?_
              refine WQ.st (fun _ _ kz => pw_goto (tgt := 29) dX12_readPiece_150 (by decide) kz) ?_
              have n2 : RNF x L o (j + 2) c F V2 A2 := (hN.m n1 f1).m z2.1 f2
              have n3 := (n2.put (k := 15 + 12 * q + b) (by omega) ((-1 : Int32) * TV x L (j + 1))).put (k := 10 + q) (by omega) (nI b + 1)
              have hj2 := z2.2.1
              refine ((ih (j + 2) _ _ _ (b + 1) (by omega) (by omega) n3 (by rw [pm_up_eq]; exact nI_1 b) z2.2).imp (fun r h' z => ?_))
              obtain ⟨z1, V9, A9, z3, z4, z5⟩ := z
              exact ⟨z1, V9, A9, z3, z4, (((f1.l).tr f2.l).tr (FRL.a.tr FRL.a)).tr z5⟩
            · rw [if_neg c2] at z2 ⊢
              refine WQ.st (fun _ _ kz => pw_aload0 dX12_readPiece_104 kz) ?_
              refine WQ.st (fun _ _ kz => pw_geti gX12_136 dX12_readPiece_105 hF.1 kz) ?_
              refine WQ.br (fun _ _ ka kb => pw_if_eq (tgt := 112) dX12_readPiece_108 (by decide) ka kb) (fun c108 => absurd c108 (RX_err z2)) (fun c108 => ?_)
              refine ⟨_, _, pw_vret dX12_readPiece_111 rfl rfl rfl, ?_⟩
              exact ⟨rfl, _, _, rfl, z2, f1.l.tr f2.l⟩
          · rw [if_neg c1] at z2 ⊢
            unfold badT at z2
            unfold badR
            refine WQ.st (fun _ _ kz => pw_aload0 dX12_readPiece_104 kz) ?_
            refine WQ.st (fun _ _ kz => pw_geti gX12_136 dX12_readPiece_105 hF.1 kz) ?_
            refine WQ.br (fun _ _ ka kb => pw_if_eq (tgt := 112) dX12_readPiece_108 (by decide) ka kb) (fun c108 => absurd c108 (RX_err z2)) (fun c108 => ?_)
            refine ⟨_, _, pw_vret dX12_readPiece_111 rfl rfl rfl, ?_⟩
            exact ⟨rfl, _, _, rfl, z2, f1.l.tr f2.l⟩
        · rw [bI_n] at c76
          have c76 := of_decide_eq_true c76
          refine WQ.st (fun _ _ kz => pw_iconst (v := 1) dX12_readPiece_79 (by decide) kz) ?_
          refine WQ.st (fun _ _ kz => pw_goto (tgt := 84) dX12_readPiece_80 (by decide) kz) ?_
          refine WQ.st (fun _ _ kz => pw_istore2 dX12_readPiece_84 (by decide) (k := kz)) ?_
          refine WQ.st (fun _ _ kz => pw_aload0 dX12_readPiece_85 kz) ?_
          refine WQ.st (fun _ _ kz => pw_geti gX12_136 dX12_readPiece_86 hF.1 kz) ?_
          refine WQ.bn (fun _ _ ka kb => pw_if_ne (tgt := 96) dX12_readPiece_89 (by decide) ka kb) (fun c89 => absurd hN.1.w0 c89) (fun c89 => ?_)
          refine WQ.st (fun _ _ kz => pw_aload0 dX12_readPiece_92 kz) ?_
          refine wq_o0v wX12_nextToken lX12_145 rfl dX12_readPiece_93 hF.1 (c_ntN hF hN.1 (by omega)) rfl (Nat.le_of_ble_eq_true rfl) (Nat.le_of_ble_eq_true rfl) (fun h93 z93 => ?_)
          obtain ⟨V1, A1, rfl, rfl, n1, f1⟩ := z93
          have hB1 := hB.nx hT (k := TK x L j) rfl (by omega)
          refine WQ.st (fun _ _ kz => pw_aload0 dX12_readPiece_96 kz) ?_
          refine WQ.st (fun _ _ kz => pw_iconst (v := 0) dX12_readPiece_97 (by decide) kz) ?_
          refine WQ.st (fun _ _ kz => pw_bipush (v := 9) dX12_readPiece_98 (by decide) kz) ?_
          obtain ⟨_, _, k0, v, rfl, V2, A2, rfl, z2, hv2, f2⟩ := c_takesN (G := G) (D := D) (B := B) (Q := Q) (t := t) (sl := sl) (T := T) (m := m) (hi := 9) hF n1 (by omega) (fun q => hB1.nx hT rfl q) (by omega)
          rw [show (9 : Int32) = nI 9 from rfl]
          refine WQ.st (fun _ _ kz => pw_o2i wX12_takes lX12_190 rfl dX12_readPiece_100 hF.1 (k0) rfl (Nat.le_of_ble_eq_true rfl) (Nat.le_of_ble_eq_true rfl) kz) ?_
          refine WQ.st (fun _ _ kz => pw_istore3 dX12_readPiece_103 (by decide) (k := kz)) ?_
          rw [show (nI b).toInt.toNat = b from by rw [ix_n (by omega)]; rfl]
          unfold tkN at z2
          unfold numR
          by_cases c1 : TK x L (j + 1) = 23
          · rw [if_pos c1] at z2 ⊢
            by_cases c2 : (TV x L (j + 1)).toInt ≤ ((9 : Nat) : Int)
            · rw [if_pos c2] at z2 ⊢
              have z2 : RN x L o (j + 2) c V2 A2 ∧ RB T m (j + 2) c := z2
              rw [hv2 c1]
              have hv2 := hv2 c1
              subst hv2
              rw [if_pos c76]
              show WQ _ _ _ _ _ _ _ (RZF x L o T m c S P B Q t sl ((rpL (TK x L) (TV x L) (TPl x L) q n (j + 2) (pm_up (pm_up F (15 + 12 * q + b) ((1 : Int32) * TV x L (j + 1))) (10 + q) (nI b + 1))).andThen _) V A)
              refine WQ.st (fun _ _ kz => pw_aload0 dX12_readPiece_104 kz) ?_
              refine WQ.st (fun _ _ kz => pw_geti gX12_136 dX12_readPiece_105 hF.1 kz) ?_
              refine WQ.br (fun _ _ ka kb => pw_if_eq (tgt := 112) dX12_readPiece_108 (by decide) ka kb) (fun c108 => ?_) (fun c108 => absurd z2.1.w0 c108)
              refine WQ.st (fun _ _ kz => pw_aload0 dX12_readPiece_112 kz) ?_
              refine WQ.st (fun _ _ kz => pw_getr gX12_24 dX12_readPiece_113 hF.1 (mf_p4 hF) kz) ?_
              refine WQ.st (fun _ _ kz => pw_bipush (v := 15) dX12_readPiece_116 (by decide) kz) ?_
              refine WQ.st (fun _ _ kz => pw_bipush (v := 12) dX12_readPiece_118 (by decide) kz) ?_
              refine WQ.st (fun _ _ kz => pw_iload1 dX12_readPiece_120 kz) ?_
              refine WQ.st (fun _ _ kz => pw_imul dX12_readPiece_121 kz) ?_
              refine WQ.st (fun _ _ kz => pw_iadd dX12_readPiece_122 kz) ?_
              refine WQ.st (fun _ _ kz => pw_aload0 dX12_readPiece_123 kz) ?_
              refine WQ.st (fun _ _ kz => pw_getr gX12_24 dX12_readPiece_124 hF.1 (mf_p4 hF) kz) ?_
              refine WQ.st (fun _ _ kz => pw_bipush (v := 10) dX12_readPiece_127 (by decide) kz) ?_
              refine WQ.st (fun _ _ kz => pw_iload1 dX12_readPiece_129 kz) ?_
              refine WQ.st (fun _ _ kz => pw_iadd dX12_readPiece_130 kz) ?_
              refine WQ.st (fun _ _ kz => pw_ald (j := (10 + q)) dX12_readPiece_131 (mf_s4 hF) (by rw [show (10 : Int32) = nI 10 from rfl, nI_pl]; exact ix_n (by omega)) (by omega) kz) ?_
              rw [show A2 (o + 4) (10 + q) = nI b from by rw [f2.2.2.2 _ (by omega), f1.2.2.2 _ (by omega), hN.2 _ (by omega)]; exact hb]
              refine WQ.st (fun _ _ kz => pw_iadd dX12_readPiece_132 kz) ?_
              rw [ix_w]
              refine WQ.st (fun _ _ kz => pw_iload2 dX12_readPiece_133 kz) ?_
              refine WQ.st (fun _ _ kz => pw_iload3 dX12_readPiece_134 kz) ?_
              refine WQ.st (fun _ _ kz => pw_imul dX12_readPiece_135 kz) ?_
              refine WQ.st (fun _ _ kz => pw_ast (j := (15 + 12 * q + b)) dX12_readPiece_136 (mf_s4 hF) (ix_n (by omega)) (by omega)  kz) ?_
              refine WQ.st (fun _ _ kz => pw_aload0 dX12_readPiece_137 kz) ?_
              refine WQ.st (fun _ _ kz => pw_getr gX12_24 dX12_readPiece_138 hF.1 (mf_p4 hF) kz) ?_
              refine WQ.st (fun _ _ kz => pw_bipush (v := 10) dX12_readPiece_141 (by decide) kz) ?_
              refine WQ.st (fun _ _ kz => pw_iload1 dX12_readPiece_143 kz) ?_
              refine WQ.st (fun _ _ kz => pw_iadd dX12_readPiece_144 kz) ?_
              refine WQ.st (fun _ _ kz => pw_dup2_11 dX12_readPiece_145 rfl rfl kz) ?_
              refine WQ.st (fun _ _ kz => pw_ald (j := (10 + q)) dX12_readPiece_146 (mf_s4 hF) (by rw [show (10 : Int32) = nI 10 from rfl, nI_pl]; exact ix_n (by omega)) (by omega) kz) ?_
              rw [up2_nk (by omega), show A2 (o + 4) (10 + q) = nI b from by rw [f2.2.2.2 _ (by omega), f1.2.2.2 _ (by omega), hN.2 _ (by omega)]; exact hb]
              refine WQ.st (fun _ _ kz => pw_iconst (v := 1) dX12_readPiece_147 (by decide) kz) ?_
              refine WQ.st (fun _ _ kz => pw_iadd dX12_readPiece_148 kz) ?_
              refine WQ.st (fun _ _ kz => pw_ast (j := (10 + q)) dX12_readPiece_149 (mf_s4 hF) (by rw [show (10 : Int32) = nI 10 from rfl, nI_pl]; exact ix_n (by omega)) (by omega)  kz) ?_
              refine WQ.st (fun _ _ kz => pw_goto (tgt := 29) dX12_readPiece_150 (by decide) kz) ?_
              have n2 : RNF x L o (j + 2) c F V2 A2 := (hN.m n1 f1).m z2.1 f2
              have n3 := (n2.put (k := 15 + 12 * q + b) (by omega) ((1 : Int32) * TV x L (j + 1))).put (k := 10 + q) (by omega) (nI b + 1)
              have hj2 := z2.2.1
              refine ((ih (j + 2) _ _ _ (b + 1) (by omega) (by omega) n3 (by rw [pm_up_eq]; exact nI_1 b) z2.2).imp (fun r h' z => ?_))
              obtain ⟨z1, V9, A9, z3, z4, z5⟩ := z
              exact ⟨z1, V9, A9, z3, z4, (((f1.l).tr f2.l).tr (FRL.a.tr FRL.a)).tr z5⟩
            · rw [if_neg c2] at z2 ⊢
              refine WQ.st (fun _ _ kz => pw_aload0 dX12_readPiece_104 kz) ?_
              refine WQ.st (fun _ _ kz => pw_geti gX12_136 dX12_readPiece_105 hF.1 kz) ?_
              refine WQ.br (fun _ _ ka kb => pw_if_eq (tgt := 112) dX12_readPiece_108 (by decide) ka kb) (fun c108 => absurd c108 (RX_err z2)) (fun c108 => ?_)
              refine ⟨_, _, pw_vret dX12_readPiece_111 rfl rfl rfl, ?_⟩
              exact ⟨rfl, _, _, rfl, z2, f1.l.tr f2.l⟩
          · rw [if_neg c1] at z2 ⊢
            unfold badT at z2
            unfold badR
            refine WQ.st (fun _ _ kz => pw_aload0 dX12_readPiece_104 kz) ?_
            refine WQ.st (fun _ _ kz => pw_geti gX12_136 dX12_readPiece_105 hF.1 kz) ?_
            refine WQ.br (fun _ _ ka kb => pw_if_eq (tgt := 112) dX12_readPiece_108 (by decide) ka kb) (fun c108 => absurd c108 (RX_err z2)) (fun c108 => ?_)
            refine ⟨_, _, pw_vret dX12_readPiece_111 rfl rfl rfl, ?_⟩
            exact ⟨rfl, _, _, rfl, z2, f1.l.tr f2.l⟩
      · rw [eq_i (ix_n (by omega)) li_12] at c63
        have c63 : b = 12 := by omega
        rw [if_pos (show nI b = 12 by rw [c63]; rfl)]
        refine WQ.st (fun _ _ kz => pw_aload0 dX12_readPiece_66 kz) ?_
        refine WQ.st (fun _ _ kz => pw_iconst (v := 4) dX12_readPiece_67 (by decide) kz) ?_
        refine wq_o1v wX12_fails lX12_148 rfl dX12_readPiece_68 hF.1 (c_failsN (T := T) (m := m) hF hN.1 (by decide)) rfl (Nat.le_of_ble_eq_true rfl) (Nat.le_of_ble_eq_true rfl) (fun h68 z68 => ?_)
        obtain ⟨V1, A1, rfl, z1, f1, _⟩ := z68
        have hw := RX_bad z1
        unfold badT at z1
        rw [if_neg (by omega)] at z1
        refine WQ.st (fun _ _ kz => pw_aload0 dX12_readPiece_71 kz) ?_
        refine WQ.st (fun _ _ kz => pw_iconst (v := 2) dX12_readPiece_72 (by decide) kz) ?_
        refine wq_o1i wX12_is lX12_142 rfl dX12_readPiece_73 hF.1 (c_isW hF hw _) rfl (Nat.le_of_ble_eq_true rfl) (Nat.le_of_ble_eq_true rfl) (fun h73 z73 => ?_)
        subst z73
        refine WQ.br (fun _ _ ka kb => pw_if_eq (tgt := 83) dX12_readPiece_76 (by decide) ka kb) (fun c76 => ?_) (fun c76 => absurd (by decide) c76)
        refine WQ.st (fun _ _ kz => pw_iconst (v := -1) dX12_readPiece_83 (by decide) kz) ?_
        refine WQ.st (fun _ _ kz => pw_istore2 dX12_readPiece_84 (by decide) (k := kz)) ?_
        refine WQ.st (fun _ _ kz => pw_aload0 dX12_readPiece_85 kz) ?_
        refine WQ.st (fun _ _ kz => pw_geti gX12_136 dX12_readPiece_86 hF.1 kz) ?_
        refine WQ.bn (fun _ _ ka kb => pw_if_ne (tgt := 96) dX12_readPiece_89 (by decide) ka kb) (fun c89 => ?_) (fun c89 => absurd c89 hw)
        refine WQ.st (fun _ _ kz => pw_aload0 dX12_readPiece_96 kz) ?_
        refine WQ.st (fun _ _ kz => pw_iconst (v := 0) dX12_readPiece_97 (by decide) kz) ?_
        refine WQ.st (fun _ _ kz => pw_bipush (v := 9) dX12_readPiece_98 (by decide) kz) ?_
        refine wq_o2i wX12_takes lX12_190 rfl dX12_readPiece_100 hF.1 ((w_takes (d := 0) hF hw _ _).mn (by omega)) rfl (Nat.le_of_ble_eq_true rfl) (Nat.le_of_ble_eq_true rfl) (fun h100 z100 => ?_)
        subst z100
        refine WQ.st (fun _ _ kz => pw_istore3 dX12_readPiece_103 (by decide) (k := kz)) ?_
        refine WQ.st (fun _ _ kz => pw_aload0 dX12_readPiece_104 kz) ?_
        refine WQ.st (fun _ _ kz => pw_geti gX12_136 dX12_readPiece_105 hF.1 kz) ?_
        refine WQ.br (fun _ _ ka kb => pw_if_eq (tgt := 112) dX12_readPiece_108 (by decide) ka kb) (fun c108 => absurd c108 hw) (fun c108 => ?_)
        refine ⟨_, _, pw_vret dX12_readPiece_111 rfl rfl rfl, ?_⟩
        exact ⟨rfl, _, _, rfl, z1, f1.l⟩
    · rw [bI_0] at c41
      have c41 := of_decide_eq_false c41
      refine WQ.st (fun _ _ kz => pw_aload0 dX12_readPiece_44 kz) ?_
      refine WQ.st (fun _ _ kz => pw_iconst (v := 3) dX12_readPiece_45 (by decide) kz) ?_
      refine wq_o1i wX12_is lX12_142 rfl dX12_readPiece_46 hF.1 (c_isN hF hN.1 (k := 3) rfl) rfl (Nat.le_of_ble_eq_true rfl) (Nat.le_of_ble_eq_true rfl) (fun h46 z46 => ?_)
      subst z46
      refine WQ.br (fun _ _ ka kb => pw_if_eq (tgt := 153) dX12_readPiece_49 (by decide) ka kb) (fun c49 => ?_) (fun c49 => ?_)
      · rw [bI_0] at c49
        have c49 := of_decide_eq_false c49
        rw [if_neg (fun q => q.elim c41 c49)]
        refine WQ.st (fun _ _ kz => pw_aload0 dX12_readPiece_153 kz) ?_
        refine WQ.st (fun _ _ kz => pw_geti gX12_136 dX12_readPiece_154 hF.1 kz) ?_
        refine WQ.bn (fun _ _ ka kb => pw_if_ne (tgt := 170) dX12_readPiece_157 (by decide) ka kb) (fun c157 => absurd hN.1.w0 c157) (fun c157 => ?_)
        refine WQ.st (fun _ _ kz => pw_aload0 dX12_readPiece_160 kz) ?_
        refine WQ.st (fun _ _ kz => pw_getr gX12_24 dX12_readPiece_161 hF.1 (mf_p4 hF) kz) ?_
        refine WQ.st (fun _ _ kz => pw_iconst (v := 1) dX12_readPiece_164 (by decide) kz) ?_
        refine WQ.st (fun _ _ kz => pw_dup2_11 dX12_readPiece_165 rfl rfl kz) ?_
        refine WQ.st (fun _ _ kz => pw_ald (j := 1) dX12_readPiece_166 (mf_s4 hF) rfl (by omega) kz) ?_
        rw [hN.2 1 (by omega)]
        refine WQ.st (fun _ _ kz => pw_iconst (v := 1) dX12_readPiece_167 (by decide) kz) ?_
        refine WQ.st (fun _ _ kz => pw_iadd dX12_readPiece_168 kz) ?_
        refine WQ.st (fun _ _ kz => pw_ast (j := 1) dX12_readPiece_169 (mf_s4 hF) rfl (by omega)  kz) ?_
        refine ⟨_, _, pw_vret dX12_readPiece_170 rfl rfl rfl, ?_⟩
        exact ⟨rfl, _, _, rfl, ⟨hN.put (by omega) _, hB⟩, FRL.a⟩
      · rw [bI_n] at c49
        have c49 := of_decide_eq_true c49
        have hk : TK x L j = 2 ∨ TK x L j = 3 := Or.inr c49
        rw [if_pos hk]
        refine WQ.st (fun _ _ kz => pw_aload0 dX12_readPiece_52 kz) ?_
        refine WQ.st (fun _ _ kz => pw_getr gX12_24 dX12_readPiece_53 hF.1 (mf_p4 hF) kz) ?_
        refine WQ.st (fun _ _ kz => pw_bipush (v := 10) dX12_readPiece_56 (by decide) kz) ?_
        refine WQ.st (fun _ _ kz => pw_iload1 dX12_readPiece_58 kz) ?_
        refine WQ.st (fun _ _ kz => pw_iadd dX12_readPiece_59 kz) ?_
        refine WQ.st (fun _ _ kz => pw_ald (j := (10 + q)) dX12_readPiece_60 (mf_s4 hF) (by rw [show (10 : Int32) = nI 10 from rfl, nI_pl]; exact ix_n (by omega)) (by omega) kz) ?_
        rw [hN.2 _ (by omega), hb]
        refine WQ.st (fun _ _ kz => pw_bipush (v := 12) dX12_readPiece_61 (by decide) kz) ?_
        refine WQ.bn (fun _ _ ka kb => pw_icmp_ne (tgt := 71) dX12_readPiece_63 (by decide) ka kb) (fun c63 => ?_) (fun c63 => ?_)
        · rw [eq_i (ix_n (by omega)) li_12] at c63
          have c63 : ¬ b = 12 := by omega
          rw [if_neg (show ¬ nI b = 12 from fun q => c63 (by rw [eq_i (ix_n (by omega)) li_12] at q; omega))]
          refine WQ.st (fun _ _ kz => pw_aload0 dX12_readPiece_71 kz) ?_
          refine WQ.st (fun _ _ kz => pw_iconst (v := 2) dX12_readPiece_72 (by decide) kz) ?_
          refine wq_o1i wX12_is lX12_142 rfl dX12_readPiece_73 hF.1 (c_isN hF hN.1 (k := 2) rfl) rfl (Nat.le_of_ble_eq_true rfl) (Nat.le_of_ble_eq_true rfl) (fun h73 z73 => ?_)
          subst z73
          refine WQ.br (fun _ _ ka kb => pw_if_eq (tgt := 83) dX12_readPiece_76 (by decide) ka kb) (fun c76 => ?_) (fun c76 => ?_)
          · rw [bI_0] at c76
            have c76 := of_decide_eq_false c76
            refine WQ.st (fun _ _ kz => pw_iconst (v := -1) dX12_readPiece_83 (by decide) kz) ?_
            refine WQ.st (fun _ _ kz => pw_istore2 dX12_readPiece_84 (by decide) (k := kz)) ?_
            refine WQ.st (fun _ _ kz => pw_aload0 dX12_readPiece_85 kz) ?_
            refine WQ.st (fun _ _ kz => pw_geti gX12_136 dX12_readPiece_86 hF.1 kz) ?_
            refine WQ.bn (fun _ _ ka kb => pw_if_ne (tgt := 96) dX12_readPiece_89 (by decide) ka kb) (fun c89 => absurd hN.1.w0 c89) (fun c89 => ?_)
            refine WQ.st (fun _ _ kz => pw_aload0 dX12_readPiece_92 kz) ?_
            refine wq_o0v wX12_nextToken lX12_145 rfl dX12_readPiece_93 hF.1 (c_ntN hF hN.1 (by omega)) rfl (Nat.le_of_ble_eq_true rfl) (Nat.le_of_ble_eq_true rfl) (fun h93 z93 => ?_)
            obtain ⟨V1, A1, rfl, rfl, n1, f1⟩ := z93
            have hB1 := hB.nx hT (k := TK x L j) rfl (by omega)
            refine WQ.st (fun _ _ kz => pw_aload0 dX12_readPiece_96 kz) ?_
            refine WQ.st (fun _ _ kz => pw_iconst (v := 0) dX12_readPiece_97 (by decide) kz) ?_
            refine WQ.st (fun _ _ kz => pw_bipush (v := 9) dX12_readPiece_98 (by decide) kz) ?_
            obtain ⟨_, _, k0, v, rfl, V2, A2, rfl, z2, hv2, f2⟩ := c_takesN (G := G) (D := D) (B := B) (Q := Q) (t := t) (sl := sl) (T := T) (m := m) (hi := 9) hF n1 (by omega) (fun q => hB1.nx hT rfl q) (by omega)
            rw [show (9 : Int32) = nI 9 from rfl]
            refine WQ.st (fun _ _ kz => pw_o2i wX12_takes lX12_190 rfl dX12_readPiece_100 hF.1 (k0) rfl (Nat.le_of_ble_eq_true rfl) (Nat.le_of_ble_eq_true rfl) kz) ?_
            refine WQ.st (fun _ _ kz => pw_istore3 dX12_readPiece_103 (by decide) (k := kz)) ?_
            rw [show (nI b).toInt.toNat = b from by rw [ix_n (by omega)]; rfl]
            unfold tkN at z2
            unfold numR
            by_cases c1 : TK x L (j + 1) = 23
            · rw [if_pos c1] at z2 ⊢
              by_cases c2 : (TV x L (j + 1)).toInt ≤ ((9 : Nat) : Int)
              · rw [if_pos c2] at z2 ⊢
                have z2 : RN x L o (j + 2) c V2 A2 ∧ RB T m (j + 2) c := z2
                rw [hv2 c1]
                have hv2 := hv2 c1
                subst hv2
                rw [if_neg c76]
                show WQ _ _ _ _ _ _ _ (RZF x L o T m c S P B Q t sl ((rpL (TK x L) (TV x L) (TPl x L) q n (j + 2) (pm_up (pm_up F (15 + 12 * q + b) ((-1 : Int32) * TV x L (j + 1))) (10 + q) (nI b + 1))).andThen _) V A)
                refine WQ.st (fun _ _ kz => pw_aload0 dX12_readPiece_104 kz) ?_
                refine WQ.st (fun _ _ kz => pw_geti gX12_136 dX12_readPiece_105 hF.1 kz) ?_
                refine WQ.br (fun _ _ ka kb => pw_if_eq (tgt := 112) dX12_readPiece_108 (by decide) ka kb) (fun c108 => ?_) (fun c108 => absurd z2.1.w0 c108)
                refine WQ.st (fun _ _ kz => pw_aload0 dX12_readPiece_112 kz) ?_
                refine WQ.st (fun _ _ kz => pw_getr gX12_24 dX12_readPiece_113 hF.1 (mf_p4 hF) kz) ?_
                refine WQ.st (fun _ _ kz => pw_bipush (v := 15) dX12_readPiece_116 (by decide) kz) ?_
                refine WQ.st (fun _ _ kz => pw_bipush (v := 12) dX12_readPiece_118 (by decide) kz) ?_
                refine WQ.st (fun _ _ kz => pw_iload1 dX12_readPiece_120 kz) ?_
                refine WQ.st (fun _ _ kz => pw_imul dX12_readPiece_121 kz) ?_
                refine WQ.st (fun _ _ kz => pw_iadd dX12_readPiece_122 kz) ?_
                refine WQ.st (fun _ _ kz => pw_aload0 dX12_readPiece_123 kz) ?_
                refine WQ.st (fun _ _ kz => pw_getr gX12_24 dX12_readPiece_124 hF.1 (mf_p4 hF) kz) ?_
                refine WQ.st (fun _ _ kz => pw_bipush (v := 10) dX12_readPiece_127 (by decide) kz) ?_
                refine WQ.st (fun _ _ kz => pw_iload1 dX12_readPiece_129 kz) ?_
                refine WQ.st (fun _ _ kz => pw_iadd dX12_readPiece_130 kz) ?_
                refine WQ.st (fun _ _ kz => pw_ald (j := (10 + q)) dX12_readPiece_131 (mf_s4 hF) (by rw [show (10 : Int32) = nI 10 from rfl, nI_pl]; exact ix_n (by omega)) (by omega) kz) ?_
                rw [show A2 (o + 4) (10 + q) = nI b from by rw [f2.2.2.2 _ (by omega), f1.2.2.2 _ (by omega), hN.2 _ (by omega)]; exact hb]
                refine WQ.st (fun _ _ kz => pw_iadd dX12_readPiece_132 kz) ?_
                rw [ix_w]
                refine WQ.st (fun _ _ kz => pw_iload2 dX12_readPiece_133 kz) ?_
                refine WQ.st (fun _ _ kz => pw_iload3 dX12_readPiece_134 kz) ?_
                refine WQ.st (fun _ _ kz => pw_imul dX12_readPiece_135 kz) ?_
                refine WQ.st (fun _ _ kz => pw_ast (j := (15 + 12 * q + b)) dX12_readPiece_136 (mf_s4 hF) (ix_n (by omega)) (by omega)  kz) ?_
                refine WQ.st (fun _ _ kz => pw_aload0 dX12_readPiece_137 kz) ?_
                refine WQ.st (fun _ _ kz => pw_getr gX12_24 dX12_readPiece_138 hF.1 (mf_p4 hF) kz) ?_
                refine WQ.st (fun _ _ kz => pw_bipush (v := 10) dX12_readPiece_141 (by decide) kz) ?_
                refine WQ.st (fun _ _ kz => pw_iload1 dX12_readPiece_143 kz) ?_
                refine WQ.st (fun _ _ kz => pw_iadd dX12_readPiece_144 kz) ?_
                refine WQ.st (fun _ _ kz => pw_dup2_11 dX12_readPiece_145 rfl rfl kz) ?_
                refine WQ.st (fun _ _ kz => pw_ald (j := (10 + q)) dX12_readPiece_146 (mf_s4 hF) (by rw [show (10 : Int32) = nI 10 from rfl, nI_pl]; exact ix_n (by omega)) (by omega) kz) ?_
                rw [up2_nk (by omega), show A2 (o + 4) (10 + q) = nI b from by rw [f2.2.2.2 _ (by omega), f1.2.2.2 _ (by omega), hN.2 _ (by omega)]; exact hb]
                refine WQ.st (fun _ _ kz => pw_iconst (v := 1) dX12_readPiece_147 (by decide) kz) ?_
                refine WQ.st (fun _ _ kz => pw_iadd dX12_readPiece_148 kz) ?_
                refine WQ.st (fun _ _ kz => pw_ast (j := (10 + q)) dX12_readPiece_149 (mf_s4 hF) (by rw [show (10 : Int32) = nI 10 from rfl, nI_pl]; exact ix_n (by omega)) (by omega)  kz) ?_
                refine WQ.st (fun _ _ kz => pw_goto (tgt := 29) dX12_readPiece_150 (by decide) kz) ?_
                have n2 : RNF x L o (j + 2) c F V2 A2 := (hN.m n1 f1).m z2.1 f2
                have n3 := (n2.put (k := 15 + 12 * q + b) (by omega) ((-1 : Int32) * TV x L (j + 1))).put (k := 10 + q) (by omega) (nI b + 1)
                have hj2 := z2.2.1
                refine ((ih (j + 2) _ _ _ (b + 1) (by omega) (by omega) n3 (by rw [pm_up_eq]; exact nI_1 b) z2.2).imp (fun r h' z => ?_))
                obtain ⟨z1, V9, A9, z3, z4, z5⟩ := z
                exact ⟨z1, V9, A9, z3, z4, (((f1.l).tr f2.l).tr (FRL.a.tr FRL.a)).tr z5⟩
              · rw [if_neg c2] at z2 ⊢
                refine WQ.st (fun _ _ kz => pw_aload0 dX12_readPiece_104 kz) ?_
                refine WQ.st (fun _ _ kz => pw_geti gX12_136 dX12_readPiece_105 hF.1 kz) ?_
                refine WQ.br (fun _ _ ka kb => pw_if_eq (tgt := 112) dX12_readPiece_108 (by decide) ka kb) (fun c108 => absurd c108 (RX_err z2)) (fun c108 => ?_)
                refine ⟨_, _, pw_vret dX12_readPiece_111 rfl rfl rfl, ?_⟩
                exact ⟨rfl, _, _, rfl, z2, f1.l.tr f2.l⟩
            · rw [if_neg c1] at z2 ⊢
              unfold badT at z2
              unfold badR
              refine WQ.st (fun _ _ kz => pw_aload0 dX12_readPiece_104 kz) ?_
              refine WQ.st (fun _ _ kz => pw_geti gX12_136 dX12_readPiece_105 hF.1 kz) ?_
              refine WQ.br (fun _ _ ka kb => pw_if_eq (tgt := 112) dX12_readPiece_108 (by decide) ka kb) (fun c108 => absurd c108 (RX_err z2)) (fun c108 => ?_)
              refine ⟨_, _, pw_vret dX12_readPiece_111 rfl rfl rfl, ?_⟩
              exact ⟨rfl, _, _, rfl, z2, f1.l.tr f2.l⟩
          · rw [bI_n] at c76
            have c76 := of_decide_eq_true c76
            refine WQ.st (fun _ _ kz => pw_iconst (v := 1) dX12_readPiece_79 (by decide) kz) ?_
            refine WQ.st (fun _ _ kz => pw_goto (tgt := 84) dX12_readPiece_80 (by decide) kz) ?_
            refine WQ.st (fun _ _ kz => pw_istore2 dX12_readPiece_84 (by decide) (k := kz)) ?_
            refine WQ.st (fun _ _ kz => pw_aload0 dX12_readPiece_85 kz) ?_
            refine WQ.st (fun _ _ kz => pw_geti gX12_136 dX12_readPiece_86 hF.1 kz) ?_
            refine WQ.bn (fun _ _ ka kb => pw_if_ne (tgt := 96) dX12_readPiece_89 (by decide) ka kb) (fun c89 => absurd hN.1.w0 c89) (fun c89 => ?_)
            refine WQ.st (fun _ _ kz => pw_aload0 dX12_readPiece_92 kz) ?_
            refine wq_o0v wX12_nextToken lX12_145 rfl dX12_readPiece_93 hF.1 (c_ntN hF hN.1 (by omega)) rfl (Nat.le_of_ble_eq_true rfl) (Nat.le_of_ble_eq_true rfl) (fun h93 z93 => ?_)
            obtain ⟨V1, A1, rfl, rfl, n1, f1⟩ := z93
            have hB1 := hB.nx hT (k := TK x L j) rfl (by omega)
            refine WQ.st (fun _ _ kz => pw_aload0 dX12_readPiece_96 kz) ?_
            refine WQ.st (fun _ _ kz => pw_iconst (v := 0) dX12_readPiece_97 (by decide) kz) ?_
            refine WQ.st (fun _ _ kz => pw_bipush (v := 9) dX12_readPiece_98 (by decide) kz) ?_
            obtain ⟨_, _, k0, v, rfl, V2, A2, rfl, z2, hv2, f2⟩ := c_takesN (G := G) (D := D) (B := B) (Q := Q) (t := t) (sl := sl) (T := T) (m := m) (hi := 9) hF n1 (by omega) (fun q => hB1.nx hT rfl q) (by omega)
            rw [show (9 : Int32) = nI 9 from rfl]
            refine WQ.st (fun _ _ kz => pw_o2i wX12_takes lX12_190 rfl dX12_readPiece_100 hF.1 (k0) rfl (Nat.le_of_ble_eq_true rfl) (Nat.le_of_ble_eq_true rfl) kz) ?_
            refine WQ.st (fun _ _ kz => pw_istore3 dX12_readPiece_103 (by decide) (k := kz)) ?_
            rw [show (nI b).toInt.toNat = b from by rw [ix_n (by omega)]; rfl]
            unfold tkN at z2
            unfold numR
            by_cases c1 : TK x L (j + 1) = 23
            · rw [if_pos c1] at z2 ⊢
              by_cases c2 : (TV x L (j + 1)).toInt ≤ ((9 : Nat) : Int)
              · rw [if_pos c2] at z2 ⊢
                have z2 : RN x L o (j + 2) c V2 A2 ∧ RB T m (j + 2) c := z2
                rw [hv2 c1]
                have hv2 := hv2 c1
                subst hv2
                rw [if_pos c76]
                show WQ _ _ _ _ _ _ _ (RZF x L o T m c S P B Q t sl ((rpL (TK x L) (TV x L) (TPl x L) q n (j + 2) (pm_up (pm_up F (15 + 12 * q + b) ((1 : Int32) * TV x L (j + 1))) (10 + q) (nI b + 1))).andThen _) V A)
                refine WQ.st (fun _ _ kz => pw_aload0 dX12_readPiece_104 kz) ?_
                refine WQ.st (fun _ _ kz => pw_geti gX12_136 dX12_readPiece_105 hF.1 kz) ?_
                refine WQ.br (fun _ _ ka kb => pw_if_eq (tgt := 112) dX12_readPiece_108 (by decide) ka kb) (fun c108 => ?_) (fun c108 => absurd z2.1.w0 c108)
                refine WQ.st (fun _ _ kz => pw_aload0 dX12_readPiece_112 kz) ?_
                refine WQ.st (fun _ _ kz => pw_getr gX12_24 dX12_readPiece_113 hF.1 (mf_p4 hF) kz) ?_
                refine WQ.st (fun _ _ kz => pw_bipush (v := 15) dX12_readPiece_116 (by decide) kz) ?_
                refine WQ.st (fun _ _ kz => pw_bipush (v := 12) dX12_readPiece_118 (by decide) kz) ?_
                refine WQ.st (fun _ _ kz => pw_iload1 dX12_readPiece_120 kz) ?_
                refine WQ.st (fun _ _ kz => pw_imul dX12_readPiece_121 kz) ?_
                refine WQ.st (fun _ _ kz => pw_iadd dX12_readPiece_122 kz) ?_
                refine WQ.st (fun _ _ kz => pw_aload0 dX12_readPiece_123 kz) ?_
                refine WQ.st (fun _ _ kz => pw_getr gX12_24 dX12_readPiece_124 hF.1 (mf_p4 hF) kz) ?_
                refine WQ.st (fun _ _ kz => pw_bipush (v := 10) dX12_readPiece_127 (by decide) kz) ?_
                refine WQ.st (fun _ _ kz => pw_iload1 dX12_readPiece_129 kz) ?_
                refine WQ.st (fun _ _ kz => pw_iadd dX12_readPiece_130 kz) ?_
                refine WQ.st (fun _ _ kz => pw_ald (j := (10 + q)) dX12_readPiece_131 (mf_s4 hF) (by rw [show (10 : Int32) = nI 10 from rfl, nI_pl]; exact ix_n (by omega)) (by omega) kz) ?_
                rw [show A2 (o + 4) (10 + q) = nI b from by rw [f2.2.2.2 _ (by omega), f1.2.2.2 _ (by omega), hN.2 _ (by omega)]; exact hb]
                refine WQ.st (fun _ _ kz => pw_iadd dX12_readPiece_132 kz) ?_
                rw [ix_w]
                refine WQ.st (fun _ _ kz => pw_iload2 dX12_readPiece_133 kz) ?_
                refine WQ.st (fun _ _ kz => pw_iload3 dX12_readPiece_134 kz) ?_
                refine WQ.st (fun _ _ kz => pw_imul dX12_readPiece_135 kz) ?_
                refine WQ.st (fun _ _ kz => pw_ast (j := (15 + 12 * q + b)) dX12_readPiece_136 (mf_s4 hF) (ix_n (by omega)) (by omega)  kz) ?_
                refine WQ.st (fun _ _ kz => pw_aload0 dX12_readPiece_137 kz) ?_
                refine WQ.st (fun _ _ kz => pw_getr gX12_24 dX12_readPiece_138 hF.1 (mf_p4 hF) kz) ?_
                refine WQ.st (fun _ _ kz => pw_bipush (v := 10) dX12_readPiece_141 (by decide) kz) ?_
                refine WQ.st (fun _ _ kz => pw_iload1 dX12_readPiece_143 kz) ?_
                refine WQ.st (fun _ _ kz => pw_iadd dX12_readPiece_144 kz) ?_
                refine WQ.st (fun _ _ kz => pw_dup2_11 dX12_readPiece_145 rfl rfl kz) ?_
                refine WQ.st (fun _ _ kz => pw_ald (j := (10 + q)) dX12_readPiece_146 (mf_s4 hF) (by rw [show (10 : Int32) = nI 10 from rfl, nI_pl]; exact ix_n (by omega)) (by omega) kz) ?_
                rw [up2_nk (by omega), show A2 (o + 4) (10 + q) = nI b from by rw [f2.2.2.2 _ (by omega), f1.2.2.2 _ (by omega), hN.2 _ (by omega)]; exact hb]
                refine WQ.st (fun _ _ kz => pw_iconst (v := 1) dX12_readPiece_147 (by decide) kz) ?_
                refine WQ.st (fun _ _ kz => pw_iadd dX12_readPiece_148 kz) ?_
                refine WQ.st (fun _ _ kz => pw_ast (j := (10 + q)) dX12_readPiece_149 (mf_s4 hF) (by rw [show (10 : Int32) = nI 10 from rfl, nI_pl]; exact ix_n (by omega)) (by omega)  kz) ?_
                refine WQ.st (fun _ _ kz => pw_goto (tgt := 29) dX12_readPiece_150 (by decide) kz) ?_
                have n2 : RNF x L o (j + 2) c F V2 A2 := (hN.m n1 f1).m z2.1 f2
                have n3 := (n2.put (k := 15 + 12 * q + b) (by omega) ((1 : Int32) * TV x L (j + 1))).put (k := 10 + q) (by omega) (nI b + 1)
                have hj2 := z2.2.1
                refine ((ih (j + 2) _ _ _ (b + 1) (by omega) (by omega) n3 (by rw [pm_up_eq]; exact nI_1 b) z2.2).imp (fun r h' z => ?_))
                obtain ⟨z1, V9, A9, z3, z4, z5⟩ := z
                exact ⟨z1, V9, A9, z3, z4, (((f1.l).tr f2.l).tr (FRL.a.tr FRL.a)).tr z5⟩
              · rw [if_neg c2] at z2 ⊢
                refine WQ.st (fun _ _ kz => pw_aload0 dX12_readPiece_104 kz) ?_
                refine WQ.st (fun _ _ kz => pw_geti gX12_136 dX12_readPiece_105 hF.1 kz) ?_
                refine WQ.br (fun _ _ ka kb => pw_if_eq (tgt := 112) dX12_readPiece_108 (by decide) ka kb) (fun c108 => absurd c108 (RX_err z2)) (fun c108 => ?_)
                refine ⟨_, _, pw_vret dX12_readPiece_111 rfl rfl rfl, ?_⟩
                exact ⟨rfl, _, _, rfl, z2, f1.l.tr f2.l⟩
            · rw [if_neg c1] at z2 ⊢
              unfold badT at z2
              unfold badR
              refine WQ.st (fun _ _ kz => pw_aload0 dX12_readPiece_104 kz) ?_
              refine WQ.st (fun _ _ kz => pw_geti gX12_136 dX12_readPiece_105 hF.1 kz) ?_
              refine WQ.br (fun _ _ ka kb => pw_if_eq (tgt := 112) dX12_readPiece_108 (by decide) ka kb) (fun c108 => absurd c108 (RX_err z2)) (fun c108 => ?_)
              refine ⟨_, _, pw_vret dX12_readPiece_111 rfl rfl rfl, ?_⟩
              exact ⟨rfl, _, _, rfl, z2, f1.l.tr f2.l⟩
        · rw [eq_i (ix_n (by omega)) li_12] at c63
          have c63 : b = 12 := by omega
          rw [if_pos (show nI b = 12 by rw [c63]; rfl)]
          refine WQ.st (fun _ _ kz => pw_aload0 dX12_readPiece_66 kz) ?_
          refine WQ.st (fun _ _ kz => pw_iconst (v := 4) dX12_readPiece_67 (by decide) kz) ?_
          refine wq_o1v wX12_fails lX12_148 rfl dX12_readPiece_68 hF.1 (c_failsN (T := T) (m := m) hF hN.1 (by decide)) rfl (Nat.le_of_ble_eq_true rfl) (Nat.le_of_ble_eq_true rfl) (fun h68 z68 => ?_)
          obtain ⟨V1, A1, rfl, z1, f1, _⟩ := z68
          have hw := RX_bad z1
          unfold badT at z1
          rw [if_neg (by omega)] at z1
          refine WQ.st (fun _ _ kz => pw_aload0 dX12_readPiece_71 kz) ?_
          refine WQ.st (fun _ _ kz => pw_iconst (v := 2) dX12_readPiece_72 (by decide) kz) ?_
          refine wq_o1i wX12_is lX12_142 rfl dX12_readPiece_73 hF.1 (c_isW hF hw _) rfl (Nat.le_of_ble_eq_true rfl) (Nat.le_of_ble_eq_true rfl) (fun h73 z73 => ?_)
          subst z73
          refine WQ.br (fun _ _ ka kb => pw_if_eq (tgt := 83) dX12_readPiece_76 (by decide) ka kb) (fun c76 => ?_) (fun c76 => absurd (by decide) c76)
          refine WQ.st (fun _ _ kz => pw_iconst (v := -1) dX12_readPiece_83 (by decide) kz) ?_
          refine WQ.st (fun _ _ kz => pw_istore2 dX12_readPiece_84 (by decide) (k := kz)) ?_
          refine WQ.st (fun _ _ kz => pw_aload0 dX12_readPiece_85 kz) ?_
          refine WQ.st (fun _ _ kz => pw_geti gX12_136 dX12_readPiece_86 hF.1 kz) ?_
          refine WQ.bn (fun _ _ ka kb => pw_if_ne (tgt := 96) dX12_readPiece_89 (by decide) ka kb) (fun c89 => ?_) (fun c89 => absurd c89 hw)
          refine WQ.st (fun _ _ kz => pw_aload0 dX12_readPiece_96 kz) ?_
          refine WQ.st (fun _ _ kz => pw_iconst (v := 0) dX12_readPiece_97 (by decide) kz) ?_
          refine WQ.st (fun _ _ kz => pw_bipush (v := 9) dX12_readPiece_98 (by decide) kz) ?_
          refine wq_o2i wX12_takes lX12_190 rfl dX12_readPiece_100 hF.1 ((w_takes (d := 0) hF hw _ _).mn (by omega)) rfl (Nat.le_of_ble_eq_true rfl) (Nat.le_of_ble_eq_true rfl) (fun h100 z100 => ?_)
          subst z100
          refine WQ.st (fun _ _ kz => pw_istore3 dX12_readPiece_103 (by decide) (k := kz)) ?_
          refine WQ.st (fun _ _ kz => pw_aload0 dX12_readPiece_104 kz) ?_
          refine WQ.st (fun _ _ kz => pw_geti gX12_136 dX12_readPiece_105 hF.1 kz) ?_
          refine WQ.br (fun _ _ ka kb => pw_if_eq (tgt := 112) dX12_readPiece_108 (by decide) ka kb) (fun c108 => absurd c108 hw) (fun c108 => ?_)
          refine ⟨_, _, pw_vret dX12_readPiece_111 rfl rfl rfl, ?_⟩
          exact ⟨rfl, _, _, rfl, z1, f1.l⟩
