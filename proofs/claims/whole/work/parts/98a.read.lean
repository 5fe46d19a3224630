/-! ===== the reference: reading ===== -/
def RN (x : Nat → Int32) (L o i : Nat) (c : List Int32) (V A : sV) : Prop := TXR x L o V A ∧ V o 11 = 0 ∧ V o 9 = nI (TK x L i) ∧ V o 6 = nI (TPl x L i) ∧ V o 7 = nI (tkP x L (i + 1)) ∧ (TK x L i = 23 → V o 10 = TV x L i) ∧ A (o + 4) 263 = nI c.length ∧ ∀ k, k < c.length → A (o + 4) (264 + k) = c.getD k 0
def RX (x : Nat → Int32) (L o T m : Nat) (r : PR) (V A : sV) : Prop := match r with | .error e => V o 11 = e.1 ∧ e.1 ≠ 0 ∧ V o 12 = nI e.2 | .ok s => RN x L o s.1 s.2 V A ∧ RB T m s.1 s.2
def FRM (o : Nat) (V0 A0 V A : sV) : Prop := (∀ a, a ≠ o → V a = V0 a) ∧ (∀ k, k ≠ 6 → k ≠ 7 → k ≠ 9 → k ≠ 10 → k ≠ 11 → k ≠ 12 → V o k = V0 o k) ∧ (∀ a, a ≠ o + 4 → A a = A0 a) ∧ ∀ k, k < 263 → A (o + 4) k = A0 (o + 4) k
theorem FRM.rfl {o : Nat} {V A : sV} : FRM o V A V A := ⟨fun _ _ => _root_.rfl, fun _ _ _ _ _ _ _ => _root_.rfl, fun _ _ => _root_.rfl, fun _ _ => _root_.rfl⟩
theorem FRM.tr {o : Nat} {V A V1 A1 V2 A2 : sV} (h : FRM o V A V1 A1) (g : FRM o V1 A1 V2 A2) : FRM o V A V2 A2 := ⟨fun a ha => (g.1 a ha).trans (h.1 a ha), fun k a b c d e f => (g.2.1 k a b c d e f).trans (h.2.1 k a b c d e f), fun a ha => (g.2.2.1 a ha).trans (h.2.2.1 a ha), fun k hk => (g.2.2.2 k hk).trans (h.2.2.2 k hk)⟩
theorem FRV.m {o : Nat} {V V' A : sV} (h : FRV o V V') : FRM o V A V' A := ⟨h.1, fun k a b c d _ _ => h.2 k a b c d, fun _ _ => _root_.rfl, fun _ _ => _root_.rfl⟩
theorem FRM.v {o : Nat} {V A : sV} {k : Nat} {y : Int32} (hk : k = 11 ∨ k = 12) : FRM o V A (up2 V o k y) A := ⟨fun a ha => up2_na ha, fun j _ _ _ _ h5 h6 => up2_nk (by omega), fun _ _ => _root_.rfl, fun _ _ => _root_.rfl⟩
section RNS
variable {x : Nat → Int32} {L o i : Nat} {c : List Int32} {V A : sV}
theorem RN.tx (h : RN x L o i c V A) : TXR x L o V A := h.1
theorem RN.w0 (h : RN x L o i c V A) : V o 11 = 0 := h.2.1
theorem RN.kd (h : RN x L o i c V A) : V o 9 = nI (TK x L i) := h.2.2.1
theorem RN.pl (h : RN x L o i c V A) : V o 6 = nI (TPl x L i) := h.2.2.2.1
theorem RN.be (h : RN x L o i c V A) : V o 7 = nI (tkP x L (i + 1)) := h.2.2.2.2.1
theorem RN.nu (h : RN x L o i c V A) : TK x L i = 23 → V o 10 = TV x L i := h.2.2.2.2.2.1
theorem RN.le (h : RN x L o i c V A) : A (o + 4) 263 = nI c.length := h.2.2.2.2.2.2.1
theorem RN.co (h : RN x L o i c V A) : ∀ k, k < c.length → A (o + 4) (264 + k) = c.getD k 0 := h.2.2.2.2.2.2.2
theorem TK_lt (x : Nat → Int32) (L i : Nat) : TK x L i < 42 := by
  unfold TK tkK
  split
  · split
    · have := wR_n (x := x) (tkS x L (tkP x L i)) (tkE x L (tkP x L i)); omega
    · split
      · split <;> omega
      · have := sgF_n (x (tkS x L (tkP x L i))) 12; omega
  · omega
theorem RN.k (h : RN x L o i c V A) {k : Nat} {y : Int32} (hy : y.toInt = (k : Int)) : V o 9 = y ↔ TK x L i = k := by
  have := TK_lt x L i
  rw [h.kd, eq_i (ix_n (by omega)) hy]
  omega
theorem RN.say (h : RN x L o i c V A) (v : Int32) : RN x L o i (c ++ [v]) V (up2 (up2 A (o + 4) (264 + c.length) v) (o + 4) 263 (nI (c.length + 1))) := by
  refine ⟨⟨h.tx.1, h.tx.2.1, fun j hj => by rw [up2_na (by omega), up2_na (by omega)]; exact h.tx.2.2 j hj⟩, h.w0, h.kd, h.pl, h.be, h.nu, by rw [up2_eq, List.length_append]; rfl, fun k hk => ?_⟩
  rw [List.length_append] at hk
  have hk : k < c.length + 1 := hk
  rw [up2_nk (by omega), up2_at]
  unfold pm_up
  by_cases e : k = c.length
  · rw [if_pos (by omega), e]
    simp [List.getD]
  · rw [if_neg (by omega), h.co k (by omega)]
    simp [List.getD, List.getElem?_append_left (show k < c.length by omega)]
end RNS
set_option maxRecDepth 20000 in
theorem c_isR {G : gT} {d : Nat} {S : sS} {V : sV} {P : sP} {A : sV} {B : sB} {Q : sP} {t sl o : Nat} (hF : MF S P o) (y : Int32) : WQ G d mX12_is 0 [some (.ref o), some (.int y)] [] (t, sl, gh S V P A B Q) (fun r h' => r = some (.int (bI (decide (V o 11 = 0 ∧ V o 9 = y)))) ∧ h' = (t, sl, gh S V P A B Q)) := by
  refine WQ.st (fun _ _ kz => pw_aload0 dX12_is_0 kz) ?_
  refine WQ.st (fun _ _ kz => pw_geti gX12_136 dX12_is_1 hF.1 kz) ?_
  refine WQ.bn (fun _ _ ka kb => pw_if_ne (tgt := 19) dX12_is_4 (by decide) ka kb) (fun c4 => ?_) (fun c4 => ?_)
  · have c4 : ¬ V o 11 = 0 := c4
    refine WQ.st (fun _ _ kz => pw_iconst (v := 0) dX12_is_19 (by decide) kz) ?_
    refine ⟨_, _, pw_iret dX12_is_20 rfl rfl rfl rfl, ?_⟩
    exact ⟨rI (bI_z (decide_eq_false (fun q => c4 q.1))), rfl⟩
  · refine WQ.st (fun _ _ kz => pw_aload0 dX12_is_7 kz) ?_
    refine WQ.st (fun _ _ kz => pw_geti gX12_118 dX12_is_8 hF.1 kz) ?_
    refine WQ.st (fun _ _ kz => pw_iload1 dX12_is_11 kz) ?_
    refine WQ.bn (fun _ _ ka kb => pw_icmp_ne (tgt := 19) dX12_is_12 (by decide) ka kb) (fun c12 => ?_) (fun c12 => ?_)
    · refine WQ.st (fun _ _ kz => pw_iconst (v := 0) dX12_is_19 (by decide) kz) ?_
      refine ⟨_, _, pw_iret dX12_is_20 rfl rfl rfl rfl, ?_⟩
      exact ⟨rI (bI_z (decide_eq_false (fun q => c12 q.2))), rfl⟩
    · refine WQ.st (fun _ _ kz => pw_iconst (v := 1) dX12_is_15 (by decide) kz) ?_
      refine WQ.st (fun _ _ kz => pw_goto (tgt := 20) dX12_is_16 (by decide) kz) ?_
      refine ⟨_, _, pw_iret dX12_is_20 rfl rfl rfl rfl, ?_⟩
      exact ⟨rI (bI_t (decide_eq_true ⟨c4, c12⟩)), rfl⟩
theorem c_isN {G : gT} {d : Nat} {S : sS} {V : sV} {P : sP} {A : sV} {B : sB} {Q : sP} {t sl o : Nat} (hF : MF S P o) {x : Nat → Int32} {L : Nat} {i : Nat} {c : List Int32} (hN : RN x L o i c V A) {k : Nat} {y : Int32} (hy : y.toInt = (k : Int)) : WQ G d mX12_is 0 [some (.ref o), some (.int y)] [] (t, sl, gh S V P A B Q) (fun r h' => r = some (.int (bI (decide (TK x L i = k)))) ∧ h' = (t, sl, gh S V P A B Q)) := by
  have k1 := c_isR (G := G) (d := d) (V := V) (A := A) (B := B) (Q := Q) (t := t) (sl := sl) hF y
  rw [show decide (V o 11 = 0 ∧ V o 9 = y) = decide (TK x L i = k) from decide_eq_decide.mpr ⟨fun q => (hN.k hy).mp q.2, fun q => ⟨hN.w0, (hN.k hy).mpr q⟩⟩] at k1
  exact k1
theorem c_isW {G : gT} {d : Nat} {S : sS} {V : sV} {P : sP} {A : sV} {B : sB} {Q : sP} {t sl o : Nat} (hF : MF S P o) (hw : ¬ V o 11 = 0) (y : Int32) : WQ G d mX12_is 0 [some (.ref o), some (.int y)] [] (t, sl, gh S V P A B Q) (fun r h' => r = some (.int (bI false)) ∧ h' = (t, sl, gh S V P A B Q)) := by
  have k1 := c_isR (G := G) (d := d) (V := V) (A := A) (B := B) (Q := Q) (t := t) (sl := sl) hF y
  rw [decide_eq_false (fun q => hw q.1)] at k1
  exact k1
set_option maxRecDepth 20000 in
theorem c_failsW {G : gT} {d : Nat} {S : sS} {V : sV} {P : sP} {A : sV} {B : sB} {Q : sP} {t sl o : Nat} (hF : MF S P o) (hw : ¬ V o 11 = 0) (y : Int32) : WQ G d mX12_fails 0 [some (.ref o), some (.int y)] [] (t, sl, gh S V P A B Q) (fun r h' => r = none ∧ h' = (t, sl, gh S V P A B Q)) := by
  refine WQ.st (fun _ _ kz => pw_aload0 dX12_fails_0 kz) ?_
  refine WQ.st (fun _ _ kz => pw_geti gX12_136 dX12_fails_1 hF.1 kz) ?_
  refine WQ.br (fun _ _ ka kb => pw_if_eq (tgt := 8) dX12_fails_4 (by decide) ka kb) (fun c4 => absurd c4 hw) (fun c4 => ?_)
  refine ⟨_, _, pw_vret dX12_fails_7 rfl rfl rfl, ?_⟩
  exact ⟨rfl, rfl⟩
set_option maxRecDepth 20000 in
theorem c_failsN {G : gT} {d : Nat} {S : sS} {V : sV} {P : sP} {A : sV} {B : sB} {Q : sP} {t sl o : Nat} (hF : MF S P o) {x : Nat → Int32} {L T m : Nat} {i : Nat} {c : List Int32} (hN : RN x L o i c V A) {y : Int32} (hy : y ≠ 0) : WQ G d mX12_fails 0 [some (.ref o), some (.int y)] [] (t, sl, gh S V P A B Q) (fun r h' => r = none ∧ ∃ V' A' : sV, h' = (t, sl, gh S V' P A' B Q) ∧ RX x L o T m (badT (TK x L) (TPl x L) i y) V' A' ∧ FRM o V A V' A' ∧ V' o 10 = V o 10) := by
  refine WQ.st (fun _ _ kz => pw_aload0 dX12_fails_0 kz) ?_
  refine WQ.st (fun _ _ kz => pw_geti gX12_136 dX12_fails_1 hF.1 kz) ?_
  refine WQ.br (fun _ _ ka kb => pw_if_eq (tgt := 8) dX12_fails_4 (by decide) ka kb) (fun c4 => ?_) (fun c4 => absurd hN.w0 c4)
  refine WQ.st (fun _ _ kz => pw_aload0 dX12_fails_8 kz) ?_
  refine WQ.st (fun _ _ kz => pw_aload0 dX12_fails_9 kz) ?_
  refine WQ.st (fun _ _ kz => pw_geti gX12_118 dX12_fails_10 hF.1 kz) ?_
  refine WQ.st (fun _ _ kz => pw_bipush (v := 25) dX12_fails_13 (by decide) kz) ?_
  refine WQ.bn (fun _ _ ka kb => pw_icmp_ne (tgt := 22) dX12_fails_15 (by decide) ka kb) (fun c15 => ?_) (fun c15 => ?_)
  · have c15 : ¬ TK x L i = 25 := fun q => c15 ((hN.k (k := 25) rfl).mpr q)
    refine WQ.st (fun _ _ kz => pw_iload1 dX12_fails_22 kz) ?_
    refine WQ.st (fun _ _ kz => pw_puti (pX12_136 _ rfl) dX12_fails_23 hF.1 rfl rfl kz) ?_
    refine WQ.st (fun _ _ kz => pw_aload0 dX12_fails_26 kz) ?_
    refine WQ.st (fun _ _ kz => pw_aload0 dX12_fails_27 kz) ?_
    refine WQ.st (fun _ _ kz => pw_geti gX12_108 dX12_fails_28 hF.1 kz) ?_
    refine WQ.st (fun _ _ kz => pw_puti (pX12_139 _ rfl) dX12_fails_31 hF.1 rfl rfl kz) ?_
    refine ⟨_, _, pw_vret dX12_fails_34 rfl rfl rfl, ?_⟩
    refine ⟨rfl, _, A, rfl, ?_, (FRM.v (by omega)).tr (FRM.v (by omega)), by rw [up2_nk (by omega), up2_nk (by omega)]⟩
    unfold badT
    rw [if_neg c15]
    exact ⟨by rw [up2_nk (by omega), up2_eq], hy, by rw [up2_eq, up2_nk (by omega)]; exact hN.pl⟩
  · have c15 := (hN.k (k := 25) rfl).mp c15
    refine WQ.st (fun _ _ kz => pw_iconst (v := 1) dX12_fails_18 (by decide) kz) ?_
    refine WQ.st (fun _ _ kz => pw_goto (tgt := 23) dX12_fails_19 (by decide) kz) ?_
    refine WQ.st (fun _ _ kz => pw_puti (pX12_136 _ rfl) dX12_fails_23 hF.1 rfl rfl kz) ?_
    refine WQ.st (fun _ _ kz => pw_aload0 dX12_fails_26 kz) ?_
    refine WQ.st (fun _ _ kz => pw_aload0 dX12_fails_27 kz) ?_
    refine WQ.st (fun _ _ kz => pw_geti gX12_108 dX12_fails_28 hF.1 kz) ?_
    refine WQ.st (fun _ _ kz => pw_puti (pX12_139 _ rfl) dX12_fails_31 hF.1 rfl rfl kz) ?_
    refine ⟨_, _, pw_vret dX12_fails_34 rfl rfl rfl, ?_⟩
    refine ⟨rfl, _, A, rfl, ?_, (FRM.v (by omega)).tr (FRM.v (by omega)), by rw [up2_nk (by omega), up2_nk (by omega)]⟩
    unfold badT
    rw [if_pos c15]
    exact ⟨by rw [up2_nk (by omega), up2_eq], (by decide : (1 : Int32) ≠ 0), by rw [up2_eq, up2_nk (by omega)]; exact hN.pl⟩
theorem c_ntN {G : gT} {S : sS} {V : sV} {P : sP} {A : sV} {B : sB} {Q : sP} {t sl o : Nat} (hF : MF S P o) {x : Nat → Int32} {L : Nat} {i : Nat} {c : List Int32} (hN : RN x L o i c V A) {D : Nat} (hD : 5 ≤ D) : WQ G D mX12_nextToken 0 [some (.ref o), none] [] (t, sl, gh S V P A B Q) (fun r h' => r = none ∧ ∃ V' A' : sV, h' = (t, sl, gh S V' P A' B Q) ∧ A = A' ∧ RN x L o (i + 1) c V' A' ∧ FRM o V A V' A') := by
  have k := (c_nextToken (G := G) (d := 0) (B := B) (Q := Q) (t := t) (sl := sl) hF hN.tx (tkP_le (x := x) (L := L) (i + 1)) hN.be).mn hD
  refine k.imp (fun r h' z => ?_)
  obtain ⟨rfl, V', rfl, f1, h6, h7, h9, h10⟩ := z
  exact ⟨rfl, V', A, rfl, rfl, ⟨hN.tx.fr f1, by rw [f1.2 11 (by omega) (by omega) (by omega) (by omega)]; exact hN.w0, h9, h6, h7, h10, hN.le, hN.co⟩, f1.m⟩
set_option maxRecDepth 20000 in
theorem c_eatsW {G : gT} {d : Nat} {S : sS} {V : sV} {P : sP} {A : sV} {B : sB} {Q : sP} {t sl o : Nat} (hF : MF S P o) (hw : ¬ V o 11 = 0) (y : Int32) : WQ G (d + 1) mX12_eats 0 [some (.ref o), some (.int y)] [] (t, sl, gh S V P A B Q) (fun r h' => r = some (.int (bI false)) ∧ h' = (t, sl, gh S V P A B Q)) := by
  refine WQ.st (fun _ _ kz => pw_aload0 dX12_eats_0 kz) ?_
  refine WQ.st (fun _ _ kz => pw_iload1 dX12_eats_1 kz) ?_
  refine wq_o1i wX12_is lX12_142 rfl dX12_eats_2 hF.1 (c_isW hF hw _) rfl (Nat.le_of_ble_eq_true rfl) (Nat.le_of_ble_eq_true rfl) (fun h2 z2 => ?_)
  subst z2
  refine WQ.bn (fun _ _ ka kb => pw_if_ne (tgt := 10) dX12_eats_5 (by decide) ka kb) (fun c5 => absurd (by decide) c5) (fun c5 => ?_)
  refine WQ.st (fun _ _ kz => pw_iconst (v := 0) dX12_eats_8 (by decide) kz) ?_
  refine ⟨_, _, pw_iret dX12_eats_9 rfl rfl rfl rfl, ?_⟩
  exact ⟨rfl, rfl⟩
set_option maxRecDepth 20000 in
theorem c_eatsN {G : gT} {S : sS} {V : sV} {P : sP} {A : sV} {B : sB} {Q : sP} {t sl o : Nat} (hF : MF S P o) {x : Nat → Int32} {L : Nat} {i : Nat} {c : List Int32} (hN : RN x L o i c V A) {k : Nat} {y : Int32} (hy : y.toInt = (k : Int)) {D : Nat} (hD : 6 ≤ D) : WQ G D mX12_eats 0 [some (.ref o), some (.int y)] [] (t, sl, gh S V P A B Q) (fun r h' => r = some (.int (bI (decide (TK x L i = k)))) ∧ ∃ V' A' : sV, h' = (t, sl, gh S V' P A' B Q) ∧ (TK x L i = k → RN x L o (i + 1) c V' A') ∧ (¬ TK x L i = k → V' = V ∧ A' = A) ∧ FRM o V A V' A') := by
  obtain ⟨D, rfl⟩ : ∃ D', D = D' + 1 := ⟨D - 1, by omega⟩
  refine WQ.st (fun _ _ kz => pw_aload0 dX12_eats_0 kz) ?_
  refine WQ.st (fun _ _ kz => pw_iload1 dX12_eats_1 kz) ?_
  refine wq_o1i wX12_is lX12_142 rfl dX12_eats_2 hF.1 (c_isN hF hN hy) rfl (Nat.le_of_ble_eq_true rfl) (Nat.le_of_ble_eq_true rfl) (fun h2 z2 => ?_)
  subst z2
  refine WQ.bn (fun _ _ ka kb => pw_if_ne (tgt := 10) dX12_eats_5 (by decide) ka kb) (fun c5 => ?_) (fun c5 => ?_)
  · rw [bI_n] at c5
    refine WQ.st (fun _ _ kz => pw_aload0 dX12_eats_10 kz) ?_
    refine wq_o0v wX12_nextToken lX12_145 rfl dX12_eats_11 hF.1 (c_ntN hF hN (by omega)) rfl (Nat.le_of_ble_eq_true rfl) (Nat.le_of_ble_eq_true rfl) (fun h11 z11 => ?_)
    obtain ⟨V1, A1, rfl, rfl, n1, f1⟩ := z11
    refine WQ.st (fun _ _ kz => pw_iconst (v := 1) dX12_eats_14 (by decide) kz) ?_
    refine ⟨_, _, pw_iret dX12_eats_15 rfl rfl rfl rfl, ?_⟩
    have c5 := of_decide_eq_true c5
    exact ⟨rI (bI_t (decide_eq_true c5)), V1, A, rfl, fun _ => n1, fun q => absurd c5 q, f1⟩
  · rw [bI_0] at c5
    refine WQ.st (fun _ _ kz => pw_iconst (v := 0) dX12_eats_8 (by decide) kz) ?_
    refine ⟨_, _, pw_iret dX12_eats_9 rfl rfl rfl rfl, ?_⟩
    have c5 := of_decide_eq_false c5
    exact ⟨rI (bI_z (decide_eq_false c5)), V, A, rfl, fun q => absurd q c5, fun _ => ⟨rfl, rfl⟩, FRM.rfl⟩
set_option maxRecDepth 20000 in
theorem c_codesW {G : gT} {d : Nat} {S : sS} {V : sV} {P : sP} {A : sV} {B : sB} {Q : sP} {t sl o : Nat} (hF : MF S P o) (hw : ¬ V o 11 = 0) (y : Int32) : WQ G d mX12_codes 0 [some (.ref o), some (.int y)] [] (t, sl, gh S V P A B Q) (fun r h' => r = none ∧ h' = (t, sl, gh S V P A B Q)) := by
  refine WQ.st (fun _ _ kz => pw_aload0 dX12_codes_0 kz) ?_
  refine WQ.st (fun _ _ kz => pw_geti gX12_136 dX12_codes_1 hF.1 kz) ?_
  refine WQ.br (fun _ _ ka kb => pw_if_eq (tgt := 8) dX12_codes_4 (by decide) ka kb) (fun c4 => absurd c4 hw) (fun c4 => ?_)
  refine ⟨_, _, pw_vret dX12_codes_7 rfl rfl rfl, ?_⟩
  exact ⟨rfl, rfl⟩
set_option maxRecDepth 20000 in
theorem c_codesN {G : gT} {d : Nat} {S : sS} {V : sV} {P : sP} {A : sV} {B : sB} {Q : sP} {t sl o : Nat} (hF : MF S P o) {x : Nat → Int32} {L : Nat} {i : Nat} {c : List Int32} (hN : RN x L o i c V A) (hc : c.length < 900) (y : Int32) : WQ G d mX12_codes 0 [some (.ref o), some (.int y)] [] (t, sl, gh S V P A B Q) (fun r h' => r = none ∧ ∃ V' A' : sV, h' = (t, sl, gh S V' P A' B Q) ∧ RN x L o i (c ++ [y]) V' A' ∧ FRM o V A V' A') := by
  refine WQ.st (fun _ _ kz => pw_aload0 dX12_codes_0 kz) ?_
  refine WQ.st (fun _ _ kz => pw_geti gX12_136 dX12_codes_1 hF.1 kz) ?_
  refine WQ.br (fun _ _ ka kb => pw_if_eq (tgt := 8) dX12_codes_4 (by decide) ka kb) (fun c4 => ?_) (fun c4 => absurd hN.w0 c4)
  refine WQ.st (fun _ _ kz => pw_aload0 dX12_codes_8 kz) ?_
  refine WQ.st (fun _ _ kz => pw_getr gX12_24 dX12_codes_9 hF.1 (mf_p4 hF) kz) ?_
  refine WQ.st (fun _ _ kz => pw_sipush (v := 264) dX12_codes_12 (by decide) kz) ?_
  refine WQ.st (fun _ _ kz => pw_aload0 dX12_codes_15 kz) ?_
  refine WQ.st (fun _ _ kz => pw_getr gX12_24 dX12_codes_16 hF.1 (mf_p4 hF) kz) ?_
  refine WQ.st (fun _ _ kz => pw_sipush (v := 263) dX12_codes_19 (by decide) kz) ?_
  refine WQ.st (fun _ _ kz => pw_ald (j := 263) dX12_codes_22 (mf_s4 hF) rfl (by omega) kz) ?_
  rw [hN.le, show (264 : Int32) = nI 264 from rfl]
  refine WQ.st (fun _ _ kz => pw_iadd dX12_codes_23 kz) ?_
  rw [nI_pl]
  refine WQ.st (fun _ _ kz => pw_iload1 dX12_codes_24 kz) ?_
  refine WQ.st (fun _ _ kz => pw_ast (j := (264 + c.length)) dX12_codes_25 (mf_s4 hF) (ix_n (by omega)) (by omega)  kz) ?_
  refine WQ.st (fun _ _ kz => pw_aload0 dX12_codes_26 kz) ?_
  refine WQ.st (fun _ _ kz => pw_getr gX12_24 dX12_codes_27 hF.1 (mf_p4 hF) kz) ?_
  refine WQ.st (fun _ _ kz => pw_sipush (v := 263) dX12_codes_30 (by decide) kz) ?_
  refine WQ.st (fun _ _ kz => pw_dup2_11 dX12_codes_33 rfl rfl kz) ?_
  refine WQ.st (fun _ _ kz => pw_ald (j := 263) dX12_codes_34 (mf_s4 hF) rfl (by omega) kz) ?_
  rw [up2_nk (by omega), hN.le]
  refine WQ.st (fun _ _ kz => pw_iconst (v := 1) dX12_codes_35 (by decide) kz) ?_
  refine WQ.st (fun _ _ kz => pw_iadd dX12_codes_36 kz) ?_
  rw [nI_1]
  refine WQ.st (fun _ _ kz => pw_ast (j := 263) dX12_codes_37 (mf_s4 hF) rfl (by omega)  kz) ?_
  refine ⟨_, _, pw_vret dX12_codes_38 rfl rfl rfl, ?_⟩
  exact ⟨rfl, V, _, rfl, hN.say y, fun _ _ => rfl, fun _ _ _ _ _ _ _ => rfl, fun a ha => by rw [up2_na ha, up2_na ha], fun k hk => by rw [up2_nk (by omega), up2_nk (by omega)]⟩
