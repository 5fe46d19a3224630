/-! ===== the class: reading ===== -/
/-- before token i -/
def KN (x : Nat → Int32) (L T i : Nat) (V A : sV) : Prop := KT x L (T + 1) V A ∧ V 10 6 = nI i ∧ i ≤ T ∧ T ≤ 900 ∧ V 10 8 = nI L ∧ V 10 0 = 0 ∧ V 10 1 = -1
section KNS
variable {x : Nat → Int32} {L T i : Nat} {V A : sV}
theorem KN.tk (h : KN x L T i V A) : V 10 5 = nI (T + 1) := h.1.1
theorem KN.at (h : KN x L T i V A) : V 10 6 = nI i := h.2.1
theorem KN.le (h : KN x L T i V A) : i ≤ T := h.2.2.1
theorem KN.t9 (h : KN x L T i V A) : T ≤ 900 := h.2.2.2.1
theorem KN.kd (h : KN x L T i V A) : A 11 i = ccK (TK x L i) := (h.1.2 i (by have := h.le; omega)).1
theorem KN.pl (h : KN x L T i V A) : A 13 i = nI (TPl x L i) := (h.1.2 i (by have := h.le; omega)).2.1
theorem KN.nu (h : KN x L T i V A) : TK x L i = 23 → A 12 i = TV x L i := (h.1.2 i (by have := h.le; omega)).2.2
theorem TK_o : tkO (TK x L i) := tkK_o _
end KNS
/-- only where the reader is, and its fault -/
def FRK (V0 V : sV) : Prop := (∀ a, a ≠ 10 → V a = V0 a) ∧ ∀ k, k ≠ 0 → k ≠ 1 → k ≠ 6 → V 10 k = V0 10 k
theorem FRK.rfl {V : sV} : FRK V V := ⟨fun _ _ => _root_.rfl, fun _ _ _ _ => _root_.rfl⟩
theorem FRK.tr {V V1 V2 : sV} (h : FRK V V1) (g : FRK V1 V2) : FRK V V2 := ⟨fun a ha => (g.1 a ha).trans (h.1 a ha), fun k a b c => (g.2 k a b c).trans (h.2 k a b c)⟩
theorem FRK.up {V : sV} {k : Nat} {y : Int32} (hk : k = 0 ∨ k = 1 ∨ k = 6) : FRK V (up2 V 10 k y) := ⟨fun a ha => up2_na ha, fun j h0 h1 h6 => up2_nk (by omega)⟩
theorem KN.go {x : Nat → Int32} {L T i : Nat} {V A : sV} (h : KN x L T i V A) (hi : i < T) : KN x L T (i + 1) (up2 V 10 6 (nI (i + 1))) A := ⟨⟨by rw [up2_nk (by omega)]; exact h.1.1, h.1.2⟩, up2_eq, hi, h.t9, by rw [up2_nk (by omega)]; exact h.2.2.2.2.1, by rw [up2_nk (by omega)]; exact h.2.2.2.2.2.1, by rw [up2_nk (by omega)]; exact h.2.2.2.2.2.2⟩
theorem KN.lt {x : Nat → Int32} {L T i k : Nat} {V A : sV} (h : KN x L T i V A) (hT : TK x L T = 24) (hk : TK x L i = k) (hn : k ≠ 24) : i < T := lt_T hT h.le hk hn
theorem KN.fr {x : Nat → Int32} {L T i : Nat} {V A V' A' : sV} (h : KN x L T i V A) (hV : V' 10 = V 10) (h1 : A' 11 = A 11) (h2 : A' 12 = A 12) (h3 : A' 13 = A 13) : KN x L T i V' A' := by
  unfold KN KT
  rw [hV, h1, h2, h3]
  exact h
/-- a fault -/
def KE (e : Int32 × Nat) (V : sV) : Prop := V 10 0 = e.1 ∧ V 10 1 = nI e.2
set_option maxRecDepth 20000 in
theorem k_kind {G : gT} {d : Nat} {S : sS} {V : sV} {P : sP} {A : sV} {B : sB} {Q : sP} {t sl : Nat} (hC : CF S P) {x : Nat → Int32} {L T i : Nat} (hN : KN x L T i V A) : WQ G d mX6_kind 0 [some (.ref 10)] [] (t, sl, gh S V P A B Q) (fun r h' => r = some (.int (ccK (TK x L i))) ∧ h' = (t, sl, gh S V P A B Q)) := by
  have hiT := hN.le
  have ht9 := hN.t9
  refine WQ.st (fun _ _ kz => pw_aload0 dX6_kind_0 kz) ?_
  refine WQ.st (fun _ _ kz => pw_geti gX6_31 dX6_kind_1 (cf_s10 hC) kz) ?_
  rw [hN.at]
  refine WQ.st (fun _ _ kz => pw_aload0 dX6_kind_4 kz) ?_
  refine WQ.st (fun _ _ kz => pw_geti gX6_28 dX6_kind_5 (cf_s10 hC) kz) ?_
  rw [hN.tk]
  refine WQ.br (fun _ _ ka kb => pw_icmp_ge (tgt := 23) dX6_kind_8 (by decide) ka kb) (fun c8 => absurd c8 (by rw [le_i (ix_n (by omega)) (ix_n (by omega))]; omega)) (fun c8 => ?_)
  refine WQ.st (fun _ _ kz => pw_aload0 dX6_kind_11 kz) ?_
  refine WQ.st (fun _ _ kz => pw_getr gX6_18 dX6_kind_12 (cf_s10 hC) (cf_p10_2 hC) kz) ?_
  refine WQ.st (fun _ _ kz => pw_aload0 dX6_kind_15 kz) ?_
  refine WQ.st (fun _ _ kz => pw_geti gX6_31 dX6_kind_16 (cf_s10 hC) kz) ?_
  rw [hN.at]
  refine WQ.st (fun _ _ kz => pw_ald (j := i) dX6_kind_19 (cf_s11 hC) (ix_n (by omega)) (by omega) kz) ?_
  rw [hN.kd]
  refine WQ.st (fun _ _ kz => pw_goto (tgt := 24) dX6_kind_20 (by decide) kz) ?_
  refine ⟨_, _, pw_iret dX6_kind_24 rfl rfl rfl rfl, ?_⟩
  exact ⟨rfl, rfl⟩
set_option maxRecDepth 20000 in
theorem k_faulty {G : gT} {d : Nat} {S : sS} {V : sV} {P : sP} {A : sV} {B : sB} {Q : sP} {t sl : Nat} (hC : CF S P) {x : Nat → Int32} {L T i : Nat} (hN : KN x L T i V A) (k : Int32) : WQ G d mX6_faulty 0 [some (.ref 10), some (.int k)] [] (t, sl, gh S V P A B Q) (fun r h' => r = some (.int 0) ∧ ∃ V' : sV, h' = (t, sl, gh S V' P A B Q) ∧ KE (k, TPl x L i) V' ∧ FRK V V') := by
  have hiT := hN.le
  have ht9 := hN.t9
  refine WQ.st (fun _ _ kz => pw_aload0 dX6_faulty_0 kz) ?_
  refine WQ.st (fun _ _ kz => pw_iload1 dX6_faulty_1 kz) ?_
  refine WQ.st (fun _ _ kz => pw_puti (pX6_11 _ rfl) dX6_faulty_2 (cf_s10 hC) rfl rfl kz) ?_
  refine WQ.st (fun _ _ kz => pw_aload0 dX6_faulty_5 kz) ?_
  refine WQ.st (fun _ _ kz => pw_aload0 dX6_faulty_6 kz) ?_
  refine WQ.st (fun _ _ kz => pw_geti gX6_31 dX6_faulty_7 (cf_s10 hC) kz) ?_
  rw [up2_nk (by omega), hN.at]
  refine WQ.st (fun _ _ kz => pw_aload0 dX6_faulty_10 kz) ?_
  refine WQ.st (fun _ _ kz => pw_geti gX6_28 dX6_faulty_11 (cf_s10 hC) kz) ?_
  rw [up2_nk (by omega), hN.tk]
  refine WQ.br (fun _ _ ka kb => pw_icmp_ge (tgt := 29) dX6_faulty_14 (by decide) ka kb) (fun c14 => absurd c14 (by rw [le_i (ix_n (by omega)) (ix_n (by omega))]; omega)) (fun c14 => ?_)
  refine WQ.st (fun _ _ kz => pw_aload0 dX6_faulty_17 kz) ?_
  refine WQ.st (fun _ _ kz => pw_getr gX6_25 dX6_faulty_18 (cf_s10 hC) (cf_p10_4 hC) kz) ?_
  refine WQ.st (fun _ _ kz => pw_aload0 dX6_faulty_21 kz) ?_
  refine WQ.st (fun _ _ kz => pw_geti gX6_31 dX6_faulty_22 (cf_s10 hC) kz) ?_
  rw [up2_nk (by omega), hN.at]
  refine WQ.st (fun _ _ kz => pw_ald (j := i) dX6_faulty_25 (cf_s13 hC) (ix_n (by omega)) (by omega) kz) ?_
  rw [hN.pl]
  refine WQ.st (fun _ _ kz => pw_goto (tgt := 33) dX6_faulty_26 (by decide) kz) ?_
  refine WQ.st (fun _ _ kz => pw_puti (pX6_15 _ rfl) dX6_faulty_33 (cf_s10 hC) rfl rfl kz) ?_
  refine WQ.st (fun _ _ kz => pw_iconst (v := 0) dX6_faulty_36 (by decide) kz) ?_
  refine ⟨_, _, pw_iret dX6_faulty_37 rfl rfl rfl rfl, ?_⟩
  exact ⟨rfl, _, rfl, ⟨by rw [up2_nk (by omega), up2_eq], up2_eq⟩, (FRK.up (by omega)).tr (FRK.up (by omega))⟩
set_option maxRecDepth 20000 in
theorem k_cannotStand {G : gT} {d : Nat} {S : sS} {V : sV} {P : sP} {A : sV} {B : sB} {Q : sP} {t sl : Nat} (hC : CF S P) {x : Nat → Int32} {L T i : Nat} (hN : KN x L T i V A) : WQ G (d + 1) mX6_cannotStand 0 [some (.ref 10)] [] (t, sl, gh S V P A B Q) (fun r h' => r = some (.int 0) ∧ ∃ V' : sV, h' = (t, sl, gh S V' P A B Q) ∧ KE ((if TK x L i = 25 then 1 else 2), TPl x L i) V' ∧ FRK V V') := by
  have hiT := hN.le
  have ht9 := hN.t9
  refine WQ.st (fun _ _ kz => pw_aload0 dX6_cannotStand_0 kz) ?_
  refine WQ.st (fun _ _ kz => pw_aload0 dX6_cannotStand_1 kz) ?_
  refine wq_o0i wX6_kind lX6_70 rfl dX6_cannotStand_2 (cf_s10 hC) (k_kind hC hN) rfl (Nat.le_of_ble_eq_true rfl) (Nat.le_of_ble_eq_true rfl) (fun h2 z2 => ?_)
  subst z2
  refine WQ.st (fun _ _ kz => pw_iconst (v := 2) dX6_cannotStand_5 (by decide) kz) ?_
  refine WQ.bn (fun _ _ ka kb => pw_icmp_ne (tgt := 13) dX6_cannotStand_6 (by decide) ka kb) (fun c6 => ?_) (fun c6 => ?_)
  · have c6 : ¬ TK x L i = 25 := fun q => c6 ((cc_i TK_o (Or.inr (Or.inl (by omega))) (by decide)).mpr q)
    rw [if_neg c6]
    refine WQ.st (fun _ _ kz => pw_iconst (v := 2) dX6_cannotStand_13 (by decide) kz) ?_
    refine wq_o1i wX6_faulty lX6_117 rfl dX6_cannotStand_14 (cf_s10 hC) (k_faulty hC hN _) rfl (Nat.le_of_ble_eq_true rfl) (Nat.le_of_ble_eq_true rfl) (fun h14 z14 => ?_)
    obtain ⟨V1, rfl, e1, f1⟩ := z14
    refine ⟨_, _, pw_iret dX6_cannotStand_17 rfl rfl rfl rfl, ?_⟩
    exact ⟨rfl, V1, rfl, e1, f1⟩
  · have c6 : TK x L i = 25 := (cc_i TK_o (Or.inr (Or.inl (by omega))) (by decide)).mp c6
    rw [if_pos c6]
    refine WQ.st (fun _ _ kz => pw_iconst (v := 1) dX6_cannotStand_9 (by decide) kz) ?_
    refine WQ.st (fun _ _ kz => pw_goto (tgt := 14) dX6_cannotStand_10 (by decide) kz) ?_
    refine wq_o1i wX6_faulty lX6_117 rfl dX6_cannotStand_14 (cf_s10 hC) (k_faulty hC hN _) rfl (Nat.le_of_ble_eq_true rfl) (Nat.le_of_ble_eq_true rfl) (fun h14 z14 => ?_)
    obtain ⟨V1, rfl, e1, f1⟩ := z14
    refine ⟨_, _, pw_iret dX6_cannotStand_17 rfl rfl rfl rfl, ?_⟩
    exact ⟨rfl, V1, rfl, e1, f1⟩
set_option maxRecDepth 20000 in
theorem k_rtake {G : gT} {d : Nat} {S : sS} {V : sV} {P : sP} {A : sV} {B : sB} {Q : sP} {t sl : Nat} (hC : CF S P) {x : Nat → Int32} {L T i : Nat} (hN : KN x L T i V A) (hT : TK x L T = 24) {k : Nat} {y : Int32} (hk : tkO k) (hy : y = ccK k) (hk24 : k ≠ 24) : WQ G (d + 2) mX6_take 0 [some (.ref 10), some (.int y)] [] (t, sl, gh S V P A B Q) (fun r h' => r = some (.int (bI (decide (TK x L i = k)))) ∧ ∃ V' : sV, h' = (t, sl, gh S V' P A B Q) ∧ (TK x L i = k → KN x L T (i + 1) V' A) ∧ (¬ TK x L i = k → KE ((if TK x L i = 25 then 1 else 2), TPl x L i) V') ∧ FRK V V') := by
  have hiT := hN.le
  have ht9 := hN.t9
  refine WQ.st (fun _ _ kz => pw_aload0 dX6_take_0 kz) ?_
  refine wq_o0i wX6_kind lX6_70 rfl dX6_take_1 (cf_s10 hC) (k_kind hC hN) rfl (Nat.le_of_ble_eq_true rfl) (Nat.le_of_ble_eq_true rfl) (fun h1 z1 => ?_)
  subst z1
  refine WQ.st (fun _ _ kz => pw_iload1 dX6_take_4 kz) ?_
  refine WQ.br (fun _ _ ka kb => pw_icmp_eq (tgt := 13) dX6_take_5 (by decide) ka kb) (fun c5 => ?_) (fun c5 => ?_)
  · have c5 : TK x L i = k := (cc_i TK_o hk hy).mp c5
    have hlt := hN.lt hT c5 hk24
    refine WQ.st (fun _ _ kz => pw_aload0 dX6_take_13 kz) ?_
    refine WQ.st (fun _ _ kz => pw_dup dX6_take_14 rfl kz) ?_
    refine WQ.st (fun _ _ kz => pw_geti gX6_31 dX6_take_15 (cf_s10 hC) kz) ?_
    rw [hN.at]
    refine WQ.st (fun _ _ kz => pw_iconst (v := 1) dX6_take_18 (by decide) kz) ?_
    refine WQ.st (fun _ _ kz => pw_iadd dX6_take_19 kz) ?_
    rw [nI_1]
    refine WQ.st (fun _ _ kz => pw_puti (pX6_31 _ rfl) dX6_take_20 (cf_s10 hC) rfl rfl kz) ?_
    refine WQ.st (fun _ _ kz => pw_iconst (v := 1) dX6_take_23 (by decide) kz) ?_
    refine ⟨_, _, pw_iret dX6_take_24 rfl rfl rfl rfl, ?_⟩
    exact ⟨rI (bI_t (decide_eq_true c5)), _, rfl, fun _ => hN.go hlt, fun q => absurd c5 q, FRK.up (by omega)⟩
  · have c5 : ¬ TK x L i = k := fun q => c5 ((cc_i TK_o hk hy).mpr q)
    refine WQ.st (fun _ _ kz => pw_aload0 dX6_take_8 kz) ?_
    refine wq_o0i wX6_cannotStand lX6_120 rfl dX6_take_9 (cf_s10 hC) (k_cannotStand hC hN) rfl (Nat.le_of_ble_eq_true rfl) (Nat.le_of_ble_eq_true rfl) (fun h9 z9 => ?_)
    obtain ⟨V1, rfl, e1, f1⟩ := z9
    refine ⟨_, _, pw_iret dX6_take_12 rfl rfl rfl rfl, ?_⟩
    exact ⟨rI (bI_z (decide_eq_false c5)), V1, rfl, fun q => absurd q c5, fun _ => e1, f1⟩
def tkE2 (K Pl : Nat → Nat) (i : Nat) : Int32 × Nat := if K i = 23 then (3, Pl i) else ((if K i = 25 then 1 else 2), Pl i)
set_option maxRecDepth 20000 in
theorem k_takeNumber {G : gT} {d : Nat} {S : sS} {V : sV} {P : sP} {A : sV} {B : sB} {Q : sP} {t sl : Nat} (hC : CF S P) {x : Nat → Int32} {L T i : Nat} (hN : KN x L T i V A) (hT : TK x L T = 24) {hi : Nat} (hh : hi ≤ 1000) : WQ G (d + 2) mX6_takeNumber 0 [some (.ref 10), some (.int (nI hi))] [] (t, sl, gh S V P A B Q) (fun r h' => r = some (.int (bI (decide (TK x L i = 23 ∧ (TV x L i).toInt ≤ (hi : Int))))) ∧ ∃ V' : sV, h' = (t, sl, gh S V' P A B Q) ∧ ((TK x L i = 23 ∧ (TV x L i).toInt ≤ (hi : Int)) → KN x L T (i + 1) V' A) ∧ (¬ (TK x L i = 23 ∧ (TV x L i).toInt ≤ (hi : Int)) → KE (tkE2 (TK x L) (TPl x L) i) V') ∧ FRK V V') := by
  have hiT := hN.le
  have ht9 := hN.t9
  refine WQ.st (fun _ _ kz => pw_aload0 dX6_takeNumber_0 kz) ?_
  refine wq_o0i wX6_kind lX6_70 rfl dX6_takeNumber_1 (cf_s10 hC) (k_kind hC hN) rfl (Nat.le_of_ble_eq_true rfl) (Nat.le_of_ble_eq_true rfl) (fun h1 z1 => ?_)
  subst z1
  refine WQ.st (fun _ _ kz => pw_iconst (v := 3) dX6_takeNumber_4 (by decide) kz) ?_
  refine WQ.br (fun _ _ ka kb => pw_icmp_eq (tgt := 13) dX6_takeNumber_5 (by decide) ka kb) (fun c5 => ?_) (fun c5 => ?_)
  · have c5 : TK x L i = 23 := (cc_i TK_o (Or.inr (Or.inl (by omega))) (by decide)).mp c5
    have hlt := hN.lt hT c5 (by omega)
    refine WQ.st (fun _ _ kz => pw_aload0 dX6_takeNumber_13 kz) ?_
    refine WQ.st (fun _ _ kz => pw_getr gX6_22 dX6_takeNumber_14 (cf_s10 hC) (cf_p10_3 hC) kz) ?_
    refine WQ.st (fun _ _ kz => pw_aload0 dX6_takeNumber_17 kz) ?_
    refine WQ.st (fun _ _ kz => pw_geti gX6_31 dX6_takeNumber_18 (cf_s10 hC) kz) ?_
    rw [hN.at]
    refine WQ.st (fun _ _ kz => pw_ald (j := i) dX6_takeNumber_21 (cf_s12 hC) (ix_n (by omega)) (by omega) kz) ?_
    rw [hN.nu c5]
    refine WQ.st (fun _ _ kz => pw_iload1 dX6_takeNumber_22 kz) ?_
    refine WQ.br (fun _ _ ka kb => pw_icmp_le (tgt := 32) dX6_takeNumber_23 (by decide) ka kb) (fun c23 => ?_) (fun c23 => ?_)
    · rw [le_i rfl (ix_n (by omega))] at c23
      refine WQ.st (fun _ _ kz => pw_aload0 dX6_takeNumber_32 kz) ?_
      refine WQ.st (fun _ _ kz => pw_dup dX6_takeNumber_33 rfl kz) ?_
      refine WQ.st (fun _ _ kz => pw_geti gX6_31 dX6_takeNumber_34 (cf_s10 hC) kz) ?_
      rw [hN.at]
      refine WQ.st (fun _ _ kz => pw_iconst (v := 1) dX6_takeNumber_37 (by decide) kz) ?_
      refine WQ.st (fun _ _ kz => pw_iadd dX6_takeNumber_38 kz) ?_
      rw [nI_1]
      refine WQ.st (fun _ _ kz => pw_puti (pX6_31 _ rfl) dX6_takeNumber_39 (cf_s10 hC) rfl rfl kz) ?_
      refine WQ.st (fun _ _ kz => pw_iconst (v := 1) dX6_takeNumber_42 (by decide) kz) ?_
      refine ⟨_, _, pw_iret dX6_takeNumber_43 rfl rfl rfl rfl, ?_⟩
      exact ⟨rI (bI_t (decide_eq_true ⟨c5, c23⟩)), _, rfl, fun _ => hN.go hlt, fun q => absurd ⟨c5, c23⟩ q, FRK.up (by omega)⟩
    · rw [le_i rfl (ix_n (by omega))] at c23
      refine WQ.st (fun _ _ kz => pw_aload0 dX6_takeNumber_26 kz) ?_
      refine WQ.st (fun _ _ kz => pw_iconst (v := 3) dX6_takeNumber_27 (by decide) kz) ?_
      refine wq_o1i wX6_faulty lX6_117 rfl dX6_takeNumber_28 (cf_s10 hC) (k_faulty hC hN _) rfl (Nat.le_of_ble_eq_true rfl) (Nat.le_of_ble_eq_true rfl) (fun h28 z28 => ?_)
      obtain ⟨V1, rfl, e1, f1⟩ := z28
      refine ⟨_, _, pw_iret dX6_takeNumber_31 rfl rfl rfl rfl, ?_⟩
      exact ⟨rI (bI_z (decide_eq_false (fun q => c23 q.2))), V1, rfl, fun q => absurd q.2 c23, fun _ => by unfold tkE2; rw [if_pos c5]; exact e1, f1⟩
  · have c5 : ¬ TK x L i = 23 := fun q => c5 ((cc_i TK_o (Or.inr (Or.inl (by omega))) (by decide)).mpr q)
    refine WQ.st (fun _ _ kz => pw_aload0 dX6_takeNumber_8 kz) ?_
    refine wq_o0i wX6_cannotStand lX6_120 rfl dX6_takeNumber_9 (cf_s10 hC) (k_cannotStand hC hN) rfl (Nat.le_of_ble_eq_true rfl) (Nat.le_of_ble_eq_true rfl) (fun h9 z9 => ?_)
    obtain ⟨V1, rfl, e1, f1⟩ := z9
    refine ⟨_, _, pw_iret dX6_takeNumber_12 rfl rfl rfl rfl, ?_⟩
    exact ⟨rI (bI_z (decide_eq_false (fun q => c5 q.1))), V1, rfl, fun q => absurd q.1 c5, fun _ => by unfold tkE2; rw [if_neg c5]; exact e1, f1⟩
set_option maxRecDepth 20000 in
theorem k_taken {G : gT} {d : Nat} {S : sS} {V : sV} {P : sP} {A : sV} {B : sB} {Q : sP} {t sl : Nat} (hC : CF S P) {x : Nat → Int32} {L T i : Nat} (hN : KN x L T (i + 1) V A) (h23 : TK x L i = 23) : WQ G d mX6_taken 0 [some (.ref 10)] [] (t, sl, gh S V P A B Q) (fun r h' => r = some (.int (TV x L i)) ∧ h' = (t, sl, gh S V P A B Q)) := by
  have hiT := hN.le
  have ht9 := hN.t9
  refine WQ.st (fun _ _ kz => pw_aload0 dX6_taken_0 kz) ?_
  refine WQ.st (fun _ _ kz => pw_geti gX6_31 dX6_taken_1 (cf_s10 hC) kz) ?_
  rw [hN.at]
  refine WQ.br (fun _ _ ka kb => pw_if_le (tgt := 32) dX6_taken_4 (by decide) ka kb) (fun c4 => absurd c4 (fun q => by have := (le_i (ix_n (by omega)) (show (0 : Int32).toInt = 0 from rfl)).mp q; omega)) (fun c4 => ?_)
  refine WQ.st (fun _ _ kz => pw_aload0 dX6_taken_7 kz) ?_
  refine WQ.st (fun _ _ kz => pw_geti gX6_31 dX6_taken_8 (cf_s10 hC) kz) ?_
  rw [hN.at]
  refine WQ.st (fun _ _ kz => pw_aload0 dX6_taken_11 kz) ?_
  refine WQ.st (fun _ _ kz => pw_geti gX6_28 dX6_taken_12 (cf_s10 hC) kz) ?_
  rw [hN.tk]
  refine WQ.br (fun _ _ ka kb => pw_icmp_gt (tgt := 32) dX6_taken_15 (by decide) ka kb) (fun c15 => absurd c15 (by rw [lt_i (ix_n (by omega)) (ix_n (by omega))]; omega)) (fun c15 => ?_)
  refine WQ.st (fun _ _ kz => pw_aload0 dX6_taken_18 kz) ?_
  refine WQ.st (fun _ _ kz => pw_getr gX6_22 dX6_taken_19 (cf_s10 hC) (cf_p10_3 hC) kz) ?_
  refine WQ.st (fun _ _ kz => pw_aload0 dX6_taken_22 kz) ?_
  refine WQ.st (fun _ _ kz => pw_geti gX6_31 dX6_taken_23 (cf_s10 hC) kz) ?_
  rw [hN.at]
  refine WQ.st (fun _ _ kz => pw_iconst (v := 1) dX6_taken_26 (by decide) kz) ?_
  refine WQ.st (fun _ _ kz => pw_isub dX6_taken_27 kz) ?_
  rw [show nI (i + 1) - 1 = nI i from by rw [show (1 : Int32) = nI 1 from rfl, nI_subk (by omega)]; rfl]
  refine WQ.st (fun _ _ kz => pw_ald (j := i) dX6_taken_28 (cf_s12 hC) (ix_n (by omega)) (by omega) kz) ?_
  rw [(hN.1.2 i (by omega)).2.2 h23]
  refine WQ.st (fun _ _ kz => pw_goto (tgt := 33) dX6_taken_29 (by decide) kz) ?_
  refine ⟨_, _, pw_iret dX6_taken_33 rfl rfl rfl rfl, ?_⟩
  exact ⟨rfl, rfl⟩
