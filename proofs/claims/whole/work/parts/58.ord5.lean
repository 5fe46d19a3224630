/-! ===== the reference: order, mostPieces ===== -/
theorem oI_in {g : Nat → Int32} : ∀ (m t : Nat) (acc : Int32), oI g acc m t = acc ∨ ∃ i, t ≤ i ∧ i < t + m ∧ g i = oI g acc m t
  | 0, _, _ => Or.inl rfl
  | m + 1, t, acc => by
    rw [oI]
    rcases oI_in (g := g) m (t + 1) (if g t ≤ acc then acc else g t) with h | ⟨i, h1, h2, h3⟩
    · rw [h]
      by_cases e : g t ≤ acc
      · rw [if_pos e]
        exact Or.inl rfl
      · rw [if_neg e]
        exact Or.inr ⟨t, Nat.le_refl _, by omega, rfl⟩
    · exact Or.inr ⟨i, by omega, by omega, h3⟩
theorem oP_in {g : Nat → Nat → Int32} {b : Nat → Bool} : ∀ (m p : Nat) (acc : Int32), oP g b acc m p = acc ∨ ∃ i t, p ≤ i ∧ i < p + m ∧ t < 41 ∧ b i = true ∧ g i t = oP g b acc m p
  | 0, _, _ => Or.inl rfl
  | m + 1, p, acc => by
    rw [oP]
    rcases oP_in (g := g) (b := b) m (p + 1) (if b p then oI (g p) acc 41 0 else acc) with h | ⟨i, t, h1, h2, h3, h4, h5⟩
    · rw [h]
      by_cases e : b p = true
      · rw [if_pos e]
        rcases oI_in (g := g p) 41 0 acc with q | ⟨t, q1, q2, q3⟩
        · exact Or.inl q
        · exact Or.inr ⟨p, t, Nat.le_refl _, by omega, by omega, e, q3⟩
      · rw [if_neg e]
        exact Or.inl rfl
    · exact Or.inr ⟨i, t, by omega, by omega, h3, h4, h5⟩
theorem fpn_ok {c : Nat → Bool} : ∀ (m p : Nat), (∃ i, p ≤ i ∧ i < p + m ∧ c i = true) → c (fpn c m p) = true ∧ p ≤ fpn c m p ∧ fpn c m p < p + m ∧ ∀ i, p ≤ i → i < fpn c m p → c i = false
  | 0, p, ⟨i, h1, h2, _⟩ => absurd h2 (by omega)
  | m + 1, p, ⟨i, h1, h2, h3⟩ => by
    rw [fpn]
    cases e : c p with
    | true =>
      rw [if_pos rfl]
      exact ⟨e, Nat.le_refl _, by omega, fun i h1 h2 => absurd h2 (by omega)⟩
    | false =>
      rw [if_neg (by decide)]
      have hi : i ≠ p := fun q => by
        rw [q, e] at h3
        exact absurd h3 (by decide)
      obtain ⟨a1, a2, a3, a4⟩ := fpn_ok (c := c) m (p + 1) ⟨i, by omega, by omega, h3⟩
      refine ⟨a1, by omega, by omega, fun j h1 h2 => ?_⟩
      by_cases q : j = p
      · rw [q]
        exact e
      · exact a4 j (by omega) h2
/-- some store can be, and from it the rest can be played -/
def CB (th : Nat → Nat → Nat → Int32) (e : Nat → Int32) (N : Nat) (cb : Nat → Bool) (left : Nat) : Prop := ∃ f, f < 41 ∧ cb f = true ∧ oG th e N left f ≠ -268435456
theorem ob_ne {x y : Int32} (h : ob x y ≠ -268435456) : x ≠ -268435456 ∧ y ≠ -268435456 := by
  unfold ob at h
  by_cases q : x = -268435456 ∨ y = -268435456
  · rw [if_pos q] at h
    exact absurd rfl h
  · exact ⟨fun z => q (Or.inl z), fun z => q (Or.inr z)⟩
theorem CB.fp {th : Nat → Nat → Nat → Int32} {e : Nat → Int32} {N : Nat} {cb : Nat → Bool} {left : Nat} (h : CB th e N cb left) (h0 : left ≠ 0) (hN4 : N ≤ 4) : inB left (gFp th e N cb left) = true ∧ gAny th e N cb left (gFp th e N cb left) = true ∧ gFp th e N cb left < N ∧ (∀ i, i < gFp th e N cb left → (inB left i && gAny th e N cb left i) = false) ∧ CB th e N (gCt th e N cb left (gFp th e N cb left)) (rmB left (gFp th e N cb left)) := by
  obtain ⟨f, hf, hc, hne⟩ := h
  have hex : ∃ i, i < N ∧ (inB left i && gAny th e N cb left i) = true := by
    rw [oG_s h0] at hne
    rcases oP_in (g := fun p t => ob (th p f t) (oG th e N (rmB left p) t)) (b := inB left) N 0 (-268435456) with q | ⟨i, t, _, h2, h3, h4, h5⟩
    · exact absurd q hne
    · refine ⟨i, by omega, ?_⟩
      rw [h4, Bool.true_and]
      refine anyF_t.mpr ⟨f, hf, anyF_t.mpr ⟨t, h3, ?_⟩⟩
      unfold hO
      rw [hc, oG_s h0]
      have h5 : ob (th i f t) (oG th e N (rmB left i) t) = oP (fun p t => ob (th p f t) (oG th e N (rmB left p) t)) (inB left) (-268435456) N 0 := h5
      rw [h5, decide_eq_true hne, decide_eq_true rfl]
      rfl
  obtain ⟨i, hi, hci⟩ := hex
  obtain ⟨a1, a2, a3, a4⟩ := fpn_ok (c := fun p => inB left p && gAny th e N cb left p) 4 0 ⟨i, by omega, by omega, hci⟩
  have hpN : gFp th e N cb left < N := by
    by_cases q : gFp th e N cb left ≤ i
    · omega
    · have := a4 i (by omega) (by unfold gFp at q; omega)
      rw [hci] at this
      exact absurd this (by decide)
  have a1 : (inB left (gFp th e N cb left) && gAny th e N cb left (gFp th e N cb left)) = true := a1
  rw [Bool.and_eq_true] at a1
  refine ⟨a1.1, a1.2, hpN, fun j hj => a4 j (by omega) hj, ?_⟩
  obtain ⟨f', hf', h6⟩ := anyF_t.mp a1.2
  obtain ⟨t', ht', h7⟩ := anyF_t.mp h6
  refine ⟨t', ht', anyF_t.mpr ⟨f', hf', h7⟩, ?_⟩
  unfold hO at h7
  rw [Bool.and_eq_true, Bool.and_eq_true, decide_eq_true_eq] at h7
  exact (ob_ne h7.2.1).2
theorem OT.cong {o : Nat} {th : Nat → Nat → Nat → Int32} {e : Nat → Int32} {N : Nat} {A A' : sV} (h : OT o th e N A) (h4 : A' (o + 14) = A (o + 14)) (h5 : A' (o + 15) = A (o + 15)) : OT o th e N A' := ⟨by rw [h4]; exact h.1, by rw [h5]; exact h.2⟩
set_option maxRecDepth 20000 in
theorem l_oa0 {G : gT} {d : Nat} {S : sS} {V : sV} {P : sP} {B : sB} {Q : sP} {t sl o : Nat} (hF : MF S P o) {A0 : sV} {s0 : Nat} (hs0 : s0 < 41) {x1 x3 : Int32} {Z : Option Value → Ph → Prop} (kf : ∀ A : sV, (∀ a, a ≠ o + 16 → A a = A0 a) → (∀ i, i < 41 → A (o + 16) i = bI (decide (i = s0))) → WQ G d mX12_orderAt 37 [some (.ref o), some (.int x1), some (.int (sI s0)), some (.int x3), some (.int (nI 41)), none, none, none] [] (t, sl, gh S V P A B Q) Z) : ∀ (m k : Nat) (A : sV), k + m = 41 → (∀ a, a ≠ o + 16 → A a = A0 a) → (∀ i, i < k → A (o + 16) i = bI (decide (i = s0))) → WQ G d mX12_orderAt 3 [some (.ref o), some (.int x1), some (.int (sI s0)), some (.int x3), some (.int (nI k)), none, none, none] [] (t, sl, gh S V P A B Q) Z := by
  intro m
  induction m with
  | zero =>
    intro k A hk h1 h2
    have hk : k = 41 := hk
    subst hk
    refine WQ.st (fun _ _ kz => pw_iload4 dX12_orderAt_3 kz) ?_
    refine WQ.st (fun _ _ kz => pw_bipush (v := 41) dX12_orderAt_5 (by decide) kz) ?_
    refine WQ.br (fun _ _ ka kb => pw_icmp_ge (tgt := 37) dX12_orderAt_7 (by decide) ka kb) (fun c7 => ?_) (fun c7 => absurd (by decide) c7)
    exact kf A h1 h2
  | succ m ih =>
    intro k A hk h1 h2
    refine WQ.st (fun _ _ kz => pw_iload4 dX12_orderAt_3 kz) ?_
    refine WQ.st (fun _ _ kz => pw_bipush (v := 41) dX12_orderAt_5 (by decide) kz) ?_
    refine WQ.br (fun _ _ ka kb => pw_icmp_ge (tgt := 37) dX12_orderAt_7 (by decide) ka kb) (fun c7 => absurd c7 (by rw [le_i li_41 (ix_n (j := k) (by omega))]; omega)) (fun c7 => ?_)
    refine WQ.st (fun _ _ kz => pw_aload0 dX12_orderAt_10 kz) ?_
    refine WQ.st (fun _ _ kz => pw_getr gX12_64 dX12_orderAt_11 hF.1 (mf_p32 hF) kz) ?_
    refine WQ.st (fun _ _ kz => pw_iload4 dX12_orderAt_14 kz) ?_
    refine WQ.st (fun _ _ kz => pw_iload4 dX12_orderAt_16 kz) ?_
    refine WQ.st (fun _ _ kz => pw_iload2 dX12_orderAt_18 kz) ?_
    refine WQ.st (fun _ _ kz => pw_bipush (v := 20) dX12_orderAt_19 (by decide) kz) ?_
    refine WQ.st (fun _ _ kz => pw_iadd dX12_orderAt_21 kz) ?_
    rw [show sI s0 + 20 = nI s0 by unfold sI; rw [show (20 : Int32) = iI 20 from rfl, iI_add, iI_nat]; congr 1; omega]
    refine WQ.bn (fun _ _ ka kb => pw_icmp_ne (tgt := 29) dX12_orderAt_22 (by decide) ka kb) (fun c22 => ?_) (fun c22 => ?_)
    · rw [nI_eq (by omega) (by omega)] at c22
      refine WQ.st (fun _ _ kz => pw_iconst (v := 0) dX12_orderAt_29 (by decide) kz) ?_
      refine WQ.st (fun _ _ kz => pw_zst (j := k) dX12_orderAt_30 (mf_s16 hF) (ix_m rfl (by omega)) (by omega) (by decide) kz) ?_
      refine WQ.st (fun _ _ kz => pw_iinc4 (v := 1) dX12_orderAt_31 (by decide) (by decide) (k := kz)) ?_
      refine WQ.st (fun _ _ kz => pw_goto (tgt := 3) dX12_orderAt_34 (by decide) kz) ?_
      rw [nI_1]
      refine ih (k + 1) _ (by omega) (fun a ha => by rw [up2_na ha]; exact h1 a ha) (fun i hi => ?_)
      rw [up2_at]
      unfold pm_up
      by_cases e : i = k
      · rw [if_pos e, e, decide_eq_false c22]
        rfl
      · rw [if_neg e]
        exact h2 i (by omega)
    · rw [nI_eq (by omega) (by omega)] at c22
      refine WQ.st (fun _ _ kz => pw_iconst (v := 1) dX12_orderAt_25 (by decide) kz) ?_
      refine WQ.st (fun _ _ kz => pw_goto (tgt := 30) dX12_orderAt_26 (by decide) kz) ?_
      refine WQ.st (fun _ _ kz => pw_zst (j := k) dX12_orderAt_30 (mf_s16 hF) (ix_m rfl (by omega)) (by omega) (by decide) kz) ?_
      refine WQ.st (fun _ _ kz => pw_iinc4 (v := 1) dX12_orderAt_31 (by decide) (by decide) (k := kz)) ?_
      refine WQ.st (fun _ _ kz => pw_goto (tgt := 3) dX12_orderAt_34 (by decide) kz) ?_
      rw [nI_1]
      refine ih (k + 1) _ (by omega) (fun a ha => by rw [up2_na ha]; exact h1 a ha) (fun i hi => ?_)
      rw [up2_at]
      unfold pm_up
      by_cases e : i = k
      · rw [if_pos e, e, decide_eq_true c22]
        rfl
      · rw [if_neg e]
        exact h2 i (by omega)
set_option maxRecDepth 20000 in
theorem l_oa1 {G : gT} {d : Nat} {S : sS} {V : sV} {P : sP} {B : sB} {Q : sP} {t sl o : Nat} (hF : MF S P o) {A0 : sV} {ct : Nat → Bool} (hct : ∀ i, i < 41 → A0 (o + 17) i = bI (ct i)) {x1 x2 x3 x4 x5 x6 : Int32} {Z : Option Value → Ph → Prop} (kf : ∀ A : sV, (∀ a, a ≠ o + 16 → A a = A0 a) → (∀ i, i < 41 → A (o + 16) i = bI (ct i)) → WQ G d mX12_orderAt 118 [some (.ref o), some (.int x1), some (.int x2), some (.int x3), some (.int x4), some (.int x5), some (.int x6), some (.int (nI 41))] [] (t, sl, gh S V P A B Q) Z) : ∀ (m k : Nat) (A : sV), k + m = 41 → (∀ a, a ≠ o + 16 → A a = A0 a) → (∀ i, i < k → A (o + 16) i = bI (ct i)) → WQ G d mX12_orderAt 91 [some (.ref o), some (.int x1), some (.int x2), some (.int x3), some (.int x4), some (.int x5), some (.int x6), some (.int (nI k))] [] (t, sl, gh S V P A B Q) Z := by
  intro m
  induction m with
  | zero =>
    intro k A hk h1 h2
    have hk : k = 41 := hk
    subst hk
    refine WQ.st (fun _ _ kz => pw_iload7 dX12_orderAt_91 kz) ?_
    refine WQ.st (fun _ _ kz => pw_bipush (v := 41) dX12_orderAt_93 (by decide) kz) ?_
    refine WQ.br (fun _ _ ka kb => pw_icmp_ge (tgt := 118) dX12_orderAt_95 (by decide) ka kb) (fun c95 => ?_) (fun c95 => absurd (by decide) c95)
    exact kf A h1 h2
  | succ m ih =>
    intro k A hk h1 h2
    refine WQ.st (fun _ _ kz => pw_iload7 dX12_orderAt_91 kz) ?_
    refine WQ.st (fun _ _ kz => pw_bipush (v := 41) dX12_orderAt_93 (by decide) kz) ?_
    refine WQ.br (fun _ _ ka kb => pw_icmp_ge (tgt := 118) dX12_orderAt_95 (by decide) ka kb) (fun c95 => absurd c95 (by rw [le_i li_41 (ix_n (j := k) (by omega))]; omega)) (fun c95 => ?_)
    refine WQ.st (fun _ _ kz => pw_aload0 dX12_orderAt_98 kz) ?_
    refine WQ.st (fun _ _ kz => pw_getr gX12_64 dX12_orderAt_99 hF.1 (mf_p32 hF) kz) ?_
    refine WQ.st (fun _ _ kz => pw_iload7 dX12_orderAt_102 kz) ?_
    refine WQ.st (fun _ _ kz => pw_aload0 dX12_orderAt_104 kz) ?_
    refine WQ.st (fun _ _ kz => pw_getr gX12_67 dX12_orderAt_105 hF.1 (mf_p33 hF) kz) ?_
    refine WQ.st (fun _ _ kz => pw_iload7 dX12_orderAt_108 kz) ?_
    refine WQ.st (fun _ _ kz => pw_zld (j := k) dX12_orderAt_110 (mf_s17 hF) (ix_m rfl (by omega)) (by omega) kz) ?_
    rw [h1 _ (by omega), hct k (by omega)]
    refine WQ.st (fun _ _ kz => pw_zst (j := k) dX12_orderAt_111 (mf_s16 hF) (ix_m rfl (by omega)) (by omega) (by cases ct k <;> decide) kz) ?_
    refine WQ.st (fun _ _ kz => pw_iinc7 (v := 1) dX12_orderAt_112 (by decide) (by decide) (k := kz)) ?_
    refine WQ.st (fun _ _ kz => pw_goto (tgt := 91) dX12_orderAt_115 (by decide) kz) ?_
    rw [nI_1]
    refine ih (k + 1) _ (by omega) (fun a ha => by rw [up2_na ha]; exact h1 a ha) (fun i hi => ?_)
    rw [up2_at]
    unfold pm_up
    by_cases e : i = k
    · rw [if_pos e, e]
    · rw [if_neg e]
      exact h2 i (by omega)
set_option maxRecDepth 20000 in
theorem l_oa2 {G : gT} {d : Nat} {S : sS} {V : sV} {P : sP} {B : sB} {Q : sP} {t sl o : Nat} (hF : MF S P o) {A0 : sV} {th : Nat → Nat → Nat → Int32} {e : Nat → Int32} {N left fp : Nat} {cb : Nat → Bool} (hN4 : N ≤ 4) (hT : OT o th e N A0) (hcb : ∀ i, i < 41 → A0 (o + 16) i = bI (cb i)) (hsN : left < 2 ^ N) (hfN : fp < N) (hb1 : inB left fp = true) (hb2 : gAny th e N cb left fp = true) (hno : ∀ i, i < fp → (inB left i && gAny th e N cb left i) = false) {x1 x2 x3 x5 : Int32} {x7 : Option Value} {Z : Option Value → Ph → Prop} (kf : ∀ A : sV, (∀ a, a ≠ o + 17 → A a = A0 a) → (∀ i, i < 41 → A (o + 17) i = bI (gCt th e N cb left fp i)) → WQ G (d + 3) mX12_orderAt 79 [some (.ref o), some (.int x1), some (.int x2), some (.int x3), some (.int (nI left)), some (.int x5), some (.int (nI fp)), x7] [] (t, sl, gh S V P A B Q) Z) : ∀ (m p : Nat) (A : sV), p + m = fp → (∀ a, a ≠ o + 17 → A a = A0 a) → WQ G (d + 3) mX12_orderAt 51 [some (.ref o), some (.int x1), some (.int x2), some (.int x3), some (.int (nI left)), some (.int x5), some (.int (nI p)), x7] [] (t, sl, gh S V P A B Q) Z := by
  have h16 := pow_N hN4
  intro m
  induction m with
  | zero =>
    intro p A hk h1
    have hk : p = fp := hk
    subst hk
    refine WQ.st (fun _ _ kz => pw_iload4 dX12_orderAt_51 kz) ?_
    refine WQ.st (fun _ _ kz => pw_i2l dX12_orderAt_53 kz) ?_
    refine WQ.st (fun _ _ kz => pw_iload6 dX12_orderAt_54 kz) ?_
    refine WQ.st (fun _ _ kz => pw_s2i wX12_isIn lX12_315 dX12_orderAt_56 (c_isIn _ _) rfl (Nat.le_of_ble_eq_true rfl) (Nat.le_of_ble_eq_true rfl) kz) ?_
    rw [brd_64 _ (by omega), il_t, nI_toInt (by omega), inB_brd]
    refine WQ.br (fun _ _ ka kb => pw_if_eq (tgt := 73) dX12_orderAt_59 (by decide) ka kb) (fun c59 => absurd c59 (by rw [hb1]; decide)) (fun c59 => ?_)
    refine WQ.st (fun _ _ kz => pw_aload0 dX12_orderAt_62 kz) ?_
    refine WQ.st (fun _ _ kz => pw_iload4 dX12_orderAt_63 kz) ?_
    refine WQ.st (fun _ _ kz => pw_iload6 dX12_orderAt_65 kz) ?_
    obtain ⟨_, _, k1, rfl, A1, rfl, g1, g2⟩ := c_goesPiece (d := d) (P := P) (S := S) (G := G) (V := V) (A := A) (B := B) (Q := Q) (t := t) (sl := sl) hF (cb := cb) hN4 (hT.cong (h1 _ (by omega)) (h1 _ (by omega))) (fun i hi => by rw [h1 _ (by omega)]; exact hcb i hi) hsN (show p < N by omega)
    refine WQ.st (fun _ _ kz => pw_o2i wX12_goesPiece lX12_456 rfl dX12_orderAt_67 hF.1 (k1) rfl (Nat.le_of_ble_eq_true rfl) (Nat.le_of_ble_eq_true rfl) kz) ?_
    refine WQ.bn (fun _ _ ka kb => pw_if_ne (tgt := 79) dX12_orderAt_70 (by decide) ka kb) (fun c70 => ?_) (fun c70 => absurd c70 (by rw [hb2]; decide))
    exact kf A1 (fun a ha => by rw [g1 a ha]; exact h1 a ha) g2
  | succ m ih =>
    intro p A hk h1
    refine WQ.st (fun _ _ kz => pw_iload4 dX12_orderAt_51 kz) ?_
    refine WQ.st (fun _ _ kz => pw_i2l dX12_orderAt_53 kz) ?_
    refine WQ.st (fun _ _ kz => pw_iload6 dX12_orderAt_54 kz) ?_
    refine WQ.st (fun _ _ kz => pw_s2i wX12_isIn lX12_315 dX12_orderAt_56 (c_isIn _ _) rfl (Nat.le_of_ble_eq_true rfl) (Nat.le_of_ble_eq_true rfl) kz) ?_
    rw [brd_64 _ (by omega), il_t, nI_toInt (by omega), inB_brd]
    refine WQ.br (fun _ _ ka kb => pw_if_eq (tgt := 73) dX12_orderAt_59 (by decide) ka kb) (fun c59 => ?_) (fun c59 => ?_)
    · rw [bI_0] at c59
      refine WQ.st (fun _ _ kz => pw_iinc6 (v := 1) dX12_orderAt_73 (by decide) (by decide) (k := kz)) ?_
      refine WQ.st (fun _ _ kz => pw_goto (tgt := 51) dX12_orderAt_76 (by decide) kz) ?_
      rw [nI_1]
      exact ih (p + 1) A (by omega) h1
    · rw [bI_n] at c59
      refine WQ.st (fun _ _ kz => pw_aload0 dX12_orderAt_62 kz) ?_
      refine WQ.st (fun _ _ kz => pw_iload4 dX12_orderAt_63 kz) ?_
      refine WQ.st (fun _ _ kz => pw_iload6 dX12_orderAt_65 kz) ?_
      obtain ⟨_, _, k1, rfl, A1, rfl, g1, g2⟩ := c_goesPiece (d := d) (P := P) (S := S) (G := G) (V := V) (A := A) (B := B) (Q := Q) (t := t) (sl := sl) hF (cb := cb) hN4 (hT.cong (h1 _ (by omega)) (h1 _ (by omega))) (fun i hi => by rw [h1 _ (by omega)]; exact hcb i hi) hsN (show p < N by omega)
      refine WQ.st (fun _ _ kz => pw_o2i wX12_goesPiece lX12_456 rfl dX12_orderAt_67 hF.1 (k1) rfl (Nat.le_of_ble_eq_true rfl) (Nat.le_of_ble_eq_true rfl) kz) ?_
      refine WQ.bn (fun _ _ ka kb => pw_if_ne (tgt := 79) dX12_orderAt_70 (by decide) ka kb) (fun c70 => ?_) (fun c70 => ?_)
      · rw [bI_n] at c70
        exact absurd (hno p (by omega)) (by rw [c59, c70]; decide)
      · rw [bI_0] at c70
        refine WQ.st (fun _ _ kz => pw_iinc6 (v := 1) dX12_orderAt_73 (by decide) (by decide) (k := kz)) ?_
        refine WQ.st (fun _ _ kz => pw_goto (tgt := 51) dX12_orderAt_76 (by decide) kz) ?_
        rw [nI_1]
        exact ih (p + 1) A1 (by omega) (fun a ha => by rw [g1 a ha]; exact h1 a ha)
set_option maxRecDepth 20000 in
theorem l_oa3 {G : gT} {d : Nat} {S : sS} {V : sV} {P : sP} {B : sB} {Q : sP} {t sl o : Nat} (hF : MF S P o) {A0 : sV} {th : Nat → Nat → Nat → Int32} {e : Nat → Int32} {N : Nat} (hN4 : N ≤ 4) (hT : OT o th e N A0) {x1 x2 : Int32} : ∀ (r j : Nat) (cb : Nat → Bool) (left : Nat) (A : sV) (x6 x7 : Option Value), j + r < 10 → left < 2 ^ N → (∀ a, a ≠ o + 16 → a ≠ o + 17 → A a = A0 a) → (∀ i, i < 41 → A (o + 16) i = bI (cb i)) → CB th e N cb left → WQ G (d + 3) mX12_orderAt 43 [some (.ref o), some (.int x1), some (.int x2), some (.int (nI (j + r))), some (.int (nI left)), some (.int (nI j)), x6, x7] [] (t, sl, gh S V P A B Q) (fun r_ h' => r_ = some (.int (oAt th e N r cb left)) ∧ ∃ A' : sV, h' = (t, sl, gh S V P A' B Q) ∧ ∀ a, a ≠ o + 16 → a ≠ o + 17 → A' a = A0 a) := by
  have h16 := pow_N hN4
  intro r
  induction r with
  | zero =>
    intro j cb left A x6 x7 hj hsN h1 hcb hCB
    by_cases hl0 : left = 0
    · skip
      refine WQ.st (fun _ _ kz => pw_iload4 dX12_orderAt_43 kz) ?_
      refine WQ.br (fun _ _ ka kb => pw_if_eq (tgt := 135) dX12_orderAt_45 (by decide) ka kb) (fun c45 => ?_) (fun c45 => absurd (by rw [hl0]; rfl) c45)
      refine WQ.st (fun _ _ kz => pw_iconst (v := -1) dX12_orderAt_135 (by decide) kz) ?_
      refine ⟨_, _, pw_iret dX12_orderAt_136 rfl rfl rfl rfl, ?_⟩
      rw [show oAt th e N 0 cb left = -1 by rw [oAt, if_pos hl0]]
      exact ⟨rfl, A, rfl, h1⟩
    · obtain ⟨q1, q2, q3, q4, q5⟩ := hCB.fp hl0 hN4
      refine WQ.st (fun _ _ kz => pw_iload4 dX12_orderAt_43 kz) ?_
      refine WQ.br (fun _ _ ka kb => pw_if_eq (tgt := 135) dX12_orderAt_45 (by decide) ka kb) (fun c45 => absurd c45 (by rw [nl_0, nI_eq (by omega) (by decide)]; exact hl0)) (fun c45 => ?_)
      refine WQ.st (fun _ _ kz => pw_iconst (v := 0) dX12_orderAt_48 (by decide) kz) ?_
      refine WQ.st (fun _ _ kz => pw_istore6 dX12_orderAt_49 (by decide) (k := kz)) ?_
      exact l_oa2 (S := S) (P := P) (G := G) (V := V) (B := B) (Q := Q) (t := t) (sl := sl) (d := d) hF (A0 := A) hN4 (hT.cong (h1 _ (by omega) (by omega)) (h1 _ (by omega) (by omega))) hcb hsN q3 q1 q2 q4 (fun A1 g1 g2 => by
        refine WQ.st (fun _ _ kz => pw_iload5 dX12_orderAt_79 kz) ?_
        refine WQ.st (fun _ _ kz => pw_iload3 dX12_orderAt_81 kz) ?_
        refine WQ.bn (fun _ _ ka kb => pw_icmp_ne (tgt := 88) dX12_orderAt_82 (by decide) ka kb) (fun c82 => absurd rfl c82) (fun c82 => ?_)
        refine WQ.st (fun _ _ kz => pw_iload6 dX12_orderAt_85 kz) ?_
        refine ⟨_, _, pw_iret dX12_orderAt_87 rfl rfl rfl rfl, ?_⟩
        rw [show oAt th e N 0 cb left = nI (gFp th e N cb left) by rw [oAt, if_neg hl0]]
        exact ⟨rfl, A1, rfl, (fun a ha hb => by rw [g1 a hb]; exact h1 a ha hb)⟩) _ 0 A (Nat.zero_add _) (fun _ _ => rfl)
  | succ r ih =>
    intro j cb left A x6 x7 hj hsN h1 hcb hCB
    by_cases hl0 : left = 0
    · skip
      refine WQ.st (fun _ _ kz => pw_iload4 dX12_orderAt_43 kz) ?_
      refine WQ.br (fun _ _ ka kb => pw_if_eq (tgt := 135) dX12_orderAt_45 (by decide) ka kb) (fun c45 => ?_) (fun c45 => absurd (by rw [hl0]; rfl) c45)
      refine WQ.st (fun _ _ kz => pw_iconst (v := -1) dX12_orderAt_135 (by decide) kz) ?_
      refine ⟨_, _, pw_iret dX12_orderAt_136 rfl rfl rfl rfl, ?_⟩
      rw [show oAt th e N (r + 1) cb left = -1 by rw [oAt, if_pos hl0]]
      exact ⟨rfl, A, rfl, h1⟩
    · obtain ⟨q1, q2, q3, q4, q5⟩ := hCB.fp hl0 hN4
      refine WQ.st (fun _ _ kz => pw_iload4 dX12_orderAt_43 kz) ?_
      refine WQ.br (fun _ _ ka kb => pw_if_eq (tgt := 135) dX12_orderAt_45 (by decide) ka kb) (fun c45 => absurd c45 (by rw [nl_0, nI_eq (by omega) (by decide)]; exact hl0)) (fun c45 => ?_)
      refine WQ.st (fun _ _ kz => pw_iconst (v := 0) dX12_orderAt_48 (by decide) kz) ?_
      refine WQ.st (fun _ _ kz => pw_istore6 dX12_orderAt_49 (by decide) (k := kz)) ?_
      exact l_oa2 (S := S) (P := P) (G := G) (V := V) (B := B) (Q := Q) (t := t) (sl := sl) (d := d) hF (A0 := A) hN4 (hT.cong (h1 _ (by omega) (by omega)) (h1 _ (by omega) (by omega))) hcb hsN q3 q1 q2 q4 (fun A1 g1 g2 => by
        refine WQ.st (fun _ _ kz => pw_iload5 dX12_orderAt_79 kz) ?_
        refine WQ.st (fun _ _ kz => pw_iload3 dX12_orderAt_81 kz) ?_
        refine WQ.bn (fun _ _ ka kb => pw_icmp_ne (tgt := 88) dX12_orderAt_82 (by decide) ka kb) (fun c82 => ?_) (fun c82 => absurd c82 (by rw [nI_eq (by omega) (by omega)]; omega))
        refine WQ.st (fun _ _ kz => pw_iconst (v := 0) dX12_orderAt_88 (by decide) kz) ?_
        refine WQ.st (fun _ _ kz => pw_istore7 dX12_orderAt_89 (by decide) (k := kz)) ?_
        exact l_oa1 (S := S) (P := P) (G := G) (V := V) (B := B) (Q := Q) (t := t) (sl := sl) (d := d + 3) hF (A0 := A1) g2 (fun A2 m1 m2 => by
            refine WQ.st (fun _ _ kz => pw_iload4 dX12_orderAt_118 kz) ?_
            refine WQ.st (fun _ _ kz => pw_iconst (v := 1) dX12_orderAt_120 (by decide) kz) ?_
            refine WQ.st (fun _ _ kz => pw_iload6 dX12_orderAt_121 kz) ?_
            refine WQ.st (fun _ _ kz => pw_ishl dX12_orderAt_123 kz) ?_
            refine WQ.st (fun _ _ kz => pw_iconst (v := -1) dX12_orderAt_124 (by decide) kz) ?_
            refine WQ.st (fun _ _ kz => pw_ixor dX12_orderAt_125 kz) ?_
            refine WQ.st (fun _ _ kz => pw_iand dX12_orderAt_126 kz) ?_
            rw [rmB_I left (by omega) _ (by omega)]
            refine WQ.st (fun _ _ kz => pw_istore4 dX12_orderAt_127 (by decide) (k := kz)) ?_
            refine WQ.st (fun _ _ kz => pw_iinc5 (v := 1) dX12_orderAt_129 (by decide) (by decide) (k := kz)) ?_
            refine WQ.st (fun _ _ kz => pw_goto (tgt := 43) dX12_orderAt_132 (by decide) kz) ?_
            rw [nI_1]
            have hsN2 : rmB left (gFp th e N cb left) < 2 ^ N := Nat.lt_of_le_of_lt (rmB_le _ _) hsN
            have kk := ih (j + 1) (gCt th e N cb left (gFp th e N cb left)) (rmB left (gFp th e N cb left)) A2 (some (.int (nI (gFp th e N cb left)))) (some (.int (nI 41))) (by omega) hsN2 (fun a ha hb => by rw [m1 a ha, g1 a hb]; exact h1 a ha hb) m2 q5
            rw [show j + 1 + r = j + (r + 1) by omega] at kk
            rw [show oAt th e N (r + 1) cb left = oAt th e N r (gCt th e N cb left (gFp th e N cb left)) (rmB left (gFp th e N cb left)) by rw [oAt, if_neg hl0]]
            exact kk) 41 0 A1 rfl (fun _ _ => rfl) (fun i hi => absurd hi (Nat.not_lt_zero i))) _ 0 A (Nat.zero_add _) (fun _ _ => rfl)
set_option maxRecDepth 20000 in
theorem c_orderAt {G : gT} {d : Nat} {S : sS} {V : sV} {P : sP} {A : sV} {B : sB} {Q : sP} {t sl o : Nat} (hF : MF S P o) {th : Nat → Nat → Nat → Int32} {e : Nat → Int32} {N set s0 k : Nat} (hN4 : N ≤ 4) (hT : OT o th e N A) (hs0 : s0 < 41) (hsN : set < 2 ^ N) (hk : k < 4) (hne : oG th e N set s0 ≠ -268435456) : WQ G (d + 3) mX12_orderAt 0 [some (.ref o), some (.int (nI set)), some (.int (sI s0)), some (.int (nI k)), none, none, none, none] [] (t, sl, gh S V P A B Q) (fun r_ h' => r_ = some (.int (oAt th e N k (fun i => decide (i = s0)) set)) ∧ ∃ A' : sV, h' = (t, sl, gh S V P A' B Q) ∧ ∀ a, a ≠ o + 16 → a ≠ o + 17 → A' a = A a) := by
  have hCB : CB th e N (fun i => decide (i = s0)) set := ⟨s0, hs0, decide_eq_true rfl, hne⟩
  refine WQ.st (fun _ _ kz => pw_iconst (v := 0) dX12_orderAt_0 (by decide) kz) ?_
  refine WQ.st (fun _ _ kz => pw_istore4 dX12_orderAt_1 (by decide) (k := kz)) ?_
  exact l_oa0 (S := S) (P := P) (G := G) (V := V) (B := B) (Q := Q) (t := t) (sl := sl) (d := d + 3) hF (A0 := A) hs0 (x1 := nI set) (x3 := nI k) (fun A1 h1 h2 => by
    refine WQ.st (fun _ _ kz => pw_iload1 dX12_orderAt_37 kz) ?_
    refine WQ.st (fun _ _ kz => pw_istore4 dX12_orderAt_38 (by decide) (k := kz)) ?_
    refine WQ.st (fun _ _ kz => pw_iconst (v := 0) dX12_orderAt_40 (by decide) kz) ?_
    refine WQ.st (fun _ _ kz => pw_istore5 dX12_orderAt_41 (by decide) (k := kz)) ?_
    have kk := l_oa3 (S := S) (P := P) (G := G) (V := V) (B := B) (Q := Q) (t := t) (sl := sl) (d := d) hF (A0 := A) hN4 hT (x1 := nI set) (x2 := sI s0) k 0 (fun i => decide (i = s0)) set A1 none none (by omega) hsN (fun a ha _ => h1 a ha) h2 hCB
    rw [Nat.zero_add] at kk
    exact kk) 41 0 A rfl (fun _ _ => rfl) (fun i hi => absurd hi (Nat.not_lt_zero i))
