/-! ===== the reference: deeds ===== -/
/-- n places copied -/
def CPY (A0 : sV) (dst lo src slo n : Nat) (A : sV) : Prop := (∀ a, a ≠ dst → A a = A0 a) ∧ ∀ i, A dst i = if lo ≤ i ∧ i < lo + n then A0 src (i - lo + slo) else A0 dst i
theorem CPY.zero (A0 : sV) (dst lo src slo : Nat) : CPY A0 dst lo src slo 0 A0 := ⟨fun _ _ => rfl, fun i => by rw [if_neg (by omega)]⟩
theorem CPY.step {A0 : sV} {dst lo src slo k : Nat} {A : sV} (h : CPY A0 dst lo src slo k A) (ho : src ≠ dst ∨ lo ≤ slo ∨ slo + k < lo) : CPY A0 dst lo src slo (k + 1) (up2 A dst (lo + k) (A src (slo + k))) := by
  have e : A src (slo + k) = A0 src (slo + k) := by
    by_cases q : src = dst
    · subst q
      rw [h.2, if_neg (by omega)]
    · rw [h.1 _ q]
  rw [e]
  refine ⟨fun a ha => by rw [up2_na ha]; exact h.1 a ha, fun i => ?_⟩
  rw [up2_at]
  unfold pm_up
  by_cases q : i = lo + k
  · rw [if_pos q, if_pos (by omega)]
    congr 1
    omega
  · rw [if_neg q, h.2]
    by_cases q2 : lo ≤ i ∧ i < lo + k
    · rw [if_pos q2, if_pos (by omega)]
    · rw [if_neg q2, if_neg (by omega)]
/-- the bit of a place -/
def brd (x : Int) (p : Nat) : Bool := decide ((x / 2 ^ p) % 2 = 1)
theorem and1_64 (y : Int64) : y &&& 1 = 1 ↔ y.toInt % 2 = 1 := by
  have e : y.toInt % 2 = (y.toBitVec.toNat : Int) % 2 := by
    rw [← Int64.toInt_toBitVec, BitVec.toInt_eq_toNat_cond]
    split <;> omega
  rw [e, ← Int64.toBitVec_inj, ← BitVec.toNat_inj, Int64.toBitVec_and, BitVec.toNat_and]
  show y.toBitVec.toNat &&& 1 = 1 ↔ _
  rw [Nat.and_one_is_mod]
  omega
theorem and1_32 (y : Int32) : y &&& 1 = 1 ↔ y.toInt % 2 = 1 := by
  have e : y.toInt % 2 = (y.toBitVec.toNat : Int) % 2 := by
    rw [← Int32.toInt_toBitVec, BitVec.toInt_eq_toNat_cond]
    split <;> omega
  rw [e, ← Int32.toBitVec_inj, ← BitVec.toNat_inj, Int32.toBitVec_and, BitVec.toNat_and]
  show y.toBitVec.toNat &&& 1 = 1 ↔ _
  rw [Nat.and_one_is_mod]
  omega
theorem shr_64 (y : Int64) {p : Nat} (hp : p < 32) : (y >>> ((nI p).toInt64 &&& 63)).toInt = y.toInt / 2 ^ p := by
  have e : ∀ p, p < 32 → ((nI p).toInt64 &&& 63).toBitVec.smod 64 = BitVec.ofNat 64 p := by decide +kernel
  rw [← Int64.toInt_toBitVec, Int64.toBitVec_shiftRight, e p hp, BitVec.toInt_sshiftRight', BitVec.toNat_ofNat, Nat.mod_eq_of_lt (by omega), Int.shiftRight_eq_div_pow]
  rfl
theorem shr_32 (y : Int32) {p : Nat} (hp : p < 32) : (y >>> (nI p &&& 31)).toInt = y.toInt / 2 ^ p := by
  have e : ∀ p, p < 32 → (nI p &&& 31).toBitVec.smod 32 = BitVec.ofNat 32 p := by decide +kernel
  rw [← Int32.toInt_toBitVec, Int32.toBitVec_shiftRight, e p hp, BitVec.toInt_sshiftRight', BitVec.toNat_ofNat, Nat.mod_eq_of_lt (by omega), Int.shiftRight_eq_div_pow]
  rfl
theorem brd_64 (x : Int64) {p : Nat} (hp : p < 32) : decide ((x >>> ((nI p).toInt64 &&& 63)) &&& 1 = 1) = brd x.toInt p := by
  unfold brd
  apply decide_eq_decide.mpr
  rw [and1_64, shr_64 x hp]
theorem brd_32 (x : Int32) {p : Nat} (hp : p < 32) : decide ((x >>> (nI p &&& 31)) &&& 1 = 1) = brd x.toInt p := by
  unfold brd
  apply decide_eq_decide.mpr
  rw [and1_32, shr_32 x hp]
set_option maxRecDepth 20000 in
theorem l_keeps {G : gT} {d : Nat} {S : sS} {V : sV} {P : sP} {B : sB} {Q : sP} {t sl o : Nat} (hF : MF S P o)  {A0 : sV} {Z : Option Value → Ph → Prop} (kf : ∀ A : sV, CPY A0 (o + 11) (0) (o + 1) (75) (17) A → WQ G d mX12_keeps 29 [some (.ref o), some (.int (nI (17)))] [] (t, sl, gh S V P A B Q) Z) : ∀ (m k : Nat) (A : sV), k + m = 17 → CPY A0 (o + 11) (0) (o + 1) (75) k A → WQ G d mX12_keeps 2 [some (.ref o), some (.int (nI k))] [] (t, sl, gh S V P A B Q) Z := by
  intro m
  induction m with
  | zero =>
    intro k A hk hC
    have hk : k = 17 := hk
    subst hk
    refine WQ.st (fun _ _ kz => pw_iload1 dX12_keeps_2 kz) ?_
    refine WQ.st (fun _ _ kz => pw_bipush (v := 17) dX12_keeps_3 (by decide) kz) ?_
    refine WQ.br (fun _ _ ka kb => pw_icmp_ge (tgt := 29) dX12_keeps_5 (by decide) ka kb) (fun c5 => ?_) (fun c5 => absurd (by decide) c5)
    exact kf A hC
  | succ m ih =>
    intro k A hk hC
    have kk := ih (k + 1) _ (by omega) (hC.step (Or.inl (by omega)))
    refine WQ.st (fun _ _ kz => pw_iload1 dX12_keeps_2 kz) ?_
    refine WQ.st (fun _ _ kz => pw_bipush (v := 17) dX12_keeps_3 (by decide) kz) ?_
    refine WQ.br (fun _ _ ka kb => pw_icmp_ge (tgt := 29) dX12_keeps_5 (by decide) ka kb) (fun c5 => absurd c5 (by rw [le_i li_17 (ix_n (j := k) (by omega))]; omega)) (fun c5 => ?_)
    refine WQ.st (fun _ _ kz => pw_aload0 dX12_keeps_8 kz) ?_
    refine WQ.st (fun _ _ kz => pw_getr gX12_48 dX12_keeps_9 hF.1 (mf_p25 hF) kz) ?_
    refine WQ.st (fun _ _ kz => pw_iload1 dX12_keeps_12 kz) ?_
    refine WQ.st (fun _ _ kz => pw_aload0 dX12_keeps_13 kz) ?_
    refine WQ.st (fun _ _ kz => pw_getr gX12_13 dX12_keeps_14 hF.1 (mf_p1 hF) kz) ?_
    refine WQ.st (fun _ _ kz => pw_bipush (v := 75) dX12_keeps_17 (by decide) kz) ?_
    refine WQ.st (fun _ _ kz => pw_iload1 dX12_keeps_19 kz) ?_
    refine WQ.st (fun _ _ kz => pw_iadd dX12_keeps_20 kz) ?_
    refine WQ.st (fun _ _ kz => pw_ald (j := 75 + k) dX12_keeps_21 (mf_s1 hF) (by first | exact ix_m (by omega) (by omega) | (simp only [nl_75, nI_add]; exact ix_m (by omega) (by omega))) (by omega) kz) ?_
    refine WQ.st (fun _ _ kz => pw_ast (j := 0 + k) dX12_keeps_22 (mf_s11 hF) (by first | exact ix_m (by omega) (by omega) | (simp only [nl_75, nI_add]; exact ix_m (by omega) (by omega))) (by omega)  kz) ?_
    refine WQ.st (fun _ _ kz => pw_iinc1 (v := 1) dX12_keeps_23 (by decide) (by decide) (k := kz)) ?_
    refine WQ.st (fun _ _ kz => pw_goto (tgt := 2) dX12_keeps_26 (by decide) kz) ?_
    rw [nI_1]
    exact kk
set_option maxRecDepth 20000 in
theorem c_keeps {G : gT} {d : Nat} {S : sS} {V : sV} {P : sP} {A : sV} {B : sB} {Q : sP} {t sl o : Nat} (hF : MF S P o) : WQ G d mX12_keeps 0 [some (.ref o), none] [] (t, sl, gh S V P A B Q) (fun r h' => r = none ∧ ∃ A' : sV, h' = (t, sl, gh S V P A' B Q) ∧ CPY A (o + 11) 0 (o + 1) 75 17 A') := by
  refine WQ.st (fun _ _ kz => pw_iconst (v := 0) dX12_keeps_0 (by decide) kz) ?_
  refine WQ.st (fun _ _ kz => pw_istore1 dX12_keeps_1 (by decide) (k := kz)) ?_
  exact l_keeps (G := G) (V := V) (B := B) (Q := Q) (t := t) (sl := sl) (d := d) hF (fun A' hC => by
      refine ⟨_, _, pw_vret dX12_keeps_29 rfl rfl rfl, ?_⟩
      exact ⟨rfl, A', rfl, hC⟩) 17 0 A rfl (CPY.zero _ _ _ _ _)
set_option maxRecDepth 20000 in
theorem l_isAgain {G : gT} {d : Nat} {S : sS} {V : sV} {P : sP} {B : sB} {Q : sP} {t sl o : Nat} (hF : MF S P o)  {A0 : sV} {Z : Option Value → Ph → Prop} (kf : ∀ A : sV, CPY A0 (o + 1) (75) (o + 11) (0) (17) A → WQ G d mX12_isAgain 29 [some (.ref o), some (.int (nI (17)))] [] (t, sl, gh S V P A B Q) Z) : ∀ (m k : Nat) (A : sV), k + m = 17 → CPY A0 (o + 1) (75) (o + 11) (0) k A → WQ G d mX12_isAgain 2 [some (.ref o), some (.int (nI k))] [] (t, sl, gh S V P A B Q) Z := by
  intro m
  induction m with
  | zero =>
    intro k A hk hC
    have hk : k = 17 := hk
    subst hk
    refine WQ.st (fun _ _ kz => pw_iload1 dX12_isAgain_2 kz) ?_
    refine WQ.st (fun _ _ kz => pw_bipush (v := 17) dX12_isAgain_3 (by decide) kz) ?_
    refine WQ.br (fun _ _ ka kb => pw_icmp_ge (tgt := 29) dX12_isAgain_5 (by decide) ka kb) (fun c5 => ?_) (fun c5 => absurd (by decide) c5)
    exact kf A hC
  | succ m ih =>
    intro k A hk hC
    have kk := ih (k + 1) _ (by omega) (hC.step (Or.inl (by omega)))
    refine WQ.st (fun _ _ kz => pw_iload1 dX12_isAgain_2 kz) ?_
    refine WQ.st (fun _ _ kz => pw_bipush (v := 17) dX12_isAgain_3 (by decide) kz) ?_
    refine WQ.br (fun _ _ ka kb => pw_icmp_ge (tgt := 29) dX12_isAgain_5 (by decide) ka kb) (fun c5 => absurd c5 (by rw [le_i li_17 (ix_n (j := k) (by omega))]; omega)) (fun c5 => ?_)
    refine WQ.st (fun _ _ kz => pw_aload0 dX12_isAgain_8 kz) ?_
    refine WQ.st (fun _ _ kz => pw_getr gX12_13 dX12_isAgain_9 hF.1 (mf_p1 hF) kz) ?_
    refine WQ.st (fun _ _ kz => pw_bipush (v := 75) dX12_isAgain_12 (by decide) kz) ?_
    refine WQ.st (fun _ _ kz => pw_iload1 dX12_isAgain_14 kz) ?_
    refine WQ.st (fun _ _ kz => pw_iadd dX12_isAgain_15 kz) ?_
    refine WQ.st (fun _ _ kz => pw_aload0 dX12_isAgain_16 kz) ?_
    refine WQ.st (fun _ _ kz => pw_getr gX12_48 dX12_isAgain_17 hF.1 (mf_p25 hF) kz) ?_
    refine WQ.st (fun _ _ kz => pw_iload1 dX12_isAgain_20 kz) ?_
    refine WQ.st (fun _ _ kz => pw_ald (j := 0 + k) dX12_isAgain_21 (mf_s11 hF) (by first | exact ix_m (by omega) (by omega) | (simp only [nl_75, nI_add]; exact ix_m (by omega) (by omega))) (by omega) kz) ?_
    refine WQ.st (fun _ _ kz => pw_ast (j := 75 + k) dX12_isAgain_22 (mf_s1 hF) (by first | exact ix_m (by omega) (by omega) | (simp only [nl_75, nI_add]; exact ix_m (by omega) (by omega))) (by omega)  kz) ?_
    refine WQ.st (fun _ _ kz => pw_iinc1 (v := 1) dX12_isAgain_23 (by decide) (by decide) (k := kz)) ?_
    refine WQ.st (fun _ _ kz => pw_goto (tgt := 2) dX12_isAgain_26 (by decide) kz) ?_
    rw [nI_1]
    exact kk
set_option maxRecDepth 20000 in
theorem c_isAgain {G : gT} {d : Nat} {S : sS} {V : sV} {P : sP} {A : sV} {B : sB} {Q : sP} {t sl o : Nat} (hF : MF S P o) : WQ G d mX12_isAgain 0 [some (.ref o), none] [] (t, sl, gh S V P A B Q) (fun r h' => r = none ∧ ∃ A' : sV, h' = (t, sl, gh S V P A' B Q) ∧ CPY A (o + 1) 75 (o + 11) 0 17 A') := by
  refine WQ.st (fun _ _ kz => pw_iconst (v := 0) dX12_isAgain_0 (by decide) kz) ?_
  refine WQ.st (fun _ _ kz => pw_istore1 dX12_isAgain_1 (by decide) (k := kz)) ?_
  exact l_isAgain (G := G) (V := V) (B := B) (Q := Q) (t := t) (sl := sl) (d := d) hF (fun A' hC => by
      refine ⟨_, _, pw_vret dX12_isAgain_29 rfl rfl rfl, ?_⟩
      exact ⟨rfl, A', rfl, hC⟩) 17 0 A rfl (CPY.zero _ _ _ _ _)
