/-! ===== the reference: orders ===== -/
def inB (set p : Nat) : Bool := decide (set / 2 ^ p % 2 = 1)
def rmB (set p : Nat) : Nat := if set / 2 ^ p % 2 = 1 then set - 2 ^ p else set
theorem rmB_I : ∀ set, set < 16 → ∀ p, p < 4 → nI set &&& ((1 : Int32) <<< (nI p &&& 31) ^^^ (-1)) = nI (rmB set p) := by decide +kernel
theorem rmB_le (set p : Nat) : rmB set p ≤ set := by
  unfold rmB
  split
  · exact Nat.sub_le _ _
  · exact Nat.le_refl _
theorem rmB_lt {set p : Nat} (h : inB set p = true) : rmB set p < set := by
  have h := of_decide_eq_true h
  unfold rmB
  rw [if_pos h]
  have : 0 < 2 ^ p := Nat.pow_pos (by decide)
  have : 0 < set := by
    rcases Nat.eq_zero_or_pos set with q | q
    · rw [q, Nat.zero_div] at h
      exact absurd h (by decide)
    · exact q
  omega
theorem inB_brd (set p : Nat) : brd (set : Int) p = inB set p := by
  unfold brd inB
  apply decide_eq_decide.mpr
  have : ((set : Int) / 2 ^ p) % 2 = ((set / 2 ^ p % 2 : Nat) : Int) := by
    push_cast
    rfl
  rw [this]
  omega
def ob (x y : Int32) : Int32 := if x = -268435456 ∨ y = -268435456 then -268435456 else x + y
/-- the most of some numbers -/
def oI (g : Nat → Int32) : Int32 → Nat → Nat → Int32
  | acc, 0, _ => acc
  | acc, m + 1, t => oI g (if g t ≤ acc then acc else g t) m (t + 1)
def oP (g : Nat → Nat → Int32) (b : Nat → Bool) : Int32 → Nat → Nat → Int32
  | acc, 0, _ => acc
  | acc, m + 1, p => oP g b (if b p then oI (g p) acc 41 0 else acc) m (p + 1)
/-- how glad the pieces of a set make one from a store on, in their best order -/
def oGF (th : Nat → Nat → Nat → Int32) (e : Nat → Int32) (N : Nat) : Nat → Nat → Nat → Int32
  | 0, _, s => e s
  | k + 1, set, s => if set = 0 then e s else oP (fun p t => ob (th p s t) (oGF th e N k (rmB set p) t)) (inB set) (-268435456) N 0
def oG (th : Nat → Nat → Nat → Int32) (e : Nat → Int32) (N set s : Nat) : Int32 := oGF th e N set set s
theorem oI_cong {g g' : Nat → Int32} : ∀ (m t : Nat) (acc : Int32), (∀ i, t ≤ i → i < t + m → g i = g' i) → oI g acc m t = oI g' acc m t
  | 0, _, _, _ => rfl
  | m + 1, t, acc, h => by rw [oI, oI, h t (Nat.le_refl _) (by omega), oI_cong m (t + 1) _ (fun i h1 h2 => h i (by omega) (by omega))]
theorem oP_cong {g g' : Nat → Nat → Int32} {b : Nat → Bool} : ∀ (m p : Nat) (acc : Int32), (∀ i t, p ≤ i → i < p + m → t < 41 → b i = true → g i t = g' i t) → oP g b acc m p = oP g' b acc m p
  | 0, _, _, _ => rfl
  | m + 1, p, acc, h => by
    rw [oP, oP]
    have e : (if b p = true then oI (g p) acc 41 0 else acc) = (if b p = true then oI (g' p) acc 41 0 else acc) := by
      by_cases q : b p = true
      · rw [if_pos q, if_pos q]
        exact oI_cong 41 0 acc (fun i _ h2 => h p i (Nat.le_refl _) (by omega) (by omega) q)
      · rw [if_neg q, if_neg q]
    rw [e]
    exact oP_cong m (p + 1) _ (fun i t h1 h2 h3 h4 => h i t (by omega) (by omega) h3 h4)
theorem oGF_fuel {th : Nat → Nat → Nat → Int32} {e : Nat → Int32} {N : Nat} : ∀ (k j set s : Nat), set ≤ k → set ≤ j → oGF th e N k set s = oGF th e N j set s
  | 0, 0, _, _, _, _ => rfl
  | 0, j + 1, set, s, h1, _ => by
    have : set = 0 := by omega
    rw [oGF, oGF, if_pos this]
  | k + 1, 0, set, s, _, h2 => by
    have : set = 0 := by omega
    rw [oGF, oGF, if_pos this]
  | k + 1, j + 1, set, s, h1, h2 => by
    rw [oGF, oGF]
    by_cases e0 : set = 0
    · rw [if_pos e0, if_pos e0]
    · rw [if_neg e0, if_neg e0]
      refine oP_cong N 0 _ (fun p t _ _ _ hb => ?_)
      have := rmB_lt hb
      rw [oGF_fuel k j (rmB set p) t (by omega) (by omega)]
theorem oG_0 (th : Nat → Nat → Nat → Int32) (e : Nat → Int32) (N s : Nat) : oG th e N 0 s = e s := rfl
theorem oG_s {th : Nat → Nat → Nat → Int32} {e : Nat → Int32} {N set s : Nat} (h : set ≠ 0) : oG th e N set s = oP (fun p t => ob (th p s t) (oG th e N (rmB set p) t)) (inB set) (-268435456) N 0 := by
  unfold oG
  obtain ⟨k, rfl⟩ : ∃ k, set = k + 1 := ⟨set - 1, by omega⟩
  rw [oGF, if_neg h]
  refine oP_cong N 0 _ (fun p t _ _ _ hb => ?_)
  have := rmB_lt hb
  rw [oGF_fuel k (rmB (k + 1) p) (rmB (k + 1) p) t (by omega) (Nat.le_refl _)]
set_option maxRecDepth 20000 in
theorem c_orderBy {G : gT} {d : Nat} {S : sS} {V : sV} {P : sP} {A : sV} {B : sB} {Q : sP} {t sl o : Nat} (hF : MF S P o) {set f q u : Nat} (hs : set < 16) (hf : f < 41) (hq : q < 4) (hu : u < 41) : WQ G (d + 1) mX12_orderBy 0 [some (.ref o), some (.int (nI set)), some (.int (nI f)), some (.int (nI q)), some (.int (nI u)), none, none] [] (t, sl, gh S V P A B Q) (fun r h' => r = some (.int (ob (A (o + 14) ((41 * q + f) * 41 + u)) (A (o + 15) (41 * rmB set q + u)))) ∧ h' = (t, sl, gh S V P A B Q)) := by
  refine WQ.st (fun _ _ kz => pw_aload0 dX12_orderBy_0 kz) ?_
  refine WQ.st (fun _ _ kz => pw_iload3 dX12_orderBy_1 kz) ?_
  refine WQ.st (fun _ _ kz => pw_iload2 dX12_orderBy_2 kz) ?_
  refine WQ.st (fun _ _ kz => pw_iload4 dX12_orderBy_3 kz) ?_
  refine WQ.st (fun _ _ kz => pw_o3i wX12_throughBy lX12_450 rfl dX12_orderBy_5 hF.1 (c_throughBy hF hq hf hu) rfl (Nat.le_of_ble_eq_true rfl) (Nat.le_of_ble_eq_true rfl) kz) ?_
  refine WQ.st (fun _ _ kz => pw_istore5 dX12_orderBy_8 (by decide) (k := kz)) ?_
  refine WQ.st (fun _ _ kz => pw_aload0 dX12_orderBy_10 kz) ?_
  refine WQ.st (fun _ _ kz => pw_getr gX12_61 dX12_orderBy_11 hF.1 (mf_p31 hF) kz) ?_
  refine WQ.st (fun _ _ kz => pw_bipush (v := 41) dX12_orderBy_14 (by decide) kz) ?_
  refine WQ.st (fun _ _ kz => pw_iload1 dX12_orderBy_16 kz) ?_
  refine WQ.st (fun _ _ kz => pw_iconst (v := 1) dX12_orderBy_17 (by decide) kz) ?_
  refine WQ.st (fun _ _ kz => pw_iload3 dX12_orderBy_18 kz) ?_
  refine WQ.st (fun _ _ kz => pw_ishl dX12_orderBy_19 kz) ?_
  refine WQ.st (fun _ _ kz => pw_iconst (v := -1) dX12_orderBy_20 (by decide) kz) ?_
  refine WQ.st (fun _ _ kz => pw_ixor dX12_orderBy_21 kz) ?_
  refine WQ.st (fun _ _ kz => pw_iand dX12_orderBy_22 kz) ?_
  rw [rmB_I set hs q hq]
  refine WQ.st (fun _ _ kz => pw_imul dX12_orderBy_23 kz) ?_
  refine WQ.st (fun _ _ kz => pw_iload4 dX12_orderBy_24 kz) ?_
  refine WQ.st (fun _ _ kz => pw_iadd dX12_orderBy_26 kz) ?_
  refine WQ.st (fun _ _ kz => pw_ald (j := 41 * rmB set q + u) dX12_orderBy_27 (mf_s15 hF) (by simp (disch := omega) only [nl_41, nI_add, pk_mul, pk_sub]; exact ix_m (by omega) (by have := rmB_le set q; omega)) (by have := rmB_le set q; omega) kz) ?_
  refine WQ.st (fun _ _ kz => pw_istore6 dX12_orderBy_28 (by decide) (k := kz)) ?_
  refine WQ.st (fun _ _ kz => pw_iload5 dX12_orderBy_30 kz) ?_
  refine WQ.st (fun _ _ kz => pw_ldcw kX12_273 dX12_orderBy_32 kz) ?_
  refine WQ.br (fun _ _ ka kb => pw_icmp_eq (tgt := 46) dX12_orderBy_35 (by decide) ka kb) (fun c35 => ?_) (fun c35 => ?_)
  · refine WQ.st (fun _ _ kz => pw_ldcw kX12_273 dX12_orderBy_46 kz) ?_
    refine WQ.st (fun _ _ kz => pw_goto (tgt := 57) dX12_orderBy_49 (by decide) kz) ?_
    refine ⟨_, _, pw_iret dX12_orderBy_57 rfl rfl rfl rfl, ?_⟩
    exact ⟨rI (by unfold ob; rw [if_pos (Or.inl c35)]), rfl⟩
  · refine WQ.st (fun _ _ kz => pw_iload6 dX12_orderBy_38 kz) ?_
    refine WQ.st (fun _ _ kz => pw_ldcw kX12_273 dX12_orderBy_40 kz) ?_
    refine WQ.bn (fun _ _ ka kb => pw_icmp_ne (tgt := 52) dX12_orderBy_43 (by decide) ka kb) (fun c43 => ?_) (fun c43 => ?_)
    · refine WQ.st (fun _ _ kz => pw_iload5 dX12_orderBy_52 kz) ?_
      refine WQ.st (fun _ _ kz => pw_iload6 dX12_orderBy_54 kz) ?_
      refine WQ.st (fun _ _ kz => pw_iadd dX12_orderBy_56 kz) ?_
      refine ⟨_, _, pw_iret dX12_orderBy_57 rfl rfl rfl rfl, ?_⟩
      exact ⟨rI (by unfold ob; rw [if_neg (fun z => z.elim c35 c43)]), rfl⟩
    · refine WQ.st (fun _ _ kz => pw_ldcw kX12_273 dX12_orderBy_46 kz) ?_
      refine WQ.st (fun _ _ kz => pw_goto (tgt := 57) dX12_orderBy_49 (by decide) kz) ?_
      refine ⟨_, _, pw_iret dX12_orderBy_57 rfl rfl rfl rfl, ?_⟩
      exact ⟨rI (by unfold ob; rw [if_pos (Or.inr c43)]), rfl⟩
set_option maxRecDepth 20000 in
theorem l_ord1 {G : gT} {d : Nat} {S : sS} {V : sV} {P : sP} {A : sV} {B : sB} {Q : sP} {t sl o : Nat} (hF : MF S P o) {set f q : Nat} {x1 : Int32} (hs : set < 16) (hf : f < 41) (hq : q < 4) (hin : inB set q = true) {Z : Option Value → Ph → Prop} : ∀ (m k : Nat) (mo : Int32) (x7 : Option Value), k + m = 41 → (∀ x7 : Option Value, WQ G (d + 2) mX12_laysOrders 130 [some (.ref o), some (.int x1), some (.int (nI set)), some (.int (nI f)), some (.int (oI (fun u => ob (A (o + 14) ((41 * q + f) * 41 + u)) (A (o + 15) (41 * rmB set q + u))) mo m k)), some (.int (nI q)), some (.int (nI 41)), x7] [] (t, sl, gh S V P A B Q) Z) → WQ G (d + 2) mX12_laysOrders 79 [some (.ref o), some (.int x1), some (.int (nI set)), some (.int (nI f)), some (.int mo), some (.int (nI q)), some (.int (nI k)), x7] [] (t, sl, gh S V P A B Q) Z := by
  intro m
  induction m with
  | zero =>
    intro k mo x7 hk kf
    have hk : k = 41 := hk
    subst hk
    refine WQ.st (fun _ _ kz => pw_iload6 dX12_laysOrders_79 kz) ?_
    refine WQ.st (fun _ _ kz => pw_bipush (v := 41) dX12_laysOrders_81 (by decide) kz) ?_
    refine WQ.br (fun _ _ ka kb => pw_icmp_ge (tgt := 130) dX12_laysOrders_83 (by decide) ka kb) (fun c83 => ?_) (fun c83 => absurd (by decide) c83)
    exact kf x7
  | succ m ih =>
    intro k mo x7 hk kf
    refine WQ.st (fun _ _ kz => pw_iload6 dX12_laysOrders_79 kz) ?_
    refine WQ.st (fun _ _ kz => pw_bipush (v := 41) dX12_laysOrders_81 (by decide) kz) ?_
    refine WQ.br (fun _ _ ka kb => pw_icmp_ge (tgt := 130) dX12_laysOrders_83 (by decide) ka kb) (fun c83 => absurd c83 (by rw [le_i li_41 (ix_n (j := k) (by omega))]; omega)) (fun c83 => ?_)
    refine WQ.st (fun _ _ kz => pw_iload2 dX12_laysOrders_86 kz) ?_
    refine WQ.st (fun _ _ kz => pw_i2l dX12_laysOrders_87 kz) ?_
    refine WQ.st (fun _ _ kz => pw_iload5 dX12_laysOrders_88 kz) ?_
    refine WQ.st (fun _ _ kz => pw_s2i wX12_isIn lX12_315 dX12_laysOrders_90 (c_isIn _ _) rfl (Nat.le_of_ble_eq_true rfl) (Nat.le_of_ble_eq_true rfl) kz) ?_
    rw [brd_64 _ (by omega), il_t, nI_toInt (by omega), inB_brd, hin]
    refine WQ.br (fun _ _ ka kb => pw_if_eq (tgt := 130) dX12_laysOrders_93 (by decide) ka kb) (fun c93 => absurd c93 (by decide)) (fun c93 => ?_)
    refine WQ.st (fun _ _ kz => pw_aload0 dX12_laysOrders_96 kz) ?_
    refine WQ.st (fun _ _ kz => pw_iload2 dX12_laysOrders_97 kz) ?_
    refine WQ.st (fun _ _ kz => pw_iload3 dX12_laysOrders_98 kz) ?_
    refine WQ.st (fun _ _ kz => pw_iload5 dX12_laysOrders_99 kz) ?_
    refine WQ.st (fun _ _ kz => pw_iload6 dX12_laysOrders_101 kz) ?_
    obtain ⟨_, _, k1, rfl, rfl⟩ := c_orderBy (d := d) (P := P) (S := S) (G := G) (V := V) (A := A) (B := B) (Q := Q) (t := t) (sl := sl) hF hs hf hq (show k < 41 by omega)
    refine WQ.st (fun _ _ kz => pw_o4i wX12_orderBy lX12_453 rfl dX12_laysOrders_103 hF.1 (k1) rfl (Nat.le_of_ble_eq_true rfl) (Nat.le_of_ble_eq_true rfl) kz) ?_
    refine WQ.st (fun _ _ kz => pw_istore7 dX12_laysOrders_106 (by decide) (k := kz)) ?_
    refine WQ.st (fun _ _ kz => pw_iload7 dX12_laysOrders_108 kz) ?_
    refine WQ.st (fun _ _ kz => pw_iload4 dX12_laysOrders_110 kz) ?_
    refine WQ.br (fun _ _ ka kb => pw_icmp_le (tgt := 120) dX12_laysOrders_112 (by decide) ka kb) (fun c112 => ?_) (fun c112 => ?_)
    · refine WQ.st (fun _ _ kz => pw_iload4 dX12_laysOrders_120 kz) ?_
      refine WQ.st (fun _ _ kz => pw_istore4 dX12_laysOrders_122 (by decide) (k := kz)) ?_
      refine WQ.st (fun _ _ kz => pw_iinc6 (v := 1) dX12_laysOrders_124 (by decide) (by decide) (k := kz)) ?_
      refine WQ.st (fun _ _ kz => pw_goto (tgt := 79) dX12_laysOrders_127 (by decide) kz) ?_
      rw [nI_1]
      exact ih (k + 1) mo _ (by omega) (by rw [oI, if_pos c112] at kf; exact kf)
    · refine WQ.st (fun _ _ kz => pw_iload7 dX12_laysOrders_115 kz) ?_
      refine WQ.st (fun _ _ kz => pw_goto (tgt := 122) dX12_laysOrders_117 (by decide) kz) ?_
      refine WQ.st (fun _ _ kz => pw_istore4 dX12_laysOrders_122 (by decide) (k := kz)) ?_
      refine WQ.st (fun _ _ kz => pw_iinc6 (v := 1) dX12_laysOrders_124 (by decide) (by decide) (k := kz)) ?_
      refine WQ.st (fun _ _ kz => pw_goto (tgt := 79) dX12_laysOrders_127 (by decide) kz) ?_
      rw [nI_1]
      exact ih (k + 1) _ _ (by omega) (by rw [oI, if_neg c112] at kf; exact kf)
set_option maxRecDepth 20000 in
theorem l_ord2 {G : gT} {d : Nat} {S : sS} {V : sV} {P : sP} {A : sV} {B : sB} {Q : sP} {t sl o : Nat} (hF : MF S P o) {set f N : Nat} {x1 : Int32} (hs : set < 16) (hf : f < 41) (hN4 : N ≤ 4) (hN : A (o + 1) 1 = nI N) {Z : Option Value → Ph → Prop} : ∀ (m q : Nat) (mo : Int32) (x6 x7 : Option Value), q + m = N → (∀ x6 x7 : Option Value, WQ G (d + 2) mX12_laysOrders 136 [some (.ref o), some (.int x1), some (.int (nI set)), some (.int (nI f)), some (.int (oP (fun q u => ob (A (o + 14) ((41 * q + f) * 41 + u)) (A (o + 15) (41 * rmB set q + u))) (inB set) mo m q)), some (.int (nI N)), x6, x7] [] (t, sl, gh S V P A B Q) Z) → WQ G (d + 2) mX12_laysOrders 65 [some (.ref o), some (.int x1), some (.int (nI set)), some (.int (nI f)), some (.int mo), some (.int (nI q)), x6, x7] [] (t, sl, gh S V P A B Q) Z := by
  intro m
  induction m with
  | zero =>
    intro q mo x6 x7 hk kf
    have hk : q = N := hk
    subst hk
    refine WQ.st (fun _ _ kz => pw_iload5 dX12_laysOrders_65 kz) ?_
    refine WQ.st (fun _ _ kz => pw_aload0 dX12_laysOrders_67 kz) ?_
    refine WQ.st (fun _ _ kz => pw_getr gX12_13 dX12_laysOrders_68 hF.1 (mf_p1 hF) kz) ?_
    refine WQ.st (fun _ _ kz => pw_iconst (v := 1) dX12_laysOrders_71 (by decide) kz) ?_
    refine WQ.st (fun _ _ kz => pw_ald (j := 1) dX12_laysOrders_72 (mf_s1 hF) rfl (by omega) kz) ?_
    rw [hN]
    refine WQ.br (fun _ _ ka kb => pw_icmp_ge (tgt := 136) dX12_laysOrders_73 (by decide) ka kb) (fun c73 => ?_) (fun c73 => absurd (Int32.le_refl _) c73)
    exact kf x6 x7
  | succ m ih =>
    intro q mo x6 x7 hk kf
    cases hin : inB set q with
    | true =>
      refine WQ.st (fun _ _ kz => pw_iload5 dX12_laysOrders_65 kz) ?_
      refine WQ.st (fun _ _ kz => pw_aload0 dX12_laysOrders_67 kz) ?_
      refine WQ.st (fun _ _ kz => pw_getr gX12_13 dX12_laysOrders_68 hF.1 (mf_p1 hF) kz) ?_
      refine WQ.st (fun _ _ kz => pw_iconst (v := 1) dX12_laysOrders_71 (by decide) kz) ?_
      refine WQ.st (fun _ _ kz => pw_ald (j := 1) dX12_laysOrders_72 (mf_s1 hF) rfl (by omega) kz) ?_
      rw [hN]
      refine WQ.br (fun _ _ ka kb => pw_icmp_ge (tgt := 136) dX12_laysOrders_73 (by decide) ka kb) (fun c73 => absurd c73 (by rw [le_i (ix_n (j := N) (by omega)) (ix_n (j := q) (by omega))]; omega)) (fun c73 => ?_)
      refine WQ.st (fun _ _ kz => pw_iconst (v := 0) dX12_laysOrders_76 (by decide) kz) ?_
      refine WQ.st (fun _ _ kz => pw_istore6 dX12_laysOrders_77 (by decide) (k := kz)) ?_
      exact l_ord1 (d := d) (P := P) (S := S) (G := G) (V := V) (A := A) (B := B) (Q := Q) (t := t) (sl := sl) hF hs hf (show q < 4 by omega) hin 41 0 mo x7 rfl (fun x7 => by
        refine WQ.st (fun _ _ kz => pw_iinc5 (v := 1) dX12_laysOrders_130 (by decide) (by decide) (k := kz)) ?_
        refine WQ.st (fun _ _ kz => pw_goto (tgt := 65) dX12_laysOrders_133 (by decide) kz) ?_
        rw [nI_1]
        exact ih (q + 1) _ _ _ (by omega) (by rw [oP, if_pos hin] at kf; exact kf))
    | false =>
      refine WQ.st (fun _ _ kz => pw_iload5 dX12_laysOrders_65 kz) ?_
      refine WQ.st (fun _ _ kz => pw_aload0 dX12_laysOrders_67 kz) ?_
      refine WQ.st (fun _ _ kz => pw_getr gX12_13 dX12_laysOrders_68 hF.1 (mf_p1 hF) kz) ?_
      refine WQ.st (fun _ _ kz => pw_iconst (v := 1) dX12_laysOrders_71 (by decide) kz) ?_
      refine WQ.st (fun _ _ kz => pw_ald (j := 1) dX12_laysOrders_72 (mf_s1 hF) rfl (by omega) kz) ?_
      rw [hN]
      refine WQ.br (fun _ _ ka kb => pw_icmp_ge (tgt := 136) dX12_laysOrders_73 (by decide) ka kb) (fun c73 => absurd c73 (by rw [le_i (ix_n (j := N) (by omega)) (ix_n (j := q) (by omega))]; omega)) (fun c73 => ?_)
      refine WQ.st (fun _ _ kz => pw_iconst (v := 0) dX12_laysOrders_76 (by decide) kz) ?_
      refine WQ.st (fun _ _ kz => pw_istore6 dX12_laysOrders_77 (by decide) (k := kz)) ?_
      refine WQ.st (fun _ _ kz => pw_iload6 dX12_laysOrders_79 kz) ?_
      refine WQ.st (fun _ _ kz => pw_bipush (v := 41) dX12_laysOrders_81 (by decide) kz) ?_
      refine WQ.br (fun _ _ ka kb => pw_icmp_ge (tgt := 130) dX12_laysOrders_83 (by decide) ka kb) (fun c83 => absurd c83 (by decide)) (fun c83 => ?_)
      refine WQ.st (fun _ _ kz => pw_iload2 dX12_laysOrders_86 kz) ?_
      refine WQ.st (fun _ _ kz => pw_i2l dX12_laysOrders_87 kz) ?_
      refine WQ.st (fun _ _ kz => pw_iload5 dX12_laysOrders_88 kz) ?_
      refine WQ.st (fun _ _ kz => pw_s2i wX12_isIn lX12_315 dX12_laysOrders_90 (c_isIn _ _) rfl (Nat.le_of_ble_eq_true rfl) (Nat.le_of_ble_eq_true rfl) kz) ?_
      rw [brd_64 _ (by omega), il_t, nI_toInt (by omega), inB_brd, hin]
      refine WQ.br (fun _ _ ka kb => pw_if_eq (tgt := 130) dX12_laysOrders_93 (by decide) ka kb) (fun c93 => ?_) (fun c93 => absurd rfl c93)
      refine WQ.st (fun _ _ kz => pw_iinc5 (v := 1) dX12_laysOrders_130 (by decide) (by decide) (k := kz)) ?_
      refine WQ.st (fun _ _ kz => pw_goto (tgt := 65) dX12_laysOrders_133 (by decide) kz) ?_
      rw [nI_1]
      exact ih (q + 1) _ _ _ (by omega) (by rw [oP, if_neg (by rw [hin]; decide)] at kf; exact kf)
/-- the orders of the sets before (set, f) are right -/
def OR (o : Nat) (th : Nat → Nat → Nat → Int32) (e : Nat → Int32) (N K : Nat) (A0 A : sV) : Prop := (∀ a, a ≠ o + 15 → A a = A0 a) ∧ ∀ set s, s < 41 → 41 * set + s < K → A (o + 15) (41 * set + s) = oG th e N set s
set_option maxRecDepth 20000 in
theorem l_ord3 {G : gT} {d : Nat} {S : sS} {V : sV} {P : sP} {B : sB} {Q : sP} {t sl o : Nat} (hF : MF S P o) {A0 : sV} {set N : Nat} {x1 : Int32} (h0 : set ≠ 0) (hs : set < 16) (hN4 : N ≤ 4) (hN : A0 (o + 1) 1 = nI N) {th : Nat → Nat → Nat → Int32} {e : Nat → Int32} (hth : ∀ q f u, q < N → f < 41 → u < 41 → A0 (o + 14) ((41 * q + f) * 41 + u) = th q f u) {Z : Option Value → Ph → Prop} (kf : ∀ (A : sV) (x4 x5 x6 x7 : Option Value), OR o th e N (41 * set + 41) A0 A → WQ G (d + 2) mX12_laysOrders 155 [some (.ref o), some (.int x1), some (.int (nI set)), some (.int (nI 41)), x4, x5, x6, x7] [] (t, sl, gh S V P A B Q) Z) : ∀ (m f : Nat) (A : sV) (x4 x5 x6 x7 : Option Value), f + m = 41 → OR o th e N (41 * set + f) A0 A → WQ G (d + 2) mX12_laysOrders 51 [some (.ref o), some (.int x1), some (.int (nI set)), some (.int (nI f)), x4, x5, x6, x7] [] (t, sl, gh S V P A B Q) Z := by
  intro m
  induction m with
  | zero =>
    intro f A x4 x5 x6 x7 hk hO
    have hk : f = 41 := hk
    subst hk
    refine WQ.st (fun _ _ kz => pw_iload3 dX12_laysOrders_51 kz) ?_
    refine WQ.st (fun _ _ kz => pw_bipush (v := 41) dX12_laysOrders_52 (by decide) kz) ?_
    refine WQ.br (fun _ _ ka kb => pw_icmp_ge (tgt := 155) dX12_laysOrders_54 (by decide) ka kb) (fun c54 => ?_) (fun c54 => absurd (by decide) c54)
    exact kf A x4 x5 x6 x7 hO
  | succ m ih =>
    intro f A x4 x5 x6 x7 hk hO
    refine WQ.st (fun _ _ kz => pw_iload3 dX12_laysOrders_51 kz) ?_
    refine WQ.st (fun _ _ kz => pw_bipush (v := 41) dX12_laysOrders_52 (by decide) kz) ?_
    refine WQ.br (fun _ _ ka kb => pw_icmp_ge (tgt := 155) dX12_laysOrders_54 (by decide) ka kb) (fun c54 => absurd c54 (by rw [le_i li_41 (ix_n (j := f) (by omega))]; omega)) (fun c54 => ?_)
    refine WQ.st (fun _ _ kz => pw_ldcw kX12_273 dX12_laysOrders_57 kz) ?_
    refine WQ.st (fun _ _ kz => pw_istore4 dX12_laysOrders_60 (by decide) (k := kz)) ?_
    refine WQ.st (fun _ _ kz => pw_iconst (v := 0) dX12_laysOrders_62 (by decide) kz) ?_
    refine WQ.st (fun _ _ kz => pw_istore5 dX12_laysOrders_63 (by decide) (k := kz)) ?_
    exact l_ord2 (d := d) (P := P) (S := S) (G := G) (V := V) (A := A) (B := B) (Q := Q) (t := t) (sl := sl) hF hs (show f < 41 by omega) hN4 (by rw [hO.1 _ (by omega)]; exact hN) N 0 (-268435456) x6 x7 (Nat.zero_add _) (fun x6 x7 => by
      refine WQ.st (fun _ _ kz => pw_aload0 dX12_laysOrders_136 kz) ?_
      refine WQ.st (fun _ _ kz => pw_getr gX12_61 dX12_laysOrders_137 hF.1 (mf_p31 hF) kz) ?_
      refine WQ.st (fun _ _ kz => pw_bipush (v := 41) dX12_laysOrders_140 (by decide) kz) ?_
      refine WQ.st (fun _ _ kz => pw_iload2 dX12_laysOrders_142 kz) ?_
      refine WQ.st (fun _ _ kz => pw_imul dX12_laysOrders_143 kz) ?_
      refine WQ.st (fun _ _ kz => pw_iload3 dX12_laysOrders_144 kz) ?_
      refine WQ.st (fun _ _ kz => pw_iadd dX12_laysOrders_145 kz) ?_
      refine WQ.st (fun _ _ kz => pw_iload4 dX12_laysOrders_146 kz) ?_
      refine WQ.st (fun _ _ kz => pw_ast (j := 41 * set + f) dX12_laysOrders_148 (mf_s15 hF) (by simp (disch := omega) only [nl_41, nI_add, pk_mul, pk_sub]; exact ix_m (by omega) (by omega)) (by omega)  kz) ?_
      refine WQ.st (fun _ _ kz => pw_iinc3 (v := 1) dX12_laysOrders_149 (by decide) (by decide) (k := kz)) ?_
      refine WQ.st (fun _ _ kz => pw_goto (tgt := 51) dX12_laysOrders_152 (by decide) kz) ?_
      rw [nI_1]
      refine ih (f + 1) _ _ _ _ _ (by omega) ⟨fun a ha => by rw [up2_na ha]; exact hO.1 a ha, fun set' s' hs' hk' => ?_⟩
      rw [up2_at]
      by_cases e9 : 41 * set' + s' = 41 * set + f
      · have e1 : set' = set := by omega
        have e2 : s' = f := by omega
        subst e1
        subst e2
        rw [pm_up_eq, oG_s h0]
        refine oP_cong N 0 _ (fun q u _ hq hu hb => ?_)
        rw [hO.1 (o + 14) (by omega), hth q s' u (by omega) hs' hu, hO.2 (rmB set' q) u hu (by have := rmB_lt hb; omega)]
      · rw [pm_up_ne e9]
        exact hO.2 set' s' hs' (by omega))
theorem shl_N : ∀ N, N < 5 → (1 : Int32) <<< (nI N &&& 31) = nI (2 ^ N) := by decide +kernel
theorem pow_N {N : Nat} (h : N ≤ 4) : 2 ^ N ≤ 16 := Nat.le_trans (Nat.pow_le_pow_right (by decide) h) (by decide)
set_option maxRecDepth 20000 in
theorem l_ord4 {G : gT} {d : Nat} {S : sS} {V : sV} {P : sP} {B : sB} {Q : sP} {t sl o : Nat} (hF : MF S P o) {A0 : sV} {N : Nat} {x1 : Int32} (hN4 : N ≤ 4) (hN : A0 (o + 1) 1 = nI N) {th : Nat → Nat → Nat → Int32} {e : Nat → Int32} (hth : ∀ q f u, q < N → f < 41 → u < 41 → A0 (o + 14) ((41 * q + f) * 41 + u) = th q f u) : ∀ (m set : Nat) (A : sV) (x3 x4 x5 x6 x7 : Option Value), set ≠ 0 → set + m = 2 ^ N → OR o th e N (41 * set) A0 A → WQ G (d + 2) mX12_laysOrders 37 [some (.ref o), some (.int x1), some (.int (nI set)), x3, x4, x5, x6, x7] [] (t, sl, gh S V P A B Q) (fun r h' => r = none ∧ ∃ A' : sV, h' = (t, sl, gh S V P A' B Q) ∧ OR o th e N (41 * 2 ^ N) A0 A') := by
  have h16 := pow_N hN4
  intro m
  induction m with
  | zero =>
    intro set A x3 x4 x5 x6 x7 h0 hk hO
    have hk : set = 2 ^ N := hk
    subst hk
    refine WQ.st (fun _ _ kz => pw_iload2 dX12_laysOrders_37 kz) ?_
    refine WQ.st (fun _ _ kz => pw_iconst (v := 1) dX12_laysOrders_38 (by decide) kz) ?_
    refine WQ.st (fun _ _ kz => pw_aload0 dX12_laysOrders_39 kz) ?_
    refine WQ.st (fun _ _ kz => pw_getr gX12_13 dX12_laysOrders_40 hF.1 (mf_p1 hF) kz) ?_
    refine WQ.st (fun _ _ kz => pw_iconst (v := 1) dX12_laysOrders_43 (by decide) kz) ?_
    refine WQ.st (fun _ _ kz => pw_ald (j := 1) dX12_laysOrders_44 (mf_s1 hF) rfl (by omega) kz) ?_
    rw [hO.1 _ (by omega), hN]
    refine WQ.st (fun _ _ kz => pw_ishl dX12_laysOrders_45 kz) ?_
    rw [shl_N N (by omega)]
    refine WQ.br (fun _ _ ka kb => pw_icmp_ge (tgt := 161) dX12_laysOrders_46 (by decide) ka kb) (fun c46 => ?_) (fun c46 => absurd (Int32.le_refl _) c46)
    refine ⟨_, _, pw_vret dX12_laysOrders_161 rfl rfl rfl, ?_⟩
    exact ⟨rfl, A, rfl, hO⟩
  | succ m ih =>
    intro set A x3 x4 x5 x6 x7 h0 hk hO
    refine WQ.st (fun _ _ kz => pw_iload2 dX12_laysOrders_37 kz) ?_
    refine WQ.st (fun _ _ kz => pw_iconst (v := 1) dX12_laysOrders_38 (by decide) kz) ?_
    refine WQ.st (fun _ _ kz => pw_aload0 dX12_laysOrders_39 kz) ?_
    refine WQ.st (fun _ _ kz => pw_getr gX12_13 dX12_laysOrders_40 hF.1 (mf_p1 hF) kz) ?_
    refine WQ.st (fun _ _ kz => pw_iconst (v := 1) dX12_laysOrders_43 (by decide) kz) ?_
    refine WQ.st (fun _ _ kz => pw_ald (j := 1) dX12_laysOrders_44 (mf_s1 hF) rfl (by omega) kz) ?_
    rw [hO.1 _ (by omega), hN]
    refine WQ.st (fun _ _ kz => pw_ishl dX12_laysOrders_45 kz) ?_
    rw [shl_N N (by omega)]
    refine WQ.br (fun _ _ ka kb => pw_icmp_ge (tgt := 161) dX12_laysOrders_46 (by decide) ka kb) (fun c46 => absurd c46 (by rw [le_i (ix_n (j := 2 ^ N) (by omega)) (ix_n (j := set) (by omega))]; omega)) (fun c46 => ?_)
    refine WQ.st (fun _ _ kz => pw_iconst (v := 0) dX12_laysOrders_49 (by decide) kz) ?_
    refine WQ.st (fun _ _ kz => pw_istore3 dX12_laysOrders_50 (by decide) (k := kz)) ?_
    exact l_ord3 (S := S) (P := P) (G := G) (V := V) (B := B) (Q := Q) (t := t) (sl := sl) (d := d) hF (A0 := A0) (x1 := x1) h0 (by omega) hN4 hN hth (fun A1 x4 x5 x6 x7 g1 => by
      refine WQ.st (fun _ _ kz => pw_iinc2 (v := 1) dX12_laysOrders_155 (by decide) (by decide) (k := kz)) ?_
      refine WQ.st (fun _ _ kz => pw_goto (tgt := 37) dX12_laysOrders_158 (by decide) kz) ?_
      rw [nI_1]
      exact ih (set + 1) A1 _ _ _ _ _ (by omega) (by omega) (by rw [show 41 * (set + 1) = 41 * set + 41 by omega]; exact g1)) 41 0 A x4 x5 x6 x7 rfl hO
set_option maxRecDepth 20000 in
theorem l_ord5 {G : gT} {d : Nat} {S : sS} {V : sV} {P : sP} {B : sB} {Q : sP} {t sl o : Nat} (hF : MF S P o) {A0 : sV} {N : Nat} {g : Int32} {th : Nat → Nat → Nat → Int32} {Z : Option Value → Ph → Prop} (kf : ∀ A : sV, OR o th (rf_e g) N 41 A0 A → WQ G d mX12_laysOrders 35 [some (.ref o), some (.int g), some (.int (nI 41)), none, none, none, none, none] [] (t, sl, gh S V P A B Q) Z) : ∀ (m k : Nat) (A : sV), k + m = 41 → OR o th (rf_e g) N k A0 A → WQ G d mX12_laysOrders 2 [some (.ref o), some (.int g), some (.int (nI k)), none, none, none, none, none] [] (t, sl, gh S V P A B Q) Z := by
  intro m
  induction m with
  | zero =>
    intro k A hk hO
    have hk : k = 41 := hk
    subst hk
    refine WQ.st (fun _ _ kz => pw_iload2 dX12_laysOrders_2 kz) ?_
    refine WQ.st (fun _ _ kz => pw_bipush (v := 41) dX12_laysOrders_3 (by decide) kz) ?_
    refine WQ.br (fun _ _ ka kb => pw_icmp_ge (tgt := 35) dX12_laysOrders_5 (by decide) ka kb) (fun c5 => ?_) (fun c5 => absurd (by decide) c5)
    exact kf A hO
  | succ m ih =>
    intro k A hk hO
    refine WQ.st (fun _ _ kz => pw_iload2 dX12_laysOrders_2 kz) ?_
    refine WQ.st (fun _ _ kz => pw_bipush (v := 41) dX12_laysOrders_3 (by decide) kz) ?_
    refine WQ.br (fun _ _ ka kb => pw_icmp_ge (tgt := 35) dX12_laysOrders_5 (by decide) ka kb) (fun c5 => absurd c5 (by rw [le_i li_41 (ix_n (j := k) (by omega))]; omega)) (fun c5 => ?_)
    refine WQ.st (fun _ _ kz => pw_aload0 dX12_laysOrders_8 kz) ?_
    refine WQ.st (fun _ _ kz => pw_getr gX12_61 dX12_laysOrders_9 hF.1 (mf_p31 hF) kz) ?_
    refine WQ.st (fun _ _ kz => pw_iload2 dX12_laysOrders_12 kz) ?_
    refine WQ.st (fun _ _ kz => pw_iload2 dX12_laysOrders_13 kz) ?_
    refine WQ.st (fun _ _ kz => pw_bipush (v := 20) dX12_laysOrders_14 (by decide) kz) ?_
    refine WQ.st (fun _ _ kz => pw_isub dX12_laysOrders_16 kz) ?_
    rw [show nI k - 20 = sI k by unfold sI; rw [iI_nat, show (20 : Int32) = iI 20 from rfl, iI_sub]]
    refine WQ.st (fun _ _ kz => pw_iload1 dX12_laysOrders_17 kz) ?_
    refine WQ.br (fun _ _ ka kb => pw_icmp_lt (tgt := 25) dX12_laysOrders_18 (by decide) ka kb) (fun c18 => ?_) (fun c18 => ?_)
    · refine WQ.st (fun _ _ kz => pw_ldcw kX12_273 dX12_laysOrders_25 kz) ?_
      refine WQ.st (fun _ _ kz => pw_ast (j := k) dX12_laysOrders_28 (mf_s15 hF) (ix_m rfl (by omega)) (by omega)  kz) ?_
      refine WQ.st (fun _ _ kz => pw_iinc2 (v := 1) dX12_laysOrders_29 (by decide) (by decide) (k := kz)) ?_
      refine WQ.st (fun _ _ kz => pw_goto (tgt := 2) dX12_laysOrders_32 (by decide) kz) ?_
      rw [nI_1]
      refine ih (k + 1) _ (by omega) ⟨fun a ha => by rw [up2_na ha]; exact hO.1 a ha, fun set' s' hs' hk' => ?_⟩
      have e0 : set' = 0 := by omega
      subst e0
      rw [up2_at, oG_0]
      by_cases e9 : s' = k
      · rw [e9, show 41 * 0 + k = k by omega, pm_up_eq]
        unfold rf_e
        rw [if_pos c18]
      · rw [pm_up_ne (by omega), hO.2 0 s' hs' (by omega), oG_0]
    · refine WQ.st (fun _ _ kz => pw_iconst (v := 0) dX12_laysOrders_21 (by decide) kz) ?_
      refine WQ.st (fun _ _ kz => pw_goto (tgt := 28) dX12_laysOrders_22 (by decide) kz) ?_
      refine WQ.st (fun _ _ kz => pw_ast (j := k) dX12_laysOrders_28 (mf_s15 hF) (ix_m rfl (by omega)) (by omega)  kz) ?_
      refine WQ.st (fun _ _ kz => pw_iinc2 (v := 1) dX12_laysOrders_29 (by decide) (by decide) (k := kz)) ?_
      refine WQ.st (fun _ _ kz => pw_goto (tgt := 2) dX12_laysOrders_32 (by decide) kz) ?_
      rw [nI_1]
      refine ih (k + 1) _ (by omega) ⟨fun a ha => by rw [up2_na ha]; exact hO.1 a ha, fun set' s' hs' hk' => ?_⟩
      have e0 : set' = 0 := by omega
      subst e0
      rw [up2_at, oG_0]
      by_cases e9 : s' = k
      · rw [e9, show 41 * 0 + k = k by omega, pm_up_eq]
        unfold rf_e
        rw [if_neg c18]
      · rw [pm_up_ne (by omega), hO.2 0 s' hs' (by omega), oG_0]
set_option maxRecDepth 20000 in
theorem c_laysOrders {G : gT} {d : Nat} {S : sS} {V : sV} {P : sP} {A : sV} {B : sB} {Q : sP} {t sl o : Nat} (hF : MF S P o) {N : Nat} {g : Int32} (hN4 : N ≤ 4) (hN : A (o + 1) 1 = nI N) {th : Nat → Nat → Nat → Int32} (hth : ∀ q f u, q < N → f < 41 → u < 41 → A (o + 14) ((41 * q + f) * 41 + u) = th q f u) : WQ G (d + 2) mX12_laysOrders 0 [some (.ref o), some (.int g), none, none, none, none, none, none] [] (t, sl, gh S V P A B Q) (fun r h' => r = none ∧ ∃ A' : sV, h' = (t, sl, gh S V P A' B Q) ∧ OR o th (rf_e g) N (41 * 2 ^ N) A A') := by
  refine WQ.st (fun _ _ kz => pw_iconst (v := 0) dX12_laysOrders_0 (by decide) kz) ?_
  refine WQ.st (fun _ _ kz => pw_istore2 dX12_laysOrders_1 (by decide) (k := kz)) ?_
  exact l_ord5 (S := S) (P := P) (G := G) (V := V) (B := B) (Q := Q) (t := t) (sl := sl) (d := d + 2) hF (A0 := A) (N := N) (th := th) (fun A1 hO => by
    refine WQ.st (fun _ _ kz => pw_iconst (v := 1) dX12_laysOrders_35 (by decide) kz) ?_
    refine WQ.st (fun _ _ kz => pw_istore2 dX12_laysOrders_36 (by decide) (k := kz)) ?_
    exact l_ord4 (S := S) (P := P) (G := G) (V := V) (B := B) (Q := Q) (t := t) (sl := sl) (d := d) hF (A0 := A) (x1 := g) hN4 hN hth (2 ^ N - 1) 1 A1 none none none none none (by decide) (by have : 0 < 2 ^ N := Nat.pow_pos (by decide); omega) hO) 41 0 A rfl ⟨fun _ _ => rfl, fun set s hs hk => absurd hk (by omega)⟩
