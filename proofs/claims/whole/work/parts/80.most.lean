/-! ===== the most, forward and backward ===== -/
def mxo (a b : Int32) : Int32 := if a < b then b else a
def mfo (f : Nat → Int32) : Nat → Int32
  | 0 => -268435456
  | n + 1 => mxo (mfo f n) (f n)
theorem mxo_l (a b : Int32) : a ≤ mxo a b := by
  unfold mxo
  split
  · exact Int32.le_of_lt (by assumption)
  · exact Int32.le_refl _
theorem mxo_r (a b : Int32) : b ≤ mxo a b := by
  unfold mxo
  split
  · exact Int32.le_refl _
  · exact Int32.not_lt.mp (by assumption)
theorem mxo_or (a b : Int32) : mxo a b = a ∨ mxo a b = b := by
  unfold mxo
  split
  · exact Or.inr rfl
  · exact Or.inl rfl
theorem mfo_ge (f : Nat → Int32) : ∀ n k, k < n → f k ≤ mfo f n
  | 0, _, h => absurd h (Nat.not_lt_zero _)
  | n + 1, k, h => by
    by_cases e : k = n
    · rw [e]; exact mxo_r _ _
    · exact Int32.le_trans (mfo_ge f n k (by omega)) (mxo_l _ _)
theorem mfo_c (f : Nat → Int32) : ∀ n, -268435456 ≤ mfo f n
  | 0 => Int32.le_refl _
  | n + 1 => Int32.le_trans (mfo_c f n) (mxo_l _ _)
theorem mfo_in (f : Nat → Int32) : ∀ n, mfo f n = -268435456 ∨ ∃ k, k < n ∧ f k = mfo f n
  | 0 => Or.inl rfl
  | n + 1 => by
    rcases mxo_or (mfo f n) (f n) with h | h
    · rcases mfo_in f n with g | ⟨k, hk, g⟩
      · exact Or.inl (h.trans g)
      · exact Or.inr ⟨k, by omega, g.trans h.symm⟩
    · exact Or.inr ⟨n, by omega, h.symm⟩
theorem mfo_le {f : Nat → Int32} {n : Nat} {z : Int32} (hz : -268435456 ≤ z) (h : ∀ k, k < n → f k ≤ z) : mfo f n ≤ z := by
  rcases mfo_in f n with g | ⟨k, hk, g⟩
  · rw [g]; exact hz
  · rw [← g]; exact h k hk
theorem mfo_bnd {f : Nat → Int32} {n K : Nat} (h : ∀ k, k < n → bnd K (f k)) : bnd K (mfo f n) := by
  rcases mfo_in f n with g | ⟨k, hk, g⟩
  · exact Or.inl g
  · rw [← g]; exact h k hk
theorem mfo_cong {f g : Nat → Int32} : ∀ n, (∀ k, k < n → f k = g k) → mfo f n = mfo g n
  | 0, _ => rfl
  | n + 1, h => by rw [mfo, mfo, mfo_cong n (fun k hk => h k (by omega)), h n (by omega)]
theorem ob_bnd {a b : Nat} {x y : Int32} (hx : bnd a x) (hy : bnd b y) (h : a + b ≤ 100) : bnd (a + b) (ob x y) := by
  unfold ob
  by_cases g : x = -268435456 ∨ y = -268435456
  · rw [if_pos g]; exact Or.inl rfl
  · rw [if_neg g]
    exact (bnd_add hx hy h (fun q => g (Or.inl q)) (fun q => g (Or.inr q))).1
theorem ob_n {x y : Int32} (hx : x ≠ -268435456) (hy : y ≠ -268435456) : ob x y = x + y := by
  unfold ob
  rw [if_neg (fun q => q.elim hx hy)]
theorem ob_c {x y : Int32} (h : x = -268435456 ∨ y = -268435456) : ob x y = -268435456 := by
  unfold ob
  rw [if_pos h]
theorem ob_nec {a b : Nat} {x y : Int32} (hx : bnd a x) (hy : bnd b y) (h : a + b ≤ 100) (nx : x ≠ -268435456) (ny : y ≠ -268435456) : ob x y ≠ -268435456 := by
  rw [ob_n nx ny]
  intro q
  have h1 := (bnd_add hx hy h nx ny).2
  have h2 := hx.resolve_left nx
  have h3 := hy.resolve_left ny
  rw [q] at h1
  have h1 : (-268435456 : Int) = x.toInt + y.toInt := h1
  omega
theorem bnd_ne_le {a b : Nat} {x y : Int32} (hx : bnd a x) (hy : bnd b y) (ha : a ≤ 100) (hb : b ≤ 100) (h : x ≤ y) (nx : x ≠ -268435456) : y ≠ -268435456 := by
  intro q
  rw [q] at h
  have h2 := hx.resolve_left nx
  have := (le_i rfl (show (-268435456 : Int32).toInt = -268435456 from rfl)).mp h
  omega
/-- adding keeps the order -/
theorem ob_mono {a b a' b' : Nat} {x y x' y' : Int32} (hx : bnd a x) (hy : bnd b y) (hx' : bnd a' x') (hy' : bnd b' y') (h : a + b ≤ 100) (h' : a' + b' ≤ 100) (lx : x ≤ x') (ly : y ≤ y') : ob x y ≤ ob x' y' := by
  by_cases nx : x = -268435456
  · rw [ob_c (Or.inl nx)]
    exact bnd_ge (ob_bnd hx' hy' h') h'
  · by_cases ny : y = -268435456
    · rw [ob_c (Or.inr ny)]
      exact bnd_ge (ob_bnd hx' hy' h') h'
    · have nx' := bnd_ne_le hx hx' (by omega) (by omega) lx nx
      have ny' := bnd_ne_le hy hy' (by omega) (by omega) ly ny
      rw [ob_n nx ny, ob_n nx' ny', Int32.le_iff_toInt_le, (bnd_add hx hy h nx ny).2, (bnd_add hx' hy' h' nx' ny').2]
      have := Int32.le_iff_toInt_le.mp lx
      have := Int32.le_iff_toInt_le.mp ly
      omega
theorem ob_assoc {a b c : Nat} {x y z : Int32} (hx : bnd a x) (hy : bnd b y) (hz : bnd c z) (h : a + b + c ≤ 100) : ob (ob x y) z = ob x (ob y z) := by
  by_cases nx : x = -268435456
  · rw [ob_c (Or.inl nx), ob_c (Or.inl rfl), ob_c (Or.inl nx)]
  · by_cases ny : y = -268435456
    · rw [ob_c (Or.inr ny), ob_c (Or.inl rfl), ob_c (x := y) (Or.inl ny), ob_c (Or.inr rfl)]
    · by_cases nz : z = -268435456
      · rw [ob_c (Or.inr nz), ob_c (x := y) (Or.inr nz), ob_c (Or.inr rfl)]
      · have h1 := ob_nec hx hy (by omega) nx ny
        have h2 := ob_nec hy hz (by omega) ny nz
        rw [ob_n h1 nz, ob_n nx h2, ob_n nx ny, ob_n ny nz, Int32.add_assoc]
/-- a bar forward, by the class's places -/
def mtm (T : Nat → Nat → Nat → Nat → Int32) (bl : Bool) (b : Nat) (h : Nat → Int32) (j k : Nat) : Int32 := if tgP bl (k / 25) (k % 5) = j then ob (h (k / 5)) (T b (k / 5 % 5) (k / 25) (k % 5)) else -268435456
def mstep (T : Nat → Nat → Nat → Nat → Int32) (bl : Bool) (b : Nat) (h : Nat → Int32) (j : Nat) : Int32 := mfo (mtm T bl b h j) 1025
def spI (T : Nat → Nat → Nat → Nat → Int32) (bl : Bool) (F : Nat → Int32) : Nat → Nat → Int32
  | 0, j => if j % 5 = 2 then F (j / 5) else -268435456
  | b + 1, j => mstep T bl b (spI T bl F b) j
def spF (T : Nat → Nat → Nat → Nat → Int32) (bl : Bool) (n : Nat) (F : Nat → Int32) (t : Nat) : Int32 := mfo (fun l => spI T bl F n (t * 5 + l)) 5
theorem spI_bnd {T : Nat → Nat → Nat → Nat → Int32} {bl : Bool} {F : Nat → Int32} {n K : Nat} (hT : ∀ b l s w, b < n → l < 5 → s < 41 → w < 5 → bnd 1 (T b l s w)) (hF : ∀ s, s < 41 → bnd K (F s)) (hK : K + n ≤ 90) : ∀ b, b ≤ n → ∀ j, j < 205 → bnd (K + b) (spI T bl F b j)
  | 0, _, j, hj => by
    show bnd K (if j % 5 = 2 then F (j / 5) else -268435456)
    split
    · exact hF _ (by omega)
    · exact Or.inl rfl
  | b + 1, hb, j, hj => by
    show bnd (K + (b + 1)) (mfo _ 1025)
    refine mfo_bnd (fun k hk => ?_)
    unfold mtm
    split
    · exact (ob_bnd (spI_bnd hT hF hK b (by omega) (k / 5) (by omega)) (hT b (k / 5 % 5) (k / 25) (k % 5) (by omega) (by omega) (by omega) (by omega)) (by omega)).up (by omega)
    · exact Or.inl rfl
section SPF
variable {T : Nat → Nat → Nat → Nat → Int32} {bl : Bool} {F : Nat → Int32} {n K t : Nat}
/-- all from here on to the end asked for -/
def spL (T : Nat → Nat → Nat → Nat → Int32) (bl : Bool) (F : Nat → Int32) (n t b : Nat) : Int32 := mfo (fun i => ob (spI T bl F b i) (rf_T T kpA n (rf_e1 (sI t)) (n - b) (i % 5) (i / 5))) 205
theorem rf_e1_bnd (g : Int32) (s : Nat) : bnd 0 (rf_e1 g s) := by
  unfold rf_e1
  split
  · exact Or.inr (by decide)
  · exact Or.inl rfl
theorem spL_step (hn : n ≤ 12) (hT : ∀ b l s w, b < n → l < 5 → s < 41 → w < 5 → bnd 1 (T b l s w)) (hin : ∀ b l s w, b < n → l < 5 → s < 41 → w < 5 → T b l s w ≠ -268435456 → rf_in s w = true) (hi : bl = false → ∀ b l s w, b < n → l < 5 → s < 41 → w < 5 → T b l s w = T b 2 s w) (hF : ∀ s, s < 41 → bnd K (F s)) (hK : K ≤ 60) {b : Nat} (hb : b < n) : spL T bl F n t (b + 1) = spL T bl F n t b := by
  have hB : ∀ r, r ≤ n → ∀ l s, l < 5 → s < 41 → bnd r (rf_T T kpA n (rf_e1 (sI t)) r l s) := rf_T_bnd hn hT hin (fun s _ => rf_e1_bnd _ s)
  have hS := spI_bnd (bl := bl) hT hF (show K + n ≤ 90 by omega)
  have hlb : ∀ w s, w < 5 → s < 41 → rf_T T kpA n (rf_e1 (sI t)) (n - (b + 1)) (lbN bl w) s = rf_T T kpA n (rf_e1 (sI t)) (n - (b + 1)) w s := by
    intro w s hw hs
    cases e : bl with
    | true => rfl
    | false => exact (rf_T_l2 (T := T) (n := n) (hi e) _ (by omega) w s hw hs).symm
  have hlb5 : ∀ w, w < 5 → lbN bl w < 5 := by
    intro w hw
    unfold lbN
    split <;> omega
  have hr : ∀ l s, rf_T T kpA n (rf_e1 (sI t)) (n - b) l s = rf_mx (rf_gb T kpA (rf_T T kpA n (rf_e1 (sI t)) (n - (b + 1))) b l s) := by
    intro l s
    rw [show n - b = (n - (b + 1)) + 1 by omega, rf_T, show n - (n - (b + 1) + 1) = b by omega]
  refine Int32.le_antisymm ?_ ?_
  · -- what is forward by one bar is there already
    refine mfo_le (mfo_c _ _) (fun j hj => ?_)
    show ob (mstep T bl b (spI T bl F b) j) (rf_T T kpA n (rf_e1 (sI t)) (n - (b + 1)) (j % 5) (j / 5)) ≤ _
    rcases mfo_in (mtm T bl b (spI T bl F b) j) 1025 with g | ⟨k, hk, g⟩
    · rw [show mstep T bl b (spI T bl F b) j = _ from g, ob_c (Or.inl rfl)]
      exact mfo_c _ _
    · rw [show mstep T bl b (spI T bl F b) j = _ from g.symm]
      unfold mtm
      by_cases e : tgP bl (k / 25) (k % 5) = j
      · rw [if_pos e]
        have b1 := hS b (by omega) (k / 5) (by omega)
        have b2 := hT b (k / 5 % 5) (k / 25) (k % 5) hb (by omega) (by omega) (by omega)
        by_cases nT : T b (k / 5 % 5) (k / 25) (k % 5) = -268435456
        · rw [ob_c (x := spI T bl F b (k / 5)) (Or.inr nT), ob_c (Or.inl rfl)]
          exact mfo_c _ _
        · have h9 := hin b (k / 5 % 5) (k / 25) (k % 5) hb (by omega) (by omega) (by omega) nT
          unfold rf_in at h9
          have h9 := of_decide_eq_true h9
          have hl5 := hlb5 (k % 5) (by omega)
          have ej : j % 5 = lbN bl (k % 5) ∧ j / 5 = k / 25 + 2 - k % 5 := by
            unfold tgP at e
            omega
          rw [ej.1, ej.2, hlb _ _ (by omega) (by omega)]
          have b3 := hB (n - (b + 1)) (by omega) (k % 5) (k / 25 + 2 - k % 5) (by omega) (by omega)
          rw [ob_assoc b1 b2 b3 (by omega)]
          have e2 : ob (T b (k / 5 % 5) (k / 25) (k % 5)) (rf_T T kpA n (rf_e1 (sI t)) (n - (b + 1)) (k % 5) (k / 25 + 2 - k % 5)) = rf_gb T kpA (rf_T T kpA n (rf_e1 (sI t)) (n - (b + 1))) b (k / 5 % 5) (k / 25) (k % 5) := by
            unfold rf_gb kpA ob
            rw [if_pos rfl, if_neg nT]
            by_cases g3 : rf_T T (fun _ _ => true) n (rf_e1 (sI t)) (n - (b + 1)) (k % 5) (k / 25 + 2 - k % 5) = -268435456
            · rw [if_pos g3, if_pos (Or.inr g3)]
            · rw [if_neg g3, if_neg (fun q => q.elim nT g3)]
          rw [e2]
          have l1 : rf_gb T kpA (rf_T T kpA n (rf_e1 (sI t)) (n - (b + 1))) b (k / 5 % 5) (k / 25) (k % 5) ≤ rf_T T kpA n (rf_e1 (sI t)) (n - b) (k / 5 % 5) (k / 25) := by
            rw [hr]
            exact (rf_mf_ge _ 5 0 (-268435456)).2 (k % 5) (by omega) (by omega)
          have b4 := rf_gb_bnd (kp := kpA) (N := rf_T T kpA n (rf_e1 (sI t)) (n - (b + 1))) (k := n - (b + 1)) b2 (fun _ => b3) (by omega)
          have b5 := hB (n - b) (by omega) (k / 5 % 5) (k / 25) (by omega) (by omega)
          refine Int32.le_trans (ob_mono b1 b4 b1 b5 (by omega) (by omega) (Int32.le_refl _) l1) ?_
          have := mfo_ge (fun i => ob (spI T bl F b i) (rf_T T kpA n (rf_e1 (sI t)) (n - b) (i % 5) (i / 5))) 205 (k / 5) (by omega)
          rw [show k / 25 = k / 5 / 5 by omega]
          exact this
      · rw [if_neg e, ob_c (Or.inl rfl)]
        exact mfo_c _ _
  · refine mfo_le (mfo_c _ _) (fun i hi5 => ?_)
    show ob (spI T bl F b i) (rf_T T kpA n (rf_e1 (sI t)) (n - b) (i % 5) (i / 5)) ≤ _
    by_cases nB : rf_T T kpA n (rf_e1 (sI t)) (n - b) (i % 5) (i / 5) = -268435456
    · rw [ob_c (Or.inr nB)]
      exact mfo_c _ _
    · rw [hr] at nB ⊢
      obtain ⟨w, hw, hx⟩ := rf_mx_in nB
      rw [← hx] at nB ⊢
      unfold rf_gb at nB ⊢
      rw [if_pos (show kpA b w = true from rfl)] at nB ⊢
      by_cases nT : T b (i % 5) (i / 5) w = -268435456
      · rw [if_pos nT] at nB
        exact absurd rfl nB
      · rw [if_neg nT] at nB ⊢
        by_cases nR : rf_T T kpA n (rf_e1 (sI t)) (n - (b + 1)) w (i / 5 + 2 - w) = -268435456
        · rw [if_pos nR] at nB
          exact absurd rfl nB
        · rw [if_neg nR] at nB ⊢
          have h9 := hin b (i % 5) (i / 5) w hb (by omega) (by omega) hw nT
          unfold rf_in at h9
          have h9 := of_decide_eq_true h9
          have b1 := hS b (by omega) i hi5
          have b2 := hT b (i % 5) (i / 5) w hb (by omega) (by omega) hw
          have b3 := hB (n - (b + 1)) (by omega) w (i / 5 + 2 - w) hw (by omega)
          rw [← ob_n nT nR, ← ob_assoc b1 b2 b3 (by omega)]
          have hl5 := hlb5 w hw
          have ht205 := tgP_lt (bl := bl) hw h9
          have hm : ob (spI T bl F b i) (T b (i % 5) (i / 5) w) ≤ spI T bl F (b + 1) (tgP bl (i / 5) w) := by
            have := mfo_ge (mtm T bl b (spI T bl F b) (tgP bl (i / 5) w)) 1025 (i * 5 + w) (by omega)
            unfold mtm at this
            rw [show (i * 5 + w) / 25 = i / 5 by omega, show (i * 5 + w) % 5 = w by omega, show (i * 5 + w) / 5 = i by omega, if_pos rfl] at this
            exact this
          have b4 := ob_bnd b1 b2 (by omega)
          have b5 := hS (b + 1) (by omega) (tgP bl (i / 5) w) ht205
          refine Int32.le_trans (ob_mono b4 b3 b5 b3 (by omega) (by omega) hm (Int32.le_refl _)) ?_
          have := mfo_ge (fun i => ob (spI T bl F (b + 1) i) (rf_T T kpA n (rf_e1 (sI t)) (n - (b + 1)) (i % 5) (i / 5))) 205 (tgP bl (i / 5) w) ht205
          have et : tgP bl (i / 5) w % 5 = lbN bl w ∧ tgP bl (i / 5) w / 5 = i / 5 + 2 - w := by
            unfold tgP
            omega
          have this : ob (spI T bl F (b + 1) (tgP bl (i / 5) w)) (rf_T T kpA n (rf_e1 (sI t)) (n - (b + 1)) (tgP bl (i / 5) w % 5) (tgP bl (i / 5) w / 5)) ≤ spL T bl F n t (b + 1) := this
          rw [et.1, et.2, hlb w _ hw (by omega)] at this
          exact this
theorem spF_eq (hn : n ≤ 12) (hT : ∀ b l s w, b < n → l < 5 → s < 41 → w < 5 → bnd 1 (T b l s w)) (hin : ∀ b l s w, b < n → l < 5 → s < 41 → w < 5 → T b l s w ≠ -268435456 → rf_in s w = true) (hi : bl = false → ∀ b l s w, b < n → l < 5 → s < 41 → w < 5 → T b l s w = T b 2 s w) (hF : ∀ s, s < 41 → bnd K (F s)) (hK : K ≤ 60) (ht : t < 41) : spF T bl n F t = mfo (fun f => ob (F f) (rf_T T kpA n (rf_e1 (sI t)) n 2 f)) 41 := by
  have hS := spI_bnd (bl := bl) hT hF (show K + n ≤ 90 by omega)
  have hB : ∀ r, r ≤ n → ∀ l s, l < 5 → s < 41 → bnd r (rf_T T kpA n (rf_e1 (sI t)) r l s) := rf_T_bnd hn hT hin (fun s _ => rf_e1_bnd _ s)
  have hs : ∀ b, b ≤ n → spL T bl F n t b = spL T bl F n t 0 := by
    intro b
    induction b with
    | zero => intro _; rfl
    | succ b ih => intro hb; rw [spL_step hn hT hin hi hF hK (by omega), ih (by omega)]
  have e0 : spL T bl F n t n = spF T bl n F t := by
    have eR : ∀ l s, rf_T T kpA n (rf_e1 (sI t)) (n - n) l s = rf_e1 (sI t) s := by
      intro l s
      rw [Nat.sub_self]
      rfl
    refine Int32.le_antisymm ?_ ?_
    · refine mfo_le (mfo_c _ _) (fun i hi5 => ?_)
      show ob (spI T bl F n i) (rf_T T kpA n (rf_e1 (sI t)) (n - n) (i % 5) (i / 5)) ≤ _
      rw [eR]
      by_cases g : i / 5 = t
      · have := mfo_ge (fun l => spI T bl F n (t * 5 + l)) 5 (i % 5) (by omega)
        have this : spI T bl F n (t * 5 + i % 5) ≤ spF T bl n F t := this
        rw [show t * 5 + i % 5 = i by omega] at this
        have hz : rf_e1 (sI t) (i / 5) = 0 := by unfold rf_e1; rw [if_pos (by rw [g])]
        rw [hz]
        by_cases nx : spI T bl F n i = -268435456
        · rw [ob_c (Or.inl nx)]
          exact mfo_c _ _
        · rw [ob_n nx (by decide), Int32.add_zero]
          exact this
      · have hz : rf_e1 (sI t) (i / 5) = -268435456 := by
          unfold rf_e1
          rw [if_neg (fun q => g ((sI_inj (by omega) (by omega)).mp q))]
        rw [hz, ob_c (Or.inr rfl)]
        exact mfo_c _ _
    · refine mfo_le (mfo_c _ _) (fun l hl => ?_)
      have := mfo_ge (fun i => ob (spI T bl F n i) (rf_T T kpA n (rf_e1 (sI t)) (n - n) (i % 5) (i / 5))) 205 (t * 5 + l) (by omega)
      have this : ob (spI T bl F n (t * 5 + l)) (rf_T T kpA n (rf_e1 (sI t)) (n - n) ((t * 5 + l) % 5) ((t * 5 + l) / 5)) ≤ spL T bl F n t n := this
      rw [eR, show (t * 5 + l) / 5 = t by omega, show rf_e1 (sI t) t = 0 from if_pos rfl] at this
      by_cases nx : spI T bl F n (t * 5 + l) = -268435456
      · rw [nx]
        exact mfo_c _ _
      · rw [ob_n nx (by decide), Int32.add_zero] at this
        exact this
  have e1 : spL T bl F n t 0 = mfo (fun f => ob (F f) (rf_T T kpA n (rf_e1 (sI t)) n 2 f)) 41 := by
    refine Int32.le_antisymm ?_ ?_
    · refine mfo_le (mfo_c _ _) (fun i hi5 => ?_)
      show ob (if i % 5 = 2 then F (i / 5) else -268435456) (rf_T T kpA n (rf_e1 (sI t)) (n - 0) (i % 5) (i / 5)) ≤ _
      by_cases g : i % 5 = 2
      · rw [if_pos g, g, Nat.sub_zero]
        exact mfo_ge (fun f => ob (F f) (rf_T T kpA n (rf_e1 (sI t)) n 2 f)) 41 (i / 5) (by omega)
      · rw [if_neg g, ob_c (Or.inl rfl)]
        exact mfo_c _ _
    · refine mfo_le (mfo_c _ _) (fun f hf => ?_)
      have := mfo_ge (fun i => ob (spI T bl F 0 i) (rf_T T kpA n (rf_e1 (sI t)) (n - 0) (i % 5) (i / 5))) 205 (f * 5 + 2) (by omega)
      have this : ob (if (f * 5 + 2) % 5 = 2 then F ((f * 5 + 2) / 5) else -268435456) (rf_T T kpA n (rf_e1 (sI t)) (n - 0) ((f * 5 + 2) % 5) ((f * 5 + 2) / 5)) ≤ spL T bl F n t 0 := this
      rw [if_pos (by omega), show (f * 5 + 2) % 5 = 2 by omega, show (f * 5 + 2) / 5 = f by omega, Nat.sub_zero] at this
      exact this
  rw [← e0, hs n (Nat.le_refl n), e1]
end SPF
