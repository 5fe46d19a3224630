/-! ===== orders: forward and backward ===== -/
def crd (s : Nat) : Nat := s % 2 + s / 2 % 2 + s / 4 % 2 + s / 8 % 2
theorem rm_c : ∀ s, s < 16 → ∀ p, p < 4 → inB s p = true → crd (rmB s p) + 1 = crd s := by decide +kernel
theorem crd_0 : ∀ s, s < 16 → crd s = 0 → s = 0 := by decide +kernel
theorem crd_4 : ∀ s, s < 16 → crd s ≤ 4 := by decide +kernel
theorem rm_lt {s p n : Nat} (h : s < n) : rmB s p < n := Nat.lt_of_le_of_lt (rmB_le s p) h
theorem inB_N : ∀ N, N < 5 → ∀ s, s < 16 → s < 2 ^ N → ∀ p, p < 4 → inB s p = true → p < N := by decide +kernel
theorem oI_ge {g : Nat → Int32} : ∀ (m t : Nat) (acc : Int32), acc ≤ oI g acc m t ∧ ∀ i, t ≤ i → i < t + m → g i ≤ oI g acc m t
  | 0, t, acc => ⟨Int32.le_refl _, fun i h1 h2 => by omega⟩
  | m + 1, t, acc => by
    obtain ⟨h1, h2⟩ := oI_ge (g := g) m (t + 1) (if g t ≤ acc then acc else g t)
    have h3 : acc ≤ (if g t ≤ acc then acc else g t) ∧ g t ≤ (if g t ≤ acc then acc else g t) := by
      by_cases c : g t ≤ acc
      · rw [if_pos c]; exact ⟨Int32.le_refl _, c⟩
      · rw [if_neg c]; exact ⟨Int32.le_of_lt (Int32.not_le.mp c), Int32.le_refl _⟩
    refine ⟨Int32.le_trans h3.1 h1, fun i a b => ?_⟩
    by_cases e : i = t
    · rw [e]; exact Int32.le_trans h3.2 h1
    · exact h2 i (by omega) (by omega)
theorem oP_ge {g : Nat → Nat → Int32} {b : Nat → Bool} : ∀ (m p : Nat) (acc : Int32), acc ≤ oP g b acc m p ∧ ∀ i t, p ≤ i → i < p + m → t < 41 → b i = true → g i t ≤ oP g b acc m p
  | 0, p, acc => ⟨Int32.le_refl _, fun i t h1 h2 => by omega⟩
  | m + 1, p, acc => by
    obtain ⟨h1, h2⟩ := oP_ge (g := g) (b := b) m (p + 1) (if b p then oI (g p) acc 41 0 else acc)
    have h3 : acc ≤ (if b p then oI (g p) acc 41 0 else acc) := by
      by_cases c : b p = true
      · rw [if_pos c]; exact (oI_ge 41 0 acc).1
      · rw [if_neg c]; exact Int32.le_refl _
    refine ⟨Int32.le_trans h3 h1, fun i t a1 a2 ht hb => ?_⟩
    by_cases e : i = p
    · subst e
      refine Int32.le_trans ?_ h1
      rw [if_pos hb]
      exact (oI_ge 41 0 acc).2 t (by omega) (by omega)
    · exact h2 i t (by omega) (by omega) ht hb
section ORD
variable {th : Nat → Nat → Nat → Int32} {e : Nat → Int32} {N : Nat}
theorem oG_le {left p f t : Nat} (h0 : left ≠ 0) (hp : p < N) (hb : inB left p = true) (ht : t < 41) : ob (th p f t) (oG th e N (rmB left p) t) ≤ oG th e N left f := by
  rw [oG_s h0]
  exact (oP_ge (g := fun p t => ob (th p f t) (oG th e N (rmB left p) t)) N 0 _).2 p t (by omega) (by omega) ht hb
theorem oG_at {left f : Nat} (h0 : left ≠ 0) (h : oG th e N left f ≠ -268435456) : ∃ p t, p < N ∧ t < 41 ∧ inB left p = true ∧ ob (th p f t) (oG th e N (rmB left p) t) = oG th e N left f := by
  rw [oG_s h0] at h ⊢
  rcases oP_in (g := fun p t => ob (th p f t) (oG th e N (rmB left p) t)) (b := inB left) N 0 (-268435456) with g | ⟨p, t, _, h2, h3, h4, h5⟩
  · exact absurd g h
  · exact ⟨p, t, by omega, h3, h4, h5⟩
theorem oG_bnd (hN : N ≤ 4) (hT : ∀ p f t, p < N → f < 41 → t < 41 → bnd 12 (th p f t)) (he : ∀ s, s < 41 → bnd 0 (e s)) : ∀ n, n ≤ 4 → ∀ left, left < 16 → crd left ≤ n → ∀ f, f < 41 → bnd (12 * n) (oG th e N left f) := by
  intro n
  induction n with
  | zero =>
    intro _ left hl hc f hf
    have : left = 0 := crd_0 left hl (by omega)
    subst this
    rw [oG_0]
    exact (he f hf).up (by omega)
  | succ n ih =>
    intro hn left hl hc f hf
    by_cases h0 : left = 0
    · subst h0
      rw [oG_0]
      exact (he f hf).up (by omega)
    · by_cases c : oG th e N left f = -268435456
      · exact Or.inl c
      · obtain ⟨p, t, hp, ht, hb, eq⟩ := oG_at h0 c
        rw [← eq]
        have := rm_c left hl p (by omega) hb
        exact (ob_bnd (hT p f t hp hf ht) (ih (by omega) (rmB left p) (rm_lt hl) (by omega) t ht) (by omega)).up (by omega)
/-- a piece played behind what was played -/
def spr (th : Nat → Nat → Nat → Int32) (p : Nat) (F : Nat → Int32) (t : Nat) : Int32 := mfo (fun f => ob (F f) (th p f t)) 41
/-- the most that can come of it -/
def bsv (th : Nat → Nat → Nat → Int32) (e : Nat → Int32) (N : Nat) (F : Nat → Int32) (left : Nat) : Int32 := mfo (fun f => ob (F f) (oG th e N left f)) 41
theorem spr_bnd {p K : Nat} {F : Nat → Int32} (hT : ∀ f t, f < 41 → t < 41 → bnd 12 (th p f t)) (hF : ∀ s, s < 41 → bnd K (F s)) (hK : K ≤ 60) : ∀ s, s < 41 → bnd (K + 12) (spr th p F s) := fun s hs => mfo_bnd (fun f hf => ob_bnd (hF f hf) (hT f s hf hs) (by omega))
end ORD
section ORE
theorem bsv_bnd {th : Nat → Nat → Nat → Int32} {e : Nat → Int32} {N : Nat} (hN : N ≤ 4) (hT : ∀ p f t, p < N → f < 41 → t < 41 → bnd 12 (th p f t)) (he : ∀ s, s < 41 → bnd 0 (e s)) {K : Nat} {F : Nat → Int32} (hF : ∀ s, s < 41 → bnd K (F s)) {left : Nat} (hl : left < 16) (hKc : K + 12 * crd left ≤ 48) : bnd 48 (bsv th e N F left) := mfo_bnd (fun f hf => (ob_bnd (hF f hf) (oG_bnd hN hT he (crd left) (crd_4 left hl) left hl (Nat.le_refl _) f hf) (by omega)).up hKc)
theorem bsv_le {th : Nat → Nat → Nat → Int32} {e : Nat → Int32} {N : Nat} (hN : N ≤ 4) (hT : ∀ p f t, p < N → f < 41 → t < 41 → bnd 12 (th p f t)) (he : ∀ s, s < 41 → bnd 0 (e s)) {K : Nat} {F : Nat → Int32} (hF : ∀ s, s < 41 → bnd K (F s)) {left : Nat} (hl : left < 16) (hKc : K + 12 * crd left ≤ 48) {p : Nat} (h0 : left ≠ 0) (hp : p < N) (hb : inB left p = true) : bsv th e N (spr th p F) (rmB left p) ≤ bsv th e N F left := by
  have hc := rm_c left hl p (by omega) hb
  refine mfo_le (mfo_c _ _) (fun t ht => ?_)
  have b2 := oG_bnd hN hT he (crd (rmB left p)) (by have := crd_4 left hl; omega) (rmB left p) (rm_lt hl) (Nat.le_refl _) t ht
  rcases mfo_in (fun f => ob (F f) (th p f t)) 41 with g | ⟨f, hf, g⟩
  · rw [show spr th p F t = _ from g, ob_c (Or.inl rfl)]
    exact mfo_c _ _
  · rw [show spr th p F t = ob (F f) (th p f t) from g.symm, ob_assoc (hF f hf) (hT p f t hp hf ht) b2 (by omega)]
    have b3 := oG_bnd hN hT he (crd left) (crd_4 left hl) left hl (Nat.le_refl _) f hf
    exact Int32.le_trans (ob_mono (hF f hf) (ob_bnd (hT p f t hp hf ht) b2 (by omega)) (hF f hf) b3 (by omega) (by omega) (Int32.le_refl _) (oG_le h0 hp hb ht)) (mfo_ge (fun f => ob (F f) (oG th e N left f)) 41 f hf)
theorem bsv_hit {th : Nat → Nat → Nat → Int32} {e : Nat → Int32} {N : Nat} (hN : N ≤ 4) (hT : ∀ p f t, p < N → f < 41 → t < 41 → bnd 12 (th p f t)) (he : ∀ s, s < 41 → bnd 0 (e s)) {K : Nat} {F : Nat → Int32} (hF : ∀ s, s < 41 → bnd K (F s)) {left : Nat} (hl : left < 16) (hKc : K + 12 * crd left ≤ 48) {p f t : Nat} (h0 : left ≠ 0) (hp : p < N) (hb : inB left p = true) (hf : f < 41) (ht : t < 41) (hM : ob (F f) (oG th e N left f) = bsv th e N F left) (hq : ob (th p f t) (oG th e N (rmB left p) t) = oG th e N left f) : ob (spr th p F t) (oG th e N (rmB left p) t) = bsv th e N F left := by
  have hc := rm_c left hl p (by omega) hb
  have b2 := oG_bnd hN hT he (crd (rmB left p)) (by have := crd_4 left hl; omega) (rmB left p) (rm_lt hl) (Nat.le_refl _) t ht
  have hsb := spr_bnd (fun f t h1 h2 => hT p f t hp h1 h2) hF (by omega)
  refine Int32.le_antisymm ?_ ?_
  · exact Int32.le_trans (mfo_ge (fun t => ob (spr th p F t) (oG th e N (rmB left p) t)) 41 t ht) (bsv_le hN hT he hF hl hKc h0 hp hb)
  · rw [← hM, ← hq, ← ob_assoc (hF f hf) (hT p f t hp hf ht) b2 (by omega)]
    exact ob_mono (ob_bnd (hF f hf) (hT p f t hp hf ht) (by omega)) b2 (hsb t ht) b2 (by omega) (by omega) (mfo_ge (fun f => ob (F f) (th p f t)) 41 f hf) (Int32.le_refl _)
theorem bsv_ex {th : Nat → Nat → Nat → Int32} {e : Nat → Int32} {N : Nat} (hN : N ≤ 4) (hT : ∀ p f t, p < N → f < 41 → t < 41 → bnd 12 (th p f t)) (he : ∀ s, s < 41 → bnd 0 (e s)) {K : Nat} {F : Nat → Int32} (hF : ∀ s, s < 41 → bnd K (F s)) {left : Nat} (hl : left < 16) (hKc : K + 12 * crd left ≤ 48) (h0 : left ≠ 0) (h : bsv th e N F left ≠ -268435456) : ∃ p, p < N ∧ inB left p = true ∧ bsv th e N (spr th p F) (rmB left p) = bsv th e N F left := by
  rcases mfo_in (fun f => ob (F f) (oG th e N left f)) 41 with g | ⟨f, hf, g⟩
  · exact absurd g h
  · have g : ob (F f) (oG th e N left f) = bsv th e N F left := g
    rw [← g] at h
    have h2 : oG th e N left f ≠ -268435456 := (ob_ne h).2
    obtain ⟨p, t, hp, ht, hb, hq⟩ := oG_at h0 h2
    refine ⟨p, hp, hb, Int32.le_antisymm (bsv_le hN hT he hF hl hKc h0 hp hb) ?_⟩
    rw [← bsv_hit hN hT he hF hl hKc h0 hp hb hf ht g hq]
    exact mfo_ge (fun t => ob (spr th p F t) (oG th e N (rmB left p) t)) 41 t ht
theorem bsv_mfo {th : Nat → Nat → Nat → Int32} {e : Nat → Int32} {N : Nat} (hN : N ≤ 4) (hT : ∀ p f t, p < N → f < 41 → t < 41 → bnd 12 (th p f t)) (he : ∀ s, s < 41 → bnd 0 (e s)) {K : Nat} {F : Nat → Int32} (hF : ∀ s, s < 41 → bnd K (F s)) {left : Nat} (hl : left < 16) (hKc : K + 12 * crd left ≤ 48) (hlN : left < 2 ^ N) (h0 : left ≠ 0) : mfo (fun p => if inB left p = true then bsv th e N (spr th p F) (rmB left p) else -268435456) 4 = bsv th e N F left := by
  refine Int32.le_antisymm (mfo_le (mfo_c _ _) (fun p hp => ?_)) ?_
  · by_cases hb : inB left p = true
    · rw [if_pos hb]
      exact bsv_le hN hT he hF hl hKc h0 (inB_N N (by omega) left hl hlN p hp hb) hb
    · rw [if_neg hb]
      exact mfo_c _ _
  · by_cases c : bsv th e N F left = -268435456
    · rw [c]
      exact mfo_c _ _
    · obtain ⟨p, hp, hb, hq⟩ := bsv_ex hN hT he hF hl hKc h0 c
      have := mfo_ge (fun p => if inB left p = true then bsv th e N (spr th p F) (rmB left p) else -268435456) 4 p (by omega)
      rw [if_pos hb, hq] at this
      exact this
end ORE
/-- the first best order -/
def lfp (th : Nat → Nat → Nat → Int32) (e : Nat → Int32) (N : Nat) (F : Nat → Int32) (left : Nat) : Nat := fpn (fun p => inB left p && decide (bsv th e N (spr th p F) (rmB left p) = bsv th e N F left)) 4 0
def lx (th : Nat → Nat → Nat → Int32) (e : Nat → Int32) (N : Nat) : Nat → (Nat → Int32) → Nat → Int32
  | 0, F, left => if left = 0 then -1 else nI (lfp th e N F left)
  | k + 1, F, left => if left = 0 then -1 else lx th e N k (spr th (lfp th e N F left) F) (rmB left (lfp th e N F left))
theorem fpn_cong {c c' : Nat → Bool} : ∀ m p, (∀ i, p ≤ i → i < p + m → c i = c' i) → fpn c m p = fpn c' m p
  | 0, _, _ => rfl
  | m + 1, p, h => by
    show (if c p then p else fpn c m (p + 1)) = (if c' p then p else fpn c' m (p + 1))
    rw [h p (by omega) (by omega), fpn_cong m (p + 1) (fun i h1 h2 => h i (by omega) (by omega))]
section ORG
theorem hO_of {th : Nat → Nat → Nat → Int32} {e : Nat → Int32} {N : Nat} (hN : N ≤ 4) (hT : ∀ p f t, p < N → f < 41 → t < 41 → bnd 12 (th p f t)) (he : ∀ s, s < 41 → bnd 0 (e s)) {K : Nat} {F : Nat → Int32} (hF : ∀ s, s < 41 → bnd K (F s)) {left : Nat} (hl : left < 16) (hKc : K + 12 * crd left ≤ 48) {cb : Nat → Bool} (hcb : ∀ f, f < 41 → (cb f = true ↔ ob (F f) (oG th e N left f) = bsv th e N F left)) {p f t : Nat} (h0 : left ≠ 0) (hp : p < N) (hb : inB left p = true) (hf : f < 41) (ht : t < 41) (hM : bsv th e N F left ≠ -268435456) (h : ob (ob (F f) (th p f t)) (oG th e N (rmB left p) t) = bsv th e N F left) : hO th e N cb left p f t = true := by
  have hc := rm_c left hl p (by omega) hb
  have b2 := oG_bnd hN hT he (crd (rmB left p)) (by have := crd_4 left hl; omega) (rmB left p) (rm_lt hl) (Nat.le_refl _) t ht
  have b3 := oG_bnd hN hT he (crd left) (crd_4 left hl) left hl (Nat.le_refl _) f hf
  rw [ob_assoc (hF f hf) (hT p f t hp hf ht) b2 (by omega)] at h
  have n1 : ob (th p f t) (oG th e N (rmB left p) t) ≠ -268435456 := fun q => hM (by rw [← h, ob_c (Or.inr q)])
  have nf : F f ≠ -268435456 := fun q => hM (by rw [← h, ob_c (Or.inl q)])
  have l1 := oG_le (e := e) (f := f) h0 hp hb ht (th := th)
  have nG : oG th e N left f ≠ -268435456 := bnd_ne_le (ob_bnd (hT p f t hp hf ht) b2 (by omega)) b3 (by omega) (by omega) l1 n1
  have l2 : ob (F f) (oG th e N left f) ≤ bsv th e N F left := mfo_ge (fun f => ob (F f) (oG th e N left f)) 41 f hf
  have eq : ob (th p f t) (oG th e N (rmB left p) t) = oG th e N left f := by
    refine Int32.le_antisymm l1 ?_
    rw [← h, ob_n nf n1, ob_n nf nG] at l2
    have bF := (hF f hf).resolve_left nf
    have bG := b3.resolve_left nG
    have bO := (ob_bnd (hT p f t hp hf ht) b2 (by omega)).resolve_left n1
    have hc4 := crd_4 left hl
    rw [le_i (ad_t (by omega) (by omega)) (ad_t (by omega) (by omega))] at l2
    rw [le_i rfl rfl]
    omega
  unfold hO
  rw [(hcb f hf).mpr (by rw [← eq]; exact h), decide_eq_true n1, decide_eq_true eq]
  rfl
theorem gF_eq {th : Nat → Nat → Nat → Int32} {e : Nat → Int32} {N : Nat} (hN : N ≤ 4) (hT : ∀ p f t, p < N → f < 41 → t < 41 → bnd 12 (th p f t)) (he : ∀ s, s < 41 → bnd 0 (e s)) {K : Nat} {F : Nat → Int32} (hF : ∀ s, s < 41 → bnd K (F s)) {left : Nat} (hl : left < 16) (hlN : left < 2 ^ N) (hKc : K + 12 * crd left ≤ 48) (hM : bsv th e N F left ≠ -268435456) {cb : Nat → Bool} (hcb : ∀ f, f < 41 → (cb f = true ↔ ob (F f) (oG th e N left f) = bsv th e N F left)) (h0 : left ≠ 0) : gFp th e N cb left = lfp th e N F left := by
  unfold gFp lfp
  refine fpn_cong 4 0 (fun p _ hp4 => ?_)
  cases hb : inB left p with
  | false => rw [Bool.false_and, Bool.false_and]
  | true =>
    have hpN := inB_N N (by omega) left hl hlN p (by omega) hb
    have hc := rm_c left hl p (by omega) hb
    rw [Bool.true_and, Bool.true_and]
    rw [Bool.eq_iff_iff, decide_eq_true_iff]
    unfold gAny
    rw [anyF_t]
    constructor
    · rintro ⟨f, hf, h⟩
      obtain ⟨t, ht, h⟩ := anyF_t.mp h
      unfold hO at h
      obtain ⟨h1, h2⟩ := (Bool.and_eq_true _ _).mp h
      obtain ⟨h2, h3⟩ := (Bool.and_eq_true _ _).mp h2
      refine Int32.le_antisymm (bsv_le hN hT he hF hl hKc h0 hpN hb) ?_
      rw [← bsv_hit hN hT he hF hl hKc h0 hpN hb hf ht ((hcb f hf).mp h1) (of_decide_eq_true h3)]
      exact mfo_ge (fun t => ob (spr th p F t) (oG th e N (rmB left p) t)) 41 t ht
    · intro h
      rcases mfo_in (fun t => ob (spr th p F t) (oG th e N (rmB left p) t)) 41 with g | ⟨t, ht, g⟩
      · exact absurd (h.symm.trans g) hM
      · have g : ob (spr th p F t) (oG th e N (rmB left p) t) = bsv th e N F left := g.trans h
        have hM2 : ob (spr th p F t) (oG th e N (rmB left p) t) ≠ -268435456 := by rw [g]; exact hM
        rcases mfo_in (fun f => ob (F f) (th p f t)) 41 with q | ⟨f, hf, q⟩
        · exact absurd q (ob_ne hM2).1
        · have q : ob (F f) (th p f t) = spr th p F t := q
          exact ⟨f, hf, anyF_t.mpr ⟨t, ht, hO_of hN hT he hF hl hKc hcb h0 hpN hb hf ht hM (by rw [q]; exact g)⟩⟩
end ORG
section ORF
theorem oAt_lx {th : Nat → Nat → Nat → Int32} {e : Nat → Int32} {N : Nat} (hN : N ≤ 4) (hT : ∀ p f t, p < N → f < 41 → t < 41 → bnd 12 (th p f t)) (he : ∀ s, s < 41 → bnd 0 (e s)) : ∀ (k : Nat) {K : Nat} {F : Nat → Int32} {left : Nat} {cb : Nat → Bool}, (∀ s, s < 41 → bnd K (F s)) → left < 16 → left < 2 ^ N → K + 12 * crd left ≤ 48 → bsv th e N F left ≠ -268435456 → (∀ f, f < 41 → (cb f = true ↔ ob (F f) (oG th e N left f) = bsv th e N F left)) → oAt th e N k cb left = lx th e N k F left := by
  intro k
  induction k with
  | zero =>
    intro K F left cb hF hl hlN hKc hM hcb
    show (if left = 0 then -1 else nI (gFp th e N cb left)) = (if left = 0 then -1 else nI (lfp th e N F left))
    by_cases h0 : left = 0
    · rw [if_pos h0, if_pos h0]
    · rw [if_neg h0, if_neg h0, gF_eq hN hT he hF hl hlN hKc hM hcb h0]
  | succ k ih =>
    intro K F left cb hF hl hlN hKc hM hcb
    show (if left = 0 then -1 else oAt th e N k (gCt th e N cb left (gFp th e N cb left)) (rmB left (gFp th e N cb left))) = (if left = 0 then -1 else lx th e N k (spr th (lfp th e N F left) F) (rmB left (lfp th e N F left)))
    by_cases h0 : left = 0
    · rw [if_pos h0, if_pos h0]
    · rw [if_neg h0, if_neg h0, gF_eq hN hT he hF hl hlN hKc hM hcb h0]
      obtain ⟨p1, hp1, hb1, hq1⟩ := bsv_ex hN hT he hF hl hKc h0 hM
      obtain ⟨o1, o2, o3, o4⟩ := fpn_ok (c := fun p => inB left p && decide (bsv th e N (spr th p F) (rmB left p) = bsv th e N F left)) 4 0 ⟨p1, by omega, by omega, by rw [hb1, decide_eq_true hq1]; rfl⟩
      have o1 : (inB left (lfp th e N F left) && decide (bsv th e N (spr th (lfp th e N F left) F) (rmB left (lfp th e N F left)) = bsv th e N F left)) = true := o1
      have o3 : lfp th e N F left < 0 + 4 := o3
      obtain ⟨hb, hq⟩ := (Bool.and_eq_true _ _).mp o1
      have hq := of_decide_eq_true hq
      have hpN := inB_N N (by omega) left hl hlN _ (by omega) hb
      have hc := rm_c left hl _ (by omega) hb
      generalize lfp th e N F left = p at *
      refine ih (K := K + 12) (spr_bnd (fun f t h1 h2 => hT p f t hpN h1 h2) hF (by omega)) (rm_lt hl) (rm_lt hlN) (by omega) (by rw [hq]; exact hM) (fun t ht => ?_)
      rw [hq]
      unfold gCt
      rw [anyF_t]
      constructor
      · rintro ⟨f, hf, h⟩
        unfold hO at h
        obtain ⟨h1, h2⟩ := (Bool.and_eq_true _ _).mp h
        obtain ⟨h2, h3⟩ := (Bool.and_eq_true _ _).mp h2
        exact bsv_hit hN hT he hF hl hKc h0 hpN hb hf ht ((hcb f hf).mp h1) (of_decide_eq_true h3)
      · intro h
        have hM2 : ob (spr th p F t) (oG th e N (rmB left p) t) ≠ -268435456 := by rw [h]; exact hM
        rcases mfo_in (fun f => ob (F f) (th p f t)) 41 with g | ⟨f, hf, g⟩
        · exact absurd g (ob_ne hM2).1
        · have g : ob (F f) (th p f t) = spr th p F t := g
          exact ⟨f, hf, hO_of hN hT he hF hl hKc hcb h0 hpN hb hf ht hM (by rw [g]; exact h)⟩
end ORF
