/-! ===== the text: tokens ===== -/
section TXT
variable (x : Nat → Int32) (L : Nat)
def isSmI (c : Int32) : Bool := decide (97 ≤ c.toInt ∧ c.toInt ≤ 122)
def isDgI (c : Int32) : Bool := decide (48 ≤ c.toInt ∧ c.toInt ≤ 57)
def skF : Nat → Nat → Nat
  | 0, p => p
  | m + 1, p => if x p = 10 ∨ x p = 32 then skF m (p + 1) else p
def runF (c : Int32 → Bool) : Nat → Nat → Nat
  | 0, p => p
  | m + 1, p => if c (x p) then runF c m (p + 1) else p
def numF (s : Nat) : Nat → Int32
  | 0 => 0
  | n + 1 => 10 * numF s n + x (s + n) - 48
def bR : Nat → Nat
  | 0 => 1 | 1 => 6 | 2 => 12 | 3 => 15 | 4 => 20 | 5 => 27 | 6 => 31 | 7 => 36 | 8 => 43 | 9 => 48 | 10 => 52 | 11 => 58 | 12 => 62 | 13 => 66 | 14 => 71 | 15 => 76 | 16 => 81 | 17 => 87 | 18 => 91 | 19 => 94 | _ => 98
def lR (k : Nat) : Nat := bR (k + 1) - bR k - 1
def eqw (s b : Nat) : Nat → Bool
  | 0 => true
  | m + 1 => eqw s b m && decide (x (s + m) = sch 1 (b + m))
def wmB (s e k : Nat) : Bool := decide (e - s = lR k) && eqw x s (bR k) (lR k)
def wR (s e : Nat) : Nat := if fpn (wmB x s e) 20 0 < 20 then fpn (wmB x s e) 20 0 else 22
def sgF (c : Int32) : Nat → Nat
  | 0 => 25
  | i + 1 => if c = sch 2 i then 30 + i else sgF c i
def tkS (p : Nat) : Nat := skF x (L - p) p
def tkE (p : Nat) : Nat := if tkS x L p < L then (if isSmI (x (tkS x L p)) then runF x isSmI (L - tkS x L p) (tkS x L p) else if isDgI (x (tkS x L p)) then runF x isDgI (L - tkS x L p) (tkS x L p) else tkS x L p + 1) else L
def tkK (p : Nat) : Nat := if tkS x L p < L then (if isSmI (x (tkS x L p)) then wR x (tkS x L p) (tkE x L p) else if isDgI (x (tkS x L p)) then (if 3 < tkE x L p - tkS x L p then 25 else 23) else sgF (x (tkS x L p)) 12) else 24
def tkV (p : Nat) : Int32 := numF x (tkS x L p) (if tkE x L p - tkS x L p < 3 then tkE x L p - tkS x L p else 3)
def tkP : Nat → Nat
  | 0 => 0
  | i + 1 => tkE x L (tkP i)
def TK (i : Nat) : Nat := tkK x L (tkP x L i)
def TV (i : Nat) : Int32 := tkV x L (tkP x L i)
def TPl (i : Nat) : Nat := tkS x L (tkP x L i)
end TXT
section TX2
variable {x : Nat → Int32} {L : Nat}
theorem bR_f : ∀ k, k < 20 → bR (k + 1) = bR k + lR k + 1 ∧ bR k + lR k < 98 ∧ sch 1 (bR k + lR k) = 32 ∧ (∀ i, i < 8 → i < lR k → sch 1 (bR k + i) ≠ 32) ∧ lR k < 8 ∧ 1 ≤ lR k := by decide +kernel
theorem skF_le : ∀ m p, p ≤ skF x m p ∧ skF x m p ≤ p + m
  | 0, p => ⟨Nat.le_refl _, Nat.le_refl _⟩
  | m + 1, p => by
    rw [skF]
    by_cases c : x p = 10 ∨ x p = 32
    · rw [if_pos c]
      have := skF_le m (p + 1)
      omega
    · rw [if_neg c]; omega
theorem runF_le {c : Int32 → Bool} : ∀ m p, p ≤ runF x c m p ∧ runF x c m p ≤ p + m
  | 0, p => ⟨Nat.le_refl _, Nat.le_refl _⟩
  | m + 1, p => by
    rw [runF]
    by_cases h : c (x p) = true
    · rw [if_pos h]
      have := runF_le (c := c) m (p + 1)
      omega
    · rw [if_neg h]; omega
theorem runF_lt {c : Int32 → Bool} {m p : Nat} (h : c (x p) = true) (hm : 0 < m) : p < runF x c m p := by
  cases m with
  | zero => omega
  | succ m =>
    rw [runF, if_pos h]
    have := runF_le (x := x) (c := c) m (p + 1)
    omega
theorem tkS_le {p : Nat} (hp : p ≤ L) : p ≤ tkS x L p ∧ tkS x L p ≤ L := by
  have := skF_le (x := x) (L - p) p
  unfold tkS
  omega
theorem tkE_le {p : Nat} (hp : p ≤ L) : tkE x L p ≤ L ∧ (tkS x L p < L → tkS x L p < tkE x L p) := by
  have h := tkS_le (x := x) hp
  unfold tkE
  by_cases c : tkS x L p < L
  · rw [if_pos c]
    by_cases c1 : isSmI (x (tkS x L p)) = true
    · rw [if_pos c1]
      have h1 := runF_le (x := x) (c := isSmI) (L - tkS x L p) (tkS x L p)
      have h2 := runF_lt (c := isSmI) (m := L - tkS x L p) c1 (by omega)
      exact ⟨by omega, fun _ => h2⟩
    · rw [if_neg c1]
      by_cases c2 : isDgI (x (tkS x L p)) = true
      · rw [if_pos c2]
        have h1 := runF_le (x := x) (c := isDgI) (L - tkS x L p) (tkS x L p)
        have h2 := runF_lt (c := isDgI) (m := L - tkS x L p) c2 (by omega)
        exact ⟨by omega, fun _ => h2⟩
      · rw [if_neg c2]
        exact ⟨by omega, fun _ => by omega⟩
  · rw [if_neg c]
    exact ⟨Nat.le_refl _, fun q => absurd q c⟩
theorem tkP_le : ∀ i, tkP x L i ≤ L
  | 0 => Nat.zero_le _
  | i + 1 => (tkE_le (tkP_le i)).1
theorem sgF_n (c : Int32) : ∀ i, sgF c i = 25 ∨ (30 ≤ sgF c i ∧ sgF c i < 30 + i)
  | 0 => Or.inl rfl
  | i + 1 => by
    rw [sgF]
    by_cases h : c = sch 2 i
    · rw [if_pos h]; omega
    · rw [if_neg h]
      have := sgF_n c i
      omega
theorem wR_n (s e : Nat) : wR x s e < 20 ∨ wR x s e = 22 := by
  unfold wR
  by_cases h : fpn (wmB x s e) 20 0 < 20
  · rw [if_pos h]; exact Or.inl h
  · rw [if_neg h]; exact Or.inr rfl
theorem tkK_24 {p : Nat} : tkK x L p = 24 ↔ ¬ tkS x L p < L := by
  unfold tkK
  by_cases c : tkS x L p < L
  · rw [if_pos c]
    refine ⟨fun h => ?_, fun h => absurd c h⟩
    by_cases c1 : isSmI (x (tkS x L p)) = true
    · rw [if_pos c1] at h
      have := wR_n (x := x) (tkS x L p) (tkE x L p)
      omega
    · rw [if_neg c1] at h
      by_cases c2 : isDgI (x (tkS x L p)) = true
      · rw [if_pos c2] at h
        split at h <;> omega
      · rw [if_neg c2] at h
        have := sgF_n (x (tkS x L p)) 12
        omega
  · rw [if_neg c]
    exact ⟨fun _ => c, fun _ => rfl⟩
theorem tkP_gt : ∀ i, (∀ j, j < i → TK x L j ≠ 24) → i ≤ tkP x L i
  | 0, _ => Nat.zero_le _
  | i + 1, h => by
    have h1 := tkP_gt i (fun j hj => h j (by omega))
    have h2 : tkS x L (tkP x L i) < L := Decidable.byContradiction (fun q => h i (by omega) (tkK_24.mpr q))
    have h3 := (tkE_le (x := x) (tkP_le (x := x) (L := L) i)).2 h2
    have h4 := (tkS_le (x := x) (tkP_le (x := x) (L := L) i)).1
    show i + 1 ≤ tkE x L (tkP x L i)
    omega
/-- where the text ends -/
theorem TK_end (x : Nat → Int32) (L : Nat) : ∃ T, T ≤ L ∧ TK x L T = 24 ∧ ∀ j, j < T → TK x L j ≠ 24 := by
  have ex : ∀ n, (∃ T, T < n ∧ TK x L T = 24 ∧ ∀ j, j < T → TK x L j ≠ 24) ∨ ∀ j, j < n → TK x L j ≠ 24 := by
    intro n
    induction n with
    | zero => exact Or.inr (fun j hj => by omega)
    | succ n ih =>
      rcases ih with ⟨T, h1, h2, h3⟩ | h
      · exact Or.inl ⟨T, by omega, h2, h3⟩
      · by_cases c : TK x L n = 24
        · exact Or.inl ⟨n, by omega, c, h⟩
        · refine Or.inr (fun j hj => ?_)
          by_cases e : j = n
          · rw [e]; exact c
          · exact h j (by omega)
  rcases ex (L + 1) with ⟨T, h1, h2, h3⟩ | h
  · exact ⟨T, by omega, h2, h3⟩
  · have h1 := tkP_gt (L + 1) h
    have h2 := tkP_le (x := x) (L := L) (L + 1)
    omega
end TX2
