theorem runF_all {x : Nat → Int32} {c : Int32 → Bool} : ∀ m p i, p ≤ i → i < runF x c m p → c (x i) = true
  | 0, p, i, h1, h2 => by have h2 : i < p := h2; omega
  | m + 1, p, i, h1, h2 => by
    rw [runF] at h2
    by_cases h : c (x p) = true
    · rw [if_pos h] at h2
      by_cases e : i = p
      · rw [e]; exact h
      · exact runF_all m (p + 1) i (by omega) h2
    · rw [if_neg h] at h2; omega
theorem numF_b {x : Nat → Int32} {s : Nat} : ∀ n, n ≤ 3 → (∀ i, i < n → isDgI (x (s + i)) = true) → 0 ≤ (numF x s n).toInt ∧ (numF x s n).toInt < (10 ^ n : Nat)
  | 0, _, _ => ⟨(by decide : 0 ≤ (0 : Int32).toInt), (by decide : (0 : Int32).toInt < ((10 ^ 0 : Nat) : Int))⟩
  | n + 1, hn, h => by
    have ih := numF_b n (by omega) (fun i hi => h i (by omega))
    have hd := of_decide_eq_true (h n (by omega))
    have p3 : 10 ^ n ≤ 100 := Nat.le_trans (Nat.pow_le_pow_right (by decide) (show n ≤ 2 by omega)) (by decide)
    have e1 : (10 * numF x s n).toInt = 10 * (numF x s n).toInt := by
      obtain ⟨k, hk, _⟩ : ∃ k : Nat, numF x s n = nI k ∧ k < 100 := ⟨(numF x s n).toInt.toNat, nI_ofI ih.1, by omega⟩
      rw [hk, show (10 : Int32) = nI 10 from rfl, iI_nat, iI_nat, iI_mul, iI_toInt (by omega), ← iI_nat, ix_n (by omega)]
      omega
    have e2 : (10 * numF x s n + x (s + n)).toInt = 10 * (numF x s n).toInt + (x (s + n)).toInt := by rw [ad_t (by omega) (by omega), e1]
    have e3 : (numF x s (n + 1)).toInt = 10 * (numF x s n).toInt + (x (s + n)).toInt - 48 := by
      show (10 * numF x s n + x (s + n) - 48).toInt = _
      rw [su_t (by rw [e2, show (48 : Int32).toInt = 48 from rfl]; omega) (by rw [e2, show (48 : Int32).toInt = 48 from rfl]; omega), e2]
      rfl
    rw [e3, Nat.pow_succ]
    omega
theorem TV_b {x : Nat → Int32} {L i : Nat} (h : TK x L i = 23) : 0 ≤ (TV x L i).toInt ∧ (TV x L i).toInt ≤ 999 := by
  unfold TK tkK at h
  unfold TV tkV
  generalize hp : tkP x L i = p at *
  generalize hs : tkS x L p = s at *
  by_cases c1 : s < L
  · rw [if_pos c1] at h
    by_cases c2 : isSmI (x s) = true
    · rw [if_pos c2] at h
      have := wR_n (x := x) s (tkE x L p)
      omega
    · rw [if_neg c2] at h
      by_cases c3 : isDgI (x s) = true
      · rw [if_pos c3] at h
        have eE : tkE x L p = runF x isDgI (L - s) s := by unfold tkE; rw [hs, if_pos c1, if_neg c2, if_pos c3]
        have hle : tkE x L p - s ≤ 3 := by
          by_cases q : 3 < tkE x L p - s
          · rw [if_pos q] at h; omega
          · omega
        have hb := numF_b (x := x) (s := s) (if tkE x L p - s < 3 then tkE x L p - s else 3) (by split <;> omega) (fun j hj => by
          have hj : j < tkE x L p - s := by split at hj <;> omega
          exact runF_all (L - s) s (s + j) (by omega) (by rw [← eE]; omega))
        have p3 : 10 ^ (if tkE x L p - s < 3 then tkE x L p - s else 3) ≤ 1000 := Nat.le_trans (Nat.pow_le_pow_right (by decide) (show _ ≤ 3 by split <;> omega)) (by decide)
        omega
      · rw [if_neg c3] at h
        have := sgF_n (x s) 12
        omega
  · rw [if_neg c1] at h; omega
def tkN (K : Nat → Nat) (Vl : Nat → Int32) (Pl : Nat → Nat) (hi : Nat) (i : Nat) (c : List Int32) : PR := if K i = 23 then (if (Vl i).toInt ≤ (hi : Int) then .ok (i + 1, c) else .error (3, Pl i)) else badT K Pl i 2
