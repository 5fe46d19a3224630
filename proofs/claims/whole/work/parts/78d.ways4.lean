theorem mx_lo {lo b : Nat} (hl : lo ≤ 40) (hb : b ≤ 12) : (if (-20 : Int32) < sI lo - nI b * 2 then sI lo - nI b * 2 else -20) = sI (lo - 2 * b) := by
  have e : sI lo - nI b * 2 = iI ((lo : Int) - 20 - (b : Int) * 2) := by
    unfold sI
    rw [show (2 : Int32) = iI 2 from rfl, iI_nat, iI_mul, iI_sub]
  rw [e, show (-20 : Int32) = iI (-20) from rfl, show sI (lo - 2 * b) = iI (((lo - 2 * b : Nat) : Int) - 20) from rfl]
  by_cases h : iI (-20) < iI ((lo : Int) - 20 - (b : Int) * 2)
  · rw [if_pos h]
    rw [iI_lt (by omega) (by omega)] at h
    congr 1
    omega
  · rw [if_neg h]
    rw [iI_lt (by omega) (by omega)] at h
    congr 1
    omega
theorem mn_hi {hi b : Nat} (hl : hi ≤ 40) (hb : b ≤ 12) : (if sI hi + nI b * 2 < (20 : Int32) then sI hi + nI b * 2 else 20) = sI (min (hi + 2 * b) 40) := by
  have e : sI hi + nI b * 2 = iI ((hi : Int) - 20 + (b : Int) * 2) := by
    unfold sI
    rw [show (2 : Int32) = iI 2 from rfl, iI_nat, iI_mul, iI_add]
  rw [e, show (20 : Int32) = iI 20 from rfl, show sI (min (hi + 2 * b) 40) = iI (((min (hi + 2 * b) 40 : Nat) : Int) - 20) from rfl]
  by_cases h : iI ((hi : Int) - 20 + (b : Int) * 2) < iI 20
  · rw [if_pos h]
    rw [iI_lt (by omega) (by omega)] at h
    congr 1
    omega
  · rw [if_neg h]
    rw [iI_lt (by omega) (by omega)] at h
    congr 1
    omega
