abbrev RR : Type := Except (Int32 × Nat) (Nat × (Nat → Int32))
section LIN
variable (K : Nat → Nat) (Vl : Nat → Int32) (Pl : Nat → Nat)
def badR (i : Nat) (k : Int32) : RR := .error (if K i = 25 then 1 else k, Pl i)
def numR (hi i : Nat) (f : Int32 → RR) : RR := if K i = 23 then (if (Vl i).toInt ≤ (hi : Int) then f (Vl i) else .error (3, Pl i)) else badR K Pl i 2
def rpL (q : Nat) : Nat → Nat → (Nat → Int32) → RR
  | 0, j, F => .ok (j, F)
  | n + 1, j, F => if K j = 2 ∨ K j = 3 then (if F (10 + q) = 12 then .error (4, Pl j) else numR K Vl Pl 9 (j + 1) (fun v => rpL q n (j + 2) (pm_up (pm_up F (15 + 12 * q + (F (10 + q)).toInt.toNat) ((if K j = 2 then 1 else -1) * v)) (10 + q) (F (10 + q) + 1)))) else .ok (j, F)
def rfL (p : Nat) : Nat → Nat → (Nat → Int32) → RR
  | 0, j, F => .ok (j, F)
  | n + 1, j, F => if K j = 5 then numR K Vl Pl 20 (j + 1) (fun v => rfL p n (j + 2) (pm_up F (77 + p) v)) else if K j = 6 then numR K Vl Pl 20 (j + 1) (fun v => rfL p n (j + 2) (pm_up F (77 + p) (-v))) else if K j = 7 then numR K Vl Pl 9 (j + 1) (fun v => rfL p n (j + 2) (pm_up F (87 + p) v)) else .ok (j, F)
def RR.andThen (r : RR) (f : Nat → (Nat → Int32) → RR) : RR := match r with | .error e => .error e | .ok s => f s.1 s.2
end LIN
