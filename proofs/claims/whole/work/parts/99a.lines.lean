/-! ===== the lines of a text ===== -/
abbrev RLn : Type := Except (Int32 × Nat) (Nat × (Nat → Int32) × List Int32)
def RR.w (r : RR) (c : List Int32) : RLn := match r with | .error e => .error e | .ok s => .ok (s.1, s.2, c)
def RLn.nx (r : RLn) (f : Nat → (Nat → Int32) → List Int32 → RLn) : RLn := match r with | .error e => .error e | .ok s => f s.1 s.2.1 s.2.2
def lawR (law : Nat) (F : Nat → Int32) (c : List Int32) (r : PR) : RLn := match r with | .error e => .error e | .ok s => .ok (s.1, pm_up (pm_up (pm_up F (4 + law) 1) (6 + law) (nI c.length)) (8 + law) (nI s.2.length - nI c.length), s.2)
section LNS
variable (K : Nat → Nat) (Vl : Nat → Int32) (Pl : Nat → Nat) (T : Nat)
def badL (i : Nat) (k : Int32) : RLn := .error (if K i = 25 then 1 else k, Pl i)
def lnP (i : Nat) (F : Nat → Int32) (c : List Int32) : RLn := if F 1 = 4 then .error (4, Pl i) else ((rpL K Vl Pl (F 1).toInt.toNat (T + 1) (i + 1) F).andThen (fun j F' => .ok (j, pm_up F' 1 (F' 1 + 1)))).w c
def lnY (i : Nat) (F : Nat → Int32) (c : List Int32) : RLn := if F 2 = 5 then .error (4, Pl i) else ((rfL K Vl Pl (F 2).toInt.toNat (T + 1) (i + 1) F).andThen (fun j F' => .ok (j, pm_up F' 2 (F' 2 + 1)))).w c
def lnL (law nt : Nat) (i : Nat) (F : Nat → Int32) (c : List Int32) : RLn := if K (i + 1) = 31 then lawR law F c (ps K Vl Pl (10 * T + 20) nt (i + 2) 0 c) else badL K Pl (i + 1) 2
def lnS (i : Nat) (F : Nat → Int32) (c : List Int32) : RLn := (numR K Vl Pl 10 (i + 1) (fun v => .ok (i + 2, pm_up F 3 v))).w c
def lnF (i : Nat) (F : Nat → Int32) (c : List Int32) : RLn := if K i = 1 then lnP K Vl Pl T i F c else if K i = 4 then lnY K Vl Pl T i F c else if K i = 8 then lnL K Vl Pl T 0 2 i F c else if K i = 9 then lnL K Vl Pl T 1 5 i F c else if K i = 10 then lnS K Vl Pl i F c else badL K Pl i 2
def enF (j : Nat) (F : Nat → Int32) (c : List Int32) : RLn := if K j = 30 then .ok (j + 1, pm_up F 0 (F 0 + 1), c) else badL K Pl j 2
def lpF : Nat → Nat → (Nat → Int32) → List Int32 → RLn
  | 0, i, F, c => .ok (i, F, c)
  | n + 1, i, F, c => if K i = 24 then .ok (i, F, c) else (lnF K Vl Pl T i F c).nx (fun j F c => (enF K Pl j F c).nx (lpF n))
def rdF : RLn := if K 0 = 0 then (enF K Pl 1 (fun _ => 0) []).nx (lpF K Vl Pl T (T + 1)) else badL K Pl 0 2
def flS (p j : Nat) (F : Nat → Int32) : Option RR := if K j = 5 then some (numR K Vl Pl 20 (j + 1) (fun v => .ok (j + 2, pm_up F (77 + p) v))) else if K j = 6 then some (numR K Vl Pl 20 (j + 1) (fun v => .ok (j + 2, pm_up F (77 + p) (-v)))) else if K j = 7 then some (numR K Vl Pl 9 (j + 1) (fun v => .ok (j + 2, pm_up F (87 + p) v))) else none
theorem numR_bind (hi i : Nat) (f : Int32 → RR) (g : Nat → (Nat → Int32) → RR) : (numR K Vl Pl hi i f).andThen g = numR K Vl Pl hi i (fun v => (f v).andThen g) := by
  unfold numR badR
  by_cases c1 : K i = 23
  · rw [if_pos c1, if_pos c1]
    by_cases c2 : (Vl i).toInt ≤ (hi : Int)
    · rw [if_pos c2, if_pos c2]
    · rw [if_neg c2, if_neg c2]; rfl
  · rw [if_neg c1, if_neg c1]; rfl
theorem rfL_st (p n j : Nat) (F : Nat → Int32) : rfL K Vl Pl p (n + 1) j F = match flS K Vl Pl p j F with | none => .ok (j, F) | some r => r.andThen (rfL K Vl Pl p n) := by
  rw [rfL]
  unfold flS
  by_cases c5 : K j = 5
  · rw [if_pos c5, if_pos c5]
    show _ = RR.andThen _ _
    rw [numR_bind]; rfl
  · rw [if_neg c5, if_neg c5]
    by_cases c6 : K j = 6
    · rw [if_pos c6, if_pos c6]
      show _ = RR.andThen _ _
      rw [numR_bind]; rfl
    · rw [if_neg c6, if_neg c6]
      by_cases c7 : K j = 7
      · rw [if_pos c7, if_pos c7]
        show _ = RR.andThen _ _
        rw [numR_bind]; rfl
      · rw [if_neg c7, if_neg c7]
theorem RR.at_ok (s : Nat × (Nat → Int32)) (f : Nat → (Nat → Int32) → RR) : RR.andThen (.ok s) f = f s.1 s.2 := rfl
theorem RR.at_er (e : Int32 × Nat) (f : Nat → (Nat → Int32) → RR) : RR.andThen (.error e) f = .error e := rfl
end LNS
def RXL (x : Nat → Int32) (L o T : Nat) (r : RLn) (V A : sV) : Prop := match r with | .error e => V o 11 = e.1 ∧ e.1 ≠ 0 ∧ V o 12 = nI e.2 | .ok s => RNF x L o s.1 s.2.2 s.2.1 V A ∧ RB T T s.1 s.2.2
theorem RXF.l {x : Nat → Int32} {L o T : Nat} {c : List Int32} {r : RR} {V A : sV} (h : RXF x L o T T c r V A) : RXL x L o T (r.w c) V A := by
  cases r with
  | error e => exact h
  | ok s => exact h
theorem RXF_err {x : Nat → Int32} {L o T m : Nat} {c : List Int32} {e : Int32 × Nat} {V A : sV} (h : RXF x L o T m c (.error e) V A) : ¬ V o 11 = 0 := by
  have h : V o 11 = e.1 ∧ e.1 ≠ 0 ∧ _ := h
  rw [h.1]; exact h.2.1
theorem RXL_err {x : Nat → Int32} {L o T : Nat} {e : Int32 × Nat} {V A : sV} (h : RXL x L o T (.error e) V A) : ¬ V o 11 = 0 := by
  have h : V o 11 = e.1 ∧ e.1 ≠ 0 ∧ _ := h
  rw [h.1]; exact h.2.1
def RZL (x : Nat → Int32) (L o T : Nat) (S : sS) (P : sP) (B : sB) (Q : sP) (t sl : Nat) (r : RLn) (V A : sV) : Option Value → Ph → Prop := fun q h' => q = none ∧ ∃ V' A' : sV, h' = (t, sl, gh S V' P A' B Q) ∧ RXL x L o T r V' A' ∧ FRL o V A V' A'
