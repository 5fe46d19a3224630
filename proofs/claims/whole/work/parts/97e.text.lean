/-- what reading comes to: a fault and its place, or the next token and the law's code -/
abbrev PR : Type := Except (Int32 × Nat) (Nat × List Int32)
def wdI (k : Nat) : Int32 := if 12 ≤ k ∧ k ≤ 16 then nI (k - 9) else if k = 11 then 0 else if k = 7 then 1 else if k = 1 then 2 else -1
section GRM
variable (K : Nat → Nat) (Vl : Nat → Int32) (Pl : Nat → Nat)
def badT (i : Nat) (k : Int32) : PR := .error (if K i = 25 then 1 else k, Pl i)
def PR.andThen (r : PR) (f : Nat → List Int32 → PR) : PR := match r with | .error e => .error e | .ok s => f s.1 s.2
def ps : Nat → Nat → Nat → Nat → List Int32 → PR
  | 0, _, i, _, c => .ok (i, c)
  | n + 1, nt, i, dep, c => 
    if nt = 0 then (if K i = 23 then .ok (i + 1, c ++ [Vl i]) else if wdI (K i) ≠ -1 then .ok (i + 1, c ++ [1000 + wdI (K i)]) else if K i = 35 then (if dep = 6 then .error (4, Pl i) else (ps n 2 (i + 1) (dep + 1) c).andThen (fun j c' => if K j = 36 then .ok (j + 1, c') else badT K Pl j 2)) else badT K Pl i 2) else
    if nt = 1 then ((ps n 0 i dep c).andThen (fun j c' => ps n 11 j dep c')) else
    if nt = 11 then (if K i = 34 then (ps n 0 (i + 1) dep c).andThen (fun j c' => ps n 11 j dep (c' ++ [3002])) else .ok (i, c)) else
    if nt = 2 then ((ps n 1 i dep c).andThen (fun j c' => ps n 12 j dep c')) else
    if nt = 12 then (if K i = 32 ∨ K i = 33 then (ps n 1 (i + 1) dep c).andThen (fun j c' => ps n 12 j dep (c' ++ [if K i = 32 then 3000 else 3001])) else .ok (i, c)) else
    if nt = 3 then (if K i = 19 then (if dep = 6 then .error (4, Pl i) else (ps n 3 (i + 1) (dep + 1) c).andThen (fun j c' => .ok (j, c' ++ [3006]))) else if K i = 37 then (if dep = 6 then .error (4, Pl i) else (ps n 5 (i + 1) (dep + 1) c).andThen (fun j c' => if K j = 38 then .ok (j + 1, c') else badT K Pl j 2)) else (ps n 2 i dep c).andThen (fun j c' => if K j = 39 ∨ K j = 40 ∨ K j = 41 then (ps n 2 (j + 1) dep c').andThen (fun k c'' => .ok (k, c'' ++ [if K j = 39 then 3003 else if K j = 40 then 3004 else 3005])) else badT K Pl j 2)) else
    if nt = 4 then ((ps n 3 i dep c).andThen (fun j c' => ps n 14 j dep c')) else
    if nt = 14 then (if K i = 17 then (ps n 3 (i + 1) dep c).andThen (fun j c' => ps n 14 j dep (c' ++ [3007])) else .ok (i, c)) else
    if nt = 5 then ((ps n 4 i dep c).andThen (fun j c' => ps n 15 j dep c')) else
    if nt = 15 then (if K i = 18 then (ps n 4 (i + 1) dep c).andThen (fun j c' => ps n 15 j dep (c' ++ [3008])) else .ok (i, c)) else .ok (i, c)
theorem ps_0 (n i dep : Nat) (c : List Int32) : ps K Vl Pl (n + 1) 0 i dep c = (if K i = 23 then .ok (i + 1, c ++ [Vl i]) else if wdI (K i) ≠ -1 then .ok (i + 1, c ++ [1000 + wdI (K i)]) else if K i = 35 then (if dep = 6 then .error (4, Pl i) else (ps K Vl Pl n 2 (i + 1) (dep + 1) c).andThen (fun j c' => if K j = 36 then .ok (j + 1, c') else badT K Pl j 2)) else badT K Pl i 2) := rfl
theorem ps_1 (n i dep : Nat) (c : List Int32) : ps K Vl Pl (n + 1) 1 i dep c = ((ps K Vl Pl n 0 i dep c).andThen (fun j c' => ps K Vl Pl n 11 j dep c')) := rfl
theorem ps_11 (n i dep : Nat) (c : List Int32) : ps K Vl Pl (n + 1) 11 i dep c = (if K i = 34 then (ps K Vl Pl n 0 (i + 1) dep c).andThen (fun j c' => ps K Vl Pl n 11 j dep (c' ++ [3002])) else .ok (i, c)) := rfl
theorem ps_2 (n i dep : Nat) (c : List Int32) : ps K Vl Pl (n + 1) 2 i dep c = ((ps K Vl Pl n 1 i dep c).andThen (fun j c' => ps K Vl Pl n 12 j dep c')) := rfl
theorem ps_12 (n i dep : Nat) (c : List Int32) : ps K Vl Pl (n + 1) 12 i dep c = (if K i = 32 ∨ K i = 33 then (ps K Vl Pl n 1 (i + 1) dep c).andThen (fun j c' => ps K Vl Pl n 12 j dep (c' ++ [if K i = 32 then 3000 else 3001])) else .ok (i, c)) := rfl
theorem ps_3 (n i dep : Nat) (c : List Int32) : ps K Vl Pl (n + 1) 3 i dep c = (if K i = 19 then (if dep = 6 then .error (4, Pl i) else (ps K Vl Pl n 3 (i + 1) (dep + 1) c).andThen (fun j c' => .ok (j, c' ++ [3006]))) else if K i = 37 then (if dep = 6 then .error (4, Pl i) else (ps K Vl Pl n 5 (i + 1) (dep + 1) c).andThen (fun j c' => if K j = 38 then .ok (j + 1, c') else badT K Pl j 2)) else (ps K Vl Pl n 2 i dep c).andThen (fun j c' => if K j = 39 ∨ K j = 40 ∨ K j = 41 then (ps K Vl Pl n 2 (j + 1) dep c').andThen (fun k c'' => .ok (k, c'' ++ [if K j = 39 then 3003 else if K j = 40 then 3004 else 3005])) else badT K Pl j 2)) := rfl
theorem ps_4 (n i dep : Nat) (c : List Int32) : ps K Vl Pl (n + 1) 4 i dep c = ((ps K Vl Pl n 3 i dep c).andThen (fun j c' => ps K Vl Pl n 14 j dep c')) := rfl
theorem ps_14 (n i dep : Nat) (c : List Int32) : ps K Vl Pl (n + 1) 14 i dep c = (if K i = 17 then (ps K Vl Pl n 3 (i + 1) dep c).andThen (fun j c' => ps K Vl Pl n 14 j dep (c' ++ [3007])) else .ok (i, c)) := rfl
theorem ps_5 (n i dep : Nat) (c : List Int32) : ps K Vl Pl (n + 1) 5 i dep c = ((ps K Vl Pl n 4 i dep c).andThen (fun j c' => ps K Vl Pl n 15 j dep c')) := rfl
theorem ps_15 (n i dep : Nat) (c : List Int32) : ps K Vl Pl (n + 1) 15 i dep c = (if K i = 18 then (ps K Vl Pl n 4 (i + 1) dep c).andThen (fun j c' => ps K Vl Pl n 15 j dep (c' ++ [3008])) else .ok (i, c)) := rfl
def rkT (nt : Nat) : Nat := if nt = 0 then 0 else if nt = 11 then 1 else if nt = 1 then 2 else if nt = 12 then 3 else if nt = 2 then 4 else if nt = 3 then 5 else if nt = 14 then 6 else if nt = 4 then 7 else if nt = 15 then 8 else 9
end GRM
/-- where a reader is: before token i, the code c told -/
def RB (T m i : Nat) (c : List Int32) : Prop := i ≤ T ∧ c.length + (T - i) ≤ m ∧ m ≤ 900
def PRok (T m i0 : Nat) (r : PR) : Prop := match r with | .error e => e.1 ≠ 0 | .ok s => RB T m s.1 s.2 ∧ i0 ≤ s.1
theorem PR.at_ok (s : Nat × List Int32) (f : Nat → List Int32 → PR) : PR.andThen (.ok s) f = f s.1 s.2 := rfl
theorem PR.at_er (e : Int32 × Nat) (f : Nat → List Int32 → PR) : PR.andThen (.error e) f = .error e := rfl
section PSO
variable {K : Nat → Nat} {Vl : Nat → Int32} {Pl : Nat → Nat} {T : Nat} (hT : K T = 24)
theorem bad_ok {T m i0 i : Nat} {k : Int32} (hk : k ≠ 0) : PRok T m i0 (badT K Pl i k) := by
  unfold badT
  by_cases c : K i = 25
  · rw [if_pos c]; exact (by decide : (1 : Int32) ≠ 0)
  · rw [if_neg c]; exact hk
theorem PRok.bind {m m' i0 : Nat} {r : PR} {f : Nat → List Int32 → PR} (h : PRok T m i0 r) (hf : ∀ j c, RB T m j c → i0 ≤ j → PRok T m' i0 (f j c)) : PRok T m' i0 (r.andThen f) := by
  cases r with
  | error e => exact h
  | ok s => exact hf s.1 s.2 h.1 h.2
theorem PRok.up {m m' i0 i1 : Nat} {r : PR} (h : PRok T m i0 r) (hm : m ≤ m') (h9 : m' ≤ 900) (hi : i1 ≤ i0) : PRok T m' i1 r := by
  cases r with
  | error e => exact h
  | ok s => exact ⟨⟨h.1.1, by have := h.1.2.1; omega, h9⟩, by have := h.2; omega⟩
theorem lt_T (hT : K T = 24) {i k : Nat} (hi : i ≤ T) (hk : K i = k) (h : k ≠ 24) : i < T := by
  apply Decidable.byContradiction
  intro q
  have : i = T := by omega
  rw [this, hT] at hk
  exact h hk.symm
theorem RB.eat (hT : K T = 24) {m i k : Nat} {c : List Int32} (h : RB T m i c) (hk : K i = k) (hn : k ≠ 24) : RB T (m - 1) (i + 1) c ∧ 1 ≤ m := by
  have h1 := lt_T hT h.1 hk hn
  have h2 := h.2.1
  have h3 := h.2.2
  exact ⟨⟨by omega, by omega, by omega⟩, by omega⟩
theorem RB.say {m i : Nat} {c : List Int32} {v : Int32} (h : RB T (m - 1) i c) (hm : 1 ≤ m) (h9 : m ≤ 900) : RB T m i (c ++ [v]) := by
  have h2 := h.2.1
  exact ⟨h.1, by rw [List.length_append]; show c.length + 1 + _ ≤ _; omega, h9⟩
theorem ps_ok (hT : K T = 24) : ∀ n nt i dep c m, 10 * (T - i) + rkT nt < n → RB T m i c → PRok T m i (ps K Vl Pl n nt i dep c) := by
  intro n
  induction n with
  | zero => intro nt i dep c m hn _; omega
  | succ n ih =>
    intro nt i dep c m hn hB
    have hB1 := hB.1
    have h9 := hB.2.2
    have wk : ∀ k, wdI k ≠ -1 → k ≠ 24 := fun k hk q => hk (by rw [q]; rfl)
    have okk : PRok T m i (.ok (i, c)) := ⟨hB, Nat.le_refl _⟩
    have loop : ∀ a l, rkT a ≤ 7 → rkT l ≤ 8 → ∀ k v, k ≠ 24 → K i = k → PRok T m i ((ps K Vl Pl n a (i + 1) dep c).andThen (fun j c' => ps K Vl Pl n l j dep (c' ++ [v]))) := by
      intro a l ha hl k v hk hKi
      obtain ⟨b1, b2⟩ := hB.eat hT hKi hk
      have h1 := lt_T hT hB1 hKi hk
      refine (ih a (i + 1) dep c (m - 1) (by omega) b1).bind (fun j c' hb hj => ?_) |>.up (Nat.le_refl _) h9 (by omega)
      exact (ih l j dep (c' ++ [v]) m (by omega) (hb.say b2 h9)).up (Nat.le_refl _) h9 hj
    have seq : ∀ a l, rkT a < rkT nt → rkT l < rkT nt → PRok T m i ((ps K Vl Pl n a i dep c).andThen (fun j c' => ps K Vl Pl n l j dep c')) := by
      intro a l ha hl
      refine (ih a i dep c m (by omega) hB).bind (fun j c' hb hj => ?_)
      exact (ih l j dep c' m (by have := hb.1; omega) hb).up (Nat.le_refl _) h9 hj
    have paren : ∀ a cl, rkT a ≤ 9 → ∀ k, k ≠ 24 → cl ≠ 24 → K i = k → PRok T m i (if dep = 6 then .error (4, Pl i) else (ps K Vl Pl n a (i + 1) (dep + 1) c).andThen (fun j c' => if K j = cl then .ok (j + 1, c') else badT K Pl j 2)) := by
      intro a cl ha k hk hcl hKi
      obtain ⟨b1, b2⟩ := hB.eat hT hKi hk
      have h1 := lt_T hT hB1 hKi hk
      by_cases cd : dep = 6
      · rw [if_pos cd]; exact (by decide : (4 : Int32) ≠ 0)
      · rw [if_neg cd]
        refine (ih a (i + 1) (dep + 1) c (m - 1) (by omega) b1).bind (fun j c' hb hj => ?_) |>.up (m := m) (Nat.le_refl _) h9 (by omega)
        by_cases cj : K j = cl
        · rw [if_pos cj]
          obtain ⟨b3, b4⟩ := hb.eat hT cj hcl
          exact ⟨⟨b3.1, by show c'.length + (T - (j + 1)) ≤ m; have := b3.2.1; omega, h9⟩, by show i + 1 ≤ j + 1; omega⟩
        · rw [if_neg cj]; exact bad_ok (by decide)
    by_cases e0 : nt = 0
    · subst e0
      rw [ps_0]
      by_cases c1 : K i = 23
      · rw [if_pos c1]
        obtain ⟨b1, b2⟩ := hB.eat hT c1 (by omega)
        exact ⟨b1.say b2 h9, by show i ≤ i + 1; omega⟩
      · rw [if_neg c1]
        by_cases c2 : wdI (K i) ≠ -1
        · rw [if_pos c2]
          obtain ⟨b1, b2⟩ := hB.eat hT rfl (wk _ c2)
          exact ⟨b1.say b2 h9, by show i ≤ i + 1; omega⟩
        · rw [if_neg c2]
          by_cases c3 : K i = 35
          · rw [if_pos c3]
            exact paren 2 36 (by decide) 35 (by omega) (by omega) c3
          · rw [if_neg c3]; exact bad_ok (by decide)
    by_cases e1 : nt = 1
    · subst e1; rw [ps_1]; exact seq 0 11 (by decide) (by decide)
    by_cases e11 : nt = 11
    · subst e11; rw [ps_11]
      by_cases c1 : K i = 34
      · rw [if_pos c1]; exact loop 0 11 (by decide) (by decide) 34 _ (by omega) c1
      · rw [if_neg c1]; exact okk
    by_cases e2 : nt = 2
    · subst e2; rw [ps_2]; exact seq 1 12 (by decide) (by decide)
    by_cases e12 : nt = 12
    · subst e12; rw [ps_12]
      by_cases c1 : K i = 32 ∨ K i = 33
      · rw [if_pos c1]; exact loop 1 12 (by decide) (by decide) (K i) _ (by omega) rfl
      · rw [if_neg c1]; exact okk
    by_cases e4 : nt = 4
    · subst e4; rw [ps_4]; exact seq 3 14 (by decide) (by decide)
    by_cases e14 : nt = 14
    · subst e14; rw [ps_14]
      by_cases c1 : K i = 17
      · rw [if_pos c1]; exact loop 3 14 (by decide) (by decide) 17 _ (by omega) c1
      · rw [if_neg c1]; exact okk
    by_cases e5 : nt = 5
    · subst e5; rw [ps_5]; exact seq 4 15 (by decide) (by decide)
    by_cases e15 : nt = 15
    · subst e15; rw [ps_15]
      by_cases c1 : K i = 18
      · rw [if_pos c1]; exact loop 4 15 (by decide) (by decide) 18 _ (by omega) c1
      · rw [if_neg c1]; exact okk
    by_cases e3 : nt = 3
    · subst e3; rw [ps_3]
      by_cases c1 : K i = 19
      · rw [if_pos c1]
        obtain ⟨b1, b2⟩ := hB.eat hT c1 (by omega)
        have h1 := lt_T hT hB1 c1 (by omega)
        by_cases cd : dep = 6
        · rw [if_pos cd]; exact (by decide : (4 : Int32) ≠ 0)
        · rw [if_neg cd]
          refine (ih 3 (i + 1) (dep + 1) c (m - 1) (by have : rkT 3 = 5 := rfl; omega) b1).bind (fun j c' hb hj => ?_) |>.up (m := m) (Nat.le_refl _) h9 (by omega)
          exact ⟨hb.say b2 h9, hj⟩
      · rw [if_neg c1]
        by_cases c2 : K i = 37
        · rw [if_pos c2]; exact paren 5 38 (by decide) 37 (by omega) (by omega) c2
        · rw [if_neg c2]
          have r2 : rkT 2 = 4 := rfl
          have r3 : rkT 3 = 5 := rfl
          refine (ih 2 i dep c m (by omega) hB).bind (fun j c' hb hj => ?_)
          by_cases c3 : K j = 39 ∨ K j = 40 ∨ K j = 41
          · rw [if_pos c3]
            obtain ⟨b1, b2⟩ := hb.eat hT (k := K j) rfl (by omega)
            have h1 := lt_T hT hb.1 (k := K j) rfl (by omega)
            refine (ih 2 (j + 1) dep c' (m - 1) (by omega) b1).bind (fun k c'' hb2 hk => ?_) |>.up (m := m) (Nat.le_refl _) h9 (by omega)
            exact ⟨hb2.say b2 h9, hk⟩
          · rw [if_neg c3]; exact bad_ok (by decide)
    · have ed : ps K Vl Pl (n + 1) nt i dep c = .ok (i, c) := by
        rw [ps, if_neg e0, if_neg e1, if_neg e11, if_neg e2, if_neg e12, if_neg e3, if_neg e4, if_neg e14, if_neg e5, if_neg e15]
      rw [ed]
      exact okk
end PSO
