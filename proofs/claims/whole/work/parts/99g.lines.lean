/-! ===== what a text read is ===== -/
theorem GS.up {h : Nat} {cs : List Int32} (hg : GS h cs) : GS (h + 1) cs :=
  hg (fun h cs => GS (h + 1) cs) (fun h c h1 h2 h3 => GS.one (by omega) h2 h3) (fun h xs ys c hx hy h3 h4 => GS.two hx hy h3 h4)
theorem TS.up {h : Nat} {cs : List Int32} (hg : TS h cs) : TS (h + 1) cs :=
  hg (fun h cs => TS (h + 1) cs) (fun h xs ys c hx hy h3 h4 => TS.cmp hx.up hy.up h3 h4) (fun h xs hx => TS.neg hx) (fun h xs ys c hx hy h3 => TS.two hx hy h3)
theorem GS.le {h h' : Nat} {cs : List Int32} (hg : GS h cs) (hh : h ≤ h') : GS h' cs := by
  obtain ⟨k, rfl⟩ : ∃ k, h' = h + k := ⟨h' - h, by omega⟩
  clear hh
  induction k with
  | zero => exact hg
  | succ k ih => exact ih.up
theorem TS.le {h h' : Nat} {cs : List Int32} (hg : TS h cs) (hh : h ≤ h') : TS h' cs := by
  obtain ⟨k, rfl⟩ : ∃ k, h' = h + k := ⟨h' - h, by omega⟩
  clear hh
  induction k with
  | zero => exact hg
  | succ k ih => exact ih.up
theorem GS.dep {h : Nat} {cs : List Int32} (hg : GS h cs) : ∀ (n : Nat) (rest : List Int32), rk_dep (cs ++ rest) n = rk_dep rest (n + 1) := by
  refine hg (fun h cs => ∀ (n : Nat) (rest : List Int32), rk_dep (cs ++ rest) n = rk_dep rest (n + 1)) ?_ ?_
  · intro h c h1 h2 h3 n rest
    rw [List.singleton_append, rk_dep_c, if_pos (c3_lt h3)]
  · intro h xs ys c hx hy h3 h4 n rest
    rw [List.append_assoc, List.append_assoc, hx, hy, List.singleton_append, rk_dep_c, if_neg (c3_ge h3), if_neg (c36_ne (by omega)), if_neg (by omega)]
    rfl
theorem TS.dep {h : Nat} {cs : List Int32} (hg : TS h cs) : ∀ (n : Nat) (rest : List Int32), rk_dep (cs ++ rest) n = rk_dep rest (n + 1) := by
  refine hg (fun h cs => ∀ (n : Nat) (rest : List Int32), rk_dep (cs ++ rest) n = rk_dep rest (n + 1)) ?_ ?_ ?_
  · intro h xs ys c hx hy h3 h4 n rest
    rw [List.append_assoc, List.append_assoc, hx.dep, hy.dep, List.singleton_append, rk_dep_c, if_neg (c3_ge (by omega)), if_neg (c36_ne (by omega)), if_neg (by omega)]
    rfl
  · intro h xs hx n rest
    rw [List.append_assoc, hx, List.singleton_append, rk_dep_c, if_neg (by decide), if_pos rfl, if_neg (by omega)]
  · intro h xs ys c hx hy h3 n rest
    rw [List.append_assoc, List.append_assoc, hx, hy, List.singleton_append, rk_dep_c]
    rcases h3 with rfl | rfl
    · rw [if_neg (by decide), if_neg (by decide), if_neg (by omega)]; rfl
    · rw [if_neg (by decide), if_neg (by decide), if_neg (by omega)]; rfl
theorem GS.ok {h : Nat} {cs : List Int32} (hg : GS h cs) : ∀ c ∈ cs, rk_ok c := by
  refine hg (fun h cs => ∀ c ∈ cs, rk_ok c) ?_ ?_
  · intro h c h1 h2 h3 x hx
    rw [List.mem_singleton] at hx
    subst hx
    exact Or.inl ⟨h2, h3⟩
  · intro h xs ys c hx hy h3 h4 x hm
    rcases List.mem_append.mp hm with hm | hm
    · rcases List.mem_append.mp hm with hm | hm
      · exact hx x hm
      · exact hy x hm
    · rw [List.mem_singleton] at hm
      subst hm
      exact Or.inr ⟨h3, by omega⟩
theorem TS.ok {h : Nat} {cs : List Int32} (hg : TS h cs) : ∀ c ∈ cs, rk_ok c := by
  refine hg (fun h cs => ∀ c ∈ cs, rk_ok c) ?_ ?_ ?_
  · intro h xs ys c hx hy h3 h4 x hm
    rcases List.mem_append.mp hm with hm | hm
    · rcases List.mem_append.mp hm with hm | hm
      · exact hx.ok x hm
      · exact hy.ok x hm
    · rw [List.mem_singleton] at hm
      subst hm
      exact Or.inr ⟨by omega, by omega⟩
  · intro h xs hx x hm
    rcases List.mem_append.mp hm with hm | hm
    · exact hx x hm
    · rw [List.mem_singleton] at hm
      subst hm
      exact Or.inr ⟨by decide, by decide⟩
  · intro h xs ys c hx hy h3 x hm
    rcases List.mem_append.mp hm with hm | hm
    · rcases List.mem_append.mp hm with hm | hm
      · exact hx x hm
      · exact hy x hm
    · rw [List.mem_singleton] at hm
      subst hm
      rcases h3 with rfl | rfl
      · exact Or.inr ⟨by decide, by decide⟩
      · exact Or.inr ⟨by decide, by decide⟩
section PSG
variable (K : Nat → Nat) (Vl : Nat → Int32) (Pl : Nat → Nat) (T : Nat)
def GA (X : Nat → List Int32 → Prop) (h nt n : Nat) : Prop := ∀ (i dep : Nat) (c : List Int32) (m : Nat) (s : Nat × List Int32), dep ≤ 6 → 10 * (T - i) + rkT nt < n → RB T m i c → ps K Vl Pl n nt i dep c = .ok s → ∃ d, s.2 = c ++ d ∧ X (2 * (6 - dep) + h) d
def GLo (X : Nat → List Int32 → Prop) (h nt n : Nat) : Prop := ∀ (i dep : Nat) (a d0 : List Int32) (m : Nat) (s : Nat × List Int32), dep ≤ 6 → 10 * (T - i) + rkT nt < n → RB T m i (a ++ d0) → X (2 * (6 - dep) + h) d0 → ps K Vl Pl n nt i dep (a ++ d0) = .ok s → ∃ d, s.2 = a ++ d ∧ X (2 * (6 - dep) + h) d
end PSG
section PSH
variable {K : Nat → Nat} {Vl : Nat → Int32} {Pl : Nat → Nat} {T : Nat}
theorem ga_seq (hT : K T = 24) {X : Nat → List Int32 → Prop} (hX : ∀ h d, X h d → X (h + 1) d) {n nt a l ha : Nat} (hr1 : rkT a + 1 ≤ rkT nt) (hr2 : rkT l + 1 ≤ rkT nt) (e : ∀ i dep c, ps K Vl Pl (n + 1) nt i dep c = (ps K Vl Pl n a i dep c).andThen (fun j c' => ps K Vl Pl n l j dep c')) (g1 : GA K Vl Pl T X ha a n) (g2 : GLo K Vl Pl T X (ha + 1) l n) : GA K Vl Pl T X (ha + 1) nt (n + 1) := by
  intro i dep c m s hd hn hB hs
  rw [e] at hs
  have pk := ps_ok (Vl := Vl) (Pl := Pl) hT n a i dep c m (by omega) hB
  cases hr : ps K Vl Pl n a i dep c with
  | error q => rw [hr] at hs; cases hs
  | ok q =>
    rw [hr] at hs pk
    rw [PR.at_ok] at hs
    have pk : RB T m q.1 q.2 ∧ i ≤ q.1 := pk
    obtain ⟨d, hq, hx⟩ := g1 i dep c m q hd (by omega) hB hr
    rw [hq] at hs pk
    exact g2 q.1 dep c d m s hd (by omega) pk.1 (hX _ _ hx) hs
theorem gl_loop (hT : K T = 24) {X : Nat → List Int32 → Prop} {n a l ha : Nat} (hr1 : rkT a ≤ 9) (p : Nat → Prop) [DecidablePred p] (hp : ∀ i, p i → K i ≠ 24) (v : Nat → Int32) (e : ∀ i dep c, ps K Vl Pl (n + 1) l i dep c = if p i then (ps K Vl Pl n a (i + 1) dep c).andThen (fun j c' => ps K Vl Pl n l j dep (c' ++ [v i])) else .ok (i, c)) (two : ∀ i h xs ys, p i → X (h + 1) xs → X h ys → X (h + 1) (xs ++ ys ++ [v i])) (hr2 : rkT l ≤ 9) (g1 : GA K Vl Pl T X ha a n) (g2 : GLo K Vl Pl T X (ha + 1) l n) : GLo K Vl Pl T X (ha + 1) l (n + 1) := by
  intro i dep b d0 m s hd hn hB hx0 hs
  rw [e] at hs
  by_cases hc : p i
  · rw [if_pos hc] at hs
    obtain ⟨b1, b2⟩ := hB.eat hT (k := K i) rfl (hp i hc)
    have hiT := lt_T hT hB.1 (k := K i) rfl (hp i hc)
    have pk := ps_ok (Vl := Vl) (Pl := Pl) hT n a (i + 1) dep (b ++ d0) (m - 1) (by omega) b1
    cases hr : ps K Vl Pl n a (i + 1) dep (b ++ d0) with
    | error q => rw [hr] at hs; cases hs
    | ok q =>
      rw [hr] at hs pk
      rw [PR.at_ok] at hs
      have pk : RB T (m - 1) q.1 q.2 ∧ i + 1 ≤ q.1 := pk
      obtain ⟨d, hq, hx⟩ := g1 (i + 1) dep (b ++ d0) (m - 1) q hd (by omega) b1 hr
      have pk2 := pk.1.say (v := v i) b2 hB.2.2
      rw [hq, List.append_assoc, List.append_assoc, ← List.append_assoc d0] at hs pk2
      exact g2 q.1 dep b (d0 ++ d ++ [v i]) m s hd (by omega) pk2 (two i _ _ _ hc hx0 hx) hs
  · rw [if_neg hc] at hs
    have hs : (i, b ++ d0) = s := by cases hs; rfl
    exact ⟨d0, by rw [← hs], hx0⟩
end PSH
