section PSI
variable {K : Nat → Nat} {Vl : Nat → Int32} {Pl : Nat → Nat} {T : Nat}
theorem wd_b {k : Nat} (h : wdI k ≠ -1) : 0 ≤ (1000 + wdI k).toInt ∧ (1000 + wdI k).toInt < 1008 := by
  unfold wdI at h ⊢
  by_cases c1 : 12 ≤ k ∧ k ≤ 16
  · rw [if_pos c1]
    rcases (show k = 12 ∨ k = 13 ∨ k = 14 ∨ k = 15 ∨ k = 16 by omega) with rfl | rfl | rfl | rfl | rfl <;> decide
  · rw [if_neg c1] at h ⊢
    by_cases c2 : k = 11
    · rw [if_pos c2]; decide
    · rw [if_neg c2] at h ⊢
      by_cases c3 : k = 7
      · rw [if_pos c3]; decide
      · rw [if_neg c3] at h ⊢
        by_cases c4 : k = 1
        · rw [if_pos c4]; decide
        · rw [if_neg c4] at h; exact absurd rfl h
theorem ga_0 (hT : K T = 24) (hV : ∀ i, K i = 23 → 0 ≤ (Vl i).toInt ∧ (Vl i).toInt ≤ 999) {n : Nat} (g2 : GA K Vl Pl T GS 3 2 n) : GA K Vl Pl T GS 1 0 (n + 1) := by
  intro i dep c m s hd hn hB hs
  rw [ps_0] at hs
  by_cases c1 : K i = 23
  · rw [if_pos c1] at hs
    cases hs
    exact ⟨[Vl i], rfl, GS.one (by omega) (hV i c1).1 (by have := (hV i c1).2; omega)⟩
  · rw [if_neg c1] at hs
    by_cases c2 : wdI (K i) ≠ -1
    · rw [if_pos c2] at hs
      cases hs
      exact ⟨[1000 + wdI (K i)], rfl, GS.one (by omega) (wd_b c2).1 (wd_b c2).2⟩
    · rw [if_neg c2] at hs
      by_cases c3 : K i = 35
      · rw [if_pos c3] at hs
        by_cases c4 : dep = 6
        · rw [if_pos c4] at hs; cases hs
        · rw [if_neg c4] at hs
          obtain ⟨b1, b2⟩ := hB.eat hT c3 (by omega)
          have hiT := lt_T hT hB.1 c3 (by omega)
          cases hr : ps K Vl Pl n 2 (i + 1) (dep + 1) c with
          | error q => rw [hr] at hs; cases hs
          | ok q =>
            rw [hr, PR.at_ok] at hs
            have r2 : rkT 2 = 4 := rfl
            obtain ⟨d, hq, hx⟩ := g2 (i + 1) (dep + 1) c (m - 1) q (by omega) (by omega) b1 hr
            rw [show 2 * (6 - (dep + 1)) + 3 = 2 * (6 - dep) + 1 by omega] at hx
            by_cases c5 : K q.1 = 36
            · rw [if_pos c5] at hs
              cases hs
              exact ⟨d, hq, hx⟩
            · rw [if_neg c5] at hs; cases hs
      · rw [if_neg c3] at hs; cases hs
theorem ga_3 (hT : K T = 24) {n : Nat} (g2 : GA K Vl Pl T GS 3 2 n) (g3 : GA K Vl Pl T TS 16 3 n) (g5 : GA K Vl Pl T TS 18 5 n) : GA K Vl Pl T TS 16 3 (n + 1) := by
  intro i dep c m s hd hn hB hs
  have r2 : rkT 2 = 4 := rfl
  have r3 : rkT 3 = 5 := rfl
  have r5 : rkT 5 = 9 := rfl
  rw [ps_3] at hs
  by_cases c1 : K i = 19
  · rw [if_pos c1] at hs
    by_cases c4 : dep = 6
    · rw [if_pos c4] at hs; cases hs
    · rw [if_neg c4] at hs
      obtain ⟨b1, b2⟩ := hB.eat hT c1 (by omega)
      have hiT := lt_T hT hB.1 c1 (by omega)
      cases hr : ps K Vl Pl n 3 (i + 1) (dep + 1) c with
      | error q => rw [hr] at hs; cases hs
      | ok q =>
        rw [hr, PR.at_ok] at hs
        obtain ⟨d, hq, hx⟩ := g3 (i + 1) (dep + 1) c (m - 1) q (by omega) (by omega) b1 hr
        cases hs
        exact ⟨d ++ [3006], by show q.2 ++ [3006] = _; rw [hq, List.append_assoc], TS.neg (hx.le (by omega))⟩
  · rw [if_neg c1] at hs
    by_cases c2 : K i = 37
    · rw [if_pos c2] at hs
      by_cases c4 : dep = 6
      · rw [if_pos c4] at hs; cases hs
      · rw [if_neg c4] at hs
        obtain ⟨b1, b2⟩ := hB.eat hT c2 (by omega)
        have hiT := lt_T hT hB.1 c2 (by omega)
        cases hr : ps K Vl Pl n 5 (i + 1) (dep + 1) c with
        | error q => rw [hr] at hs; cases hs
        | ok q =>
          rw [hr, PR.at_ok] at hs
          obtain ⟨d, hq, hx⟩ := g5 (i + 1) (dep + 1) c (m - 1) q (by omega) (by omega) b1 hr
          by_cases c5 : K q.1 = 38
          · rw [if_pos c5] at hs
            cases hs
            exact ⟨d, hq, hx.le (by omega)⟩
          · rw [if_neg c5] at hs; cases hs
    · rw [if_neg c2] at hs
      have pk := ps_ok (Vl := Vl) (Pl := Pl) hT n 2 i dep c m (by omega) hB
      cases hr : ps K Vl Pl n 2 i dep c with
      | error q => rw [hr] at hs; cases hs
      | ok q =>
        rw [hr, PR.at_ok] at hs
        rw [hr] at pk
        have pk : RB T m q.1 q.2 ∧ i ≤ q.1 := pk
        obtain ⟨d, hq, hx⟩ := g2 i dep c m q hd (by omega) hB hr
        by_cases c5 : K q.1 = 39 ∨ K q.1 = 40 ∨ K q.1 = 41
        · rw [if_pos c5] at hs
          obtain ⟨b3, b4⟩ := pk.1.eat hT (k := K q.1) rfl (by omega)
          have hjT := lt_T hT pk.1.1 (k := K q.1) rfl (by omega)
          cases hr2 : ps K Vl Pl n 2 (q.1 + 1) dep q.2 with
          | error q2 => rw [hr2] at hs; cases hs
          | ok q2 =>
            rw [hr2, PR.at_ok] at hs
            obtain ⟨d2, hq2, hx2⟩ := g2 (q.1 + 1) dep q.2 (m - 1) q2 hd (by omega) b3 hr2
            cases hs
            refine ⟨d ++ d2 ++ [if K q.1 = 39 then 3003 else if K q.1 = 40 then 3004 else 3005], by show q2.2 ++ _ = _; rw [hq2, hq, List.append_assoc, List.append_assoc, List.append_assoc], ?_⟩
            have hb : 3003 ≤ (if K q.1 = 39 then (3003 : Int32) else if K q.1 = 40 then 3004 else 3005).toInt ∧ (if K q.1 = 39 then (3003 : Int32) else if K q.1 = 40 then 3004 else 3005).toInt ≤ 3005 := by
              split
              · decide
              · split <;> decide
            exact (TS.cmp (h := 2 * (6 - dep) + 3) hx.up hx2 hb.1 hb.2).le (by omega)
        · rw [if_neg c5] at hs; cases hs
theorem ps_gs (hT : K T = 24) (hV : ∀ i, K i = 23 → 0 ≤ (Vl i).toInt ∧ (Vl i).toInt ≤ 999) : ∀ n, GA K Vl Pl T GS 1 0 n ∧ GA K Vl Pl T GS 2 1 n ∧ GLo K Vl Pl T GS 2 11 n ∧ GA K Vl Pl T GS 3 2 n ∧ GLo K Vl Pl T GS 3 12 n ∧ GA K Vl Pl T TS 16 3 n ∧ GA K Vl Pl T TS 17 4 n ∧ GLo K Vl Pl T TS 17 14 n ∧ GA K Vl Pl T TS 18 5 n ∧ GLo K Vl Pl T TS 18 15 n := by
  intro n
  induction n with
  | zero => exact ⟨fun i dep c m s _ hn _ _ => by omega, fun i dep c m s _ hn _ _ => by omega, fun i dep a d0 m s _ hn _ _ _ => by omega, fun i dep c m s _ hn _ _ => by omega, fun i dep a d0 m s _ hn _ _ _ => by omega, fun i dep c m s _ hn _ _ => by omega, fun i dep c m s _ hn _ _ => by omega, fun i dep a d0 m s _ hn _ _ _ => by omega, fun i dep c m s _ hn _ _ => by omega, fun i dep a d0 m s _ hn _ _ _ => by omega⟩
  | succ n ih =>
    obtain ⟨h0, h1, h11, h2, h12, h3, h4, h14, h5, h15⟩ := ih
    refine ⟨ga_0 hT hV h2, ga_seq hT (fun _ _ h => GS.up h) (by decide) (by decide) (ps_1 K Vl Pl n) h0 h11, gl_loop hT (by decide) (fun i => K i = 34) (fun i h => by omega) (fun _ => 3002) (ps_11 K Vl Pl n) (fun _ _ _ _ _ hx hy => GS.two hx hy (by decide) (by decide)) (by decide) h0 h11, ga_seq hT (fun _ _ h => GS.up h) (by decide) (by decide) (ps_2 K Vl Pl n) h1 h12, gl_loop hT (by decide) (fun i => K i = 32 ∨ K i = 33) (fun i h => by omega) (fun i => if K i = 32 then 3000 else 3001) (ps_12 K Vl Pl n) (fun i _ _ _ _ hx hy => GS.two hx hy (by split <;> decide) (by split <;> decide)) (by decide) h1 h12, ga_3 hT h2 h3 h5, ga_seq hT (fun _ _ h => TS.up h) (by decide) (by decide) (ps_4 K Vl Pl n) h3 h14, gl_loop hT (by decide) (fun i => K i = 17) (fun i h => by omega) (fun _ => 3007) (ps_14 K Vl Pl n) (fun _ _ _ _ _ hx hy => TS.two hx hy (Or.inl rfl)) (by decide) h3 h14, ga_seq hT (fun _ _ h => TS.up h) (by decide) (by decide) (ps_5 K Vl Pl n) h4 h15, gl_loop hT (by decide) (fun i => K i = 18) (fun i h => by omega) (fun _ => 3008) (ps_15 K Vl Pl n) (fun _ _ _ _ _ hx hy => TS.two hx hy (Or.inr rfl)) (by decide) h4 h15⟩
end PSI
