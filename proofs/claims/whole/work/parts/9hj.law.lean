theorem lawL_z (law : Nat) : lawL (fun _ => 0) law = none := by
  unfold lawL
  rw [if_pos rfl]
theorem asks_z (w : Nat) : asks (fun _ => 0) w = false := by
  unfold asks askd
  rw [lawL_z, lawL_z]
  simp
theorem LwE_z {V A : sV} {a law : Nat} (h1 : V a 1 = 0) (h2 : V a 2 = 0) : LwE V A a (lawL (fun _ => 0) law) := by
  rw [lawL_z]
  have w := LWD.nil (A := A) h1 h2
  exact ⟨w.1, w.2.1, fun q => (by cases q), w.2.2⟩
theorem av_z : AV (fun _ => 0) := (AlM.av (F := fun _ => 0) (c := []) (al := fun _ => 0) (al' := fun _ => 0) ⟨fun _ _ => rfl, fun k hk => absurd hk (Nat.not_lt_zero k), fun _ _ => rfl⟩ (by decide) IVF.zero).1
theorem lwi_0 (S : sS) (V : sV) (P : sP) (A : sV) (B : sB) (Q : sP) (A1 : sV) (fA : ∀ b, b ≠ 139 → A1 b = xA A b) (gA : ∀ i, A1 139 i = 0) : LI (xS S) (xV V) (xP P) A1 (xB B) (xQ Q) 161 xsl 87 0 0 := by
  have hz : A1 139 = fun _ => 0 := funext gA
  obtain ⟨v1, v2, v3, v4, v5, v6, v7, v8, v9, v10, v11, v12, v13, v14, v15, v16, v17, v18, v19, v20, v21, v22, v23, v24, v25, v26, v27⟩ := xV_l V
  obtain ⟨p1, p2, p3, p4, p5, p6, p7, p8⟩ := xP_m P
  obtain ⟨a1, a2, a3, a4, a5, a6, a7, a8, a9, a10, a11⟩ := xA_l A
  obtain ⟨q1, q2, q3, q4, q5, q6, q7, q8, q9, q10, q11, q12, q13⟩ := xQ_l Q
  obtain ⟨h0, h1, h2, h3, h4, h5, h6, h7, h8, h9⟩ := xQ_h Q
  rw [← fA 17 (by decide)] at a1
  rw [← fA 18 (by decide)] at a2
  rw [← fA 19 (by decide)] at a3
  rw [← fA 88 (by decide)] at a4
  rw [← fA 89 (by decide)] at a5
  rw [← fA 100 (by decide)] at a6
  rw [← fA 109 (by decide)] at a7
  rw [← fA 140 (by decide)] at a8
  rw [← fA 141 (by decide)] at a9
  rw [← fA 158 (by decide)] at a10
  rw [← fA 159 (by decide)] at a11
  have cs : ∀ q, q < 4 → A1 158 q = -1 := by
    intro q hq
    rw [a10]
    rcases (show q = 0 ∨ q = 1 ∨ q = 2 ∨ q = 3 by omega) with rfl | rfl | rfl | rfl <;> rfl
  have hC : CF (xS S) (xP P) := ⟨xS_l S, xP_l P⟩
  have q15 : ∀ j u, j < 4 → xQ Q 15 j = some u → j = 0 ∧ u = 87 := by
    intro j u hj hu
    rcases (show j = 0 ∨ j = 1 ∨ j = 2 ∨ j = 3 by omega) with rfl | rfl | rfl | rfl
    · rw [q1] at hu; exact ⟨rfl, (Option.some.inj hu).symm⟩
    · rw [q2] at hu; cases hu
    · rw [q3] at hu; cases hu
    · rw [q4] at hu; cases hu
  have hav := av_z
  have hE : ShE (xV V) A1 87 (fun _ => 0) := ⟨v20, v17, v18, v19, fun i _ => by rw [show 87 + 1 = 88 from rfl, a4], fun i _ => by rw [show 87 + 2 = 89 from rfl, a5], LwE_z v21 v22, LwE_z v23 v24⟩
  have hB : BarI (xS S) (xV V) (xP P) A1 (xB B) (xQ Q) 161 (fun _ => 0) 87 0 := by
    refine ⟨p2, by rw [asks_z]; exact v12, by rw [asks_z]; exact v13, by rw [asks_z]; exact v14, by rw [asks_z]; exact v15, v16, fun q hq => ⟨fun c hc => ?_, fun hn => absurd ?_ hn⟩, fun q q' c _ _ hc => ?_⟩
    · rw [q12] at hc; cases hc
    · rw [a6, fillF_i hq]
    · rw [q12] at hc; cases hc
  refine ⟨?_, xM_l S P, fun i _ => by rw [a9]; exact (by decide : (0 : Int) ≤ (0 : Int32).toInt ∧ (0 : Int32).toInt ≤ 255), fun i _ => by rw [a11]; exact (by decide : (0 : Int) ≤ (0 : Int32).toInt ∧ (0 : Int32).toInt ≤ 40), ⟨by omega, ?_⟩, by omega⟩
  · rw [hz]
    refine ⟨⟨⟨⟨hC, xH_l S P, ⟨Or.inl rfl, by omega, by omega⟩, hav.1, hE, hB⟩, ⟨105, 106, p3, p4, Or.inl ⟨rfl, rfl⟩⟩, ⟨114, 115, p5, p6, Or.inl ⟨rfl, rfl⟩⟩, ⟨112, 113, p7, p8, Or.inl ⟨rfl, rfl⟩⟩, fun i hi => by rw [a7, fillF_i hi]⟩, hav.2.1, ⟨v6, v7, fun p _ => by rw [show 16 + 1 = 17 from rfl, a1], fun p _ => by rw [show 16 + 2 = 18 from rfl, a2], fun p _ => by rw [show 16 + 3 = 19 from rfl, a3]⟩, Or.inl rfl⟩, hav, ⟨fun i hi => ?_, v4, 0, by omega, v5, fun j hj => ?_⟩, ⟨p1, ⟨0, by omega, q1⟩, fun j u hj hu => ?_, fun j j' u u' hj hj' hu hu' hne => ?_⟩, ⟨fun i hi => ?_, fun i hi => Or.inl ⟨by show A1 140 i = 0; rw [a8], by rw [q5]⟩⟩, ⟨fun k hk => ?_, fun k hk => Or.inl ⟨cs k hk, ?_⟩⟩, ⟨v1.trans v25.symm, v2.trans v26.symm, v3.trans v27.symm, ?_, fun i hi => ?_⟩, fun i hi => ?_⟩
    · rcases (show i = 0 ∨ i = 1 ∨ i = 2 ∨ i = 3 ∨ i = 4 ∨ i = 5 ∨ i = 6 ∨ i = 7 ∨ i = 8 ∨ i = 9 by omega) with rfl | rfl | rfl | rfl | rfl | rfl | rfl | rfl | rfl | rfl
      · exact h0
      · exact h1
      · exact h2
      · exact h3
      · exact h4
      · exact h5
      · exact h6
      · exact h7
      · exact h8
      · exact h9
    · have hj : (j : Int) < 0 := hj
      omega
    · obtain ⟨_, rfl⟩ := q15 j u hj hu
      exact ⟨xH_l S P, Or.inl rfl, by omega⟩
    · have x1 := q15 j u hj hu
      have x2 := q15 j' u' hj' hu'
      exact absurd (x1.1.trans x2.1.symm) hne
    · rcases (show i = 0 ∨ i = 1 by omega) with rfl | rfl
      · exact q6
      · exact q7
    · rcases (show k = 0 ∨ k = 1 ∨ k = 2 ∨ k = 3 by omega) with rfl | rfl | rfl | rfl
      · exact q8
      · exact q9
      · exact q10
      · exact q11
    · rcases (show k = 0 ∨ k = 1 ∨ k = 2 ∨ k = 3 by omega) with rfl | rfl | rfl | rfl
      · exact v8
      · exact v9
      · exact v10
      · exact v11
    · show 0 ≤ (xV V 138 5).toInt ∧ (xV V 138 5).toInt ≤ 900
      rw [v25]
      decide
    · have hi : (i : Int) < (xV V 138 5).toInt := hi
      rw [v25] at hi
      have e : (0 : Int32).toInt = 0 := rfl
      omega
    · rw [q13]
      show (if i < 16 then some (117 + 1 + i) else none) = some (118 + i)
      rw [if_pos hi]
  · show xsl ≤ _
    exact Nat.le_trans (show xsl ≤ 60000 from by decide) (by omega)
set_option maxRecDepth 100000 in
theorem law_start {G : gT} (hn : G.2.2.2.1.2.1 ≤ 3072) {D : Nat} (hD : 150 ≤ D) (S : sS) (V : sV) (P : sP) (A : sV) (B : sB) (Q : sP) : WQ G (D + 7) mL_law 0 [some (.ref 0), none, none, none] [] (8, 0, gh S V P A B Q) LZ := by
  refine WQ.st (fun _ _ kz => pw_nao (t := 8) nL_7 (by decide) (by decide +kernel) dL_law_0 kz) ?_
  refine WQ.st (fun _ _ kz => pw_dup dL_law_3 rfl kz) ?_
  refine wq_n0 wX11_init lL_9 dL_law_4 (k_jDesk (d := D) rfl) rfl (Nat.le_of_ble_eq_true rfl) (Nat.le_of_ble_eq_true rfl) (fun h4 z4 => ?_)
  subst z4
  refine WQ.st (fun _ _ kz => pw_astore1 dL_law_7 (by decide) (k := kz)) ?_
  refine WQ.st (fun _ _ kz => pw_nao (t := 138) nL_10 (by decide) (by decide +kernel) dL_law_8 kz) ?_
  refine WQ.st (fun _ _ kz => pw_dup dL_law_11 rfl kz) ?_
  refine wq_n0 wX12_init lL_12 dL_law_12 (k_jModel (d := D + 4) rfl) rfl (Nat.le_of_ble_eq_true rfl) (Nat.le_of_ble_eq_true rfl) (fun h12 z12 => ?_)
  obtain ⟨A1, rfl, fA, gA⟩ := z12
  refine WQ.st (fun _ _ kz => pw_astore2 dL_law_15 (by decide) (k := kz)) ?_
  refine WQ.st (fun _ _ kz => pw_iconst (v := 0) dL_law_16 (by decide) kz) ?_
  refine WQ.st (fun _ _ kz => pw_istore3 dL_law_17 (by decide) (k := kz)) ?_
  exact law_loop hn (by omega) (G.2.2.2.1.2.1 + 6) 0 0 161 xsl 87 0 (xS S) (xV V) (xP P) A1 (xB B) (xQ Q) (by omega) ⟨by omega, by omega⟩ (lwi_0 S V P A B Q A1 fA gA)
