/-! ===== the class: calls over WQ, its cells, texts and arrays of the JDK ===== -/
section WQC
variable {G : gT} {d : Nat} {M M' : mT} {pc idx : Nat} {ls : List (Option Value)} {rest : List Value} {h : Ph} {X : Value} {Zc : Ph → Prop} {Z : Option Value → Ph → Prop} {ls0 : List (Option Value)} {t sl : Nat} {S : sS} {V : sV} {P : sP} {A : sV} {B : sB} {Q : sP} {a ci q : Nat} {T0 : u_T} {N0 : Nat}
theorem wq_o0v  (hm : pm_MW M' 0) (hv : pm_LV M.1.cls idx M') (h0 : vwCl[ci]? = some (M'.1.cls, T0, N0)) (hd : decode M.2.1 pc = .ok (.invokevirtual idx, 3)) (hs : S a = (ci, q)) (kc : WQ G d M' 0 ls0 [] (t, sl, gh S V P A B Q) (fun r h1 => r = none ∧ Zc h1)) (hls : pm_en M' [.ref a] = ls0) (hen : (pm_al [.ref a]).length ≤ M'.2.2.1) (hrest : (rest.map fun v => v.category).sum ≤ 8) (k : ∀ h1, Zc h1 → WQ G (d + 1) M (pc + 3) ls (rest) h1 Z) : WQ G (d + 1) M pc ls (.ref a :: rest) (t, sl, gh S V P A B Q) Z := by
  obtain ⟨r1, h1, p1, rfl, z1⟩ := kc
  exact WQ.st (fun _ _ kz => pw_o0v hm hv h0 hd hs p1 hls hen hrest kz) (k h1 z1)
theorem wq_s0v  (hm : pm_MW M' 0) (hv : pm_LS M.1.cls idx M') (hd : decode M.2.1 pc = .ok (.invokestatic idx, 3)) (kc : WQ G d M' 0 ls0 [] h (fun r h1 => r = none ∧ Zc h1)) (hls : pm_en M' [] = ls0) (hen : (pm_al []).length ≤ M'.2.2.1) (hrest : (rest.map fun v => v.category).sum ≤ 8) (k : ∀ h1, Zc h1 → WQ G (d + 1) M (pc + 3) ls (rest) h1 Z) : WQ G (d + 1) M pc ls (rest) h Z := by
  obtain ⟨r1, h1, p1, rfl, z1⟩ := kc
  exact WQ.st (fun _ _ kz => pw_s0v hm hv hd p1 hls hen hrest kz) (k h1 z1)
theorem wq_o0i  (hm : pm_MW M' 0) (hv : pm_LV M.1.cls idx M') (h0 : vwCl[ci]? = some (M'.1.cls, T0, N0)) (hd : decode M.2.1 pc = .ok (.invokevirtual idx, 3)) (hs : S a = (ci, q)) (kc : WQ G d M' 0 ls0 [] (t, sl, gh S V P A B Q) (fun r h1 => r = some X ∧ Zc h1)) (hls : pm_en M' [.ref a] = ls0) (hen : (pm_al [.ref a]).length ≤ M'.2.2.1) (hrest : (rest.map fun v => v.category).sum ≤ 8) (k : ∀ h1, Zc h1 → WQ G (d + 1) M (pc + 3) ls (X :: rest) h1 Z) : WQ G (d + 1) M pc ls (.ref a :: rest) (t, sl, gh S V P A B Q) Z := by
  obtain ⟨r1, h1, p1, rfl, z1⟩ := kc
  exact WQ.st (fun _ _ kz => pw_o0i hm hv h0 hd hs p1 hls hen hrest kz) (k h1 z1)
theorem wq_s0i  (hm : pm_MW M' 0) (hv : pm_LS M.1.cls idx M') (hd : decode M.2.1 pc = .ok (.invokestatic idx, 3)) (kc : WQ G d M' 0 ls0 [] h (fun r h1 => r = some X ∧ Zc h1)) (hls : pm_en M' [] = ls0) (hen : (pm_al []).length ≤ M'.2.2.1) (hrest : (rest.map fun v => v.category).sum ≤ 8) (k : ∀ h1, Zc h1 → WQ G (d + 1) M (pc + 3) ls (X :: rest) h1 Z) : WQ G (d + 1) M pc ls (rest) h Z := by
  obtain ⟨r1, h1, p1, rfl, z1⟩ := kc
  exact WQ.st (fun _ _ kz => pw_s0i hm hv hd p1 hls hen hrest kz) (k h1 z1)
theorem wq_n0  (hm : pm_MW M' 0) (hv : pm_LI M.1.cls idx M') (hd : decode M.2.1 pc = .ok (.invokespecial idx, 3)) (kc : WQ G d M' 0 ls0 [] h (fun r h1 => r = none ∧ Zc h1)) (hls : pm_en M' [.ref a] = ls0) (hen : (pm_al [.ref a]).length ≤ M'.2.2.1) (hrest : (rest.map fun v => v.category).sum ≤ 8) (k : ∀ h1, Zc h1 → WQ G (d + 1) M (pc + 3) ls rest h1 Z) : WQ G (d + 1) M pc ls (.ref a :: rest) h Z := by
  obtain ⟨r1, h1, p1, rfl, z1⟩ := kc
  exact WQ.st (fun _ _ kz => pw_n0 hm hv hd p1 hls hen hrest kz) (k h1 z1)
theorem wq_o1v {x0 : Value} (hm : pm_MW M' 1) (hv : pm_LV M.1.cls idx M') (h0 : vwCl[ci]? = some (M'.1.cls, T0, N0)) (hd : decode M.2.1 pc = .ok (.invokevirtual idx, 3)) (hs : S a = (ci, q)) (kc : WQ G d M' 0 ls0 [] (t, sl, gh S V P A B Q) (fun r h1 => r = none ∧ Zc h1)) (hls : pm_en M' [.ref a, x0] = ls0) (hen : (pm_al [.ref a, x0]).length ≤ M'.2.2.1) (hrest : (rest.map fun v => v.category).sum ≤ 8) (k : ∀ h1, Zc h1 → WQ G (d + 1) M (pc + 3) ls (rest) h1 Z) : WQ G (d + 1) M pc ls (x0 :: .ref a :: rest) (t, sl, gh S V P A B Q) Z := by
  obtain ⟨r1, h1, p1, rfl, z1⟩ := kc
  exact WQ.st (fun _ _ kz => pw_o1v hm hv h0 hd hs p1 hls hen hrest kz) (k h1 z1)
theorem wq_s1v {x0 : Value} (hm : pm_MW M' 1) (hv : pm_LS M.1.cls idx M') (hd : decode M.2.1 pc = .ok (.invokestatic idx, 3)) (kc : WQ G d M' 0 ls0 [] h (fun r h1 => r = none ∧ Zc h1)) (hls : pm_en M' [x0] = ls0) (hen : (pm_al [x0]).length ≤ M'.2.2.1) (hrest : (rest.map fun v => v.category).sum ≤ 8) (k : ∀ h1, Zc h1 → WQ G (d + 1) M (pc + 3) ls (rest) h1 Z) : WQ G (d + 1) M pc ls (x0 :: rest) h Z := by
  obtain ⟨r1, h1, p1, rfl, z1⟩ := kc
  exact WQ.st (fun _ _ kz => pw_s1v hm hv hd p1 hls hen hrest kz) (k h1 z1)
theorem wq_o1i {x0 : Value} (hm : pm_MW M' 1) (hv : pm_LV M.1.cls idx M') (h0 : vwCl[ci]? = some (M'.1.cls, T0, N0)) (hd : decode M.2.1 pc = .ok (.invokevirtual idx, 3)) (hs : S a = (ci, q)) (kc : WQ G d M' 0 ls0 [] (t, sl, gh S V P A B Q) (fun r h1 => r = some X ∧ Zc h1)) (hls : pm_en M' [.ref a, x0] = ls0) (hen : (pm_al [.ref a, x0]).length ≤ M'.2.2.1) (hrest : (rest.map fun v => v.category).sum ≤ 8) (k : ∀ h1, Zc h1 → WQ G (d + 1) M (pc + 3) ls (X :: rest) h1 Z) : WQ G (d + 1) M pc ls (x0 :: .ref a :: rest) (t, sl, gh S V P A B Q) Z := by
  obtain ⟨r1, h1, p1, rfl, z1⟩ := kc
  exact WQ.st (fun _ _ kz => pw_o1i hm hv h0 hd hs p1 hls hen hrest kz) (k h1 z1)
theorem wq_s1i {x0 : Value} (hm : pm_MW M' 1) (hv : pm_LS M.1.cls idx M') (hd : decode M.2.1 pc = .ok (.invokestatic idx, 3)) (kc : WQ G d M' 0 ls0 [] h (fun r h1 => r = some X ∧ Zc h1)) (hls : pm_en M' [x0] = ls0) (hen : (pm_al [x0]).length ≤ M'.2.2.1) (hrest : (rest.map fun v => v.category).sum ≤ 8) (k : ∀ h1, Zc h1 → WQ G (d + 1) M (pc + 3) ls (X :: rest) h1 Z) : WQ G (d + 1) M pc ls (x0 :: rest) h Z := by
  obtain ⟨r1, h1, p1, rfl, z1⟩ := kc
  exact WQ.st (fun _ _ kz => pw_s1i hm hv hd p1 hls hen hrest kz) (k h1 z1)
theorem wq_n1 {x0 : Value} (hm : pm_MW M' 1) (hv : pm_LI M.1.cls idx M') (hd : decode M.2.1 pc = .ok (.invokespecial idx, 3)) (kc : WQ G d M' 0 ls0 [] h (fun r h1 => r = none ∧ Zc h1)) (hls : pm_en M' [.ref a, x0] = ls0) (hen : (pm_al [.ref a, x0]).length ≤ M'.2.2.1) (hrest : (rest.map fun v => v.category).sum ≤ 8) (k : ∀ h1, Zc h1 → WQ G (d + 1) M (pc + 3) ls rest h1 Z) : WQ G (d + 1) M pc ls (x0 :: .ref a :: rest) h Z := by
  obtain ⟨r1, h1, p1, rfl, z1⟩ := kc
  exact WQ.st (fun _ _ kz => pw_n1 hm hv hd p1 hls hen hrest kz) (k h1 z1)
theorem wq_o2v {x0 x1 : Value} (hm : pm_MW M' 2) (hv : pm_LV M.1.cls idx M') (h0 : vwCl[ci]? = some (M'.1.cls, T0, N0)) (hd : decode M.2.1 pc = .ok (.invokevirtual idx, 3)) (hs : S a = (ci, q)) (kc : WQ G d M' 0 ls0 [] (t, sl, gh S V P A B Q) (fun r h1 => r = none ∧ Zc h1)) (hls : pm_en M' [.ref a, x0, x1] = ls0) (hen : (pm_al [.ref a, x0, x1]).length ≤ M'.2.2.1) (hrest : (rest.map fun v => v.category).sum ≤ 8) (k : ∀ h1, Zc h1 → WQ G (d + 1) M (pc + 3) ls (rest) h1 Z) : WQ G (d + 1) M pc ls (x1 :: x0 :: .ref a :: rest) (t, sl, gh S V P A B Q) Z := by
  obtain ⟨r1, h1, p1, rfl, z1⟩ := kc
  exact WQ.st (fun _ _ kz => pw_o2v hm hv h0 hd hs p1 hls hen hrest kz) (k h1 z1)
theorem wq_s2v {x0 x1 : Value} (hm : pm_MW M' 2) (hv : pm_LS M.1.cls idx M') (hd : decode M.2.1 pc = .ok (.invokestatic idx, 3)) (kc : WQ G d M' 0 ls0 [] h (fun r h1 => r = none ∧ Zc h1)) (hls : pm_en M' [x0, x1] = ls0) (hen : (pm_al [x0, x1]).length ≤ M'.2.2.1) (hrest : (rest.map fun v => v.category).sum ≤ 8) (k : ∀ h1, Zc h1 → WQ G (d + 1) M (pc + 3) ls (rest) h1 Z) : WQ G (d + 1) M pc ls (x1 :: x0 :: rest) h Z := by
  obtain ⟨r1, h1, p1, rfl, z1⟩ := kc
  exact WQ.st (fun _ _ kz => pw_s2v hm hv hd p1 hls hen hrest kz) (k h1 z1)
theorem wq_o2i {x0 x1 : Value} (hm : pm_MW M' 2) (hv : pm_LV M.1.cls idx M') (h0 : vwCl[ci]? = some (M'.1.cls, T0, N0)) (hd : decode M.2.1 pc = .ok (.invokevirtual idx, 3)) (hs : S a = (ci, q)) (kc : WQ G d M' 0 ls0 [] (t, sl, gh S V P A B Q) (fun r h1 => r = some X ∧ Zc h1)) (hls : pm_en M' [.ref a, x0, x1] = ls0) (hen : (pm_al [.ref a, x0, x1]).length ≤ M'.2.2.1) (hrest : (rest.map fun v => v.category).sum ≤ 8) (k : ∀ h1, Zc h1 → WQ G (d + 1) M (pc + 3) ls (X :: rest) h1 Z) : WQ G (d + 1) M pc ls (x1 :: x0 :: .ref a :: rest) (t, sl, gh S V P A B Q) Z := by
  obtain ⟨r1, h1, p1, rfl, z1⟩ := kc
  exact WQ.st (fun _ _ kz => pw_o2i hm hv h0 hd hs p1 hls hen hrest kz) (k h1 z1)
theorem wq_s2i {x0 x1 : Value} (hm : pm_MW M' 2) (hv : pm_LS M.1.cls idx M') (hd : decode M.2.1 pc = .ok (.invokestatic idx, 3)) (kc : WQ G d M' 0 ls0 [] h (fun r h1 => r = some X ∧ Zc h1)) (hls : pm_en M' [x0, x1] = ls0) (hen : (pm_al [x0, x1]).length ≤ M'.2.2.1) (hrest : (rest.map fun v => v.category).sum ≤ 8) (k : ∀ h1, Zc h1 → WQ G (d + 1) M (pc + 3) ls (X :: rest) h1 Z) : WQ G (d + 1) M pc ls (x1 :: x0 :: rest) h Z := by
  obtain ⟨r1, h1, p1, rfl, z1⟩ := kc
  exact WQ.st (fun _ _ kz => pw_s2i hm hv hd p1 hls hen hrest kz) (k h1 z1)
theorem wq_n2 {x0 x1 : Value} (hm : pm_MW M' 2) (hv : pm_LI M.1.cls idx M') (hd : decode M.2.1 pc = .ok (.invokespecial idx, 3)) (kc : WQ G d M' 0 ls0 [] h (fun r h1 => r = none ∧ Zc h1)) (hls : pm_en M' [.ref a, x0, x1] = ls0) (hen : (pm_al [.ref a, x0, x1]).length ≤ M'.2.2.1) (hrest : (rest.map fun v => v.category).sum ≤ 8) (k : ∀ h1, Zc h1 → WQ G (d + 1) M (pc + 3) ls rest h1 Z) : WQ G (d + 1) M pc ls (x1 :: x0 :: .ref a :: rest) h Z := by
  obtain ⟨r1, h1, p1, rfl, z1⟩ := kc
  exact WQ.st (fun _ _ kz => pw_n2 hm hv hd p1 hls hen hrest kz) (k h1 z1)
theorem wq_o3v {x0 x1 x2 : Value} (hm : pm_MW M' 3) (hv : pm_LV M.1.cls idx M') (h0 : vwCl[ci]? = some (M'.1.cls, T0, N0)) (hd : decode M.2.1 pc = .ok (.invokevirtual idx, 3)) (hs : S a = (ci, q)) (kc : WQ G d M' 0 ls0 [] (t, sl, gh S V P A B Q) (fun r h1 => r = none ∧ Zc h1)) (hls : pm_en M' [.ref a, x0, x1, x2] = ls0) (hen : (pm_al [.ref a, x0, x1, x2]).length ≤ M'.2.2.1) (hrest : (rest.map fun v => v.category).sum ≤ 8) (k : ∀ h1, Zc h1 → WQ G (d + 1) M (pc + 3) ls (rest) h1 Z) : WQ G (d + 1) M pc ls (x2 :: x1 :: x0 :: .ref a :: rest) (t, sl, gh S V P A B Q) Z := by
  obtain ⟨r1, h1, p1, rfl, z1⟩ := kc
  exact WQ.st (fun _ _ kz => pw_o3v hm hv h0 hd hs p1 hls hen hrest kz) (k h1 z1)
theorem wq_s3v {x0 x1 x2 : Value} (hm : pm_MW M' 3) (hv : pm_LS M.1.cls idx M') (hd : decode M.2.1 pc = .ok (.invokestatic idx, 3)) (kc : WQ G d M' 0 ls0 [] h (fun r h1 => r = none ∧ Zc h1)) (hls : pm_en M' [x0, x1, x2] = ls0) (hen : (pm_al [x0, x1, x2]).length ≤ M'.2.2.1) (hrest : (rest.map fun v => v.category).sum ≤ 8) (k : ∀ h1, Zc h1 → WQ G (d + 1) M (pc + 3) ls (rest) h1 Z) : WQ G (d + 1) M pc ls (x2 :: x1 :: x0 :: rest) h Z := by
  obtain ⟨r1, h1, p1, rfl, z1⟩ := kc
  exact WQ.st (fun _ _ kz => pw_s3v hm hv hd p1 hls hen hrest kz) (k h1 z1)
theorem wq_o3i {x0 x1 x2 : Value} (hm : pm_MW M' 3) (hv : pm_LV M.1.cls idx M') (h0 : vwCl[ci]? = some (M'.1.cls, T0, N0)) (hd : decode M.2.1 pc = .ok (.invokevirtual idx, 3)) (hs : S a = (ci, q)) (kc : WQ G d M' 0 ls0 [] (t, sl, gh S V P A B Q) (fun r h1 => r = some X ∧ Zc h1)) (hls : pm_en M' [.ref a, x0, x1, x2] = ls0) (hen : (pm_al [.ref a, x0, x1, x2]).length ≤ M'.2.2.1) (hrest : (rest.map fun v => v.category).sum ≤ 8) (k : ∀ h1, Zc h1 → WQ G (d + 1) M (pc + 3) ls (X :: rest) h1 Z) : WQ G (d + 1) M pc ls (x2 :: x1 :: x0 :: .ref a :: rest) (t, sl, gh S V P A B Q) Z := by
  obtain ⟨r1, h1, p1, rfl, z1⟩ := kc
  exact WQ.st (fun _ _ kz => pw_o3i hm hv h0 hd hs p1 hls hen hrest kz) (k h1 z1)
theorem wq_s3i {x0 x1 x2 : Value} (hm : pm_MW M' 3) (hv : pm_LS M.1.cls idx M') (hd : decode M.2.1 pc = .ok (.invokestatic idx, 3)) (kc : WQ G d M' 0 ls0 [] h (fun r h1 => r = some X ∧ Zc h1)) (hls : pm_en M' [x0, x1, x2] = ls0) (hen : (pm_al [x0, x1, x2]).length ≤ M'.2.2.1) (hrest : (rest.map fun v => v.category).sum ≤ 8) (k : ∀ h1, Zc h1 → WQ G (d + 1) M (pc + 3) ls (X :: rest) h1 Z) : WQ G (d + 1) M pc ls (x2 :: x1 :: x0 :: rest) h Z := by
  obtain ⟨r1, h1, p1, rfl, z1⟩ := kc
  exact WQ.st (fun _ _ kz => pw_s3i hm hv hd p1 hls hen hrest kz) (k h1 z1)
theorem wq_n3 {x0 x1 x2 : Value} (hm : pm_MW M' 3) (hv : pm_LI M.1.cls idx M') (hd : decode M.2.1 pc = .ok (.invokespecial idx, 3)) (kc : WQ G d M' 0 ls0 [] h (fun r h1 => r = none ∧ Zc h1)) (hls : pm_en M' [.ref a, x0, x1, x2] = ls0) (hen : (pm_al [.ref a, x0, x1, x2]).length ≤ M'.2.2.1) (hrest : (rest.map fun v => v.category).sum ≤ 8) (k : ∀ h1, Zc h1 → WQ G (d + 1) M (pc + 3) ls rest h1 Z) : WQ G (d + 1) M pc ls (x2 :: x1 :: x0 :: .ref a :: rest) h Z := by
  obtain ⟨r1, h1, p1, rfl, z1⟩ := kc
  exact WQ.st (fun _ _ kz => pw_n3 hm hv hd p1 hls hen hrest kz) (k h1 z1)
theorem wq_o4v {x0 x1 x2 x3 : Value} (hm : pm_MW M' 4) (hv : pm_LV M.1.cls idx M') (h0 : vwCl[ci]? = some (M'.1.cls, T0, N0)) (hd : decode M.2.1 pc = .ok (.invokevirtual idx, 3)) (hs : S a = (ci, q)) (kc : WQ G d M' 0 ls0 [] (t, sl, gh S V P A B Q) (fun r h1 => r = none ∧ Zc h1)) (hls : pm_en M' [.ref a, x0, x1, x2, x3] = ls0) (hen : (pm_al [.ref a, x0, x1, x2, x3]).length ≤ M'.2.2.1) (hrest : (rest.map fun v => v.category).sum ≤ 8) (k : ∀ h1, Zc h1 → WQ G (d + 1) M (pc + 3) ls (rest) h1 Z) : WQ G (d + 1) M pc ls (x3 :: x2 :: x1 :: x0 :: .ref a :: rest) (t, sl, gh S V P A B Q) Z := by
  obtain ⟨r1, h1, p1, rfl, z1⟩ := kc
  exact WQ.st (fun _ _ kz => pw_o4v hm hv h0 hd hs p1 hls hen hrest kz) (k h1 z1)
theorem wq_s4v {x0 x1 x2 x3 : Value} (hm : pm_MW M' 4) (hv : pm_LS M.1.cls idx M') (hd : decode M.2.1 pc = .ok (.invokestatic idx, 3)) (kc : WQ G d M' 0 ls0 [] h (fun r h1 => r = none ∧ Zc h1)) (hls : pm_en M' [x0, x1, x2, x3] = ls0) (hen : (pm_al [x0, x1, x2, x3]).length ≤ M'.2.2.1) (hrest : (rest.map fun v => v.category).sum ≤ 8) (k : ∀ h1, Zc h1 → WQ G (d + 1) M (pc + 3) ls (rest) h1 Z) : WQ G (d + 1) M pc ls (x3 :: x2 :: x1 :: x0 :: rest) h Z := by
  obtain ⟨r1, h1, p1, rfl, z1⟩ := kc
  exact WQ.st (fun _ _ kz => pw_s4v hm hv hd p1 hls hen hrest kz) (k h1 z1)
theorem wq_o4i {x0 x1 x2 x3 : Value} (hm : pm_MW M' 4) (hv : pm_LV M.1.cls idx M') (h0 : vwCl[ci]? = some (M'.1.cls, T0, N0)) (hd : decode M.2.1 pc = .ok (.invokevirtual idx, 3)) (hs : S a = (ci, q)) (kc : WQ G d M' 0 ls0 [] (t, sl, gh S V P A B Q) (fun r h1 => r = some X ∧ Zc h1)) (hls : pm_en M' [.ref a, x0, x1, x2, x3] = ls0) (hen : (pm_al [.ref a, x0, x1, x2, x3]).length ≤ M'.2.2.1) (hrest : (rest.map fun v => v.category).sum ≤ 8) (k : ∀ h1, Zc h1 → WQ G (d + 1) M (pc + 3) ls (X :: rest) h1 Z) : WQ G (d + 1) M pc ls (x3 :: x2 :: x1 :: x0 :: .ref a :: rest) (t, sl, gh S V P A B Q) Z := by
  obtain ⟨r1, h1, p1, rfl, z1⟩ := kc
  exact WQ.st (fun _ _ kz => pw_o4i hm hv h0 hd hs p1 hls hen hrest kz) (k h1 z1)
theorem wq_s4i {x0 x1 x2 x3 : Value} (hm : pm_MW M' 4) (hv : pm_LS M.1.cls idx M') (hd : decode M.2.1 pc = .ok (.invokestatic idx, 3)) (kc : WQ G d M' 0 ls0 [] h (fun r h1 => r = some X ∧ Zc h1)) (hls : pm_en M' [x0, x1, x2, x3] = ls0) (hen : (pm_al [x0, x1, x2, x3]).length ≤ M'.2.2.1) (hrest : (rest.map fun v => v.category).sum ≤ 8) (k : ∀ h1, Zc h1 → WQ G (d + 1) M (pc + 3) ls (X :: rest) h1 Z) : WQ G (d + 1) M pc ls (x3 :: x2 :: x1 :: x0 :: rest) h Z := by
  obtain ⟨r1, h1, p1, rfl, z1⟩ := kc
  exact WQ.st (fun _ _ kz => pw_s4i hm hv hd p1 hls hen hrest kz) (k h1 z1)
theorem wq_n4 {x0 x1 x2 x3 : Value} (hm : pm_MW M' 4) (hv : pm_LI M.1.cls idx M') (hd : decode M.2.1 pc = .ok (.invokespecial idx, 3)) (kc : WQ G d M' 0 ls0 [] h (fun r h1 => r = none ∧ Zc h1)) (hls : pm_en M' [.ref a, x0, x1, x2, x3] = ls0) (hen : (pm_al [.ref a, x0, x1, x2, x3]).length ≤ M'.2.2.1) (hrest : (rest.map fun v => v.category).sum ≤ 8) (k : ∀ h1, Zc h1 → WQ G (d + 1) M (pc + 3) ls rest h1 Z) : WQ G (d + 1) M pc ls (x3 :: x2 :: x1 :: x0 :: .ref a :: rest) h Z := by
  obtain ⟨r1, h1, p1, rfl, z1⟩ := kc
  exact WQ.st (fun _ _ kz => pw_n4 hm hv hd p1 hls hen hrest kz) (k h1 z1)
theorem wq_o5v {x0 x1 x2 x3 x4 : Value} (hm : pm_MW M' 5) (hv : pm_LV M.1.cls idx M') (h0 : vwCl[ci]? = some (M'.1.cls, T0, N0)) (hd : decode M.2.1 pc = .ok (.invokevirtual idx, 3)) (hs : S a = (ci, q)) (kc : WQ G d M' 0 ls0 [] (t, sl, gh S V P A B Q) (fun r h1 => r = none ∧ Zc h1)) (hls : pm_en M' [.ref a, x0, x1, x2, x3, x4] = ls0) (hen : (pm_al [.ref a, x0, x1, x2, x3, x4]).length ≤ M'.2.2.1) (hrest : (rest.map fun v => v.category).sum ≤ 8) (k : ∀ h1, Zc h1 → WQ G (d + 1) M (pc + 3) ls (rest) h1 Z) : WQ G (d + 1) M pc ls (x4 :: x3 :: x2 :: x1 :: x0 :: .ref a :: rest) (t, sl, gh S V P A B Q) Z := by
  obtain ⟨r1, h1, p1, rfl, z1⟩ := kc
  exact WQ.st (fun _ _ kz => pw_o5v hm hv h0 hd hs p1 hls hen hrest kz) (k h1 z1)
theorem wq_s5v {x0 x1 x2 x3 x4 : Value} (hm : pm_MW M' 5) (hv : pm_LS M.1.cls idx M') (hd : decode M.2.1 pc = .ok (.invokestatic idx, 3)) (kc : WQ G d M' 0 ls0 [] h (fun r h1 => r = none ∧ Zc h1)) (hls : pm_en M' [x0, x1, x2, x3, x4] = ls0) (hen : (pm_al [x0, x1, x2, x3, x4]).length ≤ M'.2.2.1) (hrest : (rest.map fun v => v.category).sum ≤ 8) (k : ∀ h1, Zc h1 → WQ G (d + 1) M (pc + 3) ls (rest) h1 Z) : WQ G (d + 1) M pc ls (x4 :: x3 :: x2 :: x1 :: x0 :: rest) h Z := by
  obtain ⟨r1, h1, p1, rfl, z1⟩ := kc
  exact WQ.st (fun _ _ kz => pw_s5v hm hv hd p1 hls hen hrest kz) (k h1 z1)
theorem wq_o5i {x0 x1 x2 x3 x4 : Value} (hm : pm_MW M' 5) (hv : pm_LV M.1.cls idx M') (h0 : vwCl[ci]? = some (M'.1.cls, T0, N0)) (hd : decode M.2.1 pc = .ok (.invokevirtual idx, 3)) (hs : S a = (ci, q)) (kc : WQ G d M' 0 ls0 [] (t, sl, gh S V P A B Q) (fun r h1 => r = some X ∧ Zc h1)) (hls : pm_en M' [.ref a, x0, x1, x2, x3, x4] = ls0) (hen : (pm_al [.ref a, x0, x1, x2, x3, x4]).length ≤ M'.2.2.1) (hrest : (rest.map fun v => v.category).sum ≤ 8) (k : ∀ h1, Zc h1 → WQ G (d + 1) M (pc + 3) ls (X :: rest) h1 Z) : WQ G (d + 1) M pc ls (x4 :: x3 :: x2 :: x1 :: x0 :: .ref a :: rest) (t, sl, gh S V P A B Q) Z := by
  obtain ⟨r1, h1, p1, rfl, z1⟩ := kc
  exact WQ.st (fun _ _ kz => pw_o5i hm hv h0 hd hs p1 hls hen hrest kz) (k h1 z1)
theorem wq_s5i {x0 x1 x2 x3 x4 : Value} (hm : pm_MW M' 5) (hv : pm_LS M.1.cls idx M') (hd : decode M.2.1 pc = .ok (.invokestatic idx, 3)) (kc : WQ G d M' 0 ls0 [] h (fun r h1 => r = some X ∧ Zc h1)) (hls : pm_en M' [x0, x1, x2, x3, x4] = ls0) (hen : (pm_al [x0, x1, x2, x3, x4]).length ≤ M'.2.2.1) (hrest : (rest.map fun v => v.category).sum ≤ 8) (k : ∀ h1, Zc h1 → WQ G (d + 1) M (pc + 3) ls (X :: rest) h1 Z) : WQ G (d + 1) M pc ls (x4 :: x3 :: x2 :: x1 :: x0 :: rest) h Z := by
  obtain ⟨r1, h1, p1, rfl, z1⟩ := kc
  exact WQ.st (fun _ _ kz => pw_s5i hm hv hd p1 hls hen hrest kz) (k h1 z1)
theorem wq_n5 {x0 x1 x2 x3 x4 : Value} (hm : pm_MW M' 5) (hv : pm_LI M.1.cls idx M') (hd : decode M.2.1 pc = .ok (.invokespecial idx, 3)) (kc : WQ G d M' 0 ls0 [] h (fun r h1 => r = none ∧ Zc h1)) (hls : pm_en M' [.ref a, x0, x1, x2, x3, x4] = ls0) (hen : (pm_al [.ref a, x0, x1, x2, x3, x4]).length ≤ M'.2.2.1) (hrest : (rest.map fun v => v.category).sum ≤ 8) (k : ∀ h1, Zc h1 → WQ G (d + 1) M (pc + 3) ls rest h1 Z) : WQ G (d + 1) M pc ls (x4 :: x3 :: x2 :: x1 :: x0 :: .ref a :: rest) h Z := by
  obtain ⟨r1, h1, p1, rfl, z1⟩ := kc
  exact WQ.st (fun _ _ kz => pw_n5 hm hv hd p1 hls hen hrest kz) (k h1 z1)
theorem wq_o6v {x0 x1 x2 x3 x4 x5 : Value} (hm : pm_MW M' 6) (hv : pm_LV M.1.cls idx M') (h0 : vwCl[ci]? = some (M'.1.cls, T0, N0)) (hd : decode M.2.1 pc = .ok (.invokevirtual idx, 3)) (hs : S a = (ci, q)) (kc : WQ G d M' 0 ls0 [] (t, sl, gh S V P A B Q) (fun r h1 => r = none ∧ Zc h1)) (hls : pm_en M' [.ref a, x0, x1, x2, x3, x4, x5] = ls0) (hen : (pm_al [.ref a, x0, x1, x2, x3, x4, x5]).length ≤ M'.2.2.1) (hrest : (rest.map fun v => v.category).sum ≤ 8) (k : ∀ h1, Zc h1 → WQ G (d + 1) M (pc + 3) ls (rest) h1 Z) : WQ G (d + 1) M pc ls (x5 :: x4 :: x3 :: x2 :: x1 :: x0 :: .ref a :: rest) (t, sl, gh S V P A B Q) Z := by
  obtain ⟨r1, h1, p1, rfl, z1⟩ := kc
  exact WQ.st (fun _ _ kz => pw_o6v hm hv h0 hd hs p1 hls hen hrest kz) (k h1 z1)
theorem wq_s6v {x0 x1 x2 x3 x4 x5 : Value} (hm : pm_MW M' 6) (hv : pm_LS M.1.cls idx M') (hd : decode M.2.1 pc = .ok (.invokestatic idx, 3)) (kc : WQ G d M' 0 ls0 [] h (fun r h1 => r = none ∧ Zc h1)) (hls : pm_en M' [x0, x1, x2, x3, x4, x5] = ls0) (hen : (pm_al [x0, x1, x2, x3, x4, x5]).length ≤ M'.2.2.1) (hrest : (rest.map fun v => v.category).sum ≤ 8) (k : ∀ h1, Zc h1 → WQ G (d + 1) M (pc + 3) ls (rest) h1 Z) : WQ G (d + 1) M pc ls (x5 :: x4 :: x3 :: x2 :: x1 :: x0 :: rest) h Z := by
  obtain ⟨r1, h1, p1, rfl, z1⟩ := kc
  exact WQ.st (fun _ _ kz => pw_s6v hm hv hd p1 hls hen hrest kz) (k h1 z1)
theorem wq_o6i {x0 x1 x2 x3 x4 x5 : Value} (hm : pm_MW M' 6) (hv : pm_LV M.1.cls idx M') (h0 : vwCl[ci]? = some (M'.1.cls, T0, N0)) (hd : decode M.2.1 pc = .ok (.invokevirtual idx, 3)) (hs : S a = (ci, q)) (kc : WQ G d M' 0 ls0 [] (t, sl, gh S V P A B Q) (fun r h1 => r = some X ∧ Zc h1)) (hls : pm_en M' [.ref a, x0, x1, x2, x3, x4, x5] = ls0) (hen : (pm_al [.ref a, x0, x1, x2, x3, x4, x5]).length ≤ M'.2.2.1) (hrest : (rest.map fun v => v.category).sum ≤ 8) (k : ∀ h1, Zc h1 → WQ G (d + 1) M (pc + 3) ls (X :: rest) h1 Z) : WQ G (d + 1) M pc ls (x5 :: x4 :: x3 :: x2 :: x1 :: x0 :: .ref a :: rest) (t, sl, gh S V P A B Q) Z := by
  obtain ⟨r1, h1, p1, rfl, z1⟩ := kc
  exact WQ.st (fun _ _ kz => pw_o6i hm hv h0 hd hs p1 hls hen hrest kz) (k h1 z1)
theorem wq_s6i {x0 x1 x2 x3 x4 x5 : Value} (hm : pm_MW M' 6) (hv : pm_LS M.1.cls idx M') (hd : decode M.2.1 pc = .ok (.invokestatic idx, 3)) (kc : WQ G d M' 0 ls0 [] h (fun r h1 => r = some X ∧ Zc h1)) (hls : pm_en M' [x0, x1, x2, x3, x4, x5] = ls0) (hen : (pm_al [x0, x1, x2, x3, x4, x5]).length ≤ M'.2.2.1) (hrest : (rest.map fun v => v.category).sum ≤ 8) (k : ∀ h1, Zc h1 → WQ G (d + 1) M (pc + 3) ls (X :: rest) h1 Z) : WQ G (d + 1) M pc ls (x5 :: x4 :: x3 :: x2 :: x1 :: x0 :: rest) h Z := by
  obtain ⟨r1, h1, p1, rfl, z1⟩ := kc
  exact WQ.st (fun _ _ kz => pw_s6i hm hv hd p1 hls hen hrest kz) (k h1 z1)
theorem wq_n6 {x0 x1 x2 x3 x4 x5 : Value} (hm : pm_MW M' 6) (hv : pm_LI M.1.cls idx M') (hd : decode M.2.1 pc = .ok (.invokespecial idx, 3)) (kc : WQ G d M' 0 ls0 [] h (fun r h1 => r = none ∧ Zc h1)) (hls : pm_en M' [.ref a, x0, x1, x2, x3, x4, x5] = ls0) (hen : (pm_al [.ref a, x0, x1, x2, x3, x4, x5]).length ≤ M'.2.2.1) (hrest : (rest.map fun v => v.category).sum ≤ 8) (k : ∀ h1, Zc h1 → WQ G (d + 1) M (pc + 3) ls rest h1 Z) : WQ G (d + 1) M pc ls (x5 :: x4 :: x3 :: x2 :: x1 :: x0 :: .ref a :: rest) h Z := by
  obtain ⟨r1, h1, p1, rfl, z1⟩ := kc
  exact WQ.st (fun _ _ kz => pw_n6 hm hv hd p1 hls hen hrest kz) (k h1 z1)
end WQC
theorem mmX11_315 : pm_MM RX11 315 := ⟨(gt_5 (List.mem_of_getElem? (i := 94) rfl) rfl), (gt_4 (List.mem_of_getElem? (i := 111) rfl) rfl), (gt_1 (List.mem_of_getElem? (i := 15) rfl) rfl), (gt_4 (List.mem_of_getElem? (i := 112) rfl) rfl)⟩
theorem mmX11_380 : pm_Mm RX11 380 := ⟨(gt_6 (List.mem_of_getElem? (i := 14) rfl) rfl), (gt_3 (List.mem_of_getElem? (i := 20) rfl) rfl), (gt_1 (List.mem_of_getElem? (i := 15) rfl) rfl), (gt_3 (List.mem_of_getElem? (i := 21) rfl) rfl)⟩
theorem mmX3_29 : pm_Mm RX3 29 := ⟨(gt_4 (List.mem_of_getElem? (i := 119) rfl) rfl), (gt_3 (List.mem_of_getElem? (i := 20) rfl) rfl), (gt_1 (List.mem_of_getElem? (i := 15) rfl) rfl), (gt_3 (List.mem_of_getElem? (i := 21) rfl) rfl)⟩
theorem mmX5_88 : pm_MM RX5 88 := ⟨(gt_5 (List.mem_of_getElem? (i := 115) rfl) rfl), (gt_4 (List.mem_of_getElem? (i := 111) rfl) rfl), (gt_1 (List.mem_of_getElem? (i := 15) rfl) rfl), (gt_4 (List.mem_of_getElem? (i := 112) rfl) rfl)⟩
theorem mmX5_103 : pm_Mm RX5 103 := ⟨(gt_5 (List.mem_of_getElem? (i := 131) rfl) rfl), (gt_3 (List.mem_of_getElem? (i := 20) rfl) rfl), (gt_1 (List.mem_of_getElem? (i := 15) rfl) rfl), (gt_3 (List.mem_of_getElem? (i := 21) rfl) rfl)⟩
theorem mmX6_49 : pm_Mm RX6 49 := ⟨(gt_3 (List.mem_of_getElem? (i := 19) rfl) rfl), (gt_3 (List.mem_of_getElem? (i := 20) rfl) rfl), (gt_1 (List.mem_of_getElem? (i := 15) rfl) rfl), (gt_3 (List.mem_of_getElem? (i := 21) rfl) rfl)⟩
theorem mmX8_46 : pm_Mm RX8 46 := ⟨(gt_4 (List.mem_of_getElem? (i := 109) rfl) rfl), (gt_3 (List.mem_of_getElem? (i := 20) rfl) rfl), (gt_1 (List.mem_of_getElem? (i := 15) rfl) rfl), (gt_3 (List.mem_of_getElem? (i := 21) rfl) rfl)⟩
theorem mmX8_52 : pm_MM RX8 52 := ⟨(gt_4 (List.mem_of_getElem? (i := 110) rfl) rfl), (gt_4 (List.mem_of_getElem? (i := 111) rfl) rfl), (gt_1 (List.mem_of_getElem? (i := 15) rfl) rfl), (gt_4 (List.mem_of_getElem? (i := 112) rfl) rfl)⟩
theorem mmX9_22 : pm_Mm RX9 22 := ⟨(gt_5 (List.mem_of_getElem? (i := 233) rfl) rfl), (gt_3 (List.mem_of_getElem? (i := 20) rfl) rfl), (gt_1 (List.mem_of_getElem? (i := 15) rfl) rfl), (gt_3 (List.mem_of_getElem? (i := 21) rfl) rfl)⟩
theorem mmX9_28 : pm_MM RX9 28 := ⟨(gt_5 (List.mem_of_getElem? (i := 234) rfl) rfl), (gt_4 (List.mem_of_getElem? (i := 111) rfl) rfl), (gt_1 (List.mem_of_getElem? (i := 15) rfl) rfl), (gt_4 (List.mem_of_getElem? (i := 112) rfl) rfl)⟩
theorem mmX10_60 : pm_Mm RX10 60 := ⟨(gt_4 (List.mem_of_getElem? (i := 132) rfl) rfl), (gt_3 (List.mem_of_getElem? (i := 20) rfl) rfl), (gt_1 (List.mem_of_getElem? (i := 15) rfl) rfl), (gt_3 (List.mem_of_getElem? (i := 21) rfl) rfl)⟩
theorem mmX10_74 : pm_MM RX10 74 := ⟨(gt_4 (List.mem_of_getElem? (i := 141) rfl) rfl), (gt_4 (List.mem_of_getElem? (i := 111) rfl) rfl), (gt_1 (List.mem_of_getElem? (i := 15) rfl) rfl), (gt_4 (List.mem_of_getElem? (i := 112) rfl) rfl)⟩
def stL : List (Nat × Nat × Nat) := [(0, 8, 0), (1, 20, 5), (2, 20, 5), (3, 20, 5)]
def stR : List (Nat × Nat × Nat) := [(0, 0, 1), (0, 1, 2), (0, 2, 3)]
def ST (S : sS) (P : sP) (a : Nat) : Prop := (∀ q ∈ stL, S (a + q.1) = q.2) ∧ ∀ q ∈ stR, P (a + q.1) q.2.1 = some (a + q.2.2)
theorem st_s0 {S : sS} {P : sP} {a : Nat} (h : ST S P a) : S a = (8, 0) := h.1 (0, 8, 0) (List.mem_of_getElem? (i := 0) rfl)
theorem st_s1 {S : sS} {P : sP} {a : Nat} (h : ST S P a) : S (a + 1) = (20, 5) := h.1 (1, 20, 5) (List.mem_of_getElem? (i := 1) rfl)
theorem st_s2 {S : sS} {P : sP} {a : Nat} (h : ST S P a) : S (a + 2) = (20, 5) := h.1 (2, 20, 5) (List.mem_of_getElem? (i := 2) rfl)
theorem st_s3 {S : sS} {P : sP} {a : Nat} (h : ST S P a) : S (a + 3) = (20, 5) := h.1 (3, 20, 5) (List.mem_of_getElem? (i := 3) rfl)
theorem st_p0_0 {S : sS} {P : sP} {a : Nat} (h : ST S P a) : P a 0 = some (a + 1) := h.2 (0, 0, 1) (List.mem_of_getElem? (i := 0) rfl)
theorem st_p0_1 {S : sS} {P : sP} {a : Nat} (h : ST S P a) : P a 1 = some (a + 2) := h.2 (0, 1, 2) (List.mem_of_getElem? (i := 1) rfl)
theorem st_p0_2 {S : sS} {P : sP} {a : Nat} (h : ST S P a) : P a 2 = some (a + 3) := h.2 (0, 2, 3) (List.mem_of_getElem? (i := 2) rfl)
def tyL : List (Nat × Nat × Nat) := [(0, 9, 0), (1, 22, 40)]
def tyR : List (Nat × Nat × Nat) := [(0, 2, 1)]
def TY (S : sS) (P : sP) (a : Nat) : Prop := (∀ q ∈ tyL, S (a + q.1) = q.2) ∧ ∀ q ∈ tyR, P (a + q.1) q.2.1 = some (a + q.2.2)
theorem ty_s0 {S : sS} {P : sP} {a : Nat} (h : TY S P a) : S a = (9, 0) := h.1 (0, 9, 0) (List.mem_of_getElem? (i := 0) rfl)
theorem ty_s1 {S : sS} {P : sP} {a : Nat} (h : TY S P a) : S (a + 1) = (22, 40) := h.1 (1, 22, 40) (List.mem_of_getElem? (i := 1) rfl)
theorem ty_p0_2 {S : sS} {P : sP} {a : Nat} (h : TY S P a) : P a 2 = some (a + 1) := h.2 (0, 2, 1) (List.mem_of_getElem? (i := 0) rfl)
def laL : List (Nat × Nat × Nat) := [(0, 4, 0), (1, 20, 900)]
def laR : List (Nat × Nat × Nat) := [(0, 0, 1)]
def LA (S : sS) (P : sP) (a : Nat) : Prop := (∀ q ∈ laL, S (a + q.1) = q.2) ∧ ∀ q ∈ laR, P (a + q.1) q.2.1 = some (a + q.2.2)
theorem la_s0 {S : sS} {P : sP} {a : Nat} (h : LA S P a) : S a = (4, 0) := h.1 (0, 4, 0) (List.mem_of_getElem? (i := 0) rfl)
theorem la_s1 {S : sS} {P : sP} {a : Nat} (h : LA S P a) : S (a + 1) = (20, 900) := h.1 (1, 20, 900) (List.mem_of_getElem? (i := 1) rfl)
theorem la_p0_0 {S : sS} {P : sP} {a : Nat} (h : LA S P a) : P a 0 = some (a + 1) := h.2 (0, 0, 1) (List.mem_of_getElem? (i := 0) rfl)
def shL : List (Nat × Nat × Nat) := [(0, 7, 0), (1, 20, 48), (2, 20, 4), (3, 20, 5), (4, 20, 5), (5, 4, 0), (6, 20, 900), (7, 4, 0), (8, 20, 900)]
def shR : List (Nat × Nat × Nat) := [(0, 0, 1), (0, 1, 2), (0, 2, 3), (0, 3, 4), (0, 4, 5), (0, 5, 7), (5, 0, 6), (7, 0, 8)]
def SH (S : sS) (P : sP) (a : Nat) : Prop := (∀ q ∈ shL, S (a + q.1) = q.2) ∧ ∀ q ∈ shR, P (a + q.1) q.2.1 = some (a + q.2.2)
theorem sh_s0 {S : sS} {P : sP} {a : Nat} (h : SH S P a) : S a = (7, 0) := h.1 (0, 7, 0) (List.mem_of_getElem? (i := 0) rfl)
theorem sh_s1 {S : sS} {P : sP} {a : Nat} (h : SH S P a) : S (a + 1) = (20, 48) := h.1 (1, 20, 48) (List.mem_of_getElem? (i := 1) rfl)
theorem sh_s2 {S : sS} {P : sP} {a : Nat} (h : SH S P a) : S (a + 2) = (20, 4) := h.1 (2, 20, 4) (List.mem_of_getElem? (i := 2) rfl)
theorem sh_s3 {S : sS} {P : sP} {a : Nat} (h : SH S P a) : S (a + 3) = (20, 5) := h.1 (3, 20, 5) (List.mem_of_getElem? (i := 3) rfl)
theorem sh_s4 {S : sS} {P : sP} {a : Nat} (h : SH S P a) : S (a + 4) = (20, 5) := h.1 (4, 20, 5) (List.mem_of_getElem? (i := 4) rfl)
theorem sh_s5 {S : sS} {P : sP} {a : Nat} (h : SH S P a) : S (a + 5) = (4, 0) := h.1 (5, 4, 0) (List.mem_of_getElem? (i := 5) rfl)
theorem sh_s6 {S : sS} {P : sP} {a : Nat} (h : SH S P a) : S (a + 6) = (20, 900) := h.1 (6, 20, 900) (List.mem_of_getElem? (i := 6) rfl)
theorem sh_s7 {S : sS} {P : sP} {a : Nat} (h : SH S P a) : S (a + 7) = (4, 0) := h.1 (7, 4, 0) (List.mem_of_getElem? (i := 7) rfl)
theorem sh_s8 {S : sS} {P : sP} {a : Nat} (h : SH S P a) : S (a + 8) = (20, 900) := h.1 (8, 20, 900) (List.mem_of_getElem? (i := 8) rfl)
theorem sh_p0_0 {S : sS} {P : sP} {a : Nat} (h : SH S P a) : P a 0 = some (a + 1) := h.2 (0, 0, 1) (List.mem_of_getElem? (i := 0) rfl)
theorem sh_p0_1 {S : sS} {P : sP} {a : Nat} (h : SH S P a) : P a 1 = some (a + 2) := h.2 (0, 1, 2) (List.mem_of_getElem? (i := 1) rfl)
theorem sh_p0_2 {S : sS} {P : sP} {a : Nat} (h : SH S P a) : P a 2 = some (a + 3) := h.2 (0, 2, 3) (List.mem_of_getElem? (i := 2) rfl)
theorem sh_p0_3 {S : sS} {P : sP} {a : Nat} (h : SH S P a) : P a 3 = some (a + 4) := h.2 (0, 3, 4) (List.mem_of_getElem? (i := 3) rfl)
theorem sh_p0_4 {S : sS} {P : sP} {a : Nat} (h : SH S P a) : P a 4 = some (a + 5) := h.2 (0, 4, 5) (List.mem_of_getElem? (i := 4) rfl)
theorem sh_p0_5 {S : sS} {P : sP} {a : Nat} (h : SH S P a) : P a 5 = some (a + 7) := h.2 (0, 5, 7) (List.mem_of_getElem? (i := 5) rfl)
theorem sh_p5_0 {S : sS} {P : sP} {a : Nat} (h : SH S P a) : P (a + 5) 0 = some (a + 6) := h.2 (5, 0, 6) (List.mem_of_getElem? (i := 6) rfl)
theorem sh_p7_0 {S : sS} {P : sP} {a : Nat} (h : SH S P a) : P (a + 7) 0 = some (a + 8) := h.2 (7, 0, 8) (List.mem_of_getElem? (i := 7) rfl)
theorem SH.glad {S : sS} {P : sP} {a : Nat} (h : SH S P a) : LA S P (a + 5) := by
  refine ⟨fun q hq => ?_, fun q hq => ?_⟩
  · simp only [laL, List.mem_cons, List.not_mem_nil, or_false] at hq
    rcases hq with rfl | rfl
    · exact sh_s5 h
    · exact sh_s6 h
  · simp only [laR, List.mem_cons, List.not_mem_nil, or_false] at hq
    subst hq
    exact sh_p5_0 h
theorem SH.may {S : sS} {P : sP} {a : Nat} (h : SH S P a) : LA S P (a + 7) := by
  refine ⟨fun q hq => ?_, fun q hq => ?_⟩
  · simp only [laL, List.mem_cons, List.not_mem_nil, or_false] at hq
    rcases hq with rfl | rfl
    · exact sh_s7 h
    · exact sh_s8 h
  · simp only [laR, List.mem_cons, List.not_mem_nil, or_false] at hq
    subst hq
    exact sh_p7_0 h
def cfL : List (Nat × Nat × Nat) := [(8, 11, 0), (9, 21, 900), (10, 6, 0), (11, 20, 901), (12, 20, 901), (13, 20, 901), (14, 21, 0), (15, 24, 4), (16, 8, 0), (17, 20, 5), (18, 20, 5), (19, 20, 5), (20, 8, 0), (21, 20, 5), (22, 20, 5), (23, 20, 5), (24, 3, 0), (25, 25, 10), (26, 8, 0), (27, 20, 5), (28, 20, 5), (29, 20, 5), (30, 8, 0), (31, 20, 5), (32, 20, 5), (33, 20, 5), (34, 8, 0), (35, 20, 5), (36, 20, 5), (37, 20, 5), (38, 8, 0), (39, 20, 5), (40, 20, 5), (41, 20, 5), (42, 8, 0), (43, 20, 5), (44, 20, 5), (45, 20, 5), (46, 8, 0), (47, 20, 5), (48, 20, 5), (49, 20, 5), (50, 8, 0), (51, 20, 5), (52, 20, 5), (53, 20, 5), (54, 8, 0), (55, 20, 5), (56, 20, 5), (57, 20, 5), (58, 8, 0), (59, 20, 5), (60, 20, 5), (61, 20, 5), (62, 8, 0), (63, 20, 5), (64, 20, 5), (65, 20, 5), (66, 24, 2), (67, 25, 2), (68, 26, 4), (69, 20, 12), (70, 20, 41), (71, 8, 0), (72, 20, 5), (73, 20, 5), (74, 20, 5), (75, 8, 0), (76, 20, 5), (77, 20, 5), (78, 20, 5), (79, 9, 0), (80, 22, 40), (81, 9, 0), (82, 22, 40), (83, 9, 0), (84, 22, 40), (85, 9, 0), (86, 22, 40), (96, 0, 0), (97, 20, 8), (98, 20, 64), (99, 28, 4), (100, 20, 4), (101, 20, 4), (103, 1, 0), (104, 20, 12), (105, 22, 205), (106, 22, 205), (107, 10, 0), (108, 20, 12), (109, 20, 12), (110, 20, 2665), (111, 21, 2460), (112, 20, 205), (113, 20, 205), (114, 22, 205), (115, 22, 205), (116, 5, 0), (117, 27, 16), (118, 20, 41), (119, 20, 41), (120, 20, 41), (121, 20, 41), (122, 20, 41), (123, 20, 41), (124, 20, 41), (125, 20, 41), (126, 20, 41), (127, 20, 41), (128, 20, 41), (129, 20, 41), (130, 20, 41), (131, 20, 41), (132, 20, 41), (133, 20, 41), (134, 20, 41), (135, 20, 4), (136, 20, 4), (137, 2, 0)]
def cfR : List (Nat × Nat × Nat) := [(8, 0, 9), (8, 2, 10), (8, 3, 15), (8, 5, 16), (8, 6, 20), (8, 7, 24), (8, 8, 66), (8, 9, 67), (8, 10, 68), (8, 11, 96), (8, 12, 103), (8, 13, 107), (8, 14, 116), (8, 15, 137), (8, 16, 69), (8, 17, 70), (10, 2, 11), (10, 3, 12), (10, 4, 13), (16, 0, 17), (16, 1, 18), (16, 2, 19), (20, 0, 21), (20, 1, 22), (20, 2, 23), (24, 1, 25), (26, 0, 27), (26, 1, 28), (26, 2, 29), (30, 0, 31), (30, 1, 32), (30, 2, 33), (34, 0, 35), (34, 1, 36), (34, 2, 37), (38, 0, 39), (38, 1, 40), (38, 2, 41), (42, 0, 43), (42, 1, 44), (42, 2, 45), (46, 0, 47), (46, 1, 48), (46, 2, 49), (50, 0, 51), (50, 1, 52), (50, 2, 53), (54, 0, 55), (54, 1, 56), (54, 2, 57), (58, 0, 59), (58, 1, 60), (58, 2, 61), (62, 0, 63), (62, 1, 64), (62, 2, 65), (71, 0, 72), (71, 1, 73), (71, 2, 74), (75, 0, 76), (75, 1, 77), (75, 2, 78), (79, 2, 80), (81, 2, 82), (83, 2, 84), (85, 2, 86), (96, 7, 97), (96, 8, 98), (96, 9, 99), (96, 10, 100), (96, 11, 101), (103, 3, 96), (103, 4, 104), (107, 0, 108), (107, 1, 109), (107, 4, 96), (107, 5, 110), (107, 6, 111), (116, 1, 96), (116, 2, 107), (116, 3, 117), (116, 4, 134), (116, 5, 135), (116, 6, 136), (137, 1, 96), (137, 2, 103), (137, 3, 107)]
/-- the class's own cells, at 8 on -/
def CF (S : sS) (P : sP) : Prop := (∀ q ∈ cfL, S q.1 = q.2) ∧ ∀ q ∈ cfR, P q.1 q.2.1 = some q.2.2
theorem cf_s8 {S : sS} {P : sP} (h : CF S P) : S 8 = (11, 0) := h.1 (8, 11, 0) (List.mem_of_getElem? (i := 0) rfl)
theorem cf_s9 {S : sS} {P : sP} (h : CF S P) : S 9 = (21, 900) := h.1 (9, 21, 900) (List.mem_of_getElem? (i := 1) rfl)
theorem cf_s10 {S : sS} {P : sP} (h : CF S P) : S 10 = (6, 0) := h.1 (10, 6, 0) (List.mem_of_getElem? (i := 2) rfl)
theorem cf_s11 {S : sS} {P : sP} (h : CF S P) : S 11 = (20, 901) := h.1 (11, 20, 901) (List.mem_of_getElem? (i := 3) rfl)
theorem cf_s12 {S : sS} {P : sP} (h : CF S P) : S 12 = (20, 901) := h.1 (12, 20, 901) (List.mem_of_getElem? (i := 4) rfl)
theorem cf_s13 {S : sS} {P : sP} (h : CF S P) : S 13 = (20, 901) := h.1 (13, 20, 901) (List.mem_of_getElem? (i := 5) rfl)
theorem cf_s14 {S : sS} {P : sP} (h : CF S P) : S 14 = (21, 0) := h.1 (14, 21, 0) (List.mem_of_getElem? (i := 6) rfl)
theorem cf_s15 {S : sS} {P : sP} (h : CF S P) : S 15 = (24, 4) := h.1 (15, 24, 4) (List.mem_of_getElem? (i := 7) rfl)
theorem cf_s16 {S : sS} {P : sP} (h : CF S P) : S 16 = (8, 0) := h.1 (16, 8, 0) (List.mem_of_getElem? (i := 8) rfl)
theorem cf_s17 {S : sS} {P : sP} (h : CF S P) : S 17 = (20, 5) := h.1 (17, 20, 5) (List.mem_of_getElem? (i := 9) rfl)
theorem cf_s18 {S : sS} {P : sP} (h : CF S P) : S 18 = (20, 5) := h.1 (18, 20, 5) (List.mem_of_getElem? (i := 10) rfl)
theorem cf_s19 {S : sS} {P : sP} (h : CF S P) : S 19 = (20, 5) := h.1 (19, 20, 5) (List.mem_of_getElem? (i := 11) rfl)
theorem cf_s20 {S : sS} {P : sP} (h : CF S P) : S 20 = (8, 0) := h.1 (20, 8, 0) (List.mem_of_getElem? (i := 12) rfl)
theorem cf_s21 {S : sS} {P : sP} (h : CF S P) : S 21 = (20, 5) := h.1 (21, 20, 5) (List.mem_of_getElem? (i := 13) rfl)
theorem cf_s22 {S : sS} {P : sP} (h : CF S P) : S 22 = (20, 5) := h.1 (22, 20, 5) (List.mem_of_getElem? (i := 14) rfl)
theorem cf_s23 {S : sS} {P : sP} (h : CF S P) : S 23 = (20, 5) := h.1 (23, 20, 5) (List.mem_of_getElem? (i := 15) rfl)
theorem cf_s24 {S : sS} {P : sP} (h : CF S P) : S 24 = (3, 0) := h.1 (24, 3, 0) (List.mem_of_getElem? (i := 16) rfl)
theorem cf_s25 {S : sS} {P : sP} (h : CF S P) : S 25 = (25, 10) := h.1 (25, 25, 10) (List.mem_of_getElem? (i := 17) rfl)
theorem cf_s26 {S : sS} {P : sP} (h : CF S P) : S 26 = (8, 0) := h.1 (26, 8, 0) (List.mem_of_getElem? (i := 18) rfl)
theorem cf_s27 {S : sS} {P : sP} (h : CF S P) : S 27 = (20, 5) := h.1 (27, 20, 5) (List.mem_of_getElem? (i := 19) rfl)
theorem cf_s28 {S : sS} {P : sP} (h : CF S P) : S 28 = (20, 5) := h.1 (28, 20, 5) (List.mem_of_getElem? (i := 20) rfl)
theorem cf_s29 {S : sS} {P : sP} (h : CF S P) : S 29 = (20, 5) := h.1 (29, 20, 5) (List.mem_of_getElem? (i := 21) rfl)
theorem cf_s30 {S : sS} {P : sP} (h : CF S P) : S 30 = (8, 0) := h.1 (30, 8, 0) (List.mem_of_getElem? (i := 22) rfl)
theorem cf_s31 {S : sS} {P : sP} (h : CF S P) : S 31 = (20, 5) := h.1 (31, 20, 5) (List.mem_of_getElem? (i := 23) rfl)
theorem cf_s32 {S : sS} {P : sP} (h : CF S P) : S 32 = (20, 5) := h.1 (32, 20, 5) (List.mem_of_getElem? (i := 24) rfl)
theorem cf_s33 {S : sS} {P : sP} (h : CF S P) : S 33 = (20, 5) := h.1 (33, 20, 5) (List.mem_of_getElem? (i := 25) rfl)
theorem cf_s34 {S : sS} {P : sP} (h : CF S P) : S 34 = (8, 0) := h.1 (34, 8, 0) (List.mem_of_getElem? (i := 26) rfl)
theorem cf_s35 {S : sS} {P : sP} (h : CF S P) : S 35 = (20, 5) := h.1 (35, 20, 5) (List.mem_of_getElem? (i := 27) rfl)
theorem cf_s36 {S : sS} {P : sP} (h : CF S P) : S 36 = (20, 5) := h.1 (36, 20, 5) (List.mem_of_getElem? (i := 28) rfl)
theorem cf_s37 {S : sS} {P : sP} (h : CF S P) : S 37 = (20, 5) := h.1 (37, 20, 5) (List.mem_of_getElem? (i := 29) rfl)
theorem cf_s38 {S : sS} {P : sP} (h : CF S P) : S 38 = (8, 0) := h.1 (38, 8, 0) (List.mem_of_getElem? (i := 30) rfl)
theorem cf_s39 {S : sS} {P : sP} (h : CF S P) : S 39 = (20, 5) := h.1 (39, 20, 5) (List.mem_of_getElem? (i := 31) rfl)
theorem cf_s40 {S : sS} {P : sP} (h : CF S P) : S 40 = (20, 5) := h.1 (40, 20, 5) (List.mem_of_getElem? (i := 32) rfl)
theorem cf_s41 {S : sS} {P : sP} (h : CF S P) : S 41 = (20, 5) := h.1 (41, 20, 5) (List.mem_of_getElem? (i := 33) rfl)
theorem cf_s42 {S : sS} {P : sP} (h : CF S P) : S 42 = (8, 0) := h.1 (42, 8, 0) (List.mem_of_getElem? (i := 34) rfl)
theorem cf_s43 {S : sS} {P : sP} (h : CF S P) : S 43 = (20, 5) := h.1 (43, 20, 5) (List.mem_of_getElem? (i := 35) rfl)
theorem cf_s44 {S : sS} {P : sP} (h : CF S P) : S 44 = (20, 5) := h.1 (44, 20, 5) (List.mem_of_getElem? (i := 36) rfl)
theorem cf_s45 {S : sS} {P : sP} (h : CF S P) : S 45 = (20, 5) := h.1 (45, 20, 5) (List.mem_of_getElem? (i := 37) rfl)
theorem cf_s46 {S : sS} {P : sP} (h : CF S P) : S 46 = (8, 0) := h.1 (46, 8, 0) (List.mem_of_getElem? (i := 38) rfl)
theorem cf_s47 {S : sS} {P : sP} (h : CF S P) : S 47 = (20, 5) := h.1 (47, 20, 5) (List.mem_of_getElem? (i := 39) rfl)
theorem cf_s48 {S : sS} {P : sP} (h : CF S P) : S 48 = (20, 5) := h.1 (48, 20, 5) (List.mem_of_getElem? (i := 40) rfl)
theorem cf_s49 {S : sS} {P : sP} (h : CF S P) : S 49 = (20, 5) := h.1 (49, 20, 5) (List.mem_of_getElem? (i := 41) rfl)
theorem cf_s50 {S : sS} {P : sP} (h : CF S P) : S 50 = (8, 0) := h.1 (50, 8, 0) (List.mem_of_getElem? (i := 42) rfl)
theorem cf_s51 {S : sS} {P : sP} (h : CF S P) : S 51 = (20, 5) := h.1 (51, 20, 5) (List.mem_of_getElem? (i := 43) rfl)
theorem cf_s52 {S : sS} {P : sP} (h : CF S P) : S 52 = (20, 5) := h.1 (52, 20, 5) (List.mem_of_getElem? (i := 44) rfl)
theorem cf_s53 {S : sS} {P : sP} (h : CF S P) : S 53 = (20, 5) := h.1 (53, 20, 5) (List.mem_of_getElem? (i := 45) rfl)
theorem cf_s54 {S : sS} {P : sP} (h : CF S P) : S 54 = (8, 0) := h.1 (54, 8, 0) (List.mem_of_getElem? (i := 46) rfl)
theorem cf_s55 {S : sS} {P : sP} (h : CF S P) : S 55 = (20, 5) := h.1 (55, 20, 5) (List.mem_of_getElem? (i := 47) rfl)
theorem cf_s56 {S : sS} {P : sP} (h : CF S P) : S 56 = (20, 5) := h.1 (56, 20, 5) (List.mem_of_getElem? (i := 48) rfl)
theorem cf_s57 {S : sS} {P : sP} (h : CF S P) : S 57 = (20, 5) := h.1 (57, 20, 5) (List.mem_of_getElem? (i := 49) rfl)
theorem cf_s58 {S : sS} {P : sP} (h : CF S P) : S 58 = (8, 0) := h.1 (58, 8, 0) (List.mem_of_getElem? (i := 50) rfl)
theorem cf_s59 {S : sS} {P : sP} (h : CF S P) : S 59 = (20, 5) := h.1 (59, 20, 5) (List.mem_of_getElem? (i := 51) rfl)
theorem cf_s60 {S : sS} {P : sP} (h : CF S P) : S 60 = (20, 5) := h.1 (60, 20, 5) (List.mem_of_getElem? (i := 52) rfl)
theorem cf_s61 {S : sS} {P : sP} (h : CF S P) : S 61 = (20, 5) := h.1 (61, 20, 5) (List.mem_of_getElem? (i := 53) rfl)
theorem cf_s62 {S : sS} {P : sP} (h : CF S P) : S 62 = (8, 0) := h.1 (62, 8, 0) (List.mem_of_getElem? (i := 54) rfl)
theorem cf_s63 {S : sS} {P : sP} (h : CF S P) : S 63 = (20, 5) := h.1 (63, 20, 5) (List.mem_of_getElem? (i := 55) rfl)
theorem cf_s64 {S : sS} {P : sP} (h : CF S P) : S 64 = (20, 5) := h.1 (64, 20, 5) (List.mem_of_getElem? (i := 56) rfl)
theorem cf_s65 {S : sS} {P : sP} (h : CF S P) : S 65 = (20, 5) := h.1 (65, 20, 5) (List.mem_of_getElem? (i := 57) rfl)
theorem cf_s66 {S : sS} {P : sP} (h : CF S P) : S 66 = (24, 2) := h.1 (66, 24, 2) (List.mem_of_getElem? (i := 58) rfl)
theorem cf_s67 {S : sS} {P : sP} (h : CF S P) : S 67 = (25, 2) := h.1 (67, 25, 2) (List.mem_of_getElem? (i := 59) rfl)
theorem cf_s68 {S : sS} {P : sP} (h : CF S P) : S 68 = (26, 4) := h.1 (68, 26, 4) (List.mem_of_getElem? (i := 60) rfl)
theorem cf_s69 {S : sS} {P : sP} (h : CF S P) : S 69 = (20, 12) := h.1 (69, 20, 12) (List.mem_of_getElem? (i := 61) rfl)
theorem cf_s70 {S : sS} {P : sP} (h : CF S P) : S 70 = (20, 41) := h.1 (70, 20, 41) (List.mem_of_getElem? (i := 62) rfl)
theorem cf_s71 {S : sS} {P : sP} (h : CF S P) : S 71 = (8, 0) := h.1 (71, 8, 0) (List.mem_of_getElem? (i := 63) rfl)
theorem cf_s72 {S : sS} {P : sP} (h : CF S P) : S 72 = (20, 5) := h.1 (72, 20, 5) (List.mem_of_getElem? (i := 64) rfl)
theorem cf_s73 {S : sS} {P : sP} (h : CF S P) : S 73 = (20, 5) := h.1 (73, 20, 5) (List.mem_of_getElem? (i := 65) rfl)
theorem cf_s74 {S : sS} {P : sP} (h : CF S P) : S 74 = (20, 5) := h.1 (74, 20, 5) (List.mem_of_getElem? (i := 66) rfl)
theorem cf_s75 {S : sS} {P : sP} (h : CF S P) : S 75 = (8, 0) := h.1 (75, 8, 0) (List.mem_of_getElem? (i := 67) rfl)
theorem cf_s76 {S : sS} {P : sP} (h : CF S P) : S 76 = (20, 5) := h.1 (76, 20, 5) (List.mem_of_getElem? (i := 68) rfl)
theorem cf_s77 {S : sS} {P : sP} (h : CF S P) : S 77 = (20, 5) := h.1 (77, 20, 5) (List.mem_of_getElem? (i := 69) rfl)
theorem cf_s78 {S : sS} {P : sP} (h : CF S P) : S 78 = (20, 5) := h.1 (78, 20, 5) (List.mem_of_getElem? (i := 70) rfl)
theorem cf_s79 {S : sS} {P : sP} (h : CF S P) : S 79 = (9, 0) := h.1 (79, 9, 0) (List.mem_of_getElem? (i := 71) rfl)
theorem cf_s80 {S : sS} {P : sP} (h : CF S P) : S 80 = (22, 40) := h.1 (80, 22, 40) (List.mem_of_getElem? (i := 72) rfl)
theorem cf_s81 {S : sS} {P : sP} (h : CF S P) : S 81 = (9, 0) := h.1 (81, 9, 0) (List.mem_of_getElem? (i := 73) rfl)
theorem cf_s82 {S : sS} {P : sP} (h : CF S P) : S 82 = (22, 40) := h.1 (82, 22, 40) (List.mem_of_getElem? (i := 74) rfl)
theorem cf_s83 {S : sS} {P : sP} (h : CF S P) : S 83 = (9, 0) := h.1 (83, 9, 0) (List.mem_of_getElem? (i := 75) rfl)
theorem cf_s84 {S : sS} {P : sP} (h : CF S P) : S 84 = (22, 40) := h.1 (84, 22, 40) (List.mem_of_getElem? (i := 76) rfl)
theorem cf_s85 {S : sS} {P : sP} (h : CF S P) : S 85 = (9, 0) := h.1 (85, 9, 0) (List.mem_of_getElem? (i := 77) rfl)
theorem cf_s86 {S : sS} {P : sP} (h : CF S P) : S 86 = (22, 40) := h.1 (86, 22, 40) (List.mem_of_getElem? (i := 78) rfl)
theorem cf_s96 {S : sS} {P : sP} (h : CF S P) : S 96 = (0, 0) := h.1 (96, 0, 0) (List.mem_of_getElem? (i := 79) rfl)
theorem cf_s97 {S : sS} {P : sP} (h : CF S P) : S 97 = (20, 8) := h.1 (97, 20, 8) (List.mem_of_getElem? (i := 80) rfl)
theorem cf_s98 {S : sS} {P : sP} (h : CF S P) : S 98 = (20, 64) := h.1 (98, 20, 64) (List.mem_of_getElem? (i := 81) rfl)
theorem cf_s99 {S : sS} {P : sP} (h : CF S P) : S 99 = (28, 4) := h.1 (99, 28, 4) (List.mem_of_getElem? (i := 82) rfl)
theorem cf_s100 {S : sS} {P : sP} (h : CF S P) : S 100 = (20, 4) := h.1 (100, 20, 4) (List.mem_of_getElem? (i := 83) rfl)
theorem cf_s101 {S : sS} {P : sP} (h : CF S P) : S 101 = (20, 4) := h.1 (101, 20, 4) (List.mem_of_getElem? (i := 84) rfl)
theorem cf_s103 {S : sS} {P : sP} (h : CF S P) : S 103 = (1, 0) := h.1 (103, 1, 0) (List.mem_of_getElem? (i := 85) rfl)
theorem cf_s104 {S : sS} {P : sP} (h : CF S P) : S 104 = (20, 12) := h.1 (104, 20, 12) (List.mem_of_getElem? (i := 86) rfl)
theorem cf_s105 {S : sS} {P : sP} (h : CF S P) : S 105 = (22, 205) := h.1 (105, 22, 205) (List.mem_of_getElem? (i := 87) rfl)
theorem cf_s106 {S : sS} {P : sP} (h : CF S P) : S 106 = (22, 205) := h.1 (106, 22, 205) (List.mem_of_getElem? (i := 88) rfl)
theorem cf_s107 {S : sS} {P : sP} (h : CF S P) : S 107 = (10, 0) := h.1 (107, 10, 0) (List.mem_of_getElem? (i := 89) rfl)
theorem cf_s108 {S : sS} {P : sP} (h : CF S P) : S 108 = (20, 12) := h.1 (108, 20, 12) (List.mem_of_getElem? (i := 90) rfl)
theorem cf_s109 {S : sS} {P : sP} (h : CF S P) : S 109 = (20, 12) := h.1 (109, 20, 12) (List.mem_of_getElem? (i := 91) rfl)
theorem cf_s110 {S : sS} {P : sP} (h : CF S P) : S 110 = (20, 2665) := h.1 (110, 20, 2665) (List.mem_of_getElem? (i := 92) rfl)
theorem cf_s111 {S : sS} {P : sP} (h : CF S P) : S 111 = (21, 2460) := h.1 (111, 21, 2460) (List.mem_of_getElem? (i := 93) rfl)
theorem cf_s112 {S : sS} {P : sP} (h : CF S P) : S 112 = (20, 205) := h.1 (112, 20, 205) (List.mem_of_getElem? (i := 94) rfl)
theorem cf_s113 {S : sS} {P : sP} (h : CF S P) : S 113 = (20, 205) := h.1 (113, 20, 205) (List.mem_of_getElem? (i := 95) rfl)
theorem cf_s114 {S : sS} {P : sP} (h : CF S P) : S 114 = (22, 205) := h.1 (114, 22, 205) (List.mem_of_getElem? (i := 96) rfl)
theorem cf_s115 {S : sS} {P : sP} (h : CF S P) : S 115 = (22, 205) := h.1 (115, 22, 205) (List.mem_of_getElem? (i := 97) rfl)
theorem cf_s116 {S : sS} {P : sP} (h : CF S P) : S 116 = (5, 0) := h.1 (116, 5, 0) (List.mem_of_getElem? (i := 98) rfl)
theorem cf_s117 {S : sS} {P : sP} (h : CF S P) : S 117 = (27, 16) := h.1 (117, 27, 16) (List.mem_of_getElem? (i := 99) rfl)
theorem cf_s118 {S : sS} {P : sP} (h : CF S P) : S 118 = (20, 41) := h.1 (118, 20, 41) (List.mem_of_getElem? (i := 100) rfl)
theorem cf_s119 {S : sS} {P : sP} (h : CF S P) : S 119 = (20, 41) := h.1 (119, 20, 41) (List.mem_of_getElem? (i := 101) rfl)
theorem cf_s120 {S : sS} {P : sP} (h : CF S P) : S 120 = (20, 41) := h.1 (120, 20, 41) (List.mem_of_getElem? (i := 102) rfl)
theorem cf_s121 {S : sS} {P : sP} (h : CF S P) : S 121 = (20, 41) := h.1 (121, 20, 41) (List.mem_of_getElem? (i := 103) rfl)
theorem cf_s122 {S : sS} {P : sP} (h : CF S P) : S 122 = (20, 41) := h.1 (122, 20, 41) (List.mem_of_getElem? (i := 104) rfl)
theorem cf_s123 {S : sS} {P : sP} (h : CF S P) : S 123 = (20, 41) := h.1 (123, 20, 41) (List.mem_of_getElem? (i := 105) rfl)
theorem cf_s124 {S : sS} {P : sP} (h : CF S P) : S 124 = (20, 41) := h.1 (124, 20, 41) (List.mem_of_getElem? (i := 106) rfl)
theorem cf_s125 {S : sS} {P : sP} (h : CF S P) : S 125 = (20, 41) := h.1 (125, 20, 41) (List.mem_of_getElem? (i := 107) rfl)
theorem cf_s126 {S : sS} {P : sP} (h : CF S P) : S 126 = (20, 41) := h.1 (126, 20, 41) (List.mem_of_getElem? (i := 108) rfl)
theorem cf_s127 {S : sS} {P : sP} (h : CF S P) : S 127 = (20, 41) := h.1 (127, 20, 41) (List.mem_of_getElem? (i := 109) rfl)
theorem cf_s128 {S : sS} {P : sP} (h : CF S P) : S 128 = (20, 41) := h.1 (128, 20, 41) (List.mem_of_getElem? (i := 110) rfl)
theorem cf_s129 {S : sS} {P : sP} (h : CF S P) : S 129 = (20, 41) := h.1 (129, 20, 41) (List.mem_of_getElem? (i := 111) rfl)
theorem cf_s130 {S : sS} {P : sP} (h : CF S P) : S 130 = (20, 41) := h.1 (130, 20, 41) (List.mem_of_getElem? (i := 112) rfl)
theorem cf_s131 {S : sS} {P : sP} (h : CF S P) : S 131 = (20, 41) := h.1 (131, 20, 41) (List.mem_of_getElem? (i := 113) rfl)
theorem cf_s132 {S : sS} {P : sP} (h : CF S P) : S 132 = (20, 41) := h.1 (132, 20, 41) (List.mem_of_getElem? (i := 114) rfl)
theorem cf_s133 {S : sS} {P : sP} (h : CF S P) : S 133 = (20, 41) := h.1 (133, 20, 41) (List.mem_of_getElem? (i := 115) rfl)
theorem cf_s134 {S : sS} {P : sP} (h : CF S P) : S 134 = (20, 41) := h.1 (134, 20, 41) (List.mem_of_getElem? (i := 116) rfl)
theorem cf_s135 {S : sS} {P : sP} (h : CF S P) : S 135 = (20, 4) := h.1 (135, 20, 4) (List.mem_of_getElem? (i := 117) rfl)
theorem cf_s136 {S : sS} {P : sP} (h : CF S P) : S 136 = (20, 4) := h.1 (136, 20, 4) (List.mem_of_getElem? (i := 118) rfl)
theorem cf_s137 {S : sS} {P : sP} (h : CF S P) : S 137 = (2, 0) := h.1 (137, 2, 0) (List.mem_of_getElem? (i := 119) rfl)
theorem cf_p8_0 {S : sS} {P : sP} (h : CF S P) : P 8 0 = some 9 := h.2 (8, 0, 9) (List.mem_of_getElem? (i := 0) rfl)
theorem cf_p8_2 {S : sS} {P : sP} (h : CF S P) : P 8 2 = some 10 := h.2 (8, 2, 10) (List.mem_of_getElem? (i := 1) rfl)
theorem cf_p8_3 {S : sS} {P : sP} (h : CF S P) : P 8 3 = some 15 := h.2 (8, 3, 15) (List.mem_of_getElem? (i := 2) rfl)
theorem cf_p8_5 {S : sS} {P : sP} (h : CF S P) : P 8 5 = some 16 := h.2 (8, 5, 16) (List.mem_of_getElem? (i := 3) rfl)
theorem cf_p8_6 {S : sS} {P : sP} (h : CF S P) : P 8 6 = some 20 := h.2 (8, 6, 20) (List.mem_of_getElem? (i := 4) rfl)
theorem cf_p8_7 {S : sS} {P : sP} (h : CF S P) : P 8 7 = some 24 := h.2 (8, 7, 24) (List.mem_of_getElem? (i := 5) rfl)
theorem cf_p8_8 {S : sS} {P : sP} (h : CF S P) : P 8 8 = some 66 := h.2 (8, 8, 66) (List.mem_of_getElem? (i := 6) rfl)
theorem cf_p8_9 {S : sS} {P : sP} (h : CF S P) : P 8 9 = some 67 := h.2 (8, 9, 67) (List.mem_of_getElem? (i := 7) rfl)
theorem cf_p8_10 {S : sS} {P : sP} (h : CF S P) : P 8 10 = some 68 := h.2 (8, 10, 68) (List.mem_of_getElem? (i := 8) rfl)
theorem cf_p8_11 {S : sS} {P : sP} (h : CF S P) : P 8 11 = some 96 := h.2 (8, 11, 96) (List.mem_of_getElem? (i := 9) rfl)
theorem cf_p8_12 {S : sS} {P : sP} (h : CF S P) : P 8 12 = some 103 := h.2 (8, 12, 103) (List.mem_of_getElem? (i := 10) rfl)
theorem cf_p8_13 {S : sS} {P : sP} (h : CF S P) : P 8 13 = some 107 := h.2 (8, 13, 107) (List.mem_of_getElem? (i := 11) rfl)
theorem cf_p8_14 {S : sS} {P : sP} (h : CF S P) : P 8 14 = some 116 := h.2 (8, 14, 116) (List.mem_of_getElem? (i := 12) rfl)
theorem cf_p8_15 {S : sS} {P : sP} (h : CF S P) : P 8 15 = some 137 := h.2 (8, 15, 137) (List.mem_of_getElem? (i := 13) rfl)
theorem cf_p8_16 {S : sS} {P : sP} (h : CF S P) : P 8 16 = some 69 := h.2 (8, 16, 69) (List.mem_of_getElem? (i := 14) rfl)
theorem cf_p8_17 {S : sS} {P : sP} (h : CF S P) : P 8 17 = some 70 := h.2 (8, 17, 70) (List.mem_of_getElem? (i := 15) rfl)
theorem cf_p10_2 {S : sS} {P : sP} (h : CF S P) : P 10 2 = some 11 := h.2 (10, 2, 11) (List.mem_of_getElem? (i := 16) rfl)
theorem cf_p10_3 {S : sS} {P : sP} (h : CF S P) : P 10 3 = some 12 := h.2 (10, 3, 12) (List.mem_of_getElem? (i := 17) rfl)
theorem cf_p10_4 {S : sS} {P : sP} (h : CF S P) : P 10 4 = some 13 := h.2 (10, 4, 13) (List.mem_of_getElem? (i := 18) rfl)
theorem cf_p16_0 {S : sS} {P : sP} (h : CF S P) : P 16 0 = some 17 := h.2 (16, 0, 17) (List.mem_of_getElem? (i := 19) rfl)
theorem cf_p16_1 {S : sS} {P : sP} (h : CF S P) : P 16 1 = some 18 := h.2 (16, 1, 18) (List.mem_of_getElem? (i := 20) rfl)
theorem cf_p16_2 {S : sS} {P : sP} (h : CF S P) : P 16 2 = some 19 := h.2 (16, 2, 19) (List.mem_of_getElem? (i := 21) rfl)
theorem cf_p20_0 {S : sS} {P : sP} (h : CF S P) : P 20 0 = some 21 := h.2 (20, 0, 21) (List.mem_of_getElem? (i := 22) rfl)
theorem cf_p20_1 {S : sS} {P : sP} (h : CF S P) : P 20 1 = some 22 := h.2 (20, 1, 22) (List.mem_of_getElem? (i := 23) rfl)
theorem cf_p20_2 {S : sS} {P : sP} (h : CF S P) : P 20 2 = some 23 := h.2 (20, 2, 23) (List.mem_of_getElem? (i := 24) rfl)
theorem cf_p24_1 {S : sS} {P : sP} (h : CF S P) : P 24 1 = some 25 := h.2 (24, 1, 25) (List.mem_of_getElem? (i := 25) rfl)
theorem cf_p26_0 {S : sS} {P : sP} (h : CF S P) : P 26 0 = some 27 := h.2 (26, 0, 27) (List.mem_of_getElem? (i := 26) rfl)
theorem cf_p26_1 {S : sS} {P : sP} (h : CF S P) : P 26 1 = some 28 := h.2 (26, 1, 28) (List.mem_of_getElem? (i := 27) rfl)
theorem cf_p26_2 {S : sS} {P : sP} (h : CF S P) : P 26 2 = some 29 := h.2 (26, 2, 29) (List.mem_of_getElem? (i := 28) rfl)
theorem cf_p30_0 {S : sS} {P : sP} (h : CF S P) : P 30 0 = some 31 := h.2 (30, 0, 31) (List.mem_of_getElem? (i := 29) rfl)
theorem cf_p30_1 {S : sS} {P : sP} (h : CF S P) : P 30 1 = some 32 := h.2 (30, 1, 32) (List.mem_of_getElem? (i := 30) rfl)
theorem cf_p30_2 {S : sS} {P : sP} (h : CF S P) : P 30 2 = some 33 := h.2 (30, 2, 33) (List.mem_of_getElem? (i := 31) rfl)
theorem cf_p34_0 {S : sS} {P : sP} (h : CF S P) : P 34 0 = some 35 := h.2 (34, 0, 35) (List.mem_of_getElem? (i := 32) rfl)
theorem cf_p34_1 {S : sS} {P : sP} (h : CF S P) : P 34 1 = some 36 := h.2 (34, 1, 36) (List.mem_of_getElem? (i := 33) rfl)
theorem cf_p34_2 {S : sS} {P : sP} (h : CF S P) : P 34 2 = some 37 := h.2 (34, 2, 37) (List.mem_of_getElem? (i := 34) rfl)
theorem cf_p38_0 {S : sS} {P : sP} (h : CF S P) : P 38 0 = some 39 := h.2 (38, 0, 39) (List.mem_of_getElem? (i := 35) rfl)
theorem cf_p38_1 {S : sS} {P : sP} (h : CF S P) : P 38 1 = some 40 := h.2 (38, 1, 40) (List.mem_of_getElem? (i := 36) rfl)
theorem cf_p38_2 {S : sS} {P : sP} (h : CF S P) : P 38 2 = some 41 := h.2 (38, 2, 41) (List.mem_of_getElem? (i := 37) rfl)
theorem cf_p42_0 {S : sS} {P : sP} (h : CF S P) : P 42 0 = some 43 := h.2 (42, 0, 43) (List.mem_of_getElem? (i := 38) rfl)
theorem cf_p42_1 {S : sS} {P : sP} (h : CF S P) : P 42 1 = some 44 := h.2 (42, 1, 44) (List.mem_of_getElem? (i := 39) rfl)
theorem cf_p42_2 {S : sS} {P : sP} (h : CF S P) : P 42 2 = some 45 := h.2 (42, 2, 45) (List.mem_of_getElem? (i := 40) rfl)
theorem cf_p46_0 {S : sS} {P : sP} (h : CF S P) : P 46 0 = some 47 := h.2 (46, 0, 47) (List.mem_of_getElem? (i := 41) rfl)
theorem cf_p46_1 {S : sS} {P : sP} (h : CF S P) : P 46 1 = some 48 := h.2 (46, 1, 48) (List.mem_of_getElem? (i := 42) rfl)
theorem cf_p46_2 {S : sS} {P : sP} (h : CF S P) : P 46 2 = some 49 := h.2 (46, 2, 49) (List.mem_of_getElem? (i := 43) rfl)
theorem cf_p50_0 {S : sS} {P : sP} (h : CF S P) : P 50 0 = some 51 := h.2 (50, 0, 51) (List.mem_of_getElem? (i := 44) rfl)
theorem cf_p50_1 {S : sS} {P : sP} (h : CF S P) : P 50 1 = some 52 := h.2 (50, 1, 52) (List.mem_of_getElem? (i := 45) rfl)
theorem cf_p50_2 {S : sS} {P : sP} (h : CF S P) : P 50 2 = some 53 := h.2 (50, 2, 53) (List.mem_of_getElem? (i := 46) rfl)
theorem cf_p54_0 {S : sS} {P : sP} (h : CF S P) : P 54 0 = some 55 := h.2 (54, 0, 55) (List.mem_of_getElem? (i := 47) rfl)
theorem cf_p54_1 {S : sS} {P : sP} (h : CF S P) : P 54 1 = some 56 := h.2 (54, 1, 56) (List.mem_of_getElem? (i := 48) rfl)
theorem cf_p54_2 {S : sS} {P : sP} (h : CF S P) : P 54 2 = some 57 := h.2 (54, 2, 57) (List.mem_of_getElem? (i := 49) rfl)
theorem cf_p58_0 {S : sS} {P : sP} (h : CF S P) : P 58 0 = some 59 := h.2 (58, 0, 59) (List.mem_of_getElem? (i := 50) rfl)
theorem cf_p58_1 {S : sS} {P : sP} (h : CF S P) : P 58 1 = some 60 := h.2 (58, 1, 60) (List.mem_of_getElem? (i := 51) rfl)
theorem cf_p58_2 {S : sS} {P : sP} (h : CF S P) : P 58 2 = some 61 := h.2 (58, 2, 61) (List.mem_of_getElem? (i := 52) rfl)
theorem cf_p62_0 {S : sS} {P : sP} (h : CF S P) : P 62 0 = some 63 := h.2 (62, 0, 63) (List.mem_of_getElem? (i := 53) rfl)
theorem cf_p62_1 {S : sS} {P : sP} (h : CF S P) : P 62 1 = some 64 := h.2 (62, 1, 64) (List.mem_of_getElem? (i := 54) rfl)
theorem cf_p62_2 {S : sS} {P : sP} (h : CF S P) : P 62 2 = some 65 := h.2 (62, 2, 65) (List.mem_of_getElem? (i := 55) rfl)
theorem cf_p71_0 {S : sS} {P : sP} (h : CF S P) : P 71 0 = some 72 := h.2 (71, 0, 72) (List.mem_of_getElem? (i := 56) rfl)
theorem cf_p71_1 {S : sS} {P : sP} (h : CF S P) : P 71 1 = some 73 := h.2 (71, 1, 73) (List.mem_of_getElem? (i := 57) rfl)
theorem cf_p71_2 {S : sS} {P : sP} (h : CF S P) : P 71 2 = some 74 := h.2 (71, 2, 74) (List.mem_of_getElem? (i := 58) rfl)
theorem cf_p75_0 {S : sS} {P : sP} (h : CF S P) : P 75 0 = some 76 := h.2 (75, 0, 76) (List.mem_of_getElem? (i := 59) rfl)
theorem cf_p75_1 {S : sS} {P : sP} (h : CF S P) : P 75 1 = some 77 := h.2 (75, 1, 77) (List.mem_of_getElem? (i := 60) rfl)
theorem cf_p75_2 {S : sS} {P : sP} (h : CF S P) : P 75 2 = some 78 := h.2 (75, 2, 78) (List.mem_of_getElem? (i := 61) rfl)
theorem cf_p79_2 {S : sS} {P : sP} (h : CF S P) : P 79 2 = some 80 := h.2 (79, 2, 80) (List.mem_of_getElem? (i := 62) rfl)
theorem cf_p81_2 {S : sS} {P : sP} (h : CF S P) : P 81 2 = some 82 := h.2 (81, 2, 82) (List.mem_of_getElem? (i := 63) rfl)
theorem cf_p83_2 {S : sS} {P : sP} (h : CF S P) : P 83 2 = some 84 := h.2 (83, 2, 84) (List.mem_of_getElem? (i := 64) rfl)
theorem cf_p85_2 {S : sS} {P : sP} (h : CF S P) : P 85 2 = some 86 := h.2 (85, 2, 86) (List.mem_of_getElem? (i := 65) rfl)
theorem cf_p96_7 {S : sS} {P : sP} (h : CF S P) : P 96 7 = some 97 := h.2 (96, 7, 97) (List.mem_of_getElem? (i := 66) rfl)
theorem cf_p96_8 {S : sS} {P : sP} (h : CF S P) : P 96 8 = some 98 := h.2 (96, 8, 98) (List.mem_of_getElem? (i := 67) rfl)
theorem cf_p96_9 {S : sS} {P : sP} (h : CF S P) : P 96 9 = some 99 := h.2 (96, 9, 99) (List.mem_of_getElem? (i := 68) rfl)
theorem cf_p96_10 {S : sS} {P : sP} (h : CF S P) : P 96 10 = some 100 := h.2 (96, 10, 100) (List.mem_of_getElem? (i := 69) rfl)
theorem cf_p96_11 {S : sS} {P : sP} (h : CF S P) : P 96 11 = some 101 := h.2 (96, 11, 101) (List.mem_of_getElem? (i := 70) rfl)
theorem cf_p103_3 {S : sS} {P : sP} (h : CF S P) : P 103 3 = some 96 := h.2 (103, 3, 96) (List.mem_of_getElem? (i := 71) rfl)
theorem cf_p103_4 {S : sS} {P : sP} (h : CF S P) : P 103 4 = some 104 := h.2 (103, 4, 104) (List.mem_of_getElem? (i := 72) rfl)
theorem cf_p107_0 {S : sS} {P : sP} (h : CF S P) : P 107 0 = some 108 := h.2 (107, 0, 108) (List.mem_of_getElem? (i := 73) rfl)
theorem cf_p107_1 {S : sS} {P : sP} (h : CF S P) : P 107 1 = some 109 := h.2 (107, 1, 109) (List.mem_of_getElem? (i := 74) rfl)
theorem cf_p107_4 {S : sS} {P : sP} (h : CF S P) : P 107 4 = some 96 := h.2 (107, 4, 96) (List.mem_of_getElem? (i := 75) rfl)
theorem cf_p107_5 {S : sS} {P : sP} (h : CF S P) : P 107 5 = some 110 := h.2 (107, 5, 110) (List.mem_of_getElem? (i := 76) rfl)
theorem cf_p107_6 {S : sS} {P : sP} (h : CF S P) : P 107 6 = some 111 := h.2 (107, 6, 111) (List.mem_of_getElem? (i := 77) rfl)
theorem cf_p116_1 {S : sS} {P : sP} (h : CF S P) : P 116 1 = some 96 := h.2 (116, 1, 96) (List.mem_of_getElem? (i := 78) rfl)
theorem cf_p116_2 {S : sS} {P : sP} (h : CF S P) : P 116 2 = some 107 := h.2 (116, 2, 107) (List.mem_of_getElem? (i := 79) rfl)
theorem cf_p116_3 {S : sS} {P : sP} (h : CF S P) : P 116 3 = some 117 := h.2 (116, 3, 117) (List.mem_of_getElem? (i := 80) rfl)
theorem cf_p116_4 {S : sS} {P : sP} (h : CF S P) : P 116 4 = some 134 := h.2 (116, 4, 134) (List.mem_of_getElem? (i := 81) rfl)
theorem cf_p116_5 {S : sS} {P : sP} (h : CF S P) : P 116 5 = some 135 := h.2 (116, 5, 135) (List.mem_of_getElem? (i := 82) rfl)
theorem cf_p116_6 {S : sS} {P : sP} (h : CF S P) : P 116 6 = some 136 := h.2 (116, 6, 136) (List.mem_of_getElem? (i := 83) rfl)
theorem cf_p137_1 {S : sS} {P : sP} (h : CF S P) : P 137 1 = some 96 := h.2 (137, 1, 96) (List.mem_of_getElem? (i := 84) rfl)
theorem cf_p137_2 {S : sS} {P : sP} (h : CF S P) : P 137 2 = some 103 := h.2 (137, 2, 103) (List.mem_of_getElem? (i := 85) rfl)
theorem cf_p137_3 {S : sS} {P : sP} (h : CF S P) : P 137 3 = some 107 := h.2 (137, 3, 107) (List.mem_of_getElem? (i := 86) rfl)
theorem cf_st16 {S : sS} {P : sP} (h : CF S P) : ST S P 16 := by
  refine ⟨fun q hq => ?_, fun q hq => ?_⟩
  · simp only [stL, List.mem_cons, List.not_mem_nil, or_false] at hq
    rcases hq with rfl | rfl | rfl | rfl
    · exact cf_s16 h
    · exact cf_s17 h
    · exact cf_s18 h
    · exact cf_s19 h
  · simp only [stR, List.mem_cons, List.not_mem_nil, or_false] at hq
    rcases hq with rfl | rfl | rfl
    · exact cf_p16_0 h
    · exact cf_p16_1 h
    · exact cf_p16_2 h
theorem cf_st20 {S : sS} {P : sP} (h : CF S P) : ST S P 20 := by
  refine ⟨fun q hq => ?_, fun q hq => ?_⟩
  · simp only [stL, List.mem_cons, List.not_mem_nil, or_false] at hq
    rcases hq with rfl | rfl | rfl | rfl
    · exact cf_s20 h
    · exact cf_s21 h
    · exact cf_s22 h
    · exact cf_s23 h
  · simp only [stR, List.mem_cons, List.not_mem_nil, or_false] at hq
    rcases hq with rfl | rfl | rfl
    · exact cf_p20_0 h
    · exact cf_p20_1 h
    · exact cf_p20_2 h
theorem cf_st26 {S : sS} {P : sP} (h : CF S P) : ST S P 26 := by
  refine ⟨fun q hq => ?_, fun q hq => ?_⟩
  · simp only [stL, List.mem_cons, List.not_mem_nil, or_false] at hq
    rcases hq with rfl | rfl | rfl | rfl
    · exact cf_s26 h
    · exact cf_s27 h
    · exact cf_s28 h
    · exact cf_s29 h
  · simp only [stR, List.mem_cons, List.not_mem_nil, or_false] at hq
    rcases hq with rfl | rfl | rfl
    · exact cf_p26_0 h
    · exact cf_p26_1 h
    · exact cf_p26_2 h
theorem cf_st30 {S : sS} {P : sP} (h : CF S P) : ST S P 30 := by
  refine ⟨fun q hq => ?_, fun q hq => ?_⟩
  · simp only [stL, List.mem_cons, List.not_mem_nil, or_false] at hq
    rcases hq with rfl | rfl | rfl | rfl
    · exact cf_s30 h
    · exact cf_s31 h
    · exact cf_s32 h
    · exact cf_s33 h
  · simp only [stR, List.mem_cons, List.not_mem_nil, or_false] at hq
    rcases hq with rfl | rfl | rfl
    · exact cf_p30_0 h
    · exact cf_p30_1 h
    · exact cf_p30_2 h
theorem cf_st34 {S : sS} {P : sP} (h : CF S P) : ST S P 34 := by
  refine ⟨fun q hq => ?_, fun q hq => ?_⟩
  · simp only [stL, List.mem_cons, List.not_mem_nil, or_false] at hq
    rcases hq with rfl | rfl | rfl | rfl
    · exact cf_s34 h
    · exact cf_s35 h
    · exact cf_s36 h
    · exact cf_s37 h
  · simp only [stR, List.mem_cons, List.not_mem_nil, or_false] at hq
    rcases hq with rfl | rfl | rfl
    · exact cf_p34_0 h
    · exact cf_p34_1 h
    · exact cf_p34_2 h
theorem cf_st38 {S : sS} {P : sP} (h : CF S P) : ST S P 38 := by
  refine ⟨fun q hq => ?_, fun q hq => ?_⟩
  · simp only [stL, List.mem_cons, List.not_mem_nil, or_false] at hq
    rcases hq with rfl | rfl | rfl | rfl
    · exact cf_s38 h
    · exact cf_s39 h
    · exact cf_s40 h
    · exact cf_s41 h
  · simp only [stR, List.mem_cons, List.not_mem_nil, or_false] at hq
    rcases hq with rfl | rfl | rfl
    · exact cf_p38_0 h
    · exact cf_p38_1 h
    · exact cf_p38_2 h
theorem cf_st42 {S : sS} {P : sP} (h : CF S P) : ST S P 42 := by
  refine ⟨fun q hq => ?_, fun q hq => ?_⟩
  · simp only [stL, List.mem_cons, List.not_mem_nil, or_false] at hq
    rcases hq with rfl | rfl | rfl | rfl
    · exact cf_s42 h
    · exact cf_s43 h
    · exact cf_s44 h
    · exact cf_s45 h
  · simp only [stR, List.mem_cons, List.not_mem_nil, or_false] at hq
    rcases hq with rfl | rfl | rfl
    · exact cf_p42_0 h
    · exact cf_p42_1 h
    · exact cf_p42_2 h
theorem cf_st46 {S : sS} {P : sP} (h : CF S P) : ST S P 46 := by
  refine ⟨fun q hq => ?_, fun q hq => ?_⟩
  · simp only [stL, List.mem_cons, List.not_mem_nil, or_false] at hq
    rcases hq with rfl | rfl | rfl | rfl
    · exact cf_s46 h
    · exact cf_s47 h
    · exact cf_s48 h
    · exact cf_s49 h
  · simp only [stR, List.mem_cons, List.not_mem_nil, or_false] at hq
    rcases hq with rfl | rfl | rfl
    · exact cf_p46_0 h
    · exact cf_p46_1 h
    · exact cf_p46_2 h
theorem cf_st50 {S : sS} {P : sP} (h : CF S P) : ST S P 50 := by
  refine ⟨fun q hq => ?_, fun q hq => ?_⟩
  · simp only [stL, List.mem_cons, List.not_mem_nil, or_false] at hq
    rcases hq with rfl | rfl | rfl | rfl
    · exact cf_s50 h
    · exact cf_s51 h
    · exact cf_s52 h
    · exact cf_s53 h
  · simp only [stR, List.mem_cons, List.not_mem_nil, or_false] at hq
    rcases hq with rfl | rfl | rfl
    · exact cf_p50_0 h
    · exact cf_p50_1 h
    · exact cf_p50_2 h
theorem cf_st54 {S : sS} {P : sP} (h : CF S P) : ST S P 54 := by
  refine ⟨fun q hq => ?_, fun q hq => ?_⟩
  · simp only [stL, List.mem_cons, List.not_mem_nil, or_false] at hq
    rcases hq with rfl | rfl | rfl | rfl
    · exact cf_s54 h
    · exact cf_s55 h
    · exact cf_s56 h
    · exact cf_s57 h
  · simp only [stR, List.mem_cons, List.not_mem_nil, or_false] at hq
    rcases hq with rfl | rfl | rfl
    · exact cf_p54_0 h
    · exact cf_p54_1 h
    · exact cf_p54_2 h
theorem cf_st58 {S : sS} {P : sP} (h : CF S P) : ST S P 58 := by
  refine ⟨fun q hq => ?_, fun q hq => ?_⟩
  · simp only [stL, List.mem_cons, List.not_mem_nil, or_false] at hq
    rcases hq with rfl | rfl | rfl | rfl
    · exact cf_s58 h
    · exact cf_s59 h
    · exact cf_s60 h
    · exact cf_s61 h
  · simp only [stR, List.mem_cons, List.not_mem_nil, or_false] at hq
    rcases hq with rfl | rfl | rfl
    · exact cf_p58_0 h
    · exact cf_p58_1 h
    · exact cf_p58_2 h
theorem cf_st62 {S : sS} {P : sP} (h : CF S P) : ST S P 62 := by
  refine ⟨fun q hq => ?_, fun q hq => ?_⟩
  · simp only [stL, List.mem_cons, List.not_mem_nil, or_false] at hq
    rcases hq with rfl | rfl | rfl | rfl
    · exact cf_s62 h
    · exact cf_s63 h
    · exact cf_s64 h
    · exact cf_s65 h
  · simp only [stR, List.mem_cons, List.not_mem_nil, or_false] at hq
    rcases hq with rfl | rfl | rfl
    · exact cf_p62_0 h
    · exact cf_p62_1 h
    · exact cf_p62_2 h
theorem cf_st71 {S : sS} {P : sP} (h : CF S P) : ST S P 71 := by
  refine ⟨fun q hq => ?_, fun q hq => ?_⟩
  · simp only [stL, List.mem_cons, List.not_mem_nil, or_false] at hq
    rcases hq with rfl | rfl | rfl | rfl
    · exact cf_s71 h
    · exact cf_s72 h
    · exact cf_s73 h
    · exact cf_s74 h
  · simp only [stR, List.mem_cons, List.not_mem_nil, or_false] at hq
    rcases hq with rfl | rfl | rfl
    · exact cf_p71_0 h
    · exact cf_p71_1 h
    · exact cf_p71_2 h
theorem cf_st75 {S : sS} {P : sP} (h : CF S P) : ST S P 75 := by
  refine ⟨fun q hq => ?_, fun q hq => ?_⟩
  · simp only [stL, List.mem_cons, List.not_mem_nil, or_false] at hq
    rcases hq with rfl | rfl | rfl | rfl
    · exact cf_s75 h
    · exact cf_s76 h
    · exact cf_s77 h
    · exact cf_s78 h
  · simp only [stR, List.mem_cons, List.not_mem_nil, or_false] at hq
    rcases hq with rfl | rfl | rfl
    · exact cf_p75_0 h
    · exact cf_p75_1 h
    · exact cf_p75_2 h
theorem cf_ty79 {S : sS} {P : sP} (h : CF S P) : TY S P 79 := by
  refine ⟨fun q hq => ?_, fun q hq => ?_⟩
  · simp only [tyL, List.mem_cons, List.not_mem_nil, or_false] at hq
    rcases hq with rfl | rfl
    · exact cf_s79 h
    · exact cf_s80 h
  · simp only [tyR, List.mem_cons, List.not_mem_nil, or_false] at hq
    subst hq
    exact cf_p79_2 h
theorem cf_ty81 {S : sS} {P : sP} (h : CF S P) : TY S P 81 := by
  refine ⟨fun q hq => ?_, fun q hq => ?_⟩
  · simp only [tyL, List.mem_cons, List.not_mem_nil, or_false] at hq
    rcases hq with rfl | rfl
    · exact cf_s81 h
    · exact cf_s82 h
  · simp only [tyR, List.mem_cons, List.not_mem_nil, or_false] at hq
    subst hq
    exact cf_p81_2 h
theorem cf_ty83 {S : sS} {P : sP} (h : CF S P) : TY S P 83 := by
  refine ⟨fun q hq => ?_, fun q hq => ?_⟩
  · simp only [tyL, List.mem_cons, List.not_mem_nil, or_false] at hq
    rcases hq with rfl | rfl
    · exact cf_s83 h
    · exact cf_s84 h
  · simp only [tyR, List.mem_cons, List.not_mem_nil, or_false] at hq
    subst hq
    exact cf_p83_2 h
theorem cf_ty85 {S : sS} {P : sP} (h : CF S P) : TY S P 85 := by
  refine ⟨fun q hq => ?_, fun q hq => ?_⟩
  · simp only [tyL, List.mem_cons, List.not_mem_nil, or_false] at hq
    rcases hq with rfl | rfl
    · exact cf_s85 h
    · exact cf_s86 h
  · simp only [tyR, List.mem_cons, List.not_mem_nil, or_false] at hq
    subst hq
    exact cf_p85_2 h
def fillF {α : Type} (v : α) (n : Nat) (f : Nat → α) : Nat → α := fun i => if i < n then v else f i
theorem fillF_s {α : Type} {v : α} {k : Nat} {f : Nat → α} : pm_up (fillF v k f) k v = fillF v (k + 1) f := by
  funext i
  unfold pm_up fillF
  by_cases h : i = k
  · rw [if_pos h, if_pos (by omega)]
  · rw [if_neg h]
    by_cases h2 : i < k
    · rw [if_pos h2, if_pos (by omega)]
    · rw [if_neg h2, if_neg (by omega)]
theorem fillF_0 {α : Type} {v : α} {f : Nat → α} : fillF v 0 f = f := by
  funext i
  unfold fillF
  rw [if_neg (by omega)]
theorem fillF_i {α : Type} {v : α} {n i : Nat} {f : Nat → α} (h : i < n) : fillF v n f i = v := if_pos h
set_option maxRecDepth 20000 in
theorem l_filli {G : gT} {d : Nat} {S : sS} {V : sV} {P : sP} {A : sV} {B : sB} {Q : sP} {t sl : Nat} {a n : Nat} {v : Int32} (hs : S a = (20, n)) (hn : n ≤ 100000) : ∀ (m k : Nat), k + m = n → PW G d mJ7_fill_53178 5 [some (.ref a), some (.int v), some (.int (nI k)), some (.int (nI n))] [] (t, sl, gh S V P (pm_up A a (fillF v k (A a))) B Q) none (t, sl, gh S V P (pm_up A a (fillF v n (A a))) B Q) := by
  intro m
  induction m with
  | zero =>
    intro k hk
    have hk : k = n := hk
    subst hk
    refine pw_iload2 dJ7_fill_53178_5 ?_
    refine pw_iload3 dJ7_fill_53178_6 ?_
    refine pw_icmp_ge (tgt := 20) dJ7_fill_53178_7 (by decide) (fun c7 => ?_) (fun c7 => absurd (Int32.le_refl _) c7)
    exact pw_vret dJ7_fill_53178_20 rfl rfl rfl
  | succ m ih =>
    intro k hk
    refine pw_iload2 dJ7_fill_53178_5 ?_
    refine pw_iload3 dJ7_fill_53178_6 ?_
    refine pw_icmp_ge (tgt := 20) dJ7_fill_53178_7 (by decide) (fun c7 => absurd c7 (by rw [le_i (ix_n (j := n) (by omega)) (ix_n (j := k) (by omega))]; omega)) (fun c7 => ?_)
    refine pw_aload0 dJ7_fill_53178_10 ?_
    refine pw_iload2 dJ7_fill_53178_11 ?_
    refine pw_iload1 dJ7_fill_53178_12 ?_
    refine pw_ast (j := k) dJ7_fill_53178_13 hs (ix_m rfl (by omega)) (by omega)  ?_
    refine pw_iinc2 (v := 1) dJ7_fill_53178_14 (by decide) (by decide) (k := ?_)
    refine pw_goto (tgt := 5) dJ7_fill_53178_17 (by decide) ?_
    rw [nI_1, up2_up, fillF_s]
    exact ih (k + 1) (by omega)
set_option maxRecDepth 20000 in
theorem c_filli {G : gT} {d : Nat} {S : sS} {V : sV} {P : sP} {A : sV} {B : sB} {Q : sP} {t sl : Nat} {a n : Nat} (hs : S a = (20, n)) (hn : n ≤ 100000) (v : Int32) : PW G d mJ7_fill_53178 0 [some (.ref a), some (.int v), none, none] [] (t, sl, gh S V P A B Q) none (t, sl, gh S V P (pm_up A a (fillF v n (A a))) B Q) := by
  refine pw_iconst (v := 0) dJ7_fill_53178_0 (by decide) ?_
  refine pw_istore2 dJ7_fill_53178_1 (by decide) (k := ?_)
  refine pw_aload0 dJ7_fill_53178_2 ?_
  refine pw_len dJ7_fill_53178_3 hs (by decide) ?_
  refine pw_istore3 dJ7_fill_53178_4 (by decide) (k := ?_)
  have k0 := l_filli (G := G) (d := d) (V := V) (P := P) (A := A) (B := B) (Q := Q) (t := t) (sl := sl) (v := v) hs hn n 0 (by omega)
  rw [fillF_0, pm_up_self] at k0
  exact k0
set_option maxRecDepth 20000 in
theorem l_filll {G : gT} {d : Nat} {S : sS} {V : sV} {P : sP} {A : sV} {B : sB} {Q : sP} {t sl : Nat} {a n : Nat} {v : Int64} (hs : S a = (22, n)) (hn : n ≤ 100000) : ∀ (m k : Nat), k + m = n → PW G d mJ7_fill_d0a16 6 [some (.ref a), some (.long v), none, some (.int (nI k)), some (.int (nI n))] [] (t, sl, gh S V P A (pm_up B a (fillF v k (B a))) Q) none (t, sl, gh S V P A (pm_up B a (fillF v n (B a))) Q) := by
  intro m
  induction m with
  | zero =>
    intro k hk
    have hk : k = n := hk
    subst hk
    refine pw_iload3 dJ7_fill_d0a16_6 ?_
    refine pw_iload4 dJ7_fill_d0a16_7 ?_
    refine pw_icmp_ge (tgt := 22) dJ7_fill_d0a16_9 (by decide) (fun c9 => ?_) (fun c9 => absurd (Int32.le_refl _) c9)
    exact pw_vret dJ7_fill_d0a16_22 rfl rfl rfl
  | succ m ih =>
    intro k hk
    refine pw_iload3 dJ7_fill_d0a16_6 ?_
    refine pw_iload4 dJ7_fill_d0a16_7 ?_
    refine pw_icmp_ge (tgt := 22) dJ7_fill_d0a16_9 (by decide) (fun c9 => absurd c9 (by rw [le_i (ix_n (j := n) (by omega)) (ix_n (j := k) (by omega))]; omega)) (fun c9 => ?_)
    refine pw_aload0 dJ7_fill_d0a16_12 ?_
    refine pw_iload3 dJ7_fill_d0a16_13 ?_
    refine pw_lload1 dJ7_fill_d0a16_14 ?_
    refine pw_lst (j := k) dJ7_fill_d0a16_15 hs (ix_m rfl (by omega)) (by omega)  ?_
    refine pw_iinc3 (v := 1) dJ7_fill_d0a16_16 (by decide) (by decide) (k := ?_)
    refine pw_goto (tgt := 6) dJ7_fill_d0a16_19 (by decide) ?_
    rw [nI_1, up2_up, fillF_s]
    exact ih (k + 1) (by omega)
set_option maxRecDepth 20000 in
theorem c_filll {G : gT} {d : Nat} {S : sS} {V : sV} {P : sP} {A : sV} {B : sB} {Q : sP} {t sl : Nat} {a n : Nat} (hs : S a = (22, n)) (hn : n ≤ 100000) (v : Int64) : PW G d mJ7_fill_d0a16 0 [some (.ref a), some (.long v), none, none, none] [] (t, sl, gh S V P A B Q) none (t, sl, gh S V P A (pm_up B a (fillF v n (B a))) Q) := by
  refine pw_iconst (v := 0) dJ7_fill_d0a16_0 (by decide) ?_
  refine pw_istore3 dJ7_fill_d0a16_1 (by decide) (k := ?_)
  refine pw_aload0 dJ7_fill_d0a16_2 ?_
  refine pw_len dJ7_fill_d0a16_3 hs (by decide) ?_
  refine pw_istore4 dJ7_fill_d0a16_4 (by decide) (k := ?_)
  have k0 := l_filll (G := G) (d := d) (V := V) (P := P) (A := A) (B := B) (Q := Q) (t := t) (sl := sl) (v := v) hs hn n 0 (by omega)
  rw [fillF_0, pm_up_self] at k0
  exact k0
