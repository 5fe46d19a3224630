/-! ===== rules of the pure machine: fields, arrays, new cells ===== -/
theorem pm_ci {ci : Nat} {q : vw_C} (h : vwCl[ci]? = some q) : ci < 13 := (List.getElem?_eq_some_iff.mp h).1
theorem pm_a1 (G : gT) (a : vp_A) : (pm_a G a).1 = a.1 := by
  obtain ⟨n, f | f | f | f | f⟩ := a <;> rfl
/-- a field of an object of class ci, as the class own links it at idx -/
def pm_GF (own : String) (idx ci k : Nat) : Prop := ∃ (C : String) (T : u_T) (N : Nat), vwCl[ci]? = some (C, T, N) ∧ k < N ∧ (∀ w ∈ u_ws C T N, w ∈ GT) ∧ Cond.fieldLink own idx (T k).1 (T k).2.1 (T k).2.2.1 ∈ GT
/-- the same, and what may be stored there (in a constructor a final field too) -/
def pm_PF (y : MethodName) (idx ci k : Nat) (ty : FieldType) : Prop := ∃ (C : String) (T : u_T) (N : Nat) (ty0 : Nat → FieldType), vwCl[ci]? = some (C, T, N) ∧ k < N ∧ (∀ w ∈ u_ws C T N, w ∈ GT) ∧ Cond.fieldLink y.cls idx (T k).1 (T k).2.1 (T k).2.2.1 ∈ GT ∧ (∀ k, k < N → parseFieldDescriptor (T k).2.2.1 = some (ty0 k)) ∧ (∀ a, a < N → ∀ b, b < N → a ≠ b → (T a).2.1 ≠ (T b).2.1) ∧ ty0 k = ty ∧ ((T k).2.2.2 = false ∨ ((T k).2.2.2 = true ∧ y.name = "<init>" ∧ (T k).1 = y.cls))
section PW6
variable {G : gT} {d : Nat} {M : mT} {pc : Nat} {ls : List (Option Value)} {st : List Value} {t sl : Nat} {f : Nat → Pe} {h h' : Ph} {r : Option Value}
theorem pw_getfield {a ci i idx : Nat} {fs : List Value} {v : Value} (hg : pm_GF M.1.cls idx ci i) (hd : decode M.2.1 pc = .ok (.getfield idx, 3)) (hc : h.2.2 a = .inr (ci, fs)) (hv : fs[i]? = some v) (k : PW G d M (pc + 3) ls (v :: st) h r h') : PW G d M pc ls (.ref a :: st) h r h' := by
  refine ⟨k.1, ?_⟩
  intro p e R s m args below meth c H locs cells slots lsA Q C hS hR hL hz h1 h2 hQ
  obtain ⟨Cn, T, N, g1, g2, g3, g4⟩ := hg
  exact va_get C.1 C.2.1 C.2.2.2.2.1 g3 C.2.2.2.1 C.2.2.2.2.2.1.1 hR.2.1 (a - 8) (hR.got hc (pm_inr_J (pm_ci g1))) g1 i g2 (C.2.2.2.2.1 _ g4) (fun x hx => hx) (v := pm_v G v) (by rw [List.getElem?_map, hv]; rfl) hd (k.2 p e R s m args below meth c H locs cells slots lsA Q C hS hR hL hz h1 h2 hQ)
theorem pw_getfieldN {a ci i idx : Nat} {fs : List Value} {v : Value} {C0 : String} {T : u_T} {N : Nat} {host : String} (g1 : vwCl[ci]? = some (C0, T, N)) (g2 : i < N) (g3 : ∀ w ∈ u_ws C0 T N, w ∈ GT) (g4 : Cond.fieldLinkNest M.1.cls idx (T i).1 (T i).2.1 (T i).2.2.1 host ∈ pm_nest) (hd : decode M.2.1 pc = .ok (.getfield idx, 3)) (hc : h.2.2 a = .inr (ci, fs)) (hv : fs[i]? = some v) (k : PW G d M (pc + 3) ls (v :: st) h r h') : PW G d M pc ls (.ref a :: st) h r h' := by
  refine ⟨k.1, ?_⟩
  intro p e R s m args below meth c H locs cells slots lsA Q C hS hR hL hz h1 h2 hQ
  exact va_getN C.1 C.2.1 C.2.2.2.2.1 g3 C.2.2.2.1 C.2.2.2.2.2.1.1 hR.2.1 (a - 8) (hR.got hc (pm_inr_J (pm_ci g1))) g1 i g2 (va_Nw.use rfl (C.2.2.2.2.2.1.2.1 _ g4)) (fun x hx => hx) (v := pm_v G v) (by rw [List.getElem?_map, hv]; rfl) hd (k.2 p e R s m args below meth c H locs cells slots lsA Q C hS hR hL hz h1 h2 hQ)
theorem pm_nar (G : gT) {ty : FieldType} {v : Value} (h : narrow ty v = v) : narrow ty (pm_v G v) = pm_v G v := by
  cases v <;> first | exact h | (cases ty <;> rfl)
theorem pm_fit (G : gT) {ty : FieldType} {v : Value} (h : fits ty v = true) : fits ty (pm_v G v) = true := by
  cases v <;> first | exact h | (cases ty <;> first | rfl | cases h)
theorem pw_putfield {a ci i idx : Nat} {fs : List Value} {v : Value} {ty : FieldType} (hg : pm_PF M.1 idx ci i ty) (hd : decode M.2.1 pc = .ok (.putfield idx, 3)) (hc : f a = .inr (ci, fs)) (hl : i < fs.length) (hn : narrow ty v = v) (hf : fits ty v = true) (k : PW G d M (pc + 3) ls st (t, sl, pm_up f a (.inr (ci, fs.set i v))) r h') : PW G d M pc ls (v :: .ref a :: st) (t, sl, f) r h' := by
  refine ⟨k.1, ?_⟩
  intro p e R s m args below meth c H locs cells slots lsA Q C hS hR hL hz h1 h2 hQ
  obtain ⟨Cn, T, N, ty0, g1, g2, g3, g4, g5, g6, g7, g8⟩ := hg
  have hgot := hR.got (h := (t, sl, f)) hc (pm_inr_J (pm_ci g1))
  have hlm : i < (fs.map (pm_v G)).length := by rw [List.length_map]; exact hl
  have hj : (.inr (ci, fs) : Pe) ≠ pm_J := pm_inr_J (pm_ci g1)
  have kk : ∀ (H1 : Heap) (locs1 : List Loc), va_P G.2.1 vwCl ((pm_W G (t, sl, f)).set (a - 8) (pm_ad G a, .inr (ci, (fs.map (pm_v G)).set i (pm_v G v)))) H1 → va_D (pm_A G) ((pm_W G (t, sl, f)).set (a - 8) (pm_ad G a, .inr (ci, (fs.map (pm_v G)).set i (pm_v G v)))) → va_S (pm_A G) s.heap H1 locs1 → W p G.1 e R s m args below meth c H1 locs1 cells slots Q (F0 m (pc + 3) lsA (st.map (pm_v G))) := by
    intro H1 locs1 hP1 _ hS1
    refine k.2 p e R s m args below meth c H1 locs1 cells slots lsA Q C hS1 (hR.put hc hj ?_) hL hz h1 h2 hQ
    show va_P G.2.1 vwCl ((pm_W G (t, sl, f)).set (a - 8) (pm_ad G a, .inr (ci, (fs.set i v).map (pm_v G)))) H1
    rw [List.map_set]
    exact hP1
  have hd9 : parseFieldDescriptor (T i).2.2.1 = some ty := by rw [g5 i g2, g7]
  rcases g8 with g8 | ⟨g8, g9, g10⟩
  · exact va_put C.1 C.2.1 C.2.2.2.2.1 g3 ty0 g5 g6 C.2.2.2.1 C.2.2.2.2.2.1.1 hR.2.1 (pm_D G _) hS (a - 8) hgot g1 i g2 (C.2.2.2.2.1 _ g4) (fun x hx => hx) g8 hd9 (pm_nar G hn) (pm_fit G hf) hlm hd kk
  · exact va_putF C.1 C.2.1 C.2.2.2.2.1 g3 ty0 g5 g6 C.2.2.2.1 C.2.2.2.2.2.1.1 hR.2.1 (pm_D G _) hS (a - 8) hgot g1 i g2 (C.2.2.2.2.1 _ g4) (fun x hx => hx) g8 (C.2.2.2.2.2.2.2.2.2.1.trans g9) g10 hd9 (pm_nar G hn) (pm_fit G hf) hlm hd kk
theorem pw_iaload {a n : Nat} {g : Nat → Int32} {i : Int32} (hd : decode M.2.1 pc = .ok (.iaload, 1)) (hc : h.2.2 a = .inl (0, n, .inl g)) (hi : vp_in i n) (k : PW G d M (pc + 1) ls (.int (g i.toNatClampNeg) :: st) h r h') : PW G d M pc ls (.int i :: .ref a :: st) h r h' := by
  refine ⟨k.1, ?_⟩
  intro p e R s m args below meth c H locs cells slots lsA Q C hS hR hL hz h1 h2 hQ
  exact va_iald C.1 C.2.1 C.2.2.2.2.2.1.1 hR.2.1 (a - 8) 0 (hR.got hc pm_inl_J) rfl hi hd (k.2 p e R s m args below meth c H locs cells slots lsA Q C hS hR hL hz h1 h2 hQ)
theorem pw_baload {a n : Nat} {g : Nat → Int32} {i : Int32} (hd : decode M.2.1 pc = .ok (.baload, 1)) (hc : h.2.2 a = .inl (1, n, .inl g)) (hi : vp_in i n) (k : PW G d M (pc + 1) ls (.int (g i.toNatClampNeg) :: st) h r h') : PW G d M pc ls (.int i :: .ref a :: st) h r h' := by
  refine ⟨k.1, ?_⟩
  intro p e R s m args below meth c H locs cells slots lsA Q C hS hR hL hz h1 h2 hQ
  exact va_bald C.1 C.2.1 C.2.2.2.2.2.1.1 hR.2.1 (a - 8) 1 (hR.got hc pm_inl_J) rfl hi hd (k.2 p e R s m args below meth c H locs cells slots lsA Q C hS hR hL hz h1 h2 hQ)
theorem pw_zaload {a n : Nat} {g : Nat → Int32} {i : Int32} (hd : decode M.2.1 pc = .ok (.baload, 1)) (hc : h.2.2 a = .inl (3, n, .inl g)) (hi : vp_in i n) (k : PW G d M (pc + 1) ls (.int (g i.toNatClampNeg) :: st) h r h') : PW G d M pc ls (.int i :: .ref a :: st) h r h' := by
  refine ⟨k.1, ?_⟩
  intro p e R s m args below meth c H locs cells slots lsA Q C hS hR hL hz h1 h2 hQ
  exact va_zald C.1 C.2.1 C.2.2.2.2.2.1.1 hR.2.1 (a - 8) 3 (hR.got hc pm_inl_J) rfl hi hd (k.2 p e R s m args below meth c H locs cells slots lsA Q C hS hR hL hz h1 h2 hQ)
theorem pw_laload {a n : Nat} {g : Nat → Int64} {i : Int32} (hd : decode M.2.1 pc = .ok (.laload, 1)) (hc : h.2.2 a = .inl (2, n, .inr (.inl g))) (hi : vp_in i n) (k : PW G d M (pc + 1) ls (.long (g i.toNatClampNeg) :: st) h r h') : PW G d M pc ls (.int i :: .ref a :: st) h r h' := by
  refine ⟨k.1, ?_⟩
  intro p e R s m args below meth c H locs cells slots lsA Q C hS hR hL hz h1 h2 hQ
  exact va_lald C.1 C.2.1 C.2.2.2.2.2.1.1 hR.2.1 (a - 8) 2 (hR.got hc pm_inl_J) rfl hi hd (k.2 p e R s m args below meth c H locs cells slots lsA Q C hS hR hL hz h1 h2 hQ)
theorem pw_saload {i : Int32} (hd : decode M.2.1 pc = .ok (.iaload, 1)) (hi : vp_in i G.2.2.2.1.2.1) (k : PW G d M (pc + 1) ls (.int (G.2.2.2.1.2.2 i.toNatClampNeg) :: st) h r h') : PW G d M pc ls (.int i :: .ref 0 :: st) h r h' := by
  refine ⟨k.1, ?_⟩
  intro p e R s m args below meth c H locs cells slots lsA Q C hS hR hL hz h1 h2 hQ
  obtain ⟨-, -, -, -, hX, -, -, hb, hs⟩ := C.2.2.2.2.2.1
  exact va_sld C.1 C.2.1 hX (Nat.lt_of_lt_of_le hb hs) (Nat.not_le.mpr hb) hS hi hd (k.2 p e R s m args below meth c H locs cells slots lsA Q C hS hR hL hz h1 h2 hQ)
theorem pw_slen (hd : decode M.2.1 pc = .ok (.arraylength, 1)) (k : PW G d M (pc + 1) ls (.int (Int32.ofNat G.2.2.2.1.2.1) :: st) h r h') : PW G d M pc ls (.ref 0 :: st) h r h' := by
  refine ⟨k.1, ?_⟩
  intro p e R s m args below meth c H locs cells slots lsA Q C hS hR hL hz h1 h2 hQ
  obtain ⟨-, -, -, -, hX, -, -, hb, hs⟩ := C.2.2.2.2.2.1
  exact va_slen C.1 C.2.1 hX (Nat.lt_of_lt_of_le hb hs) (Nat.not_le.mpr hb) hS hd (k.2 p e R s m args below meth c H locs cells slots lsA Q C hS hR hL hz h1 h2 hQ)
theorem pm_tys_at (G : gT) {q : Nat} (hq : q < 9) : ∃ ty, (pm_tys G)[q]? = some (G.2.2.1 q, ty) := by
  rcases (show q = 0 ∨ q = 1 ∨ q = 2 ∨ q = 3 ∨ q = 4 ∨ q = 5 ∨ q = 6 ∨ q = 7 ∨ q = 8 by omega) with rfl | rfl | rfl | rfl | rfl | rfl | rfl | rfl | rfl <;> exact ⟨_, rfl⟩
theorem pw_alen {a q : Nat} {x : vp_A} (hd : decode M.2.1 pc = .ok (.arraylength, 1)) (hc : h.2.2 a = .inl (q, x)) (hq : q < 9) (k : PW G d M (pc + 1) ls (.int (Int32.ofNat x.1) :: st) h r h') : PW G d M pc ls (.ref a :: st) h r h' := by
  refine ⟨k.1, ?_⟩
  intro p e R s m args below meth c H locs cells slots lsA Q C hS hR hL hz h1 h2 hQ
  obtain ⟨ty, hty⟩ := pm_tys_at G hq
  exact va_alen C.1 C.2.1 C.2.2.2.2.2.1.1 hR.2.1 (a - 8) q (hR.got hc pm_inl_J) hty (by rw [pm_a1]) hd (k.2 p e R s m args below meth c H locs cells slots lsA Q C hS hR hL hz h1 h2 hQ)
theorem pw_aaload {a n q : Nat} {g : Nat → Option Nat} {i : Int32} (hd : decode M.2.1 pc = .ok (.aaload, 1)) (hc : h.2.2 a = .inl (q, n, .inr (.inr (.inr (.inr g))))) (hq : 4 ≤ q ∧ q < 9) (hi : vp_in i n) (k : PW G d M (pc + 1) ls (va_rf (g i.toNatClampNeg) :: st) h r h') : PW G d M pc ls (.int i :: .ref a :: st) h r h' := by
  refine ⟨k.1, ?_⟩
  intro p e R s m args below meth c H locs cells slots lsA Q C hS hR hL hz h1 h2 hQ
  have hty : ∃ ty : FieldType, (pm_tys G)[q]? = some (G.2.2.1 q, ty) ∧ ty.isReference = true := by
    rcases (show q = 4 ∨ q = 5 ∨ q = 6 ∨ q = 7 ∨ q = 8 by omega) with rfl | rfl | rfl | rfl | rfl <;> exact ⟨_, rfl, rfl⟩
  obtain ⟨ty, hty, hre⟩ := hty
  have hlt : i.toNatClampNeg < n := Nat.not_le.mp fun q => hi (Or.inr q)
  have hP := hR.2.1 _ _ (hR.got hc pm_inl_J)
  have kk := k.2 p e R s m args below meth c H locs cells slots lsA Q C hS hR hL hz h1 h2 hQ
  have kk2 : W p G.1 e R s m args below meth c H locs cells slots Q (F0 m (pc + 1) lsA (va_rf ((g i.toNatClampNeg).map (pm_ad G)) :: st.map (pm_v G))) := by
    rw [← pm_v_rf]
    exact kk
  exact W.aald (v := va_rf ((g i.toNatClampNeg).map (pm_ad G))) (ty := ty) C.1 C.2.1 hP ((C.2.2.2.2.2.1.1.2 q _ hty).1 n (fun j => va_rf ((g j).map (pm_ad G)))) hre (fun q => by cases q) (by show ¬ (i < 0 ∨ (arrV _ _ _).slots.size ≤ _); rw [arrV_size]; exact hi) (by exact arrV_read (G.2.2.1 q) (N := n) (fun j => va_rf ((g j).map (pm_ad G))) hlt) rfl rfl hd kk2
theorem pw_iastore {a n : Nat} {g : Nat → Int32} {i x : Int32} (hd : decode M.2.1 pc = .ok (.iastore, 1)) (hc : f a = .inl (0, n, .inl g)) (hi : vp_in i n) (k : PW G d M (pc + 1) ls st (t, sl, pm_up f a (.inl (0, n, .inl (pm_up g i.toNatClampNeg x)))) r h') : PW G d M pc ls (.int x :: .int i :: .ref a :: st) (t, sl, f) r h' := by
  refine ⟨k.1, ?_⟩
  intro p e R s m args below meth c H locs cells slots lsA Q C hS hR hL hz h1 h2 hQ
  exact va_iast C.1 C.2.1 C.2.2.2.2.2.1.1 hR.2.1 (pm_D G _) hS (a - 8) 0 (hR.got hc pm_inl_J) rfl hi hd (fun H1 locs1 hP1 _ hS1 => k.2 p e R s m args below meth c H1 locs1 cells slots lsA Q C hS1 (hR.put hc pm_inl_J hP1) hL hz h1 h2 hQ)
theorem pw_bastore {a n : Nat} {g : Nat → Int32} {i x : Int32} (hd : decode M.2.1 pc = .ok (.bastore, 1)) (hc : f a = .inl (1, n, .inl g)) (hi : vp_in i n) (k : PW G d M (pc + 1) ls st (t, sl, pm_up f a (.inl (1, n, .inl (pm_up g i.toNatClampNeg (vp_nar .byte x))))) r h') : PW G d M pc ls (.int x :: .int i :: .ref a :: st) (t, sl, f) r h' := by
  refine ⟨k.1, ?_⟩
  intro p e R s m args below meth c H locs cells slots lsA Q C hS hR hL hz h1 h2 hQ
  exact va_bast C.1 C.2.1 C.2.2.2.2.2.1.1 hR.2.1 (pm_D G _) hS (a - 8) 1 (hR.got hc pm_inl_J) rfl hi hd (fun H1 locs1 hP1 _ hS1 => k.2 p e R s m args below meth c H1 locs1 cells slots lsA Q C hS1 (hR.put hc pm_inl_J hP1) hL hz h1 h2 hQ)
theorem pw_zastore {a n : Nat} {g : Nat → Int32} {i x : Int32} (hd : decode M.2.1 pc = .ok (.bastore, 1)) (hc : f a = .inl (3, n, .inl g)) (hi : vp_in i n) (k : PW G d M (pc + 1) ls st (t, sl, pm_up f a (.inl (3, n, .inl (pm_up g i.toNatClampNeg (vp_nar .boolean x))))) r h') : PW G d M pc ls (.int x :: .int i :: .ref a :: st) (t, sl, f) r h' := by
  refine ⟨k.1, ?_⟩
  intro p e R s m args below meth c H locs cells slots lsA Q C hS hR hL hz h1 h2 hQ
  exact va_zast C.1 C.2.1 C.2.2.2.2.2.1.1 hR.2.1 (pm_D G _) hS (a - 8) 3 (hR.got hc pm_inl_J) rfl hi hd (fun H1 locs1 hP1 _ hS1 => k.2 p e R s m args below meth c H1 locs1 cells slots lsA Q C hS1 (hR.put hc pm_inl_J hP1) hL hz h1 h2 hQ)
theorem pw_lastore {a n : Nat} {g : Nat → Int64} {i : Int32} {x : Int64} (hd : decode M.2.1 pc = .ok (.lastore, 1)) (hc : f a = .inl (2, n, .inr (.inl g))) (hi : vp_in i n) (k : PW G d M (pc + 1) ls st (t, sl, pm_up f a (.inl (2, n, .inr (.inl (pm_up g i.toNatClampNeg x))))) r h') : PW G d M pc ls (.long x :: .int i :: .ref a :: st) (t, sl, f) r h' := by
  refine ⟨k.1, ?_⟩
  intro p e R s m args below meth c H locs cells slots lsA Q C hS hR hL hz h1 h2 hQ
  exact va_last C.1 C.2.1 C.2.2.2.2.2.1.1 hR.2.1 (pm_D G _) hS (a - 8) 2 (hR.got hc pm_inl_J) rfl hi hd (fun H1 locs1 hP1 _ hS1 => k.2 p e R s m args below meth c H1 locs1 cells slots lsA Q C hS1 (hR.put hc pm_inl_J hP1) hL hz h1 h2 hQ)
theorem pm_up_map (G : gT) (g : Nat → Option Nat) (j : Nat) (o : Option Nat) : (fun q => ((pm_up g j o) q).map (pm_ad G)) = va_up (fun q => (g q).map (pm_ad G)) j (o.map (pm_ad G)) := by
  funext q
  unfold pm_up va_up
  split <;> rfl
/-- a reference to an object into an array of such -/
theorem pw_aastore {a n q b ci : Nat} {g : Nat → Option Nat} {fs : List Value} {i : Int32} {C0 : String} {T0 : u_T} {N0 : Nat} (hd : decode M.2.1 pc = .ok (.aastore, 1)) (hc : f a = .inl (q, n, .inr (.inr (.inr (.inr g))))) (hb : f b = .inr (ci, fs)) (h0 : vwCl[ci]? = some (C0, T0, N0)) (ht : ∀ G : gT, (pm_tys G)[q]? = some (G.2.2.1 q, .object C0)) (hi : vp_in i n) (k : PW G d M (pc + 1) ls st (t, sl, pm_up f a (.inl (q, n, .inr (.inr (.inr (.inr (pm_up g i.toNatClampNeg (some b)))))))) r h') : PW G d M pc ls (.ref b :: .int i :: .ref a :: st) (t, sl, f) r h' := by
  refine ⟨k.1, ?_⟩
  intro p e R s m args below meth c H locs cells slots lsA Q C hS hR hL hz h1 h2 hQ
  refine va_astq (r := (C0, T0, N0)) C.1 C.2.1 C.2.2.2.2.2.1.1 hR.2.1 (pm_D G _) hS (a - 8) q (b - 8) ci (hR.got hc pm_inl_J) (ht G) (hR.got hb (pm_inr_J (pm_ci h0))) h0 hi hd (fun H1 locs1 hP1 _ hS1 => k.2 p e R s m args below meth c H1 locs1 cells slots lsA Q C hS1 (hR.put hc pm_inl_J ?_) hL hz h1 h2 hQ)
  show va_P G.2.1 vwCl ((pm_W G (t, sl, f)).set (a - 8) (pm_ad G a, .inl (G.2.2.1 q, n, .inr (.inr (.inr (.inr (fun j => ((pm_up g i.toNatClampNeg (some b)) j).map (pm_ad G)))))))) H1
  rw [pm_up_map]
  exact hP1
end PW6
