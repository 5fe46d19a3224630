/-! ===== rules of the pure machine: numbers, stack, locals, branches ===== -/
def pm_lv (G : gT) (ls : List (Option Value)) : List (Nat × Value) := (List.range ls.length).filterMap fun j => match ls[j]? with
  | some (some w) => some (j, pm_v G w)
  | _ => none
theorem pm_lv_mem {G : gT} {ls : List (Option Value)} {j : Nat} {w : Value} (h : ls[j]? = some (some w)) : (j, pm_v G w) ∈ pm_lv G ls := by
  refine List.mem_filterMap.mpr ⟨j, List.mem_range.mpr (List.getElem?_eq_some_iff.mp h).1, ?_⟩
  rw [h]
theorem pm_L.has {G : gT} {n : Nat} {lsA : Array Slot} {ls : List (Option Value)} (h : pm_L G n lsA ls) : lv_has lsA n (pm_lv G ls) := by
  refine ⟨h.1, h.2.1, fun q hq => ?_⟩
  obtain ⟨j, -, hj⟩ := List.mem_filterMap.mp hq
  cases hl : ls[j]? with
  | none => rw [hl] at hj; cases hj
  | some o =>
    cases o with
    | none => rw [hl] at hj; cases hj
    | some w =>
      rw [hl] at hj
      cases hj
      exact h.2.2 j w hl
/-- a word of category 1 into a place: the place ahead doesn't hold a wide one -/
theorem pm_st1 {G : gT} {n i : Nat} {lsA : Array Slot} {ls : List (Option Value)} {v : Value} (h : lv_has lsA n ((i, pm_v G v) :: (pm_lv G ls).filter (fun q => !(q.1 == i) && !(q.1 + 1 == i && q.2.category == 2)))) (hp : ∀ w, i ≠ 0 → ls[i - 1]? = some (some w) → w.category ≠ 2) : pm_L G n lsA (ls.set i (some v)) := by
  refine ⟨h.1, h.2.1, fun j w hj => ?_⟩
  by_cases hji : j = i
  · subst hji
    have hl : j < ls.length := by
      have := (List.getElem?_eq_some_iff.mp hj).1
      rwa [List.length_set] at this
    rw [List.getElem?_set_self hl] at hj
    cases hj
    exact h.2.2 (j, pm_v G v) List.mem_cons_self
  · rw [List.getElem?_set_ne (Ne.symm hji)] at hj
    refine h.2.2 (j, pm_v G w) (List.mem_cons_of_mem _ (List.mem_filter.mpr ⟨pm_lv_mem hj, ?_⟩))
    have h2 : ¬ (j + 1 = i ∧ w.category = 2) := fun q => hp w (by omega) (by rw [← q.1, Nat.add_sub_cancel]; exact hj) q.2
    have h3 : (pm_v G w).category = w.category := pm_v_cat G w
    simp only [Bool.and_eq_true, Bool.not_eq_true', Bool.and_eq_false_iff, beq_eq_false_iff_ne, ne_eq, h3]
    refine ⟨hji, ?_⟩
    by_cases h4 : j + 1 = i
    · exact Or.inr fun q => h2 ⟨h4, q⟩
    · exact Or.inl h4
theorem pm_st2 {G : gT} {n i : Nat} {lsA : Array Slot} {ls : List (Option Value)} {v : Value} (h : lv_has lsA n ((i, pm_v G v) :: (pm_lv G ls).filter (fun q => !(q.1 == i) && (!(q.1 == i + 1) && !(q.1 + 1 == i && q.2.category == 2))))) (hp : ∀ w, i ≠ 0 → ls[i - 1]? = some (some w) → w.category ≠ 2) : pm_L G n lsA ((ls.set i (some v)).set (i + 1) none) := by
  refine ⟨h.1, h.2.1, fun j w hj => ?_⟩
  by_cases hj1 : j = i + 1
  · subst hj1
    by_cases hl : i + 1 < (ls.set i (some v)).length
    · rw [List.getElem?_set_self hl] at hj
      cases hj
    · rw [List.getElem?_eq_none (by rw [List.length_set]; exact Nat.le_of_not_lt hl)] at hj
      cases hj
  · rw [List.getElem?_set_ne (Ne.symm hj1)] at hj
    by_cases hji : j = i
    · subst hji
      have hl : j < ls.length := by
        have := (List.getElem?_eq_some_iff.mp hj).1
        rwa [List.length_set] at this
      rw [List.getElem?_set_self hl] at hj
      cases hj
      exact h.2.2 (j, pm_v G v) List.mem_cons_self
    · rw [List.getElem?_set_ne (Ne.symm hji)] at hj
      refine h.2.2 (j, pm_v G w) (List.mem_cons_of_mem _ (List.mem_filter.mpr ⟨pm_lv_mem hj, ?_⟩))
      have h2 : ¬ (j + 1 = i ∧ w.category = 2) := fun q => hp w (by omega) (by rw [← q.1, Nat.add_sub_cancel]; exact hj) q.2
      have h3 : (pm_v G w).category = w.category := pm_v_cat G w
      simp only [Bool.and_eq_true, Bool.not_eq_true', Bool.and_eq_false_iff, beq_eq_false_iff_ne, ne_eq, h3]
      refine ⟨hji, hj1, ?_⟩
      by_cases h4 : j + 1 = i
      · exact Or.inr fun q => h2 ⟨h4, q⟩
      · exact Or.inl h4
section PW5
variable {G : gT} {d : Nat} {M : mT} {pc : Nat} {ls : List (Option Value)} {st : List Value} {h h' : Ph} {r : Option Value}
theorem pw_iconst {n : Int} {v : Int32} (hd : decode M.2.1 pc = .ok (.iconst n, 1)) (hv : Int32.ofInt n = v) (k : PW G d M (pc + 1) ls (.int v :: st) h r h') : PW G d M pc ls (st) h r h' := by
  refine ⟨k.1, ?_⟩
  intro p e R s m args below meth c H locs cells slots lsA Q C hS hR hL hz h1 h2 hQ
  exact lv_iconst C.1 C.2.1 hd hv (k.2 p e R s m args below meth c H locs cells slots lsA Q C hS hR hL hz h1 h2 hQ)
theorem pw_bipush {n : Int} {v : Int32} (hd : decode M.2.1 pc = .ok (.bipush n, 2)) (hv : (Int8.ofInt n).toInt32 = v) (k : PW G d M (pc + 2) ls (.int v :: st) h r h') : PW G d M pc ls (st) h r h' := by
  refine ⟨k.1, ?_⟩
  intro p e R s m args below meth c H locs cells slots lsA Q C hS hR hL hz h1 h2 hQ
  exact lv_bipush C.1 C.2.1 hd hv (k.2 p e R s m args below meth c H locs cells slots lsA Q C hS hR hL hz h1 h2 hQ)
theorem pw_sipush {n : Int} {v : Int32} (hd : decode M.2.1 pc = .ok (.sipush n, 3)) (hv : (Int16.ofInt n).toInt32 = v) (k : PW G d M (pc + 3) ls (.int v :: st) h r h') : PW G d M pc ls (st) h r h' := by
  refine ⟨k.1, ?_⟩
  intro p e R s m args below meth c H locs cells slots lsA Q C hS hR hL hz h1 h2 hQ
  exact lv_sipush C.1 C.2.1 hd hv (k.2 p e R s m args below meth c H locs cells slots lsA Q C hS hR hL hz h1 h2 hQ)
theorem pw_lconst {n : Fin 2} {v : Int64} (hd : decode M.2.1 pc = .ok (.lconst n, 1)) (hv : Int64.ofNat (n : Nat) = v) (k : PW G d M (pc + 1) ls (.long v :: st) h r h') : PW G d M pc ls (st) h r h' := by
  refine ⟨k.1, ?_⟩
  intro p e R s m args below meth c H locs cells slots lsA Q C hS hR hL hz h1 h2 hQ
  exact lv_lconst C.1 C.2.1 hd hv (k.2 p e R s m args below meth c H locs cells slots lsA Q C hS hR hL hz h1 h2 hQ)
theorem pw_iadd {x y : Int32} (hd : decode M.2.1 pc = .ok (.iadd, 1))  (k : PW G d M (pc + 1) ls (.int (x + y) :: st) h r h') : PW G d M pc ls (.int y :: .int x :: st) h r h' := by
  refine ⟨k.1, ?_⟩
  intro p e R s m args below meth c H locs cells slots lsA Q C hS hR hL hz h1 h2 hQ
  exact lv_iadd C.1 C.2.1 hd  (k.2 p e R s m args below meth c H locs cells slots lsA Q C hS hR hL hz h1 h2 hQ)
theorem pw_isub {x y : Int32} (hd : decode M.2.1 pc = .ok (.isub, 1))  (k : PW G d M (pc + 1) ls (.int (x - y) :: st) h r h') : PW G d M pc ls (.int y :: .int x :: st) h r h' := by
  refine ⟨k.1, ?_⟩
  intro p e R s m args below meth c H locs cells slots lsA Q C hS hR hL hz h1 h2 hQ
  exact lv_isub C.1 C.2.1 hd  (k.2 p e R s m args below meth c H locs cells slots lsA Q C hS hR hL hz h1 h2 hQ)
theorem pw_imul {x y : Int32} (hd : decode M.2.1 pc = .ok (.imul, 1))  (k : PW G d M (pc + 1) ls (.int (x * y) :: st) h r h') : PW G d M pc ls (.int y :: .int x :: st) h r h' := by
  refine ⟨k.1, ?_⟩
  intro p e R s m args below meth c H locs cells slots lsA Q C hS hR hL hz h1 h2 hQ
  exact lv_imul C.1 C.2.1 hd  (k.2 p e R s m args below meth c H locs cells slots lsA Q C hS hR hL hz h1 h2 hQ)
theorem pw_iand {x y : Int32} (hd : decode M.2.1 pc = .ok (.iand, 1))  (k : PW G d M (pc + 1) ls (.int (x &&& y) :: st) h r h') : PW G d M pc ls (.int y :: .int x :: st) h r h' := by
  refine ⟨k.1, ?_⟩
  intro p e R s m args below meth c H locs cells slots lsA Q C hS hR hL hz h1 h2 hQ
  exact lv_iand C.1 C.2.1 hd  (k.2 p e R s m args below meth c H locs cells slots lsA Q C hS hR hL hz h1 h2 hQ)
theorem pw_ior {x y : Int32} (hd : decode M.2.1 pc = .ok (.ior, 1))  (k : PW G d M (pc + 1) ls (.int (x ||| y) :: st) h r h') : PW G d M pc ls (.int y :: .int x :: st) h r h' := by
  refine ⟨k.1, ?_⟩
  intro p e R s m args below meth c H locs cells slots lsA Q C hS hR hL hz h1 h2 hQ
  exact lv_ior C.1 C.2.1 hd  (k.2 p e R s m args below meth c H locs cells slots lsA Q C hS hR hL hz h1 h2 hQ)
theorem pw_ixor {x y : Int32} (hd : decode M.2.1 pc = .ok (.ixor, 1))  (k : PW G d M (pc + 1) ls (.int (x ^^^ y) :: st) h r h') : PW G d M pc ls (.int y :: .int x :: st) h r h' := by
  refine ⟨k.1, ?_⟩
  intro p e R s m args below meth c H locs cells slots lsA Q C hS hR hL hz h1 h2 hQ
  exact lv_ixor C.1 C.2.1 hd  (k.2 p e R s m args below meth c H locs cells slots lsA Q C hS hR hL hz h1 h2 hQ)
theorem pw_ishl {x y : Int32} (hd : decode M.2.1 pc = .ok (.ishl, 1))  (k : PW G d M (pc + 1) ls (.int (x <<< (y &&& 31)) :: st) h r h') : PW G d M pc ls (.int y :: .int x :: st) h r h' := by
  refine ⟨k.1, ?_⟩
  intro p e R s m args below meth c H locs cells slots lsA Q C hS hR hL hz h1 h2 hQ
  exact lv_ishl C.1 C.2.1 hd  (k.2 p e R s m args below meth c H locs cells slots lsA Q C hS hR hL hz h1 h2 hQ)
theorem pw_ishr {x y : Int32} (hd : decode M.2.1 pc = .ok (.ishr, 1))  (k : PW G d M (pc + 1) ls (.int (x >>> (y &&& 31)) :: st) h r h') : PW G d M pc ls (.int y :: .int x :: st) h r h' := by
  refine ⟨k.1, ?_⟩
  intro p e R s m args below meth c H locs cells slots lsA Q C hS hR hL hz h1 h2 hQ
  exact lv_ishr C.1 C.2.1 hd  (k.2 p e R s m args below meth c H locs cells slots lsA Q C hS hR hL hz h1 h2 hQ)
theorem pw_ladd {x y : Int64} (hd : decode M.2.1 pc = .ok (.ladd, 1))  (k : PW G d M (pc + 1) ls (.long (x + y) :: st) h r h') : PW G d M pc ls (.long y :: .long x :: st) h r h' := by
  refine ⟨k.1, ?_⟩
  intro p e R s m args below meth c H locs cells slots lsA Q C hS hR hL hz h1 h2 hQ
  exact lv_ladd C.1 C.2.1 hd  (k.2 p e R s m args below meth c H locs cells slots lsA Q C hS hR hL hz h1 h2 hQ)
theorem pw_lsub {x y : Int64} (hd : decode M.2.1 pc = .ok (.lsub, 1))  (k : PW G d M (pc + 1) ls (.long (x - y) :: st) h r h') : PW G d M pc ls (.long y :: .long x :: st) h r h' := by
  refine ⟨k.1, ?_⟩
  intro p e R s m args below meth c H locs cells slots lsA Q C hS hR hL hz h1 h2 hQ
  exact lv_lsub C.1 C.2.1 hd  (k.2 p e R s m args below meth c H locs cells slots lsA Q C hS hR hL hz h1 h2 hQ)
theorem pw_lmul {x y : Int64} (hd : decode M.2.1 pc = .ok (.lmul, 1))  (k : PW G d M (pc + 1) ls (.long (x * y) :: st) h r h') : PW G d M pc ls (.long y :: .long x :: st) h r h' := by
  refine ⟨k.1, ?_⟩
  intro p e R s m args below meth c H locs cells slots lsA Q C hS hR hL hz h1 h2 hQ
  exact lv_lmul C.1 C.2.1 hd  (k.2 p e R s m args below meth c H locs cells slots lsA Q C hS hR hL hz h1 h2 hQ)
theorem pw_land {x y : Int64} (hd : decode M.2.1 pc = .ok (.land, 1))  (k : PW G d M (pc + 1) ls (.long (x &&& y) :: st) h r h') : PW G d M pc ls (.long y :: .long x :: st) h r h' := by
  refine ⟨k.1, ?_⟩
  intro p e R s m args below meth c H locs cells slots lsA Q C hS hR hL hz h1 h2 hQ
  exact lv_land C.1 C.2.1 hd  (k.2 p e R s m args below meth c H locs cells slots lsA Q C hS hR hL hz h1 h2 hQ)
theorem pw_lor {x y : Int64} (hd : decode M.2.1 pc = .ok (.lor, 1))  (k : PW G d M (pc + 1) ls (.long (x ||| y) :: st) h r h') : PW G d M pc ls (.long y :: .long x :: st) h r h' := by
  refine ⟨k.1, ?_⟩
  intro p e R s m args below meth c H locs cells slots lsA Q C hS hR hL hz h1 h2 hQ
  exact lv_lor C.1 C.2.1 hd  (k.2 p e R s m args below meth c H locs cells slots lsA Q C hS hR hL hz h1 h2 hQ)
theorem pw_idiv {x y : Int32} (hd : decode M.2.1 pc = .ok (.idiv, 1)) (hne : ¬ y = 0) (k : PW G d M (pc + 1) ls (.int (x / y) :: st) h r h') : PW G d M pc ls (.int y :: .int x :: st) h r h' := by
  refine ⟨k.1, ?_⟩
  intro p e R s m args below meth c H locs cells slots lsA Q C hS hR hL hz h1 h2 hQ
  exact lv_idiv C.1 C.2.1 hd hne (k.2 p e R s m args below meth c H locs cells slots lsA Q C hS hR hL hz h1 h2 hQ)
theorem pw_irem {x y : Int32} (hd : decode M.2.1 pc = .ok (.irem, 1)) (hne : ¬ y = 0) (k : PW G d M (pc + 1) ls (.int (x - x / y * y) :: st) h r h') : PW G d M pc ls (.int y :: .int x :: st) h r h' := by
  refine ⟨k.1, ?_⟩
  intro p e R s m args below meth c H locs cells slots lsA Q C hS hR hL hz h1 h2 hQ
  exact lv_irem C.1 C.2.1 hd hne (k.2 p e R s m args below meth c H locs cells slots lsA Q C hS hR hL hz h1 h2 hQ)
theorem pw_ldiv {x y : Int64} (hd : decode M.2.1 pc = .ok (.ldiv, 1)) (hne : ¬ y = 0) (k : PW G d M (pc + 1) ls (.long (x / y) :: st) h r h') : PW G d M pc ls (.long y :: .long x :: st) h r h' := by
  refine ⟨k.1, ?_⟩
  intro p e R s m args below meth c H locs cells slots lsA Q C hS hR hL hz h1 h2 hQ
  exact lv_ldiv C.1 C.2.1 hd hne (k.2 p e R s m args below meth c H locs cells slots lsA Q C hS hR hL hz h1 h2 hQ)
theorem pw_lrem {x y : Int64} (hd : decode M.2.1 pc = .ok (.lrem, 1)) (hne : ¬ y = 0) (k : PW G d M (pc + 1) ls (.long (x - x / y * y) :: st) h r h') : PW G d M pc ls (.long y :: .long x :: st) h r h' := by
  refine ⟨k.1, ?_⟩
  intro p e R s m args below meth c H locs cells slots lsA Q C hS hR hL hz h1 h2 hQ
  exact lv_lrem C.1 C.2.1 hd hne (k.2 p e R s m args below meth c H locs cells slots lsA Q C hS hR hL hz h1 h2 hQ)
theorem pw_ineg {x : Int32} (hd : decode M.2.1 pc = .ok (.ineg, 1))  (k : PW G d M (pc + 1) ls (.int (-x) :: st) h r h') : PW G d M pc ls (.int x :: st) h r h' := by
  refine ⟨k.1, ?_⟩
  intro p e R s m args below meth c H locs cells slots lsA Q C hS hR hL hz h1 h2 hQ
  exact lv_ineg C.1 C.2.1 hd  (k.2 p e R s m args below meth c H locs cells slots lsA Q C hS hR hL hz h1 h2 hQ)
theorem pw_iushr {x y : Int32} (hd : decode M.2.1 pc = .ok (.iushr, 1))  (k : PW G d M (pc + 1) ls (.int ((x.toUInt32 >>> (y.toUInt32 &&& Int32.toUInt32 31)).toInt32) :: st) h r h') : PW G d M pc ls (.int y :: .int x :: st) h r h' := by
  refine ⟨k.1, ?_⟩
  intro p e R s m args below meth c H locs cells slots lsA Q C hS hR hL hz h1 h2 hQ
  exact lv_iushr C.1 C.2.1 hd rfl (k.2 p e R s m args below meth c H locs cells slots lsA Q C hS hR hL hz h1 h2 hQ)
theorem pw_lushr {x : Int64} {y : Int32} (hd : decode M.2.1 pc = .ok (.lushr, 1))  (k : PW G d M (pc + 1) ls (.long ((x.toUInt64 >>> (y.toInt64.toUInt64 &&& Int64.toUInt64 63)).toInt64) :: st) h r h') : PW G d M pc ls (.int y :: .long x :: st) h r h' := by
  refine ⟨k.1, ?_⟩
  intro p e R s m args below meth c H locs cells slots lsA Q C hS hR hL hz h1 h2 hQ
  exact lv_lushr C.1 C.2.1 hd rfl (k.2 p e R s m args below meth c H locs cells slots lsA Q C hS hR hL hz h1 h2 hQ)
theorem pw_lshl {x : Int64} {y : Int32} (hd : decode M.2.1 pc = .ok (.lshl, 1))  (k : PW G d M (pc + 1) ls (.long (x <<< (y.toInt64 &&& 63)) :: st) h r h') : PW G d M pc ls (.int y :: .long x :: st) h r h' := by
  refine ⟨k.1, ?_⟩
  intro p e R s m args below meth c H locs cells slots lsA Q C hS hR hL hz h1 h2 hQ
  exact lv_lshl C.1 C.2.1 hd rfl (k.2 p e R s m args below meth c H locs cells slots lsA Q C hS hR hL hz h1 h2 hQ)
theorem pw_lshr {x : Int64} {y : Int32} (hd : decode M.2.1 pc = .ok (.lshr, 1))  (k : PW G d M (pc + 1) ls (.long (x >>> (y.toInt64 &&& 63)) :: st) h r h') : PW G d M pc ls (.int y :: .long x :: st) h r h' := by
  refine ⟨k.1, ?_⟩
  intro p e R s m args below meth c H locs cells slots lsA Q C hS hR hL hz h1 h2 hQ
  exact lv_lshr C.1 C.2.1 hd rfl (k.2 p e R s m args below meth c H locs cells slots lsA Q C hS hR hL hz h1 h2 hQ)
theorem pw_i2l {x : Int32} (hd : decode M.2.1 pc = .ok (.i2l, 1))  (k : PW G d M (pc + 1) ls (.long x.toInt64 :: st) h r h') : PW G d M pc ls (.int x :: st) h r h' := by
  refine ⟨k.1, ?_⟩
  intro p e R s m args below meth c H locs cells slots lsA Q C hS hR hL hz h1 h2 hQ
  exact lv_i2l C.1 C.2.1 hd rfl (k.2 p e R s m args below meth c H locs cells slots lsA Q C hS hR hL hz h1 h2 hQ)
theorem pw_l2i {x : Int64} (hd : decode M.2.1 pc = .ok (.l2i, 1))  (k : PW G d M (pc + 1) ls (.int x.toInt32 :: st) h r h') : PW G d M pc ls (.long x :: st) h r h' := by
  refine ⟨k.1, ?_⟩
  intro p e R s m args below meth c H locs cells slots lsA Q C hS hR hL hz h1 h2 hQ
  exact lv_l2i C.1 C.2.1 hd rfl (k.2 p e R s m args below meth c H locs cells slots lsA Q C hS hR hL hz h1 h2 hQ)
theorem pw_i2b {x : Int32} (hd : decode M.2.1 pc = .ok (.i2b, 1))  (k : PW G d M (pc + 1) ls (.int x.toInt8.toInt32 :: st) h r h') : PW G d M pc ls (.int x :: st) h r h' := by
  refine ⟨k.1, ?_⟩
  intro p e R s m args below meth c H locs cells slots lsA Q C hS hR hL hz h1 h2 hQ
  exact lv_i2b C.1 C.2.1 hd rfl (k.2 p e R s m args below meth c H locs cells slots lsA Q C hS hR hL hz h1 h2 hQ)
theorem pw_i2s {x : Int32} (hd : decode M.2.1 pc = .ok (.i2s, 1))  (k : PW G d M (pc + 1) ls (.int x.toInt16.toInt32 :: st) h r h') : PW G d M pc ls (.int x :: st) h r h' := by
  refine ⟨k.1, ?_⟩
  intro p e R s m args below meth c H locs cells slots lsA Q C hS hR hL hz h1 h2 hQ
  exact lv_i2s C.1 C.2.1 hd rfl (k.2 p e R s m args below meth c H locs cells slots lsA Q C hS hR hL hz h1 h2 hQ)
theorem pw_lcmp {x y : Int64} (hd : decode M.2.1 pc = .ok (.lcmp, 1))  (k : PW G d M (pc + 1) ls (.int (lg_cmp x y) :: st) h r h') : PW G d M pc ls (.long y :: .long x :: st) h r h' := by
  refine ⟨k.1, ?_⟩
  intro p e R s m args below meth c H locs cells slots lsA Q C hS hR hL hz h1 h2 hQ
  exact W.lcmp C.1 C.2.1 hd  (k.2 p e R s m args below meth c H locs cells slots lsA Q C hS hR hL hz h1 h2 hQ)
theorem pw_null  (hd : decode M.2.1 pc = .ok (.aconst_null, 1))  (k : PW G d M (pc + 1) ls (.null :: st) h r h') : PW G d M pc ls (st) h r h' := by
  refine ⟨k.1, ?_⟩
  intro p e R s m args below meth c H locs cells slots lsA Q C hS hR hL hz h1 h2 hQ
  exact lv_null C.1 C.2.1 hd  (k.2 p e R s m args below meth c H locs cells slots lsA Q C hS hR hL hz h1 h2 hQ)
theorem pw_dup {a : Value} (hd : decode M.2.1 pc = .ok (.dup, 1)) (hac : a.category = 1) (k : PW G d M (pc + 1) ls (a :: a :: st) h r h') : PW G d M pc ls (a :: st) h r h' := by
  refine ⟨k.1, ?_⟩
  intro p e R s m args below meth c H locs cells slots lsA Q C hS hR hL hz h1 h2 hQ
  exact lv_dup C.1 C.2.1 hd ((pm_v_cat G a).trans hac) (k.2 p e R s m args below meth c H locs cells slots lsA Q C hS hR hL hz h1 h2 hQ)
theorem pw_pop {a : Value} (hd : decode M.2.1 pc = .ok (.pop, 1)) (hac : a.category = 1) (k : PW G d M (pc + 1) ls (st) h r h') : PW G d M pc ls (a :: st) h r h' := by
  refine ⟨k.1, ?_⟩
  intro p e R s m args below meth c H locs cells slots lsA Q C hS hR hL hz h1 h2 hQ
  exact lv_pop C.1 C.2.1 hd ((pm_v_cat G a).trans hac) (k.2 p e R s m args below meth c H locs cells slots lsA Q C hS hR hL hz h1 h2 hQ)
theorem pw_dup_x1 {a b : Value} (hd : decode M.2.1 pc = .ok (.dup_x1, 1)) (hac : a.category = 1) (hbc : b.category = 1) (k : PW G d M (pc + 1) ls (a :: b :: a :: st) h r h') : PW G d M pc ls (a :: b :: st) h r h' := by
  refine ⟨k.1, ?_⟩
  intro p e R s m args below meth c H locs cells slots lsA Q C hS hR hL hz h1 h2 hQ
  exact lv_dup_x1 C.1 C.2.1 hd ((pm_v_cat G a).trans hac) ((pm_v_cat G b).trans hbc) (k.2 p e R s m args below meth c H locs cells slots lsA Q C hS hR hL hz h1 h2 hQ)
theorem pw_dup2_11 {a b : Value} (hd : decode M.2.1 pc = .ok (.dup2, 1)) (hac : a.category = 1) (hbc : b.category = 1) (k : PW G d M (pc + 1) ls (a :: b :: a :: b :: st) h r h') : PW G d M pc ls (a :: b :: st) h r h' := by
  refine ⟨k.1, ?_⟩
  intro p e R s m args below meth c H locs cells slots lsA Q C hS hR hL hz h1 h2 hQ
  exact lv_dup2_11 C.1 C.2.1 hd ((pm_v_cat G a).trans hac) ((pm_v_cat G b).trans hbc) (k.2 p e R s m args below meth c H locs cells slots lsA Q C hS hR hL hz h1 h2 hQ)
theorem pw_dup2_2 {a : Value} (hd : decode M.2.1 pc = .ok (.dup2, 1)) (hac : a.category = 2) (k : PW G d M (pc + 1) ls (a :: a :: st) h r h') : PW G d M pc ls (a :: st) h r h' := by
  refine ⟨k.1, ?_⟩
  intro p e R s m args below meth c H locs cells slots lsA Q C hS hR hL hz h1 h2 hQ
  exact lv_dup2_2 C.1 C.2.1 hd ((pm_v_cat G a).trans hac) (k.2 p e R s m args below meth c H locs cells slots lsA Q C hS hR hL hz h1 h2 hQ)
theorem pw_ldc {index : Nat} {v : Int32} (hw : Cond.constant M.1.cls index v ∈ GT) (hd : decode M.2.1 pc = .ok (.ldc index, 2)) (k : PW G d M (pc + 2) ls (.int v :: st) h r h') : PW G d M pc ls st h r h' := by
  refine ⟨k.1, ?_⟩
  intro p e R s m args below meth c H locs cells slots lsA Q C hS hR hL hz h1 h2 hQ
  exact lv_ldc C.1 C.2.1 C.2.2.2.1 (C.2.2.2.2.1 _ hw) hd (k.2 p e R s m args below meth c H locs cells slots lsA Q C hS hR hL hz h1 h2 hQ)
theorem pw_ldcw {index : Nat} {v : Int32} (hw : Cond.constant M.1.cls index v ∈ GT) (hd : decode M.2.1 pc = .ok (.ldc_w index, 3)) (k : PW G d M (pc + 3) ls (.int v :: st) h r h') : PW G d M pc ls st h r h' := by
  refine ⟨k.1, ?_⟩
  intro p e R s m args below meth c H locs cells slots lsA Q C hS hR hL hz h1 h2 hQ
  exact lv_ldcw C.1 C.2.1 C.2.2.2.1 (C.2.2.2.2.1 _ hw) hd (k.2 p e R s m args below meth c H locs cells slots lsA Q C hS hR hL hz h1 h2 hQ)
theorem pw_ldc2 {index : Nat} {v : Int64} (hw : Cond.constantLong M.1.cls index v ∈ GT) (hd : decode M.2.1 pc = .ok (.ldc2_w index, 3)) (k : PW G d M (pc + 3) ls (.long v :: st) h r h') : PW G d M pc ls st h r h' := by
  refine ⟨k.1, ?_⟩
  intro p e R s m args below meth c H locs cells slots lsA Q C hS hR hL hz h1 h2 hQ
  exact lv_ldc2 C.1 C.2.1 C.2.2.2.1 (C.2.2.2.2.1 _ hw) hd (k.2 p e R s m args below meth c H locs cells slots lsA Q C hS hR hL hz h1 h2 hQ)
theorem pw_iload_n {q : Fin 4} {i : Nat} {x : Int32} (hd : decode M.2.1 pc = .ok (.iload_n q, 1)) (hi : (q : Nat) = i) (hl : ls[i]? = some (some (.int x))) (k : PW G d M (pc + 1) ls (.int x :: st) h r h') : PW G d M pc ls st h r h' := by
  refine ⟨k.1, ?_⟩
  intro p e R s m args below meth c H locs cells slots lsA Q C hS hR hL hz h1 h2 hQ
  exact lv_iload_n C.1 C.2.1 hd hi (hL.2.2 i _ hl) (k.2 p e R s m args below meth c H locs cells slots lsA Q C hS hR hL hz h1 h2 hQ)
theorem pw_iload {i : Nat} {x : Int32} (hd : decode M.2.1 pc = .ok (.iload i, 2)) (hl : ls[i]? = some (some (.int x))) (k : PW G d M (pc + 2) ls (.int x :: st) h r h') : PW G d M pc ls st h r h' := by
  refine ⟨k.1, ?_⟩
  intro p e R s m args below meth c H locs cells slots lsA Q C hS hR hL hz h1 h2 hQ
  exact lv_iload C.1 C.2.1 hd (hL.2.2 i _ hl) (k.2 p e R s m args below meth c H locs cells slots lsA Q C hS hR hL hz h1 h2 hQ)
theorem pw_lload_n {q : Fin 4} {i : Nat} {x : Int64} (hd : decode M.2.1 pc = .ok (.lload_n q, 1)) (hi : (q : Nat) = i) (hl : ls[i]? = some (some (.long x))) (k : PW G d M (pc + 1) ls (.long x :: st) h r h') : PW G d M pc ls st h r h' := by
  refine ⟨k.1, ?_⟩
  intro p e R s m args below meth c H locs cells slots lsA Q C hS hR hL hz h1 h2 hQ
  exact lv_lload_n C.1 C.2.1 hd hi (hL.2.2 i _ hl) (k.2 p e R s m args below meth c H locs cells slots lsA Q C hS hR hL hz h1 h2 hQ)
theorem pw_lload {i : Nat} {x : Int64} (hd : decode M.2.1 pc = .ok (.lload i, 2)) (hl : ls[i]? = some (some (.long x))) (k : PW G d M (pc + 2) ls (.long x :: st) h r h') : PW G d M pc ls st h r h' := by
  refine ⟨k.1, ?_⟩
  intro p e R s m args below meth c H locs cells slots lsA Q C hS hR hL hz h1 h2 hQ
  exact lv_lload C.1 C.2.1 hd (hL.2.2 i _ hl) (k.2 p e R s m args below meth c H locs cells slots lsA Q C hS hR hL hz h1 h2 hQ)
theorem pw_aload_n {q : Fin 4} {i : Nat} {x : Nat} (hd : decode M.2.1 pc = .ok (.aload_n q, 1)) (hi : (q : Nat) = i) (hl : ls[i]? = some (some (.ref x))) (k : PW G d M (pc + 1) ls (.ref x :: st) h r h') : PW G d M pc ls st h r h' := by
  refine ⟨k.1, ?_⟩
  intro p e R s m args below meth c H locs cells slots lsA Q C hS hR hL hz h1 h2 hQ
  exact lv_aload_n C.1 C.2.1 hd hi (hL.2.2 i _ hl) (k.2 p e R s m args below meth c H locs cells slots lsA Q C hS hR hL hz h1 h2 hQ)
theorem pw_aload {i : Nat} {x : Nat} (hd : decode M.2.1 pc = .ok (.aload i, 2)) (hl : ls[i]? = some (some (.ref x))) (k : PW G d M (pc + 2) ls (.ref x :: st) h r h') : PW G d M pc ls st h r h' := by
  refine ⟨k.1, ?_⟩
  intro p e R s m args below meth c H locs cells slots lsA Q C hS hR hL hz h1 h2 hQ
  exact lv_aload C.1 C.2.1 hd (hL.2.2 i _ hl) (k.2 p e R s m args below meth c H locs cells slots lsA Q C hS hR hL hz h1 h2 hQ)
theorem pw_aload_nN {q : Fin 4} {i : Nat} (hd : decode M.2.1 pc = .ok (.aload_n q, 1)) (hi : (q : Nat) = i) (hl : ls[i]? = some (some .null)) (k : PW G d M (pc + 1) ls (.null :: st) h r h') : PW G d M pc ls st h r h' := by
  refine ⟨k.1, ?_⟩
  intro p e R s m args below meth c H locs cells slots lsA Q C hS hR hL hz h1 h2 hQ
  exact lv_aload_nN C.1 C.2.1 hd hi (hL.2.2 i _ hl) (k.2 p e R s m args below meth c H locs cells slots lsA Q C hS hR hL hz h1 h2 hQ)
theorem pw_aloadN {i : Nat} (hd : decode M.2.1 pc = .ok (.aload i, 2)) (hl : ls[i]? = some (some .null)) (k : PW G d M (pc + 2) ls (.null :: st) h r h') : PW G d M pc ls st h r h' := by
  refine ⟨k.1, ?_⟩
  intro p e R s m args below meth c H locs cells slots lsA Q C hS hR hL hz h1 h2 hQ
  exact lv_aloadN C.1 C.2.1 hd (hL.2.2 i _ hl) (k.2 p e R s m args below meth c H locs cells slots lsA Q C hS hR hL hz h1 h2 hQ)
theorem pw_istore_n {q : Fin 4} {i : Nat} {x : Int32} (hd : decode M.2.1 pc = .ok (.istore_n q, 1)) (hi : (q : Nat) = i) (hn : i < M.2.2.1) (hp : ∀ w, i ≠ 0 → ls[i - 1]? = some (some w) → w.category ≠ 2) (k : PW G d M (pc + 1) (ls.set i (some (.int x))) st h r h') : PW G d M pc ls (.int x :: st) h r h' := by
  refine ⟨k.1, ?_⟩
  intro p e R s m args below meth c H locs cells slots lsA Q C hS hR hL hz h1 h2 hQ
  exact lv_istore_n C.1 C.2.1 hd hi hL.has hn rfl (fun lsB hB => k.2 p e R s m args below meth c H locs cells slots lsB Q C hS hR (pm_st1 (v := .int x) hB hp) hz h1 h2 hQ)
theorem pw_istore {i : Nat} {x : Int32} (hd : decode M.2.1 pc = .ok (.istore i, 2)) (hn : i < M.2.2.1) (hp : ∀ w, i ≠ 0 → ls[i - 1]? = some (some w) → w.category ≠ 2) (k : PW G d M (pc + 2) (ls.set i (some (.int x))) st h r h') : PW G d M pc ls (.int x :: st) h r h' := by
  refine ⟨k.1, ?_⟩
  intro p e R s m args below meth c H locs cells slots lsA Q C hS hR hL hz h1 h2 hQ
  exact lv_istore C.1 C.2.1 hd hL.has hn rfl (fun lsB hB => k.2 p e R s m args below meth c H locs cells slots lsB Q C hS hR (pm_st1 (v := .int x) hB hp) hz h1 h2 hQ)
theorem pw_astore_n {q : Fin 4} {i : Nat} {x : Nat} (hd : decode M.2.1 pc = .ok (.astore_n q, 1)) (hi : (q : Nat) = i) (hn : i < M.2.2.1) (hp : ∀ w, i ≠ 0 → ls[i - 1]? = some (some w) → w.category ≠ 2) (k : PW G d M (pc + 1) (ls.set i (some (.ref x))) st h r h') : PW G d M pc ls (.ref x :: st) h r h' := by
  refine ⟨k.1, ?_⟩
  intro p e R s m args below meth c H locs cells slots lsA Q C hS hR hL hz h1 h2 hQ
  exact lv_astore_n C.1 C.2.1 hd hi hL.has hn rfl (fun lsB hB => k.2 p e R s m args below meth c H locs cells slots lsB Q C hS hR (pm_st1 (v := .ref x) hB hp) hz h1 h2 hQ)
theorem pw_astore {i : Nat} {x : Nat} (hd : decode M.2.1 pc = .ok (.astore i, 2)) (hn : i < M.2.2.1) (hp : ∀ w, i ≠ 0 → ls[i - 1]? = some (some w) → w.category ≠ 2) (k : PW G d M (pc + 2) (ls.set i (some (.ref x))) st h r h') : PW G d M pc ls (.ref x :: st) h r h' := by
  refine ⟨k.1, ?_⟩
  intro p e R s m args below meth c H locs cells slots lsA Q C hS hR hL hz h1 h2 hQ
  exact lv_astore C.1 C.2.1 hd hL.has hn rfl (fun lsB hB => k.2 p e R s m args below meth c H locs cells slots lsB Q C hS hR (pm_st1 (v := .ref x) hB hp) hz h1 h2 hQ)
theorem pw_lstore_n {q : Fin 4} {i : Nat} {x : Int64} (hd : decode M.2.1 pc = .ok (.lstore_n q, 1)) (hi : (q : Nat) = i) (hn : i + 1 < M.2.2.1) (hp : ∀ w, i ≠ 0 → ls[i - 1]? = some (some w) → w.category ≠ 2) (k : PW G d M (pc + 1) ((ls.set i (some (.long x))).set (i + 1) none) st h r h') : PW G d M pc ls (.long x :: st) h r h' := by
  refine ⟨k.1, ?_⟩
  intro p e R s m args below meth c H locs cells slots lsA Q C hS hR hL hz h1 h2 hQ
  exact lv_lstore_n C.1 C.2.1 hd hi hL.has hn rfl (fun lsB hB => k.2 p e R s m args below meth c H locs cells slots lsB Q C hS hR (pm_st2 (v := .long x) hB hp) hz h1 h2 hQ)
theorem pw_lstore {i : Nat} {x : Int64} (hd : decode M.2.1 pc = .ok (.lstore i, 2)) (hn : i + 1 < M.2.2.1) (hp : ∀ w, i ≠ 0 → ls[i - 1]? = some (some w) → w.category ≠ 2) (k : PW G d M (pc + 2) ((ls.set i (some (.long x))).set (i + 1) none) st h r h') : PW G d M pc ls (.long x :: st) h r h' := by
  refine ⟨k.1, ?_⟩
  intro p e R s m args below meth c H locs cells slots lsA Q C hS hR hL hz h1 h2 hQ
  exact lv_lstore C.1 C.2.1 hd hL.has hn rfl (fun lsB hB => k.2 p e R s m args below meth c H locs cells slots lsB Q C hS hR (pm_st2 (v := .long x) hB hp) hz h1 h2 hQ)
theorem pw_astore_nN {q : Fin 4} {i : Nat} (hd : decode M.2.1 pc = .ok (.astore_n q, 1)) (hi : (q : Nat) = i) (hn : i < M.2.2.1) (hp : ∀ w, i ≠ 0 → ls[i - 1]? = some (some w) → w.category ≠ 2) (k : PW G d M (pc + 1) (ls.set i (some .null)) st h r h') : PW G d M pc ls (.null :: st) h r h' := by
  refine ⟨k.1, ?_⟩
  intro p e R s m args below meth c H locs cells slots lsA Q C hS hR hL hz h1 h2 hQ
  exact lv_astore_nN C.1 C.2.1 hd hi hL.has hn rfl (fun lsB hB => k.2 p e R s m args below meth c H locs cells slots lsB Q C hS hR (pm_st1 (v := .null) hB hp) hz h1 h2 hQ)
theorem pw_astoreN {i : Nat} (hd : decode M.2.1 pc = .ok (.astore i, 2)) (hn : i < M.2.2.1) (hp : ∀ w, i ≠ 0 → ls[i - 1]? = some (some w) → w.category ≠ 2) (k : PW G d M (pc + 2) (ls.set i (some .null)) st h r h') : PW G d M pc ls (.null :: st) h r h' := by
  refine ⟨k.1, ?_⟩
  intro p e R s m args below meth c H locs cells slots lsA Q C hS hR hL hz h1 h2 hQ
  exact lv_astoreN C.1 C.2.1 hd hL.has hn rfl (fun lsB hB => k.2 p e R s m args below meth c H locs cells slots lsB Q C hS hR (pm_st1 (v := .null) hB hp) hz h1 h2 hQ)
theorem pw_iinc {i : Nat} {n : Int} {x v : Int32} (hd : decode M.2.1 pc = .ok (.iinc i n, 3)) (hl : ls[i]? = some (some (.int x))) (hv : Int32.ofInt n = v) (hn : i < M.2.2.1) (hp : ∀ w, i ≠ 0 → ls[i - 1]? = some (some w) → w.category ≠ 2) (k : PW G d M (pc + 3) (ls.set i (some (.int (x + v)))) st h r h') : PW G d M pc ls st h r h' := by
  refine ⟨k.1, ?_⟩
  intro p e R s m args below meth c H locs cells slots lsA Q C hS hR hL hz h1 h2 hQ
  subst hv
  obtain ⟨j, hj⟩ := List.getElem?_of_mem (pm_lv_mem (G := G) hl)
  exact lv_iinc C.1 C.2.1 hd hL.has hj rfl hn rfl (fun lsB hB => k.2 p e R s m args below meth c H locs cells slots lsB Q C hS hR (pm_st1 (v := .int (x + Int32.ofInt n)) hB hp) hz h1 h2 hQ)
theorem pw_if_eq {x : Int32} {off : Int} {tgt : Nat} (hd : decode M.2.1 pc = .ok (.ifCond .eq off, 3)) (ht : (pc : Int) + off = (tgt : Int)) (kt : x = 0 → PW G d M tgt ls st h r h') (kf : ¬ x = 0 → PW G d M (pc + 3) ls st h r h') : PW G d M pc ls (.int x :: st) h r h' := by
  refine ⟨?_, ?_⟩
  · by_cases q : x = 0
    · exact (kt q).1
    · exact (kf q).1
  intro p e R s m args below meth c H locs cells slots lsA Q C hS hR hL hz h1 h2 hQ
  exact lv_if_eq C.1 C.2.1 hd ht (fun q => (kt q).2 p e R s m args below meth c H locs cells slots lsA Q C hS hR hL hz h1 h2 hQ) (fun q => (kf q).2 p e R s m args below meth c H locs cells slots lsA Q C hS hR hL hz h1 h2 hQ)
theorem pw_if_ne {x : Int32} {off : Int} {tgt : Nat} (hd : decode M.2.1 pc = .ok (.ifCond .ne off, 3)) (ht : (pc : Int) + off = (tgt : Int)) (kt : ¬ x = 0 → PW G d M tgt ls st h r h') (kf : x = 0 → PW G d M (pc + 3) ls st h r h') : PW G d M pc ls (.int x :: st) h r h' := by
  refine ⟨?_, ?_⟩
  · by_cases q : x = 0
    · exact (kf q).1
    · exact (kt q).1
  intro p e R s m args below meth c H locs cells slots lsA Q C hS hR hL hz h1 h2 hQ
  exact lv_if_ne C.1 C.2.1 hd ht (fun q => (kt q).2 p e R s m args below meth c H locs cells slots lsA Q C hS hR hL hz h1 h2 hQ) (fun q => (kf q).2 p e R s m args below meth c H locs cells slots lsA Q C hS hR hL hz h1 h2 hQ)
theorem pw_if_lt {x : Int32} {off : Int} {tgt : Nat} (hd : decode M.2.1 pc = .ok (.ifCond .lt off, 3)) (ht : (pc : Int) + off = (tgt : Int)) (kt : x < 0 → PW G d M tgt ls st h r h') (kf : ¬ x < 0 → PW G d M (pc + 3) ls st h r h') : PW G d M pc ls (.int x :: st) h r h' := by
  refine ⟨?_, ?_⟩
  · by_cases q : x < 0
    · exact (kt q).1
    · exact (kf q).1
  intro p e R s m args below meth c H locs cells slots lsA Q C hS hR hL hz h1 h2 hQ
  exact lv_if_lt C.1 C.2.1 hd ht (fun q => (kt q).2 p e R s m args below meth c H locs cells slots lsA Q C hS hR hL hz h1 h2 hQ) (fun q => (kf q).2 p e R s m args below meth c H locs cells slots lsA Q C hS hR hL hz h1 h2 hQ)
theorem pw_if_ge {x : Int32} {off : Int} {tgt : Nat} (hd : decode M.2.1 pc = .ok (.ifCond .ge off, 3)) (ht : (pc : Int) + off = (tgt : Int)) (kt : 0 ≤ x → PW G d M tgt ls st h r h') (kf : ¬ 0 ≤ x → PW G d M (pc + 3) ls st h r h') : PW G d M pc ls (.int x :: st) h r h' := by
  refine ⟨?_, ?_⟩
  · by_cases q : 0 ≤ x
    · exact (kt q).1
    · exact (kf q).1
  intro p e R s m args below meth c H locs cells slots lsA Q C hS hR hL hz h1 h2 hQ
  exact lv_if_ge C.1 C.2.1 hd ht (fun q => (kt q).2 p e R s m args below meth c H locs cells slots lsA Q C hS hR hL hz h1 h2 hQ) (fun q => (kf q).2 p e R s m args below meth c H locs cells slots lsA Q C hS hR hL hz h1 h2 hQ)
theorem pw_if_gt {x : Int32} {off : Int} {tgt : Nat} (hd : decode M.2.1 pc = .ok (.ifCond .gt off, 3)) (ht : (pc : Int) + off = (tgt : Int)) (kt : 0 < x → PW G d M tgt ls st h r h') (kf : ¬ 0 < x → PW G d M (pc + 3) ls st h r h') : PW G d M pc ls (.int x :: st) h r h' := by
  refine ⟨?_, ?_⟩
  · by_cases q : 0 < x
    · exact (kt q).1
    · exact (kf q).1
  intro p e R s m args below meth c H locs cells slots lsA Q C hS hR hL hz h1 h2 hQ
  exact lv_if_gt C.1 C.2.1 hd ht (fun q => (kt q).2 p e R s m args below meth c H locs cells slots lsA Q C hS hR hL hz h1 h2 hQ) (fun q => (kf q).2 p e R s m args below meth c H locs cells slots lsA Q C hS hR hL hz h1 h2 hQ)
theorem pw_if_le {x : Int32} {off : Int} {tgt : Nat} (hd : decode M.2.1 pc = .ok (.ifCond .le off, 3)) (ht : (pc : Int) + off = (tgt : Int)) (kt : x ≤ 0 → PW G d M tgt ls st h r h') (kf : ¬ x ≤ 0 → PW G d M (pc + 3) ls st h r h') : PW G d M pc ls (.int x :: st) h r h' := by
  refine ⟨?_, ?_⟩
  · by_cases q : x ≤ 0
    · exact (kt q).1
    · exact (kf q).1
  intro p e R s m args below meth c H locs cells slots lsA Q C hS hR hL hz h1 h2 hQ
  exact lv_if_le C.1 C.2.1 hd ht (fun q => (kt q).2 p e R s m args below meth c H locs cells slots lsA Q C hS hR hL hz h1 h2 hQ) (fun q => (kf q).2 p e R s m args below meth c H locs cells slots lsA Q C hS hR hL hz h1 h2 hQ)
theorem pw_icmp_eq {x y : Int32} {off : Int} {tgt : Nat} (hd : decode M.2.1 pc = .ok (.if_icmp .eq off, 3)) (ht : (pc : Int) + off = (tgt : Int)) (kt : x = y → PW G d M tgt ls st h r h') (kf : ¬ x = y → PW G d M (pc + 3) ls st h r h') : PW G d M pc ls (.int y :: .int x :: st) h r h' := by
  refine ⟨?_, ?_⟩
  · by_cases q : x = y
    · exact (kt q).1
    · exact (kf q).1
  intro p e R s m args below meth c H locs cells slots lsA Q C hS hR hL hz h1 h2 hQ
  exact lv_icmp_eq C.1 C.2.1 hd ht (fun q => (kt q).2 p e R s m args below meth c H locs cells slots lsA Q C hS hR hL hz h1 h2 hQ) (fun q => (kf q).2 p e R s m args below meth c H locs cells slots lsA Q C hS hR hL hz h1 h2 hQ)
theorem pw_icmp_ne {x y : Int32} {off : Int} {tgt : Nat} (hd : decode M.2.1 pc = .ok (.if_icmp .ne off, 3)) (ht : (pc : Int) + off = (tgt : Int)) (kt : ¬ x = y → PW G d M tgt ls st h r h') (kf : x = y → PW G d M (pc + 3) ls st h r h') : PW G d M pc ls (.int y :: .int x :: st) h r h' := by
  refine ⟨?_, ?_⟩
  · by_cases q : x = y
    · exact (kf q).1
    · exact (kt q).1
  intro p e R s m args below meth c H locs cells slots lsA Q C hS hR hL hz h1 h2 hQ
  exact lv_icmp_ne C.1 C.2.1 hd ht (fun q => (kt q).2 p e R s m args below meth c H locs cells slots lsA Q C hS hR hL hz h1 h2 hQ) (fun q => (kf q).2 p e R s m args below meth c H locs cells slots lsA Q C hS hR hL hz h1 h2 hQ)
theorem pw_icmp_lt {x y : Int32} {off : Int} {tgt : Nat} (hd : decode M.2.1 pc = .ok (.if_icmp .lt off, 3)) (ht : (pc : Int) + off = (tgt : Int)) (kt : x < y → PW G d M tgt ls st h r h') (kf : ¬ x < y → PW G d M (pc + 3) ls st h r h') : PW G d M pc ls (.int y :: .int x :: st) h r h' := by
  refine ⟨?_, ?_⟩
  · by_cases q : x < y
    · exact (kt q).1
    · exact (kf q).1
  intro p e R s m args below meth c H locs cells slots lsA Q C hS hR hL hz h1 h2 hQ
  exact lv_icmp_lt C.1 C.2.1 hd ht (fun q => (kt q).2 p e R s m args below meth c H locs cells slots lsA Q C hS hR hL hz h1 h2 hQ) (fun q => (kf q).2 p e R s m args below meth c H locs cells slots lsA Q C hS hR hL hz h1 h2 hQ)
theorem pw_icmp_ge {x y : Int32} {off : Int} {tgt : Nat} (hd : decode M.2.1 pc = .ok (.if_icmp .ge off, 3)) (ht : (pc : Int) + off = (tgt : Int)) (kt : y ≤ x → PW G d M tgt ls st h r h') (kf : ¬ y ≤ x → PW G d M (pc + 3) ls st h r h') : PW G d M pc ls (.int y :: .int x :: st) h r h' := by
  refine ⟨?_, ?_⟩
  · by_cases q : y ≤ x
    · exact (kt q).1
    · exact (kf q).1
  intro p e R s m args below meth c H locs cells slots lsA Q C hS hR hL hz h1 h2 hQ
  exact lv_icmp_ge C.1 C.2.1 hd ht (fun q => (kt q).2 p e R s m args below meth c H locs cells slots lsA Q C hS hR hL hz h1 h2 hQ) (fun q => (kf q).2 p e R s m args below meth c H locs cells slots lsA Q C hS hR hL hz h1 h2 hQ)
theorem pw_icmp_gt {x y : Int32} {off : Int} {tgt : Nat} (hd : decode M.2.1 pc = .ok (.if_icmp .gt off, 3)) (ht : (pc : Int) + off = (tgt : Int)) (kt : y < x → PW G d M tgt ls st h r h') (kf : ¬ y < x → PW G d M (pc + 3) ls st h r h') : PW G d M pc ls (.int y :: .int x :: st) h r h' := by
  refine ⟨?_, ?_⟩
  · by_cases q : y < x
    · exact (kt q).1
    · exact (kf q).1
  intro p e R s m args below meth c H locs cells slots lsA Q C hS hR hL hz h1 h2 hQ
  exact lv_icmp_gt C.1 C.2.1 hd ht (fun q => (kt q).2 p e R s m args below meth c H locs cells slots lsA Q C hS hR hL hz h1 h2 hQ) (fun q => (kf q).2 p e R s m args below meth c H locs cells slots lsA Q C hS hR hL hz h1 h2 hQ)
theorem pw_icmp_le {x y : Int32} {off : Int} {tgt : Nat} (hd : decode M.2.1 pc = .ok (.if_icmp .le off, 3)) (ht : (pc : Int) + off = (tgt : Int)) (kt : x ≤ y → PW G d M tgt ls st h r h') (kf : ¬ x ≤ y → PW G d M (pc + 3) ls st h r h') : PW G d M pc ls (.int y :: .int x :: st) h r h' := by
  refine ⟨?_, ?_⟩
  · by_cases q : x ≤ y
    · exact (kt q).1
    · exact (kf q).1
  intro p e R s m args below meth c H locs cells slots lsA Q C hS hR hL hz h1 h2 hQ
  exact lv_icmp_le C.1 C.2.1 hd ht (fun q => (kt q).2 p e R s m args below meth c H locs cells slots lsA Q C hS hR hL hz h1 h2 hQ) (fun q => (kf q).2 p e R s m args below meth c H locs cells slots lsA Q C hS hR hL hz h1 h2 hQ)
theorem pw_goto {off : Int} {tgt : Nat} (hd : decode M.2.1 pc = .ok (.goto off, 3)) (ht : (pc : Int) + off = (tgt : Int)) (k : PW G d M tgt ls st h r h') : PW G d M pc ls st h r h' := by
  refine ⟨k.1, ?_⟩
  intro p e R s m args below meth c H locs cells slots lsA Q C hS hR hL hz h1 h2 hQ
  exact lv_goto C.1 C.2.1 hd ht (k.2 p e R s m args below meth c H locs cells slots lsA Q C hS hR hL hz h1 h2 hQ)
theorem pw_ifnonnull {x : Nat} {off : Int} {tgt : Nat} (hd : decode M.2.1 pc = .ok (.ifnonnull off, 3)) (ht : (pc : Int) + off = (tgt : Int)) (k : PW G d M tgt ls st h r h') : PW G d M pc ls (.ref x :: st) h r h' := by
  refine ⟨k.1, ?_⟩
  intro p e R s m args below meth c H locs cells slots lsA Q C hS hR hL hz h1 h2 hQ
  exact lv_ifnonnull C.1 C.2.1 hd ht (k.2 p e R s m args below meth c H locs cells slots lsA Q C hS hR hL hz h1 h2 hQ)
theorem pw_ifnonnullN {off : Int} (hd : decode M.2.1 pc = .ok (.ifnonnull off, 3)) (k : PW G d M (pc + 3) ls st h r h') : PW G d M pc ls (.null :: st) h r h' := by
  refine ⟨k.1, ?_⟩
  intro p e R s m args below meth c H locs cells slots lsA Q C hS hR hL hz h1 h2 hQ
  exact lv_ifnonnullN C.1 C.2.1 hd (k.2 p e R s m args below meth c H locs cells slots lsA Q C hS hR hL hz h1 h2 hQ)
theorem pw_ifnull {x : Nat} {off : Int} (hd : decode M.2.1 pc = .ok (.ifnull off, 3)) (k : PW G d M (pc + 3) ls st h r h') : PW G d M pc ls (.ref x :: st) h r h' := by
  refine ⟨k.1, ?_⟩
  intro p e R s m args below meth c H locs cells slots lsA Q C hS hR hL hz h1 h2 hQ
  exact lv_ifnull C.1 C.2.1 hd (k.2 p e R s m args below meth c H locs cells slots lsA Q C hS hR hL hz h1 h2 hQ)
theorem pw_ifnullN {off : Int} {tgt : Nat} (hd : decode M.2.1 pc = .ok (.ifnull off, 3)) (ht : (pc : Int) + off = (tgt : Int)) (k : PW G d M tgt ls st h r h') : PW G d M pc ls (.null :: st) h r h' := by
  refine ⟨k.1, ?_⟩
  intro p e R s m args below meth c H locs cells slots lsA Q C hS hR hL hz h1 h2 hQ
  exact lv_ifnullN C.1 C.2.1 hd ht (k.2 p e R s m args below meth c H locs cells slots lsA Q C hS hR hL hz h1 h2 hQ)
theorem pw_tableIn {dflt lo hi : Int} {offs : Array Int} {len : Nat} {x : Int32} {off : Int} {tgt : Nat} (hd : decode M.2.1 pc = .ok (.tableswitch dflt lo hi offs, len)) (g1 : ¬ x.toInt < lo) (g2 : ¬ hi < x.toInt) (ho : offs[(x.toInt - lo).toNat]? = some off) (ht : (pc : Int) + off = (tgt : Int)) (k : PW G d M tgt ls st h r h') : PW G d M pc ls (.int x :: st) h r h' := by
  refine ⟨k.1, ?_⟩
  intro p e R s m args below meth c H locs cells slots lsA Q C hS hR hL hz h1 h2 hQ
  exact lv_tableIn C.1 C.2.1 hd g1 g2 ho ht (k.2 p e R s m args below meth c H locs cells slots lsA Q C hS hR hL hz h1 h2 hQ)
theorem pw_tableOut {dflt lo hi : Int} {offs : Array Int} {len : Nat} {x : Int32} {tgt : Nat} (hd : decode M.2.1 pc = .ok (.tableswitch dflt lo hi offs, len)) (g1 : x.toInt < lo ∨ hi < x.toInt) (ht : (pc : Int) + dflt = (tgt : Int)) (k : PW G d M tgt ls st h r h') : PW G d M pc ls (.int x :: st) h r h' := by
  refine ⟨k.1, ?_⟩
  intro p e R s m args below meth c H locs cells slots lsA Q C hS hR hL hz h1 h2 hQ
  exact lv_tableOut C.1 C.2.1 hd g1 ht (k.2 p e R s m args below meth c H locs cells slots lsA Q C hS hR hL hz h1 h2 hQ)
theorem pw_lookup {dflt : Int} {ps : Array (Int × Int)} {len : Nat} {x : Int32} {off : Int} {tgt : Nat} (hd : decode M.2.1 pc = .ok (.lookupswitch dflt ps, len)) (hp : (ps.toList.zip (ps.toList.drop 1)).all (fun (a, next) => a.1 < next.1) = true) (ho : Op.lookupswitch.offset ps.toList dflt x.toInt = off) (ht : (pc : Int) + off = (tgt : Int)) (k : PW G d M tgt ls st h r h') : PW G d M pc ls (.int x :: st) h r h' := by
  refine ⟨k.1, ?_⟩
  intro p e R s m args below meth c H locs cells slots lsA Q C hS hR hL hz h1 h2 hQ
  exact lv_lookup C.1 C.2.1 hd hp ho ht (k.2 p e R s m args below meth c H locs cells slots lsA Q C hS hR hL hz h1 h2 hQ)
theorem pm_ad_inj {G : gT} {rx ry : Option Nat} (hx : ∀ a, rx = some a → 8 ≤ a) (hy : ∀ a, ry = some a → 8 ≤ a) (e : rx.map (pm_ad G) = ry.map (pm_ad G)) : rx = ry := by
  cases rx with
  | none => cases ry with
    | none => rfl
    | some b => cases e
  | some a => cases ry with
    | none => cases e
    | some b =>
      have e1 : pm_ad G a = pm_ad G b := Option.some.inj e
      have ha := hx a rfl
      have hb := hy b rfl
      rw [pm_ad_of G ha, pm_ad_of G hb] at e1
      have : a = b := by omega
      rw [this]
theorem pw_acmp_eq {rx ry : Option Nat} {off : Int} {tgt : Nat} (hd : decode M.2.1 pc = .ok (.if_acmp .eq off, 3)) (ht : (pc : Int) + off = (tgt : Int)) (hx : ∀ a, rx = some a → 8 ≤ a) (hy : ∀ a, ry = some a → 8 ≤ a) (kt : rx = ry → PW G d M tgt ls st h r h') (kf : ¬ rx = ry → PW G d M (pc + 3) ls st h r h') : PW G d M pc ls (va_rf ry :: va_rf rx :: st) h r h' := by
  refine ⟨?_, ?_⟩
  · by_cases q : rx = ry
    · exact (kt q).1
    · exact (kf q).1
  intro p e R s m args below meth c H locs cells slots lsA Q C hS hR hL hz h1 h2 hQ
  show W _ _ _ _ _ _ _ _ _ _ _ _ _ _ _ (F0 m pc lsA (pm_v G (va_rf ry) :: pm_v G (va_rf rx) :: st.map (pm_v G)))
  rw [pm_v_rf, pm_v_rf]
  exact lv_acmp_eq C.1 C.2.1 hd ht (fun q => (kt (pm_ad_inj hx hy q)).2 p e R s m args below meth c H locs cells slots lsA Q C hS hR hL hz h1 h2 hQ) (fun q => (kf (fun z => q (by rw [z]))).2 p e R s m args below meth c H locs cells slots lsA Q C hS hR hL hz h1 h2 hQ)
theorem pw_acmp_ne {rx ry : Option Nat} {off : Int} {tgt : Nat} (hd : decode M.2.1 pc = .ok (.if_acmp .ne off, 3)) (ht : (pc : Int) + off = (tgt : Int)) (hx : ∀ a, rx = some a → 8 ≤ a) (hy : ∀ a, ry = some a → 8 ≤ a) (kt : ¬ rx = ry → PW G d M tgt ls st h r h') (kf : rx = ry → PW G d M (pc + 3) ls st h r h') : PW G d M pc ls (va_rf ry :: va_rf rx :: st) h r h' := by
  refine ⟨?_, ?_⟩
  · by_cases q : rx = ry
    · exact (kf q).1
    · exact (kt q).1
  intro p e R s m args below meth c H locs cells slots lsA Q C hS hR hL hz h1 h2 hQ
  show W _ _ _ _ _ _ _ _ _ _ _ _ _ _ _ (F0 m pc lsA (pm_v G (va_rf ry) :: pm_v G (va_rf rx) :: st.map (pm_v G)))
  rw [pm_v_rf, pm_v_rf]
  exact lv_acmp_ne C.1 C.2.1 hd ht (fun q => (kt (fun z => q (by rw [z]))).2 p e R s m args below meth c H locs cells slots lsA Q C hS hR hL hz h1 h2 hQ) (fun q => (kf (pm_ad_inj hx hy q)).2 p e R s m args below meth c H locs cells slots lsA Q C hS hR hL hz h1 h2 hQ)
end PW5
section PW5P
variable {G : gT} {d : Nat} {M : mT} {pc : Nat} {t : List (Option Value)} {st : List Value} {h h' : Ph} {r : Option Value}
theorem pw_iload0  {x : Int32} (hd : decode M.2.1 pc = .ok (.iload_n 0, 1)) (k : PW G d M (pc + 1) (some (.int x) :: t) (.int x :: st) h r h') : PW G d M pc (some (.int x) :: t) st h r h' := pw_iload_n hd rfl rfl k
theorem pw_iload1 {a0 : Option Value} {x : Int32} (hd : decode M.2.1 pc = .ok (.iload_n 1, 1)) (k : PW G d M (pc + 1) (a0 :: some (.int x) :: t) (.int x :: st) h r h') : PW G d M pc (a0 :: some (.int x) :: t) st h r h' := pw_iload_n hd rfl rfl k
theorem pw_iload2 {a0 a1 : Option Value} {x : Int32} (hd : decode M.2.1 pc = .ok (.iload_n 2, 1)) (k : PW G d M (pc + 1) (a0 :: a1 :: some (.int x) :: t) (.int x :: st) h r h') : PW G d M pc (a0 :: a1 :: some (.int x) :: t) st h r h' := pw_iload_n hd rfl rfl k
theorem pw_iload3 {a0 a1 a2 : Option Value} {x : Int32} (hd : decode M.2.1 pc = .ok (.iload_n 3, 1)) (k : PW G d M (pc + 1) (a0 :: a1 :: a2 :: some (.int x) :: t) (.int x :: st) h r h') : PW G d M pc (a0 :: a1 :: a2 :: some (.int x) :: t) st h r h' := pw_iload_n hd rfl rfl k
theorem pw_iload4 {a0 a1 a2 a3 : Option Value} {x : Int32} (hd : decode M.2.1 pc = .ok (.iload 4, 2)) (k : PW G d M (pc + 2) (a0 :: a1 :: a2 :: a3 :: some (.int x) :: t) (.int x :: st) h r h') : PW G d M pc (a0 :: a1 :: a2 :: a3 :: some (.int x) :: t) st h r h' := pw_iload hd  rfl k
theorem pw_iload5 {a0 a1 a2 a3 a4 : Option Value} {x : Int32} (hd : decode M.2.1 pc = .ok (.iload 5, 2)) (k : PW G d M (pc + 2) (a0 :: a1 :: a2 :: a3 :: a4 :: some (.int x) :: t) (.int x :: st) h r h') : PW G d M pc (a0 :: a1 :: a2 :: a3 :: a4 :: some (.int x) :: t) st h r h' := pw_iload hd  rfl k
theorem pw_iload6 {a0 a1 a2 a3 a4 a5 : Option Value} {x : Int32} (hd : decode M.2.1 pc = .ok (.iload 6, 2)) (k : PW G d M (pc + 2) (a0 :: a1 :: a2 :: a3 :: a4 :: a5 :: some (.int x) :: t) (.int x :: st) h r h') : PW G d M pc (a0 :: a1 :: a2 :: a3 :: a4 :: a5 :: some (.int x) :: t) st h r h' := pw_iload hd  rfl k
theorem pw_iload7 {a0 a1 a2 a3 a4 a5 a6 : Option Value} {x : Int32} (hd : decode M.2.1 pc = .ok (.iload 7, 2)) (k : PW G d M (pc + 2) (a0 :: a1 :: a2 :: a3 :: a4 :: a5 :: a6 :: some (.int x) :: t) (.int x :: st) h r h') : PW G d M pc (a0 :: a1 :: a2 :: a3 :: a4 :: a5 :: a6 :: some (.int x) :: t) st h r h' := pw_iload hd  rfl k
theorem pw_iload8 {a0 a1 a2 a3 a4 a5 a6 a7 : Option Value} {x : Int32} (hd : decode M.2.1 pc = .ok (.iload 8, 2)) (k : PW G d M (pc + 2) (a0 :: a1 :: a2 :: a3 :: a4 :: a5 :: a6 :: a7 :: some (.int x) :: t) (.int x :: st) h r h') : PW G d M pc (a0 :: a1 :: a2 :: a3 :: a4 :: a5 :: a6 :: a7 :: some (.int x) :: t) st h r h' := pw_iload hd  rfl k
theorem pw_iload9 {a0 a1 a2 a3 a4 a5 a6 a7 a8 : Option Value} {x : Int32} (hd : decode M.2.1 pc = .ok (.iload 9, 2)) (k : PW G d M (pc + 2) (a0 :: a1 :: a2 :: a3 :: a4 :: a5 :: a6 :: a7 :: a8 :: some (.int x) :: t) (.int x :: st) h r h') : PW G d M pc (a0 :: a1 :: a2 :: a3 :: a4 :: a5 :: a6 :: a7 :: a8 :: some (.int x) :: t) st h r h' := pw_iload hd  rfl k
theorem pw_iload10 {a0 a1 a2 a3 a4 a5 a6 a7 a8 a9 : Option Value} {x : Int32} (hd : decode M.2.1 pc = .ok (.iload 10, 2)) (k : PW G d M (pc + 2) (a0 :: a1 :: a2 :: a3 :: a4 :: a5 :: a6 :: a7 :: a8 :: a9 :: some (.int x) :: t) (.int x :: st) h r h') : PW G d M pc (a0 :: a1 :: a2 :: a3 :: a4 :: a5 :: a6 :: a7 :: a8 :: a9 :: some (.int x) :: t) st h r h' := pw_iload hd  rfl k
theorem pw_iload11 {a0 a1 a2 a3 a4 a5 a6 a7 a8 a9 a10 : Option Value} {x : Int32} (hd : decode M.2.1 pc = .ok (.iload 11, 2)) (k : PW G d M (pc + 2) (a0 :: a1 :: a2 :: a3 :: a4 :: a5 :: a6 :: a7 :: a8 :: a9 :: a10 :: some (.int x) :: t) (.int x :: st) h r h') : PW G d M pc (a0 :: a1 :: a2 :: a3 :: a4 :: a5 :: a6 :: a7 :: a8 :: a9 :: a10 :: some (.int x) :: t) st h r h' := pw_iload hd  rfl k
theorem pw_iload12 {a0 a1 a2 a3 a4 a5 a6 a7 a8 a9 a10 a11 : Option Value} {x : Int32} (hd : decode M.2.1 pc = .ok (.iload 12, 2)) (k : PW G d M (pc + 2) (a0 :: a1 :: a2 :: a3 :: a4 :: a5 :: a6 :: a7 :: a8 :: a9 :: a10 :: a11 :: some (.int x) :: t) (.int x :: st) h r h') : PW G d M pc (a0 :: a1 :: a2 :: a3 :: a4 :: a5 :: a6 :: a7 :: a8 :: a9 :: a10 :: a11 :: some (.int x) :: t) st h r h' := pw_iload hd  rfl k
theorem pw_iload13 {a0 a1 a2 a3 a4 a5 a6 a7 a8 a9 a10 a11 a12 : Option Value} {x : Int32} (hd : decode M.2.1 pc = .ok (.iload 13, 2)) (k : PW G d M (pc + 2) (a0 :: a1 :: a2 :: a3 :: a4 :: a5 :: a6 :: a7 :: a8 :: a9 :: a10 :: a11 :: a12 :: some (.int x) :: t) (.int x :: st) h r h') : PW G d M pc (a0 :: a1 :: a2 :: a3 :: a4 :: a5 :: a6 :: a7 :: a8 :: a9 :: a10 :: a11 :: a12 :: some (.int x) :: t) st h r h' := pw_iload hd  rfl k
theorem pw_iload14 {a0 a1 a2 a3 a4 a5 a6 a7 a8 a9 a10 a11 a12 a13 : Option Value} {x : Int32} (hd : decode M.2.1 pc = .ok (.iload 14, 2)) (k : PW G d M (pc + 2) (a0 :: a1 :: a2 :: a3 :: a4 :: a5 :: a6 :: a7 :: a8 :: a9 :: a10 :: a11 :: a12 :: a13 :: some (.int x) :: t) (.int x :: st) h r h') : PW G d M pc (a0 :: a1 :: a2 :: a3 :: a4 :: a5 :: a6 :: a7 :: a8 :: a9 :: a10 :: a11 :: a12 :: a13 :: some (.int x) :: t) st h r h' := pw_iload hd  rfl k
theorem pw_iload15 {a0 a1 a2 a3 a4 a5 a6 a7 a8 a9 a10 a11 a12 a13 a14 : Option Value} {x : Int32} (hd : decode M.2.1 pc = .ok (.iload 15, 2)) (k : PW G d M (pc + 2) (a0 :: a1 :: a2 :: a3 :: a4 :: a5 :: a6 :: a7 :: a8 :: a9 :: a10 :: a11 :: a12 :: a13 :: a14 :: some (.int x) :: t) (.int x :: st) h r h') : PW G d M pc (a0 :: a1 :: a2 :: a3 :: a4 :: a5 :: a6 :: a7 :: a8 :: a9 :: a10 :: a11 :: a12 :: a13 :: a14 :: some (.int x) :: t) st h r h' := pw_iload hd  rfl k
theorem pw_iload16 {a0 a1 a2 a3 a4 a5 a6 a7 a8 a9 a10 a11 a12 a13 a14 a15 : Option Value} {x : Int32} (hd : decode M.2.1 pc = .ok (.iload 16, 2)) (k : PW G d M (pc + 2) (a0 :: a1 :: a2 :: a3 :: a4 :: a5 :: a6 :: a7 :: a8 :: a9 :: a10 :: a11 :: a12 :: a13 :: a14 :: a15 :: some (.int x) :: t) (.int x :: st) h r h') : PW G d M pc (a0 :: a1 :: a2 :: a3 :: a4 :: a5 :: a6 :: a7 :: a8 :: a9 :: a10 :: a11 :: a12 :: a13 :: a14 :: a15 :: some (.int x) :: t) st h r h' := pw_iload hd  rfl k
theorem pw_iload17 {a0 a1 a2 a3 a4 a5 a6 a7 a8 a9 a10 a11 a12 a13 a14 a15 a16 : Option Value} {x : Int32} (hd : decode M.2.1 pc = .ok (.iload 17, 2)) (k : PW G d M (pc + 2) (a0 :: a1 :: a2 :: a3 :: a4 :: a5 :: a6 :: a7 :: a8 :: a9 :: a10 :: a11 :: a12 :: a13 :: a14 :: a15 :: a16 :: some (.int x) :: t) (.int x :: st) h r h') : PW G d M pc (a0 :: a1 :: a2 :: a3 :: a4 :: a5 :: a6 :: a7 :: a8 :: a9 :: a10 :: a11 :: a12 :: a13 :: a14 :: a15 :: a16 :: some (.int x) :: t) st h r h' := pw_iload hd  rfl k
theorem pw_iload18 {a0 a1 a2 a3 a4 a5 a6 a7 a8 a9 a10 a11 a12 a13 a14 a15 a16 a17 : Option Value} {x : Int32} (hd : decode M.2.1 pc = .ok (.iload 18, 2)) (k : PW G d M (pc + 2) (a0 :: a1 :: a2 :: a3 :: a4 :: a5 :: a6 :: a7 :: a8 :: a9 :: a10 :: a11 :: a12 :: a13 :: a14 :: a15 :: a16 :: a17 :: some (.int x) :: t) (.int x :: st) h r h') : PW G d M pc (a0 :: a1 :: a2 :: a3 :: a4 :: a5 :: a6 :: a7 :: a8 :: a9 :: a10 :: a11 :: a12 :: a13 :: a14 :: a15 :: a16 :: a17 :: some (.int x) :: t) st h r h' := pw_iload hd  rfl k
theorem pw_iload19 {a0 a1 a2 a3 a4 a5 a6 a7 a8 a9 a10 a11 a12 a13 a14 a15 a16 a17 a18 : Option Value} {x : Int32} (hd : decode M.2.1 pc = .ok (.iload 19, 2)) (k : PW G d M (pc + 2) (a0 :: a1 :: a2 :: a3 :: a4 :: a5 :: a6 :: a7 :: a8 :: a9 :: a10 :: a11 :: a12 :: a13 :: a14 :: a15 :: a16 :: a17 :: a18 :: some (.int x) :: t) (.int x :: st) h r h') : PW G d M pc (a0 :: a1 :: a2 :: a3 :: a4 :: a5 :: a6 :: a7 :: a8 :: a9 :: a10 :: a11 :: a12 :: a13 :: a14 :: a15 :: a16 :: a17 :: a18 :: some (.int x) :: t) st h r h' := pw_iload hd  rfl k
theorem pw_lload0  {x : Int64} (hd : decode M.2.1 pc = .ok (.lload_n 0, 1)) (k : PW G d M (pc + 1) (some (.long x) :: t) (.long x :: st) h r h') : PW G d M pc (some (.long x) :: t) st h r h' := pw_lload_n hd rfl rfl k
theorem pw_lload1 {a0 : Option Value} {x : Int64} (hd : decode M.2.1 pc = .ok (.lload_n 1, 1)) (k : PW G d M (pc + 1) (a0 :: some (.long x) :: t) (.long x :: st) h r h') : PW G d M pc (a0 :: some (.long x) :: t) st h r h' := pw_lload_n hd rfl rfl k
theorem pw_lload2 {a0 a1 : Option Value} {x : Int64} (hd : decode M.2.1 pc = .ok (.lload_n 2, 1)) (k : PW G d M (pc + 1) (a0 :: a1 :: some (.long x) :: t) (.long x :: st) h r h') : PW G d M pc (a0 :: a1 :: some (.long x) :: t) st h r h' := pw_lload_n hd rfl rfl k
theorem pw_lload3 {a0 a1 a2 : Option Value} {x : Int64} (hd : decode M.2.1 pc = .ok (.lload_n 3, 1)) (k : PW G d M (pc + 1) (a0 :: a1 :: a2 :: some (.long x) :: t) (.long x :: st) h r h') : PW G d M pc (a0 :: a1 :: a2 :: some (.long x) :: t) st h r h' := pw_lload_n hd rfl rfl k
theorem pw_lload4 {a0 a1 a2 a3 : Option Value} {x : Int64} (hd : decode M.2.1 pc = .ok (.lload 4, 2)) (k : PW G d M (pc + 2) (a0 :: a1 :: a2 :: a3 :: some (.long x) :: t) (.long x :: st) h r h') : PW G d M pc (a0 :: a1 :: a2 :: a3 :: some (.long x) :: t) st h r h' := pw_lload hd  rfl k
theorem pw_lload5 {a0 a1 a2 a3 a4 : Option Value} {x : Int64} (hd : decode M.2.1 pc = .ok (.lload 5, 2)) (k : PW G d M (pc + 2) (a0 :: a1 :: a2 :: a3 :: a4 :: some (.long x) :: t) (.long x :: st) h r h') : PW G d M pc (a0 :: a1 :: a2 :: a3 :: a4 :: some (.long x) :: t) st h r h' := pw_lload hd  rfl k
theorem pw_lload6 {a0 a1 a2 a3 a4 a5 : Option Value} {x : Int64} (hd : decode M.2.1 pc = .ok (.lload 6, 2)) (k : PW G d M (pc + 2) (a0 :: a1 :: a2 :: a3 :: a4 :: a5 :: some (.long x) :: t) (.long x :: st) h r h') : PW G d M pc (a0 :: a1 :: a2 :: a3 :: a4 :: a5 :: some (.long x) :: t) st h r h' := pw_lload hd  rfl k
theorem pw_lload7 {a0 a1 a2 a3 a4 a5 a6 : Option Value} {x : Int64} (hd : decode M.2.1 pc = .ok (.lload 7, 2)) (k : PW G d M (pc + 2) (a0 :: a1 :: a2 :: a3 :: a4 :: a5 :: a6 :: some (.long x) :: t) (.long x :: st) h r h') : PW G d M pc (a0 :: a1 :: a2 :: a3 :: a4 :: a5 :: a6 :: some (.long x) :: t) st h r h' := pw_lload hd  rfl k
theorem pw_lload8 {a0 a1 a2 a3 a4 a5 a6 a7 : Option Value} {x : Int64} (hd : decode M.2.1 pc = .ok (.lload 8, 2)) (k : PW G d M (pc + 2) (a0 :: a1 :: a2 :: a3 :: a4 :: a5 :: a6 :: a7 :: some (.long x) :: t) (.long x :: st) h r h') : PW G d M pc (a0 :: a1 :: a2 :: a3 :: a4 :: a5 :: a6 :: a7 :: some (.long x) :: t) st h r h' := pw_lload hd  rfl k
theorem pw_lload9 {a0 a1 a2 a3 a4 a5 a6 a7 a8 : Option Value} {x : Int64} (hd : decode M.2.1 pc = .ok (.lload 9, 2)) (k : PW G d M (pc + 2) (a0 :: a1 :: a2 :: a3 :: a4 :: a5 :: a6 :: a7 :: a8 :: some (.long x) :: t) (.long x :: st) h r h') : PW G d M pc (a0 :: a1 :: a2 :: a3 :: a4 :: a5 :: a6 :: a7 :: a8 :: some (.long x) :: t) st h r h' := pw_lload hd  rfl k
theorem pw_lload10 {a0 a1 a2 a3 a4 a5 a6 a7 a8 a9 : Option Value} {x : Int64} (hd : decode M.2.1 pc = .ok (.lload 10, 2)) (k : PW G d M (pc + 2) (a0 :: a1 :: a2 :: a3 :: a4 :: a5 :: a6 :: a7 :: a8 :: a9 :: some (.long x) :: t) (.long x :: st) h r h') : PW G d M pc (a0 :: a1 :: a2 :: a3 :: a4 :: a5 :: a6 :: a7 :: a8 :: a9 :: some (.long x) :: t) st h r h' := pw_lload hd  rfl k
theorem pw_lload11 {a0 a1 a2 a3 a4 a5 a6 a7 a8 a9 a10 : Option Value} {x : Int64} (hd : decode M.2.1 pc = .ok (.lload 11, 2)) (k : PW G d M (pc + 2) (a0 :: a1 :: a2 :: a3 :: a4 :: a5 :: a6 :: a7 :: a8 :: a9 :: a10 :: some (.long x) :: t) (.long x :: st) h r h') : PW G d M pc (a0 :: a1 :: a2 :: a3 :: a4 :: a5 :: a6 :: a7 :: a8 :: a9 :: a10 :: some (.long x) :: t) st h r h' := pw_lload hd  rfl k
theorem pw_lload12 {a0 a1 a2 a3 a4 a5 a6 a7 a8 a9 a10 a11 : Option Value} {x : Int64} (hd : decode M.2.1 pc = .ok (.lload 12, 2)) (k : PW G d M (pc + 2) (a0 :: a1 :: a2 :: a3 :: a4 :: a5 :: a6 :: a7 :: a8 :: a9 :: a10 :: a11 :: some (.long x) :: t) (.long x :: st) h r h') : PW G d M pc (a0 :: a1 :: a2 :: a3 :: a4 :: a5 :: a6 :: a7 :: a8 :: a9 :: a10 :: a11 :: some (.long x) :: t) st h r h' := pw_lload hd  rfl k
theorem pw_lload13 {a0 a1 a2 a3 a4 a5 a6 a7 a8 a9 a10 a11 a12 : Option Value} {x : Int64} (hd : decode M.2.1 pc = .ok (.lload 13, 2)) (k : PW G d M (pc + 2) (a0 :: a1 :: a2 :: a3 :: a4 :: a5 :: a6 :: a7 :: a8 :: a9 :: a10 :: a11 :: a12 :: some (.long x) :: t) (.long x :: st) h r h') : PW G d M pc (a0 :: a1 :: a2 :: a3 :: a4 :: a5 :: a6 :: a7 :: a8 :: a9 :: a10 :: a11 :: a12 :: some (.long x) :: t) st h r h' := pw_lload hd  rfl k
theorem pw_lload14 {a0 a1 a2 a3 a4 a5 a6 a7 a8 a9 a10 a11 a12 a13 : Option Value} {x : Int64} (hd : decode M.2.1 pc = .ok (.lload 14, 2)) (k : PW G d M (pc + 2) (a0 :: a1 :: a2 :: a3 :: a4 :: a5 :: a6 :: a7 :: a8 :: a9 :: a10 :: a11 :: a12 :: a13 :: some (.long x) :: t) (.long x :: st) h r h') : PW G d M pc (a0 :: a1 :: a2 :: a3 :: a4 :: a5 :: a6 :: a7 :: a8 :: a9 :: a10 :: a11 :: a12 :: a13 :: some (.long x) :: t) st h r h' := pw_lload hd  rfl k
theorem pw_lload15 {a0 a1 a2 a3 a4 a5 a6 a7 a8 a9 a10 a11 a12 a13 a14 : Option Value} {x : Int64} (hd : decode M.2.1 pc = .ok (.lload 15, 2)) (k : PW G d M (pc + 2) (a0 :: a1 :: a2 :: a3 :: a4 :: a5 :: a6 :: a7 :: a8 :: a9 :: a10 :: a11 :: a12 :: a13 :: a14 :: some (.long x) :: t) (.long x :: st) h r h') : PW G d M pc (a0 :: a1 :: a2 :: a3 :: a4 :: a5 :: a6 :: a7 :: a8 :: a9 :: a10 :: a11 :: a12 :: a13 :: a14 :: some (.long x) :: t) st h r h' := pw_lload hd  rfl k
theorem pw_lload16 {a0 a1 a2 a3 a4 a5 a6 a7 a8 a9 a10 a11 a12 a13 a14 a15 : Option Value} {x : Int64} (hd : decode M.2.1 pc = .ok (.lload 16, 2)) (k : PW G d M (pc + 2) (a0 :: a1 :: a2 :: a3 :: a4 :: a5 :: a6 :: a7 :: a8 :: a9 :: a10 :: a11 :: a12 :: a13 :: a14 :: a15 :: some (.long x) :: t) (.long x :: st) h r h') : PW G d M pc (a0 :: a1 :: a2 :: a3 :: a4 :: a5 :: a6 :: a7 :: a8 :: a9 :: a10 :: a11 :: a12 :: a13 :: a14 :: a15 :: some (.long x) :: t) st h r h' := pw_lload hd  rfl k
theorem pw_lload17 {a0 a1 a2 a3 a4 a5 a6 a7 a8 a9 a10 a11 a12 a13 a14 a15 a16 : Option Value} {x : Int64} (hd : decode M.2.1 pc = .ok (.lload 17, 2)) (k : PW G d M (pc + 2) (a0 :: a1 :: a2 :: a3 :: a4 :: a5 :: a6 :: a7 :: a8 :: a9 :: a10 :: a11 :: a12 :: a13 :: a14 :: a15 :: a16 :: some (.long x) :: t) (.long x :: st) h r h') : PW G d M pc (a0 :: a1 :: a2 :: a3 :: a4 :: a5 :: a6 :: a7 :: a8 :: a9 :: a10 :: a11 :: a12 :: a13 :: a14 :: a15 :: a16 :: some (.long x) :: t) st h r h' := pw_lload hd  rfl k
theorem pw_lload18 {a0 a1 a2 a3 a4 a5 a6 a7 a8 a9 a10 a11 a12 a13 a14 a15 a16 a17 : Option Value} {x : Int64} (hd : decode M.2.1 pc = .ok (.lload 18, 2)) (k : PW G d M (pc + 2) (a0 :: a1 :: a2 :: a3 :: a4 :: a5 :: a6 :: a7 :: a8 :: a9 :: a10 :: a11 :: a12 :: a13 :: a14 :: a15 :: a16 :: a17 :: some (.long x) :: t) (.long x :: st) h r h') : PW G d M pc (a0 :: a1 :: a2 :: a3 :: a4 :: a5 :: a6 :: a7 :: a8 :: a9 :: a10 :: a11 :: a12 :: a13 :: a14 :: a15 :: a16 :: a17 :: some (.long x) :: t) st h r h' := pw_lload hd  rfl k
theorem pw_lload19 {a0 a1 a2 a3 a4 a5 a6 a7 a8 a9 a10 a11 a12 a13 a14 a15 a16 a17 a18 : Option Value} {x : Int64} (hd : decode M.2.1 pc = .ok (.lload 19, 2)) (k : PW G d M (pc + 2) (a0 :: a1 :: a2 :: a3 :: a4 :: a5 :: a6 :: a7 :: a8 :: a9 :: a10 :: a11 :: a12 :: a13 :: a14 :: a15 :: a16 :: a17 :: a18 :: some (.long x) :: t) (.long x :: st) h r h') : PW G d M pc (a0 :: a1 :: a2 :: a3 :: a4 :: a5 :: a6 :: a7 :: a8 :: a9 :: a10 :: a11 :: a12 :: a13 :: a14 :: a15 :: a16 :: a17 :: a18 :: some (.long x) :: t) st h r h' := pw_lload hd  rfl k
theorem pw_aload0  {x : Nat} (hd : decode M.2.1 pc = .ok (.aload_n 0, 1)) (k : PW G d M (pc + 1) (some (.ref x) :: t) (.ref x :: st) h r h') : PW G d M pc (some (.ref x) :: t) st h r h' := pw_aload_n hd rfl rfl k
theorem pw_aload1 {a0 : Option Value} {x : Nat} (hd : decode M.2.1 pc = .ok (.aload_n 1, 1)) (k : PW G d M (pc + 1) (a0 :: some (.ref x) :: t) (.ref x :: st) h r h') : PW G d M pc (a0 :: some (.ref x) :: t) st h r h' := pw_aload_n hd rfl rfl k
theorem pw_aload2 {a0 a1 : Option Value} {x : Nat} (hd : decode M.2.1 pc = .ok (.aload_n 2, 1)) (k : PW G d M (pc + 1) (a0 :: a1 :: some (.ref x) :: t) (.ref x :: st) h r h') : PW G d M pc (a0 :: a1 :: some (.ref x) :: t) st h r h' := pw_aload_n hd rfl rfl k
theorem pw_aload3 {a0 a1 a2 : Option Value} {x : Nat} (hd : decode M.2.1 pc = .ok (.aload_n 3, 1)) (k : PW G d M (pc + 1) (a0 :: a1 :: a2 :: some (.ref x) :: t) (.ref x :: st) h r h') : PW G d M pc (a0 :: a1 :: a2 :: some (.ref x) :: t) st h r h' := pw_aload_n hd rfl rfl k
theorem pw_aload4 {a0 a1 a2 a3 : Option Value} {x : Nat} (hd : decode M.2.1 pc = .ok (.aload 4, 2)) (k : PW G d M (pc + 2) (a0 :: a1 :: a2 :: a3 :: some (.ref x) :: t) (.ref x :: st) h r h') : PW G d M pc (a0 :: a1 :: a2 :: a3 :: some (.ref x) :: t) st h r h' := pw_aload hd  rfl k
theorem pw_aload5 {a0 a1 a2 a3 a4 : Option Value} {x : Nat} (hd : decode M.2.1 pc = .ok (.aload 5, 2)) (k : PW G d M (pc + 2) (a0 :: a1 :: a2 :: a3 :: a4 :: some (.ref x) :: t) (.ref x :: st) h r h') : PW G d M pc (a0 :: a1 :: a2 :: a3 :: a4 :: some (.ref x) :: t) st h r h' := pw_aload hd  rfl k
theorem pw_aload6 {a0 a1 a2 a3 a4 a5 : Option Value} {x : Nat} (hd : decode M.2.1 pc = .ok (.aload 6, 2)) (k : PW G d M (pc + 2) (a0 :: a1 :: a2 :: a3 :: a4 :: a5 :: some (.ref x) :: t) (.ref x :: st) h r h') : PW G d M pc (a0 :: a1 :: a2 :: a3 :: a4 :: a5 :: some (.ref x) :: t) st h r h' := pw_aload hd  rfl k
theorem pw_aload7 {a0 a1 a2 a3 a4 a5 a6 : Option Value} {x : Nat} (hd : decode M.2.1 pc = .ok (.aload 7, 2)) (k : PW G d M (pc + 2) (a0 :: a1 :: a2 :: a3 :: a4 :: a5 :: a6 :: some (.ref x) :: t) (.ref x :: st) h r h') : PW G d M pc (a0 :: a1 :: a2 :: a3 :: a4 :: a5 :: a6 :: some (.ref x) :: t) st h r h' := pw_aload hd  rfl k
theorem pw_aload8 {a0 a1 a2 a3 a4 a5 a6 a7 : Option Value} {x : Nat} (hd : decode M.2.1 pc = .ok (.aload 8, 2)) (k : PW G d M (pc + 2) (a0 :: a1 :: a2 :: a3 :: a4 :: a5 :: a6 :: a7 :: some (.ref x) :: t) (.ref x :: st) h r h') : PW G d M pc (a0 :: a1 :: a2 :: a3 :: a4 :: a5 :: a6 :: a7 :: some (.ref x) :: t) st h r h' := pw_aload hd  rfl k
theorem pw_aload9 {a0 a1 a2 a3 a4 a5 a6 a7 a8 : Option Value} {x : Nat} (hd : decode M.2.1 pc = .ok (.aload 9, 2)) (k : PW G d M (pc + 2) (a0 :: a1 :: a2 :: a3 :: a4 :: a5 :: a6 :: a7 :: a8 :: some (.ref x) :: t) (.ref x :: st) h r h') : PW G d M pc (a0 :: a1 :: a2 :: a3 :: a4 :: a5 :: a6 :: a7 :: a8 :: some (.ref x) :: t) st h r h' := pw_aload hd  rfl k
theorem pw_aload10 {a0 a1 a2 a3 a4 a5 a6 a7 a8 a9 : Option Value} {x : Nat} (hd : decode M.2.1 pc = .ok (.aload 10, 2)) (k : PW G d M (pc + 2) (a0 :: a1 :: a2 :: a3 :: a4 :: a5 :: a6 :: a7 :: a8 :: a9 :: some (.ref x) :: t) (.ref x :: st) h r h') : PW G d M pc (a0 :: a1 :: a2 :: a3 :: a4 :: a5 :: a6 :: a7 :: a8 :: a9 :: some (.ref x) :: t) st h r h' := pw_aload hd  rfl k
theorem pw_aload11 {a0 a1 a2 a3 a4 a5 a6 a7 a8 a9 a10 : Option Value} {x : Nat} (hd : decode M.2.1 pc = .ok (.aload 11, 2)) (k : PW G d M (pc + 2) (a0 :: a1 :: a2 :: a3 :: a4 :: a5 :: a6 :: a7 :: a8 :: a9 :: a10 :: some (.ref x) :: t) (.ref x :: st) h r h') : PW G d M pc (a0 :: a1 :: a2 :: a3 :: a4 :: a5 :: a6 :: a7 :: a8 :: a9 :: a10 :: some (.ref x) :: t) st h r h' := pw_aload hd  rfl k
theorem pw_aload12 {a0 a1 a2 a3 a4 a5 a6 a7 a8 a9 a10 a11 : Option Value} {x : Nat} (hd : decode M.2.1 pc = .ok (.aload 12, 2)) (k : PW G d M (pc + 2) (a0 :: a1 :: a2 :: a3 :: a4 :: a5 :: a6 :: a7 :: a8 :: a9 :: a10 :: a11 :: some (.ref x) :: t) (.ref x :: st) h r h') : PW G d M pc (a0 :: a1 :: a2 :: a3 :: a4 :: a5 :: a6 :: a7 :: a8 :: a9 :: a10 :: a11 :: some (.ref x) :: t) st h r h' := pw_aload hd  rfl k
theorem pw_aload13 {a0 a1 a2 a3 a4 a5 a6 a7 a8 a9 a10 a11 a12 : Option Value} {x : Nat} (hd : decode M.2.1 pc = .ok (.aload 13, 2)) (k : PW G d M (pc + 2) (a0 :: a1 :: a2 :: a3 :: a4 :: a5 :: a6 :: a7 :: a8 :: a9 :: a10 :: a11 :: a12 :: some (.ref x) :: t) (.ref x :: st) h r h') : PW G d M pc (a0 :: a1 :: a2 :: a3 :: a4 :: a5 :: a6 :: a7 :: a8 :: a9 :: a10 :: a11 :: a12 :: some (.ref x) :: t) st h r h' := pw_aload hd  rfl k
theorem pw_aload14 {a0 a1 a2 a3 a4 a5 a6 a7 a8 a9 a10 a11 a12 a13 : Option Value} {x : Nat} (hd : decode M.2.1 pc = .ok (.aload 14, 2)) (k : PW G d M (pc + 2) (a0 :: a1 :: a2 :: a3 :: a4 :: a5 :: a6 :: a7 :: a8 :: a9 :: a10 :: a11 :: a12 :: a13 :: some (.ref x) :: t) (.ref x :: st) h r h') : PW G d M pc (a0 :: a1 :: a2 :: a3 :: a4 :: a5 :: a6 :: a7 :: a8 :: a9 :: a10 :: a11 :: a12 :: a13 :: some (.ref x) :: t) st h r h' := pw_aload hd  rfl k
theorem pw_aload15 {a0 a1 a2 a3 a4 a5 a6 a7 a8 a9 a10 a11 a12 a13 a14 : Option Value} {x : Nat} (hd : decode M.2.1 pc = .ok (.aload 15, 2)) (k : PW G d M (pc + 2) (a0 :: a1 :: a2 :: a3 :: a4 :: a5 :: a6 :: a7 :: a8 :: a9 :: a10 :: a11 :: a12 :: a13 :: a14 :: some (.ref x) :: t) (.ref x :: st) h r h') : PW G d M pc (a0 :: a1 :: a2 :: a3 :: a4 :: a5 :: a6 :: a7 :: a8 :: a9 :: a10 :: a11 :: a12 :: a13 :: a14 :: some (.ref x) :: t) st h r h' := pw_aload hd  rfl k
theorem pw_aload16 {a0 a1 a2 a3 a4 a5 a6 a7 a8 a9 a10 a11 a12 a13 a14 a15 : Option Value} {x : Nat} (hd : decode M.2.1 pc = .ok (.aload 16, 2)) (k : PW G d M (pc + 2) (a0 :: a1 :: a2 :: a3 :: a4 :: a5 :: a6 :: a7 :: a8 :: a9 :: a10 :: a11 :: a12 :: a13 :: a14 :: a15 :: some (.ref x) :: t) (.ref x :: st) h r h') : PW G d M pc (a0 :: a1 :: a2 :: a3 :: a4 :: a5 :: a6 :: a7 :: a8 :: a9 :: a10 :: a11 :: a12 :: a13 :: a14 :: a15 :: some (.ref x) :: t) st h r h' := pw_aload hd  rfl k
theorem pw_aload17 {a0 a1 a2 a3 a4 a5 a6 a7 a8 a9 a10 a11 a12 a13 a14 a15 a16 : Option Value} {x : Nat} (hd : decode M.2.1 pc = .ok (.aload 17, 2)) (k : PW G d M (pc + 2) (a0 :: a1 :: a2 :: a3 :: a4 :: a5 :: a6 :: a7 :: a8 :: a9 :: a10 :: a11 :: a12 :: a13 :: a14 :: a15 :: a16 :: some (.ref x) :: t) (.ref x :: st) h r h') : PW G d M pc (a0 :: a1 :: a2 :: a3 :: a4 :: a5 :: a6 :: a7 :: a8 :: a9 :: a10 :: a11 :: a12 :: a13 :: a14 :: a15 :: a16 :: some (.ref x) :: t) st h r h' := pw_aload hd  rfl k
theorem pw_aload18 {a0 a1 a2 a3 a4 a5 a6 a7 a8 a9 a10 a11 a12 a13 a14 a15 a16 a17 : Option Value} {x : Nat} (hd : decode M.2.1 pc = .ok (.aload 18, 2)) (k : PW G d M (pc + 2) (a0 :: a1 :: a2 :: a3 :: a4 :: a5 :: a6 :: a7 :: a8 :: a9 :: a10 :: a11 :: a12 :: a13 :: a14 :: a15 :: a16 :: a17 :: some (.ref x) :: t) (.ref x :: st) h r h') : PW G d M pc (a0 :: a1 :: a2 :: a3 :: a4 :: a5 :: a6 :: a7 :: a8 :: a9 :: a10 :: a11 :: a12 :: a13 :: a14 :: a15 :: a16 :: a17 :: some (.ref x) :: t) st h r h' := pw_aload hd  rfl k
theorem pw_aload19 {a0 a1 a2 a3 a4 a5 a6 a7 a8 a9 a10 a11 a12 a13 a14 a15 a16 a17 a18 : Option Value} {x : Nat} (hd : decode M.2.1 pc = .ok (.aload 19, 2)) (k : PW G d M (pc + 2) (a0 :: a1 :: a2 :: a3 :: a4 :: a5 :: a6 :: a7 :: a8 :: a9 :: a10 :: a11 :: a12 :: a13 :: a14 :: a15 :: a16 :: a17 :: a18 :: some (.ref x) :: t) (.ref x :: st) h r h') : PW G d M pc (a0 :: a1 :: a2 :: a3 :: a4 :: a5 :: a6 :: a7 :: a8 :: a9 :: a10 :: a11 :: a12 :: a13 :: a14 :: a15 :: a16 :: a17 :: a18 :: some (.ref x) :: t) st h r h' := pw_aload hd  rfl k
theorem pw_istore0  {o : Option Value} {x : Int32} (hd : decode M.2.1 pc = .ok (.istore_n 0, 1)) (hn : 0 < M.2.2.1)  (k : PW G d M (pc + 1) (some (.int x) :: t) st h r h') : PW G d M pc (o :: t) (.int x :: st) h r h' := pw_istore_n hd rfl hn (fun w q => absurd rfl q) k
theorem pw_istore1 {a0 : Option Value} {o : Option Value} {x : Int32} (hd : decode M.2.1 pc = .ok (.istore_n 1, 1)) (hn : 1 < M.2.2.1) (hp : ∀ w, a0 = some w → w.category ≠ 2 := by first | (intro w hw; cases hw; done) | (intro w hw; cases hw; exact fun q => absurd q (by simp [Value.category]))) (k : PW G d M (pc + 1) (a0 :: some (.int x) :: t) st h r h') : PW G d M pc (a0 :: o :: t) (.int x :: st) h r h' := pw_istore_n hd rfl hn (fun w _ hw => hp w (Option.some.inj hw)) k
theorem pw_istore2 {a0 a1 : Option Value} {o : Option Value} {x : Int32} (hd : decode M.2.1 pc = .ok (.istore_n 2, 1)) (hn : 2 < M.2.2.1) (hp : ∀ w, a1 = some w → w.category ≠ 2 := by first | (intro w hw; cases hw; done) | (intro w hw; cases hw; exact fun q => absurd q (by simp [Value.category]))) (k : PW G d M (pc + 1) (a0 :: a1 :: some (.int x) :: t) st h r h') : PW G d M pc (a0 :: a1 :: o :: t) (.int x :: st) h r h' := pw_istore_n hd rfl hn (fun w _ hw => hp w (Option.some.inj hw)) k
theorem pw_istore3 {a0 a1 a2 : Option Value} {o : Option Value} {x : Int32} (hd : decode M.2.1 pc = .ok (.istore_n 3, 1)) (hn : 3 < M.2.2.1) (hp : ∀ w, a2 = some w → w.category ≠ 2 := by first | (intro w hw; cases hw; done) | (intro w hw; cases hw; exact fun q => absurd q (by simp [Value.category]))) (k : PW G d M (pc + 1) (a0 :: a1 :: a2 :: some (.int x) :: t) st h r h') : PW G d M pc (a0 :: a1 :: a2 :: o :: t) (.int x :: st) h r h' := pw_istore_n hd rfl hn (fun w _ hw => hp w (Option.some.inj hw)) k
theorem pw_istore4 {a0 a1 a2 a3 : Option Value} {o : Option Value} {x : Int32} (hd : decode M.2.1 pc = .ok (.istore 4, 2)) (hn : 4 < M.2.2.1) (hp : ∀ w, a3 = some w → w.category ≠ 2 := by first | (intro w hw; cases hw; done) | (intro w hw; cases hw; exact fun q => absurd q (by simp [Value.category]))) (k : PW G d M (pc + 2) (a0 :: a1 :: a2 :: a3 :: some (.int x) :: t) st h r h') : PW G d M pc (a0 :: a1 :: a2 :: a3 :: o :: t) (.int x :: st) h r h' := pw_istore hd  hn (fun w _ hw => hp w (Option.some.inj hw)) k
theorem pw_istore5 {a0 a1 a2 a3 a4 : Option Value} {o : Option Value} {x : Int32} (hd : decode M.2.1 pc = .ok (.istore 5, 2)) (hn : 5 < M.2.2.1) (hp : ∀ w, a4 = some w → w.category ≠ 2 := by first | (intro w hw; cases hw; done) | (intro w hw; cases hw; exact fun q => absurd q (by simp [Value.category]))) (k : PW G d M (pc + 2) (a0 :: a1 :: a2 :: a3 :: a4 :: some (.int x) :: t) st h r h') : PW G d M pc (a0 :: a1 :: a2 :: a3 :: a4 :: o :: t) (.int x :: st) h r h' := pw_istore hd  hn (fun w _ hw => hp w (Option.some.inj hw)) k
theorem pw_istore6 {a0 a1 a2 a3 a4 a5 : Option Value} {o : Option Value} {x : Int32} (hd : decode M.2.1 pc = .ok (.istore 6, 2)) (hn : 6 < M.2.2.1) (hp : ∀ w, a5 = some w → w.category ≠ 2 := by first | (intro w hw; cases hw; done) | (intro w hw; cases hw; exact fun q => absurd q (by simp [Value.category]))) (k : PW G d M (pc + 2) (a0 :: a1 :: a2 :: a3 :: a4 :: a5 :: some (.int x) :: t) st h r h') : PW G d M pc (a0 :: a1 :: a2 :: a3 :: a4 :: a5 :: o :: t) (.int x :: st) h r h' := pw_istore hd  hn (fun w _ hw => hp w (Option.some.inj hw)) k
theorem pw_istore7 {a0 a1 a2 a3 a4 a5 a6 : Option Value} {o : Option Value} {x : Int32} (hd : decode M.2.1 pc = .ok (.istore 7, 2)) (hn : 7 < M.2.2.1) (hp : ∀ w, a6 = some w → w.category ≠ 2 := by first | (intro w hw; cases hw; done) | (intro w hw; cases hw; exact fun q => absurd q (by simp [Value.category]))) (k : PW G d M (pc + 2) (a0 :: a1 :: a2 :: a3 :: a4 :: a5 :: a6 :: some (.int x) :: t) st h r h') : PW G d M pc (a0 :: a1 :: a2 :: a3 :: a4 :: a5 :: a6 :: o :: t) (.int x :: st) h r h' := pw_istore hd  hn (fun w _ hw => hp w (Option.some.inj hw)) k
theorem pw_istore8 {a0 a1 a2 a3 a4 a5 a6 a7 : Option Value} {o : Option Value} {x : Int32} (hd : decode M.2.1 pc = .ok (.istore 8, 2)) (hn : 8 < M.2.2.1) (hp : ∀ w, a7 = some w → w.category ≠ 2 := by first | (intro w hw; cases hw; done) | (intro w hw; cases hw; exact fun q => absurd q (by simp [Value.category]))) (k : PW G d M (pc + 2) (a0 :: a1 :: a2 :: a3 :: a4 :: a5 :: a6 :: a7 :: some (.int x) :: t) st h r h') : PW G d M pc (a0 :: a1 :: a2 :: a3 :: a4 :: a5 :: a6 :: a7 :: o :: t) (.int x :: st) h r h' := pw_istore hd  hn (fun w _ hw => hp w (Option.some.inj hw)) k
theorem pw_istore9 {a0 a1 a2 a3 a4 a5 a6 a7 a8 : Option Value} {o : Option Value} {x : Int32} (hd : decode M.2.1 pc = .ok (.istore 9, 2)) (hn : 9 < M.2.2.1) (hp : ∀ w, a8 = some w → w.category ≠ 2 := by first | (intro w hw; cases hw; done) | (intro w hw; cases hw; exact fun q => absurd q (by simp [Value.category]))) (k : PW G d M (pc + 2) (a0 :: a1 :: a2 :: a3 :: a4 :: a5 :: a6 :: a7 :: a8 :: some (.int x) :: t) st h r h') : PW G d M pc (a0 :: a1 :: a2 :: a3 :: a4 :: a5 :: a6 :: a7 :: a8 :: o :: t) (.int x :: st) h r h' := pw_istore hd  hn (fun w _ hw => hp w (Option.some.inj hw)) k
theorem pw_istore10 {a0 a1 a2 a3 a4 a5 a6 a7 a8 a9 : Option Value} {o : Option Value} {x : Int32} (hd : decode M.2.1 pc = .ok (.istore 10, 2)) (hn : 10 < M.2.2.1) (hp : ∀ w, a9 = some w → w.category ≠ 2 := by first | (intro w hw; cases hw; done) | (intro w hw; cases hw; exact fun q => absurd q (by simp [Value.category]))) (k : PW G d M (pc + 2) (a0 :: a1 :: a2 :: a3 :: a4 :: a5 :: a6 :: a7 :: a8 :: a9 :: some (.int x) :: t) st h r h') : PW G d M pc (a0 :: a1 :: a2 :: a3 :: a4 :: a5 :: a6 :: a7 :: a8 :: a9 :: o :: t) (.int x :: st) h r h' := pw_istore hd  hn (fun w _ hw => hp w (Option.some.inj hw)) k
theorem pw_istore11 {a0 a1 a2 a3 a4 a5 a6 a7 a8 a9 a10 : Option Value} {o : Option Value} {x : Int32} (hd : decode M.2.1 pc = .ok (.istore 11, 2)) (hn : 11 < M.2.2.1) (hp : ∀ w, a10 = some w → w.category ≠ 2 := by first | (intro w hw; cases hw; done) | (intro w hw; cases hw; exact fun q => absurd q (by simp [Value.category]))) (k : PW G d M (pc + 2) (a0 :: a1 :: a2 :: a3 :: a4 :: a5 :: a6 :: a7 :: a8 :: a9 :: a10 :: some (.int x) :: t) st h r h') : PW G d M pc (a0 :: a1 :: a2 :: a3 :: a4 :: a5 :: a6 :: a7 :: a8 :: a9 :: a10 :: o :: t) (.int x :: st) h r h' := pw_istore hd  hn (fun w _ hw => hp w (Option.some.inj hw)) k
theorem pw_istore12 {a0 a1 a2 a3 a4 a5 a6 a7 a8 a9 a10 a11 : Option Value} {o : Option Value} {x : Int32} (hd : decode M.2.1 pc = .ok (.istore 12, 2)) (hn : 12 < M.2.2.1) (hp : ∀ w, a11 = some w → w.category ≠ 2 := by first | (intro w hw; cases hw; done) | (intro w hw; cases hw; exact fun q => absurd q (by simp [Value.category]))) (k : PW G d M (pc + 2) (a0 :: a1 :: a2 :: a3 :: a4 :: a5 :: a6 :: a7 :: a8 :: a9 :: a10 :: a11 :: some (.int x) :: t) st h r h') : PW G d M pc (a0 :: a1 :: a2 :: a3 :: a4 :: a5 :: a6 :: a7 :: a8 :: a9 :: a10 :: a11 :: o :: t) (.int x :: st) h r h' := pw_istore hd  hn (fun w _ hw => hp w (Option.some.inj hw)) k
theorem pw_istore13 {a0 a1 a2 a3 a4 a5 a6 a7 a8 a9 a10 a11 a12 : Option Value} {o : Option Value} {x : Int32} (hd : decode M.2.1 pc = .ok (.istore 13, 2)) (hn : 13 < M.2.2.1) (hp : ∀ w, a12 = some w → w.category ≠ 2 := by first | (intro w hw; cases hw; done) | (intro w hw; cases hw; exact fun q => absurd q (by simp [Value.category]))) (k : PW G d M (pc + 2) (a0 :: a1 :: a2 :: a3 :: a4 :: a5 :: a6 :: a7 :: a8 :: a9 :: a10 :: a11 :: a12 :: some (.int x) :: t) st h r h') : PW G d M pc (a0 :: a1 :: a2 :: a3 :: a4 :: a5 :: a6 :: a7 :: a8 :: a9 :: a10 :: a11 :: a12 :: o :: t) (.int x :: st) h r h' := pw_istore hd  hn (fun w _ hw => hp w (Option.some.inj hw)) k
theorem pw_istore14 {a0 a1 a2 a3 a4 a5 a6 a7 a8 a9 a10 a11 a12 a13 : Option Value} {o : Option Value} {x : Int32} (hd : decode M.2.1 pc = .ok (.istore 14, 2)) (hn : 14 < M.2.2.1) (hp : ∀ w, a13 = some w → w.category ≠ 2 := by first | (intro w hw; cases hw; done) | (intro w hw; cases hw; exact fun q => absurd q (by simp [Value.category]))) (k : PW G d M (pc + 2) (a0 :: a1 :: a2 :: a3 :: a4 :: a5 :: a6 :: a7 :: a8 :: a9 :: a10 :: a11 :: a12 :: a13 :: some (.int x) :: t) st h r h') : PW G d M pc (a0 :: a1 :: a2 :: a3 :: a4 :: a5 :: a6 :: a7 :: a8 :: a9 :: a10 :: a11 :: a12 :: a13 :: o :: t) (.int x :: st) h r h' := pw_istore hd  hn (fun w _ hw => hp w (Option.some.inj hw)) k
theorem pw_istore15 {a0 a1 a2 a3 a4 a5 a6 a7 a8 a9 a10 a11 a12 a13 a14 : Option Value} {o : Option Value} {x : Int32} (hd : decode M.2.1 pc = .ok (.istore 15, 2)) (hn : 15 < M.2.2.1) (hp : ∀ w, a14 = some w → w.category ≠ 2 := by first | (intro w hw; cases hw; done) | (intro w hw; cases hw; exact fun q => absurd q (by simp [Value.category]))) (k : PW G d M (pc + 2) (a0 :: a1 :: a2 :: a3 :: a4 :: a5 :: a6 :: a7 :: a8 :: a9 :: a10 :: a11 :: a12 :: a13 :: a14 :: some (.int x) :: t) st h r h') : PW G d M pc (a0 :: a1 :: a2 :: a3 :: a4 :: a5 :: a6 :: a7 :: a8 :: a9 :: a10 :: a11 :: a12 :: a13 :: a14 :: o :: t) (.int x :: st) h r h' := pw_istore hd  hn (fun w _ hw => hp w (Option.some.inj hw)) k
theorem pw_istore16 {a0 a1 a2 a3 a4 a5 a6 a7 a8 a9 a10 a11 a12 a13 a14 a15 : Option Value} {o : Option Value} {x : Int32} (hd : decode M.2.1 pc = .ok (.istore 16, 2)) (hn : 16 < M.2.2.1) (hp : ∀ w, a15 = some w → w.category ≠ 2 := by first | (intro w hw; cases hw; done) | (intro w hw; cases hw; exact fun q => absurd q (by simp [Value.category]))) (k : PW G d M (pc + 2) (a0 :: a1 :: a2 :: a3 :: a4 :: a5 :: a6 :: a7 :: a8 :: a9 :: a10 :: a11 :: a12 :: a13 :: a14 :: a15 :: some (.int x) :: t) st h r h') : PW G d M pc (a0 :: a1 :: a2 :: a3 :: a4 :: a5 :: a6 :: a7 :: a8 :: a9 :: a10 :: a11 :: a12 :: a13 :: a14 :: a15 :: o :: t) (.int x :: st) h r h' := pw_istore hd  hn (fun w _ hw => hp w (Option.some.inj hw)) k
theorem pw_istore17 {a0 a1 a2 a3 a4 a5 a6 a7 a8 a9 a10 a11 a12 a13 a14 a15 a16 : Option Value} {o : Option Value} {x : Int32} (hd : decode M.2.1 pc = .ok (.istore 17, 2)) (hn : 17 < M.2.2.1) (hp : ∀ w, a16 = some w → w.category ≠ 2 := by first | (intro w hw; cases hw; done) | (intro w hw; cases hw; exact fun q => absurd q (by simp [Value.category]))) (k : PW G d M (pc + 2) (a0 :: a1 :: a2 :: a3 :: a4 :: a5 :: a6 :: a7 :: a8 :: a9 :: a10 :: a11 :: a12 :: a13 :: a14 :: a15 :: a16 :: some (.int x) :: t) st h r h') : PW G d M pc (a0 :: a1 :: a2 :: a3 :: a4 :: a5 :: a6 :: a7 :: a8 :: a9 :: a10 :: a11 :: a12 :: a13 :: a14 :: a15 :: a16 :: o :: t) (.int x :: st) h r h' := pw_istore hd  hn (fun w _ hw => hp w (Option.some.inj hw)) k
theorem pw_istore18 {a0 a1 a2 a3 a4 a5 a6 a7 a8 a9 a10 a11 a12 a13 a14 a15 a16 a17 : Option Value} {o : Option Value} {x : Int32} (hd : decode M.2.1 pc = .ok (.istore 18, 2)) (hn : 18 < M.2.2.1) (hp : ∀ w, a17 = some w → w.category ≠ 2 := by first | (intro w hw; cases hw; done) | (intro w hw; cases hw; exact fun q => absurd q (by simp [Value.category]))) (k : PW G d M (pc + 2) (a0 :: a1 :: a2 :: a3 :: a4 :: a5 :: a6 :: a7 :: a8 :: a9 :: a10 :: a11 :: a12 :: a13 :: a14 :: a15 :: a16 :: a17 :: some (.int x) :: t) st h r h') : PW G d M pc (a0 :: a1 :: a2 :: a3 :: a4 :: a5 :: a6 :: a7 :: a8 :: a9 :: a10 :: a11 :: a12 :: a13 :: a14 :: a15 :: a16 :: a17 :: o :: t) (.int x :: st) h r h' := pw_istore hd  hn (fun w _ hw => hp w (Option.some.inj hw)) k
theorem pw_astore0  {o : Option Value} {x : Nat} (hd : decode M.2.1 pc = .ok (.astore_n 0, 1)) (hn : 0 < M.2.2.1)  (k : PW G d M (pc + 1) (some (.ref x) :: t) st h r h') : PW G d M pc (o :: t) (.ref x :: st) h r h' := pw_astore_n hd rfl hn (fun w q => absurd rfl q) k
theorem pw_astore1 {a0 : Option Value} {o : Option Value} {x : Nat} (hd : decode M.2.1 pc = .ok (.astore_n 1, 1)) (hn : 1 < M.2.2.1) (hp : ∀ w, a0 = some w → w.category ≠ 2 := by first | (intro w hw; cases hw; done) | (intro w hw; cases hw; exact fun q => absurd q (by simp [Value.category]))) (k : PW G d M (pc + 1) (a0 :: some (.ref x) :: t) st h r h') : PW G d M pc (a0 :: o :: t) (.ref x :: st) h r h' := pw_astore_n hd rfl hn (fun w _ hw => hp w (Option.some.inj hw)) k
theorem pw_astore2 {a0 a1 : Option Value} {o : Option Value} {x : Nat} (hd : decode M.2.1 pc = .ok (.astore_n 2, 1)) (hn : 2 < M.2.2.1) (hp : ∀ w, a1 = some w → w.category ≠ 2 := by first | (intro w hw; cases hw; done) | (intro w hw; cases hw; exact fun q => absurd q (by simp [Value.category]))) (k : PW G d M (pc + 1) (a0 :: a1 :: some (.ref x) :: t) st h r h') : PW G d M pc (a0 :: a1 :: o :: t) (.ref x :: st) h r h' := pw_astore_n hd rfl hn (fun w _ hw => hp w (Option.some.inj hw)) k
theorem pw_astore3 {a0 a1 a2 : Option Value} {o : Option Value} {x : Nat} (hd : decode M.2.1 pc = .ok (.astore_n 3, 1)) (hn : 3 < M.2.2.1) (hp : ∀ w, a2 = some w → w.category ≠ 2 := by first | (intro w hw; cases hw; done) | (intro w hw; cases hw; exact fun q => absurd q (by simp [Value.category]))) (k : PW G d M (pc + 1) (a0 :: a1 :: a2 :: some (.ref x) :: t) st h r h') : PW G d M pc (a0 :: a1 :: a2 :: o :: t) (.ref x :: st) h r h' := pw_astore_n hd rfl hn (fun w _ hw => hp w (Option.some.inj hw)) k
theorem pw_astore4 {a0 a1 a2 a3 : Option Value} {o : Option Value} {x : Nat} (hd : decode M.2.1 pc = .ok (.astore 4, 2)) (hn : 4 < M.2.2.1) (hp : ∀ w, a3 = some w → w.category ≠ 2 := by first | (intro w hw; cases hw; done) | (intro w hw; cases hw; exact fun q => absurd q (by simp [Value.category]))) (k : PW G d M (pc + 2) (a0 :: a1 :: a2 :: a3 :: some (.ref x) :: t) st h r h') : PW G d M pc (a0 :: a1 :: a2 :: a3 :: o :: t) (.ref x :: st) h r h' := pw_astore hd  hn (fun w _ hw => hp w (Option.some.inj hw)) k
theorem pw_astore5 {a0 a1 a2 a3 a4 : Option Value} {o : Option Value} {x : Nat} (hd : decode M.2.1 pc = .ok (.astore 5, 2)) (hn : 5 < M.2.2.1) (hp : ∀ w, a4 = some w → w.category ≠ 2 := by first | (intro w hw; cases hw; done) | (intro w hw; cases hw; exact fun q => absurd q (by simp [Value.category]))) (k : PW G d M (pc + 2) (a0 :: a1 :: a2 :: a3 :: a4 :: some (.ref x) :: t) st h r h') : PW G d M pc (a0 :: a1 :: a2 :: a3 :: a4 :: o :: t) (.ref x :: st) h r h' := pw_astore hd  hn (fun w _ hw => hp w (Option.some.inj hw)) k
theorem pw_astore6 {a0 a1 a2 a3 a4 a5 : Option Value} {o : Option Value} {x : Nat} (hd : decode M.2.1 pc = .ok (.astore 6, 2)) (hn : 6 < M.2.2.1) (hp : ∀ w, a5 = some w → w.category ≠ 2 := by first | (intro w hw; cases hw; done) | (intro w hw; cases hw; exact fun q => absurd q (by simp [Value.category]))) (k : PW G d M (pc + 2) (a0 :: a1 :: a2 :: a3 :: a4 :: a5 :: some (.ref x) :: t) st h r h') : PW G d M pc (a0 :: a1 :: a2 :: a3 :: a4 :: a5 :: o :: t) (.ref x :: st) h r h' := pw_astore hd  hn (fun w _ hw => hp w (Option.some.inj hw)) k
theorem pw_astore7 {a0 a1 a2 a3 a4 a5 a6 : Option Value} {o : Option Value} {x : Nat} (hd : decode M.2.1 pc = .ok (.astore 7, 2)) (hn : 7 < M.2.2.1) (hp : ∀ w, a6 = some w → w.category ≠ 2 := by first | (intro w hw; cases hw; done) | (intro w hw; cases hw; exact fun q => absurd q (by simp [Value.category]))) (k : PW G d M (pc + 2) (a0 :: a1 :: a2 :: a3 :: a4 :: a5 :: a6 :: some (.ref x) :: t) st h r h') : PW G d M pc (a0 :: a1 :: a2 :: a3 :: a4 :: a5 :: a6 :: o :: t) (.ref x :: st) h r h' := pw_astore hd  hn (fun w _ hw => hp w (Option.some.inj hw)) k
theorem pw_astore8 {a0 a1 a2 a3 a4 a5 a6 a7 : Option Value} {o : Option Value} {x : Nat} (hd : decode M.2.1 pc = .ok (.astore 8, 2)) (hn : 8 < M.2.2.1) (hp : ∀ w, a7 = some w → w.category ≠ 2 := by first | (intro w hw; cases hw; done) | (intro w hw; cases hw; exact fun q => absurd q (by simp [Value.category]))) (k : PW G d M (pc + 2) (a0 :: a1 :: a2 :: a3 :: a4 :: a5 :: a6 :: a7 :: some (.ref x) :: t) st h r h') : PW G d M pc (a0 :: a1 :: a2 :: a3 :: a4 :: a5 :: a6 :: a7 :: o :: t) (.ref x :: st) h r h' := pw_astore hd  hn (fun w _ hw => hp w (Option.some.inj hw)) k
theorem pw_astore9 {a0 a1 a2 a3 a4 a5 a6 a7 a8 : Option Value} {o : Option Value} {x : Nat} (hd : decode M.2.1 pc = .ok (.astore 9, 2)) (hn : 9 < M.2.2.1) (hp : ∀ w, a8 = some w → w.category ≠ 2 := by first | (intro w hw; cases hw; done) | (intro w hw; cases hw; exact fun q => absurd q (by simp [Value.category]))) (k : PW G d M (pc + 2) (a0 :: a1 :: a2 :: a3 :: a4 :: a5 :: a6 :: a7 :: a8 :: some (.ref x) :: t) st h r h') : PW G d M pc (a0 :: a1 :: a2 :: a3 :: a4 :: a5 :: a6 :: a7 :: a8 :: o :: t) (.ref x :: st) h r h' := pw_astore hd  hn (fun w _ hw => hp w (Option.some.inj hw)) k
theorem pw_astore10 {a0 a1 a2 a3 a4 a5 a6 a7 a8 a9 : Option Value} {o : Option Value} {x : Nat} (hd : decode M.2.1 pc = .ok (.astore 10, 2)) (hn : 10 < M.2.2.1) (hp : ∀ w, a9 = some w → w.category ≠ 2 := by first | (intro w hw; cases hw; done) | (intro w hw; cases hw; exact fun q => absurd q (by simp [Value.category]))) (k : PW G d M (pc + 2) (a0 :: a1 :: a2 :: a3 :: a4 :: a5 :: a6 :: a7 :: a8 :: a9 :: some (.ref x) :: t) st h r h') : PW G d M pc (a0 :: a1 :: a2 :: a3 :: a4 :: a5 :: a6 :: a7 :: a8 :: a9 :: o :: t) (.ref x :: st) h r h' := pw_astore hd  hn (fun w _ hw => hp w (Option.some.inj hw)) k
theorem pw_astore11 {a0 a1 a2 a3 a4 a5 a6 a7 a8 a9 a10 : Option Value} {o : Option Value} {x : Nat} (hd : decode M.2.1 pc = .ok (.astore 11, 2)) (hn : 11 < M.2.2.1) (hp : ∀ w, a10 = some w → w.category ≠ 2 := by first | (intro w hw; cases hw; done) | (intro w hw; cases hw; exact fun q => absurd q (by simp [Value.category]))) (k : PW G d M (pc + 2) (a0 :: a1 :: a2 :: a3 :: a4 :: a5 :: a6 :: a7 :: a8 :: a9 :: a10 :: some (.ref x) :: t) st h r h') : PW G d M pc (a0 :: a1 :: a2 :: a3 :: a4 :: a5 :: a6 :: a7 :: a8 :: a9 :: a10 :: o :: t) (.ref x :: st) h r h' := pw_astore hd  hn (fun w _ hw => hp w (Option.some.inj hw)) k
theorem pw_astore12 {a0 a1 a2 a3 a4 a5 a6 a7 a8 a9 a10 a11 : Option Value} {o : Option Value} {x : Nat} (hd : decode M.2.1 pc = .ok (.astore 12, 2)) (hn : 12 < M.2.2.1) (hp : ∀ w, a11 = some w → w.category ≠ 2 := by first | (intro w hw; cases hw; done) | (intro w hw; cases hw; exact fun q => absurd q (by simp [Value.category]))) (k : PW G d M (pc + 2) (a0 :: a1 :: a2 :: a3 :: a4 :: a5 :: a6 :: a7 :: a8 :: a9 :: a10 :: a11 :: some (.ref x) :: t) st h r h') : PW G d M pc (a0 :: a1 :: a2 :: a3 :: a4 :: a5 :: a6 :: a7 :: a8 :: a9 :: a10 :: a11 :: o :: t) (.ref x :: st) h r h' := pw_astore hd  hn (fun w _ hw => hp w (Option.some.inj hw)) k
theorem pw_astore13 {a0 a1 a2 a3 a4 a5 a6 a7 a8 a9 a10 a11 a12 : Option Value} {o : Option Value} {x : Nat} (hd : decode M.2.1 pc = .ok (.astore 13, 2)) (hn : 13 < M.2.2.1) (hp : ∀ w, a12 = some w → w.category ≠ 2 := by first | (intro w hw; cases hw; done) | (intro w hw; cases hw; exact fun q => absurd q (by simp [Value.category]))) (k : PW G d M (pc + 2) (a0 :: a1 :: a2 :: a3 :: a4 :: a5 :: a6 :: a7 :: a8 :: a9 :: a10 :: a11 :: a12 :: some (.ref x) :: t) st h r h') : PW G d M pc (a0 :: a1 :: a2 :: a3 :: a4 :: a5 :: a6 :: a7 :: a8 :: a9 :: a10 :: a11 :: a12 :: o :: t) (.ref x :: st) h r h' := pw_astore hd  hn (fun w _ hw => hp w (Option.some.inj hw)) k
theorem pw_astore14 {a0 a1 a2 a3 a4 a5 a6 a7 a8 a9 a10 a11 a12 a13 : Option Value} {o : Option Value} {x : Nat} (hd : decode M.2.1 pc = .ok (.astore 14, 2)) (hn : 14 < M.2.2.1) (hp : ∀ w, a13 = some w → w.category ≠ 2 := by first | (intro w hw; cases hw; done) | (intro w hw; cases hw; exact fun q => absurd q (by simp [Value.category]))) (k : PW G d M (pc + 2) (a0 :: a1 :: a2 :: a3 :: a4 :: a5 :: a6 :: a7 :: a8 :: a9 :: a10 :: a11 :: a12 :: a13 :: some (.ref x) :: t) st h r h') : PW G d M pc (a0 :: a1 :: a2 :: a3 :: a4 :: a5 :: a6 :: a7 :: a8 :: a9 :: a10 :: a11 :: a12 :: a13 :: o :: t) (.ref x :: st) h r h' := pw_astore hd  hn (fun w _ hw => hp w (Option.some.inj hw)) k
theorem pw_astore15 {a0 a1 a2 a3 a4 a5 a6 a7 a8 a9 a10 a11 a12 a13 a14 : Option Value} {o : Option Value} {x : Nat} (hd : decode M.2.1 pc = .ok (.astore 15, 2)) (hn : 15 < M.2.2.1) (hp : ∀ w, a14 = some w → w.category ≠ 2 := by first | (intro w hw; cases hw; done) | (intro w hw; cases hw; exact fun q => absurd q (by simp [Value.category]))) (k : PW G d M (pc + 2) (a0 :: a1 :: a2 :: a3 :: a4 :: a5 :: a6 :: a7 :: a8 :: a9 :: a10 :: a11 :: a12 :: a13 :: a14 :: some (.ref x) :: t) st h r h') : PW G d M pc (a0 :: a1 :: a2 :: a3 :: a4 :: a5 :: a6 :: a7 :: a8 :: a9 :: a10 :: a11 :: a12 :: a13 :: a14 :: o :: t) (.ref x :: st) h r h' := pw_astore hd  hn (fun w _ hw => hp w (Option.some.inj hw)) k
theorem pw_astore16 {a0 a1 a2 a3 a4 a5 a6 a7 a8 a9 a10 a11 a12 a13 a14 a15 : Option Value} {o : Option Value} {x : Nat} (hd : decode M.2.1 pc = .ok (.astore 16, 2)) (hn : 16 < M.2.2.1) (hp : ∀ w, a15 = some w → w.category ≠ 2 := by first | (intro w hw; cases hw; done) | (intro w hw; cases hw; exact fun q => absurd q (by simp [Value.category]))) (k : PW G d M (pc + 2) (a0 :: a1 :: a2 :: a3 :: a4 :: a5 :: a6 :: a7 :: a8 :: a9 :: a10 :: a11 :: a12 :: a13 :: a14 :: a15 :: some (.ref x) :: t) st h r h') : PW G d M pc (a0 :: a1 :: a2 :: a3 :: a4 :: a5 :: a6 :: a7 :: a8 :: a9 :: a10 :: a11 :: a12 :: a13 :: a14 :: a15 :: o :: t) (.ref x :: st) h r h' := pw_astore hd  hn (fun w _ hw => hp w (Option.some.inj hw)) k
theorem pw_astore17 {a0 a1 a2 a3 a4 a5 a6 a7 a8 a9 a10 a11 a12 a13 a14 a15 a16 : Option Value} {o : Option Value} {x : Nat} (hd : decode M.2.1 pc = .ok (.astore 17, 2)) (hn : 17 < M.2.2.1) (hp : ∀ w, a16 = some w → w.category ≠ 2 := by first | (intro w hw; cases hw; done) | (intro w hw; cases hw; exact fun q => absurd q (by simp [Value.category]))) (k : PW G d M (pc + 2) (a0 :: a1 :: a2 :: a3 :: a4 :: a5 :: a6 :: a7 :: a8 :: a9 :: a10 :: a11 :: a12 :: a13 :: a14 :: a15 :: a16 :: some (.ref x) :: t) st h r h') : PW G d M pc (a0 :: a1 :: a2 :: a3 :: a4 :: a5 :: a6 :: a7 :: a8 :: a9 :: a10 :: a11 :: a12 :: a13 :: a14 :: a15 :: a16 :: o :: t) (.ref x :: st) h r h' := pw_astore hd  hn (fun w _ hw => hp w (Option.some.inj hw)) k
theorem pw_astore18 {a0 a1 a2 a3 a4 a5 a6 a7 a8 a9 a10 a11 a12 a13 a14 a15 a16 a17 : Option Value} {o : Option Value} {x : Nat} (hd : decode M.2.1 pc = .ok (.astore 18, 2)) (hn : 18 < M.2.2.1) (hp : ∀ w, a17 = some w → w.category ≠ 2 := by first | (intro w hw; cases hw; done) | (intro w hw; cases hw; exact fun q => absurd q (by simp [Value.category]))) (k : PW G d M (pc + 2) (a0 :: a1 :: a2 :: a3 :: a4 :: a5 :: a6 :: a7 :: a8 :: a9 :: a10 :: a11 :: a12 :: a13 :: a14 :: a15 :: a16 :: a17 :: some (.ref x) :: t) st h r h') : PW G d M pc (a0 :: a1 :: a2 :: a3 :: a4 :: a5 :: a6 :: a7 :: a8 :: a9 :: a10 :: a11 :: a12 :: a13 :: a14 :: a15 :: a16 :: a17 :: o :: t) (.ref x :: st) h r h' := pw_astore hd  hn (fun w _ hw => hp w (Option.some.inj hw)) k
theorem pw_lstore0  {o o' : Option Value} {x : Int64} (hd : decode M.2.1 pc = .ok (.lstore_n 0, 1)) (hn : 1 < M.2.2.1)  (k : PW G d M (pc + 1) (some (.long x) :: none :: t) st h r h') : PW G d M pc (o :: o' :: t) (.long x :: st) h r h' := pw_lstore_n hd rfl hn (fun w q => absurd rfl q) k
theorem pw_lstore1 {a0 : Option Value} {o o' : Option Value} {x : Int64} (hd : decode M.2.1 pc = .ok (.lstore_n 1, 1)) (hn : 2 < M.2.2.1) (hp : ∀ w, a0 = some w → w.category ≠ 2 := by first | (intro w hw; cases hw; done) | (intro w hw; cases hw; exact fun q => absurd q (by simp [Value.category]))) (k : PW G d M (pc + 1) (a0 :: some (.long x) :: none :: t) st h r h') : PW G d M pc (a0 :: o :: o' :: t) (.long x :: st) h r h' := pw_lstore_n hd rfl hn (fun w _ hw => hp w (Option.some.inj hw)) k
theorem pw_lstore2 {a0 a1 : Option Value} {o o' : Option Value} {x : Int64} (hd : decode M.2.1 pc = .ok (.lstore_n 2, 1)) (hn : 3 < M.2.2.1) (hp : ∀ w, a1 = some w → w.category ≠ 2 := by first | (intro w hw; cases hw; done) | (intro w hw; cases hw; exact fun q => absurd q (by simp [Value.category]))) (k : PW G d M (pc + 1) (a0 :: a1 :: some (.long x) :: none :: t) st h r h') : PW G d M pc (a0 :: a1 :: o :: o' :: t) (.long x :: st) h r h' := pw_lstore_n hd rfl hn (fun w _ hw => hp w (Option.some.inj hw)) k
theorem pw_lstore3 {a0 a1 a2 : Option Value} {o o' : Option Value} {x : Int64} (hd : decode M.2.1 pc = .ok (.lstore_n 3, 1)) (hn : 4 < M.2.2.1) (hp : ∀ w, a2 = some w → w.category ≠ 2 := by first | (intro w hw; cases hw; done) | (intro w hw; cases hw; exact fun q => absurd q (by simp [Value.category]))) (k : PW G d M (pc + 1) (a0 :: a1 :: a2 :: some (.long x) :: none :: t) st h r h') : PW G d M pc (a0 :: a1 :: a2 :: o :: o' :: t) (.long x :: st) h r h' := pw_lstore_n hd rfl hn (fun w _ hw => hp w (Option.some.inj hw)) k
theorem pw_lstore4 {a0 a1 a2 a3 : Option Value} {o o' : Option Value} {x : Int64} (hd : decode M.2.1 pc = .ok (.lstore 4, 2)) (hn : 5 < M.2.2.1) (hp : ∀ w, a3 = some w → w.category ≠ 2 := by first | (intro w hw; cases hw; done) | (intro w hw; cases hw; exact fun q => absurd q (by simp [Value.category]))) (k : PW G d M (pc + 2) (a0 :: a1 :: a2 :: a3 :: some (.long x) :: none :: t) st h r h') : PW G d M pc (a0 :: a1 :: a2 :: a3 :: o :: o' :: t) (.long x :: st) h r h' := pw_lstore hd  hn (fun w _ hw => hp w (Option.some.inj hw)) k
theorem pw_lstore5 {a0 a1 a2 a3 a4 : Option Value} {o o' : Option Value} {x : Int64} (hd : decode M.2.1 pc = .ok (.lstore 5, 2)) (hn : 6 < M.2.2.1) (hp : ∀ w, a4 = some w → w.category ≠ 2 := by first | (intro w hw; cases hw; done) | (intro w hw; cases hw; exact fun q => absurd q (by simp [Value.category]))) (k : PW G d M (pc + 2) (a0 :: a1 :: a2 :: a3 :: a4 :: some (.long x) :: none :: t) st h r h') : PW G d M pc (a0 :: a1 :: a2 :: a3 :: a4 :: o :: o' :: t) (.long x :: st) h r h' := pw_lstore hd  hn (fun w _ hw => hp w (Option.some.inj hw)) k
theorem pw_lstore6 {a0 a1 a2 a3 a4 a5 : Option Value} {o o' : Option Value} {x : Int64} (hd : decode M.2.1 pc = .ok (.lstore 6, 2)) (hn : 7 < M.2.2.1) (hp : ∀ w, a5 = some w → w.category ≠ 2 := by first | (intro w hw; cases hw; done) | (intro w hw; cases hw; exact fun q => absurd q (by simp [Value.category]))) (k : PW G d M (pc + 2) (a0 :: a1 :: a2 :: a3 :: a4 :: a5 :: some (.long x) :: none :: t) st h r h') : PW G d M pc (a0 :: a1 :: a2 :: a3 :: a4 :: a5 :: o :: o' :: t) (.long x :: st) h r h' := pw_lstore hd  hn (fun w _ hw => hp w (Option.some.inj hw)) k
theorem pw_lstore7 {a0 a1 a2 a3 a4 a5 a6 : Option Value} {o o' : Option Value} {x : Int64} (hd : decode M.2.1 pc = .ok (.lstore 7, 2)) (hn : 8 < M.2.2.1) (hp : ∀ w, a6 = some w → w.category ≠ 2 := by first | (intro w hw; cases hw; done) | (intro w hw; cases hw; exact fun q => absurd q (by simp [Value.category]))) (k : PW G d M (pc + 2) (a0 :: a1 :: a2 :: a3 :: a4 :: a5 :: a6 :: some (.long x) :: none :: t) st h r h') : PW G d M pc (a0 :: a1 :: a2 :: a3 :: a4 :: a5 :: a6 :: o :: o' :: t) (.long x :: st) h r h' := pw_lstore hd  hn (fun w _ hw => hp w (Option.some.inj hw)) k
theorem pw_lstore8 {a0 a1 a2 a3 a4 a5 a6 a7 : Option Value} {o o' : Option Value} {x : Int64} (hd : decode M.2.1 pc = .ok (.lstore 8, 2)) (hn : 9 < M.2.2.1) (hp : ∀ w, a7 = some w → w.category ≠ 2 := by first | (intro w hw; cases hw; done) | (intro w hw; cases hw; exact fun q => absurd q (by simp [Value.category]))) (k : PW G d M (pc + 2) (a0 :: a1 :: a2 :: a3 :: a4 :: a5 :: a6 :: a7 :: some (.long x) :: none :: t) st h r h') : PW G d M pc (a0 :: a1 :: a2 :: a3 :: a4 :: a5 :: a6 :: a7 :: o :: o' :: t) (.long x :: st) h r h' := pw_lstore hd  hn (fun w _ hw => hp w (Option.some.inj hw)) k
theorem pw_lstore9 {a0 a1 a2 a3 a4 a5 a6 a7 a8 : Option Value} {o o' : Option Value} {x : Int64} (hd : decode M.2.1 pc = .ok (.lstore 9, 2)) (hn : 10 < M.2.2.1) (hp : ∀ w, a8 = some w → w.category ≠ 2 := by first | (intro w hw; cases hw; done) | (intro w hw; cases hw; exact fun q => absurd q (by simp [Value.category]))) (k : PW G d M (pc + 2) (a0 :: a1 :: a2 :: a3 :: a4 :: a5 :: a6 :: a7 :: a8 :: some (.long x) :: none :: t) st h r h') : PW G d M pc (a0 :: a1 :: a2 :: a3 :: a4 :: a5 :: a6 :: a7 :: a8 :: o :: o' :: t) (.long x :: st) h r h' := pw_lstore hd  hn (fun w _ hw => hp w (Option.some.inj hw)) k
theorem pw_lstore10 {a0 a1 a2 a3 a4 a5 a6 a7 a8 a9 : Option Value} {o o' : Option Value} {x : Int64} (hd : decode M.2.1 pc = .ok (.lstore 10, 2)) (hn : 11 < M.2.2.1) (hp : ∀ w, a9 = some w → w.category ≠ 2 := by first | (intro w hw; cases hw; done) | (intro w hw; cases hw; exact fun q => absurd q (by simp [Value.category]))) (k : PW G d M (pc + 2) (a0 :: a1 :: a2 :: a3 :: a4 :: a5 :: a6 :: a7 :: a8 :: a9 :: some (.long x) :: none :: t) st h r h') : PW G d M pc (a0 :: a1 :: a2 :: a3 :: a4 :: a5 :: a6 :: a7 :: a8 :: a9 :: o :: o' :: t) (.long x :: st) h r h' := pw_lstore hd  hn (fun w _ hw => hp w (Option.some.inj hw)) k
theorem pw_lstore11 {a0 a1 a2 a3 a4 a5 a6 a7 a8 a9 a10 : Option Value} {o o' : Option Value} {x : Int64} (hd : decode M.2.1 pc = .ok (.lstore 11, 2)) (hn : 12 < M.2.2.1) (hp : ∀ w, a10 = some w → w.category ≠ 2 := by first | (intro w hw; cases hw; done) | (intro w hw; cases hw; exact fun q => absurd q (by simp [Value.category]))) (k : PW G d M (pc + 2) (a0 :: a1 :: a2 :: a3 :: a4 :: a5 :: a6 :: a7 :: a8 :: a9 :: a10 :: some (.long x) :: none :: t) st h r h') : PW G d M pc (a0 :: a1 :: a2 :: a3 :: a4 :: a5 :: a6 :: a7 :: a8 :: a9 :: a10 :: o :: o' :: t) (.long x :: st) h r h' := pw_lstore hd  hn (fun w _ hw => hp w (Option.some.inj hw)) k
theorem pw_lstore12 {a0 a1 a2 a3 a4 a5 a6 a7 a8 a9 a10 a11 : Option Value} {o o' : Option Value} {x : Int64} (hd : decode M.2.1 pc = .ok (.lstore 12, 2)) (hn : 13 < M.2.2.1) (hp : ∀ w, a11 = some w → w.category ≠ 2 := by first | (intro w hw; cases hw; done) | (intro w hw; cases hw; exact fun q => absurd q (by simp [Value.category]))) (k : PW G d M (pc + 2) (a0 :: a1 :: a2 :: a3 :: a4 :: a5 :: a6 :: a7 :: a8 :: a9 :: a10 :: a11 :: some (.long x) :: none :: t) st h r h') : PW G d M pc (a0 :: a1 :: a2 :: a3 :: a4 :: a5 :: a6 :: a7 :: a8 :: a9 :: a10 :: a11 :: o :: o' :: t) (.long x :: st) h r h' := pw_lstore hd  hn (fun w _ hw => hp w (Option.some.inj hw)) k
theorem pw_lstore13 {a0 a1 a2 a3 a4 a5 a6 a7 a8 a9 a10 a11 a12 : Option Value} {o o' : Option Value} {x : Int64} (hd : decode M.2.1 pc = .ok (.lstore 13, 2)) (hn : 14 < M.2.2.1) (hp : ∀ w, a12 = some w → w.category ≠ 2 := by first | (intro w hw; cases hw; done) | (intro w hw; cases hw; exact fun q => absurd q (by simp [Value.category]))) (k : PW G d M (pc + 2) (a0 :: a1 :: a2 :: a3 :: a4 :: a5 :: a6 :: a7 :: a8 :: a9 :: a10 :: a11 :: a12 :: some (.long x) :: none :: t) st h r h') : PW G d M pc (a0 :: a1 :: a2 :: a3 :: a4 :: a5 :: a6 :: a7 :: a8 :: a9 :: a10 :: a11 :: a12 :: o :: o' :: t) (.long x :: st) h r h' := pw_lstore hd  hn (fun w _ hw => hp w (Option.some.inj hw)) k
theorem pw_lstore14 {a0 a1 a2 a3 a4 a5 a6 a7 a8 a9 a10 a11 a12 a13 : Option Value} {o o' : Option Value} {x : Int64} (hd : decode M.2.1 pc = .ok (.lstore 14, 2)) (hn : 15 < M.2.2.1) (hp : ∀ w, a13 = some w → w.category ≠ 2 := by first | (intro w hw; cases hw; done) | (intro w hw; cases hw; exact fun q => absurd q (by simp [Value.category]))) (k : PW G d M (pc + 2) (a0 :: a1 :: a2 :: a3 :: a4 :: a5 :: a6 :: a7 :: a8 :: a9 :: a10 :: a11 :: a12 :: a13 :: some (.long x) :: none :: t) st h r h') : PW G d M pc (a0 :: a1 :: a2 :: a3 :: a4 :: a5 :: a6 :: a7 :: a8 :: a9 :: a10 :: a11 :: a12 :: a13 :: o :: o' :: t) (.long x :: st) h r h' := pw_lstore hd  hn (fun w _ hw => hp w (Option.some.inj hw)) k
theorem pw_lstore15 {a0 a1 a2 a3 a4 a5 a6 a7 a8 a9 a10 a11 a12 a13 a14 : Option Value} {o o' : Option Value} {x : Int64} (hd : decode M.2.1 pc = .ok (.lstore 15, 2)) (hn : 16 < M.2.2.1) (hp : ∀ w, a14 = some w → w.category ≠ 2 := by first | (intro w hw; cases hw; done) | (intro w hw; cases hw; exact fun q => absurd q (by simp [Value.category]))) (k : PW G d M (pc + 2) (a0 :: a1 :: a2 :: a3 :: a4 :: a5 :: a6 :: a7 :: a8 :: a9 :: a10 :: a11 :: a12 :: a13 :: a14 :: some (.long x) :: none :: t) st h r h') : PW G d M pc (a0 :: a1 :: a2 :: a3 :: a4 :: a5 :: a6 :: a7 :: a8 :: a9 :: a10 :: a11 :: a12 :: a13 :: a14 :: o :: o' :: t) (.long x :: st) h r h' := pw_lstore hd  hn (fun w _ hw => hp w (Option.some.inj hw)) k
theorem pw_lstore16 {a0 a1 a2 a3 a4 a5 a6 a7 a8 a9 a10 a11 a12 a13 a14 a15 : Option Value} {o o' : Option Value} {x : Int64} (hd : decode M.2.1 pc = .ok (.lstore 16, 2)) (hn : 17 < M.2.2.1) (hp : ∀ w, a15 = some w → w.category ≠ 2 := by first | (intro w hw; cases hw; done) | (intro w hw; cases hw; exact fun q => absurd q (by simp [Value.category]))) (k : PW G d M (pc + 2) (a0 :: a1 :: a2 :: a3 :: a4 :: a5 :: a6 :: a7 :: a8 :: a9 :: a10 :: a11 :: a12 :: a13 :: a14 :: a15 :: some (.long x) :: none :: t) st h r h') : PW G d M pc (a0 :: a1 :: a2 :: a3 :: a4 :: a5 :: a6 :: a7 :: a8 :: a9 :: a10 :: a11 :: a12 :: a13 :: a14 :: a15 :: o :: o' :: t) (.long x :: st) h r h' := pw_lstore hd  hn (fun w _ hw => hp w (Option.some.inj hw)) k
theorem pw_lstore17 {a0 a1 a2 a3 a4 a5 a6 a7 a8 a9 a10 a11 a12 a13 a14 a15 a16 : Option Value} {o o' : Option Value} {x : Int64} (hd : decode M.2.1 pc = .ok (.lstore 17, 2)) (hn : 18 < M.2.2.1) (hp : ∀ w, a16 = some w → w.category ≠ 2 := by first | (intro w hw; cases hw; done) | (intro w hw; cases hw; exact fun q => absurd q (by simp [Value.category]))) (k : PW G d M (pc + 2) (a0 :: a1 :: a2 :: a3 :: a4 :: a5 :: a6 :: a7 :: a8 :: a9 :: a10 :: a11 :: a12 :: a13 :: a14 :: a15 :: a16 :: some (.long x) :: none :: t) st h r h') : PW G d M pc (a0 :: a1 :: a2 :: a3 :: a4 :: a5 :: a6 :: a7 :: a8 :: a9 :: a10 :: a11 :: a12 :: a13 :: a14 :: a15 :: a16 :: o :: o' :: t) (.long x :: st) h r h' := pw_lstore hd  hn (fun w _ hw => hp w (Option.some.inj hw)) k
theorem pw_lstore18 {a0 a1 a2 a3 a4 a5 a6 a7 a8 a9 a10 a11 a12 a13 a14 a15 a16 a17 : Option Value} {o o' : Option Value} {x : Int64} (hd : decode M.2.1 pc = .ok (.lstore 18, 2)) (hn : 19 < M.2.2.1) (hp : ∀ w, a17 = some w → w.category ≠ 2 := by first | (intro w hw; cases hw; done) | (intro w hw; cases hw; exact fun q => absurd q (by simp [Value.category]))) (k : PW G d M (pc + 2) (a0 :: a1 :: a2 :: a3 :: a4 :: a5 :: a6 :: a7 :: a8 :: a9 :: a10 :: a11 :: a12 :: a13 :: a14 :: a15 :: a16 :: a17 :: some (.long x) :: none :: t) st h r h') : PW G d M pc (a0 :: a1 :: a2 :: a3 :: a4 :: a5 :: a6 :: a7 :: a8 :: a9 :: a10 :: a11 :: a12 :: a13 :: a14 :: a15 :: a16 :: a17 :: o :: o' :: t) (.long x :: st) h r h' := pw_lstore hd  hn (fun w _ hw => hp w (Option.some.inj hw)) k
theorem pw_iinc0  {x v : Int32} {n : Int} (hd : decode M.2.1 pc = .ok (.iinc 0 n, 3)) (hv : Int32.ofInt n = v) (hn : 0 < M.2.2.1)  (k : PW G d M (pc + 3) (some (.int (x + v)) :: t) st h r h') : PW G d M pc (some (.int x) :: t) st h r h' := pw_iinc hd rfl hv hn (fun w q => absurd rfl q) k
theorem pw_iinc1 {a0 : Option Value} {x v : Int32} {n : Int} (hd : decode M.2.1 pc = .ok (.iinc 1 n, 3)) (hv : Int32.ofInt n = v) (hn : 1 < M.2.2.1) (hp : ∀ w, a0 = some w → w.category ≠ 2 := by first | (intro w hw; cases hw; done) | (intro w hw; cases hw; exact fun q => absurd q (by simp [Value.category]))) (k : PW G d M (pc + 3) (a0 :: some (.int (x + v)) :: t) st h r h') : PW G d M pc (a0 :: some (.int x) :: t) st h r h' := pw_iinc hd rfl hv hn (fun w _ hw => hp w (Option.some.inj hw)) k
theorem pw_iinc2 {a0 a1 : Option Value} {x v : Int32} {n : Int} (hd : decode M.2.1 pc = .ok (.iinc 2 n, 3)) (hv : Int32.ofInt n = v) (hn : 2 < M.2.2.1) (hp : ∀ w, a1 = some w → w.category ≠ 2 := by first | (intro w hw; cases hw; done) | (intro w hw; cases hw; exact fun q => absurd q (by simp [Value.category]))) (k : PW G d M (pc + 3) (a0 :: a1 :: some (.int (x + v)) :: t) st h r h') : PW G d M pc (a0 :: a1 :: some (.int x) :: t) st h r h' := pw_iinc hd rfl hv hn (fun w _ hw => hp w (Option.some.inj hw)) k
theorem pw_iinc3 {a0 a1 a2 : Option Value} {x v : Int32} {n : Int} (hd : decode M.2.1 pc = .ok (.iinc 3 n, 3)) (hv : Int32.ofInt n = v) (hn : 3 < M.2.2.1) (hp : ∀ w, a2 = some w → w.category ≠ 2 := by first | (intro w hw; cases hw; done) | (intro w hw; cases hw; exact fun q => absurd q (by simp [Value.category]))) (k : PW G d M (pc + 3) (a0 :: a1 :: a2 :: some (.int (x + v)) :: t) st h r h') : PW G d M pc (a0 :: a1 :: a2 :: some (.int x) :: t) st h r h' := pw_iinc hd rfl hv hn (fun w _ hw => hp w (Option.some.inj hw)) k
theorem pw_iinc4 {a0 a1 a2 a3 : Option Value} {x v : Int32} {n : Int} (hd : decode M.2.1 pc = .ok (.iinc 4 n, 3)) (hv : Int32.ofInt n = v) (hn : 4 < M.2.2.1) (hp : ∀ w, a3 = some w → w.category ≠ 2 := by first | (intro w hw; cases hw; done) | (intro w hw; cases hw; exact fun q => absurd q (by simp [Value.category]))) (k : PW G d M (pc + 3) (a0 :: a1 :: a2 :: a3 :: some (.int (x + v)) :: t) st h r h') : PW G d M pc (a0 :: a1 :: a2 :: a3 :: some (.int x) :: t) st h r h' := pw_iinc hd rfl hv hn (fun w _ hw => hp w (Option.some.inj hw)) k
theorem pw_iinc5 {a0 a1 a2 a3 a4 : Option Value} {x v : Int32} {n : Int} (hd : decode M.2.1 pc = .ok (.iinc 5 n, 3)) (hv : Int32.ofInt n = v) (hn : 5 < M.2.2.1) (hp : ∀ w, a4 = some w → w.category ≠ 2 := by first | (intro w hw; cases hw; done) | (intro w hw; cases hw; exact fun q => absurd q (by simp [Value.category]))) (k : PW G d M (pc + 3) (a0 :: a1 :: a2 :: a3 :: a4 :: some (.int (x + v)) :: t) st h r h') : PW G d M pc (a0 :: a1 :: a2 :: a3 :: a4 :: some (.int x) :: t) st h r h' := pw_iinc hd rfl hv hn (fun w _ hw => hp w (Option.some.inj hw)) k
theorem pw_iinc6 {a0 a1 a2 a3 a4 a5 : Option Value} {x v : Int32} {n : Int} (hd : decode M.2.1 pc = .ok (.iinc 6 n, 3)) (hv : Int32.ofInt n = v) (hn : 6 < M.2.2.1) (hp : ∀ w, a5 = some w → w.category ≠ 2 := by first | (intro w hw; cases hw; done) | (intro w hw; cases hw; exact fun q => absurd q (by simp [Value.category]))) (k : PW G d M (pc + 3) (a0 :: a1 :: a2 :: a3 :: a4 :: a5 :: some (.int (x + v)) :: t) st h r h') : PW G d M pc (a0 :: a1 :: a2 :: a3 :: a4 :: a5 :: some (.int x) :: t) st h r h' := pw_iinc hd rfl hv hn (fun w _ hw => hp w (Option.some.inj hw)) k
theorem pw_iinc7 {a0 a1 a2 a3 a4 a5 a6 : Option Value} {x v : Int32} {n : Int} (hd : decode M.2.1 pc = .ok (.iinc 7 n, 3)) (hv : Int32.ofInt n = v) (hn : 7 < M.2.2.1) (hp : ∀ w, a6 = some w → w.category ≠ 2 := by first | (intro w hw; cases hw; done) | (intro w hw; cases hw; exact fun q => absurd q (by simp [Value.category]))) (k : PW G d M (pc + 3) (a0 :: a1 :: a2 :: a3 :: a4 :: a5 :: a6 :: some (.int (x + v)) :: t) st h r h') : PW G d M pc (a0 :: a1 :: a2 :: a3 :: a4 :: a5 :: a6 :: some (.int x) :: t) st h r h' := pw_iinc hd rfl hv hn (fun w _ hw => hp w (Option.some.inj hw)) k
theorem pw_iinc8 {a0 a1 a2 a3 a4 a5 a6 a7 : Option Value} {x v : Int32} {n : Int} (hd : decode M.2.1 pc = .ok (.iinc 8 n, 3)) (hv : Int32.ofInt n = v) (hn : 8 < M.2.2.1) (hp : ∀ w, a7 = some w → w.category ≠ 2 := by first | (intro w hw; cases hw; done) | (intro w hw; cases hw; exact fun q => absurd q (by simp [Value.category]))) (k : PW G d M (pc + 3) (a0 :: a1 :: a2 :: a3 :: a4 :: a5 :: a6 :: a7 :: some (.int (x + v)) :: t) st h r h') : PW G d M pc (a0 :: a1 :: a2 :: a3 :: a4 :: a5 :: a6 :: a7 :: some (.int x) :: t) st h r h' := pw_iinc hd rfl hv hn (fun w _ hw => hp w (Option.some.inj hw)) k
theorem pw_iinc9 {a0 a1 a2 a3 a4 a5 a6 a7 a8 : Option Value} {x v : Int32} {n : Int} (hd : decode M.2.1 pc = .ok (.iinc 9 n, 3)) (hv : Int32.ofInt n = v) (hn : 9 < M.2.2.1) (hp : ∀ w, a8 = some w → w.category ≠ 2 := by first | (intro w hw; cases hw; done) | (intro w hw; cases hw; exact fun q => absurd q (by simp [Value.category]))) (k : PW G d M (pc + 3) (a0 :: a1 :: a2 :: a3 :: a4 :: a5 :: a6 :: a7 :: a8 :: some (.int (x + v)) :: t) st h r h') : PW G d M pc (a0 :: a1 :: a2 :: a3 :: a4 :: a5 :: a6 :: a7 :: a8 :: some (.int x) :: t) st h r h' := pw_iinc hd rfl hv hn (fun w _ hw => hp w (Option.some.inj hw)) k
theorem pw_iinc10 {a0 a1 a2 a3 a4 a5 a6 a7 a8 a9 : Option Value} {x v : Int32} {n : Int} (hd : decode M.2.1 pc = .ok (.iinc 10 n, 3)) (hv : Int32.ofInt n = v) (hn : 10 < M.2.2.1) (hp : ∀ w, a9 = some w → w.category ≠ 2 := by first | (intro w hw; cases hw; done) | (intro w hw; cases hw; exact fun q => absurd q (by simp [Value.category]))) (k : PW G d M (pc + 3) (a0 :: a1 :: a2 :: a3 :: a4 :: a5 :: a6 :: a7 :: a8 :: a9 :: some (.int (x + v)) :: t) st h r h') : PW G d M pc (a0 :: a1 :: a2 :: a3 :: a4 :: a5 :: a6 :: a7 :: a8 :: a9 :: some (.int x) :: t) st h r h' := pw_iinc hd rfl hv hn (fun w _ hw => hp w (Option.some.inj hw)) k
theorem pw_iinc11 {a0 a1 a2 a3 a4 a5 a6 a7 a8 a9 a10 : Option Value} {x v : Int32} {n : Int} (hd : decode M.2.1 pc = .ok (.iinc 11 n, 3)) (hv : Int32.ofInt n = v) (hn : 11 < M.2.2.1) (hp : ∀ w, a10 = some w → w.category ≠ 2 := by first | (intro w hw; cases hw; done) | (intro w hw; cases hw; exact fun q => absurd q (by simp [Value.category]))) (k : PW G d M (pc + 3) (a0 :: a1 :: a2 :: a3 :: a4 :: a5 :: a6 :: a7 :: a8 :: a9 :: a10 :: some (.int (x + v)) :: t) st h r h') : PW G d M pc (a0 :: a1 :: a2 :: a3 :: a4 :: a5 :: a6 :: a7 :: a8 :: a9 :: a10 :: some (.int x) :: t) st h r h' := pw_iinc hd rfl hv hn (fun w _ hw => hp w (Option.some.inj hw)) k
theorem pw_iinc12 {a0 a1 a2 a3 a4 a5 a6 a7 a8 a9 a10 a11 : Option Value} {x v : Int32} {n : Int} (hd : decode M.2.1 pc = .ok (.iinc 12 n, 3)) (hv : Int32.ofInt n = v) (hn : 12 < M.2.2.1) (hp : ∀ w, a11 = some w → w.category ≠ 2 := by first | (intro w hw; cases hw; done) | (intro w hw; cases hw; exact fun q => absurd q (by simp [Value.category]))) (k : PW G d M (pc + 3) (a0 :: a1 :: a2 :: a3 :: a4 :: a5 :: a6 :: a7 :: a8 :: a9 :: a10 :: a11 :: some (.int (x + v)) :: t) st h r h') : PW G d M pc (a0 :: a1 :: a2 :: a3 :: a4 :: a5 :: a6 :: a7 :: a8 :: a9 :: a10 :: a11 :: some (.int x) :: t) st h r h' := pw_iinc hd rfl hv hn (fun w _ hw => hp w (Option.some.inj hw)) k
theorem pw_iinc13 {a0 a1 a2 a3 a4 a5 a6 a7 a8 a9 a10 a11 a12 : Option Value} {x v : Int32} {n : Int} (hd : decode M.2.1 pc = .ok (.iinc 13 n, 3)) (hv : Int32.ofInt n = v) (hn : 13 < M.2.2.1) (hp : ∀ w, a12 = some w → w.category ≠ 2 := by first | (intro w hw; cases hw; done) | (intro w hw; cases hw; exact fun q => absurd q (by simp [Value.category]))) (k : PW G d M (pc + 3) (a0 :: a1 :: a2 :: a3 :: a4 :: a5 :: a6 :: a7 :: a8 :: a9 :: a10 :: a11 :: a12 :: some (.int (x + v)) :: t) st h r h') : PW G d M pc (a0 :: a1 :: a2 :: a3 :: a4 :: a5 :: a6 :: a7 :: a8 :: a9 :: a10 :: a11 :: a12 :: some (.int x) :: t) st h r h' := pw_iinc hd rfl hv hn (fun w _ hw => hp w (Option.some.inj hw)) k
theorem pw_iinc14 {a0 a1 a2 a3 a4 a5 a6 a7 a8 a9 a10 a11 a12 a13 : Option Value} {x v : Int32} {n : Int} (hd : decode M.2.1 pc = .ok (.iinc 14 n, 3)) (hv : Int32.ofInt n = v) (hn : 14 < M.2.2.1) (hp : ∀ w, a13 = some w → w.category ≠ 2 := by first | (intro w hw; cases hw; done) | (intro w hw; cases hw; exact fun q => absurd q (by simp [Value.category]))) (k : PW G d M (pc + 3) (a0 :: a1 :: a2 :: a3 :: a4 :: a5 :: a6 :: a7 :: a8 :: a9 :: a10 :: a11 :: a12 :: a13 :: some (.int (x + v)) :: t) st h r h') : PW G d M pc (a0 :: a1 :: a2 :: a3 :: a4 :: a5 :: a6 :: a7 :: a8 :: a9 :: a10 :: a11 :: a12 :: a13 :: some (.int x) :: t) st h r h' := pw_iinc hd rfl hv hn (fun w _ hw => hp w (Option.some.inj hw)) k
theorem pw_iinc15 {a0 a1 a2 a3 a4 a5 a6 a7 a8 a9 a10 a11 a12 a13 a14 : Option Value} {x v : Int32} {n : Int} (hd : decode M.2.1 pc = .ok (.iinc 15 n, 3)) (hv : Int32.ofInt n = v) (hn : 15 < M.2.2.1) (hp : ∀ w, a14 = some w → w.category ≠ 2 := by first | (intro w hw; cases hw; done) | (intro w hw; cases hw; exact fun q => absurd q (by simp [Value.category]))) (k : PW G d M (pc + 3) (a0 :: a1 :: a2 :: a3 :: a4 :: a5 :: a6 :: a7 :: a8 :: a9 :: a10 :: a11 :: a12 :: a13 :: a14 :: some (.int (x + v)) :: t) st h r h') : PW G d M pc (a0 :: a1 :: a2 :: a3 :: a4 :: a5 :: a6 :: a7 :: a8 :: a9 :: a10 :: a11 :: a12 :: a13 :: a14 :: some (.int x) :: t) st h r h' := pw_iinc hd rfl hv hn (fun w _ hw => hp w (Option.some.inj hw)) k
theorem pw_iinc16 {a0 a1 a2 a3 a4 a5 a6 a7 a8 a9 a10 a11 a12 a13 a14 a15 : Option Value} {x v : Int32} {n : Int} (hd : decode M.2.1 pc = .ok (.iinc 16 n, 3)) (hv : Int32.ofInt n = v) (hn : 16 < M.2.2.1) (hp : ∀ w, a15 = some w → w.category ≠ 2 := by first | (intro w hw; cases hw; done) | (intro w hw; cases hw; exact fun q => absurd q (by simp [Value.category]))) (k : PW G d M (pc + 3) (a0 :: a1 :: a2 :: a3 :: a4 :: a5 :: a6 :: a7 :: a8 :: a9 :: a10 :: a11 :: a12 :: a13 :: a14 :: a15 :: some (.int (x + v)) :: t) st h r h') : PW G d M pc (a0 :: a1 :: a2 :: a3 :: a4 :: a5 :: a6 :: a7 :: a8 :: a9 :: a10 :: a11 :: a12 :: a13 :: a14 :: a15 :: some (.int x) :: t) st h r h' := pw_iinc hd rfl hv hn (fun w _ hw => hp w (Option.some.inj hw)) k
theorem pw_iinc17 {a0 a1 a2 a3 a4 a5 a6 a7 a8 a9 a10 a11 a12 a13 a14 a15 a16 : Option Value} {x v : Int32} {n : Int} (hd : decode M.2.1 pc = .ok (.iinc 17 n, 3)) (hv : Int32.ofInt n = v) (hn : 17 < M.2.2.1) (hp : ∀ w, a16 = some w → w.category ≠ 2 := by first | (intro w hw; cases hw; done) | (intro w hw; cases hw; exact fun q => absurd q (by simp [Value.category]))) (k : PW G d M (pc + 3) (a0 :: a1 :: a2 :: a3 :: a4 :: a5 :: a6 :: a7 :: a8 :: a9 :: a10 :: a11 :: a12 :: a13 :: a14 :: a15 :: a16 :: some (.int (x + v)) :: t) st h r h') : PW G d M pc (a0 :: a1 :: a2 :: a3 :: a4 :: a5 :: a6 :: a7 :: a8 :: a9 :: a10 :: a11 :: a12 :: a13 :: a14 :: a15 :: a16 :: some (.int x) :: t) st h r h' := pw_iinc hd rfl hv hn (fun w _ hw => hp w (Option.some.inj hw)) k
theorem pw_iinc18 {a0 a1 a2 a3 a4 a5 a6 a7 a8 a9 a10 a11 a12 a13 a14 a15 a16 a17 : Option Value} {x v : Int32} {n : Int} (hd : decode M.2.1 pc = .ok (.iinc 18 n, 3)) (hv : Int32.ofInt n = v) (hn : 18 < M.2.2.1) (hp : ∀ w, a17 = some w → w.category ≠ 2 := by first | (intro w hw; cases hw; done) | (intro w hw; cases hw; exact fun q => absurd q (by simp [Value.category]))) (k : PW G d M (pc + 3) (a0 :: a1 :: a2 :: a3 :: a4 :: a5 :: a6 :: a7 :: a8 :: a9 :: a10 :: a11 :: a12 :: a13 :: a14 :: a15 :: a16 :: a17 :: some (.int (x + v)) :: t) st h r h') : PW G d M pc (a0 :: a1 :: a2 :: a3 :: a4 :: a5 :: a6 :: a7 :: a8 :: a9 :: a10 :: a11 :: a12 :: a13 :: a14 :: a15 :: a16 :: a17 :: some (.int x) :: t) st h r h' := pw_iinc hd rfl hv hn (fun w _ hw => hp w (Option.some.inj hw)) k
end PW5P
