section MZS
variable {p : Program} {l : Launch} {e : Env} {R : Room} {s : State} {m : MethodId} {args : Array Value} {below : List Frame} {meth : Method} {c : Code} {H : Heap} {locs : List Loc} {cells slots : Nat} {Q : State → Prop}
theorem mz_stand {T : State} (X : Stand p l e R s m args below meth c T locs cells slots) (cA c1 : ClassId) (N M : Nat) : ∀ i, Stand p l e R s m args below meth c (mzT T cA c1 N M i) (locs ++ (List.range i).map fun j => ⟨T.heap.size, j⟩) (cells + 1 + i) (slots + N + i * M) := by
  intro i
  induction i with
  | zero =>
    have h := X.pushed (mzO cA N T.heap.size 0)
    rw [mzO, arrV_size] at h
    rw [List.range_zero, List.map_nil, List.append_nil, Nat.zero_mul]
    exact h
  | succ i ih =>
    obtain ⟨-, -, f3, f4, -, -⟩ := mzT_f T cA c1 N M i
    have h := ih.pushed (mzI c1 M)
    have hc : ((mzT T cA c1 N M i).pushCell (mzI c1 M)).heap[T.heap.size]? = some (mzO cA N T.heap.size i) := by
      have hlt : T.heap.size < (mzT T cA c1 N M i).heap.size := by rw [f3]; omega
      rw [State.heap_pushCell_of_lt _ _ hlt]
      exact f4
    have h := h.stored hc i (.ref (T.heap.size + 1 + i))
    rw [mzO_s, mzI, arrV_size] at h
    rw [List.range_succ, List.map_append, ← List.append_assoc, Nat.succ_mul, ← Nat.add_assoc (slots + N)]
    exact h
theorem mz_W {cc : ByteArray} (hexec : p.tables.exec = Jvm.exec) (hb : c.code = cc) {own : String} {index : Nat} (hown : s.vm.findClass own = some m.cls) (hclink : (Cond.classLink own index ("[" ++ (FieldType.array .int).toString)).before args s = true) (hover : (Cond.arrayOver (.array .int)).before args s = true) (harr : (Cond.arrayClass .int).before args s = true) {g : JFrame} (hg : g.method = m) (hdg : decode cc g.pc = .ok (.multianewarray index 2, 4)) {n k : Int32} {rest : List Value} (hstack : g.stack = .int k :: .int n :: rest) (hn : ¬ n < 0) (hk : ¬ k < 0) (hb1 : n.toNatClampNeg ≤ 1000) (hb2 : k.toNatClampNeg ≤ 1000) (hcells : cells + (1 + n.toNatClampNeg) ≤ R.cells) (hslots : slots + (n.toNatClampNeg + n.toNatClampNeg * k.toNatClampNeg) ≤ R.slots)
    (kk : ∀ (cA c1 : ClassId) (H' : Heap), s.vm.findClass ("[" ++ (FieldType.array .int).toString) = some cA → s.vm.findClass (FieldType.array .int).toString = some c1 → H'.size = H.size + 1 + n.toNatClampNeg → H'[H.size]? = some (mzO cA n.toNatClampNeg H.size n.toNatClampNeg) → (∀ q, q < H.size → H'[q]? = H[q]?) → (∀ j, j < n.toNatClampNeg → H'[H.size + 1 + j]? = some (mzI c1 k.toNatClampNeg)) →
      W p l e R s m args below meth c H' (locs ++ (List.range n.toNatClampNeg).map fun j => ⟨H.size, j⟩) (cells + 1 + n.toNatClampNeg) (slots + n.toNatClampNeg + n.toNatClampNeg * k.toNatClampNeg) Q { g with pc := g.pc + 4, stack := .ref H.size :: rest }) : W p l e R s m args below meth c H locs cells slots Q g := by
  intro T hT X
  subst hT; subst hb; subst hg
  have hpl : e.platform.magicAccessors = ({} : Platform).magicAccessors := by rw [X.admits.platform]
  obtain ⟨c1, cA, kA, q1, -, q3, q4, q5⟩ := arrayOverA_spec hover
  obtain ⟨c1', k1, cc, w1, w2, w3⟩ := Cond.arrayClass_spec harr
  have e1 : c1' = c1 := Option.some.inj (w1.symm.trans q1)
  subst e1
  obtain ⟨c0, v1, v2⟩ := Cond.classLink_spec hown hclink e.platform hpl
  have e0 : c0 = cA := Option.some.inj (v1.symm.trans q5)
  subst e0
  obtain ⟨g1, g2, g3⟩ := State.classEntry (e := e) X.warmed v2
  generalize T.vm.noted g.method.cls index (.cls c0) = vm1 at g1 g2 g3
  have hal : s.vm.Alike vm1 := g2.alike
  obtain ⟨kA1, x1, x2⟩ := hal.2.2 _ _ q3
  obtain ⟨k11, y1, y2⟩ := hal.2.2 _ _ w2
  have x3 : kA1.kind = .array c1' (.array .int) := by rw [x2]; exact q4
  have y3 : k11.kind = .array cc .int := by rw [y2]; exact w3
  obtain ⟨hr1, hr2⟩ := X.roomAbove hcells hslots
  have X1 := X.noted g2
  have XF := mz_stand X1 c0 c1' n.toNatClampNeg k.toNatClampNeg n.toNatClampNeg
  obtain ⟨-, -, t3, t4, t5, t6⟩ := mzT_f (T.setVm vm1) c0 c1' n.toNatClampNeg k.toNatClampNeg n.toNatClampNeg
  obtain ⟨t, a1, b1⟩ := kk c0 c1' _ q5 q1 t3 t4 t5 t6 (mzT (T.setVm vm1) c0 c1' n.toNatClampNeg k.toNatClampNeg n.toNatClampNeg) rfl XF
  refine ⟨t, ?_, b1⟩
  have al := Launch.admits_arrayLengthLimit X.admits
  have ah := Launch.admits_maxHeapBytes X.admits
  jvm_step X.here [hexec, hdg]
  simp only [multianewarray.sem, wp_bind', W.resolveClassAt_links (State.method?_setTop g X.here.top) g1]
  rw [W.popN, if_neg (by decide)]
  refine ⟨g, State.topJava?_setTop' (s := T.setVm vm1) g X.here.top, [.int n, .int k], rest, rfl, hstack, ?_⟩
  simp only [List.mapM_cons, List.mapM_nil, wp_bind', wp_pure']
  refine mz_make2 x1 x3 y1 y3 hn hk (by rw [al]; omega) (by rw [ah]; omega) (by rw [al]; omega) (by rw [ah]; omega) (by show T.heap.size + 1 + _ ≤ _; omega) (by show T.slotsUsed + _ + _ ≤ _; omega) (fun d' acts' => ?_)
  have eS : ((T.setTop g).setVm vm1).setTop { g with stack := rest } = (T.setVm vm1).setTop { g with stack := rest } := by
    show ((T.setVm vm1).setTop g).setTop _ = _
    rw [State.setTop_setTop]
  rw [eS, mzT_top]
  simp only [wp_bind', W.mark, W.pushRef, State.topJava?_setTop' _ XF.here.top, Option.some.injEq, exists_eq_left', State.setTop_setTop, State.heap_setTop]
  intro acts
  simp [jvm, XF.here.top]
  exact a1
end MZS
