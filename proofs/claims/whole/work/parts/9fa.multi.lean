/-! ===== a row of rows made at once ===== -/
section MZ
/-- the row of rows, i of them there -/
def mzO (c : ClassId) (N h i : Nat) : Cell := arrV c N (fun j => if j < i then .ref (h + 1 + j) else .null)
/-- one of them -/
def mzI (c : ClassId) (M : Nat) : Cell := arrV c M (fun _ => .int 0)
def mzT (T : State) (c c1 : ClassId) (N M : Nat) : Nat → State
  | 0 => T.pushCell (mzO c N T.heap.size 0)
  | i + 1 => ((mzT T c c1 N M i).pushCell (mzI c1 M)).setCell T.heap.size (mzO c N T.heap.size (i + 1))
theorem mzO_s (c : ClassId) (N h i : Nat) : (mzO c N h i).setSlot i (.ref (h + 1 + i)) = mzO c N h (i + 1) := by
  unfold mzO
  rw [arrV_store]
  congr 1
  funext j
  unfold updV
  by_cases e : j = i
  · rw [if_pos e, if_pos (by omega), e]
  · rw [if_neg e]
    show (if j < i then Value.ref (h + 1 + j) else Value.null) = _
    by_cases g : j < i
    · rw [if_pos g, if_pos (by omega)]
    · rw [if_neg g, if_neg (by omega)]
theorem mzT_f (T : State) (c c1 : ClassId) (N M : Nat) : ∀ i, (mzT T c c1 N M i).vm = T.vm ∧ (mzT T c c1 N M i).slotsUsed = T.slotsUsed + N + i * M ∧ (mzT T c c1 N M i).heap.size = T.heap.size + 1 + i ∧ (mzT T c c1 N M i).heap[T.heap.size]? = some (mzO c N T.heap.size i) ∧ (∀ q, q < T.heap.size → (mzT T c c1 N M i).heap[q]? = T.heap[q]?) ∧ ∀ j, j < i → (mzT T c c1 N M i).heap[T.heap.size + 1 + j]? = some (mzI c1 M) := by
  intro i
  induction i with
  | zero =>
    refine ⟨rfl, ?_, ?_, State.heap_pushCell_size _ _, fun q hq => State.heap_pushCell_of_lt _ _ hq, fun j hj => by omega⟩
    · show T.slotsUsed + (mzO c N T.heap.size 0).slots.size = _
      rw [mzO, arrV_size]; omega
    · simp [mzT]
  | succ i ih =>
    obtain ⟨a1, a2, a3, a4, a5, a6⟩ := ih
    have old : ∀ q, q < T.heap.size + 1 + i → ((mzT T c c1 N M i).pushCell (mzI c1 M)).heap[q]? = (mzT T c c1 N M i).heap[q]? := fun q hq => State.heap_pushCell_of_lt _ _ (by rw [a3]; exact hq)
    refine ⟨?_, ?_, ?_, ?_, fun q hq => ?_, fun j hj => ?_⟩
    · show (mzT T c c1 N M i).vm = T.vm
      exact a1
    · show (mzT T c c1 N M i).slotsUsed + (mzI c1 M).slots.size = _
      rw [a2, mzI, arrV_size, Nat.succ_mul]; omega
    · simp [mzT, State.setCell, a3]; omega
    · exact State.heap_setCell_self (by rw [old _ (by omega)]; exact a4)
    · show (((mzT T c c1 N M i).pushCell (mzI c1 M)).setCell T.heap.size _).heap[q]? = _
      rw [State.heap_setCell_other (show T.heap.size ≠ q by omega), old q (by omega)]
      exact a5 q hq
    · show (((mzT T c c1 N M i).pushCell (mzI c1 M)).setCell T.heap.size _).heap[T.heap.size + 1 + j]? = _
      rw [State.heap_setCell_other (show T.heap.size ≠ T.heap.size + 1 + j by omega)]
      by_cases e : j = i
      · subst e
        rw [← a3]
        exact State.heap_pushCell_size _ _
      · rw [old _ (by omega)]
        exact a6 j (by omega)
theorem mzT_top (T : State) (f : JFrame) (c c1 : ClassId) (N M : Nat) : ∀ i, mzT (T.setTop f) c c1 N M i = (mzT T c c1 N M i).setTop f := by
  intro i
  induction i with
  | zero => rfl
  | succ i ih => simp only [mzT, ih, State.heap_setTop, State.pushCell_setTop, State.setCell_setTop]
section MZW
variable {E : CtlPost} {e : Env} {d : Bool} {acts : List Action} {s : State}
theorem mz_make1 {c1 cc : ClassId} {k1 : Class} {m : Int32} (hk : s.vm.classes[c1]? = some k1) (hkind : k1.kind = .array cc .int) (hm : ¬ m < 0) (hl : ¬ m.toNatClampNeg > e.platform.arrayLengthLimit) (hh : ¬ m.toNatClampNeg * 4 > e.platform.maxHeapBytes) (h1 : s.heap.size < e.platform.maxCells) (h2 : s.slotsUsed + m.toNatClampNeg ≤ e.platform.maxSlots) {Q : Addr → Pre} (hq : ∀ acts', Q s.heap.size d acts' (s.pushCell (mzI c1 m.toNatClampNeg))) : wp (multianewarray.make c1 [m]) Q E e d acts s := by
  rw [multianewarray.make]
  simp only [wp_bind', W.ite, hm, if_false, wp_pure', W.theClass, hk, hkind, Option.some.injEq, exists_eq_left']
  refine W.newArray_of hk hkind hl hh h1 h2 rfl (fun acts' => ?_)
  have := hq acts'
  unfold mzI at this
  rw [← arrV_new] at this
  exact this
theorem mz_make2 {c c1 cc : ClassId} {k k1 : Class} {n m : Int32} (hk : s.vm.classes[c]? = some k) (hkind : k.kind = .array c1 (.array .int)) (hk1 : s.vm.classes[c1]? = some k1) (hkind1 : k1.kind = .array cc .int) (hn : ¬ n < 0) (hm : ¬ m < 0) (hl1 : ¬ n.toNatClampNeg > e.platform.arrayLengthLimit) (hh1 : ¬ n.toNatClampNeg * 4 > e.platform.maxHeapBytes) (hl2 : ¬ m.toNatClampNeg > e.platform.arrayLengthLimit) (hh2 : ¬ m.toNatClampNeg * 4 > e.platform.maxHeapBytes) (hc : s.heap.size + 1 + n.toNatClampNeg ≤ e.platform.maxCells) (hs : s.slotsUsed + n.toNatClampNeg + n.toNatClampNeg * m.toNatClampNeg ≤ e.platform.maxSlots) {Q : Addr → Pre} (hq : ∀ d' acts', Q s.heap.size d' acts' (mzT s c c1 n.toNatClampNeg m.toNatClampNeg n.toNatClampNeg)) : wp (multianewarray.make c [n, m]) Q E e d acts s := by
  have hfind : ([m].find? (· < 0)) = none := by simp [hm]
  rw [multianewarray.make]
  simp only [wp_bind', W.ite, hn, if_false, wp_pure', W.theClass, hk, hkind, Option.some.injEq, exists_eq_left']
  refine W.newArray_of hk hkind hl1 hh1 (by omega) (by have := Nat.zero_le (n.toNatClampNeg * m.toNatClampNeg); omega) rfl (fun acts' => ?_)
  have e0 : s.pushCell ({ cls := c, slots := Array.replicate n.toNatClampNeg .null } : Cell) = mzT s c c1 n.toNatClampNeg m.toNatClampNeg 0 := by
    show s.pushCell ({ cls := c, slots := Array.replicate n.toNatClampNeg .null, vm := .none } : Cell) = s.pushCell (mzO c n.toNatClampNeg s.heap.size 0)
    rw [arrV_new]
    unfold mzO
    congr 2
  rw [e0]
  simp only [hfind]
  rw [ite_self, wp_bind', Std.Legacy.Range.forIn_eq_forIn_range']
  have hsz : ([:n.toNatClampNeg] : Std.Legacy.Range).size = n.toNatClampNeg := by simp [Std.Legacy.Range.size]
  rw [hsz]
  show wp (forIn (List.range' 0 n.toNatClampNeg 1) PUnit.unit _) _ E e d acts' _
  refine wp_forIn_inv (fun l u => ∃ i, i + l.length = n.toNatClampNeg ∧ l = List.range' i l.length ∧ u = mzT s c c1 n.toNatClampNeg m.toNatClampNeg i) _ _ ⟨0, by rw [List.length_range']; omega, by rw [List.length_range'], rfl⟩ ?_ ?_
  · rintro x rest u d' acts2 Q' ⟨i, hi, hl, rfl⟩ hnext
    rw [List.length_cons] at hi hl
    rw [List.range'_succ] at hl
    obtain ⟨rfl, hl⟩ := List.cons.inj hl
    obtain ⟨f1, f2, f3, f4, -, -⟩ := mzT_f s c c1 n.toNatClampNeg m.toNatClampNeg x
    have hmul : x * m.toNatClampNeg + m.toNatClampNeg ≤ n.toNatClampNeg * m.toNatClampNeg := by
      have := Nat.mul_le_mul_right m.toNatClampNeg (show x + 1 ≤ n.toNatClampNeg by omega)
      rw [Nat.succ_mul] at this
      exact this
    simp only [wp_bind']
    refine mz_make1 (by rw [f1]; exact hk1) hkind1 hm hl2 hh2 (by rw [f3]; omega) (by rw [f2]; omega) (fun acts3 => ?_)
    have hlt0 : s.heap.size < (mzT s c c1 n.toNatClampNeg m.toNatClampNeg x).heap.size := by rw [f3]; omega
    simp only [wp_bind', W.writeLoc, wp_pure']
    refine ⟨mzO c n.toNatClampNeg s.heap.size x, by rw [State.heap_pushCell_of_lt (h := hlt0)]; exact f4, (by unfold mzO arrV; simp), (by rw [mzO, arrV_size]; omega), ?_, hnext _ _ _ ⟨x + 1, by omega, hl, ?_⟩⟩
    · unfold mzO arrV
      simp [State.fitsSlot, State.slotType?, f1, hk, hkind]
      rfl
    · rw [f3, mzO_s]
      rfl
  · rintro u d' acts2 ⟨i, hi, -, rfl⟩
    have hi : i + 0 = n.toNatClampNeg := hi
    rw [Nat.add_zero] at hi
    subst hi
    simp only [wp_pure']
    exact hq _ _
end MZW
end MZ
