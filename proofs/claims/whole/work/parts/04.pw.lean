/-! ===== what the tables say, and what lies below the law's own cells ===== -/
def GT : List Cond := lw_tbl.filter goodWord
theorem gt_good : ∀ w ∈ GT, (w.onTables && w.keeps) = true ∨ ∃ ty, w = .arrayClass ty := fun w h => good_of_word (List.mem_filter.mp h).2
theorem gt_in {L : List Cond} (h : ∀ w ∈ L, w ∈ GT) : GoodIn GT L := fun w hw => ⟨h w hw, gt_good w (h w hw)⟩
def pm_isN : Cond → Bool
  | .fieldLinkNest .. => true
  | .methodLinkNest .. => true
  | _ => false
def pm_nest : List Cond := lw_tbl.filter pm_isN
def pm_AOA (t : FieldType) (U : State) : Prop := (Cond.arrayOver (.array t)).before #[] U = true
theorem pm_AOA.moved {t : FieldType} {u U : State} (hvm : u.vm.Alike U.vm) (h : pm_AOA t u) : pm_AOA t U := by
  obtain ⟨comp, c, k, h1, h2, h3, h4, h5⟩ := arrayOverA_spec h
  obtain ⟨k', hk', he⟩ := hvm.2.2 _ _ h3
  have hi := va_idx_bare U.vm comp
  first | rw [hvm.bare_eq] at hi | rw [← hvm.bare_eq] at hi
  have hi := hi.symm.trans ((va_idx_bare u.vm comp).trans h2)
  have hkind : k'.kind = .array comp (.array t) := by rw [he]; exact h4
  have f1 : U.vm.findClass (FieldType.array t).toString = some comp := by rw [hvm.findClass]; exact h1
  have f2 : U.vm.findClass ("[" ++ (FieldType.array t).toString) = some c := by rw [hvm.findClass]; exact h5
  unfold pm_AOA Cond.before Cond.holds
  simp only [Cond.value]
  rw [f1, Option.bind_some]
  refine (congrArg (fun o : Option Nat => (o.bind (fun c => (U.vm.classes[c]?).map fun (k : Class) => match k.kind with | .array _ ty => decide (ty = FieldType.array t) && decide (U.vm.findClass ("[" ++ (FieldType.array t).toString) = some c) | _ => false) == some true)) hi).trans ?_
  simp [hk', hkind, f2]
def pm_t0 : String := "who temper piece bar want draw last store desk player glad may slips up down has owes or and not "
def pm_t1 : String := " desk piece up down player has owes temper glad may slips who bar want draw last store and or not "
def pm_t2 : String := ";:+-*()[]=<>"
def pm_by (t : String) : List Int32 := t.toUTF8.toList.map fun b => nI b.toNat
def pm_len : List Nat := [97, 98, 12]
def pm_byt : List (List Int32) := [pm_by pm_t0, pm_by pm_t1, pm_by pm_t2]
def pm_fm (G : gT) : Value := if G.2.2.2.2.2.2 4 = 0 then .null else .ref 7
/-- of the tables and of the old heap, at a method's entry -/
def pm_F (G : gT) (s : State) (H : Heap) : Prop :=
  va_K G.2.1 vwCl (pm_tys G) s ∧ (∀ w ∈ pm_nest, va_Nw w s) ∧ (va_AO "RubatoDesk$Sheet" s ∧ va_AO "RubatoDesk$State" s ∧ va_AO "RubatoDesk$Tray" s ∧ pm_AOA .int s ∧ pm_AOA .long s) ∧
  (vk_R RX6 107 pm_t0 (G.2.2.2.2.2.1 0) s ∧ vk_R RX12 96 pm_t1 (G.2.2.2.2.2.1 1) s ∧ vk_R RX12 134 pm_t2 (G.2.2.2.2.2.1 2) s) ∧
  va_X G.2.2.2.1.1 G.2.2.2.1.2.1 G.2.2.2.1.2.2 s H ∧ vk_S 3 pm_len pm_byt G.2.2.2.2.2.1 G.2.2.2.2.2.2 (pm_A G) s H ∧ (va_Z "java/lang/String" "COMPACT_STRINGS" "Z" (.int 1) (pm_A G) s H ∧ va_Z "jdk/internal/util/Preconditions" "SIOOBE_FORMATTER" "Ljava/util/function/BiFunction;" (pm_v G (pm_fm G)) (pm_A G) s H) ∧ G.2.2.2.1.1 < G.2.2.2.2.1 ∧ G.2.2.2.2.1 ≤ H.size
theorem pm_F.moved {G : gT} {s U : State} {H H1 : Heap} (h : pm_F G s H) (hW : s.WarmedH U.vm) (ho : ∀ q : Nat, q < H.size → ¬ pm_A G q → H1[q]? = H[q]?) (hz : H.size ≤ H1.size) : pm_F G U H1 := by
  obtain ⟨hK, hN, ⟨a1, a2, a3, a4, a5⟩, ⟨k1, k2, k3⟩, hX, hV, ⟨hZ, hZ2⟩, hb, hs⟩ := h
  have hal := hW.alike
  have hbs : G.2.2.2.1.1 < H.size := Nat.lt_of_lt_of_le hb hs
  refine ⟨hK.moved hal, fun w hw => ?_, ⟨a1.moved hal, a2.moved hal, a3.moved hal, a4.moved hal, a5.moved hal⟩, ⟨k1.warm hW, k2.warm hW, k3.warm hW⟩, (hX.moved hal).kept (ho _ hbs (Nat.not_le.mpr hb)), (hV.moved hal).kept ho, ⟨(hZ.moved hal).kept ho, (hZ2.moved hal).kept ho⟩, hb, Nat.le_trans hs hz⟩
  have h1 := hN w hw
  have h2 := (List.mem_filter.mp hw).2
  cases w <;> first | exact va_Nw.warmF hW h1 | exact va_Nw.warmM hW h1 | (exact absurd h2 (by decide)) | cases h2
/-- the locals of a frame, by their places -/
def pm_L (G : gT) (n : Nat) (lsA : Array Slot) (ls : List (Option Value)) : Prop := lsA.size = n ∧ lv_wf lsA ∧ ∀ (i : Nat) (v : Value), ls[i]? = some (some v) → lsA[i]? = some (Slot.val (pm_v G v))
/-- what a method's frame stands on -/
def pm_C (G : gT) (d : Nat) (M : mT) (p : Program) (R : Room) (s : State) (m : MethodId) (args : Array Value) (meth : Method) (c : Code) : Prop :=
  p.tables.exec = Jvm.exec ∧ c.code = M.2.1 ∧ c.maxLocals = M.2.2.1 ∧ s.vm.findClass M.1.cls = some m.cls ∧ (∀ w ∈ GT, w.before args s = true) ∧ pm_F G s s.heap ∧ d ≤ R.frames ∧ 64 * d ≤ R.locals ∧ meth.sig.returnType = M.2.2.2 ∧ meth.name = M.1.name ∧ meth.locks = false
/-- a return instruction that gives such an answer -/
def pm_ret (M : mT) (pc : Nat) (r : Option Value) : Prop :=
  (∃ (v : Int32) (ty : FieldType), r = some (.int v) ∧ decode M.2.1 pc = .ok (.ireturn, 1) ∧ M.2.2.2 = some ty ∧ narrow ty (.int v) = .int v) ∨
  (∃ v : Int64, r = some (.long v) ∧ decode M.2.1 pc = .ok (.lreturn, 1) ∧ M.2.2.2 = some .long) ∨
  (∃ (v : Option Nat) (ty : FieldType), r = some (va_rf v) ∧ decode M.2.1 pc = .ok (.areturn, 1) ∧ M.2.2.2 = some ty ∧ ((∃ n, ty = .object n) ∨ ∃ t, ty = .array t)) ∨
  (r = none ∧ decode M.2.1 pc = .ok (.return_, 1) ∧ M.2.2.2 = none)
/-- THE JUDGEMENT: the method M at pc, with locals ls, stack st and heap h, d calls deep at most, comes to its end with the answer r and the heap h' -/
def PW (G : gT) (d : Nat) (M : mT) (pc : Nat) (ls : List (Option Value)) (st : List Value) (h : Ph) (r : Option Value) (h' : Ph) : Prop :=
  (h.1 ≤ h'.1 ∧ h.2.1 ≤ h'.2.1) ∧
  ∀ (p : Program) (e : Env) (R : Room) (s : State) (m : MethodId) (args : Array Value) (below : List Frame) (meth : Method) (c : Code) (H : Heap) (locs : List Loc) (cells slots : Nat) (lsA : Array Slot) (Q : State → Prop),
    pm_C G d M p R s m args meth c → va_S (pm_A G) s.heap H locs → pm_R G h H → pm_L G M.2.2.1 lsA ls → s.heap.size + cells ≤ G.2.2.2.2.1 + (h.1 - 8) → cells + (h'.1 - h.1) ≤ R.cells → slots + (h'.2.1 - h.2.1) ≤ R.slots →
    (∀ (H' : Heap) (locs' : List Loc) (pc' : Nat) (lsA' : Array Slot), va_S (pm_A G) s.heap H' locs' → pm_R G h' H' → pm_ret M pc' r → W p G.1 e R s m args below meth c H' locs' R.cells R.slots Q (F0 m pc' lsA' (r.map (pm_v G)).toList)) →
    W p G.1 e R s m args below meth c H locs cells slots Q (F0 m pc lsA (st.map (pm_v G)))
theorem PW.mono {G : gT} {d d' : Nat} {M : mT} {pc : Nat} {ls : List (Option Value)} {st : List Value} {h h' : Ph} {r : Option Value} (k : PW G d M pc ls st h r h') (hd : d ≤ d') : PW G d' M pc ls st h r h' := by
  refine ⟨k.1, ?_⟩
  intro p e R s m args below meth c H locs cells slots lsA Q C hS hR hL hz h1 h2 hQ
  obtain ⟨c1, c2, c3, c4, c5, c6, c7, c8, c9⟩ := C
  exact k.2 p e R s m args below meth c H locs cells slots lsA Q ⟨c1, c2, c3, c4, c5, c6, by omega, by omega, c9⟩ hS hR hL hz h1 h2 hQ
/-- the locals by other words -/
theorem PW.locals {G : gT} {d : Nat} {M : mT} {pc : Nat} {ls ls' : List (Option Value)} {st : List Value} {h h' : Ph} {r : Option Value} (hl : ∀ (i : Nat) (v : Value), ls'[i]? = some (some v) → ls[i]? = some (some v)) (k : PW G d M pc ls' st h r h') : PW G d M pc ls st h r h' := by
  refine ⟨k.1, ?_⟩
  intro p e R s m args below meth c H locs cells slots lsA Q C hS hR hL hz h1 h2 hQ
  exact k.2 p e R s m args below meth c H locs cells slots lsA Q C hS hR ⟨hL.1, hL.2.1, fun i v hi => hL.2.2 i v (hl i v hi)⟩ hz h1 h2 hQ
section PWR
variable {G : gT} {d : Nat} {M : mT} {pc : Nat} {ls : List (Option Value)} {st : List Value} {h h' : Ph} {r : Option Value}
theorem pw_ireturn {v : Int32} {ty : FieldType} (hd : decode M.2.1 pc = .ok (.ireturn, 1)) (ht : M.2.2.2 = some ty) (hn : narrow ty (.int v) = .int v) : PW G d M pc ls [.int v] h (some (.int v)) h := by
  refine ⟨⟨Nat.le_refl _, Nat.le_refl _⟩, ?_⟩
  intro p e R s m args below meth c H locs cells slots lsA Q C hS hR hL hz h1 h2 hQ
  exact W.widen (by omega) (by omega) (hQ H locs pc lsA hS hR (Or.inl ⟨v, ty, rfl, hd, ht, hn⟩))
theorem pw_lreturn {v : Int64} (hd : decode M.2.1 pc = .ok (.lreturn, 1)) (ht : M.2.2.2 = some .long) : PW G d M pc ls [.long v] h (some (.long v)) h := by
  refine ⟨⟨Nat.le_refl _, Nat.le_refl _⟩, ?_⟩
  intro p e R s m args below meth c H locs cells slots lsA Q C hS hR hL hz h1 h2 hQ
  exact W.widen (by omega) (by omega) (hQ H locs pc lsA hS hR (Or.inr (Or.inl ⟨v, rfl, hd, ht⟩)))
theorem pw_areturn {a : Nat} {ty : FieldType} (hd : decode M.2.1 pc = .ok (.areturn, 1)) (ht : M.2.2.2 = some ty) (hn : (∃ n, ty = .object n) ∨ ∃ t, ty = .array t) : PW G d M pc ls [.ref a] h (some (.ref a)) h := by
  refine ⟨⟨Nat.le_refl _, Nat.le_refl _⟩, ?_⟩
  intro p e R s m args below meth c H locs cells slots lsA Q C hS hR hL hz h1 h2 hQ
  exact W.widen (by omega) (by omega) (hQ H locs pc lsA hS hR (Or.inr (Or.inr (Or.inl ⟨some a, ty, rfl, hd, ht, hn⟩))))
theorem pw_return (hd : decode M.2.1 pc = .ok (.return_, 1)) (ht : M.2.2.2 = none) : PW G d M pc ls [] h none h := by
  refine ⟨⟨Nat.le_refl _, Nat.le_refl _⟩, ?_⟩
  intro p e R s m args below meth c H locs cells slots lsA Q C hS hR hL hz h1 h2 hQ
  exact W.widen (by omega) (by omega) (hQ H locs pc lsA hS hR (Or.inr (Or.inr (Or.inr ⟨rfl, hd, ht⟩))))
end PWR
