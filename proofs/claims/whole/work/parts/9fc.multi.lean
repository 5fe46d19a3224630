/-- the pure heap behind a row of rows of ints -/
def mzF (f : Nat → Pe) (t N M : Nat) : Nat → Nat → Pe
  | 0 => pm_up f t (.inl (7, N, .inr (.inr (.inr (.inr (fun j => if j < N then some (t + 1 + j) else none))))))
  | i + 1 => pm_up (mzF f t N M i) (t + 1 + i) (.inl (0, M, .inl (fun _ => 0)))
theorem mz_take {H : Heap} {n q : Nat} (h : q < n) : (H.extract 0 n)[q]? = H[q]? := by
  rw [Array.getElem?_extract]
  by_cases g : q < H.size
  · rw [if_pos (by omega), Nat.zero_add]
  · rw [if_neg (by omega), Array.getElem?_eq_none (by omega)]
section MZP
variable {G : gT} {d : Nat} {M : mT} {pc : Nat} {ls : List (Option Value)} {st : List Value} {h' : Ph} {r : Option Value} {t sl : Nat} {f : Nat → Pe}
theorem mz_R {sl2 : Nat} {N K : Nat} {H H' : Heap} (hR : pm_R G (t, sl, f) H) (hs : H.size = G.2.2.2.2.1 + (t - 8)) (z : H'.size = H.size + 1 + N) (o : ∀ q, q < H.size → H'[q]? = H[q]?) (w : H'[H.size]? = some (mzO (G.2.2.1 7) N H.size N)) (v : ∀ j, j < N → H'[H.size + 1 + j]? = some (mzI (G.2.2.1 0) K)) : ∀ i, i ≤ N → pm_R G (t + 1 + i, sl2, mzF f t N K i) (H'.extract 0 (H.size + 1 + i)) := by
  have h8 : 8 ≤ t := hR.1
  intro i
  induction i with
  | zero =>
    intro _
    refine hR.push hs (fun q hq => by rw [mz_take (by omega)]; exact o q hq) ?_
    show (H'.extract 0 (H.size + 1 + 0))[H.size]? = some (vp_cell (G.2.2.1 7) (N, .inr (.inr (.inr (.inr (fun j => ((if j < N then some (t + 1 + j) else none : Option Nat)).map (pm_ad G)))))))
    rw [mz_take (by omega), w, vp_cell_q]
    unfold mzO
    congr 2
    funext j
    by_cases g : j < N
    · rw [if_pos g, if_pos g]
      show Value.ref (H.size + 1 + j) = Value.ref (pm_ad G (t + 1 + j))
      have e1 : pm_ad G (t + 1 + j) = G.2.2.2.2.1 + (t + 1 + j - 8) := pm_ad_of G (by omega)
      have e2 : H.size + 1 + j = G.2.2.2.2.1 + (t + 1 + j - 8) := by rw [hs]; generalize G.2.2.2.2.1 = b; omega
      rw [e1, e2]
    · rw [if_neg g, if_neg g]
      rfl
  | succ i ih =>
    intro hi
    have hz : (H'.extract 0 (H.size + 1 + i)).size = H.size + 1 + i := by rw [Array.size_extract]; omega
    refine (ih (by omega)).push (by rw [hz, hs]; omega) (fun q hq => by rw [hz] at hq; rw [mz_take (by omega), mz_take hq]) ?_
    show (H'.extract 0 (H.size + 1 + (i + 1)))[(H'.extract 0 (H.size + 1 + i)).size]? = some (vp_cell (G.2.2.1 0) (K, .inl (fun _ => 0)))
    rw [hz, mz_take (by omega), v i (by omega), vp_cell_i]
    rfl
theorem pw_multi {N K idx : Nat} {i j : Int32} (hw : Cond.classLink M.1.cls idx ("[" ++ (FieldType.array .int).toString) ∈ GT) (ha : Cond.arrayClass .int ∈ GT) (hd : decode M.2.1 pc = .ok (.multianewarray idx 2, 4)) (hi : i.toInt = (N : Int)) (hj : j.toInt = (K : Int)) (hN : N ≤ 1000) (hK : K ≤ 1000) (k : PW G d M (pc + 4) ls (.ref t :: st) (t + 1 + N, sl + N + N * K, mzF f t N K N) r h') : PW G d M pc ls (.int j :: .int i :: st) (t, sl, f) r h' := by
  have k1 : t + 1 + N ≤ h'.1 ∧ sl + N + N * K ≤ h'.2.1 := k.1
  refine ⟨⟨by show t ≤ h'.1; omega, by show sl ≤ h'.2.1; omega⟩, ?_⟩
  intro p e R s m args below meth c H locs cells slots lsA Q C hS hR hL hz h1 h2 hQ
  refine pm_size C.2.2.2.2.2.1 hS hR hz fun hsz => ?_
  have h1' : cells + (h'.1 - t) ≤ R.cells := h1
  have h2' : slots + (h'.2.1 - sl) ≤ R.slots := h2
  have hz' : s.heap.size + cells ≤ G.2.2.2.2.1 + (t - 8) := hz
  have h4 : 8 ≤ t := hR.1
  have had : H.size = pm_ad G t := by rw [pm_ad_of G h4]; exact hsz
  obtain ⟨hKK, -, ⟨-, -, -, hO, -⟩, -⟩ := C.2.2.2.2.2.1
  have r7 : s.vm.findClass ("[" ++ (FieldType.array .int).toString) = some (G.2.2.1 7) := (hKK.2 7 _ rfl).2
  have r0 : s.vm.findClass (FieldType.array .int).toString = some (G.2.2.1 0) := (hKK.2 0 _ rfl).2
  have eN := ix_nat hi
  have eK := ix_nat hj
  refine mz_W C.1 C.2.1 C.2.2.2.1 (C.2.2.2.2.1 _ hw) hO (C.2.2.2.2.1 _ ha) rfl hd rfl (ix_nn hi) (ix_nn hj) (by omega) (by omega) (by rw [eN]; omega) (by rw [eN, eK]; omega) fun cA c1 H' q1 q2 q3 q4 q5 q6 => ?_
  rw [eN] at q3 q4 q6
  rw [eK] at q6
  have e7 : cA = G.2.2.1 7 := Option.some.inj (q1.symm.trans r7)
  have e0 : c1 = G.2.2.1 0 := Option.some.inj (q2.symm.trans r0)
  subst e7
  subst e0
  have hR1 := mz_R (sl2 := sl + N + N * K) hR hsz q3 q5 q4 q6 N (Nat.le_refl _)
  rw [show H'.extract 0 (H.size + 1 + N) = H' from by rw [← q3]; exact Array.extract_size] at hR1
  rw [eN, eK]
  have kk := k.2 p e R s m args below meth c H' (locs ++ (List.range N).map fun j => ⟨H.size, j⟩) (cells + 1 + N) (slots + N + N * K) lsA Q C ⟨by rw [q3]; exact Nat.le_trans hS.1 (by omega), fun q a1 a2 => (q5 q (Nat.lt_of_lt_of_le a1 hS.1)).trans (hS.2.1 q a1 a2), fun l hl => ?_⟩ hR1 hL (by show s.heap.size + (cells + 1 + N) ≤ G.2.2.2.2.1 + (t + 1 + N - 8); omega) (by show cells + 1 + N + (h'.1 - (t + 1 + N)) ≤ R.cells; omega) (by show slots + N + N * K + (h'.2.1 - (sl + N + N * K)) ≤ R.slots; omega) hQ
  · rw [had]
    rw [had] at kk
    exact kk
  · rcases List.mem_append.mp hl with hl | hl
    · exact hS.2.2 l hl
    · obtain ⟨j', -, rfl⟩ := List.mem_map.mp hl
      show G.2.2.2.2.1 ≤ H.size
      omega
end MZP
