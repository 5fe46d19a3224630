/-! ===== more of making ===== -/
section NEW2
variable {G : gT} {d : Nat} {M : mT} {pc : Nat} {ls : List (Option Value)} {st : List Value} {h' : Ph} {r : Option Value} {t sl : Nat} {S : sS} {V : sV} {P : sP} {A : sV} {B : sB} {Q : sP}
theorem gh_newg {q a n : Nat} (hq : 4 ≤ q ∧ q < 9) (g : Nat → Option Nat) : pm_up (gh S V P A B Q) a (.inl (q, n, .inr (.inr (.inr (.inr g))))) = gh (pm_up S a (q + 20, n)) V P A B (pm_up Q a g) := by
  funext b
  by_cases h : b = a
  · subst h
    rw [pm_up_eq, gh_ref (n := n) pm_up_eq hq, pm_up_eq]
  · rw [pm_up_ne h]
    unfold gh
    simp only [pm_up_ne h]
def mzS (S : sS) (t N K : Nat) : Nat → sS
  | 0 => pm_up S t (27, N)
  | i + 1 => pm_up (mzS S t N K i) (t + 1 + i) (20, K)
def mzA (A : sV) (t : Nat) : Nat → sV
  | 0 => A
  | i + 1 => pm_up (mzA A t i) (t + 1 + i) (fun _ => 0)
theorem mz_gh {N K : Nat} : ∀ i, mzF (gh S V P A B Q) t N K i = gh (mzS S t N K i) V P (mzA A t i) B (pm_up Q t (fun j => if j < N then some (t + 1 + j) else none)) := by
  intro i
  induction i with
  | zero => exact gh_newg (by decide) _
  | succ i ih =>
    show pm_up (mzF (gh S V P A B Q) t N K i) (t + 1 + i) _ = _
    rw [ih, gh_newi]
    rfl
theorem pw_mul {N K idx : Nat} {i j : Int32} (hw : Cond.classLink M.1.cls idx ("[" ++ (FieldType.array .int).toString) ∈ GT) (ha : Cond.arrayClass .int ∈ GT) (hd : decode M.2.1 pc = .ok (.multianewarray idx 2, 4)) (hi : i.toInt = (N : Int)) (hj : j.toInt = (K : Int)) (hN : N ≤ 1000) (hK : K ≤ 1000) (k : PW G d M (pc + 4) ls (.ref t :: st) (t + 1 + N, sl + N + N * K, gh (mzS S t N K N) V P (mzA A t N) B (pm_up Q t (fun j => if j < N then some (t + 1 + j) else none))) r h') : PW G d M pc ls (.int j :: .int i :: st) (t, sl, gh S V P A B Q) r h' := by
  refine pw_multi hw ha hd hi hj hN hK ?_
  rw [mz_gh]
  exact k
theorem pw_naJ {n idx : Nat} {i : Int32} (hw : Cond.classLink M.1.cls idx (FieldType.array .long).toString ∈ GT) (hd : decode M.2.1 pc = .ok (.anewarray idx, 3)) (hj : i.toInt = (n : Int)) (hn : n ≤ 100000) (kk : PW G d M (pc + 3) ls (.ref t :: st) (t + 1, sl + n, gh (pm_up S t (28, n)) V P A B (pm_up Q t (fun _ => none))) r h') : PW G d M pc ls (.int i :: st) (t, sl, gh S V P A B Q) r h' := by
  have k1 : t + 1 ≤ h'.1 ∧ sl + n ≤ h'.2.1 := kk.1
  refine ⟨⟨by show t ≤ h'.1; omega, by show sl ≤ h'.2.1; omega⟩, ?_⟩
  intro p e R s m args below meth c H locs cells slots lsA Q2 C hS hR hL hz h1 h2 hQ
  refine pm_size C.2.2.2.2.2.1 hS hR hz fun hsz => ?_
  have h1' : cells + (h'.1 - t) ≤ R.cells := h1
  have h2' : slots + (h'.2.1 - sl) ≤ R.slots := h2
  have hz' : s.heap.size + cells ≤ G.2.2.2.2.1 + (t - 8) := hz
  have h4 : 8 ≤ t := hR.1
  have had : H.size = pm_ad G t := by rw [pm_ad_of G h4]; exact hsz
  have hin := ix_nat hj
  obtain ⟨hKK, -, ⟨-, -, -, -, hO⟩, -⟩ := id C.2.2.2.2.2.1
  refine W.anewA C.1 C.2.1 C.2.2.2.1 (C.2.2.2.2.1 _ hw) hO rfl hd rfl (ix_nn hj) (by omega) (by omega) (by omega) fun cA kA comp f1 f2 f3 f4 => ?_
  have hcA : cA = G.2.2.1 8 := Option.some.inj (f1.symm.trans (hKK.2 8 _ rfl).2)
  generalize hH1 : H.push ({ cls := cA, slots := Array.replicate i.toNatClampNeg .null, vm := .none } : Cell) = H1
  have z1 : H1.size = H.size + 1 := by rw [← hH1, Array.size_push]
  have e1 : H1[H.size]? = some (arrV cA i.toNatClampNeg (fun _ => .null)) := by rw [← hH1, Array.getElem?_push_size, ← arrV_new]
  have o1 : ∀ q : Nat, q < H.size → H1[q]? = H[q]? := fun q hq => by rw [← hH1, Array.getElem?_push, if_neg (Nat.ne_of_lt hq)]
  have hat : va_at G.2.1 vwCl (H.size, pm_e G (.inl (8, n, .inr (.inr (.inr (.inr (fun _ => none))))))) H1 := by
    show H1[H.size]? = some (vp_cell (G.2.2.1 8) (n, .inr (.inr (.inr (.inr (fun _ => none))))))
    rw [vp_cell_q, ← hcA, ← hin]
    exact e1
  have hR1 := hR.push (sl' := sl + n) hsz o1 hat
  rw [gh_newq (by decide)] at hR1
  have k2 := kk.2 p e R s m args below meth c H1 locs (cells + 1) (slots + n) lsA Q2 C ⟨by rw [z1]; exact Nat.le_succ_of_le hS.1, fun q a1 a2 => (o1 q (Nat.lt_of_lt_of_le a1 hS.1)).trans (hS.2.1 q a1 a2), hS.2.2⟩ hR1 hL (by show s.heap.size + (cells + 1) ≤ G.2.2.2.2.1 + (t + 1 - 8); omega) (by show cells + 1 + (h'.1 - (t + 1)) ≤ R.cells; omega) (by show slots + n + (h'.2.1 - (sl + n)) ≤ R.slots; omega) hQ
  rw [had, hin]
  exact k2
end NEW2
