/-! ===== typed cells made anew, references stored, arrays copied ===== -/
section GN
variable {S : sS} {V : sV} {P : sP} {A : sV} {B : sB} {Q : sP} {a n : Nat}
theorem gh_newi : pm_up (gh S V P A B Q) a (.inl (0, n, .inl (fun _ => 0))) = gh (pm_up S a (20, n)) V P (pm_up A a (fun _ => 0)) B Q := by
  funext b
  by_cases h : b = a
  · subst h
    rw [pm_up_eq, gh_int (n := n) pm_up_eq, pm_up_eq]
  · rw [pm_up_ne h]
    unfold gh
    simp only [pm_up_ne h]
theorem gh_newb : pm_up (gh S V P A B Q) a (.inl (1, n, .inl (fun _ => 0))) = gh (pm_up S a (21, n)) V P (pm_up A a (fun _ => 0)) B Q := by
  funext b
  by_cases h : b = a
  · subst h
    rw [pm_up_eq, gh_byte (n := n) pm_up_eq, pm_up_eq]
  · rw [pm_up_ne h]
    unfold gh
    simp only [pm_up_ne h]
theorem gh_newz : pm_up (gh S V P A B Q) a (.inl (3, n, .inl (fun _ => 0))) = gh (pm_up S a (23, n)) V P (pm_up A a (fun _ => 0)) B Q := by
  funext b
  by_cases h : b = a
  · subst h
    rw [pm_up_eq, gh_bool (n := n) pm_up_eq, pm_up_eq]
  · rw [pm_up_ne h]
    unfold gh
    simp only [pm_up_ne h]
theorem gh_newl : pm_up (gh S V P A B Q) a (.inl (2, n, .inr (.inl (fun _ => 0)))) = gh (pm_up S a (22, n)) V P A (pm_up B a (fun _ => 0)) Q := by
  funext b
  by_cases h : b = a
  · subst h
    rw [pm_up_eq, gh_long (n := n) pm_up_eq, pm_up_eq]
  · rw [pm_up_ne h]
    unfold gh
    simp only [pm_up_ne h]
theorem gh_newq {q : Nat} (hq : 4 ≤ q ∧ q < 9) : pm_up (gh S V P A B Q) a (.inl (q, n, .inr (.inr (.inr (.inr (fun _ => none)))))) = gh (pm_up S a (q + 20, n)) V P A B (pm_up Q a (fun _ => none)) := by
  funext b
  by_cases h : b = a
  · subst h
    rw [pm_up_eq, gh_ref (n := n) pm_up_eq hq, pm_up_eq]
  · rw [pm_up_ne h]
    unfold gh
    simp only [pm_up_ne h]
theorem gh_newo {ci : Nat} {fs : List Value} (hc : ci < 13) (hf : th_o ci (fun _ => 0) (fun _ => none) = fs) : pm_up (gh S V P A B Q) a (.inr (ci, fs)) = gh (pm_up S a (ci, 0)) (pm_up V a (fun _ => 0)) (pm_up P a (fun _ => none)) A B Q := by
  funext b
  by_cases h : b = a
  · subst h
    rw [pm_up_eq, gh_obj (n := 0) pm_up_eq hc, pm_up_eq, pm_up_eq, hf]
  · rw [pm_up_ne h]
    unfold gh
    simp only [pm_up_ne h]
end GN
section PWN
variable {G : gT} {d : Nat} {M : mT} {pc : Nat} {ls : List (Option Value)} {st : List Value} {t sl : Nat} {f : Nat → Pe} {S : sS} {V : sV} {P : sP} {A : sV} {B : sB} {Q : sP} {h' : Ph} {r : Option Value}
theorem ix_nn {i : Int32} {n : Nat} (h : i.toInt = (n : Int)) : ¬ i < 0 := fun q => by
  rw [Int32.lt_iff_toInt_lt] at q
  have q : i.toInt < 0 := q
  omega
theorem pw_nai {n : Nat} {i : Int32} (hd : decode M.2.1 pc = .ok (.newarray .int, 2)) (hj : i.toInt = (n : Int)) (hn : n ≤ 100000) (kk : PW G d M (pc + 2) ls (.ref t :: st) (t + 1, sl + n, gh (pm_up S t (20, n)) V P (pm_up A t (fun _ => 0)) B Q) r h') : PW G d M pc ls (.int i :: st) (t, sl, gh S V P A B Q) r h' := by
  refine pw_newarray (q := 0) (n := n) (x := (n, .inl (fun _ => 0))) ⟨.int, rfl, (gt_1 (List.mem_of_getElem? (i := 73) rfl) rfl), fun _ => ⟨rfl, rfl⟩, rfl, fun _ => rfl, fun _ _ => Iff.rfl, by show n * 4 ≤ 536870912; omega⟩ hd (ix_nn hj) (ix_nat hj) ?_
  rw [gh_newi]
  exact kk
theorem pw_nab {n : Nat} {i : Int32} (hd : decode M.2.1 pc = .ok (.newarray .byte, 2)) (hj : i.toInt = (n : Int)) (hn : n ≤ 100000) (kk : PW G d M (pc + 2) ls (.ref t :: st) (t + 1, sl + n, gh (pm_up S t (21, n)) V P (pm_up A t (fun _ => 0)) B Q) r h') : PW G d M pc ls (.int i :: st) (t, sl, gh S V P A B Q) r h' := by
  refine pw_newarray (q := 1) (n := n) (x := (n, .inl (fun _ => 0))) ⟨.byte, rfl, (gt_1 (List.mem_of_getElem? (i := 72) rfl) rfl), fun _ => ⟨rfl, rfl⟩, rfl, fun _ => rfl, fun _ _ => Iff.rfl, by show n * 1 ≤ 536870912; omega⟩ hd (ix_nn hj) (ix_nat hj) ?_
  rw [gh_newb]
  exact kk
theorem pw_naz {n : Nat} {i : Int32} (hd : decode M.2.1 pc = .ok (.newarray .boolean, 2)) (hj : i.toInt = (n : Int)) (hn : n ≤ 100000) (kk : PW G d M (pc + 2) ls (.ref t :: st) (t + 1, sl + n, gh (pm_up S t (23, n)) V P (pm_up A t (fun _ => 0)) B Q) r h') : PW G d M pc ls (.int i :: st) (t, sl, gh S V P A B Q) r h' := by
  refine pw_newarray (q := 3) (n := n) (x := (n, .inl (fun _ => 0))) ⟨.boolean, rfl, (gt_6 (List.mem_of_getElem? (i := 159) rfl) rfl), fun _ => ⟨rfl, rfl⟩, rfl, fun _ => rfl, fun _ _ => Iff.rfl, by show n * 1 ≤ 536870912; omega⟩ hd (ix_nn hj) (ix_nat hj) ?_
  rw [gh_newz]
  exact kk
theorem pw_nal {n : Nat} {i : Int32} (hd : decode M.2.1 pc = .ok (.newarray .long, 2)) (hj : i.toInt = (n : Int)) (hn : n ≤ 100000) (kk : PW G d M (pc + 2) ls (.ref t :: st) (t + 1, sl + n, gh (pm_up S t (22, n)) V P A (pm_up B t (fun _ => 0)) Q) r h') : PW G d M pc ls (.int i :: st) (t, sl, gh S V P A B Q) r h' := by
  refine pw_newarray (q := 2) (n := n) (x := (n, .inr (.inl (fun _ => 0)))) ⟨.long, rfl, (gt_1 (List.mem_of_getElem? (i := 147) rfl) rfl), fun _ => ⟨rfl, rfl⟩, rfl, fun _ => rfl, fun _ _ => Iff.rfl, by show n * 8 ≤ 536870912; omega⟩ hd (ix_nn hj) (ix_nat hj) ?_
  rw [gh_newl]
  exact kk
theorem pw_nao {ci idx : Nat} {fs : List Value} (hn : pm_NW M.1.cls idx ci fs) (hc : ci < 13) (hf : th_o ci (fun _ => 0) (fun _ => none) = fs) (hd : decode M.2.1 pc = .ok (.new idx, 3)) (kk : PW G d M (pc + 3) ls (.ref t :: st) (t + 1, sl + fs.length, gh (pm_up S t (ci, 0)) (pm_up V t (fun _ => 0)) (pm_up P t (fun _ => none)) A B Q) r h') : PW G d M pc ls st (t, sl, gh S V P A B Q) r h' := by
  refine pw_new hn hd ?_
  rw [gh_newo hc hf]
  exact kk
/-- an array of objects of a class -/
theorem pw_anewO {q n idx : Nat} {i : Int32} {C0 : String} (hw : Cond.classLink M.1.cls idx C0 ∈ GT) (hO : ∀ (G : gT) (s : State) (H : Heap), pm_F G s H → va_AO C0 s) (ht : ∀ G : gT, (pm_tys G)[q]? = some (G.2.2.1 q, .object C0)) (hd : decode M.2.1 pc = .ok (.anewarray idx, 3)) (hi : ¬ i < 0) (hin : i.toNatClampNeg = n) (hn : n ≤ 100000) (k : PW G d M (pc + 3) ls (.ref t :: st) (t + 1, sl + n, pm_up f t (.inl (q, n, .inr (.inr (.inr (.inr (fun _ => none))))))) r h') : PW G d M pc ls (.int i :: st) (t, sl, f) r h' := by
  have k1 : t + 1 ≤ h'.1 ∧ sl + n ≤ h'.2.1 := k.1
  refine ⟨⟨by show t ≤ h'.1; omega, by show sl ≤ h'.2.1; omega⟩, ?_⟩
  intro p e R s m args below meth c H locs cells slots lsA Q C hS hR hL hz h1 h2 hQ
  refine pm_size C.2.2.2.2.2.1 hS hR hz fun hsz => ?_
  have h1' : cells + (h'.1 - t) ≤ R.cells := h1
  have h2' : slots + (h'.2.1 - sl) ≤ R.slots := h2
  have hz' : s.heap.size + cells ≤ G.2.2.2.2.1 + (t - 8) := hz
  have h4 : 8 ≤ t := hR.1
  have had : H.size = pm_ad G t := by rw [pm_ad_of G h4]; exact hsz
  subst hin
  refine W.anew C.1 C.2.1 C.2.2.2.1 (C.2.2.2.2.1 _ hw) (va_AO.use (hO G s _ C.2.2.2.2.2.1)) rfl hd rfl hi (by omega) (by omega) (by omega) fun cA kA comp f1 f2 f3 f4 => ?_
  have hcA : cA = G.2.2.1 q := by
    obtain ⟨kA', comp', h5, h6, h7, h8⟩ := (C.2.2.2.2.2.1.1.2 q _ (ht G)).2
    exact Option.some.inj (f1.symm.trans h8)
  generalize hH1 : H.push ({ cls := cA, slots := Array.replicate i.toNatClampNeg .null, vm := .none } : Cell) = H1
  have z1 : H1.size = H.size + 1 := by rw [← hH1, Array.size_push]
  have e1 : H1[H.size]? = some (arrV cA i.toNatClampNeg (fun _ => .null)) := by rw [← hH1, Array.getElem?_push_size, ← arrV_new]
  have o1 : ∀ q : Nat, q < H.size → H1[q]? = H[q]? := fun q hq => by rw [← hH1, Array.getElem?_push, if_neg (Nat.ne_of_lt hq)]
  have hat : va_at G.2.1 vwCl (H.size, pm_e G (.inl (q, i.toNatClampNeg, .inr (.inr (.inr (.inr (fun _ => none))))))) H1 := by
    show H1[H.size]? = some (vp_cell (G.2.2.1 q) (i.toNatClampNeg, .inr (.inr (.inr (.inr (fun _ => none))))))
    rw [vp_cell_q, ← hcA]
    exact e1
  have hR1 := hR.push (sl' := sl + i.toNatClampNeg) hsz o1 hat
  have kk := k.2 p e R s m args below meth c H1 locs (cells + 1) (slots + i.toNatClampNeg) lsA Q C ⟨by rw [z1]; exact Nat.le_succ_of_le hS.1, fun q a1 a2 => (o1 q (Nat.lt_of_lt_of_le a1 hS.1)).trans (hS.2.1 q a1 a2), hS.2.2⟩ hR1 hL (by show s.heap.size + (cells + 1) ≤ G.2.2.2.2.1 + (t + 1 - 8); omega) (by show cells + 1 + (h'.1 - (t + 1)) ≤ R.cells; omega) (by show slots + i.toNatClampNeg + (h'.2.1 - (sl + i.toNatClampNeg)) ≤ R.slots; omega) hQ
  rw [had]
  exact kk
theorem pw_naO {q n idx : Nat} {i : Int32} {C0 : String} (hq : 4 ≤ q ∧ q < 9) (hw : Cond.classLink M.1.cls idx C0 ∈ GT) (hO : ∀ (G : gT) (s : State) (H : Heap), pm_F G s H → va_AO C0 s) (ht : ∀ G : gT, (pm_tys G)[q]? = some (G.2.2.1 q, .object C0)) (hd : decode M.2.1 pc = .ok (.anewarray idx, 3)) (hj : i.toInt = (n : Int)) (hn : n ≤ 100000) (kk : PW G d M (pc + 3) ls (.ref t :: st) (t + 1, sl + n, gh (pm_up S t (q + 20, n)) V P A B (pm_up Q t (fun _ => none))) r h') : PW G d M pc ls (.int i :: st) (t, sl, gh S V P A B Q) r h' := by
  refine pw_anewO (q := q) hw hO ht hd (ix_nn hj) (ix_nat hj) hn ?_
  rw [gh_newq hq]
  exact kk
/-- a reference to an object into an array -/
theorem pw_qst {a n q b ci m j : Nat} {i : Int32} {C0 : String} {T0 : u_T} {N0 : Nat} (hd : decode M.2.1 pc = .ok (.aastore, 1)) (hs : S a = (q + 20, n)) (hq : 4 ≤ q ∧ q < 9) (hb : S b = (ci, m)) (h0 : vwCl[ci]? = some (C0, T0, N0)) (ht : ∀ G : gT, (pm_tys G)[q]? = some (G.2.2.1 q, .object C0)) (hj : i.toInt = (j : Int)) (hl : j < n) (kk : PW G d M (pc + 1) ls st (t, sl, gh S V P A B (up2 Q a j (some b))) r h') : PW G d M pc ls (.ref b :: .int i :: .ref a :: st) (t, sl, gh S V P A B Q) r h' := by
  refine pw_aastore hd (gh_ref hs hq) (gh_obj hb (pm_ci h0)) h0 ht (ix_in hj hl) ?_
  have e : (.inl (q, n, .inr (.inr (.inr (.inr (pm_up (Q a) i.toNatClampNeg (some b)))))) : Pe) = gh S V P A B (up2 Q a j (some b)) a := by
    rw [gh_ref hs hq, ix_nat hj, up2_at]
  rw [e, gh_congr (fun _ _ => rfl) (fun _ _ => rfl) (fun _ _ => rfl) (fun _ _ => rfl) (fun b hb => up2_na hb)]
  exact kk
/-- an array of longs into an array of such -/
theorem pw_aastJ {a b n n2 : Nat} {g : Nat → Option Nat} {x : Nat → Int64} {i : Int32} (hd : decode M.2.1 pc = .ok (.aastore, 1)) (hc : f a = .inl (8, n, .inr (.inr (.inr (.inr g))))) (hb : f b = .inl (2, n2, .inr (.inl x))) (hi : vp_in i n) (k : PW G d M (pc + 1) ls st (t, sl, pm_up f a (.inl (8, n, .inr (.inr (.inr (.inr (pm_up g i.toNatClampNeg (some b)))))))) r h') : PW G d M pc ls (.ref b :: .int i :: .ref a :: st) (t, sl, f) r h' := by
  refine ⟨k.1, ?_⟩
  intro p e R s m args below meth c H locs cells slots lsA Q C hS hR hL hz h1 h2 hQ
  have hlt : i.toNatClampNeg < n := Nat.not_le.mp fun q => hi (Or.inr q)
  have h0 : ¬ i < 0 := fun q => hi (Or.inl q)
  have hP := hR.2.1
  have hD := pm_D G (t, sl, f)
  have ha := hR.got hc pm_inl_J
  have hv := hR.got hb pm_inl_J
  obtain ⟨hK, -, ⟨-, -, -, -, hO⟩, -⟩ := C.2.2.2.2.2.1
  obtain ⟨comp, cO, kO, o1, -, o3, o4, o5⟩ := arrayOverA_spec hO
  have r8 : s.vm.findClass ("[" ++ (FieldType.array .long).toString) = some (G.2.2.1 8) := (hK.2 8 _ rfl).2
  have r2 : s.vm.findClass (FieldType.array .long).toString = some (G.2.2.1 2) := (hK.2 2 _ rfl).2
  have e8 : cO = G.2.2.1 8 := Option.some.inj (o5.symm.trans r8)
  have e2 : comp = G.2.2.1 2 := Option.some.inj (o1.symm.trans r2)
  rw [e8] at o3
  rw [e2] at o4 o1
  obtain ⟨k2, hk2, -⟩ := Vm.findClass_spec o1
  refine W.aast C.1 C.2.1 (hP (a - 8) _ ha) (fun q h => by cases h) (fun h => by cases h) o3 o4 rfl hk2 ⟨h0, by show _ < (arrV _ _ _).slots.size; rw [arrV_size]; exact hlt⟩ (hP (b - 8) _ hv) (fun q h => by cases h) hk2 (va_asg _ _) rfl rfl hd fun H1 e9 z oq => ?_
  refine k.2 p e R s m args below meth c H1 _ cells slots lsA Q C (hS.put z oq (hD.2 (a - 8) _ ha)) (hR.put hc pm_inl_J ?_) hL hz h1 h2 hQ
  show va_P G.2.1 vwCl ((pm_W G (t, sl, f)).set (a - 8) (pm_ad G a, .inl (G.2.2.1 8, n, .inr (.inr (.inr (.inr (fun j => ((pm_up g i.toNatClampNeg (some b)) j).map (pm_ad G)))))))) H1
  rw [pm_up_map]
  refine hP.set hD ha ?_ oq
  show H1[pm_ad G a]? = some (vp_cell _ _)
  rw [e9]
  show some ((vp_cell (G.2.2.1 8) (n, .inr (.inr (.inr (.inr (fun j => (g j).map (pm_ad G))))))).setSlot i.toNatClampNeg (.ref (pm_ad G b))) = _
  rw [vp_cell_q, vp_cell_q, arrV_store]
  congr 2
  funext q
  by_cases hq : q = i.toNatClampNeg
  · subst hq
    simp [updV, va_up, va_rf]
  · simp [updV, va_up, hq]
theorem pw_jst {a n n2 b j : Nat} {i : Int32} (hd : decode M.2.1 pc = .ok (.aastore, 1)) (hs : S a = (28, n)) (hb : S b = (22, n2)) (hj : i.toInt = (j : Int)) (hl : j < n) (kk : PW G d M (pc + 1) ls st (t, sl, gh S V P A B (up2 Q a j (some b))) r h') : PW G d M pc ls (.ref b :: .int i :: .ref a :: st) (t, sl, gh S V P A B Q) r h' := by
  refine pw_aastJ hd (gh_ref (q := 8) hs (by decide)) (gh_long hb) (ix_in hj hl) ?_
  have e : (.inl (8, n, .inr (.inr (.inr (.inr (pm_up (Q a) i.toNatClampNeg (some b)))))) : Pe) = gh S V P A B (up2 Q a j (some b)) a := by
    rw [gh_ref (q := 8) hs (by decide), ix_nat hj, up2_at]
  rw [e, gh_congr (fun _ _ => rfl) (fun _ _ => rfl) (fun _ _ => rfl) (fun _ _ => rfl) (fun b hb => up2_na hb)]
  exact kk
/-- System.arraycopy of ints -/
def cpyF {α : Type} (f g : Nat → α) (sp dp n : Nat) : Nat → α := fun k => if dp ≤ k ∧ k < dp + n then f (sp + (k - dp)) else g k
def pm_AC (own : String) (idx : Nat) : Prop := Cond.methodLink own idx arraycopyName ∈ GT
theorem gt_ac1 : Cond.native arraycopyName ∈ GT := (gt_3 (List.mem_of_getElem? (i := 219) rfl) rfl)
theorem gt_ac2 : Cond.static arraycopyName ∈ GT := (gt_3 (List.mem_of_getElem? (i := 218) rfl) rfl)
theorem gt_ac3 : Cond.initialized "java/lang/System" ∈ GT := (gt_1 (List.mem_of_getElem? (i := 20) rfl) rfl)
theorem acX8_31 : pm_AC RX8 31 := (gt_3 (List.mem_of_getElem? (i := 217) rfl) rfl)
theorem acX5_71 : pm_AC RX5 71 := (gt_5 (List.mem_of_getElem? (i := 116) rfl) rfl)
theorem pw_acpy {a b n0 n1 sp dp n idx : Nat} {i j m0 : Int32} (hw : pm_AC M.1.cls idx) (hd : decode M.2.1 pc = .ok (.invokestatic idx, 3)) (hs0 : S a = (20, n0)) (hs1 : S b = (20, n1)) (hi : i.toInt = (sp : Int)) (hj : j.toInt = (dp : Int)) (hm : m0.toInt = (n : Int)) (h4 : sp + n ≤ n0) (h5 : dp + n ≤ n1) (hdp : 1 ≤ d) (hrest : (st.map fun v => v.category).sum ≤ 8) (kk : PW G d M (pc + 3) ls st (t, sl, gh S V P (pm_up A b (cpyF (A a) (A b) sp dp n)) B Q) r h') : PW G d M pc ls (.int m0 :: .int j :: .ref b :: .int i :: .ref a :: st) (t, sl, gh S V P A B Q) r h' := by
  refine ⟨kk.1, ?_⟩
  intro p e R s m args below meth c H locs cells slots lsA Q1 C hS hR hL hz h1 h2 hQ
  have hfr : d ≤ R.frames := C.2.2.2.2.2.2.1
  have hlo : 64 * d ≤ R.locals := C.2.2.2.2.2.2.2.1
  have hsum : ((st.map (pm_v G)).map fun v => v.category).sum ≤ 8 := by rw [pm_v_sum]; exact hrest
  have hc0 : gh S V P A B Q a = .inl (0, n0, .inl (A a)) := gh_int hs0
  have hc1 : gh S V P A B Q b = .inl (0, n1, .inl (A b)) := gh_int hs1
  have hnf : nativeFrameWords "java/lang/System" "arraycopy" 5 + 11 ≤ 56 := by decide +kernel
  refine va_copyi C.1 C.2.1 (by rw [C.2.2.1]; exact hL.1.symm) C.2.2.2.1 (C.2.2.2.2.1 _ hw) (C.2.2.2.2.1 _ gt_ac1) (C.2.2.2.2.1 _ gt_ac2) (C.2.2.2.2.1 _ gt_ac3) C.2.2.2.2.2.1.1 hR.2.1 (pm_D G _) hS (a - 8) (b - 8) 0 0 (ty := .int) (hR.got hc0 pm_inl_J) (hR.got hc1 pm_inl_J) rfl rfl rfl (ix_nn hi) (ix_nn hj) (ix_nn hm) (by rw [ix_nat hi, ix_nat hm]; exact h4) (by rw [ix_nat hj, ix_nat hm]; exact h5) (fun _ _ => rfl) (by omega) (by omega) hd (fun H1 locs1 hP1 _ hS1 => kk.2 p e R s m args below meth c H1 locs1 cells slots lsA Q1 C hS1 ?_ hL hz h1 h2 hQ)
  have e : (.inl (0, n1, .inl (cpyF (A a) (A b) sp dp n)) : Pe) = gh S V P (pm_up A b (cpyF (A a) (A b) sp dp n)) B Q b := by
    rw [gh_int hs1, pm_up_eq]
  rw [← gh_congr (a := b) (V' := V) (P' := P) (A' := pm_up A b (cpyF (A a) (A b) sp dp n)) (B' := B) (Q' := Q) (fun _ _ => rfl) (fun _ _ => rfl) (fun q hq => pm_up_ne hq) (fun _ _ => rfl) (fun _ _ => rfl), ← e]
  refine hR.put hc1 pm_inl_J ?_
  rw [ix_nat hi, ix_nat hj, ix_nat hm] at hP1
  exact hP1
/-- a private number of a nest mate -/
theorem gX2_77n : Cond.fieldLinkNest RX2 77 (TX10 3).1 (TX10 3).2.1 (TX10 3).2.2.1 "RubatoDesk" ∈ pm_nest := List.mem_filter.mpr ⟨List.mem_append.mpr (Or.inr (by decide +kernel)), rfl⟩
theorem pw_gWe {a n : Nat} (hM : M.1.cls = RX2) (hd : decode M.2.1 pc = .ok (.getfield 77, 3)) (hs : S a = (10, n)) (kk : PW G d M (pc + 3) ls (.int (V a 3) :: st) (t, sl, gh S V P A B Q) r h') : PW G d M pc ls (.ref a :: st) (t, sl, gh S V P A B Q) r h' :=
  pw_getfieldN (i := 3) (ci := 10) (idx := 77) rfl (by decide) uw10 (by rw [hM]; exact gX2_77n) hd (gh_obj hs (by decide)) ((th_o_get (by decide +kernel)).trans (by rw [show th_isR 10 3 = false by decide +kernel]; rfl)) kk
end PWN
