/-! ===== rules of the pure machine: new cells, calls ===== -/
def pm_NW (own : String) (idx ci : Nat) (fs : List Value) : Prop := ∃ (C : String) (T : u_T) (N : Nat) (ty0 : Nat → FieldType), vwCl[ci]? = some (C, T, N) ∧ (∀ w ∈ u_ws C T N, w ∈ GT) ∧ (∀ k, k < N → parseFieldDescriptor (T k).2.2.1 = some (ty0 k)) ∧ Cond.classLink own idx C ∈ GT ∧ Cond.instantiable C N ∈ GT ∧ Cond.initialized C ∈ GT ∧ fs.length = N ∧ ∀ j, j < N → fs[j]? = some (defaultValue (ty0 j)) ∧ ∀ a, defaultValue (ty0 j) ≠ .ref a
theorem pm_v_nr {G : gT} {v : Value} (h : ∀ a, v ≠ .ref a) : pm_v G v = v := by
  cases v <;> first | rfl | exact absurd rfl (h _)
section PW7
variable {G : gT} {d : Nat} {M : mT} {pc : Nat} {ls : List (Option Value)} {st : List Value} {t sl : Nat} {f : Nat → Pe} {h h' : Ph} {r : Option Value}
/-- the real heap's size, by what the frame stands on -/
theorem pm_size {p : Program} {e : Env} {R : Room} {s : State} {m : MethodId} {args : Array Value} {below : List Frame} {meth : Method} {c : Code} {H : Heap} {locs : List Loc} {cells slots : Nat} {Q : State → Prop} {g : JFrame} (hF : pm_F G s s.heap) (hS : va_S (pm_A G) s.heap H locs) (hR : pm_R G h H) (hz : s.heap.size + cells ≤ G.2.2.2.2.1 + (h.1 - 8))
    (kk : H.size = G.2.2.2.2.1 + (h.1 - 8) → W p G.1 e R s m args below meth c H locs cells slots Q g) : W p G.1 e R s m args below meth c H locs cells slots Q g := by
  intro T hT X
  obtain ⟨-, -, -, -, -, -, -, hb, hs⟩ := hF
  have h1 : H.size ≤ s.heap.size + cells := by rw [← hT]; exact X.heapSize
  have h2 := hR.ge (Nat.le_trans hs hS.1)
  exact kk (by omega) T hT X
theorem pw_new {ci idx : Nat} {fs : List Value} (hn : pm_NW M.1.cls idx ci fs) (hd : decode M.2.1 pc = .ok (.new idx, 3)) (k : PW G d M (pc + 3) ls (.ref t :: st) (t + 1, sl + fs.length, pm_up f t (.inr (ci, fs))) r h') : PW G d M pc ls st (t, sl, f) r h' := by
  have k1 : t + 1 ≤ h'.1 ∧ sl + fs.length ≤ h'.2.1 := k.1
  refine ⟨⟨by show t ≤ h'.1; omega, by show sl ≤ h'.2.1; omega⟩, ?_⟩
  intro p e R s m args below meth c H locs cells slots lsA Q C hS hR hL hz h1 h2 hQ
  obtain ⟨Cn, T, N, ty0, g1, g2, g3, g4, g5, g6, g7, g8⟩ := hn
  subst g7
  refine pm_size C.2.2.2.2.2.1 hS hR hz fun hsz => ?_
  have h1' : cells + (h'.1 - t) ≤ R.cells := h1
  have h2' : slots + (h'.2.1 - sl) ≤ R.slots := h2
  have hz' : s.heap.size + cells ≤ G.2.2.2.2.1 + (t - 8) := hz
  have h4 : 8 ≤ t := hR.1
  have hKn := C.2.2.2.2.2.1.1.1 ci _ g1
  refine W.newcK C.1 C.2.1 C.2.2.2.1 (C.2.2.2.2.1 _ g4) (C.2.2.2.2.1 _ g5) (C.2.2.2.2.1 _ g6) rfl hd (by omega) (by omega) hKn.2.1 rfl fun H1 kC hkC e1 z1 o1 => ?_
  have hat : va_at G.2.1 vwCl (H.size, pm_e G (.inr (ci, fs))) H1 := by
    refine ⟨_, g1, (u_born ty0 C.2.2.2.2.1 g2 hKn hkC e1 g3).to ?_⟩
    intro j hj
    obtain ⟨g9, g10⟩ := g8 j hj
    show defaultValue (ty0 j) = (fs.map (pm_v G)).getD j .null
    rw [List.getD_eq_getElem?_getD, List.getElem?_map, g9]
    exact (pm_v_nr g10).symm
  have hR1 : pm_R G (t + 1, sl + fs.length, pm_up f t (.inr (ci, fs))) H1 := hR.push hsz o1 hat
  have had : H.size = pm_ad G t := by rw [pm_ad_of G h4]; exact hsz
  have kk := k.2 p e R s m args below meth c H1 locs (cells + 1) (slots + fs.length) lsA Q C ⟨by rw [z1]; exact Nat.le_succ_of_le hS.1, fun q a1 a2 => (o1 q (Nat.lt_of_lt_of_le a1 hS.1)).trans (hS.2.1 q a1 a2), hS.2.2⟩ hR1 hL (by show s.heap.size + (cells + 1) ≤ G.2.2.2.2.1 + (t + 1 - 8); omega) (by show cells + 1 + (h'.1 - (t + 1)) ≤ R.cells; omega) (by show slots + fs.length + (h'.2.1 - (sl + fs.length)) ≤ R.slots; omega) hQ
  rw [had]
  exact kk
/-- a new array of numbers: which kind, its tag, its first contents -/
def pm_NA (at0 : ArrayType) (q n : Nat) (x : vp_A) : Prop := ∃ ty : FieldType, newarray.typeOf at0 = ty ∧ Cond.arrayClass (newarray.typeOf at0) ∈ GT ∧ (∀ G : gT, (pm_tys G)[q]? = some (G.2.2.1 q, ty) ∧ pm_a G x = x) ∧ x.1 = n ∧ (∀ cA : ClassId, vp_cell cA x = arrV cA n (fun _ => defaultValue ty)) ∧ (∀ (s : State) (cA : ClassId), va_RA s cA ty ↔ s.vm.findClass ("[" ++ ty.toString) = some cA) ∧ n * componentBytes ty ≤ 536870912
theorem pw_newarray {at0 : ArrayType} {q n : Nat} {i : Int32} {x : vp_A} (hn : pm_NA at0 q n x) (hd : decode M.2.1 pc = .ok (.newarray at0, 2)) (hi : ¬ i < 0) (hin : i.toNatClampNeg = n) (k : PW G d M (pc + 2) ls (.ref t :: st) (t + 1, sl + n, pm_up f t (.inl (q, x))) r h') : PW G d M pc ls (.int i :: st) (t, sl, f) r h' := by
  have k1 : t + 1 ≤ h'.1 ∧ sl + n ≤ h'.2.1 := k.1
  refine ⟨⟨by show t ≤ h'.1; omega, by show sl ≤ h'.2.1; omega⟩, ?_⟩
  intro p e R s m args below meth c H locs cells slots lsA Q C hS hR hL hz h1 h2 hQ
  obtain ⟨ty, rfl, g2, g3, g4, g5, g6, g7⟩ := hn
  refine pm_size C.2.2.2.2.2.1 hS hR hz fun hsz => ?_
  have h1' : cells + (h'.1 - t) ≤ R.cells := h1
  have h2' : slots + (h'.2.1 - sl) ≤ R.slots := h2
  have hz' : s.heap.size + cells ≤ G.2.2.2.2.1 + (t - 8) := hz
  have h4 : 8 ≤ t := hR.1
  have had : H.size = pm_ad G t := by rw [pm_ad_of G h4]; exact hsz
  refine va_newaK C.1 C.2.1 (C.2.2.2.2.1 _ g2) rfl hd rfl hi hin g7 (by omega) (by omega) rfl fun H1 cA e1 z1 o1 hAr hNm => ?_
  have hcA : cA = G.2.2.1 q := by
    have h9 := (C.2.2.2.2.2.1.1.2 q _ (g3 G).1).2
    exact Option.some.inj (hNm.symm.trans ((g6 s _).mp h9))
  have hat : va_at G.2.1 vwCl (H.size, pm_e G (.inl (q, x))) H1 := by
    show H1[H.size]? = some (vp_cell (G.2.2.1 q) (pm_a G x))
    rw [(g3 G).2, g5, ← hcA]
    exact e1
  have hR1 : pm_R G (t + 1, sl + n, pm_up f t (.inl (q, x))) H1 := hR.push hsz o1 hat
  have kk := k.2 p e R s m args below meth c H1 locs (cells + 1) (slots + n) lsA Q C ⟨by rw [z1]; exact Nat.le_succ_of_le hS.1, fun q a1 a2 => (o1 q (Nat.lt_of_lt_of_le a1 hS.1)).trans (hS.2.1 q a1 a2), hS.2.2⟩ hR1 hL (by show s.heap.size + (cells + 1) ≤ G.2.2.2.2.1 + (t + 1 - 8); omega) (by show cells + 1 + (h'.1 - (t + 1)) ≤ R.cells; omega) (by show slots + n + (h'.2.1 - (sl + n)) ≤ R.slots; omega) hQ
  rw [had]
  exact kk
theorem pw_objInit {a idx : Nat} (hw : Cond.methodLink M.1.cls idx objectInit ∈ GT) (hw2 : Cond.instanceMethod objectInit ∈ GT) (hw3 : Cond.code objectInit ⟨#[0xb1]⟩ 1 none ∈ GT) (hd : decode M.2.1 pc = .ok (.invokespecial idx, 3)) (hrest : (st.map fun v => v.category).sum ≤ 8) (hdp : 1 ≤ d) (k : PW G d M (pc + 3) ls st h r h') : PW G d M pc ls (.ref a :: st) h r h' := by
  refine ⟨k.1, ?_⟩
  intro p e R s m args below meth c H locs cells slots lsA Q C hS hR hL hz h1 h2 hQ
  have hfr : d ≤ R.frames := C.2.2.2.2.2.2.1
  have hlo : 64 * d ≤ R.locals := C.2.2.2.2.2.2.2.1
  have hsum : ((st.map (pm_v G)).map fun v => v.category).sum ≤ 8 := by rw [pm_v_sum]; exact hrest
  refine W.objInit C.1 C.2.1 C.2.2.2.1 (C.2.2.2.2.1 _ hw) (C.2.2.2.2.1 _ hw2) (C.2.2.2.2.1 _ hw3) rfl (by rw [C.2.2.1]; exact hL.1) rfl hd (by omega) (by show 2 * 0 + _ + 12 ≤ R.locals; omega) ?_
  exact k.2 p e R s m args below meth c H locs cells slots lsA Q C hS hR hL hz h1 h2 hQ
end PW7
/-- the locals at a method's entry -/
def pm_al : List Value → List (Option Value)
  | [] => []
  | .long x :: l => some (.long x) :: none :: pm_al l
  | .double x :: l => some (.double x) :: none :: pm_al l
  | v :: l => some v :: pm_al l
theorem pm_al_args (G : gT) : ∀ (as : List Value) (k i : Nat) (v : Value), (pm_al as)[i]? = some (some v) → (k + i, pm_v G v) ∈ lv_args k (as.map (pm_v G))
  | [], k, i, v, h => by simp [pm_al] at h
  | w :: as, k, i, v, h => by
    have two : ∀ x : Value, x.category = 2 → w = x → (some x :: none :: pm_al as)[i]? = some (some v) → (k + i, pm_v G v) ∈ lv_args k ((w :: as).map (pm_v G)) := by
      intro x hx hw hi
      subst hw
      rw [List.map_cons, lv_args, pm_v_cat, if_pos hx]
      match i, hi with
      | 0, hi => cases hi; exact List.mem_cons_self
      | 1, hi => cases hi
      | i + 2, hi =>
        have := pm_al_args G as (k + 2) i v hi
        rw [show k + 2 + i = k + (i + 2) by omega] at this
        exact List.mem_cons_of_mem _ this
    have one : ∀ x : Value, x.category = 1 → w = x → (some x :: pm_al as)[i]? = some (some v) → (k + i, pm_v G v) ∈ lv_args k ((w :: as).map (pm_v G)) := by
      intro x hx hw hi
      subst hw
      rw [List.map_cons, lv_args, pm_v_cat, if_neg (by rw [hx]; decide)]
      match i, hi with
      | 0, hi => cases hi; exact List.mem_cons_self
      | i + 1, hi =>
        have := pm_al_args G as (k + 1) i v hi
        rw [show k + 1 + i = k + (i + 1) by omega] at this
        exact List.mem_cons_of_mem _ this
    cases w with
    | long x => exact two _ rfl rfl h
    | double x => exact two _ rfl rfl h
    | int x => exact one _ rfl rfl h
    | float x => exact one _ rfl rfl h
    | null => exact one _ rfl rfl h
    | ref x => exact one _ rfl rfl h
    | retAddr x => exact one _ rfl rfl h
def pm_Q (G : gT) (r : Option Value) (h' : Ph) : Array Value → State → Outcome → State → Prop := fun _ st oc t => oc = .returned (r.map (pm_v G)) ∧ pm_R G h' t.heap ∧ va_F (pm_A G) st t
def pm_P (G : gT) (as : List Value) (h : Ph) : Array Value → State → Prop := va_Pc (as.map (pm_v G)) (fun U => pm_R G h U.heap ∧ U.heap.size ≤ G.2.2.2.2.1 + (h.1 - 8) ∧ pm_F G U U.heap)
theorem pm_sl_len (G : gT) : ∀ as : List Value, (lg_sl (as.map (pm_v G))).length = (pm_al as).length
  | [] => rfl
  | w :: as => by
    have ih := pm_sl_len G as
    unfold lg_sl at ih ⊢
    rw [List.map_cons, List.flatMap_cons, List.length_append, ih, pm_v_cat]
    cases w <;> simp [Value.category, pm_al] <;> omega
theorem pm_met {G : gT} {d : Nat} {M : mT} {as : List Value} {h h' : Ph} {r : Option Value} {ls : List (Option Value)} (hpl : plainName M.1.cls = true) (hls : pm_al as ++ List.replicate (M.2.2.1 - (pm_al as).length) none = ls) (hen : (pm_al as).length ≤ M.2.2.1) (k : PW G d M 0 ls [] h r h') :
    Met G.1 M.1 (.code M.1 M.2.1 M.2.2.1 M.2.2.2 :: GT) { frames := d, cells := h'.1 - h.1, slots := h'.2.1 - h.2.1, locals := 64 * d } (pm_P G as h) (pm_Q G r h') (h'.1 - h.1) (h'.2.1 - h.2.1) (pm_A G) := by
  refine Met.ofW (cc := M.2.1) (maxL := M.2.2.1) (ret := M.2.2.2) hpl rfl ?_
  intro p e s m args below meth c s₁ B hml hv
  obtain ⟨rfl, hR, hsz, hF⟩ := hv
  have hts := atoms_spec (ws := (.code M.1 M.2.1 M.2.2.1 M.2.2.2 :: GT)) B.pre
  have hown : s.vm.findClass M.1.cls = some m.cls := findClass_of_methodNamed B.named
  have hin : meth.name = M.1.name := (name_of_methodNamed B.named B.method).1
  have hl := lv_entry (as.map (pm_v G)) (n := M.2.2.1) (by rw [pm_sl_len]; exact hen)
  rw [lg_entry_eq]
  refine k.2 p e _ s m _ below meth c s.heap [] 0 0 _ _ ⟨B.exec, B.bytes, hml, hown, fun w hw => hts w (List.mem_cons_of_mem _ hw), hF, Nat.le_refl _, Nat.le_refl _, B.returns, hin, B.notSynchronized⟩ va_S.rf hR ⟨hl.1, hl.2.1, fun i v hi => ?_⟩ (by omega) (by show 0 + _ ≤ h'.1 - h.1; omega) (by show 0 + _ ≤ h'.2.1 - h.2.1; omega) ?_
  · rw [← hls] at hi
    have hi2 : (pm_al as)[i]? = some (some v) := by
      by_cases hlt : i < (pm_al as).length
      · rwa [List.getElem?_append_left hlt] at hi
      · rw [List.getElem?_append_right (by omega), List.getElem?_replicate] at hi
        split at hi <;> cases hi
    have := hl.2.2 _ (pm_al_args G as 0 i v hi2)
    rw [Nat.zero_add] at this
    exact this
  · intro H' locs' pc' lsA' hS' hR' hret
    have hlocks := B.notSynchronized
    have hr := B.returns
    have post : ∀ tt : State, tt.heap = H' → s.WarmedH tt.vm → pm_Q G r h' (as.map (pm_v G)).toArray s (.returned (r.map (pm_v G))) tt := fun tt ht _ => ⟨rfl, by rw [ht]; exact hR', hS'.F ht⟩
    rcases hret with ⟨v, ty, rfl, hd, ht, hn⟩ | ⟨v, rfl, hd, ht⟩ | ⟨v, ty, rfl, hd, ht, hn⟩ | ⟨rfl, hd, ht⟩
    · exact W.zret B.exec B.bytes (hr.trans ht) hn post hS'.2.2 hd
    · exact W.lret B.exec B.bytes (hr.trans ht) post hS'.2.2 hd
    · exact W.aret B.exec B.bytes (hr.trans ht) hn (by cases v; exact Or.inl rfl; exact Or.inr ⟨_, rfl⟩) post hS'.2.2 hd
    · exact W.vret B.exec B.bytes (hr.trans ht) post hS'.2.2 hd
theorem pm_blind (G : gT) (as : List Value) (h : Ph) : FrameBlind (pm_P G as h) := by
  intro a U g mk q
  obtain ⟨q1, q2, q3, q4⟩ := q
  exact ⟨q1, q2, q3, pm_F.moved (U := U.calling g mk a) q4 (State.WarmedH.refl U) (fun _ _ _ => rfl) (Nat.le_refl _)⟩
theorem pm_callk {G : gT} {h1 : Ph} {r1 : Option Value} {p : Program} {e : Env} {R : Room} {s : State} {m : MethodId} {args : Array Value} {below : List Frame} {meth : Method} {c : Code} {H : Heap} {locs : List Loc} {cells slots mc ms pc : Nat} {lsA : Array Slot} {st0 rest : List Value} {a : Array Value} {Q : State → Prop}
    (hr : va_Run p G.1 e R s m args below meth c H locs cells slots mc ms (F0 m pc lsA st0) rest (pm_Q G r1 h1 a) (pm_A G)) (hS : va_S (pm_A G) s.heap H locs)
    (kk : ∀ (H1 : Heap) (locs1 : List Loc), pm_R G h1 H1 → va_S (pm_A G) s.heap H1 locs1 → W p G.1 e R s m args below meth c H1 locs1 (cells + mc) (slots + ms) Q (F0 m (pc + 3) lsA ((r1.map (pm_v G)).toList ++ rest))) : W p G.1 e R s m args below meth c H locs cells slots Q (F0 m pc lsA st0) := by
  intro T hT X
  obtain ⟨v, st₀, t, T', L, h0, X', hL, e1, e2, ⟨hv, hR1, hz, hk⟩, st⟩ := hr T hT X
  cases hv
  rw [h0] at hz hk
  obtain ⟨t2, a1, b1⟩ := kk T'.heap (locs ++ L) (by rw [e1]; exact hR1)
    ⟨Nat.le_trans hS.1 (by rw [e1]; exact hz), fun q g1 g2 => by rw [e1, hk q (Nat.lt_of_lt_of_le g1 hS.1) g2]; exact hS.2.1 q g1 g2, fun q hq => by
      rcases List.mem_append.mp hq with g | g
      · exact hS.2.2 q g
      · exact hL q g⟩ T' rfl X'
  exact ⟨t2, st t2 a1, b1⟩
/-- a call's words: of the named method, at the caller's entry idx -/
def pm_MW (M' : mT) (n : Nat) : Prop := plainName M'.1.cls = true ∧ (M'.1.cls ≠ "java/lang/invoke/MethodHandle" ∧ M'.1.cls ≠ "java/lang/invoke/VarHandle" ∧ (parseMethodDescriptor M'.1.desc).map (fun d => d.parameters.length) = some n) ∧ Cond.initialized M'.1.cls ∈ GT ∧ Cond.code M'.1 M'.2.1 M'.2.2.1 M'.2.2.2 ∈ GT ∧ M'.2.2.1 ≤ 44
/-- an object's method: by its own class, linked plainly or as a nest mate's -/
def pm_LV (own : String) (idx : Nat) (M' : mT) : Prop := Cond.instanceMethod M'.1 ∈ GT ∧ Cond.selects M'.1.cls M'.1 M'.1 ∈ GT ∧ Cond.methodLink own idx M'.1 ∈ GT
def pm_LI (own : String) (idx : Nat) (M' : mT) : Prop := M'.1.name = "<init>" ∧ M'.2.2.2 = none ∧ Cond.instanceMethod M'.1 ∈ GT ∧ (Cond.methodLink own idx M'.1 ∈ GT ∨ ∃ host, Cond.methodLinkNest own idx M'.1 host ∈ pm_nest)
def pm_LS (own : String) (idx : Nat) (M' : mT) : Prop := Cond.static M'.1 ∈ GT ∧ (Cond.methodLink own idx M'.1 ∈ GT ∨ ∃ host, Cond.methodLinkNest own idx M'.1 host ∈ pm_nest)
section PWC
variable {G : gT} {d : Nat} {M M' : mT} {pc idx n : Nat} {ls : List (Option Value)} {st rest : List Value} {h h1 h' : Ph} {r r1 : Option Value} {as : List Value} {ls0 : List (Option Value)}
theorem pm_good {M' : mT} {n : Nat} (hm : pm_MW M' n) : GoodIn GT (.code M'.1 M'.2.1 M'.2.2.1 M'.2.2.2 :: GT) := gt_in (fun w hw => by
  rcases List.mem_cons.mp hw with rfl | hw
  · exact hm.2.2.2.1
  · exact hw)
theorem pw_invokevirtual {a ci : Nat} {fs : List Value} {T0 : u_T} {N0 : Nat} (hm : pm_MW M' n) (hv : pm_LV M.1.cls idx M') (hd : decode M.2.1 pc = .ok (.invokevirtual idx, 3)) (h0 : vwCl[ci]? = some (M'.1.cls, T0, N0)) (hc : h.2.2 a = .inr (ci, fs)) (hn : as.length = n)
    (hls : pm_al (.ref a :: as) ++ List.replicate (M'.2.2.1 - (pm_al (.ref a :: as)).length) none = ls0) (hen : (pm_al (.ref a :: as)).length ≤ M'.2.2.1) (hst : st = as.reverse ++ .ref a :: rest) (hrest : (rest.map fun v => v.category).sum ≤ 8)
    (kc : PW G d M' 0 ls0 [] h r1 h1) (k : PW G (d + 1) M (pc + 3) ls (r1.toList ++ rest) h1 r h') : PW G (d + 1) M pc ls st h r h' := by
  subst hst
  refine ⟨⟨Nat.le_trans kc.1.1 k.1.1, Nat.le_trans kc.1.2 k.1.2⟩, ?_⟩
  intro p e R s m args below meth c H locs cells slots lsA Q C hS hR hL hz g1 g2 hQ
  refine pm_size C.2.2.2.2.2.1 hS hR hz fun hsz => ?_
  have hfr : d + 1 ≤ R.frames := C.2.2.2.2.2.2.1
  have hlo : 64 * (d + 1) ≤ R.locals := C.2.2.2.2.2.2.2.1
  have hM := pm_met hm.1 hls hen kc
  have hmx : M'.2.2.1 ≤ 44 := hm.2.2.2.2
  have hk1 := kc.1
  have hk2 := k.1
  have hrec := va_recv C.2.2.2.2.2.1.1 hR.2.1 (q0 := a - 8) h0 (hR.got hc (pm_inr_J (pm_ci h0)))
  have hsum : ((rest.map (pm_v G)).map fun v => v.category).sum ≤ 8 := by rw [pm_v_sum]; exact hrest
  have hrun : va_Run p G.1 e R s m args below meth c H locs cells slots (h1.1 - h.1) (h1.2.1 - h.2.1) (F0 m pc lsA ((as.reverse ++ .ref a :: rest).map (pm_v G))) (rest.map (pm_v G)) (pm_Q G r1 h1 (Value.ref (pm_ad G a) :: as.map (pm_v G)).toArray) (pm_A G) := va_runV (g := F0 m pc lsA ((as.reverse ++ .ref a :: rest).map (pm_v G))) (As := as.map (pm_v G)) (rest := rest.map (pm_v G)) (b := pm_ad G a) (Ts := GT) ⟨C.1, C.2.1, C.2.2.1, C.2.2.2.1, C.2.2.2.2.1⟩ hM
    ⟨callB_of (R := R) n C.2.2.2.2.1 (pm_good hm) rfl rfl rfl (C.2.2.2.2.1 _ hm.2.2.1) (C.2.2.2.2.1 _ hv.2.2) hm.2.1 ⟨by show d + 1 ≤ R.frames; exact hfr, by show 8 + (M'.2.2.1 + 11) + 64 * d ≤ R.locals; omega⟩, C.2.2.2.2.1 _ hv.1, C.2.2.2.2.1 _ hv.2.1⟩
    ⟨pm_blind G _ _, hrec, fun U hU hW => ⟨rfl, by rw [hU]; exact hR, by rw [hU, hsz]; exact Nat.le_refl _, C.2.2.2.2.2.1.moved hW (fun q b1 b2 => by rw [hU]; exact hS.2.1 q b1 b2) (by rw [hU]; exact hS.1)⟩⟩
    rfl (by rw [List.length_map]; exact hn) hL.1 (by show (as.reverse ++ .ref a :: rest).map (pm_v G) = _; rw [List.map_append, List.map_reverse]; rfl) (by show 2 * 0 + _ ≤ 8; omega) hd ⟨by omega, by omega⟩
  refine pm_callk hrun hS fun H1 locs1 hR1 hS1 => ?_
  have kk := k.2 p e R s m args below meth c H1 locs1 (cells + (h1.1 - h.1)) (slots + (h1.2.1 - h.2.1)) lsA Q C hS1 hR1 hL (by have := hR.1; omega) (by omega) (by omega) hQ
  rw [List.map_append] at kk
  cases r1 <;> exact kk
theorem pw_invokestatic (hm : pm_MW M' n) (hv : pm_LS M.1.cls idx M') (hd : decode M.2.1 pc = .ok (.invokestatic idx, 3)) (hn : as.length = n)
    (hls : pm_al as ++ List.replicate (M'.2.2.1 - (pm_al as).length) none = ls0) (hen : (pm_al as).length ≤ M'.2.2.1) (hst : st = as.reverse ++ rest) (hrest : (rest.map fun v => v.category).sum ≤ 8)
    (kc : PW G d M' 0 ls0 [] h r1 h1) (k : PW G (d + 1) M (pc + 3) ls (r1.toList ++ rest) h1 r h') : PW G (d + 1) M pc ls st h r h' := by
  subst hst
  refine ⟨⟨Nat.le_trans kc.1.1 k.1.1, Nat.le_trans kc.1.2 k.1.2⟩, ?_⟩
  intro p e R s m args below meth c H locs cells slots lsA Q C hS hR hL hz g1 g2 hQ
  refine pm_size C.2.2.2.2.2.1 hS hR hz fun hsz => ?_
  have hfr : d + 1 ≤ R.frames := C.2.2.2.2.2.2.1
  have hlo : 64 * (d + 1) ≤ R.locals := C.2.2.2.2.2.2.2.1
  have hM := pm_met hm.1 hls hen kc
  have hmx : M'.2.2.1 ≤ 44 := hm.2.2.2.2
  have hk1 := kc.1
  have hk2 := k.1
  have hsum : ((rest.map (pm_v G)).map fun v => v.category).sum ≤ 8 := by rw [pm_v_sum]; exact hrest
  have hpre : PreS s H (pm_P G as h) (as.map (pm_v G)) := ⟨pm_blind G _ _, fun U hU hW => ⟨rfl, by rw [hU]; exact hR, by rw [hU, hsz]; exact Nat.le_refl _, C.2.2.2.2.2.1.moved hW (fun q b1 b2 => by rw [hU]; exact hS.2.1 q b1 b2) (by rw [hU]; exact hS.1)⟩⟩
  have hrun : va_Run p G.1 e R s m args below meth c H locs cells slots (h1.1 - h.1) (h1.2.1 - h.2.1) (F0 m pc lsA ((as.reverse ++ rest).map (pm_v G))) (rest.map (pm_v G)) (pm_Q G r1 h1 (as.map (pm_v G)).toArray) (pm_A G) := by
    rcases hv.2 with hlk | ⟨host, hlk⟩
    · exact va_runS (g := F0 m pc lsA ((as.reverse ++ rest).map (pm_v G))) (As := as.map (pm_v G)) (rest := rest.map (pm_v G)) (Ts := GT) ⟨C.1, C.2.1, C.2.2.1, C.2.2.2.1, C.2.2.2.2.1⟩ hM
        ⟨callB_of (R := R) n C.2.2.2.2.1 (pm_good hm) rfl rfl rfl (C.2.2.2.2.1 _ hm.2.2.1) (C.2.2.2.2.1 _ hlk) hm.2.1 ⟨by show d + 1 ≤ R.frames; exact hfr, by show 8 + (M'.2.2.1 + 11) + 64 * d ≤ R.locals; omega⟩, C.2.2.2.2.1 _ hv.1⟩ hpre
        rfl (by rw [List.length_map]; exact hn) hL.1 (by show (as.reverse ++ rest).map (pm_v G) = _; rw [List.map_append, List.map_reverse]) (by show 2 * 0 + _ ≤ 8; omega) hd ⟨by omega, by omega⟩
    · exact va_runSN (g := F0 m pc lsA ((as.reverse ++ rest).map (pm_v G))) (As := as.map (pm_v G)) (rest := rest.map (pm_v G)) (Ts := GT) ⟨C.1, C.2.1, C.2.2.1, C.2.2.2.1, C.2.2.2.2.1⟩ hM
        ⟨va_cnB (R := R) n C.2.2.2.2.1 (pm_good hm) rfl rfl rfl (C.2.2.2.2.2.1.2.1 _ hlk) (C.2.2.2.2.1 _ hm.2.2.1) hm.2.1 ⟨by show d + 1 ≤ R.frames; exact hfr, by show 8 + (M'.2.2.1 + 11) + 64 * d ≤ R.locals; omega⟩, C.2.2.2.2.1 _ hv.1, trivial⟩ hpre
        rfl (by rw [List.length_map]; exact hn) hL.1 (by show (as.reverse ++ rest).map (pm_v G) = _; rw [List.map_append, List.map_reverse]) (by show 2 * 0 + _ ≤ 8; omega) hd ⟨by omega, by omega⟩
  refine pm_callk hrun hS fun H1 locs1 hR1 hS1 => ?_
  have kk := k.2 p e R s m args below meth c H1 locs1 (cells + (h1.1 - h.1)) (slots + (h1.2.1 - h.2.1)) lsA Q C hS1 hR1 hL (by have := hR.1; omega) (by omega) (by omega) hQ
  rw [List.map_append] at kk
  cases r1 <;> exact kk
theorem pw_invokeinit {a : Nat} (hm : pm_MW M' n) (hv : pm_LI M.1.cls idx M') (hd : decode M.2.1 pc = .ok (.invokespecial idx, 3)) (hn : as.length = n)
    (hls : pm_al (.ref a :: as) ++ List.replicate (M'.2.2.1 - (pm_al (.ref a :: as)).length) none = ls0) (hen : (pm_al (.ref a :: as)).length ≤ M'.2.2.1) (hst : st = as.reverse ++ .ref a :: rest) (hrest : (rest.map fun v => v.category).sum ≤ 8)
    (kc : PW G d M' 0 ls0 [] h none h1) (k : PW G (d + 1) M (pc + 3) ls rest h1 r h') : PW G (d + 1) M pc ls st h r h' := by
  subst hst
  refine ⟨⟨Nat.le_trans kc.1.1 k.1.1, Nat.le_trans kc.1.2 k.1.2⟩, ?_⟩
  intro p e R s m args below meth c H locs cells slots lsA Q C hS hR hL hz g1 g2 hQ
  refine pm_size C.2.2.2.2.2.1 hS hR hz fun hsz => ?_
  have hfr : d + 1 ≤ R.frames := C.2.2.2.2.2.2.1
  have hlo : 64 * (d + 1) ≤ R.locals := C.2.2.2.2.2.2.2.1
  obtain ⟨y, b0, nL, rt⟩ := M'
  obtain ⟨v1, v2, v3, v4⟩ := hv
  have v2 : rt = none := v2
  subst v2
  have hM := pm_met hm.1 hls hen kc
  have hmx : nL ≤ 44 := hm.2.2.2.2
  have hk1 := kc.1
  have hk2 := k.1
  have hsum : ((rest.map (pm_v G)).map fun v => v.category).sum ≤ 8 := by rw [pm_v_sum]; exact hrest
  have hpre : PreS s H (pm_P G (.ref a :: as) h) (.ref (pm_ad G a) :: as.map (pm_v G)) := ⟨pm_blind G _ _, fun U hU hW => ⟨rfl, by rw [hU]; exact hR, by rw [hU, hsz]; exact Nat.le_refl _, C.2.2.2.2.2.1.moved hW (fun q b1 b2 => by rw [hU]; exact hS.2.1 q b1 b2) (by rw [hU]; exact hS.1)⟩⟩
  have hrun : va_Run p G.1 e R s m args below meth c H locs cells slots (h1.1 - h.1) (h1.2.1 - h.2.1) (F0 m pc lsA ((as.reverse ++ .ref a :: rest).map (pm_v G))) (rest.map (pm_v G)) (pm_Q G none h1 (Value.ref (pm_ad G a) :: as.map (pm_v G)).toArray) (pm_A G) := by
    rcases v4 with hlk | ⟨host, hlk⟩
    · exact va_runI (g := F0 m pc lsA ((as.reverse ++ .ref a :: rest).map (pm_v G))) (As := as.map (pm_v G)) (rest := rest.map (pm_v G)) (b := pm_ad G a) (Ts := GT) ⟨C.1, C.2.1, C.2.2.1, C.2.2.2.1, C.2.2.2.2.1⟩ hM
        ⟨callB_of (R := R) n C.2.2.2.2.1 (pm_good hm) rfl rfl rfl (C.2.2.2.2.1 _ hm.2.2.1) (C.2.2.2.2.1 _ hlk) hm.2.1 ⟨by show d + 1 ≤ R.frames; exact hfr, by show 8 + (nL + 11) + 64 * d ≤ R.locals; omega⟩, v1, C.2.2.2.2.1 _ v3⟩ hpre
        rfl (by rw [List.length_map]; exact hn) hL.1 (by show (as.reverse ++ .ref a :: rest).map (pm_v G) = _; rw [List.map_append, List.map_reverse]; rfl) (by show 2 * 0 + _ ≤ 8; omega) hd ⟨by omega, by omega⟩
    · exact va_runIN (g := F0 m pc lsA ((as.reverse ++ .ref a :: rest).map (pm_v G))) (As := as.map (pm_v G)) (rest := rest.map (pm_v G)) (b := pm_ad G a) (Ts := GT) ⟨C.1, C.2.1, C.2.2.1, C.2.2.2.1, C.2.2.2.2.1⟩ hM
        ⟨va_cnB (R := R) n C.2.2.2.2.1 (pm_good hm) rfl rfl rfl (C.2.2.2.2.2.1.2.1 _ hlk) (C.2.2.2.2.1 _ hm.2.2.1) hm.2.1 ⟨by show d + 1 ≤ R.frames; exact hfr, by show 8 + (nL + 11) + 64 * d ≤ R.locals; omega⟩, v1, C.2.2.2.2.1 _ v3⟩ hpre
        rfl (by rw [List.length_map]; exact hn) hL.1 (by show (as.reverse ++ .ref a :: rest).map (pm_v G) = _; rw [List.map_append, List.map_reverse]; rfl) (by show 2 * 0 + _ ≤ 8; omega) hd ⟨by omega, by omega⟩
  refine pm_callk hrun hS fun H1 locs1 hR1 hS1 => ?_
  exact k.2 p e R s m args below meth c H1 locs1 (cells + (h1.1 - h.1)) (slots + (h1.2.1 - h.2.1)) lsA Q C hS1 hR1 hL (by have := hR.1; omega) (by omega) (by omega) hQ
end PWC
