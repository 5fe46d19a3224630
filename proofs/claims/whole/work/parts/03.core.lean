/-! ===== THE PURE MACHINE: a heap of numbered cells, apart from where the real cells lie =====
pure addresses: 0 the script, 1..3 the three String constants, 4..6 their bytes, 7 what a static of the JDK may hold, from 8 on the cells that the law's run makes, in their order -/
abbrev gT : Type := Launch × va_G × (Nat → ClassId) × (Nat × Nat × (Nat → Int32)) × Nat × (Nat → Nat) × (Nat → Nat)
abbrev Pe : Type := (Nat × vp_A) ⊕ (Nat × List Value)
/-- the next free address, the slots used so far, the cells -/
abbrev Ph : Type := Nat × Nat × (Nat → Pe)
/-- a method: name, code, words of locals, answer -/
abbrev mT : Type := MethodName × ByteArray × Nat × Option FieldType
def pm_ad (G : gT) : Nat → Nat
  | 0 => G.2.2.2.1.1
  | 1 => G.2.2.2.2.2.1 0
  | 2 => G.2.2.2.2.2.1 1
  | 3 => G.2.2.2.2.2.1 2
  | 4 => G.2.2.2.2.2.2 0
  | 5 => G.2.2.2.2.2.2 1
  | 6 => G.2.2.2.2.2.2 2
  | 7 => G.2.2.2.2.2.2 3
  | k + 8 => G.2.2.2.2.1 + k
def pm_v (G : gT) : Value → Value
  | .ref k => .ref (pm_ad G k)
  | v => v
def pm_a (G : gT) : vp_A → vp_A
  | (n, .inr (.inr (.inr (.inr f)))) => (n, .inr (.inr (.inr (.inr (fun j => (f j).map (pm_ad G))))))
  | a => a
def pm_e (G : gT) : Pe → va_E
  | .inl (t, a) => .inl (G.2.2.1 t, pm_a G a)
  | .inr (ci, fs) => .inr (ci, fs.map (pm_v G))
def pm_W (G : gT) (h : Ph) : va_W := (List.range (h.1 - 8)).map fun k => (G.2.2.2.2.1 + k, pm_e G (h.2.2 (k + 8)))
def pm_up {α : Type} (f : Nat → α) (a : Nat) (e : α) : Nat → α := fun j => if j = a then e else f j
def pm_A (G : gT) : Nat → Prop := fun q => G.2.2.2.2.1 ≤ q
def pm_tys (G : gT) : List (ClassId × FieldType) := [(G.2.2.1 0, .int), (G.2.2.1 1, .byte), (G.2.2.1 2, .long), (G.2.2.1 3, .boolean), (G.2.2.1 4, .object "RubatoDesk$Sheet"), (G.2.2.1 5, .object "RubatoDesk$State"), (G.2.2.1 6, .object "RubatoDesk$Tray"), (G.2.2.1 7, .array .int), (G.2.2.1 8, .array .long)]
/-- what lies where no cell is -/
def pm_J : Pe := .inr (99, [])
def pm_R (G : gT) (h : Ph) (H : Heap) : Prop := 8 ≤ h.1 ∧ va_P G.2.1 vwCl (pm_W G h) H ∧ ∀ a, a < 8 ∨ h.1 ≤ a → h.2.2 a = pm_J
theorem pm_up_eq {α : Type} {f : Nat → α} {a : Nat} {e : α} : pm_up f a e a = e := if_pos rfl
theorem pm_up_ne {α : Type} {f : Nat → α} {a j : Nat} {e : α} (h : j ≠ a) : pm_up f a e j = f j := if_neg h
theorem pm_up_up {α : Type} {f : Nat → α} {a : Nat} {e e' : α} : pm_up (pm_up f a e) a e' = pm_up f a e' := by
  funext j
  unfold pm_up
  split <;> rfl
theorem pm_up_self {α : Type} {f : Nat → α} {a : Nat} : pm_up f a (f a) = f := by
  funext j
  unfold pm_up
  split
  · rename_i h; rw [h]
  · rfl
theorem pm_up_comm {α : Type} {f : Nat → α} {a b : Nat} {e e' : α} (h : a ≠ b) : pm_up (pm_up f a e) b e' = pm_up (pm_up f b e') a e := by
  funext j
  unfold pm_up
  by_cases h1 : j = b
  · subst h1
    rw [if_pos rfl, if_neg (Ne.symm h), if_pos rfl]
  · rw [if_neg h1]
    by_cases h2 : j = a
    · rw [if_pos h2, if_pos h2]
    · rw [if_neg h2, if_neg h2, if_neg h1]
theorem pm_ad4 (G : gT) (k : Nat) : pm_ad G (k + 8) = G.2.2.2.2.1 + k := rfl
theorem pm_ad_of (G : gT) {a : Nat} (h : 8 ≤ a) : pm_ad G a = G.2.2.2.2.1 + (a - 8) := by
  obtain ⟨k, rfl⟩ := Nat.exists_eq_add_of_le h
  rw [Nat.add_comm 8 k, Nat.add_sub_cancel]
  rfl
theorem pm_W_len (G : gT) (h : Ph) : (pm_W G h).length = h.1 - 8 := by simp [pm_W]
theorem pm_W_at (G : gT) (h : Ph) {k : Nat} (hk : k < h.1 - 8) : (pm_W G h)[k]? = some (G.2.2.2.2.1 + k, pm_e G (h.2.2 (k + 8))) := by
  simp [pm_W, List.getElem?_map, List.getElem?_range hk]
theorem pm_W_get (G : gT) (h : Ph) {a : Nat} (h4 : 8 ≤ a) (ha : a < h.1) : (pm_W G h)[a - 8]? = some (pm_ad G a, pm_e G (h.2.2 a)) := by
  rw [pm_W_at G h (by omega), pm_ad_of G h4, Nat.sub_add_cancel h4]
theorem pm_W_out (G : gT) (h : Ph) {k : Nat} {q : Nat × va_E} (hk : (pm_W G h)[k]? = some q) : k < h.1 - 8 ∧ q = (G.2.2.2.2.1 + k, pm_e G (h.2.2 (k + 8))) := by
  have hl : k < h.1 - 8 := by
    have := (List.getElem?_eq_some_iff.mp hk).1
    rwa [pm_W_len] at this
  rw [pm_W_at G h hl] at hk
  exact ⟨hl, (Option.some.inj hk).symm⟩
theorem pm_W_set (G : gT) (t sl : Nat) (f : Nat → Pe) {a : Nat} (h4 : 8 ≤ a) (ha : a < t) (e : Pe) : (pm_W G (t, sl, f)).set (a - 8) (pm_ad G a, pm_e G e) = pm_W G (t, sl, pm_up f a e) := by
  apply List.ext_getElem?
  intro k
  by_cases hk : k < t - 8
  · rw [pm_W_at G (t, sl, pm_up f a e) hk]
    by_cases hka : k = a - 8
    · subst hka
      rw [List.getElem?_set_self (by rw [pm_W_len]; exact hk), pm_ad_of G h4]
      show _ = some (_, pm_e G (pm_up f a e (a - 8 + 8)))
      rw [Nat.sub_add_cancel h4, pm_up_eq]
    · rw [List.getElem?_set_ne (Ne.symm hka), pm_W_at G (t, sl, f) hk]
      show some (_, pm_e G (f (k + 8))) = some (_, pm_e G (pm_up f a e (k + 8)))
      rw [pm_up_ne (by omega)]
  · rw [List.getElem?_eq_none (by rw [List.length_set, pm_W_len]; exact Nat.le_of_not_lt hk), List.getElem?_eq_none (by rw [pm_W_len]; exact Nat.le_of_not_lt hk)]
theorem pm_W_push (G : gT) (t sl sl' : Nat) (f : Nat → Pe) (h4 : 8 ≤ t) (e : Pe) : pm_W G (t, sl, f) ++ [(pm_ad G t, pm_e G e)] = pm_W G (t + 1, sl', pm_up f t e) := by
  apply List.ext_getElem?
  intro k
  by_cases hk : k < t - 8
  · rw [List.getElem?_append_left (by rw [pm_W_len]; exact hk), pm_W_at G (t, sl, f) hk, pm_W_at G (t + 1, sl', pm_up f t e) (by show k < t + 1 - 8; omega)]
    show some (_, pm_e G (f (k + 8))) = some (_, pm_e G (pm_up f t e (k + 8)))
    rw [pm_up_ne (by omega)]
  · rw [List.getElem?_append_right (by rw [pm_W_len]; exact Nat.le_of_not_lt hk), pm_W_len]
    by_cases hk2 : k = t - 8
    · subst hk2
      rw [pm_W_at G (t + 1, sl', pm_up f t e) (by show t - 8 < t + 1 - 8; omega)]
      show [(pm_ad G t, pm_e G e)][t - 8 - (t - 8)]? = some (_, pm_e G (pm_up f t e (t - 8 + 8)))
      rw [Nat.sub_self, Nat.sub_add_cancel h4, pm_up_eq, pm_ad_of G h4]
      rfl
    · rw [List.getElem?_eq_none (show [(pm_ad G t, pm_e G e)].length ≤ k - (t - 8) by show 1 ≤ k - (t - 8); omega), List.getElem?_eq_none (by rw [pm_W_len]; show t + 1 - 8 ≤ k; omega)]
theorem pm_D (G : gT) (h : Ph) : va_D (pm_A G) (pm_W G h) := by
  refine ⟨fun i j x y hi hj hxy => ?_, fun k q hk => ?_⟩
  · obtain ⟨-, rfl⟩ := pm_W_out G h hi
    obtain ⟨-, rfl⟩ := pm_W_out G h hj
    have : G.2.2.2.2.1 + i = G.2.2.2.2.1 + j := hxy
    omega
  · obtain ⟨-, rfl⟩ := pm_W_out G h hk
    exact Nat.le_add_right _ _
theorem pm_v_rf (G : gT) (r : Option Nat) : pm_v G (va_rf r) = va_rf (r.map (pm_ad G)) := by cases r <;> rfl
theorem pm_v_cat (G : gT) (v : Value) : (pm_v G v).category = v.category := by cases v <;> rfl
theorem pm_v_sum (G : gT) : ∀ l : List Value, ((l.map (pm_v G)).map fun v => v.category).sum = (l.map fun v => v.category).sum
  | [] => rfl
  | v :: l => by
    rw [List.map_cons, List.map_cons, List.map_cons, List.sum_cons, List.sum_cons, pm_v_cat, pm_v_sum G l]
/-- a cell that isn't the junk lies between 8 and the next free one -/
theorem pm_R.in {G : gT} {h : Ph} {H : Heap} (hR : pm_R G h H) {a : Nat} {e : Pe} (he : h.2.2 a = e) (hj : e ≠ pm_J) : 8 ≤ a ∧ a < h.1 := by
  constructor
  · exact Nat.le_of_not_lt fun q => hj (he.symm.trans (hR.2.2 a (Or.inl q)))
  · exact Nat.lt_of_not_le fun q => hj (he.symm.trans (hR.2.2 a (Or.inr q)))
theorem pm_inl_J {x : Nat × vp_A} : (.inl x : Pe) ≠ pm_J := fun h => by cases h
theorem pm_inr_J {ci : Nat} {fs : List Value} (h : ci < 13) : (.inr (ci, fs) : Pe) ≠ pm_J := fun q => by
  unfold pm_J at q
  injection q with q
  injection q with q1 q2
  omega
theorem pm_R.got {G : gT} {h : Ph} {H : Heap} (hR : pm_R G h H) {a : Nat} {e : Pe} (he : h.2.2 a = e) (hj : e ≠ pm_J) : (pm_W G h)[a - 8]? = some (pm_ad G a, pm_e G e) := by
  obtain ⟨h4, hl⟩ := hR.in he hj
  rw [pm_W_get G h h4 hl, he]
/-- behind a store into a cell -/
theorem pm_R.put {G : gT} {t sl : Nat} {f : Nat → Pe} {H H1 : Heap} (hR : pm_R G (t, sl, f) H) {a : Nat} {e0 e : Pe} (he : f a = e0) (hj : e0 ≠ pm_J) (hP : va_P G.2.1 vwCl ((pm_W G (t, sl, f)).set (a - 8) (pm_ad G a, pm_e G e)) H1) : pm_R G (t, sl, pm_up f a e) H1 := by
  obtain ⟨h4, hl⟩ := hR.in he hj
  refine ⟨hR.1, ?_, fun b hb => ?_⟩
  · rw [← pm_W_set G t sl f h4 hl e]
    exact hP
  · show pm_up f a e b = pm_J
    rw [pm_up_ne (fun q => by subst q; have hl' : b < t := hl; have hb' : b < 8 ∨ t ≤ b := hb; omega)]
    exact hR.2.2 b hb
theorem pm_R.push {G : gT} {t sl sl' : Nat} {f : Nat → Pe} {H H1 : Heap} (hR : pm_R G (t, sl, f) H) {e : Pe} (hs : H.size = G.2.2.2.2.1 + (t - 8)) (ho : ∀ q, q < H.size → H1[q]? = H[q]?) (hn : va_at G.2.1 vwCl (H.size, pm_e G e) H1) : pm_R G (t + 1, sl', pm_up f t e) H1 := by
  have h4 : 8 ≤ t := hR.1
  have had : pm_ad G t = H.size := by rw [pm_ad_of G h4, hs]
  refine ⟨by show 8 ≤ t + 1; omega, ?_, fun b hb => ?_⟩
  · rw [← pm_W_push G t sl sl' f h4 e]
    refine va_P.app (hR.2.1.kept (fun k q hk => ho q.1 ((hR.2.1 k q hk).lt))) (fun k q hk => ?_)
    have h0 : k < 1 := (List.getElem?_eq_some_iff.mp hk).1
    rw [show k = 0 by omega] at hk
    cases hk
    rw [had]
    exact hn
  · have hb' : b < 8 ∨ t + 1 ≤ b := hb
    show pm_up f t e b = pm_J
    rw [pm_up_ne (by omega)]
    exact hR.2.2 b (by show b < 8 ∨ t ≤ b; omega)
/-- the real heap is at least so large -/
theorem pm_R.ge {G : gT} {h : Ph} {H : Heap} (hR : pm_R G h H) (hb : G.2.2.2.2.1 ≤ H.size) : G.2.2.2.2.1 + (h.1 - 8) ≤ H.size := by
  by_cases h5 : h.1 - 8 = 0
  · omega
  · have := (hR.2.1 _ _ (pm_W_at G h (show h.1 - 9 < h.1 - 8 by omega))).lt
    have h6 : G.2.2.2.2.1 + (h.1 - 9) < H.size := this
    omega
