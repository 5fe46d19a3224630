/-! ===== the typed heap: what each cell is (S), the ints and references of objects (V, P), the contents of arrays (A ints, B longs, Q references) ===== -/
abbrev sS : Type := Nat → Nat × Nat
abbrev sV : Type := Nat → Nat → Int32
abbrev sP : Type := Nat → Nat → Option Nat
abbrev sB : Type := Nat → Nat → Int64
def th_isR (ci k : Nat) : Bool := match (vwCl[ci]?).map (fun q => (q.2.1 k).2.2.1) with
  | some s => decide (s ≠ "I" ∧ s ≠ "Z")
  | none => false
def th_N (ci : Nat) : Nat := ((vwCl[ci]?).map (fun q => q.2.2)).getD 0
def th_o (ci : Nat) (v : Nat → Int32) (p : Nat → Option Nat) : List Value := (List.range (th_N ci)).map fun k => if th_isR ci k then va_rf (p k) else .int (v k)
def gh (S : sS) (V : sV) (P : sP) (A : sV) (B : sB) (Q : sP) (a : Nat) : Pe :=
  if (S a).1 < 13 then .inr ((S a).1, th_o (S a).1 (V a) (P a))
  else if (S a).1 = 20 ∨ (S a).1 = 21 ∨ (S a).1 = 23 then .inl ((S a).1 - 20, (S a).2, .inl (A a))
  else if (S a).1 = 22 then .inl (2, (S a).2, .inr (.inl (B a)))
  else if 24 ≤ (S a).1 ∧ (S a).1 < 29 then .inl ((S a).1 - 20, (S a).2, .inr (.inr (.inr (.inr (Q a)))))
  else pm_J
def up2 {α : Type} (V : Nat → Nat → α) (a k : Nat) (x : α) : Nat → Nat → α := pm_up V a (pm_up (V a) k x)
theorem up2_eq {α : Type} {V : Nat → Nat → α} {a k : Nat} {x : α} : up2 V a k x a k = x := by rw [up2, pm_up_eq, pm_up_eq]
theorem up2_na {α : Type} {V : Nat → Nat → α} {a k b : Nat} {x : α} (h : b ≠ a) : up2 V a k x b = V b := by rw [up2, pm_up_ne h]
theorem up2_at {α : Type} {V : Nat → Nat → α} {a k : Nat} {x : α} : up2 V a k x a = pm_up (V a) k x := by rw [up2, pm_up_eq]
theorem up2_nk {α : Type} {V : Nat → Nat → α} {a k b j : Nat} {x : α} (h : j ≠ k) : up2 V a k x b j = V b j := by
  by_cases hb : b = a
  · subst hb
    rw [up2, pm_up_eq, pm_up_ne h]
  · rw [up2_na hb]
section GH
variable {S : sS} {V : sV} {P : sP} {A : sV} {B : sB} {Q : sP} {a n : Nat}
theorem gh_obj {ci : Nat} (h : S a = (ci, n)) (hc : ci < 13) : gh S V P A B Q a = .inr (ci, th_o ci (V a) (P a)) := by
  unfold gh
  rw [h]
  exact if_pos hc
theorem gh_int (h : S a = (20, n)) : gh S V P A B Q a = .inl (0, n, .inl (A a)) := by
  unfold gh
  rw [h]
  rfl
theorem gh_byte (h : S a = (21, n)) : gh S V P A B Q a = .inl (1, n, .inl (A a)) := by
  unfold gh
  rw [h]
  rfl
theorem gh_bool (h : S a = (23, n)) : gh S V P A B Q a = .inl (3, n, .inl (A a)) := by
  unfold gh
  rw [h]
  rfl
theorem gh_long (h : S a = (22, n)) : gh S V P A B Q a = .inl (2, n, .inr (.inl (B a))) := by
  unfold gh
  rw [h]
  rfl
theorem gh_ref {q : Nat} (h : S a = (q + 20, n)) (hq : 4 ≤ q ∧ q < 9) : gh S V P A B Q a = .inl (q, n, .inr (.inr (.inr (.inr (Q a))))) := by
  unfold gh
  rw [h]
  show (if q + 20 < 13 then _ else if q + 20 = 20 ∨ q + 20 = 21 ∨ q + 20 = 23 then _ else if q + 20 = 22 then _ else if 24 ≤ q + 20 ∧ q + 20 < 29 then _ else _) = _
  rw [if_neg (by omega), if_neg (by omega), if_neg (by omega), if_pos (by omega), Nat.add_sub_cancel]
theorem gh_congr {V' : sV} {P' : sP} {A' : sV} {B' : sB} {Q' : sP} (hV : ∀ b, b ≠ a → V' b = V b) (hP : ∀ b, b ≠ a → P' b = P b) (hA : ∀ b, b ≠ a → A' b = A b) (hB : ∀ b, b ≠ a → B' b = B b) (hQ : ∀ b, b ≠ a → Q' b = Q b) : pm_up (gh S V P A B Q) a (gh S V' P' A' B' Q' a) = gh S V' P' A' B' Q' := by
  funext b
  by_cases h : b = a
  · subst h
    rw [pm_up_eq]
  · rw [pm_up_ne h]
    unfold gh
    rw [hV b h, hP b h, hA b h, hB b h, hQ b h]
theorem th_o_get {ci k : Nat} {v : Nat → Int32} {p : Nat → Option Nat} (hk : k < th_N ci) : (th_o ci v p)[k]? = some (if th_isR ci k then va_rf (p k) else .int (v k)) := by
  rw [th_o, List.getElem?_map, List.getElem?_range hk]
  rfl
theorem th_o_len {ci : Nat} {v : Nat → Int32} {p : Nat → Option Nat} : (th_o ci v p).length = th_N ci := by rw [th_o, List.length_map, List.length_range]
theorem th_o_seti {ci k : Nat} {v : Nat → Int32} {p : Nat → Option Nat} {x : Int32} (hr : th_isR ci k = false) : (th_o ci v p).set k (.int x) = th_o ci (pm_up v k x) p := by
  apply List.ext_getElem?
  intro j
  by_cases hj : j < th_N ci
  · rw [th_o_get hj]
    by_cases hjk : j = k
    · subst hjk
      rw [List.getElem?_set_self (by rw [th_o_len]; exact hj), hr, pm_up_eq]
      rfl
    · rw [List.getElem?_set_ne (Ne.symm hjk), th_o_get hj, pm_up_ne hjk]
  · rw [List.getElem?_eq_none (by rw [List.length_set, th_o_len]; omega), List.getElem?_eq_none (by rw [th_o_len]; omega)]
theorem th_o_setr {ci k : Nat} {v : Nat → Int32} {p : Nat → Option Nat} {o : Option Nat} (hr : th_isR ci k = true) : (th_o ci v p).set k (va_rf o) = th_o ci v (pm_up p k o) := by
  apply List.ext_getElem?
  intro j
  by_cases hj : j < th_N ci
  · rw [th_o_get hj]
    by_cases hjk : j = k
    · subst hjk
      rw [List.getElem?_set_self (by rw [th_o_len]; exact hj), hr, pm_up_eq]
      rfl
    · rw [List.getElem?_set_ne (Ne.symm hjk), th_o_get hj, pm_up_ne hjk]
  · rw [List.getElem?_eq_none (by rw [List.length_set, th_o_len]; omega), List.getElem?_eq_none (by rw [th_o_len]; omega)]
end GH
/-- a field of ints, of references -/
def pm_GI (own : String) (idx ci k : Nat) : Prop := pm_GF own idx ci k ∧ th_isR ci k = false ∧ k < th_N ci ∧ ci < 13
def pm_GR (own : String) (idx ci k : Nat) : Prop := pm_GF own idx ci k ∧ th_isR ci k = true ∧ k < th_N ci ∧ ci < 13
def pm_PI (y : MethodName) (idx ci k : Nat) (ty : FieldType) : Prop := pm_PF y idx ci k ty ∧ th_isR ci k = false ∧ k < th_N ci ∧ ci < 13
def pm_PR (y : MethodName) (idx ci k : Nat) (ty : FieldType) : Prop := pm_PF y idx ci k ty ∧ th_isR ci k = true ∧ k < th_N ci ∧ ci < 13 ∧ ((∃ n, ty = .object n) ∨ ∃ t, ty = .array t)
theorem ix_in {i : Int32} {j n : Nat} (h : i.toInt = (j : Int)) (hn : j < n) : vp_in i n := vp_in_iff.mpr ⟨by omega, by omega⟩
theorem ix_nat {i : Int32} {j : Nat} (h : i.toInt = (j : Int)) : i.toNatClampNeg = j := by
  show i.toInt.toNat = j
  omega
section PW8
variable {G : gT} {d : Nat} {M : mT} {pc : Nat} {ls : List (Option Value)} {st : List Value} {t sl : Nat} {S : sS} {V : sV} {P : sP} {A : sV} {B : sB} {Q : sP} {h' : Ph} {r : Option Value}
theorem pw_geti {a ci k idx n : Nat} (hg : pm_GI M.1.cls idx ci k) (hd : decode M.2.1 pc = .ok (.getfield idx, 3)) (hs : S a = (ci, n)) (kk : PW G d M (pc + 3) ls (.int (V a k) :: st) (t, sl, gh S V P A B Q) r h') : PW G d M pc ls (.ref a :: st) (t, sl, gh S V P A B Q) r h' :=
  pw_getfield hg.1 hd (gh_obj hs hg.2.2.2) ((th_o_get hg.2.2.1).trans (by rw [hg.2.1]; rfl)) kk
theorem pw_getr {a b ci k idx n : Nat} (hg : pm_GR M.1.cls idx ci k) (hd : decode M.2.1 pc = .ok (.getfield idx, 3)) (hs : S a = (ci, n)) (hp : P a k = some b) (kk : PW G d M (pc + 3) ls (.ref b :: st) (t, sl, gh S V P A B Q) r h') : PW G d M pc ls (.ref a :: st) (t, sl, gh S V P A B Q) r h' :=
  pw_getfield hg.1 hd (gh_obj hs hg.2.2.2) ((th_o_get hg.2.2.1).trans (by rw [hg.2.1, hp]; rfl)) kk
theorem pw_puti {a ci k idx n : Nat} {ty : FieldType} {x : Int32} (hg : pm_PI M.1 idx ci k ty) (hd : decode M.2.1 pc = .ok (.putfield idx, 3)) (hs : S a = (ci, n)) (hn : narrow ty (.int x) = .int x) (hf : fits ty (.int x) = true) (kk : PW G d M (pc + 3) ls st (t, sl, gh S (up2 V a k x) P A B Q) r h') : PW G d M pc ls (.int x :: .ref a :: st) (t, sl, gh S V P A B Q) r h' := by
  refine pw_putfield hg.1 hd (gh_obj hs hg.2.2.2) (by rw [th_o_len]; exact hg.2.2.1) hn hf ?_
  have e : (.inr (ci, (th_o ci (V a) (P a)).set k (.int x)) : Pe) = gh S (up2 V a k x) P A B Q a := by
    rw [gh_obj hs hg.2.2.2, th_o_seti hg.2.1, up2_at]
  rw [e, gh_congr (fun b hb => up2_na hb) (fun _ _ => rfl) (fun _ _ => rfl) (fun _ _ => rfl) (fun _ _ => rfl)]
  exact kk
theorem pw_putq {a ci k idx n : Nat} {ty : FieldType} {o : Option Nat} (hg : pm_PR M.1 idx ci k ty) (hd : decode M.2.1 pc = .ok (.putfield idx, 3)) (hs : S a = (ci, n)) (kk : PW G d M (pc + 3) ls st (t, sl, gh S V (up2 P a k o) A B Q) r h') : PW G d M pc ls (va_rf o :: .ref a :: st) (t, sl, gh S V P A B Q) r h' := by
  have hn : narrow ty (va_rf o) = va_rf o := by rcases hg.2.2.2.2 with ⟨n, rfl⟩ | ⟨n, rfl⟩ <;> cases o <;> rfl
  have hf : fits ty (va_rf o) = true := by rcases hg.2.2.2.2 with ⟨n, rfl⟩ | ⟨n, rfl⟩ <;> cases o <;> rfl
  refine pw_putfield hg.1 hd (gh_obj hs hg.2.2.2.1) (by rw [th_o_len]; exact hg.2.2.1) hn hf ?_
  have e : (.inr (ci, (th_o ci (V a) (P a)).set k (va_rf o)) : Pe) = gh S V (up2 P a k o) A B Q a := by
    rw [gh_obj hs hg.2.2.2.1, th_o_setr hg.2.1, up2_at]
  rw [e, gh_congr (fun _ _ => rfl) (fun b hb => up2_na hb) (fun _ _ => rfl) (fun _ _ => rfl) (fun _ _ => rfl)]
  exact kk
theorem pw_putr {a b ci k idx n : Nat} {ty : FieldType} (hg : pm_PR M.1 idx ci k ty) (hd : decode M.2.1 pc = .ok (.putfield idx, 3)) (hs : S a = (ci, n)) (kk : PW G d M (pc + 3) ls st (t, sl, gh S V (up2 P a k (some b)) A B Q) r h') : PW G d M pc ls (.ref b :: .ref a :: st) (t, sl, gh S V P A B Q) r h' := pw_putq (o := some b) hg hd hs kk
theorem pw_ald {a n j : Nat} {i : Int32} (hd : decode M.2.1 pc = .ok (.iaload, 1)) (hs : S a = (20, n)) (hj : i.toInt = (j : Int)) (hl : j < n) (kk : PW G d M (pc + 1) ls (.int (A a j) :: st) (t, sl, gh S V P A B Q) r h') : PW G d M pc ls (.int i :: .ref a :: st) (t, sl, gh S V P A B Q) r h' :=
  pw_iaload hd (gh_int hs) (ix_in hj hl) (by rw [ix_nat hj]; exact kk)
theorem pw_bld {a n j : Nat} {i : Int32} (hd : decode M.2.1 pc = .ok (.baload, 1)) (hs : S a = (21, n)) (hj : i.toInt = (j : Int)) (hl : j < n) (kk : PW G d M (pc + 1) ls (.int (A a j) :: st) (t, sl, gh S V P A B Q) r h') : PW G d M pc ls (.int i :: .ref a :: st) (t, sl, gh S V P A B Q) r h' :=
  pw_baload hd (gh_byte hs) (ix_in hj hl) (by rw [ix_nat hj]; exact kk)
theorem pw_zld {a n j : Nat} {i : Int32} (hd : decode M.2.1 pc = .ok (.baload, 1)) (hs : S a = (23, n)) (hj : i.toInt = (j : Int)) (hl : j < n) (kk : PW G d M (pc + 1) ls (.int (A a j) :: st) (t, sl, gh S V P A B Q) r h') : PW G d M pc ls (.int i :: .ref a :: st) (t, sl, gh S V P A B Q) r h' :=
  pw_zaload hd (gh_bool hs) (ix_in hj hl) (by rw [ix_nat hj]; exact kk)
theorem pw_lld {a n j : Nat} {i : Int32} (hd : decode M.2.1 pc = .ok (.laload, 1)) (hs : S a = (22, n)) (hj : i.toInt = (j : Int)) (hl : j < n) (kk : PW G d M (pc + 1) ls (.long (B a j) :: st) (t, sl, gh S V P A B Q) r h') : PW G d M pc ls (.int i :: .ref a :: st) (t, sl, gh S V P A B Q) r h' :=
  pw_laload hd (gh_long hs) (ix_in hj hl) (by rw [ix_nat hj]; exact kk)
theorem pw_qld {a n j q : Nat} {i : Int32} (hd : decode M.2.1 pc = .ok (.aaload, 1)) (hs : S a = (q + 20, n)) (hq : 4 ≤ q ∧ q < 9) (hj : i.toInt = (j : Int)) (hl : j < n) (kk : PW G d M (pc + 1) ls (va_rf (Q a j) :: st) (t, sl, gh S V P A B Q) r h') : PW G d M pc ls (.int i :: .ref a :: st) (t, sl, gh S V P A B Q) r h' :=
  pw_aaload hd (gh_ref hs hq) hq (ix_in hj hl) (by rw [ix_nat hj]; exact kk)
theorem pw_qldr {a b n j q : Nat} {i : Int32} (hd : decode M.2.1 pc = .ok (.aaload, 1)) (hs : S a = (q + 20, n)) (hq : 4 ≤ q ∧ q < 9) (hj : i.toInt = (j : Int)) (hl : j < n) (hb : Q a j = some b) (kk : PW G d M (pc + 1) ls (.ref b :: st) (t, sl, gh S V P A B Q) r h') : PW G d M pc ls (.int i :: .ref a :: st) (t, sl, gh S V P A B Q) r h' :=
  pw_qld hd hs hq hj hl (by rw [hb]; exact kk)
theorem pw_len {a n q : Nat} (hd : decode M.2.1 pc = .ok (.arraylength, 1)) (hs : S a = (q + 20, n)) (hq : q < 9) (kk : PW G d M (pc + 1) ls (.int (Int32.ofNat n) :: st) (t, sl, gh S V P A B Q) r h') : PW G d M pc ls (.ref a :: st) (t, sl, gh S V P A B Q) r h' := by
  rcases (show q = 0 ∨ q = 1 ∨ q = 2 ∨ q = 3 ∨ (4 ≤ q ∧ q < 9) by omega) with rfl | rfl | rfl | rfl | h4
  · exact pw_alen hd (gh_int hs) (by decide) kk
  · exact pw_alen hd (gh_byte hs) (by decide) kk
  · exact pw_alen hd (gh_long hs) (by decide) kk
  · exact pw_alen hd (gh_bool hs) (by decide) kk
  · exact pw_alen hd (gh_ref hs h4) hq kk
theorem pw_ast {a n j : Nat} {i x : Int32} (hd : decode M.2.1 pc = .ok (.iastore, 1)) (hs : S a = (20, n)) (hj : i.toInt = (j : Int)) (hl : j < n) (kk : PW G d M (pc + 1) ls st (t, sl, gh S V P (up2 A a j x) B Q) r h') : PW G d M pc ls (.int x :: .int i :: .ref a :: st) (t, sl, gh S V P A B Q) r h' := by
  refine pw_iastore hd (gh_int hs) (ix_in hj hl) ?_
  have e : (.inl (0, n, .inl (pm_up (A a) i.toNatClampNeg x)) : Pe) = gh S V P (up2 A a j x) B Q a := by
    rw [gh_int hs, ix_nat hj, up2_at]
  rw [e, gh_congr (fun _ _ => rfl) (fun _ _ => rfl) (fun b hb => up2_na hb) (fun _ _ => rfl) (fun _ _ => rfl)]
  exact kk
theorem pw_bst {a n j : Nat} {i x : Int32} (hd : decode M.2.1 pc = .ok (.bastore, 1)) (hs : S a = (21, n)) (hj : i.toInt = (j : Int)) (hl : j < n) (kk : PW G d M (pc + 1) ls st (t, sl, gh S V P (up2 A a j x.toInt8.toInt32) B Q) r h') : PW G d M pc ls (.int x :: .int i :: .ref a :: st) (t, sl, gh S V P A B Q) r h' := by
  refine pw_bastore hd (gh_byte hs) (ix_in hj hl) ?_
  have e : (.inl (1, n, .inl (pm_up (A a) i.toNatClampNeg (vp_nar .byte x))) : Pe) = gh S V P (up2 A a j x.toInt8.toInt32) B Q a := by
    rw [gh_byte hs, ix_nat hj, up2_at, vp_nar_byte]
  rw [e, gh_congr (fun _ _ => rfl) (fun _ _ => rfl) (fun b hb => up2_na hb) (fun _ _ => rfl) (fun _ _ => rfl)]
  exact kk
theorem pw_zst {a n j : Nat} {i x : Int32} (hd : decode M.2.1 pc = .ok (.bastore, 1)) (hs : S a = (23, n)) (hj : i.toInt = (j : Int)) (hl : j < n) (hx : x &&& 1 = x) (kk : PW G d M (pc + 1) ls st (t, sl, gh S V P (up2 A a j x) B Q) r h') : PW G d M pc ls (.int x :: .int i :: .ref a :: st) (t, sl, gh S V P A B Q) r h' := by
  refine pw_zastore hd (gh_bool hs) (ix_in hj hl) ?_
  have e : (.inl (3, n, .inl (pm_up (A a) i.toNatClampNeg (vp_nar .boolean x))) : Pe) = gh S V P (up2 A a j x) B Q a := by
    rw [gh_bool hs, ix_nat hj, up2_at, show vp_nar .boolean x = x &&& 1 from rfl, hx]
  rw [e, gh_congr (fun _ _ => rfl) (fun _ _ => rfl) (fun b hb => up2_na hb) (fun _ _ => rfl) (fun _ _ => rfl)]
  exact kk
theorem pw_lst {a n j : Nat} {i : Int32} {x : Int64} (hd : decode M.2.1 pc = .ok (.lastore, 1)) (hs : S a = (22, n)) (hj : i.toInt = (j : Int)) (hl : j < n) (kk : PW G d M (pc + 1) ls st (t, sl, gh S V P A (up2 B a j x) Q) r h') : PW G d M pc ls (.long x :: .int i :: .ref a :: st) (t, sl, gh S V P A B Q) r h' := by
  refine pw_lastore hd (gh_long hs) (ix_in hj hl) ?_
  have e : (.inl (2, n, .inr (.inl (pm_up (B a) i.toNatClampNeg x))) : Pe) = gh S V P A (up2 B a j x) Q a := by
    rw [gh_long hs, ix_nat hj, up2_at]
  rw [e, gh_congr (fun _ _ => rfl) (fun _ _ => rfl) (fun _ _ => rfl) (fun b hb => up2_na hb) (fun _ _ => rfl)]
  exact kk
theorem pw_inv {M' : mT} {n ci a q idx : Nat} {as rest : List Value} {ls0 : List (Option Value)} {r1 : Option Value} {h1 : Ph} {T0 : u_T} {N0 : Nat} (hm : pm_MW M' n) (hv : pm_LV M.1.cls idx M') (h0 : vwCl[ci]? = some (M'.1.cls, T0, N0)) (hd : decode M.2.1 pc = .ok (.invokevirtual idx, 3)) (hs : S a = (ci, q)) (hn : as.length = n)
    (hls : pm_al (.ref a :: as) ++ List.replicate (M'.2.2.1 - (pm_al (.ref a :: as)).length) none = ls0) (hen : (pm_al (.ref a :: as)).length ≤ M'.2.2.1) (hst : st = as.reverse ++ .ref a :: rest) (hrest : (rest.map fun v => v.category).sum ≤ 8)
    (kc : PW G d M' 0 ls0 [] (t, sl, gh S V P A B Q) r1 h1) (k : PW G (d + 1) M (pc + 3) ls (r1.toList ++ rest) h1 r h') : PW G (d + 1) M pc ls st (t, sl, gh S V P A B Q) r h' :=
  pw_invokevirtual hm hv hd h0 (gh_obj hs (pm_ci h0)) hn hls hen hst hrest kc k
end PW8
