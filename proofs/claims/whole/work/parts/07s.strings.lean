/-! ===== the String constants: their bytes, the JDK's own methods over them ===== -/
theorem pm_adK (G : gT) {i : Nat} (hi : i < 3) : pm_ad G (i + 1) = G.2.2.2.2.2.1 i := by
  rcases (show i = 0 ∨ i = 1 ∨ i = 2 by omega) with rfl | rfl | rfl <;> rfl
theorem pm_adV (G : gT) {i : Nat} (hi : i < 3) : pm_ad G (i + 4) = G.2.2.2.2.2.2 i := by
  rcases (show i = 0 ∨ i = 1 ∨ i = 2 by omega) with rfl | rfl | rfl <;> rfl
section PWS
variable {G : gT} {d : Nat} {M M' : mT} {pc idx n : Nat} {ls : List (Option Value)} {st rest : List Value} {h h1 h' : Ph} {r r1 : Option Value} {as : List Value} {ls0 : List (Option Value)}
theorem pw_getsC (hw : Cond.fieldLink M.1.cls idx "java/lang/String" "COMPACT_STRINGS" "Z" ∈ GT) (hd : decode M.2.1 pc = .ok (.getstatic idx, 3)) (k : PW G d M (pc + 3) ls (.int 1 :: st) h r h') : PW G d M pc ls st h r h' := by
  refine ⟨k.1, ?_⟩
  intro p e R s m args below meth c H locs cells slots lsA Q C hS hR hL hz h1 h2 hQ
  exact va_gets C.1 C.2.1 C.2.2.2.2.2.1.2.2.2.2.2.2.1.1 hS C.2.2.2.1 (C.2.2.2.2.1 _ hw) (fun x hx => hx) hd (k.2 p e R s m args below meth c H locs cells slots lsA Q C hS hR hL hz h1 h2 hQ)
theorem pw_getsF (hw : Cond.fieldLink M.1.cls idx "jdk/internal/util/Preconditions" "SIOOBE_FORMATTER" "Ljava/util/function/BiFunction;" ∈ GT) (hd : decode M.2.1 pc = .ok (.getstatic idx, 3)) (k : PW G d M (pc + 3) ls (pm_fm G :: st) h r h') : PW G d M pc ls st h r h' := by
  refine ⟨k.1, ?_⟩
  intro p e R s m args below meth c H locs cells slots lsA Q C hS hR hL hz h1 h2 hQ
  exact va_gets C.1 C.2.1 C.2.2.2.2.2.1.2.2.2.2.2.2.1.2 hS C.2.2.2.1 (C.2.2.2.2.1 _ hw) (fun x hx => hx) hd (k.2 p e R s m args below meth c H locs cells slots lsA Q C hS hR hL hz h1 h2 hQ)
theorem pw_getSv {i : Nat} (hi : i < 3) (hw : Cond.fieldLink M.1.cls idx "java/lang/String" "value" "[B" ∈ GT) (hd : decode M.2.1 pc = .ok (.getfield idx, 3)) (k : PW G d M (pc + 3) ls (.ref (i + 4) :: st) h r h') : PW G d M pc ls (.ref (i + 1) :: st) h r h' := by
  refine ⟨k.1, ?_⟩
  intro p e R s m args below meth c H locs cells slots lsA Q C hS hR hL hz h1 h2 hQ
  have kk := k.2 p e R s m args below meth c H locs cells slots lsA Q C hS hR hL hz h1 h2 hQ
  have hE := (C.2.2.2.2.2.1.2.2.2.2.2.1.1 i hi).2.2.1
  rw [← pm_adK G hi, ← pm_adV G hi] at hE
  exact vk_getf C.1 C.2.1 hE hS C.2.2.2.1 (C.2.2.2.2.1 _ hw) (fun x hx => hx) hd kk
theorem pw_getSc {i : Nat} (hi : i < 3) (hw : Cond.fieldLink M.1.cls idx "java/lang/String" "coder" "B" ∈ GT) (hd : decode M.2.1 pc = .ok (.getfield idx, 3)) (k : PW G d M (pc + 3) ls (.int 0 :: st) h r h') : PW G d M pc ls (.ref (i + 1) :: st) h r h' := by
  refine ⟨k.1, ?_⟩
  intro p e R s m args below meth c H locs cells slots lsA Q C hS hR hL hz h1 h2 hQ
  have kk := k.2 p e R s m args below meth c H locs cells slots lsA Q C hS hR hL hz h1 h2 hQ
  have hE := (C.2.2.2.2.2.1.2.2.2.2.2.1.1 i hi).2.1
  rw [← pm_adK G hi] at hE
  exact vk_getf C.1 C.2.1 hE hS C.2.2.2.1 (C.2.2.2.2.1 _ hw) (fun x hx => hx) hd kk
theorem pw_lenS {i : Nat} (hi : i < 3) (hd : decode M.2.1 pc = .ok (.arraylength, 1)) (k : PW G d M (pc + 1) ls (.int (Int32.ofNat (pm_len.getD i 0)) :: st) h r h') : PW G d M pc ls (.ref (i + 4) :: st) h r h' := by
  refine ⟨k.1, ?_⟩
  intro p e R s m args below meth c H locs cells slots lsA Q C hS hR hL hz h1 h2 hQ
  have kk := k.2 p e R s m args below meth c H locs cells slots lsA Q C hS hR hL hz h1 h2 hQ
  have hE := (C.2.2.2.2.2.1.2.2.2.2.2.1.1 i hi).2.2.2
  rw [← pm_adV G hi] at hE
  exact va_tlen C.1 C.2.1 hE hS rfl hd kk
theorem pw_bldS {i j : Nat} {q : Int32} (hi : i < 3) (hd : decode M.2.1 pc = .ok (.baload, 1)) (hj : q.toInt = (j : Int)) (hl : j < pm_len.getD i 0) (k : PW G d M (pc + 1) ls (.int ((pm_byt.getD i []).getD j 0) :: st) h r h') : PW G d M pc ls (.int q :: .ref (i + 4) :: st) h r h' := by
  refine ⟨k.1, ?_⟩
  intro p e R s m args below meth c H locs cells slots lsA Q C hS hR hL hz h1 h2 hQ
  have kk := k.2 p e R s m args below meth c H locs cells slots lsA Q C hS hR hL hz h1 h2 hQ
  have hE := (C.2.2.2.2.2.1.2.2.2.2.2.1.1 i hi).2.2.2
  rw [← pm_adV G hi] at hE
  have hq : q.toNatClampNeg = j := by
    show q.toInt.toNat = j
    omega
  have hin : vp_in q (pm_len.getD i 0) := vp_in_iff.mpr ⟨by omega, by omega⟩
  exact va_tb C.1 C.2.1 hE hS hin (v := .int ((pm_byt.getD i []).getD j 0)) (by rw [hq]) hd kk
theorem pw_ldcS0 (ho : M.1.cls = RX6) (hd : decode M.2.1 pc = .ok (.ldc 107, 2)) (k : PW G d M (pc + 2) ls (.ref 1 :: st) h r h') : PW G d M pc ls st h r h' := by
  refine ⟨k.1, ?_⟩
  intro p e R s m args below meth c H locs cells slots lsA Q C hS hR hL hz h1 h2 hQ
  exact va_ldcS C.1 C.2.1 (ho ▸ C.2.2.2.1) C.2.2.2.2.2.1.2.2.2.1.1 hd (k.2 p e R s m args below meth c H locs cells slots lsA Q C hS hR hL hz h1 h2 hQ)
theorem pw_ldcS1 (ho : M.1.cls = RX12) (hd : decode M.2.1 pc = .ok (.ldc 96, 2)) (k : PW G d M (pc + 2) ls (.ref 2 :: st) h r h') : PW G d M pc ls st h r h' := by
  refine ⟨k.1, ?_⟩
  intro p e R s m args below meth c H locs cells slots lsA Q C hS hR hL hz h1 h2 hQ
  exact va_ldcS C.1 C.2.1 (ho ▸ C.2.2.2.1) C.2.2.2.2.2.1.2.2.2.1.2.1 hd (k.2 p e R s m args below meth c H locs cells slots lsA Q C hS hR hL hz h1 h2 hQ)
theorem pw_ldcS2 (ho : M.1.cls = RX12) (hd : decode M.2.1 pc = .ok (.ldc 134, 2)) (k : PW G d M (pc + 2) ls (.ref 3 :: st) h r h') : PW G d M pc ls st h r h' := by
  refine ⟨k.1, ?_⟩
  intro p e R s m args below meth c H locs cells slots lsA Q C hS hR hL hz h1 h2 hQ
  exact va_ldcS C.1 C.2.1 (ho ▸ C.2.2.2.1) C.2.2.2.2.2.1.2.2.2.1.2.2 hd (k.2 p e R s m args below meth c H locs cells slots lsA Q C hS hR hL hz h1 h2 hQ)
theorem pw_i2c {x : Int32} (hd : decode M.2.1 pc = .ok (.i2c, 1)) (k : PW G d M (pc + 1) ls (.int (x.toUInt32 % 65536).toInt32 :: st) h r h') : PW G d M pc ls (.int x :: st) h r h' := by
  refine ⟨k.1, ?_⟩
  intro p e R s m args below meth c H locs cells slots lsA Q C hS hR hL hz h1 h2 hQ
  exact lv_i2c C.1 C.2.1 hd rfl (k.2 p e R s m args below meth c H locs cells slots lsA Q C hS hR hL hz h1 h2 hQ)
theorem pw_invokeS {i : Nat} (hi : i < 3) (hcl : M'.1.cls = "java/lang/String") (hm : pm_MW M' n) (hv : pm_LV M.1.cls idx M') (hd : decode M.2.1 pc = .ok (.invokevirtual idx, 3)) (hn : as.length = n)
    (hls : pm_al (.ref (i + 1) :: as) ++ List.replicate (M'.2.2.1 - (pm_al (.ref (i + 1) :: as)).length) none = ls0) (hen : (pm_al (.ref (i + 1) :: as)).length ≤ M'.2.2.1) (hst : st = as.reverse ++ .ref (i + 1) :: rest) (hrest : (rest.map fun v => v.category).sum ≤ 8)
    (kc : PW G d M' 0 ls0 [] h r1 h1) (k : PW G (d + 1) M (pc + 3) ls (r1.toList ++ rest) h1 r h') : PW G (d + 1) M pc ls st h r h' := by
  subst hst
  refine ⟨⟨Nat.le_trans kc.1.1 k.1.1, Nat.le_trans kc.1.2 k.1.2⟩, ?_⟩
  intro p e R s m args below meth c H locs cells slots lsA Q C hS hR hL hz g1 g2 hQ
  refine pm_size C.2.2.2.2.2.1 hS hR hz fun hsz => ?_
  have hfr : d + 1 ≤ R.frames := C.2.2.2.2.2.2.1
  have hlo : 64 * (d + 1) ≤ R.locals := C.2.2.2.2.2.2.2.1
  have hM := pm_met hm.1 hls hen kc
  have hmx : M'.2.2.1 ≤ 44 := hm.2.2.2.2
  have hk1 := kc.1
  have hk2 := k.1
  have hrec0 := vk_recv C.2.2.2.2.2.1.2.2.2.2.2.1 hi hS
  have hrec : ∃ cell : Cell, H[pm_ad G (i + 1)]? = some cell ∧ cell.vm.isStatics = false ∧ s.vm.findClass M'.1.cls = some cell.cls := by
    rw [hcl, pm_adK G hi]
    exact hrec0
  have hsum : ((rest.map (pm_v G)).map fun v => v.category).sum ≤ 8 := by rw [pm_v_sum]; exact hrest
  have hrun : va_Run p G.1 e R s m args below meth c H locs cells slots (h1.1 - h.1) (h1.2.1 - h.2.1) (F0 m pc lsA ((as.reverse ++ .ref (i + 1) :: rest).map (pm_v G))) (rest.map (pm_v G)) (pm_Q G r1 h1 (Value.ref (pm_ad G (i + 1)) :: as.map (pm_v G)).toArray) (pm_A G) := va_runV (g := F0 m pc lsA ((as.reverse ++ .ref (i + 1) :: rest).map (pm_v G))) (As := as.map (pm_v G)) (rest := rest.map (pm_v G)) (b := pm_ad G (i + 1)) (Ts := GT) ⟨C.1, C.2.1, C.2.2.1, C.2.2.2.1, C.2.2.2.2.1⟩ hM
    ⟨callB_of (R := R) n C.2.2.2.2.1 (pm_good hm) rfl rfl rfl (C.2.2.2.2.1 _ hm.2.2.1) (C.2.2.2.2.1 _ hv.2.2) hm.2.1 ⟨by show d + 1 ≤ R.frames; exact hfr, by show 8 + (M'.2.2.1 + 11) + 64 * d ≤ R.locals; omega⟩, C.2.2.2.2.1 _ hv.1, C.2.2.2.2.1 _ hv.2.1⟩
    ⟨pm_blind G _ _, hrec, fun U hU hW => ⟨rfl, by rw [hU]; exact hR, by rw [hU, hsz]; exact Nat.le_refl _, C.2.2.2.2.2.1.moved hW (fun q b1 b2 => by rw [hU]; exact hS.2.1 q b1 b2) (by rw [hU]; exact hS.1)⟩⟩
    rfl (by rw [List.length_map]; exact hn) hL.1 (by show (as.reverse ++ .ref (i + 1) :: rest).map (pm_v G) = _; rw [List.map_append, List.map_reverse]; rfl) (by show 2 * 0 + _ ≤ 8; omega) hd ⟨by omega, by omega⟩
  refine pm_callk hrun hS fun H1 locs1 hR1 hS1 => ?_
  have kk := k.2 p e R s m args below meth c H1 locs1 (cells + (h1.1 - h.1)) (slots + (h1.2.1 - h.2.1)) lsA Q C hS1 hR1 hL (by have := hR.1; omega) (by omega) (by omega) hQ
  rw [List.map_append] at kk
  cases r1 <;> exact kk
end PWS
