/-! ===== the String constants: length and charAt ===== -/
section PWT
variable {G : gT} {d : Nat} {M M' : mT} {pc idx : Nat} {ls : List (Option Value)} {rest : List Value} {h h1 h' : Ph} {r : Option Value} {ls0 : List (Option Value)}
theorem pw_S0 {i : Nat} {v : Value} (hi : i < 3) (hcl : M'.1.cls = "java/lang/String") (hm : pm_MW M' 0) (hv : pm_LV M.1.cls idx M') (hd : decode M.2.1 pc = .ok (.invokevirtual idx, 3)) (kc : PW G d M' 0 ls0 [] h (some v) h1) (hls : pm_en M' [.ref (i + 1)] = ls0) (hen : (pm_al [.ref (i + 1)]).length ≤ M'.2.2.1) (hrest : (rest.map fun v => v.category).sum ≤ 8) (k : PW G (d + 1) M (pc + 3) ls (v :: rest) h1 r h') : PW G (d + 1) M pc ls (.ref (i + 1) :: rest) h r h' := pw_invokeS (as := []) hi hcl hm hv hd rfl hls hen rfl hrest kc k
theorem pw_S1 {i : Nat} {x0 v : Value} (hi : i < 3) (hcl : M'.1.cls = "java/lang/String") (hm : pm_MW M' 1) (hv : pm_LV M.1.cls idx M') (hd : decode M.2.1 pc = .ok (.invokevirtual idx, 3)) (kc : PW G d M' 0 ls0 [] h (some v) h1) (hls : pm_en M' [.ref (i + 1), x0] = ls0) (hen : (pm_al [.ref (i + 1), x0]).length ≤ M'.2.2.1) (hrest : (rest.map fun v => v.category).sum ≤ 8) (k : PW G (d + 1) M (pc + 3) ls (v :: rest) h1 r h') : PW G (d + 1) M pc ls (x0 :: .ref (i + 1) :: rest) h r h' := pw_invokeS (as := [x0]) hi hcl hm hv hd rfl hls hen rfl hrest kc k
end PWT
theorem lJ0_335 : pm_LV RJ0 335 mJ0_coder_7d493 := ⟨(gt_3 (List.mem_of_getElem? (i := 56) rfl) rfl), (gt_3 (List.mem_of_getElem? (i := 57) rfl) rfl), (gt_3 (List.mem_of_getElem? (i := 55) rfl) rfl)⟩
theorem lJ0_492 : pm_LV RJ0 492 mJ0_isLatin1_aae02 := ⟨(gt_3 (List.mem_of_getElem? (i := 66) rfl) rfl), (gt_3 (List.mem_of_getElem? (i := 67) rfl) rfl), (gt_3 (List.mem_of_getElem? (i := 65) rfl) rfl)⟩
theorem lJ0_495 : pm_LS RJ0 495 mJ1_charAt_3b067 := ⟨(gt_3 (List.mem_of_getElem? (i := 70) rfl) rfl), Or.inl (gt_3 (List.mem_of_getElem? (i := 69) rfl) rfl)⟩
theorem lJ0_1059 : pm_LS RJ0 1059 mJ3_checkIndex_8e157 := ⟨(gt_3 (List.mem_of_getElem? (i := 78) rfl) rfl), Or.inl (gt_3 (List.mem_of_getElem? (i := 77) rfl) rfl)⟩
theorem lJ1_9 : pm_LS RJ1 9 mJ0_checkIndex_df160 := ⟨(gt_3 (List.mem_of_getElem? (i := 73) rfl) rfl), Or.inl (gt_3 (List.mem_of_getElem? (i := 72) rfl) rfl)⟩
set_option maxRecDepth 20000 in
theorem c_coder {G : gT} {d : Nat} {h : Ph} {i : Nat} (hi : i < 3) : PW G d mJ0_coder_7d493 0 [some (.ref (i + 1))] [] h (some (.int 0)) h := by
  refine pw_getsC (gt_3 (List.mem_of_getElem? (i := 59) rfl) rfl) dJ0_coder_7d493_0 ?_
  refine pw_if_eq (tgt := 13) dJ0_coder_7d493_3 (by decide) (fun c3 => absurd c3 (by decide)) (fun c3 => ?_)
  refine pw_aload0 dJ0_coder_7d493_6 ?_
  refine pw_getSc hi (gt_8 (List.mem_of_getElem? (i := 236) rfl) rfl) dJ0_coder_7d493_7 ?_
  refine pw_goto (tgt := 14) dJ0_coder_7d493_10 (by decide) ?_
  exact pw_iret dJ0_coder_7d493_14 rfl rfl rfl rfl
set_option maxRecDepth 20000 in
theorem c_isLatin1 {G : gT} {d : Nat} {h : Ph} {i : Nat} (hi : i < 3) : PW G d mJ0_isLatin1_aae02 0 [some (.ref (i + 1))] [] h (some (.int 1)) h := by
  refine pw_getsC (gt_3 (List.mem_of_getElem? (i := 59) rfl) rfl) dJ0_isLatin1_aae02_0 ?_
  refine pw_if_eq (tgt := 17) dJ0_isLatin1_aae02_3 (by decide) (fun c3 => absurd c3 (by decide)) (fun c3 => ?_)
  refine pw_aload0 dJ0_isLatin1_aae02_6 ?_
  refine pw_getSc hi (gt_8 (List.mem_of_getElem? (i := 236) rfl) rfl) dJ0_isLatin1_aae02_7 ?_
  refine pw_if_ne (tgt := 17) dJ0_isLatin1_aae02_10 (by decide) (fun c10 => absurd rfl c10) (fun c10 => ?_)
  refine pw_iconst (v := 1) dJ0_isLatin1_aae02_13 (by decide) ?_
  refine pw_goto (tgt := 18) dJ0_isLatin1_aae02_14 (by decide) ?_
  exact pw_iret dJ0_isLatin1_aae02_18 rfl rfl rfl rfl
theorem pm_shr0 : ∀ i, i < 3 → (Int32.ofNat (pm_len.getD i 0)) >>> ((0 : Int32) &&& 31) = nI (pm_len.getD i 0) := by decide +kernel
set_option maxRecDepth 20000 in
theorem c_strLen {G : gT} {d : Nat} {h : Ph} {i : Nat} (hi : i < 3) : PW G (d + 1) mJ0_length_8abf5 0 [some (.ref (i + 1))] [] h (some (.int (nI (pm_len.getD i 0)))) h := by
  refine pw_aload0 dJ0_length_8abf5_0 ?_
  refine pw_getSv hi (gt_8 (List.mem_of_getElem? (i := 235) rfl) rfl) dJ0_length_8abf5_1 ?_
  refine pw_lenS hi dJ0_length_8abf5_4 ?_
  refine pw_aload0 dJ0_length_8abf5_5 ?_
  refine pw_S0 (i := i) hi rfl wJ0_coder_7d493 lJ0_335 dJ0_length_8abf5_6 (c_coder hi) rfl (Nat.le_of_ble_eq_true rfl) (Nat.le_of_ble_eq_true rfl) ?_
  refine pw_ishr dJ0_length_8abf5_9 ?_
  rw [pm_shr0 i hi]
  exact pw_iret dJ0_length_8abf5_10 rfl rfl rfl rfl
set_option maxRecDepth 20000 in
theorem c_pre {G : gT} {d : Nat} {h : Ph} {j n : Nat} {x : Value} (hj : j < n) (hn : n < 1000) : PW G d mJ3_checkIndex_8e157 0 [some (.int (nI j)), some (.int (nI n)), some x] [] h (some (.int (nI j))) h := by
  refine pw_iload0 dJ3_checkIndex_8e157_0 ?_
  refine pw_if_lt (tgt := 9) dJ3_checkIndex_8e157_1 (by decide) (fun c1 => absurd c1 (by rw [lt_i (ix_n (j := j) (by omega)) li_0]; omega)) (fun c1 => ?_)
  refine pw_iload0 dJ3_checkIndex_8e157_4 ?_
  refine pw_iload1 dJ3_checkIndex_8e157_5 ?_
  refine pw_icmp_lt (tgt := 16) dJ3_checkIndex_8e157_6 (by decide) (fun c6 => ?_) (fun c6 => absurd (by rw [lt_i (ix_n (j := j) (by omega)) (ix_n (j := n) (by omega))]; omega) c6)
  refine pw_iload0 dJ3_checkIndex_8e157_16 ?_
  exact pw_iret dJ3_checkIndex_8e157_17 rfl rfl rfl rfl
theorem pm_en_fm (G : gT) (x y : Int32) : pm_en mJ3_checkIndex_8e157 [.int x, .int y, pm_fm G] = [some (.int x), some (.int y), some (pm_fm G)] := by
  unfold pm_fm
  split <;> rfl
theorem pm_al_fm (G : gT) (x y : Int32) : (pm_al [.int x, .int y, pm_fm G]).length ≤ mJ3_checkIndex_8e157.2.2.1 := by
  unfold pm_fm
  split <;> exact Nat.le_of_ble_eq_true rfl
set_option maxRecDepth 20000 in
theorem c_chk {G : gT} {d : Nat} {h : Ph} {j n : Nat} (hj : j < n) (hn : n < 1000) : PW G (d + 1) mJ0_checkIndex_df160 0 [some (.int (nI j)), some (.int (nI n))] [] h none h := by
  refine pw_iload0 dJ0_checkIndex_df160_0 ?_
  refine pw_iload1 dJ0_checkIndex_df160_1 ?_
  refine pw_getsF (gt_3 (List.mem_of_getElem? (i := 75) rfl) rfl) dJ0_checkIndex_df160_2 ?_
  refine pw_s3i wJ3_checkIndex_8e157 lJ0_1059 dJ0_checkIndex_df160_5 (c_pre hj hn) (pm_en_fm G _ _) (pm_al_fm G _ _) (Nat.le_of_ble_eq_true rfl) ?_
  refine pw_pop dJ0_checkIndex_df160_8 rfl ?_
  exact pw_vret dJ0_checkIndex_df160_9 rfl rfl rfl
def sch (i j : Nat) : Int32 := (pm_byt.getD i []).getD j 0
theorem sch_ok : ∀ i, i < 3 → ∀ j, j < pm_len.getD i 0 → (((sch i j) &&& 255).toUInt32 % 65536).toInt32 = sch i j ∧ narrow .char (.int (sch i j)) = .int (sch i j) := by decide +kernel
theorem len_lt : ∀ i, i < 3 → pm_len.getD i 0 < 1000 := by decide
set_option maxRecDepth 20000 in
theorem c_lat {G : gT} {d : Nat} {h : Ph} {i : Nat} (hi : i < 3) {j : Nat} (hj : j < pm_len.getD i 0) : PW G (d + 2) mJ1_charAt_3b067 0 [some (.ref (i + 4)), some (.int (nI j))] [] h (some (.int (sch i j))) h := by
  refine pw_iload1 dJ1_charAt_3b067_0 ?_
  refine pw_aload0 dJ1_charAt_3b067_1 ?_
  refine pw_lenS hi dJ1_charAt_3b067_2 ?_
  refine pw_s2v wJ0_checkIndex_df160 lJ1_9 dJ1_charAt_3b067_3 (c_chk hj (len_lt i hi)) rfl (Nat.le_of_ble_eq_true rfl) (Nat.le_of_ble_eq_true rfl) ?_
  refine pw_aload0 dJ1_charAt_3b067_6 ?_
  refine pw_iload1 dJ1_charAt_3b067_7 ?_
  refine pw_bldS (j := j) hi dJ1_charAt_3b067_8 (ix_n (by have := len_lt i hi; omega)) hj ?_
  refine pw_sipush (v := 255) dJ1_charAt_3b067_9 (by decide) ?_
  refine pw_iand dJ1_charAt_3b067_12 ?_
  refine pw_i2c dJ1_charAt_3b067_13 ?_
  rw [show (pm_byt.getD i []).getD j 0 = sch i j from rfl, (sch_ok i hi j hj).1]
  exact pw_iret dJ1_charAt_3b067_14 rfl (sch_ok i hi j hj).2 rfl rfl
set_option maxRecDepth 20000 in
theorem c_strAt {G : gT} {d : Nat} {h : Ph} {i : Nat} (hi : i < 3) {j : Nat} (hj : j < pm_len.getD i 0) : PW G (d + 3) mJ0_charAt_5068e 0 [some (.ref (i + 1)), some (.int (nI j))] [] h (some (.int (sch i j))) h := by
  refine pw_aload0 dJ0_charAt_5068e_0 ?_
  refine pw_S0 (i := i) hi rfl wJ0_isLatin1_aae02 lJ0_492 dJ0_charAt_5068e_1 (c_isLatin1 hi) rfl (Nat.le_of_ble_eq_true rfl) (Nat.le_of_ble_eq_true rfl) ?_
  refine pw_if_eq (tgt := 16) dJ0_charAt_5068e_4 (by decide) (fun c4 => absurd c4 (by decide)) (fun c4 => ?_)
  refine pw_aload0 dJ0_charAt_5068e_7 ?_
  refine pw_getSv hi (gt_8 (List.mem_of_getElem? (i := 235) rfl) rfl) dJ0_charAt_5068e_8 ?_
  refine pw_iload1 dJ0_charAt_5068e_11 ?_
  refine pw_s2i wJ1_charAt_3b067 lJ0_495 dJ0_charAt_5068e_12 (c_lat hi hj) rfl (Nat.le_of_ble_eq_true rfl) (Nat.le_of_ble_eq_true rfl) ?_
  exact pw_iret dJ0_charAt_5068e_15 rfl (sch_ok i hi j hj).2 rfl rfl
