set_option maxRecDepth 20000 in
theorem k_jModel {G : gT} {d : Nat} {S : sS} {V : sV} {P : sP} {A : sV} {B : sB} {Q : sP} {sl : Nat} (hS : S 138 = (12, 0)) : WQ G (d + 2) mX12_init 0 [some (.ref 138)] [] (139, sl, gh S V P A B Q) (fun r h' => r = none ∧ ∃ A' : sV, h' = (161, sl + 3492 + 2 + 900 + 1164 + 900 + 8 + 12300 + 2665 + 12 + 12 + 17 + 205 + 205 + 8405 + 1312 + 41 + 41 + 41 + 41 + 4 + 4 + 160, gh (pm_up (pm_up (pm_up (pm_up (pm_up (pm_up (pm_up (pm_up (pm_up (pm_up (pm_up (pm_up (pm_up (pm_up (pm_up (pm_up (pm_up (pm_up (pm_up (pm_up (pm_up (pm_up S 139 (20, 3492)) 140 (23, 2)) 141 (20, 900)) 142 (20, 1164)) 143 (20, 900)) 144 (20, 8)) 145 (20, 12300)) 146 (20, 2665)) 147 (20, 12)) 148 (20, 12)) 149 (20, 17)) 150 (22, 205)) 151 (22, 205)) 152 (20, 8405)) 153 (20, 1312)) 154 (23, 41)) 155 (23, 41)) 156 (20, 41)) 157 (20, 41)) 158 (20, 4)) 159 (20, 4)) 160 (22, 160)) (up2 V 138 14 (-1)) (up2 (up2 (up2 (up2 (up2 (up2 (up2 (up2 (up2 (up2 (up2 (up2 (up2 (up2 (up2 (up2 (up2 (up2 (up2 (up2 (up2 (up2 P 138 1 (some 139)) 138 2 (some 140)) 138 3 (some 141)) 138 4 (some 142)) 138 15 (some 143)) 138 16 (some 144)) 138 17 (some 145)) 138 18 (some 146)) 138 19 (some 147)) 138 23 (some 148)) 138 25 (some 149)) 138 28 (some 150)) 138 29 (some 151)) 138 30 (some 152)) 138 31 (some 153)) 138 32 (some 154)) 138 33 (some 155)) 138 34 (some 156)) 138 35 (some 157)) 138 36 (some 158)) 138 37 (some 159)) 138 38 (some 160)) A' (pm_up (pm_up (pm_up B 150 (fun _ => 0)) 151 (fun _ => 0)) 160 (fun _ => 0)) Q) ∧ (∀ b, b ≠ 139 → A' b = (pm_up (up2 (up2 (up2 (up2 (pm_up (pm_up (pm_up (pm_up (pm_up (pm_up (pm_up (pm_up (pm_up (pm_up (pm_up (pm_up (pm_up (pm_up (pm_up (pm_up (pm_up (pm_up A 139 (fun _ => 0)) 140 (fun _ => 0)) 141 (fun _ => 0)) 142 (fun _ => 0)) 143 (fun _ => 0)) 144 (fun _ => 0)) 145 (fun _ => 0)) 146 (fun _ => 0)) 147 (fun _ => 0)) 148 (fun _ => 0)) 149 (fun _ => 0)) 152 (fun _ => 0)) 153 (fun _ => 0)) 154 (fun _ => 0)) 155 (fun _ => 0)) 156 (fun _ => 0)) 157 (fun _ => 0)) 158 (fun _ => 0)) 158 0 (-1)) 158 1 (-1)) 158 2 (-1)) 158 3 (-1)) 159 (fun _ => 0)) b) ∧ ∀ i, A' 139 i = 0) := by
  refine WQ.st (fun _ _ kz => pw_aload0 dX12_init_0 kz) ?_
  refine WQ.st (fun _ _ kz => pw_objInit lX12_7 gt_oi1 gt_oi2 dX12_init_1 (Nat.le_of_ble_eq_true rfl) (by omega) kz) ?_
  refine WQ.st (fun _ _ kz => pw_aload0 dX12_init_4 kz) ?_
  refine WQ.st (fun _ _ kz => pw_sipush (v := 3492) dX12_init_5 (by decide) kz) ?_
  refine WQ.st (fun _ _ kz => pw_nai (t := 139) (n := 3492) dX12_init_8 rfl (by decide) kz) ?_
  refine WQ.st (fun _ _ kz => pw_putr (pX12_13 _ rfl rfl) dX12_init_10 (by (repeat rw [pm_up_ne (by decide)]); exact hS) kz) ?_
  refine WQ.st (fun _ _ kz => pw_aload0 dX12_init_13 kz) ?_
  refine WQ.st (fun _ _ kz => pw_iconst (v := 2) dX12_init_14 (by decide) kz) ?_
  refine WQ.st (fun _ _ kz => pw_naz (t := 140) (n := 2) dX12_init_15 rfl (by decide) kz) ?_
  refine WQ.st (fun _ _ kz => pw_putr (pX12_17 _ rfl rfl) dX12_init_17 (by (repeat rw [pm_up_ne (by decide)]); exact hS) kz) ?_
  refine WQ.st (fun _ _ kz => pw_aload0 dX12_init_20 kz) ?_
  refine WQ.st (fun _ _ kz => pw_sipush (v := 900) dX12_init_21 (by decide) kz) ?_
  refine WQ.st (fun _ _ kz => pw_nai (t := 141) (n := 900) dX12_init_24 rfl (by decide) kz) ?_
  refine WQ.st (fun _ _ kz => pw_putr (pX12_21 _ rfl rfl) dX12_init_26 (by (repeat rw [pm_up_ne (by decide)]); exact hS) kz) ?_
  refine WQ.st (fun _ _ kz => pw_aload0 dX12_init_29 kz) ?_
  refine WQ.st (fun _ _ kz => pw_sipush (v := 1164) dX12_init_30 (by decide) kz) ?_
  refine WQ.st (fun _ _ kz => pw_nai (t := 142) (n := 1164) dX12_init_33 rfl (by decide) kz) ?_
  refine WQ.st (fun _ _ kz => pw_putr (pX12_24 _ rfl rfl) dX12_init_35 (by (repeat rw [pm_up_ne (by decide)]); exact hS) kz) ?_
  refine WQ.st (fun _ _ kz => pw_aload0 dX12_init_38 kz) ?_
  refine WQ.st (fun _ _ kz => pw_iconst (v := -1) dX12_init_39 (by decide) kz) ?_
  refine WQ.st (fun _ _ kz => pw_puti (pX12_27 _ rfl) dX12_init_40 (by (repeat rw [pm_up_ne (by decide)]); exact hS) rfl rfl kz) ?_
  refine WQ.st (fun _ _ kz => pw_aload0 dX12_init_43 kz) ?_
  refine WQ.st (fun _ _ kz => pw_sipush (v := 900) dX12_init_44 (by decide) kz) ?_
  refine WQ.st (fun _ _ kz => pw_nai (t := 143) (n := 900) dX12_init_47 rfl (by decide) kz) ?_
  refine WQ.st (fun _ _ kz => pw_putr (pX12_30 _ rfl rfl) dX12_init_49 (by (repeat rw [pm_up_ne (by decide)]); exact hS) kz) ?_
  refine WQ.st (fun _ _ kz => pw_aload0 dX12_init_52 kz) ?_
  refine WQ.st (fun _ _ kz => pw_bipush (v := 8) dX12_init_53 (by decide) kz) ?_
  refine WQ.st (fun _ _ kz => pw_nai (t := 144) (n := 8) dX12_init_55 rfl (by decide) kz) ?_
  refine WQ.st (fun _ _ kz => pw_putr (pX12_33 _ rfl rfl) dX12_init_57 (by (repeat rw [pm_up_ne (by decide)]); exact hS) kz) ?_
  refine WQ.st (fun _ _ kz => pw_aload0 dX12_init_60 kz) ?_
  refine WQ.st (fun _ _ kz => pw_sipush (v := 12300) dX12_init_61 (by decide) kz) ?_
  refine WQ.st (fun _ _ kz => pw_nai (t := 145) (n := 12300) dX12_init_64 rfl (by decide) kz) ?_
  refine WQ.st (fun _ _ kz => pw_putr (pX12_36 _ rfl rfl) dX12_init_66 (by (repeat rw [pm_up_ne (by decide)]); exact hS) kz) ?_
  refine WQ.st (fun _ _ kz => pw_aload0 dX12_init_69 kz) ?_
  refine WQ.st (fun _ _ kz => pw_sipush (v := 2665) dX12_init_70 (by decide) kz) ?_
  refine WQ.st (fun _ _ kz => pw_nai (t := 146) (n := 2665) dX12_init_73 rfl (by decide) kz) ?_
  refine WQ.st (fun _ _ kz => pw_putr (pX12_39 _ rfl rfl) dX12_init_75 (by (repeat rw [pm_up_ne (by decide)]); exact hS) kz) ?_
  refine WQ.st (fun _ _ kz => pw_aload0 dX12_init_78 kz) ?_
  refine WQ.st (fun _ _ kz => pw_bipush (v := 12) dX12_init_79 (by decide) kz) ?_
  refine WQ.st (fun _ _ kz => pw_nai (t := 147) (n := 12) dX12_init_81 rfl (by decide) kz) ?_
  refine WQ.st (fun _ _ kz => pw_putr (pX12_42 _ rfl rfl) dX12_init_83 (by (repeat rw [pm_up_ne (by decide)]); exact hS) kz) ?_
  refine WQ.st (fun _ _ kz => pw_aload0 dX12_init_86 kz) ?_
  refine WQ.st (fun _ _ kz => pw_bipush (v := 12) dX12_init_87 (by decide) kz) ?_
  refine WQ.st (fun _ _ kz => pw_nai (t := 148) (n := 12) dX12_init_89 rfl (by decide) kz) ?_
  refine WQ.st (fun _ _ kz => pw_putr (pX12_45 _ rfl rfl) dX12_init_91 (by (repeat rw [pm_up_ne (by decide)]); exact hS) kz) ?_
  refine WQ.st (fun _ _ kz => pw_aload0 dX12_init_94 kz) ?_
  refine WQ.st (fun _ _ kz => pw_bipush (v := 17) dX12_init_95 (by decide) kz) ?_
  refine WQ.st (fun _ _ kz => pw_nai (t := 149) (n := 17) dX12_init_97 rfl (by decide) kz) ?_
  refine WQ.st (fun _ _ kz => pw_putr (pX12_48 _ rfl rfl) dX12_init_99 (by (repeat rw [pm_up_ne (by decide)]); exact hS) kz) ?_
  refine WQ.st (fun _ _ kz => pw_aload0 dX12_init_102 kz) ?_
  refine WQ.st (fun _ _ kz => pw_sipush (v := 205) dX12_init_103 (by decide) kz) ?_
  refine WQ.st (fun _ _ kz => pw_nal (t := 150) (n := 205) dX12_init_106 rfl (by decide) kz) ?_
  refine WQ.st (fun _ _ kz => pw_putr (pX12_51 _ rfl rfl) dX12_init_108 (by (repeat rw [pm_up_ne (by decide)]); exact hS) kz) ?_
  refine WQ.st (fun _ _ kz => pw_aload0 dX12_init_111 kz) ?_
  refine WQ.st (fun _ _ kz => pw_sipush (v := 205) dX12_init_112 (by decide) kz) ?_
  refine WQ.st (fun _ _ kz => pw_nal (t := 151) (n := 205) dX12_init_115 rfl (by decide) kz) ?_
  refine WQ.st (fun _ _ kz => pw_putr (pX12_55 _ rfl rfl) dX12_init_117 (by (repeat rw [pm_up_ne (by decide)]); exact hS) kz) ?_
  refine WQ.st (fun _ _ kz => pw_aload0 dX12_init_120 kz) ?_
  refine WQ.st (fun _ _ kz => pw_sipush (v := 8405) dX12_init_121 (by decide) kz) ?_
  refine WQ.st (fun _ _ kz => pw_nai (t := 152) (n := 8405) dX12_init_124 rfl (by decide) kz) ?_
  refine WQ.st (fun _ _ kz => pw_putr (pX12_58 _ rfl rfl) dX12_init_126 (by (repeat rw [pm_up_ne (by decide)]); exact hS) kz) ?_
  refine WQ.st (fun _ _ kz => pw_aload0 dX12_init_129 kz) ?_
  refine WQ.st (fun _ _ kz => pw_sipush (v := 1312) dX12_init_130 (by decide) kz) ?_
  refine WQ.st (fun _ _ kz => pw_nai (t := 153) (n := 1312) dX12_init_133 rfl (by decide) kz) ?_
  refine WQ.st (fun _ _ kz => pw_putr (pX12_61 _ rfl rfl) dX12_init_135 (by (repeat rw [pm_up_ne (by decide)]); exact hS) kz) ?_
  refine WQ.st (fun _ _ kz => pw_aload0 dX12_init_138 kz) ?_
  refine WQ.st (fun _ _ kz => pw_bipush (v := 41) dX12_init_139 (by decide) kz) ?_
  refine WQ.st (fun _ _ kz => pw_naz (t := 154) (n := 41) dX12_init_141 rfl (by decide) kz) ?_
  refine WQ.st (fun _ _ kz => pw_putr (pX12_64 _ rfl rfl) dX12_init_143 (by (repeat rw [pm_up_ne (by decide)]); exact hS) kz) ?_
  refine WQ.st (fun _ _ kz => pw_aload0 dX12_init_146 kz) ?_
  refine WQ.st (fun _ _ kz => pw_bipush (v := 41) dX12_init_147 (by decide) kz) ?_
  refine WQ.st (fun _ _ kz => pw_naz (t := 155) (n := 41) dX12_init_149 rfl (by decide) kz) ?_
  refine WQ.st (fun _ _ kz => pw_putr (pX12_67 _ rfl rfl) dX12_init_151 (by (repeat rw [pm_up_ne (by decide)]); exact hS) kz) ?_
  refine WQ.st (fun _ _ kz => pw_aload0 dX12_init_154 kz) ?_
  refine WQ.st (fun _ _ kz => pw_bipush (v := 41) dX12_init_155 (by decide) kz) ?_
  refine WQ.st (fun _ _ kz => pw_nai (t := 156) (n := 41) dX12_init_157 rfl (by decide) kz) ?_
  refine WQ.st (fun _ _ kz => pw_putr (pX12_70 _ rfl rfl) dX12_init_159 (by (repeat rw [pm_up_ne (by decide)]); exact hS) kz) ?_
  refine WQ.st (fun _ _ kz => pw_aload0 dX12_init_162 kz) ?_
  refine WQ.st (fun _ _ kz => pw_bipush (v := 41) dX12_init_163 (by decide) kz) ?_
  refine WQ.st (fun _ _ kz => pw_nai (t := 157) (n := 41) dX12_init_165 rfl (by decide) kz) ?_
  refine WQ.st (fun _ _ kz => pw_putr (pX12_73 _ rfl rfl) dX12_init_167 (by (repeat rw [pm_up_ne (by decide)]); exact hS) kz) ?_
  refine WQ.st (fun _ _ kz => pw_aload0 dX12_init_170 kz) ?_
  refine WQ.st (fun _ _ kz => pw_iconst (v := 4) dX12_init_171 (by decide) kz) ?_
  refine WQ.st (fun _ _ kz => pw_nai (t := 158) (n := 4) dX12_init_172 rfl (by decide) kz) ?_
  refine WQ.st (fun _ _ kz => pw_dup dX12_init_174 rfl kz) ?_
  refine WQ.st (fun _ _ kz => pw_iconst (v := 0) dX12_init_175 (by decide) kz) ?_
  refine WQ.st (fun _ _ kz => pw_iconst (v := -1) dX12_init_176 (by decide) kz) ?_
  refine WQ.st (fun _ _ kz => pw_ast (j := 0) dX12_init_177 rfl rfl (by decide) kz) ?_
  refine WQ.st (fun _ _ kz => pw_dup dX12_init_178 rfl kz) ?_
  refine WQ.st (fun _ _ kz => pw_iconst (v := 1) dX12_init_179 (by decide) kz) ?_
  refine WQ.st (fun _ _ kz => pw_iconst (v := -1) dX12_init_180 (by decide) kz) ?_
  refine WQ.st (fun _ _ kz => pw_ast (j := 1) dX12_init_181 rfl rfl (by decide) kz) ?_
  refine WQ.st (fun _ _ kz => pw_dup dX12_init_182 rfl kz) ?_
  refine WQ.st (fun _ _ kz => pw_iconst (v := 2) dX12_init_183 (by decide) kz) ?_
  refine WQ.st (fun _ _ kz => pw_iconst (v := -1) dX12_init_184 (by decide) kz) ?_
  refine WQ.st (fun _ _ kz => pw_ast (j := 2) dX12_init_185 rfl rfl (by decide) kz) ?_
  refine WQ.st (fun _ _ kz => pw_dup dX12_init_186 rfl kz) ?_
  refine WQ.st (fun _ _ kz => pw_iconst (v := 3) dX12_init_187 (by decide) kz) ?_
  refine WQ.st (fun _ _ kz => pw_iconst (v := -1) dX12_init_188 (by decide) kz) ?_
  refine WQ.st (fun _ _ kz => pw_ast (j := 3) dX12_init_189 rfl rfl (by decide) kz) ?_
  refine WQ.st (fun _ _ kz => pw_putr (pX12_76 _ rfl rfl) dX12_init_190 (by (repeat rw [pm_up_ne (by decide)]); exact hS) kz) ?_
  refine WQ.st (fun _ _ kz => pw_aload0 dX12_init_193 kz) ?_
  refine WQ.st (fun _ _ kz => pw_iconst (v := 4) dX12_init_194 (by decide) kz) ?_
  refine WQ.st (fun _ _ kz => pw_nai (t := 159) (n := 4) dX12_init_195 rfl (by decide) kz) ?_
  refine WQ.st (fun _ _ kz => pw_putr (pX12_79 _ rfl rfl) dX12_init_197 (by (repeat rw [pm_up_ne (by decide)]); exact hS) kz) ?_
  refine WQ.st (fun _ _ kz => pw_aload0 dX12_init_200 kz) ?_
  refine WQ.st (fun _ _ kz => pw_sipush (v := 160) dX12_init_201 (by decide) kz) ?_
  refine WQ.st (fun _ _ kz => pw_nal (t := 160) (n := 160) dX12_init_204 rfl (by decide) kz) ?_
  refine WQ.st (fun _ _ kz => pw_putr (pX12_82 _ rfl rfl) dX12_init_206 (by (repeat rw [pm_up_ne (by decide)]); exact hS) kz) ?_
  refine WQ.st (fun _ _ kz => pw_aload0 dX12_init_209 kz) ?_
  refine WQ.st (fun _ _ kz => pw_getr (b := 139) gX12_13 dX12_init_210 (by (repeat rw [pm_up_ne (by decide)]); exact hS) rfl kz) ?_
  obtain ⟨A1, pA, fA, gA⟩ := c_plain (G := G) (d := d + 1) (V := (up2 V 138 14 (-1))) (P := (up2 (up2 (up2 (up2 (up2 (up2 (up2 (up2 (up2 (up2 (up2 (up2 (up2 (up2 (up2 (up2 (up2 (up2 (up2 (up2 (up2 (up2 P 138 1 (some 139)) 138 2 (some 140)) 138 3 (some 141)) 138 4 (some 142)) 138 15 (some 143)) 138 16 (some 144)) 138 17 (some 145)) 138 18 (some 146)) 138 19 (some 147)) 138 23 (some 148)) 138 25 (some 149)) 138 28 (some 150)) 138 29 (some 151)) 138 30 (some 152)) 138 31 (some 153)) 138 32 (some 154)) 138 33 (some 155)) 138 34 (some 156)) 138 35 (some 157)) 138 36 (some 158)) 138 37 (some 159)) 138 38 (some 160))) (A := (pm_up (up2 (up2 (up2 (up2 (pm_up (pm_up (pm_up (pm_up (pm_up (pm_up (pm_up (pm_up (pm_up (pm_up (pm_up (pm_up (pm_up (pm_up (pm_up (pm_up (pm_up (pm_up A 139 (fun _ => 0)) 140 (fun _ => 0)) 141 (fun _ => 0)) 142 (fun _ => 0)) 143 (fun _ => 0)) 144 (fun _ => 0)) 145 (fun _ => 0)) 146 (fun _ => 0)) 147 (fun _ => 0)) 148 (fun _ => 0)) 149 (fun _ => 0)) 152 (fun _ => 0)) 153 (fun _ => 0)) 154 (fun _ => 0)) 155 (fun _ => 0)) 156 (fun _ => 0)) 157 (fun _ => 0)) 158 (fun _ => 0)) 158 0 (-1)) 158 1 (-1)) 158 2 (-1)) 158 3 (-1)) 159 (fun _ => 0))) (B := (pm_up (pm_up (pm_up B 150 (fun _ => 0)) 151 (fun _ => 0)) 160 (fun _ => 0))) (Q := Q) (t := 161) (sl := sl + 3492 + 2 + 900 + 1164 + 900 + 8 + 12300 + 2665 + 12 + 12 + 17 + 205 + 205 + 8405 + 1312 + 41 + 41 + 41 + 41 + 4 + 4 + 160) (S := (pm_up (pm_up (pm_up (pm_up (pm_up (pm_up (pm_up (pm_up (pm_up (pm_up (pm_up (pm_up (pm_up (pm_up (pm_up (pm_up (pm_up (pm_up (pm_up (pm_up (pm_up (pm_up S 139 (20, 3492)) 140 (23, 2)) 141 (20, 900)) 142 (20, 1164)) 143 (20, 900)) 144 (20, 8)) 145 (20, 12300)) 146 (20, 2665)) 147 (20, 12)) 148 (20, 12)) 149 (20, 17)) 150 (22, 205)) 151 (22, 205)) 152 (20, 8405)) 153 (20, 1312)) 154 (23, 41)) 155 (23, 41)) 156 (20, 41)) 157 (20, 41)) 158 (20, 4)) 159 (20, 4)) 160 (22, 160))) (a := 139) (n := 3492) rfl (by decide)
  refine WQ.st (fun _ _ kz => pw_s1v wX12_plain lX12_85 dX12_init_213 pA rfl (Nat.le_of_ble_eq_true rfl) (Nat.le_of_ble_eq_true rfl) kz) ?_
  refine ⟨_, _, pw_vret dX12_init_216 rfl rfl rfl, ?_⟩
  exact ⟨rfl, A1, rfl, fA, fun i => by rw [gA i]; by_cases h : i < 1164
                                       · rw [if_pos h]
                                       · rw [if_neg h]; rfl⟩
