/-! ===== the class: Course, chances ===== -/
theorem KB.frP {S : sS} {V : sV} {P P' : sP} {A : sV} {B : sB} {Q : sP} {t : Nat} {al : Nat → Int32} {sh ls p tm q : Nat} (h : KB S V P A B Q t al sh ls p tm q) (hC : CF S P') (hP : ∀ x, x ≠ 103 → x ≠ 107 → P' x = P x) : KB S V P' A B Q t al sh ls p tm q := by
  have hsa := h.sa
  refine ⟨hC, h.hsh.up (fun x a1 a2 => hP x (by omega) (by omega)), hsa, h.dv, h.se, h.lt, ?_, ?_, h.r, h.iq⟩
  · unfold BarI
    rw [hP 96 (by decide) (by decide)]
    exact h.ba
  · unfold BCur
    rw [hP 96 (by decide) (by decide)]
    exact h.cu
theorem acc2 {f : Nat → Int64} {g : Nat → Nat} {j0 j1 x y : Nat} (hf : ∀ j, j < 205 → f j = lN (g j)) (h0 : j0 < 205) (h1 : j1 < 205) : ∀ j, j < 205 → pm_up (pm_up f j0 (f j0 + lN x)) j1 (pm_up f j0 (f j0 + lN x) j1 + lN y) j = lN (g j + ((if j0 = j then x else 0) + (if j1 = j then y else 0))) := by
  have e : ∀ j, j < 205 → pm_up f j0 (f j0 + lN x) j = lN (g j + (if j0 = j then x else 0)) := by
    intro j hj
    unfold pm_up
    by_cases h : j = j0
    · rw [if_pos h, if_pos h.symm, hf j0 h0, lN_add, h]
    · rw [if_neg h, if_neg (fun q => h q.symm), hf j hj, Nat.add_zero]
  intro j hj
  by_cases h : j = j1
  · subst h
    rw [pm_up_eq, e j hj, lN_add, if_pos rfl]
    congr 1
    omega
  · rw [pm_up_ne h, e j hj, if_neg (show ¬ j1 = j from fun q => h q.symm), Nat.add_zero]
theorem wtH_two {T : Nat → Nat → Nat → Nat → Int32} {k b l s : Nat} {bl : Bool} {x j : Nat} (h0 : rf_na (T b l s) < 5) (h1 : rf_sl (T b l s) < 5) : sm (fun w => if tgP bl s w = j then x * wtH T k b l s w else 0) 5 = (if tgP bl s (rf_na (T b l s)) = j then x * (10 - k) else 0) + (if tgP bl s (rf_sl (T b l s)) = j then x * k else 0) := by
  have e : ∀ w, w < 5 → (if tgP bl s w = j then x * wtH T k b l s w else 0) = (if rf_na (T b l s) = w then (if tgP bl s w = j then x * (10 - k) else 0) else 0) + (if rf_sl (T b l s) = w then (if tgP bl s w = j then x * k else 0) else 0) := by
    intro w _
    unfold wtH
    by_cases g : tgP bl s w = j
    · rw [if_pos g, if_pos g, if_pos g, Nat.mul_add]
      congr 1
      · split
        · rfl
        · exact Nat.mul_zero _
      · split
        · rfl
        · exact Nat.mul_zero _
    · rw [if_neg g, if_neg g, if_neg g]
      repeat' split
      all_goals rfl
  rw [sm_cong 5 e, sm_add, sm_pick _ 5, sm_pick _ 5, if_pos h0, if_pos h1]
theorem wtH_none {T : Nat → Nat → Nat → Nat → Int32} {k b l s : Nat} {bl : Bool} {x j : Nat} (h : x = 0 ∨ rf_na (T b l s) = 9) : sm (fun w => if tgP bl s w = j then x * wtH T k b l s w else 0) 5 = 0 := by
  refine sm_0 (fun w hw => ?_)
  rcases h with h | h
  · rw [h, Nat.zero_mul]
    split <;> rfl
  · unfold wtH
    rw [h, rf_sl_9 h, if_neg (show ¬ 9 = w by omega), if_neg (show ¬ 9 = w by omega), Nat.mul_zero]
    split <;> rfl
theorem nI_tl {k : Nat} (h : k ≤ 1000) : (nI k).toInt64 = lN k := by
  rw [← Int64.toInt_inj, il_t, nI_toInt (by omega), lN_t (by omega)]
theorem tgP_lt {bl : Bool} {s w : Nat} (hw : w < 5) (h : w ≤ s + 2 ∧ s + 2 ≤ w + 40) : tgP bl s w < 205 := by
  unfold tgP lbN
  cases bl
  · show (s + 2 - w) * 5 + 2 < 205
    omega
  · show (s + 2 - w) * 5 + w < 205
    omega
set_option maxRecDepth 20000 in
theorem l_slipAt {G : gT} {d : Nat} {S : sS} {V : sV} {P : sP} {Q : sP} {t sl : Nat} {al : Nat → Int32} {sh ls p tm q : Nat} {A0 : sV} {B0 : sB} {hh hb b k : Nat} {c : Nat → Nat} (h5 : P 103 5 = some hh) (h6 : P 103 6 = some hb) (hhb : (hh = 105 ∧ hb = 106) ∨ (hh = 106 ∧ hb = 105)) (sh5 : S hh = (22, 205)) (sh6 : S hb = (22, 205)) (hb12 : b < 12) (hk : k ≤ 10) (hc : ∀ j, j < 205 → c j < 9223372036854775808) : ∀ (m i : Nat) (A : sV) (B : sB) (x4 x5 x6 x7 x8 : Option Value), i + m = 205 → KB S V P A B Q t al sh ls p tm q → (∀ j, j < 205 → B hh j = lN (c j)) → (∀ j, j < 205 → B hb j = lN (sm (fun i' => sm (fun w => if tgP (asks al 6) (i' / 5) w = j then c i' * wtH (TT (atm al p tm) p q) k b (i' % 5) (i' / 5) w else 0) 5) i)) → FrC V A0 B0 V A B → WQ G (d + 4) mX1_slipAt 21 [some (.ref 103), some (.int (nI b)), some (.int (nI k)), some (.int (nI i)), x4, x5, x6, x7, x8] [] (t, sl, gh S V P A B Q) (fun r h' => r = none ∧ ∃ (A' : sV) (B' : sB), h' = (t, sl, gh S V (up2 (up2 P 103 5 (some hb)) 103 6 (some hh)) A' B' Q) ∧ KB S V (up2 (up2 P 103 5 (some hb)) 103 6 (some hh)) A' B' Q t al sh ls p tm q ∧ (∀ j, j < 205 → B' hb j = lN (cstep (wtH (TT (atm al p tm) p q) k b) (asks al 6) c j)) ∧ FrC V A0 B0 V A' B') := by
  have hne : hh ≠ hb := by omega
  intro m
  induction m with
  | zero =>
    intro i A B x4 x5 x6 x7 x8 hi hK hh0 hB hF
    have hi : i = 205 := hi
    subst hi
    refine WQ.st (fun _ _ kz => pw_iload3 dX1_slipAt_21 kz) ?_
    refine WQ.st (fun _ _ kz => pw_sipush (v := 205) dX1_slipAt_22 (by decide) kz) ?_
    refine WQ.br (fun _ _ ka kb => pw_icmp_ge (tgt := 204) dX1_slipAt_25 (by decide) ka kb) (fun c25 => ?_) (fun c25 => absurd (by decide) c25)
    refine WQ.st (fun _ _ kz => pw_aload0 dX1_slipAt_204 kz) ?_
    refine WQ.st (fun _ _ kz => pw_getr gX1_25 dX1_slipAt_205 (cf_s103 hK.cf) h5 kz) ?_
    refine WQ.st (fun _ _ kz => pw_astore3 dX1_slipAt_208 (by decide) (k := kz)) ?_
    refine WQ.st (fun _ _ kz => pw_aload0 dX1_slipAt_209 kz) ?_
    refine WQ.st (fun _ _ kz => pw_aload0 dX1_slipAt_210 kz) ?_
    refine WQ.st (fun _ _ kz => pw_getr gX1_29 dX1_slipAt_211 (cf_s103 hK.cf) h6 kz) ?_
    refine WQ.st (fun _ _ kz => pw_putr (pX1_25 _ rfl) dX1_slipAt_214 (cf_s103 hK.cf) kz) ?_
    refine WQ.st (fun _ _ kz => pw_aload0 dX1_slipAt_217 kz) ?_
    refine WQ.st (fun _ _ kz => pw_aload3 dX1_slipAt_218 kz) ?_
    refine WQ.st (fun _ _ kz => pw_putr (pX1_29 _ rfl) dX1_slipAt_219 (cf_s103 hK.cf) kz) ?_
    refine ⟨_, _, pw_vret dX1_slipAt_222 rfl rfl rfl, ?_⟩
    refine ⟨rfl, A, B, rfl, hK.frP ((hK.cf.up (by decide)).up (by decide)) (fun x a1 _ => by rw [up2_na a1, up2_na a1]), hB, hF⟩
  | succ m ih =>
    intro i A B x4 x5 x6 x7 x8 him hK hh0 hB hF
    have hi : i < 205 := by omega
    have hcb := hc i hi
    obtain ⟨hp, ht, hq⟩ := hK.r
    have kk : ∀ (A1 : sV) (B1 : sB) (w0 w1 : Nat) (x7 : Option Value), KB S V P A1 B1 Q t al sh ls p tm q → (∀ j, j < 205 → B1 hh j = lN (c j)) → (∀ j, j < 205 → B1 hb j = lN (sm (fun i' => sm (fun w => if tgP (asks al 6) (i' / 5) w = j then c i' * wtH (TT (atm al p tm) p q) k b (i' % 5) (i' / 5) w else 0) 5) i)) → FrC V A0 B0 V A1 B1 → rf_na ((TT (atm al p tm) p q) b (i % 5) (i / 5)) = w0 → rf_sl ((TT (atm al p tm) p q) b (i % 5) (i / 5)) = w1 → w0 < 5 → w1 < 5 → (w0 ≤ i / 5 + 2 ∧ i / 5 + 2 ≤ w0 + 40) → (w1 ≤ i / 5 + 2 ∧ i / 5 + 2 ≤ w1 + 40) → WQ G (d + 4) mX1_slipAt 127 [some (.ref 103), some (.int (nI b)), some (.int (nI k)), some (.int (nI i)), some (.int (sI (i / 5))), some (.int (dI (i % 5))), some (.int (dI w0)), x7, some (.int (dI w1))] [] (t, sl, gh S V P A1 B1 Q) (fun r h' => r = none ∧ ∃ (A' : sV) (B' : sB), h' = (t, sl, gh S V (up2 (up2 P 103 5 (some hb)) 103 6 (some hh)) A' B' Q) ∧ KB S V (up2 (up2 P 103 5 (some hb)) 103 6 (some hh)) A' B' Q t al sh ls p tm q ∧ (∀ j, j < 205 → B' hb j = lN (cstep (wtH (TT (atm al p tm) p q) k b) (asks al 6) c j)) ∧ FrC V A0 B0 V A' B') := by
      intro A1 B1 w0 w1 x7 hK hh0 hB1 hF1 hw0 hw1 h05 h15 hin0 hin1
      have ht0 := tgP_lt (bl := asks al 6) h05 hin0
      have ht1 := tgP_lt (bl := asks al 6) h15 hin1
      refine WQ.st (fun _ _ kz => pw_aload0 dX1_slipAt_127 kz) ?_
      refine WQ.st (fun _ _ kz => pw_getr gX1_29 dX1_slipAt_128 (cf_s103 hK.cf) h6 kz) ?_
      refine WQ.st (fun _ _ kz => pw_iload4 dX1_slipAt_131 kz) ?_
      refine WQ.st (fun _ _ kz => pw_iload6 dX1_slipAt_133 kz) ?_
      refine WQ.st (fun _ _ kz => pw_isub dX1_slipAt_135 kz) ?_
      rw [sw_I hin0.1]
      refine WQ.st (fun _ _ kz => pw_aload0 dX1_slipAt_136 kz) ?_
      refine WQ.st (fun _ _ kz => pw_getr gX1_32 dX1_slipAt_137 (cf_s103 hK.cf) (cf_p103_3 hK.cf) kz) ?_
      refine WQ.st (fun _ _ kz => pw_iload6 dX1_slipAt_140 kz) ?_
      refine wq_o1i wX0_lastBehind lX1_91 rfl dX1_slipAt_142 (cf_s96 hK.cf) (k_lastBehind hK.cf hK.v1 w0) rfl (Nat.le_of_ble_eq_true rfl) (Nat.le_of_ble_eq_true rfl) (fun h142 z142 => ?_)
      subst z142
      refine wq_s2i wX0_placeOf lX1_67 dX1_slipAt_145 (k_placeOf _ _) rfl (Nat.le_of_ble_eq_true rfl) (Nat.le_of_ble_eq_true rfl) (fun h145 z145 => ?_)
      subst z145
      rw [show (i / 5 + 2 - w0) * 5 + lbN (asks al 6) w0 = tgP (asks al 6) (i / 5) w0 from rfl]
      refine WQ.st (fun _ _ kz => pw_dup2_11 dX1_slipAt_148 rfl rfl kz) ?_
      refine WQ.st (fun _ _ kz => pw_lld (j := (tgP (asks al 6) (i / 5) w0)) dX1_slipAt_149 sh6 (ix_n (by omega)) (by omega) kz) ?_
      refine WQ.st (fun _ _ kz => pw_aload0 dX1_slipAt_150 kz) ?_
      refine WQ.st (fun _ _ kz => pw_getr gX1_25 dX1_slipAt_151 (cf_s103 hK.cf) h5 kz) ?_
      refine WQ.st (fun _ _ kz => pw_iload3 dX1_slipAt_154 kz) ?_
      refine WQ.st (fun _ _ kz => pw_lld (j := i) dX1_slipAt_155 sh5 (ix_m rfl (by omega)) (by omega) kz) ?_
      rw [hh0 i hi]
      refine WQ.st (fun _ _ kz => pw_bipush (v := 10) dX1_slipAt_156 (by decide) kz) ?_
      refine WQ.st (fun _ _ kz => pw_iload2 dX1_slipAt_158 kz) ?_
      refine WQ.st (fun _ _ kz => pw_isub dX1_slipAt_159 kz) ?_
      refine WQ.st (fun _ _ kz => pw_i2l dX1_slipAt_160 kz) ?_
      rw [nI_10 hk]
      refine WQ.st (fun _ _ kz => pw_lmul dX1_slipAt_161 kz) ?_
      rw [lN_mul]
      refine WQ.st (fun _ _ kz => pw_ladd dX1_slipAt_162 kz) ?_
      refine WQ.st (fun _ _ kz => pw_lst (j := (tgP (asks al 6) (i / 5) w0)) dX1_slipAt_163 sh6 (ix_n (by omega)) (by omega)  kz) ?_
      refine WQ.st (fun _ _ kz => pw_aload0 dX1_slipAt_164 kz) ?_
      refine WQ.st (fun _ _ kz => pw_getr gX1_29 dX1_slipAt_165 (cf_s103 hK.cf) h6 kz) ?_
      refine WQ.st (fun _ _ kz => pw_iload4 dX1_slipAt_168 kz) ?_
      refine WQ.st (fun _ _ kz => pw_iload8 dX1_slipAt_170 kz) ?_
      refine WQ.st (fun _ _ kz => pw_isub dX1_slipAt_172 kz) ?_
      rw [sw_I hin1.1]
      refine WQ.st (fun _ _ kz => pw_aload0 dX1_slipAt_173 kz) ?_
      refine WQ.st (fun _ _ kz => pw_getr gX1_32 dX1_slipAt_174 (cf_s103 hK.cf) (cf_p103_3 hK.cf) kz) ?_
      refine WQ.st (fun _ _ kz => pw_iload8 dX1_slipAt_177 kz) ?_
      refine wq_o1i wX0_lastBehind lX1_91 rfl dX1_slipAt_179 (cf_s96 hK.cf) (k_lastBehind hK.cf hK.v1 w1) rfl (Nat.le_of_ble_eq_true rfl) (Nat.le_of_ble_eq_true rfl) (fun h179 z179 => ?_)
      subst z179
      refine wq_s2i wX0_placeOf lX1_67 dX1_slipAt_182 (k_placeOf _ _) rfl (Nat.le_of_ble_eq_true rfl) (Nat.le_of_ble_eq_true rfl) (fun h182 z182 => ?_)
      subst z182
      rw [show (i / 5 + 2 - w1) * 5 + lbN (asks al 6) w1 = tgP (asks al 6) (i / 5) w1 from rfl]
      refine WQ.st (fun _ _ kz => pw_dup2_11 dX1_slipAt_185 rfl rfl kz) ?_
      refine WQ.st (fun _ _ kz => pw_lld (j := (tgP (asks al 6) (i / 5) w1)) dX1_slipAt_186 sh6 (ix_n (by omega)) (by omega) kz) ?_
      refine WQ.st (fun _ _ kz => pw_aload0 dX1_slipAt_187 kz) ?_
      refine WQ.st (fun _ _ kz => pw_getr gX1_25 dX1_slipAt_188 (cf_s103 hK.cf) h5 kz) ?_
      refine WQ.st (fun _ _ kz => pw_iload3 dX1_slipAt_191 kz) ?_
      refine WQ.st (fun _ _ kz => pw_lld (j := i) dX1_slipAt_192 sh5 (ix_m rfl (by omega)) (by omega) kz) ?_
      rw [up2_na hne, hh0 i hi]
      refine WQ.st (fun _ _ kz => pw_iload2 dX1_slipAt_193 kz) ?_
      refine WQ.st (fun _ _ kz => pw_i2l dX1_slipAt_194 kz) ?_
      rw [nI_tl (by omega)]
      refine WQ.st (fun _ _ kz => pw_lmul dX1_slipAt_195 kz) ?_
      rw [lN_mul]
      refine WQ.st (fun _ _ kz => pw_ladd dX1_slipAt_196 kz) ?_
      refine WQ.st (fun _ _ kz => pw_lst (j := (tgP (asks al 6) (i / 5) w1)) dX1_slipAt_197 sh6 (ix_n (by omega)) (by omega)  kz) ?_
      refine WQ.st (fun _ _ kz => pw_iinc3 (v := 1) dX1_slipAt_198 (by decide) (by decide) (k := kz)) ?_
      refine WQ.st (fun _ _ kz => pw_goto (tgt := 21) dX1_slipAt_201 (by decide) kz) ?_
      rw [nI_1]
      refine ih (i + 1) A1 _ _ _ _ _ _ (by omega) (hK.fr ((FrK.b (a := hb) (by omega)).tr (FrK.b (a := hb) (by omega)))) (fun j hj => ?_) (fun j hj => ?_) (hF1.tr ((FrC.b (a := hb) (by omega)).tr (FrC.b (a := hb) (by omega))))
      · rw [up2_na hne, up2_na hne]
        exact hh0 j hj
      · rw [up2_at, up2_at, acc2 (x := c i * (10 - k)) (y := c i * k) hB1 ht0 ht1 j hj, sm, wtH_two (by rw [hw0]; exact h05) (by rw [hw1]; exact h15), hw0, hw1]
    refine WQ.st (fun _ _ kz => pw_iload3 dX1_slipAt_21 kz) ?_
    refine WQ.st (fun _ _ kz => pw_sipush (v := 205) dX1_slipAt_22 (by decide) kz) ?_
    refine WQ.br (fun _ _ ka kb => pw_icmp_ge (tgt := 204) dX1_slipAt_25 (by decide) ka kb) (fun c25 => absurd c25 (by rw [show (205 : Int32) = nI 205 from rfl, le_i (ix_n (j := 205) (by omega)) (ix_n (j := i) (by omega))]; omega)) (fun c25 => ?_)
    refine WQ.st (fun _ _ kz => pw_iload3 dX1_slipAt_28 kz) ?_
    refine wq_s1i wX0_storeOf lX1_84 dX1_slipAt_29 (k_storeOf (by omega)) rfl (Nat.le_of_ble_eq_true rfl) (Nat.le_of_ble_eq_true rfl) (fun h29 z29 => ?_)
    subst z29
    refine WQ.st (fun _ _ kz => pw_istore4 dX1_slipAt_32 (by decide) (k := kz)) ?_
    refine WQ.st (fun _ _ kz => pw_iload3 dX1_slipAt_34 kz) ?_
    refine wq_s1i wX0_lastOf lX1_87 dX1_slipAt_35 (k_lastOf (by omega)) rfl (Nat.le_of_ble_eq_true rfl) (Nat.le_of_ble_eq_true rfl) (fun h35 z35 => ?_)
    subst z35
    refine WQ.st (fun _ _ kz => pw_istore5 dX1_slipAt_38 (by decide) (k := kz)) ?_
    refine WQ.st (fun _ _ kz => pw_aload0 dX1_slipAt_40 kz) ?_
    refine WQ.st (fun _ _ kz => pw_getr gX1_25 dX1_slipAt_41 (cf_s103 hK.cf) h5 kz) ?_
    refine WQ.st (fun _ _ kz => pw_iload3 dX1_slipAt_44 kz) ?_
    refine WQ.st (fun _ _ kz => pw_lld (j := i) dX1_slipAt_45 sh5 (ix_m rfl (by omega)) (by omega) kz) ?_
    rw [hh0 i hi]
    refine WQ.st (fun _ _ kz => pw_lconst (v := 0) dX1_slipAt_46 (by decide) kz) ?_
    refine WQ.st (fun _ _ kz => pw_lcmp dX1_slipAt_47 kz) ?_
    refine WQ.bn (fun _ _ ka kb => pw_if_ne (tgt := 56) dX1_slipAt_48 (by decide) ka kb) (fun c48 => ?_) (fun c48 => ?_)
    · rw [lg_cmp_eq, show (0 : Int64) = lN 0 from rfl, lN_inj hcb (by decide)] at c48
      refine WQ.st (fun _ _ kz => pw_aload0 dX1_slipAt_56 kz) ?_
      refine WQ.st (fun _ _ kz => pw_getr gX1_32 dX1_slipAt_57 (cf_s103 hK.cf) (cf_p103_3 hK.cf) kz) ?_
      refine WQ.st (fun _ _ kz => pw_iload1 dX1_slipAt_60 kz) ?_
      refine WQ.st (fun _ _ kz => pw_iload4 dX1_slipAt_61 kz) ?_
      refine WQ.st (fun _ _ kz => pw_iload5 dX1_slipAt_63 kz) ?_
      refine wq_o3i wX0_comingDraw lX1_47 rfl dX1_slipAt_65 (cf_s96 hK.cf) (k_comingDraw hK hb12 (by omega) (by omega)) rfl (Nat.le_of_ble_eq_true rfl) (Nat.le_of_ble_eq_true rfl) (fun h65 z65 => ?_)
      obtain ⟨A1, B1, rfl, hK1, hG1⟩ := z65
      refine WQ.st (fun _ _ kz => pw_istore6 dX1_slipAt_68 (by decide) (k := kz)) ?_
      refine WQ.st (fun _ _ kz => pw_iload6 dX1_slipAt_70 kz) ?_
      refine WQ.st (fun _ _ kz => pw_bipush (v := 9) dX1_slipAt_72 (by decide) kz) ?_
      refine WQ.br (fun _ _ ka kb => pw_icmp_eq (tgt := 198) dX1_slipAt_74 (by decide) ka kb) (fun c74 => ?_) (fun c74 => ?_)
      · have h9 : rf_na ((TT (atm al p tm) p q) b (i % 5) (i / 5)) = 9 := (nd_9 ((rf_na_ok _).elim Or.inr (fun h => Or.inl h.1))).mp c74
        refine WQ.st (fun _ _ kz => pw_iinc3 (v := 1) dX1_slipAt_198 (by decide) (by decide) (k := kz)) ?_
        refine WQ.st (fun _ _ kz => pw_goto (tgt := 21) dX1_slipAt_201 (by decide) kz) ?_
        rw [nI_1]
        refine ih (i + 1) A1 B1 _ _ _ _ _ (by omega) hK1 (fun j hj => ?_) (fun j hj => ?_) (hF.tr hG1.c)
        · rw [hG1.2 hh (by omega)]
          exact hh0 j hj
        · rw [hG1.2 hb (by omega)]
          rw [hB j hj, sm, wtH_none (Or.inr h9), Nat.add_zero]
      · have h9 : ¬ rf_na ((TT (atm al p tm) p q) b (i % 5) (i / 5)) = 9 := fun q => c74 (by rw [q]; rfl)
        obtain ⟨h05, hn0⟩ := (rf_na_ok ((TT (atm al p tm) p q) b (i % 5) (i / 5))).resolve_left h9
        have hin0 := TT_in hn0
        unfold rf_in at hin0
        have hin0 := of_decide_eq_true hin0
        have hsl : rf_sl ((TT (atm al p tm) p q) b (i % 5) (i / 5)) = if rf_na ((TT (atm al p tm) p q) b (i % 5) (i / 5)) < 4 ∧ ((TT (atm al p tm) p q) b (i % 5) (i / 5)) (rf_na ((TT (atm al p tm) p q) b (i % 5) (i / 5)) + 1) ≠ -268435456 then rf_na ((TT (atm al p tm) p q) b (i % 5) (i / 5)) + 1 else rf_na ((TT (atm al p tm) p q) b (i % 5) (i / 5)) := by
          unfold rf_sl
          rw [if_neg h9]
        generalize hw0 : rf_na ((TT (atm al p tm) p q) b (i % 5) (i / 5)) = w0 at h05 hn0 hin0 hsl
        rw [nd_lt h05]
        refine WQ.st (fun _ _ kz => pw_iload6 dX1_slipAt_77 kz) ?_
        refine WQ.st (fun _ _ kz => pw_iconst (v := 2) dX1_slipAt_79 (by decide) kz) ?_
        refine WQ.br (fun _ _ ka kb => pw_icmp_ge (tgt := 108) dX1_slipAt_80 (by decide) ka kb) (fun c80 => ?_) (fun c80 => ?_)
        · rw [le_i (show (2 : Int32).toInt = 2 from rfl) (dI_t (q := w0) (by omega))] at c80
          refine WQ.st (fun _ _ kz => pw_iconst (v := 0) dX1_slipAt_108 (by decide) kz) ?_
          refine WQ.st (fun _ _ kz => pw_istore7 dX1_slipAt_109 (by decide) (k := kz)) ?_
          refine WQ.st (fun _ _ kz => pw_iload7 dX1_slipAt_111 kz) ?_
          refine WQ.br (fun _ _ ka kb => pw_if_eq (tgt := 123) dX1_slipAt_113 (by decide) ka kb) (fun c113 => ?_) (fun c113 => absurd (by decide) c113)
          refine WQ.st (fun _ _ kz => pw_iload6 dX1_slipAt_123 kz) ?_
          refine WQ.st (fun _ _ kz => pw_istore8 dX1_slipAt_125 (by decide) (k := kz)) ?_
          exact kk A1 B1 w0 w0 _ hK1 (fun j hj => by rw [hG1.2 hh (by omega)]; exact hh0 j hj) (fun j hj => by rw [hG1.2 hb (by omega)]; exact hB j hj) (hF.tr hG1.c) hw0 (by rw [hsl, if_neg (fun q => by have := q.1; omega)]) h05 h05 hin0 hin0
        · rw [le_i (show (2 : Int32).toInt = 2 from rfl) (dI_t (q := w0) (by omega))] at c80
          refine WQ.st (fun _ _ kz => pw_aload0 dX1_slipAt_83 kz) ?_
          refine WQ.st (fun _ _ kz => pw_getr gX1_32 dX1_slipAt_84 (cf_s103 hK.cf) (cf_p103_3 hK.cf) kz) ?_
          refine WQ.st (fun _ _ kz => pw_iload1 dX1_slipAt_87 kz) ?_
          refine WQ.st (fun _ _ kz => pw_iload4 dX1_slipAt_88 kz) ?_
          refine WQ.st (fun _ _ kz => pw_iload5 dX1_slipAt_90 kz) ?_
          refine WQ.st (fun _ _ kz => pw_iload6 dX1_slipAt_92 kz) ?_
          refine WQ.st (fun _ _ kz => pw_iconst (v := 1) dX1_slipAt_94 (by decide) kz) ?_
          refine WQ.st (fun _ _ kz => pw_iadd dX1_slipAt_95 kz) ?_
          rw [dI_1]
          refine wq_o4i wX0_gladAt lX1_51 rfl dX1_slipAt_96 (cf_s96 hK.cf) (k_gladAt hK1 hb12 (by omega) (by omega) (w := w0 + 1) (by omega)) rfl (Nat.le_of_ble_eq_true rfl) (Nat.le_of_ble_eq_true rfl) (fun h96 z96 => ?_)
          obtain ⟨A2, B2, rfl, hK2, hG2⟩ := z96
          refine WQ.st (fun _ _ kz => pw_ldc kX1_90 dX1_slipAt_99 kz) ?_
          refine WQ.br (fun _ _ ka kb => pw_icmp_eq (tgt := 108) dX1_slipAt_101 (by decide) ka kb) (fun c101 => ?_) (fun c101 => ?_)
          · rw [cv_not (okv_sml (TT_ok hK.dv hp ht hq hb12 (by omega) (by omega) (by omega)))] at c101
            refine WQ.st (fun _ _ kz => pw_iconst (v := 0) dX1_slipAt_108 (by decide) kz) ?_
            refine WQ.st (fun _ _ kz => pw_istore7 dX1_slipAt_109 (by decide) (k := kz)) ?_
            refine WQ.st (fun _ _ kz => pw_iload7 dX1_slipAt_111 kz) ?_
            refine WQ.br (fun _ _ ka kb => pw_if_eq (tgt := 123) dX1_slipAt_113 (by decide) ka kb) (fun c113 => ?_) (fun c113 => absurd (by decide) c113)
            refine WQ.st (fun _ _ kz => pw_iload6 dX1_slipAt_123 kz) ?_
            refine WQ.st (fun _ _ kz => pw_istore8 dX1_slipAt_125 (by decide) (k := kz)) ?_
            exact kk A2 B2 w0 w0 _ hK2 (fun j hj => by rw [hG2.2 hh (by omega), hG1.2 hh (by omega)]; exact hh0 j hj) (fun j hj => by rw [hG2.2 hb (by omega), hG1.2 hb (by omega)]; exact hB j hj) ((hF.tr hG1.c).tr hG2.c) hw0 (by rw [hsl, if_neg (fun q => q.2 c101)]) h05 h05 hin0 hin0
          · rw [cv_not (okv_sml (TT_ok hK.dv hp ht hq hb12 (by omega) (by omega) (by omega)))] at c101
            refine WQ.st (fun _ _ kz => pw_iconst (v := 1) dX1_slipAt_104 (by decide) kz) ?_
            refine WQ.st (fun _ _ kz => pw_goto (tgt := 109) dX1_slipAt_105 (by decide) kz) ?_
            refine WQ.st (fun _ _ kz => pw_istore7 dX1_slipAt_109 (by decide) (k := kz)) ?_
            refine WQ.st (fun _ _ kz => pw_iload7 dX1_slipAt_111 kz) ?_
            refine WQ.br (fun _ _ ka kb => pw_if_eq (tgt := 123) dX1_slipAt_113 (by decide) ka kb) (fun c113 => absurd c113 (by decide)) (fun c113 => ?_)
            refine WQ.st (fun _ _ kz => pw_iload6 dX1_slipAt_116 kz) ?_
            refine WQ.st (fun _ _ kz => pw_iconst (v := 1) dX1_slipAt_118 (by decide) kz) ?_
            refine WQ.st (fun _ _ kz => pw_iadd dX1_slipAt_119 kz) ?_
            rw [dI_1]
            refine WQ.st (fun _ _ kz => pw_goto (tgt := 125) dX1_slipAt_120 (by decide) kz) ?_
            refine WQ.st (fun _ _ kz => pw_istore8 dX1_slipAt_125 (by decide) (k := kz)) ?_
            have hin1 := TT_in c101
            unfold rf_in at hin1
            have hin1 := of_decide_eq_true hin1
            exact kk A2 B2 w0 (w0 + 1) _ hK2 (fun j hj => by rw [hG2.2 hh (by omega), hG1.2 hh (by omega)]; exact hh0 j hj) (fun j hj => by rw [hG2.2 hb (by omega), hG1.2 hb (by omega)]; exact hB j hj) ((hF.tr hG1.c).tr hG2.c) hw0 (by rw [hsl, if_pos ⟨by omega, c101⟩]) h05 (by omega) hin0 hin1
    · rw [lg_cmp_eq, show (0 : Int64) = lN 0 from rfl, lN_inj hcb (by decide)] at c48
      refine WQ.st (fun _ _ kz => pw_bipush (v := 9) dX1_slipAt_51 (by decide) kz) ?_
      refine WQ.st (fun _ _ kz => pw_goto (tgt := 68) dX1_slipAt_53 (by decide) kz) ?_
      refine WQ.st (fun _ _ kz => pw_istore6 dX1_slipAt_68 (by decide) (k := kz)) ?_
      refine WQ.st (fun _ _ kz => pw_iload6 dX1_slipAt_70 kz) ?_
      refine WQ.st (fun _ _ kz => pw_bipush (v := 9) dX1_slipAt_72 (by decide) kz) ?_
      refine WQ.br (fun _ _ ka kb => pw_icmp_eq (tgt := 198) dX1_slipAt_74 (by decide) ka kb) (fun c74 => ?_) (fun c74 => absurd (by decide) c74)
      refine WQ.st (fun _ _ kz => pw_iinc3 (v := 1) dX1_slipAt_198 (by decide) (by decide) (k := kz)) ?_
      refine WQ.st (fun _ _ kz => pw_goto (tgt := 21) dX1_slipAt_201 (by decide) kz) ?_
      rw [nI_1]
      refine ih (i + 1) A B _ _ _ _ _ (by omega) hK (fun j hj => ?_) (fun j hj => ?_) hF
      · exact hh0 j hj
      · rw [hB j hj, sm, wtH_none (Or.inl c48), Nat.add_zero]
set_option maxRecDepth 20000 in
theorem k_slipAt {G : gT} {d : Nat} {S : sS} {V : sV} {P : sP} {A : sV} {B : sB} {Q : sP} {t sl : Nat} {al : Nat → Int32} {sh ls p tm q : Nat} (hK : KB S V P A B Q t al sh ls p tm q) {hh hb b k : Nat} {c : Nat → Nat} (h5 : P 103 5 = some hh) (h6 : P 103 6 = some hb) (hhb : (hh = 105 ∧ hb = 106) ∨ (hh = 106 ∧ hb = 105)) (hb12 : b < 12) (hk3 : al 3 = nI k) (hk : k ≤ 10) (hc : ∀ j, j < 205 → c j < 9223372036854775808) (hc0 : ∀ j, j < 205 → B hh j = lN (c j)) : WQ G (d + 4) mX1_slipAt 0 [some (.ref 103), some (.int (nI b)), none, none, none, none, none, none, none] [] (t, sl, gh S V P A B Q) (fun r h' => r = none ∧ ∃ (A' : sV) (B' : sB), h' = (t, sl, gh S V (up2 (up2 P 103 5 (some hb)) 103 6 (some hh)) A' B' Q) ∧ KB S V (up2 (up2 P 103 5 (some hb)) 103 6 (some hh)) A' B' Q t al sh ls p tm q ∧ (∀ j, j < 205 → B' hb j = lN (cstep (wtH (TT (atm al p tm) p q) k b) (asks al 6) c j)) ∧ FrC V A B V A' B') := by
  have sh5 : S hh = (22, 205) := by rcases hhb with ⟨h, -⟩ | ⟨h, -⟩ <;> subst h <;> first | exact cf_s105 hK.cf | exact cf_s106 hK.cf
  have sh6 : S hb = (22, 205) := by rcases hhb with ⟨-, h⟩ | ⟨-, h⟩ <;> subst h <;> first | exact cf_s105 hK.cf | exact cf_s106 hK.cf
  refine WQ.st (fun _ _ kz => pw_aload0 dX1_slipAt_0 kz) ?_
  refine WQ.st (fun _ _ kz => pw_getr gX1_29 dX1_slipAt_1 (cf_s103 hK.cf) h6 kz) ?_
  refine WQ.st (fun _ _ kz => pw_lconst (v := 0) dX1_slipAt_4 (by decide) kz) ?_
  refine WQ.st (fun _ _ kz => pw_s2v wJ7_fill_d0a16 lX1_64 dX1_slipAt_5 (c_filll sh6 (by omega) _) rfl (Nat.le_of_ble_eq_true rfl) (Nat.le_of_ble_eq_true rfl) kz) ?_
  refine WQ.st (fun _ _ kz => pw_aload0 dX1_slipAt_8 kz) ?_
  refine WQ.st (fun _ _ kz => pw_getr gX1_32 dX1_slipAt_9 (cf_s103 hK.cf) (cf_p103_3 hK.cf) kz) ?_
  refine WQ.st (fun _ _ kz => pw_getr gX1_75 dX1_slipAt_12 (cf_s96 hK.cf) hK.p2 kz) ?_
  refine WQ.st (fun _ _ kz => pw_geti gX1_79 dX1_slipAt_15 (sh_s0 hK.hsh) kz) ?_
  rw [hK.se.sl, hk3]
  refine WQ.st (fun _ _ kz => pw_istore2 dX1_slipAt_18 (by decide) (k := kz)) ?_
  refine WQ.st (fun _ _ kz => pw_iconst (v := 0) dX1_slipAt_19 (by decide) kz) ?_
  refine WQ.st (fun _ _ kz => pw_istore3 dX1_slipAt_20 (by decide) (k := kz)) ?_
  exact l_slipAt (A0 := A) (B0 := B) h5 h6 hhb sh5 sh6 hb12 hk hc 205 0 A _ none none none none none rfl (hK.fr (FrK.b (a := hb) (by omega))) (fun j hj => by rw [pm_up_ne (by omega)]; exact hc0 j hj) (fun j hj => by rw [pm_up_eq, fillF_i hj]; rfl) (FrC.b (by omega))
