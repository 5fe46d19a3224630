/-! ===== the reference: its cells, at o on; the smallest methods ===== -/
def mfL : List (Nat × Nat × Nat × Nat) := [(1, 20, 3492, 1), (2, 23, 2, 2), (3, 20, 900, 3), (4, 20, 1164, 4), (5, 20, 900, 15), (6, 20, 8, 16), (7, 20, 12300, 17), (8, 20, 2665, 18), (9, 20, 12, 19), (10, 20, 12, 23), (11, 20, 17, 25), (12, 22, 205, 28), (13, 22, 205, 29), (14, 20, 8405, 30), (15, 20, 1312, 31), (16, 23, 41, 32), (17, 23, 41, 33), (18, 20, 41, 34), (19, 20, 41, 35), (20, 20, 4, 36), (21, 20, 4, 37), (22, 22, 160, 38)]
def MF (S : sS) (P : sP) (o : Nat) : Prop := S o = (12, 0) ∧ ∀ q ∈ mfL, S (o + q.1) = (q.2.1, q.2.2.1) ∧ P o q.2.2.2 = some (o + q.1)
theorem mf_s1 {S : sS} {P : sP} {o : Nat} (h : MF S P o) : S (o + 1) = (20, 3492) := (h.2 (1, 20, 3492, 1) (by decide)).1
theorem mf_p1 {S : sS} {P : sP} {o : Nat} (h : MF S P o) : P o 1 = some (o + 1) := (h.2 (1, 20, 3492, 1) (by decide)).2
theorem mf_s2 {S : sS} {P : sP} {o : Nat} (h : MF S P o) : S (o + 2) = (23, 2) := (h.2 (2, 23, 2, 2) (by decide)).1
theorem mf_p2 {S : sS} {P : sP} {o : Nat} (h : MF S P o) : P o 2 = some (o + 2) := (h.2 (2, 23, 2, 2) (by decide)).2
theorem mf_s3 {S : sS} {P : sP} {o : Nat} (h : MF S P o) : S (o + 3) = (20, 900) := (h.2 (3, 20, 900, 3) (by decide)).1
theorem mf_p3 {S : sS} {P : sP} {o : Nat} (h : MF S P o) : P o 3 = some (o + 3) := (h.2 (3, 20, 900, 3) (by decide)).2
theorem mf_s4 {S : sS} {P : sP} {o : Nat} (h : MF S P o) : S (o + 4) = (20, 1164) := (h.2 (4, 20, 1164, 4) (by decide)).1
theorem mf_p4 {S : sS} {P : sP} {o : Nat} (h : MF S P o) : P o 4 = some (o + 4) := (h.2 (4, 20, 1164, 4) (by decide)).2
theorem mf_s5 {S : sS} {P : sP} {o : Nat} (h : MF S P o) : S (o + 5) = (20, 900) := (h.2 (5, 20, 900, 15) (by decide)).1
theorem mf_p15 {S : sS} {P : sP} {o : Nat} (h : MF S P o) : P o 15 = some (o + 5) := (h.2 (5, 20, 900, 15) (by decide)).2
theorem mf_s6 {S : sS} {P : sP} {o : Nat} (h : MF S P o) : S (o + 6) = (20, 8) := (h.2 (6, 20, 8, 16) (by decide)).1
theorem mf_p16 {S : sS} {P : sP} {o : Nat} (h : MF S P o) : P o 16 = some (o + 6) := (h.2 (6, 20, 8, 16) (by decide)).2
theorem mf_s7 {S : sS} {P : sP} {o : Nat} (h : MF S P o) : S (o + 7) = (20, 12300) := (h.2 (7, 20, 12300, 17) (by decide)).1
theorem mf_p17 {S : sS} {P : sP} {o : Nat} (h : MF S P o) : P o 17 = some (o + 7) := (h.2 (7, 20, 12300, 17) (by decide)).2
theorem mf_s8 {S : sS} {P : sP} {o : Nat} (h : MF S P o) : S (o + 8) = (20, 2665) := (h.2 (8, 20, 2665, 18) (by decide)).1
theorem mf_p18 {S : sS} {P : sP} {o : Nat} (h : MF S P o) : P o 18 = some (o + 8) := (h.2 (8, 20, 2665, 18) (by decide)).2
theorem mf_s9 {S : sS} {P : sP} {o : Nat} (h : MF S P o) : S (o + 9) = (20, 12) := (h.2 (9, 20, 12, 19) (by decide)).1
theorem mf_p19 {S : sS} {P : sP} {o : Nat} (h : MF S P o) : P o 19 = some (o + 9) := (h.2 (9, 20, 12, 19) (by decide)).2
theorem mf_s10 {S : sS} {P : sP} {o : Nat} (h : MF S P o) : S (o + 10) = (20, 12) := (h.2 (10, 20, 12, 23) (by decide)).1
theorem mf_p23 {S : sS} {P : sP} {o : Nat} (h : MF S P o) : P o 23 = some (o + 10) := (h.2 (10, 20, 12, 23) (by decide)).2
theorem mf_s11 {S : sS} {P : sP} {o : Nat} (h : MF S P o) : S (o + 11) = (20, 17) := (h.2 (11, 20, 17, 25) (by decide)).1
theorem mf_p25 {S : sS} {P : sP} {o : Nat} (h : MF S P o) : P o 25 = some (o + 11) := (h.2 (11, 20, 17, 25) (by decide)).2
theorem mf_s12 {S : sS} {P : sP} {o : Nat} (h : MF S P o) : S (o + 12) = (22, 205) := (h.2 (12, 22, 205, 28) (by decide)).1
theorem mf_p28 {S : sS} {P : sP} {o : Nat} (h : MF S P o) : P o 28 = some (o + 12) := (h.2 (12, 22, 205, 28) (by decide)).2
theorem mf_s13 {S : sS} {P : sP} {o : Nat} (h : MF S P o) : S (o + 13) = (22, 205) := (h.2 (13, 22, 205, 29) (by decide)).1
theorem mf_p29 {S : sS} {P : sP} {o : Nat} (h : MF S P o) : P o 29 = some (o + 13) := (h.2 (13, 22, 205, 29) (by decide)).2
theorem mf_s14 {S : sS} {P : sP} {o : Nat} (h : MF S P o) : S (o + 14) = (20, 8405) := (h.2 (14, 20, 8405, 30) (by decide)).1
theorem mf_p30 {S : sS} {P : sP} {o : Nat} (h : MF S P o) : P o 30 = some (o + 14) := (h.2 (14, 20, 8405, 30) (by decide)).2
theorem mf_s15 {S : sS} {P : sP} {o : Nat} (h : MF S P o) : S (o + 15) = (20, 1312) := (h.2 (15, 20, 1312, 31) (by decide)).1
theorem mf_p31 {S : sS} {P : sP} {o : Nat} (h : MF S P o) : P o 31 = some (o + 15) := (h.2 (15, 20, 1312, 31) (by decide)).2
theorem mf_s16 {S : sS} {P : sP} {o : Nat} (h : MF S P o) : S (o + 16) = (23, 41) := (h.2 (16, 23, 41, 32) (by decide)).1
theorem mf_p32 {S : sS} {P : sP} {o : Nat} (h : MF S P o) : P o 32 = some (o + 16) := (h.2 (16, 23, 41, 32) (by decide)).2
theorem mf_s17 {S : sS} {P : sP} {o : Nat} (h : MF S P o) : S (o + 17) = (23, 41) := (h.2 (17, 23, 41, 33) (by decide)).1
theorem mf_p33 {S : sS} {P : sP} {o : Nat} (h : MF S P o) : P o 33 = some (o + 17) := (h.2 (17, 23, 41, 33) (by decide)).2
theorem mf_s18 {S : sS} {P : sP} {o : Nat} (h : MF S P o) : S (o + 18) = (20, 41) := (h.2 (18, 20, 41, 34) (by decide)).1
theorem mf_p34 {S : sS} {P : sP} {o : Nat} (h : MF S P o) : P o 34 = some (o + 18) := (h.2 (18, 20, 41, 34) (by decide)).2
theorem mf_s19 {S : sS} {P : sP} {o : Nat} (h : MF S P o) : S (o + 19) = (20, 41) := (h.2 (19, 20, 41, 35) (by decide)).1
theorem mf_p35 {S : sS} {P : sP} {o : Nat} (h : MF S P o) : P o 35 = some (o + 19) := (h.2 (19, 20, 41, 35) (by decide)).2
theorem mf_s20 {S : sS} {P : sP} {o : Nat} (h : MF S P o) : S (o + 20) = (20, 4) := (h.2 (20, 20, 4, 36) (by decide)).1
theorem mf_p36 {S : sS} {P : sP} {o : Nat} (h : MF S P o) : P o 36 = some (o + 20) := (h.2 (20, 20, 4, 36) (by decide)).2
theorem mf_s21 {S : sS} {P : sP} {o : Nat} (h : MF S P o) : S (o + 21) = (20, 4) := (h.2 (21, 20, 4, 37) (by decide)).1
theorem mf_p37 {S : sS} {P : sP} {o : Nat} (h : MF S P o) : P o 37 = some (o + 21) := (h.2 (21, 20, 4, 37) (by decide)).2
theorem mf_s22 {S : sS} {P : sP} {o : Nat} (h : MF S P o) : S (o + 22) = (22, 160) := (h.2 (22, 22, 160, 38) (by decide)).1
theorem mf_p38 {S : sS} {P : sP} {o : Nat} (h : MF S P o) : P o 38 = some (o + 22) := (h.2 (22, 22, 160, 38) (by decide)).2
/-- a truth as an int -/
def bI (b : Bool) : Int32 := if b then 1 else 0
theorem bI_0 {b : Bool} : bI b = 0 ↔ b = false := by cases b <;> decide
theorem bI_n {b : Bool} : ¬ bI b = 0 ↔ b = true := by cases b <;> decide
theorem bI_nar (b : Bool) : narrow .boolean (.int (bI b)) = .int (bI b) := by cases b <;> rfl
theorem bI_1 : (1 : Int32) = bI true := rfl
theorem bI_f : (0 : Int32) = bI false := rfl
theorem bI_t {b : Bool} (h : b = true) : (1 : Int32) = bI b := by rw [h]; rfl
theorem bI_z {b : Bool} (h : b = false) : (0 : Int32) = bI b := by rw [h]; rfl
theorem rI {x y : Int32} (h : x = y) : some (Value.int x) = some (Value.int y) := by rw [h]
theorem rL {x y : Int64} (h : x = y) : some (Value.long x) = some (Value.long y) := by rw [h]
set_option maxRecDepth 20000 in
theorem c_within {G : gT} {d : Nat} {h : Ph} (x lo hi : Int64) : PW G d mX12_within 0 [some (.long x), none, some (.long lo), none, some (.long hi), none] [] h (some (.int (bI (decide (lo ≤ x ∧ x ≤ hi))))) h := by
  refine pw_lload0 dX12_within_0 ?_
  refine pw_lload2 dX12_within_1 ?_
  refine pw_lcmp dX12_within_2 ?_
  refine pw_if_lt (tgt := 17) dX12_within_3 (by decide) (fun c3 => ?_) (fun c3 => ?_)
  · refine pw_iconst (v := 0) dX12_within_17 (by decide) ?_
    exact pw_iret dX12_within_18 rfl rfl (rI (bI_z (by rw [lg_cmp_lt] at c3; simp only [decide_eq_false_iff_not]; intro q; exact absurd c3 (Int64.not_lt.mpr q.1)))) rfl
  · refine pw_lload0 dX12_within_6 ?_
    refine pw_lload4 dX12_within_7 ?_
    refine pw_lcmp dX12_within_9 ?_
    refine pw_if_gt (tgt := 17) dX12_within_10 (by decide) (fun c10 => ?_) (fun c10 => ?_)
    · refine pw_iconst (v := 0) dX12_within_17 (by decide) ?_
      exact pw_iret dX12_within_18 rfl rfl (rI (bI_z (by rw [lg_cmp_gt] at c10; simp only [decide_eq_false_iff_not]; intro q; exact absurd c10 (Int64.not_lt.mpr q.2)))) rfl
    · refine pw_iconst (v := 1) dX12_within_13 (by decide) ?_
      refine pw_goto (tgt := 18) dX12_within_14 (by decide) ?_
      exact pw_iret dX12_within_18 rfl rfl (rI (bI_t (by rw [lg_cmp_lt] at c3; rw [lg_cmp_gt] at c10; simp only [decide_eq_true_eq]; exact ⟨Int64.not_lt.mp c3, Int64.not_lt.mp c10⟩))) rfl
set_option maxRecDepth 20000 in
theorem c_isSmall {G : gT} {d : Nat} {h : Ph} (x : Int32) : PW G d mX12_isSmall 0 [some (.int x)] [] h (some (.int (bI (decide (97 ≤ x ∧ x ≤ 122))))) h := by
  refine pw_iload0 dX12_isSmall_0 ?_
  refine pw_bipush (v := 97) dX12_isSmall_1 (by decide) ?_
  refine pw_icmp_lt (tgt := 16) dX12_isSmall_3 (by decide) (fun c3 => ?_) (fun c3 => ?_)
  · refine pw_iconst (v := 0) dX12_isSmall_16 (by decide) ?_
    exact pw_iret dX12_isSmall_17 rfl rfl (rI (bI_z (by simp only [decide_eq_false_iff_not]; intro q; exact absurd c3 (Int32.not_lt.mpr q.1)))) rfl
  · refine pw_iload0 dX12_isSmall_6 ?_
    refine pw_bipush (v := 122) dX12_isSmall_7 (by decide) ?_
    refine pw_icmp_gt (tgt := 16) dX12_isSmall_9 (by decide) (fun c9 => ?_) (fun c9 => ?_)
    · refine pw_iconst (v := 0) dX12_isSmall_16 (by decide) ?_
      exact pw_iret dX12_isSmall_17 rfl rfl (rI (bI_z (by simp only [decide_eq_false_iff_not]; intro q; exact absurd c9 (Int32.not_lt.mpr q.2)))) rfl
    · refine pw_iconst (v := 1) dX12_isSmall_12 (by decide) ?_
      refine pw_goto (tgt := 17) dX12_isSmall_13 (by decide) ?_
      exact pw_iret dX12_isSmall_17 rfl rfl (rI (bI_t (by simp only [decide_eq_true_eq]; exact ⟨Int32.not_lt.mp c3, Int32.not_lt.mp c9⟩))) rfl
set_option maxRecDepth 20000 in
theorem c_isDigit {G : gT} {d : Nat} {h : Ph} (x : Int32) : PW G d mX12_isDigit 0 [some (.int x)] [] h (some (.int (bI (decide (48 ≤ x ∧ x ≤ 57))))) h := by
  refine pw_iload0 dX12_isDigit_0 ?_
  refine pw_bipush (v := 48) dX12_isDigit_1 (by decide) ?_
  refine pw_icmp_lt (tgt := 16) dX12_isDigit_3 (by decide) (fun c3 => ?_) (fun c3 => ?_)
  · refine pw_iconst (v := 0) dX12_isDigit_16 (by decide) ?_
    exact pw_iret dX12_isDigit_17 rfl rfl (rI (bI_z (by simp only [decide_eq_false_iff_not]; intro q; exact absurd c3 (Int32.not_lt.mpr q.1)))) rfl
  · refine pw_iload0 dX12_isDigit_6 ?_
    refine pw_bipush (v := 57) dX12_isDigit_7 (by decide) ?_
    refine pw_icmp_gt (tgt := 16) dX12_isDigit_9 (by decide) (fun c9 => ?_) (fun c9 => ?_)
    · refine pw_iconst (v := 0) dX12_isDigit_16 (by decide) ?_
      exact pw_iret dX12_isDigit_17 rfl rfl (rI (bI_z (by simp only [decide_eq_false_iff_not]; intro q; exact absurd c9 (Int32.not_lt.mpr q.2)))) rfl
    · refine pw_iconst (v := 1) dX12_isDigit_12 (by decide) ?_
      refine pw_goto (tgt := 17) dX12_isDigit_13 (by decide) ?_
      exact pw_iret dX12_isDigit_17 rfl rfl (rI (bI_t (by simp only [decide_eq_true_eq]; exact ⟨Int32.not_lt.mp c3, Int32.not_lt.mp c9⟩))) rfl
set_option maxRecDepth 20000 in
theorem c_spot {G : gT} {d : Nat} {h : Ph} (b l s : Int32) : PW G d mX12_spot 0 [some (.int b), some (.int l), some (.int s)] [] h (some (.int ((5 * b + l + 2) * 41 + s + 20))) h := by
  refine pw_iconst (v := 5) dX12_spot_0 (by decide) ?_
  refine pw_iload0 dX12_spot_1 ?_
  refine pw_imul dX12_spot_2 ?_
  refine pw_iload1 dX12_spot_3 ?_
  refine pw_iadd dX12_spot_4 ?_
  refine pw_iconst (v := 2) dX12_spot_5 (by decide) ?_
  refine pw_iadd dX12_spot_6 ?_
  refine pw_bipush (v := 41) dX12_spot_7 (by decide) ?_
  refine pw_imul dX12_spot_9 ?_
  refine pw_iload2 dX12_spot_10 ?_
  refine pw_iadd dX12_spot_11 ?_
  refine pw_bipush (v := 20) dX12_spot_12 (by decide) ?_
  refine pw_iadd dX12_spot_14 ?_
  exact pw_iret dX12_spot_15 rfl rfl rfl rfl
set_option maxRecDepth 20000 in
theorem c_mark {G : gT} {d : Nat} {h : Ph} (l s : Int32) : PW G d mX12_mark 0 [some (.int l), some (.int s)] [] h (some (.int ((l + 2) * 41 + s + 20))) h := by
  refine pw_iload0 dX12_mark_0 ?_
  refine pw_iconst (v := 2) dX12_mark_1 (by decide) ?_
  refine pw_iadd dX12_mark_2 ?_
  refine pw_bipush (v := 41) dX12_mark_3 (by decide) ?_
  refine pw_imul dX12_mark_5 ?_
  refine pw_iload1 dX12_mark_6 ?_
  refine pw_iadd dX12_mark_7 ?_
  refine pw_bipush (v := 20) dX12_mark_8 (by decide) ?_
  refine pw_iadd dX12_mark_10 ?_
  exact pw_iret dX12_mark_11 rfl rfl rfl rfl
set_option maxRecDepth 20000 in
theorem c_see {G : gT} {d : Nat} {S : sS} {V : sV} {P : sP} {A : sV} {B : sB} {Q : sP} {t sl o : Nat} (hF : MF S P o) (k : Int32) (hk : 0 ≤ k.toInt) (hz : (V o 8).toInt ≤ 900) : PW G d mX12_see 0 [some (.ref o), some (.int k)] [] (t, sl, gh S V P A B Q) (some (.int (if k < V o 8 then A (o + 3) k.toInt.toNat else -1))) (t, sl, gh S V P A B Q) := by
  refine pw_iload1 dX12_see_0 ?_
  refine pw_aload0 dX12_see_1 ?_
  refine pw_geti gX12_93 dX12_see_2 hF.1 ?_
  refine pw_icmp_ge (tgt := 17) dX12_see_5 (by decide) (fun c5 => ?_) (fun c5 => ?_)
  · refine pw_iconst (v := -1) dX12_see_17 (by decide) ?_
    exact pw_iret dX12_see_18 rfl rfl (rI (by rw [if_neg]; exact Int32.not_lt.mpr c5)) rfl
  · refine pw_aload0 dX12_see_8 ?_
    refine pw_getr gX12_21 dX12_see_9 hF.1 (mf_p3 hF) ?_
    refine pw_iload1 dX12_see_12 ?_
    refine pw_ald (j := k.toInt.toNat) dX12_see_13 (mf_s3 hF) (by omega) (by have := Int32.not_le.mp c5; rw [Int32.lt_iff_toInt_lt] at this; omega) ?_
    refine pw_goto (tgt := 18) dX12_see_14 (by decide) ?_
    exact pw_iret dX12_see_18 rfl rfl (rI (by rw [if_pos]; exact Int32.not_le.mp c5)) rfl
