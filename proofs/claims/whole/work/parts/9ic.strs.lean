theorem st_e0_0 : ∀ k, k < 10 → Cond.eq (.elem (.field (lwTm 0) "java/lang/String" "value" "[B") (.int (Int32.ofNat (0 + k)))) (.int (sch 0 (0 + k))) ∈ flatC (Jvm.Cond.and given_1 narrow_1) := by decide +kernel
theorem st_e0_1 : ∀ k, k < 10 → Cond.eq (.elem (.field (lwTm 0) "java/lang/String" "value" "[B") (.int (Int32.ofNat (10 + k)))) (.int (sch 0 (10 + k))) ∈ flatC (Jvm.Cond.and given_1 narrow_1) := by decide +kernel
theorem st_e0_2 : ∀ k, k < 10 → Cond.eq (.elem (.field (lwTm 0) "java/lang/String" "value" "[B") (.int (Int32.ofNat (20 + k)))) (.int (sch 0 (20 + k))) ∈ flatC (Jvm.Cond.and given_1 narrow_1) := by decide +kernel
theorem st_e0_3 : ∀ k, k < 10 → Cond.eq (.elem (.field (lwTm 0) "java/lang/String" "value" "[B") (.int (Int32.ofNat (30 + k)))) (.int (sch 0 (30 + k))) ∈ flatC (Jvm.Cond.and given_1 narrow_1) := by decide +kernel
theorem st_e0_4 : ∀ k, k < 10 → Cond.eq (.elem (.field (lwTm 0) "java/lang/String" "value" "[B") (.int (Int32.ofNat (40 + k)))) (.int (sch 0 (40 + k))) ∈ flatC (Jvm.Cond.and given_1 narrow_1) := by decide +kernel
theorem st_e0_5 : ∀ k, k < 10 → Cond.eq (.elem (.field (lwTm 0) "java/lang/String" "value" "[B") (.int (Int32.ofNat (50 + k)))) (.int (sch 0 (50 + k))) ∈ flatC (Jvm.Cond.and given_1 narrow_1) := by decide +kernel
theorem st_e0_6 : ∀ k, k < 10 → Cond.eq (.elem (.field (lwTm 0) "java/lang/String" "value" "[B") (.int (Int32.ofNat (60 + k)))) (.int (sch 0 (60 + k))) ∈ flatC (Jvm.Cond.and given_1 narrow_1) := by decide +kernel
theorem st_e0_7 : ∀ k, k < 10 → Cond.eq (.elem (.field (lwTm 0) "java/lang/String" "value" "[B") (.int (Int32.ofNat (70 + k)))) (.int (sch 0 (70 + k))) ∈ flatC (Jvm.Cond.and given_1 narrow_1) := by decide +kernel
theorem st_e0_8 : ∀ k, k < 10 → Cond.eq (.elem (.field (lwTm 0) "java/lang/String" "value" "[B") (.int (Int32.ofNat (80 + k)))) (.int (sch 0 (80 + k))) ∈ flatC (Jvm.Cond.and given_1 narrow_1) := by decide +kernel
theorem st_e0_9 : ∀ k, k < 7 → Cond.eq (.elem (.field (lwTm 0) "java/lang/String" "value" "[B") (.int (Int32.ofNat (90 + k)))) (.int (sch 0 (90 + k))) ∈ flatC (Jvm.Cond.and given_1 narrow_1) := by decide +kernel
theorem st_e1_0 : ∀ k, k < 10 → Cond.eq (.elem (.field (lwTm 1) "java/lang/String" "value" "[B") (.int (Int32.ofNat (0 + k)))) (.int (sch 1 (0 + k))) ∈ flatC (Jvm.Cond.and given_1 narrow_1) := by decide +kernel
theorem st_e1_1 : ∀ k, k < 10 → Cond.eq (.elem (.field (lwTm 1) "java/lang/String" "value" "[B") (.int (Int32.ofNat (10 + k)))) (.int (sch 1 (10 + k))) ∈ flatC (Jvm.Cond.and given_1 narrow_1) := by decide +kernel
theorem st_e1_2 : ∀ k, k < 10 → Cond.eq (.elem (.field (lwTm 1) "java/lang/String" "value" "[B") (.int (Int32.ofNat (20 + k)))) (.int (sch 1 (20 + k))) ∈ flatC (Jvm.Cond.and given_1 narrow_1) := by decide +kernel
theorem st_e1_3 : ∀ k, k < 10 → Cond.eq (.elem (.field (lwTm 1) "java/lang/String" "value" "[B") (.int (Int32.ofNat (30 + k)))) (.int (sch 1 (30 + k))) ∈ flatC (Jvm.Cond.and given_1 narrow_1) := by decide +kernel
theorem st_e1_4 : ∀ k, k < 10 → Cond.eq (.elem (.field (lwTm 1) "java/lang/String" "value" "[B") (.int (Int32.ofNat (40 + k)))) (.int (sch 1 (40 + k))) ∈ flatC (Jvm.Cond.and given_1 narrow_1) := by decide +kernel
theorem st_e1_5 : ∀ k, k < 10 → Cond.eq (.elem (.field (lwTm 1) "java/lang/String" "value" "[B") (.int (Int32.ofNat (50 + k)))) (.int (sch 1 (50 + k))) ∈ flatC (Jvm.Cond.and given_1 narrow_1) := by decide +kernel
theorem st_e1_6 : ∀ k, k < 10 → Cond.eq (.elem (.field (lwTm 1) "java/lang/String" "value" "[B") (.int (Int32.ofNat (60 + k)))) (.int (sch 1 (60 + k))) ∈ flatC (Jvm.Cond.and given_1 narrow_1) := by decide +kernel
theorem st_e1_7 : ∀ k, k < 10 → Cond.eq (.elem (.field (lwTm 1) "java/lang/String" "value" "[B") (.int (Int32.ofNat (70 + k)))) (.int (sch 1 (70 + k))) ∈ flatC (Jvm.Cond.and given_1 narrow_1) := by decide +kernel
theorem st_e1_8 : ∀ k, k < 10 → Cond.eq (.elem (.field (lwTm 1) "java/lang/String" "value" "[B") (.int (Int32.ofNat (80 + k)))) (.int (sch 1 (80 + k))) ∈ flatC (Jvm.Cond.and given_1 narrow_1) := by decide +kernel
theorem st_e1_9 : ∀ k, k < 8 → Cond.eq (.elem (.field (lwTm 1) "java/lang/String" "value" "[B") (.int (Int32.ofNat (90 + k)))) (.int (sch 1 (90 + k))) ∈ flatC (Jvm.Cond.and given_1 narrow_1) := by decide +kernel
theorem st_e2_0 : ∀ k, k < 10 → Cond.eq (.elem (.field (lwTm 2) "java/lang/String" "value" "[B") (.int (Int32.ofNat (0 + k)))) (.int (sch 2 (0 + k))) ∈ flatC (Jvm.Cond.and given_1 narrow_1) := by decide +kernel
theorem st_e2_1 : ∀ k, k < 2 → Cond.eq (.elem (.field (lwTm 2) "java/lang/String" "value" "[B") (.int (Int32.ofNat (10 + k)))) (.int (sch 2 (10 + k))) ∈ flatC (Jvm.Cond.and given_1 narrow_1) := by decide +kernel
theorem st_el : ∀ i, i < 3 → ∀ j, j < pm_len.getD i 0 → Cond.eq (.elem (.field (lwTm i) "java/lang/String" "value" "[B") (.int (Int32.ofNat j))) (.int ((pm_byt.getD i []).getD j 0)) ∈ flatC (Jvm.Cond.and given_1 narrow_1) := by
  intro i hi j hj
  show Cond.eq (.elem (.field (lwTm i) "java/lang/String" "value" "[B") (.int (Int32.ofNat (j)))) (.int (sch i (j))) ∈ flatC (Jvm.Cond.and given_1 narrow_1)
  rcases (show i = 0 ∨ i = 1 ∨ i = 2 by omega) with rfl | rfl | rfl
  · have hj : j < 97 := hj
    rcases (show j / 10 = 0 ∨ j / 10 = 1 ∨ j / 10 = 2 ∨ j / 10 = 3 ∨ j / 10 = 4 ∨ j / 10 = 5 ∨ j / 10 = 6 ∨ j / 10 = 7 ∨ j / 10 = 8 ∨ j / 10 = 9 by omega) with h | h | h | h | h | h | h | h | h | h
    · have := st_e0_0 (j % 10) (by omega)
      rw [show 0 + j % 10 = j by omega] at this
      exact this
    · have := st_e0_1 (j % 10) (by omega)
      rw [show 10 + j % 10 = j by omega] at this
      exact this
    · have := st_e0_2 (j % 10) (by omega)
      rw [show 20 + j % 10 = j by omega] at this
      exact this
    · have := st_e0_3 (j % 10) (by omega)
      rw [show 30 + j % 10 = j by omega] at this
      exact this
    · have := st_e0_4 (j % 10) (by omega)
      rw [show 40 + j % 10 = j by omega] at this
      exact this
    · have := st_e0_5 (j % 10) (by omega)
      rw [show 50 + j % 10 = j by omega] at this
      exact this
    · have := st_e0_6 (j % 10) (by omega)
      rw [show 60 + j % 10 = j by omega] at this
      exact this
    · have := st_e0_7 (j % 10) (by omega)
      rw [show 70 + j % 10 = j by omega] at this
      exact this
    · have := st_e0_8 (j % 10) (by omega)
      rw [show 80 + j % 10 = j by omega] at this
      exact this
    · have := st_e0_9 (j % 10) (by omega)
      rw [show 90 + j % 10 = j by omega] at this
      exact this
  · have hj : j < 98 := hj
    rcases (show j / 10 = 0 ∨ j / 10 = 1 ∨ j / 10 = 2 ∨ j / 10 = 3 ∨ j / 10 = 4 ∨ j / 10 = 5 ∨ j / 10 = 6 ∨ j / 10 = 7 ∨ j / 10 = 8 ∨ j / 10 = 9 by omega) with h | h | h | h | h | h | h | h | h | h
    · have := st_e1_0 (j % 10) (by omega)
      rw [show 0 + j % 10 = j by omega] at this
      exact this
    · have := st_e1_1 (j % 10) (by omega)
      rw [show 10 + j % 10 = j by omega] at this
      exact this
    · have := st_e1_2 (j % 10) (by omega)
      rw [show 20 + j % 10 = j by omega] at this
      exact this
    · have := st_e1_3 (j % 10) (by omega)
      rw [show 30 + j % 10 = j by omega] at this
      exact this
    · have := st_e1_4 (j % 10) (by omega)
      rw [show 40 + j % 10 = j by omega] at this
      exact this
    · have := st_e1_5 (j % 10) (by omega)
      rw [show 50 + j % 10 = j by omega] at this
      exact this
    · have := st_e1_6 (j % 10) (by omega)
      rw [show 60 + j % 10 = j by omega] at this
      exact this
    · have := st_e1_7 (j % 10) (by omega)
      rw [show 70 + j % 10 = j by omega] at this
      exact this
    · have := st_e1_8 (j % 10) (by omega)
      rw [show 80 + j % 10 = j by omega] at this
      exact this
    · have := st_e1_9 (j % 10) (by omega)
      rw [show 90 + j % 10 = j by omega] at this
      exact this
  · have hj : j < 12 := hj
    rcases (show j / 10 = 0 ∨ j / 10 = 1 by omega) with h | h
    · have := st_e2_0 (j % 10) (by omega)
      rw [show 0 + j % 10 = j by omega] at this
      exact this
    · have := st_e2_1 (j % 10) (by omega)
      rw [show 10 + j % 10 = j by omega] at this
      exact this
