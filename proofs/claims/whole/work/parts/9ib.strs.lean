/-! ===== what the start gives of the Strings ===== -/
def lwTm (i : Nat) : Term := if i = 0 then .string "RubatoDesk$Reader" 107 else if i = 1 then .string "RubatoDeskModel" 96 else .string "RubatoDeskModel" 134
theorem st_ex : ∀ i, i < 3 → Cond.exactly (lwTm i) "java/lang/String" ∈ flatC (Jvm.Cond.and given_1 narrow_1) := by decide +kernel
theorem st_co : ∀ i, i < 3 → Cond.eq (.field (lwTm i) "java/lang/String" "coder" "B") (.int 0) ∈ flatC (Jvm.Cond.and given_1 narrow_1) := by decide +kernel
theorem st_ar : ∀ i, i < 3 → Cond.arrayOf (.field (lwTm i) "java/lang/String" "value" "[B") .byte ∈ flatC (Jvm.Cond.and given_1 narrow_1) := by decide +kernel
theorem st_le : ∀ i, i < 3 → Cond.eq (.length (.field (lwTm i) "java/lang/String" "value" "[B")) (.int (Int32.ofNat (pm_len.getD i 0))) ∈ flatC (Jvm.Cond.and given_1 narrow_1) := by decide +kernel
theorem st_ne : ∀ i, i < 3 → ∀ j, j < 3 → i ≠ j → Cond.not (Cond.eq (lwTm i) (lwTm j)) ∈ flatC (Jvm.Cond.and given_1 narrow_1) ∨ Cond.not (Cond.eq (lwTm j) (lwTm i)) ∈ flatC (Jvm.Cond.and given_1 narrow_1) := by decide +kernel
theorem st_cs : Cond.eq (.static "java/lang/String" "COMPACT_STRINGS" "Z") (.int 1) ∈ flatC (Jvm.Cond.and given_1 narrow_1) := by decide +kernel
theorem st_sf : Cond.isRef (.static "jdk/internal/util/Preconditions" "SIOOBE_FORMATTER" "Ljava/util/function/BiFunction;") ∈ flatC (Jvm.Cond.and given_1 narrow_1) := by decide +kernel
