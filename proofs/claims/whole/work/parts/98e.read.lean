set_option maxRecDepth 20000 in
theorem w_readAtom {G : gT} {d : Nat} {S : sS} {V : sV} {P : sP} {A : sV} {B : sB} {Q : sP} {t sl o : Nat} (hF : MF S P o) (hw : ¬ V o 11 = 0) (dep : Int32) : WQ G (d + 1) mX12_readAtom 0 [some (.ref o), some (.int dep)] [] (t, sl, gh S V P A B Q) (fun r h' => r = none ∧ h' = (t, sl, gh S V P A B Q)) := by
  refine WQ.st (fun _ _ kz => pw_aload0 dX12_readAtom_0 kz) ?_
  refine WQ.st (fun _ _ kz => pw_bipush (v := 23) dX12_readAtom_1 (by decide) kz) ?_
  refine wq_o1i wX12_is lX12_142 rfl dX12_readAtom_3 hF.1 (c_isW hF hw _) rfl (Nat.le_of_ble_eq_true rfl) (Nat.le_of_ble_eq_true rfl) (fun h3 z3 => ?_)
  subst z3
  refine WQ.br (fun _ _ ka kb => pw_if_eq (tgt := 24) dX12_readAtom_6 (by decide) ka kb) (fun c6 => ?_) (fun c6 => absurd (by decide) c6)
  refine WQ.st (fun _ _ kz => pw_aload0 dX12_readAtom_24 kz) ?_
  refine WQ.st (fun _ _ kz => pw_geti gX12_136 dX12_readAtom_25 hF.1 kz) ?_
  refine WQ.bn (fun _ _ ka kb => pw_if_ne (tgt := 66) dX12_readAtom_28 (by decide) ka kb) (fun c28 => ?_) (fun c28 => absurd c28 hw)
  refine WQ.st (fun _ _ kz => pw_aload0 dX12_readAtom_66 kz) ?_
  refine WQ.st (fun _ _ kz => pw_bipush (v := 35) dX12_readAtom_67 (by decide) kz) ?_
  refine wq_o1i wX12_is lX12_142 rfl dX12_readAtom_69 hF.1 (c_isW hF hw _) rfl (Nat.le_of_ble_eq_true rfl) (Nat.le_of_ble_eq_true rfl) (fun h69 z69 => ?_)
  subst z69
  refine WQ.br (fun _ _ ka kb => pw_if_eq (tgt := 108) dX12_readAtom_72 (by decide) ka kb) (fun c72 => ?_) (fun c72 => absurd (by decide) c72)
  refine WQ.st (fun _ _ kz => pw_aload0 dX12_readAtom_108 kz) ?_
  refine WQ.st (fun _ _ kz => pw_iconst (v := 2) dX12_readAtom_109 (by decide) kz) ?_
  refine wq_o1v wX12_fails lX12_148 rfl dX12_readAtom_110 hF.1 (c_failsW hF hw _) rfl (Nat.le_of_ble_eq_true rfl) (Nat.le_of_ble_eq_true rfl) (fun h110 z110 => ?_)
  subst z110
  refine ⟨_, _, pw_vret dX12_readAtom_113 rfl rfl rfl, ?_⟩
  exact ⟨rfl, rfl⟩
set_option maxRecDepth 20000 in
theorem w_readTerm5 {G : gT} {d : Nat} {S : sS} {V : sV} {P : sP} {A : sV} {B : sB} {Q : sP} {t sl o : Nat} (hF : MF S P o) (hw : ¬ V o 11 = 0) (dep : Int32) : WQ G (d + 2) mX12_readTerm 5 [some (.ref o), some (.int dep)] [] (t, sl, gh S V P A B Q) (fun r h' => r = none ∧ h' = (t, sl, gh S V P A B Q)) := by
  refine WQ.st (fun _ _ kz => pw_aload0 dX12_readTerm_5 kz) ?_
  refine WQ.st (fun _ _ kz => pw_bipush (v := 34) dX12_readTerm_6 (by decide) kz) ?_
  refine wq_o1i wX12_eats lX12_172 rfl dX12_readTerm_8 hF.1 (c_eatsW hF hw _) rfl (Nat.le_of_ble_eq_true rfl) (Nat.le_of_ble_eq_true rfl) (fun h8 z8 => ?_)
  subst z8
  refine WQ.br (fun _ _ ka kb => pw_if_eq (tgt := 29) dX12_readTerm_11 (by decide) ka kb) (fun c11 => ?_) (fun c11 => absurd (by decide) c11)
  refine ⟨_, _, pw_vret dX12_readTerm_29 rfl rfl rfl, ?_⟩
  exact ⟨rfl, rfl⟩
set_option maxRecDepth 20000 in
theorem w_readTerm {G : gT} {d : Nat} {S : sS} {V : sV} {P : sP} {A : sV} {B : sB} {Q : sP} {t sl o : Nat} (hF : MF S P o) (hw : ¬ V o 11 = 0) (dep : Int32) : WQ G (d + 2) mX12_readTerm 0 [some (.ref o), some (.int dep)] [] (t, sl, gh S V P A B Q) (fun r h' => r = none ∧ h' = (t, sl, gh S V P A B Q)) := by
  refine WQ.st (fun _ _ kz => pw_aload0 dX12_readTerm_0 kz) ?_
  refine WQ.st (fun _ _ kz => pw_iload1 dX12_readTerm_1 kz) ?_
  refine wq_o1v wX12_readAtom lX12_175 rfl dX12_readTerm_2 hF.1 (w_readAtom hF hw _) rfl (Nat.le_of_ble_eq_true rfl) (Nat.le_of_ble_eq_true rfl) (fun h2 z2 => ?_)
  subst z2
  exact w_readTerm5 hF hw _
set_option maxRecDepth 20000 in
theorem w_readSum5 {G : gT} {d : Nat} {S : sS} {V : sV} {P : sP} {A : sV} {B : sB} {Q : sP} {t sl o : Nat} (hF : MF S P o) (hw : ¬ V o 11 = 0) (dep : Int32) (y : Option Value) : WQ G (d + 3) mX12_readSum 5 [some (.ref o), some (.int dep), y] [] (t, sl, gh S V P A B Q) (fun r h' => r = none ∧ h' = (t, sl, gh S V P A B Q)) := by
  refine WQ.st (fun _ _ kz => pw_aload0 dX12_readSum_5 kz) ?_
  refine WQ.st (fun _ _ kz => pw_bipush (v := 32) dX12_readSum_6 (by decide) kz) ?_
  refine wq_o1i wX12_is lX12_142 rfl dX12_readSum_8 hF.1 (c_isW hF hw _) rfl (Nat.le_of_ble_eq_true rfl) (Nat.le_of_ble_eq_true rfl) (fun h8 z8 => ?_)
  subst z8
  refine WQ.bn (fun _ _ ka kb => pw_if_ne (tgt := 23) dX12_readSum_11 (by decide) ka kb) (fun c11 => absurd (by decide) c11) (fun c11 => ?_)
  refine WQ.st (fun _ _ kz => pw_aload0 dX12_readSum_14 kz) ?_
  refine WQ.st (fun _ _ kz => pw_bipush (v := 33) dX12_readSum_15 (by decide) kz) ?_
  refine wq_o1i wX12_is lX12_142 rfl dX12_readSum_17 hF.1 (c_isW hF hw _) rfl (Nat.le_of_ble_eq_true rfl) (Nat.le_of_ble_eq_true rfl) (fun h17 z17 => ?_)
  subst z17
  refine WQ.br (fun _ _ ka kb => pw_if_eq (tgt := 59) dX12_readSum_20 (by decide) ka kb) (fun c20 => ?_) (fun c20 => absurd (by decide) c20)
  refine ⟨_, _, pw_vret dX12_readSum_59 rfl rfl rfl, ?_⟩
  exact ⟨rfl, rfl⟩
set_option maxRecDepth 20000 in
theorem w_readSum {G : gT} {d : Nat} {S : sS} {V : sV} {P : sP} {A : sV} {B : sB} {Q : sP} {t sl o : Nat} (hF : MF S P o) (hw : ¬ V o 11 = 0) (dep : Int32) : WQ G (d + 3) mX12_readSum 0 [some (.ref o), some (.int dep), none] [] (t, sl, gh S V P A B Q) (fun r h' => r = none ∧ h' = (t, sl, gh S V P A B Q)) := by
  refine WQ.st (fun _ _ kz => pw_aload0 dX12_readSum_0 kz) ?_
  refine WQ.st (fun _ _ kz => pw_iload1 dX12_readSum_1 kz) ?_
  refine wq_o1v wX12_readTerm lX12_178 rfl dX12_readSum_2 hF.1 (w_readTerm hF hw _) rfl (Nat.le_of_ble_eq_true rfl) (Nat.le_of_ble_eq_true rfl) (fun h2 z2 => ?_)
  subst z2
  exact w_readSum5 hF hw _ _
set_option maxRecDepth 20000 in
theorem w_readUnit {G : gT} {d : Nat} {S : sS} {V : sV} {P : sP} {A : sV} {B : sB} {Q : sP} {t sl o : Nat} (hF : MF S P o) (hw : ¬ V o 11 = 0) (dep : Int32) : WQ G (d + 4) mX12_readUnit 0 [some (.ref o), some (.int dep), none] [] (t, sl, gh S V P A B Q) (fun r h' => r = none ∧ h' = (t, sl, gh S V P A B Q)) := by
  refine WQ.st (fun _ _ kz => pw_aload0 dX12_readUnit_0 kz) ?_
  refine WQ.st (fun _ _ kz => pw_bipush (v := 19) dX12_readUnit_1 (by decide) kz) ?_
  refine wq_o1i wX12_is lX12_142 rfl dX12_readUnit_3 hF.1 (c_isW hF hw _) rfl (Nat.le_of_ble_eq_true rfl) (Nat.le_of_ble_eq_true rfl) (fun h3 z3 => ?_)
  subst z3
  refine WQ.br (fun _ _ ka kb => pw_if_eq (tgt := 33) dX12_readUnit_6 (by decide) ka kb) (fun c6 => ?_) (fun c6 => absurd (by decide) c6)
  refine WQ.st (fun _ _ kz => pw_aload0 dX12_readUnit_33 kz) ?_
  refine WQ.st (fun _ _ kz => pw_bipush (v := 37) dX12_readUnit_34 (by decide) kz) ?_
  refine wq_o1i wX12_is lX12_142 rfl dX12_readUnit_36 hF.1 (c_isW hF hw _) rfl (Nat.le_of_ble_eq_true rfl) (Nat.le_of_ble_eq_true rfl) (fun h36 z36 => ?_)
  subst z36
  refine WQ.br (fun _ _ ka kb => pw_if_eq (tgt := 73) dX12_readUnit_39 (by decide) ka kb) (fun c39 => ?_) (fun c39 => absurd (by decide) c39)
  refine WQ.st (fun _ _ kz => pw_aload0 dX12_readUnit_73 kz) ?_
  refine WQ.st (fun _ _ kz => pw_iload1 dX12_readUnit_74 kz) ?_
  refine wq_o1v wX12_readSum lX12_169 rfl dX12_readUnit_75 hF.1 (w_readSum hF hw _) rfl (Nat.le_of_ble_eq_true rfl) (Nat.le_of_ble_eq_true rfl) (fun h75 z75 => ?_)
  subst z75
  refine WQ.st (fun _ _ kz => pw_aload0 dX12_readUnit_78 kz) ?_
  refine WQ.st (fun _ _ kz => pw_bipush (v := 39) dX12_readUnit_79 (by decide) kz) ?_
  refine wq_o1i wX12_is lX12_142 rfl dX12_readUnit_81 hF.1 (c_isW hF hw _) rfl (Nat.le_of_ble_eq_true rfl) (Nat.le_of_ble_eq_true rfl) (fun h81 z81 => ?_)
  subst z81
  refine WQ.br (fun _ _ ka kb => pw_if_eq (tgt := 93) dX12_readUnit_84 (by decide) ka kb) (fun c84 => ?_) (fun c84 => absurd (by decide) c84)
  refine WQ.st (fun _ _ kz => pw_aload0 dX12_readUnit_93 kz) ?_
  refine WQ.st (fun _ _ kz => pw_bipush (v := 40) dX12_readUnit_94 (by decide) kz) ?_
  refine wq_o1i wX12_is lX12_142 rfl dX12_readUnit_96 hF.1 (c_isW hF hw _) rfl (Nat.le_of_ble_eq_true rfl) (Nat.le_of_ble_eq_true rfl) (fun h96 z96 => ?_)
  subst z96
  refine WQ.br (fun _ _ ka kb => pw_if_eq (tgt := 108) dX12_readUnit_99 (by decide) ka kb) (fun c99 => ?_) (fun c99 => absurd (by decide) c99)
  refine WQ.st (fun _ _ kz => pw_sipush (v := 3005) dX12_readUnit_108 (by decide) kz) ?_
  refine WQ.st (fun _ _ kz => pw_istore2 dX12_readUnit_111 (by decide) (k := kz)) ?_
  refine WQ.st (fun _ _ kz => pw_aload0 dX12_readUnit_112 kz) ?_
  refine WQ.st (fun _ _ kz => pw_bipush (v := 39) dX12_readUnit_113 (by decide) kz) ?_
  refine wq_o1i wX12_is lX12_142 rfl dX12_readUnit_115 hF.1 (c_isW hF hw _) rfl (Nat.le_of_ble_eq_true rfl) (Nat.le_of_ble_eq_true rfl) (fun h115 z115 => ?_)
  subst z115
  refine WQ.bn (fun _ _ ka kb => pw_if_ne (tgt := 139) dX12_readUnit_118 (by decide) ka kb) (fun c118 => absurd (by decide) c118) (fun c118 => ?_)
  refine WQ.st (fun _ _ kz => pw_aload0 dX12_readUnit_121 kz) ?_
  refine WQ.st (fun _ _ kz => pw_bipush (v := 40) dX12_readUnit_122 (by decide) kz) ?_
  refine wq_o1i wX12_is lX12_142 rfl dX12_readUnit_124 hF.1 (c_isW hF hw _) rfl (Nat.le_of_ble_eq_true rfl) (Nat.le_of_ble_eq_true rfl) (fun h124 z124 => ?_)
  subst z124
  refine WQ.bn (fun _ _ ka kb => pw_if_ne (tgt := 139) dX12_readUnit_127 (by decide) ka kb) (fun c127 => absurd (by decide) c127) (fun c127 => ?_)
  refine WQ.st (fun _ _ kz => pw_aload0 dX12_readUnit_130 kz) ?_
  refine WQ.st (fun _ _ kz => pw_bipush (v := 41) dX12_readUnit_131 (by decide) kz) ?_
  refine wq_o1i wX12_is lX12_142 rfl dX12_readUnit_133 hF.1 (c_isW hF hw _) rfl (Nat.le_of_ble_eq_true rfl) (Nat.le_of_ble_eq_true rfl) (fun h133 z133 => ?_)
  subst z133
  refine WQ.br (fun _ _ ka kb => pw_if_eq (tgt := 146) dX12_readUnit_136 (by decide) ka kb) (fun c136 => ?_) (fun c136 => absurd (by decide) c136)
  refine WQ.st (fun _ _ kz => pw_aload0 dX12_readUnit_146 kz) ?_
  refine WQ.st (fun _ _ kz => pw_iconst (v := 2) dX12_readUnit_147 (by decide) kz) ?_
  refine wq_o1v wX12_fails lX12_148 rfl dX12_readUnit_148 hF.1 (c_failsW hF hw _) rfl (Nat.le_of_ble_eq_true rfl) (Nat.le_of_ble_eq_true rfl) (fun h148 z148 => ?_)
  subst z148
  refine WQ.st (fun _ _ kz => pw_aload0 dX12_readUnit_151 kz) ?_
  refine WQ.st (fun _ _ kz => pw_iload1 dX12_readUnit_152 kz) ?_
  refine wq_o1v wX12_readSum lX12_169 rfl dX12_readUnit_153 hF.1 (w_readSum hF hw _) rfl (Nat.le_of_ble_eq_true rfl) (Nat.le_of_ble_eq_true rfl) (fun h153 z153 => ?_)
  subst z153
  refine WQ.st (fun _ _ kz => pw_aload0 dX12_readUnit_156 kz) ?_
  refine WQ.st (fun _ _ kz => pw_iload2 dX12_readUnit_157 kz) ?_
  refine wq_o1v wX12_codes lX12_160 rfl dX12_readUnit_158 hF.1 (c_codesW hF hw _) rfl (Nat.le_of_ble_eq_true rfl) (Nat.le_of_ble_eq_true rfl) (fun h158 z158 => ?_)
  subst z158
  refine ⟨_, _, pw_vret dX12_readUnit_161 rfl rfl rfl, ?_⟩
  exact ⟨rfl, rfl⟩
set_option maxRecDepth 20000 in
theorem w_readBoth5 {G : gT} {d : Nat} {S : sS} {V : sV} {P : sP} {A : sV} {B : sB} {Q : sP} {t sl o : Nat} (hF : MF S P o) (hw : ¬ V o 11 = 0) (dep : Int32) : WQ G (d + 5) mX12_readBoth 5 [some (.ref o), some (.int dep)] [] (t, sl, gh S V P A B Q) (fun r h' => r = none ∧ h' = (t, sl, gh S V P A B Q)) := by
  refine WQ.st (fun _ _ kz => pw_aload0 dX12_readBoth_5 kz) ?_
  refine WQ.st (fun _ _ kz => pw_bipush (v := 17) dX12_readBoth_6 (by decide) kz) ?_
  refine wq_o1i wX12_eats lX12_172 rfl dX12_readBoth_8 hF.1 (c_eatsW hF hw _) rfl (Nat.le_of_ble_eq_true rfl) (Nat.le_of_ble_eq_true rfl) (fun h8 z8 => ?_)
  subst z8
  refine WQ.br (fun _ _ ka kb => pw_if_eq (tgt := 29) dX12_readBoth_11 (by decide) ka kb) (fun c11 => ?_) (fun c11 => absurd (by decide) c11)
  refine ⟨_, _, pw_vret dX12_readBoth_29 rfl rfl rfl, ?_⟩
  exact ⟨rfl, rfl⟩
set_option maxRecDepth 20000 in
theorem w_readBoth {G : gT} {d : Nat} {S : sS} {V : sV} {P : sP} {A : sV} {B : sB} {Q : sP} {t sl o : Nat} (hF : MF S P o) (hw : ¬ V o 11 = 0) (dep : Int32) : WQ G (d + 5) mX12_readBoth 0 [some (.ref o), some (.int dep)] [] (t, sl, gh S V P A B Q) (fun r h' => r = none ∧ h' = (t, sl, gh S V P A B Q)) := by
  refine WQ.st (fun _ _ kz => pw_aload0 dX12_readBoth_0 kz) ?_
  refine WQ.st (fun _ _ kz => pw_iload1 dX12_readBoth_1 kz) ?_
  refine wq_o1v wX12_readUnit lX12_181 rfl dX12_readBoth_2 hF.1 (w_readUnit hF hw _) rfl (Nat.le_of_ble_eq_true rfl) (Nat.le_of_ble_eq_true rfl) (fun h2 z2 => ?_)
  subst z2
  exact w_readBoth5 hF hw _
set_option maxRecDepth 20000 in
theorem w_readTruth5 {G : gT} {d : Nat} {S : sS} {V : sV} {P : sP} {A : sV} {B : sB} {Q : sP} {t sl o : Nat} (hF : MF S P o) (hw : ¬ V o 11 = 0) (dep : Int32) : WQ G (d + 6) mX12_readTruth 5 [some (.ref o), some (.int dep)] [] (t, sl, gh S V P A B Q) (fun r h' => r = none ∧ h' = (t, sl, gh S V P A B Q)) := by
  refine WQ.st (fun _ _ kz => pw_aload0 dX12_readTruth_5 kz) ?_
  refine WQ.st (fun _ _ kz => pw_bipush (v := 18) dX12_readTruth_6 (by decide) kz) ?_
  refine wq_o1i wX12_eats lX12_172 rfl dX12_readTruth_8 hF.1 (c_eatsW hF hw _) rfl (Nat.le_of_ble_eq_true rfl) (Nat.le_of_ble_eq_true rfl) (fun h8 z8 => ?_)
  subst z8
  refine WQ.br (fun _ _ ka kb => pw_if_eq (tgt := 29) dX12_readTruth_11 (by decide) ka kb) (fun c11 => ?_) (fun c11 => absurd (by decide) c11)
  refine ⟨_, _, pw_vret dX12_readTruth_29 rfl rfl rfl, ?_⟩
  exact ⟨rfl, rfl⟩
set_option maxRecDepth 20000 in
theorem w_readTruth {G : gT} {d : Nat} {S : sS} {V : sV} {P : sP} {A : sV} {B : sB} {Q : sP} {t sl o : Nat} (hF : MF S P o) (hw : ¬ V o 11 = 0) (dep : Int32) : WQ G (d + 6) mX12_readTruth 0 [some (.ref o), some (.int dep)] [] (t, sl, gh S V P A B Q) (fun r h' => r = none ∧ h' = (t, sl, gh S V P A B Q)) := by
  refine WQ.st (fun _ _ kz => pw_aload0 dX12_readTruth_0 kz) ?_
  refine WQ.st (fun _ _ kz => pw_iload1 dX12_readTruth_1 kz) ?_
  refine wq_o1v wX12_readBoth lX12_187 rfl dX12_readTruth_2 hF.1 (w_readBoth hF hw _) rfl (Nat.le_of_ble_eq_true rfl) (Nat.le_of_ble_eq_true rfl) (fun h2 z2 => ?_)
  subst z2
  exact w_readTruth5 hF hw _
