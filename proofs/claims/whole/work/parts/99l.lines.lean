set_option maxRecDepth 20000 in
theorem l_dcopy {G : gT} {d : Nat} {S : sS} {V : sV} {P : sP} {B : sB} {Q : sP} {t sl o : Nat} (hF : MF S P o) {A0 : sV} {x1 : Int32} {Z : Option Value → Ph → Prop} (kf : ∀ A' : sV, (∀ a, a ≠ o + 1 → A' a = A0 a) → (∀ j, j < 1164 → A' (o + 1) j = A0 (o + 4) j) → (∀ j, 1164 ≤ j → A' (o + 1) j = A0 (o + 1) j) → WQ G d mX12_desk 166 [some (.ref o), some (.int x1), some (.int (nI 1164))] [] (t, sl, gh S V P A' B Q) Z) : ∀ (m k : Nat) (A : sV), k + m = 1164 → (∀ a, a ≠ o + 1 → A a = A0 a) → (∀ j, j < k → A (o + 1) j = A0 (o + 4) j) → (∀ j, k ≤ j → A (o + 1) j = A0 (o + 1) j) → WQ G d mX12_desk 141 [some (.ref o), some (.int x1), some (.int (nI k))] [] (t, sl, gh S V P A B Q) Z := by
  intro m
  induction m with
  | zero =>
    intro k A hk h1 h2 h3
    have hk : k = 1164 := hk
    refine WQ.st (fun _ _ kz => pw_iload2 dX12_desk_141 kz) ?_
    refine WQ.st (fun _ _ kz => pw_sipush (v := 1164) dX12_desk_142 (by decide) kz) ?_
    refine WQ.br (fun _ _ ka kb => pw_icmp_ge (tgt := 166) dX12_desk_145 (by decide) ka kb) (fun c145 => ?_) (fun c145 => absurd (by rw [hk]; decide) c145)
    subst hk
    exact kf A h1 h2 h3
  | succ m ih =>
    intro k A hk h1 h2 h3
    refine WQ.st (fun _ _ kz => pw_iload2 dX12_desk_141 kz) ?_
    refine WQ.st (fun _ _ kz => pw_sipush (v := 1164) dX12_desk_142 (by decide) kz) ?_
    refine WQ.br (fun _ _ ka kb => pw_icmp_ge (tgt := 166) dX12_desk_145 (by decide) ka kb) (fun c145 => absurd c145 (by rw [le_i (show (1164 : Int32).toInt = 1164 from rfl) (ix_n (by omega))]; omega)) (fun c145 => ?_)
    refine WQ.st (fun _ _ kz => pw_aload0 dX12_desk_148 kz) ?_
    refine WQ.st (fun _ _ kz => pw_getr gX12_13 dX12_desk_149 hF.1 (mf_p1 hF) kz) ?_
    refine WQ.st (fun _ _ kz => pw_iload2 dX12_desk_152 kz) ?_
    refine WQ.st (fun _ _ kz => pw_aload0 dX12_desk_153 kz) ?_
    refine WQ.st (fun _ _ kz => pw_getr gX12_24 dX12_desk_154 hF.1 (mf_p4 hF) kz) ?_
    refine WQ.st (fun _ _ kz => pw_iload2 dX12_desk_157 kz) ?_
    refine WQ.st (fun _ _ kz => pw_ald (j := k) dX12_desk_158 (mf_s4 hF) (ix_n (by omega)) (by omega) kz) ?_
    rw [h1 (o + 4) (by omega)]
    refine WQ.st (fun _ _ kz => pw_ast (j := k) dX12_desk_159 (mf_s1 hF) (ix_n (by omega)) (by omega)  kz) ?_
    refine WQ.st (fun _ _ kz => pw_iinc2 (v := 1) dX12_desk_160 (by decide) (by decide) (k := kz)) ?_
    refine WQ.st (fun _ _ kz => pw_goto (tgt := 141) dX12_desk_163 (by decide) kz) ?_
    rw [nI_1]
    refine ih (k + 1) _ (by omega) (fun a ha => by rw [up2_na ha]; exact h1 a ha) (fun j hj => ?_) (fun j hj => by rw [up2_nk (by omega)]; exact h3 j (by omega))
    by_cases e : j = k
    · rw [e, up2_eq]
    · rw [up2_nk e]; exact h2 j (by omega)
set_option maxRecDepth 20000 in
theorem c_desk97 {G : gT} {d : Nat} {S : sS} {V : sV} {P : sP} {A : sV} {B : sB} {Q : sP} {t sl o : Nat} (hF : MF S P o) {x : Nat → Int32} {L T : Nat} {r : RLn} (hr : RXL x L o T r V A) (x1 : Int32) : WQ G d mX12_desk 97 [some (.ref o), some (.int x1), none] [] (t, sl, gh S V P A B Q) (fun q h' => ∃ V' A' : sV, h' = (t, sl, gh S V' P A' B Q) ∧ (∀ a, a ≠ o → V' a = V a) ∧ (∀ k, k ≠ 13 → k ≠ 14 → V' o k = V o k) ∧ (∀ a, a ≠ o + 1 → A' a = A a) ∧ match r with | .error e => q = some (.int (-99000030 - e.1)) ∧ V' o 13 = e.1 ∧ V' o 14 = nI e.2 ∧ A' (o + 1) = A (o + 1) | .ok s => q = some (.int (s.2.1 0)) ∧ V' o 13 = 0 ∧ V' o 14 = -1 ∧ (∀ j, j < 1164 → A' (o + 1) j = A (o + 4) j) ∧ ∀ j, 1164 ≤ j → A' (o + 1) j = A (o + 1) j) := by
  cases r with
  | error e =>
    have hr : V o 11 = e.1 ∧ e.1 ≠ 0 ∧ V o 12 = nI e.2 := hr
    have hw : ¬ V o 11 = 0 := by rw [hr.1]; exact hr.2.1
    have hw13 : ¬ up2 V o 13 e.1 o 11 = 0 := by rw [up2_nk (by omega)]; exact hw
    have hw2 : ¬ up2 (up2 V o 13 e.1) o 14 (nI e.2) o 11 = 0 := by rw [up2_nk (by omega)]; exact hw13
    refine WQ.st (fun _ _ kz => pw_aload0 dX12_desk_97 kz) ?_
    refine WQ.st (fun _ _ kz => pw_aload0 dX12_desk_98 kz) ?_
    refine WQ.st (fun _ _ kz => pw_geti gX12_136 dX12_desk_99 hF.1 kz) ?_
    rw [hr.1]
    refine WQ.st (fun _ _ kz => pw_puti (pX12_213 _ rfl) dX12_desk_102 hF.1 rfl rfl kz) ?_
    refine WQ.st (fun _ _ kz => pw_aload0 dX12_desk_105 kz) ?_
    refine WQ.st (fun _ _ kz => pw_aload0 dX12_desk_106 kz) ?_
    refine WQ.st (fun _ _ kz => pw_geti gX12_136 dX12_desk_107 hF.1 kz) ?_
    refine WQ.bn (fun _ _ ka kb => pw_if_ne (tgt := 117) dX12_desk_110 (by decide) ka kb) (fun c110 => ?_) (fun c110 => absurd c110 hw13)
    refine WQ.st (fun _ _ kz => pw_aload0 dX12_desk_117 kz) ?_
    refine WQ.st (fun _ _ kz => pw_geti gX12_139 dX12_desk_118 hF.1 kz) ?_
    rw [up2_nk (by omega), hr.2.2]
    refine WQ.st (fun _ _ kz => pw_puti (pX12_27 _ rfl) dX12_desk_121 hF.1 rfl rfl kz) ?_
    refine WQ.st (fun _ _ kz => pw_aload0 dX12_desk_124 kz) ?_
    refine WQ.st (fun _ _ kz => pw_geti gX12_136 dX12_desk_125 hF.1 kz) ?_
    refine WQ.br (fun _ _ ka kb => pw_if_eq (tgt := 139) dX12_desk_128 (by decide) ka kb) (fun c128 => absurd c128 hw2) (fun c128 => ?_)
    refine WQ.st (fun _ _ kz => pw_ldc kX12_216 dX12_desk_131 kz) ?_
    refine WQ.st (fun _ _ kz => pw_aload0 dX12_desk_133 kz) ?_
    refine WQ.st (fun _ _ kz => pw_geti gX12_136 dX12_desk_134 hF.1 kz) ?_
    rw [up2_nk (by omega), up2_nk (by omega), hr.1]
    refine WQ.st (fun _ _ kz => pw_isub dX12_desk_137 kz) ?_
    refine ⟨_, _, pw_iret dX12_desk_138 rfl rfl rfl rfl, ?_⟩
    exact ⟨_, _, rfl, fun a ha => by rw [up2_na ha, up2_na ha], fun k h1 h2 => by rw [up2_nk h2, up2_nk h1], fun _ _ => rfl, rfl, by rw [up2_nk (by omega), up2_eq], by rw [up2_eq], rfl⟩
  | ok s =>
    have hr : RNF x L o s.1 s.2.2 s.2.1 V A ∧ RB T T s.1 s.2.2 := hr
    refine WQ.st (fun _ _ kz => pw_aload0 dX12_desk_97 kz) ?_
    refine WQ.st (fun _ _ kz => pw_aload0 dX12_desk_98 kz) ?_
    refine WQ.st (fun _ _ kz => pw_geti gX12_136 dX12_desk_99 hF.1 kz) ?_
    rw [hr.1.1.w0]
    refine WQ.st (fun _ _ kz => pw_puti (pX12_213 _ rfl) dX12_desk_102 hF.1 rfl rfl kz) ?_
    refine WQ.st (fun _ _ kz => pw_aload0 dX12_desk_105 kz) ?_
    refine WQ.st (fun _ _ kz => pw_aload0 dX12_desk_106 kz) ?_
    refine WQ.st (fun _ _ kz => pw_geti gX12_136 dX12_desk_107 hF.1 kz) ?_
    refine WQ.bn (fun _ _ ka kb => pw_if_ne (tgt := 117) dX12_desk_110 (by decide) ka kb) (fun c110 => absurd (by rw [up2_nk (by omega)]; exact hr.1.1.w0) c110) (fun c110 => ?_)
    refine WQ.st (fun _ _ kz => pw_iconst (v := -1) dX12_desk_113 (by decide) kz) ?_
    refine WQ.st (fun _ _ kz => pw_goto (tgt := 121) dX12_desk_114 (by decide) kz) ?_
    refine WQ.st (fun _ _ kz => pw_puti (pX12_27 _ rfl) dX12_desk_121 hF.1 rfl rfl kz) ?_
    refine WQ.st (fun _ _ kz => pw_aload0 dX12_desk_124 kz) ?_
    refine WQ.st (fun _ _ kz => pw_geti gX12_136 dX12_desk_125 hF.1 kz) ?_
    refine WQ.br (fun _ _ ka kb => pw_if_eq (tgt := 139) dX12_desk_128 (by decide) ka kb) (fun c128 => ?_) (fun c128 => absurd (by rw [up2_nk (by omega), up2_nk (by omega)]; exact hr.1.1.w0) c128)
    refine WQ.st (fun _ _ kz => pw_iconst (v := 0) dX12_desk_139 (by decide) kz) ?_
    refine WQ.st (fun _ _ kz => pw_istore2 dX12_desk_140 (by decide) (k := kz)) ?_
    rw [show (0 : Int32) = nI 0 from rfl]
    refine l_dcopy hF (A0 := A) (fun A' h1 h2 h3 => ?_) 1164 0 A rfl (fun _ _ => rfl) (fun j hj => by omega) (fun _ _ => rfl)
    refine WQ.st (fun _ _ kz => pw_aload0 dX12_desk_166 kz) ?_
    refine WQ.st (fun _ _ kz => pw_getr gX12_13 dX12_desk_167 hF.1 (mf_p1 hF) kz) ?_
    refine WQ.st (fun _ _ kz => pw_iconst (v := 0) dX12_desk_170 (by decide) kz) ?_
    refine WQ.st (fun _ _ kz => pw_ald (j := 0) dX12_desk_171 (mf_s1 hF) rfl (by omega) kz) ?_
    rw [h2 0 (by omega), hr.1.2 0 (by omega)]
    refine ⟨_, _, pw_iret dX12_desk_172 rfl rfl rfl rfl, ?_⟩
    exact ⟨_, A', rfl, fun a ha => by rw [up2_na ha, up2_na ha], fun k h1 h2 => by rw [up2_nk h2, up2_nk h1], h1, rfl, by rw [up2_nk (by omega), up2_eq], by rw [up2_eq], h2, h3⟩
