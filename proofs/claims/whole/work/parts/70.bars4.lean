/-! ===== the class: Bars.takeUp, useSheet ===== -/
set_option maxRecDepth 20000 in
theorem l_takeUp {G : gT} {d : Nat} {S1 : sS} {V1 : sV} {P : sP} {A1 : sV} {B1 : sB} {Q1 : sP} {t1 sl1 : Nat} {al : Nat → Int32} {ls p tm q c : Nat} (hC1 : CF S1 P) (hq : q < 4) (v4 : V1 96 4 = bI (asks al 0)) (v5 : V1 96 5 = bI (asks al 1)) (v6 : V1 96 6 = nI q) (v12 : V1 96 12 = nI ls) (hc : Q1 99 q = some c) (x4 : Int32) : WQ G d mX0_takeUp 108 [some (.ref 96), some (.int (nI p)), some (.int (nI tm)), some (.int (nI q)), some (.int x4), none] [] (t1, sl1, gh S1 V1 P A1 B1 Q1) (fun r h' => r = none ∧ ((A1 100 q = keyOf al p tm ∧ h' = (t1, sl1, gh S1 (up2 V1 96 14 (A1 101 q)) (up2 P 96 13 (some c)) A1 B1 Q1)) ∨ (A1 100 q ≠ keyOf al p tm ∧ h' = (t1, sl1, gh S1 (up2 (up2 V1 96 12 (nI (ls + 1))) 96 14 (nI (ls + 1))) (up2 P 96 13 (some c)) (up2 (up2 A1 100 q (keyOf al p tm)) 101 q (nI (ls + 1))) B1 Q1)))) := by
  have k138 : WQ G d mX0_takeUp 138 [some (.ref 96), some (.int (nI p)), some (.int (nI tm)), some (.int (nI q)), some (.int x4), some (.int (keyOf al p tm))] [] (t1, sl1, gh S1 V1 P A1 B1 Q1) (fun r h' => r = none ∧ ((A1 100 q = keyOf al p tm ∧ h' = (t1, sl1, gh S1 (up2 V1 96 14 (A1 101 q)) (up2 P 96 13 (some c)) A1 B1 Q1)) ∨ (A1 100 q ≠ keyOf al p tm ∧ h' = (t1, sl1, gh S1 (up2 (up2 V1 96 12 (nI (ls + 1))) 96 14 (nI (ls + 1))) (up2 P 96 13 (some c)) (up2 (up2 A1 100 q (keyOf al p tm)) 101 q (nI (ls + 1))) B1 Q1)))) := by
    refine WQ.st (fun _ _ kz => pw_aload0 dX0_takeUp_138 kz) ?_
    refine WQ.st (fun _ _ kz => pw_getr gX0_48 dX0_takeUp_139 (cf_s96 hC1) (cf_p96_10 hC1) kz) ?_
    refine WQ.st (fun _ _ kz => pw_aload0 dX0_takeUp_142 kz) ?_
    refine WQ.st (fun _ _ kz => pw_geti gX0_28 dX0_takeUp_143 (cf_s96 hC1) kz) ?_
    rw [v6]
    refine WQ.st (fun _ _ kz => pw_ald (j := q) dX0_takeUp_146 (cf_s100 hC1) (ix_m rfl (by omega)) (by omega) kz) ?_
    refine WQ.st (fun _ _ kz => pw_iload5 dX0_takeUp_147 kz) ?_
    refine WQ.br (fun _ _ ka kb => pw_icmp_eq (tgt := 186) dX0_takeUp_149 (by decide) ka kb) (fun c149 => ?_) (fun c149 => ?_)
    · refine WQ.st (fun _ _ kz => pw_aload0 dX0_takeUp_186 kz) ?_
      refine WQ.st (fun _ _ kz => pw_aload0 dX0_takeUp_187 kz) ?_
      refine WQ.st (fun _ _ kz => pw_getr gX0_44 dX0_takeUp_188 (cf_s96 hC1) (cf_p96_9 hC1) kz) ?_
      refine WQ.st (fun _ _ kz => pw_aload0 dX0_takeUp_191 kz) ?_
      refine WQ.st (fun _ _ kz => pw_geti gX0_28 dX0_takeUp_192 (cf_s96 hC1) kz) ?_
      rw [v6]
      refine WQ.st (fun _ _ kz => pw_qldr (j := q) dX0_takeUp_195 (cf_s99 hC1) (by decide) (ix_m rfl (by omega)) (by omega) hc kz) ?_
      refine WQ.st (fun _ _ kz => pw_putr (pX0_57 _ rfl) dX0_takeUp_196 (cf_s96 hC1) kz) ?_
      refine WQ.st (fun _ _ kz => pw_aload0 dX0_takeUp_199 kz) ?_
      refine WQ.st (fun _ _ kz => pw_aload0 dX0_takeUp_200 kz) ?_
      refine WQ.st (fun _ _ kz => pw_getr gX0_51 dX0_takeUp_201 (cf_s96 hC1) (cf_p96_11 (hC1.up (a := 96) (k := 13) (x := some c) (by decide))) kz) ?_
      refine WQ.st (fun _ _ kz => pw_aload0 dX0_takeUp_204 kz) ?_
      refine WQ.st (fun _ _ kz => pw_geti gX0_28 dX0_takeUp_205 (cf_s96 hC1) kz) ?_
      rw [v6]
      refine WQ.st (fun _ _ kz => pw_ald (j := q) dX0_takeUp_208 (cf_s101 hC1) (ix_m rfl (by omega)) (by omega) kz) ?_
      refine WQ.st (fun _ _ kz => pw_puti (pX0_60 _ rfl) dX0_takeUp_209 (cf_s96 hC1) rfl rfl kz) ?_
      refine ⟨_, _, pw_vret dX0_takeUp_212 rfl rfl rfl, ?_⟩
      exact ⟨rfl, Or.inl ⟨c149, rfl⟩⟩
    · refine WQ.st (fun _ _ kz => pw_aload0 dX0_takeUp_152 kz) ?_
      refine WQ.st (fun _ _ kz => pw_getr gX0_48 dX0_takeUp_153 (cf_s96 hC1) (cf_p96_10 hC1) kz) ?_
      refine WQ.st (fun _ _ kz => pw_aload0 dX0_takeUp_156 kz) ?_
      refine WQ.st (fun _ _ kz => pw_geti gX0_28 dX0_takeUp_157 (cf_s96 hC1) kz) ?_
      rw [v6]
      refine WQ.st (fun _ _ kz => pw_iload5 dX0_takeUp_160 kz) ?_
      refine WQ.st (fun _ _ kz => pw_ast (j := q) dX0_takeUp_162 (cf_s100 hC1) (ix_m rfl (by omega)) (by omega)  kz) ?_
      refine WQ.st (fun _ _ kz => pw_aload0 dX0_takeUp_163 kz) ?_
      refine WQ.st (fun _ _ kz => pw_dup dX0_takeUp_164 rfl kz) ?_
      refine WQ.st (fun _ _ kz => pw_geti gX0_54 dX0_takeUp_165 (cf_s96 hC1) kz) ?_
      refine WQ.st (fun _ _ kz => pw_iconst (v := 1) dX0_takeUp_168 (by decide) kz) ?_
      refine WQ.st (fun _ _ kz => pw_iadd dX0_takeUp_169 kz) ?_
      rw [v12, nI_1]
      refine WQ.st (fun _ _ kz => pw_puti (pX0_54 _ rfl) dX0_takeUp_170 (cf_s96 hC1) rfl rfl kz) ?_
      refine WQ.st (fun _ _ kz => pw_aload0 dX0_takeUp_173 kz) ?_
      refine WQ.st (fun _ _ kz => pw_getr gX0_51 dX0_takeUp_174 (cf_s96 hC1) (cf_p96_11 hC1) kz) ?_
      refine WQ.st (fun _ _ kz => pw_aload0 dX0_takeUp_177 kz) ?_
      refine WQ.st (fun _ _ kz => pw_geti gX0_28 dX0_takeUp_178 (cf_s96 hC1) kz) ?_
      rw [up2_nk (by decide), v6]
      refine WQ.st (fun _ _ kz => pw_aload0 dX0_takeUp_181 kz) ?_
      refine WQ.st (fun _ _ kz => pw_geti gX0_54 dX0_takeUp_182 (cf_s96 hC1) kz) ?_
      rw [up2_eq]
      refine WQ.st (fun _ _ kz => pw_ast (j := q) dX0_takeUp_185 (cf_s101 hC1) (ix_m rfl (by omega)) (by omega)  kz) ?_
      refine WQ.st (fun _ _ kz => pw_aload0 dX0_takeUp_186 kz) ?_
      refine WQ.st (fun _ _ kz => pw_aload0 dX0_takeUp_187 kz) ?_
      refine WQ.st (fun _ _ kz => pw_getr gX0_44 dX0_takeUp_188 (cf_s96 hC1) (cf_p96_9 hC1) kz) ?_
      refine WQ.st (fun _ _ kz => pw_aload0 dX0_takeUp_191 kz) ?_
      refine WQ.st (fun _ _ kz => pw_geti gX0_28 dX0_takeUp_192 (cf_s96 hC1) kz) ?_
      rw [up2_nk (by decide), v6]
      refine WQ.st (fun _ _ kz => pw_qldr (j := q) dX0_takeUp_195 (cf_s99 hC1) (by decide) (ix_m rfl (by omega)) (by omega) hc kz) ?_
      refine WQ.st (fun _ _ kz => pw_putr (pX0_57 _ rfl) dX0_takeUp_196 (cf_s96 hC1) kz) ?_
      refine WQ.st (fun _ _ kz => pw_aload0 dX0_takeUp_199 kz) ?_
      refine WQ.st (fun _ _ kz => pw_aload0 dX0_takeUp_200 kz) ?_
      refine WQ.st (fun _ _ kz => pw_getr gX0_51 dX0_takeUp_201 (cf_s96 hC1) (cf_p96_11 (hC1.up (a := 96) (k := 13) (x := some c) (by decide))) kz) ?_
      refine WQ.st (fun _ _ kz => pw_aload0 dX0_takeUp_204 kz) ?_
      refine WQ.st (fun _ _ kz => pw_geti gX0_28 dX0_takeUp_205 (cf_s96 hC1) kz) ?_
      rw [up2_nk (by decide), v6]
      refine WQ.st (fun _ _ kz => pw_ald (j := q) dX0_takeUp_208 (cf_s101 hC1) (ix_m rfl (by omega)) (by omega) kz) ?_
      refine WQ.st (fun _ _ kz => pw_puti (pX0_60 _ rfl) dX0_takeUp_209 (cf_s96 hC1) rfl rfl kz) ?_
      refine ⟨_, _, pw_vret dX0_takeUp_212 rfl rfl rfl, ?_⟩
      exact ⟨rfl, Or.inr ⟨c149, by rw [up2_eq]⟩⟩
  refine WQ.st (fun _ _ kz => pw_aload0 dX0_takeUp_108 kz) ?_
  refine WQ.st (fun _ _ kz => pw_geti gX0_22 dX0_takeUp_109 (cf_s96 hC1) kz) ?_
  rw [v4]
  refine WQ.br (fun _ _ ka kb => pw_if_eq (tgt := 119) dX0_takeUp_112 (by decide) ka kb) (fun c112 => ?_) (fun c112 => ?_)
  · rw [bI_0] at c112
    refine WQ.st (fun _ _ kz => pw_iconst (v := 0) dX0_takeUp_119 (by decide) kz) ?_
    refine WQ.st (fun _ _ kz => pw_bipush (v := 10) dX0_takeUp_120 (by decide) kz) ?_
    refine WQ.st (fun _ _ kz => pw_imul dX0_takeUp_122 kz) ?_
    refine WQ.st (fun _ _ kz => pw_aload0 dX0_takeUp_123 kz) ?_
    refine WQ.st (fun _ _ kz => pw_geti gX0_25 dX0_takeUp_124 (cf_s96 hC1) kz) ?_
    rw [v5]
    refine WQ.br (fun _ _ ka kb => pw_if_eq (tgt := 134) dX0_takeUp_127 (by decide) ka kb) (fun c127 => ?_) (fun c127 => ?_)
    · rw [bI_0] at c127
      refine WQ.st (fun _ _ kz => pw_iconst (v := 0) dX0_takeUp_134 (by decide) kz) ?_
      refine WQ.st (fun _ _ kz => pw_iadd dX0_takeUp_135 kz) ?_
      refine WQ.st (fun _ _ kz => pw_istore5 dX0_takeUp_136 (by decide) (k := kz)) ?_
      rw [show (0 * 10 + 0 : Int32) = keyOf al p tm from by unfold keyOf; rw [c112, c127]; rfl]
      exact k138
    · rw [bI_n] at c127
      refine WQ.st (fun _ _ kz => pw_iload2 dX0_takeUp_130 kz) ?_
      refine WQ.st (fun _ _ kz => pw_goto (tgt := 135) dX0_takeUp_131 (by decide) kz) ?_
      refine WQ.st (fun _ _ kz => pw_iadd dX0_takeUp_135 kz) ?_
      refine WQ.st (fun _ _ kz => pw_istore5 dX0_takeUp_136 (by decide) (k := kz)) ?_
      rw [show (0 * 10 + nI tm : Int32) = keyOf al p tm from by unfold keyOf; rw [c112, c127]; rfl]
      exact k138
  · rw [bI_n] at c112
    refine WQ.st (fun _ _ kz => pw_iload1 dX0_takeUp_115 kz) ?_
    refine WQ.st (fun _ _ kz => pw_goto (tgt := 120) dX0_takeUp_116 (by decide) kz) ?_
    refine WQ.st (fun _ _ kz => pw_bipush (v := 10) dX0_takeUp_120 (by decide) kz) ?_
    refine WQ.st (fun _ _ kz => pw_imul dX0_takeUp_122 kz) ?_
    refine WQ.st (fun _ _ kz => pw_aload0 dX0_takeUp_123 kz) ?_
    refine WQ.st (fun _ _ kz => pw_geti gX0_25 dX0_takeUp_124 (cf_s96 hC1) kz) ?_
    rw [v5]
    refine WQ.br (fun _ _ ka kb => pw_if_eq (tgt := 134) dX0_takeUp_127 (by decide) ka kb) (fun c127 => ?_) (fun c127 => ?_)
    · rw [bI_0] at c127
      refine WQ.st (fun _ _ kz => pw_iconst (v := 0) dX0_takeUp_134 (by decide) kz) ?_
      refine WQ.st (fun _ _ kz => pw_iadd dX0_takeUp_135 kz) ?_
      refine WQ.st (fun _ _ kz => pw_istore5 dX0_takeUp_136 (by decide) (k := kz)) ?_
      rw [show (nI p * 10 + 0 : Int32) = keyOf al p tm from by unfold keyOf; rw [c112, c127]; rfl]
      exact k138
    · rw [bI_n] at c127
      refine WQ.st (fun _ _ kz => pw_iload2 dX0_takeUp_130 kz) ?_
      refine WQ.st (fun _ _ kz => pw_goto (tgt := 135) dX0_takeUp_131 (by decide) kz) ?_
      refine WQ.st (fun _ _ kz => pw_iadd dX0_takeUp_135 kz) ?_
      refine WQ.st (fun _ _ kz => pw_istore5 dX0_takeUp_136 (by decide) (k := kz)) ?_
      rw [show (nI p * 10 + nI tm : Int32) = keyOf al p tm from by unfold keyOf; rw [c112, c127]; rfl]
      exact k138
set_option maxRecDepth 20000 in
theorem k_takeUp {G : gT} {d : Nat} {S : sS} {V : sV} {P : sP} {A : sV} {B : sB} {Q : sP} {t sl : Nat} {al : Nat → Int32} {sh ls p tm q : Nat} (hK : KA S V P A B Q t al sh ls) (hls : ls + 1 < 2000000000) (hp : p < 5) (ht : tm < 10) (hq : q < 4) (hiq : isQ al (nI q).toInt = true) : WQ G (d + 2) mX0_takeUp 0 [some (.ref 96), some (.int (nI p)), some (.int (nI tm)), some (.int (nI q)), none, none] [] (t, sl, gh S V P A B Q) (fun r h' => r = none ∧ ∃ (t' sl' ls' : Nat) (S' : sS) (V' : sV) (P' : sP) (A' : sV) (B' : sB) (Q' : sP), h' = (t', sl', gh S' V' P' A' B' Q') ∧ KB S' V' P' A' B' Q' t' al sh ls' p tm q ∧ ls' ≤ ls + 1 ∧ FrT S V P A B Q t S' V' P' A' B' Q' t' ∧ (∀ k1 k2, Room2 S Q t sl k1 k2 → Room2 S' Q' t' sl' k1 k2)) := by
  have hsa := hK.sa
  have fk : ShE (up2 V 96 6 (nI q)) A sh al := hK.se.fr (fun x a1 a2 => up2_na (by omega)) (fun _ _ _ => rfl)
  have hst8 := hK.st
  have hcz := csz_le (asks al 7) (asks al 6)
  obtain ⟨m1, m2⟩ := hK.ba.2.2.2.2.2.2.1 q hq
  have hm : (∃ c n : Nat, Q 99 q = some c ∧ S c = (22, n) ∧ csz (asks al 7) (asks al 6) ≤ n) ∨ A 100 q = -1 := by
    by_cases e : A 100 q = -1
    · exact Or.inr e
    · obtain ⟨c, n, st, g1, g2, g3, -⟩ := m2 e
      exact Or.inl ⟨c, n, g1, g2, g3⟩
  cases hQ : Q 99 q with
  | none =>
    have hm1 : A 100 q = -1 := by
      rcases hm with ⟨c, n, g, -⟩ | h
      · rw [hQ] at g; cases g
      · exact h
    have hlt : szQ S Q q < csz (asks al 7) (asks al 6) := by
      unfold szQ
      rw [hQ]
      show 0 < _
      omega
    refine WQ.st (fun _ _ kz => pw_iload3 dX0_takeUp_0 kz) ?_
    refine WQ.br (fun _ _ ka kb => pw_if_lt (tgt := 9) dX0_takeUp_1 (by decide) ka kb) (fun c1 => absurd c1 (by rw [lt_i (ix_n (j := q) (by omega)) li_0]; omega)) (fun c1 => ?_)
    refine WQ.st (fun _ _ kz => pw_iload3 dX0_takeUp_4 kz) ?_
    refine WQ.st (fun _ _ kz => pw_iconst (v := 4) dX0_takeUp_5 (by decide) kz) ?_
    refine WQ.br (fun _ _ ka kb => pw_icmp_lt (tgt := 10) dX0_takeUp_6 (by decide) ka kb) (fun c6 => ?_) (fun c6 => absurd (by rw [nl_4, lt_i (ix_n (j := q) (by omega)) (ix_n (j := 4) (by omega))]; omega) c6)
    refine WQ.st (fun _ _ kz => pw_aload0 dX0_takeUp_10 kz) ?_
    refine WQ.st (fun _ _ kz => pw_iload3 dX0_takeUp_11 kz) ?_
    refine WQ.st (fun _ _ kz => pw_puti (pX0_28 _ rfl) dX0_takeUp_12 (cf_s96 hK.cf) rfl rfl kz) ?_
    refine WQ.st (fun _ _ kz => pw_aload0 dX0_takeUp_15 kz) ?_
    refine WQ.st (fun _ _ kz => pw_aload0 dX0_takeUp_16 kz) ?_
    refine WQ.st (fun _ _ kz => pw_getr gX0_63 dX0_takeUp_17 (cf_s96 hK.cf) hK.p2 kz) ?_
    refine WQ.st (fun _ _ kz => pw_aload0 dX0_takeUp_20 kz) ?_
    refine WQ.st (fun _ _ kz => pw_geti gX0_28 dX0_takeUp_21 (cf_s96 hK.cf) kz) ?_
    rw [up2_eq]
    refine wq_o1i wX7_barsOf lX0_87 rfl dX0_takeUp_24 (sh_s0 hK.hsh) (k_barsOf hK.hsh fk hK.dv hq hiq) rfl (Nat.le_of_ble_eq_true rfl) (Nat.le_of_ble_eq_true rfl) (fun h24 z24 => ?_)
    subst z24
    refine WQ.st (fun _ _ kz => pw_puti (pX0_9 _ rfl) dX0_takeUp_27 (cf_s96 hK.cf) rfl rfl kz) ?_
    refine WQ.st (fun _ _ kz => pw_aload0 dX0_takeUp_30 kz) ?_
    refine WQ.st (fun _ _ kz => pw_getr gX0_33 dX0_takeUp_31 (cf_s96 hK.cf) (cf_p96_7 hK.cf) kz) ?_
    refine WQ.st (fun _ _ kz => pw_iconst (v := 0) dX0_takeUp_34 (by decide) kz) ?_
    refine WQ.st (fun _ _ kz => pw_iload1 dX0_takeUp_35 kz) ?_
    refine WQ.st (fun _ _ kz => pw_ast (j := 0) dX0_takeUp_36 (cf_s97 hK.cf) rfl (by omega)  kz) ?_
    refine WQ.st (fun _ _ kz => pw_aload0 dX0_takeUp_37 kz) ?_
    refine WQ.st (fun _ _ kz => pw_getr gX0_33 dX0_takeUp_38 (cf_s96 hK.cf) (cf_p96_7 hK.cf) kz) ?_
    refine WQ.st (fun _ _ kz => pw_iconst (v := 1) dX0_takeUp_41 (by decide) kz) ?_
    refine WQ.st (fun _ _ kz => pw_iload2 dX0_takeUp_42 kz) ?_
    refine WQ.st (fun _ _ kz => pw_ast (j := 1) dX0_takeUp_43 (cf_s97 hK.cf) rfl (by omega)  kz) ?_
    refine WQ.st (fun _ _ kz => pw_aload0 dX0_takeUp_44 kz) ?_
    refine WQ.st (fun _ _ kz => pw_getr gX0_33 dX0_takeUp_45 (cf_s96 hK.cf) (cf_p96_7 hK.cf) kz) ?_
    refine WQ.st (fun _ _ kz => pw_iconst (v := 2) dX0_takeUp_48 (by decide) kz) ?_
    refine WQ.st (fun _ _ kz => pw_aload0 dX0_takeUp_49 kz) ?_
    refine WQ.st (fun _ _ kz => pw_geti gX0_28 dX0_takeUp_50 (cf_s96 hK.cf) kz) ?_
    rw [up2_nk (by decide), up2_eq]
    refine WQ.st (fun _ _ kz => pw_ast (j := 2) dX0_takeUp_53 (cf_s97 hK.cf) rfl (by omega)  kz) ?_
    rw [up2_pm (A := A), up2_up, up2_up]
    refine WQ.st (fun _ _ kz => pw_aload0 dX0_takeUp_54 kz) ?_
    refine WQ.st (fun _ _ kz => pw_bipush (v := 12) dX0_takeUp_55 (by decide) kz) ?_
    refine WQ.st (fun _ _ kz => pw_bipush (v := -20) dX0_takeUp_57 (by decide) kz) ?_
    refine WQ.st (fun _ _ kz => pw_bipush (v := -2) dX0_takeUp_59 (by decide) kz) ?_
    refine WQ.st (fun _ _ kz => pw_bipush (v := -2) dX0_takeUp_61 (by decide) kz) ?_
    refine wq_o4i wX0_cellOf lX0_91 rfl dX0_takeUp_63 (cf_s96 hK.cf) (k_csz (bs := asks al 7) (bl := asks al 6) hK.cf (by rw [up2_nk (by decide), up2_nk (by decide)]; exact hK.v3) (by rw [up2_nk (by decide), up2_nk (by decide)]; exact hK.v1)) rfl (Nat.le_of_ble_eq_true rfl) (Nat.le_of_ble_eq_true rfl) (fun h63 z63 => ?_)
    subst z63
    refine WQ.st (fun _ _ kz => pw_istore4 dX0_takeUp_66 (by decide) (k := kz)) ?_
    refine WQ.st (fun _ _ kz => pw_aload0 dX0_takeUp_68 kz) ?_
    refine WQ.st (fun _ _ kz => pw_getr gX0_44 dX0_takeUp_69 (cf_s96 hK.cf) (cf_p96_9 hK.cf) kz) ?_
    refine WQ.st (fun _ _ kz => pw_aload0 dX0_takeUp_72 kz) ?_
    refine WQ.st (fun _ _ kz => pw_geti gX0_28 dX0_takeUp_73 (cf_s96 hK.cf) kz) ?_
    rw [up2_nk (by decide), up2_eq]
    refine WQ.st (fun _ _ kz => pw_qld (j := q) dX0_takeUp_76 (cf_s99 hK.cf) (by decide) (ix_m rfl (by omega)) (by omega) kz) ?_
    rw [hQ]
    refine WQ.st (fun _ _ kz => pw_ifnullN (tgt := 95) dX0_takeUp_77 (by decide) kz) ?_
    refine WQ.st (fun _ _ kz => pw_aload0 dX0_takeUp_95 kz) ?_
    refine WQ.st (fun _ _ kz => pw_getr gX0_44 dX0_takeUp_96 (cf_s96 hK.cf) (cf_p96_9 hK.cf) kz) ?_
    refine WQ.st (fun _ _ kz => pw_aload0 dX0_takeUp_99 kz) ?_
    refine WQ.st (fun _ _ kz => pw_geti gX0_28 dX0_takeUp_100 (cf_s96 hK.cf) kz) ?_
    rw [up2_nk (by decide), up2_eq]
    refine WQ.st (fun _ _ kz => pw_iload4 dX0_takeUp_103 kz) ?_
    refine WQ.st (fun _ _ kz => pw_nal (n := (csz (asks al 7) (asks al 6))) dX0_takeUp_105 (ix_n (by omega)) (by omega) kz) ?_
    refine WQ.st (fun _ _ kz => pw_jst (j := q) dX0_takeUp_107 (show pm_up S t (22, (csz (asks al 7) (asks al 6))) 99 = (28, 4) from by rw [pm_up_ne (by omega)]; exact cf_s99 hK.cf)  (show pm_up S t (22, (csz (asks al 7) (asks al 6))) t = (22, (csz (asks al 7) (asks al 6))) from pm_up_eq)  (ix_m rfl (by omega)) (by omega) kz) ?_
    refine (l_takeUp (c := t) (ls := ls) (hK.cf.push (by omega)) hq (by rw [up2_nk (by decide), up2_nk (by decide)]; exact hK.v4) (by rw [up2_nk (by decide), up2_nk (by decide)]; exact hK.v5) (by rw [up2_nk (by decide), up2_eq]) (by rw [up2_nk (by decide), up2_nk (by decide)]; exact hK.v12) up2_eq _).imp (fun r h' z => ?_)
    obtain ⟨rfl, z⟩ := z
    rw [pm_up_ne (show 100 ≠ 97 by decide), pm_up_ne (show 101 ≠ 97 by decide)] at z
    rcases z with ⟨z1, rfl⟩ | ⟨z1, rfl⟩
    · exact absurd z1 (by rw [hm1]; exact fun q => keyOf_n hp ht q.symm)
    · exact ⟨rfl, _, _, ls + 1, _, _, _, _, _, _, rfl, hK.new (n := (csz (asks al 7) (asks al 6))) hls hp ht hq hiq (hK.cf.push (by omega)) (hK.hsh.push (by omega)) up2_eq pm_up_eq (csz_le _ _).2 (Nat.le_refl _) (by omega) (fun i hi => by rw [pm_up_eq, hi_0]; exact ⟨by decide, by show (0 : Int) ≤ _; omega⟩) (fun q' c' h1 h2 h3 => by
        rw [up2_nk h2] at h3
        have := ((hK.ba.2.2.2.2.2.2.1 q' h1).1 c' h3).1
        exact ⟨h3, by omega, pm_up_ne (by omega), pm_up_ne (by omega)⟩) (fun q' c' h1 h2 h3 => by rw [up2_nk h2]; exact h3) (Nat.le_succ _), by omega, ⟨Nat.le_succ _, fun a ha => pm_up_ne (by omega), fun a ha => by simp only [up2_na ha], fun a ha => up2_na ha, fun a x1 x2 x3 x4 => by simp only [up2_na x3, up2_na x4, pm_up_ne x1], fun a ha => pm_up_ne (by omega), fun a ha => up2_na ha⟩, fun k1 k2 hr => hr.alloc hK.ba hq (csz_le _ _).2 hlt⟩
  | some c =>
    obtain ⟨hct, n, hn, hnn, hst⟩ := m1 c hQ
    by_cases hcn : csz (asks al 7) (asks al 6) ≤ n
    · refine WQ.st (fun _ _ kz => pw_iload3 dX0_takeUp_0 kz) ?_
      refine WQ.br (fun _ _ ka kb => pw_if_lt (tgt := 9) dX0_takeUp_1 (by decide) ka kb) (fun c1 => absurd c1 (by rw [lt_i (ix_n (j := q) (by omega)) li_0]; omega)) (fun c1 => ?_)
      refine WQ.st (fun _ _ kz => pw_iload3 dX0_takeUp_4 kz) ?_
      refine WQ.st (fun _ _ kz => pw_iconst (v := 4) dX0_takeUp_5 (by decide) kz) ?_
      refine WQ.br (fun _ _ ka kb => pw_icmp_lt (tgt := 10) dX0_takeUp_6 (by decide) ka kb) (fun c6 => ?_) (fun c6 => absurd (by rw [nl_4, lt_i (ix_n (j := q) (by omega)) (ix_n (j := 4) (by omega))]; omega) c6)
      refine WQ.st (fun _ _ kz => pw_aload0 dX0_takeUp_10 kz) ?_
      refine WQ.st (fun _ _ kz => pw_iload3 dX0_takeUp_11 kz) ?_
      refine WQ.st (fun _ _ kz => pw_puti (pX0_28 _ rfl) dX0_takeUp_12 (cf_s96 hK.cf) rfl rfl kz) ?_
      refine WQ.st (fun _ _ kz => pw_aload0 dX0_takeUp_15 kz) ?_
      refine WQ.st (fun _ _ kz => pw_aload0 dX0_takeUp_16 kz) ?_
      refine WQ.st (fun _ _ kz => pw_getr gX0_63 dX0_takeUp_17 (cf_s96 hK.cf) hK.p2 kz) ?_
      refine WQ.st (fun _ _ kz => pw_aload0 dX0_takeUp_20 kz) ?_
      refine WQ.st (fun _ _ kz => pw_geti gX0_28 dX0_takeUp_21 (cf_s96 hK.cf) kz) ?_
      rw [up2_eq]
      refine wq_o1i wX7_barsOf lX0_87 rfl dX0_takeUp_24 (sh_s0 hK.hsh) (k_barsOf hK.hsh fk hK.dv hq hiq) rfl (Nat.le_of_ble_eq_true rfl) (Nat.le_of_ble_eq_true rfl) (fun h24 z24 => ?_)
      subst z24
      refine WQ.st (fun _ _ kz => pw_puti (pX0_9 _ rfl) dX0_takeUp_27 (cf_s96 hK.cf) rfl rfl kz) ?_
      refine WQ.st (fun _ _ kz => pw_aload0 dX0_takeUp_30 kz) ?_
      refine WQ.st (fun _ _ kz => pw_getr gX0_33 dX0_takeUp_31 (cf_s96 hK.cf) (cf_p96_7 hK.cf) kz) ?_
      refine WQ.st (fun _ _ kz => pw_iconst (v := 0) dX0_takeUp_34 (by decide) kz) ?_
      refine WQ.st (fun _ _ kz => pw_iload1 dX0_takeUp_35 kz) ?_
      refine WQ.st (fun _ _ kz => pw_ast (j := 0) dX0_takeUp_36 (cf_s97 hK.cf) rfl (by omega)  kz) ?_
      refine WQ.st (fun _ _ kz => pw_aload0 dX0_takeUp_37 kz) ?_
      refine WQ.st (fun _ _ kz => pw_getr gX0_33 dX0_takeUp_38 (cf_s96 hK.cf) (cf_p96_7 hK.cf) kz) ?_
      refine WQ.st (fun _ _ kz => pw_iconst (v := 1) dX0_takeUp_41 (by decide) kz) ?_
      refine WQ.st (fun _ _ kz => pw_iload2 dX0_takeUp_42 kz) ?_
      refine WQ.st (fun _ _ kz => pw_ast (j := 1) dX0_takeUp_43 (cf_s97 hK.cf) rfl (by omega)  kz) ?_
      refine WQ.st (fun _ _ kz => pw_aload0 dX0_takeUp_44 kz) ?_
      refine WQ.st (fun _ _ kz => pw_getr gX0_33 dX0_takeUp_45 (cf_s96 hK.cf) (cf_p96_7 hK.cf) kz) ?_
      refine WQ.st (fun _ _ kz => pw_iconst (v := 2) dX0_takeUp_48 (by decide) kz) ?_
      refine WQ.st (fun _ _ kz => pw_aload0 dX0_takeUp_49 kz) ?_
      refine WQ.st (fun _ _ kz => pw_geti gX0_28 dX0_takeUp_50 (cf_s96 hK.cf) kz) ?_
      rw [up2_nk (by decide), up2_eq]
      refine WQ.st (fun _ _ kz => pw_ast (j := 2) dX0_takeUp_53 (cf_s97 hK.cf) rfl (by omega)  kz) ?_
      rw [up2_pm (A := A), up2_up, up2_up]
      refine WQ.st (fun _ _ kz => pw_aload0 dX0_takeUp_54 kz) ?_
      refine WQ.st (fun _ _ kz => pw_bipush (v := 12) dX0_takeUp_55 (by decide) kz) ?_
      refine WQ.st (fun _ _ kz => pw_bipush (v := -20) dX0_takeUp_57 (by decide) kz) ?_
      refine WQ.st (fun _ _ kz => pw_bipush (v := -2) dX0_takeUp_59 (by decide) kz) ?_
      refine WQ.st (fun _ _ kz => pw_bipush (v := -2) dX0_takeUp_61 (by decide) kz) ?_
      refine wq_o4i wX0_cellOf lX0_91 rfl dX0_takeUp_63 (cf_s96 hK.cf) (k_csz (bs := asks al 7) (bl := asks al 6) hK.cf (by rw [up2_nk (by decide), up2_nk (by decide)]; exact hK.v3) (by rw [up2_nk (by decide), up2_nk (by decide)]; exact hK.v1)) rfl (Nat.le_of_ble_eq_true rfl) (Nat.le_of_ble_eq_true rfl) (fun h63 z63 => ?_)
      subst z63
      refine WQ.st (fun _ _ kz => pw_istore4 dX0_takeUp_66 (by decide) (k := kz)) ?_
      refine WQ.st (fun _ _ kz => pw_aload0 dX0_takeUp_68 kz) ?_
      refine WQ.st (fun _ _ kz => pw_getr gX0_44 dX0_takeUp_69 (cf_s96 hK.cf) (cf_p96_9 hK.cf) kz) ?_
      refine WQ.st (fun _ _ kz => pw_aload0 dX0_takeUp_72 kz) ?_
      refine WQ.st (fun _ _ kz => pw_geti gX0_28 dX0_takeUp_73 (cf_s96 hK.cf) kz) ?_
      rw [up2_nk (by decide), up2_eq]
      refine WQ.st (fun _ _ kz => pw_qld (j := q) dX0_takeUp_76 (cf_s99 hK.cf) (by decide) (ix_m rfl (by omega)) (by omega) kz) ?_
      rw [hQ]
      refine WQ.st (fun _ _ kz => pw_ifnull dX0_takeUp_77 kz) ?_
      refine WQ.st (fun _ _ kz => pw_aload0 dX0_takeUp_80 kz) ?_
      refine WQ.st (fun _ _ kz => pw_getr gX0_44 dX0_takeUp_81 (cf_s96 hK.cf) (cf_p96_9 hK.cf) kz) ?_
      refine WQ.st (fun _ _ kz => pw_aload0 dX0_takeUp_84 kz) ?_
      refine WQ.st (fun _ _ kz => pw_geti gX0_28 dX0_takeUp_85 (cf_s96 hK.cf) kz) ?_
      rw [up2_nk (by decide), up2_eq]
      refine WQ.st (fun _ _ kz => pw_qldr (j := q) dX0_takeUp_88 (cf_s99 hK.cf) (by decide) (ix_m rfl (by omega)) (by omega) hQ kz) ?_
      refine WQ.st (fun _ _ kz => pw_len dX0_takeUp_89 hn (by decide) kz) ?_
      refine WQ.st (fun _ _ kz => pw_iload4 dX0_takeUp_90 kz) ?_
      refine WQ.br (fun _ _ ka kb => pw_icmp_ge (tgt := 108) dX0_takeUp_92 (by decide) ka kb) (fun c92 => ?_) (fun c92 => absurd (by rw [show Int32.ofNat n = nI n from rfl, le_i (ix_n (j := (csz (asks al 7) (asks al 6))) (by omega)) (ix_n (j := n) (by omega))]; omega) c92)
      refine (l_takeUp (c := c) (ls := ls) hK.cf hq (by rw [up2_nk (by decide), up2_nk (by decide)]; exact hK.v4) (by rw [up2_nk (by decide), up2_nk (by decide)]; exact hK.v5) (by rw [up2_nk (by decide), up2_eq]) (by rw [up2_nk (by decide), up2_nk (by decide)]; exact hK.v12) hQ _).imp (fun r h' z => ?_)
      obtain ⟨rfl, z⟩ := z
      rw [pm_up_ne (show 100 ≠ 97 by decide), pm_up_ne (show 101 ≠ 97 by decide)] at z
      rcases z with ⟨z1, rfl⟩ | ⟨z1, rfl⟩
      · exact ⟨rfl, _, _, ls, _, _, _, _, _, _, rfl, hK.same (by omega) hp ht hq hiq hQ z1, by omega, ⟨Nat.le_refl _, fun _ _ => rfl, fun a ha => by simp only [up2_na ha], fun a ha => up2_na ha, fun a x1 x2 x3 x4 => by simp only [up2_na x3, up2_na x4, pm_up_ne x1], fun _ _ => rfl, fun _ _ => rfl⟩, fun k1 k2 hr => hr⟩
      · exact ⟨rfl, _, _, ls + 1, _, _, _, _, _, _, rfl, hK.new (n := n) hls hp ht hq hiq hK.cf hK.hsh hQ hn hnn (by omega) hct hst (fun q' c' h1 h2 h3 => ⟨h3, fun e => h2 (hK.ba.2.2.2.2.2.2.2 q' q c' h1 hq h3 (by rw [e]; exact hQ)), rfl, rfl⟩) (fun _ _ _ _ h3 => h3) (Nat.le_refl _), by omega, ⟨Nat.le_refl _, fun _ _ => rfl, fun a ha => by simp only [up2_na ha], fun a ha => up2_na ha, fun a x1 x2 x3 x4 => by simp only [up2_na x3, up2_na x4, pm_up_ne x1], fun _ _ => rfl, fun _ _ => rfl⟩, fun k1 k2 hr => hr⟩
    · have hm1 : A 100 q = -1 := by
        rcases hm with ⟨c', n', g1, g2, g3⟩ | h
        · have ec : c' = c := Option.some.inj (g1.symm.trans hQ)
          subst ec
          rw [hn] at g2
          injection g2 with _ g2
          omega
        · exact h
      have hlt : szQ S Q q < csz (asks al 7) (asks al 6) := by
        unfold szQ
        rw [hQ]
        show (S c).2 < _
        rw [hn]
        show n < _
        omega
      refine WQ.st (fun _ _ kz => pw_iload3 dX0_takeUp_0 kz) ?_
      refine WQ.br (fun _ _ ka kb => pw_if_lt (tgt := 9) dX0_takeUp_1 (by decide) ka kb) (fun c1 => absurd c1 (by rw [lt_i (ix_n (j := q) (by omega)) li_0]; omega)) (fun c1 => ?_)
      refine WQ.st (fun _ _ kz => pw_iload3 dX0_takeUp_4 kz) ?_
      refine WQ.st (fun _ _ kz => pw_iconst (v := 4) dX0_takeUp_5 (by decide) kz) ?_
      refine WQ.br (fun _ _ ka kb => pw_icmp_lt (tgt := 10) dX0_takeUp_6 (by decide) ka kb) (fun c6 => ?_) (fun c6 => absurd (by rw [nl_4, lt_i (ix_n (j := q) (by omega)) (ix_n (j := 4) (by omega))]; omega) c6)
      refine WQ.st (fun _ _ kz => pw_aload0 dX0_takeUp_10 kz) ?_
      refine WQ.st (fun _ _ kz => pw_iload3 dX0_takeUp_11 kz) ?_
      refine WQ.st (fun _ _ kz => pw_puti (pX0_28 _ rfl) dX0_takeUp_12 (cf_s96 hK.cf) rfl rfl kz) ?_
      refine WQ.st (fun _ _ kz => pw_aload0 dX0_takeUp_15 kz) ?_
      refine WQ.st (fun _ _ kz => pw_aload0 dX0_takeUp_16 kz) ?_
      refine WQ.st (fun _ _ kz => pw_getr gX0_63 dX0_takeUp_17 (cf_s96 hK.cf) hK.p2 kz) ?_
      refine WQ.st (fun _ _ kz => pw_aload0 dX0_takeUp_20 kz) ?_
      refine WQ.st (fun _ _ kz => pw_geti gX0_28 dX0_takeUp_21 (cf_s96 hK.cf) kz) ?_
      rw [up2_eq]
      refine wq_o1i wX7_barsOf lX0_87 rfl dX0_takeUp_24 (sh_s0 hK.hsh) (k_barsOf hK.hsh fk hK.dv hq hiq) rfl (Nat.le_of_ble_eq_true rfl) (Nat.le_of_ble_eq_true rfl) (fun h24 z24 => ?_)
      subst z24
      refine WQ.st (fun _ _ kz => pw_puti (pX0_9 _ rfl) dX0_takeUp_27 (cf_s96 hK.cf) rfl rfl kz) ?_
      refine WQ.st (fun _ _ kz => pw_aload0 dX0_takeUp_30 kz) ?_
      refine WQ.st (fun _ _ kz => pw_getr gX0_33 dX0_takeUp_31 (cf_s96 hK.cf) (cf_p96_7 hK.cf) kz) ?_
      refine WQ.st (fun _ _ kz => pw_iconst (v := 0) dX0_takeUp_34 (by decide) kz) ?_
      refine WQ.st (fun _ _ kz => pw_iload1 dX0_takeUp_35 kz) ?_
      refine WQ.st (fun _ _ kz => pw_ast (j := 0) dX0_takeUp_36 (cf_s97 hK.cf) rfl (by omega)  kz) ?_
      refine WQ.st (fun _ _ kz => pw_aload0 dX0_takeUp_37 kz) ?_
      refine WQ.st (fun _ _ kz => pw_getr gX0_33 dX0_takeUp_38 (cf_s96 hK.cf) (cf_p96_7 hK.cf) kz) ?_
      refine WQ.st (fun _ _ kz => pw_iconst (v := 1) dX0_takeUp_41 (by decide) kz) ?_
      refine WQ.st (fun _ _ kz => pw_iload2 dX0_takeUp_42 kz) ?_
      refine WQ.st (fun _ _ kz => pw_ast (j := 1) dX0_takeUp_43 (cf_s97 hK.cf) rfl (by omega)  kz) ?_
      refine WQ.st (fun _ _ kz => pw_aload0 dX0_takeUp_44 kz) ?_
      refine WQ.st (fun _ _ kz => pw_getr gX0_33 dX0_takeUp_45 (cf_s96 hK.cf) (cf_p96_7 hK.cf) kz) ?_
      refine WQ.st (fun _ _ kz => pw_iconst (v := 2) dX0_takeUp_48 (by decide) kz) ?_
      refine WQ.st (fun _ _ kz => pw_aload0 dX0_takeUp_49 kz) ?_
      refine WQ.st (fun _ _ kz => pw_geti gX0_28 dX0_takeUp_50 (cf_s96 hK.cf) kz) ?_
      rw [up2_nk (by decide), up2_eq]
      refine WQ.st (fun _ _ kz => pw_ast (j := 2) dX0_takeUp_53 (cf_s97 hK.cf) rfl (by omega)  kz) ?_
      rw [up2_pm (A := A), up2_up, up2_up]
      refine WQ.st (fun _ _ kz => pw_aload0 dX0_takeUp_54 kz) ?_
      refine WQ.st (fun _ _ kz => pw_bipush (v := 12) dX0_takeUp_55 (by decide) kz) ?_
      refine WQ.st (fun _ _ kz => pw_bipush (v := -20) dX0_takeUp_57 (by decide) kz) ?_
      refine WQ.st (fun _ _ kz => pw_bipush (v := -2) dX0_takeUp_59 (by decide) kz) ?_
      refine WQ.st (fun _ _ kz => pw_bipush (v := -2) dX0_takeUp_61 (by decide) kz) ?_
      refine wq_o4i wX0_cellOf lX0_91 rfl dX0_takeUp_63 (cf_s96 hK.cf) (k_csz (bs := asks al 7) (bl := asks al 6) hK.cf (by rw [up2_nk (by decide), up2_nk (by decide)]; exact hK.v3) (by rw [up2_nk (by decide), up2_nk (by decide)]; exact hK.v1)) rfl (Nat.le_of_ble_eq_true rfl) (Nat.le_of_ble_eq_true rfl) (fun h63 z63 => ?_)
      subst z63
      refine WQ.st (fun _ _ kz => pw_istore4 dX0_takeUp_66 (by decide) (k := kz)) ?_
      refine WQ.st (fun _ _ kz => pw_aload0 dX0_takeUp_68 kz) ?_
      refine WQ.st (fun _ _ kz => pw_getr gX0_44 dX0_takeUp_69 (cf_s96 hK.cf) (cf_p96_9 hK.cf) kz) ?_
      refine WQ.st (fun _ _ kz => pw_aload0 dX0_takeUp_72 kz) ?_
      refine WQ.st (fun _ _ kz => pw_geti gX0_28 dX0_takeUp_73 (cf_s96 hK.cf) kz) ?_
      rw [up2_nk (by decide), up2_eq]
      refine WQ.st (fun _ _ kz => pw_qld (j := q) dX0_takeUp_76 (cf_s99 hK.cf) (by decide) (ix_m rfl (by omega)) (by omega) kz) ?_
      rw [hQ]
      refine WQ.st (fun _ _ kz => pw_ifnull dX0_takeUp_77 kz) ?_
      refine WQ.st (fun _ _ kz => pw_aload0 dX0_takeUp_80 kz) ?_
      refine WQ.st (fun _ _ kz => pw_getr gX0_44 dX0_takeUp_81 (cf_s96 hK.cf) (cf_p96_9 hK.cf) kz) ?_
      refine WQ.st (fun _ _ kz => pw_aload0 dX0_takeUp_84 kz) ?_
      refine WQ.st (fun _ _ kz => pw_geti gX0_28 dX0_takeUp_85 (cf_s96 hK.cf) kz) ?_
      rw [up2_nk (by decide), up2_eq]
      refine WQ.st (fun _ _ kz => pw_qldr (j := q) dX0_takeUp_88 (cf_s99 hK.cf) (by decide) (ix_m rfl (by omega)) (by omega) hQ kz) ?_
      refine WQ.st (fun _ _ kz => pw_len dX0_takeUp_89 hn (by decide) kz) ?_
      refine WQ.st (fun _ _ kz => pw_iload4 dX0_takeUp_90 kz) ?_
      refine WQ.br (fun _ _ ka kb => pw_icmp_ge (tgt := 108) dX0_takeUp_92 (by decide) ka kb) (fun c92 => absurd c92 (by rw [show Int32.ofNat n = nI n from rfl, le_i (ix_n (j := (csz (asks al 7) (asks al 6))) (by omega)) (ix_n (j := n) (by omega))]; omega)) (fun c92 => ?_)
      refine WQ.st (fun _ _ kz => pw_aload0 dX0_takeUp_95 kz) ?_
      refine WQ.st (fun _ _ kz => pw_getr gX0_44 dX0_takeUp_96 (cf_s96 hK.cf) (cf_p96_9 hK.cf) kz) ?_
      refine WQ.st (fun _ _ kz => pw_aload0 dX0_takeUp_99 kz) ?_
      refine WQ.st (fun _ _ kz => pw_geti gX0_28 dX0_takeUp_100 (cf_s96 hK.cf) kz) ?_
      rw [up2_nk (by decide), up2_eq]
      refine WQ.st (fun _ _ kz => pw_iload4 dX0_takeUp_103 kz) ?_
      refine WQ.st (fun _ _ kz => pw_nal (n := (csz (asks al 7) (asks al 6))) dX0_takeUp_105 (ix_n (by omega)) (by omega) kz) ?_
      refine WQ.st (fun _ _ kz => pw_jst (j := q) dX0_takeUp_107 (show pm_up S t (22, (csz (asks al 7) (asks al 6))) 99 = (28, 4) from by rw [pm_up_ne (by omega)]; exact cf_s99 hK.cf)  (show pm_up S t (22, (csz (asks al 7) (asks al 6))) t = (22, (csz (asks al 7) (asks al 6))) from pm_up_eq)  (ix_m rfl (by omega)) (by omega) kz) ?_
      refine (l_takeUp (c := t) (ls := ls) (hK.cf.push (by omega)) hq (by rw [up2_nk (by decide), up2_nk (by decide)]; exact hK.v4) (by rw [up2_nk (by decide), up2_nk (by decide)]; exact hK.v5) (by rw [up2_nk (by decide), up2_eq]) (by rw [up2_nk (by decide), up2_nk (by decide)]; exact hK.v12) up2_eq _).imp (fun r h' z => ?_)
      obtain ⟨rfl, z⟩ := z
      rw [pm_up_ne (show 100 ≠ 97 by decide), pm_up_ne (show 101 ≠ 97 by decide)] at z
      rcases z with ⟨z1, rfl⟩ | ⟨z1, rfl⟩
      · exact absurd z1 (by rw [hm1]; exact fun q => keyOf_n hp ht q.symm)
      · exact ⟨rfl, _, _, ls + 1, _, _, _, _, _, _, rfl, hK.new (n := (csz (asks al 7) (asks al 6))) hls hp ht hq hiq (hK.cf.push (by omega)) (hK.hsh.push (by omega)) up2_eq pm_up_eq (csz_le _ _).2 (Nat.le_refl _) (by omega) (fun i hi => by rw [pm_up_eq, hi_0]; exact ⟨by decide, by show (0 : Int) ≤ _; omega⟩) (fun q' c' h1 h2 h3 => by
          rw [up2_nk h2] at h3
          have := ((hK.ba.2.2.2.2.2.2.1 q' h1).1 c' h3).1
          exact ⟨h3, by omega, pm_up_ne (by omega), pm_up_ne (by omega)⟩) (fun q' c' h1 h2 h3 => by rw [up2_nk h2]; exact h3) (Nat.le_succ _), by omega, ⟨Nat.le_succ _, fun a ha => pm_up_ne (by omega), fun a ha => by simp only [up2_na ha], fun a ha => up2_na ha, fun a x1 x2 x3 x4 => by simp only [up2_na x3, up2_na x4, pm_up_ne x1], fun a ha => pm_up_ne (by omega), fun a ha => up2_na ha⟩, fun k1 k2 hr => hr.alloc hK.ba hq (csz_le _ _).2 hlt⟩
theorem bI_fit (b : Bool) : fits .boolean (.int (bI b)) = true := by cases b <;> rfl
/-- as much of Bars as outlives a sheet -/
def BarW (S : sS) (V : sV) (B : sB) (Q : sP) (t ls : Nat) : Prop := V 96 12 = nI ls ∧ (∀ q, q < 4 → ∀ c, Q 99 q = some c → (161 ≤ c ∧ c < t) ∧ ∃ n : Nat, S c = (22, n) ∧ (n = 60 ∨ n = 300 ∨ n = 2460 ∨ n = 12300) ∧ ∀ i, i < n → 0 ≤ (hi32 (B c i)).toInt ∧ (hi32 (B c i)).toInt ≤ (ls : Int)) ∧ ∀ q q' c : Nat, q < 4 → q' < 4 → Q 99 q = some c → Q 99 q' = some c → q = q'
theorem BarI.w {S : sS} {V : sV} {P : sP} {A : sV} {B : sB} {Q : sP} {t : Nat} {al : Nat → Int32} {sh ls : Nat} (h : BarI S V P A B Q t al sh ls) : BarW S V B Q t ls := ⟨h.2.2.2.2.2.1, fun q hq => (h.2.2.2.2.2.2.1 q hq).1, h.2.2.2.2.2.2.2⟩
set_option maxRecDepth 20000 in
theorem k_useSheet {G : gT} {d : Nat} {S : sS} {V : sV} {P : sP} {A : sV} {B : sB} {Q : sP} {t sl : Nat} (hC : CF S P) {u : Nat} (hU : SH S P u) (hu : u = 87 ∨ 161 ≤ u) {al : Nat → Int32} (hE : ShE V A u al) {ls : Nat} (hW : BarW S V B Q t ls) : WQ G (d + 2) mX0_useSheet 0 [some (.ref 96), some (.ref u)] [] (t, sl, gh S V P A B Q) (fun r h' => r = none ∧ ∃ (V' : sV) (P' : sP) (A' : sV), h' = (t, sl, gh S V' P' A' B Q) ∧ BarI S V' P' A' B Q t al u ls ∧ (∀ x, x ≠ 96 → V' x = V x) ∧ (∀ x, x ≠ 96 → P' x = P x) ∧ (∀ x, x ≠ 100 → A' x = A x) ∧ CF S P') := by
  have hC2 : CF S (up2 P 96 2 (some u)) := hC.up (by decide)
  have hU2 : SH S (up2 P 96 2 (some u)) u := hU.up (fun x a1 a2 => up2_na (by omega))
  refine WQ.st (fun _ _ kz => pw_aload0 dX0_useSheet_0 kz) ?_
  refine WQ.st (fun _ _ kz => pw_aload1 dX0_useSheet_1 kz) ?_
  refine WQ.st (fun _ _ kz => pw_putr (pX0_63 _ rfl) dX0_useSheet_2 (cf_s96 hC) kz) ?_
  refine WQ.st (fun _ _ kz => pw_aload0 dX0_useSheet_5 kz) ?_
  refine WQ.st (fun _ _ kz => pw_iconst (v := 0) dX0_useSheet_6 (by decide) kz) ?_
  refine WQ.st (fun _ _ kz => pw_puti (pX0_9 _ rfl) dX0_useSheet_7 (cf_s96 hC2) rfl rfl kz) ?_
  refine WQ.st (fun _ _ kz => pw_aload0 dX0_useSheet_10 kz) ?_
  refine WQ.st (fun _ _ kz => pw_aload0 dX0_useSheet_11 kz) ?_
  refine WQ.st (fun _ _ kz => pw_bipush (v := 6) dX0_useSheet_12 (by decide) kz) ?_
  refine wq_o1i wX0_asksFor lX0_73 rfl dX0_useSheet_14 (cf_s96 hC2) (k_barsAsk hC2 hU2 up2_eq (al := al) (hE.fr (fun x a1 a2 => by simp (disch := omega) only [up2_na]) (fun _ _ _ => rfl)) (w := 6) (by decide)) rfl (Nat.le_of_ble_eq_true rfl) (Nat.le_of_ble_eq_true rfl) (fun h14 z14 => ?_)
  subst z14
  refine WQ.st (fun _ _ kz => pw_puti (pX0_15 _ rfl) dX0_useSheet_17 (cf_s96 hC2) (bI_nar _) (bI_fit _) kz) ?_
  refine WQ.st (fun _ _ kz => pw_aload0 dX0_useSheet_20 kz) ?_
  refine WQ.st (fun _ _ kz => pw_aload0 dX0_useSheet_21 kz) ?_
  refine WQ.st (fun _ _ kz => pw_bipush (v := 7) dX0_useSheet_22 (by decide) kz) ?_
  refine wq_o1i wX0_asksFor lX0_73 rfl dX0_useSheet_24 (cf_s96 hC2) (k_barsAsk hC2 hU2 up2_eq (al := al) (hE.fr (fun x a1 a2 => by simp (disch := omega) only [up2_na]) (fun _ _ _ => rfl)) (w := 7) (by decide)) rfl (Nat.le_of_ble_eq_true rfl) (Nat.le_of_ble_eq_true rfl) (fun h24 z24 => ?_)
  subst z24
  refine WQ.st (fun _ _ kz => pw_puti (pX0_19 _ rfl) dX0_useSheet_27 (cf_s96 hC2) (bI_nar _) (bI_fit _) kz) ?_
  refine WQ.st (fun _ _ kz => pw_aload0 dX0_useSheet_30 kz) ?_
  refine WQ.st (fun _ _ kz => pw_aload0 dX0_useSheet_31 kz) ?_
  refine WQ.st (fun _ _ kz => pw_iconst (v := 0) dX0_useSheet_32 (by decide) kz) ?_
  refine wq_o1i wX0_asksFor lX0_73 rfl dX0_useSheet_33 (cf_s96 hC2) (k_barsAsk hC2 hU2 up2_eq (al := al) (hE.fr (fun x a1 a2 => by simp (disch := omega) only [up2_na]) (fun _ _ _ => rfl)) (w := 0) (by decide)) rfl (Nat.le_of_ble_eq_true rfl) (Nat.le_of_ble_eq_true rfl) (fun h33 z33 => ?_)
  subst z33
  refine WQ.st (fun _ _ kz => pw_puti (pX0_22 _ rfl) dX0_useSheet_36 (cf_s96 hC2) (bI_nar _) (bI_fit _) kz) ?_
  refine WQ.st (fun _ _ kz => pw_aload0 dX0_useSheet_39 kz) ?_
  refine WQ.st (fun _ _ kz => pw_aload0 dX0_useSheet_40 kz) ?_
  refine WQ.st (fun _ _ kz => pw_iconst (v := 1) dX0_useSheet_41 (by decide) kz) ?_
  refine wq_o1i wX0_asksFor lX0_73 rfl dX0_useSheet_42 (cf_s96 hC2) (k_barsAsk hC2 hU2 up2_eq (al := al) (hE.fr (fun x a1 a2 => by simp (disch := omega) only [up2_na]) (fun _ _ _ => rfl)) (w := 1) (by decide)) rfl (Nat.le_of_ble_eq_true rfl) (Nat.le_of_ble_eq_true rfl) (fun h42 z42 => ?_)
  subst z42
  refine WQ.st (fun _ _ kz => pw_puti (pX0_25 _ rfl) dX0_useSheet_45 (cf_s96 hC2) (bI_nar _) (bI_fit _) kz) ?_
  refine WQ.st (fun _ _ kz => pw_aload0 dX0_useSheet_48 kz) ?_
  refine WQ.st (fun _ _ kz => pw_getr gX0_48 dX0_useSheet_49 (cf_s96 hC2) (cf_p96_10 hC2) kz) ?_
  refine WQ.st (fun _ _ kz => pw_iconst (v := -1) dX0_useSheet_52 (by decide) kz) ?_
  refine WQ.st (fun _ _ kz => pw_s2v wJ7_fill_53178 lX0_67 dX0_useSheet_53 (c_filli (cf_s100 hC2) (by omega) _) rfl (Nat.le_of_ble_eq_true rfl) (Nat.le_of_ble_eq_true rfl) kz) ?_
  refine ⟨_, _, pw_vret dX0_useSheet_56 rfl rfl rfl, ?_⟩
  refine ⟨rfl, _, _, _, rfl, ⟨by rw [up2_eq], ?_, ?_, ?_, ?_, ?_, fun q hq => ⟨hW.2.1 q hq, fun hn => absurd ?_ hn⟩, hW.2.2⟩, fun x hx => by simp only [up2_na hx], fun x hx => up2_na hx, fun x hx => pm_up_ne hx, hC.up (by decide)⟩
  · rw [up2_nk (by decide), up2_nk (by decide), up2_nk (by decide), up2_eq]
  · rw [up2_nk (by decide), up2_nk (by decide), up2_eq]
  · rw [up2_nk (by decide), up2_eq]
  · rw [up2_eq]
  · rw [up2_nk (by decide), up2_nk (by decide), up2_nk (by decide), up2_nk (by decide), up2_nk (by decide)]
    exact hW.1
  · rw [pm_up_eq, fillF_i hq]
