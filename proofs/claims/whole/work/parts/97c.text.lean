set_option maxRecDepth 20000 in
theorem l_ntS {G : gT} {d : Nat} {S : sS} {P : sP} {A : sV} {B : sB} {Q : sP} {t sl o : Nat} (hF : MF S P o) {x : Nat → Int32} {L : Nat} {V0 : sV} (hX0 : TXR x L o V0 A) {Z : Option Value → Ph → Prop} : ∀ (m s : Nat) (V : sV), s + m = L → FRV o V0 V → V o 6 = nI s → (∀ V : sV, FRV o V0 V → V o 6 = nI (skF x m s) → WQ G (d + 5) mX12_nextToken 47 [some (.ref o), none] [] (t, sl, gh S V P A B Q) Z) → WQ G (d + 5) mX12_nextToken 8 [some (.ref o), none] [] (t, sl, gh S V P A B Q) Z := by
  have h9 := hX0.2.1
  intro m
  induction m with
  | zero =>
    intro s V hs hf h6 kf
    have hX := hX0.fr hf
    have seL : seT x L s = -1 := by unfold seT; rw [if_neg (by omega)]
    refine WQ.st (fun _ _ kz => pw_aload0 dX12_nextToken_8 kz) ?_
    refine WQ.st (fun _ _ kz => pw_aload0 dX12_nextToken_9 kz) ?_
    refine WQ.st (fun _ _ kz => pw_geti gX12_108 dX12_nextToken_10 hF.1 kz) ?_
    rw [h6]
    refine WQ.st (fun _ _ kz => pw_o1i wX12_see lX12_114 rfl dX12_nextToken_13 hF.1 (c_seeT hF hX (p := s) (by omega)) rfl (Nat.le_of_ble_eq_true rfl) (Nat.le_of_ble_eq_true rfl) kz) ?_
    rw [seL]
    refine WQ.st (fun _ _ kz => pw_bipush (v := 10) dX12_nextToken_16 (by decide) kz) ?_
    refine WQ.br (fun _ _ ka kb => pw_icmp_eq (tgt := 34) dX12_nextToken_18 (by decide) ka kb) (fun c18 => absurd c18 (by decide)) (fun c18 => ?_)
    refine WQ.st (fun _ _ kz => pw_aload0 dX12_nextToken_21 kz) ?_
    refine WQ.st (fun _ _ kz => pw_aload0 dX12_nextToken_22 kz) ?_
    refine WQ.st (fun _ _ kz => pw_geti gX12_108 dX12_nextToken_23 hF.1 kz) ?_
    rw [h6]
    refine WQ.st (fun _ _ kz => pw_o1i wX12_see lX12_114 rfl dX12_nextToken_26 hF.1 (c_seeT hF hX (p := s) (by omega)) rfl (Nat.le_of_ble_eq_true rfl) (Nat.le_of_ble_eq_true rfl) kz) ?_
    rw [seL]
    refine WQ.st (fun _ _ kz => pw_bipush (v := 32) dX12_nextToken_29 (by decide) kz) ?_
    refine WQ.bn (fun _ _ ka kb => pw_icmp_ne (tgt := 47) dX12_nextToken_31 (by decide) ka kb) (fun c31 => ?_) (fun c31 => absurd c31 (by decide))
    exact kf V hf h6
  | succ m ih =>
    intro s V hs hf h6 kf
    have hX := hX0.fr hf
    have seL : seT x L s = x s := by unfold seT; rw [if_pos (by omega)]
    refine WQ.st (fun _ _ kz => pw_aload0 dX12_nextToken_8 kz) ?_
    refine WQ.st (fun _ _ kz => pw_aload0 dX12_nextToken_9 kz) ?_
    refine WQ.st (fun _ _ kz => pw_geti gX12_108 dX12_nextToken_10 hF.1 kz) ?_
    rw [h6]
    refine WQ.st (fun _ _ kz => pw_o1i wX12_see lX12_114 rfl dX12_nextToken_13 hF.1 (c_seeT hF hX (p := s) (by omega)) rfl (Nat.le_of_ble_eq_true rfl) (Nat.le_of_ble_eq_true rfl) kz) ?_
    rw [seL]
    refine WQ.st (fun _ _ kz => pw_bipush (v := 10) dX12_nextToken_16 (by decide) kz) ?_
    refine WQ.br (fun _ _ ka kb => pw_icmp_eq (tgt := 34) dX12_nextToken_18 (by decide) ka kb) (fun c18 => ?_) (fun c18 => ?_)
    · refine WQ.st (fun _ _ kz => pw_aload0 dX12_nextToken_34 kz) ?_
      refine WQ.st (fun _ _ kz => pw_dup dX12_nextToken_35 rfl kz) ?_
      refine WQ.st (fun _ _ kz => pw_geti gX12_108 dX12_nextToken_36 hF.1 kz) ?_
      rw [h6]
      refine WQ.st (fun _ _ kz => pw_iconst (v := 1) dX12_nextToken_39 (by decide) kz) ?_
      refine WQ.st (fun _ _ kz => pw_iadd dX12_nextToken_40 kz) ?_
      refine WQ.st (fun _ _ kz => pw_puti (pX12_108 _ rfl) dX12_nextToken_41 hF.1 rfl rfl kz) ?_
      refine WQ.st (fun _ _ kz => pw_goto (tgt := 8) dX12_nextToken_44 (by decide) kz) ?_
      rw [nI_1]
      exact ih (s + 1) _ (by omega) (hf.up (by omega)) up2_eq (fun V h1 h2 => kf V h1 (by rw [skF, if_pos (Or.inl c18)]; exact h2))
    · refine WQ.st (fun _ _ kz => pw_aload0 dX12_nextToken_21 kz) ?_
      refine WQ.st (fun _ _ kz => pw_aload0 dX12_nextToken_22 kz) ?_
      refine WQ.st (fun _ _ kz => pw_geti gX12_108 dX12_nextToken_23 hF.1 kz) ?_
      rw [h6]
      refine WQ.st (fun _ _ kz => pw_o1i wX12_see lX12_114 rfl dX12_nextToken_26 hF.1 (c_seeT hF hX (p := s) (by omega)) rfl (Nat.le_of_ble_eq_true rfl) (Nat.le_of_ble_eq_true rfl) kz) ?_
      rw [seL]
      refine WQ.st (fun _ _ kz => pw_bipush (v := 32) dX12_nextToken_29 (by decide) kz) ?_
      refine WQ.bn (fun _ _ ka kb => pw_icmp_ne (tgt := 47) dX12_nextToken_31 (by decide) ka kb) (fun c31 => ?_) (fun c31 => ?_)
      · exact kf V hf (by rw [skF, if_neg (fun q => q.elim c18 c31)]; exact h6)
      · refine WQ.st (fun _ _ kz => pw_aload0 dX12_nextToken_34 kz) ?_
        refine WQ.st (fun _ _ kz => pw_dup dX12_nextToken_35 rfl kz) ?_
        refine WQ.st (fun _ _ kz => pw_geti gX12_108 dX12_nextToken_36 hF.1 kz) ?_
        rw [h6]
        refine WQ.st (fun _ _ kz => pw_iconst (v := 1) dX12_nextToken_39 (by decide) kz) ?_
        refine WQ.st (fun _ _ kz => pw_iadd dX12_nextToken_40 kz) ?_
        refine WQ.st (fun _ _ kz => pw_puti (pX12_108 _ rfl) dX12_nextToken_41 hF.1 rfl rfl kz) ?_
        refine WQ.st (fun _ _ kz => pw_goto (tgt := 8) dX12_nextToken_44 (by decide) kz) ?_
        rw [nI_1]
        exact ih (s + 1) _ (by omega) (hf.up (by omega)) up2_eq (fun V h1 h2 => kf V h1 (by rw [skF, if_pos (Or.inr c31)]; exact h2))
set_option maxRecDepth 20000 in
theorem l_ntL {G : gT} {d : Nat} {S : sS} {P : sP} {A : sV} {B : sB} {Q : sP} {t sl o : Nat} (hF : MF S P o) {x : Nat → Int32} {L : Nat} {V0 : sV} (hX0 : TXR x L o V0 A) {s : Nat} {Z : Option Value → Ph → Prop} : ∀ (m e : Nat) (V : sV), e + m = L → FRV o V0 V → V o 6 = nI s → V o 7 = nI e → (∀ V : sV, FRV o V0 V → V o 6 = nI s → V o 7 = nI (runF x isSmI m e) → WQ G (d + 5) mX12_nextToken 116 [some (.ref o), none] [] (t, sl, gh S V P A B Q) Z) → WQ G (d + 5) mX12_nextToken 89 [some (.ref o), none] [] (t, sl, gh S V P A B Q) Z := by
  have h9 := hX0.2.1
  intro m
  induction m with
  | zero =>
    intro e V he hf h6 h7 kf
    have hX := hX0.fr hf
    have seL : seT x L e = -1 := by unfold seT; rw [if_neg (by omega)]
    refine WQ.st (fun _ _ kz => pw_aload0 dX12_nextToken_89 kz) ?_
    refine WQ.st (fun _ _ kz => pw_aload0 dX12_nextToken_90 kz) ?_
    refine WQ.st (fun _ _ kz => pw_geti gX12_111 dX12_nextToken_91 hF.1 kz) ?_
    rw [h7]
    refine WQ.st (fun _ _ kz => pw_o1i wX12_see lX12_114 rfl dX12_nextToken_94 hF.1 (c_seeT hF hX (p := e) (by omega)) rfl (Nat.le_of_ble_eq_true rfl) (Nat.le_of_ble_eq_true rfl) kz) ?_
    rw [seL]
    refine WQ.st (fun _ _ kz => pw_s1i wX12_isSmall lX12_121 dX12_nextToken_97 (c_isSmall _) rfl (Nat.le_of_ble_eq_true rfl) (Nat.le_of_ble_eq_true rfl) kz) ?_
    rw [sm_I]
    refine WQ.br (fun _ _ ka kb => pw_if_eq (tgt := 116) dX12_nextToken_100 (by decide) ka kb) (fun c100 => ?_) (fun c100 => absurd (by decide) c100)
    exact kf V hf h6 h7
  | succ m ih =>
    intro e V he hf h6 h7 kf
    have hX := hX0.fr hf
    have seL : seT x L e = x e := by unfold seT; rw [if_pos (by omega)]
    refine WQ.st (fun _ _ kz => pw_aload0 dX12_nextToken_89 kz) ?_
    refine WQ.st (fun _ _ kz => pw_aload0 dX12_nextToken_90 kz) ?_
    refine WQ.st (fun _ _ kz => pw_geti gX12_111 dX12_nextToken_91 hF.1 kz) ?_
    rw [h7]
    refine WQ.st (fun _ _ kz => pw_o1i wX12_see lX12_114 rfl dX12_nextToken_94 hF.1 (c_seeT hF hX (p := e) (by omega)) rfl (Nat.le_of_ble_eq_true rfl) (Nat.le_of_ble_eq_true rfl) kz) ?_
    rw [seL]
    refine WQ.st (fun _ _ kz => pw_s1i wX12_isSmall lX12_121 dX12_nextToken_97 (c_isSmall _) rfl (Nat.le_of_ble_eq_true rfl) (Nat.le_of_ble_eq_true rfl) kz) ?_
    rw [sm_I]
    refine WQ.br (fun _ _ ka kb => pw_if_eq (tgt := 116) dX12_nextToken_100 (by decide) ka kb) (fun c100 => ?_) (fun c100 => ?_)
    · rw [bI_0] at c100
      exact kf V hf h6 (by rw [runF, if_neg (by rw [c100]; decide)]; exact h7)
    · rw [bI_n] at c100
      refine WQ.st (fun _ _ kz => pw_aload0 dX12_nextToken_103 kz) ?_
      refine WQ.st (fun _ _ kz => pw_dup dX12_nextToken_104 rfl kz) ?_
      refine WQ.st (fun _ _ kz => pw_geti gX12_111 dX12_nextToken_105 hF.1 kz) ?_
      rw [h7]
      refine WQ.st (fun _ _ kz => pw_iconst (v := 1) dX12_nextToken_108 (by decide) kz) ?_
      refine WQ.st (fun _ _ kz => pw_iadd dX12_nextToken_109 kz) ?_
      refine WQ.st (fun _ _ kz => pw_puti (pX12_111 _ rfl) dX12_nextToken_110 hF.1 rfl rfl kz) ?_
      refine WQ.st (fun _ _ kz => pw_goto (tgt := 89) dX12_nextToken_113 (by decide) kz) ?_
      rw [nI_1]
      exact ih (e + 1) _ (by omega) (hf.up (by omega)) (by rw [up2_nk (by omega)]; exact h6) up2_eq (fun V h1 h2 h3 => kf V h1 h2 (by rw [runF, if_pos c100]; exact h3))
set_option maxRecDepth 20000 in
theorem l_ntD {G : gT} {d : Nat} {S : sS} {P : sP} {A : sV} {B : sB} {Q : sP} {t sl o : Nat} (hF : MF S P o) {x : Nat → Int32} {L : Nat} {V0 : sV} (hX0 : TXR x L o V0 A) {s : Nat} {Z : Option Value → Ph → Prop} : ∀ (m e : Nat) (V : sV), e + m = L → s ≤ e → FRV o V0 V → V o 6 = nI s → V o 7 = nI e → V o 10 = numF x s (if e - s < 3 then e - s else 3) → (∀ V : sV, FRV o V0 V → V o 6 = nI s → V o 7 = nI (runF x isDgI m e) → V o 10 = numF x s (if runF x isDgI m e - s < 3 then runF x isDgI m e - s else 3) → WQ G (d + 5) mX12_nextToken 209 [some (.ref o), none] [] (t, sl, gh S V P A B Q) Z) → WQ G (d + 5) mX12_nextToken 146 [some (.ref o), none] [] (t, sl, gh S V P A B Q) Z := by
  have h9 := hX0.2.1
  intro m
  induction m with
  | zero =>
    intro e V he hse hf h6 h7 h10 kf
    have hX := hX0.fr hf
    have seL : seT x L e = -1 := by unfold seT; rw [if_neg (by omega)]
    refine WQ.st (fun _ _ kz => pw_aload0 dX12_nextToken_146 kz) ?_
    refine WQ.st (fun _ _ kz => pw_aload0 dX12_nextToken_147 kz) ?_
    refine WQ.st (fun _ _ kz => pw_geti gX12_111 dX12_nextToken_148 hF.1 kz) ?_
    rw [h7]
    refine WQ.st (fun _ _ kz => pw_o1i wX12_see lX12_114 rfl dX12_nextToken_151 hF.1 (c_seeT hF hX (p := e) (by omega)) rfl (Nat.le_of_ble_eq_true rfl) (Nat.le_of_ble_eq_true rfl) kz) ?_
    rw [seL]
    refine WQ.st (fun _ _ kz => pw_s1i wX12_isDigit lX12_128 dX12_nextToken_154 (c_isDigit _) rfl (Nat.le_of_ble_eq_true rfl) (Nat.le_of_ble_eq_true rfl) kz) ?_
    rw [dg_I]
    refine WQ.br (fun _ _ ka kb => pw_if_eq (tgt := 209) dX12_nextToken_157 (by decide) ka kb) (fun c157 => ?_) (fun c157 => absurd (by decide) c157)
    exact kf V hf h6 h7 h10
  | succ m ih =>
    intro e V he hse hf h6 h7 h10 kf
    have hX := hX0.fr hf
    have seL : seT x L e = x e := by unfold seT; rw [if_pos (by omega)]
    refine WQ.st (fun _ _ kz => pw_aload0 dX12_nextToken_146 kz) ?_
    refine WQ.st (fun _ _ kz => pw_aload0 dX12_nextToken_147 kz) ?_
    refine WQ.st (fun _ _ kz => pw_geti gX12_111 dX12_nextToken_148 hF.1 kz) ?_
    rw [h7]
    refine WQ.st (fun _ _ kz => pw_o1i wX12_see lX12_114 rfl dX12_nextToken_151 hF.1 (c_seeT hF hX (p := e) (by omega)) rfl (Nat.le_of_ble_eq_true rfl) (Nat.le_of_ble_eq_true rfl) kz) ?_
    rw [seL]
    refine WQ.st (fun _ _ kz => pw_s1i wX12_isDigit lX12_128 dX12_nextToken_154 (c_isDigit _) rfl (Nat.le_of_ble_eq_true rfl) (Nat.le_of_ble_eq_true rfl) kz) ?_
    rw [dg_I]
    refine WQ.br (fun _ _ ka kb => pw_if_eq (tgt := 209) dX12_nextToken_157 (by decide) ka kb) (fun c157 => ?_) (fun c157 => ?_)
    · rw [bI_0] at c157
      exact kf V hf h6 (by rw [runF, if_neg (by rw [c157]; decide)]; exact h7) (by rw [runF, if_neg (show ¬ isDgI (x e) = true by rw [c157]; decide)]; exact h10)
    · rw [bI_n] at c157
      refine WQ.st (fun _ _ kz => pw_aload0 dX12_nextToken_160 kz) ?_
      refine WQ.st (fun _ _ kz => pw_geti gX12_111 dX12_nextToken_161 hF.1 kz) ?_
      rw [h7]
      refine WQ.st (fun _ _ kz => pw_aload0 dX12_nextToken_164 kz) ?_
      refine WQ.st (fun _ _ kz => pw_geti gX12_108 dX12_nextToken_165 hF.1 kz) ?_
      rw [h6]
      refine WQ.st (fun _ _ kz => pw_isub dX12_nextToken_168 kz) ?_
      rw [nI_subk (show s ≤ e by omega)]
      refine WQ.st (fun _ _ kz => pw_iconst (v := 3) dX12_nextToken_169 (by decide) kz) ?_
      refine WQ.br (fun _ _ ka kb => pw_icmp_ge (tgt := 196) dX12_nextToken_170 (by decide) ka kb) (fun c170 => ?_) (fun c170 => ?_)
      · rw [le_i li_3 (ix_n (by omega))] at c170
        refine WQ.st (fun _ _ kz => pw_aload0 dX12_nextToken_196 kz) ?_
        refine WQ.st (fun _ _ kz => pw_dup dX12_nextToken_197 rfl kz) ?_
        refine WQ.st (fun _ _ kz => pw_geti gX12_111 dX12_nextToken_198 hF.1 kz) ?_
        rw [h7]
        refine WQ.st (fun _ _ kz => pw_iconst (v := 1) dX12_nextToken_201 (by decide) kz) ?_
        refine WQ.st (fun _ _ kz => pw_iadd dX12_nextToken_202 kz) ?_
        refine WQ.st (fun _ _ kz => pw_puti (pX12_111 _ rfl) dX12_nextToken_203 hF.1 rfl rfl kz) ?_
        refine WQ.st (fun _ _ kz => pw_goto (tgt := 146) dX12_nextToken_206 (by decide) kz) ?_
        rw [nI_1]
        exact ih (e + 1) _ (by omega) (by omega) (hf.up (by omega)) (by rw [up2_nk (by omega)]; exact h6) up2_eq (by rw [up2_nk (by omega), h10, if_neg (by omega), if_neg (by omega)]) (fun V h1 h2 h3 h4 => kf V h1 h2 (by rw [runF, if_pos c157]; exact h3) (by rw [runF, if_pos c157]; exact h4))
      · rw [le_i li_3 (ix_n (by omega))] at c170
        refine WQ.st (fun _ _ kz => pw_aload0 dX12_nextToken_173 kz) ?_
        refine WQ.st (fun _ _ kz => pw_bipush (v := 10) dX12_nextToken_174 (by decide) kz) ?_
        refine WQ.st (fun _ _ kz => pw_aload0 dX12_nextToken_176 kz) ?_
        refine WQ.st (fun _ _ kz => pw_geti gX12_131 dX12_nextToken_177 hF.1 kz) ?_
        rw [h10]
        refine WQ.st (fun _ _ kz => pw_imul dX12_nextToken_180 kz) ?_
        refine WQ.st (fun _ _ kz => pw_aload0 dX12_nextToken_181 kz) ?_
        refine WQ.st (fun _ _ kz => pw_aload0 dX12_nextToken_182 kz) ?_
        refine WQ.st (fun _ _ kz => pw_geti gX12_111 dX12_nextToken_183 hF.1 kz) ?_
        rw [h7]
        refine WQ.st (fun _ _ kz => pw_o1i wX12_see lX12_114 rfl dX12_nextToken_186 hF.1 (c_seeT hF hX (p := e) (by omega)) rfl (Nat.le_of_ble_eq_true rfl) (Nat.le_of_ble_eq_true rfl) kz) ?_
        rw [seL]
        refine WQ.st (fun _ _ kz => pw_iadd dX12_nextToken_189 kz) ?_
        refine WQ.st (fun _ _ kz => pw_bipush (v := 48) dX12_nextToken_190 (by decide) kz) ?_
        refine WQ.st (fun _ _ kz => pw_isub dX12_nextToken_192 kz) ?_
        refine WQ.st (fun _ _ kz => pw_puti (pX12_131 _ rfl) dX12_nextToken_193 hF.1 rfl rfl kz) ?_
        refine WQ.st (fun _ _ kz => pw_aload0 dX12_nextToken_196 kz) ?_
        refine WQ.st (fun _ _ kz => pw_dup dX12_nextToken_197 rfl kz) ?_
        refine WQ.st (fun _ _ kz => pw_geti gX12_111 dX12_nextToken_198 hF.1 kz) ?_
        rw [up2_nk (by omega), h7]
        refine WQ.st (fun _ _ kz => pw_iconst (v := 1) dX12_nextToken_201 (by decide) kz) ?_
        refine WQ.st (fun _ _ kz => pw_iadd dX12_nextToken_202 kz) ?_
        refine WQ.st (fun _ _ kz => pw_puti (pX12_111 _ rfl) dX12_nextToken_203 hF.1 rfl rfl kz) ?_
        refine WQ.st (fun _ _ kz => pw_goto (tgt := 146) dX12_nextToken_206 (by decide) kz) ?_
        rw [nI_1]
        exact ih (e + 1) _ (by omega) (by omega) ((hf.up (by omega)).up (by omega)) (by rw [up2_nk (by omega), up2_nk (by omega)]; exact h6) up2_eq (by
          rw [up2_nk (by omega), up2_eq, if_pos (by omega)]
          have e3 : (if e + 1 - s < 3 then e + 1 - s else 3) = (e - s) + 1 := by split <;> omega
          rw [e3]
          show _ = 10 * numF x s (e - s) + x (s + (e - s)) - 48
          rw [show s + (e - s) = e by omega]) (fun V h1 h2 h3 h4 => kf V h1 h2 (by rw [runF, if_pos c157]; exact h3) (by rw [runF, if_pos c157]; exact h4))
set_option maxRecDepth 20000 in
theorem l_ntG {G : gT} {d : Nat} {S : sS} {P : sP} {A : sV} {B : sB} {Q : sP} {t sl o : Nat} (hF : MF S P o) {x : Nat → Int32} {L : Nat} {V0 : sV} (hX0 : TXR x L o V0 A) {s e : Nat} (hs : s < L) {Z : Option Value → Ph → Prop} : ∀ (m i : Nat) (V : sV), i + m = 12 → FRV o V0 V → V o 6 = nI s → V o 7 = nI e → V o 9 = nI (sgF (x s) i) → (∀ V : sV, FRV o V0 V → V o 6 = nI s → V o 7 = nI e → V o 9 = nI (sgF (x s) 12) → WQ G (d + 5) mX12_nextToken 294 [some (.ref o), some (.int (nI 12))] [] (t, sl, gh S V P A B Q) Z) → WQ G (d + 5) mX12_nextToken 254 [some (.ref o), some (.int (nI i))] [] (t, sl, gh S V P A B Q) Z := by
  have h9 := hX0.2.1
  intro m
  induction m with
  | zero =>
    intro i V hi hf h6 h7 h99 kf
    have hi : i = 12 := hi
    subst hi
    refine WQ.st (fun _ _ kz => pw_iload1 dX12_nextToken_254 kz) ?_
    refine WQ.st (fun _ _ kz => pw_ldcS2 rfl dX12_nextToken_255 kz) ?_
    refine WQ.st (fun _ _ kz => pw_S0 (i := 2) (by decide) rfl wJ0_length_8abf5 lX12_98 dX12_nextToken_257 (c_strLen (i := 2) (by decide)) rfl (Nat.le_of_ble_eq_true rfl) (Nat.le_of_ble_eq_true rfl) kz) ?_
    refine WQ.br (fun _ _ ka kb => pw_icmp_ge (tgt := 294) dX12_nextToken_260 (by decide) ka kb) (fun c260 => ?_) (fun c260 => absurd (by decide) c260)
    exact kf V hf h6 h7 h99
  | succ m ih =>
    intro i V hi hf h6 h7 h99 kf
    have hX := hX0.fr hf
    have seL : seT x L s = x s := by unfold seT; rw [if_pos (by omega)]
    refine WQ.st (fun _ _ kz => pw_iload1 dX12_nextToken_254 kz) ?_
    refine WQ.st (fun _ _ kz => pw_ldcS2 rfl dX12_nextToken_255 kz) ?_
    refine WQ.st (fun _ _ kz => pw_S0 (i := 2) (by decide) rfl wJ0_length_8abf5 lX12_98 dX12_nextToken_257 (c_strLen (i := 2) (by decide)) rfl (Nat.le_of_ble_eq_true rfl) (Nat.le_of_ble_eq_true rfl) kz) ?_
    refine WQ.br (fun _ _ ka kb => pw_icmp_ge (tgt := 294) dX12_nextToken_260 (by decide) ka kb) (fun c260 => absurd c260 (by rw [le_i (show (nI (pm_len.getD 2 0)).toInt = 12 from rfl) (ix_n (by omega))]; omega)) (fun c260 => ?_)
    refine WQ.st (fun _ _ kz => pw_aload0 dX12_nextToken_263 kz) ?_
    refine WQ.st (fun _ _ kz => pw_aload0 dX12_nextToken_264 kz) ?_
    refine WQ.st (fun _ _ kz => pw_geti gX12_108 dX12_nextToken_265 hF.1 kz) ?_
    rw [h6]
    refine WQ.st (fun _ _ kz => pw_o1i wX12_see lX12_114 rfl dX12_nextToken_268 hF.1 (c_seeT hF hX (p := s) (by omega)) rfl (Nat.le_of_ble_eq_true rfl) (Nat.le_of_ble_eq_true rfl) kz) ?_
    rw [seL]
    refine WQ.st (fun _ _ kz => pw_ldcS2 rfl dX12_nextToken_271 kz) ?_
    refine WQ.st (fun _ _ kz => pw_iload1 dX12_nextToken_273 kz) ?_
    refine WQ.st (fun _ _ kz => pw_S1 (i := 2) (by decide) rfl wJ0_charAt_5068e lX12_104 dX12_nextToken_274 (c_strAt (i := 2) (by decide) (j := i) (by show i < 12; omega)) rfl (Nat.le_of_ble_eq_true rfl) (Nat.le_of_ble_eq_true rfl) kz) ?_
    refine WQ.bn (fun _ _ ka kb => pw_icmp_ne (tgt := 288) dX12_nextToken_277 (by decide) ka kb) (fun c277 => ?_) (fun c277 => ?_)
    · refine WQ.st (fun _ _ kz => pw_iinc1 (v := 1) dX12_nextToken_288 (by decide) (by decide) (k := kz)) ?_
      refine WQ.st (fun _ _ kz => pw_goto (tgt := 254) dX12_nextToken_291 (by decide) kz) ?_
      rw [nI_1]
      exact ih (i + 1) _ (by omega) hf h6 h7 (by rw [sgF, if_neg c277]; exact h99) kf
    · refine WQ.st (fun _ _ kz => pw_aload0 dX12_nextToken_280 kz) ?_
      refine WQ.st (fun _ _ kz => pw_bipush (v := 30) dX12_nextToken_281 (by decide) kz) ?_
      refine WQ.st (fun _ _ kz => pw_iload1 dX12_nextToken_283 kz) ?_
      refine WQ.st (fun _ _ kz => pw_iadd dX12_nextToken_284 kz) ?_
      refine WQ.st (fun _ _ kz => pw_puti (pX12_118 _ rfl) dX12_nextToken_285 hF.1 rfl rfl kz) ?_
      refine WQ.st (fun _ _ kz => pw_iinc1 (v := 1) dX12_nextToken_288 (by decide) (by decide) (k := kz)) ?_
      refine WQ.st (fun _ _ kz => pw_goto (tgt := 254) dX12_nextToken_291 (by decide) kz) ?_
      rw [nI_1]
      exact ih (i + 1) _ (by omega) (hf.up (by omega)) (by rw [up2_nk (by omega)]; exact h6) (by rw [up2_nk (by omega)]; exact h7) (by rw [up2_eq, sgF, if_pos c277, show (30 : Int32) = nI 30 from rfl, nI_pl]) kf
