set_option maxRecDepth 20000 in
theorem g_3 {G : gT} {S : sS} {P : sP} {B : sB} {Q : sP} {t sl o : Nat} (hF : MF S P o) {x : Nat → Int32} {L T n : Nat} (hT : TK x L T = 24) (h2 : GC G S P B Q t sl o x L T mX12_readSum 0 (fun dep _ => [some (.ref o), some (.int (nI dep)), none]) 2 2 n) (h3 : GC G S P B Q t sl o x L T mX12_readUnit 0 (fun dep _ => [some (.ref o), some (.int (nI dep)), none]) 3 3 n) (h5 : GC G S P B Q t sl o x L T mX12_readTruth 0 (fun dep _ => [some (.ref o), some (.int (nI dep))]) 5 5 n) : GC G S P B Q t sl o x L T mX12_readUnit 0 (fun dep _ => [some (.ref o), some (.int (nI dep)), none]) 3 3 (n + 1) := by
  intro i dep c m V A D y hd hn hN hB hD
  have hB1 := hB.1
  have hm9 := hB.2.2
  have r2 : rkT 2 = 4 := rfl
  have r3 : rkT 3 = 5 := rfl
  have r5 : rkT 5 = 9 := rfl
  obtain ⟨D, rfl⟩ : ∃ D', D = D' + 1 := ⟨D - 1, by omega⟩
  rw [ps_3]
  refine WQ.st (fun _ _ kz => pw_aload0 dX12_readUnit_0 kz) ?_
  refine WQ.st (fun _ _ kz => pw_bipush (v := 19) dX12_readUnit_1 (by decide) kz) ?_
  refine wq_o1i wX12_is lX12_142 rfl dX12_readUnit_3 hF.1 (c_isN hF hN (k := 19) rfl) rfl (Nat.le_of_ble_eq_true rfl) (Nat.le_of_ble_eq_true rfl) (fun h3 z3 => ?_)
  subst z3
  refine WQ.br (fun _ _ ka kb => pw_if_eq (tgt := 33) dX12_readUnit_6 (by decide) ka kb) (fun c6 => ?_) (fun c6 => ?_)
  · rw [bI_0] at c6
    have c6 := of_decide_eq_false c6
    rw [if_neg c6]
    refine WQ.st (fun _ _ kz => pw_aload0 dX12_readUnit_33 kz) ?_
    refine WQ.st (fun _ _ kz => pw_bipush (v := 37) dX12_readUnit_34 (by decide) kz) ?_
    refine wq_o1i wX12_is lX12_142 rfl dX12_readUnit_36 hF.1 (c_isN hF hN (k := 37) rfl) rfl (Nat.le_of_ble_eq_true rfl) (Nat.le_of_ble_eq_true rfl) (fun h36 z36 => ?_)
    subst z36
    refine WQ.br (fun _ _ ka kb => pw_if_eq (tgt := 73) dX12_readUnit_39 (by decide) ka kb) (fun c39 => ?_) (fun c39 => ?_)
    · rw [bI_0] at c39
      have c39 := of_decide_eq_false c39
      rw [if_neg c39]
      refine WQ.st (fun _ _ kz => pw_aload0 dX12_readUnit_73 kz) ?_
      refine WQ.st (fun _ _ kz => pw_iload1 dX12_readUnit_74 kz) ?_
      refine wq_o1v wX12_readSum lX12_169 rfl dX12_readUnit_75 hF.1 (h2 i dep c m V A D none hd (by omega) hN hB (by omega)) rfl (Nat.le_of_ble_eq_true rfl) (Nat.le_of_ble_eq_true rfl) (fun h75 z75 => ?_)
      obtain ⟨V2, A2, rfl, z2, f2⟩ := z75
      have pk := ps_ok (Vl := TV x L) (Pl := TPl x L) hT n 2 i dep c m (by omega) hB
      generalize hr : ps (TK x L) (TV x L) (TPl x L) n 2 i dep c = r at *
      cases r with
      | error e =>
        rw [PR.at_er]
        have hw := RX_err z2
        refine WQ.st (fun _ _ kz => pw_aload0 dX12_readUnit_78 kz) ?_
        refine WQ.st (fun _ _ kz => pw_bipush (v := 39) dX12_readUnit_79 (by decide) kz) ?_
        refine wq_o1i wX12_is lX12_142 rfl dX12_readUnit_81 hF.1 (c_isW hF hw _) rfl (Nat.le_of_ble_eq_true rfl) (Nat.le_of_ble_eq_true rfl) (fun h81 z81 => ?_)
        subst z81
        refine WQ.br (fun _ _ ka kb => pw_if_eq (tgt := 93) dX12_readUnit_84 (by decide) ka kb) (fun c84 => ?_) (fun c84 => absurd (by decide) c84)
        refine WQ.st (fun _ _ kz => pw_aload0 dX12_readUnit_93 kz) ?_
        refine WQ.st (fun _ _ kz => pw_bipush (v := 40) dX12_readUnit_94 (by decide) kz) ?_
        refine wq_o1i wX12_is lX12_142 rfl dX12_readUnit_96 hF.1 (c_isW hF hw _) rfl (Nat.le_of_ble_eq_true rfl) (Nat.le_of_ble_eq_true rfl) (fun h96 z96 => ?_)
        subst z96
        refine WQ.br (fun _ _ ka kb => pw_if_eq (tgt := 108) dX12_readUnit_99 (by decide) ka kb) (fun c99 => ?_) (fun c99 => absurd (by decide) c99)
        refine WQ.st (fun _ _ kz => pw_sipush (v := 3005) dX12_readUnit_108 (by decide) kz) ?_
        refine WQ.st (fun _ _ kz => pw_istore2 dX12_readUnit_111 (by decide) (k := kz)) ?_
        refine WQ.st (fun _ _ kz => pw_aload0 dX12_readUnit_112 kz) ?_
        refine WQ.st (fun _ _ kz => pw_bipush (v := 39) dX12_readUnit_113 (by decide) kz) ?_
        refine wq_o1i wX12_is lX12_142 rfl dX12_readUnit_115 hF.1 (c_isW hF hw _) rfl (Nat.le_of_ble_eq_true rfl) (Nat.le_of_ble_eq_true rfl) (fun h115 z115 => ?_)
        subst z115
        refine WQ.bn (fun _ _ ka kb => pw_if_ne (tgt := 139) dX12_readUnit_118 (by decide) ka kb) (fun c118 => absurd (by decide) c118) (fun c118 => ?_)
        refine WQ.st (fun _ _ kz => pw_aload0 dX12_readUnit_121 kz) ?_
        refine WQ.st (fun _ _ kz => pw_bipush (v := 40) dX12_readUnit_122 (by decide) kz) ?_
        refine wq_o1i wX12_is lX12_142 rfl dX12_readUnit_124 hF.1 (c_isW hF hw _) rfl (Nat.le_of_ble_eq_true rfl) (Nat.le_of_ble_eq_true rfl) (fun h124 z124 => ?_)
        subst z124
        refine WQ.bn (fun _ _ ka kb => pw_if_ne (tgt := 139) dX12_readUnit_127 (by decide) ka kb) (fun c127 => absurd (by decide) c127) (fun c127 => ?_)
        refine WQ.st (fun _ _ kz => pw_aload0 dX12_readUnit_130 kz) ?_
        refine WQ.st (fun _ _ kz => pw_bipush (v := 41) dX12_readUnit_131 (by decide) kz) ?_
        refine wq_o1i wX12_is lX12_142 rfl dX12_readUnit_133 hF.1 (c_isW hF hw _) rfl (Nat.le_of_ble_eq_true rfl) (Nat.le_of_ble_eq_true rfl) (fun h133 z133 => ?_)
        subst z133
        refine WQ.br (fun _ _ ka kb => pw_if_eq (tgt := 146) dX12_readUnit_136 (by decide) ka kb) (fun c136 => ?_) (fun c136 => absurd (by decide) c136)
        refine WQ.st (fun _ _ kz => pw_aload0 dX12_readUnit_146 kz) ?_
        refine WQ.st (fun _ _ kz => pw_iconst (v := 2) dX12_readUnit_147 (by decide) kz) ?_
        refine wq_o1v wX12_fails lX12_148 rfl dX12_readUnit_148 hF.1 (c_failsW hF hw _) rfl (Nat.le_of_ble_eq_true rfl) (Nat.le_of_ble_eq_true rfl) (fun h148 z148 => ?_)
        subst z148
        refine WQ.st (fun _ _ kz => pw_aload0 dX12_readUnit_151 kz) ?_
        refine WQ.st (fun _ _ kz => pw_iload1 dX12_readUnit_152 kz) ?_
        refine wq_o1v wX12_readSum lX12_169 rfl dX12_readUnit_153 hF.1 ((w_readSum (d := 0) hF hw _).mn (by omega)) rfl (Nat.le_of_ble_eq_true rfl) (Nat.le_of_ble_eq_true rfl) (fun h153 z153 => ?_)
        subst z153
        refine WQ.st (fun _ _ kz => pw_aload0 dX12_readUnit_156 kz) ?_
        refine WQ.st (fun _ _ kz => pw_iload2 dX12_readUnit_157 kz) ?_
        refine wq_o1v wX12_codes lX12_160 rfl dX12_readUnit_158 hF.1 (c_codesW hF hw _) rfl (Nat.le_of_ble_eq_true rfl) (Nat.le_of_ble_eq_true rfl) (fun h158 z158 => ?_)
        subst z158
        refine ⟨_, _, pw_vret dX12_readUnit_161 rfl rfl rfl, ?_⟩
        exact ⟨rfl, _, _, rfl, z2, f2⟩
      | ok s =>
        rw [PR.at_ok]
        have z2 : RN x L o s.1 s.2 V2 A2 ∧ RB T m s.1 s.2 := z2
        have pk : RB T m s.1 s.2 ∧ i ≤ s.1 := pk
        have KU : ∀ v : Int32, v = (if TK x L s.1 = 39 then 3003 else if TK x L s.1 = 40 then 3004 else 3005) → WQ G (D + 1) mX12_readUnit 112 [some (.ref o), some (.int (nI dep)), some (.int v)] [] (t, sl, gh S V2 P A2 B Q) (RZ x L o T m S P B Q t sl (if TK x L s.1 = 39 ∨ TK x L s.1 = 40 ∨ TK x L s.1 = 41 then (ps (TK x L) (TV x L) (TPl x L) n 2 (s.1 + 1) dep s.2).andThen (fun k c'' => .ok (k, c'' ++ [if TK x L s.1 = 39 then 3003 else if TK x L s.1 = 40 then 3004 else 3005])) else badT (TK x L) (TPl x L) s.1 2) V A) := by
          intro v hv
          refine WQ.st (fun _ _ kz => pw_aload0 dX12_readUnit_112 kz) ?_
          refine WQ.st (fun _ _ kz => pw_bipush (v := 39) dX12_readUnit_113 (by decide) kz) ?_
          refine wq_o1i wX12_is lX12_142 rfl dX12_readUnit_115 hF.1 (c_isN hF z2.1 (k := 39) rfl) rfl (Nat.le_of_ble_eq_true rfl) (Nat.le_of_ble_eq_true rfl) (fun h115 z115 => ?_)
          subst z115
          refine WQ.bn (fun _ _ ka kb => pw_if_ne (tgt := 139) dX12_readUnit_118 (by decide) ka kb) (fun c118 => ?_) (fun c118 => ?_)
          · rw [bI_n] at c118
            have c118 := of_decide_eq_true c118
            have hk : TK x L s.1 = 39 ∨ TK x L s.1 = 40 ∨ TK x L s.1 = 41 := Or.inl c118
            rw [if_pos hk]
            obtain ⟨b3, b4⟩ := z2.2.eat hT (k := TK x L s.1) rfl (by omega)
            have hjT := lt_T hT z2.2.1 (k := TK x L s.1) rfl (by omega)
            refine WQ.st (fun _ _ kz => pw_aload0 dX12_readUnit_139 kz) ?_
            refine wq_o0v wX12_nextToken lX12_145 rfl dX12_readUnit_140 hF.1 (c_ntN hF z2.1 (by omega)) rfl (Nat.le_of_ble_eq_true rfl) (Nat.le_of_ble_eq_true rfl) (fun h140 z140 => ?_)
            obtain ⟨V3, A3, rfl, rfl, n3, f3⟩ := z140
            refine WQ.st (fun _ _ kz => pw_goto (tgt := 151) dX12_readUnit_143 (by decide) kz) ?_
            refine WQ.st (fun _ _ kz => pw_aload0 dX12_readUnit_151 kz) ?_
            refine WQ.st (fun _ _ kz => pw_iload1 dX12_readUnit_152 kz) ?_
            refine wq_o1v wX12_readSum lX12_169 rfl dX12_readUnit_153 hF.1 (h2 (s.1 + 1) dep s.2 (m - 1) V3 A2 D none hd (by omega) n3 b3 (by omega)) rfl (Nat.le_of_ble_eq_true rfl) (Nat.le_of_ble_eq_true rfl) (fun h153 z153 => ?_)
            obtain ⟨V5, A5, rfl, z5, f5⟩ := z153
            generalize hr5 : ps (TK x L) (TV x L) (TPl x L) n 2 (s.1 + 1) dep s.2 = r5 at *
            cases r5 with
            | error e5 =>
              rw [PR.at_er]
              have hw := RX_err z5
              have z5 := RX_em (m' := m) z5
              refine WQ.st (fun _ _ kz => pw_aload0 dX12_readUnit_156 kz) ?_
              refine WQ.st (fun _ _ kz => pw_iload2 dX12_readUnit_157 kz) ?_
              refine wq_o1v wX12_codes lX12_160 rfl dX12_readUnit_158 hF.1 (c_codesW hF hw _) rfl (Nat.le_of_ble_eq_true rfl) (Nat.le_of_ble_eq_true rfl) (fun h158 z158 => ?_)
              subst z158
              refine ⟨_, _, pw_vret dX12_readUnit_161 rfl rfl rfl, ?_⟩
              exact ⟨rfl, _, _, rfl, z5, (f2.tr f3).tr f5⟩
            | ok s5 =>
              rw [PR.at_ok]
              have z5 : RN x L o s5.1 s5.2 V5 A5 ∧ RB T (m - 1) s5.1 s5.2 := z5
              refine WQ.st (fun _ _ kz => pw_aload0 dX12_readUnit_156 kz) ?_
              refine WQ.st (fun _ _ kz => pw_iload2 dX12_readUnit_157 kz) ?_
              refine wq_o1v wX12_codes lX12_160 rfl dX12_readUnit_158 hF.1 (c_codesN hF z5.1 (by have := z5.2.2.1; omega) _) rfl (Nat.le_of_ble_eq_true rfl) (Nat.le_of_ble_eq_true rfl) (fun h158 z158 => ?_)
              obtain ⟨V6, A6, rfl, n6, f6⟩ := z158
              refine ⟨_, _, pw_vret dX12_readUnit_161 rfl rfl rfl, ?_⟩
              rw [hv] at n6
              exact ⟨rfl, _, _, rfl, ⟨n6, z5.2.say b4 hm9⟩, ((f2.tr f3).tr f5).tr f6⟩
          · rw [bI_0] at c118
            have c118 := of_decide_eq_false c118
            refine WQ.st (fun _ _ kz => pw_aload0 dX12_readUnit_121 kz) ?_
            refine WQ.st (fun _ _ kz => pw_bipush (v := 40) dX12_readUnit_122 (by decide) kz) ?_
            refine wq_o1i wX12_is lX12_142 rfl dX12_readUnit_124 hF.1 (c_isN hF z2.1 (k := 40) rfl) rfl (Nat.le_of_ble_eq_true rfl) (Nat.le_of_ble_eq_true rfl) (fun h124 z124 => ?_)
            subst z124
            refine WQ.bn (fun _ _ ka kb => pw_if_ne (tgt := 139) dX12_readUnit_127 (by decide) ka kb) (fun c127 => ?_) (fun c127 => ?_)
            · rw [bI_n] at c127
              have c127 := of_decide_eq_true c127
              have hk : TK x L s.1 = 39 ∨ TK x L s.1 = 40 ∨ TK x L s.1 = 41 := Or.inr (Or.inl c127)
              rw [if_pos hk]
              obtain ⟨b3, b4⟩ := z2.2.eat hT (k := TK x L s.1) rfl (by omega)
              have hjT := lt_T hT z2.2.1 (k := TK x L s.1) rfl (by omega)
              refine WQ.st (fun _ _ kz => pw_aload0 dX12_readUnit_139 kz) ?_
              refine wq_o0v wX12_nextToken lX12_145 rfl dX12_readUnit_140 hF.1 (c_ntN hF z2.1 (by omega)) rfl (Nat.le_of_ble_eq_true rfl) (Nat.le_of_ble_eq_true rfl) (fun h140 z140 => ?_)
              obtain ⟨V3, A3, rfl, rfl, n3, f3⟩ := z140
              refine WQ.st (fun _ _ kz => pw_goto (tgt := 151) dX12_readUnit_143 (by decide) kz) ?_
              refine WQ.st (fun _ _ kz => pw_aload0 dX12_readUnit_151 kz) ?_
              refine WQ.st (fun _ _ kz => pw_iload1 dX12_readUnit_152 kz) ?_
              refine wq_o1v wX12_readSum lX12_169 rfl dX12_readUnit_153 hF.1 (h2 (s.1 + 1) dep s.2 (m - 1) V3 A2 D none hd (by omega) n3 b3 (by omega)) rfl (Nat.le_of_ble_eq_true rfl) (Nat.le_of_ble_eq_true rfl) (fun h153 z153 => ?_)
              obtain ⟨V5, A5, rfl, z5, f5⟩ := z153
              generalize hr5 : ps (TK x L) (TV x L) (TPl x L) n 2 (s.1 + 1) dep s.2 = r5 at *
              cases r5 with
              | error e5 =>
                rw [PR.at_er]
                have hw := RX_err z5
                have z5 := RX_em (m' := m) z5
                refine WQ.st (fun _ _ kz => pw_aload0 dX12_readUnit_156 kz) ?_
                refine WQ.st (fun _ _ kz => pw_iload2 dX12_readUnit_157 kz) ?_
                refine wq_o1v wX12_codes lX12_160 rfl dX12_readUnit_158 hF.1 (c_codesW hF hw _) rfl (Nat.le_of_ble_eq_true rfl) (Nat.le_of_ble_eq_true rfl) (fun h158 z158 => ?_)
                subst z158
                refine ⟨_, _, pw_vret dX12_readUnit_161 rfl rfl rfl, ?_⟩
                exact ⟨rfl, _, _, rfl, z5, (f2.tr f3).tr f5⟩
              | ok s5 =>
                rw [PR.at_ok]
                have z5 : RN x L o s5.1 s5.2 V5 A5 ∧ RB T (m - 1) s5.1 s5.2 := z5
                refine WQ.st (fun _ _ kz => pw_aload0 dX12_readUnit_156 kz) ?_
                refine WQ.st (fun _ _ kz => pw_iload2 dX12_readUnit_157 kz) ?_
                refine wq_o1v wX12_codes lX12_160 rfl dX12_readUnit_158 hF.1 (c_codesN hF z5.1 (by have := z5.2.2.1; omega) _) rfl (Nat.le_of_ble_eq_true rfl) (Nat.le_of_ble_eq_true rfl) (fun h158 z158 => ?_)
                obtain ⟨V6, A6, rfl, n6, f6⟩ := z158
                refine ⟨_, _, pw_vret dX12_readUnit_161 rfl rfl rfl, ?_⟩
                rw [hv] at n6
                exact ⟨rfl, _, _, rfl, ⟨n6, z5.2.say b4 hm9⟩, ((f2.tr f3).tr f5).tr f6⟩
            · rw [bI_0] at c127
              have c127 := of_decide_eq_false c127
              refine WQ.st (fun _ _ kz => pw_aload0 dX12_readUnit_130 kz) ?_
              refine WQ.st (fun _ _ kz => pw_bipush (v := 41) dX12_readUnit_131 (by decide) kz) ?_
              refine wq_o1i wX12_is lX12_142 rfl dX12_readUnit_133 hF.1 (c_isN hF z2.1 (k := 41) rfl) rfl (Nat.le_of_ble_eq_true rfl) (Nat.le_of_ble_eq_true rfl) (fun h133 z133 => ?_)
              subst z133
              refine WQ.br (fun _ _ ka kb => pw_if_eq (tgt := 146) dX12_readUnit_136 (by decide) ka kb) (fun c136 => ?_) (fun c136 => ?_)
              · rw [bI_0] at c136
                have c136 := of_decide_eq_false c136
                rw [if_neg (fun q => q.elim c118 (fun q => q.elim c127 c136))]
                refine WQ.st (fun _ _ kz => pw_aload0 dX12_readUnit_146 kz) ?_
                refine WQ.st (fun _ _ kz => pw_iconst (v := 2) dX12_readUnit_147 (by decide) kz) ?_
                refine wq_o1v wX12_fails lX12_148 rfl dX12_readUnit_148 hF.1 (c_failsN (T := T) (m := m) hF z2.1 (by decide)) rfl (Nat.le_of_ble_eq_true rfl) (Nat.le_of_ble_eq_true rfl) (fun h148 z148 => ?_)
                obtain ⟨V3, A3, rfl, z3, f3, _⟩ := z148
                have hw := RX_bad z3
                refine WQ.st (fun _ _ kz => pw_aload0 dX12_readUnit_151 kz) ?_
                refine WQ.st (fun _ _ kz => pw_iload1 dX12_readUnit_152 kz) ?_
                refine wq_o1v wX12_readSum lX12_169 rfl dX12_readUnit_153 hF.1 ((w_readSum (d := 0) hF hw _).mn (by omega)) rfl (Nat.le_of_ble_eq_true rfl) (Nat.le_of_ble_eq_true rfl) (fun h153 z153 => ?_)
                subst z153
                refine WQ.st (fun _ _ kz => pw_aload0 dX12_readUnit_156 kz) ?_
                refine WQ.st (fun _ _ kz => pw_iload2 dX12_readUnit_157 kz) ?_
                refine wq_o1v wX12_codes lX12_160 rfl dX12_readUnit_158 hF.1 (c_codesW hF hw _) rfl (Nat.le_of_ble_eq_true rfl) (Nat.le_of_ble_eq_true rfl) (fun h158 z158 => ?_)
                subst z158
                refine ⟨_, _, pw_vret dX12_readUnit_161 rfl rfl rfl, ?_⟩
                exact ⟨rfl, _, _, rfl, z3, f2.tr f3⟩
              · rw [bI_n] at c136
                have c136 := of_decide_eq_true c136
                have hk : TK x L s.1 = 39 ∨ TK x L s.1 = 40 ∨ TK x L s.1 = 41 := Or.inr (Or.inr c136)
                rw [if_pos hk]
                obtain ⟨b3, b4⟩ := z2.2.eat hT (k := TK x L s.1) rfl (by omega)
                have hjT := lt_T hT z2.2.1 (k := TK x L s.1) rfl (by omega)
                refine WQ.st (fun _ _ kz => pw_aload0 dX12_readUnit_139 kz) ?_
                refine wq_o0v wX12_nextToken lX12_145 rfl dX12_readUnit_140 hF.1 (c_ntN hF z2.1 (by omega)) rfl (Nat.le_of_ble_eq_true rfl) (Nat.le_of_ble_eq_true rfl) (fun h140 z140 => ?_)
                obtain ⟨V3, A3, rfl, rfl, n3, f3⟩ := z140
                refine WQ.st (fun _ _ kz => pw_goto (tgt := 151) dX12_readUnit_143 (by decide) kz) ?_
                refine WQ.st (fun _ _ kz => pw_aload0 dX12_readUnit_151 kz) ?_
                refine WQ.st (fun _ _ kz => pw_iload1 dX12_readUnit_152 kz) ?_
                refine wq_o1v wX12_readSum lX12_169 rfl dX12_readUnit_153 hF.1 (h2 (s.1 + 1) dep s.2 (m - 1) V3 A2 D none hd (by omega) n3 b3 (by omega)) rfl (Nat.le_of_ble_eq_true rfl) (Nat.le_of_ble_eq_true rfl) (fun h153 z153 => ?_)
                obtain ⟨V5, A5, rfl, z5, f5⟩ := z153
                generalize hr5 : ps (TK x L) (TV x L) (TPl x L) n 2 (s.1 + 1) dep s.2 = r5 at *
                cases r5 with
                | error e5 =>
                  rw [PR.at_er]
                  have hw := RX_err z5
                  have z5 := RX_em (m' := m) z5
                  refine WQ.st (fun _ _ kz => pw_aload0 dX12_readUnit_156 kz) ?_
                  refine WQ.st (fun _ _ kz => pw_iload2 dX12_readUnit_157 kz) ?_
                  refine wq_o1v wX12_codes lX12_160 rfl dX12_readUnit_158 hF.1 (c_codesW hF hw _) rfl (Nat.le_of_ble_eq_true rfl) (Nat.le_of_ble_eq_true rfl) (fun h158 z158 => ?_)
                  subst z158
                  refine ⟨_, _, pw_vret dX12_readUnit_161 rfl rfl rfl, ?_⟩
                  exact ⟨rfl, _, _, rfl, z5, (f2.tr f3).tr f5⟩
                | ok s5 =>
                  rw [PR.at_ok]
                  have z5 : RN x L o s5.1 s5.2 V5 A5 ∧ RB T (m - 1) s5.1 s5.2 := z5
                  refine WQ.st (fun _ _ kz => pw_aload0 dX12_readUnit_156 kz) ?_
                  refine WQ.st (fun _ _ kz => pw_iload2 dX12_readUnit_157 kz) ?_
                  refine wq_o1v wX12_codes lX12_160 rfl dX12_readUnit_158 hF.1 (c_codesN hF z5.1 (by have := z5.2.2.1; omega) _) rfl (Nat.le_of_ble_eq_true rfl) (Nat.le_of_ble_eq_true rfl) (fun h158 z158 => ?_)
                  obtain ⟨V6, A6, rfl, n6, f6⟩ := z158
                  refine ⟨_, _, pw_vret dX12_readUnit_161 rfl rfl rfl, ?_⟩
                  rw [hv] at n6
                  exact ⟨rfl, _, _, rfl, ⟨n6, z5.2.say b4 hm9⟩, ((f2.tr f3).tr f5).tr f6⟩
        refine WQ.st (fun _ _ kz => pw_aload0 dX12_readUnit_78 kz) ?_
        refine WQ.st (fun _ _ kz => pw_bipush (v := 39) dX12_readUnit_79 (by decide) kz) ?_
        refine wq_o1i wX12_is lX12_142 rfl dX12_readUnit_81 hF.1 (c_isN hF z2.1 (k := 39) rfl) rfl (Nat.le_of_ble_eq_true rfl) (Nat.le_of_ble_eq_true rfl) (fun h81 z81 => ?_)
        subst z81
        refine WQ.br (fun _ _ ka kb => pw_if_eq (tgt := 93) dX12_readUnit_84 (by decide) ka kb) (fun c84 => ?_) (fun c84 => ?_)
        · rw [bI_0] at c84
          have c84 := of_decide_eq_false c84
          refine WQ.st (fun _ _ kz => pw_aload0 dX12_readUnit_93 kz) ?_
          refine WQ.st (fun _ _ kz => pw_bipush (v := 40) dX12_readUnit_94 (by decide) kz) ?_
          refine wq_o1i wX12_is lX12_142 rfl dX12_readUnit_96 hF.1 (c_isN hF z2.1 (k := 40) rfl) rfl (Nat.le_of_ble_eq_true rfl) (Nat.le_of_ble_eq_true rfl) (fun h96 z96 => ?_)
          subst z96
          refine WQ.br (fun _ _ ka kb => pw_if_eq (tgt := 108) dX12_readUnit_99 (by decide) ka kb) (fun c99 => ?_) (fun c99 => ?_)
          · rw [bI_0] at c99
            have c99 := of_decide_eq_false c99
            refine WQ.st (fun _ _ kz => pw_sipush (v := 3005) dX12_readUnit_108 (by decide) kz) ?_
            refine WQ.st (fun _ _ kz => pw_istore2 dX12_readUnit_111 (by decide) (k := kz)) ?_
            exact KU _ (by rw [if_neg c84, if_neg c99])
          · rw [bI_n] at c99
            have c99 := of_decide_eq_true c99
            refine WQ.st (fun _ _ kz => pw_sipush (v := 3004) dX12_readUnit_102 (by decide) kz) ?_
            refine WQ.st (fun _ _ kz => pw_goto (tgt := 111) dX12_readUnit_105 (by decide) kz) ?_
            refine WQ.st (fun _ _ kz => pw_istore2 dX12_readUnit_111 (by decide) (k := kz)) ?_
            exact KU _ (by rw [if_neg c84, if_pos c99])
        · rw [bI_n] at c84
          have c84 := of_decide_eq_true c84
          refine WQ.st (fun _ _ kz => pw_sipush (v := 3003) dX12_readUnit_87 (by decide) kz) ?_
          refine WQ.st (fun _ _ kz => pw_goto (tgt := 111) dX12_readUnit_90 (by decide) kz) ?_
          refine WQ.st (fun _ _ kz => pw_istore2 dX12_readUnit_111 (by decide) (k := kz)) ?_
          exact KU _ (by rw [if_pos c84])
    · rw [bI_n] at c39
      have c39 := of_decide_eq_true c39
      rw [if_pos c39]
      obtain ⟨b1, b2⟩ := hB.eat hT c39 (by omega)
      have hiT := lt_T hT hB1 c39 (by omega)
      refine WQ.st (fun _ _ kz => pw_aload0 dX12_readUnit_42 kz) ?_
      refine WQ.st (fun _ _ kz => pw_iload1 dX12_readUnit_43 kz) ?_
      refine wq_o1i wX12_goesIn lX12_166 rfl dX12_readUnit_44 hF.1 (c_goesInN (m := m - 1) hF hN hd b1 (by omega)) rfl (Nat.le_of_ble_eq_true rfl) (Nat.le_of_ble_eq_true rfl) (fun h44 z44 => ?_)
      obtain ⟨V1, A1, rfl, z1, f1⟩ := z44
      refine WQ.bn (fun _ _ ka kb => pw_if_ne (tgt := 51) dX12_readUnit_47 (by decide) ka kb) (fun c47 => ?_) (fun c47 => ?_)
      · rw [bI_n] at c47
        have c47 := of_decide_eq_true c47
        rw [if_neg c47] at z1 ⊢
        have z1 : RN x L o (i + 1) c V1 A1 ∧ RB T (m - 1) (i + 1) c := z1
        refine WQ.st (fun _ _ kz => pw_aload0 dX12_readUnit_51 kz) ?_
        refine WQ.st (fun _ _ kz => pw_iload1 dX12_readUnit_52 kz) ?_
        refine WQ.st (fun _ _ kz => pw_iconst (v := 1) dX12_readUnit_53 (by decide) kz) ?_
        refine WQ.st (fun _ _ kz => pw_iadd dX12_readUnit_54 kz) ?_
        rw [nI_1]
        refine wq_o1v wX12_readTruth lX12_184 rfl dX12_readUnit_55 hF.1 (h5 (i + 1) (dep + 1) c (m - 1) V1 A1 D none (by omega) (by omega) z1.1 z1.2 (by omega)) rfl (Nat.le_of_ble_eq_true rfl) (Nat.le_of_ble_eq_true rfl) (fun h55 z55 => ?_)
        obtain ⟨V2, A2, rfl, z2, f2⟩ := z55
        have pk := True.intro
        generalize hr : ps (TK x L) (TV x L) (TPl x L) n 5 (i + 1) (dep + 1) c = r at *
        cases r with
        | error e =>
          rw [PR.at_er]
          have hw := RX_err z2
          have z2 := RX_em (m' := m) z2
          refine WQ.st (fun _ _ kz => pw_aload0 dX12_readUnit_58 kz) ?_
          refine WQ.st (fun _ _ kz => pw_bipush (v := 38) dX12_readUnit_59 (by decide) kz) ?_
          refine wq_o1i wX12_eats lX12_172 rfl dX12_readUnit_61 hF.1 ((c_eatsW (d := 0) hF hw _).mn (by omega)) rfl (Nat.le_of_ble_eq_true rfl) (Nat.le_of_ble_eq_true rfl) (fun h61 z61 => ?_)
          subst z61
          refine WQ.bn (fun _ _ ka kb => pw_if_ne (tgt := 72) dX12_readUnit_64 (by decide) ka kb) (fun c64 => absurd (by decide) c64) (fun c64 => ?_)
          refine WQ.st (fun _ _ kz => pw_aload0 dX12_readUnit_67 kz) ?_
          refine WQ.st (fun _ _ kz => pw_iconst (v := 2) dX12_readUnit_68 (by decide) kz) ?_
          refine wq_o1v wX12_fails lX12_148 rfl dX12_readUnit_69 hF.1 (c_failsW hF hw _) rfl (Nat.le_of_ble_eq_true rfl) (Nat.le_of_ble_eq_true rfl) (fun h69 z69 => ?_)
          subst z69
          refine ⟨_, _, pw_vret dX12_readUnit_72 rfl rfl rfl, ?_⟩
          exact ⟨rfl, _, _, rfl, z2, f1.tr f2⟩
        | ok s =>
          rw [PR.at_ok]
          have z2 : RN x L o s.1 s.2 V2 A2 ∧ RB T (m - 1) s.1 s.2 := z2
          refine WQ.st (fun _ _ kz => pw_aload0 dX12_readUnit_58 kz) ?_
          refine WQ.st (fun _ _ kz => pw_bipush (v := 38) dX12_readUnit_59 (by decide) kz) ?_
          refine wq_o1i wX12_eats lX12_172 rfl dX12_readUnit_61 hF.1 (c_eatsN hF z2.1 (k := 38) rfl (by omega)) rfl (Nat.le_of_ble_eq_true rfl) (Nat.le_of_ble_eq_true rfl) (fun h61 z61 => ?_)
          obtain ⟨V3, A3, rfl, e1, e2, f3⟩ := z61
          refine WQ.bn (fun _ _ ka kb => pw_if_ne (tgt := 72) dX12_readUnit_64 (by decide) ka kb) (fun c64 => ?_) (fun c64 => ?_)
          · rw [bI_n] at c64
            have c64 := of_decide_eq_true c64
            have n3 := e1 c64
            obtain ⟨b3, _⟩ := z2.2.eat hT c64 (by omega)
            rw [if_pos c64]
            refine ⟨_, _, pw_vret dX12_readUnit_72 rfl rfl rfl, ?_⟩
            exact ⟨rfl, _, _, rfl, ⟨n3, ⟨b3.1, by have := b3.2.1; show s.2.length + (T - (s.1 + 1)) ≤ m; omega, hm9⟩⟩, (f1.tr f2).tr f3⟩
          · rw [bI_0] at c64
            have c64 := of_decide_eq_false c64
            obtain ⟨rfl, rfl⟩ := e2 c64
            rw [if_neg c64]
            refine WQ.st (fun _ _ kz => pw_aload0 dX12_readUnit_67 kz) ?_
            refine WQ.st (fun _ _ kz => pw_iconst (v := 2) dX12_readUnit_68 (by decide) kz) ?_
            refine wq_o1v wX12_fails lX12_148 rfl dX12_readUnit_69 hF.1 (c_failsN (T := T) (m := m) hF z2.1 (by decide)) rfl (Nat.le_of_ble_eq_true rfl) (Nat.le_of_ble_eq_true rfl) (fun h69 z69 => ?_)
            obtain ⟨V4, A4, rfl, z4, f4, _⟩ := z69
            refine ⟨_, _, pw_vret dX12_readUnit_72 rfl rfl rfl, ?_⟩
            exact ⟨rfl, _, _, rfl, z4, (f1.tr f2).tr f4⟩
      · rw [bI_0] at c47
        have c47 : dep = 6 := Decidable.byContradiction (fun q => of_decide_eq_false c47 q)
        rw [if_pos c47] at z1 ⊢
        unfold badT at z1
        rw [if_neg (by omega)] at z1
        refine ⟨_, _, pw_vret dX12_readUnit_50 rfl rfl rfl, ?_⟩
        exact ⟨rfl, _, _, rfl, RX_em z1, f1⟩
  · rw [bI_n] at c6
    have c6 := of_decide_eq_true c6
    rw [if_pos c6]
    obtain ⟨b1, b2⟩ := hB.eat hT c6 (by omega)
    have hiT := lt_T hT hB1 c6 (by omega)
    refine WQ.st (fun _ _ kz => pw_aload0 dX12_readUnit_9 kz) ?_
    refine WQ.st (fun _ _ kz => pw_iload1 dX12_readUnit_10 kz) ?_
    refine wq_o1i wX12_goesIn lX12_166 rfl dX12_readUnit_11 hF.1 (c_goesInN (m := m - 1) hF hN hd b1 (by omega)) rfl (Nat.le_of_ble_eq_true rfl) (Nat.le_of_ble_eq_true rfl) (fun h11 z11 => ?_)
    obtain ⟨V1, A1, rfl, z1, f1⟩ := z11
    refine WQ.bn (fun _ _ ka kb => pw_if_ne (tgt := 18) dX12_readUnit_14 (by decide) ka kb) (fun c14 => ?_) (fun c14 => ?_)
    · rw [bI_n] at c14
      have c14 := of_decide_eq_true c14
      rw [if_neg c14] at z1 ⊢
      have z1 : RN x L o (i + 1) c V1 A1 ∧ RB T (m - 1) (i + 1) c := z1
      refine WQ.st (fun _ _ kz => pw_aload0 dX12_readUnit_18 kz) ?_
      refine WQ.st (fun _ _ kz => pw_iload1 dX12_readUnit_19 kz) ?_
      refine WQ.st (fun _ _ kz => pw_iconst (v := 1) dX12_readUnit_20 (by decide) kz) ?_
      refine WQ.st (fun _ _ kz => pw_iadd dX12_readUnit_21 kz) ?_
      rw [nI_1]
      refine wq_o1v wX12_readUnit lX12_181 rfl dX12_readUnit_22 hF.1 (h3 (i + 1) (dep + 1) c (m - 1) V1 A1 D none (by omega) (by omega) z1.1 z1.2 (by omega)) rfl (Nat.le_of_ble_eq_true rfl) (Nat.le_of_ble_eq_true rfl) (fun h22 z22 => ?_)
      obtain ⟨V2, A2, rfl, z2, f2⟩ := z22
      have pk := True.intro
      generalize hr : ps (TK x L) (TV x L) (TPl x L) n 3 (i + 1) (dep + 1) c = r at *
      cases r with
      | error e =>
        rw [PR.at_er]
        have hw := RX_err z2
        have z2 := RX_em (m' := m) z2
        refine WQ.st (fun _ _ kz => pw_aload0 dX12_readUnit_25 kz) ?_
        refine WQ.st (fun _ _ kz => pw_sipush (v := 3006) dX12_readUnit_26 (by decide) kz) ?_
        refine wq_o1v wX12_codes lX12_160 rfl dX12_readUnit_29 hF.1 (c_codesW hF hw _) rfl (Nat.le_of_ble_eq_true rfl) (Nat.le_of_ble_eq_true rfl) (fun h29 z29 => ?_)
        subst z29
        refine ⟨_, _, pw_vret dX12_readUnit_32 rfl rfl rfl, ?_⟩
        exact ⟨rfl, _, _, rfl, z2, f1.tr f2⟩
      | ok s =>
        rw [PR.at_ok]
        have z2 : RN x L o s.1 s.2 V2 A2 ∧ RB T (m - 1) s.1 s.2 := z2
        refine WQ.st (fun _ _ kz => pw_aload0 dX12_readUnit_25 kz) ?_
        refine WQ.st (fun _ _ kz => pw_sipush (v := 3006) dX12_readUnit_26 (by decide) kz) ?_
        refine wq_o1v wX12_codes lX12_160 rfl dX12_readUnit_29 hF.1 (c_codesN hF z2.1 (by have := z2.2.2.1; omega) _) rfl (Nat.le_of_ble_eq_true rfl) (Nat.le_of_ble_eq_true rfl) (fun h29 z29 => ?_)
        obtain ⟨V3, A3, rfl, n3, f3⟩ := z29
        refine ⟨_, _, pw_vret dX12_readUnit_32 rfl rfl rfl, ?_⟩
        exact ⟨rfl, _, _, rfl, ⟨n3, z2.2.say b2 hm9⟩, (f1.tr f2).tr f3⟩
    · rw [bI_0] at c14
      have c14 : dep = 6 := Decidable.byContradiction (fun q => of_decide_eq_false c14 q)
      rw [if_pos c14] at z1 ⊢
      unfold badT at z1
      rw [if_neg (by omega)] at z1
      refine ⟨_, _, pw_vret dX12_readUnit_17 rfl rfl rfl, ?_⟩
      exact ⟨rfl, _, _, rfl, RX_em z1, f1⟩
theorem g_all {G : gT} {S : sS} {P : sP} {B : sB} {Q : sP} {t sl o : Nat} (hF : MF S P o) {x : Nat → Int32} {L T : Nat} (hT : TK x L T = 24) : ∀ n, GC G S P B Q t sl o x L T mX12_readAtom 0 (fun dep _ => [some (.ref o), some (.int (nI dep))]) 0 0 n ∧ GC G S P B Q t sl o x L T mX12_readTerm 0 (fun dep _ => [some (.ref o), some (.int (nI dep))]) 1 1 n ∧ GC G S P B Q t sl o x L T mX12_readTerm 5 (fun dep _ => [some (.ref o), some (.int (nI dep))]) 11 1 n ∧ GC G S P B Q t sl o x L T mX12_readSum 0 (fun dep _ => [some (.ref o), some (.int (nI dep)), none]) 2 2 n ∧ GC G S P B Q t sl o x L T mX12_readSum 5 (fun dep y => [some (.ref o), some (.int (nI dep)), y]) 12 2 n ∧ GC G S P B Q t sl o x L T mX12_readUnit 0 (fun dep _ => [some (.ref o), some (.int (nI dep)), none]) 3 3 n ∧ GC G S P B Q t sl o x L T mX12_readBoth 0 (fun dep _ => [some (.ref o), some (.int (nI dep))]) 4 4 n ∧ GC G S P B Q t sl o x L T mX12_readBoth 5 (fun dep _ => [some (.ref o), some (.int (nI dep))]) 14 4 n ∧ GC G S P B Q t sl o x L T mX12_readTruth 0 (fun dep _ => [some (.ref o), some (.int (nI dep))]) 5 5 n ∧ GC G S P B Q t sl o x L T mX12_readTruth 5 (fun dep _ => [some (.ref o), some (.int (nI dep))]) 15 5 n := by
  intro n
  induction n with
  | zero => exact ⟨fun i dep c m V A D y _ hn _ _ _ => by omega, fun i dep c m V A D y _ hn _ _ _ => by omega, fun i dep c m V A D y _ hn _ _ _ => by omega, fun i dep c m V A D y _ hn _ _ _ => by omega, fun i dep c m V A D y _ hn _ _ _ => by omega, fun i dep c m V A D y _ hn _ _ _ => by omega, fun i dep c m V A D y _ hn _ _ _ => by omega, fun i dep c m V A D y _ hn _ _ _ => by omega, fun i dep c m V A D y _ hn _ _ _ => by omega, fun i dep c m V A D y _ hn _ _ _ => by omega⟩
  | succ n ih =>
    obtain ⟨h0, h1, h11, h2, h12, h3, h4, h14, h5, h15⟩ := ih
    exact ⟨g_0 hF hT h2, g_1 hF hT h0 h11, g_11 hF hT h0 h11, g_2 hF hT h1 h12, g_12 hF hT h1 h12, g_3 hF hT h2 h3 h5, g_4 hF hT h3 h14, g_14 hF hT h3 h14, g_5 hF hT h4 h15, g_15 hF hT h4 h15⟩
