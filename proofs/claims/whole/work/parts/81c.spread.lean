set_option maxRecDepth 20000 in
theorem l_spread5 {G : gT} {d : Nat} {S : sS} {V : sV} {P : sP} {B : sB} {Q : sP} {t sl : Nat} {al : Nat → Int32} {sh ls p tm q : Nat} {A0 : sV} {hh fr to K : Nat} {c : Nat → Int32} (h7 : P 107 7 = some hh) (hhh : hh = 112 ∨ hh = 113) (s7 : S hh = (20, 205)) (sto : S to = (20, 41)) (hto : to = 70 ∨ (118 ≤ to ∧ to ≤ 134)) (hK90 : K ≤ 90) (hc : ∀ j, j < 205 → bnd K (c j)) : ∀ (m k : Nat) (A : sV), k + m = 205 → KB S V P A B Q t al sh ls p tm q → (∀ j, j < 205 → A hh j = cv (c j)) → (∀ u, u < 41 → A to u = cv (mfo (fun l => c (u * 5 + l)) (min (k - u * 5) 5))) → (∀ x, x ≠ to → A x = A0 x) → WQ G (d + 1) mX10_spread 77 [some (.ref 107), some (.ref fr), some (.ref to), some (.int (nI k))] [] (t, sl, gh S V P A B Q) (fun r h' => r = none ∧ ∃ A' : sV, h' = (t, sl, gh S V P A' B Q) ∧ KB S V P A' B Q t al sh ls p tm q ∧ (∀ u, u < 41 → A' to u = cv (mfo (fun l => c (u * 5 + l)) 5)) ∧ (∀ x, x ≠ to → A' x = A0 x)) := by
  intro m
  induction m with
  | zero =>
    intro k A hk hK hh0 hT hA
    have hk : k = 205 := hk
    subst hk
    refine WQ.st (fun _ _ kz => pw_iload3 dX10_spread_77 kz) ?_
    refine WQ.st (fun _ _ kz => pw_sipush (v := 205) dX10_spread_78 (by decide) kz) ?_
    refine WQ.br (fun _ _ ka kb => pw_icmp_ge (tgt := 117) dX10_spread_81 (by decide) ka kb) (fun c81 => ?_) (fun c81 => absurd (by decide) c81)
    refine ⟨_, _, pw_vret dX10_spread_117 rfl rfl rfl, ?_⟩
    exact ⟨rfl, A, rfl, hK, fun u hu => by rw [hT u hu, show min (205 - u * 5) 5 = 5 by omega], hA⟩
  | succ m ih =>
    intro k A hk hK hh0 hT hA
    refine WQ.st (fun _ _ kz => pw_iload3 dX10_spread_77 kz) ?_
    refine WQ.st (fun _ _ kz => pw_sipush (v := 205) dX10_spread_78 (by decide) kz) ?_
    refine WQ.br (fun _ _ ka kb => pw_icmp_ge (tgt := 117) dX10_spread_81 (by decide) ka kb) (fun c81 => absurd c81 (by rw [show (205 : Int32) = nI 205 from rfl, le_i (ix_n (j := 205) (by omega)) (ix_n (j := k) (by omega))]; omega)) (fun c81 => ?_)
    refine WQ.st (fun _ _ kz => pw_iload3 dX10_spread_84 kz) ?_
    refine WQ.st (fun _ _ kz => pw_iconst (v := 5) dX10_spread_85 (by decide) kz) ?_
    refine WQ.st (fun _ _ kz => pw_idiv dX10_spread_86 (by decide) kz) ?_
    rw [nI_div5 (by omega)]
    refine WQ.st (fun _ _ kz => pw_aload2 dX10_spread_87 kz) ?_
    refine WQ.st (fun _ _ kz => pw_len dX10_spread_88 sto (by decide) kz) ?_
    refine WQ.br (fun _ _ ka kb => pw_icmp_ge (tgt := 117) dX10_spread_89 (by decide) ka kb) (fun c89 => absurd c89 (by rw [show Int32.ofNat 41 = nI 41 from rfl, le_i (ix_n (j := 41) (by omega)) (ix_n (j := k / 5) (by omega))]; omega)) (fun c89 => ?_)
    refine WQ.st (fun _ _ kz => pw_aload2 dX10_spread_92 kz) ?_
    refine WQ.st (fun _ _ kz => pw_iload3 dX10_spread_93 kz) ?_
    refine WQ.st (fun _ _ kz => pw_iconst (v := 5) dX10_spread_94 (by decide) kz) ?_
    refine WQ.st (fun _ _ kz => pw_idiv dX10_spread_95 (by decide) kz) ?_
    rw [nI_div5 (by omega)]
    refine WQ.st (fun _ _ kz => pw_aload2 dX10_spread_96 kz) ?_
    refine WQ.st (fun _ _ kz => pw_iload3 dX10_spread_97 kz) ?_
    refine WQ.st (fun _ _ kz => pw_iconst (v := 5) dX10_spread_98 (by decide) kz) ?_
    refine WQ.st (fun _ _ kz => pw_idiv dX10_spread_99 (by decide) kz) ?_
    rw [nI_div5 (by omega)]
    refine WQ.st (fun _ _ kz => pw_ald (j := k / 5) dX10_spread_100 sto (ix_n (by omega)) (by omega) kz) ?_
    rw [hT _ (by omega)]
    refine WQ.st (fun _ _ kz => pw_aload0 dX10_spread_101 kz) ?_
    refine WQ.st (fun _ _ kz => pw_getr gX10_32 dX10_spread_102 (cf_s107 hK.cf) h7 kz) ?_
    refine WQ.st (fun _ _ kz => pw_iload3 dX10_spread_105 kz) ?_
    refine WQ.st (fun _ _ kz => pw_ald (j := k) dX10_spread_106 s7 (ix_m rfl (by omega)) (by omega) kz) ?_
    rw [hh0 k (by omega)]
    refine WQ.st (fun _ _ kz => pw_max mmX10_74 dX10_spread_107 (Nat.le_of_ble_eq_true rfl) (by omega) kz) ?_
    refine WQ.st (fun _ _ kz => pw_ast (j := k / 5) dX10_spread_110 sto (ix_n (by omega)) (by omega)  kz) ?_
    refine WQ.st (fun _ _ kz => pw_iinc3 (v := 1) dX10_spread_111 (by decide) (by decide) (k := kz)) ?_
    refine WQ.st (fun _ _ kz => pw_goto (tgt := 77) dX10_spread_114 (by decide) kz) ?_
    rw [nI_1]
    refine ih (k + 1) _ (by omega) (hK.fr (FrK.a (a := to) (by omega))) (fun j hj => by rw [up2_na (by omega)]; exact hh0 j hj) (fun u hu => ?_) (fun x h1 => by rw [up2_na h1]; exact hA x h1)
    rw [up2_at]
    unfold pm_up
    by_cases e : u = k / 5
    · rw [if_pos e, ← e, cv_mx ((mfo_bnd (K := K) (fun l hl => hc _ (by omega))).ok (by omega)) ((hc k (by omega)).ok (by omega)), show min (k + 1 - u * 5) 5 = min (k - u * 5) 5 + 1 by omega, mfo, show u * 5 + min (k - u * 5) 5 = k by omega]
    · rw [if_neg e, hT u hu]
      congr 2
      omega
