set_option maxRecDepth 20000 in
theorem l_desk {G : gT} {S : sS} {P : sP} {B : sB} {Q : sP} {t sl o : Nat} (hF : MF S P o) {x : Nat → Int32} {L T : Nat} (hT : TK x L T = 24) {D : Nat} (hD : 37 ≤ D) {V0 A0 : sV} {x1 : Int32} {Z : Option Value → Ph → Prop} : ∀ (n i : Nat) (F : Nat → Int32) (c : List Int32) (V A : sV), T - i < n → RNF x L o i c F V A → RB T T i c → IVF F c → FRL o V0 A0 V A → (∀ V' A' : sV, RXL x L o T (lpF (TK x L) (TV x L) (TPl x L) T n i F c) V' A' → FRL o V0 A0 V' A' → WQ G D mX12_desk 97 [some (.ref o), some (.int x1), none] [] (t, sl, gh S V' P A' B Q) Z) → WQ G D mX12_desk 70 [some (.ref o), some (.int x1), none] [] (t, sl, gh S V P A B Q) Z := by
  obtain ⟨D, rfl⟩ : ∃ D', D = D' + 1 := ⟨D - 1, by omega⟩
  intro n
  induction n with
  | zero => intro i F c V A hn _ _ _ _ _; omega
  | succ n ih =>
    intro i F c V A hn hN hB hI f0 kf
    rw [lpF] at kf
    refine WQ.st (fun _ _ kz => pw_aload0 dX12_desk_70 kz) ?_
    refine WQ.st (fun _ _ kz => pw_geti gX12_136 dX12_desk_71 hF.1 kz) ?_
    refine WQ.bn (fun _ _ ka kb => pw_if_ne (tgt := 97) dX12_desk_74 (by decide) ka kb) (fun c74 => absurd hN.1.w0 c74) (fun c74 => ?_)
    refine WQ.st (fun _ _ kz => pw_aload0 dX12_desk_77 kz) ?_
    refine WQ.st (fun _ _ kz => pw_geti gX12_118 dX12_desk_78 hF.1 kz) ?_
    refine WQ.st (fun _ _ kz => pw_bipush (v := 24) dX12_desk_81 (by decide) kz) ?_
    refine WQ.br (fun _ _ ka kb => pw_icmp_eq (tgt := 97) dX12_desk_83 (by decide) ka kb) (fun c83 => ?_) (fun c83 => ?_)
    · have c83 := (hN.1.k (k := 24) rfl).mp c83
      rw [if_pos c83] at kf
      exact kf _ _ ⟨hN, hB⟩ f0
    · have c83 : ¬ TK x L i = 24 := fun q => c83 ((hN.1.k (k := 24) rfl).mpr q)
      rw [if_neg c83] at kf
      have hI' := hI
      obtain ⟨⟨q, q4, eq, zq⟩, ⟨p, p5, ep, zp⟩, _⟩ := hI'
      refine WQ.st (fun _ _ kz => pw_aload0 dX12_desk_86 kz) ?_
      refine wq_o0v wX12_readLine lX12_210 rfl dX12_desk_87 hF.1 (c_readLine hF hT hN hB q4 eq zq p5 ep (by omega)) rfl (Nat.le_of_ble_eq_true rfl) (Nat.le_of_ble_eq_true rfl) (fun h87 z87 => ?_)
      obtain ⟨V1, A1, rfl, z1, f1⟩ := z87
      generalize hr : lnF (TK x L) (TV x L) (TPl x L) T i F c = r at *
      cases r with
      | error e =>
        have hw := RXL_err z1
        refine WQ.st (fun _ _ kz => pw_aload0 dX12_desk_90 kz) ?_
        refine wq_o0v wX12_ends lX12_207 rfl dX12_desk_91 hF.1 (c_endsW hF hw (by omega)) rfl (Nat.le_of_ble_eq_true rfl) (Nat.le_of_ble_eq_true rfl) (fun h91 z91 => ?_)
        obtain ⟨A2, rfl, f2⟩ := z91
        refine WQ.st (fun _ _ kz => pw_goto (tgt := 70) dX12_desk_94 (by decide) kz) ?_
        refine WQ.st (fun _ _ kz => pw_aload0 dX12_desk_70 kz) ?_
        refine WQ.st (fun _ _ kz => pw_geti gX12_136 dX12_desk_71 hF.1 kz) ?_
        refine WQ.bn (fun _ _ ka kb => pw_if_ne (tgt := 97) dX12_desk_74 (by decide) ka kb) (fun c74 => ?_) (fun c74 => absurd c74 hw)
        exact kf _ _ z1 ((f0.tr f1).tr f2)
      | ok s =>
        have z1 : RNF x L o s.1 s.2.2 s.2.1 V1 A1 ∧ RB T T s.1 s.2.2 := z1
        have iv := lnF_iv hT (fun i h => TV_b h) hB c83 hI hr
        have lt := lnF_lt hT hB c83 hr
        refine WQ.st (fun _ _ kz => pw_aload0 dX12_desk_90 kz) ?_
        refine wq_o0v wX12_ends lX12_207 rfl dX12_desk_91 hF.1 (c_endsN hF hT z1.1 z1.2 (by omega)) rfl (Nat.le_of_ble_eq_true rfl) (Nat.le_of_ble_eq_true rfl) (fun h91 z91 => ?_)
        obtain ⟨V2, A2, rfl, z2, f2⟩ := z91
        rw [RLn.at_ok] at kf
        have kf := fun V' A' (z : RXL x L o T ((enF (TK x L) (TPl x L) s.1 s.2.1 s.2.2).nx (lpF (TK x L) (TV x L) (TPl x L) T n)) V' A') => kf V' A' z
        generalize hr2 : enF (TK x L) (TPl x L) s.1 s.2.1 s.2.2 = r2 at *
        cases r2 with
        | error e =>
          have hw := RXL_err z2
          refine WQ.st (fun _ _ kz => pw_goto (tgt := 70) dX12_desk_94 (by decide) kz) ?_
          refine WQ.st (fun _ _ kz => pw_aload0 dX12_desk_70 kz) ?_
          refine WQ.st (fun _ _ kz => pw_geti gX12_136 dX12_desk_71 hF.1 kz) ?_
          refine WQ.bn (fun _ _ ka kb => pw_if_ne (tgt := 97) dX12_desk_74 (by decide) ka kb) (fun c74 => ?_) (fun c74 => absurd c74 hw)
          exact kf _ _ z2 ((f0.tr f1).tr f2)
        | ok s2 =>
          have z2 : RNF x L o s2.1 s2.2.2 s2.2.1 V2 A2 ∧ RB T T s2.1 s2.2.2 := z2
          have es := enF_ok hr2
          rw [RLn.at_ok] at kf
          refine WQ.st (fun _ _ kz => pw_goto (tgt := 70) dX12_desk_94 (by decide) kz) ?_
          refine ih s2.1 s2.2.1 s2.2.2 V2 A2 (by have := congrArg Prod.fst es; have := z2.2.1; omega) z2.1 z2.2 ?_ ((f0.tr f1).tr f2) kf
          rw [es]
          exact IVF.li iv _
