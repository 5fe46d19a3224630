/-! ===== the reference: deeds, their notes ===== -/
def nt0 (al : Nat → Int32) : Nat → Int32 := fun i => if 93 ≤ i ∧ i < 93 + 153 then al (i - 93 + 110) else al i
def nt1 (al w : Nat → Int32) (n : Nat) : Nat → Int32 := fun i => if i = 92 then nI (n + 1) else if 93 + 17 * n ≤ i ∧ i < 93 + 17 * n + 17 then w (i - (93 + 17 * n) + 0) else al i
def sp_notes (al w : Nat → Int32) : Nat → Int32 := if al 92 = 10 then nt1 (nt0 al) w 9 else nt1 al w (al 92).toInt.toNat
theorem li_n {x : Int64} (h0 : 0 ≤ x.toInt) (h1 : x.toInt < 2147483648) : x.toInt32 = nI x.toInt.toNat := by
  rw [← Int32.toInt_inj, li_t (by omega), nI_toInt (by omega)]
  omega
theorem isP_t {al : Nat → Int32} {x : Int} (h : isP al x = true) : 0 ≤ x ∧ x < (al 2).toInt := of_decide_eq_true h
theorem isQ_t {al : Nat → Int32} {x : Int} (h : isQ al x = true) : 0 ≤ x ∧ x < (al 1).toInt := of_decide_eq_true h
set_option maxRecDepth 20000 in
theorem l_notes1 {G : gT} {d : Nat} {S : sS} {V : sV} {P : sP} {B : sB} {Q : sP} {t sl o : Nat} (hF : MF S P o)  {A0 : sV} {Z : Option Value → Ph → Prop} (kf : ∀ A : sV, CPY A0 (o + 1) (93) (o + 1) (110) (153) A → WQ G d mX12_notes 45 [some (.ref o), some (.int (nI (153)))] [] (t, sl, gh S V P A B Q) Z) : ∀ (m k : Nat) (A : sV), k + m = 153 → CPY A0 (o + 1) (93) (o + 1) (110) k A → WQ G d mX12_notes 14 [some (.ref o), some (.int (nI k))] [] (t, sl, gh S V P A B Q) Z := by
  intro m
  induction m with
  | zero =>
    intro k A hk hC
    have hk : k = 153 := hk
    subst hk
    refine WQ.st (fun _ _ kz => pw_iload1 dX12_notes_14 kz) ?_
    refine WQ.st (fun _ _ kz => pw_sipush (v := 153) dX12_notes_15 (by decide) kz) ?_
    refine WQ.br (fun _ _ ka kb => pw_icmp_ge (tgt := 45) dX12_notes_18 (by decide) ka kb) (fun c18 => ?_) (fun c18 => absurd (by decide) c18)
    exact kf A hC
  | succ m ih =>
    intro k A hk hC
    have kk := ih (k + 1) _ (by omega) (hC.step (Or.inr (Or.inl (by omega))))
    refine WQ.st (fun _ _ kz => pw_iload1 dX12_notes_14 kz) ?_
    refine WQ.st (fun _ _ kz => pw_sipush (v := 153) dX12_notes_15 (by decide) kz) ?_
    refine WQ.br (fun _ _ ka kb => pw_icmp_ge (tgt := 45) dX12_notes_18 (by decide) ka kb) (fun c18 => absurd c18 (by rw [le_i li_153 (ix_n (j := k) (by omega))]; omega)) (fun c18 => ?_)
    refine WQ.st (fun _ _ kz => pw_aload0 dX12_notes_21 kz) ?_
    refine WQ.st (fun _ _ kz => pw_getr gX12_13 dX12_notes_22 hF.1 (mf_p1 hF) kz) ?_
    refine WQ.st (fun _ _ kz => pw_bipush (v := 93) dX12_notes_25 (by decide) kz) ?_
    refine WQ.st (fun _ _ kz => pw_iload1 dX12_notes_27 kz) ?_
    refine WQ.st (fun _ _ kz => pw_iadd dX12_notes_28 kz) ?_
    refine WQ.st (fun _ _ kz => pw_aload0 dX12_notes_29 kz) ?_
    refine WQ.st (fun _ _ kz => pw_getr gX12_13 dX12_notes_30 hF.1 (mf_p1 hF) kz) ?_
    refine WQ.st (fun _ _ kz => pw_bipush (v := 110) dX12_notes_33 (by decide) kz) ?_
    refine WQ.st (fun _ _ kz => pw_iload1 dX12_notes_35 kz) ?_
    refine WQ.st (fun _ _ kz => pw_iadd dX12_notes_36 kz) ?_
    refine WQ.st (fun _ _ kz => pw_ald (j := 110 + k) dX12_notes_37 (mf_s1 hF) (by simp (disch := omega) only [nl_110, nI_add, pk_mul, pk_sub]; exact ix_m (by omega) (by omega)) (by omega) kz) ?_
    refine WQ.st (fun _ _ kz => pw_ast (j := 93 + k) dX12_notes_38 (mf_s1 hF) (by simp (disch := omega) only [nl_93, nI_add, pk_mul, pk_sub]; exact ix_m (by omega) (by omega)) (by omega)  kz) ?_
    refine WQ.st (fun _ _ kz => pw_iinc1 (v := 1) dX12_notes_39 (by decide) (by decide) (k := kz)) ?_
    refine WQ.st (fun _ _ kz => pw_goto (tgt := 14) dX12_notes_42 (by decide) kz) ?_
    rw [nI_1]
    exact kk
set_option maxRecDepth 20000 in
theorem l_notes2 {G : gT} {d : Nat} {S : sS} {V : sV} {P : sP} {B : sB} {Q : sP} {t sl o : Nat} (hF : MF S P o) {n : Nat} (hn9 : n ≤ 9) {A0 : sV} (hn : A0 (o + 1) 92 = nI n) {Z : Option Value → Ph → Prop} (kf : ∀ A : sV, CPY A0 (o + 1) (93 + 17 * n) (o + 11) (0) (17) A → WQ G d mX12_notes 96 [some (.ref o), some (.int (nI (17)))] [] (t, sl, gh S V P A B Q) Z) : ∀ (m k : Nat) (A : sV), k + m = 17 → CPY A0 (o + 1) (93 + 17 * n) (o + 11) (0) k A → WQ G d mX12_notes 58 [some (.ref o), some (.int (nI k))] [] (t, sl, gh S V P A B Q) Z := by
  intro m
  induction m with
  | zero =>
    intro k A hk hC
    have hk : k = 17 := hk
    subst hk
    have e92 : A (o + 1) 92 = nI n := by rw [hC.2, if_neg (by omega)]; exact hn
    refine WQ.st (fun _ _ kz => pw_iload1 dX12_notes_58 kz) ?_
    refine WQ.st (fun _ _ kz => pw_bipush (v := 17) dX12_notes_59 (by decide) kz) ?_
    refine WQ.br (fun _ _ ka kb => pw_icmp_ge (tgt := 96) dX12_notes_61 (by decide) ka kb) (fun c61 => ?_) (fun c61 => absurd (by decide) c61)
    exact kf A hC
  | succ m ih =>
    intro k A hk hC
    have kk := ih (k + 1) _ (by omega) (hC.step (Or.inl (by omega)))
    have e92 : A (o + 1) 92 = nI n := by rw [hC.2, if_neg (by omega)]; exact hn
    refine WQ.st (fun _ _ kz => pw_iload1 dX12_notes_58 kz) ?_
    refine WQ.st (fun _ _ kz => pw_bipush (v := 17) dX12_notes_59 (by decide) kz) ?_
    refine WQ.br (fun _ _ ka kb => pw_icmp_ge (tgt := 96) dX12_notes_61 (by decide) ka kb) (fun c61 => absurd c61 (by rw [le_i li_17 (ix_n (j := k) (by omega))]; omega)) (fun c61 => ?_)
    refine WQ.st (fun _ _ kz => pw_aload0 dX12_notes_64 kz) ?_
    refine WQ.st (fun _ _ kz => pw_getr gX12_13 dX12_notes_65 hF.1 (mf_p1 hF) kz) ?_
    refine WQ.st (fun _ _ kz => pw_bipush (v := 93) dX12_notes_68 (by decide) kz) ?_
    refine WQ.st (fun _ _ kz => pw_bipush (v := 17) dX12_notes_70 (by decide) kz) ?_
    refine WQ.st (fun _ _ kz => pw_aload0 dX12_notes_72 kz) ?_
    refine WQ.st (fun _ _ kz => pw_getr gX12_13 dX12_notes_73 hF.1 (mf_p1 hF) kz) ?_
    refine WQ.st (fun _ _ kz => pw_bipush (v := 92) dX12_notes_76 (by decide) kz) ?_
    refine WQ.st (fun _ _ kz => pw_ald (j := 92) dX12_notes_78 (mf_s1 hF) rfl (by omega) kz) ?_
    rw [e92]
    refine WQ.st (fun _ _ kz => pw_imul dX12_notes_79 kz) ?_
    refine WQ.st (fun _ _ kz => pw_iadd dX12_notes_80 kz) ?_
    refine WQ.st (fun _ _ kz => pw_iload1 dX12_notes_81 kz) ?_
    refine WQ.st (fun _ _ kz => pw_iadd dX12_notes_82 kz) ?_
    refine WQ.st (fun _ _ kz => pw_aload0 dX12_notes_83 kz) ?_
    refine WQ.st (fun _ _ kz => pw_getr gX12_48 dX12_notes_84 hF.1 (mf_p25 hF) kz) ?_
    refine WQ.st (fun _ _ kz => pw_iload1 dX12_notes_87 kz) ?_
    refine WQ.st (fun _ _ kz => pw_ald (j := 0 + k) dX12_notes_88 (mf_s11 hF) (ix_m (by omega) (by omega)) (by omega) kz) ?_
    refine WQ.st (fun _ _ kz => pw_ast (j := (93 + (17 * n)) + k) dX12_notes_89 (mf_s1 hF) (by simp (disch := omega) only [nl_17, nl_93, nI_add, pk_mul, pk_sub]; exact ix_m (by omega) (by omega)) (by omega)  kz) ?_
    refine WQ.st (fun _ _ kz => pw_iinc1 (v := 1) dX12_notes_90 (by decide) (by decide) (k := kz)) ?_
    refine WQ.st (fun _ _ kz => pw_goto (tgt := 58) dX12_notes_93 (by decide) kz) ?_
    rw [nI_1]
    exact kk
set_option maxRecDepth 20000 in
theorem c_notes0 {G : gT} {d : Nat} {S : sS} {V : sV} {P : sP} {A : sV} {B : sB} {Q : sP} {t sl o : Nat} (hF : MF S P o) {n : Nat} (hn9 : n ≤ 9) (hn : A (o + 1) 92 = nI n) {x1 : Option Value} : WQ G d mX12_notes 56 [some (.ref o), x1] [] (t, sl, gh S V P A B Q) (fun r h' => r = none ∧ ∃ A' : sV, h' = (t, sl, gh S V P A' B Q) ∧ (∀ a, a ≠ o + 1 → A' a = A a) ∧ ∀ j, A' (o + 1) j = nt1 (A (o + 1)) (A (o + 11)) n j) := by
  refine WQ.st (fun _ _ kz => pw_iconst (v := 0) dX12_notes_56 (by decide) kz) ?_
  refine WQ.st (fun _ _ kz => pw_istore1 dX12_notes_57 (by decide) (k := kz)) ?_
  exact l_notes2 (G := G) (V := V) (B := B) (Q := Q) (t := t) (sl := sl) (d := d) hF hn9 hn (fun A1 hC => by
    have e92 : A1 (o + 1) 92 = nI n := by rw [hC.2, if_neg (by omega)]; exact hn
    refine WQ.st (fun _ _ kz => pw_aload0 dX12_notes_96 kz) ?_
    refine WQ.st (fun _ _ kz => pw_getr gX12_13 dX12_notes_97 hF.1 (mf_p1 hF) kz) ?_
    refine WQ.st (fun _ _ kz => pw_bipush (v := 92) dX12_notes_100 (by decide) kz) ?_
    refine WQ.st (fun _ _ kz => pw_dup2_11 dX12_notes_102 rfl rfl kz) ?_
    refine WQ.st (fun _ _ kz => pw_ald (j := 92) dX12_notes_103 (mf_s1 hF) rfl (by omega) kz) ?_
    rw [e92]
    refine WQ.st (fun _ _ kz => pw_iconst (v := 1) dX12_notes_104 (by decide) kz) ?_
    refine WQ.st (fun _ _ kz => pw_iadd dX12_notes_105 kz) ?_
    rw [nI_1]
    refine WQ.st (fun _ _ kz => pw_ast (j := 92) dX12_notes_106 (mf_s1 hF) rfl (by omega)  kz) ?_
    refine ⟨_, _, pw_vret dX12_notes_107 rfl rfl rfl, ?_⟩
    refine ⟨rfl, _, rfl, fun a ha => by rw [up2_na ha, hC.1 a ha], fun j => ?_⟩
    rw [up2_at]
    unfold pm_up nt1
    by_cases e : j = 92
    · rw [if_pos e, if_pos e]
    · rw [if_neg e, if_neg e, hC.2]) 17 0 A rfl (CPY.zero _ _ _ _ _)
theorem nI_ofI {x : Int32} (h : 0 ≤ x.toInt) : x = nI x.toInt.toNat := by
  have h2 := Int32.toInt_lt x
  rw [← Int32.toInt_inj, nI_toInt (by omega)]
  omega
set_option maxRecDepth 20000 in
theorem c_notes {G : gT} {d : Nat} {S : sS} {V : sV} {P : sP} {A : sV} {B : sB} {Q : sP} {t sl o : Nat} (hF : MF S P o) (h92 : 0 ≤ (A (o + 1) 92).toInt ∧ (A (o + 1) 92).toInt ≤ 10) : WQ G d mX12_notes 0 [some (.ref o), none] [] (t, sl, gh S V P A B Q) (fun r h' => r = none ∧ ∃ A' : sV, h' = (t, sl, gh S V P A' B Q) ∧ (∀ a, a ≠ o + 1 → A' a = A a) ∧ ∀ j, A' (o + 1) j = sp_notes (A (o + 1)) (A (o + 11)) j) := by
  refine WQ.st (fun _ _ kz => pw_aload0 dX12_notes_0 kz) ?_
  refine WQ.st (fun _ _ kz => pw_getr gX12_13 dX12_notes_1 hF.1 (mf_p1 hF) kz) ?_
  refine WQ.st (fun _ _ kz => pw_bipush (v := 92) dX12_notes_4 (by decide) kz) ?_
  refine WQ.st (fun _ _ kz => pw_ald (j := 92) dX12_notes_6 (mf_s1 hF) rfl (by omega) kz) ?_
  refine WQ.st (fun _ _ kz => pw_bipush (v := 10) dX12_notes_7 (by decide) kz) ?_
  refine WQ.bn (fun _ _ ka kb => pw_icmp_ne (tgt := 56) dX12_notes_9 (by decide) ka kb) (fun c9 => ?_) (fun c9 => ?_)
  · have hlt : (A (o + 1) 92).toInt ≤ 9 := by
      have := i32_ne (z := 10) rfl c9
      omega
    have e92 := nI_ofI h92.1
    refine (c_notes0 (G := G) (d := d) hF (n := (A (o + 1) 92).toInt.toNat) (by omega) e92).imp (fun r h' z => ?_)
    obtain ⟨z1, A', z2, z3, z4⟩ := z
    refine ⟨z1, A', z2, z3, fun j => ?_⟩
    rw [z4 j]
    unfold sp_notes
    rw [if_neg c9]
    
  · refine WQ.st (fun _ _ kz => pw_iconst (v := 0) dX12_notes_12 (by decide) kz) ?_
    refine WQ.st (fun _ _ kz => pw_istore1 dX12_notes_13 (by decide) (k := kz)) ?_
    exact l_notes1 (G := G) (V := V) (B := B) (Q := Q) (t := t) (sl := sl) (d := d) hF (fun A1 hC => by
      have e92 : A1 (o + 1) 92 = 10 := by rw [hC.2, if_neg (by omega)]; exact c9
      refine WQ.st (fun _ _ kz => pw_aload0 dX12_notes_45 kz) ?_
      refine WQ.st (fun _ _ kz => pw_getr gX12_13 dX12_notes_46 hF.1 (mf_p1 hF) kz) ?_
      refine WQ.st (fun _ _ kz => pw_bipush (v := 92) dX12_notes_49 (by decide) kz) ?_
      refine WQ.st (fun _ _ kz => pw_dup2_11 dX12_notes_51 rfl rfl kz) ?_
      refine WQ.st (fun _ _ kz => pw_ald (j := 92) dX12_notes_52 (mf_s1 hF) rfl (by omega) kz) ?_
      rw [e92]
      refine WQ.st (fun _ _ kz => pw_iconst (v := 1) dX12_notes_53 (by decide) kz) ?_
      refine WQ.st (fun _ _ kz => pw_isub dX12_notes_54 kz) ?_
      rw [show (10 : Int32) - 1 = nI 9 from rfl]
      refine WQ.st (fun _ _ kz => pw_ast (j := 92) dX12_notes_55 (mf_s1 hF) rfl (by omega)  kz) ?_
      have k0 := c_notes0 (G := G) (d := d) (S := S) (V := V) (P := P) (B := B) (Q := Q) (t := t) (sl := sl) (A := up2 A1 (o + 1) 92 (nI 9)) (x1 := some (.int (nI 153))) hF (n := 9) (by omega) up2_eq
      refine k0.imp (fun r h' z => ?_)
      obtain ⟨z1, A', z2, z3, z4⟩ := z
      refine ⟨z1, A', z2, fun a ha => by rw [z3 a ha, up2_na ha, hC.1 a ha], fun j => ?_⟩
      rw [z4 j]
      unfold sp_notes
      rw [if_pos c9]
      unfold nt1
      by_cases e : j = 92
      · rw [if_pos e, if_pos e]
      · rw [if_neg e, if_neg e]
        by_cases e2 : 93 + 17 * 9 ≤ j ∧ j < 93 + 17 * 9 + 17
        · rw [if_pos e2, if_pos e2, up2_na (by omega), hC.1 _ (by omega)]
        · rw [if_neg e2, if_neg e2, up2_at, pm_up_ne e, hC.2]
          rfl) 153 0 A rfl (CPY.zero _ _ _ _ _)
def sp_wp (al : Nat → Int32) (x y : Int) : Int32 := if isP al x && isQ al y then (if brd (al 75).toInt x.toNat then 2 else 0) else 1
set_option maxRecDepth 20000 in
theorem c_whyPlay {G : gT} {d : Nat} {S : sS} {V : sV} {P : sP} {A : sV} {B : sB} {Q : sP} {t sl o : Nat} (hF : MF S P o) (hD : DV (A (o + 1))) (x y : Int64) : WQ G (d + 2) mX12_whyPlay 0 [some (.ref o), some (.long x), none, some (.long y), none] [] (t, sl, gh S V P A B Q) (fun r h' => r = some (.int (sp_wp (A (o + 1)) x.toInt y.toInt)) ∧ h' = (t, sl, gh S V P A B Q)) := by
  refine WQ.st (fun _ _ kz => pw_aload0 dX12_whyPlay_0 kz) ?_
  refine WQ.st (fun _ _ kz => pw_lload1 dX12_whyPlay_1 kz) ?_
  refine WQ.st (fun _ _ kz => pw_o1i wX12_isPlayer lX12_244 rfl dX12_whyPlay_2 hF.1 (c_isPlayer hF hD _) rfl (Nat.le_of_ble_eq_true rfl) (Nat.le_of_ble_eq_true rfl) kz) ?_
  refine WQ.br (fun _ _ ka kb => pw_if_eq (tgt := 16) dX12_whyPlay_5 (by decide) ka kb) (fun c5 => ?_) (fun c5 => ?_)
  · rw [bI_0] at c5
    refine WQ.st (fun _ _ kz => pw_iconst (v := 1) dX12_whyPlay_16 (by decide) kz) ?_
    refine WQ.st (fun _ _ kz => pw_goto (tgt := 41) dX12_whyPlay_17 (by decide) kz) ?_
    refine ⟨_, _, pw_iret dX12_whyPlay_41 rfl rfl rfl rfl, ?_⟩
    exact ⟨rI (by unfold sp_wp; rw [c5]; rfl), rfl⟩
  · rw [bI_n] at c5
    refine WQ.st (fun _ _ kz => pw_aload0 dX12_whyPlay_8 kz) ?_
    refine WQ.st (fun _ _ kz => pw_lload3 dX12_whyPlay_9 kz) ?_
    refine WQ.st (fun _ _ kz => pw_o1i wX12_isPiece lX12_248 rfl dX12_whyPlay_10 hF.1 (c_isPiece hF hD _) rfl (Nat.le_of_ble_eq_true rfl) (Nat.le_of_ble_eq_true rfl) kz) ?_
    refine WQ.bn (fun _ _ ka kb => pw_if_ne (tgt := 20) dX12_whyPlay_13 (by decide) ka kb) (fun c13 => ?_) (fun c13 => ?_)
    · rw [bI_n] at c13
      refine WQ.st (fun _ _ kz => pw_aload0 dX12_whyPlay_20 kz) ?_
      refine WQ.st (fun _ _ kz => pw_getr gX12_13 dX12_whyPlay_21 hF.1 (mf_p1 hF) kz) ?_
      refine WQ.st (fun _ _ kz => pw_bipush (v := 75) dX12_whyPlay_24 (by decide) kz) ?_
      refine WQ.st (fun _ _ kz => pw_ald (j := 75) dX12_whyPlay_26 (mf_s1 hF) rfl (by omega) kz) ?_
      refine WQ.st (fun _ _ kz => pw_i2l dX12_whyPlay_27 kz) ?_
      refine WQ.st (fun _ _ kz => pw_lload1 dX12_whyPlay_28 kz) ?_
      refine WQ.st (fun _ _ kz => pw_l2i dX12_whyPlay_29 kz) ?_
      rw [li_n (by have := isP_t c5; omega) (by have := isP_t c5; have := hD.p5; omega)]
      refine WQ.st (fun _ _ kz => pw_s2i wX12_isIn lX12_315 dX12_whyPlay_30 (c_isIn _ _) rfl (Nat.le_of_ble_eq_true rfl) (Nat.le_of_ble_eq_true rfl) kz) ?_
      rw [brd_64 _ (by have := isP_t c5; have := hD.p5; omega), il_t]
      refine WQ.br (fun _ _ ka kb => pw_if_eq (tgt := 40) dX12_whyPlay_33 (by decide) ka kb) (fun c33 => ?_) (fun c33 => ?_)
      · rw [bI_0] at c33
        refine WQ.st (fun _ _ kz => pw_iconst (v := 0) dX12_whyPlay_40 (by decide) kz) ?_
        refine ⟨_, _, pw_iret dX12_whyPlay_41 rfl rfl rfl rfl, ?_⟩
        exact ⟨rI (by unfold sp_wp; rw [c5, c13, c33]; rfl), rfl⟩
      · rw [bI_n] at c33
        refine WQ.st (fun _ _ kz => pw_iconst (v := 2) dX12_whyPlay_36 (by decide) kz) ?_
        refine WQ.st (fun _ _ kz => pw_goto (tgt := 41) dX12_whyPlay_37 (by decide) kz) ?_
        refine ⟨_, _, pw_iret dX12_whyPlay_41 rfl rfl rfl rfl, ?_⟩
        exact ⟨rI (by unfold sp_wp; rw [c5, c13, c33]; rfl), rfl⟩
    · rw [bI_0] at c13
      refine WQ.st (fun _ _ kz => pw_iconst (v := 1) dX12_whyPlay_16 (by decide) kz) ?_
      refine WQ.st (fun _ _ kz => pw_goto (tgt := 41) dX12_whyPlay_17 (by decide) kz) ?_
      refine ⟨_, _, pw_iret dX12_whyPlay_41 rfl rfl rfl rfl, ?_⟩
      exact ⟨rI (by unfold sp_wp; rw [c5, c13]; rfl), rfl⟩
