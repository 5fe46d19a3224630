set_option maxRecDepth 20000 in
theorem l_spare {G : gT} {d : Nat} {S : sS} {V : sV} {P : sP} {A : sV} {B : sB} {Q : sP} {t sl : Nat} {al : Nat → Int32} {W : WT} {sh ls : Nat} (hI : CI S V P A B Q t al W sh ls) : ∀ (m i : Nat), i + m = 4 → (∀ j, j < i → ∃ v, Q 15 j = some v ∧ (v = sh ∨ Q 66 0 = some v ∨ Q 66 1 = some v)) → ∀ y : Option Value, WQ G (d + 4) mX11_spareSheet 2 [some (.ref 8), some (.int (nI i)), y] [] (t, sl, gh S V P A B Q) (fun r h' => ∃ u, r = some (.ref u) ∧ SPZ S V P A B Q t sl al W sh ls u h') := by
  have hC := hI.de.dc.ka.cf
  have ht := hI.de.dc.ka.st
  have hsa := hI.de.dc.ka.sa
  have ss := hI.re.ss
  have hp84 := ss.1
  have imt : ∀ i, i < 2 → ∀ a, Q 66 i = some a → a + 8 < t ∧ 8 ≤ a := by
    intro i hi a ha
    rcases hI.re.im.2 i hi with ⟨_, g⟩ | ⟨_, u, g, ⟨j, hj, g2⟩, _⟩
    · rw [g] at ha; cases ha
    · rw [g] at ha
      have hua : u = a := Option.some.inj ha
      have := ss.2.2.1 j u hj g2
      rw [← hua]
      exact ⟨this.2.2, by omega⟩
  intro m
  induction m with
  | zero =>
    intro i hi hb
    exact absurd (pig ss (fun j hj => hb j (by omega))) (fun q => q)
  | succ m ih =>
    intro i hm hb y
    have hi : i < 4 := by omega
    refine WQ.st (fun _ _ kz => pw_iload1 dX11_spareSheet_2 kz) ?_
    refine WQ.st (fun _ _ kz => pw_aload0 dX11_spareSheet_3 kz) ?_
    refine WQ.st (fun _ _ kz => pw_getr gX11_28 dX11_spareSheet_4 (cf_s8 hC) (cf_p8_3 hC) kz) ?_
    refine WQ.st (fun _ _ kz => pw_len dX11_spareSheet_7 (cf_s15 hC) (by decide) kz) ?_
    refine WQ.br (fun _ _ ka kb => pw_icmp_ge (tgt := 76) dX11_spareSheet_8 (by decide) ka kb) (fun c8 => absurd c8 (by rw [le_i (show (Int32.ofNat 4).toInt = 4 from rfl) (ix_n (by omega))]; omega)) (fun c8 => ?_)
    refine WQ.st (fun _ _ kz => pw_aload0 dX11_spareSheet_11 kz) ?_
    refine WQ.st (fun _ _ kz => pw_getr gX11_28 dX11_spareSheet_12 (cf_s8 hC) (cf_p8_3 hC) kz) ?_
    refine WQ.st (fun _ _ kz => pw_iload1 dX11_spareSheet_15 kz) ?_
    cases hv : Q 15 i with
    | none =>
      have im8 : ∀ k, k < 2 → ∀ a, up2 Q 15 i (some t) 66 k = some a → 8 ≤ a := fun k hk a h => by rw [up2_na (by omega)] at h; exact (imt k hk a h).2
      refine WQ.st (fun _ _ kz => pw_qld (j := i) dX11_spareSheet_16 (cf_s15 hC) (by decide) (ix_n (by omega)) (by omega) kz) ?_
      rw [hv]
      refine WQ.st (fun _ _ kz => pw_ifnonnullN dX11_spareSheet_17 kz) ?_
      refine WQ.st (fun _ _ kz => pw_aload0 dX11_spareSheet_20 kz) ?_
      refine WQ.st (fun _ _ kz => pw_getr gX11_28 dX11_spareSheet_21 (cf_s8 hC) (cf_p8_3 hC) kz) ?_
      refine WQ.st (fun _ _ kz => pw_iload1 dX11_spareSheet_24 kz) ?_
      refine WQ.st (fun _ _ kz => pw_nao nX11_26 (by decide) (by decide +kernel) dX11_spareSheet_25 kz) ?_
      refine WQ.st (fun _ _ kz => pw_dup dX11_spareSheet_28 rfl kz) ?_
      refine wq_n0 wX7_init lX11_70 dX11_spareSheet_29 (k_iSheet (a := t) pm_up_eq) rfl (Nat.le_of_ble_eq_true rfl) (Nat.le_of_ble_eq_true rfl) (fun h29 z29 => ?_)
      obtain ⟨S1, V1, P1, A1, rfl, hs1, fr1, -⟩ := z29
      have fr : ∀ x, x < t → S1 x = S x ∧ V1 x = V x ∧ P1 x = P x ∧ A1 x = A x := by
        intro x hx
        obtain ⟨g1, g2, g3, g4⟩ := fr1 x hx
        rw [pm_up_ne (by omega)] at g1 g2 g3
        exact ⟨g1, g2, g3, g4⟩
      have hI1 := hI.grow hi hv hs1 fr
      have hQ1 : up2 Q 15 i (some t) 15 i = some t := up2_eq
      have hC := hI1.de.dc.ka.cf
      have hp84 := hI1.re.ss.1
      refine WQ.st (fun _ _ kz => pw_qst (j := i) dX11_spareSheet_32 (cf_s15 hC) (by decide) (sh_s0 hs1) rfl (fun _ => rfl) (ix_n (by omega)) (by omega) kz) ?_
      refine WQ.st (fun _ _ kz => pw_aload0 dX11_spareSheet_33 kz) ?_
      refine WQ.st (fun _ _ kz => pw_getr gX11_28 dX11_spareSheet_34 (cf_s8 hC) (cf_p8_3 hC) kz) ?_
      refine WQ.st (fun _ _ kz => pw_iload1 dX11_spareSheet_37 kz) ?_
      refine WQ.st (fun _ _ kz => pw_qldr (j := i) dX11_spareSheet_38 (cf_s15 hC) (by decide) (ix_n (by omega)) (by omega) hQ1 kz) ?_
      refine WQ.st (fun _ _ kz => pw_astore2 dX11_spareSheet_39 (by decide) (k := kz)) ?_
      refine WQ.st (fun _ _ kz => pw_aload2 dX11_spareSheet_40 kz) ?_
      refine WQ.st (fun _ _ kz => pw_aload0 dX11_spareSheet_41 kz) ?_
      refine WQ.st (fun _ _ kz => pw_getr gX11_71 dX11_spareSheet_42 (cf_s8 hC) hp84 kz) ?_
      refine WQ.br (fun _ _ ka kb => pw_acmp_eq (rx := some (t)) (ry := some sh) (tgt := 70) dX11_spareSheet_45 (by decide) (fun a h => by cases h; omega) (fun a h => by cases h; omega) ka kb) (fun c45 => ?_) (fun c45 => ?_)
      · exact absurd (Option.some.inj c45) (by omega)
      refine WQ.st (fun _ _ kz => pw_aload2 dX11_spareSheet_48 kz) ?_
      refine WQ.st (fun _ _ kz => pw_aload0 dX11_spareSheet_49 kz) ?_
      refine WQ.st (fun _ _ kz => pw_getr gX11_49 dX11_spareSheet_50 (cf_s8 hC) (cf_p8_8 hC) kz) ?_
      refine WQ.st (fun _ _ kz => pw_iconst (v := 0) dX11_spareSheet_53 (by decide) kz) ?_
      refine WQ.st (fun _ _ kz => pw_qld (j := 0) dX11_spareSheet_54 (cf_s66 hC) (by decide) rfl (by omega) kz) ?_
      refine WQ.br (fun _ _ ka kb => pw_acmp_eq (rx := some (t)) (ry := (up2 Q 15 i (some t)) 66 0) (tgt := 70) dX11_spareSheet_55 (by decide) (fun a h => by cases h; omega) (fun a h => im8 0 (by omega) a h) ka kb) (fun c55 => ?_) (fun c55 => ?_)
      · rw [up2_na (by omega)] at c55; exact absurd (imt 0 (by omega) t c55.symm) (by omega)
      refine WQ.st (fun _ _ kz => pw_aload2 dX11_spareSheet_58 kz) ?_
      refine WQ.st (fun _ _ kz => pw_aload0 dX11_spareSheet_59 kz) ?_
      refine WQ.st (fun _ _ kz => pw_getr gX11_49 dX11_spareSheet_60 (cf_s8 hC) (cf_p8_8 hC) kz) ?_
      refine WQ.st (fun _ _ kz => pw_iconst (v := 1) dX11_spareSheet_63 (by decide) kz) ?_
      refine WQ.st (fun _ _ kz => pw_qld (j := 1) dX11_spareSheet_64 (cf_s66 hC) (by decide) rfl (by omega) kz) ?_
      refine WQ.br (fun _ _ ka kb => pw_acmp_eq (rx := some (t)) (ry := (up2 Q 15 i (some t)) 66 1) (tgt := 70) dX11_spareSheet_65 (by decide) (fun a h => by cases h; omega) (fun a h => im8 1 (by omega) a h) ka kb) (fun c65 => ?_) (fun c65 => ?_)
      · rw [up2_na (by omega)] at c65; exact absurd (imt 1 (by omega) t c65.symm) (by omega)
      refine WQ.st (fun _ _ kz => pw_aload2 dX11_spareSheet_68 kz) ?_
      refine ⟨_, _, pw_aret dX11_spareSheet_69 rfl (Or.inl ⟨_, rfl⟩) rfl rfl, ?_⟩
      exact ⟨t, rfl, t + 9, sl + 1878, S1, V1, P1, A1, up2 Q 15 i (some t), rfl, hI1, ⟨i, hi, up2_eq⟩, by omega, by rw [up2_na (by omega)]; exact fun e => absurd (imt 0 (by omega) t e) (by omega), by rw [up2_na (by omega)]; exact fun e => absurd (imt 1 (by omega) t e) (by omega), ⟨by omega, fun x hx => (fr x hx).1, fun x h1 h2 => ⟨(fr x (by omega)).2.1, (fr x (by omega)).2.2.1, (fr x (by omega)).2.2.2, rfl⟩⟩, ⟨(fr 8 (by omega)).2.1, (fr 9 (by omega)).2.2.2⟩, fun k1 k2 h => h.sheet (fun q hq c hc => (fr c ((hI.de.dc.ka.ba.2.2.2.2.2.2.1 q hq).1 c hc).1.2).1) (up2_na (by omega))⟩
    | some v =>
      have hvt := (ss.2.2.1 i v hi hv).2
      have im8 : ∀ k, k < 2 → ∀ a, Q 66 k = some a → 8 ≤ a := fun k hk a h => (imt k hk a h).2
      refine WQ.st (fun _ _ kz => pw_qldr (j := i) dX11_spareSheet_16 (cf_s15 hC) (by decide) (ix_n (by omega)) (by omega) hv kz) ?_
      refine WQ.st (fun _ _ kz => pw_ifnonnull (tgt := 33) dX11_spareSheet_17 (by decide) kz) ?_
      refine WQ.st (fun _ _ kz => pw_aload0 dX11_spareSheet_33 kz) ?_
      refine WQ.st (fun _ _ kz => pw_getr gX11_28 dX11_spareSheet_34 (cf_s8 hC) (cf_p8_3 hC) kz) ?_
      refine WQ.st (fun _ _ kz => pw_iload1 dX11_spareSheet_37 kz) ?_
      refine WQ.st (fun _ _ kz => pw_qldr (j := i) dX11_spareSheet_38 (cf_s15 hC) (by decide) (ix_n (by omega)) (by omega) hv kz) ?_
      refine WQ.st (fun _ _ kz => pw_astore2 dX11_spareSheet_39 (by decide) (k := kz)) ?_
      refine WQ.st (fun _ _ kz => pw_aload2 dX11_spareSheet_40 kz) ?_
      refine WQ.st (fun _ _ kz => pw_aload0 dX11_spareSheet_41 kz) ?_
      refine WQ.st (fun _ _ kz => pw_getr gX11_71 dX11_spareSheet_42 (cf_s8 hC) hp84 kz) ?_
      refine WQ.br (fun _ _ ka kb => pw_acmp_eq (rx := some (v)) (ry := some sh) (tgt := 70) dX11_spareSheet_45 (by decide) (fun a h => by cases h; omega) (fun a h => by cases h; omega) ka kb) (fun c45 => ?_) (fun c45 => ?_)
      · refine WQ.st (fun _ _ kz => pw_iinc1 (v := 1) dX11_spareSheet_70 (by decide) (by decide) (k := kz)) ?_
        refine WQ.st (fun _ _ kz => pw_goto (tgt := 2) dX11_spareSheet_73 (by decide) kz) ?_
        show WQ G (d + 4) mX11_spareSheet 2 [some (.ref 8), some (.int (nI i + 1)), some (.ref v)] [] _ _
        rw [nI_1]
        refine ih (i + 1) (by omega) (fun j hj => ?_) _
        by_cases e : j = i
        · subst e
          exact ⟨v, hv, Or.inl (Option.some.inj c45)⟩
        · exact hb j (by omega)
      refine WQ.st (fun _ _ kz => pw_aload2 dX11_spareSheet_48 kz) ?_
      refine WQ.st (fun _ _ kz => pw_aload0 dX11_spareSheet_49 kz) ?_
      refine WQ.st (fun _ _ kz => pw_getr gX11_49 dX11_spareSheet_50 (cf_s8 hC) (cf_p8_8 hC) kz) ?_
      refine WQ.st (fun _ _ kz => pw_iconst (v := 0) dX11_spareSheet_53 (by decide) kz) ?_
      refine WQ.st (fun _ _ kz => pw_qld (j := 0) dX11_spareSheet_54 (cf_s66 hC) (by decide) rfl (by omega) kz) ?_
      refine WQ.br (fun _ _ ka kb => pw_acmp_eq (rx := some (v)) (ry := Q 66 0) (tgt := 70) dX11_spareSheet_55 (by decide) (fun a h => by cases h; omega) (fun a h => im8 0 (by omega) a h) ka kb) (fun c55 => ?_) (fun c55 => ?_)
      · refine WQ.st (fun _ _ kz => pw_iinc1 (v := 1) dX11_spareSheet_70 (by decide) (by decide) (k := kz)) ?_
        refine WQ.st (fun _ _ kz => pw_goto (tgt := 2) dX11_spareSheet_73 (by decide) kz) ?_
        show WQ G (d + 4) mX11_spareSheet 2 [some (.ref 8), some (.int (nI i + 1)), some (.ref v)] [] _ _
        rw [nI_1]
        refine ih (i + 1) (by omega) (fun j hj => ?_) _
        by_cases e : j = i
        · subst e
          exact ⟨v, hv, Or.inr (Or.inl c55.symm)⟩
        · exact hb j (by omega)
      refine WQ.st (fun _ _ kz => pw_aload2 dX11_spareSheet_58 kz) ?_
      refine WQ.st (fun _ _ kz => pw_aload0 dX11_spareSheet_59 kz) ?_
      refine WQ.st (fun _ _ kz => pw_getr gX11_49 dX11_spareSheet_60 (cf_s8 hC) (cf_p8_8 hC) kz) ?_
      refine WQ.st (fun _ _ kz => pw_iconst (v := 1) dX11_spareSheet_63 (by decide) kz) ?_
      refine WQ.st (fun _ _ kz => pw_qld (j := 1) dX11_spareSheet_64 (cf_s66 hC) (by decide) rfl (by omega) kz) ?_
      refine WQ.br (fun _ _ ka kb => pw_acmp_eq (rx := some (v)) (ry := Q 66 1) (tgt := 70) dX11_spareSheet_65 (by decide) (fun a h => by cases h; omega) (fun a h => im8 1 (by omega) a h) ka kb) (fun c65 => ?_) (fun c65 => ?_)
      · refine WQ.st (fun _ _ kz => pw_iinc1 (v := 1) dX11_spareSheet_70 (by decide) (by decide) (k := kz)) ?_
        refine WQ.st (fun _ _ kz => pw_goto (tgt := 2) dX11_spareSheet_73 (by decide) kz) ?_
        show WQ G (d + 4) mX11_spareSheet 2 [some (.ref 8), some (.int (nI i + 1)), some (.ref v)] [] _ _
        rw [nI_1]
        refine ih (i + 1) (by omega) (fun j hj => ?_) _
        by_cases e : j = i
        · subst e
          exact ⟨v, hv, Or.inr (Or.inr c65.symm)⟩
        · exact hb j (by omega)
      refine WQ.st (fun _ _ kz => pw_aload2 dX11_spareSheet_68 kz) ?_
      refine ⟨_, _, pw_aret dX11_spareSheet_69 rfl (Or.inl ⟨_, rfl⟩) rfl rfl, ?_⟩
      exact ⟨v, rfl, t, sl, S, V, P, A, Q, rfl, hI, ⟨i, hi, hv⟩, fun e => c45 (by rw [e]), fun e => c55 e.symm, fun e => c65 e.symm, FrO.rfl, ⟨rfl, rfl⟩, fun k1 k2 h => ⟨by have := h.1; omega, by have := h.2; omega⟩⟩
set_option maxRecDepth 20000 in
theorem k_spare {G : gT} {d : Nat} {S : sS} {V : sV} {P : sP} {A : sV} {B : sB} {Q : sP} {t sl : Nat} {al : Nat → Int32} {W : WT} {sh ls : Nat} (hI : CI S V P A B Q t al W sh ls) : WQ G (d + 4) mX11_spareSheet 0 [some (.ref 8), none, none] [] (t, sl, gh S V P A B Q) (fun r h' => ∃ u, r = some (.ref u) ∧ SPZ S V P A B Q t sl al W sh ls u h') := by
  refine WQ.st (fun _ _ kz => pw_iconst (v := 0) dX11_spareSheet_0 (by decide) kz) ?_
  refine WQ.st (fun _ _ kz => pw_istore1 dX11_spareSheet_1 (by decide) (k := kz)) ?_
  exact l_spare hI 4 0 (by omega) (fun j hj => by omega) none
