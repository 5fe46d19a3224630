theorem bt_all : ∀ k, k < 256 → (nI k).toInt8.toInt32 &&& 255 = nI k := by decide +kernel
theorem bt_b {x : Int32} (h : 0 ≤ x.toInt ∧ x.toInt ≤ 255) : btB x &&& 255 = x := by
  have := bt_all x.toInt.toNat (by omega)
  rw [← nI_ofI h.1] at this
  exact this
set_option maxRecDepth 20000 in
theorem lc_desk {G : gT} {D k i t sl sh ls : Nat} {S : sS} {V : sV} {P : sP} {A : sV} {B : sB} {Q : sP} {Z : Option Value → Ph → Prop} (hL : LI S V P A B Q t sl sh ls k) (hk : k ≤ 600) (hi : i + 6 ≤ G.2.2.2.1.2.1) (hn : G.2.2.2.1.2.1 ≤ 3072) (hD : 150 ≤ D) (kf : LK G D Z k i) : WQ G D mL_law 267 [some (.ref 0), some (.ref 8), some (.ref 138), some (.int (nI i))] [] (t, sl, gh S V P A B Q) Z := by
  have hI := hL.ci
  have hls : ls + 1000 < 2000000000 := by have := hL.lb; omega
  have hC := hI.de.dc.ka.cf
  obtain ⟨D, rfl⟩ : ∃ D', D = D' + 1 := ⟨D - 1, by omega⟩
  refine WQ.st (fun _ _ kz => pw_aload1 dL_law_267 kz) ?_
  refine WQ.st (fun _ _ kz => pw_aload0 dL_law_268 kz) ?_
  refine WQ.st (fun _ _ kz => pw_iload3 dL_law_269 kz) ?_
  refine WQ.st (fun _ _ kz => pw_iconst (v := 1) dL_law_270 (by decide) kz) ?_
  refine WQ.st (fun _ _ kz => pw_iadd dL_law_271 kz) ?_
  refine WQ.st (fun _ _ kz => pw_saload dL_law_272 (sc_1 hi hn) kz) ?_
  obtain ⟨T, hTL, hT, hT2⟩ := TK_end (A 141) (G.2.2.2.1.2.2 (nI i + 1).toNatClampNeg).toInt.toNat
  have hm9 : (V 138 5).toInt.toNat ≤ 900 := by have := hL.tl; omega
  obtain ⟨r1, h1, pw1, z1⟩ := q_desk (G := G) (sl := sl) hI hls (m := (V 138 5).toInt.toNat) (nI_ofI hL.tl.1) hm9 (G.2.2.2.1.2.2 (nI i + 1).toNatClampNeg) (x := A 141) (fun w hw => bt_b (hL.tp w (by omega))) hT hT2 hTL (D := D) (by omega)
  rcases z1 with ⟨g, rfl, t1, sl1, ls1, S1, V1, P1, A1, B1, Q1, rfl, hI1, hl1, fo, rm⟩ | ⟨g, z1⟩
  · refine wq_o1i wX11_desk lL_18 rfl dL_law_273 (cf_s8 hC) (show WQ G D mX11_desk 0 _ [] _ (fun r h1 => r = some _ ∧ h1 = _) from ⟨_, _, pw1, rfl, rfl⟩) rfl (Nat.le_of_ble_eq_true rfl) (Nat.le_of_ble_eq_true rfl) (fun h4 z4 => ?_)
    subst z4
    have f := fo.2.2
    have ht := hI.de.dc.ka.st.2
    have hF1 : MF S1 P1 138 := hL.mf.fr (fun x hx => fo.2.1 x (by omega)) (f 138 (by omega) (by omega)).2.1
    have e9 : A1 (138 + 1) = A 139 := (f 139 (by omega) (by omega)).2.2.1
    have e20 : A1 (138 + 20) = A 158 := (f 158 (by omega) (by omega)).2.2.1
    have e21 : A1 (138 + 21) = A 159 := (f 159 (by omega) (by omega)).2.2.1
    have e22 : B1 (138 + 22) = B 160 := (f 160 (by omega) (by omega)).2.2.2
    have ev : V1 138 = V 138 := (f 138 (by omega) (by omega)).1
    have hA1 : AV (A1 (138 + 1)) := by rw [e9]; exact hI.av
    have a140 : A1 140 = A 140 := (f 140 (by omega) (by omega)).2.2.1
    have a141 : A1 141 = A 141 := (f 141 (by omega) (by omega)).2.2.1
    refine WQ.st (fun _ _ kz => pw_aload2 dL_law_276 kz) ?_
    refine WQ.st (fun _ _ kz => pw_aload0 dL_law_277 kz) ?_
    refine WQ.st (fun _ _ kz => pw_iload3 dL_law_278 kz) ?_
    refine WQ.st (fun _ _ kz => pw_iconst (v := 1) dL_law_279 (by decide) kz) ?_
    refine WQ.st (fun _ _ kz => pw_iadd dL_law_280 kz) ?_
    refine WQ.st (fun _ _ kz => pw_saload dL_law_281 (sc_1 hi hn) kz) ?_
    obtain ⟨r2, h2, pw2, z2⟩ := p_desk (G := G) (V := V1) (A := A1) (B := B1) (Q := Q1) (t := t1) (sl := sl1) hF1 (m := (V 138 5).toInt.toNat) (by rw [ev]; exact nI_ofI hL.tl.1) (by have := hL.tl; omega) (G.2.2.2.1.2.2 (nI i + 1).toNatClampNeg) (T := T) (by rw [show A1 (138 + 3) = A 141 from a141]; exact hT) hTL (D := D) (by omega)
    unfold PDS at z2
    rw [show A1 (138 + 3) = A 141 from a141] at z2
    rcases z2 with ⟨g2, rfl, V2, rfl, fp⟩ | ⟨g2, _⟩
    · refine wq_o1i wX12_desk lL_22 rfl dL_law_282 hF1.1 (show WQ G D mX12_desk 0 _ [] _ (fun r h1 => r = some _ ∧ h1 = _) from ⟨_, _, pw2, rfl, rfl⟩) rfl (Nat.le_of_ble_eq_true rfl) (Nat.le_of_ble_eq_true rfl) (fun h3 z3 => ?_)
      subst z3
      refine WQ.br (fun _ _ ka kb => pw_icmp_eq (tgt := 1745) dL_law_285 (by decide) ka kb) (fun c => ?_) (fun c => absurd rfl c)
      exact kf t1 sl1 sh ls1 S1 V2 P1 A1 B1 Q1 (hL.refu hI1 hl1 fo rm fp)
    · exact absurd g2 g
  · cases hr : rdF (TK (A 141) (G.2.2.2.1.2.2 (nI i + 1).toNatClampNeg).toInt.toNat) (TV (A 141) (G.2.2.2.1.2.2 (nI i + 1).toNatClampNeg).toInt.toNat) (TPl (A 141) (G.2.2.2.1.2.2 (nI i + 1).toNatClampNeg).toInt.toNat) T with
    | error e =>
      rw [hr] at z1
      obtain ⟨rfl, t1, sl1, ls1, S1, V1, P1, A1, B1, Q1, rfl, hI1, hl1, fo, rm⟩ := z1
      refine wq_o1i wX11_desk lL_18 rfl dL_law_273 (cf_s8 hC) (show WQ G D mX11_desk 0 _ [] _ (fun r h1 => r = some _ ∧ h1 = _) from ⟨_, _, pw1, rfl, rfl⟩) rfl (Nat.le_of_ble_eq_true rfl) (Nat.le_of_ble_eq_true rfl) (fun h4 z4 => ?_)
      subst z4
      have f := fo.2.2
      have ht := hI.de.dc.ka.st.2
      have hF1 : MF S1 P1 138 := hL.mf.fr (fun x hx => fo.2.1 x (by omega)) (f 138 (by omega) (by omega)).2.1
      have e9 : A1 (138 + 1) = A 139 := (f 139 (by omega) (by omega)).2.2.1
      have e20 : A1 (138 + 20) = A 158 := (f 158 (by omega) (by omega)).2.2.1
      have e21 : A1 (138 + 21) = A 159 := (f 159 (by omega) (by omega)).2.2.1
      have e22 : B1 (138 + 22) = B 160 := (f 160 (by omega) (by omega)).2.2.2
      have ev : V1 138 = V 138 := (f 138 (by omega) (by omega)).1
      have hA1 : AV (A1 (138 + 1)) := by rw [e9]; exact hI.av
      have a140 : A1 140 = A 140 := (f 140 (by omega) (by omega)).2.2.1
      have a141 : A1 141 = A 141 := (f 141 (by omega) (by omega)).2.2.1
      refine WQ.st (fun _ _ kz => pw_aload2 dL_law_276 kz) ?_
      refine WQ.st (fun _ _ kz => pw_aload0 dL_law_277 kz) ?_
      refine WQ.st (fun _ _ kz => pw_iload3 dL_law_278 kz) ?_
      refine WQ.st (fun _ _ kz => pw_iconst (v := 1) dL_law_279 (by decide) kz) ?_
      refine WQ.st (fun _ _ kz => pw_iadd dL_law_280 kz) ?_
      refine WQ.st (fun _ _ kz => pw_saload dL_law_281 (sc_1 hi hn) kz) ?_
      obtain ⟨r2, h2, pw2, z2⟩ := p_desk (G := G) (V := V1) (A := A1) (B := B1) (Q := Q1) (t := t1) (sl := sl1) hF1 (m := (V 138 5).toInt.toNat) (by rw [ev]; exact nI_ofI hL.tl.1) (by have := hL.tl; omega) (G.2.2.2.1.2.2 (nI i + 1).toNatClampNeg) (T := T) (by rw [show A1 (138 + 3) = A 141 from a141]; exact hT) hTL (D := D) (by omega)
      unfold PDS at z2
      rw [show A1 (138 + 3) = A 141 from a141] at z2
      rcases z2 with ⟨g2, _⟩ | ⟨g2, V2, A2, rfl, v1, v2, a1, z2⟩
      · exact absurd g g2
      · rw [hr] at z2
        obtain ⟨rfl, v3, v4, a2⟩ := z2
        refine wq_o1i wX12_desk lL_22 rfl dL_law_282 hF1.1 (show WQ G D mX12_desk 0 _ [] _ (fun r h1 => r = some _ ∧ h1 = _) from ⟨_, _, pw2, rfl, rfl⟩) rfl (Nat.le_of_ble_eq_true rfl) (Nat.le_of_ble_eq_true rfl) (fun h3 z3 => ?_)
        subst z3
        refine WQ.br (fun _ _ ka kb => pw_icmp_eq (tgt := 1745) dL_law_285 (by decide) ka kb) (fun c => ?_) (fun c => absurd rfl c)
        refine kf t1 sl1 sh ls1 S1 V2 P1 A2 B1 Q1 (hL.both hI1 hl1 fo rm v1 (fun x hx => a1 x (by omega) (by omega)) (fun _ _ => rfl) (a2.trans e9) ?_ ?_ ?_)
        · unfold WL W0
          rw [v2, v3, v4, a1 140 (by omega) (by omega), a1 141 (by omega) (by omega), a1 158 (by omega) (by omega), a1 159 (by omega) (by omega), a140, a141, show A1 158 = A 158 from e20, show A1 159 = A 159 from e21, show B1 160 = B 160 from e22]
        · rw [a1 141 (by omega) (by omega), a141]; exact hL.tp
        · rw [a1 159 (by omega) (by omega), show A1 159 = A 159 from e21]; exact hL.mn
    | ok s =>
      rw [hr] at z1
      obtain ⟨rfl, t1, sl1, ls1, sh1, S1, V1, P1, A1, B1, Q1, rfl, hI1, hl1, fo, rm⟩ := z1
      refine wq_o1i wX11_desk lL_18 rfl dL_law_273 (cf_s8 hC) (show WQ G D mX11_desk 0 _ [] _ (fun r h1 => r = some _ ∧ h1 = _) from ⟨_, _, pw1, rfl, rfl⟩) rfl (Nat.le_of_ble_eq_true rfl) (Nat.le_of_ble_eq_true rfl) (fun h4 z4 => ?_)
      subst z4
      have f := fo.2.2
      have ht := hI.de.dc.ka.st.2
      have hF1 : MF S1 P1 138 := hL.mf.fr (fun x hx => fo.2.1 x (by omega)) (f 138 (by omega) (by omega)).2.1
      have e9 : A1 (138 + 1) = A 139 := (f 139 (by omega) (by omega)).2.2.1
      have e20 : A1 (138 + 20) = A 158 := (f 158 (by omega) (by omega)).2.2.1
      have e21 : A1 (138 + 21) = A 159 := (f 159 (by omega) (by omega)).2.2.1
      have e22 : B1 (138 + 22) = B 160 := (f 160 (by omega) (by omega)).2.2.2
      have ev : V1 138 = V 138 := (f 138 (by omega) (by omega)).1
      have hA1 : AV (A1 (138 + 1)) := by rw [e9]; exact hI.av
      have a140 : A1 140 = A 140 := (f 140 (by omega) (by omega)).2.2.1
      have a141 : A1 141 = A 141 := (f 141 (by omega) (by omega)).2.2.1
      refine WQ.st (fun _ _ kz => pw_aload2 dL_law_276 kz) ?_
      refine WQ.st (fun _ _ kz => pw_aload0 dL_law_277 kz) ?_
      refine WQ.st (fun _ _ kz => pw_iload3 dL_law_278 kz) ?_
      refine WQ.st (fun _ _ kz => pw_iconst (v := 1) dL_law_279 (by decide) kz) ?_
      refine WQ.st (fun _ _ kz => pw_iadd dL_law_280 kz) ?_
      refine WQ.st (fun _ _ kz => pw_saload dL_law_281 (sc_1 hi hn) kz) ?_
      obtain ⟨r2, h2, pw2, z2⟩ := p_desk (G := G) (V := V1) (A := A1) (B := B1) (Q := Q1) (t := t1) (sl := sl1) hF1 (m := (V 138 5).toInt.toNat) (by rw [ev]; exact nI_ofI hL.tl.1) (by have := hL.tl; omega) (G.2.2.2.1.2.2 (nI i + 1).toNatClampNeg) (T := T) (by rw [show A1 (138 + 3) = A 141 from a141]; exact hT) hTL (D := D) (by omega)
      unfold PDS at z2
      rw [show A1 (138 + 3) = A 141 from a141] at z2
      rcases z2 with ⟨g2, _⟩ | ⟨g2, V2, A2, rfl, v1, v2, a1, z2⟩
      · exact absurd g g2
      · rw [hr] at z2
        obtain ⟨rfl, v3, v4, a2⟩ := z2
        refine wq_o1i wX12_desk lL_22 rfl dL_law_282 hF1.1 (show WQ G D mX12_desk 0 _ [] _ (fun r h1 => r = some _ ∧ h1 = _) from ⟨_, _, pw2, rfl, rfl⟩) rfl (Nat.le_of_ble_eq_true rfl) (Nat.le_of_ble_eq_true rfl) (fun h3 z3 => ?_)
        subst z3
        refine WQ.br (fun _ _ ka kb => pw_icmp_eq (tgt := 1745) dL_law_285 (by decide) ka kb) (fun c => ?_) (fun c => absurd rfl c)
        rw [e9] at a2
        refine kf t1 sl1 sh1 ls1 S1 V2 P1 A2 B1 Q1 (hL.both (hI1 (A2 139) a2) hl1 fo rm v1 (fun x hx => a1 x (by omega) (by omega)) (fun _ _ => rfl) rfl ?_ ?_ ?_)
        · unfold WL W0
          rw [v2, v3, v4, a1 140 (by omega) (by omega), a1 141 (by omega) (by omega), a1 158 (by omega) (by omega), a1 159 (by omega) (by omega), a140, a141, show A1 158 = A 158 from e20, show A1 159 = A 159 from e21, show B1 160 = B 160 from e22]
        · rw [a1 141 (by omega) (by omega), a141]; exact hL.tp
        · rw [a1 159 (by omega) (by omega), show A1 159 = A 159 from e21]; exact hL.mn
