theorem LI.refu {S : sS} {V : sV} {P : sP} {A : sV} {B : sB} {Q : sP} {t sl sh ls k : Nat} {S1 : sS} {V1 : sV} {P1 : sP} {A1 : sV} {B1 : sB} {Q1 : sP} {t1 sl1 sh1 ls1 : Nat} {V2 : sV} (hL : LI S V P A B Q t sl sh ls k) (hI1 : CI S1 V1 P1 A1 B1 Q1 t1 (A 139) (WL V A B) sh1 ls1) (hl : ls1 ≤ ls + 1000) (fo : FrO S V P A B t S1 V1 P1 A1 B1 t1) (rm : ∀ k1 k2, Room2 S Q t sl k1 k2 → Room2 S1 Q1 t1 sl1 k1 k2) (fp : FP 138 V1 V2) : LI S1 V2 P1 A1 B1 Q1 t1 sl1 sh1 ls1 (k + 1) := by
  have e9 : A1 (138 + 1) = A 139 := (fo.2.2 139 (by omega) (by omega)).2.2.1
  exact hL.simple hI1 hl fo rm fp (fun a _ => by rw [← e9, pm_up_self]) (fun _ _ _ => rfl)
theorem Room2.mo {S S1 : sS} {Q Q1 : sP} {t sl t1 sl1 : Nat} (rm : ∀ k1 k2, Room2 S Q t sl k1 k2 → Room2 S1 Q1 t1 sl1 k1 k2) : ∀ k1 k2, Room2 S Q t sl k1 k2 → Room2 S1 Q1 t1 sl1 (k1 + 9) (k2 + 1878) := fun k1 k2 h => (rm k1 k2 h).up (by omega) (by omega)
set_option maxRecDepth 20000 in
theorem lc_image {G : gT} {D k i t sl sh ls : Nat} {S : sS} {V : sV} {P : sP} {A : sV} {B : sB} {Q : sP} {Z : Option Value → Ph → Prop} (hL : LI S V P A B Q t sl sh ls k) (hk : k ≤ 600) (hi : i + 6 ≤ G.2.2.2.1.2.1) (hn : G.2.2.2.1.2.1 ≤ 3072) (hD : 150 ≤ D) (kf : LK G D Z k i) : WQ G D mL_law 1676 [some (.ref 0), some (.ref 8), some (.ref 138), some (.int (nI i))] [] (t, sl, gh S V P A B Q) Z := by
  have hI := hL.ci
  have hls : ls + 1000 < 2000000000 := by have := hL.lb; omega
  have hC := hI.de.dc.ka.cf
  obtain ⟨D, rfl⟩ : ∃ D', D = D' + 1 := ⟨D - 1, by omega⟩
  refine WQ.st (fun _ _ kz => pw_aload1 dL_law_1676 kz) ?_
  refine WQ.st (fun _ _ kz => pw_aload0 dL_law_1677 kz) ?_
  refine WQ.st (fun _ _ kz => pw_iload3 dL_law_1678 kz) ?_
  refine WQ.st (fun _ _ kz => pw_iconst (v := 1) dL_law_1679 (by decide) kz) ?_
  refine WQ.st (fun _ _ kz => pw_iadd dL_law_1680 kz) ?_
  refine WQ.st (fun _ _ kz => pw_saload dL_law_1681 (sc_1 hi hn) kz) ?_
  refine wq_o1i wX11_image lL_168 rfl dL_law_1682 (cf_s8 hC) ((q_image (G := G) (sl := sl) (d := 0) hI hls (G.2.2.2.1.2.2 (nI i + 1).toNatClampNeg)).mn (by omega)) rfl (Nat.le_of_ble_eq_true rfl) (Nat.le_of_ble_eq_true rfl) (fun h1 z1 => ?_)
  obtain ⟨t1, sl1, ls1, S1, V1, P1, A1, B1, Q1, rfl, hI1, hl1, fo, rm⟩ := z1
  have f := fo.2.2
  have ht := hI.de.dc.ka.st.2
  have hF1 : MF S1 P1 138 := hL.mf.fr (fun x hx => fo.2.1 x (by omega)) (f 138 (by omega) (by omega)).2.1
  have e9 : A1 (138 + 1) = A 139 := (f 139 (by omega) (by omega)).2.2.1
  have e20 : A1 (138 + 20) = A 158 := (f 158 (by omega) (by omega)).2.2.1
  have e21 : A1 (138 + 21) = A 159 := (f 159 (by omega) (by omega)).2.2.1
  have e22 : B1 (138 + 22) = B 160 := (f 160 (by omega) (by omega)).2.2.2
  have ev : V1 138 = V 138 := (f 138 (by omega) (by omega)).1
  have hA1 : AV (A1 (138 + 1)) := by rw [e9]; exact hI.av
  have a140 : A1 140 = A 140 := (f 140 (by omega) (by omega)).2.2.1
  have a141 : A1 141 = A 141 := (f 141 (by omega) (by omega)).2.2.1
  refine WQ.st (fun _ _ kz => pw_aload2 dL_law_1685 kz) ?_
  refine WQ.st (fun _ _ kz => pw_aload0 dL_law_1686 kz) ?_
  refine WQ.st (fun _ _ kz => pw_iload3 dL_law_1687 kz) ?_
  refine WQ.st (fun _ _ kz => pw_iconst (v := 1) dL_law_1688 (by decide) kz) ?_
  refine WQ.st (fun _ _ kz => pw_iadd dL_law_1689 kz) ?_
  refine WQ.st (fun _ _ kz => pw_saload dL_law_1690 (sc_1 hi hn) kz) ?_
  obtain ⟨r2, h2, pw2, z2⟩ := (p_image (G := G) (d := 0) (V := V1) (A := A1) (B := B1) (Q := Q1) (t := t1) (sl := sl1) hF1 (G.2.2.2.1.2.2 (nI i + 1).toNatClampNeg)).mn (by omega : 0 + 9 ≤ D)
  rcases z2 with ⟨g, rfl, V2, rfl, fp⟩ | ⟨g, rfl, V2, A2, rfl, fp, fa, a1, a2⟩
  · have es : sp_ima (A 139) (WL V A B) (G.2.2.2.1.2.2 (nI i + 1).toNatClampNeg) = (-99000002, A 139, WL V A B) := by unfold sp_ima; rw [if_neg g] <;> rfl
    rw [es] at hI1 ⊢
    refine wq_o1i wX12_image lL_171 rfl dL_law_1691 hF1.1 (show WQ G D mX12_image 0 _ [] _ (fun r h1 => r = some _ ∧ h1 = _) from ⟨_, _, pw2, rfl, rfl⟩) rfl (Nat.le_of_ble_eq_true rfl) (Nat.le_of_ble_eq_true rfl) (fun h3 z3 => ?_)
    subst z3
    refine WQ.br (fun _ _ ka kb => pw_icmp_eq (tgt := 1745) dL_law_1694 (by decide) ka kb) (fun c => ?_) (fun c => absurd rfl c)
    exact kf t1 sl1 sh ls1 S1 V2 P1 A1 B1 Q1 (hL.refu hI1 hl1 fo rm fp)
  · have es : sp_ima (A 139) (WL V A B) (G.2.2.2.1.2.2 (nI i + 1).toNatClampNeg) = (0, sp_im (A 139) (G.2.2.2.1.2.2 (nI i + 1).toNatClampNeg).toInt.toNat, (pm_up (A 140) (G.2.2.2.1.2.2 (nI i + 1).toNatClampNeg).toInt.toNat 1, (WL V A B).2)) := by unfold sp_ima; rw [if_pos g] <;> rfl
    rw [es] at hI1 ⊢
    refine wq_o1i wX12_image lL_171 rfl dL_law_1691 hF1.1 (show WQ G D mX12_image 0 _ [] _ (fun r h1 => r = some _ ∧ h1 = _) from ⟨_, _, pw2, rfl, rfl⟩) rfl (Nat.le_of_ble_eq_true rfl) (Nat.le_of_ble_eq_true rfl) (fun h3 z3 => ?_)
    subst z3
    refine WQ.br (fun _ _ ka kb => pw_icmp_eq (tgt := 1745) dL_law_1694 (by decide) ka kb) (fun c => ?_) (fun c => absurd rfl c)
    rw [e9] at a1
    have a2 : A2 140 = pm_up (A 140) (G.2.2.2.1.2.2 (nI i + 1).toNatClampNeg).toInt.toNat 1 := by rw [← a140]; exact a2
    refine kf t1 sl1 sh ls1 S1 V2 P1 A2 B1 Q1 (hL.both hI1 hl1 fo (Room2.mo rm) fp.1 (fun x hx => fa x (by omega) (by omega)) (fun _ _ => rfl) a1 ?_ ?_ ?_)
    · show (A2 140, A2 158, A2 159, B1 160, V2 138 5, V2 138 13, V2 138 14, fun i => btB (A2 141 i)) = (pm_up (A 140) (G.2.2.2.1.2.2 (nI i + 1).toNatClampNeg).toInt.toNat 1, A 158, A 159, B 160, V 138 5, V 138 13, V 138 14, fun i => btB (A 141 i))
      rw [a2, fa 158 (by omega) (by omega), fa 159 (by omega) (by omega), fa 141 (by omega) (by omega), fp.2.1, fp.2.2.1, fp.2.2.2, ev, a141, show A1 158 = A 158 from e20, show A1 159 = A 159 from e21, show B1 160 = B 160 from e22]
    · rw [fa 141 (by omega) (by omega), a141]; exact hL.tp
    · rw [fa 159 (by omega) (by omega), show A1 159 = A 159 from e21]; exact hL.mn
set_option maxRecDepth 20000 in
theorem lc_restore {G : gT} {D k i t sl sh ls : Nat} {S : sS} {V : sV} {P : sP} {A : sV} {B : sB} {Q : sP} {Z : Option Value → Ph → Prop} (hL : LI S V P A B Q t sl sh ls k) (hk : k ≤ 600) (hi : i + 6 ≤ G.2.2.2.1.2.1) (hn : G.2.2.2.1.2.1 ≤ 3072) (hD : 150 ≤ D) (kf : LK G D Z k i) : WQ G D mL_law 1699 [some (.ref 0), some (.ref 8), some (.ref 138), some (.int (nI i))] [] (t, sl, gh S V P A B Q) Z := by
  have hI := hL.ci
  have hls : ls + 1000 < 2000000000 := by have := hL.lb; omega
  have hC := hI.de.dc.ka.cf
  obtain ⟨D, rfl⟩ : ∃ D', D = D' + 1 := ⟨D - 1, by omega⟩
  refine WQ.st (fun _ _ kz => pw_aload1 dL_law_1699 kz) ?_
  refine WQ.st (fun _ _ kz => pw_aload0 dL_law_1700 kz) ?_
  refine WQ.st (fun _ _ kz => pw_iload3 dL_law_1701 kz) ?_
  refine WQ.st (fun _ _ kz => pw_iconst (v := 1) dL_law_1702 (by decide) kz) ?_
  refine WQ.st (fun _ _ kz => pw_iadd dL_law_1703 kz) ?_
  refine WQ.st (fun _ _ kz => pw_saload dL_law_1704 (sc_1 hi hn) kz) ?_
  obtain ⟨r1, h1, pw1, sh1, rfl, t1, sl1, ls1, S1, V1, P1, A1, B1, Q1, rfl, hI1, hl1, fo, rm⟩ := (q_restore (G := G) (sl := sl) (d := 0) hI hls (G.2.2.2.1.2.2 (nI i + 1).toNatClampNeg)).mn (by omega : 0 + 9 ≤ D)
  refine wq_o1i wX11_restore lL_172 rfl dL_law_1705 (cf_s8 hC) (show WQ G D mX11_restore 0 _ [] _ (fun r h1 => r = some _ ∧ h1 = _) from ⟨_, _, pw1, rfl, rfl⟩) rfl (Nat.le_of_ble_eq_true rfl) (Nat.le_of_ble_eq_true rfl) (fun h4 z4 => ?_)
  subst z4
  have f := fo.2.2
  have ht := hI.de.dc.ka.st.2
  have hF1 : MF S1 P1 138 := hL.mf.fr (fun x hx => fo.2.1 x (by omega)) (f 138 (by omega) (by omega)).2.1
  have e9 : A1 (138 + 1) = A 139 := (f 139 (by omega) (by omega)).2.2.1
  have e20 : A1 (138 + 20) = A 158 := (f 158 (by omega) (by omega)).2.2.1
  have e21 : A1 (138 + 21) = A 159 := (f 159 (by omega) (by omega)).2.2.1
  have e22 : B1 (138 + 22) = B 160 := (f 160 (by omega) (by omega)).2.2.2
  have ev : V1 138 = V 138 := (f 138 (by omega) (by omega)).1
  have hA1 : AV (A1 (138 + 1)) := by rw [e9]; exact hI.av
  have a140 : A1 140 = A 140 := (f 140 (by omega) (by omega)).2.2.1
  have a141 : A1 141 = A 141 := (f 141 (by omega) (by omega)).2.2.1
  refine WQ.st (fun _ _ kz => pw_aload2 dL_law_1708 kz) ?_
  refine WQ.st (fun _ _ kz => pw_aload0 dL_law_1709 kz) ?_
  refine WQ.st (fun _ _ kz => pw_iload3 dL_law_1710 kz) ?_
  refine WQ.st (fun _ _ kz => pw_iconst (v := 1) dL_law_1711 (by decide) kz) ?_
  refine WQ.st (fun _ _ kz => pw_iadd dL_law_1712 kz) ?_
  refine WQ.st (fun _ _ kz => pw_saload dL_law_1713 (sc_1 hi hn) kz) ?_
  obtain ⟨r2, h2, pw2, z2⟩ := (p_restore (G := G) (d := 0) (V := V1) (A := A1) (B := B1) (Q := Q1) (t := t1) (sl := sl1) hF1 (G.2.2.2.1.2.2 (nI i + 1).toNatClampNeg)).mn (by omega : 0 + 9 ≤ D)
  rcases z2 with ⟨g, rfl, V2, rfl, fp⟩ | ⟨g, g2, rfl, V2, rfl, fp⟩ | ⟨g, g2, rfl, V2, A2, rfl, fp, fa, a1⟩
  · have es : sp_res (A 139) (WL V A B) (G.2.2.2.1.2.2 (nI i + 1).toNatClampNeg) = (-99000002, A 139) := by unfold sp_res; rw [if_neg g] <;> rfl
    rw [es] at hI1 ⊢
    refine wq_o1i wX12_restore lL_175 rfl dL_law_1714 hF1.1 (show WQ G D mX12_restore 0 _ [] _ (fun r h1 => r = some _ ∧ h1 = _) from ⟨_, _, pw2, rfl, rfl⟩) rfl (Nat.le_of_ble_eq_true rfl) (Nat.le_of_ble_eq_true rfl) (fun h3 z3 => ?_)
    subst z3
    refine WQ.br (fun _ _ ka kb => pw_icmp_eq (tgt := 1745) dL_law_1717 (by decide) ka kb) (fun c => ?_) (fun c => absurd rfl c)
    exact kf t1 sl1 sh1 ls1 S1 V2 P1 A1 B1 Q1 (hL.refu hI1 hl1 fo rm fp)
  · have g3 : (WL V A B).1 (G.2.2.2.1.2.2 (nI i + 1).toNatClampNeg).toInt.toNat = 0 := by show A 140 _ = 0; rw [← a140]; exact g2
    have es : sp_res (A 139) (WL V A B) (G.2.2.2.1.2.2 (nI i + 1).toNatClampNeg) = (-99000005, A 139) := by unfold sp_res; rw [if_pos g, if_pos g3] <;> rfl
    rw [es] at hI1 ⊢
    refine wq_o1i wX12_restore lL_175 rfl dL_law_1714 hF1.1 (show WQ G D mX12_restore 0 _ [] _ (fun r h1 => r = some _ ∧ h1 = _) from ⟨_, _, pw2, rfl, rfl⟩) rfl (Nat.le_of_ble_eq_true rfl) (Nat.le_of_ble_eq_true rfl) (fun h3 z3 => ?_)
    subst z3
    refine WQ.br (fun _ _ ka kb => pw_icmp_eq (tgt := 1745) dL_law_1717 (by decide) ka kb) (fun c => ?_) (fun c => absurd rfl c)
    exact kf t1 sl1 sh1 ls1 S1 V2 P1 A1 B1 Q1 (hL.refu hI1 hl1 fo rm fp)
  · have g3 : ¬ (WL V A B).1 (G.2.2.2.1.2.2 (nI i + 1).toNatClampNeg).toInt.toNat = 0 := by show ¬ A 140 _ = 0; rw [← a140]; exact g2
    have es : sp_res (A 139) (WL V A B) (G.2.2.2.1.2.2 (nI i + 1).toNatClampNeg) = (0, sp_rs (A 139) (G.2.2.2.1.2.2 (nI i + 1).toNatClampNeg).toInt.toNat) := by unfold sp_res; rw [if_pos g, if_neg g3] <;> rfl
    rw [es] at hI1 ⊢
    refine wq_o1i wX12_restore lL_175 rfl dL_law_1714 hF1.1 (show WQ G D mX12_restore 0 _ [] _ (fun r h1 => r = some _ ∧ h1 = _) from ⟨_, _, pw2, rfl, rfl⟩) rfl (Nat.le_of_ble_eq_true rfl) (Nat.le_of_ble_eq_true rfl) (fun h3 z3 => ?_)
    subst z3
    refine WQ.br (fun _ _ ka kb => pw_icmp_eq (tgt := 1745) dL_law_1717 (by decide) ka kb) (fun c => ?_) (fun c => absurd rfl c)
    rw [e9] at a1
    refine kf t1 sl1 sh1 ls1 S1 V2 P1 A2 B1 Q1 (hL.both hI1 hl1 fo (Room2.mo rm) fp.1 (fun x hx => fa x (by omega)) (fun _ _ => rfl) a1 ?_ ?_ ?_)
    · unfold WL
      rw [fa 140 (by omega), fa 158 (by omega), fa 159 (by omega), fa 141 (by omega), fp.2.1, fp.2.2.1, fp.2.2.2, ev, a140, a141, show A1 158 = A 158 from e20, show A1 159 = A 159 from e21, show B1 160 = B 160 from e22]
    · rw [fa 141 (by omega), a141]; exact hL.tp
    · rw [fa 159 (by omega), show A1 159 = A 159 from e21]; exact hL.mn
set_option maxRecDepth 20000 in
theorem lc_numbers {G : gT} {D k i t sl sh ls : Nat} {S : sS} {V : sV} {P : sP} {A : sV} {B : sB} {Q : sP} {Z : Option Value → Ph → Prop} (hL : LI S V P A B Q t sl sh ls k) (hk : k ≤ 600) (hi : i + 6 ≤ G.2.2.2.1.2.1) (hn : G.2.2.2.1.2.1 ≤ 3072) (hD : 150 ≤ D) (kf : LK G D Z k i) : WQ G D mL_law 1506 [some (.ref 0), some (.ref 8), some (.ref 138), some (.int (nI i))] [] (t, sl, gh S V P A B Q) Z := by
  have hI := hL.ci
  have hls : ls + 1000 < 2000000000 := by have := hL.lb; omega
  have hC := hI.de.dc.ka.cf
  obtain ⟨D, rfl⟩ : ∃ D', D = D' + 1 := ⟨D - 1, by omega⟩
  refine WQ.st (fun _ _ kz => pw_aload1 dL_law_1506 kz) ?_
  refine WQ.st (fun _ _ kz => pw_aload0 dL_law_1507 kz) ?_
  refine WQ.st (fun _ _ kz => pw_iload3 dL_law_1508 kz) ?_
  refine WQ.st (fun _ _ kz => pw_iconst (v := 1) dL_law_1509 (by decide) kz) ?_
  refine WQ.st (fun _ _ kz => pw_iadd dL_law_1510 kz) ?_
  refine WQ.st (fun _ _ kz => pw_saload dL_law_1511 (sc_1 hi hn) kz) ?_
  refine WQ.st (fun _ _ kz => pw_aload0 dL_law_1512 kz) ?_
  refine WQ.st (fun _ _ kz => pw_iload3 dL_law_1513 kz) ?_
  refine WQ.st (fun _ _ kz => pw_iconst (v := 2) dL_law_1514 (by decide) kz) ?_
  refine WQ.st (fun _ _ kz => pw_iadd dL_law_1515 kz) ?_
  refine WQ.st (fun _ _ kz => pw_saload dL_law_1516 (sc_2 hi hn) kz) ?_
  refine WQ.st (fun _ _ kz => pw_aload0 dL_law_1517 kz) ?_
  refine WQ.st (fun _ _ kz => pw_iload3 dL_law_1518 kz) ?_
  refine WQ.st (fun _ _ kz => pw_iconst (v := 3) dL_law_1519 (by decide) kz) ?_
  refine WQ.st (fun _ _ kz => pw_iadd dL_law_1520 kz) ?_
  refine WQ.st (fun _ _ kz => pw_saload dL_law_1521 (sc_3 hi hn) kz) ?_
  refine wq_o3i wX11_numbers lL_153 rfl dL_law_1522 (cf_s8 hC) ((q_numbers (G := G) (sl := sl) (d := 0) hI hls (G.2.2.2.1.2.2 (nI i + 1).toNatClampNeg) (G.2.2.2.1.2.2 (nI i + 2).toNatClampNeg) (G.2.2.2.1.2.2 (nI i + 3).toNatClampNeg)).mn (by omega)) rfl (Nat.le_of_ble_eq_true rfl) (Nat.le_of_ble_eq_true rfl) (fun h1 z1 => ?_)
  obtain ⟨t1, sl1, ls1, S1, V1, P1, A1, B1, Q1, rfl, hI1, hl1, fo, rm⟩ := z1
  have f := fo.2.2
  have ht := hI.de.dc.ka.st.2
  have hF1 : MF S1 P1 138 := hL.mf.fr (fun x hx => fo.2.1 x (by omega)) (f 138 (by omega) (by omega)).2.1
  have e9 : A1 (138 + 1) = A 139 := (f 139 (by omega) (by omega)).2.2.1
  have e20 : A1 (138 + 20) = A 158 := (f 158 (by omega) (by omega)).2.2.1
  have e21 : A1 (138 + 21) = A 159 := (f 159 (by omega) (by omega)).2.2.1
  have e22 : B1 (138 + 22) = B 160 := (f 160 (by omega) (by omega)).2.2.2
  have ev : V1 138 = V 138 := (f 138 (by omega) (by omega)).1
  have hA1 : AV (A1 (138 + 1)) := by rw [e9]; exact hI.av
  have a140 : A1 140 = A 140 := (f 140 (by omega) (by omega)).2.2.1
  have a141 : A1 141 = A 141 := (f 141 (by omega) (by omega)).2.2.1
  refine WQ.st (fun _ _ kz => pw_aload2 dL_law_1525 kz) ?_
  refine WQ.st (fun _ _ kz => pw_aload0 dL_law_1526 kz) ?_
  refine WQ.st (fun _ _ kz => pw_iload3 dL_law_1527 kz) ?_
  refine WQ.st (fun _ _ kz => pw_iconst (v := 1) dL_law_1528 (by decide) kz) ?_
  refine WQ.st (fun _ _ kz => pw_iadd dL_law_1529 kz) ?_
  refine WQ.st (fun _ _ kz => pw_saload dL_law_1530 (sc_1 hi hn) kz) ?_
  refine WQ.st (fun _ _ kz => pw_aload0 dL_law_1531 kz) ?_
  refine WQ.st (fun _ _ kz => pw_iload3 dL_law_1532 kz) ?_
  refine WQ.st (fun _ _ kz => pw_iconst (v := 2) dL_law_1533 (by decide) kz) ?_
  refine WQ.st (fun _ _ kz => pw_iadd dL_law_1534 kz) ?_
  refine WQ.st (fun _ _ kz => pw_saload dL_law_1535 (sc_2 hi hn) kz) ?_
  refine WQ.st (fun _ _ kz => pw_aload0 dL_law_1536 kz) ?_
  refine WQ.st (fun _ _ kz => pw_iload3 dL_law_1537 kz) ?_
  refine WQ.st (fun _ _ kz => pw_iconst (v := 3) dL_law_1538 (by decide) kz) ?_
  refine WQ.st (fun _ _ kz => pw_iadd dL_law_1539 kz) ?_
  refine WQ.st (fun _ _ kz => pw_saload dL_law_1540 (sc_3 hi hn) kz) ?_
  obtain ⟨r2, h2, pw2, z2⟩ := (p_numbers (G := G) (d := 0) (V := V1) (A := A1) (B := B1) (Q := Q1) (t := t1) (sl := sl1) hF1 (G.2.2.2.1.2.2 (nI i + 1).toNatClampNeg) (G.2.2.2.1.2.2 (nI i + 2).toNatClampNeg) (G.2.2.2.1.2.2 (nI i + 3).toNatClampNeg)).mn (by omega : 0 + 9 ≤ D)
  rcases z2 with ⟨g, rfl, V2, rfl, fp⟩ | ⟨g, rfl, V2, rfl, fp⟩ | ⟨g, rfl, V2, A2, B2, rfl, fp, fa, fb1, fb2⟩
  · have es : sp_num (WL V A B) (G.2.2.2.1.2.2 (nI i + 1).toNatClampNeg) (G.2.2.2.1.2.2 (nI i + 2).toNatClampNeg) (G.2.2.2.1.2.2 (nI i + 3).toNatClampNeg) = (-99000002, WL V A B) := by unfold sp_num; rw [if_neg g] <;> rfl
    rw [es] at hI1 ⊢
    refine wq_o3i wX12_numbers lL_156 rfl dL_law_1541 hF1.1 (show WQ G D mX12_numbers 0 _ [] _ (fun r h1 => r = some _ ∧ h1 = _) from ⟨_, _, pw2, rfl, rfl⟩) rfl (Nat.le_of_ble_eq_true rfl) (Nat.le_of_ble_eq_true rfl) (fun h3 z3 => ?_)
    subst z3
    refine WQ.br (fun _ _ ka kb => pw_icmp_eq (tgt := 1745) dL_law_1544 (by decide) ka kb) (fun c => ?_) (fun c => absurd rfl c)
    exact kf t1 sl1 sh ls1 S1 V2 P1 A1 B1 Q1 (hL.refu hI1 hl1 fo rm fp)
  · have es : sp_num (WL V A B) (G.2.2.2.1.2.2 (nI i + 1).toNatClampNeg) (G.2.2.2.1.2.2 (nI i + 2).toNatClampNeg) (G.2.2.2.1.2.2 (nI i + 3).toNatClampNeg) = (-99000003, WL V A B) := by unfold sp_num; rw [if_pos g.1, if_neg g.2] <;> rfl
    rw [es] at hI1 ⊢
    refine wq_o3i wX12_numbers lL_156 rfl dL_law_1541 hF1.1 (show WQ G D mX12_numbers 0 _ [] _ (fun r h1 => r = some _ ∧ h1 = _) from ⟨_, _, pw2, rfl, rfl⟩) rfl (Nat.le_of_ble_eq_true rfl) (Nat.le_of_ble_eq_true rfl) (fun h3 z3 => ?_)
    subst z3
    refine WQ.br (fun _ _ ka kb => pw_icmp_eq (tgt := 1745) dL_law_1544 (by decide) ka kb) (fun c => ?_) (fun c => absurd rfl c)
    exact kf t1 sl1 sh ls1 S1 V2 P1 A1 B1 Q1 (hL.refu hI1 hl1 fo rm fp)
  · have es : sp_num (WL V A B) (G.2.2.2.1.2.2 (nI i + 1).toNatClampNeg) (G.2.2.2.1.2.2 (nI i + 2).toNatClampNeg) (G.2.2.2.1.2.2 (nI i + 3).toNatClampNeg) = (0, (WL V A B).try (pm_up (A 158) (G.2.2.2.1.2.2 (nI i + 1).toNatClampNeg).toInt.toNat (G.2.2.2.1.2.2 (nI i + 2).toNatClampNeg)) (pm_up (A 159) (G.2.2.2.1.2.2 (nI i + 1).toNatClampNeg).toInt.toNat (G.2.2.2.1.2.2 (nI i + 3).toNatClampNeg)) (nbZ (B 160) (40 * (G.2.2.2.1.2.2 (nI i + 1).toNatClampNeg).toInt.toNat) (G.2.2.2.1.2.2 (nI i + 3).toNatClampNeg).toInt.toNat)) := by unfold sp_num; rw [if_pos g.1, if_pos g.2] <;> rfl
    rw [es] at hI1 ⊢
    refine wq_o3i wX12_numbers lL_156 rfl dL_law_1541 hF1.1 (show WQ G D mX12_numbers 0 _ [] _ (fun r h1 => r = some _ ∧ h1 = _) from ⟨_, _, pw2, rfl, rfl⟩) rfl (Nat.le_of_ble_eq_true rfl) (Nat.le_of_ble_eq_true rfl) (fun h3 z3 => ?_)
    subst z3
    refine WQ.br (fun _ _ ka kb => pw_icmp_eq (tgt := 1745) dL_law_1544 (by decide) ka kb) (fun c => ?_) (fun c => absurd rfl c)
    subst fa
    have b1 : B2 160 = nbZ (B 160) (40 * (G.2.2.2.1.2.2 (nI i + 1).toNatClampNeg).toInt.toNat) (G.2.2.2.1.2.2 (nI i + 3).toNatClampNeg).toInt.toNat := by
      funext i
      rw [fb2 i, e22]
      rfl
    have x158 : up2 (up2 A1 (138 + 20) (G.2.2.2.1.2.2 (nI i + 1).toNatClampNeg).toInt.toNat (G.2.2.2.1.2.2 (nI i + 2).toNatClampNeg)) (138 + 21) (G.2.2.2.1.2.2 (nI i + 1).toNatClampNeg).toInt.toNat (G.2.2.2.1.2.2 (nI i + 3).toNatClampNeg) 158 = pm_up (A 158) (G.2.2.2.1.2.2 (nI i + 1).toNatClampNeg).toInt.toNat (G.2.2.2.1.2.2 (nI i + 2).toNatClampNeg) := by
      rw [up2_na (by omega)]
      show up2 A1 158 (G.2.2.2.1.2.2 (nI i + 1).toNatClampNeg).toInt.toNat (G.2.2.2.1.2.2 (nI i + 2).toNatClampNeg) 158 = _
      rw [up2_at, show A1 158 = A 158 from e20]
    have x159 : up2 (up2 A1 (138 + 20) (G.2.2.2.1.2.2 (nI i + 1).toNatClampNeg).toInt.toNat (G.2.2.2.1.2.2 (nI i + 2).toNatClampNeg)) (138 + 21) (G.2.2.2.1.2.2 (nI i + 1).toNatClampNeg).toInt.toNat (G.2.2.2.1.2.2 (nI i + 3).toNatClampNeg) 159 = pm_up (A 159) (G.2.2.2.1.2.2 (nI i + 1).toNatClampNeg).toInt.toNat (G.2.2.2.1.2.2 (nI i + 3).toNatClampNeg) := by
      show up2 (up2 A1 158 (G.2.2.2.1.2.2 (nI i + 1).toNatClampNeg).toInt.toNat (G.2.2.2.1.2.2 (nI i + 2).toNatClampNeg)) 159 (G.2.2.2.1.2.2 (nI i + 1).toNatClampNeg).toInt.toNat (G.2.2.2.1.2.2 (nI i + 3).toNatClampNeg) 159 = _
      rw [up2_at, up2_na (by omega), show A1 159 = A 159 from e21]
    have xo : ∀ x, x ≠ 158 → x ≠ 159 → up2 (up2 A1 (138 + 20) (G.2.2.2.1.2.2 (nI i + 1).toNatClampNeg).toInt.toNat (G.2.2.2.1.2.2 (nI i + 2).toNatClampNeg)) (138 + 21) (G.2.2.2.1.2.2 (nI i + 1).toNatClampNeg).toInt.toNat (G.2.2.2.1.2.2 (nI i + 3).toNatClampNeg) x = A1 x := fun x h1 h2 => by rw [up2_na (by omega), up2_na (by omega)]
    refine kf t1 sl1 sh ls1 S1 V2 P1 _ B2 Q1 (hL.both hI1 hl1 fo (Room2.mo rm) fp.1 (fun x hx => xo x (by omega) (by omega)) (fun x hx => fb1 x (by omega)) ?_ ?_ ?_ ?_)
    · rw [xo 139 (by omega) (by omega)]; exact e9
    · unfold WL WT.try
      rw [x158, x159, xo 140 (by omega) (by omega), xo 141 (by omega) (by omega), b1, fp.2.1, fp.2.2.1, fp.2.2.2, ev, a140, a141]
    · rw [xo 141 (by omega) (by omega), a141]; exact hL.tp
    · rw [x159]
      intro tr htr
      unfold pm_up
      by_cases e : tr = (G.2.2.2.1.2.2 (nI i + 1).toNatClampNeg).toInt.toNat
      · rw [if_pos e]; exact g.2
      · rw [if_neg e]; exact hL.mn tr htr
