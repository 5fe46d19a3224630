set_option maxRecDepth 20000 in
theorem lc_write {G : gT} {D k i t sl sh ls : Nat} {S : sS} {V : sV} {P : sP} {A : sV} {B : sB} {Q : sP} {Z : Option Value → Ph → Prop} (hL : LI S V P A B Q t sl sh ls k) (hk : k ≤ 600) (hi : i + 6 ≤ G.2.2.2.1.2.1) (hn : G.2.2.2.1.2.1 ≤ 3072) (hD : 150 ≤ D) (kf : LK G D Z k i) : WQ G D mL_law 1549 [some (.ref 0), some (.ref 8), some (.ref 138), some (.int (nI i))] [] (t, sl, gh S V P A B Q) Z := by
  have hI := hL.ci
  have hls : ls + 1000 < 2000000000 := by have := hL.lb; omega
  have hC := hI.de.dc.ka.cf
  obtain ⟨D, rfl⟩ : ∃ D', D = D' + 1 := ⟨D - 1, by omega⟩
  refine WQ.st (fun _ _ kz => pw_aload1 dL_law_1549 kz) ?_
  refine WQ.st (fun _ _ kz => pw_aload0 dL_law_1550 kz) ?_
  refine WQ.st (fun _ _ kz => pw_iload3 dL_law_1551 kz) ?_
  refine WQ.st (fun _ _ kz => pw_iconst (v := 1) dL_law_1552 (by decide) kz) ?_
  refine WQ.st (fun _ _ kz => pw_iadd dL_law_1553 kz) ?_
  refine WQ.st (fun _ _ kz => pw_saload dL_law_1554 (sc_1 hi hn) kz) ?_
  refine WQ.st (fun _ _ kz => pw_aload0 dL_law_1555 kz) ?_
  refine WQ.st (fun _ _ kz => pw_iload3 dL_law_1556 kz) ?_
  refine WQ.st (fun _ _ kz => pw_iconst (v := 2) dL_law_1557 (by decide) kz) ?_
  refine WQ.st (fun _ _ kz => pw_iadd dL_law_1558 kz) ?_
  refine WQ.st (fun _ _ kz => pw_saload dL_law_1559 (sc_2 hi hn) kz) ?_
  refine WQ.st (fun _ _ kz => pw_aload0 dL_law_1560 kz) ?_
  refine WQ.st (fun _ _ kz => pw_iload3 dL_law_1561 kz) ?_
  refine WQ.st (fun _ _ kz => pw_iconst (v := 3) dL_law_1562 (by decide) kz) ?_
  refine WQ.st (fun _ _ kz => pw_iadd dL_law_1563 kz) ?_
  refine WQ.st (fun _ _ kz => pw_saload dL_law_1564 (sc_3 hi hn) kz) ?_
  refine WQ.st (fun _ _ kz => pw_i2l dL_law_1565 kz) ?_
  refine WQ.st (fun _ _ kz => pw_bipush (v := 32) dL_law_1566 (by decide) kz) ?_
  refine WQ.st (fun _ _ kz => pw_lshl dL_law_1568 kz) ?_
  refine WQ.st (fun _ _ kz => pw_aload0 dL_law_1569 kz) ?_
  refine WQ.st (fun _ _ kz => pw_iload3 dL_law_1570 kz) ?_
  refine WQ.st (fun _ _ kz => pw_iconst (v := 4) dL_law_1571 (by decide) kz) ?_
  refine WQ.st (fun _ _ kz => pw_iadd dL_law_1572 kz) ?_
  refine WQ.st (fun _ _ kz => pw_saload dL_law_1573 (sc_4 hi hn) kz) ?_
  refine WQ.st (fun _ _ kz => pw_i2l dL_law_1574 kz) ?_
  refine WQ.st (fun _ _ kz => pw_ldc2 kL_157 dL_law_1575 kz) ?_
  refine WQ.st (fun _ _ kz => pw_land dL_law_1578 kz) ?_
  refine WQ.st (fun _ _ kz => pw_lor dL_law_1579 kz) ?_
  refine wq_o3i wX11_write lL_159 rfl dL_law_1580 (cf_s8 hC) ((q_write (G := G) (sl := sl) (d := 0) hI hls (G.2.2.2.1.2.2 (nI i + 1).toNatClampNeg) (G.2.2.2.1.2.2 (nI i + 2).toNatClampNeg) ((((G.2.2.2.1.2.2 (nI i + 3).toNatClampNeg).toInt64 <<< ((32 : Int32).toInt64 &&& 63)) ||| ((G.2.2.2.1.2.2 (nI i + 4).toNatClampNeg).toInt64 &&& 4294967295)))).mn (by omega)) rfl (Nat.le_of_ble_eq_true rfl) (Nat.le_of_ble_eq_true rfl) (fun h1 z1 => ?_)
  obtain ⟨t1, sl1, ls1, S1, V1, P1, A1, B1, Q1, rfl, hI1, hl1, fo, rm⟩ := z1
  have f := fo.2.2
  have ht := hI.de.dc.ka.st.2
  have hF1 : MF S1 P1 138 := hL.mf.fr (fun x hx => fo.2.1 x (by omega)) (f 138 (by omega) (by omega)).2.1
  have e9 : A1 (138 + 1) = A 139 := (f 139 (by omega) (by omega)).2.2.1
  have e20 : A1 (138 + 20) = A 158 := (f 158 (by omega) (by omega)).2.2.1
  have e21 : A1 (138 + 21) = A 159 := (f 159 (by omega) (by omega)).2.2.1
  have e22 : B1 (138 + 22) = B 160 := (f 160 (by omega) (by omega)).2.2.2
  have ev : V1 138 = V 138 := (f 138 (by omega) (by omega)).1
  have hA1 : AV (A1 (138 + 1)) := by rw [e9]; exact hI.av
  have a140 : A1 140 = A 140 := (f 140 (by omega) (by omega)).2.2.1
  have a141 : A1 141 = A 141 := (f 141 (by omega) (by omega)).2.2.1
  refine WQ.st (fun _ _ kz => pw_aload2 dL_law_1583 kz) ?_
  refine WQ.st (fun _ _ kz => pw_aload0 dL_law_1584 kz) ?_
  refine WQ.st (fun _ _ kz => pw_iload3 dL_law_1585 kz) ?_
  refine WQ.st (fun _ _ kz => pw_iconst (v := 1) dL_law_1586 (by decide) kz) ?_
  refine WQ.st (fun _ _ kz => pw_iadd dL_law_1587 kz) ?_
  refine WQ.st (fun _ _ kz => pw_saload dL_law_1588 (sc_1 hi hn) kz) ?_
  refine WQ.st (fun _ _ kz => pw_aload0 dL_law_1589 kz) ?_
  refine WQ.st (fun _ _ kz => pw_iload3 dL_law_1590 kz) ?_
  refine WQ.st (fun _ _ kz => pw_iconst (v := 2) dL_law_1591 (by decide) kz) ?_
  refine WQ.st (fun _ _ kz => pw_iadd dL_law_1592 kz) ?_
  refine WQ.st (fun _ _ kz => pw_saload dL_law_1593 (sc_2 hi hn) kz) ?_
  refine WQ.st (fun _ _ kz => pw_aload0 dL_law_1594 kz) ?_
  refine WQ.st (fun _ _ kz => pw_iload3 dL_law_1595 kz) ?_
  refine WQ.st (fun _ _ kz => pw_iconst (v := 3) dL_law_1596 (by decide) kz) ?_
  refine WQ.st (fun _ _ kz => pw_iadd dL_law_1597 kz) ?_
  refine WQ.st (fun _ _ kz => pw_saload dL_law_1598 (sc_3 hi hn) kz) ?_
  refine WQ.st (fun _ _ kz => pw_i2l dL_law_1599 kz) ?_
  refine WQ.st (fun _ _ kz => pw_bipush (v := 32) dL_law_1600 (by decide) kz) ?_
  refine WQ.st (fun _ _ kz => pw_lshl dL_law_1602 kz) ?_
  refine WQ.st (fun _ _ kz => pw_aload0 dL_law_1603 kz) ?_
  refine WQ.st (fun _ _ kz => pw_iload3 dL_law_1604 kz) ?_
  refine WQ.st (fun _ _ kz => pw_iconst (v := 4) dL_law_1605 (by decide) kz) ?_
  refine WQ.st (fun _ _ kz => pw_iadd dL_law_1606 kz) ?_
  refine WQ.st (fun _ _ kz => pw_saload dL_law_1607 (sc_4 hi hn) kz) ?_
  refine WQ.st (fun _ _ kz => pw_i2l dL_law_1608 kz) ?_
  refine WQ.st (fun _ _ kz => pw_ldc2 kL_157 dL_law_1609 kz) ?_
  refine WQ.st (fun _ _ kz => pw_land dL_law_1612 kz) ?_
  refine WQ.st (fun _ _ kz => pw_lor dL_law_1613 kz) ?_
  obtain ⟨r2, h2, pw2, z2⟩ := (p_write (G := G) (d := 0) (V := V1) (A := A1) (B := B1) (Q := Q1) (t := t1) (sl := sl1) hF1 (by rw [e21]; exact hL.mn) (G.2.2.2.1.2.2 (nI i + 1).toNatClampNeg) (G.2.2.2.1.2.2 (nI i + 2).toNatClampNeg) ((((G.2.2.2.1.2.2 (nI i + 3).toNatClampNeg).toInt64 <<< ((32 : Int32).toInt64 &&& 63)) ||| ((G.2.2.2.1.2.2 (nI i + 4).toNatClampNeg).toInt64 &&& 4294967295)))).mn (by omega : 0 + 9 ≤ D)
  rcases z2 with ⟨g, rfl, V2, rfl, fp⟩ | ⟨g, g2, rfl, V2, rfl, fp⟩ | ⟨g, rfl, V2, B2, rfl, fp, fb⟩
  · rw [e20] at g
    have g : ¬ sp_nt (WL V A B).2.1 (G.2.2.2.1.2.2 (nI i + 1).toNatClampNeg).toInt = 0 := g
    rw [e20] at pw2
    have es : sp_wr (WL V A B) (G.2.2.2.1.2.2 (nI i + 1).toNatClampNeg) (G.2.2.2.1.2.2 (nI i + 2).toNatClampNeg) ((((G.2.2.2.1.2.2 (nI i + 3).toNatClampNeg).toInt64 <<< ((32 : Int32).toInt64 &&& 63)) ||| ((G.2.2.2.1.2.2 (nI i + 4).toNatClampNeg).toInt64 &&& 4294967295))) = ((sp_nt (A 158) (G.2.2.2.1.2.2 (nI i + 1).toNatClampNeg).toInt).toInt64, WL V A B) := by unfold sp_wr; rw [if_neg g] <;> rfl
    rw [es] at hI1 ⊢
    refine wq_o3i wX12_write lL_163 rfl dL_law_1614 hF1.1 (show WQ G D mX12_write 0 _ [] _ (fun r h1 => r = some _ ∧ h1 = _) from ⟨_, _, pw2, rfl, rfl⟩) rfl (Nat.le_of_ble_eq_true rfl) (Nat.le_of_ble_eq_true rfl) (fun h3 z3 => ?_)
    subst z3
    refine WQ.st (fun _ _ kz => pw_lcmp dL_law_1617 kz) ?_
    refine WQ.br (fun _ _ ka kb => pw_if_eq (tgt := 1745) dL_law_1618 (by decide) ka kb) (fun c => ?_) (fun c => absurd (lg_same _) c)
    exact kf t1 sl1 sh ls1 S1 V2 P1 A1 B1 Q1 (hL.refu hI1 hl1 fo rm fp)
  · rw [e20] at g
    rw [e21] at g2
    have g : sp_nt (WL V A B).2.1 (G.2.2.2.1.2.2 (nI i + 1).toNatClampNeg).toInt = 0 := g
    have g2 : ¬ (0 ≤ (G.2.2.2.1.2.2 (nI i + 2).toNatClampNeg).toInt ∧ (G.2.2.2.1.2.2 (nI i + 2).toNatClampNeg).toInt < ((WL V A B).2.2.1 (G.2.2.2.1.2.2 (nI i + 1).toNatClampNeg).toInt.toNat).toInt) := g2
    have es : sp_wr (WL V A B) (G.2.2.2.1.2.2 (nI i + 1).toNatClampNeg) (G.2.2.2.1.2.2 (nI i + 2).toNatClampNeg) ((((G.2.2.2.1.2.2 (nI i + 3).toNatClampNeg).toInt64 <<< ((32 : Int32).toInt64 &&& 63)) ||| ((G.2.2.2.1.2.2 (nI i + 4).toNatClampNeg).toInt64 &&& 4294967295))) = (-99000007, WL V A B) := by unfold sp_wr; rw [if_pos g, if_neg g2] <;> rfl
    rw [es] at hI1 ⊢
    refine wq_o3i wX12_write lL_163 rfl dL_law_1614 hF1.1 (show WQ G D mX12_write 0 _ [] _ (fun r h1 => r = some _ ∧ h1 = _) from ⟨_, _, pw2, rfl, rfl⟩) rfl (Nat.le_of_ble_eq_true rfl) (Nat.le_of_ble_eq_true rfl) (fun h3 z3 => ?_)
    subst z3
    refine WQ.st (fun _ _ kz => pw_lcmp dL_law_1617 kz) ?_
    refine WQ.br (fun _ _ ka kb => pw_if_eq (tgt := 1745) dL_law_1618 (by decide) ka kb) (fun c => ?_) (fun c => absurd (lg_same _) c)
    exact kf t1 sl1 sh ls1 S1 V2 P1 A1 B1 Q1 (hL.refu hI1 hl1 fo rm fp)
  · rw [e20, e21] at g
    rw [e20] at pw2 fb
    have g1 : sp_nt (WL V A B).2.1 (G.2.2.2.1.2.2 (nI i + 1).toNatClampNeg).toInt = 0 := g.1
    have g2 : 0 ≤ (G.2.2.2.1.2.2 (nI i + 2).toNatClampNeg).toInt ∧ (G.2.2.2.1.2.2 (nI i + 2).toNatClampNeg).toInt < ((WL V A B).2.2.1 (G.2.2.2.1.2.2 (nI i + 1).toNatClampNeg).toInt.toNat).toInt := g.2
    have es : sp_wr (WL V A B) (G.2.2.2.1.2.2 (nI i + 1).toNatClampNeg) (G.2.2.2.1.2.2 (nI i + 2).toNatClampNeg) ((((G.2.2.2.1.2.2 (nI i + 3).toNatClampNeg).toInt64 <<< ((32 : Int32).toInt64 &&& 63)) ||| ((G.2.2.2.1.2.2 (nI i + 4).toNatClampNeg).toInt64 &&& 4294967295))) = (rf_cut ((((G.2.2.2.1.2.2 (nI i + 3).toNatClampNeg).toInt64 <<< ((32 : Int32).toInt64 &&& 63)) ||| ((G.2.2.2.1.2.2 (nI i + 4).toNatClampNeg).toInt64 &&& 4294967295))) (A 158 (G.2.2.2.1.2.2 (nI i + 1).toNatClampNeg).toInt.toNat), (WL V A B).try (A 158) (A 159) (pm_up (B 160) (40 * (G.2.2.2.1.2.2 (nI i + 1).toNatClampNeg).toInt.toNat + (G.2.2.2.1.2.2 (nI i + 2).toNatClampNeg).toInt.toNat) (rf_cut ((((G.2.2.2.1.2.2 (nI i + 3).toNatClampNeg).toInt64 <<< ((32 : Int32).toInt64 &&& 63)) ||| ((G.2.2.2.1.2.2 (nI i + 4).toNatClampNeg).toInt64 &&& 4294967295))) (A 158 (G.2.2.2.1.2.2 (nI i + 1).toNatClampNeg).toInt.toNat)))) := by unfold sp_wr; rw [if_pos g1, if_pos g2] <;> rfl
    rw [es] at hI1 ⊢
    refine wq_o3i wX12_write lL_163 rfl dL_law_1614 hF1.1 (show WQ G D mX12_write 0 _ [] _ (fun r h1 => r = some _ ∧ h1 = _) from ⟨_, _, pw2, rfl, rfl⟩) rfl (Nat.le_of_ble_eq_true rfl) (Nat.le_of_ble_eq_true rfl) (fun h3 z3 => ?_)
    subst z3
    refine WQ.st (fun _ _ kz => pw_lcmp dL_law_1617 kz) ?_
    refine WQ.br (fun _ _ ka kb => pw_if_eq (tgt := 1745) dL_law_1618 (by decide) ka kb) (fun c => ?_) (fun c => absurd (lg_same _) c)
    have b1 : B2 160 = pm_up (B 160) (40 * (G.2.2.2.1.2.2 (nI i + 1).toNatClampNeg).toInt.toNat + (G.2.2.2.1.2.2 (nI i + 2).toNatClampNeg).toInt.toNat) (rf_cut ((((G.2.2.2.1.2.2 (nI i + 3).toNatClampNeg).toInt64 <<< ((32 : Int32).toInt64 &&& 63)) ||| ((G.2.2.2.1.2.2 (nI i + 4).toNatClampNeg).toInt64 &&& 4294967295))) (A 158 (G.2.2.2.1.2.2 (nI i + 1).toNatClampNeg).toInt.toNat)) := by
      rw [fb]
      show up2 B1 160 _ _ 160 = _
      rw [up2_at, show B1 160 = B 160 from e22]
    refine kf t1 sl1 sh ls1 S1 V2 P1 A1 B2 Q1 (hL.both hI1 hl1 fo (Room2.mo rm) fp.1 (fun _ _ => rfl) (fun x hx => by rw [fb]; exact up2_na (by omega)) e9 ?_ ?_ ?_)
    · unfold WL WT.try
      rw [b1, fp.2.1, fp.2.2.1, fp.2.2.2, ev, a140, a141, show A1 158 = A 158 from e20, show A1 159 = A 159 from e21]
    · rw [a141]; exact hL.tp
    · rw [show A1 159 = A 159 from e21]; exact hL.mn
set_option maxRecDepth 20000 in
theorem lc_lists {G : gT} {D k i t sl sh ls : Nat} {S : sS} {V : sV} {P : sP} {A : sV} {B : sB} {Q : sP} {Z : Option Value → Ph → Prop} (hL : LI S V P A B Q t sl sh ls k) (hk : k ≤ 600) (hi : i + 6 ≤ G.2.2.2.1.2.1) (hn : G.2.2.2.1.2.1 ≤ 3072) (hD : 150 ≤ D) (kf : LK G D Z k i) : WQ G D mL_law 1623 [some (.ref 0), some (.ref 8), some (.ref 138), some (.int (nI i))] [] (t, sl, gh S V P A B Q) Z := by
  have hI := hL.ci
  have hls : ls + 1000 < 2000000000 := by have := hL.lb; omega
  have hC := hI.de.dc.ka.cf
  obtain ⟨D, rfl⟩ : ∃ D', D = D' + 1 := ⟨D - 1, by omega⟩
  refine WQ.st (fun _ _ kz => pw_aload1 dL_law_1623 kz) ?_
  refine WQ.st (fun _ _ kz => pw_aload0 dL_law_1624 kz) ?_
  refine WQ.st (fun _ _ kz => pw_iload3 dL_law_1625 kz) ?_
  refine WQ.st (fun _ _ kz => pw_iconst (v := 1) dL_law_1626 (by decide) kz) ?_
  refine WQ.st (fun _ _ kz => pw_iadd dL_law_1627 kz) ?_
  refine WQ.st (fun _ _ kz => pw_saload dL_law_1628 (sc_1 hi hn) kz) ?_
  refine WQ.st (fun _ _ kz => pw_aload0 dL_law_1629 kz) ?_
  refine WQ.st (fun _ _ kz => pw_iload3 dL_law_1630 kz) ?_
  refine WQ.st (fun _ _ kz => pw_iconst (v := 2) dL_law_1631 (by decide) kz) ?_
  refine WQ.st (fun _ _ kz => pw_iadd dL_law_1632 kz) ?_
  refine WQ.st (fun _ _ kz => pw_saload dL_law_1633 (sc_2 hi hn) kz) ?_
  refine WQ.st (fun _ _ kz => pw_aload0 dL_law_1634 kz) ?_
  refine WQ.st (fun _ _ kz => pw_iload3 dL_law_1635 kz) ?_
  refine WQ.st (fun _ _ kz => pw_iconst (v := 3) dL_law_1636 (by decide) kz) ?_
  refine WQ.st (fun _ _ kz => pw_iadd dL_law_1637 kz) ?_
  refine WQ.st (fun _ _ kz => pw_saload dL_law_1638 (sc_3 hi hn) kz) ?_
  refine WQ.st (fun _ _ kz => pw_aload0 dL_law_1639 kz) ?_
  refine WQ.st (fun _ _ kz => pw_iload3 dL_law_1640 kz) ?_
  refine WQ.st (fun _ _ kz => pw_iconst (v := 4) dL_law_1641 (by decide) kz) ?_
  refine WQ.st (fun _ _ kz => pw_iadd dL_law_1642 kz) ?_
  refine WQ.st (fun _ _ kz => pw_saload dL_law_1643 (sc_4 hi hn) kz) ?_
  refine wq_o4i wX11_lists lL_164 rfl dL_law_1644 (cf_s8 hC) ((q_lists (G := G) (sl := sl) (d := 0) hI hls (G.2.2.2.1.2.2 (nI i + 1).toNatClampNeg) (G.2.2.2.1.2.2 (nI i + 2).toNatClampNeg) (G.2.2.2.1.2.2 (nI i + 3).toNatClampNeg) (G.2.2.2.1.2.2 (nI i + 4).toNatClampNeg)).mn (by omega)) rfl (Nat.le_of_ble_eq_true rfl) (Nat.le_of_ble_eq_true rfl) (fun h1 z1 => ?_)
  obtain ⟨t1, sl1, ls1, S1, V1, P1, A1, B1, Q1, rfl, hI1, hl1, fo, rm⟩ := z1
  have f := fo.2.2
  have ht := hI.de.dc.ka.st.2
  have hF1 : MF S1 P1 138 := hL.mf.fr (fun x hx => fo.2.1 x (by omega)) (f 138 (by omega) (by omega)).2.1
  have e9 : A1 (138 + 1) = A 139 := (f 139 (by omega) (by omega)).2.2.1
  have e20 : A1 (138 + 20) = A 158 := (f 158 (by omega) (by omega)).2.2.1
  have e21 : A1 (138 + 21) = A 159 := (f 159 (by omega) (by omega)).2.2.1
  have e22 : B1 (138 + 22) = B 160 := (f 160 (by omega) (by omega)).2.2.2
  have ev : V1 138 = V 138 := (f 138 (by omega) (by omega)).1
  have hA1 : AV (A1 (138 + 1)) := by rw [e9]; exact hI.av
  have a140 : A1 140 = A 140 := (f 140 (by omega) (by omega)).2.2.1
  have a141 : A1 141 = A 141 := (f 141 (by omega) (by omega)).2.2.1
  refine WQ.st (fun _ _ kz => pw_aload2 dL_law_1647 kz) ?_
  refine WQ.st (fun _ _ kz => pw_aload0 dL_law_1648 kz) ?_
  refine WQ.st (fun _ _ kz => pw_iload3 dL_law_1649 kz) ?_
  refine WQ.st (fun _ _ kz => pw_iconst (v := 1) dL_law_1650 (by decide) kz) ?_
  refine WQ.st (fun _ _ kz => pw_iadd dL_law_1651 kz) ?_
  refine WQ.st (fun _ _ kz => pw_saload dL_law_1652 (sc_1 hi hn) kz) ?_
  refine WQ.st (fun _ _ kz => pw_aload0 dL_law_1653 kz) ?_
  refine WQ.st (fun _ _ kz => pw_iload3 dL_law_1654 kz) ?_
  refine WQ.st (fun _ _ kz => pw_iconst (v := 2) dL_law_1655 (by decide) kz) ?_
  refine WQ.st (fun _ _ kz => pw_iadd dL_law_1656 kz) ?_
  refine WQ.st (fun _ _ kz => pw_saload dL_law_1657 (sc_2 hi hn) kz) ?_
  refine WQ.st (fun _ _ kz => pw_aload0 dL_law_1658 kz) ?_
  refine WQ.st (fun _ _ kz => pw_iload3 dL_law_1659 kz) ?_
  refine WQ.st (fun _ _ kz => pw_iconst (v := 3) dL_law_1660 (by decide) kz) ?_
  refine WQ.st (fun _ _ kz => pw_iadd dL_law_1661 kz) ?_
  refine WQ.st (fun _ _ kz => pw_saload dL_law_1662 (sc_3 hi hn) kz) ?_
  refine WQ.st (fun _ _ kz => pw_aload0 dL_law_1663 kz) ?_
  refine WQ.st (fun _ _ kz => pw_iload3 dL_law_1664 kz) ?_
  refine WQ.st (fun _ _ kz => pw_iconst (v := 4) dL_law_1665 (by decide) kz) ?_
  refine WQ.st (fun _ _ kz => pw_iadd dL_law_1666 kz) ?_
  refine WQ.st (fun _ _ kz => pw_saload dL_law_1667 (sc_4 hi hn) kz) ?_
  obtain ⟨r2, h2, pw2, z2⟩ := (p_lists (G := G) (d := 0) (V := V1) (A := A1) (B := B1) (Q := Q1) (t := t1) (sl := sl1) hF1 hA1 (by rw [e21]; exact hL.mn) (G.2.2.2.1.2.2 (nI i + 1).toNatClampNeg) (G.2.2.2.1.2.2 (nI i + 2).toNatClampNeg) (G.2.2.2.1.2.2 (nI i + 3).toNatClampNeg) (G.2.2.2.1.2.2 (nI i + 4).toNatClampNeg)).mn (by omega : 0 + 9 ≤ D)
  rcases z2 with ⟨g, rfl, V2, A2, rfl, fp, fq⟩ | ⟨g, rfl, V2, A2, B2, rfl, fp, fq, fb1, fb2⟩
  · rw [e9, e20] at g pw2
    have g : ¬ sp_liR (A 139) (WL V A B).2.1 (G.2.2.2.1.2.2 (nI i + 1).toNatClampNeg).toInt (G.2.2.2.1.2.2 (nI i + 2).toNatClampNeg).toInt (G.2.2.2.1.2.2 (nI i + 3).toNatClampNeg).toInt (G.2.2.2.1.2.2 (nI i + 4).toNatClampNeg) = 0 := g
    have es : sp_li (A 139) (WL V A B) (G.2.2.2.1.2.2 (nI i + 1).toNatClampNeg) (G.2.2.2.1.2.2 (nI i + 2).toNatClampNeg) (G.2.2.2.1.2.2 (nI i + 3).toNatClampNeg) (G.2.2.2.1.2.2 (nI i + 4).toNatClampNeg) = (sp_liR (A 139) (A 158) (G.2.2.2.1.2.2 (nI i + 1).toNatClampNeg).toInt (G.2.2.2.1.2.2 (nI i + 2).toNatClampNeg).toInt (G.2.2.2.1.2.2 (nI i + 3).toNatClampNeg).toInt (G.2.2.2.1.2.2 (nI i + 4).toNatClampNeg), WL V A B) := by unfold sp_li; rw [if_neg g] <;> rfl
    rw [es] at hI1 ⊢
    refine wq_o4i wX12_lists lL_167 rfl dL_law_1668 hF1.1 (show WQ G D mX12_lists 0 _ [] _ (fun r h1 => r = some _ ∧ h1 = _) from ⟨_, _, pw2, rfl, rfl⟩) rfl (Nat.le_of_ble_eq_true rfl) (Nat.le_of_ble_eq_true rfl) (fun h3 z3 => ?_)
    subst z3
    refine WQ.br (fun _ _ ka kb => pw_icmp_eq (tgt := 1745) dL_law_1671 (by decide) ka kb) (fun c => ?_) (fun c => absurd rfl c)
    exact kf t1 sl1 sh ls1 S1 V2 P1 A2 B1 Q1 (hL.simple hI1 hl1 fo rm fp (by rw [← e9, pm_up_self]; exact fq) (fun _ _ _ => rfl))
  · rw [e9, e20] at g
    rw [e9, e21] at pw2 fb2
    have g : sp_liR (A 139) (WL V A B).2.1 (G.2.2.2.1.2.2 (nI i + 1).toNatClampNeg).toInt (G.2.2.2.1.2.2 (nI i + 2).toNatClampNeg).toInt (G.2.2.2.1.2.2 (nI i + 3).toNatClampNeg).toInt (G.2.2.2.1.2.2 (nI i + 4).toNatClampNeg) = 0 := g
    have es : sp_li (A 139) (WL V A B) (G.2.2.2.1.2.2 (nI i + 1).toNatClampNeg) (G.2.2.2.1.2.2 (nI i + 2).toNatClampNeg) (G.2.2.2.1.2.2 (nI i + 3).toNatClampNeg) (G.2.2.2.1.2.2 (nI i + 4).toNatClampNeg) = (nI (liM (A 139) (A 159) (G.2.2.2.1.2.2 (nI i + 1).toNatClampNeg).toInt.toNat (G.2.2.2.1.2.2 (nI i + 3).toNatClampNeg).toInt.toNat), (WL V A B).try (A 158) (A 159) (nbR (B 160) (40 * (G.2.2.2.1.2.2 (nI i + 1).toNatClampNeg).toInt.toNat) (fun k => (dI (bsS (A 139) (G.2.2.2.1.2.2 (nI i + 2).toNatClampNeg).toInt.toNat (G.2.2.2.1.2.2 (nI i + 3).toNatClampNeg).toInt.toNat (G.2.2.2.1.2.2 (nI i + 4).toNatClampNeg) (k + 1)).1).toInt64) (liM (A 139) (A 159) (G.2.2.2.1.2.2 (nI i + 1).toNatClampNeg).toInt.toNat (G.2.2.2.1.2.2 (nI i + 3).toNatClampNeg).toInt.toNat))) := by unfold sp_li; rw [if_pos g] <;> rfl
    rw [es] at hI1 ⊢
    refine wq_o4i wX12_lists lL_167 rfl dL_law_1668 hF1.1 (show WQ G D mX12_lists 0 _ [] _ (fun r h1 => r = some _ ∧ h1 = _) from ⟨_, _, pw2, rfl, rfl⟩) rfl (Nat.le_of_ble_eq_true rfl) (Nat.le_of_ble_eq_true rfl) (fun h3 z3 => ?_)
    subst z3
    refine WQ.br (fun _ _ ka kb => pw_icmp_eq (tgt := 1745) dL_law_1671 (by decide) ka kb) (fun c => ?_) (fun c => absurd rfl c)
    have b1 : B2 160 = (nbR (B 160) (40 * (G.2.2.2.1.2.2 (nI i + 1).toNatClampNeg).toInt.toNat) (fun k => (dI (bsS (A 139) (G.2.2.2.1.2.2 (nI i + 2).toNatClampNeg).toInt.toNat (G.2.2.2.1.2.2 (nI i + 3).toNatClampNeg).toInt.toNat (G.2.2.2.1.2.2 (nI i + 4).toNatClampNeg) (k + 1)).1).toInt64) (liM (A 139) (A 159) (G.2.2.2.1.2.2 (nI i + 1).toNatClampNeg).toInt.toNat (G.2.2.2.1.2.2 (nI i + 3).toNatClampNeg).toInt.toNat)) := by
      funext i
      rw [fb2 i, e22]
      rfl
    have a : ∀ x, x = 139 ∨ x = 140 ∨ x = 141 ∨ x = 158 ∨ x = 159 → A2 x = A x := fun x hx => by
      rw [fq x (by omega)]
      exact (f x (by omega) (by omega)).2.2.1
    refine kf t1 sl1 sh ls1 S1 V2 P1 A2 B2 Q1 (hL.both hI1 hl1 fo (Room2.mo rm) fp.1 (fun x hx => fq x (by omega)) (fun x hx => fb1 x (by omega)) (a 139 (by omega)) ?_ ?_ ?_)
    · unfold WL WT.try
      rw [b1, fp.2.1, fp.2.2.1, fp.2.2.2, ev, a 140 (by omega), a 141 (by omega), a 158 (by omega), a 159 (by omega)]
    · rw [a 141 (by omega)]; exact hL.tp
    · rw [a 159 (by omega)]; exact hL.mn
theorem fdb_b (v : Int32) (k : Nat) : 0 ≤ (fdb v k).toInt ∧ (fdb v k).toInt ≤ 255 := by
  unfold fdb
  generalize v >>> (nI (24 - 8 * (k % 4)) &&& 31) = w
  have h : (w &&& 255).toBitVec = w.toBitVec &&& 255#32 := rfl
  have h1 : (w.toBitVec &&& 255#32).toNat ≤ 255 := by
    rw [BitVec.toNat_and]
    exact Nat.and_le_right
  have h2 : (w &&& 255).toInt = ((w.toBitVec &&& 255#32).toNat : Int) := by
    show (w &&& 255).toBitVec.toInt = _
    rw [h]
    exact BitVec.toInt_eq_toNat_of_lt (by omega)
  rw [h2]
  omega
set_option maxRecDepth 20000 in
theorem lc_feed {G : gT} {D k i t sl sh ls : Nat} {S : sS} {V : sV} {P : sP} {A : sV} {B : sB} {Q : sP} {Z : Option Value → Ph → Prop} (hL : LI S V P A B Q t sl sh ls k) (hk : k ≤ 600) (hi : i + 6 ≤ G.2.2.2.1.2.1) (hn : G.2.2.2.1.2.1 ≤ 3072) (hD : 150 ≤ D) (kf : LK G D Z k i) : WQ G D mL_law 204 [some (.ref 0), some (.ref 8), some (.ref 138), some (.int (nI i))] [] (t, sl, gh S V P A B Q) Z := by
  have hI := hL.ci
  have hls : ls + 1000 < 2000000000 := by have := hL.lb; omega
  have hC := hI.de.dc.ka.cf
  obtain ⟨D, rfl⟩ : ∃ D', D = D' + 1 := ⟨D - 1, by omega⟩
  refine WQ.st (fun _ _ kz => pw_aload1 dL_law_204 kz) ?_
  refine WQ.st (fun _ _ kz => pw_aload0 dL_law_205 kz) ?_
  refine WQ.st (fun _ _ kz => pw_iload3 dL_law_206 kz) ?_
  refine WQ.st (fun _ _ kz => pw_iconst (v := 1) dL_law_207 (by decide) kz) ?_
  refine WQ.st (fun _ _ kz => pw_iadd dL_law_208 kz) ?_
  refine WQ.st (fun _ _ kz => pw_saload dL_law_209 (sc_1 hi hn) kz) ?_
  refine WQ.st (fun _ _ kz => pw_aload0 dL_law_210 kz) ?_
  refine WQ.st (fun _ _ kz => pw_iload3 dL_law_211 kz) ?_
  refine WQ.st (fun _ _ kz => pw_iconst (v := 2) dL_law_212 (by decide) kz) ?_
  refine WQ.st (fun _ _ kz => pw_iadd dL_law_213 kz) ?_
  refine WQ.st (fun _ _ kz => pw_saload dL_law_214 (sc_2 hi hn) kz) ?_
  refine WQ.st (fun _ _ kz => pw_aload0 dL_law_215 kz) ?_
  refine WQ.st (fun _ _ kz => pw_iload3 dL_law_216 kz) ?_
  refine WQ.st (fun _ _ kz => pw_iconst (v := 3) dL_law_217 (by decide) kz) ?_
  refine WQ.st (fun _ _ kz => pw_iadd dL_law_218 kz) ?_
  refine WQ.st (fun _ _ kz => pw_saload dL_law_219 (sc_3 hi hn) kz) ?_
  refine WQ.st (fun _ _ kz => pw_aload0 dL_law_220 kz) ?_
  refine WQ.st (fun _ _ kz => pw_iload3 dL_law_221 kz) ?_
  refine WQ.st (fun _ _ kz => pw_iconst (v := 4) dL_law_222 (by decide) kz) ?_
  refine WQ.st (fun _ _ kz => pw_iadd dL_law_223 kz) ?_
  refine WQ.st (fun _ _ kz => pw_saload dL_law_224 (sc_4 hi hn) kz) ?_
  refine WQ.st (fun _ _ kz => pw_aload0 dL_law_225 kz) ?_
  refine WQ.st (fun _ _ kz => pw_iload3 dL_law_226 kz) ?_
  refine WQ.st (fun _ _ kz => pw_iconst (v := 5) dL_law_227 (by decide) kz) ?_
  refine WQ.st (fun _ _ kz => pw_iadd dL_law_228 kz) ?_
  refine WQ.st (fun _ _ kz => pw_saload dL_law_229 (sc_5 hi hn) kz) ?_
  refine wq_o5i wX11_feed lL_13 rfl dL_law_230 (cf_s8 hC) ((q_feed (G := G) (sl := sl) (d := 0) hI hls (G.2.2.2.1.2.2 (nI i + 1).toNatClampNeg) (G.2.2.2.1.2.2 (nI i + 2).toNatClampNeg) (G.2.2.2.1.2.2 (nI i + 3).toNatClampNeg) (G.2.2.2.1.2.2 (nI i + 4).toNatClampNeg) (G.2.2.2.1.2.2 (nI i + 5).toNatClampNeg)).mn (by omega)) rfl (Nat.le_of_ble_eq_true rfl) (Nat.le_of_ble_eq_true rfl) (fun h1 z1 => ?_)
  obtain ⟨t1, sl1, ls1, S1, V1, P1, A1, B1, Q1, rfl, hI1, hl1, fo, rm⟩ := z1
  have f := fo.2.2
  have ht := hI.de.dc.ka.st.2
  have hF1 : MF S1 P1 138 := hL.mf.fr (fun x hx => fo.2.1 x (by omega)) (f 138 (by omega) (by omega)).2.1
  have e9 : A1 (138 + 1) = A 139 := (f 139 (by omega) (by omega)).2.2.1
  have e20 : A1 (138 + 20) = A 158 := (f 158 (by omega) (by omega)).2.2.1
  have e21 : A1 (138 + 21) = A 159 := (f 159 (by omega) (by omega)).2.2.1
  have e22 : B1 (138 + 22) = B 160 := (f 160 (by omega) (by omega)).2.2.2
  have ev : V1 138 = V 138 := (f 138 (by omega) (by omega)).1
  have hA1 : AV (A1 (138 + 1)) := by rw [e9]; exact hI.av
  have a140 : A1 140 = A 140 := (f 140 (by omega) (by omega)).2.2.1
  have a141 : A1 141 = A 141 := (f 141 (by omega) (by omega)).2.2.1
  refine WQ.st (fun _ _ kz => pw_aload2 dL_law_233 kz) ?_
  refine WQ.st (fun _ _ kz => pw_aload0 dL_law_234 kz) ?_
  refine WQ.st (fun _ _ kz => pw_iload3 dL_law_235 kz) ?_
  refine WQ.st (fun _ _ kz => pw_iconst (v := 1) dL_law_236 (by decide) kz) ?_
  refine WQ.st (fun _ _ kz => pw_iadd dL_law_237 kz) ?_
  refine WQ.st (fun _ _ kz => pw_saload dL_law_238 (sc_1 hi hn) kz) ?_
  refine WQ.st (fun _ _ kz => pw_aload0 dL_law_239 kz) ?_
  refine WQ.st (fun _ _ kz => pw_iload3 dL_law_240 kz) ?_
  refine WQ.st (fun _ _ kz => pw_iconst (v := 2) dL_law_241 (by decide) kz) ?_
  refine WQ.st (fun _ _ kz => pw_iadd dL_law_242 kz) ?_
  refine WQ.st (fun _ _ kz => pw_saload dL_law_243 (sc_2 hi hn) kz) ?_
  refine WQ.st (fun _ _ kz => pw_aload0 dL_law_244 kz) ?_
  refine WQ.st (fun _ _ kz => pw_iload3 dL_law_245 kz) ?_
  refine WQ.st (fun _ _ kz => pw_iconst (v := 3) dL_law_246 (by decide) kz) ?_
  refine WQ.st (fun _ _ kz => pw_iadd dL_law_247 kz) ?_
  refine WQ.st (fun _ _ kz => pw_saload dL_law_248 (sc_3 hi hn) kz) ?_
  refine WQ.st (fun _ _ kz => pw_aload0 dL_law_249 kz) ?_
  refine WQ.st (fun _ _ kz => pw_iload3 dL_law_250 kz) ?_
  refine WQ.st (fun _ _ kz => pw_iconst (v := 4) dL_law_251 (by decide) kz) ?_
  refine WQ.st (fun _ _ kz => pw_iadd dL_law_252 kz) ?_
  refine WQ.st (fun _ _ kz => pw_saload dL_law_253 (sc_4 hi hn) kz) ?_
  refine WQ.st (fun _ _ kz => pw_aload0 dL_law_254 kz) ?_
  refine WQ.st (fun _ _ kz => pw_iload3 dL_law_255 kz) ?_
  refine WQ.st (fun _ _ kz => pw_iconst (v := 5) dL_law_256 (by decide) kz) ?_
  refine WQ.st (fun _ _ kz => pw_iadd dL_law_257 kz) ?_
  refine WQ.st (fun _ _ kz => pw_saload dL_law_258 (sc_5 hi hn) kz) ?_
  obtain ⟨r2, h2, pw2, z2⟩ := (p_feed (G := G) (d := 0) (V := V1) (A := A1) (B := B1) (Q := Q1) (t := t1) (sl := sl1) hF1 (by rw [ev]; exact hL.tl) (G.2.2.2.1.2.2 (nI i + 1).toNatClampNeg) (G.2.2.2.1.2.2 (nI i + 2).toNatClampNeg) (G.2.2.2.1.2.2 (nI i + 3).toNatClampNeg) (G.2.2.2.1.2.2 (nI i + 4).toNatClampNeg) (G.2.2.2.1.2.2 (nI i + 5).toNatClampNeg)).mn (by omega : 0 ≤ D)
  rcases z2 with ⟨g, rfl, V2, A2, rfl, fp, rfl⟩ | ⟨g, rfl, V2, A2, rfl, fv, fa, fg⟩
  · rw [ev] at g
    have g : ¬ (WL V A B).2.2.2.2.1.toInt + 20 ≤ 900 := g
    have es : sp_fd (WL V A B) (G.2.2.2.1.2.2 (nI i + 1).toNatClampNeg) (G.2.2.2.1.2.2 (nI i + 2).toNatClampNeg) (G.2.2.2.1.2.2 (nI i + 3).toNatClampNeg) (G.2.2.2.1.2.2 (nI i + 4).toNatClampNeg) (G.2.2.2.1.2.2 (nI i + 5).toNatClampNeg) = (-99000005, WL V A B) := by unfold sp_fd; rw [if_neg g] <;> rfl
    rw [es] at hI1 ⊢
    refine wq_o5i wX12_feed lL_17 rfl dL_law_259 hF1.1 (show WQ G D mX12_feed 0 _ [] _ (fun r h1 => r = some _ ∧ h1 = _) from ⟨_, _, pw2, rfl, rfl⟩) rfl (Nat.le_of_ble_eq_true rfl) (Nat.le_of_ble_eq_true rfl) (fun h3 z3 => ?_)
    subst z3
    refine WQ.br (fun _ _ ka kb => pw_icmp_eq (tgt := 1745) dL_law_262 (by decide) ka kb) (fun c => ?_) (fun c => absurd rfl c)
    exact kf t1 sl1 sh ls1 S1 V2 P1 _ B1 Q1 (hL.refu hI1 hl1 fo rm fp)
  · rw [ev] at g pw2 fv fg
    have g2 : (WL V A B).2.2.2.2.1.toInt + 20 ≤ 900 := g
    have es : sp_fd (WL V A B) (G.2.2.2.1.2.2 (nI i + 1).toNatClampNeg) (G.2.2.2.1.2.2 (nI i + 2).toNatClampNeg) (G.2.2.2.1.2.2 (nI i + 3).toNatClampNeg) (G.2.2.2.1.2.2 (nI i + 4).toNatClampNeg) (G.2.2.2.1.2.2 (nI i + 5).toNatClampNeg) = (nI ((V 138 5).toInt.toNat + 20), (WL V A B).tape (nI ((V 138 5).toInt.toNat + 20)) (fun w => if (V 138 5).toInt.toNat ≤ w ∧ w < (V 138 5).toInt.toNat + 20 then btB (fdb (fdv (G.2.2.2.1.2.2 (nI i + 1).toNatClampNeg) (G.2.2.2.1.2.2 (nI i + 2).toNatClampNeg) (G.2.2.2.1.2.2 (nI i + 3).toNatClampNeg) (G.2.2.2.1.2.2 (nI i + 4).toNatClampNeg) (G.2.2.2.1.2.2 (nI i + 5).toNatClampNeg) (w - (V 138 5).toInt.toNat)) (w - (V 138 5).toInt.toNat)) else btB (A 141 w))) := by unfold sp_fd; rw [if_pos g2] <;> rfl
    rw [es] at hI1 ⊢
    refine wq_o5i wX12_feed lL_17 rfl dL_law_259 hF1.1 (show WQ G D mX12_feed 0 _ [] _ (fun r h1 => r = some _ ∧ h1 = _) from ⟨_, _, pw2, rfl, rfl⟩) rfl (Nat.le_of_ble_eq_true rfl) (Nat.le_of_ble_eq_true rfl) (fun h3 z3 => ?_)
    subst z3
    refine WQ.br (fun _ _ ka kb => pw_icmp_eq (tgt := 1745) dL_law_262 (by decide) ka kb) (fun c => ?_) (fun c => absurd rfl c)
    have fg : ∀ w, A2 141 w = if (V 138 5).toInt.toNat ≤ w ∧ w < (V 138 5).toInt.toNat + 20 then fdb (fdv (G.2.2.2.1.2.2 (nI i + 1).toNatClampNeg) (G.2.2.2.1.2.2 (nI i + 2).toNatClampNeg) (G.2.2.2.1.2.2 (nI i + 3).toNatClampNeg) (G.2.2.2.1.2.2 (nI i + 4).toNatClampNeg) (G.2.2.2.1.2.2 (nI i + 5).toNatClampNeg) (w - (V 138 5).toInt.toNat)) (w - (V 138 5).toInt.toNat) else A 141 w := fun w => by
      rw [← a141]; exact fg w
    have v2 : V2 138 = pm_up (up2 V1 138 0 0 138) 5 (nI ((V 138 5).toInt.toNat + 20)) := by rw [fv, up2_at]
    refine kf t1 sl1 sh ls1 S1 V2 P1 A2 B1 Q1 (hL.both hI1 hl1 fo (Room2.mo rm) (fun x hx => by rw [fv, up2_na hx, up2_na hx]) (fun x hx => fa x (by omega)) (fun _ _ => rfl) ?_ ?_ ?_ ?_)
    · rw [fa 139 (by omega)]; exact e9
    · unfold WL WT.tape
      have et : (fun w => btB (A2 141 w)) = (fun w => if (V 138 5).toInt.toNat ≤ w ∧ w < (V 138 5).toInt.toNat + 20 then btB (fdb (fdv (G.2.2.2.1.2.2 (nI i + 1).toNatClampNeg) (G.2.2.2.1.2.2 (nI i + 2).toNatClampNeg) (G.2.2.2.1.2.2 (nI i + 3).toNatClampNeg) (G.2.2.2.1.2.2 (nI i + 4).toNatClampNeg) (G.2.2.2.1.2.2 (nI i + 5).toNatClampNeg) (w - (V 138 5).toInt.toNat)) (w - (V 138 5).toInt.toNat)) else btB (A 141 w)) := by
        funext w
        rw [fg w]
        by_cases c : (V 138 5).toInt.toNat ≤ w ∧ w < (V 138 5).toInt.toNat + 20
        · rw [if_pos c, if_pos c]
        · rw [if_neg c, if_neg c]
      rw [et, v2, pm_up_eq, pm_up_ne (by omega), pm_up_ne (by omega), up2_nk (by omega), up2_nk (by omega), ev, fa 140 (by omega), fa 158 (by omega), fa 159 (by omega), a140, show A1 158 = A 158 from e20, show A1 159 = A 159 from e21, show B1 160 = B 160 from e22]
    · intro w hi9
      rw [fg w]
      by_cases c : (V 138 5).toInt.toNat ≤ w ∧ w < (V 138 5).toInt.toNat + 20
      · rw [if_pos c]; exact fdb_b _ _
      · rw [if_neg c]; exact hL.tp w hi9
    · rw [fa 159 (by omega), show A1 159 = A 159 from e21]; exact hL.mn
