set_option maxRecDepth 20000 in
theorem lc_judge {G : gT} {D k i t sl sh ls : Nat} {S : sS} {V : sV} {P : sP} {A : sV} {B : sB} {Q : sP} {Z : Option Value → Ph → Prop} (hL : LI S V P A B Q t sl sh ls k) (hk : k ≤ 600) (hi : i + 6 ≤ G.2.2.2.1.2.1) (hn : G.2.2.2.1.2.1 ≤ 3072) (hD : 150 ≤ D) (kf : LK G D Z k i) : WQ G D mL_law 643 [some (.ref 0), some (.ref 8), some (.ref 138), some (.int (nI i))] [] (t, sl, gh S V P A B Q) Z := by
  have hI := hL.ci
  have hls : ls + 1000 < 2000000000 := by have := hL.lb; omega
  have hC := hI.de.dc.ka.cf
  obtain ⟨D, rfl⟩ : ∃ D', D = D' + 1 := ⟨D - 1, by omega⟩
  refine WQ.st (fun _ _ kz => pw_aload1 dL_law_643 kz) ?_
  refine WQ.st (fun _ _ kz => pw_aload0 dL_law_644 kz) ?_
  refine WQ.st (fun _ _ kz => pw_iload3 dL_law_645 kz) ?_
  refine WQ.st (fun _ _ kz => pw_iconst (v := 1) dL_law_646 (by decide) kz) ?_
  refine WQ.st (fun _ _ kz => pw_iadd dL_law_647 kz) ?_
  refine WQ.st (fun _ _ kz => pw_saload dL_law_648 (sc_1 hi hn) kz) ?_
  refine WQ.st (fun _ _ kz => pw_aload0 dL_law_649 kz) ?_
  refine WQ.st (fun _ _ kz => pw_iload3 dL_law_650 kz) ?_
  refine WQ.st (fun _ _ kz => pw_iconst (v := 2) dL_law_651 (by decide) kz) ?_
  refine WQ.st (fun _ _ kz => pw_iadd dL_law_652 kz) ?_
  refine WQ.st (fun _ _ kz => pw_saload dL_law_653 (sc_2 hi hn) kz) ?_
  refine wq_o2i wX11_judge lL_70 rfl dL_law_654 (cf_s8 hC) ((q_judge (G := G) (sl := sl) (d := 0) hI hls (G.2.2.2.1.2.2 (nI i + 1).toNatClampNeg) (G.2.2.2.1.2.2 (nI i + 2).toNatClampNeg)).mn (by omega)) rfl (Nat.le_of_ble_eq_true rfl) (Nat.le_of_ble_eq_true rfl) (fun h1 z1 => ?_)
  obtain ⟨t1, sl1, ls1, S1, V1, P1, A1, B1, Q1, rfl, hI1, hl1, fo, rm⟩ := z1
  have f := fo.2.2
  have ht := hI.de.dc.ka.st.2
  have hF1 : MF S1 P1 138 := hL.mf.fr (fun x hx => fo.2.1 x (by omega)) (f 138 (by omega) (by omega)).2.1
  have e9 : A1 (138 + 1) = A 139 := (f 139 (by omega) (by omega)).2.2.1
  have e20 : A1 (138 + 20) = A 158 := (f 158 (by omega) (by omega)).2.2.1
  have e21 : A1 (138 + 21) = A 159 := (f 159 (by omega) (by omega)).2.2.1
  have e22 : B1 (138 + 22) = B 160 := (f 160 (by omega) (by omega)).2.2.2
  have ev : V1 138 = V 138 := (f 138 (by omega) (by omega)).1
  have hA1 : AV (A1 (138 + 1)) := by rw [e9]; exact hI.av
  refine WQ.st (fun _ _ kz => pw_aload2 dL_law_657 kz) ?_
  refine WQ.st (fun _ _ kz => pw_aload0 dL_law_658 kz) ?_
  refine WQ.st (fun _ _ kz => pw_iload3 dL_law_659 kz) ?_
  refine WQ.st (fun _ _ kz => pw_iconst (v := 1) dL_law_660 (by decide) kz) ?_
  refine WQ.st (fun _ _ kz => pw_iadd dL_law_661 kz) ?_
  refine WQ.st (fun _ _ kz => pw_saload dL_law_662 (sc_1 hi hn) kz) ?_
  refine WQ.st (fun _ _ kz => pw_aload0 dL_law_663 kz) ?_
  refine WQ.st (fun _ _ kz => pw_iload3 dL_law_664 kz) ?_
  refine WQ.st (fun _ _ kz => pw_iconst (v := 2) dL_law_665 (by decide) kz) ?_
  refine WQ.st (fun _ _ kz => pw_iadd dL_law_666 kz) ?_
  refine WQ.st (fun _ _ kz => pw_saload dL_law_667 (sc_2 hi hn) kz) ?_
  have pc := p_judge (G := G) (d := 0) (V := V1) (A := A1) (B := B1) (Q := Q1) (t := t1) (sl := sl1) hF1 hA1 (by rw [e21]; exact hL.mn) (G.2.2.2.1.2.2 (nI i + 1).toNatClampNeg) (G.2.2.2.1.2.2 (nI i + 2).toNatClampNeg)
  rw [e9, e20, e21, e22] at pc
  refine wq_o2i wX12_judge lL_73 rfl dL_law_668 hF1.1 (pc.mn (by omega)) rfl (Nat.le_of_ble_eq_true rfl) (Nat.le_of_ble_eq_true rfl) (fun h2 z2 => ?_)
  obtain ⟨V2, A2, B2, rfl, fp, fq, fb⟩ := z2
  refine WQ.br (fun _ _ ka kb => pw_icmp_eq (tgt := 1745) dL_law_671 (by decide) ka kb) (fun c => ?_) (fun c => absurd rfl c)
  exact kf t1 sl1 sh ls1 S1 V2 P1 A2 B2 Q1 (hL.simple hI1 hl1 fo rm fp fq fb)
set_option maxRecDepth 20000 in
theorem lc_does {G : gT} {D k i t sl sh ls : Nat} {S : sS} {V : sV} {P : sP} {A : sV} {B : sB} {Q : sP} {Z : Option Value → Ph → Prop} (hL : LI S V P A B Q t sl sh ls k) (hk : k ≤ 600) (hi : i + 6 ≤ G.2.2.2.1.2.1) (hn : G.2.2.2.1.2.1 ≤ 3072) (hD : 150 ≤ D) (kf : LK G D Z k i) : WQ G D mL_law 676 [some (.ref 0), some (.ref 8), some (.ref 138), some (.int (nI i))] [] (t, sl, gh S V P A B Q) Z := by
  have hI := hL.ci
  have hls : ls + 1000 < 2000000000 := by have := hL.lb; omega
  have hC := hI.de.dc.ka.cf
  obtain ⟨D, rfl⟩ : ∃ D', D = D' + 1 := ⟨D - 1, by omega⟩
  refine WQ.st (fun _ _ kz => pw_aload1 dL_law_676 kz) ?_
  refine WQ.st (fun _ _ kz => pw_aload0 dL_law_677 kz) ?_
  refine WQ.st (fun _ _ kz => pw_iload3 dL_law_678 kz) ?_
  refine WQ.st (fun _ _ kz => pw_iconst (v := 1) dL_law_679 (by decide) kz) ?_
  refine WQ.st (fun _ _ kz => pw_iadd dL_law_680 kz) ?_
  refine WQ.st (fun _ _ kz => pw_saload dL_law_681 (sc_1 hi hn) kz) ?_
  refine wq_o1i wX11_does lL_74 rfl dL_law_682 (cf_s8 hC) ((q_does (G := G) (sl := sl) (d := 0) hI hls (G.2.2.2.1.2.2 (nI i + 1).toNatClampNeg)).mn (by omega)) rfl (Nat.le_of_ble_eq_true rfl) (Nat.le_of_ble_eq_true rfl) (fun h1 z1 => ?_)
  obtain ⟨t1, sl1, ls1, S1, V1, P1, A1, B1, Q1, rfl, hI1, hl1, fo, rm⟩ := z1
  have f := fo.2.2
  have ht := hI.de.dc.ka.st.2
  have hF1 : MF S1 P1 138 := hL.mf.fr (fun x hx => fo.2.1 x (by omega)) (f 138 (by omega) (by omega)).2.1
  have e9 : A1 (138 + 1) = A 139 := (f 139 (by omega) (by omega)).2.2.1
  have e20 : A1 (138 + 20) = A 158 := (f 158 (by omega) (by omega)).2.2.1
  have e21 : A1 (138 + 21) = A 159 := (f 159 (by omega) (by omega)).2.2.1
  have e22 : B1 (138 + 22) = B 160 := (f 160 (by omega) (by omega)).2.2.2
  have ev : V1 138 = V 138 := (f 138 (by omega) (by omega)).1
  have hA1 : AV (A1 (138 + 1)) := by rw [e9]; exact hI.av
  refine WQ.st (fun _ _ kz => pw_aload2 dL_law_685 kz) ?_
  refine WQ.st (fun _ _ kz => pw_aload0 dL_law_686 kz) ?_
  refine WQ.st (fun _ _ kz => pw_iload3 dL_law_687 kz) ?_
  refine WQ.st (fun _ _ kz => pw_iconst (v := 1) dL_law_688 (by decide) kz) ?_
  refine WQ.st (fun _ _ kz => pw_iadd dL_law_689 kz) ?_
  refine WQ.st (fun _ _ kz => pw_saload dL_law_690 (sc_1 hi hn) kz) ?_
  have pc := p_does (G := G) (d := 0) (V := V1) (A := A1) (B := B1) (Q := Q1) (t := t1) (sl := sl1) hF1 hA1 (by rw [e21]; exact hL.mn) (G.2.2.2.1.2.2 (nI i + 1).toNatClampNeg)
  rw [e9, e20, e21, e22] at pc
  refine wq_o1i wX12_does lL_77 rfl dL_law_691 hF1.1 (pc.mn (by omega)) rfl (Nat.le_of_ble_eq_true rfl) (Nat.le_of_ble_eq_true rfl) (fun h2 z2 => ?_)
  obtain ⟨V2, A2, B2, rfl, fp, fq, fb⟩ := z2
  refine WQ.br (fun _ _ ka kb => pw_icmp_eq (tgt := 1745) dL_law_694 (by decide) ka kb) (fun c => ?_) (fun c => absurd rfl c)
  exact kf t1 sl1 sh ls1 S1 V2 P1 A2 B2 Q1 (hL.simple hI1 hl1 fo rm fp fq fb)
set_option maxRecDepth 20000 in
theorem lc_term {G : gT} {D k i t sl sh ls : Nat} {S : sS} {V : sV} {P : sP} {A : sV} {B : sB} {Q : sP} {Z : Option Value → Ph → Prop} (hL : LI S V P A B Q t sl sh ls k) (hk : k ≤ 600) (hi : i + 6 ≤ G.2.2.2.1.2.1) (hn : G.2.2.2.1.2.1 ≤ 3072) (hD : 150 ≤ D) (kf : LK G D Z k i) : WQ G D mL_law 699 [some (.ref 0), some (.ref 8), some (.ref 138), some (.int (nI i))] [] (t, sl, gh S V P A B Q) Z := by
  have hI := hL.ci
  have hls : ls + 1000 < 2000000000 := by have := hL.lb; omega
  have hC := hI.de.dc.ka.cf
  obtain ⟨D, rfl⟩ : ∃ D', D = D' + 1 := ⟨D - 1, by omega⟩
  refine WQ.st (fun _ _ kz => pw_aload1 dL_law_699 kz) ?_
  refine WQ.st (fun _ _ kz => pw_aload0 dL_law_700 kz) ?_
  refine WQ.st (fun _ _ kz => pw_iload3 dL_law_701 kz) ?_
  refine WQ.st (fun _ _ kz => pw_iconst (v := 1) dL_law_702 (by decide) kz) ?_
  refine WQ.st (fun _ _ kz => pw_iadd dL_law_703 kz) ?_
  refine WQ.st (fun _ _ kz => pw_saload dL_law_704 (sc_1 hi hn) kz) ?_
  refine WQ.st (fun _ _ kz => pw_aload0 dL_law_705 kz) ?_
  refine WQ.st (fun _ _ kz => pw_iload3 dL_law_706 kz) ?_
  refine WQ.st (fun _ _ kz => pw_iconst (v := 2) dL_law_707 (by decide) kz) ?_
  refine WQ.st (fun _ _ kz => pw_iadd dL_law_708 kz) ?_
  refine WQ.st (fun _ _ kz => pw_saload dL_law_709 (sc_2 hi hn) kz) ?_
  refine wq_o2i wX11_term lL_78 rfl dL_law_710 (cf_s8 hC) ((q_term (G := G) (sl := sl) (d := 0) hI hls (G.2.2.2.1.2.2 (nI i + 1).toNatClampNeg) (G.2.2.2.1.2.2 (nI i + 2).toNatClampNeg)).mn (by omega)) rfl (Nat.le_of_ble_eq_true rfl) (Nat.le_of_ble_eq_true rfl) (fun h1 z1 => ?_)
  obtain ⟨t1, sl1, ls1, S1, V1, P1, A1, B1, Q1, rfl, hI1, hl1, fo, rm⟩ := z1
  have f := fo.2.2
  have ht := hI.de.dc.ka.st.2
  have hF1 : MF S1 P1 138 := hL.mf.fr (fun x hx => fo.2.1 x (by omega)) (f 138 (by omega) (by omega)).2.1
  have e9 : A1 (138 + 1) = A 139 := (f 139 (by omega) (by omega)).2.2.1
  have e20 : A1 (138 + 20) = A 158 := (f 158 (by omega) (by omega)).2.2.1
  have e21 : A1 (138 + 21) = A 159 := (f 159 (by omega) (by omega)).2.2.1
  have e22 : B1 (138 + 22) = B 160 := (f 160 (by omega) (by omega)).2.2.2
  have ev : V1 138 = V 138 := (f 138 (by omega) (by omega)).1
  have hA1 : AV (A1 (138 + 1)) := by rw [e9]; exact hI.av
  refine WQ.st (fun _ _ kz => pw_aload2 dL_law_713 kz) ?_
  refine WQ.st (fun _ _ kz => pw_aload0 dL_law_714 kz) ?_
  refine WQ.st (fun _ _ kz => pw_iload3 dL_law_715 kz) ?_
  refine WQ.st (fun _ _ kz => pw_iconst (v := 1) dL_law_716 (by decide) kz) ?_
  refine WQ.st (fun _ _ kz => pw_iadd dL_law_717 kz) ?_
  refine WQ.st (fun _ _ kz => pw_saload dL_law_718 (sc_1 hi hn) kz) ?_
  refine WQ.st (fun _ _ kz => pw_aload0 dL_law_719 kz) ?_
  refine WQ.st (fun _ _ kz => pw_iload3 dL_law_720 kz) ?_
  refine WQ.st (fun _ _ kz => pw_iconst (v := 2) dL_law_721 (by decide) kz) ?_
  refine WQ.st (fun _ _ kz => pw_iadd dL_law_722 kz) ?_
  refine WQ.st (fun _ _ kz => pw_saload dL_law_723 (sc_2 hi hn) kz) ?_
  have pc := p_term (G := G) (d := 0) (V := V1) (A := A1) (B := B1) (Q := Q1) (t := t1) (sl := sl1) hF1 hA1 (G.2.2.2.1.2.2 (nI i + 1).toNatClampNeg) (G.2.2.2.1.2.2 (nI i + 2).toNatClampNeg)
  rw [e9] at pc
  refine wq_o2i wX12_term lL_81 rfl dL_law_724 hF1.1 (pc.mn (by omega)) rfl (Nat.le_of_ble_eq_true rfl) (Nat.le_of_ble_eq_true rfl) (fun h2 z2 => ?_)
  obtain ⟨V2, A2, B2, rfl, fp, fq, fb⟩ := z2
  refine WQ.br (fun _ _ ka kb => pw_icmp_eq (tgt := 1745) dL_law_727 (by decide) ka kb) (fun c => ?_) (fun c => absurd rfl c)
  exact kf t1 sl1 sh ls1 S1 V2 P1 A2 B2 Q1 (hL.simple hI1 hl1 fo rm fp fq fb)
set_option maxRecDepth 20000 in
theorem lc_comes {G : gT} {D k i t sl sh ls : Nat} {S : sS} {V : sV} {P : sP} {A : sV} {B : sB} {Q : sP} {Z : Option Value → Ph → Prop} (hL : LI S V P A B Q t sl sh ls k) (hk : k ≤ 600) (hi : i + 6 ≤ G.2.2.2.1.2.1) (hn : G.2.2.2.1.2.1 ≤ 3072) (hD : 150 ≤ D) (kf : LK G D Z k i) : WQ G D mL_law 732 [some (.ref 0), some (.ref 8), some (.ref 138), some (.int (nI i))] [] (t, sl, gh S V P A B Q) Z := by
  have hI := hL.ci
  have hls : ls + 1000 < 2000000000 := by have := hL.lb; omega
  have hC := hI.de.dc.ka.cf
  obtain ⟨D, rfl⟩ : ∃ D', D = D' + 1 := ⟨D - 1, by omega⟩
  refine WQ.st (fun _ _ kz => pw_aload1 dL_law_732 kz) ?_
  refine WQ.st (fun _ _ kz => pw_aload0 dL_law_733 kz) ?_
  refine WQ.st (fun _ _ kz => pw_iload3 dL_law_734 kz) ?_
  refine WQ.st (fun _ _ kz => pw_iconst (v := 1) dL_law_735 (by decide) kz) ?_
  refine WQ.st (fun _ _ kz => pw_iadd dL_law_736 kz) ?_
  refine WQ.st (fun _ _ kz => pw_saload dL_law_737 (sc_1 hi hn) kz) ?_
  refine WQ.st (fun _ _ kz => pw_aload0 dL_law_738 kz) ?_
  refine WQ.st (fun _ _ kz => pw_iload3 dL_law_739 kz) ?_
  refine WQ.st (fun _ _ kz => pw_iconst (v := 2) dL_law_740 (by decide) kz) ?_
  refine WQ.st (fun _ _ kz => pw_iadd dL_law_741 kz) ?_
  refine WQ.st (fun _ _ kz => pw_saload dL_law_742 (sc_2 hi hn) kz) ?_
  refine WQ.st (fun _ _ kz => pw_aload0 dL_law_743 kz) ?_
  refine WQ.st (fun _ _ kz => pw_iload3 dL_law_744 kz) ?_
  refine WQ.st (fun _ _ kz => pw_iconst (v := 3) dL_law_745 (by decide) kz) ?_
  refine WQ.st (fun _ _ kz => pw_iadd dL_law_746 kz) ?_
  refine WQ.st (fun _ _ kz => pw_saload dL_law_747 (sc_3 hi hn) kz) ?_
  refine wq_o3i wX11_comes lL_82 rfl dL_law_748 (cf_s8 hC) ((q_comes (G := G) (sl := sl) (d := 0) hI hls (G.2.2.2.1.2.2 (nI i + 1).toNatClampNeg) (G.2.2.2.1.2.2 (nI i + 2).toNatClampNeg) (G.2.2.2.1.2.2 (nI i + 3).toNatClampNeg)).mn (by omega)) rfl (Nat.le_of_ble_eq_true rfl) (Nat.le_of_ble_eq_true rfl) (fun h1 z1 => ?_)
  obtain ⟨t1, sl1, ls1, S1, V1, P1, A1, B1, Q1, rfl, hI1, hl1, fo, rm⟩ := z1
  have f := fo.2.2
  have ht := hI.de.dc.ka.st.2
  have hF1 : MF S1 P1 138 := hL.mf.fr (fun x hx => fo.2.1 x (by omega)) (f 138 (by omega) (by omega)).2.1
  have e9 : A1 (138 + 1) = A 139 := (f 139 (by omega) (by omega)).2.2.1
  have e20 : A1 (138 + 20) = A 158 := (f 158 (by omega) (by omega)).2.2.1
  have e21 : A1 (138 + 21) = A 159 := (f 159 (by omega) (by omega)).2.2.1
  have e22 : B1 (138 + 22) = B 160 := (f 160 (by omega) (by omega)).2.2.2
  have ev : V1 138 = V 138 := (f 138 (by omega) (by omega)).1
  have hA1 : AV (A1 (138 + 1)) := by rw [e9]; exact hI.av
  refine WQ.st (fun _ _ kz => pw_aload2 dL_law_751 kz) ?_
  refine WQ.st (fun _ _ kz => pw_aload0 dL_law_752 kz) ?_
  refine WQ.st (fun _ _ kz => pw_iload3 dL_law_753 kz) ?_
  refine WQ.st (fun _ _ kz => pw_iconst (v := 1) dL_law_754 (by decide) kz) ?_
  refine WQ.st (fun _ _ kz => pw_iadd dL_law_755 kz) ?_
  refine WQ.st (fun _ _ kz => pw_saload dL_law_756 (sc_1 hi hn) kz) ?_
  refine WQ.st (fun _ _ kz => pw_aload0 dL_law_757 kz) ?_
  refine WQ.st (fun _ _ kz => pw_iload3 dL_law_758 kz) ?_
  refine WQ.st (fun _ _ kz => pw_iconst (v := 2) dL_law_759 (by decide) kz) ?_
  refine WQ.st (fun _ _ kz => pw_iadd dL_law_760 kz) ?_
  refine WQ.st (fun _ _ kz => pw_saload dL_law_761 (sc_2 hi hn) kz) ?_
  refine WQ.st (fun _ _ kz => pw_aload0 dL_law_762 kz) ?_
  refine WQ.st (fun _ _ kz => pw_iload3 dL_law_763 kz) ?_
  refine WQ.st (fun _ _ kz => pw_iconst (v := 3) dL_law_764 (by decide) kz) ?_
  refine WQ.st (fun _ _ kz => pw_iadd dL_law_765 kz) ?_
  refine WQ.st (fun _ _ kz => pw_saload dL_law_766 (sc_3 hi hn) kz) ?_
  have pc := p_comes (G := G) (d := 0) (V := V1) (A := A1) (B := B1) (Q := Q1) (t := t1) (sl := sl1) hF1 hA1 (G.2.2.2.1.2.2 (nI i + 1).toNatClampNeg) (G.2.2.2.1.2.2 (nI i + 2).toNatClampNeg) (G.2.2.2.1.2.2 (nI i + 3).toNatClampNeg)
  rw [e9] at pc
  refine wq_o3i wX12_comes lL_85 rfl dL_law_767 hF1.1 (pc.mn (by omega)) rfl (Nat.le_of_ble_eq_true rfl) (Nat.le_of_ble_eq_true rfl) (fun h2 z2 => ?_)
  obtain ⟨V2, A2, B2, rfl, fp, fq, fb⟩ := z2
  refine WQ.br (fun _ _ ka kb => pw_icmp_eq (tgt := 1745) dL_law_770 (by decide) ka kb) (fun c => ?_) (fun c => absurd rfl c)
  exact kf t1 sl1 sh ls1 S1 V2 P1 A2 B2 Q1 (hL.simple hI1 hl1 fo rm fp fq fb)
set_option maxRecDepth 20000 in
theorem lc_best {G : gT} {D k i t sl sh ls : Nat} {S : sS} {V : sV} {P : sP} {A : sV} {B : sB} {Q : sP} {Z : Option Value → Ph → Prop} (hL : LI S V P A B Q t sl sh ls k) (hk : k ≤ 600) (hi : i + 6 ≤ G.2.2.2.1.2.1) (hn : G.2.2.2.1.2.1 ≤ 3072) (hD : 150 ≤ D) (kf : LK G D Z k i) : WQ G D mL_law 775 [some (.ref 0), some (.ref 8), some (.ref 138), some (.int (nI i))] [] (t, sl, gh S V P A B Q) Z := by
  have hI := hL.ci
  have hls : ls + 1000 < 2000000000 := by have := hL.lb; omega
  have hC := hI.de.dc.ka.cf
  obtain ⟨D, rfl⟩ : ∃ D', D = D' + 1 := ⟨D - 1, by omega⟩
  refine WQ.st (fun _ _ kz => pw_aload1 dL_law_775 kz) ?_
  refine WQ.st (fun _ _ kz => pw_aload0 dL_law_776 kz) ?_
  refine WQ.st (fun _ _ kz => pw_iload3 dL_law_777 kz) ?_
  refine WQ.st (fun _ _ kz => pw_iconst (v := 1) dL_law_778 (by decide) kz) ?_
  refine WQ.st (fun _ _ kz => pw_iadd dL_law_779 kz) ?_
  refine WQ.st (fun _ _ kz => pw_saload dL_law_780 (sc_1 hi hn) kz) ?_
  refine WQ.st (fun _ _ kz => pw_aload0 dL_law_781 kz) ?_
  refine WQ.st (fun _ _ kz => pw_iload3 dL_law_782 kz) ?_
  refine WQ.st (fun _ _ kz => pw_iconst (v := 2) dL_law_783 (by decide) kz) ?_
  refine WQ.st (fun _ _ kz => pw_iadd dL_law_784 kz) ?_
  refine WQ.st (fun _ _ kz => pw_saload dL_law_785 (sc_2 hi hn) kz) ?_
  refine WQ.st (fun _ _ kz => pw_aload0 dL_law_786 kz) ?_
  refine WQ.st (fun _ _ kz => pw_iload3 dL_law_787 kz) ?_
  refine WQ.st (fun _ _ kz => pw_iconst (v := 3) dL_law_788 (by decide) kz) ?_
  refine WQ.st (fun _ _ kz => pw_iadd dL_law_789 kz) ?_
  refine WQ.st (fun _ _ kz => pw_saload dL_law_790 (sc_3 hi hn) kz) ?_
  refine WQ.st (fun _ _ kz => pw_aload0 dL_law_791 kz) ?_
  refine WQ.st (fun _ _ kz => pw_iload3 dL_law_792 kz) ?_
  refine WQ.st (fun _ _ kz => pw_iconst (v := 4) dL_law_793 (by decide) kz) ?_
  refine WQ.st (fun _ _ kz => pw_iadd dL_law_794 kz) ?_
  refine WQ.st (fun _ _ kz => pw_saload dL_law_795 (sc_4 hi hn) kz) ?_
  refine wq_o4i wX11_best lL_86 rfl dL_law_796 (cf_s8 hC) ((q_best (G := G) (sl := sl) (d := 0) hI hls (G.2.2.2.1.2.2 (nI i + 1).toNatClampNeg) (G.2.2.2.1.2.2 (nI i + 2).toNatClampNeg) (G.2.2.2.1.2.2 (nI i + 3).toNatClampNeg) (G.2.2.2.1.2.2 (nI i + 4).toNatClampNeg)).mn (by omega)) rfl (Nat.le_of_ble_eq_true rfl) (Nat.le_of_ble_eq_true rfl) (fun h1 z1 => ?_)
  obtain ⟨t1, sl1, ls1, S1, V1, P1, A1, B1, Q1, rfl, hI1, hl1, fo, rm⟩ := z1
  have f := fo.2.2
  have ht := hI.de.dc.ka.st.2
  have hF1 : MF S1 P1 138 := hL.mf.fr (fun x hx => fo.2.1 x (by omega)) (f 138 (by omega) (by omega)).2.1
  have e9 : A1 (138 + 1) = A 139 := (f 139 (by omega) (by omega)).2.2.1
  have e20 : A1 (138 + 20) = A 158 := (f 158 (by omega) (by omega)).2.2.1
  have e21 : A1 (138 + 21) = A 159 := (f 159 (by omega) (by omega)).2.2.1
  have e22 : B1 (138 + 22) = B 160 := (f 160 (by omega) (by omega)).2.2.2
  have ev : V1 138 = V 138 := (f 138 (by omega) (by omega)).1
  have hA1 : AV (A1 (138 + 1)) := by rw [e9]; exact hI.av
  refine WQ.st (fun _ _ kz => pw_aload2 dL_law_799 kz) ?_
  refine WQ.st (fun _ _ kz => pw_aload0 dL_law_800 kz) ?_
  refine WQ.st (fun _ _ kz => pw_iload3 dL_law_801 kz) ?_
  refine WQ.st (fun _ _ kz => pw_iconst (v := 1) dL_law_802 (by decide) kz) ?_
  refine WQ.st (fun _ _ kz => pw_iadd dL_law_803 kz) ?_
  refine WQ.st (fun _ _ kz => pw_saload dL_law_804 (sc_1 hi hn) kz) ?_
  refine WQ.st (fun _ _ kz => pw_aload0 dL_law_805 kz) ?_
  refine WQ.st (fun _ _ kz => pw_iload3 dL_law_806 kz) ?_
  refine WQ.st (fun _ _ kz => pw_iconst (v := 2) dL_law_807 (by decide) kz) ?_
  refine WQ.st (fun _ _ kz => pw_iadd dL_law_808 kz) ?_
  refine WQ.st (fun _ _ kz => pw_saload dL_law_809 (sc_2 hi hn) kz) ?_
  refine WQ.st (fun _ _ kz => pw_aload0 dL_law_810 kz) ?_
  refine WQ.st (fun _ _ kz => pw_iload3 dL_law_811 kz) ?_
  refine WQ.st (fun _ _ kz => pw_iconst (v := 3) dL_law_812 (by decide) kz) ?_
  refine WQ.st (fun _ _ kz => pw_iadd dL_law_813 kz) ?_
  refine WQ.st (fun _ _ kz => pw_saload dL_law_814 (sc_3 hi hn) kz) ?_
  refine WQ.st (fun _ _ kz => pw_aload0 dL_law_815 kz) ?_
  refine WQ.st (fun _ _ kz => pw_iload3 dL_law_816 kz) ?_
  refine WQ.st (fun _ _ kz => pw_iconst (v := 4) dL_law_817 (by decide) kz) ?_
  refine WQ.st (fun _ _ kz => pw_iadd dL_law_818 kz) ?_
  refine WQ.st (fun _ _ kz => pw_saload dL_law_819 (sc_4 hi hn) kz) ?_
  have pc := p_best (G := G) (d := 0) (V := V1) (A := A1) (B := B1) (Q := Q1) (t := t1) (sl := sl1) hF1 hA1 (G.2.2.2.1.2.2 (nI i + 1).toNatClampNeg) (G.2.2.2.1.2.2 (nI i + 2).toNatClampNeg) (G.2.2.2.1.2.2 (nI i + 3).toNatClampNeg) (G.2.2.2.1.2.2 (nI i + 4).toNatClampNeg)
  rw [e9] at pc
  refine wq_o4i wX12_best lL_90 rfl dL_law_820 hF1.1 (pc.mn (by omega)) rfl (Nat.le_of_ble_eq_true rfl) (Nat.le_of_ble_eq_true rfl) (fun h2 z2 => ?_)
  obtain ⟨V2, A2, B2, rfl, fp, fq, fb⟩ := z2
  refine WQ.br (fun _ _ ka kb => pw_icmp_eq (tgt := 1745) dL_law_823 (by decide) ka kb) (fun c => ?_) (fun c => absurd rfl c)
  exact kf t1 sl1 sh ls1 S1 V2 P1 A2 B2 Q1 (hL.simple hI1 hl1 fo rm fp fq fb)
set_option maxRecDepth 20000 in
theorem lc_rows {G : gT} {D k i t sl sh ls : Nat} {S : sS} {V : sV} {P : sP} {A : sV} {B : sB} {Q : sP} {Z : Option Value → Ph → Prop} (hL : LI S V P A B Q t sl sh ls k) (hk : k ≤ 600) (hi : i + 6 ≤ G.2.2.2.1.2.1) (hn : G.2.2.2.1.2.1 ≤ 3072) (hD : 150 ≤ D) (kf : LK G D Z k i) : WQ G D mL_law 828 [some (.ref 0), some (.ref 8), some (.ref 138), some (.int (nI i))] [] (t, sl, gh S V P A B Q) Z := by
  have hI := hL.ci
  have hls : ls + 1000 < 2000000000 := by have := hL.lb; omega
  have hC := hI.de.dc.ka.cf
  obtain ⟨D, rfl⟩ : ∃ D', D = D' + 1 := ⟨D - 1, by omega⟩
  refine WQ.st (fun _ _ kz => pw_aload1 dL_law_828 kz) ?_
  refine WQ.st (fun _ _ kz => pw_aload0 dL_law_829 kz) ?_
  refine WQ.st (fun _ _ kz => pw_iload3 dL_law_830 kz) ?_
  refine WQ.st (fun _ _ kz => pw_iconst (v := 1) dL_law_831 (by decide) kz) ?_
  refine WQ.st (fun _ _ kz => pw_iadd dL_law_832 kz) ?_
  refine WQ.st (fun _ _ kz => pw_saload dL_law_833 (sc_1 hi hn) kz) ?_
  refine WQ.st (fun _ _ kz => pw_aload0 dL_law_834 kz) ?_
  refine WQ.st (fun _ _ kz => pw_iload3 dL_law_835 kz) ?_
  refine WQ.st (fun _ _ kz => pw_iconst (v := 2) dL_law_836 (by decide) kz) ?_
  refine WQ.st (fun _ _ kz => pw_iadd dL_law_837 kz) ?_
  refine WQ.st (fun _ _ kz => pw_saload dL_law_838 (sc_2 hi hn) kz) ?_
  refine WQ.st (fun _ _ kz => pw_aload0 dL_law_839 kz) ?_
  refine WQ.st (fun _ _ kz => pw_iload3 dL_law_840 kz) ?_
  refine WQ.st (fun _ _ kz => pw_iconst (v := 3) dL_law_841 (by decide) kz) ?_
  refine WQ.st (fun _ _ kz => pw_iadd dL_law_842 kz) ?_
  refine WQ.st (fun _ _ kz => pw_saload dL_law_843 (sc_3 hi hn) kz) ?_
  refine wq_o3i wX11_rows lL_91 rfl dL_law_844 (cf_s8 hC) ((q_rows (G := G) (sl := sl) (d := 0) hI hls (G.2.2.2.1.2.2 (nI i + 1).toNatClampNeg) (G.2.2.2.1.2.2 (nI i + 2).toNatClampNeg) (G.2.2.2.1.2.2 (nI i + 3).toNatClampNeg)).mn (by omega)) rfl (Nat.le_of_ble_eq_true rfl) (Nat.le_of_ble_eq_true rfl) (fun h1 z1 => ?_)
  obtain ⟨t1, sl1, ls1, S1, V1, P1, A1, B1, Q1, rfl, hI1, hl1, fo, rm⟩ := z1
  have f := fo.2.2
  have ht := hI.de.dc.ka.st.2
  have hF1 : MF S1 P1 138 := hL.mf.fr (fun x hx => fo.2.1 x (by omega)) (f 138 (by omega) (by omega)).2.1
  have e9 : A1 (138 + 1) = A 139 := (f 139 (by omega) (by omega)).2.2.1
  have e20 : A1 (138 + 20) = A 158 := (f 158 (by omega) (by omega)).2.2.1
  have e21 : A1 (138 + 21) = A 159 := (f 159 (by omega) (by omega)).2.2.1
  have e22 : B1 (138 + 22) = B 160 := (f 160 (by omega) (by omega)).2.2.2
  have ev : V1 138 = V 138 := (f 138 (by omega) (by omega)).1
  have hA1 : AV (A1 (138 + 1)) := by rw [e9]; exact hI.av
  refine WQ.st (fun _ _ kz => pw_aload2 dL_law_847 kz) ?_
  refine WQ.st (fun _ _ kz => pw_aload0 dL_law_848 kz) ?_
  refine WQ.st (fun _ _ kz => pw_iload3 dL_law_849 kz) ?_
  refine WQ.st (fun _ _ kz => pw_iconst (v := 1) dL_law_850 (by decide) kz) ?_
  refine WQ.st (fun _ _ kz => pw_iadd dL_law_851 kz) ?_
  refine WQ.st (fun _ _ kz => pw_saload dL_law_852 (sc_1 hi hn) kz) ?_
  refine WQ.st (fun _ _ kz => pw_aload0 dL_law_853 kz) ?_
  refine WQ.st (fun _ _ kz => pw_iload3 dL_law_854 kz) ?_
  refine WQ.st (fun _ _ kz => pw_iconst (v := 2) dL_law_855 (by decide) kz) ?_
  refine WQ.st (fun _ _ kz => pw_iadd dL_law_856 kz) ?_
  refine WQ.st (fun _ _ kz => pw_saload dL_law_857 (sc_2 hi hn) kz) ?_
  refine WQ.st (fun _ _ kz => pw_aload0 dL_law_858 kz) ?_
  refine WQ.st (fun _ _ kz => pw_iload3 dL_law_859 kz) ?_
  refine WQ.st (fun _ _ kz => pw_iconst (v := 3) dL_law_860 (by decide) kz) ?_
  refine WQ.st (fun _ _ kz => pw_iadd dL_law_861 kz) ?_
  refine WQ.st (fun _ _ kz => pw_saload dL_law_862 (sc_3 hi hn) kz) ?_
  have pc := p_rows (G := G) (d := 0) (V := V1) (A := A1) (B := B1) (Q := Q1) (t := t1) (sl := sl1) hF1 hA1 (G.2.2.2.1.2.2 (nI i + 1).toNatClampNeg) (G.2.2.2.1.2.2 (nI i + 2).toNatClampNeg) (G.2.2.2.1.2.2 (nI i + 3).toNatClampNeg)
  rw [e9] at pc
  refine wq_o3i wX12_rows lL_95 rfl dL_law_863 hF1.1 (pc.mn (by omega)) rfl (Nat.le_of_ble_eq_true rfl) (Nat.le_of_ble_eq_true rfl) (fun h2 z2 => ?_)
  obtain ⟨V2, A2, B2, rfl, fp, fq, fb⟩ := z2
  refine WQ.st (fun _ _ kz => pw_lcmp dL_law_866 kz) ?_
  refine WQ.br (fun _ _ ka kb => pw_if_eq (tgt := 1745) dL_law_867 (by decide) ka kb) (fun c => ?_) (fun c => absurd (lg_same _) c)
  exact kf t1 sl1 sh ls1 S1 V2 P1 A2 B2 Q1 (hL.simple hI1 hl1 fo rm fp fq fb)
set_option maxRecDepth 20000 in
theorem lc_thriftiest {G : gT} {D k i t sl sh ls : Nat} {S : sS} {V : sV} {P : sP} {A : sV} {B : sB} {Q : sP} {Z : Option Value → Ph → Prop} (hL : LI S V P A B Q t sl sh ls k) (hk : k ≤ 600) (hi : i + 6 ≤ G.2.2.2.1.2.1) (hn : G.2.2.2.1.2.1 ≤ 3072) (hD : 150 ≤ D) (kf : LK G D Z k i) : WQ G D mL_law 872 [some (.ref 0), some (.ref 8), some (.ref 138), some (.int (nI i))] [] (t, sl, gh S V P A B Q) Z := by
  have hI := hL.ci
  have hls : ls + 1000 < 2000000000 := by have := hL.lb; omega
  have hC := hI.de.dc.ka.cf
  obtain ⟨D, rfl⟩ : ∃ D', D = D' + 1 := ⟨D - 1, by omega⟩
  refine WQ.st (fun _ _ kz => pw_aload1 dL_law_872 kz) ?_
  refine WQ.st (fun _ _ kz => pw_aload0 dL_law_873 kz) ?_
  refine WQ.st (fun _ _ kz => pw_iload3 dL_law_874 kz) ?_
  refine WQ.st (fun _ _ kz => pw_iconst (v := 1) dL_law_875 (by decide) kz) ?_
  refine WQ.st (fun _ _ kz => pw_iadd dL_law_876 kz) ?_
  refine WQ.st (fun _ _ kz => pw_saload dL_law_877 (sc_1 hi hn) kz) ?_
  refine WQ.st (fun _ _ kz => pw_aload0 dL_law_878 kz) ?_
  refine WQ.st (fun _ _ kz => pw_iload3 dL_law_879 kz) ?_
  refine WQ.st (fun _ _ kz => pw_iconst (v := 2) dL_law_880 (by decide) kz) ?_
  refine WQ.st (fun _ _ kz => pw_iadd dL_law_881 kz) ?_
  refine WQ.st (fun _ _ kz => pw_saload dL_law_882 (sc_2 hi hn) kz) ?_
  refine wq_o2i wX11_thriftiest lL_96 rfl dL_law_883 (cf_s8 hC) ((q_thriftiest (G := G) (sl := sl) (d := 0) hI hls (G.2.2.2.1.2.2 (nI i + 1).toNatClampNeg) (G.2.2.2.1.2.2 (nI i + 2).toNatClampNeg)).mn (by omega)) rfl (Nat.le_of_ble_eq_true rfl) (Nat.le_of_ble_eq_true rfl) (fun h1 z1 => ?_)
  obtain ⟨t1, sl1, ls1, S1, V1, P1, A1, B1, Q1, rfl, hI1, hl1, fo, rm⟩ := z1
  have f := fo.2.2
  have ht := hI.de.dc.ka.st.2
  have hF1 : MF S1 P1 138 := hL.mf.fr (fun x hx => fo.2.1 x (by omega)) (f 138 (by omega) (by omega)).2.1
  have e9 : A1 (138 + 1) = A 139 := (f 139 (by omega) (by omega)).2.2.1
  have e20 : A1 (138 + 20) = A 158 := (f 158 (by omega) (by omega)).2.2.1
  have e21 : A1 (138 + 21) = A 159 := (f 159 (by omega) (by omega)).2.2.1
  have e22 : B1 (138 + 22) = B 160 := (f 160 (by omega) (by omega)).2.2.2
  have ev : V1 138 = V 138 := (f 138 (by omega) (by omega)).1
  have hA1 : AV (A1 (138 + 1)) := by rw [e9]; exact hI.av
  refine WQ.st (fun _ _ kz => pw_aload2 dL_law_886 kz) ?_
  refine WQ.st (fun _ _ kz => pw_aload0 dL_law_887 kz) ?_
  refine WQ.st (fun _ _ kz => pw_iload3 dL_law_888 kz) ?_
  refine WQ.st (fun _ _ kz => pw_iconst (v := 1) dL_law_889 (by decide) kz) ?_
  refine WQ.st (fun _ _ kz => pw_iadd dL_law_890 kz) ?_
  refine WQ.st (fun _ _ kz => pw_saload dL_law_891 (sc_1 hi hn) kz) ?_
  refine WQ.st (fun _ _ kz => pw_aload0 dL_law_892 kz) ?_
  refine WQ.st (fun _ _ kz => pw_iload3 dL_law_893 kz) ?_
  refine WQ.st (fun _ _ kz => pw_iconst (v := 2) dL_law_894 (by decide) kz) ?_
  refine WQ.st (fun _ _ kz => pw_iadd dL_law_895 kz) ?_
  refine WQ.st (fun _ _ kz => pw_saload dL_law_896 (sc_2 hi hn) kz) ?_
  have pc := p_thriftiest (G := G) (d := 0) (V := V1) (A := A1) (B := B1) (Q := Q1) (t := t1) (sl := sl1) hF1 hA1 (G.2.2.2.1.2.2 (nI i + 1).toNatClampNeg) (G.2.2.2.1.2.2 (nI i + 2).toNatClampNeg)
  rw [e9] at pc
  refine wq_o2i wX12_thriftiest lL_99 rfl dL_law_897 hF1.1 (pc.mn (by omega)) rfl (Nat.le_of_ble_eq_true rfl) (Nat.le_of_ble_eq_true rfl) (fun h2 z2 => ?_)
  obtain ⟨V2, A2, B2, rfl, fp, fq, fb⟩ := z2
  refine WQ.br (fun _ _ ka kb => pw_icmp_eq (tgt := 1745) dL_law_900 (by decide) ka kb) (fun c => ?_) (fun c => absurd rfl c)
  exact kf t1 sl1 sh ls1 S1 V2 P1 A2 B2 Q1 (hL.simple hI1 hl1 fo rm fp fq fb)
set_option maxRecDepth 20000 in
theorem lc_least {G : gT} {D k i t sl sh ls : Nat} {S : sS} {V : sV} {P : sP} {A : sV} {B : sB} {Q : sP} {Z : Option Value → Ph → Prop} (hL : LI S V P A B Q t sl sh ls k) (hk : k ≤ 600) (hi : i + 6 ≤ G.2.2.2.1.2.1) (hn : G.2.2.2.1.2.1 ≤ 3072) (hD : 150 ≤ D) (kf : LK G D Z k i) : WQ G D mL_law 905 [some (.ref 0), some (.ref 8), some (.ref 138), some (.int (nI i))] [] (t, sl, gh S V P A B Q) Z := by
  have hI := hL.ci
  have hls : ls + 1000 < 2000000000 := by have := hL.lb; omega
  have hC := hI.de.dc.ka.cf
  obtain ⟨D, rfl⟩ : ∃ D', D = D' + 1 := ⟨D - 1, by omega⟩
  refine WQ.st (fun _ _ kz => pw_aload1 dL_law_905 kz) ?_
  refine WQ.st (fun _ _ kz => pw_aload0 dL_law_906 kz) ?_
  refine WQ.st (fun _ _ kz => pw_iload3 dL_law_907 kz) ?_
  refine WQ.st (fun _ _ kz => pw_iconst (v := 1) dL_law_908 (by decide) kz) ?_
  refine WQ.st (fun _ _ kz => pw_iadd dL_law_909 kz) ?_
  refine WQ.st (fun _ _ kz => pw_saload dL_law_910 (sc_1 hi hn) kz) ?_
  refine WQ.st (fun _ _ kz => pw_aload0 dL_law_911 kz) ?_
  refine WQ.st (fun _ _ kz => pw_iload3 dL_law_912 kz) ?_
  refine WQ.st (fun _ _ kz => pw_iconst (v := 2) dL_law_913 (by decide) kz) ?_
  refine WQ.st (fun _ _ kz => pw_iadd dL_law_914 kz) ?_
  refine WQ.st (fun _ _ kz => pw_saload dL_law_915 (sc_2 hi hn) kz) ?_
  refine WQ.st (fun _ _ kz => pw_aload0 dL_law_916 kz) ?_
  refine WQ.st (fun _ _ kz => pw_iload3 dL_law_917 kz) ?_
  refine WQ.st (fun _ _ kz => pw_iconst (v := 3) dL_law_918 (by decide) kz) ?_
  refine WQ.st (fun _ _ kz => pw_iadd dL_law_919 kz) ?_
  refine WQ.st (fun _ _ kz => pw_saload dL_law_920 (sc_3 hi hn) kz) ?_
  refine WQ.st (fun _ _ kz => pw_aload0 dL_law_921 kz) ?_
  refine WQ.st (fun _ _ kz => pw_iload3 dL_law_922 kz) ?_
  refine WQ.st (fun _ _ kz => pw_iconst (v := 4) dL_law_923 (by decide) kz) ?_
  refine WQ.st (fun _ _ kz => pw_iadd dL_law_924 kz) ?_
  refine WQ.st (fun _ _ kz => pw_saload dL_law_925 (sc_4 hi hn) kz) ?_
  refine wq_o4i wX11_least lL_100 rfl dL_law_926 (cf_s8 hC) ((q_least (G := G) (sl := sl) (d := 0) hI hls (G.2.2.2.1.2.2 (nI i + 1).toNatClampNeg) (G.2.2.2.1.2.2 (nI i + 2).toNatClampNeg) (G.2.2.2.1.2.2 (nI i + 3).toNatClampNeg) (G.2.2.2.1.2.2 (nI i + 4).toNatClampNeg)).mn (by omega)) rfl (Nat.le_of_ble_eq_true rfl) (Nat.le_of_ble_eq_true rfl) (fun h1 z1 => ?_)
  obtain ⟨t1, sl1, ls1, S1, V1, P1, A1, B1, Q1, rfl, hI1, hl1, fo, rm⟩ := z1
  have f := fo.2.2
  have ht := hI.de.dc.ka.st.2
  have hF1 : MF S1 P1 138 := hL.mf.fr (fun x hx => fo.2.1 x (by omega)) (f 138 (by omega) (by omega)).2.1
  have e9 : A1 (138 + 1) = A 139 := (f 139 (by omega) (by omega)).2.2.1
  have e20 : A1 (138 + 20) = A 158 := (f 158 (by omega) (by omega)).2.2.1
  have e21 : A1 (138 + 21) = A 159 := (f 159 (by omega) (by omega)).2.2.1
  have e22 : B1 (138 + 22) = B 160 := (f 160 (by omega) (by omega)).2.2.2
  have ev : V1 138 = V 138 := (f 138 (by omega) (by omega)).1
  have hA1 : AV (A1 (138 + 1)) := by rw [e9]; exact hI.av
  refine WQ.st (fun _ _ kz => pw_aload2 dL_law_929 kz) ?_
  refine WQ.st (fun _ _ kz => pw_aload0 dL_law_930 kz) ?_
  refine WQ.st (fun _ _ kz => pw_iload3 dL_law_931 kz) ?_
  refine WQ.st (fun _ _ kz => pw_iconst (v := 1) dL_law_932 (by decide) kz) ?_
  refine WQ.st (fun _ _ kz => pw_iadd dL_law_933 kz) ?_
  refine WQ.st (fun _ _ kz => pw_saload dL_law_934 (sc_1 hi hn) kz) ?_
  refine WQ.st (fun _ _ kz => pw_aload0 dL_law_935 kz) ?_
  refine WQ.st (fun _ _ kz => pw_iload3 dL_law_936 kz) ?_
  refine WQ.st (fun _ _ kz => pw_iconst (v := 2) dL_law_937 (by decide) kz) ?_
  refine WQ.st (fun _ _ kz => pw_iadd dL_law_938 kz) ?_
  refine WQ.st (fun _ _ kz => pw_saload dL_law_939 (sc_2 hi hn) kz) ?_
  refine WQ.st (fun _ _ kz => pw_aload0 dL_law_940 kz) ?_
  refine WQ.st (fun _ _ kz => pw_iload3 dL_law_941 kz) ?_
  refine WQ.st (fun _ _ kz => pw_iconst (v := 3) dL_law_942 (by decide) kz) ?_
  refine WQ.st (fun _ _ kz => pw_iadd dL_law_943 kz) ?_
  refine WQ.st (fun _ _ kz => pw_saload dL_law_944 (sc_3 hi hn) kz) ?_
  refine WQ.st (fun _ _ kz => pw_aload0 dL_law_945 kz) ?_
  refine WQ.st (fun _ _ kz => pw_iload3 dL_law_946 kz) ?_
  refine WQ.st (fun _ _ kz => pw_iconst (v := 4) dL_law_947 (by decide) kz) ?_
  refine WQ.st (fun _ _ kz => pw_iadd dL_law_948 kz) ?_
  refine WQ.st (fun _ _ kz => pw_saload dL_law_949 (sc_4 hi hn) kz) ?_
  have pc := p_least (G := G) (d := 0) (V := V1) (A := A1) (B := B1) (Q := Q1) (t := t1) (sl := sl1) hF1 hA1 (G.2.2.2.1.2.2 (nI i + 1).toNatClampNeg) (G.2.2.2.1.2.2 (nI i + 2).toNatClampNeg) (G.2.2.2.1.2.2 (nI i + 3).toNatClampNeg) (G.2.2.2.1.2.2 (nI i + 4).toNatClampNeg)
  rw [e9] at pc
  refine wq_o4i wX12_least lL_103 rfl dL_law_950 hF1.1 (pc.mn (by omega)) rfl (Nat.le_of_ble_eq_true rfl) (Nat.le_of_ble_eq_true rfl) (fun h2 z2 => ?_)
  obtain ⟨V2, A2, B2, rfl, fp, fq, fb⟩ := z2
  refine WQ.br (fun _ _ ka kb => pw_icmp_eq (tgt := 1745) dL_law_953 (by decide) ka kb) (fun c => ?_) (fun c => absurd rfl c)
  exact kf t1 sl1 sh ls1 S1 V2 P1 A2 B2 Q1 (hL.simple hI1 hl1 fo rm fp fq fb)
set_option maxRecDepth 20000 in
theorem lc_squarest {G : gT} {D k i t sl sh ls : Nat} {S : sS} {V : sV} {P : sP} {A : sV} {B : sB} {Q : sP} {Z : Option Value → Ph → Prop} (hL : LI S V P A B Q t sl sh ls k) (hk : k ≤ 600) (hi : i + 6 ≤ G.2.2.2.1.2.1) (hn : G.2.2.2.1.2.1 ≤ 3072) (hD : 150 ≤ D) (kf : LK G D Z k i) : WQ G D mL_law 958 [some (.ref 0), some (.ref 8), some (.ref 138), some (.int (nI i))] [] (t, sl, gh S V P A B Q) Z := by
  have hI := hL.ci
  have hls : ls + 1000 < 2000000000 := by have := hL.lb; omega
  have hC := hI.de.dc.ka.cf
  obtain ⟨D, rfl⟩ : ∃ D', D = D' + 1 := ⟨D - 1, by omega⟩
  refine WQ.st (fun _ _ kz => pw_aload1 dL_law_958 kz) ?_
  refine WQ.st (fun _ _ kz => pw_aload0 dL_law_959 kz) ?_
  refine WQ.st (fun _ _ kz => pw_iload3 dL_law_960 kz) ?_
  refine WQ.st (fun _ _ kz => pw_iconst (v := 1) dL_law_961 (by decide) kz) ?_
  refine WQ.st (fun _ _ kz => pw_iadd dL_law_962 kz) ?_
  refine WQ.st (fun _ _ kz => pw_saload dL_law_963 (sc_1 hi hn) kz) ?_
  refine WQ.st (fun _ _ kz => pw_aload0 dL_law_964 kz) ?_
  refine WQ.st (fun _ _ kz => pw_iload3 dL_law_965 kz) ?_
  refine WQ.st (fun _ _ kz => pw_iconst (v := 2) dL_law_966 (by decide) kz) ?_
  refine WQ.st (fun _ _ kz => pw_iadd dL_law_967 kz) ?_
  refine WQ.st (fun _ _ kz => pw_saload dL_law_968 (sc_2 hi hn) kz) ?_
  refine wq_o2i wX11_squarest lL_104 rfl dL_law_969 (cf_s8 hC) ((q_squarest (G := G) (sl := sl) (d := 0) hI hls (G.2.2.2.1.2.2 (nI i + 1).toNatClampNeg) (G.2.2.2.1.2.2 (nI i + 2).toNatClampNeg)).mn (by omega)) rfl (Nat.le_of_ble_eq_true rfl) (Nat.le_of_ble_eq_true rfl) (fun h1 z1 => ?_)
  obtain ⟨t1, sl1, ls1, S1, V1, P1, A1, B1, Q1, rfl, hI1, hl1, fo, rm⟩ := z1
  have f := fo.2.2
  have ht := hI.de.dc.ka.st.2
  have hF1 : MF S1 P1 138 := hL.mf.fr (fun x hx => fo.2.1 x (by omega)) (f 138 (by omega) (by omega)).2.1
  have e9 : A1 (138 + 1) = A 139 := (f 139 (by omega) (by omega)).2.2.1
  have e20 : A1 (138 + 20) = A 158 := (f 158 (by omega) (by omega)).2.2.1
  have e21 : A1 (138 + 21) = A 159 := (f 159 (by omega) (by omega)).2.2.1
  have e22 : B1 (138 + 22) = B 160 := (f 160 (by omega) (by omega)).2.2.2
  have ev : V1 138 = V 138 := (f 138 (by omega) (by omega)).1
  have hA1 : AV (A1 (138 + 1)) := by rw [e9]; exact hI.av
  refine WQ.st (fun _ _ kz => pw_aload2 dL_law_972 kz) ?_
  refine WQ.st (fun _ _ kz => pw_aload0 dL_law_973 kz) ?_
  refine WQ.st (fun _ _ kz => pw_iload3 dL_law_974 kz) ?_
  refine WQ.st (fun _ _ kz => pw_iconst (v := 1) dL_law_975 (by decide) kz) ?_
  refine WQ.st (fun _ _ kz => pw_iadd dL_law_976 kz) ?_
  refine WQ.st (fun _ _ kz => pw_saload dL_law_977 (sc_1 hi hn) kz) ?_
  refine WQ.st (fun _ _ kz => pw_aload0 dL_law_978 kz) ?_
  refine WQ.st (fun _ _ kz => pw_iload3 dL_law_979 kz) ?_
  refine WQ.st (fun _ _ kz => pw_iconst (v := 2) dL_law_980 (by decide) kz) ?_
  refine WQ.st (fun _ _ kz => pw_iadd dL_law_981 kz) ?_
  refine WQ.st (fun _ _ kz => pw_saload dL_law_982 (sc_2 hi hn) kz) ?_
  have pc := p_squarest (G := G) (d := 0) (V := V1) (A := A1) (B := B1) (Q := Q1) (t := t1) (sl := sl1) hF1 hA1 (G.2.2.2.1.2.2 (nI i + 1).toNatClampNeg) (G.2.2.2.1.2.2 (nI i + 2).toNatClampNeg)
  rw [e9] at pc
  refine wq_o2i wX12_squarest lL_107 rfl dL_law_983 hF1.1 (pc.mn (by omega)) rfl (Nat.le_of_ble_eq_true rfl) (Nat.le_of_ble_eq_true rfl) (fun h2 z2 => ?_)
  obtain ⟨V2, A2, B2, rfl, fp, fq, fb⟩ := z2
  refine WQ.br (fun _ _ ka kb => pw_icmp_eq (tgt := 1745) dL_law_986 (by decide) ka kb) (fun c => ?_) (fun c => absurd rfl c)
  exact kf t1 sl1 sh ls1 S1 V2 P1 A2 B2 Q1 (hL.simple hI1 hl1 fo rm fp fq fb)
set_option maxRecDepth 20000 in
theorem lc_order {G : gT} {D k i t sl sh ls : Nat} {S : sS} {V : sV} {P : sP} {A : sV} {B : sB} {Q : sP} {Z : Option Value → Ph → Prop} (hL : LI S V P A B Q t sl sh ls k) (hk : k ≤ 600) (hi : i + 6 ≤ G.2.2.2.1.2.1) (hn : G.2.2.2.1.2.1 ≤ 3072) (hD : 150 ≤ D) (kf : LK G D Z k i) : WQ G D mL_law 991 [some (.ref 0), some (.ref 8), some (.ref 138), some (.int (nI i))] [] (t, sl, gh S V P A B Q) Z := by
  have hI := hL.ci
  have hls : ls + 1000 < 2000000000 := by have := hL.lb; omega
  have hC := hI.de.dc.ka.cf
  obtain ⟨D, rfl⟩ : ∃ D', D = D' + 1 := ⟨D - 1, by omega⟩
  refine WQ.st (fun _ _ kz => pw_aload1 dL_law_991 kz) ?_
  refine WQ.st (fun _ _ kz => pw_aload0 dL_law_992 kz) ?_
  refine WQ.st (fun _ _ kz => pw_iload3 dL_law_993 kz) ?_
  refine WQ.st (fun _ _ kz => pw_iconst (v := 1) dL_law_994 (by decide) kz) ?_
  refine WQ.st (fun _ _ kz => pw_iadd dL_law_995 kz) ?_
  refine WQ.st (fun _ _ kz => pw_saload dL_law_996 (sc_1 hi hn) kz) ?_
  refine WQ.st (fun _ _ kz => pw_aload0 dL_law_997 kz) ?_
  refine WQ.st (fun _ _ kz => pw_iload3 dL_law_998 kz) ?_
  refine WQ.st (fun _ _ kz => pw_iconst (v := 2) dL_law_999 (by decide) kz) ?_
  refine WQ.st (fun _ _ kz => pw_iadd dL_law_1000 kz) ?_
  refine WQ.st (fun _ _ kz => pw_saload dL_law_1001 (sc_2 hi hn) kz) ?_
  refine WQ.st (fun _ _ kz => pw_aload0 dL_law_1002 kz) ?_
  refine WQ.st (fun _ _ kz => pw_iload3 dL_law_1003 kz) ?_
  refine WQ.st (fun _ _ kz => pw_iconst (v := 3) dL_law_1004 (by decide) kz) ?_
  refine WQ.st (fun _ _ kz => pw_iadd dL_law_1005 kz) ?_
  refine WQ.st (fun _ _ kz => pw_saload dL_law_1006 (sc_3 hi hn) kz) ?_
  refine WQ.st (fun _ _ kz => pw_aload0 dL_law_1007 kz) ?_
  refine WQ.st (fun _ _ kz => pw_iload3 dL_law_1008 kz) ?_
  refine WQ.st (fun _ _ kz => pw_iconst (v := 4) dL_law_1009 (by decide) kz) ?_
  refine WQ.st (fun _ _ kz => pw_iadd dL_law_1010 kz) ?_
  refine WQ.st (fun _ _ kz => pw_saload dL_law_1011 (sc_4 hi hn) kz) ?_
  refine wq_o4i wX11_order lL_108 rfl dL_law_1012 (cf_s8 hC) ((q_order (G := G) (sl := sl) (d := 0) hI hls (G.2.2.2.1.2.2 (nI i + 1).toNatClampNeg) (G.2.2.2.1.2.2 (nI i + 2).toNatClampNeg) (G.2.2.2.1.2.2 (nI i + 3).toNatClampNeg) (G.2.2.2.1.2.2 (nI i + 4).toNatClampNeg)).mn (by omega)) rfl (Nat.le_of_ble_eq_true rfl) (Nat.le_of_ble_eq_true rfl) (fun h1 z1 => ?_)
  obtain ⟨t1, sl1, ls1, S1, V1, P1, A1, B1, Q1, rfl, hI1, hl1, fo, rm⟩ := z1
  have f := fo.2.2
  have ht := hI.de.dc.ka.st.2
  have hF1 : MF S1 P1 138 := hL.mf.fr (fun x hx => fo.2.1 x (by omega)) (f 138 (by omega) (by omega)).2.1
  have e9 : A1 (138 + 1) = A 139 := (f 139 (by omega) (by omega)).2.2.1
  have e20 : A1 (138 + 20) = A 158 := (f 158 (by omega) (by omega)).2.2.1
  have e21 : A1 (138 + 21) = A 159 := (f 159 (by omega) (by omega)).2.2.1
  have e22 : B1 (138 + 22) = B 160 := (f 160 (by omega) (by omega)).2.2.2
  have ev : V1 138 = V 138 := (f 138 (by omega) (by omega)).1
  have hA1 : AV (A1 (138 + 1)) := by rw [e9]; exact hI.av
  refine WQ.st (fun _ _ kz => pw_aload2 dL_law_1015 kz) ?_
  refine WQ.st (fun _ _ kz => pw_aload0 dL_law_1016 kz) ?_
  refine WQ.st (fun _ _ kz => pw_iload3 dL_law_1017 kz) ?_
  refine WQ.st (fun _ _ kz => pw_iconst (v := 1) dL_law_1018 (by decide) kz) ?_
  refine WQ.st (fun _ _ kz => pw_iadd dL_law_1019 kz) ?_
  refine WQ.st (fun _ _ kz => pw_saload dL_law_1020 (sc_1 hi hn) kz) ?_
  refine WQ.st (fun _ _ kz => pw_aload0 dL_law_1021 kz) ?_
  refine WQ.st (fun _ _ kz => pw_iload3 dL_law_1022 kz) ?_
  refine WQ.st (fun _ _ kz => pw_iconst (v := 2) dL_law_1023 (by decide) kz) ?_
  refine WQ.st (fun _ _ kz => pw_iadd dL_law_1024 kz) ?_
  refine WQ.st (fun _ _ kz => pw_saload dL_law_1025 (sc_2 hi hn) kz) ?_
  refine WQ.st (fun _ _ kz => pw_aload0 dL_law_1026 kz) ?_
  refine WQ.st (fun _ _ kz => pw_iload3 dL_law_1027 kz) ?_
  refine WQ.st (fun _ _ kz => pw_iconst (v := 3) dL_law_1028 (by decide) kz) ?_
  refine WQ.st (fun _ _ kz => pw_iadd dL_law_1029 kz) ?_
  refine WQ.st (fun _ _ kz => pw_saload dL_law_1030 (sc_3 hi hn) kz) ?_
  refine WQ.st (fun _ _ kz => pw_aload0 dL_law_1031 kz) ?_
  refine WQ.st (fun _ _ kz => pw_iload3 dL_law_1032 kz) ?_
  refine WQ.st (fun _ _ kz => pw_iconst (v := 4) dL_law_1033 (by decide) kz) ?_
  refine WQ.st (fun _ _ kz => pw_iadd dL_law_1034 kz) ?_
  refine WQ.st (fun _ _ kz => pw_saload dL_law_1035 (sc_4 hi hn) kz) ?_
  have pc := p_order (G := G) (d := 0) (V := V1) (A := A1) (B := B1) (Q := Q1) (t := t1) (sl := sl1) hF1 hA1 (G.2.2.2.1.2.2 (nI i + 1).toNatClampNeg) (G.2.2.2.1.2.2 (nI i + 2).toNatClampNeg) (G.2.2.2.1.2.2 (nI i + 3).toNatClampNeg) (G.2.2.2.1.2.2 (nI i + 4).toNatClampNeg)
  rw [e9] at pc
  refine wq_o4i wX12_order lL_111 rfl dL_law_1036 hF1.1 (pc.mn (by omega)) rfl (Nat.le_of_ble_eq_true rfl) (Nat.le_of_ble_eq_true rfl) (fun h2 z2 => ?_)
  obtain ⟨V2, A2, B2, rfl, fp, fq, fb⟩ := z2
  refine WQ.br (fun _ _ ka kb => pw_icmp_eq (tgt := 1745) dL_law_1039 (by decide) ka kb) (fun c => ?_) (fun c => absurd rfl c)
  exact kf t1 sl1 sh ls1 S1 V2 P1 A2 B2 Q1 (hL.simple hI1 hl1 fo rm fp fq fb)
set_option maxRecDepth 20000 in
theorem lc_mostPieces {G : gT} {D k i t sl sh ls : Nat} {S : sS} {V : sV} {P : sP} {A : sV} {B : sB} {Q : sP} {Z : Option Value → Ph → Prop} (hL : LI S V P A B Q t sl sh ls k) (hk : k ≤ 600) (hi : i + 6 ≤ G.2.2.2.1.2.1) (hn : G.2.2.2.1.2.1 ≤ 3072) (hD : 150 ≤ D) (kf : LK G D Z k i) : WQ G D mL_law 1044 [some (.ref 0), some (.ref 8), some (.ref 138), some (.int (nI i))] [] (t, sl, gh S V P A B Q) Z := by
  have hI := hL.ci
  have hls : ls + 1000 < 2000000000 := by have := hL.lb; omega
  have hC := hI.de.dc.ka.cf
  obtain ⟨D, rfl⟩ : ∃ D', D = D' + 1 := ⟨D - 1, by omega⟩
  refine WQ.st (fun _ _ kz => pw_aload1 dL_law_1044 kz) ?_
  refine WQ.st (fun _ _ kz => pw_aload0 dL_law_1045 kz) ?_
  refine WQ.st (fun _ _ kz => pw_iload3 dL_law_1046 kz) ?_
  refine WQ.st (fun _ _ kz => pw_iconst (v := 1) dL_law_1047 (by decide) kz) ?_
  refine WQ.st (fun _ _ kz => pw_iadd dL_law_1048 kz) ?_
  refine WQ.st (fun _ _ kz => pw_saload dL_law_1049 (sc_1 hi hn) kz) ?_
  refine WQ.st (fun _ _ kz => pw_aload0 dL_law_1050 kz) ?_
  refine WQ.st (fun _ _ kz => pw_iload3 dL_law_1051 kz) ?_
  refine WQ.st (fun _ _ kz => pw_iconst (v := 2) dL_law_1052 (by decide) kz) ?_
  refine WQ.st (fun _ _ kz => pw_iadd dL_law_1053 kz) ?_
  refine WQ.st (fun _ _ kz => pw_saload dL_law_1054 (sc_2 hi hn) kz) ?_
  refine wq_o2i wX11_mostPieces lL_112 rfl dL_law_1055 (cf_s8 hC) ((q_mostPieces (G := G) (sl := sl) (d := 0) hI hls (G.2.2.2.1.2.2 (nI i + 1).toNatClampNeg) (G.2.2.2.1.2.2 (nI i + 2).toNatClampNeg)).mn (by omega)) rfl (Nat.le_of_ble_eq_true rfl) (Nat.le_of_ble_eq_true rfl) (fun h1 z1 => ?_)
  obtain ⟨t1, sl1, ls1, S1, V1, P1, A1, B1, Q1, rfl, hI1, hl1, fo, rm⟩ := z1
  have f := fo.2.2
  have ht := hI.de.dc.ka.st.2
  have hF1 : MF S1 P1 138 := hL.mf.fr (fun x hx => fo.2.1 x (by omega)) (f 138 (by omega) (by omega)).2.1
  have e9 : A1 (138 + 1) = A 139 := (f 139 (by omega) (by omega)).2.2.1
  have e20 : A1 (138 + 20) = A 158 := (f 158 (by omega) (by omega)).2.2.1
  have e21 : A1 (138 + 21) = A 159 := (f 159 (by omega) (by omega)).2.2.1
  have e22 : B1 (138 + 22) = B 160 := (f 160 (by omega) (by omega)).2.2.2
  have ev : V1 138 = V 138 := (f 138 (by omega) (by omega)).1
  have hA1 : AV (A1 (138 + 1)) := by rw [e9]; exact hI.av
  refine WQ.st (fun _ _ kz => pw_aload2 dL_law_1058 kz) ?_
  refine WQ.st (fun _ _ kz => pw_aload0 dL_law_1059 kz) ?_
  refine WQ.st (fun _ _ kz => pw_iload3 dL_law_1060 kz) ?_
  refine WQ.st (fun _ _ kz => pw_iconst (v := 1) dL_law_1061 (by decide) kz) ?_
  refine WQ.st (fun _ _ kz => pw_iadd dL_law_1062 kz) ?_
  refine WQ.st (fun _ _ kz => pw_saload dL_law_1063 (sc_1 hi hn) kz) ?_
  refine WQ.st (fun _ _ kz => pw_aload0 dL_law_1064 kz) ?_
  refine WQ.st (fun _ _ kz => pw_iload3 dL_law_1065 kz) ?_
  refine WQ.st (fun _ _ kz => pw_iconst (v := 2) dL_law_1066 (by decide) kz) ?_
  refine WQ.st (fun _ _ kz => pw_iadd dL_law_1067 kz) ?_
  refine WQ.st (fun _ _ kz => pw_saload dL_law_1068 (sc_2 hi hn) kz) ?_
  have pc := p_mostPieces (G := G) (d := 0) (V := V1) (A := A1) (B := B1) (Q := Q1) (t := t1) (sl := sl1) hF1 hA1 (G.2.2.2.1.2.2 (nI i + 1).toNatClampNeg) (G.2.2.2.1.2.2 (nI i + 2).toNatClampNeg)
  rw [e9] at pc
  refine wq_o2i wX12_mostPieces lL_115 rfl dL_law_1069 hF1.1 (pc.mn (by omega)) rfl (Nat.le_of_ble_eq_true rfl) (Nat.le_of_ble_eq_true rfl) (fun h2 z2 => ?_)
  obtain ⟨V2, A2, B2, rfl, fp, fq, fb⟩ := z2
  refine WQ.br (fun _ _ ka kb => pw_icmp_eq (tgt := 1745) dL_law_1072 (by decide) ka kb) (fun c => ?_) (fun c => absurd rfl c)
  exact kf t1 sl1 sh ls1 S1 V2 P1 A2 B2 Q1 (hL.simple hI1 hl1 fo rm fp fq fb)
