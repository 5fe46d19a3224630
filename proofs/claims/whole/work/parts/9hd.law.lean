set_option maxRecDepth 20000 in
theorem lc_gladdest {G : gT} {D k i t sl sh ls : Nat} {S : sS} {V : sV} {P : sP} {A : sV} {B : sB} {Q : sP} {Z : Option Value → Ph → Prop} (hL : LI S V P A B Q t sl sh ls k) (hk : k ≤ 600) (hi : i + 6 ≤ G.2.2.2.1.2.1) (hn : G.2.2.2.1.2.1 ≤ 3072) (hD : 150 ≤ D) (kf : LK G D Z k i) : WQ G D mL_law 1077 [some (.ref 0), some (.ref 8), some (.ref 138), some (.int (nI i))] [] (t, sl, gh S V P A B Q) Z := by
  have hI := hL.ci
  have hls : ls + 1000 < 2000000000 := by have := hL.lb; omega
  have hC := hI.de.dc.ka.cf
  obtain ⟨D, rfl⟩ : ∃ D', D = D' + 1 := ⟨D - 1, by omega⟩
  refine WQ.st (fun _ _ kz => pw_aload1 dL_law_1077 kz) ?_
  refine WQ.st (fun _ _ kz => pw_aload0 dL_law_1078 kz) ?_
  refine WQ.st (fun _ _ kz => pw_iload3 dL_law_1079 kz) ?_
  refine WQ.st (fun _ _ kz => pw_iconst (v := 1) dL_law_1080 (by decide) kz) ?_
  refine WQ.st (fun _ _ kz => pw_iadd dL_law_1081 kz) ?_
  refine WQ.st (fun _ _ kz => pw_saload dL_law_1082 (sc_1 hi hn) kz) ?_
  refine wq_o1i wX11_gladdest lL_116 rfl dL_law_1083 (cf_s8 hC) ((q_gladdest (G := G) (sl := sl) (d := 0) hI hls (G.2.2.2.1.2.2 (nI i + 1).toNatClampNeg)).mn (by omega)) rfl (Nat.le_of_ble_eq_true rfl) (Nat.le_of_ble_eq_true rfl) (fun h1 z1 => ?_)
  obtain ⟨t1, sl1, ls1, S1, V1, P1, A1, B1, Q1, rfl, hI1, hl1, fo, rm⟩ := z1
  have f := fo.2.2
  have ht := hI.de.dc.ka.st.2
  have hF1 : MF S1 P1 138 := hL.mf.fr (fun x hx => fo.2.1 x (by omega)) (f 138 (by omega) (by omega)).2.1
  have e9 : A1 (138 + 1) = A 139 := (f 139 (by omega) (by omega)).2.2.1
  have e20 : A1 (138 + 20) = A 158 := (f 158 (by omega) (by omega)).2.2.1
  have e21 : A1 (138 + 21) = A 159 := (f 159 (by omega) (by omega)).2.2.1
  have e22 : B1 (138 + 22) = B 160 := (f 160 (by omega) (by omega)).2.2.2
  have ev : V1 138 = V 138 := (f 138 (by omega) (by omega)).1
  have hA1 : AV (A1 (138 + 1)) := by rw [e9]; exact hI.av
  refine WQ.st (fun _ _ kz => pw_aload2 dL_law_1086 kz) ?_
  refine WQ.st (fun _ _ kz => pw_aload0 dL_law_1087 kz) ?_
  refine WQ.st (fun _ _ kz => pw_iload3 dL_law_1088 kz) ?_
  refine WQ.st (fun _ _ kz => pw_iconst (v := 1) dL_law_1089 (by decide) kz) ?_
  refine WQ.st (fun _ _ kz => pw_iadd dL_law_1090 kz) ?_
  refine WQ.st (fun _ _ kz => pw_saload dL_law_1091 (sc_1 hi hn) kz) ?_
  have pc := p_gladdest (G := G) (d := 0) (V := V1) (A := A1) (B := B1) (Q := Q1) (t := t1) (sl := sl1) hF1 hA1 (G.2.2.2.1.2.2 (nI i + 1).toNatClampNeg)
  rw [e9] at pc
  refine wq_o1i wX12_gladdest lL_119 rfl dL_law_1092 hF1.1 (pc.mn (by omega)) rfl (Nat.le_of_ble_eq_true rfl) (Nat.le_of_ble_eq_true rfl) (fun h2 z2 => ?_)
  obtain ⟨V2, A2, B2, rfl, fp, fq, fb⟩ := z2
  refine WQ.br (fun _ _ ka kb => pw_icmp_eq (tgt := 1745) dL_law_1095 (by decide) ka kb) (fun c => ?_) (fun c => absurd rfl c)
  exact kf t1 sl1 sh ls1 S1 V2 P1 A2 B2 Q1 (hL.simple hI1 hl1 fo rm fp fq fb)
set_option maxRecDepth 20000 in
theorem lc_lends {G : gT} {D k i t sl sh ls : Nat} {S : sS} {V : sV} {P : sP} {A : sV} {B : sB} {Q : sP} {Z : Option Value → Ph → Prop} (hL : LI S V P A B Q t sl sh ls k) (hk : k ≤ 600) (hi : i + 6 ≤ G.2.2.2.1.2.1) (hn : G.2.2.2.1.2.1 ≤ 3072) (hD : 150 ≤ D) (kf : LK G D Z k i) : WQ G D mL_law 1100 [some (.ref 0), some (.ref 8), some (.ref 138), some (.int (nI i))] [] (t, sl, gh S V P A B Q) Z := by
  have hI := hL.ci
  have hls : ls + 1000 < 2000000000 := by have := hL.lb; omega
  have hC := hI.de.dc.ka.cf
  obtain ⟨D, rfl⟩ : ∃ D', D = D' + 1 := ⟨D - 1, by omega⟩
  refine WQ.st (fun _ _ kz => pw_aload1 dL_law_1100 kz) ?_
  refine WQ.st (fun _ _ kz => pw_aload0 dL_law_1101 kz) ?_
  refine WQ.st (fun _ _ kz => pw_iload3 dL_law_1102 kz) ?_
  refine WQ.st (fun _ _ kz => pw_iconst (v := 1) dL_law_1103 (by decide) kz) ?_
  refine WQ.st (fun _ _ kz => pw_iadd dL_law_1104 kz) ?_
  refine WQ.st (fun _ _ kz => pw_saload dL_law_1105 (sc_1 hi hn) kz) ?_
  refine WQ.st (fun _ _ kz => pw_aload0 dL_law_1106 kz) ?_
  refine WQ.st (fun _ _ kz => pw_iload3 dL_law_1107 kz) ?_
  refine WQ.st (fun _ _ kz => pw_iconst (v := 2) dL_law_1108 (by decide) kz) ?_
  refine WQ.st (fun _ _ kz => pw_iadd dL_law_1109 kz) ?_
  refine WQ.st (fun _ _ kz => pw_saload dL_law_1110 (sc_2 hi hn) kz) ?_
  refine WQ.st (fun _ _ kz => pw_aload0 dL_law_1111 kz) ?_
  refine WQ.st (fun _ _ kz => pw_iload3 dL_law_1112 kz) ?_
  refine WQ.st (fun _ _ kz => pw_iconst (v := 3) dL_law_1113 (by decide) kz) ?_
  refine WQ.st (fun _ _ kz => pw_iadd dL_law_1114 kz) ?_
  refine WQ.st (fun _ _ kz => pw_saload dL_law_1115 (sc_3 hi hn) kz) ?_
  refine WQ.st (fun _ _ kz => pw_aload0 dL_law_1116 kz) ?_
  refine WQ.st (fun _ _ kz => pw_iload3 dL_law_1117 kz) ?_
  refine WQ.st (fun _ _ kz => pw_iconst (v := 4) dL_law_1118 (by decide) kz) ?_
  refine WQ.st (fun _ _ kz => pw_iadd dL_law_1119 kz) ?_
  refine WQ.st (fun _ _ kz => pw_saload dL_law_1120 (sc_4 hi hn) kz) ?_
  refine wq_o4i wX11_lends lL_120 rfl dL_law_1121 (cf_s8 hC) ((q_lends (G := G) (sl := sl) (d := 0) hI hls (G.2.2.2.1.2.2 (nI i + 1).toNatClampNeg) (G.2.2.2.1.2.2 (nI i + 2).toNatClampNeg) (G.2.2.2.1.2.2 (nI i + 3).toNatClampNeg) (G.2.2.2.1.2.2 (nI i + 4).toNatClampNeg)).mn (by omega)) rfl (Nat.le_of_ble_eq_true rfl) (Nat.le_of_ble_eq_true rfl) (fun h1 z1 => ?_)
  obtain ⟨t1, sl1, ls1, S1, V1, P1, A1, B1, Q1, rfl, hI1, hl1, fo, rm⟩ := z1
  have f := fo.2.2
  have ht := hI.de.dc.ka.st.2
  have hF1 : MF S1 P1 138 := hL.mf.fr (fun x hx => fo.2.1 x (by omega)) (f 138 (by omega) (by omega)).2.1
  have e9 : A1 (138 + 1) = A 139 := (f 139 (by omega) (by omega)).2.2.1
  have e20 : A1 (138 + 20) = A 158 := (f 158 (by omega) (by omega)).2.2.1
  have e21 : A1 (138 + 21) = A 159 := (f 159 (by omega) (by omega)).2.2.1
  have e22 : B1 (138 + 22) = B 160 := (f 160 (by omega) (by omega)).2.2.2
  have ev : V1 138 = V 138 := (f 138 (by omega) (by omega)).1
  have hA1 : AV (A1 (138 + 1)) := by rw [e9]; exact hI.av
  refine WQ.st (fun _ _ kz => pw_aload2 dL_law_1124 kz) ?_
  refine WQ.st (fun _ _ kz => pw_aload0 dL_law_1125 kz) ?_
  refine WQ.st (fun _ _ kz => pw_iload3 dL_law_1126 kz) ?_
  refine WQ.st (fun _ _ kz => pw_iconst (v := 1) dL_law_1127 (by decide) kz) ?_
  refine WQ.st (fun _ _ kz => pw_iadd dL_law_1128 kz) ?_
  refine WQ.st (fun _ _ kz => pw_saload dL_law_1129 (sc_1 hi hn) kz) ?_
  refine WQ.st (fun _ _ kz => pw_aload0 dL_law_1130 kz) ?_
  refine WQ.st (fun _ _ kz => pw_iload3 dL_law_1131 kz) ?_
  refine WQ.st (fun _ _ kz => pw_iconst (v := 2) dL_law_1132 (by decide) kz) ?_
  refine WQ.st (fun _ _ kz => pw_iadd dL_law_1133 kz) ?_
  refine WQ.st (fun _ _ kz => pw_saload dL_law_1134 (sc_2 hi hn) kz) ?_
  refine WQ.st (fun _ _ kz => pw_aload0 dL_law_1135 kz) ?_
  refine WQ.st (fun _ _ kz => pw_iload3 dL_law_1136 kz) ?_
  refine WQ.st (fun _ _ kz => pw_iconst (v := 3) dL_law_1137 (by decide) kz) ?_
  refine WQ.st (fun _ _ kz => pw_iadd dL_law_1138 kz) ?_
  refine WQ.st (fun _ _ kz => pw_saload dL_law_1139 (sc_3 hi hn) kz) ?_
  refine WQ.st (fun _ _ kz => pw_aload0 dL_law_1140 kz) ?_
  refine WQ.st (fun _ _ kz => pw_iload3 dL_law_1141 kz) ?_
  refine WQ.st (fun _ _ kz => pw_iconst (v := 4) dL_law_1142 (by decide) kz) ?_
  refine WQ.st (fun _ _ kz => pw_iadd dL_law_1143 kz) ?_
  refine WQ.st (fun _ _ kz => pw_saload dL_law_1144 (sc_4 hi hn) kz) ?_
  have pc := p_lends (G := G) (d := 0) (V := V1) (A := A1) (B := B1) (Q := Q1) (t := t1) (sl := sl1) hF1 hA1 (G.2.2.2.1.2.2 (nI i + 1).toNatClampNeg) (G.2.2.2.1.2.2 (nI i + 2).toNatClampNeg) (G.2.2.2.1.2.2 (nI i + 3).toNatClampNeg) (G.2.2.2.1.2.2 (nI i + 4).toNatClampNeg)
  rw [e9] at pc
  refine wq_o4i wX12_lends lL_123 rfl dL_law_1145 hF1.1 (pc.mn (by omega)) rfl (Nat.le_of_ble_eq_true rfl) (Nat.le_of_ble_eq_true rfl) (fun h2 z2 => ?_)
  obtain ⟨V2, A2, B2, rfl, fp, fq, fb⟩ := z2
  refine WQ.br (fun _ _ ka kb => pw_icmp_eq (tgt := 1745) dL_law_1148 (by decide) ka kb) (fun c => ?_) (fun c => absurd rfl c)
  exact kf t1 sl1 sh ls1 S1 V2 P1 A2 B2 Q1 (hL.simple hI1 hl1 fo rm fp fq fb)
set_option maxRecDepth 20000 in
theorem lc_reply {G : gT} {D k i t sl sh ls : Nat} {S : sS} {V : sV} {P : sP} {A : sV} {B : sB} {Q : sP} {Z : Option Value → Ph → Prop} (hL : LI S V P A B Q t sl sh ls k) (hk : k ≤ 600) (hi : i + 6 ≤ G.2.2.2.1.2.1) (hn : G.2.2.2.1.2.1 ≤ 3072) (hD : 150 ≤ D) (kf : LK G D Z k i) : WQ G D mL_law 1153 [some (.ref 0), some (.ref 8), some (.ref 138), some (.int (nI i))] [] (t, sl, gh S V P A B Q) Z := by
  have hI := hL.ci
  have hls : ls + 1000 < 2000000000 := by have := hL.lb; omega
  have hC := hI.de.dc.ka.cf
  obtain ⟨D, rfl⟩ : ∃ D', D = D' + 1 := ⟨D - 1, by omega⟩
  refine WQ.st (fun _ _ kz => pw_aload1 dL_law_1153 kz) ?_
  refine WQ.st (fun _ _ kz => pw_aload0 dL_law_1154 kz) ?_
  refine WQ.st (fun _ _ kz => pw_iload3 dL_law_1155 kz) ?_
  refine WQ.st (fun _ _ kz => pw_iconst (v := 1) dL_law_1156 (by decide) kz) ?_
  refine WQ.st (fun _ _ kz => pw_iadd dL_law_1157 kz) ?_
  refine WQ.st (fun _ _ kz => pw_saload dL_law_1158 (sc_1 hi hn) kz) ?_
  refine WQ.st (fun _ _ kz => pw_aload0 dL_law_1159 kz) ?_
  refine WQ.st (fun _ _ kz => pw_iload3 dL_law_1160 kz) ?_
  refine WQ.st (fun _ _ kz => pw_iconst (v := 2) dL_law_1161 (by decide) kz) ?_
  refine WQ.st (fun _ _ kz => pw_iadd dL_law_1162 kz) ?_
  refine WQ.st (fun _ _ kz => pw_saload dL_law_1163 (sc_2 hi hn) kz) ?_
  refine WQ.st (fun _ _ kz => pw_aload0 dL_law_1164 kz) ?_
  refine WQ.st (fun _ _ kz => pw_iload3 dL_law_1165 kz) ?_
  refine WQ.st (fun _ _ kz => pw_iconst (v := 3) dL_law_1166 (by decide) kz) ?_
  refine WQ.st (fun _ _ kz => pw_iadd dL_law_1167 kz) ?_
  refine WQ.st (fun _ _ kz => pw_saload dL_law_1168 (sc_3 hi hn) kz) ?_
  refine WQ.st (fun _ _ kz => pw_aload0 dL_law_1169 kz) ?_
  refine WQ.st (fun _ _ kz => pw_iload3 dL_law_1170 kz) ?_
  refine WQ.st (fun _ _ kz => pw_iconst (v := 4) dL_law_1171 (by decide) kz) ?_
  refine WQ.st (fun _ _ kz => pw_iadd dL_law_1172 kz) ?_
  refine WQ.st (fun _ _ kz => pw_saload dL_law_1173 (sc_4 hi hn) kz) ?_
  refine wq_o4i wX11_reply lL_124 rfl dL_law_1174 (cf_s8 hC) ((q_reply (G := G) (sl := sl) (d := 0) hI hls (G.2.2.2.1.2.2 (nI i + 1).toNatClampNeg) (G.2.2.2.1.2.2 (nI i + 2).toNatClampNeg) (G.2.2.2.1.2.2 (nI i + 3).toNatClampNeg) (G.2.2.2.1.2.2 (nI i + 4).toNatClampNeg)).mn (by omega)) rfl (Nat.le_of_ble_eq_true rfl) (Nat.le_of_ble_eq_true rfl) (fun h1 z1 => ?_)
  obtain ⟨t1, sl1, ls1, S1, V1, P1, A1, B1, Q1, rfl, hI1, hl1, fo, rm⟩ := z1
  have f := fo.2.2
  have ht := hI.de.dc.ka.st.2
  have hF1 : MF S1 P1 138 := hL.mf.fr (fun x hx => fo.2.1 x (by omega)) (f 138 (by omega) (by omega)).2.1
  have e9 : A1 (138 + 1) = A 139 := (f 139 (by omega) (by omega)).2.2.1
  have e20 : A1 (138 + 20) = A 158 := (f 158 (by omega) (by omega)).2.2.1
  have e21 : A1 (138 + 21) = A 159 := (f 159 (by omega) (by omega)).2.2.1
  have e22 : B1 (138 + 22) = B 160 := (f 160 (by omega) (by omega)).2.2.2
  have ev : V1 138 = V 138 := (f 138 (by omega) (by omega)).1
  have hA1 : AV (A1 (138 + 1)) := by rw [e9]; exact hI.av
  refine WQ.st (fun _ _ kz => pw_aload2 dL_law_1177 kz) ?_
  refine WQ.st (fun _ _ kz => pw_aload0 dL_law_1178 kz) ?_
  refine WQ.st (fun _ _ kz => pw_iload3 dL_law_1179 kz) ?_
  refine WQ.st (fun _ _ kz => pw_iconst (v := 1) dL_law_1180 (by decide) kz) ?_
  refine WQ.st (fun _ _ kz => pw_iadd dL_law_1181 kz) ?_
  refine WQ.st (fun _ _ kz => pw_saload dL_law_1182 (sc_1 hi hn) kz) ?_
  refine WQ.st (fun _ _ kz => pw_aload0 dL_law_1183 kz) ?_
  refine WQ.st (fun _ _ kz => pw_iload3 dL_law_1184 kz) ?_
  refine WQ.st (fun _ _ kz => pw_iconst (v := 2) dL_law_1185 (by decide) kz) ?_
  refine WQ.st (fun _ _ kz => pw_iadd dL_law_1186 kz) ?_
  refine WQ.st (fun _ _ kz => pw_saload dL_law_1187 (sc_2 hi hn) kz) ?_
  refine WQ.st (fun _ _ kz => pw_aload0 dL_law_1188 kz) ?_
  refine WQ.st (fun _ _ kz => pw_iload3 dL_law_1189 kz) ?_
  refine WQ.st (fun _ _ kz => pw_iconst (v := 3) dL_law_1190 (by decide) kz) ?_
  refine WQ.st (fun _ _ kz => pw_iadd dL_law_1191 kz) ?_
  refine WQ.st (fun _ _ kz => pw_saload dL_law_1192 (sc_3 hi hn) kz) ?_
  refine WQ.st (fun _ _ kz => pw_aload0 dL_law_1193 kz) ?_
  refine WQ.st (fun _ _ kz => pw_iload3 dL_law_1194 kz) ?_
  refine WQ.st (fun _ _ kz => pw_iconst (v := 4) dL_law_1195 (by decide) kz) ?_
  refine WQ.st (fun _ _ kz => pw_iadd dL_law_1196 kz) ?_
  refine WQ.st (fun _ _ kz => pw_saload dL_law_1197 (sc_4 hi hn) kz) ?_
  have pc := p_reply (G := G) (d := 0) (V := V1) (A := A1) (B := B1) (Q := Q1) (t := t1) (sl := sl1) hF1 hA1 (G.2.2.2.1.2.2 (nI i + 1).toNatClampNeg) (G.2.2.2.1.2.2 (nI i + 2).toNatClampNeg) (G.2.2.2.1.2.2 (nI i + 3).toNatClampNeg) (G.2.2.2.1.2.2 (nI i + 4).toNatClampNeg)
  rw [e9] at pc
  refine wq_o4i wX12_reply lL_127 rfl dL_law_1198 hF1.1 (pc.mn (by omega)) rfl (Nat.le_of_ble_eq_true rfl) (Nat.le_of_ble_eq_true rfl) (fun h2 z2 => ?_)
  obtain ⟨V2, A2, B2, rfl, fp, fq, fb⟩ := z2
  refine WQ.br (fun _ _ ka kb => pw_icmp_eq (tgt := 1745) dL_law_1201 (by decide) ka kb) (fun c => ?_) (fun c => absurd rfl c)
  exact kf t1 sl1 sh ls1 S1 V2 P1 A2 B2 Q1 (hL.simple hI1 hl1 fo rm fp fq fb)
set_option maxRecDepth 20000 in
theorem lc_heard {G : gT} {D k i t sl sh ls : Nat} {S : sS} {V : sV} {P : sP} {A : sV} {B : sB} {Q : sP} {Z : Option Value → Ph → Prop} (hL : LI S V P A B Q t sl sh ls k) (hk : k ≤ 600) (hi : i + 6 ≤ G.2.2.2.1.2.1) (hn : G.2.2.2.1.2.1 ≤ 3072) (hD : 150 ≤ D) (kf : LK G D Z k i) : WQ G D mL_law 1206 [some (.ref 0), some (.ref 8), some (.ref 138), some (.int (nI i))] [] (t, sl, gh S V P A B Q) Z := by
  have hI := hL.ci
  have hls : ls + 1000 < 2000000000 := by have := hL.lb; omega
  have hC := hI.de.dc.ka.cf
  obtain ⟨D, rfl⟩ : ∃ D', D = D' + 1 := ⟨D - 1, by omega⟩
  refine WQ.st (fun _ _ kz => pw_aload1 dL_law_1206 kz) ?_
  refine WQ.st (fun _ _ kz => pw_aload0 dL_law_1207 kz) ?_
  refine WQ.st (fun _ _ kz => pw_iload3 dL_law_1208 kz) ?_
  refine WQ.st (fun _ _ kz => pw_iconst (v := 1) dL_law_1209 (by decide) kz) ?_
  refine WQ.st (fun _ _ kz => pw_iadd dL_law_1210 kz) ?_
  refine WQ.st (fun _ _ kz => pw_saload dL_law_1211 (sc_1 hi hn) kz) ?_
  refine WQ.st (fun _ _ kz => pw_aload0 dL_law_1212 kz) ?_
  refine WQ.st (fun _ _ kz => pw_iload3 dL_law_1213 kz) ?_
  refine WQ.st (fun _ _ kz => pw_iconst (v := 2) dL_law_1214 (by decide) kz) ?_
  refine WQ.st (fun _ _ kz => pw_iadd dL_law_1215 kz) ?_
  refine WQ.st (fun _ _ kz => pw_saload dL_law_1216 (sc_2 hi hn) kz) ?_
  refine WQ.st (fun _ _ kz => pw_aload0 dL_law_1217 kz) ?_
  refine WQ.st (fun _ _ kz => pw_iload3 dL_law_1218 kz) ?_
  refine WQ.st (fun _ _ kz => pw_iconst (v := 3) dL_law_1219 (by decide) kz) ?_
  refine WQ.st (fun _ _ kz => pw_iadd dL_law_1220 kz) ?_
  refine WQ.st (fun _ _ kz => pw_saload dL_law_1221 (sc_3 hi hn) kz) ?_
  refine WQ.st (fun _ _ kz => pw_aload0 dL_law_1222 kz) ?_
  refine WQ.st (fun _ _ kz => pw_iload3 dL_law_1223 kz) ?_
  refine WQ.st (fun _ _ kz => pw_iconst (v := 4) dL_law_1224 (by decide) kz) ?_
  refine WQ.st (fun _ _ kz => pw_iadd dL_law_1225 kz) ?_
  refine WQ.st (fun _ _ kz => pw_saload dL_law_1226 (sc_4 hi hn) kz) ?_
  refine wq_o4i wX11_heard lL_128 rfl dL_law_1227 (cf_s8 hC) ((q_heard (G := G) (sl := sl) (d := 0) hI hls (G.2.2.2.1.2.2 (nI i + 1).toNatClampNeg) (G.2.2.2.1.2.2 (nI i + 2).toNatClampNeg) (G.2.2.2.1.2.2 (nI i + 3).toNatClampNeg) (G.2.2.2.1.2.2 (nI i + 4).toNatClampNeg)).mn (by omega)) rfl (Nat.le_of_ble_eq_true rfl) (Nat.le_of_ble_eq_true rfl) (fun h1 z1 => ?_)
  obtain ⟨t1, sl1, ls1, S1, V1, P1, A1, B1, Q1, rfl, hI1, hl1, fo, rm⟩ := z1
  have f := fo.2.2
  have ht := hI.de.dc.ka.st.2
  have hF1 : MF S1 P1 138 := hL.mf.fr (fun x hx => fo.2.1 x (by omega)) (f 138 (by omega) (by omega)).2.1
  have e9 : A1 (138 + 1) = A 139 := (f 139 (by omega) (by omega)).2.2.1
  have e20 : A1 (138 + 20) = A 158 := (f 158 (by omega) (by omega)).2.2.1
  have e21 : A1 (138 + 21) = A 159 := (f 159 (by omega) (by omega)).2.2.1
  have e22 : B1 (138 + 22) = B 160 := (f 160 (by omega) (by omega)).2.2.2
  have ev : V1 138 = V 138 := (f 138 (by omega) (by omega)).1
  have hA1 : AV (A1 (138 + 1)) := by rw [e9]; exact hI.av
  refine WQ.st (fun _ _ kz => pw_aload2 dL_law_1230 kz) ?_
  refine WQ.st (fun _ _ kz => pw_aload0 dL_law_1231 kz) ?_
  refine WQ.st (fun _ _ kz => pw_iload3 dL_law_1232 kz) ?_
  refine WQ.st (fun _ _ kz => pw_iconst (v := 1) dL_law_1233 (by decide) kz) ?_
  refine WQ.st (fun _ _ kz => pw_iadd dL_law_1234 kz) ?_
  refine WQ.st (fun _ _ kz => pw_saload dL_law_1235 (sc_1 hi hn) kz) ?_
  refine WQ.st (fun _ _ kz => pw_aload0 dL_law_1236 kz) ?_
  refine WQ.st (fun _ _ kz => pw_iload3 dL_law_1237 kz) ?_
  refine WQ.st (fun _ _ kz => pw_iconst (v := 2) dL_law_1238 (by decide) kz) ?_
  refine WQ.st (fun _ _ kz => pw_iadd dL_law_1239 kz) ?_
  refine WQ.st (fun _ _ kz => pw_saload dL_law_1240 (sc_2 hi hn) kz) ?_
  refine WQ.st (fun _ _ kz => pw_aload0 dL_law_1241 kz) ?_
  refine WQ.st (fun _ _ kz => pw_iload3 dL_law_1242 kz) ?_
  refine WQ.st (fun _ _ kz => pw_iconst (v := 3) dL_law_1243 (by decide) kz) ?_
  refine WQ.st (fun _ _ kz => pw_iadd dL_law_1244 kz) ?_
  refine WQ.st (fun _ _ kz => pw_saload dL_law_1245 (sc_3 hi hn) kz) ?_
  refine WQ.st (fun _ _ kz => pw_aload0 dL_law_1246 kz) ?_
  refine WQ.st (fun _ _ kz => pw_iload3 dL_law_1247 kz) ?_
  refine WQ.st (fun _ _ kz => pw_iconst (v := 4) dL_law_1248 (by decide) kz) ?_
  refine WQ.st (fun _ _ kz => pw_iadd dL_law_1249 kz) ?_
  refine WQ.st (fun _ _ kz => pw_saload dL_law_1250 (sc_4 hi hn) kz) ?_
  have pc := p_heard (G := G) (d := 0) (V := V1) (A := A1) (B := B1) (Q := Q1) (t := t1) (sl := sl1) hF1 hA1 (G.2.2.2.1.2.2 (nI i + 1).toNatClampNeg) (G.2.2.2.1.2.2 (nI i + 2).toNatClampNeg) (G.2.2.2.1.2.2 (nI i + 3).toNatClampNeg) (G.2.2.2.1.2.2 (nI i + 4).toNatClampNeg)
  rw [e9, e20, e21, e22] at pc
  refine wq_o4i wX12_heard lL_132 rfl dL_law_1251 hF1.1 (pc.mn (by omega)) rfl (Nat.le_of_ble_eq_true rfl) (Nat.le_of_ble_eq_true rfl) (fun h2 z2 => ?_)
  obtain ⟨V2, A2, B2, rfl, fp, fq, fb⟩ := z2
  refine WQ.st (fun _ _ kz => pw_lcmp dL_law_1254 kz) ?_
  refine WQ.br (fun _ _ ka kb => pw_if_eq (tgt := 1745) dL_law_1255 (by decide) ka kb) (fun c => ?_) (fun c => absurd (lg_same _) c)
  exact kf t1 sl1 sh ls1 S1 V2 P1 A2 B2 Q1 (hL.simple hI1 hl1 fo rm fp fq fb)
set_option maxRecDepth 20000 in
theorem lc_sure {G : gT} {D k i t sl sh ls : Nat} {S : sS} {V : sV} {P : sP} {A : sV} {B : sB} {Q : sP} {Z : Option Value → Ph → Prop} (hL : LI S V P A B Q t sl sh ls k) (hk : k ≤ 600) (hi : i + 6 ≤ G.2.2.2.1.2.1) (hn : G.2.2.2.1.2.1 ≤ 3072) (hD : 150 ≤ D) (kf : LK G D Z k i) : WQ G D mL_law 1260 [some (.ref 0), some (.ref 8), some (.ref 138), some (.int (nI i))] [] (t, sl, gh S V P A B Q) Z := by
  have hI := hL.ci
  have hls : ls + 1000 < 2000000000 := by have := hL.lb; omega
  have hC := hI.de.dc.ka.cf
  obtain ⟨D, rfl⟩ : ∃ D', D = D' + 1 := ⟨D - 1, by omega⟩
  refine WQ.st (fun _ _ kz => pw_aload1 dL_law_1260 kz) ?_
  refine WQ.st (fun _ _ kz => pw_aload0 dL_law_1261 kz) ?_
  refine WQ.st (fun _ _ kz => pw_iload3 dL_law_1262 kz) ?_
  refine WQ.st (fun _ _ kz => pw_iconst (v := 1) dL_law_1263 (by decide) kz) ?_
  refine WQ.st (fun _ _ kz => pw_iadd dL_law_1264 kz) ?_
  refine WQ.st (fun _ _ kz => pw_saload dL_law_1265 (sc_1 hi hn) kz) ?_
  refine WQ.st (fun _ _ kz => pw_aload0 dL_law_1266 kz) ?_
  refine WQ.st (fun _ _ kz => pw_iload3 dL_law_1267 kz) ?_
  refine WQ.st (fun _ _ kz => pw_iconst (v := 2) dL_law_1268 (by decide) kz) ?_
  refine WQ.st (fun _ _ kz => pw_iadd dL_law_1269 kz) ?_
  refine WQ.st (fun _ _ kz => pw_saload dL_law_1270 (sc_2 hi hn) kz) ?_
  refine WQ.st (fun _ _ kz => pw_aload0 dL_law_1271 kz) ?_
  refine WQ.st (fun _ _ kz => pw_iload3 dL_law_1272 kz) ?_
  refine WQ.st (fun _ _ kz => pw_iconst (v := 3) dL_law_1273 (by decide) kz) ?_
  refine WQ.st (fun _ _ kz => pw_iadd dL_law_1274 kz) ?_
  refine WQ.st (fun _ _ kz => pw_saload dL_law_1275 (sc_3 hi hn) kz) ?_
  refine WQ.st (fun _ _ kz => pw_aload0 dL_law_1276 kz) ?_
  refine WQ.st (fun _ _ kz => pw_iload3 dL_law_1277 kz) ?_
  refine WQ.st (fun _ _ kz => pw_iconst (v := 4) dL_law_1278 (by decide) kz) ?_
  refine WQ.st (fun _ _ kz => pw_iadd dL_law_1279 kz) ?_
  refine WQ.st (fun _ _ kz => pw_saload dL_law_1280 (sc_4 hi hn) kz) ?_
  refine WQ.st (fun _ _ kz => pw_aload0 dL_law_1281 kz) ?_
  refine WQ.st (fun _ _ kz => pw_iload3 dL_law_1282 kz) ?_
  refine WQ.st (fun _ _ kz => pw_iconst (v := 5) dL_law_1283 (by decide) kz) ?_
  refine WQ.st (fun _ _ kz => pw_iadd dL_law_1284 kz) ?_
  refine WQ.st (fun _ _ kz => pw_saload dL_law_1285 (sc_5 hi hn) kz) ?_
  refine wq_o5i wX11_sure lL_133 rfl dL_law_1286 (cf_s8 hC) ((q_sure (G := G) (sl := sl) (d := 0) hI hls (G.2.2.2.1.2.2 (nI i + 1).toNatClampNeg) (G.2.2.2.1.2.2 (nI i + 2).toNatClampNeg) (G.2.2.2.1.2.2 (nI i + 3).toNatClampNeg) (G.2.2.2.1.2.2 (nI i + 4).toNatClampNeg) (G.2.2.2.1.2.2 (nI i + 5).toNatClampNeg)).mn (by omega)) rfl (Nat.le_of_ble_eq_true rfl) (Nat.le_of_ble_eq_true rfl) (fun h1 z1 => ?_)
  obtain ⟨t1, sl1, ls1, S1, V1, P1, A1, B1, Q1, rfl, hI1, hl1, fo, rm⟩ := z1
  have f := fo.2.2
  have ht := hI.de.dc.ka.st.2
  have hF1 : MF S1 P1 138 := hL.mf.fr (fun x hx => fo.2.1 x (by omega)) (f 138 (by omega) (by omega)).2.1
  have e9 : A1 (138 + 1) = A 139 := (f 139 (by omega) (by omega)).2.2.1
  have e20 : A1 (138 + 20) = A 158 := (f 158 (by omega) (by omega)).2.2.1
  have e21 : A1 (138 + 21) = A 159 := (f 159 (by omega) (by omega)).2.2.1
  have e22 : B1 (138 + 22) = B 160 := (f 160 (by omega) (by omega)).2.2.2
  have ev : V1 138 = V 138 := (f 138 (by omega) (by omega)).1
  have hA1 : AV (A1 (138 + 1)) := by rw [e9]; exact hI.av
  refine WQ.st (fun _ _ kz => pw_aload2 dL_law_1289 kz) ?_
  refine WQ.st (fun _ _ kz => pw_aload0 dL_law_1290 kz) ?_
  refine WQ.st (fun _ _ kz => pw_iload3 dL_law_1291 kz) ?_
  refine WQ.st (fun _ _ kz => pw_iconst (v := 1) dL_law_1292 (by decide) kz) ?_
  refine WQ.st (fun _ _ kz => pw_iadd dL_law_1293 kz) ?_
  refine WQ.st (fun _ _ kz => pw_saload dL_law_1294 (sc_1 hi hn) kz) ?_
  refine WQ.st (fun _ _ kz => pw_aload0 dL_law_1295 kz) ?_
  refine WQ.st (fun _ _ kz => pw_iload3 dL_law_1296 kz) ?_
  refine WQ.st (fun _ _ kz => pw_iconst (v := 2) dL_law_1297 (by decide) kz) ?_
  refine WQ.st (fun _ _ kz => pw_iadd dL_law_1298 kz) ?_
  refine WQ.st (fun _ _ kz => pw_saload dL_law_1299 (sc_2 hi hn) kz) ?_
  refine WQ.st (fun _ _ kz => pw_aload0 dL_law_1300 kz) ?_
  refine WQ.st (fun _ _ kz => pw_iload3 dL_law_1301 kz) ?_
  refine WQ.st (fun _ _ kz => pw_iconst (v := 3) dL_law_1302 (by decide) kz) ?_
  refine WQ.st (fun _ _ kz => pw_iadd dL_law_1303 kz) ?_
  refine WQ.st (fun _ _ kz => pw_saload dL_law_1304 (sc_3 hi hn) kz) ?_
  refine WQ.st (fun _ _ kz => pw_aload0 dL_law_1305 kz) ?_
  refine WQ.st (fun _ _ kz => pw_iload3 dL_law_1306 kz) ?_
  refine WQ.st (fun _ _ kz => pw_iconst (v := 4) dL_law_1307 (by decide) kz) ?_
  refine WQ.st (fun _ _ kz => pw_iadd dL_law_1308 kz) ?_
  refine WQ.st (fun _ _ kz => pw_saload dL_law_1309 (sc_4 hi hn) kz) ?_
  refine WQ.st (fun _ _ kz => pw_aload0 dL_law_1310 kz) ?_
  refine WQ.st (fun _ _ kz => pw_iload3 dL_law_1311 kz) ?_
  refine WQ.st (fun _ _ kz => pw_iconst (v := 5) dL_law_1312 (by decide) kz) ?_
  refine WQ.st (fun _ _ kz => pw_iadd dL_law_1313 kz) ?_
  refine WQ.st (fun _ _ kz => pw_saload dL_law_1314 (sc_5 hi hn) kz) ?_
  have pc := p_sure (G := G) (d := 0) (V := V1) (A := A1) (B := B1) (Q := Q1) (t := t1) (sl := sl1) hF1 hA1 (G.2.2.2.1.2.2 (nI i + 1).toNatClampNeg) (G.2.2.2.1.2.2 (nI i + 2).toNatClampNeg) (G.2.2.2.1.2.2 (nI i + 3).toNatClampNeg) (G.2.2.2.1.2.2 (nI i + 4).toNatClampNeg) (G.2.2.2.1.2.2 (nI i + 5).toNatClampNeg)
  rw [e9, e20, e21, e22] at pc
  refine wq_o5i wX12_sure lL_136 rfl dL_law_1315 hF1.1 (pc.mn (by omega)) rfl (Nat.le_of_ble_eq_true rfl) (Nat.le_of_ble_eq_true rfl) (fun h2 z2 => ?_)
  obtain ⟨V2, A2, B2, rfl, fp, fq, fb⟩ := z2
  refine WQ.br (fun _ _ ka kb => pw_icmp_eq (tgt := 1745) dL_law_1318 (by decide) ka kb) (fun c => ?_) (fun c => absurd rfl c)
  exact kf t1 sl1 sh ls1 S1 V2 P1 A2 B2 Q1 (hL.simple hI1 hl1 fo rm fp fq fb)
set_option maxRecDepth 20000 in
theorem lc_tempers {G : gT} {D k i t sl sh ls : Nat} {S : sS} {V : sV} {P : sP} {A : sV} {B : sB} {Q : sP} {Z : Option Value → Ph → Prop} (hL : LI S V P A B Q t sl sh ls k) (hk : k ≤ 600) (hi : i + 6 ≤ G.2.2.2.1.2.1) (hn : G.2.2.2.1.2.1 ≤ 3072) (hD : 150 ≤ D) (kf : LK G D Z k i) : WQ G D mL_law 1323 [some (.ref 0), some (.ref 8), some (.ref 138), some (.int (nI i))] [] (t, sl, gh S V P A B Q) Z := by
  have hI := hL.ci
  have hls : ls + 1000 < 2000000000 := by have := hL.lb; omega
  have hC := hI.de.dc.ka.cf
  obtain ⟨D, rfl⟩ : ∃ D', D = D' + 1 := ⟨D - 1, by omega⟩
  refine WQ.st (fun _ _ kz => pw_aload1 dL_law_1323 kz) ?_
  refine WQ.st (fun _ _ kz => pw_aload0 dL_law_1324 kz) ?_
  refine WQ.st (fun _ _ kz => pw_iload3 dL_law_1325 kz) ?_
  refine WQ.st (fun _ _ kz => pw_iconst (v := 1) dL_law_1326 (by decide) kz) ?_
  refine WQ.st (fun _ _ kz => pw_iadd dL_law_1327 kz) ?_
  refine WQ.st (fun _ _ kz => pw_saload dL_law_1328 (sc_1 hi hn) kz) ?_
  refine WQ.st (fun _ _ kz => pw_aload0 dL_law_1329 kz) ?_
  refine WQ.st (fun _ _ kz => pw_iload3 dL_law_1330 kz) ?_
  refine WQ.st (fun _ _ kz => pw_iconst (v := 2) dL_law_1331 (by decide) kz) ?_
  refine WQ.st (fun _ _ kz => pw_iadd dL_law_1332 kz) ?_
  refine WQ.st (fun _ _ kz => pw_saload dL_law_1333 (sc_2 hi hn) kz) ?_
  refine WQ.st (fun _ _ kz => pw_aload0 dL_law_1334 kz) ?_
  refine WQ.st (fun _ _ kz => pw_iload3 dL_law_1335 kz) ?_
  refine WQ.st (fun _ _ kz => pw_iconst (v := 3) dL_law_1336 (by decide) kz) ?_
  refine WQ.st (fun _ _ kz => pw_iadd dL_law_1337 kz) ?_
  refine WQ.st (fun _ _ kz => pw_saload dL_law_1338 (sc_3 hi hn) kz) ?_
  refine wq_o3i wX11_tempers lL_137 rfl dL_law_1339 (cf_s8 hC) ((q_tempers (G := G) (sl := sl) (d := 0) hI hls (G.2.2.2.1.2.2 (nI i + 1).toNatClampNeg) (G.2.2.2.1.2.2 (nI i + 2).toNatClampNeg) (G.2.2.2.1.2.2 (nI i + 3).toNatClampNeg)).mn (by omega)) rfl (Nat.le_of_ble_eq_true rfl) (Nat.le_of_ble_eq_true rfl) (fun h1 z1 => ?_)
  obtain ⟨t1, sl1, ls1, S1, V1, P1, A1, B1, Q1, rfl, hI1, hl1, fo, rm⟩ := z1
  have f := fo.2.2
  have ht := hI.de.dc.ka.st.2
  have hF1 : MF S1 P1 138 := hL.mf.fr (fun x hx => fo.2.1 x (by omega)) (f 138 (by omega) (by omega)).2.1
  have e9 : A1 (138 + 1) = A 139 := (f 139 (by omega) (by omega)).2.2.1
  have e20 : A1 (138 + 20) = A 158 := (f 158 (by omega) (by omega)).2.2.1
  have e21 : A1 (138 + 21) = A 159 := (f 159 (by omega) (by omega)).2.2.1
  have e22 : B1 (138 + 22) = B 160 := (f 160 (by omega) (by omega)).2.2.2
  have ev : V1 138 = V 138 := (f 138 (by omega) (by omega)).1
  have hA1 : AV (A1 (138 + 1)) := by rw [e9]; exact hI.av
  refine WQ.st (fun _ _ kz => pw_aload2 dL_law_1342 kz) ?_
  refine WQ.st (fun _ _ kz => pw_aload0 dL_law_1343 kz) ?_
  refine WQ.st (fun _ _ kz => pw_iload3 dL_law_1344 kz) ?_
  refine WQ.st (fun _ _ kz => pw_iconst (v := 1) dL_law_1345 (by decide) kz) ?_
  refine WQ.st (fun _ _ kz => pw_iadd dL_law_1346 kz) ?_
  refine WQ.st (fun _ _ kz => pw_saload dL_law_1347 (sc_1 hi hn) kz) ?_
  refine WQ.st (fun _ _ kz => pw_aload0 dL_law_1348 kz) ?_
  refine WQ.st (fun _ _ kz => pw_iload3 dL_law_1349 kz) ?_
  refine WQ.st (fun _ _ kz => pw_iconst (v := 2) dL_law_1350 (by decide) kz) ?_
  refine WQ.st (fun _ _ kz => pw_iadd dL_law_1351 kz) ?_
  refine WQ.st (fun _ _ kz => pw_saload dL_law_1352 (sc_2 hi hn) kz) ?_
  refine WQ.st (fun _ _ kz => pw_aload0 dL_law_1353 kz) ?_
  refine WQ.st (fun _ _ kz => pw_iload3 dL_law_1354 kz) ?_
  refine WQ.st (fun _ _ kz => pw_iconst (v := 3) dL_law_1355 (by decide) kz) ?_
  refine WQ.st (fun _ _ kz => pw_iadd dL_law_1356 kz) ?_
  refine WQ.st (fun _ _ kz => pw_saload dL_law_1357 (sc_3 hi hn) kz) ?_
  have pc := p_tempers (G := G) (d := 0) (V := V1) (A := A1) (B := B1) (Q := Q1) (t := t1) (sl := sl1) hF1 hA1 (G.2.2.2.1.2.2 (nI i + 1).toNatClampNeg) (G.2.2.2.1.2.2 (nI i + 2).toNatClampNeg) (G.2.2.2.1.2.2 (nI i + 3).toNatClampNeg)
  rw [e9, e20, e21, e22] at pc
  refine wq_o3i wX12_tempers lL_140 rfl dL_law_1358 hF1.1 (pc.mn (by omega)) rfl (Nat.le_of_ble_eq_true rfl) (Nat.le_of_ble_eq_true rfl) (fun h2 z2 => ?_)
  obtain ⟨V2, A2, B2, rfl, fp, fq, fb⟩ := z2
  refine WQ.br (fun _ _ ka kb => pw_icmp_eq (tgt := 1745) dL_law_1361 (by decide) ka kb) (fun c => ?_) (fun c => absurd rfl c)
  exact kf t1 sl1 sh ls1 S1 V2 P1 A2 B2 Q1 (hL.simple hI1 hl1 fo rm fp fq fb)
set_option maxRecDepth 20000 in
theorem lc_next {G : gT} {D k i t sl sh ls : Nat} {S : sS} {V : sV} {P : sP} {A : sV} {B : sB} {Q : sP} {Z : Option Value → Ph → Prop} (hL : LI S V P A B Q t sl sh ls k) (hk : k ≤ 600) (hi : i + 6 ≤ G.2.2.2.1.2.1) (hn : G.2.2.2.1.2.1 ≤ 3072) (hD : 150 ≤ D) (kf : LK G D Z k i) : WQ G D mL_law 1366 [some (.ref 0), some (.ref 8), some (.ref 138), some (.int (nI i))] [] (t, sl, gh S V P A B Q) Z := by
  have hI := hL.ci
  have hls : ls + 1000 < 2000000000 := by have := hL.lb; omega
  have hC := hI.de.dc.ka.cf
  obtain ⟨D, rfl⟩ : ∃ D', D = D' + 1 := ⟨D - 1, by omega⟩
  refine WQ.st (fun _ _ kz => pw_aload1 dL_law_1366 kz) ?_
  refine WQ.st (fun _ _ kz => pw_aload0 dL_law_1367 kz) ?_
  refine WQ.st (fun _ _ kz => pw_iload3 dL_law_1368 kz) ?_
  refine WQ.st (fun _ _ kz => pw_iconst (v := 1) dL_law_1369 (by decide) kz) ?_
  refine WQ.st (fun _ _ kz => pw_iadd dL_law_1370 kz) ?_
  refine WQ.st (fun _ _ kz => pw_saload dL_law_1371 (sc_1 hi hn) kz) ?_
  refine WQ.st (fun _ _ kz => pw_aload0 dL_law_1372 kz) ?_
  refine WQ.st (fun _ _ kz => pw_iload3 dL_law_1373 kz) ?_
  refine WQ.st (fun _ _ kz => pw_iconst (v := 2) dL_law_1374 (by decide) kz) ?_
  refine WQ.st (fun _ _ kz => pw_iadd dL_law_1375 kz) ?_
  refine WQ.st (fun _ _ kz => pw_saload dL_law_1376 (sc_2 hi hn) kz) ?_
  refine WQ.st (fun _ _ kz => pw_aload0 dL_law_1377 kz) ?_
  refine WQ.st (fun _ _ kz => pw_iload3 dL_law_1378 kz) ?_
  refine WQ.st (fun _ _ kz => pw_iconst (v := 3) dL_law_1379 (by decide) kz) ?_
  refine WQ.st (fun _ _ kz => pw_iadd dL_law_1380 kz) ?_
  refine WQ.st (fun _ _ kz => pw_saload dL_law_1381 (sc_3 hi hn) kz) ?_
  refine wq_o3i wX11_next lL_141 rfl dL_law_1382 (cf_s8 hC) ((q_next (G := G) (sl := sl) (d := 0) hI hls (G.2.2.2.1.2.2 (nI i + 1).toNatClampNeg) (G.2.2.2.1.2.2 (nI i + 2).toNatClampNeg) (G.2.2.2.1.2.2 (nI i + 3).toNatClampNeg)).mn (by omega)) rfl (Nat.le_of_ble_eq_true rfl) (Nat.le_of_ble_eq_true rfl) (fun h1 z1 => ?_)
  obtain ⟨t1, sl1, ls1, S1, V1, P1, A1, B1, Q1, rfl, hI1, hl1, fo, rm⟩ := z1
  have f := fo.2.2
  have ht := hI.de.dc.ka.st.2
  have hF1 : MF S1 P1 138 := hL.mf.fr (fun x hx => fo.2.1 x (by omega)) (f 138 (by omega) (by omega)).2.1
  have e9 : A1 (138 + 1) = A 139 := (f 139 (by omega) (by omega)).2.2.1
  have e20 : A1 (138 + 20) = A 158 := (f 158 (by omega) (by omega)).2.2.1
  have e21 : A1 (138 + 21) = A 159 := (f 159 (by omega) (by omega)).2.2.1
  have e22 : B1 (138 + 22) = B 160 := (f 160 (by omega) (by omega)).2.2.2
  have ev : V1 138 = V 138 := (f 138 (by omega) (by omega)).1
  have hA1 : AV (A1 (138 + 1)) := by rw [e9]; exact hI.av
  refine WQ.st (fun _ _ kz => pw_aload2 dL_law_1385 kz) ?_
  refine WQ.st (fun _ _ kz => pw_aload0 dL_law_1386 kz) ?_
  refine WQ.st (fun _ _ kz => pw_iload3 dL_law_1387 kz) ?_
  refine WQ.st (fun _ _ kz => pw_iconst (v := 1) dL_law_1388 (by decide) kz) ?_
  refine WQ.st (fun _ _ kz => pw_iadd dL_law_1389 kz) ?_
  refine WQ.st (fun _ _ kz => pw_saload dL_law_1390 (sc_1 hi hn) kz) ?_
  refine WQ.st (fun _ _ kz => pw_aload0 dL_law_1391 kz) ?_
  refine WQ.st (fun _ _ kz => pw_iload3 dL_law_1392 kz) ?_
  refine WQ.st (fun _ _ kz => pw_iconst (v := 2) dL_law_1393 (by decide) kz) ?_
  refine WQ.st (fun _ _ kz => pw_iadd dL_law_1394 kz) ?_
  refine WQ.st (fun _ _ kz => pw_saload dL_law_1395 (sc_2 hi hn) kz) ?_
  refine WQ.st (fun _ _ kz => pw_aload0 dL_law_1396 kz) ?_
  refine WQ.st (fun _ _ kz => pw_iload3 dL_law_1397 kz) ?_
  refine WQ.st (fun _ _ kz => pw_iconst (v := 3) dL_law_1398 (by decide) kz) ?_
  refine WQ.st (fun _ _ kz => pw_iadd dL_law_1399 kz) ?_
  refine WQ.st (fun _ _ kz => pw_saload dL_law_1400 (sc_3 hi hn) kz) ?_
  have pc := p_next (G := G) (d := 0) (V := V1) (A := A1) (B := B1) (Q := Q1) (t := t1) (sl := sl1) hF1 hA1 (G.2.2.2.1.2.2 (nI i + 1).toNatClampNeg) (G.2.2.2.1.2.2 (nI i + 2).toNatClampNeg) (G.2.2.2.1.2.2 (nI i + 3).toNatClampNeg)
  rw [e9, e20, e21, e22] at pc
  refine wq_o3i wX12_next lL_144 rfl dL_law_1401 hF1.1 (pc.mn (by omega)) rfl (Nat.le_of_ble_eq_true rfl) (Nat.le_of_ble_eq_true rfl) (fun h2 z2 => ?_)
  obtain ⟨V2, A2, B2, rfl, fp, fq, fb⟩ := z2
  refine WQ.br (fun _ _ ka kb => pw_icmp_eq (tgt := 1745) dL_law_1404 (by decide) ka kb) (fun c => ?_) (fun c => absurd rfl c)
  exact kf t1 sl1 sh ls1 S1 V2 P1 A2 B2 Q1 (hL.simple hI1 hl1 fo rm fp fq fb)
set_option maxRecDepth 20000 in
theorem lc_chance {G : gT} {D k i t sl sh ls : Nat} {S : sS} {V : sV} {P : sP} {A : sV} {B : sB} {Q : sP} {Z : Option Value → Ph → Prop} (hL : LI S V P A B Q t sl sh ls k) (hk : k ≤ 600) (hi : i + 6 ≤ G.2.2.2.1.2.1) (hn : G.2.2.2.1.2.1 ≤ 3072) (hD : 150 ≤ D) (kf : LK G D Z k i) : WQ G D mL_law 1409 [some (.ref 0), some (.ref 8), some (.ref 138), some (.int (nI i))] [] (t, sl, gh S V P A B Q) Z := by
  have hI := hL.ci
  have hls : ls + 1000 < 2000000000 := by have := hL.lb; omega
  have hC := hI.de.dc.ka.cf
  obtain ⟨D, rfl⟩ : ∃ D', D = D' + 1 := ⟨D - 1, by omega⟩
  refine WQ.st (fun _ _ kz => pw_aload1 dL_law_1409 kz) ?_
  refine WQ.st (fun _ _ kz => pw_aload0 dL_law_1410 kz) ?_
  refine WQ.st (fun _ _ kz => pw_iload3 dL_law_1411 kz) ?_
  refine WQ.st (fun _ _ kz => pw_iconst (v := 1) dL_law_1412 (by decide) kz) ?_
  refine WQ.st (fun _ _ kz => pw_iadd dL_law_1413 kz) ?_
  refine WQ.st (fun _ _ kz => pw_saload dL_law_1414 (sc_1 hi hn) kz) ?_
  refine WQ.st (fun _ _ kz => pw_aload0 dL_law_1415 kz) ?_
  refine WQ.st (fun _ _ kz => pw_iload3 dL_law_1416 kz) ?_
  refine WQ.st (fun _ _ kz => pw_iconst (v := 2) dL_law_1417 (by decide) kz) ?_
  refine WQ.st (fun _ _ kz => pw_iadd dL_law_1418 kz) ?_
  refine WQ.st (fun _ _ kz => pw_saload dL_law_1419 (sc_2 hi hn) kz) ?_
  refine WQ.st (fun _ _ kz => pw_aload0 dL_law_1420 kz) ?_
  refine WQ.st (fun _ _ kz => pw_iload3 dL_law_1421 kz) ?_
  refine WQ.st (fun _ _ kz => pw_iconst (v := 3) dL_law_1422 (by decide) kz) ?_
  refine WQ.st (fun _ _ kz => pw_iadd dL_law_1423 kz) ?_
  refine WQ.st (fun _ _ kz => pw_saload dL_law_1424 (sc_3 hi hn) kz) ?_
  refine WQ.st (fun _ _ kz => pw_aload0 dL_law_1425 kz) ?_
  refine WQ.st (fun _ _ kz => pw_iload3 dL_law_1426 kz) ?_
  refine WQ.st (fun _ _ kz => pw_iconst (v := 4) dL_law_1427 (by decide) kz) ?_
  refine WQ.st (fun _ _ kz => pw_iadd dL_law_1428 kz) ?_
  refine WQ.st (fun _ _ kz => pw_saload dL_law_1429 (sc_4 hi hn) kz) ?_
  refine wq_o4i wX11_chance lL_145 rfl dL_law_1430 (cf_s8 hC) ((q_chance (G := G) (sl := sl) (d := 0) hI hls (G.2.2.2.1.2.2 (nI i + 1).toNatClampNeg) (G.2.2.2.1.2.2 (nI i + 2).toNatClampNeg) (G.2.2.2.1.2.2 (nI i + 3).toNatClampNeg) (G.2.2.2.1.2.2 (nI i + 4).toNatClampNeg)).mn (by omega)) rfl (Nat.le_of_ble_eq_true rfl) (Nat.le_of_ble_eq_true rfl) (fun h1 z1 => ?_)
  obtain ⟨t1, sl1, ls1, S1, V1, P1, A1, B1, Q1, rfl, hI1, hl1, fo, rm⟩ := z1
  have f := fo.2.2
  have ht := hI.de.dc.ka.st.2
  have hF1 : MF S1 P1 138 := hL.mf.fr (fun x hx => fo.2.1 x (by omega)) (f 138 (by omega) (by omega)).2.1
  have e9 : A1 (138 + 1) = A 139 := (f 139 (by omega) (by omega)).2.2.1
  have e20 : A1 (138 + 20) = A 158 := (f 158 (by omega) (by omega)).2.2.1
  have e21 : A1 (138 + 21) = A 159 := (f 159 (by omega) (by omega)).2.2.1
  have e22 : B1 (138 + 22) = B 160 := (f 160 (by omega) (by omega)).2.2.2
  have ev : V1 138 = V 138 := (f 138 (by omega) (by omega)).1
  have hA1 : AV (A1 (138 + 1)) := by rw [e9]; exact hI.av
  refine WQ.st (fun _ _ kz => pw_aload2 dL_law_1433 kz) ?_
  refine WQ.st (fun _ _ kz => pw_aload0 dL_law_1434 kz) ?_
  refine WQ.st (fun _ _ kz => pw_iload3 dL_law_1435 kz) ?_
  refine WQ.st (fun _ _ kz => pw_iconst (v := 1) dL_law_1436 (by decide) kz) ?_
  refine WQ.st (fun _ _ kz => pw_iadd dL_law_1437 kz) ?_
  refine WQ.st (fun _ _ kz => pw_saload dL_law_1438 (sc_1 hi hn) kz) ?_
  refine WQ.st (fun _ _ kz => pw_aload0 dL_law_1439 kz) ?_
  refine WQ.st (fun _ _ kz => pw_iload3 dL_law_1440 kz) ?_
  refine WQ.st (fun _ _ kz => pw_iconst (v := 2) dL_law_1441 (by decide) kz) ?_
  refine WQ.st (fun _ _ kz => pw_iadd dL_law_1442 kz) ?_
  refine WQ.st (fun _ _ kz => pw_saload dL_law_1443 (sc_2 hi hn) kz) ?_
  refine WQ.st (fun _ _ kz => pw_aload0 dL_law_1444 kz) ?_
  refine WQ.st (fun _ _ kz => pw_iload3 dL_law_1445 kz) ?_
  refine WQ.st (fun _ _ kz => pw_iconst (v := 3) dL_law_1446 (by decide) kz) ?_
  refine WQ.st (fun _ _ kz => pw_iadd dL_law_1447 kz) ?_
  refine WQ.st (fun _ _ kz => pw_saload dL_law_1448 (sc_3 hi hn) kz) ?_
  refine WQ.st (fun _ _ kz => pw_aload0 dL_law_1449 kz) ?_
  refine WQ.st (fun _ _ kz => pw_iload3 dL_law_1450 kz) ?_
  refine WQ.st (fun _ _ kz => pw_iconst (v := 4) dL_law_1451 (by decide) kz) ?_
  refine WQ.st (fun _ _ kz => pw_iadd dL_law_1452 kz) ?_
  refine WQ.st (fun _ _ kz => pw_saload dL_law_1453 (sc_4 hi hn) kz) ?_
  have pc := p_chance (G := G) (d := 0) (V := V1) (A := A1) (B := B1) (Q := Q1) (t := t1) (sl := sl1) hF1 hA1 (G.2.2.2.1.2.2 (nI i + 1).toNatClampNeg) (G.2.2.2.1.2.2 (nI i + 2).toNatClampNeg) (G.2.2.2.1.2.2 (nI i + 3).toNatClampNeg) (G.2.2.2.1.2.2 (nI i + 4).toNatClampNeg)
  rw [e9] at pc
  refine wq_o4i wX12_chance lL_148 rfl dL_law_1454 hF1.1 (pc.mn (by omega)) rfl (Nat.le_of_ble_eq_true rfl) (Nat.le_of_ble_eq_true rfl) (fun h2 z2 => ?_)
  obtain ⟨V2, A2, B2, rfl, fp, fq, fb⟩ := z2
  refine WQ.st (fun _ _ kz => pw_lcmp dL_law_1457 kz) ?_
  refine WQ.br (fun _ _ ka kb => pw_if_eq (tgt := 1745) dL_law_1458 (by decide) ka kb) (fun c => ?_) (fun c => absurd (lg_same _) c)
  exact kf t1 sl1 sh ls1 S1 V2 P1 A2 B2 Q1 (hL.simple hI1 hl1 fo rm fp fq fb)
set_option maxRecDepth 20000 in
theorem lc_putBy {G : gT} {D k i t sl sh ls : Nat} {S : sS} {V : sV} {P : sP} {A : sV} {B : sB} {Q : sP} {Z : Option Value → Ph → Prop} (hL : LI S V P A B Q t sl sh ls k) (hk : k ≤ 600) (hi : i + 6 ≤ G.2.2.2.1.2.1) (hn : G.2.2.2.1.2.1 ≤ 3072) (hD : 150 ≤ D) (kf : LK G D Z k i) : WQ G D mL_law 1463 [some (.ref 0), some (.ref 8), some (.ref 138), some (.int (nI i))] [] (t, sl, gh S V P A B Q) Z := by
  have hI := hL.ci
  have hls : ls + 1000 < 2000000000 := by have := hL.lb; omega
  have hC := hI.de.dc.ka.cf
  obtain ⟨D, rfl⟩ : ∃ D', D = D' + 1 := ⟨D - 1, by omega⟩
  refine WQ.st (fun _ _ kz => pw_aload1 dL_law_1463 kz) ?_
  refine WQ.st (fun _ _ kz => pw_aload0 dL_law_1464 kz) ?_
  refine WQ.st (fun _ _ kz => pw_iload3 dL_law_1465 kz) ?_
  refine WQ.st (fun _ _ kz => pw_iconst (v := 1) dL_law_1466 (by decide) kz) ?_
  refine WQ.st (fun _ _ kz => pw_iadd dL_law_1467 kz) ?_
  refine WQ.st (fun _ _ kz => pw_saload dL_law_1468 (sc_1 hi hn) kz) ?_
  refine WQ.st (fun _ _ kz => pw_aload0 dL_law_1469 kz) ?_
  refine WQ.st (fun _ _ kz => pw_iload3 dL_law_1470 kz) ?_
  refine WQ.st (fun _ _ kz => pw_iconst (v := 2) dL_law_1471 (by decide) kz) ?_
  refine WQ.st (fun _ _ kz => pw_iadd dL_law_1472 kz) ?_
  refine WQ.st (fun _ _ kz => pw_saload dL_law_1473 (sc_2 hi hn) kz) ?_
  refine WQ.st (fun _ _ kz => pw_aload0 dL_law_1474 kz) ?_
  refine WQ.st (fun _ _ kz => pw_iload3 dL_law_1475 kz) ?_
  refine WQ.st (fun _ _ kz => pw_iconst (v := 3) dL_law_1476 (by decide) kz) ?_
  refine WQ.st (fun _ _ kz => pw_iadd dL_law_1477 kz) ?_
  refine WQ.st (fun _ _ kz => pw_saload dL_law_1478 (sc_3 hi hn) kz) ?_
  refine wq_o3i wX11_putBy lL_149 rfl dL_law_1479 (cf_s8 hC) ((q_putBy (G := G) (sl := sl) (d := 0) hI hls (G.2.2.2.1.2.2 (nI i + 1).toNatClampNeg) (G.2.2.2.1.2.2 (nI i + 2).toNatClampNeg) (G.2.2.2.1.2.2 (nI i + 3).toNatClampNeg)).mn (by omega)) rfl (Nat.le_of_ble_eq_true rfl) (Nat.le_of_ble_eq_true rfl) (fun h1 z1 => ?_)
  obtain ⟨t1, sl1, ls1, S1, V1, P1, A1, B1, Q1, rfl, hI1, hl1, fo, rm⟩ := z1
  have f := fo.2.2
  have ht := hI.de.dc.ka.st.2
  have hF1 : MF S1 P1 138 := hL.mf.fr (fun x hx => fo.2.1 x (by omega)) (f 138 (by omega) (by omega)).2.1
  have e9 : A1 (138 + 1) = A 139 := (f 139 (by omega) (by omega)).2.2.1
  have e20 : A1 (138 + 20) = A 158 := (f 158 (by omega) (by omega)).2.2.1
  have e21 : A1 (138 + 21) = A 159 := (f 159 (by omega) (by omega)).2.2.1
  have e22 : B1 (138 + 22) = B 160 := (f 160 (by omega) (by omega)).2.2.2
  have ev : V1 138 = V 138 := (f 138 (by omega) (by omega)).1
  have hA1 : AV (A1 (138 + 1)) := by rw [e9]; exact hI.av
  refine WQ.st (fun _ _ kz => pw_aload2 dL_law_1482 kz) ?_
  refine WQ.st (fun _ _ kz => pw_aload0 dL_law_1483 kz) ?_
  refine WQ.st (fun _ _ kz => pw_iload3 dL_law_1484 kz) ?_
  refine WQ.st (fun _ _ kz => pw_iconst (v := 1) dL_law_1485 (by decide) kz) ?_
  refine WQ.st (fun _ _ kz => pw_iadd dL_law_1486 kz) ?_
  refine WQ.st (fun _ _ kz => pw_saload dL_law_1487 (sc_1 hi hn) kz) ?_
  refine WQ.st (fun _ _ kz => pw_aload0 dL_law_1488 kz) ?_
  refine WQ.st (fun _ _ kz => pw_iload3 dL_law_1489 kz) ?_
  refine WQ.st (fun _ _ kz => pw_iconst (v := 2) dL_law_1490 (by decide) kz) ?_
  refine WQ.st (fun _ _ kz => pw_iadd dL_law_1491 kz) ?_
  refine WQ.st (fun _ _ kz => pw_saload dL_law_1492 (sc_2 hi hn) kz) ?_
  refine WQ.st (fun _ _ kz => pw_aload0 dL_law_1493 kz) ?_
  refine WQ.st (fun _ _ kz => pw_iload3 dL_law_1494 kz) ?_
  refine WQ.st (fun _ _ kz => pw_iconst (v := 3) dL_law_1495 (by decide) kz) ?_
  refine WQ.st (fun _ _ kz => pw_iadd dL_law_1496 kz) ?_
  refine WQ.st (fun _ _ kz => pw_saload dL_law_1497 (sc_3 hi hn) kz) ?_
  have pc := p_putBy (G := G) (d := 0) (V := V1) (A := A1) (B := B1) (Q := Q1) (t := t1) (sl := sl1) hF1 hA1 (G.2.2.2.1.2.2 (nI i + 1).toNatClampNeg) (G.2.2.2.1.2.2 (nI i + 2).toNatClampNeg) (G.2.2.2.1.2.2 (nI i + 3).toNatClampNeg)
  rw [e9] at pc
  refine wq_o3i wX12_putBy lL_152 rfl dL_law_1498 hF1.1 (pc.mn (by omega)) rfl (Nat.le_of_ble_eq_true rfl) (Nat.le_of_ble_eq_true rfl) (fun h2 z2 => ?_)
  obtain ⟨V2, A2, B2, rfl, fp, fq, fb⟩ := z2
  refine WQ.br (fun _ _ ka kb => pw_icmp_eq (tgt := 1745) dL_law_1501 (by decide) ka kb) (fun c => ?_) (fun c => absurd rfl c)
  exact kf t1 sl1 sh ls1 S1 V2 P1 A2 B2 Q1 (hL.simple hI1 hl1 fo rm fp fq fb)
set_option maxRecDepth 20000 in
theorem lc_count {G : gT} {D k i t sl sh ls : Nat} {S : sS} {V : sV} {P : sP} {A : sV} {B : sB} {Q : sP} {Z : Option Value → Ph → Prop} (hL : LI S V P A B Q t sl sh ls k) (hk : k ≤ 600) (hi : i + 6 ≤ G.2.2.2.1.2.1) (hn : G.2.2.2.1.2.1 ≤ 3072) (hD : 150 ≤ D) (kf : LK G D Z k i) : WQ G D mL_law 1722 [some (.ref 0), some (.ref 8), some (.ref 138), some (.int (nI i))] [] (t, sl, gh S V P A B Q) Z := by
  have hI := hL.ci
  have hls : ls + 1000 < 2000000000 := by have := hL.lb; omega
  have hC := hI.de.dc.ka.cf
  obtain ⟨D, rfl⟩ : ∃ D', D = D' + 1 := ⟨D - 1, by omega⟩
  refine WQ.st (fun _ _ kz => pw_aload1 dL_law_1722 kz) ?_
  refine WQ.st (fun _ _ kz => pw_aload0 dL_law_1723 kz) ?_
  refine WQ.st (fun _ _ kz => pw_iload3 dL_law_1724 kz) ?_
  refine WQ.st (fun _ _ kz => pw_iconst (v := 1) dL_law_1725 (by decide) kz) ?_
  refine WQ.st (fun _ _ kz => pw_iadd dL_law_1726 kz) ?_
  refine WQ.st (fun _ _ kz => pw_saload dL_law_1727 (sc_1 hi hn) kz) ?_
  refine wq_o1i wX11_count lL_176 rfl dL_law_1728 (cf_s8 hC) ((q_count (G := G) (sl := sl) (d := 0) hI hls (G.2.2.2.1.2.2 (nI i + 1).toNatClampNeg)).mn (by omega)) rfl (Nat.le_of_ble_eq_true rfl) (Nat.le_of_ble_eq_true rfl) (fun h1 z1 => ?_)
  obtain ⟨t1, sl1, ls1, S1, V1, P1, A1, B1, Q1, rfl, hI1, hl1, fo, rm⟩ := z1
  have f := fo.2.2
  have ht := hI.de.dc.ka.st.2
  have hF1 : MF S1 P1 138 := hL.mf.fr (fun x hx => fo.2.1 x (by omega)) (f 138 (by omega) (by omega)).2.1
  have e9 : A1 (138 + 1) = A 139 := (f 139 (by omega) (by omega)).2.2.1
  have e20 : A1 (138 + 20) = A 158 := (f 158 (by omega) (by omega)).2.2.1
  have e21 : A1 (138 + 21) = A 159 := (f 159 (by omega) (by omega)).2.2.1
  have e22 : B1 (138 + 22) = B 160 := (f 160 (by omega) (by omega)).2.2.2
  have ev : V1 138 = V 138 := (f 138 (by omega) (by omega)).1
  have hA1 : AV (A1 (138 + 1)) := by rw [e9]; exact hI.av
  refine WQ.st (fun _ _ kz => pw_aload2 dL_law_1731 kz) ?_
  refine WQ.st (fun _ _ kz => pw_aload0 dL_law_1732 kz) ?_
  refine WQ.st (fun _ _ kz => pw_iload3 dL_law_1733 kz) ?_
  refine WQ.st (fun _ _ kz => pw_iconst (v := 1) dL_law_1734 (by decide) kz) ?_
  refine WQ.st (fun _ _ kz => pw_iadd dL_law_1735 kz) ?_
  refine WQ.st (fun _ _ kz => pw_saload dL_law_1736 (sc_1 hi hn) kz) ?_
  have pc := p_count (G := G) (d := 0) (V := V1) (A := A1) (B := B1) (Q := Q1) (t := t1) (sl := sl1) hF1 hA1 (G.2.2.2.1.2.2 (nI i + 1).toNatClampNeg)
  rw [e9, ev] at pc
  refine wq_o1i wX12_count lL_179 rfl dL_law_1737 hF1.1 (pc.mn (by omega)) rfl (Nat.le_of_ble_eq_true rfl) (Nat.le_of_ble_eq_true rfl) (fun h2 z2 => ?_)
  obtain ⟨V2, A2, B2, rfl, fp, fq, fb⟩ := z2
  refine WQ.br (fun _ _ ka kb => pw_icmp_eq (tgt := 1745) dL_law_1740 (by decide) ka kb) (fun c => ?_) (fun c => absurd rfl c)
  exact kf t1 sl1 sh ls1 S1 V2 P1 A2 B2 Q1 (hL.simple hI1 hl1 fo rm fp fq fb)
