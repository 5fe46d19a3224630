def LK (G : gT) (D : Nat) (Z : Option Value → Ph → Prop) (k i : Nat) : Prop := ∀ (t sl sh ls : Nat) (S : sS) (V : sV) (P : sP) (A : sV) (B : sB) (Q : sP), LI S V P A B Q t sl sh ls (k + 1) → WQ G D mL_law 1745 [some (.ref 0), some (.ref 8), some (.ref 138), some (.int (nI i))] [] (t, sl, gh S V P A B Q) Z
theorem sc_in {i j n : Nat} {y : Int32} (hy : y = nI j) (h : i + j < n) (hn : n ≤ 3072) : vp_in (nI i + y) n := by
  rw [hy, nI_add]
  have e : (nI (i + j)).toInt = ((i + j : Nat) : Int) := ix_n (by omega)
  rintro (q | q)
  · exact ix_nn e q
  · rw [ix_nat e] at q
    omega
theorem sc_1 {i n : Nat} (hi : i + 6 ≤ n) (hn : n ≤ 3072) : vp_in (nI i + 1) n := sc_in (j := 1) rfl (by omega) hn
theorem sc_2 {i n : Nat} (hi : i + 6 ≤ n) (hn : n ≤ 3072) : vp_in (nI i + 2) n := sc_in (j := 2) rfl (by omega) hn
theorem sc_3 {i n : Nat} (hi : i + 6 ≤ n) (hn : n ≤ 3072) : vp_in (nI i + 3) n := sc_in (j := 3) rfl (by omega) hn
theorem sc_4 {i n : Nat} (hi : i + 6 ≤ n) (hn : n ≤ 3072) : vp_in (nI i + 4) n := sc_in (j := 4) rfl (by omega) hn
theorem sc_5 {i n : Nat} (hi : i + 6 ≤ n) (hn : n ≤ 3072) : vp_in (nI i + 5) n := sc_in (j := 5) rfl (by omega) hn
theorem lg_same (x : Int64) : lg_cmp x x = 0 := by
  unfold lg_cmp
  simp
set_option maxRecDepth 20000 in
theorem lc_fault {G : gT} {D k i t sl sh ls : Nat} {S : sS} {V : sV} {P : sP} {A : sV} {B : sB} {Q : sP} {Z : Option Value → Ph → Prop} (hL : LI S V P A B Q t sl sh ls k) (hk : k ≤ 600) (hi : i + 6 ≤ G.2.2.2.1.2.1) (hn : G.2.2.2.1.2.1 ≤ 3072) (hD : 150 ≤ D) (kf : LK G D Z k i) : WQ G D mL_law 290 [some (.ref 0), some (.ref 8), some (.ref 138), some (.int (nI i))] [] (t, sl, gh S V P A B Q) Z := by
  have hI := hL.ci
  have hls : ls + 1000 < 2000000000 := by have := hL.lb; omega
  have hC := hI.de.dc.ka.cf
  obtain ⟨D, rfl⟩ : ∃ D', D = D' + 1 := ⟨D - 1, by omega⟩
  refine WQ.st (fun _ _ kz => pw_aload1 dL_law_290 kz) ?_
  refine WQ.st (fun _ _ kz => pw_aload0 dL_law_291 kz) ?_
  refine WQ.st (fun _ _ kz => pw_iload3 dL_law_292 kz) ?_
  refine WQ.st (fun _ _ kz => pw_iconst (v := 1) dL_law_293 (by decide) kz) ?_
  refine WQ.st (fun _ _ kz => pw_iadd dL_law_294 kz) ?_
  refine WQ.st (fun _ _ kz => pw_saload dL_law_295 (sc_1 hi hn) kz) ?_
  refine wq_o1i wX11_fault lL_23 rfl dL_law_296 (cf_s8 hC) ((q_fault (G := G) (sl := sl) (d := 0) hI hls (G.2.2.2.1.2.2 (nI i + 1).toNatClampNeg)).mn (by omega)) rfl (Nat.le_of_ble_eq_true rfl) (Nat.le_of_ble_eq_true rfl) (fun h1 z1 => ?_)
  obtain ⟨t1, sl1, ls1, S1, V1, P1, A1, B1, Q1, rfl, hI1, hl1, fo, rm⟩ := z1
  have f := fo.2.2
  have ht := hI.de.dc.ka.st.2
  have hF1 : MF S1 P1 138 := hL.mf.fr (fun x hx => fo.2.1 x (by omega)) (f 138 (by omega) (by omega)).2.1
  have e9 : A1 (138 + 1) = A 139 := (f 139 (by omega) (by omega)).2.2.1
  have e20 : A1 (138 + 20) = A 158 := (f 158 (by omega) (by omega)).2.2.1
  have e21 : A1 (138 + 21) = A 159 := (f 159 (by omega) (by omega)).2.2.1
  have e22 : B1 (138 + 22) = B 160 := (f 160 (by omega) (by omega)).2.2.2
  have ev : V1 138 = V 138 := (f 138 (by omega) (by omega)).1
  have hA1 : AV (A1 (138 + 1)) := by rw [e9]; exact hI.av
  refine WQ.st (fun _ _ kz => pw_aload2 dL_law_299 kz) ?_
  refine WQ.st (fun _ _ kz => pw_aload0 dL_law_300 kz) ?_
  refine WQ.st (fun _ _ kz => pw_iload3 dL_law_301 kz) ?_
  refine WQ.st (fun _ _ kz => pw_iconst (v := 1) dL_law_302 (by decide) kz) ?_
  refine WQ.st (fun _ _ kz => pw_iadd dL_law_303 kz) ?_
  refine WQ.st (fun _ _ kz => pw_saload dL_law_304 (sc_1 hi hn) kz) ?_
  have pc := p_fault (G := G) (d := 0) (V := V1) (A := A1) (B := B1) (Q := Q1) (t := t1) (sl := sl1) hF1 hA1 (G.2.2.2.1.2.2 (nI i + 1).toNatClampNeg)
  rw [e9, ev] at pc
  refine wq_o1i wX12_fault lL_26 rfl dL_law_305 hF1.1 (pc.mn (by omega)) rfl (Nat.le_of_ble_eq_true rfl) (Nat.le_of_ble_eq_true rfl) (fun h2 z2 => ?_)
  obtain ⟨V2, A2, B2, rfl, fp, fq, fb⟩ := z2
  refine WQ.br (fun _ _ ka kb => pw_icmp_eq (tgt := 1745) dL_law_308 (by decide) ka kb) (fun c => ?_) (fun c => absurd rfl c)
  exact kf t1 sl1 sh ls1 S1 V2 P1 A2 B2 Q1 (hL.simple hI1 hl1 fo rm fp fq fb)
set_option maxRecDepth 20000 in
theorem lc_player {G : gT} {D k i t sl sh ls : Nat} {S : sS} {V : sV} {P : sP} {A : sV} {B : sB} {Q : sP} {Z : Option Value → Ph → Prop} (hL : LI S V P A B Q t sl sh ls k) (hk : k ≤ 600) (hi : i + 6 ≤ G.2.2.2.1.2.1) (hn : G.2.2.2.1.2.1 ≤ 3072) (hD : 150 ≤ D) (kf : LK G D Z k i) : WQ G D mL_law 313 [some (.ref 0), some (.ref 8), some (.ref 138), some (.int (nI i))] [] (t, sl, gh S V P A B Q) Z := by
  have hI := hL.ci
  have hls : ls + 1000 < 2000000000 := by have := hL.lb; omega
  have hC := hI.de.dc.ka.cf
  obtain ⟨D, rfl⟩ : ∃ D', D = D' + 1 := ⟨D - 1, by omega⟩
  refine WQ.st (fun _ _ kz => pw_aload1 dL_law_313 kz) ?_
  refine WQ.st (fun _ _ kz => pw_aload0 dL_law_314 kz) ?_
  refine WQ.st (fun _ _ kz => pw_iload3 dL_law_315 kz) ?_
  refine WQ.st (fun _ _ kz => pw_iconst (v := 1) dL_law_316 (by decide) kz) ?_
  refine WQ.st (fun _ _ kz => pw_iadd dL_law_317 kz) ?_
  refine WQ.st (fun _ _ kz => pw_saload dL_law_318 (sc_1 hi hn) kz) ?_
  refine WQ.st (fun _ _ kz => pw_aload0 dL_law_319 kz) ?_
  refine WQ.st (fun _ _ kz => pw_iload3 dL_law_320 kz) ?_
  refine WQ.st (fun _ _ kz => pw_iconst (v := 2) dL_law_321 (by decide) kz) ?_
  refine WQ.st (fun _ _ kz => pw_iadd dL_law_322 kz) ?_
  refine WQ.st (fun _ _ kz => pw_saload dL_law_323 (sc_2 hi hn) kz) ?_
  refine wq_o2i wX11_player lL_27 rfl dL_law_324 (cf_s8 hC) ((q_player (G := G) (sl := sl) (d := 0) hI hls (G.2.2.2.1.2.2 (nI i + 1).toNatClampNeg) (G.2.2.2.1.2.2 (nI i + 2).toNatClampNeg)).mn (by omega)) rfl (Nat.le_of_ble_eq_true rfl) (Nat.le_of_ble_eq_true rfl) (fun h1 z1 => ?_)
  obtain ⟨t1, sl1, ls1, S1, V1, P1, A1, B1, Q1, rfl, hI1, hl1, fo, rm⟩ := z1
  have f := fo.2.2
  have ht := hI.de.dc.ka.st.2
  have hF1 : MF S1 P1 138 := hL.mf.fr (fun x hx => fo.2.1 x (by omega)) (f 138 (by omega) (by omega)).2.1
  have e9 : A1 (138 + 1) = A 139 := (f 139 (by omega) (by omega)).2.2.1
  have e20 : A1 (138 + 20) = A 158 := (f 158 (by omega) (by omega)).2.2.1
  have e21 : A1 (138 + 21) = A 159 := (f 159 (by omega) (by omega)).2.2.1
  have e22 : B1 (138 + 22) = B 160 := (f 160 (by omega) (by omega)).2.2.2
  have ev : V1 138 = V 138 := (f 138 (by omega) (by omega)).1
  have hA1 : AV (A1 (138 + 1)) := by rw [e9]; exact hI.av
  refine WQ.st (fun _ _ kz => pw_aload2 dL_law_327 kz) ?_
  refine WQ.st (fun _ _ kz => pw_aload0 dL_law_328 kz) ?_
  refine WQ.st (fun _ _ kz => pw_iload3 dL_law_329 kz) ?_
  refine WQ.st (fun _ _ kz => pw_iconst (v := 1) dL_law_330 (by decide) kz) ?_
  refine WQ.st (fun _ _ kz => pw_iadd dL_law_331 kz) ?_
  refine WQ.st (fun _ _ kz => pw_saload dL_law_332 (sc_1 hi hn) kz) ?_
  refine WQ.st (fun _ _ kz => pw_aload0 dL_law_333 kz) ?_
  refine WQ.st (fun _ _ kz => pw_iload3 dL_law_334 kz) ?_
  refine WQ.st (fun _ _ kz => pw_iconst (v := 2) dL_law_335 (by decide) kz) ?_
  refine WQ.st (fun _ _ kz => pw_iadd dL_law_336 kz) ?_
  refine WQ.st (fun _ _ kz => pw_saload dL_law_337 (sc_2 hi hn) kz) ?_
  have pc := p_player (G := G) (d := 0) (V := V1) (A := A1) (B := B1) (Q := Q1) (t := t1) (sl := sl1) hF1 hA1 (G.2.2.2.1.2.2 (nI i + 1).toNatClampNeg) (G.2.2.2.1.2.2 (nI i + 2).toNatClampNeg)
  rw [e9] at pc
  refine wq_o2i wX12_player lL_31 rfl dL_law_338 hF1.1 (pc.mn (by omega)) rfl (Nat.le_of_ble_eq_true rfl) (Nat.le_of_ble_eq_true rfl) (fun h2 z2 => ?_)
  obtain ⟨V2, A2, B2, rfl, fp, fq, fb⟩ := z2
  refine WQ.br (fun _ _ ka kb => pw_icmp_eq (tgt := 1745) dL_law_341 (by decide) ka kb) (fun c => ?_) (fun c => absurd rfl c)
  exact kf t1 sl1 sh ls1 S1 V2 P1 A2 B2 Q1 (hL.simple hI1 hl1 fo rm fp fq fb)
set_option maxRecDepth 20000 in
theorem lc_wants {G : gT} {D k i t sl sh ls : Nat} {S : sS} {V : sV} {P : sP} {A : sV} {B : sB} {Q : sP} {Z : Option Value → Ph → Prop} (hL : LI S V P A B Q t sl sh ls k) (hk : k ≤ 600) (hi : i + 6 ≤ G.2.2.2.1.2.1) (hn : G.2.2.2.1.2.1 ≤ 3072) (hD : 150 ≤ D) (kf : LK G D Z k i) : WQ G D mL_law 346 [some (.ref 0), some (.ref 8), some (.ref 138), some (.int (nI i))] [] (t, sl, gh S V P A B Q) Z := by
  have hI := hL.ci
  have hls : ls + 1000 < 2000000000 := by have := hL.lb; omega
  have hC := hI.de.dc.ka.cf
  obtain ⟨D, rfl⟩ : ∃ D', D = D' + 1 := ⟨D - 1, by omega⟩
  refine WQ.st (fun _ _ kz => pw_aload1 dL_law_346 kz) ?_
  refine WQ.st (fun _ _ kz => pw_aload0 dL_law_347 kz) ?_
  refine WQ.st (fun _ _ kz => pw_iload3 dL_law_348 kz) ?_
  refine WQ.st (fun _ _ kz => pw_iconst (v := 1) dL_law_349 (by decide) kz) ?_
  refine WQ.st (fun _ _ kz => pw_iadd dL_law_350 kz) ?_
  refine WQ.st (fun _ _ kz => pw_saload dL_law_351 (sc_1 hi hn) kz) ?_
  refine WQ.st (fun _ _ kz => pw_aload0 dL_law_352 kz) ?_
  refine WQ.st (fun _ _ kz => pw_iload3 dL_law_353 kz) ?_
  refine WQ.st (fun _ _ kz => pw_iconst (v := 2) dL_law_354 (by decide) kz) ?_
  refine WQ.st (fun _ _ kz => pw_iadd dL_law_355 kz) ?_
  refine WQ.st (fun _ _ kz => pw_saload dL_law_356 (sc_2 hi hn) kz) ?_
  refine wq_o2i wX11_wants lL_32 rfl dL_law_357 (cf_s8 hC) ((q_wants (G := G) (sl := sl) (d := 0) hI hls (G.2.2.2.1.2.2 (nI i + 1).toNatClampNeg) (G.2.2.2.1.2.2 (nI i + 2).toNatClampNeg)).mn (by omega)) rfl (Nat.le_of_ble_eq_true rfl) (Nat.le_of_ble_eq_true rfl) (fun h1 z1 => ?_)
  obtain ⟨t1, sl1, ls1, S1, V1, P1, A1, B1, Q1, rfl, hI1, hl1, fo, rm⟩ := z1
  have f := fo.2.2
  have ht := hI.de.dc.ka.st.2
  have hF1 : MF S1 P1 138 := hL.mf.fr (fun x hx => fo.2.1 x (by omega)) (f 138 (by omega) (by omega)).2.1
  have e9 : A1 (138 + 1) = A 139 := (f 139 (by omega) (by omega)).2.2.1
  have e20 : A1 (138 + 20) = A 158 := (f 158 (by omega) (by omega)).2.2.1
  have e21 : A1 (138 + 21) = A 159 := (f 159 (by omega) (by omega)).2.2.1
  have e22 : B1 (138 + 22) = B 160 := (f 160 (by omega) (by omega)).2.2.2
  have ev : V1 138 = V 138 := (f 138 (by omega) (by omega)).1
  have hA1 : AV (A1 (138 + 1)) := by rw [e9]; exact hI.av
  refine WQ.st (fun _ _ kz => pw_aload2 dL_law_360 kz) ?_
  refine WQ.st (fun _ _ kz => pw_aload0 dL_law_361 kz) ?_
  refine WQ.st (fun _ _ kz => pw_iload3 dL_law_362 kz) ?_
  refine WQ.st (fun _ _ kz => pw_iconst (v := 1) dL_law_363 (by decide) kz) ?_
  refine WQ.st (fun _ _ kz => pw_iadd dL_law_364 kz) ?_
  refine WQ.st (fun _ _ kz => pw_saload dL_law_365 (sc_1 hi hn) kz) ?_
  refine WQ.st (fun _ _ kz => pw_aload0 dL_law_366 kz) ?_
  refine WQ.st (fun _ _ kz => pw_iload3 dL_law_367 kz) ?_
  refine WQ.st (fun _ _ kz => pw_iconst (v := 2) dL_law_368 (by decide) kz) ?_
  refine WQ.st (fun _ _ kz => pw_iadd dL_law_369 kz) ?_
  refine WQ.st (fun _ _ kz => pw_saload dL_law_370 (sc_2 hi hn) kz) ?_
  have pc := p_wants (G := G) (d := 0) (V := V1) (A := A1) (B := B1) (Q := Q1) (t := t1) (sl := sl1) hF1 hA1 (G.2.2.2.1.2.2 (nI i + 1).toNatClampNeg) (G.2.2.2.1.2.2 (nI i + 2).toNatClampNeg)
  rw [e9] at pc
  refine wq_o2i wX12_wants lL_35 rfl dL_law_371 hF1.1 (pc.mn (by omega)) rfl (Nat.le_of_ble_eq_true rfl) (Nat.le_of_ble_eq_true rfl) (fun h2 z2 => ?_)
  obtain ⟨V2, A2, B2, rfl, fp, fq, fb⟩ := z2
  refine WQ.br (fun _ _ ka kb => pw_icmp_eq (tgt := 1745) dL_law_374 (by decide) ka kb) (fun c => ?_) (fun c => absurd rfl c)
  exact kf t1 sl1 sh ls1 S1 V2 P1 A2 B2 Q1 (hL.simple hI1 hl1 fo rm fp fq fb)
set_option maxRecDepth 20000 in
theorem lc_bars {G : gT} {D k i t sl sh ls : Nat} {S : sS} {V : sV} {P : sP} {A : sV} {B : sB} {Q : sP} {Z : Option Value → Ph → Prop} (hL : LI S V P A B Q t sl sh ls k) (hk : k ≤ 600) (hi : i + 6 ≤ G.2.2.2.1.2.1) (hn : G.2.2.2.1.2.1 ≤ 3072) (hD : 150 ≤ D) (kf : LK G D Z k i) : WQ G D mL_law 379 [some (.ref 0), some (.ref 8), some (.ref 138), some (.int (nI i))] [] (t, sl, gh S V P A B Q) Z := by
  have hI := hL.ci
  have hls : ls + 1000 < 2000000000 := by have := hL.lb; omega
  have hC := hI.de.dc.ka.cf
  obtain ⟨D, rfl⟩ : ∃ D', D = D' + 1 := ⟨D - 1, by omega⟩
  refine WQ.st (fun _ _ kz => pw_aload1 dL_law_379 kz) ?_
  refine WQ.st (fun _ _ kz => pw_aload0 dL_law_380 kz) ?_
  refine WQ.st (fun _ _ kz => pw_iload3 dL_law_381 kz) ?_
  refine WQ.st (fun _ _ kz => pw_iconst (v := 1) dL_law_382 (by decide) kz) ?_
  refine WQ.st (fun _ _ kz => pw_iadd dL_law_383 kz) ?_
  refine WQ.st (fun _ _ kz => pw_saload dL_law_384 (sc_1 hi hn) kz) ?_
  refine wq_o1i wX11_bars lL_36 rfl dL_law_385 (cf_s8 hC) ((q_bars (G := G) (sl := sl) (d := 0) hI hls (G.2.2.2.1.2.2 (nI i + 1).toNatClampNeg)).mn (by omega)) rfl (Nat.le_of_ble_eq_true rfl) (Nat.le_of_ble_eq_true rfl) (fun h1 z1 => ?_)
  obtain ⟨t1, sl1, ls1, S1, V1, P1, A1, B1, Q1, rfl, hI1, hl1, fo, rm⟩ := z1
  have f := fo.2.2
  have ht := hI.de.dc.ka.st.2
  have hF1 : MF S1 P1 138 := hL.mf.fr (fun x hx => fo.2.1 x (by omega)) (f 138 (by omega) (by omega)).2.1
  have e9 : A1 (138 + 1) = A 139 := (f 139 (by omega) (by omega)).2.2.1
  have e20 : A1 (138 + 20) = A 158 := (f 158 (by omega) (by omega)).2.2.1
  have e21 : A1 (138 + 21) = A 159 := (f 159 (by omega) (by omega)).2.2.1
  have e22 : B1 (138 + 22) = B 160 := (f 160 (by omega) (by omega)).2.2.2
  have ev : V1 138 = V 138 := (f 138 (by omega) (by omega)).1
  have hA1 : AV (A1 (138 + 1)) := by rw [e9]; exact hI.av
  refine WQ.st (fun _ _ kz => pw_aload2 dL_law_388 kz) ?_
  refine WQ.st (fun _ _ kz => pw_aload0 dL_law_389 kz) ?_
  refine WQ.st (fun _ _ kz => pw_iload3 dL_law_390 kz) ?_
  refine WQ.st (fun _ _ kz => pw_iconst (v := 1) dL_law_391 (by decide) kz) ?_
  refine WQ.st (fun _ _ kz => pw_iadd dL_law_392 kz) ?_
  refine WQ.st (fun _ _ kz => pw_saload dL_law_393 (sc_1 hi hn) kz) ?_
  have pc := p_bars (G := G) (d := 0) (V := V1) (A := A1) (B := B1) (Q := Q1) (t := t1) (sl := sl1) hF1 hA1 (G.2.2.2.1.2.2 (nI i + 1).toNatClampNeg)
  rw [e9] at pc
  refine wq_o1i wX12_bars lL_39 rfl dL_law_394 hF1.1 (pc.mn (by omega)) rfl (Nat.le_of_ble_eq_true rfl) (Nat.le_of_ble_eq_true rfl) (fun h2 z2 => ?_)
  obtain ⟨V2, A2, B2, rfl, fp, fq, fb⟩ := z2
  refine WQ.br (fun _ _ ka kb => pw_icmp_eq (tgt := 1745) dL_law_397 (by decide) ka kb) (fun c => ?_) (fun c => absurd rfl c)
  exact kf t1 sl1 sh ls1 S1 V2 P1 A2 B2 Q1 (hL.simple hI1 hl1 fo rm fp fq fb)
set_option maxRecDepth 20000 in
theorem lc_glad {G : gT} {D k i t sl sh ls : Nat} {S : sS} {V : sV} {P : sP} {A : sV} {B : sB} {Q : sP} {Z : Option Value → Ph → Prop} (hL : LI S V P A B Q t sl sh ls k) (hk : k ≤ 600) (hi : i + 6 ≤ G.2.2.2.1.2.1) (hn : G.2.2.2.1.2.1 ≤ 3072) (hD : 150 ≤ D) (kf : LK G D Z k i) : WQ G D mL_law 402 [some (.ref 0), some (.ref 8), some (.ref 138), some (.int (nI i))] [] (t, sl, gh S V P A B Q) Z := by
  have hI := hL.ci
  have hls : ls + 1000 < 2000000000 := by have := hL.lb; omega
  have hC := hI.de.dc.ka.cf
  obtain ⟨D, rfl⟩ : ∃ D', D = D' + 1 := ⟨D - 1, by omega⟩
  refine WQ.st (fun _ _ kz => pw_aload1 dL_law_402 kz) ?_
  refine WQ.st (fun _ _ kz => pw_aload0 dL_law_403 kz) ?_
  refine WQ.st (fun _ _ kz => pw_iload3 dL_law_404 kz) ?_
  refine WQ.st (fun _ _ kz => pw_iconst (v := 1) dL_law_405 (by decide) kz) ?_
  refine WQ.st (fun _ _ kz => pw_iadd dL_law_406 kz) ?_
  refine WQ.st (fun _ _ kz => pw_saload dL_law_407 (sc_1 hi hn) kz) ?_
  refine WQ.st (fun _ _ kz => pw_aload0 dL_law_408 kz) ?_
  refine WQ.st (fun _ _ kz => pw_iload3 dL_law_409 kz) ?_
  refine WQ.st (fun _ _ kz => pw_iconst (v := 2) dL_law_410 (by decide) kz) ?_
  refine WQ.st (fun _ _ kz => pw_iadd dL_law_411 kz) ?_
  refine WQ.st (fun _ _ kz => pw_saload dL_law_412 (sc_2 hi hn) kz) ?_
  refine WQ.st (fun _ _ kz => pw_aload0 dL_law_413 kz) ?_
  refine WQ.st (fun _ _ kz => pw_iload3 dL_law_414 kz) ?_
  refine WQ.st (fun _ _ kz => pw_iconst (v := 3) dL_law_415 (by decide) kz) ?_
  refine WQ.st (fun _ _ kz => pw_iadd dL_law_416 kz) ?_
  refine WQ.st (fun _ _ kz => pw_saload dL_law_417 (sc_3 hi hn) kz) ?_
  refine WQ.st (fun _ _ kz => pw_aload0 dL_law_418 kz) ?_
  refine WQ.st (fun _ _ kz => pw_iload3 dL_law_419 kz) ?_
  refine WQ.st (fun _ _ kz => pw_iconst (v := 4) dL_law_420 (by decide) kz) ?_
  refine WQ.st (fun _ _ kz => pw_iadd dL_law_421 kz) ?_
  refine WQ.st (fun _ _ kz => pw_saload dL_law_422 (sc_4 hi hn) kz) ?_
  refine WQ.st (fun _ _ kz => pw_aload0 dL_law_423 kz) ?_
  refine WQ.st (fun _ _ kz => pw_iload3 dL_law_424 kz) ?_
  refine WQ.st (fun _ _ kz => pw_iconst (v := 5) dL_law_425 (by decide) kz) ?_
  refine WQ.st (fun _ _ kz => pw_iadd dL_law_426 kz) ?_
  refine WQ.st (fun _ _ kz => pw_saload dL_law_427 (sc_5 hi hn) kz) ?_
  refine wq_o5i wX11_glad lL_40 rfl dL_law_428 (cf_s8 hC) ((q_glad (G := G) (sl := sl) (d := 0) hI hls (G.2.2.2.1.2.2 (nI i + 1).toNatClampNeg) (G.2.2.2.1.2.2 (nI i + 2).toNatClampNeg) (G.2.2.2.1.2.2 (nI i + 3).toNatClampNeg) (G.2.2.2.1.2.2 (nI i + 4).toNatClampNeg) (G.2.2.2.1.2.2 (nI i + 5).toNatClampNeg)).mn (by omega)) rfl (Nat.le_of_ble_eq_true rfl) (Nat.le_of_ble_eq_true rfl) (fun h1 z1 => ?_)
  obtain ⟨t1, sl1, ls1, S1, V1, P1, A1, B1, Q1, rfl, hI1, hl1, fo, rm⟩ := z1
  have f := fo.2.2
  have ht := hI.de.dc.ka.st.2
  have hF1 : MF S1 P1 138 := hL.mf.fr (fun x hx => fo.2.1 x (by omega)) (f 138 (by omega) (by omega)).2.1
  have e9 : A1 (138 + 1) = A 139 := (f 139 (by omega) (by omega)).2.2.1
  have e20 : A1 (138 + 20) = A 158 := (f 158 (by omega) (by omega)).2.2.1
  have e21 : A1 (138 + 21) = A 159 := (f 159 (by omega) (by omega)).2.2.1
  have e22 : B1 (138 + 22) = B 160 := (f 160 (by omega) (by omega)).2.2.2
  have ev : V1 138 = V 138 := (f 138 (by omega) (by omega)).1
  have hA1 : AV (A1 (138 + 1)) := by rw [e9]; exact hI.av
  refine WQ.st (fun _ _ kz => pw_aload2 dL_law_431 kz) ?_
  refine WQ.st (fun _ _ kz => pw_aload0 dL_law_432 kz) ?_
  refine WQ.st (fun _ _ kz => pw_iload3 dL_law_433 kz) ?_
  refine WQ.st (fun _ _ kz => pw_iconst (v := 1) dL_law_434 (by decide) kz) ?_
  refine WQ.st (fun _ _ kz => pw_iadd dL_law_435 kz) ?_
  refine WQ.st (fun _ _ kz => pw_saload dL_law_436 (sc_1 hi hn) kz) ?_
  refine WQ.st (fun _ _ kz => pw_aload0 dL_law_437 kz) ?_
  refine WQ.st (fun _ _ kz => pw_iload3 dL_law_438 kz) ?_
  refine WQ.st (fun _ _ kz => pw_iconst (v := 2) dL_law_439 (by decide) kz) ?_
  refine WQ.st (fun _ _ kz => pw_iadd dL_law_440 kz) ?_
  refine WQ.st (fun _ _ kz => pw_saload dL_law_441 (sc_2 hi hn) kz) ?_
  refine WQ.st (fun _ _ kz => pw_aload0 dL_law_442 kz) ?_
  refine WQ.st (fun _ _ kz => pw_iload3 dL_law_443 kz) ?_
  refine WQ.st (fun _ _ kz => pw_iconst (v := 3) dL_law_444 (by decide) kz) ?_
  refine WQ.st (fun _ _ kz => pw_iadd dL_law_445 kz) ?_
  refine WQ.st (fun _ _ kz => pw_saload dL_law_446 (sc_3 hi hn) kz) ?_
  refine WQ.st (fun _ _ kz => pw_aload0 dL_law_447 kz) ?_
  refine WQ.st (fun _ _ kz => pw_iload3 dL_law_448 kz) ?_
  refine WQ.st (fun _ _ kz => pw_iconst (v := 4) dL_law_449 (by decide) kz) ?_
  refine WQ.st (fun _ _ kz => pw_iadd dL_law_450 kz) ?_
  refine WQ.st (fun _ _ kz => pw_saload dL_law_451 (sc_4 hi hn) kz) ?_
  refine WQ.st (fun _ _ kz => pw_aload0 dL_law_452 kz) ?_
  refine WQ.st (fun _ _ kz => pw_iload3 dL_law_453 kz) ?_
  refine WQ.st (fun _ _ kz => pw_iconst (v := 5) dL_law_454 (by decide) kz) ?_
  refine WQ.st (fun _ _ kz => pw_iadd dL_law_455 kz) ?_
  refine WQ.st (fun _ _ kz => pw_saload dL_law_456 (sc_5 hi hn) kz) ?_
  have pc := p_glad (G := G) (d := 0) (V := V1) (A := A1) (B := B1) (Q := Q1) (t := t1) (sl := sl1) hF1 hA1 (G.2.2.2.1.2.2 (nI i + 1).toNatClampNeg) (G.2.2.2.1.2.2 (nI i + 2).toNatClampNeg) (G.2.2.2.1.2.2 (nI i + 3).toNatClampNeg) (G.2.2.2.1.2.2 (nI i + 4).toNatClampNeg) (G.2.2.2.1.2.2 (nI i + 5).toNatClampNeg)
  rw [e9] at pc
  refine wq_o5i wX12_glad lL_43 rfl dL_law_457 hF1.1 (pc.mn (by omega)) rfl (Nat.le_of_ble_eq_true rfl) (Nat.le_of_ble_eq_true rfl) (fun h2 z2 => ?_)
  obtain ⟨V2, A2, B2, rfl, fp, fq, fb⟩ := z2
  refine WQ.br (fun _ _ ka kb => pw_icmp_eq (tgt := 1745) dL_law_460 (by decide) ka kb) (fun c => ?_) (fun c => absurd rfl c)
  exact kf t1 sl1 sh ls1 S1 V2 P1 A2 B2 Q1 (hL.simple hI1 hl1 fo rm fp fq fb)
set_option maxRecDepth 20000 in
theorem lc_play {G : gT} {D k i t sl sh ls : Nat} {S : sS} {V : sV} {P : sP} {A : sV} {B : sB} {Q : sP} {Z : Option Value → Ph → Prop} (hL : LI S V P A B Q t sl sh ls k) (hk : k ≤ 600) (hi : i + 6 ≤ G.2.2.2.1.2.1) (hn : G.2.2.2.1.2.1 ≤ 3072) (hD : 150 ≤ D) (kf : LK G D Z k i) : WQ G D mL_law 465 [some (.ref 0), some (.ref 8), some (.ref 138), some (.int (nI i))] [] (t, sl, gh S V P A B Q) Z := by
  have hI := hL.ci
  have hls : ls + 1000 < 2000000000 := by have := hL.lb; omega
  have hC := hI.de.dc.ka.cf
  obtain ⟨D, rfl⟩ : ∃ D', D = D' + 1 := ⟨D - 1, by omega⟩
  refine WQ.st (fun _ _ kz => pw_aload1 dL_law_465 kz) ?_
  refine WQ.st (fun _ _ kz => pw_aload0 dL_law_466 kz) ?_
  refine WQ.st (fun _ _ kz => pw_iload3 dL_law_467 kz) ?_
  refine WQ.st (fun _ _ kz => pw_iconst (v := 1) dL_law_468 (by decide) kz) ?_
  refine WQ.st (fun _ _ kz => pw_iadd dL_law_469 kz) ?_
  refine WQ.st (fun _ _ kz => pw_saload dL_law_470 (sc_1 hi hn) kz) ?_
  refine WQ.st (fun _ _ kz => pw_aload0 dL_law_471 kz) ?_
  refine WQ.st (fun _ _ kz => pw_iload3 dL_law_472 kz) ?_
  refine WQ.st (fun _ _ kz => pw_iconst (v := 2) dL_law_473 (by decide) kz) ?_
  refine WQ.st (fun _ _ kz => pw_iadd dL_law_474 kz) ?_
  refine WQ.st (fun _ _ kz => pw_saload dL_law_475 (sc_2 hi hn) kz) ?_
  refine wq_o2i wX11_play lL_44 rfl dL_law_476 (cf_s8 hC) ((q_play (G := G) (sl := sl) (d := 0) hI hls (G.2.2.2.1.2.2 (nI i + 1).toNatClampNeg) (G.2.2.2.1.2.2 (nI i + 2).toNatClampNeg)).mn (by omega)) rfl (Nat.le_of_ble_eq_true rfl) (Nat.le_of_ble_eq_true rfl) (fun h1 z1 => ?_)
  obtain ⟨t1, sl1, ls1, S1, V1, P1, A1, B1, Q1, rfl, hI1, hl1, fo, rm⟩ := z1
  have f := fo.2.2
  have ht := hI.de.dc.ka.st.2
  have hF1 : MF S1 P1 138 := hL.mf.fr (fun x hx => fo.2.1 x (by omega)) (f 138 (by omega) (by omega)).2.1
  have e9 : A1 (138 + 1) = A 139 := (f 139 (by omega) (by omega)).2.2.1
  have e20 : A1 (138 + 20) = A 158 := (f 158 (by omega) (by omega)).2.2.1
  have e21 : A1 (138 + 21) = A 159 := (f 159 (by omega) (by omega)).2.2.1
  have e22 : B1 (138 + 22) = B 160 := (f 160 (by omega) (by omega)).2.2.2
  have ev : V1 138 = V 138 := (f 138 (by omega) (by omega)).1
  have hA1 : AV (A1 (138 + 1)) := by rw [e9]; exact hI.av
  refine WQ.st (fun _ _ kz => pw_aload2 dL_law_479 kz) ?_
  refine WQ.st (fun _ _ kz => pw_aload0 dL_law_480 kz) ?_
  refine WQ.st (fun _ _ kz => pw_iload3 dL_law_481 kz) ?_
  refine WQ.st (fun _ _ kz => pw_iconst (v := 1) dL_law_482 (by decide) kz) ?_
  refine WQ.st (fun _ _ kz => pw_iadd dL_law_483 kz) ?_
  refine WQ.st (fun _ _ kz => pw_saload dL_law_484 (sc_1 hi hn) kz) ?_
  refine WQ.st (fun _ _ kz => pw_aload0 dL_law_485 kz) ?_
  refine WQ.st (fun _ _ kz => pw_iload3 dL_law_486 kz) ?_
  refine WQ.st (fun _ _ kz => pw_iconst (v := 2) dL_law_487 (by decide) kz) ?_
  refine WQ.st (fun _ _ kz => pw_iadd dL_law_488 kz) ?_
  refine WQ.st (fun _ _ kz => pw_saload dL_law_489 (sc_2 hi hn) kz) ?_
  have pc := p_play (G := G) (d := 0) (V := V1) (A := A1) (B := B1) (Q := Q1) (t := t1) (sl := sl1) hF1 hA1 (G.2.2.2.1.2.2 (nI i + 1).toNatClampNeg) (G.2.2.2.1.2.2 (nI i + 2).toNatClampNeg)
  rw [e9] at pc
  refine wq_o2i wX12_play lL_47 rfl dL_law_490 hF1.1 (pc.mn (by omega)) rfl (Nat.le_of_ble_eq_true rfl) (Nat.le_of_ble_eq_true rfl) (fun h2 z2 => ?_)
  obtain ⟨V2, A2, B2, rfl, fp, fq, fb⟩ := z2
  refine WQ.br (fun _ _ ka kb => pw_icmp_eq (tgt := 1745) dL_law_493 (by decide) ka kb) (fun c => ?_) (fun c => absurd rfl c)
  exact kf t1 sl1 sh ls1 S1 V2 P1 A2 B2 Q1 (hL.simple hI1 hl1 fo rm fp fq fb)
set_option maxRecDepth 20000 in
theorem lc_perform {G : gT} {D k i t sl sh ls : Nat} {S : sS} {V : sV} {P : sP} {A : sV} {B : sB} {Q : sP} {Z : Option Value → Ph → Prop} (hL : LI S V P A B Q t sl sh ls k) (hk : k ≤ 600) (hi : i + 6 ≤ G.2.2.2.1.2.1) (hn : G.2.2.2.1.2.1 ≤ 3072) (hD : 150 ≤ D) (kf : LK G D Z k i) : WQ G D mL_law 498 [some (.ref 0), some (.ref 8), some (.ref 138), some (.int (nI i))] [] (t, sl, gh S V P A B Q) Z := by
  have hI := hL.ci
  have hls : ls + 1000 < 2000000000 := by have := hL.lb; omega
  have hC := hI.de.dc.ka.cf
  obtain ⟨D, rfl⟩ : ∃ D', D = D' + 1 := ⟨D - 1, by omega⟩
  refine WQ.st (fun _ _ kz => pw_aload1 dL_law_498 kz) ?_
  refine WQ.st (fun _ _ kz => pw_aload0 dL_law_499 kz) ?_
  refine WQ.st (fun _ _ kz => pw_iload3 dL_law_500 kz) ?_
  refine WQ.st (fun _ _ kz => pw_iconst (v := 1) dL_law_501 (by decide) kz) ?_
  refine WQ.st (fun _ _ kz => pw_iadd dL_law_502 kz) ?_
  refine WQ.st (fun _ _ kz => pw_saload dL_law_503 (sc_1 hi hn) kz) ?_
  refine WQ.st (fun _ _ kz => pw_aload0 dL_law_504 kz) ?_
  refine WQ.st (fun _ _ kz => pw_iload3 dL_law_505 kz) ?_
  refine WQ.st (fun _ _ kz => pw_iconst (v := 2) dL_law_506 (by decide) kz) ?_
  refine WQ.st (fun _ _ kz => pw_iadd dL_law_507 kz) ?_
  refine WQ.st (fun _ _ kz => pw_saload dL_law_508 (sc_2 hi hn) kz) ?_
  refine wq_o2i wX11_perform lL_48 rfl dL_law_509 (cf_s8 hC) ((q_perform (G := G) (sl := sl) (d := 0) hI hls (G.2.2.2.1.2.2 (nI i + 1).toNatClampNeg) (G.2.2.2.1.2.2 (nI i + 2).toNatClampNeg)).mn (by omega)) rfl (Nat.le_of_ble_eq_true rfl) (Nat.le_of_ble_eq_true rfl) (fun h1 z1 => ?_)
  obtain ⟨t1, sl1, ls1, S1, V1, P1, A1, B1, Q1, rfl, hI1, hl1, fo, rm⟩ := z1
  have f := fo.2.2
  have ht := hI.de.dc.ka.st.2
  have hF1 : MF S1 P1 138 := hL.mf.fr (fun x hx => fo.2.1 x (by omega)) (f 138 (by omega) (by omega)).2.1
  have e9 : A1 (138 + 1) = A 139 := (f 139 (by omega) (by omega)).2.2.1
  have e20 : A1 (138 + 20) = A 158 := (f 158 (by omega) (by omega)).2.2.1
  have e21 : A1 (138 + 21) = A 159 := (f 159 (by omega) (by omega)).2.2.1
  have e22 : B1 (138 + 22) = B 160 := (f 160 (by omega) (by omega)).2.2.2
  have ev : V1 138 = V 138 := (f 138 (by omega) (by omega)).1
  have hA1 : AV (A1 (138 + 1)) := by rw [e9]; exact hI.av
  refine WQ.st (fun _ _ kz => pw_aload2 dL_law_512 kz) ?_
  refine WQ.st (fun _ _ kz => pw_aload0 dL_law_513 kz) ?_
  refine WQ.st (fun _ _ kz => pw_iload3 dL_law_514 kz) ?_
  refine WQ.st (fun _ _ kz => pw_iconst (v := 1) dL_law_515 (by decide) kz) ?_
  refine WQ.st (fun _ _ kz => pw_iadd dL_law_516 kz) ?_
  refine WQ.st (fun _ _ kz => pw_saload dL_law_517 (sc_1 hi hn) kz) ?_
  refine WQ.st (fun _ _ kz => pw_aload0 dL_law_518 kz) ?_
  refine WQ.st (fun _ _ kz => pw_iload3 dL_law_519 kz) ?_
  refine WQ.st (fun _ _ kz => pw_iconst (v := 2) dL_law_520 (by decide) kz) ?_
  refine WQ.st (fun _ _ kz => pw_iadd dL_law_521 kz) ?_
  refine WQ.st (fun _ _ kz => pw_saload dL_law_522 (sc_2 hi hn) kz) ?_
  have pc := p_perform (G := G) (d := 0) (V := V1) (A := A1) (B := B1) (Q := Q1) (t := t1) (sl := sl1) hF1 hA1 (G.2.2.2.1.2.2 (nI i + 1).toNatClampNeg) (G.2.2.2.1.2.2 (nI i + 2).toNatClampNeg)
  rw [e9] at pc
  refine wq_o2i wX12_perform lL_51 rfl dL_law_523 hF1.1 (pc.mn (by omega)) rfl (Nat.le_of_ble_eq_true rfl) (Nat.le_of_ble_eq_true rfl) (fun h2 z2 => ?_)
  obtain ⟨V2, A2, B2, rfl, fp, fq, fb⟩ := z2
  refine WQ.br (fun _ _ ka kb => pw_icmp_eq (tgt := 1745) dL_law_526 (by decide) ka kb) (fun c => ?_) (fun c => absurd rfl c)
  exact kf t1 sl1 sh ls1 S1 V2 P1 A2 B2 Q1 (hL.simple hI1 hl1 fo rm fp fq fb)
set_option maxRecDepth 20000 in
theorem lc_lend {G : gT} {D k i t sl sh ls : Nat} {S : sS} {V : sV} {P : sP} {A : sV} {B : sB} {Q : sP} {Z : Option Value → Ph → Prop} (hL : LI S V P A B Q t sl sh ls k) (hk : k ≤ 600) (hi : i + 6 ≤ G.2.2.2.1.2.1) (hn : G.2.2.2.1.2.1 ≤ 3072) (hD : 150 ≤ D) (kf : LK G D Z k i) : WQ G D mL_law 531 [some (.ref 0), some (.ref 8), some (.ref 138), some (.int (nI i))] [] (t, sl, gh S V P A B Q) Z := by
  have hI := hL.ci
  have hls : ls + 1000 < 2000000000 := by have := hL.lb; omega
  have hC := hI.de.dc.ka.cf
  obtain ⟨D, rfl⟩ : ∃ D', D = D' + 1 := ⟨D - 1, by omega⟩
  refine WQ.st (fun _ _ kz => pw_aload1 dL_law_531 kz) ?_
  refine WQ.st (fun _ _ kz => pw_aload0 dL_law_532 kz) ?_
  refine WQ.st (fun _ _ kz => pw_iload3 dL_law_533 kz) ?_
  refine WQ.st (fun _ _ kz => pw_iconst (v := 1) dL_law_534 (by decide) kz) ?_
  refine WQ.st (fun _ _ kz => pw_iadd dL_law_535 kz) ?_
  refine WQ.st (fun _ _ kz => pw_saload dL_law_536 (sc_1 hi hn) kz) ?_
  refine WQ.st (fun _ _ kz => pw_aload0 dL_law_537 kz) ?_
  refine WQ.st (fun _ _ kz => pw_iload3 dL_law_538 kz) ?_
  refine WQ.st (fun _ _ kz => pw_iconst (v := 2) dL_law_539 (by decide) kz) ?_
  refine WQ.st (fun _ _ kz => pw_iadd dL_law_540 kz) ?_
  refine WQ.st (fun _ _ kz => pw_saload dL_law_541 (sc_2 hi hn) kz) ?_
  refine WQ.st (fun _ _ kz => pw_aload0 dL_law_542 kz) ?_
  refine WQ.st (fun _ _ kz => pw_iload3 dL_law_543 kz) ?_
  refine WQ.st (fun _ _ kz => pw_iconst (v := 3) dL_law_544 (by decide) kz) ?_
  refine WQ.st (fun _ _ kz => pw_iadd dL_law_545 kz) ?_
  refine WQ.st (fun _ _ kz => pw_saload dL_law_546 (sc_3 hi hn) kz) ?_
  refine wq_o3i wX11_lend lL_52 rfl dL_law_547 (cf_s8 hC) ((q_lend (G := G) (sl := sl) (d := 0) hI hls (G.2.2.2.1.2.2 (nI i + 1).toNatClampNeg) (G.2.2.2.1.2.2 (nI i + 2).toNatClampNeg) (G.2.2.2.1.2.2 (nI i + 3).toNatClampNeg)).mn (by omega)) rfl (Nat.le_of_ble_eq_true rfl) (Nat.le_of_ble_eq_true rfl) (fun h1 z1 => ?_)
  obtain ⟨t1, sl1, ls1, S1, V1, P1, A1, B1, Q1, rfl, hI1, hl1, fo, rm⟩ := z1
  have f := fo.2.2
  have ht := hI.de.dc.ka.st.2
  have hF1 : MF S1 P1 138 := hL.mf.fr (fun x hx => fo.2.1 x (by omega)) (f 138 (by omega) (by omega)).2.1
  have e9 : A1 (138 + 1) = A 139 := (f 139 (by omega) (by omega)).2.2.1
  have e20 : A1 (138 + 20) = A 158 := (f 158 (by omega) (by omega)).2.2.1
  have e21 : A1 (138 + 21) = A 159 := (f 159 (by omega) (by omega)).2.2.1
  have e22 : B1 (138 + 22) = B 160 := (f 160 (by omega) (by omega)).2.2.2
  have ev : V1 138 = V 138 := (f 138 (by omega) (by omega)).1
  have hA1 : AV (A1 (138 + 1)) := by rw [e9]; exact hI.av
  refine WQ.st (fun _ _ kz => pw_aload2 dL_law_550 kz) ?_
  refine WQ.st (fun _ _ kz => pw_aload0 dL_law_551 kz) ?_
  refine WQ.st (fun _ _ kz => pw_iload3 dL_law_552 kz) ?_
  refine WQ.st (fun _ _ kz => pw_iconst (v := 1) dL_law_553 (by decide) kz) ?_
  refine WQ.st (fun _ _ kz => pw_iadd dL_law_554 kz) ?_
  refine WQ.st (fun _ _ kz => pw_saload dL_law_555 (sc_1 hi hn) kz) ?_
  refine WQ.st (fun _ _ kz => pw_aload0 dL_law_556 kz) ?_
  refine WQ.st (fun _ _ kz => pw_iload3 dL_law_557 kz) ?_
  refine WQ.st (fun _ _ kz => pw_iconst (v := 2) dL_law_558 (by decide) kz) ?_
  refine WQ.st (fun _ _ kz => pw_iadd dL_law_559 kz) ?_
  refine WQ.st (fun _ _ kz => pw_saload dL_law_560 (sc_2 hi hn) kz) ?_
  refine WQ.st (fun _ _ kz => pw_aload0 dL_law_561 kz) ?_
  refine WQ.st (fun _ _ kz => pw_iload3 dL_law_562 kz) ?_
  refine WQ.st (fun _ _ kz => pw_iconst (v := 3) dL_law_563 (by decide) kz) ?_
  refine WQ.st (fun _ _ kz => pw_iadd dL_law_564 kz) ?_
  refine WQ.st (fun _ _ kz => pw_saload dL_law_565 (sc_3 hi hn) kz) ?_
  have pc := p_lend (G := G) (d := 0) (V := V1) (A := A1) (B := B1) (Q := Q1) (t := t1) (sl := sl1) hF1 hA1 (G.2.2.2.1.2.2 (nI i + 1).toNatClampNeg) (G.2.2.2.1.2.2 (nI i + 2).toNatClampNeg) (G.2.2.2.1.2.2 (nI i + 3).toNatClampNeg)
  rw [e9] at pc
  refine wq_o3i wX12_lend lL_56 rfl dL_law_566 hF1.1 (pc.mn (by omega)) rfl (Nat.le_of_ble_eq_true rfl) (Nat.le_of_ble_eq_true rfl) (fun h2 z2 => ?_)
  obtain ⟨V2, A2, B2, rfl, fp, fq, fb⟩ := z2
  refine WQ.br (fun _ _ ka kb => pw_icmp_eq (tgt := 1745) dL_law_569 (by decide) ka kb) (fun c => ?_) (fun c => absurd rfl c)
  exact kf t1 sl1 sh ls1 S1 V2 P1 A2 B2 Q1 (hL.simple hI1 hl1 fo rm fp fq fb)
set_option maxRecDepth 20000 in
theorem lc_temper {G : gT} {D k i t sl sh ls : Nat} {S : sS} {V : sV} {P : sP} {A : sV} {B : sB} {Q : sP} {Z : Option Value → Ph → Prop} (hL : LI S V P A B Q t sl sh ls k) (hk : k ≤ 600) (hi : i + 6 ≤ G.2.2.2.1.2.1) (hn : G.2.2.2.1.2.1 ≤ 3072) (hD : 150 ≤ D) (kf : LK G D Z k i) : WQ G D mL_law 574 [some (.ref 0), some (.ref 8), some (.ref 138), some (.int (nI i))] [] (t, sl, gh S V P A B Q) Z := by
  have hI := hL.ci
  have hls : ls + 1000 < 2000000000 := by have := hL.lb; omega
  have hC := hI.de.dc.ka.cf
  obtain ⟨D, rfl⟩ : ∃ D', D = D' + 1 := ⟨D - 1, by omega⟩
  refine WQ.st (fun _ _ kz => pw_aload1 dL_law_574 kz) ?_
  refine WQ.st (fun _ _ kz => pw_aload0 dL_law_575 kz) ?_
  refine WQ.st (fun _ _ kz => pw_iload3 dL_law_576 kz) ?_
  refine WQ.st (fun _ _ kz => pw_iconst (v := 1) dL_law_577 (by decide) kz) ?_
  refine WQ.st (fun _ _ kz => pw_iadd dL_law_578 kz) ?_
  refine WQ.st (fun _ _ kz => pw_saload dL_law_579 (sc_1 hi hn) kz) ?_
  refine WQ.st (fun _ _ kz => pw_aload0 dL_law_580 kz) ?_
  refine WQ.st (fun _ _ kz => pw_iload3 dL_law_581 kz) ?_
  refine WQ.st (fun _ _ kz => pw_iconst (v := 2) dL_law_582 (by decide) kz) ?_
  refine WQ.st (fun _ _ kz => pw_iadd dL_law_583 kz) ?_
  refine WQ.st (fun _ _ kz => pw_saload dL_law_584 (sc_2 hi hn) kz) ?_
  refine wq_o2i wX11_temper lL_57 rfl dL_law_585 (cf_s8 hC) ((q_temper (G := G) (sl := sl) (d := 0) hI hls (G.2.2.2.1.2.2 (nI i + 1).toNatClampNeg) (G.2.2.2.1.2.2 (nI i + 2).toNatClampNeg)).mn (by omega)) rfl (Nat.le_of_ble_eq_true rfl) (Nat.le_of_ble_eq_true rfl) (fun h1 z1 => ?_)
  obtain ⟨t1, sl1, ls1, S1, V1, P1, A1, B1, Q1, rfl, hI1, hl1, fo, rm⟩ := z1
  have f := fo.2.2
  have ht := hI.de.dc.ka.st.2
  have hF1 : MF S1 P1 138 := hL.mf.fr (fun x hx => fo.2.1 x (by omega)) (f 138 (by omega) (by omega)).2.1
  have e9 : A1 (138 + 1) = A 139 := (f 139 (by omega) (by omega)).2.2.1
  have e20 : A1 (138 + 20) = A 158 := (f 158 (by omega) (by omega)).2.2.1
  have e21 : A1 (138 + 21) = A 159 := (f 159 (by omega) (by omega)).2.2.1
  have e22 : B1 (138 + 22) = B 160 := (f 160 (by omega) (by omega)).2.2.2
  have ev : V1 138 = V 138 := (f 138 (by omega) (by omega)).1
  have hA1 : AV (A1 (138 + 1)) := by rw [e9]; exact hI.av
  refine WQ.st (fun _ _ kz => pw_aload2 dL_law_588 kz) ?_
  refine WQ.st (fun _ _ kz => pw_aload0 dL_law_589 kz) ?_
  refine WQ.st (fun _ _ kz => pw_iload3 dL_law_590 kz) ?_
  refine WQ.st (fun _ _ kz => pw_iconst (v := 1) dL_law_591 (by decide) kz) ?_
  refine WQ.st (fun _ _ kz => pw_iadd dL_law_592 kz) ?_
  refine WQ.st (fun _ _ kz => pw_saload dL_law_593 (sc_1 hi hn) kz) ?_
  refine WQ.st (fun _ _ kz => pw_aload0 dL_law_594 kz) ?_
  refine WQ.st (fun _ _ kz => pw_iload3 dL_law_595 kz) ?_
  refine WQ.st (fun _ _ kz => pw_iconst (v := 2) dL_law_596 (by decide) kz) ?_
  refine WQ.st (fun _ _ kz => pw_iadd dL_law_597 kz) ?_
  refine WQ.st (fun _ _ kz => pw_saload dL_law_598 (sc_2 hi hn) kz) ?_
  have pc := p_temper (G := G) (d := 0) (V := V1) (A := A1) (B := B1) (Q := Q1) (t := t1) (sl := sl1) hF1 hA1 (G.2.2.2.1.2.2 (nI i + 1).toNatClampNeg) (G.2.2.2.1.2.2 (nI i + 2).toNatClampNeg)
  rw [e9] at pc
  refine wq_o2i wX12_temper lL_60 rfl dL_law_599 hF1.1 (pc.mn (by omega)) rfl (Nat.le_of_ble_eq_true rfl) (Nat.le_of_ble_eq_true rfl) (fun h2 z2 => ?_)
  obtain ⟨V2, A2, B2, rfl, fp, fq, fb⟩ := z2
  refine WQ.br (fun _ _ ka kb => pw_icmp_eq (tgt := 1745) dL_law_602 (by decide) ka kb) (fun c => ?_) (fun c => absurd rfl c)
  exact kf t1 sl1 sh ls1 S1 V2 P1 A2 B2 Q1 (hL.simple hI1 hl1 fo rm fp fq fb)
set_option maxRecDepth 20000 in
theorem lc_friday {G : gT} {D k i t sl sh ls : Nat} {S : sS} {V : sV} {P : sP} {A : sV} {B : sB} {Q : sP} {Z : Option Value → Ph → Prop} (hL : LI S V P A B Q t sl sh ls k) (hk : k ≤ 600) (hi : i + 6 ≤ G.2.2.2.1.2.1) (hn : G.2.2.2.1.2.1 ≤ 3072) (hD : 150 ≤ D) (kf : LK G D Z k i) : WQ G D mL_law 607 [some (.ref 0), some (.ref 8), some (.ref 138), some (.int (nI i))] [] (t, sl, gh S V P A B Q) Z := by
  have hI := hL.ci
  have hls : ls + 1000 < 2000000000 := by have := hL.lb; omega
  have hC := hI.de.dc.ka.cf
  obtain ⟨D, rfl⟩ : ∃ D', D = D' + 1 := ⟨D - 1, by omega⟩
  refine WQ.st (fun _ _ kz => pw_aload1 dL_law_607 kz) ?_
  refine wq_o0i wX11_friday lL_61 rfl dL_law_608 (cf_s8 hC) ((q_friday (G := G) (sl := sl) (d := 0) hI hls ).mn (by omega)) rfl (Nat.le_of_ble_eq_true rfl) (Nat.le_of_ble_eq_true rfl) (fun h1 z1 => ?_)
  obtain ⟨t1, sl1, ls1, S1, V1, P1, A1, B1, Q1, rfl, hI1, hl1, fo, rm⟩ := z1
  have f := fo.2.2
  have ht := hI.de.dc.ka.st.2
  have hF1 : MF S1 P1 138 := hL.mf.fr (fun x hx => fo.2.1 x (by omega)) (f 138 (by omega) (by omega)).2.1
  have e9 : A1 (138 + 1) = A 139 := (f 139 (by omega) (by omega)).2.2.1
  have e20 : A1 (138 + 20) = A 158 := (f 158 (by omega) (by omega)).2.2.1
  have e21 : A1 (138 + 21) = A 159 := (f 159 (by omega) (by omega)).2.2.1
  have e22 : B1 (138 + 22) = B 160 := (f 160 (by omega) (by omega)).2.2.2
  have ev : V1 138 = V 138 := (f 138 (by omega) (by omega)).1
  have hA1 : AV (A1 (138 + 1)) := by rw [e9]; exact hI.av
  refine WQ.st (fun _ _ kz => pw_aload2 dL_law_611 kz) ?_
  have pc := p_friday (G := G) (d := 0) (V := V1) (A := A1) (B := B1) (Q := Q1) (t := t1) (sl := sl1) hF1 hA1 
  rw [e9] at pc
  refine wq_o0i wX12_friday lL_65 rfl dL_law_612 hF1.1 (pc.mn (by omega)) rfl (Nat.le_of_ble_eq_true rfl) (Nat.le_of_ble_eq_true rfl) (fun h2 z2 => ?_)
  obtain ⟨V2, A2, B2, rfl, fp, fq, fb⟩ := z2
  refine WQ.br (fun _ _ ka kb => pw_icmp_eq (tgt := 1745) dL_law_615 (by decide) ka kb) (fun c => ?_) (fun c => absurd rfl c)
  exact kf t1 sl1 sh ls1 S1 V2 P1 A2 B2 Q1 (hL.simple hI1 hl1 fo rm fp fq fb)
set_option maxRecDepth 20000 in
theorem lc_undo {G : gT} {D k i t sl sh ls : Nat} {S : sS} {V : sV} {P : sP} {A : sV} {B : sB} {Q : sP} {Z : Option Value → Ph → Prop} (hL : LI S V P A B Q t sl sh ls k) (hk : k ≤ 600) (hi : i + 6 ≤ G.2.2.2.1.2.1) (hn : G.2.2.2.1.2.1 ≤ 3072) (hD : 150 ≤ D) (kf : LK G D Z k i) : WQ G D mL_law 620 [some (.ref 0), some (.ref 8), some (.ref 138), some (.int (nI i))] [] (t, sl, gh S V P A B Q) Z := by
  have hI := hL.ci
  have hls : ls + 1000 < 2000000000 := by have := hL.lb; omega
  have hC := hI.de.dc.ka.cf
  obtain ⟨D, rfl⟩ : ∃ D', D = D' + 1 := ⟨D - 1, by omega⟩
  refine WQ.st (fun _ _ kz => pw_aload1 dL_law_620 kz) ?_
  refine WQ.st (fun _ _ kz => pw_aload0 dL_law_621 kz) ?_
  refine WQ.st (fun _ _ kz => pw_iload3 dL_law_622 kz) ?_
  refine WQ.st (fun _ _ kz => pw_iconst (v := 1) dL_law_623 (by decide) kz) ?_
  refine WQ.st (fun _ _ kz => pw_iadd dL_law_624 kz) ?_
  refine WQ.st (fun _ _ kz => pw_saload dL_law_625 (sc_1 hi hn) kz) ?_
  refine wq_o1i wX11_undo lL_66 rfl dL_law_626 (cf_s8 hC) ((q_undo (G := G) (sl := sl) (d := 0) hI hls (G.2.2.2.1.2.2 (nI i + 1).toNatClampNeg)).mn (by omega)) rfl (Nat.le_of_ble_eq_true rfl) (Nat.le_of_ble_eq_true rfl) (fun h1 z1 => ?_)
  obtain ⟨t1, sl1, ls1, S1, V1, P1, A1, B1, Q1, rfl, hI1, hl1, fo, rm⟩ := z1
  have f := fo.2.2
  have ht := hI.de.dc.ka.st.2
  have hF1 : MF S1 P1 138 := hL.mf.fr (fun x hx => fo.2.1 x (by omega)) (f 138 (by omega) (by omega)).2.1
  have e9 : A1 (138 + 1) = A 139 := (f 139 (by omega) (by omega)).2.2.1
  have e20 : A1 (138 + 20) = A 158 := (f 158 (by omega) (by omega)).2.2.1
  have e21 : A1 (138 + 21) = A 159 := (f 159 (by omega) (by omega)).2.2.1
  have e22 : B1 (138 + 22) = B 160 := (f 160 (by omega) (by omega)).2.2.2
  have ev : V1 138 = V 138 := (f 138 (by omega) (by omega)).1
  have hA1 : AV (A1 (138 + 1)) := by rw [e9]; exact hI.av
  refine WQ.st (fun _ _ kz => pw_aload2 dL_law_629 kz) ?_
  refine WQ.st (fun _ _ kz => pw_aload0 dL_law_630 kz) ?_
  refine WQ.st (fun _ _ kz => pw_iload3 dL_law_631 kz) ?_
  refine WQ.st (fun _ _ kz => pw_iconst (v := 1) dL_law_632 (by decide) kz) ?_
  refine WQ.st (fun _ _ kz => pw_iadd dL_law_633 kz) ?_
  refine WQ.st (fun _ _ kz => pw_saload dL_law_634 (sc_1 hi hn) kz) ?_
  have pc := p_undo (G := G) (d := 0) (V := V1) (A := A1) (B := B1) (Q := Q1) (t := t1) (sl := sl1) hF1 hA1 (G.2.2.2.1.2.2 (nI i + 1).toNatClampNeg)
  rw [e9] at pc
  refine wq_o1i wX12_undo lL_69 rfl dL_law_635 hF1.1 (pc.mn (by omega)) rfl (Nat.le_of_ble_eq_true rfl) (Nat.le_of_ble_eq_true rfl) (fun h2 z2 => ?_)
  obtain ⟨V2, A2, B2, rfl, fp, fq, fb⟩ := z2
  refine WQ.br (fun _ _ ka kb => pw_icmp_eq (tgt := 1745) dL_law_638 (by decide) ka kb) (fun c => ?_) (fun c => absurd rfl c)
  exact kf t1 sl1 sh ls1 S1 V2 P1 A2 B2 Q1 (hL.simple hI1 hl1 fo rm fp fq fb)
