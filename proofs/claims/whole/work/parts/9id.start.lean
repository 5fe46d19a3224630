theorem lwm_1 {w : Cond} (h : w ∈ tables_1_1) : w ∈ lw_tbl := List.mem_append.mpr (Or.inr (List.mem_append.mpr (Or.inl h)))
theorem lwm_2 {w : Cond} (h : w ∈ tables_1_2) : w ∈ lw_tbl := List.mem_append.mpr (Or.inr (List.mem_append.mpr (Or.inr (List.mem_append.mpr (Or.inl h)))))
theorem lwm_3 {w : Cond} (h : w ∈ tables_1_3) : w ∈ lw_tbl := List.mem_append.mpr (Or.inr (List.mem_append.mpr (Or.inr (List.mem_append.mpr (Or.inr (List.mem_append.mpr (Or.inl h)))))))
theorem lwm_4 {w : Cond} (h : w ∈ tables_1_4) : w ∈ lw_tbl := List.mem_append.mpr (Or.inr (List.mem_append.mpr (Or.inr (List.mem_append.mpr (Or.inr (List.mem_append.mpr (Or.inr (List.mem_append.mpr (Or.inl h)))))))))
theorem lwm_5 {w : Cond} (h : w ∈ tables_1_5) : w ∈ lw_tbl := List.mem_append.mpr (Or.inr (List.mem_append.mpr (Or.inr (List.mem_append.mpr (Or.inr (List.mem_append.mpr (Or.inr (List.mem_append.mpr (Or.inr (List.mem_append.mpr (Or.inl h)))))))))))
theorem lwm_6 {w : Cond} (h : w ∈ tables_1_6) : w ∈ lw_tbl := List.mem_append.mpr (Or.inr (List.mem_append.mpr (Or.inr (List.mem_append.mpr (Or.inr (List.mem_append.mpr (Or.inr (List.mem_append.mpr (Or.inr (List.mem_append.mpr (Or.inr (List.mem_append.mpr (Or.inl h)))))))))))))
theorem lwm_7 {w : Cond} (h : w ∈ tables_1_7) : w ∈ lw_tbl := List.mem_append.mpr (Or.inr (List.mem_append.mpr (Or.inr (List.mem_append.mpr (Or.inr (List.mem_append.mpr (Or.inr (List.mem_append.mpr (Or.inr (List.mem_append.mpr (Or.inr (List.mem_append.mpr (Or.inr (List.mem_append.mpr (Or.inl h)))))))))))))))
theorem lwm_8 {w : Cond} (h : w ∈ tables_1_8) : w ∈ lw_tbl := List.mem_append.mpr (Or.inr (List.mem_append.mpr (Or.inr (List.mem_append.mpr (Or.inr (List.mem_append.mpr (Or.inr (List.mem_append.mpr (Or.inr (List.mem_append.mpr (Or.inr (List.mem_append.mpr (Or.inr (List.mem_append.mpr (Or.inr (h))))))))))))))))
set_option maxRecDepth 20000 in
theorem whole_start {p : Program} {e : Env} {s : State} {m : MethodId} {below : List Frame} {meth : Method} {c : Code} (l : Launch) {b L : Nat} {xs : Nat → Int32} (hL : L ≤ 3072) (C0 : lw_At p s m meth c b L xs) : W p l e room_1 s m #[Value.ref b] below meth c s.heap [] 0 0 (lw_Z below #[Value.ref b] s) (entryFrame m ([Value.ref b] : List Value).toArray 4) := by
  obtain ⟨hx, hb, hr, hml, hown, hts, hX, hbl, hlocks, hgv, hname⟩ := id C0
  have hg := flat_of_before _ hgv
  have htG : ∀ w ∈ GT, w.before #[Value.ref b] s = true := fun w h => hts w (List.mem_filter.mp h).1
  obtain ⟨c0, i0, u0⟩ := u_known (C := RX0) (T := TX0) (N := 15) (n := 15) htG uw0 (hts (.instantiable RX0 15) (lwm_1 (List.mem_of_getElem? (i := 220) rfl)))
  obtain ⟨c1, i1, u1⟩ := u_known (C := RX1) (T := TX1) (N := 7) (n := 7) htG uw1 (hts (.instantiable RX1 7) (lwm_2 (List.mem_of_getElem? (i := 42) rfl)))
  obtain ⟨c2, i2, u2⟩ := u_known (C := RX2) (T := TX2) (N := 5) (n := 5) htG uw2 (hts (.instantiable RX2 5) (lwm_2 (List.mem_of_getElem? (i := 160) rfl)))
  obtain ⟨c3, i3, u3⟩ := u_known (C := RX3) (T := TX3) (N := 3) (n := 3) htG uw3 (hts (.instantiable RX3 3) (lwm_1 (List.mem_of_getElem? (i := 110) rfl)))
  obtain ⟨c4, i4, u4⟩ := u_known (C := RX4) (T := TX4) (N := 3) (n := 3) htG uw4 (hts (.instantiable RX4 3) (lwm_1 (List.mem_of_getElem? (i := 154) rfl)))
  obtain ⟨c5, i5, u5⟩ := u_known (C := RX5) (T := TX5) (N := 9) (n := 9) htG uw5 (hts (.instantiable RX5 9) (lwm_2 (List.mem_of_getElem? (i := 122) rfl)))
  obtain ⟨c6, i6, u6⟩ := u_known (C := RX6) (T := TX6) (N := 11) (n := 11) htG uw6 (hts (.instantiable RX6 11) (lwm_1 (List.mem_of_getElem? (i := 31) rfl)))
  obtain ⟨c7, i7, u7⟩ := u_known (C := RX7) (T := TX7) (N := 10) (n := 10) htG uw7 (hts (.instantiable RX7 10) (lwm_1 (List.mem_of_getElem? (i := 148) rfl)))
  obtain ⟨c8, i8, u8⟩ := u_known (C := RX8) (T := TX8) (N := 5) (n := 5) htG uw8 (hts (.instantiable RX8 5) (lwm_1 (List.mem_of_getElem? (i := 77) rfl)))
  obtain ⟨c9, i9, u9⟩ := u_known (C := RX9) (T := TX9) (N := 3) (n := 3) htG uw9 (hts (.instantiable RX9 3) (lwm_1 (List.mem_of_getElem? (i := 131) rfl)))
  obtain ⟨c10, i10, u10⟩ := u_known (C := RX10) (T := TX10) (N := 11) (n := 11) htG uw10 (hts (.instantiable RX10 11) (lwm_2 (List.mem_of_getElem? (i := 75) rfl)))
  obtain ⟨c11, i11, u11⟩ := u_known (C := RX11) (T := TX11) (N := 18) (n := 18) htG uw11 (hts (.instantiable RX11 18) (lwm_1 (List.mem_of_getElem? (i := 23) rfl)))
  obtain ⟨c12, i12, u12⟩ := u_known (C := RX12) (T := TX12) (N := 39) (n := 39) htG uw12 (hts (.instantiable RX12 39) (lwm_6 (List.mem_of_getElem? (i := 33) rfl)))
  obtain ⟨dC, dI, hKc⟩ : ∃ (dC : Nat → ClassId) (dI : Nat → Nat → Nat), ∀ (k : Nat) (q : vw_C), vwCl[k]? = some q → u_Kn s q.1 q.2.1 q.2.2 (dC k) (dI k) := by
    refine ⟨fun k => if k = 0 then c0 else if k = 1 then c1 else if k = 2 then c2 else if k = 3 then c3 else if k = 4 then c4 else if k = 5 then c5 else if k = 6 then c6 else if k = 7 then c7 else if k = 8 then c8 else if k = 9 then c9 else if k = 10 then c10 else if k = 11 then c11 else if k = 12 then c12 else c0, fun k => if k = 0 then i0 else if k = 1 then i1 else if k = 2 then i2 else if k = 3 then i3 else if k = 4 then i4 else if k = 5 then i5 else if k = 6 then i6 else if k = 7 then i7 else if k = 8 then i8 else if k = 9 then i9 else if k = 10 then i10 else if k = 11 then i11 else if k = 12 then i12 else i0, ?_⟩
    intro k q hq
    match k, hq with
    | 0, hq => cases hq; exact u0
    | 1, hq => cases hq; exact u1
    | 2, hq => cases hq; exact u2
    | 3, hq => cases hq; exact u3
    | 4, hq => cases hq; exact u4
    | 5, hq => cases hq; exact u5
    | 6, hq => cases hq; exact u6
    | 7, hq => cases hq; exact u7
    | 8, hq => cases hq; exact u8
    | 9, hq => cases hq; exact u9
    | 10, hq => cases hq; exact u10
    | 11, hq => cases hq; exact u11
    | 12, hq => cases hq; exact u12
    | k + 13, hq => simp [vwCl] at hq
  obtain ⟨a0, ka0, pa0, wa0, xa0, ya0⟩ := Cond.arrayClass_spec (hts (.arrayClass .int) (lwm_1 (List.mem_of_getElem? (i := 73) rfl)))
  obtain ⟨a1, ka1, pa1, wa1, xa1, ya1⟩ := Cond.arrayClass_spec (hts (.arrayClass .byte) (lwm_1 (List.mem_of_getElem? (i := 72) rfl)))
  obtain ⟨a2, ka2, pa2, wa2, xa2, ya2⟩ := Cond.arrayClass_spec (hts (.arrayClass .long) (lwm_1 (List.mem_of_getElem? (i := 147) rfl)))
  obtain ⟨a3, ka3, pa3, wa3, xa3, ya3⟩ := Cond.arrayClass_spec (hts (.arrayClass .boolean) (lwm_6 (List.mem_of_getElem? (i := 159) rfl)))
  have ho4 := hts (.arrayOver (.object "RubatoDesk$Sheet")) (lwm_1 (List.mem_of_getElem? (i := 75) rfl))
  obtain ⟨pa4, a4, ka4, va4, -, xa4, ya4, wa4⟩ := Cond.arrayOver_spec ho4
  have ho5 := hts (.arrayOver (.object "RubatoDesk$State")) (lwm_1 (List.mem_of_getElem? (i := 116) rfl))
  obtain ⟨pa5, a5, ka5, va5, -, xa5, ya5, wa5⟩ := Cond.arrayOver_spec ho5
  have ho6 := hts (.arrayOver (.object "RubatoDesk$Tray")) (lwm_1 (List.mem_of_getElem? (i := 130) rfl))
  obtain ⟨pa6, a6, ka6, va6, -, xa6, ya6, wa6⟩ := Cond.arrayOver_spec ho6
  have ho7 := hts (.arrayOver (.array .int)) (lwm_2 (List.mem_of_getElem? (i := 129) rfl))
  obtain ⟨pa7, a7, ka7, va7, -, xa7, ya7, wa7⟩ := arrayOverA_spec ho7
  have ho8 := hts (.arrayOver (.array .long)) (lwm_1 (List.mem_of_getElem? (i := 226) rfl))
  obtain ⟨pa8, a8, ka8, va8, -, xa8, ya8, wa8⟩ := arrayOverA_spec ho8
  obtain ⟨aC, hAC⟩ : ∃ aC : Nat → ClassId, ∀ (k : Nat) (q : ClassId × FieldType), ([(aC 0, .int), (aC 1, .byte), (aC 2, .long), (aC 3, .boolean), (aC 4, .object "RubatoDesk$Sheet"), (aC 5, .object "RubatoDesk$State"), (aC 6, .object "RubatoDesk$Tray"), (aC 7, .array .int), (aC 8, .array .long)] : List (ClassId × FieldType))[k]? = some q → ArrOfT s q.1 q.2 ∧ va_RA s q.1 q.2 := by
    refine ⟨fun k => if k = 0 then a0 else if k = 1 then a1 else if k = 2 then a2 else if k = 3 then a3 else if k = 4 then a4 else if k = 5 then a5 else if k = 6 then a6 else if k = 7 then a7 else if k = 8 then a8 else a0, ?_⟩
    intro k q hq
    match k, hq with
    | 0, hq => cases hq; exact ⟨fun n z => ⟨fun k h => (by cases h), ka0, xa0, pa0, ya0⟩, wa0⟩
    | 1, hq => cases hq; exact ⟨fun n z => ⟨fun k h => (by cases h), ka1, xa1, pa1, ya1⟩, wa1⟩
    | 2, hq => cases hq; exact ⟨fun n z => ⟨fun k h => (by cases h), ka2, xa2, pa2, ya2⟩, wa2⟩
    | 3, hq => cases hq; exact ⟨fun n z => ⟨fun k h => (by cases h), ka3, xa3, pa3, ya3⟩, wa3⟩
    | 4, hq => cases hq; exact ⟨fun n z => ⟨fun k h => (by cases h), ka4, xa4, pa4, ya4⟩, ka4, pa4, xa4, ya4, va4, wa4⟩
    | 5, hq => cases hq; exact ⟨fun n z => ⟨fun k h => (by cases h), ka5, xa5, pa5, ya5⟩, ka5, pa5, xa5, ya5, va5, wa5⟩
    | 6, hq => cases hq; exact ⟨fun n z => ⟨fun k h => (by cases h), ka6, xa6, pa6, ya6⟩, ka6, pa6, xa6, ya6, va6, wa6⟩
    | 7, hq => cases hq; exact ⟨fun n z => ⟨fun k h => (by cases h), ka7, xa7, pa7, ya7⟩, wa7⟩
    | 8, hq => cases hq; exact ⟨fun n z => ⟨fun k h => (by cases h), ka8, xa8, pa8, ya8⟩, wa8⟩
    | k + 9, hq => simp at hq
  have hA : ∀ a : Nat, a < s.heap.size → ¬ (fun q : Nat => s.heap.size ≤ q) a := fun a h => Nat.not_le.mpr h
  obtain ⟨adK, adV, hSt, hEv⟩ := vk_Sof (args := #[Value.ref b]) (s := s) (N := 3) (tm := lwTm) (len := pm_len) (byt := pm_byt) (A := fun q : Nat => s.heap.size ≤ q) (by decide) (fun i hi => hg _ (st_ex i hi)) (fun i hi => hg _ (st_co i hi)) (fun i hi => hg _ (st_ar i hi)) (fun i hi => hg _ (st_le i hi)) (fun i hi j hj => hg _ (st_el i hi j hj)) (fun i j hi hj hne => (st_ne i hi j hj hne).imp (hg _) (hg _)) hA
  have z1 : va_Z "java/lang/String" "COMPACT_STRINGS" "Z" (.int 1) (fun q : Nat => s.heap.size ≤ q) s s.heap := va_Zof (hts (.laysStatic "java/lang/String" "COMPACT_STRINGS" "Z") (lwm_3 (List.mem_of_getElem? (i := 60) rfl))) (hts (.initialized "java/lang/String") (lwm_1 (List.mem_of_getElem? (i := 16) rfl))) (va_eqt (hg _ st_cs)) hA
  have z2 : va_Zq "jdk/internal/util/Preconditions" "SIOOBE_FORMATTER" "Ljava/util/function/BiFunction;" (fun q : Nat => s.heap.size ≤ q) s s.heap := va_Zqof (hts (.laysStatic "jdk/internal/util/Preconditions" "SIOOBE_FORMATTER" "Ljava/util/function/BiFunction;") (lwm_3 (List.mem_of_getElem? (i := 76) rfl))) (hts (.initialized "jdk/internal/util/Preconditions") (lwm_1 (List.mem_of_getElem? (i := 18) rfl))) (hg _ st_sf) hA
  obtain ⟨aV, hV0, hz2⟩ : ∃ aV : Nat → Nat, (∀ i, i < 3 → aV i = adV i) ∧ ∀ (G : gT), G.2.2.2.2.2.2 = aV → va_Z "jdk/internal/util/Preconditions" "SIOOBE_FORMATTER" "Ljava/util/function/BiFunction;" (pm_v G (pm_fm G)) (fun q : Nat => s.heap.size ≤ q) s s.heap := by
    rcases z2 with h | ⟨t, h⟩
    · refine ⟨fun i => if i < 3 then adV i else 0, fun i hi => if_pos hi, fun G e => ?_⟩
      have : pm_fm G = .null := by unfold pm_fm; rw [e]; rfl
      rw [this]
      exact h
    · refine ⟨fun i => if i < 3 then adV i else if i = 3 then t else 1, fun i hi => if_pos hi, fun G e => ?_⟩
      have e1 : pm_fm G = .ref 7 := by unfold pm_fm; rw [e]; rfl
      rw [e1]
      have e2 : pm_v G (.ref 7) = .ref t := by
        show Value.ref (G.2.2.2.2.2.2 3) = _
        rw [e]
        rfl
      rw [e2]
      exact h
  have hSt2 : vk_S 3 pm_len pm_byt adK aV (fun q : Nat => s.heap.size ≤ q) s s.heap := by
    refine ⟨fun i hi => ?_, hSt.2⟩
    rw [hV0 i hi]
    exact hSt.1 i hi
  obtain ⟨G, hG⟩ : ∃ G : gT, G = (l, (dC, dI), aC, (b, L, xs), s.heap.size, adK, aV) := ⟨_, rfl⟩
  have hF : pm_F G s s.heap := by
    have e7 := hz2 G (by rw [hG])
    subst hG
    refine ⟨⟨hKc, hAC⟩, fun w hw => ?_, ⟨va_AO.of ho4, va_AO.of ho5, va_AO.of ho6, ho7, ho8⟩, ⟨vk_R.of (hts (.stringRef "RubatoDesk$Reader" 107 pm_t0) (lwm_3 (List.mem_of_getElem? (i := 50) rfl))) (hEv 0 (by omega)), vk_R.of (hts (.stringRef "RubatoDeskModel" 96 pm_t1) (lwm_6 (List.mem_of_getElem? (i := 188) rfl))) (hEv 1 (by omega)), vk_R.of (hts (.stringRef "RubatoDeskModel" 134 pm_t2) (lwm_6 (List.mem_of_getElem? (i := 194) rfl))) (hEv 2 (by omega))⟩, hX, hSt2, ⟨z1, e7⟩, hbl, Nat.le_refl _⟩
    have h1 := hts w (List.mem_filter.mp hw).1
    have h2 := (List.mem_filter.mp hw).2
    cases w <;> first | exact va_Nw.of rfl h1 | cases h2
  have hn : G.2.2.2.1.2.1 ≤ 3072 := by rw [hG]; exact hL
  obtain ⟨r, h', pw, hr1, hr2, hr3⟩ := law_start hn (D := 200) (by omega) (fun _ => (99, 0)) (fun _ _ => 0) (fun _ _ => none) (fun _ _ => 0) (fun _ _ => 0) (fun _ _ => none)
  subst hr1
  have hC : pm_C G 207 mL_law p room_1 s m #[Value.ref b] meth c := ⟨hx, hb, hml, hown, htG, hF, Nat.le_of_ble_eq_true rfl, Nat.le_of_ble_eq_true rfl, hr, hname, hlocks⟩
  have hl := lv_entry ([.ref b]) (n := 4) (Nat.le_of_ble_eq_true rfl)
  rw [lg_entry_eq]
  generalize (lg_sl ([.ref b]) ++ List.replicate (4 - (lg_sl ([.ref b])).length) Slot.unset).toArray = lsA at hl ⊢
  have hl : lv_has lsA 4 [(0, .ref b)] := hl
  have hb0 : pm_ad G 0 = b := by rw [hG]; rfl
  have hsz : G.2.2.2.2.1 = s.heap.size := by rw [hG]
  have hA0 : pm_A G = fun q : Nat => s.heap.size ≤ q := by rw [hG]; rfl
  have hl0 : G.1 = l := by rw [hG]
  rw [← hl0]
  refine pw.2 p e room_1 s m #[Value.ref b] below meth c s.heap [] 0 0 lsA (lw_Z below #[Value.ref b] s) hC (by rw [hA0]; exact va_S.rf) ⟨Nat.le_refl _, ?_, fun a _ => rfl⟩ ⟨hl.1, hl.2.1, fun i v hi => ?_⟩ (by rw [hsz]; exact Nat.le_refl _) ?_ ?_ (fun H' locs' pc' lsA' hS' hR' hret => ?_)
  · intro k q h
    simp [pm_W] at h
  · match i, hi with
    | 0, hi =>
      cases hi
      show lsA[0]? = some (Slot.val (.ref (pm_ad G 0)))
      rw [hb0]
      exact lv_at hl 0 rfl
    | 1, hi => cases hi
    | 2, hi => cases hi
    | 3, hi => cases hi
    | i + 4, hi => cases hi
  · show 0 + (h'.1 - 8) ≤ 600000
    omega
  · show 0 + (h'.2.1 - 0) ≤ 7302250
    omega
  · refine va_forget (fun q hq => ?_) ?_
    · have := hS'.2.2 q hq
      rw [hA0] at this
      exact this
    · rcases hret with ⟨v, ty, hv, hd, -, -⟩ | ⟨v, hv, -⟩ | ⟨v, ty, hv, -⟩ | ⟨hv, -⟩
      · cases hv
        exact lw_ret hx hb hr hlocks hd
      · cases hv
      · cases v <;> cases hv
      · cases hv
