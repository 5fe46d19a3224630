/-! ===== what laws say: bounds, truths, words not asked for ===== -/
theorem rf_cl_b (v : Int64) : -1000000 ≤ (rf_cl v).toInt ∧ (rf_cl v).toInt ≤ 1000000 := by
  unfold rf_cl
  by_cases h : v ≤ 1000000
  · rw [if_pos h]
    have h1 : v.toInt ≤ 1000000 := Int64.le_iff_toInt_le.mp h
    by_cases h2 : -1000000 ≤ v
    · rw [if_pos h2]
      have h3 : -1000000 ≤ v.toInt := Int64.le_iff_toInt_le.mp h2
      rw [li_t ⟨by omega, by omega⟩]
      exact ⟨h3, h1⟩
    · rw [if_neg h2]
      decide
  · rw [if_neg h]
    decide
def sml (x : Int32) : Prop := -1000000 ≤ x.toInt ∧ x.toInt ≤ 1000000
theorem GS.val {h : Nat} {cs : List Int32} (hg : GS h cs) (w : Nat → Int32) (hw : ∀ i, i < 8 → sml (w i)) : ∃ x : Int32, sml x ∧ ∀ rest s, rkS w (cs ++ rest) s = rkS w rest (x :: s) := by
  refine hg (fun _ cs => ∃ x : Int32, sml x ∧ ∀ rest s, rkS w (cs ++ rest) s = rkS w rest (x :: s)) ?_ ?_
  · intro h c h1 h2 h3
    refine ⟨if c < 1000 then c else w (c.toInt - 1000).toNat, ?_, fun rest s => ?_⟩
    · by_cases h4 : c < 1000
      · rw [if_pos h4]
        exact ⟨by omega, by omega⟩
      · rw [if_neg h4]
        have : ¬ c.toInt < 1000 := fun q => h4 ((lt_i rfl li_1000).mpr q)
        exact hw _ (by omega)
    · rw [List.singleton_append, rkS_c, if_pos (c3_lt h3)]
  · intro h xs ys c hx hy h3 h4
    obtain ⟨x, -, ex⟩ := hx
    obtain ⟨y, -, ey⟩ := hy
    refine ⟨rf_btw c x y, ?_, fun rest s => ?_⟩
    · have e : rf_btw c x y = rf_cl (if c = 3000 then x.toInt64 + y.toInt64 else if c = 3001 then x.toInt64 - y.toInt64 else x.toInt64 * y.toInt64) := (rfb_d (fun q => by rw [q] at h4; exact absurd h4 (by decide)) (fun q => by rw [q] at h4; exact absurd h4 (by decide)) (fun q => by rw [q] at h4; exact absurd h4 (by decide)) (fun q => by rw [q] at h4; exact absurd h4 (by decide)) (fun q => by rw [q] at h4; exact absurd h4 (by decide)) rfl).symm
      rw [e]
      exact rf_cl_b _
    · rw [List.append_assoc, List.append_assoc, ex, ey, List.singleton_append, rkS_c, if_neg (c3_ge h3), if_neg (c36_ne (by omega))]
theorem TS.val {h : Nat} {cs : List Int32} (hg : TS h cs) (w : Nat → Int32) (hw : ∀ i, i < 8 → sml (w i)) : ∃ x : Int32, (x = 0 ∨ x = 1) ∧ ∀ rest s, rkS w (cs ++ rest) s = rkS w rest (x :: s) := by
  refine hg (fun _ cs => ∃ x : Int32, (x = 0 ∨ x = 1) ∧ ∀ rest s, rkS w (cs ++ rest) s = rkS w rest (x :: s)) ?_ ?_ ?_
  · intro h xs ys c hx hy h3 h4
    obtain ⟨x, -, ex⟩ := hx.val w hw
    obtain ⟨y, -, ey⟩ := hy.val w hw
    refine ⟨rf_btw c x y, ?_, fun rest s => ?_⟩
    · have hb : ∀ b : Bool, bI b = 0 ∨ bI b = 1 := fun b => by cases b <;> decide
      rcases (show c.toInt = 3003 ∨ c.toInt = 3004 ∨ c.toInt = 3005 by omega) with e | e | e
      · have e : c = 3003 := Int32.toInt_inj.mp e
        subst e
        exact hb (decide (x = y))
      · have e : c = 3004 := Int32.toInt_inj.mp e
        subst e
        exact hb (decide (x < y))
      · have e : c = 3005 := Int32.toInt_inj.mp e
        subst e
        exact hb (decide (y < x))
    · rw [List.append_assoc, List.append_assoc, ex, ey, List.singleton_append, rkS_c, if_neg (c3_ge (by omega)), if_neg (c36_ne (by omega))]
  · intro h xs hx
    obtain ⟨x, h01, ex⟩ := hx
    refine ⟨1 - x, ?_, fun rest s => ?_⟩
    · rcases h01 with rfl | rfl <;> decide
    · rw [List.append_assoc, ex, List.singleton_append, rkS_c, if_neg (by decide), if_pos rfl]
  · intro h xs ys c hx hy h3
    obtain ⟨x, hx1, ex⟩ := hx
    obtain ⟨y, hy1, ey⟩ := hy
    refine ⟨rf_btw c x y, ?_, fun rest s => ?_⟩
    · rcases h3 with rfl | rfl <;> rcases hx1 with rfl | rfl <;> rcases hy1 with rfl | rfl <;> decide
    · rw [List.append_assoc, List.append_assoc, ex, ey]
      rcases h3 with rfl | rfl
      · rw [List.singleton_append, rkS_c, if_neg (by decide), if_neg (by decide)]
      · rw [List.singleton_append, rkS_c, if_neg (by decide), if_neg (by decide)]
theorem rkv_val {w : Nat → Int32} {cs : List Int32} {x : Int32} (h : ∀ rest s, rkS w (cs ++ rest) s = rkS w rest (x :: s)) : rkS w cs [] = some [x] ∧ rkv w cs = x := by
  have e : rkS w cs [] = some [x] := by
    have := h [] []
    rw [List.append_nil] at this
    exact this
  refine ⟨e, ?_⟩
  unfold rkv
  rw [e]
  rfl
theorem rkS_ask {w w' : Nat → Int32} : ∀ (cs s : List Int32), (∀ c ∈ cs, rk_ok c) → (∀ i, i < 8 → nI (1000 + i) ∈ cs → w i = w' i) → rkS w cs s = rkS w' cs s
  | [], s, h, hw => rfl
  | c :: cs, s, h, hw => by
    have hc := h c List.mem_cons_self
    have ht : ∀ c ∈ cs, rk_ok c := fun c hc => h c (List.mem_cons_of_mem _ hc)
    have hw' : ∀ i, i < 8 → nI (1000 + i) ∈ cs → w i = w' i := fun i hi hm => hw i hi (List.mem_cons_of_mem _ hm)
    rw [rkS_c, rkS_c]
    by_cases h3 : c < 3000
    · rw [if_pos h3, if_pos h3]
      have e : (if c < 1000 then c else w (c.toInt - 1000).toNat) = (if c < 1000 then c else w' (c.toInt - 1000).toNat) := by
        by_cases h1 : c < 1000
        · rw [if_pos h1, if_pos h1]
        · rw [if_neg h1, if_neg h1]
          unfold rk_ok at hc
          have h3i : c.toInt < 3000 := (lt_i rfl li_3000).mp h3
          have h1i : ¬ c.toInt < 1000 := fun q => h1 ((lt_i rfl li_1000).mpr q)
          refine hw _ (by omega) ?_
          have : nI (1000 + (c.toInt - 1000).toNat) = c := by
            rw [← Int32.toInt_inj, nI_toInt (by omega)]
            omega
          rw [this]
          exact List.mem_cons_self
      rw [e]
      exact rkS_ask cs _ ht hw'
    · rw [if_neg h3, if_neg h3]
      by_cases h6 : c = 3006
      · rw [if_pos h6, if_pos h6]
        match s with
        | [] => rfl
        | x :: s => exact rkS_ask cs _ ht hw'
      · rw [if_neg h6, if_neg h6]
        match s with
        | [] => rfl
        | [_] => rfl
        | y :: x :: s => exact rkS_ask cs _ ht hw'
theorem rkv_ask {w w' : Nat → Int32} {cs : List Int32} (h : ∀ c ∈ cs, rk_ok c) (hw : ∀ i, i < 8 → nI (1000 + i) ∈ cs → w i = w' i) : rkv w cs = rkv w' cs := by
  unfold rkv
  rw [rkS_ask cs [] h hw]
/-- whether a law asks for a word -/
def askd (g : Option (List Int32)) (w : Nat) : Bool := decide (nI (1000 + w) ∈ g.getD [])
def asks (al : Nat → Int32) (w : Nat) : Bool := askd (lawL al 0) w || askd (lawL al 1) w
theorem atm_law {al : Nat → Int32} (hD : DV al) (p t : Nat) (hp : p < 5) {law : Nat} (hl : law < 2) : lawL (atm al p t) law = lawL al law := by
  rcases (show law = 0 ∨ law = 1 by omega) with rfl | rfl
  · exact lawL_cong (fun i hi => by unfold atm; rw [pm_up_ne (by omega)]) (by omega) hD.gl
  · exact lawL_cong (fun i hi => by unfold atm; rw [pm_up_ne (by omega)]) (by omega) hD.ml
theorem atm_dv {al : Nat → Int32} (hD : DV al) (p t : Nat) (hp : p < 5) : DV (atm al p t) := hD.cong (fun i hi => by unfold atm; rw [pm_up_ne (by omega)])
/-- by how much a bar makes glad, or the class's NOT, whatever the store behind it -/
def uv (al : Nat → Int32) (p tm q b l s w : Nat) : Int32 := if rf_may (atm al p tm) (lawL al 1) p q b (dI w) (dI l) (sI s) then rf_glad (atm al p tm) (lawL al 0) p q b (dI w) (dI l) (sI s) else -2147483648
/-- the class's NOT for the reference's -/
def cv (x : Int32) : Int32 := if x = -268435456 then -2147483648 else x
theorem rw_sml {al : Nat → Int32} (hD : DV al) {p tm q b l s w : Nat} (hp : p < 5) (ht : tm < 10) (hq : q < 4) (hb : b < 12) (hl : l < 5) (hs : s < 41) (hw : w < 5) : ∀ i, i < 8 → sml (rf_w (atm al p tm) p q b (dI w) (dI l) (sI s) i) := by
  intro i hi
  have h4 := hD.wa (12 * q + b) (by omega)
  rw [show 15 + (12 * q + b) = 15 + 12 * q + b by omega] at h4
  have e1 : atm al p tm (87 + p) = nI tm := pm_up_eq
  have e4 : atm al p tm (15 + 12 * q + b) = al (15 + 12 * q + b) := pm_up_ne (by omega)
  unfold sml
  rcases (show i = 0 ∨ i = 1 ∨ i = 2 ∨ i = 3 ∨ i = 4 ∨ i = 5 ∨ i = 6 ∨ i = 7 by omega) with rfl | rfl | rfl | rfl | rfl | rfl | rfl | rfl
  · show -1000000 ≤ (nI p).toInt ∧ (nI p).toInt ≤ 1000000
    rw [nI_toInt (by omega)]; omega
  · show -1000000 ≤ (atm al p tm (87 + p)).toInt ∧ (atm al p tm (87 + p)).toInt ≤ 1000000
    rw [e1, nI_toInt (by omega)]; omega
  · show -1000000 ≤ (nI q).toInt ∧ (nI q).toInt ≤ 1000000
    rw [nI_toInt (by omega)]; omega
  · show -1000000 ≤ (nI b).toInt ∧ (nI b).toInt ≤ 1000000
    rw [nI_toInt (by omega)]; omega
  · show -1000000 ≤ (atm al p tm (15 + 12 * q + b)).toInt ∧ (atm al p tm (15 + 12 * q + b)).toInt ≤ 1000000
    rw [e4]; omega
  · show -1000000 ≤ (dI w).toInt ∧ (dI w).toInt ≤ 1000000
    rw [dI_t (by omega)]; omega
  · show -1000000 ≤ (dI l).toInt ∧ (dI l).toInt ≤ 1000000
    rw [dI_t (by omega)]; omega
  · show -1000000 ≤ (sI s).toInt ∧ (sI s).toInt ≤ 1000000
    rw [sI_t (by omega)]; omega
theorem glad_sml {al : Nat → Int32} (hD : DV al) {p tm q b l s w : Nat} (hp : p < 5) (ht : tm < 10) (hq : q < 4) (hb : b < 12) (hl : l < 5) (hs : s < 41) (hw : w < 5) : sml (rf_glad (atm al p tm) (lawL al 0) p q b (dI w) (dI l) (sI s)) := by
  cases hg : lawL al 0 with
  | none =>
    have h4 := hD.wa (12 * q + b) (by omega)
    rw [show 15 + (12 * q + b) = 15 + 12 * q + b by omega] at h4
    have e4 : atm al p tm (15 + 12 * q + b) = al (15 + 12 * q + b) := pm_up_ne (by omega)
    show sml (atm al p tm (15 + 12 * q + b) * dI w)
    rw [e4]
    unfold sml
    have hd := dI_t (q := w) (by omega)
    have hb : -18 ≤ (al (15 + 12 * q + b)).toInt * ((w : Int) - 2) ∧ (al (15 + 12 * q + b)).toInt * ((w : Int) - 2) ≤ 18 := by
      generalize (al (15 + 12 * q + b)).toInt = z at h4 ⊢
      rcases (show w = 0 ∨ w = 1 ∨ w = 2 ∨ w = 3 ∨ w = 4 by omega) with rfl | rfl | rfl | rfl | rfl <;> omega
    rw [ti_mul rfl hd (by omega)]
    omega
  | some cs =>
    obtain ⟨x, hx, e⟩ := (hD.gs cs hg).val _ (rw_sml hD hp ht hq hb hl hs hw)
    show sml (rkv _ cs)
    rw [(rkv_val e).2]
    exact hx
theorem sml_n {x : Int32} (h : sml x) : x ≠ -268435456 := fun q => by
  rw [q] at h
  exact absurd h.1 (by decide)
theorem cv_TT {al : Nat → Int32} (hD : DV al) {p tm q b l s w : Nat} (hp : p < 5) (ht : tm < 10) (hq : q < 4) (hb : b < 12) (hl : l < 5) (hs : s < 41) (hw : w < 5) : cv (TT (atm al p tm) p q b l s w) = if rf_in s w then uv al p tm q b l s w else -2147483648 := by
  have h1 := sml_n (glad_sml hD hp ht hq hb hl hs hw)
  unfold TT rf_g uv cv
  rw [atm_law hD p tm hp (law := 0) (by omega), atm_law hD p tm hp (law := 1) (by omega)]
  cases rf_in s w
  · simp
  · rw [Bool.true_and]
    by_cases h2 : rf_may (atm al p tm) (lawL al 1) p q b (dI w) (dI l) (sI s) = true
    · rw [if_pos h2, if_neg h1, if_pos rfl, if_pos h2]
    · rw [if_neg h2, if_pos rfl, if_pos rfl, if_neg h2]
theorem uv_ind {al : Nat → Int32} (hD : DV al) {p tm p' tm' q b l l' s s' w : Nat} (hp : p < 5) (hp' : p' < 5) (hq : q < 4) (hb : b < 12) (h0 : asks al 0 = true → p = p') (h1 : asks al 1 = true → tm = tm') (h6 : asks al 6 = true → l = l') (h7 : asks al 7 = true → s = s') : uv al p tm q b l s w = uv al p' tm' q b l' s' w := by
  have e1 : atm al p tm (87 + p) = nI tm := pm_up_eq
  have e1' : atm al p' tm' (87 + p') = nI tm' := pm_up_eq
  have e4 : atm al p tm (15 + 12 * q + b) = al (15 + 12 * q + b) := pm_up_ne (by omega)
  have e4' : atm al p' tm' (15 + 12 * q + b) = al (15 + 12 * q + b) := pm_up_ne (by omega)
  have key : ∀ (law : Nat) (cs : List Int32), law < 2 → lawL al law = some cs → (∀ c ∈ cs, rk_ok c) → rkv (rf_w (atm al p tm) p q b (dI w) (dI l) (sI s)) cs = rkv (rf_w (atm al p' tm') p' q b (dI w) (dI l') (sI s')) cs := by
    intro law cs hl hc hok
    refine rkv_ask hok (fun i hi hm => ?_)
    have ha : asks al i = true := by
      unfold asks askd
      rcases (show law = 0 ∨ law = 1 by omega) with rfl | rfl
      · rw [hc, Option.getD_some, decide_eq_true hm, Bool.true_or]
      · rw [hc, Option.getD_some, decide_eq_true hm, Bool.or_true]
    rcases (show i = 0 ∨ i = 1 ∨ i = 2 ∨ i = 3 ∨ i = 4 ∨ i = 5 ∨ i = 6 ∨ i = 7 by omega) with rfl | rfl | rfl | rfl | rfl | rfl | rfl | rfl
    · show nI p = nI p'
      rw [h0 ha]
    · show atm al p tm (87 + p) = atm al p' tm' (87 + p')
      rw [e1, e1', h1 ha]
    · rfl
    · rfl
    · show atm al p tm (15 + 12 * q + b) = atm al p' tm' (15 + 12 * q + b)
      rw [e4, e4']
    · rfl
    · show dI l = dI l'
      rw [h6 ha]
    · show sI s = sI s'
      rw [h7 ha]
  have em : rf_may (atm al p tm) (lawL al 1) p q b (dI w) (dI l) (sI s) = rf_may (atm al p' tm') (lawL al 1) p' q b (dI w) (dI l') (sI s') := by
    cases hc : lawL al 1 with
    | none => rfl
    | some cs =>
      have hml := hD.ml
      rw [hc] at hml
      show decide (rkv _ cs = 1) = decide (rkv _ cs = 1)
      rw [key 1 cs (by omega) hc hml.ok]
  have eg : rf_glad (atm al p tm) (lawL al 0) p q b (dI w) (dI l) (sI s) = rf_glad (atm al p' tm') (lawL al 0) p' q b (dI w) (dI l') (sI s') := by
    cases hc : lawL al 0 with
    | none =>
      show atm al p tm (15 + 12 * q + b) * dI w = atm al p' tm' (15 + 12 * q + b) * dI w
      rw [e4, e4']
    | some cs =>
      have hgl := hD.gl
      rw [hc] at hgl
      exact key 0 cs (by omega) hc hgl.ok
  unfold uv
  rw [em, eg]
