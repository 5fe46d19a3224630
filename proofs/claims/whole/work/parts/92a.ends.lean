/-! ===== ends: how many, how much ===== -/
theorem sm_ex {f : Nat → Nat} {n : Nat} : sm f n ≠ 0 ↔ ∃ i, i < n ∧ f i ≠ 0 := by
  constructor
  · intro h
    apply Decidable.byContradiction
    intro g
    exact h (sm_0 (fun i hi => Decidable.byContradiction (fun q => g ⟨i, hi, q⟩)))
  · rintro ⟨i, hi, h⟩ g
    have := sm_at (f := f) hi
    omega
theorem bnd_c {k : Nat} {x : Int32} (h : bnd k x) (hk : k ≤ 100) (n : x ≠ -268435456) : -268435456 < x := by
  rw [lt_i (show (-268435456 : Int32).toInt = -268435456 from rfl) rfl]
  rcases h with h | h
  · exact absurd h n
  · omega
theorem mfo_ex {f : Nat → Int32} {n K : Nat} (hb : ∀ k, k < n → bnd K (f k)) (hK : K ≤ 100) : mfo f n ≠ -268435456 ↔ ∃ k, k < n ∧ f k ≠ -268435456 := by
  constructor
  · intro h
    rcases mfo_in f n with g | ⟨k, hk, g⟩
    · exact absurd g h
    · exact ⟨k, hk, by rw [g]; exact h⟩
  · rintro ⟨k, hk, h⟩ g
    have h1 := mfo_ge f n k hk
    rw [g] at h1
    exact absurd (bnd_c (hb k hk) hK h) (Int32.not_lt.mpr h1)
def one1 (s0 : Nat) : Nat → Int32 := fun s => if s = s0 then 0 else -268435456
theorem one_b (s0 s : Nat) : bnd 0 (one1 s0 s) := by
  unfold one1
  by_cases e : s = s0
  · rw [if_pos e]; exact Or.inr ⟨by decide, by decide⟩
  · rw [if_neg e]; exact Or.inl rfl
section CNT
variable {T : Nat → Nat → Nat → Nat → Int32} {bl : Bool} {n s0 : Nat}
theorem cnt_sp (hn : n ≤ 12) (hT : ∀ b l s w, b < n → l < 5 → s < 41 → w < 5 → bnd 1 (T b l s w)) : ∀ b, b ≤ n → ∀ j, j < 205 → (cIt (wtC T kpA) bl s0 b j ≠ 0 ↔ spI T bl (one1 s0) b j ≠ -268435456)
  | 0, _, j, hj => by
    show (if j = s0 * 5 + 2 then 1 else 0) ≠ 0 ↔ (if j % 5 = 2 then one1 s0 (j / 5) else -268435456) ≠ -268435456
    unfold one1
    by_cases e : j = s0 * 5 + 2
    · rw [if_pos e, if_pos (by omega), if_pos (by omega)]
      exact ⟨fun _ => by decide, fun _ => by decide⟩
    · rw [if_neg e]
      refine ⟨fun h => absurd rfl h, fun h => ?_⟩
      by_cases e1 : j % 5 = 2
      · rw [if_pos e1, if_neg (by omega)] at h
        exact absurd rfl h
      · rw [if_neg e1] at h
        exact absurd rfl h
  | b + 1, hb, j, hj => by
    have ih := cnt_sp hn hT b (by omega)
    have hS := spI_bnd (bl := bl) hT (fun s _ => one_b s0 s) (show 0 + n ≤ 90 by omega) b (by omega)
    have hm : ∀ k, k < 1025 → bnd 14 (mtm T bl b (spI T bl (one1 s0) b) j k) := fun k hk => by
      unfold mtm
      by_cases e : tgP bl (k / 25) (k % 5) = j
      · rw [if_pos e]
        exact (ob_bnd (hS (k / 5) (by omega)) (hT b (k / 5 % 5) (k / 25) (k % 5) (by omega) (by omega) (by omega) (by omega)) (by omega)).up (by omega)
      · rw [if_neg e]
        exact Or.inl rfl
    show sm (fun i => sm (fun w => if tgP bl (i / 5) w = j then cIt (wtC T kpA) bl s0 b i * wtC T kpA b (i % 5) (i / 5) w else 0) 5) 205 ≠ 0 ↔ mfo (mtm T bl b (spI T bl (one1 s0) b) j) 1025 ≠ -268435456
    rw [sm_ex, mfo_ex hm (by omega)]
    constructor
    · rintro ⟨i, hi, h⟩
      obtain ⟨w, hw, h⟩ := sm_ex.mp h
      refine ⟨i * 5 + w, by omega, ?_⟩
      have h : (if tgP bl (i / 5) w = j then cIt (wtC T kpA) bl s0 b i * wtC T kpA b (i % 5) (i / 5) w else 0) ≠ 0 := h
      by_cases e : tgP bl (i / 5) w = j
      · rw [if_pos e] at h
        have h1 : cIt (wtC T kpA) bl s0 b i ≠ 0 := fun q => h (by rw [q, Nat.zero_mul])
        have h2 : T b (i % 5) (i / 5) w ≠ -268435456 := fun q => h (by
          have : wtC T kpA b (i % 5) (i / 5) w = 0 := by
            unfold wtC
            rw [if_neg (fun z => z.2 q)]
          rw [this, Nat.mul_zero])
        unfold mtm
        rw [show (i * 5 + w) / 25 = i / 5 by omega, show (i * 5 + w) % 5 = w by omega, show (i * 5 + w) / 5 = i by omega, if_pos e]
        exact ob_nec (hS i hi) (hT b _ _ _ (by omega) (by omega) (by omega) hw) (by omega) ((ih i hi).mp h1) h2
      · rw [if_neg e] at h
        exact absurd rfl h
    · rintro ⟨k, hk, h⟩
      refine ⟨k / 5, by omega, sm_ex.mpr ⟨k % 5, by omega, ?_⟩⟩
      unfold mtm at h
      by_cases e : tgP bl (k / 25) (k % 5) = j
      · rw [if_pos e] at h
        have h1 : spI T bl (one1 s0) b (k / 5) ≠ -268435456 := fun q => h (ob_c (Or.inl q))
        have h2 : T b (k / 5 % 5) (k / 25) (k % 5) ≠ -268435456 := fun q => h (ob_c (Or.inr q))
        show (if tgP bl (k / 5 / 5) (k % 5) = j then cIt (wtC T kpA) bl s0 b (k / 5) * wtC T kpA b (k / 5 % 5) (k / 5 / 5) (k % 5) else 0) ≠ 0
        have e5 : k / 5 / 5 = k / 25 := by omega
        rw [e5, if_pos e]
        have h3 : wtC T kpA b (k / 5 % 5) (k / 25) (k % 5) = 1 := by
          unfold wtC
          rw [if_pos ⟨rfl, h2⟩]
        rw [h3, Nat.mul_one]
        exact (ih (k / 5) (by omega)).mpr h1
      · rw [if_neg e] at h
        exact absurd rfl h
theorem spF_cnt (hn : n ≤ 12) (hT : ∀ b l s w, b < n → l < 5 → s < 41 → w < 5 → bnd 1 (T b l s w)) (hw : ∀ b, b < n → wtOK (wtC T kpA b) bl) {u : Nat} (hu : u < 41) : spF T bl n (one1 s0) u ≠ -268435456 ↔ sm (fun l => rf_c T kpA s0 n l u) 5 ≠ 0 := by
  have hS := spI_bnd (bl := bl) hT (fun s _ => one_b s0 s) (show 0 + n ≤ 90 by omega) n (Nat.le_refl _)
  have e := (cIt_rel (s0 := s0) hw n (Nat.le_refl n)).st hu
  have e2 : sm (fun l => rIt (wtC T kpA) s0 n l u) 5 = sm (fun l => rf_c T kpA s0 n l u) 5 := sm_cong _ (fun l _ => wtC_rf n l u)
  rw [← e2, ← e, sm_ex]
  unfold spF
  rw [mfo_ex (K := 12) (fun k hk => (hS (u * 5 + k) (by omega)).up (by omega)) (by omega)]
  constructor
  · rintro ⟨l, hl, h⟩
    exact ⟨l, hl, (cnt_sp hn hT n (Nat.le_refl n) _ (by omega)).mpr h⟩
  · rintro ⟨l, hl, h⟩
    exact ⟨l, hl, (cnt_sp hn hT n (Nat.le_refl n) _ (by omega)).mp h⟩
theorem gb_ob (N : Nat → Nat → Int32) (b l s w : Nat) : rf_gb T kpA N b l s w = ob (T b l s w) (N w (s + 2 - w)) := by
  unfold rf_gb ob kpA
  rw [if_pos rfl]
  by_cases h1 : T b l s w = -268435456
  · rw [if_pos h1, if_pos (Or.inl h1)]
  · rw [if_neg h1]
    by_cases h2 : N w (s + 2 - w) = -268435456
    · rw [if_pos h2, if_pos (Or.inr h2)]
    · rw [if_neg h2, if_neg (fun q => q.elim h1 h2)]
theorem rf_in_lt {s w : Nat} (h : rf_in s w = true) : w ≤ s + 2 ∧ s + 2 - w < 41 := by
  have h := of_decide_eq_true h
  omega
theorem mx_le {f g : Nat → Int32} (h : ∀ i, i < 5 → f i ≤ rf_mx g) : rf_mx f ≤ rf_mx g := by
  by_cases c : rf_mx f = -268435456
  · rw [c]
    exact (rf_mf_ge g 5 0 (-268435456)).1
  · obtain ⟨i, hi, e⟩ := rf_mx_in c
    rw [← e]
    exact h i hi
theorem mx_ge (f : Nat → Int32) {i : Nat} (hi : i < 5) : f i ≤ rf_mx f := (rf_mf_ge f 5 0 (-268435456)).2 i (by omega) (by omega)
theorem T_mono (hn : n ≤ 12) (hT : ∀ b l s w, b < n → l < 5 → s < 41 → w < 5 → bnd 1 (T b l s w)) (hin : ∀ b l s w, b < n → l < 5 → s < 41 → w < 5 → T b l s w ≠ -268435456 → rf_in s w = true) {e e' : Nat → Int32} (he : ∀ s, s < 41 → bnd 0 (e s)) (he' : ∀ s, s < 41 → bnd 0 (e' s)) (hle : ∀ s, s < 41 → e s ≤ e' s) : ∀ r, r ≤ n → ∀ l s, l < 5 → s < 41 → rf_T T kpA n e r l s ≤ rf_T T kpA n e' r l s
  | 0, _, l, s, hl, hs => hle s hs
  | r + 1, hr, l, s, hl, hs => by
    have ih := T_mono hn hT hin he he' hle r (by omega)
    have b1 := rf_T_bnd (kp := kpA) hn hT hin he r (by omega)
    have b2 := rf_T_bnd (kp := kpA) hn hT hin he' r (by omega)
    show rf_mx (rf_gb T kpA (rf_T T kpA n e r) (n - (r + 1)) l s) ≤ rf_mx (rf_gb T kpA (rf_T T kpA n e' r) (n - (r + 1)) l s)
    refine mx_le (fun w hw => Int32.le_trans ?_ (mx_ge _ hw))
    rw [gb_ob, gb_ob]
    by_cases c : T (n - (r + 1)) l s w = -268435456
    · rw [ob_c (Or.inl c), ob_c (Or.inl c)]
      exact Int32.le_refl _
    · have hb := hT (n - (r + 1)) l s w (by omega) hl hs hw
      have hi := rf_in_lt (hin (n - (r + 1)) l s w (by omega) hl hs hw c)
      exact ob_mono hb (b1 w _ hw hi.2) hb (b2 w _ hw hi.2) (by omega) (by omega) (Int32.le_refl _) (ih w _ hw hi.2)
theorem e1_le (goal : Int32) {u : Nat} (hg : goal ≤ sI u) (s : Nat) : rf_e1 (sI u) s ≤ rf_e goal s := by
  unfold rf_e1 rf_e
  by_cases c : sI s = sI u
  · rw [if_pos c, c, if_neg (Int32.not_lt.mpr hg)]
    exact Int32.le_refl _
  · rw [if_neg c]
    by_cases c2 : sI s < goal
    · rw [if_pos c2]; exact Int32.le_refl _
    · rw [if_neg c2]; decide
theorem T_pick (hn : n ≤ 12) (hT : ∀ b l s w, b < n → l < 5 → s < 41 → w < 5 → bnd 1 (T b l s w)) (hin : ∀ b l s w, b < n → l < 5 → s < 41 → w < 5 → T b l s w ≠ -268435456 → rf_in s w = true) (goal : Int32) : ∀ r, r ≤ n → ∀ l s, l < 5 → s < 41 → rf_T T kpA n (rf_e goal) r l s ≠ -268435456 → ∃ u, u < 41 ∧ goal ≤ sI u ∧ rf_T T kpA n (rf_e1 (sI u)) r l s = rf_T T kpA n (rf_e goal) r l s := by
  intro r
  induction r with
  | zero =>
    intro _ l s hl hs h
    have h : rf_e goal s ≠ -268435456 := h
    refine ⟨s, hs, ?_, ?_⟩
    · unfold rf_e at h
      by_cases c : sI s < goal
      · rw [if_pos c] at h; exact absurd rfl h
      · exact Int32.not_lt.mp c
    · show rf_e1 (sI s) s = rf_e goal s
      unfold rf_e at h ⊢
      by_cases c : sI s < goal
      · rw [if_pos c] at h; exact absurd rfl h
      · unfold rf_e1
        rw [if_pos rfl, if_neg c]
  | succ r ih =>
    intro hr l s hl hs h
    have h : rf_mx (rf_gb T kpA (rf_T T kpA n (rf_e goal) r) (n - (r + 1)) l s) ≠ -268435456 := h
    obtain ⟨w, hw, e⟩ := rf_mx_in h
    rw [← e] at h
    rw [gb_ob] at h e
    have c : T (n - (r + 1)) l s w ≠ -268435456 := fun q => h (ob_c (Or.inl q))
    have c2 : rf_T T kpA n (rf_e goal) r w (s + 2 - w) ≠ -268435456 := fun q => h (ob_c (Or.inr q))
    have hi := rf_in_lt (hin (n - (r + 1)) l s w (by omega) hl hs hw c)
    obtain ⟨u, hu, g1, g2⟩ := ih (by omega) w (s + 2 - w) hw hi.2 c2
    refine ⟨u, hu, g1, Int32.le_antisymm (T_mono hn hT hin (fun s _ => rf_e1_bnd _ s) (fun s _ => rf_e_bnd goal s) (fun s _ => e1_le goal g1 s) (r + 1) hr l s hl hs) ?_⟩
    show rf_mx _ ≤ rf_mx _
    rw [← e, ← g2, ← gb_ob (rf_T T kpA n (rf_e1 (sI u)) r)]
    exact mx_ge _ hw
theorem rf_c0 {k : Nat} {x : Int32} (h : bnd k x) (hk : k ≤ 100) : -268435456 ≤ x := by
  by_cases c : x = -268435456
  · rw [c]; exact Int32.le_refl _
  · exact Int32.le_of_lt (bnd_c h hk c)
end CNT
/-- the most with an end so good or better, from the next on -/
theorem bs_next {al : Nat → Int32} (hD : DV al) {np : Int} (hK : KV np (fun k => al (75 + k))) {p q : Nat} (hp : p < 5) (hq : q < 4) {k : Nat} (hk : k < 41) : bsT al p q (sI k) = mxo (bsT al p q (sI (k + 1))) (thT al p q (stN al p) k) := by
  obtain ⟨tm, ht, etm, hat⟩ := hK.tmE hp
  have hn12 := (hD.lgE hq).2
  have hT := TT_b1 hD hp ht hq hn12
  have hin : ∀ b l s w, b < lgN al q → l < 5 → s < 41 → w < 5 → TT (atm al p tm) p q b l s w ≠ -268435456 → rf_in s w = true := fun b l s w _ _ _ _ h => TT_in h
  rw [hat] at hT hin
  have hs := (hK.stE hp).2
  have le1 : thT al p q (stN al p) k ≤ bsT al p q (sI k) := T_mono hn12 hT hin (fun s _ => rf_e1_bnd _ s) (fun s _ => rf_e_bnd _ s) (fun s _ => e1_le _ (Int32.le_refl _) s) _ (Nat.le_refl _) 2 _ (by omega) hs
  have le2 : bsT al p q (sI (k + 1)) ≤ bsT al p q (sI k) := T_mono hn12 hT hin (fun s _ => rf_e_bnd _ s) (fun s _ => rf_e_bnd _ s) (fun s hs => by
    unfold rf_e
    by_cases c : sI s < sI k
    · rw [if_pos c, if_pos (by rw [lt_i (sI_t (by omega)) (sI_t (by omega))] at c ⊢; omega)]
      exact Int32.le_refl _
    · rw [if_neg c]
      by_cases c2 : sI s < sI (k + 1)
      · rw [if_pos c2]; decide
      · rw [if_neg c2]; exact Int32.le_refl _) _ (Nat.le_refl _) 2 _ (by omega) hs
  refine Int32.le_antisymm ?_ ?_
  · by_cases c : bsT al p q (sI k) = -268435456
    · rw [c]
      rcases mxo_or (bsT al p q (sI (k + 1))) (thT al p q (stN al p) k) with e | e
      · exact Int32.le_trans (rf_c0 (rf_T_bnd (kp := kpA) hn12 hT hin (fun s _ => rf_e_bnd (sI (k + 1)) s) _ (Nat.le_refl _) 2 _ (by omega) hs) (by omega)) (mxo_l _ _)
      · exact Int32.le_trans (rf_c0 (rf_T_bnd (kp := kpA) hn12 hT hin (fun s _ => rf_e_bnd (sI (k + 1)) s) _ (Nat.le_refl _) 2 _ (by omega) hs) (by omega)) (mxo_l _ _)
    · obtain ⟨u, hu, g1, g2⟩ := T_pick hn12 hT hin (sI k) _ (Nat.le_refl _) 2 _ (by omega) hs c
      have g2 : thT al p q (stN al p) u = bsT al p q (sI k) := g2
      rw [le_i (sI_t (by omega)) (sI_t (by omega))] at g1
      by_cases e : u = k
      · rw [← g2, e]
        exact mxo_r _ _
      · rw [← g2]
        refine Int32.le_trans (T_mono hn12 hT hin (fun s _ => rf_e1_bnd _ s) (fun s _ => rf_e_bnd (sI (k + 1)) s) (fun s _ => e1_le _ (by rw [le_i (sI_t (by omega)) (sI_t (by omega))]; omega) s) _ (Nat.le_refl _) 2 _ (by omega) hs) (mxo_l _ _)
  · rcases mxo_or (bsT al p q (sI (k + 1))) (thT al p q (stN al p) k) with e | e
    · rw [e]; exact le2
    · rw [e]; exact le1
theorem bs_41 {al : Nat → Int32} (hD : DV al) {np : Int} (hK : KV np (fun k => al (75 + k))) {p q : Nat} (hp : p < 5) (hq : q < 4) : bsT al p q (sI 41) = -268435456 := by
  obtain ⟨tm, ht, etm, hat⟩ := hK.tmE hp
  have hn12 := (hD.lgE hq).2
  have hT := TT_b1 hD hp ht hq hn12
  have hin : ∀ b l s w, b < lgN al q → l < 5 → s < 41 → w < 5 → TT (atm al p tm) p q b l s w ≠ -268435456 → rf_in s w = true := fun b l s w _ _ _ _ h => TT_in h
  rw [hat] at hT hin
  apply Decidable.byContradiction
  intro c
  obtain ⟨u, hu, g1, g2⟩ := T_pick hn12 hT hin (sI 41) _ (Nat.le_refl _) 2 _ (by omega) (hK.stE hp).2 c
  rw [le_i (sI_t (by omega)) (sI_t (by omega))] at g1
  omega
theorem th_sp {al : Nat → Int32} (hD : DV al) {np : Int} (hK : KV np (fun k => al (75 + k))) {p q : Nat} (hp : p < 5) (hq : q < 4) {u : Nat} (hu : u < 41) : spF (TT al p q) (asks al 6) (lgN al q) (one1 (stN al p)) u = thT al p q (stN al p) u := by
  obtain ⟨tm, ht, etm, hat⟩ := hK.tmE hp
  have hn12 := (hD.lgE hq).2
  have hT := TT_b1 hD hp ht hq hn12
  have hin : ∀ b l s w, b < lgN al q → l < 5 → s < 41 → w < 5 → TT (atm al p tm) p q b l s w ≠ -268435456 → rf_in s w = true := fun b l s w _ _ _ _ h => TT_in h
  have hi : asks al 6 = false → ∀ b l s w, b < lgN al q → l < 5 → s < 41 → w < 5 → TT (atm al p tm) p q b l s w = TT (atm al p tm) p q b 2 s w := fun h6 b l s w hb hl hs hw => TT_l2 hD hp ht hq h6 (by omega) hl hs hw
  rw [hat] at hT hin hi
  have hs := (hK.stE hp).2
  have hb := fun f (hf : f < 41) => rf_T_bnd (kp := kpA) hn12 hT hin (fun s _ => rf_e1_bnd (sI u) s) _ (Nat.le_refl _) 2 f (by omega) hf
  rw [spF_eq (K := 0) hn12 hT hin hi (fun s _ => one_b _ s) (by omega) hu]
  refine Int32.le_antisymm (mfo_le (rf_c0 (hb _ hs) (by omega)) (fun f hf => ?_)) ?_
  · by_cases e : f = stN al p
    · rw [e]
      unfold one1
      rw [if_pos rfl]
      by_cases c : rf_T (TT al p q) kpA (lgN al q) (rf_e1 (sI u)) (lgN al q) 2 (stN al p) = -268435456
      · rw [ob_c (Or.inr c)]
        exact rf_c0 (hb _ hs) (by omega)
      · rw [ob_n (by decide) c, Int32.zero_add]
        exact Int32.le_refl _
    · unfold one1
      rw [if_neg e, ob_c (Or.inl rfl)]
      exact rf_c0 (hb _ hs) (by omega)
  · have h1 := mfo_ge (fun f => ob (one1 (stN al p) f) (rf_T (TT al p q) kpA (lgN al q) (rf_e1 (sI u)) (lgN al q) 2 f)) 41 (stN al p) hs
    refine Int32.le_trans ?_ h1
    show thT al p q (stN al p) u ≤ ob (one1 (stN al p) (stN al p)) _
    unfold one1
    rw [if_pos rfl]
    by_cases c : rf_T (TT al p q) kpA (lgN al q) (rf_e1 (sI u)) (lgN al q) 2 (stN al p) = -268435456
    · rw [ob_c (Or.inr c)]
      unfold thT
      rw [c]
      exact Int32.le_refl _
    · rw [ob_n (by decide) c, Int32.zero_add]
      exact Int32.le_refl _

/-- the best goal, from below and from above -/
def sqS (f : Nat → Int32) : Nat → Int32 × Int32
  | 0 => (-99000001, -268435456)
  | m + 1 => if f m ≠ -268435456 ∧ (sqS f m).2 < f m + 3 * sI m then (sI m, f m + 3 * sI m) else sqS f m
theorem sq_S (f : Nat → Int32) : ∀ m g, sp_sq f m g (sqS f g).1 (sqS f g).2 = (sqS f (g + m)).1
  | 0, g => rfl
  | m + 1, g => by
    have ih := sq_S f m (g + 1)
    rw [show g + (m + 1) = g + 1 + m by omega]
    show (if f g ≠ -268435456 ∧ (sqS f g).2 < f g + 3 * sI g then sp_sq f m (g + 1) (sI g) (f g + 3 * sI g) else sp_sq f m (g + 1) (sqS f g).1 (sqS f g).2) = _
    have e : sqS f (g + 1) = if f g ≠ -268435456 ∧ (sqS f g).2 < f g + 3 * sI g then (sI g, f g + 3 * sI g) else sqS f g := rfl
    by_cases c : f g ≠ -268435456 ∧ (sqS f g).2 < f g + 3 * sI g
    · rw [if_pos c]
      rw [if_pos c] at e
      rw [e] at ih
      exact ih
    · rw [if_neg c]
      rw [if_neg c] at e
      rw [e] at ih
      exact ih
def cq (f : Nat → Int32) : Nat → Int32 → Int32 → Int32
  | 0, _, a => a
  | k + 1, bv, a => if f k ≠ -268435456 ∧ bv ≤ f k + 3 * sI k then cq f k (f k + 3 * sI k) (sI k) else cq f k bv a
theorem cq_S {f : Nat → Int32} {n : Nat} (hv : ∀ m, m < n → f m ≠ -268435456 → -268435456 < f m + 3 * sI m) : ∀ m, m ≤ n → ∀ bv a, cq f m bv a = if (sqS f m).2 ≠ -268435456 ∧ bv ≤ (sqS f m).2 then (sqS f m).1 else a
  | 0, _, bv, a => by
    have g : ¬ ((sqS f 0).2 ≠ -268435456 ∧ bv ≤ (sqS f 0).2) := fun q => q.1 rfl
    rw [if_neg g]
    rfl
  | m + 1, hm, bv, a => by
    have ih := cq_S hv m (by omega)
    show (if f m ≠ -268435456 ∧ bv ≤ f m + 3 * sI m then cq f m (f m + 3 * sI m) (sI m) else cq f m bv a) = _
    have e : sqS f (m + 1) = if f m ≠ -268435456 ∧ (sqS f m).2 < f m + 3 * sI m then (sI m, f m + 3 * sI m) else sqS f m := rfl
    have hvm := hv m (by omega)
    generalize f m + 3 * sI m = v at *
    generalize sqS f m = st at *
    obtain ⟨b, mo⟩ := st
    have ih : ∀ bv a, cq f m bv a = if mo ≠ -268435456 ∧ bv ≤ mo then b else a := ih
    have e : sqS f (m + 1) = if f m ≠ -268435456 ∧ mo < v then (sI m, v) else (b, mo) := e
    by_cases cf : f m = -268435456
    · rw [if_neg (show ¬ (f m ≠ -268435456 ∧ mo < v) from fun q => q.1 cf)] at e
      rw [e, if_neg (show ¬ (f m ≠ -268435456 ∧ bv ≤ v) from fun q => q.1 cf)]
      exact ih bv a
    · have hvm := hvm cf
      have vc : v ≠ -268435456 := fun q => by
        rw [q] at hvm
        exact absurd hvm (by decide)
      by_cases c1 : bv ≤ v
      · rw [if_pos (show f m ≠ -268435456 ∧ bv ≤ v from ⟨cf, c1⟩), ih]
        by_cases c2 : mo < v
        · rw [if_pos (show f m ≠ -268435456 ∧ mo < v from ⟨cf, c2⟩)] at e
          rw [e, if_neg (show ¬ (mo ≠ -268435456 ∧ v ≤ mo) from fun q => absurd c2 (Int32.not_lt.mpr q.2))]
          exact (if_pos (show v ≠ -268435456 ∧ bv ≤ v from ⟨vc, c1⟩)).symm
        · have c3 := Int32.not_lt.mp c2
          have c4 : mo ≠ -268435456 := fun q => by
            rw [q] at c3
            exact absurd hvm (Int32.not_lt.mpr c3)
          rw [if_neg (show ¬ (f m ≠ -268435456 ∧ mo < v) from fun q => c2 q.2)] at e
          rw [e, if_pos (show mo ≠ -268435456 ∧ v ≤ mo from ⟨c4, c3⟩)]
          exact (if_pos (show mo ≠ -268435456 ∧ bv ≤ mo from ⟨c4, Int32.le_trans c1 c3⟩)).symm
      · have c1' := Int32.not_le.mp c1
        rw [if_neg (show ¬ (f m ≠ -268435456 ∧ bv ≤ v) from fun q => c1 q.2), ih]
        by_cases c2 : mo < v
        · rw [if_pos (show f m ≠ -268435456 ∧ mo < v from ⟨cf, c2⟩)] at e
          rw [e, if_neg (show ¬ (mo ≠ -268435456 ∧ bv ≤ mo) from fun q => absurd (Int32.lt_trans c2 c1') (Int32.not_lt.mpr q.2))]
          exact (if_neg (show ¬ (v ≠ -268435456 ∧ bv ≤ v) from fun q => c1 q.2)).symm
        · rw [if_neg (show ¬ (f m ≠ -268435456 ∧ mo < v) from fun q => c2 q.2)] at e
          rw [e]
theorem sq_none {f : Nat → Int32} {n : Nat} (hv : ∀ m, m < n → f m ≠ -268435456 → -268435456 < f m + 3 * sI m) : ∀ m, m ≤ n → (sqS f m).2 = -268435456 → (sqS f m).1 = -99000001
  | 0, _, _ => rfl
  | m + 1, hm, h => by
    have e : sqS f (m + 1) = if f m ≠ -268435456 ∧ (sqS f m).2 < f m + 3 * sI m then (sI m, f m + 3 * sI m) else sqS f m := rfl
    by_cases c : f m ≠ -268435456 ∧ (sqS f m).2 < f m + 3 * sI m
    · rw [e, if_pos c] at h
      have h : f m + 3 * sI m = -268435456 := h
      have := hv m (by omega) c.1
      rw [h] at this
      exact absurd this (by decide)
    · rw [e, if_neg c] at h ⊢
      exact sq_none hv m (by omega) h
theorem cq_sq {f : Nat → Int32} (hv : ∀ m, m < 41 → f m ≠ -268435456 → -268435456 < f m + 3 * sI m) : cq f 41 (-2147483648) (-99000001) = sp_sq f 41 0 (-99000001) (-268435456) := by
  have h := sq_S f 41 0
  rw [Nat.zero_add] at h
  have h : sp_sq f 41 0 (-99000001) (-268435456) = (sqS f 41).1 := h
  rw [h, cq_S hv 41 (Nat.le_refl _)]
  by_cases c : (sqS f 41).2 = -268435456
  · rw [if_neg (fun q => q.1 c), sq_none hv 41 (Nat.le_refl _) c]
  · rw [if_pos ⟨c, by rw [le_i (show (-2147483648 : Int32).toInt = -2147483648 from rfl) rfl]; exact Int32.le_toInt _⟩]
theorem dn1_cong {f g : Nat → Bool} : ∀ n, (∀ s, s < n → f s = g s) → dn1 f n = dn1 g n
  | 0, _ => rfl
  | n + 1, h => by
    show (if f n then _ else _) = (if g n then _ else _)
    rw [h n (by omega), dn1_cong n (fun s hs => h s (by omega))]
