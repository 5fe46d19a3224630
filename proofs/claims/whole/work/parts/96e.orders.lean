section REA
variable {th : Nat → Nat → Nat → Int32} {e : Nat → Int32} {N : Nat}
theorem rm_in : ∀ s, s < 16 → ∀ p, p < 4 → ∀ q, q < 4 → inB (rmB s p) q = (inB s q && decide (q ≠ p)) := by decide +kernel
theorem rm_cm : ∀ s, s < 16 → ∀ p, p < 4 → ∀ q, q < 4 → rmB (rmB s p) q = rmB (rmB s q) p := by decide +kernel
theorem oG_ne (hN : N ≤ 4) (hT : ∀ p f t, p < N → f < 41 → t < 41 → bnd 12 (th p f t)) (he : ∀ s, s < 41 → bnd 0 (e s)) {left f : Nat} (hl : left < 16) (hf : f < 41) (h0 : left ≠ 0) : oG th e N left f ≠ -268435456 ↔ ∃ p t, p < N ∧ t < 41 ∧ inB left p = true ∧ th p f t ≠ -268435456 ∧ oG th e N (rmB left p) t ≠ -268435456 := by
  constructor
  · intro h
    obtain ⟨p, t, hp, ht, hb, hq⟩ := oG_at h0 h
    rw [← hq] at h
    exact ⟨p, t, hp, ht, hb, ob_ne h⟩
  · rintro ⟨p, t, hp, ht, hb, h1, h2⟩
    have b1 := oG_bnd hN hT he 4 (Nat.le_refl _) (rmB left p) (rm_lt hl) (crd_4 _ (rm_lt hl)) t ht
    have b2 := oG_bnd hN hT he 4 (Nat.le_refl _) left hl (crd_4 _ hl) f hf
    exact bnd_ne_le (ob_bnd (hT p f t hp hf ht) b1 (by omega)) b2 (by omega) (by omega) (oG_le h0 hp hb ht) (ob_nec (hT p f t hp hf ht) b1 (by omega) h1 h2)
theorem e1_ne {t f : Nat} (ht : t < 41) (hf : f < 41) : rf_e1 (sI t) f ≠ -268435456 ↔ f = t := by
  unfold rf_e1
  by_cases c : f = t
  · rw [if_pos (by rw [c])]; exact ⟨fun _ => c, fun _ => by decide⟩
  · rw [if_neg (fun h => c ((sI_inj (by omega) (by omega)).mp h))]; exact ⟨fun h => absurd rfl h, fun h => absurd h c⟩
theorem oG_e1 (hN : N ≤ 4) (hT : ∀ p f t, p < N → f < 41 → t < 41 → bnd 12 (th p f t)) (he : ∀ s, s < 41 → bnd 0 (e s)) : ∀ n left, left < 16 → crd left = n → ∀ f, f < 41 → (oG th e N left f ≠ -268435456 ↔ ∃ t, t < 41 ∧ e t ≠ -268435456 ∧ oG th (rf_e1 (sI t)) N left f ≠ -268435456) := by
  intro n
  induction n with
  | zero =>
    intro left hl hc f hf
    have : left = 0 := crd_0 left hl hc
    subst this
    rw [oG_0]
    constructor
    · intro h
      exact ⟨f, hf, h, by rw [oG_0]; exact (e1_ne hf hf).mpr rfl⟩
    · rintro ⟨t, ht, h1, h2⟩
      rw [oG_0] at h2
      rw [(e1_ne ht hf).mp h2]
      exact h1
  | succ n ih =>
    intro left hl hc f hf
    have h0 : left ≠ 0 := fun q => by rw [q] at hc; exact absurd hc (by show ¬ (0 = n + 1); omega)
    rw [oG_ne hN hT he hl hf h0]
    constructor
    · rintro ⟨p, u, hp, hu, hb, h1, h2⟩
      obtain ⟨t, ht, h3, h4⟩ := (ih (rmB left p) (rm_lt hl) (by have := rm_c left hl p (by omega) hb; omega) u hu).mp h2
      exact ⟨t, ht, h3, (oG_ne hN hT (fun s _ => rf_e1_bnd _ s) hl hf h0).mpr ⟨p, u, hp, hu, hb, h1, h4⟩⟩
    · rintro ⟨t, ht, h3, h4⟩
      obtain ⟨p, u, hp, hu, hb, h1, h2⟩ := (oG_ne hN hT (fun s _ => rf_e1_bnd _ s) hl hf h0).mp h4
      exact ⟨p, u, hp, hu, hb, h1, (ih (rmB left p) (rm_lt hl) (by have := rm_c left hl p (by omega) hb; omega) u hu).mpr ⟨t, ht, h3, h2⟩⟩
theorem oG_last (hN : N ≤ 4) (hT : ∀ p f t, p < N → f < 41 → t < 41 → bnd 12 (th p f t)) : ∀ n left, left < 16 → left < 2 ^ N → crd left = n + 1 → ∀ f t, f < 41 → t < 41 → (oG th (rf_e1 (sI t)) N left f ≠ -268435456 ↔ ∃ q u, q < N ∧ u < 41 ∧ inB left q = true ∧ oG th (rf_e1 (sI u)) N (rmB left q) f ≠ -268435456 ∧ th q u t ≠ -268435456) := by
  have hb1 : ∀ u s, s < 41 → bnd 0 (rf_e1 (sI u) s) := fun u s _ => rf_e1_bnd _ s
  intro n
  induction n with
  | zero =>
    intro left hl hlN hc f t hf ht
    have h0 : left ≠ 0 := fun q => by rw [q] at hc; exact absurd hc (by decide)
    rw [oG_ne hN hT (hb1 t) hl hf h0]
    have rz : ∀ p, p < N → inB left p = true → rmB left p = 0 := fun p hp hb => crd_0 _ (rm_lt hl) (by have := rm_c left hl p (by omega) hb; omega)
    constructor
    · rintro ⟨p, u, hp, hu, hb, h1, h2⟩
      rw [rz p hp hb, oG_0] at h2
      have := (e1_ne ht hu).mp h2
      subst this
      exact ⟨p, f, hp, hf, hb, by rw [rz p hp hb, oG_0]; exact (e1_ne hf hf).mpr rfl, h1⟩
    · rintro ⟨q, u, hq, hu, hb, h1, h2⟩
      rw [rz q hq hb, oG_0] at h1
      have := (e1_ne hu hf).mp h1
      subst this
      exact ⟨q, t, hq, ht, hb, h2, by rw [rz q hq hb, oG_0]; exact (e1_ne ht ht).mpr rfl⟩
  | succ n ih =>
    intro left hl hlN hc f t hf ht
    have h0 : left ≠ 0 := fun q => by rw [q] at hc; exact absurd hc (by show ¬ (0 = n + 1 + 1); omega)
    have nz : ∀ p, p < N → inB left p = true → rmB left p ≠ 0 ∧ crd (rmB left p) = n + 1 := fun p hp hb => by
      have := rm_c left hl p (by omega) hb
      exact ⟨fun q => by rw [q] at this; have : 0 + 1 = crd left := this; omega, by omega⟩
    rw [oG_ne hN hT (hb1 t) hl hf h0]
    constructor
    · rintro ⟨p, v, hp, hv, hb, h1, h2⟩
      obtain ⟨n0, n1⟩ := nz p hp hb
      obtain ⟨q, u, hq, hu, hbq, h3, h4⟩ := (ih (rmB left p) (rm_lt hl) (rm_lt hlN) n1 v t hv ht).mp h2
      rw [rm_in left hl p (by omega) q (by omega)] at hbq
      obtain ⟨b1, b2⟩ := (Bool.and_eq_true _ _).mp hbq
      have b2 := of_decide_eq_true b2
      refine ⟨q, u, hq, hu, b1, (oG_ne hN hT (hb1 u) (rm_lt hl) hf (nz q hq b1).1).mpr ⟨p, v, hp, hv, ?_, h1, ?_⟩, h4⟩
      · rw [rm_in left hl q (by omega) p (by omega), hb, decide_eq_true (p := p ≠ q) (fun h => b2 h.symm)]; rfl
      · rw [rm_cm left hl q (by omega) p (by omega)]; exact h3
    · rintro ⟨q, u, hq, hu, hbq, h3, h4⟩
      obtain ⟨p, v, hp, hv, hb, h1, h2⟩ := (oG_ne hN hT (hb1 u) (rm_lt hl) hf (nz q hq hbq).1).mp h3
      rw [rm_in left hl q (by omega) p (by omega)] at hb
      obtain ⟨b1, b2⟩ := (Bool.and_eq_true _ _).mp hb
      have b2 := of_decide_eq_true b2
      refine ⟨p, v, hp, hv, b1, h1, (ih (rmB left p) (rm_lt hl) (rm_lt hlN) (nz p hp b1).2 v t hv ht).mpr ⟨q, u, hq, hu, ?_, ?_, h4⟩⟩
      · rw [rm_in left hl p (by omega) q (by omega), hbq, decide_eq_true (p := q ≠ p) (fun h => b2 h.symm)]; rfl
      · rw [rm_cm left hl p (by omega) q (by omega)]; exact h2
/-- rows gathered, set by set -/
def GR (th : Nat → Nat → Nat → Int32) (Es : Nat → Nat → Int32) (set t : Nat) : Int32 := mfo (fun j => if inB set j = true then spr th j (Es (rmB set j)) t else -268435456) 4
def GRI (th : Nat → Nat → Nat → Int32) (s0 K : Nat) (Es : Nat → Nat → Int32) : Prop := (∀ t, t < 41 → Es 0 t = one1 s0 t) ∧ ∀ set, set ≠ 0 → set < K → ∀ t, t < 41 → Es set t = GR th Es set t
theorem GRI.bnd (hN : N ≤ 4) (hT : ∀ p f t, p < N → f < 41 → t < 41 → bnd 12 (th p f t)) {s0 K : Nat} {Es : Nat → Nat → Int32} (h : GRI th s0 K Es) (hK : K ≤ 2 ^ N) : ∀ n set, set < K → crd set = n → ∀ t, t < 41 → _root_.Jvm.Pilot.CRubatoDeskLaw_law_r2432_ca25c3.bnd (12 * n) (Es set t) := by
  have h16 := pow_N hN
  intro n
  induction n with
  | zero =>
    intro set hs hc t ht
    have : set = 0 := crd_0 set (by omega) hc
    subst this
    rw [h.1 t ht]
    exact one_b _ _
  | succ n ih =>
    intro set hs hc t ht
    have h0 : set ≠ 0 := fun q => by rw [q] at hc; exact absurd hc (by show ¬ (0 = n + 1); omega)
    have h4 := crd_4 set (by omega)
    rw [h.2 set h0 hs t ht]
    refine mfo_bnd (fun j hj => ?_)
    by_cases hb : inB set j = true
    · rw [if_pos hb]
      have := rm_c set (by omega) j hj hb
      exact (spr_bnd (fun f t h1 h2 => hT j f t (inB_N N (by omega) set (by omega) (by omega) j hj hb) h1 h2) (ih (rmB set j) (rm_lt hs) (by omega)) (by omega) t ht).up (by omega)
    · rw [if_neg hb]
      exact Or.inl rfl
theorem GRI.ne (hN : N ≤ 4) (hT : ∀ p f t, p < N → f < 41 → t < 41 → Jvm.Pilot.CRubatoDeskLaw_law_r2432_ca25c3.bnd 12 (th p f t)) {s0 K : Nat} (hs0 : s0 < 41) {Es : Nat → Nat → Int32} (h : GRI th s0 K Es) (hK : K ≤ 2 ^ N) : ∀ n set, set < K → crd set = n → ∀ t, t < 41 → (Es set t ≠ -268435456 ↔ oG th (rf_e1 (sI t)) N set s0 ≠ -268435456) := by
  have h16 := pow_N hN
  intro n
  induction n with
  | zero =>
    intro set hs hc t ht
    have : set = 0 := crd_0 set (by omega) hc
    subst this
    rw [h.1 t ht, oG_0, e1_ne ht hs0]
    unfold one1
    by_cases c : t = s0
    · rw [if_pos c]; exact ⟨fun _ => c.symm, fun _ => by decide⟩
    · rw [if_neg c]; exact ⟨fun q => absurd rfl q, fun q => absurd q.symm c⟩
  | succ n ih =>
    intro set hs hc t ht
    have h0 : set ≠ 0 := fun q => by rw [q] at hc; exact absurd hc (by show ¬ (0 = n + 1); omega)
    have h4 := crd_4 set (by omega)
    have hB := GRI.bnd hN hT h hK
    rw [h.2 set h0 hs t ht, oG_last hN hT n set (by omega) (by omega) hc s0 t hs0 ht]
    have bb : ∀ j, j < 4 → inB set j = true → j < N ∧ crd (rmB set j) = n := fun j hj hb => ⟨inB_N N (by omega) set (by omega) (by omega) j hj hb, by have := rm_c set (by omega) j hj hb; omega⟩
    unfold GR
    rw [mfo_ex (K := 60) (fun j hj => by
      by_cases hb : inB set j = true
      · rw [if_pos hb]
        obtain ⟨b1, b2⟩ := bb j hj hb
        exact (spr_bnd (fun f t h1 h2 => hT j f t b1 h1 h2) (hB n (rmB set j) (rm_lt hs) b2) (by omega) t ht).up (by omega)
      · rw [if_neg hb]; exact Or.inl rfl) (by omega)]
    constructor
    · rintro ⟨j, hj, hx⟩
      by_cases hb : inB set j = true
      · rw [if_pos hb] at hx
        obtain ⟨b1, b2⟩ := bb j hj hb
        obtain ⟨u, hu, hx⟩ := (mfo_ex (K := 60) (fun f hf => (ob_bnd (hB n (rmB set j) (rm_lt hs) b2 f hf) (hT j f t b1 hf ht) (by omega)).up (by omega)) (by omega)).mp hx
        obtain ⟨x1, x2⟩ := ob_ne hx
        exact ⟨j, u, b1, hu, hb, (ih (rmB set j) (rm_lt hs) b2 u hu).mp x1, x2⟩
      · rw [if_neg hb] at hx
        exact absurd rfl hx
    · rintro ⟨q, u, hq, hu, hb, x1, x2⟩
      refine ⟨q, by omega, ?_⟩
      rw [if_pos hb]
      obtain ⟨b1, b2⟩ := bb q (by omega) hb
      refine (mfo_ex (K := 60) (fun f hf => (ob_bnd (hB n (rmB set q) (rm_lt hs) b2 f hf) (hT q f t b1 hf ht) (by omega)).up (by omega)) (by omega)).mpr ⟨u, hu, ?_⟩
      exact ob_nec (hB n (rmB set q) (rm_lt hs) b2 u hu) (hT q u t b1 hu ht) (by omega) ((ih (rmB set q) (rm_lt hs) b2 u hu).mpr x1) x2
theorem GRI.can (hN : N ≤ 4) (hT : ∀ p f t, p < N → f < 41 → t < 41 → Jvm.Pilot.CRubatoDeskLaw_law_r2432_ca25c3.bnd 12 (th p f t)) (he : ∀ s, s < 41 → Jvm.Pilot.CRubatoDeskLaw_law_r2432_ca25c3.bnd 0 (e s)) {s0 K : Nat} (hs0 : s0 < 41) {Es : Nat → Nat → Int32} (h : GRI th s0 K Es) (hK : K ≤ 2 ^ N) {set : Nat} (hs : set < K) : mfo (fun f => ob (Es set f) (e f)) 41 ≠ -268435456 ↔ oG th e N set s0 ≠ -268435456 := by
  have h16 := pow_N hN
  have h4 := crd_4 set (by omega)
  have hB := GRI.bnd hN hT h hK (crd set) set hs rfl
  rw [mfo_ex (K := 60) (fun f hf => (ob_bnd (hB f hf) (he f hf) (by omega)).up (by omega)) (by omega), oG_e1 hN hT he (crd set) set (by omega) rfl s0 hs0]
  constructor
  · rintro ⟨t, ht, hx⟩
    obtain ⟨x1, x2⟩ := ob_ne hx
    exact ⟨t, ht, x2, (GRI.ne hN hT hs0 h hK (crd set) set hs rfl t ht).mp x1⟩
  · rintro ⟨t, ht, x2, x1⟩
    exact ⟨t, ht, ob_nec (hB t ht) (he t ht) (by omega) ((GRI.ne hN hT hs0 h hK (crd set) set hs rfl t ht).mpr x1) x2⟩
end REA
