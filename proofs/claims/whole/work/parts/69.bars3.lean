/-! ===== the class: Bars, a player and a piece taken up ===== -/
def KA (S : sS) (V : sV) (P : sP) (A : sV) (B : sB) (Q : sP) (t : Nat) (al : Nat → Int32) (sh ls : Nat) : Prop := CF S P ∧ SH S P sh ∧ ((sh = 87 ∨ 161 ≤ sh) ∧ sh + 8 < t ∧ 161 ≤ t) ∧ DV al ∧ ShE V A sh al ∧ BarI S V P A B Q t al sh ls
section KAS
variable {S : sS} {V : sV} {P : sP} {A : sV} {B : sB} {Q : sP} {t : Nat} {al : Nat → Int32} {sh ls p tm q : Nat}
theorem KA.cf (h : KA S V P A B Q t al sh ls) : CF S P := h.1
theorem KA.hsh (h : KA S V P A B Q t al sh ls) : SH S P sh := h.2.1
theorem KA.sa (h : KA S V P A B Q t al sh ls) : sh = 87 ∨ 161 ≤ sh := h.2.2.1.1
theorem KA.st (h : KA S V P A B Q t al sh ls) : sh + 8 < t ∧ 161 ≤ t := h.2.2.1.2
theorem KA.dv (h : KA S V P A B Q t al sh ls) : DV al := h.2.2.2.1
theorem KA.se (h : KA S V P A B Q t al sh ls) : ShE V A sh al := h.2.2.2.2.1
theorem KA.ba (h : KA S V P A B Q t al sh ls) : BarI S V P A B Q t al sh ls := h.2.2.2.2.2
theorem KA.p2 (h : KA S V P A B Q t al sh ls) : P 96 2 = some sh := h.ba.1
theorem KA.v1 (h : KA S V P A B Q t al sh ls) : V 96 1 = bI (asks al 6) := h.ba.2.1
theorem KA.v3 (h : KA S V P A B Q t al sh ls) : V 96 3 = bI (asks al 7) := h.ba.2.2.1
theorem KA.v4 (h : KA S V P A B Q t al sh ls) : V 96 4 = bI (asks al 0) := h.ba.2.2.2.1
theorem KA.v5 (h : KA S V P A B Q t al sh ls) : V 96 5 = bI (asks al 1) := h.ba.2.2.2.2.1
theorem KA.v12 (h : KA S V P A B Q t al sh ls) : V 96 12 = nI ls := h.ba.2.2.2.2.2.1
theorem KB.ka (h : KB S V P A B Q t al sh ls p tm q) (ht : sh + 8 < t ∧ 161 ≤ t) : KA S V P A B Q t al sh ls := ⟨h.cf, h.hsh, ⟨h.sa, ht⟩, h.dv, h.se, h.ba⟩
theorem KA.fr {V' A' : sV} {B' : sB} (h : KA S V P A B Q t al sh ls) (hf : FrK V A B V' A' B') : KA S V' P A' B' Q t al sh ls := by
  have hs := h.sa
  exact ⟨h.cf, h.hsh, ⟨hs, h.st⟩, h.dv, h.se.fr (fun x h1 h2 => hf.1 x (by omega)) (fun x h1 h2 => hf.2.1 x (by omega)), h.ba.fr hf⟩
end KAS
/-- what taking up may change -/
def FrT (S : sS) (V : sV) (P : sP) (A : sV) (B : sB) (Q : sP) (t : Nat) (S' : sS) (V' : sV) (P' : sP) (A' : sV) (B' : sB) (Q' : sP) (t' : Nat) : Prop :=
  t ≤ t' ∧ (∀ a, a < t → S' a = S a) ∧ (∀ a, a ≠ 96 → V' a = V a) ∧ (∀ a, a ≠ 96 → P' a = P a) ∧ (∀ a, a ≠ 97 → a ≠ 98 → a ≠ 100 → a ≠ 101 → A' a = A a) ∧ (∀ a, a < 161 → B' a = B a) ∧ ∀ a, a ≠ 99 → Q' a = Q a
theorem FrT.rfl {S : sS} {V : sV} {P : sP} {A : sV} {B : sB} {Q : sP} {t : Nat} : FrT S V P A B Q t S V P A B Q t := ⟨Nat.le_refl _, fun _ _ => _root_.rfl, fun _ _ => _root_.rfl, fun _ _ => _root_.rfl, fun _ _ _ _ _ => _root_.rfl, fun _ _ => _root_.rfl, fun _ _ => _root_.rfl⟩
theorem FrT.tr {S : sS} {V : sV} {P : sP} {A : sV} {B : sB} {Q : sP} {t : Nat} {S1 : sS} {V1 : sV} {P1 : sP} {A1 : sV} {B1 : sB} {Q1 : sP} {t1 : Nat} {S2 : sS} {V2 : sV} {P2 : sP} {A2 : sV} {B2 : sB} {Q2 : sP} {t2 : Nat} (h : FrT S V P A B Q t S1 V1 P1 A1 B1 Q1 t1) (g : FrT S1 V1 P1 A1 B1 Q1 t1 S2 V2 P2 A2 B2 Q2 t2) : FrT S V P A B Q t S2 V2 P2 A2 B2 Q2 t2 := by
  obtain ⟨h1, h2, h3, h4, h5, h6, h7⟩ := h
  obtain ⟨g1, g2, g3, g4, g5, g6, g7⟩ := g
  exact ⟨by omega, fun a ha => (g2 a (by omega)).trans (h2 a ha), fun a ha => (g3 a ha).trans (h3 a ha), fun a ha => (g4 a ha).trans (h4 a ha), fun a x1 x2 x3 x4 => (g5 a x1 x2 x3 x4).trans (h5 a x1 x2 x3 x4), fun a ha => (g6 a ha).trans (h6 a ha), fun a ha => (g7 a ha).trans (h7 a ha)⟩
theorem FrG.frt {S : sS} {V : sV} {P : sP} {A : sV} {B : sB} {Q : sP} {t : Nat} {A' : sV} {B' : sB} (h : FrG A B A' B') : FrT S V P A B Q t S V P A' B' Q t := ⟨Nat.le_refl _, fun _ _ => _root_.rfl, fun _ _ => _root_.rfl, fun _ _ => _root_.rfl, fun a h1 h2 _ _ => h.1 a h1 h2, fun a ha => h.2 a ha, fun _ _ => _root_.rfl⟩
/-- the room that the cells of the pieces take -/
def szQ (S : sS) (Q : sP) (q : Nat) : Nat := match Q 99 q with | none => 0 | some c => (S c).2
def rkN (n : Nat) : Nat := if n = 0 then 0 else if n ≤ 60 then 1 else if n ≤ 300 then 2 else if n ≤ 2460 then 3 else 4
def toN (n : Nat) : Nat := if n = 0 then 0 else if n ≤ 60 then 60 else if n ≤ 300 then 360 else if n ≤ 2460 then 2820 else 15120
def Room2 (S : sS) (Q : sP) (t sl k1 k2 : Nat) : Prop := t ≤ k1 + (rkN (szQ S Q 0) + rkN (szQ S Q 1) + rkN (szQ S Q 2) + rkN (szQ S Q 3)) ∧ sl ≤ k2 + (toN (szQ S Q 0) + toN (szQ S Q 1) + toN (szQ S Q 2) + toN (szQ S Q 3))
theorem rk_up {n m : Nat} (h : n = 0 ∨ n = 60 ∨ n = 300 ∨ n = 2460 ∨ n = 12300) (hm : m = 60 ∨ m = 300 ∨ m = 2460 ∨ m = 12300) (hlt : n < m) : rkN n + 1 ≤ rkN m ∧ toN n + m ≤ toN m := by
  unfold rkN toN
  rcases h with rfl | rfl | rfl | rfl | rfl <;> rcases hm with rfl | rfl | rfl | rfl <;> first | omega | decide
theorem szQ_ok {S : sS} {V : sV} {P : sP} {A : sV} {B : sB} {Q : sP} {t : Nat} {al : Nat → Int32} {sh ls q : Nat} (h : BarI S V P A B Q t al sh ls) (hq : q < 4) : szQ S Q q = 0 ∨ szQ S Q q = 60 ∨ szQ S Q q = 300 ∨ szQ S Q q = 2460 ∨ szQ S Q q = 12300 := by
  unfold szQ
  cases e : Q 99 q with
  | none => exact Or.inl rfl
  | some c =>
    obtain ⟨-, n, g2, g3, -⟩ := (h.2.2.2.2.2.2.1 q hq).1 c e
    show (S c).2 = 0 ∨ (S c).2 = 60 ∨ (S c).2 = 300 ∨ (S c).2 = 2460 ∨ (S c).2 = 12300
    rw [g2]
    exact Or.inr g3
theorem Room2.alloc {S : sS} {V : sV} {P : sP} {A : sV} {B : sB} {Q : sP} {t sl : Nat} {al : Nat → Int32} {sh ls q : Nat} (h : BarI S V P A B Q t al sh ls) (hq : q < 4) {m : Nat} (hm : m = 60 ∨ m = 300 ∨ m = 2460 ∨ m = 12300) (hlt : szQ S Q q < m) {k1 k2 : Nat} (hr : Room2 S Q t sl k1 k2) : Room2 (pm_up S t (22, m)) (up2 Q 99 q (some t)) (t + 1) (sl + m) k1 k2 := by
  have e : ∀ q', q' < 4 → szQ (pm_up S t (22, m)) (up2 Q 99 q (some t)) q' = if q' = q then m else szQ S Q q' := by
    intro q' hq'
    unfold szQ
    by_cases eq : q' = q
    · subst eq
      rw [up2_eq, if_pos rfl]
      show (pm_up S t (22, m) t).2 = m
      rw [pm_up_eq]
    · rw [up2_nk eq, if_neg eq]
      cases e : Q 99 q' with
      | none => rfl
      | some c =>
        obtain ⟨g1, -⟩ := (h.2.2.2.2.2.2.1 q' hq').1 c e
        show (pm_up S t (22, m) c).2 = (S c).2
        rw [pm_up_ne (by omega)]
  have hu := rk_up (szQ_ok h hq) hm hlt
  unfold Room2 at hr ⊢
  rw [e 0 (by omega), e 1 (by omega), e 2 (by omega), e 3 (by omega)]
  rcases (show q = 0 ∨ q = 1 ∨ q = 2 ∨ q = 3 by omega) with rfl | rfl | rfl | rfl
  · simp only [if_true, show ¬ (1 : Nat) = 0 from by decide, show ¬ (2 : Nat) = 0 from by decide, show ¬ (3 : Nat) = 0 from by decide, if_false]
    omega
  · simp only [if_true, show ¬ (0 : Nat) = 1 from by decide, show ¬ (2 : Nat) = 1 from by decide, show ¬ (3 : Nat) = 1 from by decide, if_false]
    omega
  · simp only [if_true, show ¬ (0 : Nat) = 2 from by decide, show ¬ (1 : Nat) = 2 from by decide, show ¬ (3 : Nat) = 2 from by decide, if_false]
    omega
  · simp only [if_true, show ¬ (0 : Nat) = 3 from by decide, show ¬ (1 : Nat) = 3 from by decide, show ¬ (2 : Nat) = 3 from by decide, if_false]
    omega
theorem CF.up {S : sS} {P : sP} (h : CF S P) {a k : Nat} {x : Option Nat} (hn : ∀ q ∈ cfR, q.1 = a → q.2.1 ≠ k) : CF S (up2 P a k x) := by
  refine ⟨h.1, fun q hq => ?_⟩
  by_cases e : q.1 = a
  · rw [e, up2_nk (hn q hq e), ← e]
    exact h.2 q hq
  · rw [up2_na e]
    exact h.2 q hq
theorem CF.push {S : sS} {P : sP} (h : CF S P) {a : Nat} {x : Nat × Nat} (ha : 161 ≤ a) : CF (pm_up S a x) P := by
  refine ⟨fun q hq => ?_, h.2⟩
  have : ∀ q ∈ cfL, q.1 < 161 := by decide
  rw [pm_up_ne (by have := this q hq; omega)]
  exact h.1 q hq
theorem SH.push {S : sS} {P : sP} {b : Nat} (h : SH S P b) {a : Nat} {x : Nat × Nat} (ha : b + 8 < a) : SH (pm_up S a x) P b := by
  refine ⟨fun q hq => ?_, h.2⟩
  have : ∀ q ∈ shL, q.1 < 9 := by decide
  rw [pm_up_ne (by have := this q hq; omega)]
  exact h.1 q hq
theorem SH.up {S : sS} {P P' : sP} {b : Nat} (h : SH S P b) (hP : ∀ x, b ≤ x → x < b + 9 → P' x = P x) : SH S P' b := by
  refine ⟨h.1, fun q hq => ?_⟩
  have : ∀ q ∈ shR, q.1 < 9 := by decide
  rw [hP _ (by omega) (by have := this q hq; omega)]
  exact h.2 q hq
theorem hi_0 : hi32 0 = 0 := by decide
/-- behind taking up: the same key -/
theorem KA.same {S : sS} {V : sV} {P : sP} {A : sV} {B : sB} {Q : sP} {t : Nat} {al : Nat → Int32} {sh ls p tm q c : Nat} (h : KA S V P A B Q t al sh ls) (hls : ls < 2000000000) (hp : p < 5) (ht : tm < 10) (hq : q < 4) (hiq : isQ al (nI q).toInt = true) (hc : Q 99 q = some c) (hk : A 100 q = keyOf al p tm) : KB S (up2 (up2 (up2 V 96 6 (nI q)) 96 0 (al (10 + q))) 96 14 (A 101 q)) (up2 P 96 13 (some c)) (pm_up A 97 (pm_up (pm_up (pm_up (A 97) 0 (nI p)) 1 (nI tm)) 2 (nI q))) B Q t al sh ls p tm q := by
  have hsa := h.sa
  obtain ⟨i1, i2, i3, i4, i5, i6, i7, i8⟩ := h.ba
  obtain ⟨m1, m2⟩ := i7 q hq
  obtain ⟨c', n, st, g1, g2, g3, g4, g5, g6, g7⟩ := m2 (by rw [hk]; exact keyOf_n hp ht)
  have ec : c' = c := Option.some.inj (g1.symm.trans hc)
  subst ec
  have vv : ∀ k, k ≠ 0 → k ≠ 6 → k ≠ 14 → up2 (up2 (up2 V 96 6 (nI q)) 96 0 (al (10 + q))) 96 14 (A 101 q) 96 k = V 96 k := fun k a0 a6 a14 => by rw [up2_nk a14, up2_nk a0, up2_nk a6]
  have va : ∀ x, x ≠ 96 → up2 (up2 (up2 V 96 6 (nI q)) 96 0 (al (10 + q))) 96 14 (A 101 q) x = V x := fun x hx => by rw [up2_na hx, up2_na hx, up2_na hx]
  refine ⟨h.cf.up (by decide), h.hsh.up (fun x a1 a2 => up2_na (by omega)), hsa, h.dv, h.se.fr (fun x a1 a2 => va x (by omega)) (fun x a1 a2 => pm_up_ne (by omega)), hls, ⟨by rw [up2_nk (by decide)]; exact i1, by rw [vv 1 (by decide) (by decide) (by decide)]; exact i2, by rw [vv 3 (by decide) (by decide) (by decide)]; exact i3, by rw [vv 4 (by decide) (by decide) (by decide)]; exact i4, by rw [vv 5 (by decide) (by decide) (by decide)]; exact i5, by rw [vv 12 (by decide) (by decide) (by decide)]; exact i6, fun q' hq' => ?_, i8⟩, ?_, ⟨hp, ht, hq⟩, hiq⟩
  · unfold BMem
    rw [pm_up_ne (show 100 ≠ 97 by decide), pm_up_ne (show 101 ≠ 97 by decide)]
    exact i7 q' hq'
  · refine ⟨c', n, st, up2_eq, hc, g2, g3, by rw [up2_eq]; exact g4, by rw [pm_up_ne (by decide)]; exact g4, by rw [pm_up_ne (by decide)]; exact hk, ?_, ?_, ?_, ?_, ?_⟩
    · rw [up2_nk (by decide), up2_nk (by decide), up2_eq]
    · rw [up2_nk (by decide), up2_eq]
    · rw [pm_up_eq]; rfl
    · rw [pm_up_eq]; rfl
    · rw [pm_up_eq]; rfl
/-- behind taking up: a new stamp -/
theorem KA.new {S S1 : sS} {V : sV} {P : sP} {A : sV} {B B1 : sB} {Q Q1 : sP} {t t1 : Nat} {al : Nat → Int32} {sh ls p tm q c n : Nat} (h : KA S V P A B Q t al sh ls) (hls : ls + 1 < 2000000000) (hp : p < 5) (ht : tm < 10) (hq : q < 4) (hiq : isQ al (nI q).toInt = true) (hC1 : CF S1 P) (hS1 : SH S1 P sh) (hc : Q1 99 q = some c) (hn : S1 c = (22, n)) (hnn : n = 60 ∨ n = 300 ∨ n = 2460 ∨ n = 12300) (hsz : csz (asks al 7) (asks al 6) ≤ n) (hct : 161 ≤ c ∧ c < t1) (hst : ∀ i, i < n → 0 ≤ (hi32 (B1 c i)).toInt ∧ (hi32 (B1 c i)).toInt ≤ (ls : Int))
    (ho : ∀ q' c', q' < 4 → q' ≠ q → Q1 99 q' = some c' → Q 99 q' = some c' ∧ c' ≠ c ∧ S1 c' = S c' ∧ B1 c' = B c') (hoe : ∀ q' c', q' < 4 → q' ≠ q → Q 99 q' = some c' → Q1 99 q' = some c') (htt : t ≤ t1) : KB S1 (up2 (up2 (up2 (up2 V 96 6 (nI q)) 96 0 (al (10 + q))) 96 12 (nI (ls + 1))) 96 14 (nI (ls + 1))) (up2 P 96 13 (some c)) (up2 (up2 (pm_up A 97 (pm_up (pm_up (pm_up (A 97) 0 (nI p)) 1 (nI tm)) 2 (nI q))) 100 q (keyOf al p tm)) 101 q (nI (ls + 1))) B1 Q1 t1 al sh (ls + 1) p tm q := by
  have hsa := h.sa
  obtain ⟨i1, i2, i3, i4, i5, i6, i7, i8⟩ := h.ba
  generalize hA' : up2 (up2 (pm_up A 97 (pm_up (pm_up (pm_up (A 97) 0 (nI p)) 1 (nI tm)) 2 (nI q))) 100 q (keyOf al p tm)) 101 q (nI (ls + 1)) = A'
  generalize hV' : up2 (up2 (up2 (up2 V 96 6 (nI q)) 96 0 (al (10 + q))) 96 12 (nI (ls + 1))) 96 14 (nI (ls + 1)) = V'
  have aa : ∀ x, x ≠ 97 → x ≠ 100 → x ≠ 101 → A' x = A x := fun x a1 a2 a3 => by rw [← hA', up2_na a3, up2_na a2, pm_up_ne a1]
  have a100 : ∀ k, A' 100 k = if k = q then keyOf al p tm else A 100 k := fun k => by
    rw [← hA', up2_na (by decide), up2_at, pm_up_ne (show 100 ≠ 97 by decide)]
    rfl
  have a101 : ∀ k, A' 101 k = if k = q then nI (ls + 1) else A 101 k := fun k => by
    rw [← hA', up2_at, up2_na (by decide), pm_up_ne (show 101 ≠ 97 by decide)]
    rfl
  have a97 : A' 97 = pm_up (pm_up (pm_up (A 97) 0 (nI p)) 1 (nI tm)) 2 (nI q) := by rw [← hA', up2_na (by decide), up2_na (by decide), pm_up_eq]
  have vv : ∀ k, k ≠ 0 → k ≠ 6 → k ≠ 14 → k ≠ 12 → V' 96 k = V 96 k := fun k a0 a6 a14 a12 => by rw [← hV', up2_nk a14, up2_nk a12, up2_nk a0, up2_nk a6]
  have va : ∀ x, x ≠ 96 → V' x = V x := fun x hx => by rw [← hV', up2_na hx, up2_na hx, up2_na hx, up2_na hx]
  refine ⟨hC1.up (by decide), hS1.up (fun x a1 a2 => up2_na (by omega)), hsa, h.dv, h.se.fr (fun x a1 a2 => va x (by omega)) (fun x a1 a2 => aa x (by omega) (by omega) (by omega)), hls, ⟨by rw [up2_nk (by decide)]; exact i1, by rw [vv 1 (by decide) (by decide) (by decide) (by decide)]; exact i2, by rw [vv 3 (by decide) (by decide) (by decide) (by decide)]; exact i3, by rw [vv 4 (by decide) (by decide) (by decide) (by decide)]; exact i4, by rw [vv 5 (by decide) (by decide) (by decide) (by decide)]; exact i5, by rw [← hV', up2_nk (by decide), up2_eq], fun q' hq' => ?_, fun q1 q2 c' h1 h2 g1 g2 => ?_⟩, ?_, ⟨hp, ht, hq⟩, hiq⟩
  · by_cases e : q' = q
    · subst e
      refine ⟨fun c' hc' => ?_, fun _ => ?_⟩
      · have ec : c' = c := Option.some.inj (hc'.symm.trans hc)
        subst ec
        exact ⟨hct, n, hn, hnn, fun i hi => ⟨(hst i hi).1, by have := (hst i hi).2; omega⟩⟩
      · refine ⟨c, n, ls + 1, hc, hn, hsz, by rw [a101, if_pos rfl], by omega, by omega, fun p' tm' hp' ht' hk' => ?_⟩
        intro b l s w hb hl hs hw hh
        have := hst (cix (asks al 7) (asks al 6) b s l w) (by have := cix_lt (bs := asks al 7) (bl := asks al 6) hb hs hl hw; omega)
        rw [hh, nI_toInt (by omega)] at this
        omega
    · obtain ⟨m1, m2⟩ := i7 q' hq'
      refine ⟨fun c' hc' => ?_, fun hk => ?_⟩
      · obtain ⟨o1, o2, o3, o4⟩ := ho q' c' hq' e hc'
        obtain ⟨g1, n', g2, g3, g4⟩ := m1 c' o1
        exact ⟨⟨g1.1, by omega⟩, n', o3.trans g2, g3, fun i hi => by rw [o4]; exact ⟨(g4 i hi).1, by have := (g4 i hi).2; omega⟩⟩
      · rw [a100, if_neg e] at hk
        obtain ⟨c', n', st, g1, g2, g3, g4, g5, g6, g7⟩ := m2 hk
        have hc1 := hoe q' c' hq' e g1
        obtain ⟨o1, o2, o3, o4⟩ := ho q' c' hq' e hc1
        refine ⟨c', n', st, hc1, o3.trans g2, g3, by rw [a101, if_neg e]; exact g4, g5, by omega, fun p' tm' hp' ht' hk' => ?_⟩
        rw [a100, if_neg e] at hk'
        rw [o4]
        exact g7 p' tm' hp' ht' hk'
  · by_cases e1 : q1 = q
    · by_cases e2 : q2 = q
      · rw [e1, e2]
      · subst e1
        have ec : c' = c := Option.some.inj (g1.symm.trans hc)
        exact absurd ec (ho q2 c' h2 e2 g2).2.1
    · by_cases e2 : q2 = q
      · subst e2
        have ec : c' = c := Option.some.inj (g2.symm.trans hc)
        exact absurd ec (ho q1 c' h1 e1 g1).2.1
      · exact i8 q1 q2 c' h1 h2 (ho q1 c' h1 e1 g1).1 (ho q2 c' h2 e2 g2).1
  · refine ⟨c, n, ls + 1, up2_eq, hc, hn, hsz, by rw [← hV', up2_eq], by rw [a101, if_pos rfl], by rw [a100, if_pos rfl], ?_, ?_, ?_, ?_, ?_⟩
    · rw [← hV', up2_nk (by decide), up2_nk (by decide), up2_nk (by decide), up2_eq]
    · rw [← hV', up2_nk (by decide), up2_nk (by decide), up2_eq]
    · rw [a97]; rfl
    · rw [a97]; rfl
    · rw [a97]; rfl
theorem dI_m2 : (-2 : Int32) = dI 0 := by decide
theorem sI_m20 : (-20 : Int32) = sI 0 := by decide
set_option maxRecDepth 20000 in
theorem k_csz {G : gT} {d : Nat} {S : sS} {V : sV} {P : sP} {A : sV} {B : sB} {Q : sP} {t sl : Nat} (hC : CF S P) {bs bl : Bool} (h3 : V 96 3 = bI bs) (h1 : V 96 1 = bI bl) : WQ G d mX0_cellOf 0 [some (.ref 96), some (.int 12), some (.int (-20)), some (.int (-2)), some (.int (-2)), none] [] (t, sl, gh S V P A B Q) (fun r h' => r = some (.int (nI (csz bs bl))) ∧ h' = (t, sl, gh S V P A B Q)) := by
  rw [dI_m2, sI_m20]
  exact k_cellOf hC h3 h1 12 0 0 0
set_option maxRecDepth 20000 in
theorem k_barsAsk {G : gT} {d : Nat} {S : sS} {V : sV} {P : sP} {A : sV} {B : sB} {Q : sP} {t sl : Nat} (hC : CF S P) {u : Nat} (hU : SH S P u) (h2 : P 96 2 = some u) {al : Nat → Int32} (hE : ShE V A u al) {w : Nat} (hw : w < 8) : WQ G (d + 1) mX0_asksFor 0 [some (.ref 96), some (.int (nI w))] [] (t, sl, gh S V P A B Q) (fun r h' => r = some (.int (bI (asks al w))) ∧ h' = (t, sl, gh S V P A B Q)) := by
  refine WQ.st (fun _ _ kz => pw_aload0 dX0_asksFor_0 kz) ?_
  refine WQ.st (fun _ _ kz => pw_getr gX0_63 dX0_asksFor_1 (cf_s96 hC) h2 kz) ?_
  refine WQ.st (fun _ _ kz => pw_getr gX0_77 dX0_asksFor_4 (sh_s0 hU) (sh_p0_4 hU) kz) ?_
  refine WQ.st (fun _ _ kz => pw_iload1 dX0_asksFor_7 kz) ?_
  refine wq_o1i wX4_asksFor lX0_83 rfl dX0_asksFor_8 (sh_s5 hU) (k_asksFor hU.glad _) rfl (Nat.le_of_ble_eq_true rfl) (Nat.le_of_ble_eq_true rfl) (fun h8 z8 => ?_)
  subst z8
  refine WQ.bn (fun _ _ ka kb => pw_if_ne (tgt := 28) dX0_asksFor_11 (by decide) ka kb) (fun c11 => ?_) (fun c11 => ?_)
  · rw [bI_n] at c11
    rw [hE.gl.2.2.2 w hw] at c11
    refine WQ.st (fun _ _ kz => pw_iconst (v := 1) dX0_asksFor_28 (by decide) kz) ?_
    refine WQ.st (fun _ _ kz => pw_goto (tgt := 33) dX0_asksFor_29 (by decide) kz) ?_
    refine ⟨_, _, pw_iret dX0_asksFor_33 rfl rfl rfl rfl, ?_⟩
    exact ⟨by unfold asks; rw [c11]; rfl, rfl⟩
  · rw [bI_0] at c11
    rw [hE.gl.2.2.2 w hw] at c11
    refine WQ.st (fun _ _ kz => pw_aload0 dX0_asksFor_14 kz) ?_
    refine WQ.st (fun _ _ kz => pw_getr gX0_63 dX0_asksFor_15 (cf_s96 hC) h2 kz) ?_
    refine WQ.st (fun _ _ kz => pw_getr gX0_84 dX0_asksFor_18 (sh_s0 hU) (sh_p0_5 hU) kz) ?_
    refine WQ.st (fun _ _ kz => pw_iload1 dX0_asksFor_21 kz) ?_
    refine wq_o1i wX4_asksFor lX0_83 rfl dX0_asksFor_22 (sh_s7 hU) (k_asksFor hU.may _) rfl (Nat.le_of_ble_eq_true rfl) (Nat.le_of_ble_eq_true rfl) (fun h22 z22 => ?_)
    subst z22
    refine WQ.br (fun _ _ ka kb => pw_if_eq (tgt := 32) dX0_asksFor_25 (by decide) ka kb) (fun c25 => ?_) (fun c25 => ?_)
    · rw [bI_0] at c25
      rw [hE.ml.2.2.2 w hw] at c25
      refine WQ.st (fun _ _ kz => pw_iconst (v := 0) dX0_asksFor_32 (by decide) kz) ?_
      refine ⟨_, _, pw_iret dX0_asksFor_33 rfl rfl rfl rfl, ?_⟩
      exact ⟨by unfold asks; rw [c11, c25]; rfl, rfl⟩
    · rw [bI_n] at c25
      rw [hE.ml.2.2.2 w hw] at c25
      refine WQ.st (fun _ _ kz => pw_iconst (v := 1) dX0_asksFor_28 (by decide) kz) ?_
      refine WQ.st (fun _ _ kz => pw_goto (tgt := 33) dX0_asksFor_29 (by decide) kz) ?_
      refine ⟨_, _, pw_iret dX0_asksFor_33 rfl rfl rfl rfl, ?_⟩
      exact ⟨by unfold asks; rw [c11, c25]; rfl, rfl⟩
