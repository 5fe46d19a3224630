/-! ===== the class: lending, tempers, Fridays ===== -/
theorem su_t {x z : Int32} (h : -2147483648 ≤ x.toInt - z.toInt) (h2 : x.toInt - z.toInt < 2147483648) : (x - z).toInt = x.toInt - z.toInt := by
  rw [Int32.toInt_sub]
  exact Int.bmod_eq_of_le (by show -(4294967296 / 2 : Int) ≤ _; omega) (by show _ < (4294967296 + 1 : Int) / 2; omega)
theorem ad_t {x z : Int32} (h : -2147483648 ≤ x.toInt + z.toInt) (h2 : x.toInt + z.toInt < 2147483648) : (x + z).toInt = x.toInt + z.toInt := by
  rw [Int32.toInt_add]
  exact Int.bmod_eq_of_le (by show -(4294967296 / 2 : Int) ≤ _; omega) (by show _ < (4294967296 + 1 : Int) / 2; omega)
theorem DE.upd {S : sS} {V : sV} {P : sP} {A : sV} {B : sB} {Q : sP} {t : Nat} {al al' : Nat → Int32} {sh ls a : Nat} {V' A' : sV} (h : DE S V P A B Q t al sh ls a) (hV : ∀ x, x ≠ a → x ≠ 137 → V' x = V x) (hA : ∀ x, (x < a + 1 ∨ a + 3 < x) → A' x = A x) (ho : ∀ i, i < 75 ∨ 92 ≤ i → al' i = al i) (hk : KV (al 2).toInt (fun k => al' (75 + k))) (hs : StE V' A' a (fun k => al' (75 + k))) : DE S V' P A' B Q t al' sh ls a ∧ FrD a S V P A B Q t S V' P A' B Q t := by
  have ha := h.a2
  have hf : FrK V A B V' A' B := ⟨fun x hx => hV x (by omega) (by omega), fun x hx => hA x (by omega), fun _ _ => rfl⟩
  exact ⟨⟨(h.dc.fr hf (hA 109 (by omega))).cong (fun i hi => ho i (by omega)), by rw [ho 2 (by omega)]; exact hk, hs, ha⟩, FrD.va (fun x hx => hV x (by omega) (by omega)) (fun x hx => hA x (by omega))⟩
theorem up_st {A : sV} {a n : Nat} {al : Nat → Int32} (h : ∀ i, i < 5 → A a i = al (n + i)) (p : Nat) (v : Int32) : ∀ i, i < 5 → up2 A a p v a i = pm_up al (n + p) v (n + i) := by
  intro i hi
  rw [up2_at]
  unfold pm_up
  by_cases e : i = p
  · rw [if_pos e, if_pos (by omega)]
  · rw [if_neg e, if_neg (by omega)]
    exact h i hi
theorem StE.lend {V A : sV} {a : Nat} {al : Nat → Int32} (h : StE V A a (fun k => al (75 + k))) {p q : Nat} (hp : p < 5) (hq : q < 5) (z : Int32) : StE V (up2 (up2 A (a + 1) p (A (a + 1) p - z)) (a + 1) q (up2 A (a + 1) p (A (a + 1) p - z) (a + 1) q + z)) a (fun k => sp_lend al p q z (75 + k)) := by
  have h0 : ∀ i, i < 5 → A (a + 1) i = al (77 + i) := fun i hi => h.st hi
  have h1 := up_st h0 p (A (a + 1) p - z)
  have h2 := up_st h1 q (up2 A (a + 1) p (A (a + 1) p - z) (a + 1) q + z)
  have eo : ∀ i, i < 77 ∨ 82 ≤ i → sp_lend al p q z i = al i := fun i hi => by unfold sp_lend pm_up; rw [if_neg (by omega), if_neg (by omega)]
  refine ⟨?_, ?_, fun i hi => ?_, fun i hi => ?_, fun i hi => ?_⟩
  · show _ = sp_lend al p q z 75
    rw [eo _ (by omega)]
    exact h.1
  · show _ = sp_lend al p q z 76
    rw [eo _ (by omega)]
    exact h.2.1
  · show _ = sp_lend al p q z (75 + (2 + i))
    rw [h2 i hi, h1 q hq, h0 p hp, show 75 + (2 + i) = 77 + i by omega]
    rfl
  · show _ = sp_lend al p q z (75 + (7 + i))
    rw [eo _ (by omega), up2_na (by omega), up2_na (by omega)]
    exact h.2.2.2.1 i hi
  · show _ = sp_lend al p q z (75 + (12 + i))
    rw [eo _ (by omega), up2_na (by omega), up2_na (by omega)]
    exact h.2.2.2.2 i hi
theorem StE.temp {V A : sV} {a : Nat} {al : Nat → Int32} (h : StE V A a (fun k => al (75 + k))) {p : Nat} (hp : p < 5) (z : Int32) : StE V (up2 A (a + 3) p z) a (fun k => pm_up al (87 + p) z (75 + k)) := by
  have h0 : ∀ i, i < 5 → A (a + 3) i = al (87 + i) := fun i hi => h.tm hi
  have h1 := up_st h0 p z
  refine ⟨?_, ?_, fun i hi => ?_, fun i hi => ?_, fun i hi => ?_⟩
  · show _ = pm_up al (87 + p) z 75
    rw [pm_up_ne (by omega)]
    exact h.1
  · show _ = pm_up al (87 + p) z 76
    rw [pm_up_ne (by omega)]
    exact h.2.1
  · show _ = pm_up al (87 + p) z (75 + (2 + i))
    rw [pm_up_ne (by omega), up2_na (by omega)]
    exact h.2.2.1 i hi
  · show _ = pm_up al (87 + p) z (75 + (7 + i))
    rw [pm_up_ne (by omega), up2_na (by omega)]
    exact h.2.2.2.1 i hi
  · show _ = pm_up al (87 + p) z (75 + (12 + i))
    rw [h1 i hi, show 75 + (12 + i) = 87 + i by omega]
theorem frb_5 {np : Int} {al : Nat → Int32} (h : KV np (fun k => al (75 + k))) : ∀ m n : Nat, n + m = 5 → np ≤ (n : Int) → frb al 5 = frb al n
  | 0, n, e, _ => by rw [show n = 5 by omega]
  | m + 1, n, e, hn => by
    rw [frb_5 h m (n + 1) (by omega) (by omega)]
    have h1 : al (75 + (2 + n)) = 0 := (h.ze n (by omega) hn).1
    show frb al n ||| (if 0 ≤ al (77 + n) then (0 : Int32) else _) = frb al n
    rw [show 77 + n = 75 + (2 + n) by omega, h1, if_pos (Int32.le_refl _)]
    exact Int32.or_zero
