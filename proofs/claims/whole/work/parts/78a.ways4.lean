/-! ===== the class: Ways.settle ===== -/
/-- the last draws that stand apart ahead of a bar -/
def l1N (bl : Bool) (b : Nat) : Nat := if bl && decide (0 < b) then 4 else 2
def LsN (bl : Bool) (b l : Nat) : Prop := 4 - l1N bl b ≤ l ∧ l ≤ l1N bl b
theorem l1_or (bl : Bool) (b : Nat) : l1N bl b = 4 ∨ l1N bl b = 2 := by
  unfold l1N
  split
  · exact Or.inl rfl
  · exact Or.inr rfl
theorem LsN.lt {bl : Bool} {b l : Nat} (h : LsN bl b l) : l < 5 := by
  have := l1_or bl b
  unfold LsN at h
  omega
theorem LsN_lb (bl : Bool) (b w : Nat) (hw : w < 5) : LsN bl (b + 1) (lbN bl w) := by
  unfold LsN l1N lbN
  cases bl
  · show 4 - 2 ≤ 2 ∧ 2 ≤ 2
    omega
  · rw [show (true && decide (0 < b + 1)) = true from by rw [decide_eq_true (by omega)]; rfl]
    show 4 - 4 ≤ w ∧ w ≤ 4
    omega
theorem LsN_0 (bl : Bool) : LsN bl 0 2 := by
  unfold LsN l1N
  cases bl <;> decide
/-- bar b's row of the best is right at a place -/
def SA (A : sV) (T : Nat → Nat → Nat → Nat → Int32) (kp : Nat → Nat → Bool) (n : Nat) (e : Nat → Int32) (b s l : Nat) : Prop := A 110 (b * 205 + (s * 5 + l)) = cv (rf_T T kp n e (n - b) l s) ∧ (b < n → A 111 (b * 205 + (s * 5 + l)) = nd (rf_na (rf_gb T kp (rf_T T kp n e (n - (b + 1))) b l s)))
def SR (A : sV) (T : Nat → Nat → Nat → Nat → Int32) (kp : Nat → Nat → Bool) (n : Nat) (e : Nat → Int32) (bl : Bool) (lo hi r : Nat) : Prop := ∀ b, r ≤ b → b ≤ n → ∀ s l, s < 41 → lo ≤ s + 2 * b → s ≤ hi + 2 * b → LsN bl b l → SA A T kp n e b s l
def SP (A : sV) (T : Nat → Nat → Nat → Nat → Int32) (kp : Nat → Nat → Bool) (n : Nat) (e : Nat → Int32) (bl : Bool) (lo hi b s l : Nat) : Prop := SR A T kp n e bl lo hi (b + 1) ∧ ∀ s' l', s' < 41 → lo ≤ s' + 2 * b → s' ≤ hi + 2 * b → LsN bl b l' → (s' < s ∨ (s' = s ∧ l' < l)) → SA A T kp n e b s' l'
def FrS2 (A : sV) (B : sB) (A' : sV) (B' : sB) : Prop := (∀ x, x ≠ 97 → x ≠ 98 → x ≠ 110 → x ≠ 111 → A' x = A x) ∧ ∀ x, x < 161 → B' x = B x
theorem FrS2.rfl {A : sV} {B : sB} : FrS2 A B A B := ⟨fun _ _ _ _ _ => _root_.rfl, fun _ _ => _root_.rfl⟩
theorem FrS2.tr {A A1 A2 : sV} {B B1 B2 : sB} (h : FrS2 A B A1 B1) (g : FrS2 A1 B1 A2 B2) : FrS2 A B A2 B2 := ⟨fun x h1 h2 h3 h4 => (g.1 x h1 h2 h3 h4).trans (h.1 x h1 h2 h3 h4), fun x hx => (g.2 x hx).trans (h.2 x hx)⟩
theorem FrS2.w {V A : sV} {B : sB} {A' : sV} {B' : sB} (h : FrS2 A B A' B') : FrW V A B V A' B' := ⟨fun _ _ => _root_.rfl, fun x h1 h2 h3 => h.1 x h1 h2 (by omega) (by omega), fun x h1 _ _ => h.2 x h1⟩
theorem SP.put {A A' : sV} {T : Nat → Nat → Nat → Nat → Int32} {kp : Nat → Nat → Bool} {n : Nat} {e : Nat → Int32} {bl : Bool} {lo hi b s l : Nat} (h : SP A T kp n e bl lo hi b s l) (hb : b < n) (hs : s < 41) (hl : l < 5) (h0 : A' 110 = pm_up (A 110) (b * 205 + (s * 5 + l)) (cv (rf_mx (rf_gb T kp (rf_T T kp n e (n - (b + 1))) b l s)))) (h1 : A' 111 = pm_up (A 111) (b * 205 + (s * 5 + l)) (nd (rf_na (rf_gb T kp (rf_T T kp n e (n - (b + 1))) b l s)))) : SP A' T kp n e bl lo hi b s (l + 1) := by
  have hr : rf_T T kp n e (n - b) l s = rf_mx (rf_gb T kp (rf_T T kp n e (n - (b + 1))) b l s) := by
    rw [show n - b = (n - (b + 1)) + 1 by omega, rf_T, show n - (n - (b + 1) + 1) = b by omega]
  have key : ∀ b' s' l', s' < 41 → l' < 5 → (b' ≠ b ∨ s' ≠ s ∨ l' ≠ l) → SA A T kp n e b' s' l' → SA A' T kp n e b' s' l' := by
    intro b' s' l' hs' hl' hne hA
    unfold SA
    rw [h0, h1, pm_up_ne (by omega), pm_up_ne (by omega)]
    exact hA
  refine ⟨fun b' h1' h2' s' l' a1 a2 a3 a4 => key b' s' l' a1 a4.lt (by omega) (h.1 b' h1' h2' s' l' a1 a2 a3 a4), fun s' l' a1 a2 a3 a4 a5 => ?_⟩
  by_cases g : s' = s ∧ l' = l
  · obtain ⟨rfl, rfl⟩ := g
    refine ⟨?_, fun _ => ?_⟩
    · rw [h0, pm_up_eq, hr]
    · rw [h1, pm_up_eq]
  · exact key b s' l' a1 a4.lt (by omega) (h.2 s' l' a1 a2 a3 a4 (by omega))
theorem rf_e_bnd (goal : Int32) (s : Nat) : bnd 0 (rf_e goal s) := by
  unfold rf_e
  split
  · exact Or.inl rfl
  · exact Or.inr (by decide)
theorem SR.need {al : Nat → Int32} (hD : DV al) {p tm q : Nat} (hp : p < 5) (ht : tm < 10) (hq : q < 4) {n : Nat} (hn : n ≤ 12) {A : sV} {kp : Nat → Nat → Bool} {e : Nat → Int32} (he : ∀ s, s < 41 → bnd 0 (e s)) {lo hi b s l : Nat} (h : SR A (TT (atm al p tm) p q) kp n e (asks al 6) lo hi (b + 1)) (hb : b < n) (hl : l < 5) (hs : s < 41) (hlo : lo ≤ s + 2 * b) (hhi : s ≤ hi + 2 * b) : ∀ w, w < 5 → (TT (atm al p tm) p q) b l s w ≠ -268435456 → bnd n (rf_T (TT (atm al p tm) p q) kp n e (n - (b + 1)) w (s + 2 - w)) ∧ A 110 ((b + 1) * 205 + ((s + 2 - w) * 5 + (lbN (asks al 6) w))) = cv (rf_T (TT (atm al p tm) p q) kp n e (n - (b + 1)) w (s + 2 - w)) := by
  intro w hw hne
  have hin := TT_in hne
  unfold rf_in at hin
  have hin := of_decide_eq_true hin
  refine ⟨(rf_T_bnd hn (fun b l s w hb hl hs hw => bnd_sml (TT_ok hD hp ht hq (by omega) hl hs hw)) (fun b l s w _ _ _ _ h => TT_in h) he _ (by omega) w _ hw (by omega)).up (by omega), ?_⟩
  rw [(h (b + 1) (Nat.le_refl _) (by omega) (s + 2 - w) (lbN (asks al 6) w) (by omega) (by omega) (by omega) (LsN_lb _ b w hw)).1]
  cases h6 : asks al 6 with
  | true => rfl
  | false =>
    show cv (rf_T (TT (atm al p tm) p q) kp n e (n - (b + 1)) 2 (s + 2 - w)) = _
    rw [rf_T_l2 (T := (TT (atm al p tm) p q)) (n := n) (fun b l s w hb hl hs hw => TT_l2 hD hp ht hq h6 (by omega) hl hs hw) _ (by omega) w _ hw (by omega)]
