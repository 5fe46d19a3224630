set_option maxRecDepth 20000 in
theorem l_settle2 {G : gT} {d : Nat} {S : sS} {V : sV} {P : sP} {Q : sP} {t sl : Nat} {al : Nat → Int32} {sh ls p tm q : Nat} {A0 : sV} {B0 : sB} {lo hi am : Nat} {goal : Int32} (ham : S am = (20, 12)) (ham2 : am = 69 ∨ am = 109) {b : Nat} (hb : b < (lgN al q)) (hlh : lo ≤ hi) (hlo40 : lo ≤ 40) (hhi40 : hi ≤ 40) (hn12 : (lgN al q) ≤ 12) (kf : ∀ (A : sV) (B : sB) (x11 : Option Value), KB S V P A B Q t al sh ls p tm q → SR A (TT (atm al p tm) p q) (kpM (A0 am)) (lgN al q) (rf_e goal) (asks al 6) lo hi b → FrS2 A0 B0 A B → WQ G (d + 4) mX10_settle 158 [some (.ref 107), some (.int (sI lo)), some (.int (sI hi)), some (.int goal), some (.ref am), some (.int (nI (lgN al q))), some (.int (nI b)), some (.int (dI (l1N (asks al 6) b))), some (.int (sI (lo - 2 * b))), some (.int (sI (min (hi + 2 * b) 40))), some (.int (sI ((min (hi + 2 * b) 40) + 1))), x11] [] (t, sl, gh S V P A B Q) (fun r h' => r = none ∧ ∃ (A' : sV) (B' : sB), h' = (t, sl, gh S V P A' B' Q) ∧ KB S V P A' B' Q t al sh ls p tm q ∧ SR A' (TT (atm al p tm) p q) (kpM (A0 am)) (lgN al q) (rf_e goal) (asks al 6) lo hi 0 ∧ FrS2 A0 B0 A' B')) : ∀ (m s : Nat) (A : sV) (B : sB) (x11 : Option Value), s + m = (min (hi + 2 * b) 40) + 1 → lo - 2 * b ≤ s → KB S V P A B Q t al sh ls p tm q → SP A (TT (atm al p tm) p q) (kpM (A0 am)) (lgN al q) (rf_e goal) (asks al 6) lo hi b s 0 → FrS2 A0 B0 A B → WQ G (d + 4) mX10_settle 112 [some (.ref 107), some (.int (sI lo)), some (.int (sI hi)), some (.int goal), some (.ref am), some (.int (nI (lgN al q))), some (.int (nI b)), some (.int (dI (l1N (asks al 6) b))), some (.int (sI (lo - 2 * b))), some (.int (sI (min (hi + 2 * b) 40))), some (.int (sI s)), x11] [] (t, sl, gh S V P A B Q) (fun r h' => r = none ∧ ∃ (A' : sV) (B' : sB), h' = (t, sl, gh S V P A' B' Q) ∧ KB S V P A' B' Q t al sh ls p tm q ∧ SR A' (TT (atm al p tm) p q) (kpM (A0 am)) (lgN al q) (rf_e goal) (asks al 6) lo hi 0 ∧ FrS2 A0 B0 A' B') := by
  have hl1 := l1_or (asks al 6) b
  intro m
  induction m with
  | zero =>
    intro s A B x11 hs hs0 hK hP hF
    have hs : s = (min (hi + 2 * b) 40) + 1 := hs
    subst hs
    refine WQ.st (fun _ _ kz => pw_iload10 dX10_settle_112 kz) ?_
    refine WQ.st (fun _ _ kz => pw_iload9 dX10_settle_114 kz) ?_
    refine WQ.br (fun _ _ ka kb => pw_icmp_gt (tgt := 158) dX10_settle_116 (by decide) ka kb) (fun c116 => ?_) (fun c116 => absurd (by rw [lt_i (sI_t (s := (min (hi + 2 * b) 40)) (by omega)) (sI_t (s := (min (hi + 2 * b) 40) + 1) (by omega))]; omega) c116)
    exact kf A B x11 hK (fun b' h1 h2 s' l' a1 a2 a3 a4 => by
      by_cases g : b' = b
      · subst g
        exact hP.2 s' l' a1 a2 a3 a4 (by omega)
      · exact hP.1 b' (by omega) h2 s' l' a1 a2 a3 a4) hF
  | succ m ih =>
    intro s A B x11 hs hs0 hK hP hF
    refine WQ.st (fun _ _ kz => pw_iload10 dX10_settle_112 kz) ?_
    refine WQ.st (fun _ _ kz => pw_iload9 dX10_settle_114 kz) ?_
    refine WQ.br (fun _ _ ka kb => pw_icmp_gt (tgt := 158) dX10_settle_116 (by decide) ka kb) (fun c116 => absurd c116 (by rw [lt_i (sI_t (s := (min (hi + 2 * b) 40)) (by omega)) (sI_t (s := s) (by omega))]; omega)) (fun c116 => ?_)
    refine WQ.st (fun _ _ kz => pw_iload7 dX10_settle_119 kz) ?_
    refine WQ.st (fun _ _ kz => pw_ineg dX10_settle_121 kz) ?_
    rw [show -dI (l1N (asks al 6) b) = dI (4 - (l1N (asks al 6) b)) from by rcases hl1 with h | h <;> rw [h] <;> decide]
    refine WQ.st (fun _ _ kz => pw_istore11 dX10_settle_122 (by decide) (k := kz)) ?_
    refine l_settle1 (A0 := A0) (B0 := B0) ham ham2 hb (by omega) (by omega) (by omega) (fun A1 B1 hK1 hP1 hF1 => ?_) ((l1N (asks al 6) b) + 1 - (4 - (l1N (asks al 6) b))) (4 - (l1N (asks al 6) b)) A B (by omega) (Nat.le_refl _) hK ⟨hP.1, fun s' l' a1 a2 a3 a4 a5 => hP.2 s' l' a1 a2 a3 a4 (by have := a4.1; omega)⟩ hF
    refine WQ.st (fun _ _ kz => pw_iinc10 (v := 1) dX10_settle_152 (by decide) (by decide) (k := kz)) ?_
    refine WQ.st (fun _ _ kz => pw_goto (tgt := 112) dX10_settle_155 (by decide) kz) ?_
    rw [sI_1]
    exact ih (s + 1) A1 B1 _ (by omega) (by omega) hK1 ⟨hP1.1, fun s' l' a1 a2 a3 a4 a5 => hP1.2 s' l' a1 a2 a3 a4 (by have := a4.2; omega)⟩ hF1
