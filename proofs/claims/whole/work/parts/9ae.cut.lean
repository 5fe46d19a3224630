section CUT
variable {x : Nat → Int32} {L : Nat}
theorem skF_no {p : Nat} (h : ¬ (x p = 10 ∨ x p = 32)) : ∀ m, skF x m p = p
  | 0 => rfl
  | m + 1 => by rw [skF, if_neg h]
theorem tkS_no {p : Nat} (h : ¬ (x p = 10 ∨ x p = 32)) : tkS x L p = p := skF_no h _
theorem tkS_bl {p : Nat} (hp : p < L) (h : x p = 10 ∨ x p = 32) : tkS x L p = tkS x L (p + 1) := by
  unfold tkS
  rw [show L - p = (L - (p + 1)) + 1 by omega, skF, if_pos h]
theorem tkS_L : tkS x L L = L := by
  have := tkS_le (x := x) (Nat.le_refl L)
  omega
theorem cut_sm {n p : Nat} (hS : tkS x L (tkP x L n) = p) (hp : p < L) (h : isSmI (x p) = true) : TK x L n = wR x p (runF x isSmI (L - p) p) ∧ tkP x L (n + 1) = runF x isSmI (L - p) p := by
  have e : tkE x L (tkP x L n) = runF x isSmI (L - p) p := by unfold tkE; rw [hS, if_pos hp, if_pos h]
  refine ⟨?_, e⟩
  unfold TK tkK
  rw [hS, if_pos hp, if_pos h, e]
theorem cut_dg {n p : Nat} (hS : tkS x L (tkP x L n) = p) (hp : p < L) (h0 : ¬ isSmI (x p) = true) (h : isDgI (x p) = true) : TK x L n = (if 3 < runF x isDgI (L - p) p - p then 25 else 23) ∧ tkP x L (n + 1) = runF x isDgI (L - p) p ∧ TV x L n = numF x p (if runF x isDgI (L - p) p - p < 3 then runF x isDgI (L - p) p - p else 3) := by
  have e : tkE x L (tkP x L n) = runF x isDgI (L - p) p := by unfold tkE; rw [hS, if_pos hp, if_neg h0, if_pos h]
  refine ⟨?_, e, ?_⟩
  · unfold TK tkK
    rw [hS, if_pos hp, if_neg h0, if_pos h, e]
  · unfold TV tkV
    rw [hS, e]
theorem cut_sg {n p : Nat} (hS : tkS x L (tkP x L n) = p) (hp : p < L) (h0 : ¬ isSmI (x p) = true) (h : ¬ isDgI (x p) = true) : TK x L n = sgF (x p) 12 ∧ tkP x L (n + 1) = p + 1 := by
  have e : tkE x L (tkP x L n) = p + 1 := by unfold tkE; rw [hS, if_pos hp, if_neg h0, if_neg h]
  refine ⟨?_, e⟩
  unfold TK tkK
  rw [hS, if_pos hp, if_neg h0, if_neg h]
theorem nb_sm {c : Int32} (h : isSmI c = true) : ¬ (c = 10 ∨ c = 32) := by
  have := of_decide_eq_true h
  rintro (rfl | rfl)
  · exact absurd this (by decide)
  · exact absurd this (by decide)
theorem nb_dg {c : Int32} (h : isDgI c = true) : ¬ (c = 10 ∨ c = 32) := by
  have := of_decide_eq_true h
  rintro (rfl | rfl)
  · exact absurd this (by decide)
  · exact absurd this (by decide)
end CUT
/-- n tokens are cut -/
def KT (x : Nat → Int32) (L n : Nat) (V A : sV) : Prop := V 10 5 = nI n ∧ ∀ j, j < n → A 11 j = ccK (TK x L j) ∧ A 13 j = nI (TPl x L j) ∧ (TK x L j = 23 → A 12 j = TV x L j)
def FRC (V0 A0 V A : sV) : Prop := (∀ a, a ≠ 10 → V a = V0 a) ∧ (∀ k, k ≠ 5 → V 10 k = V0 10 k) ∧ ∀ a, a ≠ 11 → a ≠ 12 → a ≠ 13 → A a = A0 a
theorem FRC.rfl {V A : sV} : FRC V A V A := ⟨fun _ _ => _root_.rfl, fun _ _ => _root_.rfl, fun _ _ _ _ => _root_.rfl⟩
theorem FRC.tr {V A V1 A1 V2 A2 : sV} (h : FRC V A V1 A1) (g : FRC V1 A1 V2 A2) : FRC V A V2 A2 := ⟨fun a ha => (g.1 a ha).trans (h.1 a ha), fun k hk => (g.2.1 k hk).trans (h.2.1 k hk), fun a h1 h2 h3 => (g.2.2 a h1 h2 h3).trans (h.2.2 a h1 h2 h3)⟩
theorem CTX.fr {x : Nat → Int32} {L : Nat} {V A V' A' : sV} {P : sP} (h : CTX x L V P A) (f : FRC V A V' A') : CTX x L V' P A' := ⟨by rw [f.2.1 8 (by omega)]; exact h.le, h.l9, h.tp, by rw [f.2.2 9 (by omega) (by omega) (by omega)]; exact h.at⟩
set_option maxRecDepth 20000 in
theorem k_addToken {G : gT} {d : Nat} {S : sS} {V : sV} {P : sP} {A : sV} {B : sB} {Q : sP} {t sl : Nat} (hC : CF S P) {n : Nat} (hn : V 10 5 = nI n) (h9 : n < 901) (a b c : Int32) : WQ G d mX6_addToken 0 [some (.ref 10), some (.int a), some (.int b), some (.int c)] [] (t, sl, gh S V P A B Q) (fun r h' => r = none ∧ h' = (t, sl, gh S (up2 V 10 5 (nI (n + 1))) P (up2 (up2 (up2 A 11 n a) 12 n b) 13 n c) B Q)) := by
  refine WQ.st (fun _ _ kz => pw_aload0 dX6_addToken_0 kz) ?_
  refine WQ.st (fun _ _ kz => pw_geti gX6_28 dX6_addToken_1 (cf_s10 hC) kz) ?_
  rw [hn]
  refine WQ.st (fun _ _ kz => pw_aload0 dX6_addToken_4 kz) ?_
  refine WQ.st (fun _ _ kz => pw_getr gX6_18 dX6_addToken_5 (cf_s10 hC) (cf_p10_2 hC) kz) ?_
  refine WQ.st (fun _ _ kz => pw_len dX6_addToken_8 (cf_s11 hC) (by decide) kz) ?_
  refine WQ.br (fun _ _ ka kb => pw_icmp_ge (tgt := 52) dX6_addToken_9 (by decide) ka kb) (fun c9 => absurd c9 (fun q => by have := (le_i (show (nI 901).toInt = 901 from rfl) (ix_n (by omega))).mp q; omega)) (fun c9 => ?_)
  refine WQ.st (fun _ _ kz => pw_aload0 dX6_addToken_12 kz) ?_
  refine WQ.st (fun _ _ kz => pw_getr gX6_18 dX6_addToken_13 (cf_s10 hC) (cf_p10_2 hC) kz) ?_
  refine WQ.st (fun _ _ kz => pw_aload0 dX6_addToken_16 kz) ?_
  refine WQ.st (fun _ _ kz => pw_geti gX6_28 dX6_addToken_17 (cf_s10 hC) kz) ?_
  rw [hn]
  refine WQ.st (fun _ _ kz => pw_iload1 dX6_addToken_20 kz) ?_
  refine WQ.st (fun _ _ kz => pw_ast (j := n) dX6_addToken_21 (cf_s11 hC) (ix_n (by omega)) (by omega)  kz) ?_
  refine WQ.st (fun _ _ kz => pw_aload0 dX6_addToken_22 kz) ?_
  refine WQ.st (fun _ _ kz => pw_getr gX6_22 dX6_addToken_23 (cf_s10 hC) (cf_p10_3 hC) kz) ?_
  refine WQ.st (fun _ _ kz => pw_aload0 dX6_addToken_26 kz) ?_
  refine WQ.st (fun _ _ kz => pw_geti gX6_28 dX6_addToken_27 (cf_s10 hC) kz) ?_
  rw [hn]
  refine WQ.st (fun _ _ kz => pw_iload2 dX6_addToken_30 kz) ?_
  refine WQ.st (fun _ _ kz => pw_ast (j := n) dX6_addToken_31 (cf_s12 hC) (ix_n (by omega)) (by omega)  kz) ?_
  refine WQ.st (fun _ _ kz => pw_aload0 dX6_addToken_32 kz) ?_
  refine WQ.st (fun _ _ kz => pw_getr gX6_25 dX6_addToken_33 (cf_s10 hC) (cf_p10_4 hC) kz) ?_
  refine WQ.st (fun _ _ kz => pw_aload0 dX6_addToken_36 kz) ?_
  refine WQ.st (fun _ _ kz => pw_geti gX6_28 dX6_addToken_37 (cf_s10 hC) kz) ?_
  rw [hn]
  refine WQ.st (fun _ _ kz => pw_iload3 dX6_addToken_40 kz) ?_
  refine WQ.st (fun _ _ kz => pw_ast (j := n) dX6_addToken_41 (cf_s13 hC) (ix_n (by omega)) (by omega)  kz) ?_
  refine WQ.st (fun _ _ kz => pw_aload0 dX6_addToken_42 kz) ?_
  refine WQ.st (fun _ _ kz => pw_dup dX6_addToken_43 rfl kz) ?_
  refine WQ.st (fun _ _ kz => pw_geti gX6_28 dX6_addToken_44 (cf_s10 hC) kz) ?_
  rw [hn]
  refine WQ.st (fun _ _ kz => pw_iconst (v := 1) dX6_addToken_47 (by decide) kz) ?_
  refine WQ.st (fun _ _ kz => pw_iadd dX6_addToken_48 kz) ?_
  rw [nI_1]
  refine WQ.st (fun _ _ kz => pw_puti (pX6_28 _ rfl) dX6_addToken_49 (cf_s10 hC) rfl rfl kz) ?_
  refine ⟨_, _, pw_vret dX6_addToken_52 rfl rfl rfl, ?_⟩
  exact ⟨rfl, rfl⟩
theorem KT.add {x : Nat → Int32} {L n : Nat} {V A : sV} (h : KT x L n V A) {a b c : Int32} (ha : a = ccK (TK x L n)) (hb : TK x L n = 23 → b = TV x L n) (hc : c = nI (TPl x L n)) : KT x L (n + 1) (up2 V 10 5 (nI (n + 1))) (up2 (up2 (up2 A 11 n a) 12 n b) 13 n c) := by
  refine ⟨up2_eq, fun j hj => ?_⟩
  by_cases e : j = n
  · subst e
    exact ⟨by rw [up2_na (by omega), up2_na (by omega), up2_eq]; exact ha, by rw [up2_eq]; exact hc, fun q => by rw [up2_na (by omega), up2_eq]; exact hb q⟩
  · have g := h.2 j (by omega)
    exact ⟨by rw [up2_nk e, up2_nk e, up2_nk e]; exact g.1, by rw [up2_nk e, up2_nk e, up2_nk e]; exact g.2.1, fun q => by rw [up2_nk e, up2_nk e, up2_nk e]; exact g.2.2 q⟩
theorem FRC.add {n : Nat} {V A : sV} {a b c : Int32} {v : Int32} : FRC V A (up2 V 10 5 v) (up2 (up2 (up2 A 11 n a) 12 n b) 13 n c) := ⟨fun a ha => up2_na ha, fun k hk => up2_nk hk, fun a h1 h2 h3 => by rw [up2_na h3, up2_na h2, up2_na h1]⟩
