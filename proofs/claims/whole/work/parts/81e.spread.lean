theorem nI_m20 (k : Nat) : nI k - 20 = sI k := by
  unfold sI
  rw [show (20 : Int32) = iI 20 from rfl, iI_nat, iI_sub]
set_option maxRecDepth 20000 in
theorem l_spread3 {G : gT} {d : Nat} {S : sS} {V : sV} {P : sP} {B : sB} {Q : sP} {t sl : Nat} {al : Nat → Int32} {sh ls p tm q : Nat} {A0 : sV} {hh hb fr to K : Nat} {F : Nat → Int32} (h7 : P 107 7 = some hh) (h8 : P 107 8 = some hb) (hhb : (hh = 112 ∧ hb = 113) ∨ (hh = 113 ∧ hb = 112)) (s7 : S hh = (20, 205)) (sfr : S fr = (20, 41)) (hfr : fr = 70 ∨ (118 ≤ fr ∧ fr ≤ 134)) (sto : S to = (20, 41)) (hto : to = 70 ∨ (118 ≤ to ∧ to ≤ 134)) (hK60 : K ≤ 60) (hFb : ∀ s, s < 41 → bnd K (F s)) (hF0 : ∀ s, s < 41 → A0 fr s = cv (F s)) : ∀ (m k : Nat) (A : sV), k + m = 41 → KB S V P A B Q t al sh ls p tm q → (∀ j, j < 205 → A hh j = cv (if j % 5 = 2 ∧ j / 5 < k then F (j / 5) else -268435456)) → (∀ x, x ≠ hh → A x = A0 x) → WQ G (d + 4) mX10_spread 11 [some (.ref 107), some (.ref fr), some (.ref to), some (.int (nI k))] [] (t, sl, gh S V P A B Q) (fun r h' => r = none ∧ ∃ (P' : sP) (A' : sV) (B' : sB), h' = (t, sl, gh S V P' A' B' Q) ∧ KB S V P' A' B' Q t al sh ls p tm q ∧ HW P' ∧ (∀ x, x ≠ 107 → P' x = P x) ∧ (∀ k, k ≠ 7 → k ≠ 8 → P' 107 k = P 107 k) ∧ (∀ u, u < 41 → A' to u = cv (spF (TT (atm al p tm) p q) (asks al 6) (lgN al q) F u)) ∧ (∀ x, x ≠ 97 → x ≠ 98 → x ≠ to → (x < 108 ∨ 113 < x ∨ x = 109) → A' x = A0 x) ∧ ∀ x, x < 161 → x ≠ 114 → x ≠ 115 → B' x = B x) := by
  intro m
  induction m with
  | zero =>
    intro k A hk hK hV hA
    have hn := hK.len
    have hk : k = 41 := hk
    subst hk
    refine WQ.st (fun _ _ kz => pw_iload3 dX10_spread_11 kz) ?_
    refine WQ.st (fun _ _ kz => pw_bipush (v := 41) dX10_spread_12 (by decide) kz) ?_
    refine WQ.br (fun _ _ ka kb => pw_icmp_ge (tgt := 45) dX10_spread_14 (by decide) ka kb) (fun c14 => ?_) (fun c14 => absurd (by decide) c14)
    refine WQ.st (fun _ _ kz => pw_iconst (v := 0) dX10_spread_45 (by decide) kz) ?_
    refine WQ.st (fun _ _ kz => pw_istore3 dX10_spread_46 (by decide) (k := kz)) ?_
    refine l_spread4 (P0 := P) (A0 := A0) (B0 := B) sto hto hK60 hFb (lgN al q) 0 P A B hh hb (by omega) hK h7 h8 hhb (fun j hj => ?_) (fun _ _ => rfl) (fun _ _ _ => rfl) (fun x x1 x2 _ x4 => hA x (by omega)) (fun _ _ _ _ => rfl)
    rw [hV j hj]
    show cv _ = cv (if j % 5 = 2 then F (j / 5) else -268435456)
    by_cases e : j % 5 = 2
    · rw [if_pos e, if_pos ⟨e, by omega⟩]
    · rw [if_neg e, if_neg (fun q => e q.1)]
  | succ m ih =>
    intro k A hk hK hV hA
    refine WQ.st (fun _ _ kz => pw_iload3 dX10_spread_11 kz) ?_
    refine WQ.st (fun _ _ kz => pw_bipush (v := 41) dX10_spread_12 (by decide) kz) ?_
    refine WQ.br (fun _ _ ka kb => pw_icmp_ge (tgt := 45) dX10_spread_14 (by decide) ka kb) (fun c14 => absurd c14 (by rw [nl_41, le_i (ix_n (j := 41) (by omega)) (ix_n (j := k) (by omega))]; omega)) (fun c14 => ?_)
    refine WQ.st (fun _ _ kz => pw_iload3 dX10_spread_17 kz) ?_
    refine WQ.st (fun _ _ kz => pw_aload1 dX10_spread_18 kz) ?_
    refine WQ.st (fun _ _ kz => pw_len dX10_spread_19 sfr (by decide) kz) ?_
    refine WQ.br (fun _ _ ka kb => pw_icmp_ge (tgt := 45) dX10_spread_20 (by decide) ka kb) (fun c20 => absurd c20 (by rw [show Int32.ofNat 41 = nI 41 from rfl, le_i (ix_n (j := 41) (by omega)) (ix_n (j := k) (by omega))]; omega)) (fun c20 => ?_)
    refine WQ.st (fun _ _ kz => pw_aload0 dX10_spread_23 kz) ?_
    refine WQ.st (fun _ _ kz => pw_getr gX10_32 dX10_spread_24 (cf_s107 hK.cf) h7 kz) ?_
    refine WQ.st (fun _ _ kz => pw_iload3 dX10_spread_27 kz) ?_
    refine WQ.st (fun _ _ kz => pw_bipush (v := 20) dX10_spread_28 (by decide) kz) ?_
    refine WQ.st (fun _ _ kz => pw_isub dX10_spread_30 kz) ?_
    rw [nI_m20]
    refine WQ.st (fun _ _ kz => pw_iconst (v := 0) dX10_spread_31 (by decide) kz) ?_
    refine wq_s2i wX0_placeOf lX10_91 dX10_spread_32 (k_placeOf0 _) rfl (Nat.le_of_ble_eq_true rfl) (Nat.le_of_ble_eq_true rfl) (fun h32 z32 => ?_)
    subst z32
    refine WQ.st (fun _ _ kz => pw_aload1 dX10_spread_35 kz) ?_
    refine WQ.st (fun _ _ kz => pw_iload3 dX10_spread_36 kz) ?_
    refine WQ.st (fun _ _ kz => pw_ald (j := k) dX10_spread_37 sfr (ix_m rfl (by omega)) (by omega) kz) ?_
    rw [hA fr (by omega), hF0 k (by omega)]
    refine WQ.st (fun _ _ kz => pw_ast (j := k * 5 + 2) dX10_spread_38 s7 (ix_n (by omega)) (by omega)  kz) ?_
    refine WQ.st (fun _ _ kz => pw_iinc3 (v := 1) dX10_spread_39 (by decide) (by decide) (k := kz)) ?_
    refine WQ.st (fun _ _ kz => pw_goto (tgt := 11) dX10_spread_42 (by decide) kz) ?_
    rw [nI_1]
    refine ih (k + 1) _ (by omega) (hK.fr (FrK.a (a := hh) (by omega))) (fun j hj => ?_) (fun x hx => by rw [up2_na hx]; exact hA x hx)
    rw [up2_at]
    unfold pm_up
    by_cases e : j = k * 5 + 2
    · rw [if_pos e, if_pos ⟨by omega, by omega⟩, show j / 5 = k by omega]
    · rw [if_neg e, hV j hj]
      by_cases e2 : j % 5 = 2 ∧ j / 5 < k
      · rw [if_pos e2, if_pos ⟨e2.1, by omega⟩]
      · rw [if_neg e2, if_neg (by omega)]
set_option maxRecDepth 20000 in
theorem k_spread {G : gT} {d : Nat} {S : sS} {V : sV} {P : sP} {A : sV} {B : sB} {Q : sP} {t sl : Nat} {al : Nat → Int32} {sh ls p tm q : Nat} (hK : KB S V P A B Q t al sh ls p tm q) (hHW : HW P) {fr to K : Nat} {F : Nat → Int32} (sfr : S fr = (20, 41)) (hfr : fr = 70 ∨ (118 ≤ fr ∧ fr ≤ 134)) (sto : S to = (20, 41)) (hto : to = 70 ∨ (118 ≤ to ∧ to ≤ 134)) (hK60 : K ≤ 60) (hFb : ∀ s, s < 41 → bnd K (F s)) (hF0 : ∀ s, s < 41 → A fr s = cv (F s)) : WQ G (d + 4) mX10_spread 0 [some (.ref 107), some (.ref fr), some (.ref to), none] [] (t, sl, gh S V P A B Q) (fun r h' => r = none ∧ ∃ (P' : sP) (A' : sV) (B' : sB), h' = (t, sl, gh S V P' A' B' Q) ∧ KB S V P' A' B' Q t al sh ls p tm q ∧ HW P' ∧ (∀ x, x ≠ 107 → P' x = P x) ∧ (∀ k, k ≠ 7 → k ≠ 8 → P' 107 k = P 107 k) ∧ (∀ u, u < 41 → A' to u = cv (spF (TT (atm al p tm) p q) (asks al 6) (lgN al q) F u)) ∧ (∀ x, x ≠ 97 → x ≠ 98 → x ≠ to → (x < 108 ∨ 113 < x ∨ x = 109) → A' x = A x) ∧ ∀ x, x < 161 → x ≠ 114 → x ≠ 115 → B' x = B x) := by
  obtain ⟨hh, hb, h7, h8, hhb⟩ := hHW
  have s7 : S hh = (20, 205) := by rcases hhb with ⟨h, -⟩ | ⟨h, -⟩ <;> subst h <;> first | exact cf_s112 hK.cf | exact cf_s113 hK.cf
  refine WQ.st (fun _ _ kz => pw_aload0 dX10_spread_0 kz) ?_
  refine WQ.st (fun _ _ kz => pw_getr gX10_32 dX10_spread_1 (cf_s107 hK.cf) h7 kz) ?_
  refine WQ.st (fun _ _ kz => pw_ldc kX10_70 dX10_spread_4 kz) ?_
  refine WQ.st (fun _ _ kz => pw_s2v wJ7_fill_53178 lX10_49 dX10_spread_6 (c_filli s7 (by omega) _) rfl (Nat.le_of_ble_eq_true rfl) (Nat.le_of_ble_eq_true rfl) kz) ?_
  refine WQ.st (fun _ _ kz => pw_iconst (v := 0) dX10_spread_9 (by decide) kz) ?_
  refine WQ.st (fun _ _ kz => pw_istore3 dX10_spread_10 (by decide) (k := kz)) ?_
  exact l_spread3 (A0 := A) h7 h8 hhb s7 sfr hfr sto hto hK60 hFb hF0 41 0 _ rfl (hK.fr (FrK.a (a := hh) (by omega))) (fun j hj => by rw [pm_up_eq, fillF_i hj, if_neg (fun q => by have := q.2; omega)]; rfl) (fun x hx => pm_up_ne hx)
