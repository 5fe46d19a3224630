set_option maxRecDepth 20000 in
theorem l_spread4 {G : gT} {d : Nat} {S : sS} {V : sV} {Q : sP} {t sl : Nat} {al : Nat → Int32} {sh ls p tm q : Nat} {P0 : sP} {A0 : sV} {B0 : sB} {fr to K : Nat} {F : Nat → Int32} (sto : S to = (20, 41)) (hto : to = 70 ∨ (118 ≤ to ∧ to ≤ 134)) (hK60 : K ≤ 60) (hFb : ∀ s, s < 41 → bnd K (F s)) : ∀ (m b : Nat) (P : sP) (A : sV) (B : sB) (hh hb : Nat), b + m = (lgN al q) → KB S V P A B Q t al sh ls p tm q → P 107 7 = some hh → P 107 8 = some hb → ((hh = 112 ∧ hb = 113) ∨ (hh = 113 ∧ hb = 112)) → (∀ j, j < 205 → A hh j = cv (spI (TT (atm al p tm) p q) (asks al 6) F b j)) → (∀ x, x ≠ 107 → P x = P0 x) → (∀ k, k ≠ 7 → k ≠ 8 → P 107 k = P0 107 k) → (∀ x, x ≠ 97 → x ≠ 98 → x ≠ to → (x < 108 ∨ 113 < x ∨ x = 109) → A x = A0 x) → (∀ x, x < 161 → x ≠ 114 → x ≠ 115 → B x = B0 x) → WQ G (d + 4) mX10_spread 47 [some (.ref 107), some (.ref fr), some (.ref to), some (.int (nI b))] [] (t, sl, gh S V P A B Q) (fun r h' => r = none ∧ ∃ (P' : sP) (A' : sV) (B' : sB), h' = (t, sl, gh S V P' A' B' Q) ∧ KB S V P' A' B' Q t al sh ls p tm q ∧ HW P' ∧ (∀ x, x ≠ 107 → P' x = P0 x) ∧ (∀ k, k ≠ 7 → k ≠ 8 → P' 107 k = P0 107 k) ∧ (∀ u, u < 41 → A' to u = cv (spF (TT (atm al p tm) p q) (asks al 6) (lgN al q) F u)) ∧ (∀ x, x ≠ 97 → x ≠ 98 → x ≠ to → (x < 108 ∨ 113 < x ∨ x = 109) → A' x = A0 x) ∧ ∀ x, x < 161 → x ≠ 114 → x ≠ 115 → B' x = B0 x) := by
  intro m
  induction m with
  | zero =>
    intro b P A B hh hb hb0 hK h7 h8 hhb hc0 hP0 hP7 hA hB
    have hn := hK.len
    obtain ⟨hp, ht, hq⟩ := hK.r
    have s7 : S hh = (20, 205) := by rcases hhb with ⟨h, -⟩ | ⟨h, -⟩ <;> subst h <;> first | exact cf_s112 hK.cf | exact cf_s113 hK.cf
    have s8 : S hb = (20, 205) := by rcases hhb with ⟨-, h⟩ | ⟨-, h⟩ <;> subst h <;> first | exact cf_s112 hK.cf | exact cf_s113 hK.cf
    have hb0 : b = (lgN al q) := hb0
    subst hb0
    refine WQ.st (fun _ _ kz => pw_iload3 dX10_spread_47 kz) ?_
    refine WQ.st (fun _ _ kz => pw_aload0 dX10_spread_48 kz) ?_
    refine WQ.st (fun _ _ kz => pw_getr gX10_45 dX10_spread_49 (cf_s107 hK.cf) (cf_p107_4 hK.cf) kz) ?_
    refine WQ.st (fun _ _ kz => pw_geti gX10_55 dX10_spread_52 (cf_s96 hK.cf) kz) ?_
    rw [hn.1]
    refine WQ.br (fun _ _ ka kb => pw_icmp_ge (tgt := 69) dX10_spread_55 (by decide) ka kb) (fun c55 => ?_) (fun c55 => absurd (Int32.le_refl _) c55)
    refine WQ.st (fun _ _ kz => pw_aload2 dX10_spread_69 kz) ?_
    refine WQ.st (fun _ _ kz => pw_ldc kX10_70 dX10_spread_70 kz) ?_
    refine WQ.st (fun _ _ kz => pw_s2v wJ7_fill_53178 lX10_49 dX10_spread_72 (c_filli sto (by omega) _) rfl (Nat.le_of_ble_eq_true rfl) (Nat.le_of_ble_eq_true rfl) kz) ?_
    refine WQ.st (fun _ _ kz => pw_iconst (v := 0) dX10_spread_75 (by decide) kz) ?_
    refine WQ.st (fun _ _ kz => pw_istore3 dX10_spread_76 (by decide) (k := kz)) ?_
    refine (l_spread5 (A0 := pm_up A to (fillF (-2147483648) 41 (A to))) (c := spI (TT (atm al p tm) p q) (asks al 6) F (lgN al q)) (K := K + (lgN al q)) h7 (by omega) s7 sto hto (by omega) (spI_bnd (n := (lgN al q)) (fun b l s w hb hl hs hw => bnd_sml (TT_ok hK.dv hp ht hq (by omega) hl hs hw)) hFb (by omega) (lgN al q) (Nat.le_refl _)) 205 0 _ rfl (hK.fr (FrK.a (a := to) (by omega))) (fun j hj => by rw [pm_up_ne (by omega)]; exact hc0 j hj) (fun u hu => by rw [pm_up_eq, fillF_i hu, show min (0 - u * 5) 5 = 0 by omega]; rfl) (fun _ _ => rfl)).imp (fun r h' z => ?_)
    obtain ⟨rfl, A', rfl, z1, z2, z3⟩ := z
    exact ⟨rfl, P, A', B, rfl, z1, ⟨hh, hb, h7, h8, hhb⟩, hP0, hP7, z2, fun x x1 x2 x3 x4 => by
      rw [z3 x x3, pm_up_ne x3]
      exact hA x x1 x2 x3 x4, hB⟩
  | succ m ih =>
    intro b P A B hh hb hb0 hK h7 h8 hhb hc0 hP0 hP7 hA hB
    have hn := hK.len
    obtain ⟨hp, ht, hq⟩ := hK.r
    have s7 : S hh = (20, 205) := by rcases hhb with ⟨h, -⟩ | ⟨h, -⟩ <;> subst h <;> first | exact cf_s112 hK.cf | exact cf_s113 hK.cf
    have s8 : S hb = (20, 205) := by rcases hhb with ⟨-, h⟩ | ⟨-, h⟩ <;> subst h <;> first | exact cf_s112 hK.cf | exact cf_s113 hK.cf
    refine WQ.st (fun _ _ kz => pw_iload3 dX10_spread_47 kz) ?_
    refine WQ.st (fun _ _ kz => pw_aload0 dX10_spread_48 kz) ?_
    refine WQ.st (fun _ _ kz => pw_getr gX10_45 dX10_spread_49 (cf_s107 hK.cf) (cf_p107_4 hK.cf) kz) ?_
    refine WQ.st (fun _ _ kz => pw_geti gX10_55 dX10_spread_52 (cf_s96 hK.cf) kz) ?_
    rw [hn.1]
    refine WQ.br (fun _ _ ka kb => pw_icmp_ge (tgt := 69) dX10_spread_55 (by decide) ka kb) (fun c55 => absurd c55 (by rw [le_i (ix_n (j := (lgN al q)) (by omega)) (ix_n (j := b) (by omega))]; omega)) (fun c55 => ?_)
    refine WQ.st (fun _ _ kz => pw_aload0 dX10_spread_58 kz) ?_
    refine WQ.st (fun _ _ kz => pw_iload3 dX10_spread_59 kz) ?_
    refine wq_o1v wX10_spreadBar lX10_97 rfl dX10_spread_60 (cf_s107 hK.cf) (k_spreadBar hK (K := K + b) h7 h8 hhb s7 s8 (b := b) (by omega) (by omega) (spI_bnd (n := (lgN al q)) (fun b l s w hb hl hs hw => bnd_sml (TT_ok hK.dv hp ht hq (by omega) hl hs hw)) hFb (by omega) b (by omega)) hc0) rfl (Nat.le_of_ble_eq_true rfl) (Nat.le_of_ble_eq_true rfl) (fun h60 z60 => ?_)
    obtain ⟨A1, B1, rfl, hK1, hB1, hF1⟩ := z60
    refine WQ.st (fun _ _ kz => pw_iinc3 (v := 1) dX10_spread_63 (by decide) (by decide) (k := kz)) ?_
    refine WQ.st (fun _ _ kz => pw_goto (tgt := 47) dX10_spread_66 (by decide) kz) ?_
    rw [nI_1]
    exact ih (b + 1) _ A1 B1 hb hh (by omega) hK1 (by rw [up2_nk (by decide), up2_eq]) up2_eq (by omega) hB1 (fun x hx => by rw [up2_na hx, up2_na hx]; exact hP0 x hx) (fun k x1 x2 => by rw [up2_nk x2, up2_nk x1]; exact hP7 k x1 x2) (fun x x1 x2 x3 x4 => by rw [hF1.2.1 x x1 x2 x4]; exact hA x x1 x2 x3 x4) (fun x x1 x2 x3 => by rw [hF1.2.2 x x1 x2 x3]; exact hB x x1 x2 x3)
