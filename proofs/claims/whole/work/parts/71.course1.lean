/-! ===== the class: Course, as it comes ===== -/
def CR (V A : sV) (T : Nat → Nat → Nat → Nat → Int32) (n s0 : Nat) : Prop := V 103 0 = (rf_cm T s0 n).2.1 ∧ V 103 1 = sI (rf_cm T s0 n).1.2 ∧ V 103 2 = (rf_cm T s0 n).2.2 ∧ ∀ b, b < 12 → A 104 b = if b < n then rf_cw T s0 b else 9
def FrC (V A : sV) (B : sB) (V' A' : sV) (B' : sB) : Prop := (∀ x, x ≠ 103 → V' x = V x) ∧ (∀ x, x ≠ 97 → x ≠ 98 → x ≠ 104 → A' x = A x) ∧ ∀ x, x < 161 → x ≠ 105 → x ≠ 106 → B' x = B x
theorem FrC.rfl {V A : sV} {B : sB} : FrC V A B V A B := ⟨fun _ _ => _root_.rfl, fun _ _ _ _ => _root_.rfl, fun _ _ _ _ => _root_.rfl⟩
theorem FrC.tr {V A V1 A1 V2 A2 : sV} {B B1 B2 : sB} (h : FrC V A B V1 A1 B1) (g : FrC V1 A1 B1 V2 A2 B2) : FrC V A B V2 A2 B2 := ⟨fun x h1 => (g.1 x h1).trans (h.1 x h1), fun x h1 h2 h3 => (g.2.1 x h1 h2 h3).trans (h.2.1 x h1 h2 h3), fun x h1 h2 h3 => (g.2.2 x h1 h2 h3).trans (h.2.2 x h1 h2 h3)⟩
theorem FrG.c {V A : sV} {B : sB} {A' : sV} {B' : sB} (h : FrG A B A' B') : FrC V A B V A' B' := ⟨fun _ _ => _root_.rfl, fun x h1 h2 _ => h.1 x h1 h2, fun x h1 _ _ => h.2 x h1⟩
theorem FrC.v {V A : sV} {B : sB} {k : Nat} {x : Int32} : FrC V A B (up2 V 103 k x) A B := ⟨fun y hy => up2_na hy, fun _ _ _ _ => _root_.rfl, fun _ _ _ _ => _root_.rfl⟩
theorem FrC.a {V A : sV} {B : sB} {f : Nat → Int32} : FrC V A B V (pm_up A 104 f) B := ⟨fun _ _ => _root_.rfl, fun y _ _ hy => pm_up_ne hy, fun _ _ _ _ => _root_.rfl⟩
theorem FrC.a2 {V A : sV} {B : sB} {k : Nat} {x : Int32} : FrC V A B V (up2 A 104 k x) B := FrC.a
theorem FrC.b {V A : sV} {B : sB} {a : Nat} {f : Nat → Int64} (h : a = 105 ∨ a = 106) : FrC V A B V A (pm_up B a f) := ⟨fun _ _ => _root_.rfl, fun _ _ _ _ => _root_.rfl, fun y _ h1 h2 => pm_up_ne (by omega)⟩
theorem rf_cm_stay {T : Nat → Nat → Nat → Nat → Int32} {s0 b : Nat} (h : ¬ (rf_cm T s0 b).2.2 = -1) : ∀ m, rf_cm T s0 (b + m) = rf_cm T s0 b
  | 0 => rfl
  | m + 1 => by
    have ih := rf_cm_stay h m
    rw [← Nat.add_assoc, rf_cm_b (by rw [ih]; exact h), ih]
theorem TT_in {al : Nat → Int32} {p q : Nat} {b l s w : Nat} (h : TT al p q b l s w ≠ -268435456) : rf_in s w = true := rf_g_in h
theorem nI_nm1 {b : Nat} (hb : b < 2147483648) : ¬ nI b = -1 := fun q => by
  rw [← Int32.toInt_inj, nI_toInt hb] at q
  have q : (b : Int) = -1 := q
  omega
set_option maxRecDepth 20000 in
theorem l_run {G : gT} {d : Nat} {S : sS} {P : sP} {Q : sP} {t sl : Nat} {al : Nat → Int32} {sh ls p tm q : Nat} {V0 A0 : sV} {B0 : sB} {s0 : Nat} : ∀ (m b l s : Nat) (g : Int32) (V A : sV) (B : sB) (x4 : Option Value), b + m = (lgN al q) → l < 5 → s < 41 → rf_cm (TT (atm al p tm) p q) s0 b = ((l, s), (g, -1)) → V 103 0 = g → V 103 1 = sI s → V 103 2 = -1 → (∀ i, i < 12 → A 104 i = if i < b then rf_cw (TT (atm al p tm) p q) s0 i else 9) → KB S V P A B Q t al sh ls p tm q → FrC V0 A0 B0 V A B → WQ G (d + 4) mX1_run 28 [some (.ref 103), some (.int (sI s0)), some (.int (dI l)), some (.int (nI b)), x4] [] (t, sl, gh S V P A B Q) (fun r h' => r = none ∧ ∃ (V' A' : sV) (B' : sB), h' = (t, sl, gh S V' P A' B' Q) ∧ KB S V' P A' B' Q t al sh ls p tm q ∧ CR V' A' (TT (atm al p tm) p q) (lgN al q) s0 ∧ FrC V0 A0 B0 V' A' B') := by
  intro m
  induction m with
  | zero =>
    intro b l s g V A B x4 hb hl hs hcm h0 h1 h2 hA hK hF
    have hn := hK.len
    have hb : b = (lgN al q) := hb
    subst hb
    refine WQ.st (fun _ _ kz => pw_iload3 dX1_run_28 kz) ?_
    refine WQ.st (fun _ _ kz => pw_aload0 dX1_run_29 kz) ?_
    refine WQ.st (fun _ _ kz => pw_getr gX1_32 dX1_run_30 (cf_s103 hK.cf) (cf_p103_3 hK.cf) kz) ?_
    refine WQ.st (fun _ _ kz => pw_geti gX1_42 dX1_run_33 (cf_s96 hK.cf) kz) ?_
    rw [hn.1]
    refine WQ.br (fun _ _ ka kb => pw_icmp_ge (tgt := 125) dX1_run_36 (by decide) ka kb) (fun c36 => ?_) (fun c36 => absurd (Int32.le_refl _) c36)
    refine ⟨_, _, pw_vret dX1_run_125 rfl rfl rfl, ?_⟩
    exact ⟨rfl, V, A, B, rfl, hK, ⟨by rw [hcm]; exact h0, by rw [hcm]; exact h1, by rw [hcm]; exact h2, hA⟩, hF⟩
  | succ m ih =>
    intro b l s g V A B x4 hb hl hs hcm h0 h1 h2 hA hK hF
    have hn := hK.len
    refine WQ.st (fun _ _ kz => pw_iload3 dX1_run_28 kz) ?_
    refine WQ.st (fun _ _ kz => pw_aload0 dX1_run_29 kz) ?_
    refine WQ.st (fun _ _ kz => pw_getr gX1_32 dX1_run_30 (cf_s103 hK.cf) (cf_p103_3 hK.cf) kz) ?_
    refine WQ.st (fun _ _ kz => pw_geti gX1_42 dX1_run_33 (cf_s96 hK.cf) kz) ?_
    rw [hn.1]
    refine WQ.br (fun _ _ ka kb => pw_icmp_ge (tgt := 125) dX1_run_36 (by decide) ka kb) (fun c36 => absurd c36 (by rw [le_i (ix_n (j := lgN al q) (by omega)) (ix_n (j := b) (by omega))]; omega)) (fun c36 => ?_)
    refine WQ.st (fun _ _ kz => pw_iload3 dX1_run_39 kz) ?_
    refine WQ.st (fun _ _ kz => pw_bipush (v := 12) dX1_run_40 (by decide) kz) ?_
    refine WQ.br (fun _ _ ka kb => pw_icmp_ge (tgt := 125) dX1_run_42 (by decide) ka kb) (fun c42 => absurd c42 (by rw [nl_12, le_i (ix_n (j := 12) (by omega)) (ix_n (j := b) (by omega))]; omega)) (fun c42 => ?_)
    refine WQ.st (fun _ _ kz => pw_aload0 dX1_run_45 kz) ?_
    refine WQ.st (fun _ _ kz => pw_getr gX1_32 dX1_run_46 (cf_s103 hK.cf) (cf_p103_3 hK.cf) kz) ?_
    refine WQ.st (fun _ _ kz => pw_iload3 dX1_run_49 kz) ?_
    refine WQ.st (fun _ _ kz => pw_aload0 dX1_run_50 kz) ?_
    refine WQ.st (fun _ _ kz => pw_geti gX1_15 dX1_run_51 (cf_s103 hK.cf) kz) ?_
    rw [h1]
    refine WQ.st (fun _ _ kz => pw_iload2 dX1_run_54 kz) ?_
    refine wq_o3i wX0_comingDraw lX1_47 rfl dX1_run_55 (cf_s96 hK.cf) (k_comingDraw hK (by omega) hl hs) rfl (Nat.le_of_ble_eq_true rfl) (Nat.le_of_ble_eq_true rfl) (fun h55 z55 => ?_)
    obtain ⟨A1, B1, rfl, hK1, hF1⟩ := z55
    refine WQ.st (fun _ _ kz => pw_istore4 dX1_run_58 (by decide) (k := kz)) ?_
    refine WQ.st (fun _ _ kz => pw_iload4 dX1_run_60 kz) ?_
    refine WQ.st (fun _ _ kz => pw_bipush (v := 9) dX1_run_62 (by decide) kz) ?_
    refine WQ.bn (fun _ _ ka kb => pw_icmp_ne (tgt := 73) dX1_run_64 (by decide) ka kb) (fun c64 => ?_) (fun c64 => ?_)
    · have h9 : ¬ rf_na ((TT (atm al p tm) p q) b l s) = 9 := fun q => c64 (by rw [q]; rfl)
      obtain ⟨hw, hne⟩ := (rf_na_ok ((TT (atm al p tm) p q) b l s)).resolve_left h9
      have hin := TT_in hne
      unfold rf_in at hin
      have hin := of_decide_eq_true hin
      generalize hwe : rf_na ((TT (atm al p tm) p q) b l s) = w at hw hne hin h9
      rw [nd_lt hw]
      refine WQ.st (fun _ _ kz => pw_aload0 dX1_run_73 kz) ?_
      refine WQ.st (fun _ _ kz => pw_dup dX1_run_74 rfl kz) ?_
      refine WQ.st (fun _ _ kz => pw_geti gX1_9 dX1_run_75 (cf_s103 hK.cf) kz) ?_
      refine WQ.st (fun _ _ kz => pw_aload0 dX1_run_78 kz) ?_
      refine WQ.st (fun _ _ kz => pw_getr gX1_32 dX1_run_79 (cf_s103 hK.cf) (cf_p103_3 hK.cf) kz) ?_
      refine WQ.st (fun _ _ kz => pw_iload3 dX1_run_82 kz) ?_
      refine WQ.st (fun _ _ kz => pw_aload0 dX1_run_83 kz) ?_
      refine WQ.st (fun _ _ kz => pw_geti gX1_15 dX1_run_84 (cf_s103 hK.cf) kz) ?_
      rw [h1]
      refine WQ.st (fun _ _ kz => pw_iload2 dX1_run_87 kz) ?_
      refine WQ.st (fun _ _ kz => pw_iload4 dX1_run_88 kz) ?_
      refine wq_o4i wX0_gladAt lX1_51 rfl dX1_run_90 (cf_s96 hK.cf) (k_gladAt hK1 (by omega) hl hs hw) rfl (Nat.le_of_ble_eq_true rfl) (Nat.le_of_ble_eq_true rfl) (fun h90 z90 => ?_)
      obtain ⟨A2, B2, rfl, hK2, hF2⟩ := z90
      rw [cv_n hne]
      refine WQ.st (fun _ _ kz => pw_iadd dX1_run_93 kz) ?_
      refine WQ.st (fun _ _ kz => pw_puti (pX1_9 _ rfl) dX1_run_94 (cf_s103 hK.cf) rfl rfl kz) ?_
      refine WQ.st (fun _ _ kz => pw_aload0 dX1_run_97 kz) ?_
      refine WQ.st (fun _ _ kz => pw_getr gX1_21 dX1_run_98 (cf_s103 hK.cf) (cf_p103_4 hK.cf) kz) ?_
      refine WQ.st (fun _ _ kz => pw_iload3 dX1_run_101 kz) ?_
      refine WQ.st (fun _ _ kz => pw_iload4 dX1_run_102 kz) ?_
      refine WQ.st (fun _ _ kz => pw_ast (j := b) dX1_run_104 (cf_s104 hK.cf) (ix_m rfl (by omega)) (by omega)  kz) ?_
      refine WQ.st (fun _ _ kz => pw_aload0 dX1_run_105 kz) ?_
      refine WQ.st (fun _ _ kz => pw_dup dX1_run_106 rfl kz) ?_
      refine WQ.st (fun _ _ kz => pw_geti gX1_15 dX1_run_107 (cf_s103 hK.cf) kz) ?_
      rw [up2_nk (by decide), h1]
      refine WQ.st (fun _ _ kz => pw_iload4 dX1_run_110 kz) ?_
      refine WQ.st (fun _ _ kz => pw_isub dX1_run_112 kz) ?_
      rw [sw_I hin.1]
      refine WQ.st (fun _ _ kz => pw_puti (pX1_15 _ rfl) dX1_run_113 (cf_s103 hK.cf) rfl rfl kz) ?_
      refine WQ.st (fun _ _ kz => pw_iload4 dX1_run_116 kz) ?_
      refine WQ.st (fun _ _ kz => pw_istore2 dX1_run_118 (by decide) (k := kz)) ?_
      refine WQ.st (fun _ _ kz => pw_iinc3 (v := 1) dX1_run_119 (by decide) (by decide) (k := kz)) ?_
      refine WQ.st (fun _ _ kz => pw_goto (tgt := 28) dX1_run_122 (by decide) kz) ?_
      rw [nI_1]
      refine ih (b + 1) w (s + 2 - w) (g + (TT (atm al p tm) p q) b l s w) _ _ _ _ (by omega) hw (by omega) ?_ ?_ ?_ ?_ (fun i hi => ?_) ((hK2.fr ((FrK.v (a := 103) (by decide)).tr ((FrK.a (a := 104) (by decide)).tr (FrK.v (a := 103) (by decide)))))) ((((hF.tr hF1.c).tr hF2.c).tr FrC.v).tr (FrC.a2.tr FrC.v))
      · rw [rf_cm_g (by rw [hcm]) (by rw [hcm]; show ¬ rf_na ((TT (atm al p tm) p q) b l s) = 9; rw [hwe]; exact h9), hcm]
        show ((rf_na ((TT (atm al p tm) p q) b l s), s + 2 - rf_na ((TT (atm al p tm) p q) b l s)), (g + (TT (atm al p tm) p q) b l s (rf_na ((TT (atm al p tm) p q) b l s)), (-1 : Int32))) = _
        rw [hwe]
      · rw [up2_nk (by decide), up2_eq, h0]
      · rw [up2_eq]
      · rw [up2_nk (by decide), up2_nk (by decide)]
        exact h2
      · rw [up2_at]
        unfold pm_up
        by_cases e : i = b
        · rw [if_pos e, if_pos (by omega), e]
          unfold rf_cw
          rw [hcm, if_pos rfl]
          show dI w = nd (rf_na ((TT (atm al p tm) p q) b l s))
          rw [hwe, nd_lt hw]
        · rw [if_neg e, hF2.1 104 (by decide) (by decide), hF1.1 104 (by decide) (by decide), hA i hi]
          by_cases e2 : i < b
          · rw [if_pos e2, if_pos (by omega)]
          · rw [if_neg e2, if_neg (by omega)]
    · have h9 : rf_na ((TT (atm al p tm) p q) b l s) = 9 := (nd_9 ((rf_na_ok _).elim Or.inr (fun h => Or.inl h.1))).mp c64
      refine WQ.st (fun _ _ kz => pw_aload0 dX1_run_67 kz) ?_
      refine WQ.st (fun _ _ kz => pw_iload3 dX1_run_68 kz) ?_
      refine WQ.st (fun _ _ kz => pw_puti (pX1_18 _ rfl) dX1_run_69 (cf_s103 hK.cf) rfl rfl kz) ?_
      refine ⟨_, _, pw_vret dX1_run_72 rfl rfl rfl, ?_⟩
      have hcm1 : rf_cm (TT (atm al p tm) p q) s0 (b + 1) = ((l, s), (g, nI b)) := by rw [rf_cm_n (by rw [hcm]) (by rw [hcm]; exact h9), hcm]
      have hcn : rf_cm (TT (atm al p tm) p q) s0 (lgN al q) = ((l, s), (g, nI b)) := by
        rw [show (lgN al q) = b + 1 + m by omega, rf_cm_stay (by rw [hcm1]; exact nI_nm1 (by omega)), hcm1]
      refine ⟨rfl, _, A1, B1, rfl, hK1.fr (FrK.v (by decide)), ⟨by rw [hcn, up2_nk (by decide)]; exact h0, by rw [hcn, up2_nk (by decide)]; exact h1, by rw [hcn, up2_eq], fun i hi => ?_⟩, (hF.tr hF1.c).tr FrC.v⟩
      rw [hF1.1 104 (by decide) (by decide), hA i hi]
      by_cases e : i < b
      · rw [if_pos e, if_pos (by omega)]
      · rw [if_neg e]
        by_cases e2 : i < (lgN al q)
        · rw [if_pos e2]
          unfold rf_cw
          by_cases e3 : i = b
          · subst e3
            rw [hcm, if_pos rfl]
            show 9 = nd (rf_na _)
            rw [h9]
            rfl
          · rw [if_neg (by rw [show i = b + 1 + (i - b - 1) by omega, rf_cm_stay (by rw [hcm1]; exact nI_nm1 (by omega)), hcm1]; exact nI_nm1 (by omega))]
        · rw [if_neg e2]
set_option maxRecDepth 20000 in
theorem k_run {G : gT} {d : Nat} {S : sS} {V : sV} {P : sP} {A : sV} {B : sB} {Q : sP} {t sl : Nat} {al : Nat → Int32} {sh ls p tm q : Nat} (hK : KB S V P A B Q t al sh ls p tm q) {s0 : Nat} (h0 : s0 < 41) : WQ G (d + 4) mX1_run 0 [some (.ref 103), some (.int (sI s0)), none, none, none] [] (t, sl, gh S V P A B Q) (fun r h' => r = none ∧ ∃ (V' A' : sV) (B' : sB), h' = (t, sl, gh S V' P A' B' Q) ∧ KB S V' P A' B' Q t al sh ls p tm q ∧ CR V' A' (TT (atm al p tm) p q) (lgN al q) s0 ∧ FrC V A B V' A' B') := by
  refine WQ.st (fun _ _ kz => pw_aload0 dX1_run_0 kz) ?_
  refine WQ.st (fun _ _ kz => pw_getr gX1_21 dX1_run_1 (cf_s103 hK.cf) (cf_p103_4 hK.cf) kz) ?_
  refine WQ.st (fun _ _ kz => pw_bipush (v := 9) dX1_run_4 (by decide) kz) ?_
  refine WQ.st (fun _ _ kz => pw_s2v wJ7_fill_53178 lX1_36 dX1_run_6 (c_filli (cf_s104 hK.cf) (by omega) _) rfl (Nat.le_of_ble_eq_true rfl) (Nat.le_of_ble_eq_true rfl) kz) ?_
  refine WQ.st (fun _ _ kz => pw_aload0 dX1_run_9 kz) ?_
  refine WQ.st (fun _ _ kz => pw_iconst (v := 0) dX1_run_10 (by decide) kz) ?_
  refine WQ.st (fun _ _ kz => pw_puti (pX1_9 _ rfl) dX1_run_11 (cf_s103 hK.cf) rfl rfl kz) ?_
  refine WQ.st (fun _ _ kz => pw_aload0 dX1_run_14 kz) ?_
  refine WQ.st (fun _ _ kz => pw_iload1 dX1_run_15 kz) ?_
  refine WQ.st (fun _ _ kz => pw_puti (pX1_15 _ rfl) dX1_run_16 (cf_s103 hK.cf) rfl rfl kz) ?_
  refine WQ.st (fun _ _ kz => pw_aload0 dX1_run_19 kz) ?_
  refine WQ.st (fun _ _ kz => pw_iconst (v := -1) dX1_run_20 (by decide) kz) ?_
  refine WQ.st (fun _ _ kz => pw_puti (pX1_18 _ rfl) dX1_run_21 (cf_s103 hK.cf) rfl rfl kz) ?_
  refine WQ.st (fun _ _ kz => pw_iconst (v := 0) dX1_run_24 (by decide) kz) ?_
  refine WQ.st (fun _ _ kz => pw_istore2 dX1_run_25 (by decide) (k := kz)) ?_
  refine WQ.st (fun _ _ kz => pw_iconst (v := 0) dX1_run_26 (by decide) kz) ?_
  refine WQ.st (fun _ _ kz => pw_istore3 dX1_run_27 (by decide) (k := kz)) ?_
  exact l_run (V0 := V) (A0 := A) (B0 := B) (s0 := s0) (lgN al q) 0 2 s0 0 _ _ _ none (by omega) (by omega) h0 rfl (by rw [up2_nk (by decide), up2_nk (by decide), up2_eq]) (by rw [up2_nk (by decide), up2_eq]) up2_eq (fun i hi => by rw [pm_up_eq, fillF_i hi, if_neg (by omega)]) (hK.fr (((FrK.a (a := 104) (by decide)).tr (FrK.v (a := 103) (by decide))).tr ((FrK.v (a := 103) (by decide)).tr (FrK.v (a := 103) (by decide))))) (FrC.a.tr (FrC.v.tr (FrC.v.tr FrC.v)))
set_option maxRecDepth 20000 in
theorem k_drawOf {G : gT} {d : Nat} {S : sS} {V : sV} {P : sP} {A : sV} {B : sB} {Q : sP} {t sl : Nat} (hC : CF S P) {k : Nat} (hk : k < 12) : WQ G d mX1_drawOf 0 [some (.ref 103), some (.int (nI k))] [] (t, sl, gh S V P A B Q) (fun r h' => r = some (.int (A 104 k)) ∧ h' = (t, sl, gh S V P A B Q)) := by
  refine WQ.st (fun _ _ kz => pw_iload1 dX1_drawOf_0 kz) ?_
  refine WQ.br (fun _ _ ka kb => pw_if_lt (tgt := 19) dX1_drawOf_1 (by decide) ka kb) (fun c1 => absurd c1 (by rw [lt_i (ix_n (j := k) (by omega)) li_0]; omega)) (fun c1 => ?_)
  refine WQ.st (fun _ _ kz => pw_iload1 dX1_drawOf_4 kz) ?_
  refine WQ.st (fun _ _ kz => pw_bipush (v := 12) dX1_drawOf_5 (by decide) kz) ?_
  refine WQ.br (fun _ _ ka kb => pw_icmp_ge (tgt := 19) dX1_drawOf_7 (by decide) ka kb) (fun c7 => absurd c7 (by rw [nl_12, le_i (ix_n (j := 12) (by omega)) (ix_n (j := k) (by omega))]; omega)) (fun c7 => ?_)
  refine WQ.st (fun _ _ kz => pw_aload0 dX1_drawOf_10 kz) ?_
  refine WQ.st (fun _ _ kz => pw_getr gX1_21 dX1_drawOf_11 (cf_s103 hC) (cf_p103_4 hC) kz) ?_
  refine WQ.st (fun _ _ kz => pw_iload1 dX1_drawOf_14 kz) ?_
  refine WQ.st (fun _ _ kz => pw_ald (j := k) dX1_drawOf_15 (cf_s104 hC) (ix_m rfl (by omega)) (by omega) kz) ?_
  refine WQ.st (fun _ _ kz => pw_goto (tgt := 21) dX1_drawOf_16 (by decide) kz) ?_
  refine ⟨_, _, pw_iret dX1_drawOf_21 rfl rfl rfl rfl, ?_⟩
  exact ⟨rfl, rfl⟩
def btF (x : Int32) : Int32 := 1 <<< ((x + 2) &&& 31)
set_option maxRecDepth 20000 in
theorem k_bitOf {G : gT} {d : Nat} {h : Ph} (x : Int32) : WQ G d mX11_bitOf 0 [some (.int x)] [] h (fun r h' => r = some (.int (btF x)) ∧ h' = h) := by
  refine WQ.st (fun _ _ kz => pw_iconst (v := 1) dX11_bitOf_0 (by decide) kz) ?_
  refine WQ.st (fun _ _ kz => pw_iload0 dX11_bitOf_1 kz) ?_
  refine WQ.st (fun _ _ kz => pw_iconst (v := 2) dX11_bitOf_2 (by decide) kz) ?_
  refine WQ.st (fun _ _ kz => pw_iadd dX11_bitOf_3 kz) ?_
  refine WQ.st (fun _ _ kz => pw_ishl dX11_bitOf_4 kz) ?_
  refine ⟨_, _, pw_iret dX11_bitOf_5 rfl rfl rfl rfl, ?_⟩
  exact ⟨rfl, rfl⟩
/-- a draw is among those allowed -/
def inM (a x : Int32) : Bool := decide (¬ a &&& btF x = 0)
def iwF (f g : Nat → Int32) : Bool → Nat → Nat → Bool
  | b, _, 0 => b
  | b, k, c + 1 => if b then iwF f g (inM (f k) (g k)) (k + 1) c else false
theorem iwF_f (f g : Nat → Int32) : ∀ c k, iwF f g false k c = false
  | 0, _ => rfl
  | c + 1, k => rfl
set_option maxRecDepth 20000 in
theorem l_isWithin {G : gT} {d : Nat} {S : sS} {V : sV} {P : sP} {A : sV} {B : sB} {Q : sP} {t sl : Nat} (hC : CF S P) {am n : Nat} (ha : S am = (20, 12)) (hn : V 96 0 = nI n) (hn12 : n ≤ 12) : ∀ (m : Nat) (b : Bool) (k : Nat), k + m = n → WQ G (d + 1) mX1_isWithin 16 [some (.ref 103), some (.ref am), some (.int (bI b)), some (.int (nI k))] [] (t, sl, gh S V P A B Q) (fun r h' => r = some (.int (bI (iwF (A am) (A 104) b k m))) ∧ h' = (t, sl, gh S V P A B Q)) := by
  intro m
  induction m with
  | zero =>
    intro b k hk
    have hk : k = n := hk
    subst hk
    refine WQ.st (fun _ _ kz => pw_iload3 dX1_isWithin_16 kz) ?_
    refine WQ.st (fun _ _ kz => pw_aload0 dX1_isWithin_17 kz) ?_
    refine WQ.st (fun _ _ kz => pw_getr gX1_32 dX1_isWithin_18 (cf_s103 hC) (cf_p103_3 hC) kz) ?_
    refine WQ.st (fun _ _ kz => pw_geti gX1_42 dX1_isWithin_21 (cf_s96 hC) kz) ?_
    rw [hn]
    refine WQ.br (fun _ _ ka kb => pw_icmp_ge (tgt := 64) dX1_isWithin_24 (by decide) ka kb) (fun c24 => ?_) (fun c24 => absurd (Int32.le_refl _) c24)
    refine WQ.st (fun _ _ kz => pw_iload2 dX1_isWithin_64 kz) ?_
    refine ⟨_, _, pw_iret dX1_isWithin_65 rfl (bI_nar _) rfl rfl, ?_⟩
    exact ⟨rfl, rfl⟩
  | succ m ih =>
    intro b k hk
    refine WQ.st (fun _ _ kz => pw_iload3 dX1_isWithin_16 kz) ?_
    refine WQ.st (fun _ _ kz => pw_aload0 dX1_isWithin_17 kz) ?_
    refine WQ.st (fun _ _ kz => pw_getr gX1_32 dX1_isWithin_18 (cf_s103 hC) (cf_p103_3 hC) kz) ?_
    refine WQ.st (fun _ _ kz => pw_geti gX1_42 dX1_isWithin_21 (cf_s96 hC) kz) ?_
    rw [hn]
    refine WQ.br (fun _ _ ka kb => pw_icmp_ge (tgt := 64) dX1_isWithin_24 (by decide) ka kb) (fun c24 => absurd c24 (by rw [le_i (ix_n (j := n) (by omega)) (ix_n (j := k) (by omega))]; omega)) (fun c24 => ?_)
    refine WQ.st (fun _ _ kz => pw_iload3 dX1_isWithin_27 kz) ?_
    refine WQ.st (fun _ _ kz => pw_aload1 dX1_isWithin_28 kz) ?_
    refine WQ.st (fun _ _ kz => pw_len dX1_isWithin_29 ha (by decide) kz) ?_
    refine WQ.br (fun _ _ ka kb => pw_icmp_ge (tgt := 64) dX1_isWithin_30 (by decide) ka kb) (fun c30 => absurd c30 (by rw [show Int32.ofNat 12 = nI 12 from rfl, le_i (ix_n (j := 12) (by omega)) (ix_n (j := k) (by omega))]; omega)) (fun c30 => ?_)
    refine WQ.st (fun _ _ kz => pw_iload2 dX1_isWithin_33 kz) ?_
    refine WQ.br (fun _ _ ka kb => pw_if_eq (tgt := 64) dX1_isWithin_34 (by decide) ka kb) (fun c34 => ?_) (fun c34 => ?_)
    · rw [bI_0] at c34
      subst c34
      refine WQ.st (fun _ _ kz => pw_iload2 dX1_isWithin_64 kz) ?_
      refine ⟨_, _, pw_iret dX1_isWithin_65 rfl rfl rfl rfl, ?_⟩
      exact ⟨rfl, rfl⟩
    · rw [bI_n] at c34
      subst c34
      refine WQ.st (fun _ _ kz => pw_aload1 dX1_isWithin_37 kz) ?_
      refine WQ.st (fun _ _ kz => pw_iload3 dX1_isWithin_38 kz) ?_
      refine WQ.st (fun _ _ kz => pw_ald (j := k) dX1_isWithin_39 ha (ix_m rfl (by omega)) (by omega) kz) ?_
      refine WQ.st (fun _ _ kz => pw_aload0 dX1_isWithin_40 kz) ?_
      refine WQ.st (fun _ _ kz => pw_iload3 dX1_isWithin_41 kz) ?_
      refine wq_o1i wX1_drawOf lX1_55 rfl dX1_isWithin_42 (cf_s103 hC) (k_drawOf hC (by omega)) rfl (Nat.le_of_ble_eq_true rfl) (Nat.le_of_ble_eq_true rfl) (fun h42 z42 => ?_)
      subst z42
      refine wq_s1i wX11_bitOf lX1_59 dX1_isWithin_45 (k_bitOf _) rfl (Nat.le_of_ble_eq_true rfl) (Nat.le_of_ble_eq_true rfl) (fun h45 z45 => ?_)
      subst z45
      refine WQ.st (fun _ _ kz => pw_iand dX1_isWithin_48 kz) ?_
      refine WQ.br (fun _ _ ka kb => pw_if_eq (tgt := 56) dX1_isWithin_49 (by decide) ka kb) (fun c49 => ?_) (fun c49 => ?_)
      · refine WQ.st (fun _ _ kz => pw_iconst (v := 0) dX1_isWithin_56 (by decide) kz) ?_
        refine WQ.st (fun _ _ kz => pw_istore2 dX1_isWithin_57 (by decide) (k := kz)) ?_
        refine WQ.st (fun _ _ kz => pw_iinc3 (v := 1) dX1_isWithin_58 (by decide) (by decide) (k := kz)) ?_
        refine WQ.st (fun _ _ kz => pw_goto (tgt := 16) dX1_isWithin_61 (by decide) kz) ?_
        rw [nI_1]
        refine (ih false (k + 1) (by omega)).imp (fun r h' z => ?_)
        rw [iwF, if_pos rfl, show inM (A am k) (A 104 k) = false from decide_eq_false (fun q => q c49)]
        exact z
      · refine WQ.st (fun _ _ kz => pw_iconst (v := 1) dX1_isWithin_52 (by decide) kz) ?_
        refine WQ.st (fun _ _ kz => pw_goto (tgt := 57) dX1_isWithin_53 (by decide) kz) ?_
        refine WQ.st (fun _ _ kz => pw_istore2 dX1_isWithin_57 (by decide) (k := kz)) ?_
        refine WQ.st (fun _ _ kz => pw_iinc3 (v := 1) dX1_isWithin_58 (by decide) (by decide) (k := kz)) ?_
        refine WQ.st (fun _ _ kz => pw_goto (tgt := 16) dX1_isWithin_61 (by decide) kz) ?_
        rw [nI_1]
        refine (ih true (k + 1) (by omega)).imp (fun r h' z => ?_)
        rw [iwF, if_pos rfl, show inM (A am k) (A 104 k) = true from decide_eq_true c49]
        exact z
set_option maxRecDepth 20000 in
theorem k_isWithin {G : gT} {d : Nat} {S : sS} {V : sV} {P : sP} {A : sV} {B : sB} {Q : sP} {t sl : Nat} (hC : CF S P) {am n : Nat} (ha : S am = (20, 12)) (hn : V 96 0 = nI n) (hn12 : n ≤ 12) : WQ G (d + 1) mX1_isWithin 0 [some (.ref 103), some (.ref am), none, none] [] (t, sl, gh S V P A B Q) (fun r h' => r = some (.int (bI (iwF (A am) (A 104) (decide (V 103 2 = -1)) 0 n))) ∧ h' = (t, sl, gh S V P A B Q)) := by
  refine WQ.st (fun _ _ kz => pw_aload0 dX1_isWithin_0 kz) ?_
  refine WQ.st (fun _ _ kz => pw_geti gX1_18 dX1_isWithin_1 (cf_s103 hC) kz) ?_
  refine WQ.st (fun _ _ kz => pw_iconst (v := -1) dX1_isWithin_4 (by decide) kz) ?_
  refine WQ.bn (fun _ _ ka kb => pw_icmp_ne (tgt := 12) dX1_isWithin_5 (by decide) ka kb) (fun c5 => ?_) (fun c5 => ?_)
  · refine WQ.st (fun _ _ kz => pw_iconst (v := 0) dX1_isWithin_12 (by decide) kz) ?_
    refine WQ.st (fun _ _ kz => pw_istore2 dX1_isWithin_13 (by decide) (k := kz)) ?_
    refine WQ.st (fun _ _ kz => pw_iconst (v := 0) dX1_isWithin_14 (by decide) kz) ?_
    refine WQ.st (fun _ _ kz => pw_istore3 dX1_isWithin_15 (by decide) (k := kz)) ?_
    rw [decide_eq_false c5]
    exact l_isWithin hC ha hn hn12 n false 0 (by omega)
  · refine WQ.st (fun _ _ kz => pw_iconst (v := 1) dX1_isWithin_8 (by decide) kz) ?_
    refine WQ.st (fun _ _ kz => pw_goto (tgt := 13) dX1_isWithin_9 (by decide) kz) ?_
    refine WQ.st (fun _ _ kz => pw_istore2 dX1_isWithin_13 (by decide) (k := kz)) ?_
    refine WQ.st (fun _ _ kz => pw_iconst (v := 0) dX1_isWithin_14 (by decide) kz) ?_
    refine WQ.st (fun _ _ kz => pw_istore3 dX1_isWithin_15 (by decide) (k := kz)) ?_
    rw [decide_eq_true c5]
    exact l_isWithin hC ha hn hn12 n true 0 (by omega)
set_option maxRecDepth 20000 in
theorem l_allCh {G : gT} {d : Nat} {S : sS} {V : sV} {P : sP} {A : sV} {B : sB} {Q : sP} {t sl : Nat} (hC : CF S P) {n : Nat} (hn : V 96 0 = nI n) (hn12 : n ≤ 12) : ∀ (m k : Nat), k + m = n → WQ G d mX1_allChances 4 [some (.ref 103), some (.long (lN (10 ^ k))), none, some (.int (nI k))] [] (t, sl, gh S V P A B Q) (fun r h' => r = some (.long (lN (10 ^ n))) ∧ h' = (t, sl, gh S V P A B Q)) := by
  intro m
  induction m with
  | zero =>
    intro k hk
    have hk : k = n := hk
    subst hk
    refine WQ.st (fun _ _ kz => pw_iload3 dX1_allChances_4 kz) ?_
    refine WQ.st (fun _ _ kz => pw_aload0 dX1_allChances_5 kz) ?_
    refine WQ.st (fun _ _ kz => pw_getr gX1_32 dX1_allChances_6 (cf_s103 hC) (cf_p103_3 hC) kz) ?_
    refine WQ.st (fun _ _ kz => pw_geti gX1_42 dX1_allChances_9 (cf_s96 hC) kz) ?_
    rw [hn]
    refine WQ.br (fun _ _ ka kb => pw_icmp_ge (tgt := 33) dX1_allChances_12 (by decide) ka kb) (fun c12 => ?_) (fun c12 => absurd (Int32.le_refl _) c12)
    refine WQ.st (fun _ _ kz => pw_lload1 dX1_allChances_33 kz) ?_
    refine ⟨_, _, pw_lret dX1_allChances_34 rfl rfl rfl, ?_⟩
    exact ⟨rfl, rfl⟩
  | succ m ih =>
    intro k hk
    refine WQ.st (fun _ _ kz => pw_iload3 dX1_allChances_4 kz) ?_
    refine WQ.st (fun _ _ kz => pw_aload0 dX1_allChances_5 kz) ?_
    refine WQ.st (fun _ _ kz => pw_getr gX1_32 dX1_allChances_6 (cf_s103 hC) (cf_p103_3 hC) kz) ?_
    refine WQ.st (fun _ _ kz => pw_geti gX1_42 dX1_allChances_9 (cf_s96 hC) kz) ?_
    rw [hn]
    refine WQ.br (fun _ _ ka kb => pw_icmp_ge (tgt := 33) dX1_allChances_12 (by decide) ka kb) (fun c12 => absurd c12 (by rw [le_i (ix_n (j := n) (by omega)) (ix_n (j := k) (by omega))]; omega)) (fun c12 => ?_)
    refine WQ.st (fun _ _ kz => pw_iload3 dX1_allChances_15 kz) ?_
    refine WQ.st (fun _ _ kz => pw_bipush (v := 12) dX1_allChances_16 (by decide) kz) ?_
    refine WQ.br (fun _ _ ka kb => pw_icmp_ge (tgt := 33) dX1_allChances_18 (by decide) ka kb) (fun c18 => absurd c18 (by rw [nl_12, le_i (ix_n (j := 12) (by omega)) (ix_n (j := k) (by omega))]; omega)) (fun c18 => ?_)
    refine WQ.st (fun _ _ kz => pw_lload1 dX1_allChances_21 kz) ?_
    refine WQ.st (fun _ _ kz => pw_ldc2 kX1_62 dX1_allChances_22 kz) ?_
    refine WQ.st (fun _ _ kz => pw_lmul dX1_allChances_25 kz) ?_
    rw [show (10 : Int64) = lN 10 from rfl, lN_mul, ← Nat.pow_succ]
    refine WQ.st (fun _ _ kz => pw_lstore1 dX1_allChances_26 (by decide) (k := kz)) ?_
    refine WQ.st (fun _ _ kz => pw_iinc3 (v := 1) dX1_allChances_27 (by decide) (by decide) (k := kz)) ?_
    refine WQ.st (fun _ _ kz => pw_goto (tgt := 4) dX1_allChances_30 (by decide) kz) ?_
    rw [nI_1]
    exact ih (k + 1) (by omega)
set_option maxRecDepth 20000 in
theorem k_allCh {G : gT} {d : Nat} {S : sS} {V : sV} {P : sP} {A : sV} {B : sB} {Q : sP} {t sl : Nat} (hC : CF S P) {n : Nat} (hn : V 96 0 = nI n) (hn12 : n ≤ 12) : WQ G d mX1_allChances 0 [some (.ref 103), none, none, none] [] (t, sl, gh S V P A B Q) (fun r h' => r = some (.long (lN (10 ^ n))) ∧ h' = (t, sl, gh S V P A B Q)) := by
  refine WQ.st (fun _ _ kz => pw_lconst (v := 1) dX1_allChances_0 (by decide) kz) ?_
  refine WQ.st (fun _ _ kz => pw_lstore1 dX1_allChances_1 (by decide) (k := kz)) ?_
  refine WQ.st (fun _ _ kz => pw_iconst (v := 0) dX1_allChances_2 (by decide) kz) ?_
  refine WQ.st (fun _ _ kz => pw_istore3 dX1_allChances_3 (by decide) (k := kz)) ?_
  exact l_allCh hC hn hn12 n 0 (by omega)
