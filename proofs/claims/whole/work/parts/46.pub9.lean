/-! ===== the reference: squarest, lends, reply ===== -/
def sp_sq (f : Nat → Int32) : Nat → Nat → Int32 → Int32 → Int32
  | 0, _, b, _ => b
  | m + 1, g, b, mo => if f g ≠ -268435456 ∧ mo < f g + 3 * sI g then sp_sq f m (g + 1) (sI g) (f g + 3 * sI g) else sp_sq f m (g + 1) b mo
def sp_squ (al : Nat → Int32) (x y : Int) : Int32 := if isP al x && isQ al y then sp_sq (fun g => bsT al x.toNat y.toNat (sI g)) 41 0 (-99000001) (-268435456) else -99000002
/-- the cells that squarest and reply work in -/
def F89 (o : Nat) (A A' : sV) : Prop := ∀ a, a ≠ o + 8 → a ≠ o + 9 → A' a = A a
def F21 (o : Nat) (V V' : sV) : Prop := (∀ a, a ≠ o → V' a = V a) ∧ ∀ k, k ≠ 20 → k ≠ 21 → V' o k = V o k
set_option maxRecDepth 20000 in
theorem l_squarest {G : gT} {d : Nat} {S : sS} {P : sP} {B : sB} {Q : sP} {t sl o : Nat} (hF : MF S P o) {V0 A0 : sV} {p q n s0 : Nat} (hp : p < 5) (hq : q < 4) (hn12 : n ≤ 12) (h0 : s0 < 41) (hln : (A0 (o + 1)) (10 + q) = nI n) (hst : (A0 (o + 1)) (77 + p) = sI s0) {T : Nat → Nat → Nat → Nat → Int32} (hTT : ∀ b l s w, b < n → l < 5 → s < 41 → w < 5 → rT (A0 (o + 7)) b l s w = T b l s w) (hkp : ∀ b w, b < n → w < 5 → rf_k (A0 (o + 10)) (V0 o 24) b w = kpA b w) (hin : ∀ b l s w, b < n → l < 5 → s < 41 → w < 5 → T b l s w ≠ (-268435456) → rf_in s w = true) : ∀ (m k : Nat) (b mo : Int32) (V A : sV), k + m = 41 → F21 o V0 V → F89 o A0 A → WQ G (d + 5) mX12_squarest 40 [some (.ref o), some (.int (nI p)), some (.int (nI q)), some (.int b), some (.int mo), some (.int (sI k))] [] (t, sl, gh S V P A B Q) (fun r h' => r = some (.int (sp_sq (fun g => rf_T T kpA n (rf_e (sI g)) n 2 s0) m k b mo)) ∧ ∃ V' A' : sV, h' = (t, sl, gh S V' P A' B Q) ∧ F21 o V0 V' ∧ F89 o A0 A') := by
  have hin2 : ∀ b l s w, b < n → l < 5 → s < 41 → w < 5 → rT (A0 (o + 7)) b l s w ≠ (-268435456) → rf_in s w = true := fun b l s w hb hl hs hw h => hin b l s w hb hl hs hw (by rw [← hTT b l s w hb hl hs hw]; exact h)
  intro m
  induction m with
  | zero =>
    intro k b mo V A hk hV hA0
    have hk : k = 41 := hk
    subst hk
    refine WQ.st (fun _ _ kz => pw_iload5 dX12_squarest_40 kz) ?_
    refine WQ.st (fun _ _ kz => pw_bipush (v := 20) dX12_squarest_42 (by decide) kz) ?_
    refine WQ.br (fun _ _ ka kb => pw_icmp_gt (tgt := 124) dX12_squarest_44 (by decide) ka kb) (fun c44 => ?_) (fun c44 => absurd (by decide) c44)
    refine WQ.st (fun _ _ kz => pw_iload3 dX12_squarest_124 kz) ?_
    refine ⟨_, _, pw_iret dX12_squarest_125 rfl rfl rfl rfl, ?_⟩
    exact ⟨rfl, V, A, rfl, hV, hA0⟩
  | succ m ih =>
    intro k b mo V A hk hV hA0
    refine WQ.st (fun _ _ kz => pw_iload5 dX12_squarest_40 kz) ?_
    refine WQ.st (fun _ _ kz => pw_bipush (v := 20) dX12_squarest_42 (by decide) kz) ?_
    refine WQ.br (fun _ _ ka kb => pw_icmp_gt (tgt := 124) dX12_squarest_44 (by decide) ka kb) (fun c44 => absurd c44 (by rw [lt_i (show (20 : Int32).toInt = 20 by decide) (sI_t (by omega))]; omega)) (fun c44 => ?_)
    refine WQ.st (fun _ _ kz => pw_aload0 dX12_squarest_47 kz) ?_
    refine WQ.st (fun _ _ kz => pw_aload0 dX12_squarest_48 kz) ?_
    refine WQ.st (fun _ _ kz => pw_getr gX12_13 dX12_squarest_49 hF.1 (mf_p1 hF) kz) ?_
    refine WQ.st (fun _ _ kz => pw_bipush (v := 10) dX12_squarest_52 (by decide) kz) ?_
    refine WQ.st (fun _ _ kz => pw_iload2 dX12_squarest_54 kz) ?_
    refine WQ.st (fun _ _ kz => pw_iadd dX12_squarest_55 kz) ?_
    refine WQ.st (fun _ _ kz => pw_ald (j := 10 + q) dX12_squarest_56 (mf_s1 hF) (by simp (disch := omega) only [nl_10, nI_add, pk_mul, pk_sub]; exact ix_m (by omega) (by omega)) (by omega) kz) ?_
    have hal : A (o + 1) = (A0 (o + 1)) := hA0 _ (by omega) (by omega)
    have h7 : A (o + 7) = A0 (o + 7) := hA0 _ (by omega) (by omega)
    have h10 : A (o + 10) = A0 (o + 10) := hA0 _ (by omega) (by omega)
    have h24 : V o 24 = V0 o 24 := hV.2 24 (by decide) (by decide)
    rw [hal, hln]
    obtain ⟨F, k1, t1⟩ := c_laysToGo (d := d) (P := P) (S := S) (G := G) (V := V) (A := A) (B := B) (Q := Q) (t := t) (sl := sl) hF hn12 (goal := sI k) (by rw [h7]; exact hin2)
    rw [h7, h10, h24] at t1
    refine WQ.st (fun _ _ kz => pw_iload5 dX12_squarest_57 kz) ?_
    refine WQ.st (fun _ _ kz => pw_o2v wX12_laysToGo lX12_303 rfl dX12_squarest_59 hF.1 (k1) rfl (Nat.le_of_ble_eq_true rfl) (Nat.le_of_ble_eq_true rfl) kz) ?_
    refine WQ.st (fun _ _ kz => pw_aload0 dX12_squarest_62 kz) ?_
    refine WQ.st (fun _ _ kz => pw_aload0 dX12_squarest_63 kz) ?_
    refine WQ.st (fun _ _ kz => pw_getr gX12_13 dX12_squarest_64 hF.1 (mf_p1 hF) kz) ?_
    refine WQ.st (fun _ _ kz => pw_bipush (v := 10) dX12_squarest_67 (by decide) kz) ?_
    refine WQ.st (fun _ _ kz => pw_iload2 dX12_squarest_69 kz) ?_
    refine WQ.st (fun _ _ kz => pw_iadd dX12_squarest_70 kz) ?_
    refine WQ.st (fun _ _ kz => pw_ald (j := 10 + q) dX12_squarest_71 (mf_s1 hF) (by simp (disch := omega) only [nl_10, nI_add, pk_mul, pk_sub]; exact ix_m (by omega) (by omega)) (by omega) kz) ?_
    rw [t1.1 _ (by omega), hal, hln]
    refine WQ.st (fun _ _ kz => pw_aload0 dX12_squarest_72 kz) ?_
    refine WQ.st (fun _ _ kz => pw_getr gX12_13 dX12_squarest_73 hF.1 (mf_p1 hF) kz) ?_
    refine WQ.st (fun _ _ kz => pw_bipush (v := 77) dX12_squarest_76 (by decide) kz) ?_
    refine WQ.st (fun _ _ kz => pw_iload1 dX12_squarest_78 kz) ?_
    refine WQ.st (fun _ _ kz => pw_iadd dX12_squarest_79 kz) ?_
    refine WQ.st (fun _ _ kz => pw_ald (j := 77 + p) dX12_squarest_80 (mf_s1 hF) (by simp (disch := omega) only [nl_77, nI_add, pk_mul, pk_sub]; exact ix_m (by omega) (by omega)) (by omega) kz) ?_
    rw [t1.1 _ (by omega), hal, hst]
    obtain ⟨V2, A2, k2, r1, r2, r3, r4, r5⟩ := q_laysRow (d := d + 1) (P := P) (S := S) (G := G) (V := V) (A := F) (B := B) (Q := Q) (t := t) (sl := sl) hF hn12 (e := rf_e (sI k)) (T := T) (kp := kpA) (by rw [t1.1 _ (by omega), h7]; exact hTT) (by rw [t1.1 _ (by omega), h10, h24]; exact hkp) hin (by rw [t1.1 (o + 7) (by omega), t1.1 (o + 10) (by omega), h7, h10, h24]; exact fun b hb => t1.2 b (Nat.zero_le b) hb) h0
    refine WQ.st (fun _ _ kz => pw_o2i wX12_laysRow lX12_306 rfl dX12_squarest_81 hF.1 (k2) rfl (Nat.le_of_ble_eq_true rfl) (Nat.le_of_ble_eq_true rfl) kz) ?_
    refine WQ.br (fun _ _ ka kb => pw_if_eq (tgt := 118) dX12_squarest_84 (by decide) ka kb) (fun c84 => ?_) (fun c84 => ?_)
    · rw [bI_0] at c84
      have c84 := Classical.not_not.mp (of_decide_eq_false c84)
      refine WQ.st (fun _ _ kz => pw_iinc5 (v := 1) dX12_squarest_118 (by decide) (by decide) (k := kz)) ?_
      refine WQ.st (fun _ _ kz => pw_goto (tgt := 40) dX12_squarest_121 (by decide) kz) ?_
      rw [sI_1]
      refine (ih (k + 1) b mo V2 A2 (by omega) ⟨fun a ha => (r2 a ha).trans (hV.1 a ha), fun j h1 h2 => (r3 j h1 h2).trans (hV.2 j h1 h2)⟩ (fun a h1 h2 => by rw [r1 a h2, t1.1 a h1]; exact hA0 a h1 h2)).imp (fun r h' z => ?_)
      rw [sp_sq, if_neg (fun q => q.1 c84)]
      exact z
    · rw [bI_n] at c84
      have c84 := of_decide_eq_true c84
      refine WQ.st (fun _ _ kz => pw_aload0 dX12_squarest_87 kz) ?_
      refine WQ.st (fun _ _ kz => pw_geti gX12_290 dX12_squarest_88 hF.1 kz) ?_
      rw [r4]
      refine WQ.st (fun _ _ kz => pw_iconst (v := 3) dX12_squarest_91 (by decide) kz) ?_
      refine WQ.st (fun _ _ kz => pw_iload5 dX12_squarest_92 kz) ?_
      refine WQ.st (fun _ _ kz => pw_imul dX12_squarest_94 kz) ?_
      refine WQ.st (fun _ _ kz => pw_iadd dX12_squarest_95 kz) ?_
      refine WQ.st (fun _ _ kz => pw_iload4 dX12_squarest_96 kz) ?_
      refine WQ.br (fun _ _ ka kb => pw_icmp_gt (tgt := 104) dX12_squarest_98 (by decide) ka kb) (fun c98 => ?_) (fun c98 => ?_)
      · refine WQ.st (fun _ _ kz => pw_iload5 dX12_squarest_104 kz) ?_
        refine WQ.st (fun _ _ kz => pw_istore3 dX12_squarest_106 (by decide) (k := kz)) ?_
        refine WQ.st (fun _ _ kz => pw_aload0 dX12_squarest_107 kz) ?_
        refine WQ.st (fun _ _ kz => pw_geti gX12_290 dX12_squarest_108 hF.1 kz) ?_
        rw [r4]
        refine WQ.st (fun _ _ kz => pw_iconst (v := 3) dX12_squarest_111 (by decide) kz) ?_
        refine WQ.st (fun _ _ kz => pw_iload5 dX12_squarest_112 kz) ?_
        refine WQ.st (fun _ _ kz => pw_imul dX12_squarest_114 kz) ?_
        refine WQ.st (fun _ _ kz => pw_iadd dX12_squarest_115 kz) ?_
        refine WQ.st (fun _ _ kz => pw_istore4 dX12_squarest_116 (by decide) (k := kz)) ?_
        refine WQ.st (fun _ _ kz => pw_iinc5 (v := 1) dX12_squarest_118 (by decide) (by decide) (k := kz)) ?_
        refine WQ.st (fun _ _ kz => pw_goto (tgt := 40) dX12_squarest_121 (by decide) kz) ?_
        rw [sI_1]
        refine (ih (k + 1) (sI k) ((rf_T T kpA n (rf_e (sI k)) n 2 s0) + 3 * sI k) V2 A2 (by omega) ⟨fun a ha => (r2 a ha).trans (hV.1 a ha), fun j h1 h2 => (r3 j h1 h2).trans (hV.2 j h1 h2)⟩ (fun a h1 h2 => by rw [r1 a h2, t1.1 a h1]; exact hA0 a h1 h2)).imp (fun r h' z => ?_)
        rw [sp_sq, if_pos ⟨c84, c98⟩]
        exact z
      · refine WQ.st (fun _ _ kz => pw_goto (tgt := 118) dX12_squarest_101 (by decide) kz) ?_
        refine WQ.st (fun _ _ kz => pw_iinc5 (v := 1) dX12_squarest_118 (by decide) (by decide) (k := kz)) ?_
        refine WQ.st (fun _ _ kz => pw_goto (tgt := 40) dX12_squarest_121 (by decide) kz) ?_
        rw [sI_1]
        refine (ih (k + 1) b mo V2 A2 (by omega) ⟨fun a ha => (r2 a ha).trans (hV.1 a ha), fun j h1 h2 => (r3 j h1 h2).trans (hV.2 j h1 h2)⟩ (fun a h1 h2 => by rw [r1 a h2, t1.1 a h1]; exact hA0 a h1 h2)).imp (fun r h' z => ?_)
        rw [sp_sq, if_neg (fun q => c98 q.2)]
        exact z
set_option maxRecDepth 20000 in
theorem p_squarest {G : gT} {d : Nat} {S : sS} {V : sV} {P : sP} {A : sV} {B : sB} {Q : sP} {t sl o : Nat} (hF : MF S P o) (hA : AV (A (o + 1)))  (x y : Int32) : WQ G (d + 9) mX12_squarest 0 [some (.ref o), some (.int x), some (.int y), none, none, none] [] (t, sl, gh S V P A B Q) (PZ o S P Q t sl V A B (.int (sp_squ (A (o + 1)) x.toInt y.toInt)) (A (o + 1))) := by
  refine WQ.st (fun _ _ kz => pw_aload0 dX12_squarest_0 kz) ?_
  refine WQ.st (fun _ _ kz => pw_iconst (v := 0) dX12_squarest_1 (by decide) kz) ?_
  refine WQ.st (fun _ _ kz => pw_puti (pX12_1 _ rfl) dX12_squarest_2 hF.1 rfl rfl kz) ?_
  refine WQ.st (fun _ _ kz => pw_aload0 dX12_squarest_5 kz) ?_
  refine WQ.st (fun _ _ kz => pw_iload1 dX12_squarest_6 kz) ?_
  refine WQ.st (fun _ _ kz => pw_iload2 dX12_squarest_7 kz) ?_
  obtain ⟨_, _, k8, rfl, rfl⟩ := c_areBoth (d := d + 6) (P := P) (S := S) (G := G) (V := (up2 V o 0 0)) (A := A) (B := B) (Q := Q) (t := t) (sl := sl) hF hA.dv x y
  refine WQ.st (fun _ _ kz => pw_o2i wX12_areBoth lX12_413 rfl dX12_squarest_8 hF.1 (k8) rfl (Nat.le_of_ble_eq_true rfl) (Nat.le_of_ble_eq_true rfl) kz) ?_
  refine WQ.bn (fun _ _ ka kb => pw_if_ne (tgt := 17) dX12_squarest_11 (by decide) ka kb) (fun c11 => ?_) (fun c11 => ?_)
  · rw [bI_n] at c11
    have hb11 := Bool.and_eq_true _ _ |>.mp c11
    have hp5 := hA.dv.p5
    have hn4 := hA.dv.n4
    have g1p := isP_t hb11.1
    have g2q := isQ_t hb11.2
    obtain ⟨p, ep, tp, lp⟩ := nI_get g1p.1 g1p.2 (by omega)
    obtain ⟨q, eq, tq, lq⟩ := nI_get g2q.1 g2q.2 (by omega)
    have hp : p < 5 := by omega
    have hq : q < 4 := by omega
    rw [ep, eq]
    refine WQ.st (fun _ _ kz => pw_ldcw kX12_422 dX12_squarest_17 kz) ?_
    refine WQ.st (fun _ _ kz => pw_istore3 dX12_squarest_20 (by decide) (k := kz)) ?_
    refine WQ.st (fun _ _ kz => pw_ldcw kX12_273 dX12_squarest_21 kz) ?_
    refine WQ.st (fun _ _ kz => pw_istore4 dX12_squarest_24 (by decide) (k := kz)) ?_
    refine WQ.st (fun _ _ kz => pw_aload0 dX12_squarest_26 kz) ?_
    obtain ⟨R1, k1, hR1⟩ := c_keepsAny (d := d + 8) (P := P) (S := S) (G := G) (V := (up2 V o 0 0)) (A := A) (B := B) (Q := Q) (t := t) (sl := sl) hF
    refine WQ.st (fun _ _ kz => pw_o0v wX12_keepsAny lX12_296 rfl dX12_squarest_27 hF.1 (k1) rfl (Nat.le_of_ble_eq_true rfl) (Nat.le_of_ble_eq_true rfl) kz) ?_
    refine WQ.st (fun _ _ kz => pw_aload0 dX12_squarest_30 kz) ?_
    refine WQ.st (fun _ _ kz => pw_iload1 dX12_squarest_31 kz) ?_
    refine WQ.st (fun _ _ kz => pw_iload2 dX12_squarest_32 kz) ?_
    have e1 : pm_up A (o + 10) R1 (o + 1) = A (o + 1) := pm_up_ne (by omega)
    obtain ⟨A2, k2, h2⟩ := c_laysGlads (d := d + 4) (P := P) (S := S) (G := G) (V := (up2 (up2 V o 0 0) o 24 0)) (A := (pm_up A (o + 10) R1)) (B := B) (Q := Q) (t := t) (sl := sl) hF hp hq (hA.dv.lgE hq).2 (by rw [e1, (hA.dv.lgE hq).1]; exact ix_n (by have := (hA.dv.lgE hq).2; omega)) (by rw [e1]; exact hA.dv.gl) (by rw [e1]; exact hA.dv.ml)
    have e2 : A2 (o + 1) = A (o + 1) := (h2.1 _ (by omega) (by omega) (by omega)).trans e1
    have e10 : A2 (o + 10) = R1 := (h2.1 _ (by omega) (by omega) (by omega)).trans pm_up_eq
    have hTT : ∀ b l s w, b < lgN (A (o + 1)) q → l < 5 → s < 41 → w < 5 → rT (A2 (o + 7)) b l s w = TT (A (o + 1)) p q b l s w := fun b l s w hb hl hs hw => by
      rw [h2.rT hb hl hs hw, e1]
      rfl
    refine WQ.st (fun _ _ kz => pw_o2v wX12_laysGlads lX12_299 rfl dX12_squarest_33 hF.1 (k2) rfl (Nat.le_of_ble_eq_true rfl) (Nat.le_of_ble_eq_true rfl) kz) ?_
    refine WQ.st (fun _ _ kz => pw_bipush (v := -20) dX12_squarest_36 (by decide) kz) ?_
    refine WQ.st (fun _ _ kz => pw_istore5 dX12_squarest_38 (by decide) (k := kz)) ?_
    rw [show (-20 : Int32) = sI 0 from rfl]
    refine (l_squarest (S := S) (P := P) (G := G) (B := B) (Q := Q) (t := t) (sl := sl) (d := d + 4) hF (V0 := (up2 (up2 V o 0 0) o 24 0)) (A0 := A2) hp hq (hA.dv.lgE hq).2 (hA.kv.stE hp).2 (by rw [e2]; exact (hA.dv.lgE hq).1) (by rw [e2]; exact (hA.kv.stE hp).1) hTT (fun b w hb hw => by rw [e10]; exact rf_k9 (hR1 b (by have := (hA.dv.lgE hq).2; omega))) (fun b l s w _ _ _ _ h => rf_g_in h) 41 0 (-99000001) (-268435456) _ A2 rfl ⟨fun _ _ => rfl, fun _ _ _ => rfl⟩ (fun _ _ _ => rfl)).imp (fun r h' z => ?_)
    obtain ⟨rfl, V3, A3, rfl, f1, f2⟩ := z
    have c0 : sp_squ (A (o + 1)) x.toInt y.toInt = sp_sq (fun g => bsT (A (o + 1)) p q (sI g)) 41 0 (-99000001) (-268435456) := by unfold sp_squ; rw [if_pos c11, tp, tq, Int.toNat_natCast, Int.toNat_natCast]
    rw [← ep, ← eq, c0]
    exact PZ.q (((FP.up (by decide)).tr (FP.up (by decide))).tr ⟨f1.1, f1.2 5 (by decide) (by decide), f1.2 13 (by decide) (by decide), f1.2 14 (by decide) (by decide)⟩) (fun a ha => by rw [f2 a (by omega) (by omega), h2.1 a (by omega) (by omega) (by omega), pm_up_ne (by omega)]) FB.rfl
  · rw [bI_0] at c11
    refine WQ.st (fun _ _ kz => pw_ldc kX12_247 dX12_squarest_14 kz) ?_
    refine ⟨_, _, pw_iret dX12_squarest_16 rfl rfl rfl rfl, ?_⟩
    have c0 : sp_squ (A (o + 1)) x.toInt y.toInt = -99000002 := by unfold sp_squ; rw [if_neg (by rw [c11]; decide)]
    rw [c0]
    exact PZ.q (FP.up (by decide)) FQ.rfl FB.rfl
def sp_ld (T1 T2 : Nat → Int32) (s1 s2 : Nat) : Nat → Nat → Int32 → Int32 → Int32
  | 0, _, b, _ => b
  | m + 1, k, b, mo => if (k ≤ s1 ∧ s2 + k ≤ 40) ∧ (T1 (s1 - k) ≠ -268435456 ∧ T2 (s2 + k) ≠ -268435456) ∧ (b = -1 ∨ mo < T1 (s1 - k) + T2 (s2 + k)) then sp_ld T1 T2 s1 s2 m (k + 1) (nI k) (T1 (s1 - k) + T2 (s2 + k)) else sp_ld T1 T2 s1 s2 m (k + 1) b mo
def lsT (al : Nat → Int32) (p q s : Nat) : Int32 := rf_T (TT al p q) kpA (lgN al q) (rf_e 0) (lgN al q) 2 s
def sp_lds (al : Nat → Int32) (x y z w : Int) : Int32 := if (isP al x && isQ al y) && ((isP al z && isQ al w) && decide (x ≠ z)) then sp_ld (lsT al x.toNat y.toNat) (lsT al z.toNat w.toNat) (stN al x.toNat) (stN al z.toNat) 41 0 (-1) (-268435456) else -99000002
set_option maxRecDepth 20000 in
theorem l_lends1 {G : gT} {d : Nat} {S : sS} {V : sV} {P : sP} {B : sB} {Q : sP} {t sl o : Nat} (hF : MF S P o) {x1 x2 x3 x4 : Int32} {A0 : sV} {Z : Option Value → Ph → Prop} (kf : ∀ A : sV, CPY A0 (o + 18) (0) (o + 8) (82) (41) A → WQ G (d + 1) mX12_lends 78 [some (.ref o), some (.int x1), some (.int x2), some (.int x3), some (.int x4), some (.int (nI (41))), none, none, none, none, none] [] (t, sl, gh S V P A B Q) Z) : ∀ (m k : Nat) (A : sV), k + m = 41 → CPY A0 (o + 18) (0) (o + 8) (82) k A → WQ G (d + 1) mX12_lends 43 [some (.ref o), some (.int x1), some (.int x2), some (.int x3), some (.int x4), some (.int (nI k)), none, none, none, none, none] [] (t, sl, gh S V P A B Q) Z := by
  intro m
  induction m with
  | zero =>
    intro k A hk hC
    have hk : k = 41 := hk
    subst hk
    refine WQ.st (fun _ _ kz => pw_iload5 dX12_lends_43 kz) ?_
    refine WQ.st (fun _ _ kz => pw_bipush (v := 41) dX12_lends_45 (by decide) kz) ?_
    refine WQ.br (fun _ _ ka kb => pw_icmp_ge (tgt := 78) dX12_lends_47 (by decide) ka kb) (fun c47 => ?_) (fun c47 => absurd (by decide) c47)
    exact kf A hC
  | succ m ih =>
    intro k A hk hC
    have kk := ih (k + 1) _ (by omega) (hC.step (Or.inl (by omega)))
    refine WQ.st (fun _ _ kz => pw_iload5 dX12_lends_43 kz) ?_
    refine WQ.st (fun _ _ kz => pw_bipush (v := 41) dX12_lends_45 (by decide) kz) ?_
    refine WQ.br (fun _ _ ka kb => pw_icmp_ge (tgt := 78) dX12_lends_47 (by decide) ka kb) (fun c47 => absurd c47 (by rw [le_i li_41 (ix_n (j := k) (by omega))]; omega)) (fun c47 => ?_)
    refine WQ.st (fun _ _ kz => pw_aload0 dX12_lends_50 kz) ?_
    refine WQ.st (fun _ _ kz => pw_getr gX12_70 dX12_lends_51 hF.1 (mf_p34 hF) kz) ?_
    refine WQ.st (fun _ _ kz => pw_iload5 dX12_lends_54 kz) ?_
    refine WQ.st (fun _ _ kz => pw_aload0 dX12_lends_56 kz) ?_
    refine WQ.st (fun _ _ kz => pw_getr gX12_39 dX12_lends_57 hF.1 (mf_p18 hF) kz) ?_
    refine WQ.st (fun _ _ kz => pw_iconst (v := 0) dX12_lends_60 (by decide) kz) ?_
    refine WQ.st (fun _ _ kz => pw_iconst (v := 0) dX12_lends_61 (by decide) kz) ?_
    refine WQ.st (fun _ _ kz => pw_iload5 dX12_lends_62 kz) ?_
    refine WQ.st (fun _ _ kz => pw_bipush (v := 20) dX12_lends_64 (by decide) kz) ?_
    refine WQ.st (fun _ _ kz => pw_isub dX12_lends_66 kz) ?_
    rw [show nI k - 20 = sI k by unfold sI; rw [iI_nat, show (20 : Int32) = iI 20 from rfl, iI_sub]]
    refine WQ.st (fun _ _ kz => pw_s3i wX12_spot lX12_262 dX12_lends_67 (c_spotI 0 2 k) rfl (Nat.le_of_ble_eq_true rfl) (Nat.le_of_ble_eq_true rfl) kz) ?_
    refine WQ.st (fun _ _ kz => pw_ald (j := 82 + k) dX12_lends_70 (mf_s8 hF) (ix_m (by omega) (by omega)) (by omega) kz) ?_
    refine WQ.st (fun _ _ kz => pw_ast (j := 0 + k) dX12_lends_71 (mf_s18 hF) (ix_m (by omega) (by omega)) (by omega)  kz) ?_
    refine WQ.st (fun _ _ kz => pw_iinc5 (v := 1) dX12_lends_72 (by decide) (by decide) (k := kz)) ?_
    refine WQ.st (fun _ _ kz => pw_goto (tgt := 43) dX12_lends_75 (by decide) kz) ?_
    rw [nI_1]
    exact kk
set_option maxRecDepth 20000 in
theorem l_lends2 {G : gT} {d : Nat} {S : sS} {V : sV} {P : sP} {A : sV} {B : sB} {Q : sP} {t sl o : Nat} (hF : MF S P o) {p q s1 s2 : Nat} (hp : p < 5) (hq : q < 5) (hs1 : s1 < 41) (hs2 : s2 < 41) (h1 : A (o + 1) (77 + p) = sI s1) (h2 : A (o + 1) (77 + q) = sI s2) {T1 T2 : Nat → Int32} (hG1 : ∀ s, s < 41 → A (o + 18) s = T1 s) (hG2 : ∀ s, s < 41 → A (o + 8) (82 + s) = T2 s) {x2 x4 : Int32} : ∀ (m k : Nat) (b mo : Int32) (x8 x9 x10 : Option Value), k + m = 41 → WQ G (d + 3) mX12_lends 98 [some (.ref o), some (.int (nI p)), some (.int x2), some (.int (nI q)), some (.int x4), some (.int b), some (.int mo), some (.int (nI k)), x8, x9, x10] [] (t, sl, gh S V P A B Q) (fun r h' => r = some (.int (sp_ld T1 T2 s1 s2 m k b mo)) ∧ h' = (t, sl, gh S V P A B Q)) := by
  intro m
  induction m with
  | zero =>
    intro k b mo x8 x9 x10 hk
    have hk : k = 41 := hk
    subst hk
    refine WQ.st (fun _ _ kz => pw_iload7 dX12_lends_98 kz) ?_
    refine WQ.st (fun _ _ kz => pw_bipush (v := 40) dX12_lends_100 (by decide) kz) ?_
    refine WQ.br (fun _ _ ka kb => pw_icmp_gt (tgt := 243) dX12_lends_102 (by decide) ka kb) (fun c102 => ?_) (fun c102 => absurd (by decide) c102)
    refine WQ.st (fun _ _ kz => pw_iload5 dX12_lends_243 kz) ?_
    refine ⟨_, _, pw_iret dX12_lends_245 rfl rfl rfl rfl, ?_⟩
    exact ⟨rfl, rfl⟩
  | succ m ih =>
    intro k b mo x8 x9 x10 hk
    refine WQ.st (fun _ _ kz => pw_iload7 dX12_lends_98 kz) ?_
    refine WQ.st (fun _ _ kz => pw_bipush (v := 40) dX12_lends_100 (by decide) kz) ?_
    refine WQ.br (fun _ _ ka kb => pw_icmp_gt (tgt := 243) dX12_lends_102 (by decide) ka kb) (fun c102 => absurd c102 (by rw [lt_i (show (40 : Int32).toInt = 40 by decide) (ix_n (j := k) (by omega))]; omega)) (fun c102 => ?_)
    refine WQ.st (fun _ _ kz => pw_aload0 dX12_lends_105 kz) ?_
    refine WQ.st (fun _ _ kz => pw_getr gX12_13 dX12_lends_106 hF.1 (mf_p1 hF) kz) ?_
    refine WQ.st (fun _ _ kz => pw_bipush (v := 77) dX12_lends_109 (by decide) kz) ?_
    refine WQ.st (fun _ _ kz => pw_iload1 dX12_lends_111 kz) ?_
    refine WQ.st (fun _ _ kz => pw_iadd dX12_lends_112 kz) ?_
    refine WQ.st (fun _ _ kz => pw_ald (j := 77 + p) dX12_lends_113 (mf_s1 hF) (by simp (disch := omega) only [nl_77, nI_add, pk_mul, pk_sub]; exact ix_m (by omega) (by omega)) (by omega) kz) ?_
    rw [h1]
    refine WQ.st (fun _ _ kz => pw_iload7 dX12_lends_114 kz) ?_
    refine WQ.st (fun _ _ kz => pw_isub dX12_lends_116 kz) ?_
    rw [show sI s1 - nI k = iI ((s1 : Int) - 20 - k) by unfold sI; rw [iI_nat, iI_sub]]
    refine WQ.st (fun _ _ kz => pw_istore8 dX12_lends_117 (by decide) (k := kz)) ?_
    refine WQ.st (fun _ _ kz => pw_aload0 dX12_lends_119 kz) ?_
    refine WQ.st (fun _ _ kz => pw_getr gX12_13 dX12_lends_120 hF.1 (mf_p1 hF) kz) ?_
    refine WQ.st (fun _ _ kz => pw_bipush (v := 77) dX12_lends_123 (by decide) kz) ?_
    refine WQ.st (fun _ _ kz => pw_iload3 dX12_lends_125 kz) ?_
    refine WQ.st (fun _ _ kz => pw_iadd dX12_lends_126 kz) ?_
    refine WQ.st (fun _ _ kz => pw_ald (j := 77 + q) dX12_lends_127 (mf_s1 hF) (by simp (disch := omega) only [nl_77, nI_add, pk_mul, pk_sub]; exact ix_m (by omega) (by omega)) (by omega) kz) ?_
    rw [h2]
    refine WQ.st (fun _ _ kz => pw_iload7 dX12_lends_128 kz) ?_
    refine WQ.st (fun _ _ kz => pw_iadd dX12_lends_130 kz) ?_
    rw [show sI s2 + nI k = iI ((s2 : Int) - 20 + k) by unfold sI; rw [iI_nat, iI_add]]
    refine WQ.st (fun _ _ kz => pw_istore9 dX12_lends_131 (by decide) (k := kz)) ?_
    refine WQ.st (fun _ _ kz => pw_iload8 dX12_lends_133 kz) ?_
    refine WQ.st (fun _ _ kz => pw_i2l dX12_lends_135 kz) ?_
    refine WQ.st (fun _ _ kz => pw_s1i wX12_isStore lX12_240 dX12_lends_136 (c_isStoreI _) rfl (Nat.le_of_ble_eq_true rfl) (Nat.le_of_ble_eq_true rfl) kz) ?_
    refine WQ.br (fun _ _ ka kb => pw_if_eq (tgt := 237) dX12_lends_139 (by decide) ka kb) (fun c139 => ?_) (fun c139 => ?_)
    · rw [bI_0] at c139
      rw [il_t, iI_toInt (by omega)] at c139
      have c139 : ¬ (-20 ≤ (s1 : Int) - 20 - k ∧ (s1 : Int) - 20 - k ≤ 20) := of_decide_eq_false c139
      refine WQ.st (fun _ _ kz => pw_iinc7 (v := 1) dX12_lends_237 (by decide) (by decide) (k := kz)) ?_
      refine WQ.st (fun _ _ kz => pw_goto (tgt := 98) dX12_lends_240 (by decide) kz) ?_
      rw [nI_1]
      refine (ih (k + 1) b mo _ _ _ (by omega)).imp (fun r h' z => ?_)
      rw [sp_ld, if_neg (fun q => c139 (by omega))]
      exact z
    · rw [bI_n] at c139
      rw [il_t, iI_toInt (by omega)] at c139
      have c139 : -20 ≤ (s1 : Int) - 20 - k ∧ (s1 : Int) - 20 - k ≤ 20 := of_decide_eq_true c139
      refine WQ.st (fun _ _ kz => pw_iload9 dX12_lends_142 kz) ?_
      refine WQ.st (fun _ _ kz => pw_i2l dX12_lends_144 kz) ?_
      refine WQ.st (fun _ _ kz => pw_s1i wX12_isStore lX12_240 dX12_lends_145 (c_isStoreI _) rfl (Nat.le_of_ble_eq_true rfl) (Nat.le_of_ble_eq_true rfl) kz) ?_
      refine WQ.br (fun _ _ ka kb => pw_if_eq (tgt := 237) dX12_lends_148 (by decide) ka kb) (fun c148 => ?_) (fun c148 => ?_)
      · rw [bI_0] at c148
        rw [il_t, iI_toInt (by omega)] at c148
        have c148 : ¬ (-20 ≤ (s2 : Int) - 20 + k ∧ (s2 : Int) - 20 + k ≤ 20) := of_decide_eq_false c148
        refine WQ.st (fun _ _ kz => pw_iinc7 (v := 1) dX12_lends_237 (by decide) (by decide) (k := kz)) ?_
        refine WQ.st (fun _ _ kz => pw_goto (tgt := 98) dX12_lends_240 (by decide) kz) ?_
        rw [nI_1]
        refine (ih (k + 1) b mo _ _ _ (by omega)).imp (fun r h' z => ?_)
        rw [sp_ld, if_neg (fun q => c148 (by omega))]
        exact z
      · rw [bI_n] at c148
        rw [il_t, iI_toInt (by omega)] at c148
        have c148 : -20 ≤ (s2 : Int) - 20 + k ∧ (s2 : Int) - 20 + k ≤ 20 := of_decide_eq_true c148
        have eown : iI ((s1 : Int) - 20 - k) + 20 = nI (s1 - k) := by rw [show (20 : Int32) = iI 20 from rfl, iI_add, iI_nat]; congr 1; omega
        have eits : iI ((s2 : Int) - 20 + k) = sI (s2 + k) := by unfold sI; congr 1; omega
        refine WQ.st (fun _ _ kz => pw_aload0 dX12_lends_151 kz) ?_
        refine WQ.st (fun _ _ kz => pw_getr gX12_70 dX12_lends_152 hF.1 (mf_p34 hF) kz) ?_
        refine WQ.st (fun _ _ kz => pw_iload8 dX12_lends_155 kz) ?_
        refine WQ.st (fun _ _ kz => pw_bipush (v := 20) dX12_lends_157 (by decide) kz) ?_
        refine WQ.st (fun _ _ kz => pw_iadd dX12_lends_159 kz) ?_
        rw [eown]
        refine WQ.st (fun _ _ kz => pw_ald (j := s1 - k) dX12_lends_160 (mf_s18 hF) (ix_n (by omega)) (by omega) kz) ?_
        rw [hG1 (s1 - k) (by omega)]
        refine WQ.st (fun _ _ kz => pw_ldcw kX12_273 dX12_lends_161 kz) ?_
        refine WQ.br (fun _ _ ka kb => pw_icmp_eq (tgt := 237) dX12_lends_164 (by decide) ka kb) (fun c164 => ?_) (fun c164 => ?_)
        · refine WQ.st (fun _ _ kz => pw_iinc7 (v := 1) dX12_lends_237 (by decide) (by decide) (k := kz)) ?_
          refine WQ.st (fun _ _ kz => pw_goto (tgt := 98) dX12_lends_240 (by decide) kz) ?_
          rw [nI_1]
          refine (ih (k + 1) b mo _ _ _ (by omega)).imp (fun r h' z => ?_)
          rw [sp_ld, if_neg (fun q => q.2.1.1 c164)]
          exact z
        · refine WQ.st (fun _ _ kz => pw_aload0 dX12_lends_167 kz) ?_
          refine WQ.st (fun _ _ kz => pw_getr gX12_39 dX12_lends_168 hF.1 (mf_p18 hF) kz) ?_
          refine WQ.st (fun _ _ kz => pw_iconst (v := 0) dX12_lends_171 (by decide) kz) ?_
          refine WQ.st (fun _ _ kz => pw_iconst (v := 0) dX12_lends_172 (by decide) kz) ?_
          refine WQ.st (fun _ _ kz => pw_iload9 dX12_lends_173 kz) ?_
          rw [eits]
          refine WQ.st (fun _ _ kz => pw_s3i wX12_spot lX12_262 dX12_lends_175 (c_spotI 0 2 (s2 + k)) rfl (Nat.le_of_ble_eq_true rfl) (Nat.le_of_ble_eq_true rfl) kz) ?_
          refine WQ.st (fun _ _ kz => pw_ald (j := 82 + (s2 + k)) dX12_lends_178 (mf_s8 hF) (ix_m (by omega) (by omega)) (by omega) kz) ?_
          rw [hG2 (s2 + k) (by omega)]
          refine WQ.st (fun _ _ kz => pw_ldcw kX12_273 dX12_lends_179 kz) ?_
          refine WQ.bn (fun _ _ ka kb => pw_icmp_ne (tgt := 188) dX12_lends_182 (by decide) ka kb) (fun c182 => ?_) (fun c182 => ?_)
          · refine WQ.st (fun _ _ kz => pw_aload0 dX12_lends_188 kz) ?_
            refine WQ.st (fun _ _ kz => pw_getr gX12_70 dX12_lends_189 hF.1 (mf_p34 hF) kz) ?_
            refine WQ.st (fun _ _ kz => pw_iload8 dX12_lends_192 kz) ?_
            refine WQ.st (fun _ _ kz => pw_bipush (v := 20) dX12_lends_194 (by decide) kz) ?_
            refine WQ.st (fun _ _ kz => pw_iadd dX12_lends_196 kz) ?_
            rw [eown]
            refine WQ.st (fun _ _ kz => pw_ald (j := s1 - k) dX12_lends_197 (mf_s18 hF) (ix_n (by omega)) (by omega) kz) ?_
            rw [hG1 (s1 - k) (by omega)]
            refine WQ.st (fun _ _ kz => pw_aload0 dX12_lends_198 kz) ?_
            refine WQ.st (fun _ _ kz => pw_getr gX12_39 dX12_lends_199 hF.1 (mf_p18 hF) kz) ?_
            refine WQ.st (fun _ _ kz => pw_iconst (v := 0) dX12_lends_202 (by decide) kz) ?_
            refine WQ.st (fun _ _ kz => pw_iconst (v := 0) dX12_lends_203 (by decide) kz) ?_
            refine WQ.st (fun _ _ kz => pw_iload9 dX12_lends_204 kz) ?_
            try rw [eits]
            refine WQ.st (fun _ _ kz => pw_s3i wX12_spot lX12_262 dX12_lends_206 (c_spotI 0 2 (s2 + k)) rfl (Nat.le_of_ble_eq_true rfl) (Nat.le_of_ble_eq_true rfl) kz) ?_
            refine WQ.st (fun _ _ kz => pw_ald (j := 82 + (s2 + k)) dX12_lends_209 (mf_s8 hF) (ix_m (by omega) (by omega)) (by omega) kz) ?_
            rw [hG2 (s2 + k) (by omega)]
            refine WQ.st (fun _ _ kz => pw_iadd dX12_lends_210 kz) ?_
            refine WQ.st (fun _ _ kz => pw_istore10 dX12_lends_211 (by decide) (k := kz)) ?_
            refine WQ.st (fun _ _ kz => pw_iload5 dX12_lends_213 kz) ?_
            refine WQ.st (fun _ _ kz => pw_iconst (v := -1) dX12_lends_215 (by decide) kz) ?_
            refine WQ.br (fun _ _ ka kb => pw_icmp_eq (tgt := 229) dX12_lends_216 (by decide) ka kb) (fun c216 => ?_) (fun c216 => ?_)
            · refine WQ.st (fun _ _ kz => pw_iload7 dX12_lends_229 kz) ?_
              refine WQ.st (fun _ _ kz => pw_istore5 dX12_lends_231 (by decide) (k := kz)) ?_
              refine WQ.st (fun _ _ kz => pw_iload10 dX12_lends_233 kz) ?_
              refine WQ.st (fun _ _ kz => pw_istore6 dX12_lends_235 (by decide) (k := kz)) ?_
              refine WQ.st (fun _ _ kz => pw_iinc7 (v := 1) dX12_lends_237 (by decide) (by decide) (k := kz)) ?_
              refine WQ.st (fun _ _ kz => pw_goto (tgt := 98) dX12_lends_240 (by decide) kz) ?_
              rw [nI_1]
              refine (ih (k + 1) (nI k) (T1 (s1 - k) + T2 (s2 + k)) _ _ _ (by omega)).imp (fun r h' z => ?_)
              rw [sp_ld, if_pos ⟨by omega, ⟨c164, c182⟩, Or.inl c216⟩]
              exact z
            · refine WQ.st (fun _ _ kz => pw_iload10 dX12_lends_219 kz) ?_
              refine WQ.st (fun _ _ kz => pw_iload6 dX12_lends_221 kz) ?_
              refine WQ.br (fun _ _ ka kb => pw_icmp_gt (tgt := 229) dX12_lends_223 (by decide) ka kb) (fun c223 => ?_) (fun c223 => ?_)
              · refine WQ.st (fun _ _ kz => pw_iload7 dX12_lends_229 kz) ?_
                refine WQ.st (fun _ _ kz => pw_istore5 dX12_lends_231 (by decide) (k := kz)) ?_
                refine WQ.st (fun _ _ kz => pw_iload10 dX12_lends_233 kz) ?_
                refine WQ.st (fun _ _ kz => pw_istore6 dX12_lends_235 (by decide) (k := kz)) ?_
                refine WQ.st (fun _ _ kz => pw_iinc7 (v := 1) dX12_lends_237 (by decide) (by decide) (k := kz)) ?_
                refine WQ.st (fun _ _ kz => pw_goto (tgt := 98) dX12_lends_240 (by decide) kz) ?_
                rw [nI_1]
                refine (ih (k + 1) (nI k) (T1 (s1 - k) + T2 (s2 + k)) _ _ _ (by omega)).imp (fun r h' z => ?_)
                rw [sp_ld, if_pos ⟨by omega, ⟨c164, c182⟩, Or.inr c223⟩]
                exact z
              · refine WQ.st (fun _ _ kz => pw_goto (tgt := 237) dX12_lends_226 (by decide) kz) ?_
                refine WQ.st (fun _ _ kz => pw_iinc7 (v := 1) dX12_lends_237 (by decide) (by decide) (k := kz)) ?_
                refine WQ.st (fun _ _ kz => pw_goto (tgt := 98) dX12_lends_240 (by decide) kz) ?_
                rw [nI_1]
                refine (ih (k + 1) b mo _ _ _ (by omega)).imp (fun r h' z => ?_)
                rw [sp_ld, if_neg (fun q => q.2.2.elim c216 c223)]
                exact z
          · refine WQ.st (fun _ _ kz => pw_goto (tgt := 237) dX12_lends_185 (by decide) kz) ?_
            refine WQ.st (fun _ _ kz => pw_iinc7 (v := 1) dX12_lends_237 (by decide) (by decide) (k := kz)) ?_
            refine WQ.st (fun _ _ kz => pw_goto (tgt := 98) dX12_lends_240 (by decide) kz) ?_
            rw [nI_1]
            refine (ih (k + 1) b mo _ _ _ (by omega)).imp (fun r h' z => ?_)
            rw [sp_ld, if_neg (fun q => q.2.1.2 c182)]
            exact z
