/-! ===== the reference: heard, sure, lists ===== -/
set_option maxRecDepth 20000 in
theorem c_heardBy {G : gT} {d : Nat} {S : sS} {V : sV} {P : sP} {A : sV} {B : sB} {Q : sP} {t sl o : Nat} (hF : MF S P o) {al : Nat → Int32} (hal : A (o + 1) = al) (hD : DV al) (hK : KV (al 2).toInt (fun k => al (75 + k))) {tr p q bar : Nat} (htr : tr < 4) (hp : p < 5) (hq : q < 4) (hmn : A (o + 21) tr = nI (lgN al q)) {e w : Int32} (hE : isS e.toInt = true ∨ e.toInt = 99) (hbar : w = 9 ∨ bar < lgN al q) : WQ G (d + 8) mX12_heardBy 0 [some (.ref o), some (.int (nI tr)), some (.int (nI p)), some (.int (nI q)), some (.int e), some (.int (nI bar)), some (.int w), none, none, none] [] (t, sl, gh S V P A B Q) (fun r h' => r = some (.long (lN (hdV al p q (hdF (B (o + 22)) tr) e.toInt bar w))) ∧ ∃ (V' A' : sV) (B' : sB), h' = (t, sl, gh S V' P A' B' Q) ∧ FV o V V' ∧ FA o A A' ∧ FB o B B') := by
  refine WQ.st (fun _ _ kz => pw_aload0 dX12_heardBy_0 kz) ?_
  obtain ⟨R1, k1, hR1⟩ := c_keepsAny (d := d + 7) (P := P) (S := S) (G := G) (V := V) (A := A) (B := B) (Q := Q) (t := t) (sl := sl) hF
  refine WQ.st (fun _ _ kz => pw_o0v wX12_keepsAny lX12_296 rfl dX12_heardBy_1 hF.1 (k1) rfl (Nat.le_of_ble_eq_true rfl) (Nat.le_of_ble_eq_true rfl) kz) ?_
  refine WQ.st (fun _ _ kz => pw_iconst (v := 0) dX12_heardBy_4 (by decide) kz) ?_
  refine WQ.st (fun _ _ kz => pw_istore7 dX12_heardBy_5 (by decide) (k := kz)) ?_
  exact l_heardBy (S := S) (P := P) (G := G) (V := (up2 V o 24 0)) (B := B) (Q := Q) (t := t) (sl := sl) (d := d + 8) hF htr (n := lgN al q) (hD.lgE hq).2 (A0 := (pm_up A (o + 10) R1)) (by rw [pm_up_ne (by omega)]; exact hmn) (fun A1 h1 h2 => by
    refine WQ.st (fun _ _ kz => pw_iload6 dX12_heardBy_44 kz) ?_
    refine WQ.st (fun _ _ kz => pw_bipush (v := 9) dX12_heardBy_46 (by decide) kz) ?_
    refine WQ.br (fun _ _ ka kb => pw_icmp_eq (tgt := 86) dX12_heardBy_48 (by decide) ka kb) (fun c48 => ?_) (fun c48 => ?_)
    · refine (c_heard86 (d := d + 1) (P := P) (S := S) (G := G) (V := (up2 V o 24 0)) (A := A1) (B := B) (Q := Q) (t := t) (sl := sl) hF (by rw [h1 _ (by omega), pm_up_ne (by omega)]; exact hal) hD hK hp hq (f := hdF (B (o + 22)) tr) up2_eq h2 hE).imp (fun r h' z => ?_)
      obtain ⟨rfl, A', B', rfl, m1, m2⟩ := z
      refine ⟨rL ?_, (up2 V o 24 0), A', B', rfl, FV.up (by decide), (fun a ha => by rw [m1 a (by omega), h1 a (by omega), pm_up_ne (by omega)]), m2⟩
      unfold hdV
      rw [if_pos c48]
    · have hbar2 := hbar.resolve_left c48
      have hl12 := (hD.lgE hq).2
      refine WQ.st (fun _ _ kz => pw_aload0 dX12_heardBy_51 kz) ?_
      refine WQ.st (fun _ _ kz => pw_getr gX12_45 dX12_heardBy_52 hF.1 (mf_p23 hF) kz) ?_
      refine WQ.st (fun _ _ kz => pw_iload5 dX12_heardBy_55 kz) ?_
      refine WQ.st (fun _ _ kz => pw_ald (j := bar) dX12_heardBy_57 (mf_s10 hF) (ix_m rfl (by omega)) (by have := hbar.resolve_left c48; have := (hD.lgE hq).2; omega) kz) ?_
      rw [h2 bar (hbar.resolve_left c48)]
      refine WQ.st (fun _ _ kz => pw_bipush (v := 9) dX12_heardBy_58 (by decide) kz) ?_
      refine WQ.br (fun _ _ ka kb => pw_icmp_eq (tgt := 77) dX12_heardBy_60 (by decide) ka kb) (fun c60 => ?_) (fun c60 => ?_)
      · refine WQ.st (fun _ _ kz => pw_aload0 dX12_heardBy_77 kz) ?_
        refine WQ.st (fun _ _ kz => pw_getr gX12_45 dX12_heardBy_78 hF.1 (mf_p23 hF) kz) ?_
        refine WQ.st (fun _ _ kz => pw_iload5 dX12_heardBy_81 kz) ?_
        refine WQ.st (fun _ _ kz => pw_iload6 dX12_heardBy_83 kz) ?_
        refine WQ.st (fun _ _ kz => pw_ast (j := bar) dX12_heardBy_85 (mf_s10 hF) (ix_m rfl (by omega)) (by have := hbar.resolve_left c48; have := (hD.lgE hq).2; omega)  kz) ?_
        have hfu : ∀ b, b < lgN al q → up2 A1 (o + 10) bar w (o + 10) b = pm_up (hdF (B (o + 22)) tr) bar w b := fun b hb => by
          rw [up2_at]
          unfold pm_up
          by_cases e9 : b = bar
          · rw [if_pos e9, if_pos e9]
          · rw [if_neg e9, if_neg e9]
            exact h2 b hb
        refine (c_heard86 (d := d + 1) (P := P) (S := S) (G := G) (V := (up2 V o 24 0)) (A := (up2 A1 (o + 10) bar w)) (B := B) (Q := Q) (t := t) (sl := sl) hF (by rw [up2_na (by omega), h1 _ (by omega), pm_up_ne (by omega)]; exact hal) hD hK hp hq (f := pm_up (hdF (B (o + 22)) tr) bar w) up2_eq hfu hE).imp (fun r h' z => ?_)
        obtain ⟨rfl, A', B', rfl, m1, m2⟩ := z
        refine ⟨rL ?_, (up2 V o 24 0), A', B', rfl, FV.up (by decide), (fun a ha => by rw [m1 a (by omega), up2_na (by omega), h1 a (by omega), pm_up_ne (by omega)]), m2⟩
        unfold hdV
        rw [if_neg c48, if_neg (fun q => q.1 c60)]
      · refine WQ.st (fun _ _ kz => pw_aload0 dX12_heardBy_63 kz) ?_
        refine WQ.st (fun _ _ kz => pw_getr gX12_45 dX12_heardBy_64 hF.1 (mf_p23 hF) kz) ?_
        refine WQ.st (fun _ _ kz => pw_iload5 dX12_heardBy_67 kz) ?_
        refine WQ.st (fun _ _ kz => pw_ald (j := bar) dX12_heardBy_69 (mf_s10 hF) (ix_m rfl (by omega)) (by have := hbar.resolve_left c48; have := (hD.lgE hq).2; omega) kz) ?_
        rw [h2 bar (hbar.resolve_left c48)]
        refine WQ.st (fun _ _ kz => pw_iload6 dX12_heardBy_70 kz) ?_
        refine WQ.br (fun _ _ ka kb => pw_icmp_eq (tgt := 77) dX12_heardBy_72 (by decide) ka kb) (fun c72 => ?_) (fun c72 => ?_)
        · refine WQ.st (fun _ _ kz => pw_aload0 dX12_heardBy_77 kz) ?_
          refine WQ.st (fun _ _ kz => pw_getr gX12_45 dX12_heardBy_78 hF.1 (mf_p23 hF) kz) ?_
          refine WQ.st (fun _ _ kz => pw_iload5 dX12_heardBy_81 kz) ?_
          refine WQ.st (fun _ _ kz => pw_iload6 dX12_heardBy_83 kz) ?_
          refine WQ.st (fun _ _ kz => pw_ast (j := bar) dX12_heardBy_85 (mf_s10 hF) (ix_m rfl (by omega)) (by have := hbar.resolve_left c48; have := (hD.lgE hq).2; omega)  kz) ?_
          have hfu : ∀ b, b < lgN al q → up2 A1 (o + 10) bar w (o + 10) b = pm_up (hdF (B (o + 22)) tr) bar w b := fun b hb => by
            rw [up2_at]
            unfold pm_up
            by_cases e9 : b = bar
            · rw [if_pos e9, if_pos e9]
            · rw [if_neg e9, if_neg e9]
              exact h2 b hb
          refine (c_heard86 (d := d + 1) (P := P) (S := S) (G := G) (V := (up2 V o 24 0)) (A := (up2 A1 (o + 10) bar w)) (B := B) (Q := Q) (t := t) (sl := sl) hF (by rw [up2_na (by omega), h1 _ (by omega), pm_up_ne (by omega)]; exact hal) hD hK hp hq (f := pm_up (hdF (B (o + 22)) tr) bar w) up2_eq hfu hE).imp (fun r h' z => ?_)
          obtain ⟨rfl, A', B', rfl, m1, m2⟩ := z
          refine ⟨rL ?_, (up2 V o 24 0), A', B', rfl, FV.up (by decide), (fun a ha => by rw [m1 a (by omega), up2_na (by omega), h1 a (by omega), pm_up_ne (by omega)]), m2⟩
          unfold hdV
          rw [if_neg c48, if_neg (fun q => q.2 c72)]
        · refine WQ.st (fun _ _ kz => pw_lconst (v := 0) dX12_heardBy_75 (by decide) kz) ?_
          refine ⟨_, _, pw_lret dX12_heardBy_76 rfl rfl rfl, ?_⟩
          refine ⟨rL ?_, (up2 V o 24 0), A1, B, rfl, FV.up (by decide), fun a ha => by rw [h1 a (by omega), pm_up_ne (by omega)], FB.rfl⟩
          unfold hdV
          rw [if_neg c48, if_pos ⟨c60, c72⟩]
          rfl) _ 0 _ (Nat.zero_add _) (fun _ _ => rfl) (fun i hi => absurd hi (Nat.not_lt_zero i))
def sp_heard (al so mn : Nat → Int32) (nb : Nat → Int64) (x y z e : Int) : Int64 := if sp_nh al so mn nb x y z = 0 then (if isE e then lN (hdN al y.toNat z.toNat (hdF nb x.toNat) e) else -99000003) else (sp_nh al so mn nb x y z).toInt64
theorem isE_or {x : Int} (h : isE x = true) : isS x = true ∨ x = 99 := by
  unfold isE at h
  rw [Bool.or_eq_true, decide_eq_true_eq] at h
  exact h
set_option maxRecDepth 20000 in
theorem p_heard {G : gT} {d : Nat} {S : sS} {V : sV} {P : sP} {A : sV} {B : sB} {Q : sP} {t sl o : Nat} (hF : MF S P o) (hA : AV (A (o + 1)))  (x y z e : Int32) : WQ G (d + 9) mX12_heard 0 [some (.ref o), some (.int x), some (.int y), some (.int z), some (.int e), none] [] (t, sl, gh S V P A B Q) (PZ o S P Q t sl V A B (.long (sp_heard (A (o + 1)) (A (o + 20)) (A (o + 21)) (B (o + 22)) x.toInt y.toInt z.toInt e.toInt)) (A (o + 1))) := by
  refine WQ.st (fun _ _ kz => pw_aload0 dX12_heard_0 kz) ?_
  refine WQ.st (fun _ _ kz => pw_iconst (v := 0) dX12_heard_1 (by decide) kz) ?_
  refine WQ.st (fun _ _ kz => pw_puti (pX12_1 _ rfl) dX12_heard_2 hF.1 rfl rfl kz) ?_
  refine WQ.st (fun _ _ kz => pw_aload0 dX12_heard_5 kz) ?_
  refine WQ.st (fun _ _ kz => pw_iload1 dX12_heard_6 kz) ?_
  refine WQ.st (fun _ _ kz => pw_iload2 dX12_heard_7 kz) ?_
  refine WQ.st (fun _ _ kz => pw_iload3 dX12_heard_8 kz) ?_
  obtain ⟨_, _, k0, rfl, rfl⟩ := c_noHeard (d := d + 5) (P := P) (S := S) (G := G) (V := (up2 V o 0 0)) (A := A) (B := B) (Q := Q) (t := t) (sl := sl) hF hA.dv x y z
  refine WQ.st (fun _ _ kz => pw_o3i wX12_noHeard lX12_474 rfl dX12_heard_9 hF.1 (k0) rfl (Nat.le_of_ble_eq_true rfl) (Nat.le_of_ble_eq_true rfl) kz) ?_
  refine WQ.st (fun _ _ kz => pw_istore5 dX12_heard_12 (by decide) (k := kz)) ?_
  refine WQ.st (fun _ _ kz => pw_iload5 dX12_heard_14 kz) ?_
  refine WQ.br (fun _ _ ka kb => pw_if_eq (tgt := 23) dX12_heard_16 (by decide) ka kb) (fun c16 => ?_) (fun c16 => ?_)
  · obtain ⟨tr, p, q, et, tt, htr, ep, tp, hp, eq, tq, hq, hmn, hnb, hPy, hQz⟩ := nh_0 hA.dv c16
    refine WQ.st (fun _ _ kz => pw_iload4 dX12_heard_23 kz) ?_
    obtain ⟨_, _, k5, rfl, rfl⟩ := c_isEnd (G := G) (d := d + 6) (h := (t, sl, gh S (up2 V o 0 0) P A B Q)) e
    refine WQ.st (fun _ _ kz => pw_s1i wX12_isEnd lX12_477 dX12_heard_25 (k5) rfl (Nat.le_of_ble_eq_true rfl) (Nat.le_of_ble_eq_true rfl) kz) ?_
    refine WQ.br (fun _ _ ka kb => pw_if_eq (tgt := 46) dX12_heard_28 (by decide) ka kb) (fun c28 => ?_) (fun c28 => ?_)
    · rw [bI_0] at c28
      refine WQ.st (fun _ _ kz => pw_ldc2 kX12_438 dX12_heard_46 kz) ?_
      refine ⟨_, _, pw_lret dX12_heard_49 rfl rfl rfl, ?_⟩
      have c0 : sp_heard (A (o + 1)) (A (o + 20)) (A (o + 21)) (B (o + 22)) x.toInt y.toInt z.toInt e.toInt = -99000003 := by unfold sp_heard; rw [if_pos c16, if_neg (by rw [c28]; decide)]
      rw [c0]
      exact PZ.q (FP.up (by decide)) FQ.rfl FB.rfl
    · rw [bI_n] at c28
      rw [et, ep, eq]
      refine WQ.st (fun _ _ kz => pw_aload0 dX12_heard_31 kz) ?_
      refine WQ.st (fun _ _ kz => pw_iload1 dX12_heard_32 kz) ?_
      refine WQ.st (fun _ _ kz => pw_iload2 dX12_heard_33 kz) ?_
      refine WQ.st (fun _ _ kz => pw_iload3 dX12_heard_34 kz) ?_
      refine WQ.st (fun _ _ kz => pw_iload4 dX12_heard_35 kz) ?_
      refine WQ.st (fun _ _ kz => pw_iconst (v := 0) dX12_heard_37 (by decide) kz) ?_
      refine WQ.st (fun _ _ kz => pw_bipush (v := 9) dX12_heard_38 (by decide) kz) ?_
      obtain ⟨_, _, k6, rfl, V3, A3, B3, rfl, f1, f2, f3⟩ := c_heardBy (d := d) (P := P) (S := S) (G := G) (V := (up2 V o 0 0)) (A := A) (B := B) (Q := Q) (t := t) (sl := sl) hF rfl hA.dv hA.kv (bar := 0) htr hp hq hmn (e := e) (w := 9) (isE_or c28) (Or.inl rfl)
      refine WQ.st (fun _ _ kz => pw_o6i wX12_heardBy lX12_480 rfl dX12_heard_40 hF.1 (k6) rfl (Nat.le_of_ble_eq_true rfl) (Nat.le_of_ble_eq_true rfl) kz) ?_
      refine WQ.st (fun _ _ kz => pw_goto (tgt := 49) dX12_heard_43 (by decide) kz) ?_
      refine ⟨_, _, pw_lret dX12_heard_49 rfl rfl rfl, ?_⟩
      have c0 : sp_heard (A (o + 1)) (A (o + 20)) (A (o + 21)) (B (o + 22)) x.toInt y.toInt z.toInt e.toInt = lN (hdN (A (o + 1)) p q (hdF (B (o + 22)) tr) e.toInt) := by unfold sp_heard; rw [if_pos c16, if_pos c28, tt, tp, tq, Int.toNat_natCast, Int.toNat_natCast, Int.toNat_natCast]
      rw [← et, ← ep, ← eq, c0]
      rw [show hdV (A (o + 1)) p q (hdF (B (o + 22)) tr) e.toInt 0 9 = hdN (A (o + 1)) p q (hdF (B (o + 22)) tr) e.toInt by unfold hdV; rw [if_pos rfl]]
      exact PZ.q ((FP.up (by decide)).tr f1.FP) f2.FQ f3
  · refine WQ.st (fun _ _ kz => pw_iload5 dX12_heard_19 kz) ?_
    refine WQ.st (fun _ _ kz => pw_i2l dX12_heard_21 kz) ?_
    refine ⟨_, _, pw_lret dX12_heard_22 rfl rfl rfl, ?_⟩
    have c0 : sp_heard (A (o + 1)) (A (o + 20)) (A (o + 21)) (B (o + 22)) x.toInt y.toInt z.toInt e.toInt = (sp_nh (A (o + 1)) (A (o + 20)) (A (o + 21)) (B (o + 22)) x.toInt y.toInt z.toInt).toInt64 := by unfold sp_heard; rw [if_neg c16]
    rw [c0]
    exact PZ.q (FP.up (by decide)) FQ.rfl FB.rfl
def srL (f : Nat → Nat) (wh : Nat) : Nat → Nat → Int32
  | 0, _ => 9
  | m + 1, w => if f w = wh then dI w else srL f wh m (w + 1)
def sp_sure (al so mn : Nat → Int32) (nb : Nat → Int64) (x y z e b : Int) : Int32 := if sp_nh al so mn nb x y z = 0 then (if isE e then (if isB al z b then (if hdN al y.toNat z.toNat (hdF nb x.toNat) e = 0 then 9 else srL (fun w => hdV al y.toNat z.toNat (hdF nb x.toNat) e b.toNat (dI w)) (hdN al y.toNat z.toNat (hdF nb x.toNat) e) 5 0) else -99000007) else -99000003) else sp_nh al so mn nb x y z
theorem hdV_le (al : Nat → Int32) (p q : Nat) (f : Nat → Int32) (e : Int) (b : Nat) (w : Int32) (h : lgN al q ≤ 12) : hdV al p q f e b w ≤ 50048828125 := by
  unfold hdV
  by_cases h9 : w = 9
  · rw [if_pos h9]
    exact hdN_le _ _ _ _ _ h
  · rw [if_neg h9]
    by_cases h2 : f b ≠ 9 ∧ f b ≠ w
    · rw [if_pos h2]
      exact Nat.zero_le _
    · rw [if_neg h2]
      exact hdN_le _ _ _ _ _ h
set_option maxRecDepth 20000 in
theorem l_sure {G : gT} {d : Nat} {S : sS} {P : sP} {Q : sP} {t sl o : Nat} (hF : MF S P o) {V0 A0 : sV} {B0 : sB} {al : Nat → Int32} (hal : A0 (o + 1) = al) (hD : DV al) (hK : KV (al 2).toInt (fun k => al (75 + k))) {tr p q bar wh : Nat} (htr : tr < 4) (hp : p < 5) (hq : q < 4) (hmn : A0 (o + 21) tr = nI (lgN al q)) {e x6 : Int32} (hE : isS e.toInt = true ∨ e.toInt = 99) (hbar : bar < lgN al q) (hw0 : wh ≠ 0) (hwl : wh ≤ 50048828125) : ∀ (m w : Nat) (V A : sV) (B : sB), w + m = 5 → FV o V0 V → FA o A0 A → FB o B0 B → WQ G (d + 9) mX12_sure 65 [some (.ref o), some (.int (nI tr)), some (.int (nI p)), some (.int (nI q)), some (.int e), some (.int (nI bar)), some (.int x6), some (.long (lN wh)), none, some (.int (dI w))] [] (t, sl, gh S V P A B Q) (fun r h' => r = some (.int (srL (fun w => hdV al p q (hdF (B0 (o + 22)) tr) e.toInt bar (dI w)) wh m w)) ∧ ∃ (V' A' : sV) (B' : sB), h' = (t, sl, gh S V' P A' B' Q) ∧ FV o V0 V' ∧ FA o A0 A' ∧ FB o B0 B') := by
  intro m
  induction m with
  | zero =>
    intro w V A B hk hV hA0 hB
    have hk : w = 5 := hk
    subst hk
    refine WQ.st (fun _ _ kz => pw_iload9 dX12_sure_65 kz) ?_
    refine WQ.st (fun _ _ kz => pw_iconst (v := 2) dX12_sure_67 (by decide) kz) ?_
    refine WQ.br (fun _ _ ka kb => pw_icmp_gt (tgt := 106) dX12_sure_68 (by decide) ka kb) (fun c68 => ?_) (fun c68 => absurd (by decide) c68)
    refine WQ.st (fun _ _ kz => pw_bipush (v := 9) dX12_sure_106 (by decide) kz) ?_
    refine ⟨_, _, pw_iret dX12_sure_108 rfl rfl rfl rfl, ?_⟩
    exact ⟨rfl, V, A, B, rfl, hV, hA0, hB⟩
  | succ m ih =>
    intro w V A B hk hV hA0 hB
    refine WQ.st (fun _ _ kz => pw_iload9 dX12_sure_65 kz) ?_
    refine WQ.st (fun _ _ kz => pw_iconst (v := 2) dX12_sure_67 (by decide) kz) ?_
    refine WQ.br (fun _ _ ka kb => pw_icmp_gt (tgt := 106) dX12_sure_68 (by decide) ka kb) (fun c68 => absurd c68 (by rw [lt_i (show (2 : Int32).toInt = 2 by decide) (dI_t (by omega))]; omega)) (fun c68 => ?_)
    refine WQ.st (fun _ _ kz => pw_lload7 dX12_sure_71 kz) ?_
    refine WQ.st (fun _ _ kz => pw_lconst (v := 0) dX12_sure_73 (by decide) kz) ?_
    refine WQ.st (fun _ _ kz => pw_lcmp dX12_sure_74 kz) ?_
    refine WQ.br (fun _ _ ka kb => pw_if_le (tgt := 106) dX12_sure_75 (by decide) ka kb) (fun c75 => absurd c75 (by rw [lg_cmp_le, lN_z (by omega)]; omega)) (fun c75 => ?_)
    refine WQ.st (fun _ _ kz => pw_aload0 dX12_sure_78 kz) ?_
    refine WQ.st (fun _ _ kz => pw_iload1 dX12_sure_79 kz) ?_
    refine WQ.st (fun _ _ kz => pw_iload2 dX12_sure_80 kz) ?_
    refine WQ.st (fun _ _ kz => pw_iload3 dX12_sure_81 kz) ?_
    refine WQ.st (fun _ _ kz => pw_iload4 dX12_sure_82 kz) ?_
    refine WQ.st (fun _ _ kz => pw_iload5 dX12_sure_84 kz) ?_
    refine WQ.st (fun _ _ kz => pw_iload9 dX12_sure_86 kz) ?_
    obtain ⟨_, _, k6, rfl, V3, A3, B3, rfl, f1, f2, f3⟩ := c_heardBy (d := d) (P := P) (S := S) (G := G) (V := V) (A := A) (B := B) (Q := Q) (t := t) (sl := sl) hF (al := al) (by rw [hA0 _ (by omega)]; exact hal) hD hK (bar := bar) htr hp hq (by rw [hA0 _ (by omega)]; exact hmn) (e := e) (w := dI w) hE (Or.inr hbar)
    rw [hB (o + 22) (by omega) (by omega)] at k6
    have hle := hdV_le al p q (hdF (B0 (o + 22)) tr) e.toInt bar (dI w) (hD.lgE hq).2
    refine WQ.st (fun _ _ kz => pw_o6i wX12_heardBy lX12_480 rfl dX12_sure_88 hF.1 (k6) rfl (Nat.le_of_ble_eq_true rfl) (Nat.le_of_ble_eq_true rfl) kz) ?_
    refine WQ.st (fun _ _ kz => pw_lload7 dX12_sure_91 kz) ?_
    refine WQ.st (fun _ _ kz => pw_lcmp dX12_sure_93 kz) ?_
    refine WQ.bn (fun _ _ ka kb => pw_if_ne (tgt := 100) dX12_sure_94 (by decide) ka kb) (fun c94 => ?_) (fun c94 => ?_)
    · rw [lg_cmp_eq, lN_inj (by omega) (by omega)] at c94
      refine WQ.st (fun _ _ kz => pw_iinc9 (v := 1) dX12_sure_100 (by decide) (by decide) (k := kz)) ?_
      refine WQ.st (fun _ _ kz => pw_goto (tgt := 65) dX12_sure_103 (by decide) kz) ?_
      rw [dI_1]
      refine (ih (w + 1) V3 A3 B3 (by omega) (hV.tr f1) (hA0.tr f2) (hB.tr f3)).imp (fun r h' z => ?_)
      rw [srL, if_neg c94]
      exact z
    · rw [lg_cmp_eq, lN_inj (by omega) (by omega)] at c94
      refine WQ.st (fun _ _ kz => pw_iload9 dX12_sure_97 kz) ?_
      refine ⟨_, _, pw_iret dX12_sure_99 rfl rfl rfl rfl, ?_⟩
      rw [srL, if_pos c94]
      exact ⟨rfl, V3, A3, B3, rfl, hV.tr f1, hA0.tr f2, hB.tr f3⟩
set_option maxRecDepth 20000 in
theorem p_sure {G : gT} {d : Nat} {S : sS} {V : sV} {P : sP} {A : sV} {B : sB} {Q : sP} {t sl o : Nat} (hF : MF S P o) (hA : AV (A (o + 1)))  (x y z e b : Int32) : WQ G (d + 10) mX12_sure 0 [some (.ref o), some (.int x), some (.int y), some (.int z), some (.int e), some (.int b), none, none, none, none] [] (t, sl, gh S V P A B Q) (PZ o S P Q t sl V A B (.int (sp_sure (A (o + 1)) (A (o + 20)) (A (o + 21)) (B (o + 22)) x.toInt y.toInt z.toInt e.toInt b.toInt)) (A (o + 1))) := by
  refine WQ.st (fun _ _ kz => pw_aload0 dX12_sure_0 kz) ?_
  refine WQ.st (fun _ _ kz => pw_iconst (v := 0) dX12_sure_1 (by decide) kz) ?_
  refine WQ.st (fun _ _ kz => pw_puti (pX12_1 _ rfl) dX12_sure_2 hF.1 rfl rfl kz) ?_
  refine WQ.st (fun _ _ kz => pw_aload0 dX12_sure_5 kz) ?_
  refine WQ.st (fun _ _ kz => pw_iload1 dX12_sure_6 kz) ?_
  refine WQ.st (fun _ _ kz => pw_iload2 dX12_sure_7 kz) ?_
  refine WQ.st (fun _ _ kz => pw_iload3 dX12_sure_8 kz) ?_
  obtain ⟨_, _, k0, rfl, rfl⟩ := c_noHeard (d := d + 6) (P := P) (S := S) (G := G) (V := (up2 V o 0 0)) (A := A) (B := B) (Q := Q) (t := t) (sl := sl) hF hA.dv x y z
  refine WQ.st (fun _ _ kz => pw_o3i wX12_noHeard lX12_474 rfl dX12_sure_9 hF.1 (k0) rfl (Nat.le_of_ble_eq_true rfl) (Nat.le_of_ble_eq_true rfl) kz) ?_
  refine WQ.st (fun _ _ kz => pw_istore6 dX12_sure_12 (by decide) (k := kz)) ?_
  refine WQ.st (fun _ _ kz => pw_iload6 dX12_sure_14 kz) ?_
  refine WQ.br (fun _ _ ka kb => pw_if_eq (tgt := 22) dX12_sure_16 (by decide) ka kb) (fun c16 => ?_) (fun c16 => ?_)
  · obtain ⟨tr, p, q, et, tt, htr, ep, tp, hp, eq, tq, hq, hmn, hnb, hPy, hQz⟩ := nh_0 hA.dv c16
    refine WQ.st (fun _ _ kz => pw_iload4 dX12_sure_22 kz) ?_
    obtain ⟨_, _, k5, rfl, rfl⟩ := c_isEnd (G := G) (d := d + 7) (h := (t, sl, gh S (up2 V o 0 0) P A B Q)) e
    refine WQ.st (fun _ _ kz => pw_s1i wX12_isEnd lX12_477 dX12_sure_24 (k5) rfl (Nat.le_of_ble_eq_true rfl) (Nat.le_of_ble_eq_true rfl) kz) ?_
    refine WQ.bn (fun _ _ ka kb => pw_if_ne (tgt := 33) dX12_sure_27 (by decide) ka kb) (fun c27 => ?_) (fun c27 => ?_)
    · rw [bI_n] at c27
      refine WQ.st (fun _ _ kz => pw_aload0 dX12_sure_33 kz) ?_
      refine WQ.st (fun _ _ kz => pw_iload3 dX12_sure_34 kz) ?_
      refine WQ.st (fun _ _ kz => pw_iload5 dX12_sure_35 kz) ?_
      obtain ⟨_, _, k7, rfl, rfl⟩ := c_isBar (d := d + 7) (P := P) (S := S) (G := G) (V := (up2 V o 0 0)) (A := A) (B := B) (Q := Q) (t := t) (sl := sl) hF hA.dv z b
      refine WQ.st (fun _ _ kz => pw_o2i wX12_isBar lX12_251 rfl dX12_sure_37 hF.1 (k7) rfl (Nat.le_of_ble_eq_true rfl) (Nat.le_of_ble_eq_true rfl) kz) ?_
      refine WQ.bn (fun _ _ ka kb => pw_if_ne (tgt := 47) dX12_sure_40 (by decide) ka kb) (fun c40 => ?_) (fun c40 => ?_)
      · rw [bI_n] at c40
        obtain ⟨q2, bar, eq2, tq2, hq2, eb, tb, hb12, hbl, hQ2⟩ := isB_t hA.dv c40
        have hqq : q2 = q := by omega
        subst hqq
        rw [et, ep, eq, eb]
        refine WQ.st (fun _ _ kz => pw_aload0 dX12_sure_47 kz) ?_
        refine WQ.st (fun _ _ kz => pw_iload1 dX12_sure_48 kz) ?_
        refine WQ.st (fun _ _ kz => pw_iload2 dX12_sure_49 kz) ?_
        refine WQ.st (fun _ _ kz => pw_iload3 dX12_sure_50 kz) ?_
        refine WQ.st (fun _ _ kz => pw_iload4 dX12_sure_51 kz) ?_
        refine WQ.st (fun _ _ kz => pw_iconst (v := 0) dX12_sure_53 (by decide) kz) ?_
        refine WQ.st (fun _ _ kz => pw_bipush (v := 9) dX12_sure_54 (by decide) kz) ?_
        obtain ⟨_, _, k6, rfl, V3, A3, B3, rfl, f1, f2, f3⟩ := c_heardBy (d := d + 1) (P := P) (S := S) (G := G) (V := (up2 V o 0 0)) (A := A) (B := B) (Q := Q) (t := t) (sl := sl) hF rfl hA.dv hA.kv (bar := 0) htr hp hq hmn (e := e) (w := 9) (isE_or c27) (Or.inl rfl)
        rw [show hdV (A (o + 1)) p q2 (hdF (B (o + 22)) tr) e.toInt 0 9 = (hdN (A (o + 1)) p q2 (hdF (B (o + 22)) tr) e.toInt) by unfold hdV; rw [if_pos rfl]] at k6
        refine WQ.st (fun _ _ kz => pw_o6i wX12_heardBy lX12_480 rfl dX12_sure_56 hF.1 (k6) rfl (Nat.le_of_ble_eq_true rfl) (Nat.le_of_ble_eq_true rfl) kz) ?_
        refine WQ.st (fun _ _ kz => pw_lstore7 dX12_sure_59 (by decide) (k := kz)) ?_
        refine WQ.st (fun _ _ kz => pw_bipush (v := -2) dX12_sure_61 (by decide) kz) ?_
        rw [show (-2 : Int32) = dI 0 from rfl]
        refine WQ.st (fun _ _ kz => pw_istore9 dX12_sure_63 (by decide) (k := kz)) ?_
        have hwl := hdN_le (A (o + 1)) p q2 (hdF (B (o + 22)) tr) e.toInt (hA.dv.lgE hq).2
        by_cases hw0 : (hdN (A (o + 1)) p q2 (hdF (B (o + 22)) tr) e.toInt) = 0
        · rw [hw0]
          refine WQ.st (fun _ _ kz => pw_iload9 dX12_sure_65 kz) ?_
          refine WQ.st (fun _ _ kz => pw_iconst (v := 2) dX12_sure_67 (by decide) kz) ?_
          refine WQ.br (fun _ _ ka kb => pw_icmp_gt (tgt := 106) dX12_sure_68 (by decide) ka kb) (fun c68 => absurd c68 (by decide)) (fun c68 => ?_)
          refine WQ.st (fun _ _ kz => pw_lload7 dX12_sure_71 kz) ?_
          refine WQ.st (fun _ _ kz => pw_lconst (v := 0) dX12_sure_73 (by decide) kz) ?_
          refine WQ.st (fun _ _ kz => pw_lcmp dX12_sure_74 kz) ?_
          refine WQ.br (fun _ _ ka kb => pw_if_le (tgt := 106) dX12_sure_75 (by decide) ka kb) (fun c75 => ?_) (fun c75 => absurd (by decide) c75)
          refine WQ.st (fun _ _ kz => pw_bipush (v := 9) dX12_sure_106 (by decide) kz) ?_
          refine ⟨_, _, pw_iret dX12_sure_108 rfl rfl rfl rfl, ?_⟩
          have c0 : sp_sure (A (o + 1)) (A (o + 20)) (A (o + 21)) (B (o + 22)) x.toInt y.toInt z.toInt e.toInt b.toInt = 9 := by unfold sp_sure; rw [if_pos c16, if_pos c27, if_pos c40, tt, tp, tq, tb, Int.toNat_natCast, Int.toNat_natCast, Int.toNat_natCast, Int.toNat_natCast, if_pos hw0]
          rw [← et, ← ep, ← eq, ← eb, c0]
          exact PZ.q ((FP.up (by decide)).tr f1.FP) f2.FQ f3
        refine (l_sure (S := S) (P := P) (G := G) (Q := Q) (t := t) (sl := sl) (d := d + 1) hF (V0 := V3) (A0 := A3) (B0 := B3) (al := A (o + 1)) (f2 _ (by omega)) hA.dv hA.kv (wh := (hdN (A (o + 1)) p q2 (hdF (B (o + 22)) tr) e.toInt)) htr hp hq (by rw [f2 _ (by omega)]; exact hmn) (isE_or c27) hbl hw0 hwl 5 0 V3 A3 B3 rfl FV.rfl FA.rfl FB.rfl).imp (fun r h' zz => ?_)
        obtain ⟨rfl, V4, A4, B4, rfl, g1, g2, g3⟩ := zz
        rw [f3 (o + 22) (by omega) (by omega)]
        have c0 : sp_sure (A (o + 1)) (A (o + 20)) (A (o + 21)) (B (o + 22)) x.toInt y.toInt z.toInt e.toInt b.toInt = srL (fun w => hdV (A (o + 1)) p q2 (hdF (B (o + 22)) tr) e.toInt bar (dI w)) (hdN (A (o + 1)) p q2 (hdF (B (o + 22)) tr) e.toInt) 5 0 := by unfold sp_sure; rw [if_pos c16, if_pos c27, if_pos c40, tt, tp, tq, tb, Int.toNat_natCast, Int.toNat_natCast, Int.toNat_natCast, Int.toNat_natCast, if_neg hw0]
        rw [← et, ← ep, ← eq, ← eb, c0]
        exact PZ.q (((FP.up (by decide)).tr f1.FP).tr g1.FP) (f2.FQ.tr g2.FQ) (f3.tr g3)
      · rw [bI_0] at c40
        refine WQ.st (fun _ _ kz => pw_ldcw kX12_484 dX12_sure_43 kz) ?_
        refine ⟨_, _, pw_iret dX12_sure_46 rfl rfl rfl rfl, ?_⟩
        have c0 : sp_sure (A (o + 1)) (A (o + 20)) (A (o + 21)) (B (o + 22)) x.toInt y.toInt z.toInt e.toInt b.toInt = -99000007 := by unfold sp_sure; rw [if_pos c16, if_pos c27, if_neg (by rw [c40]; decide)]
        rw [c0]
        exact PZ.q (FP.up (by decide)) FQ.rfl FB.rfl
    · rw [bI_0] at c27
      refine WQ.st (fun _ _ kz => pw_ldc kX12_206 dX12_sure_30 kz) ?_
      refine ⟨_, _, pw_iret dX12_sure_32 rfl rfl rfl rfl, ?_⟩
      have c0 : sp_sure (A (o + 1)) (A (o + 20)) (A (o + 21)) (B (o + 22)) x.toInt y.toInt z.toInt e.toInt b.toInt = -99000003 := by unfold sp_sure; rw [if_pos c16, if_neg (by rw [c27]; decide)]
      rw [c0]
      exact PZ.q (FP.up (by decide)) FQ.rfl FB.rfl
  · refine WQ.st (fun _ _ kz => pw_iload6 dX12_sure_19 kz) ?_
    refine ⟨_, _, pw_iret dX12_sure_21 rfl rfl rfl rfl, ?_⟩
    have c0 : sp_sure (A (o + 1)) (A (o + 20)) (A (o + 21)) (B (o + 22)) x.toInt y.toInt z.toInt e.toInt b.toInt = sp_nh (A (o + 1)) (A (o + 20)) (A (o + 21)) (B (o + 22)) x.toInt y.toInt z.toInt := by unfold sp_sure; rw [if_neg c16]
    rw [c0]
    exact PZ.q (FP.up (by decide)) FQ.rfl FB.rfl
