def bc1 (x : Int32) : Int32 := x - (((x.toUInt32 >>> ((1 : Int32).toUInt32 &&& Int32.toUInt32 31)).toInt32) &&& 1431655765)
def bc2 (x : Int32) : Int32 := (x &&& 858993459) + (((x.toUInt32 >>> ((2 : Int32).toUInt32 &&& Int32.toUInt32 31)).toInt32) &&& 858993459)
def bc3 (x : Int32) : Int32 := (x + (x.toUInt32 >>> ((4 : Int32).toUInt32 &&& Int32.toUInt32 31)).toInt32) &&& 252645135
def bc4 (x : Int32) : Int32 := x + (x.toUInt32 >>> ((8 : Int32).toUInt32 &&& Int32.toUInt32 31)).toInt32
def bc5 (x : Int32) : Int32 := x + (x.toUInt32 >>> ((16 : Int32).toUInt32 &&& Int32.toUInt32 31)).toInt32
def bcX (x : Int32) : Int32 := bc5 (bc4 (bc3 (bc2 (bc1 x)))) &&& 63
theorem bc_ok : ∀ s, s < 16 → bcX (nI s) = rf_bits (nI s) 0 0 10 := by decide +kernel
theorem kJ6_265 : Cond.constant RJ6 265 1431655765 ∈ GT := (gt_5 (List.mem_of_getElem? (i := 139) rfl) rfl)
theorem kJ6_266 : Cond.constant RJ6 266 858993459 ∈ GT := (gt_5 (List.mem_of_getElem? (i := 140) rfl) rfl)
theorem kJ6_267 : Cond.constant RJ6 267 252645135 ∈ GT := (gt_5 (List.mem_of_getElem? (i := 141) rfl) rfl)
set_option maxRecDepth 20000 in
theorem k_bitCount {G : gT} {d : Nat} {h : Ph} (x : Int32) : WQ G d mJ6_bitCount_0f7a4 0 [some (.int x)] [] h (fun r h' => r = some (.int (bcX x)) ∧ h' = h) := by
  refine WQ.st (fun _ _ kz => pw_iload0 dJ6_bitCount_0f7a4_0 kz) ?_
  refine WQ.st (fun _ _ kz => pw_iload0 dJ6_bitCount_0f7a4_1 kz) ?_
  refine WQ.st (fun _ _ kz => pw_iconst (v := 1) dJ6_bitCount_0f7a4_2 (by decide) kz) ?_
  refine WQ.st (fun _ _ kz => pw_iushr dJ6_bitCount_0f7a4_3 kz) ?_
  refine WQ.st (fun _ _ kz => pw_ldcw kJ6_265 dJ6_bitCount_0f7a4_4 kz) ?_
  refine WQ.st (fun _ _ kz => pw_iand dJ6_bitCount_0f7a4_7 kz) ?_
  refine WQ.st (fun _ _ kz => pw_isub dJ6_bitCount_0f7a4_8 kz) ?_
  refine WQ.st (fun _ _ kz => pw_istore0 dJ6_bitCount_0f7a4_9 (by decide) kz) ?_
  refine WQ.st (fun _ _ kz => pw_iload0 dJ6_bitCount_0f7a4_10 kz) ?_
  refine WQ.st (fun _ _ kz => pw_ldcw kJ6_266 dJ6_bitCount_0f7a4_11 kz) ?_
  refine WQ.st (fun _ _ kz => pw_iand dJ6_bitCount_0f7a4_14 kz) ?_
  refine WQ.st (fun _ _ kz => pw_iload0 dJ6_bitCount_0f7a4_15 kz) ?_
  refine WQ.st (fun _ _ kz => pw_iconst (v := 2) dJ6_bitCount_0f7a4_16 (by decide) kz) ?_
  refine WQ.st (fun _ _ kz => pw_iushr dJ6_bitCount_0f7a4_17 kz) ?_
  refine WQ.st (fun _ _ kz => pw_ldcw kJ6_266 dJ6_bitCount_0f7a4_18 kz) ?_
  refine WQ.st (fun _ _ kz => pw_iand dJ6_bitCount_0f7a4_21 kz) ?_
  refine WQ.st (fun _ _ kz => pw_iadd dJ6_bitCount_0f7a4_22 kz) ?_
  refine WQ.st (fun _ _ kz => pw_istore0 dJ6_bitCount_0f7a4_23 (by decide) kz) ?_
  refine WQ.st (fun _ _ kz => pw_iload0 dJ6_bitCount_0f7a4_24 kz) ?_
  refine WQ.st (fun _ _ kz => pw_iload0 dJ6_bitCount_0f7a4_25 kz) ?_
  refine WQ.st (fun _ _ kz => pw_iconst (v := 4) dJ6_bitCount_0f7a4_26 (by decide) kz) ?_
  refine WQ.st (fun _ _ kz => pw_iushr dJ6_bitCount_0f7a4_27 kz) ?_
  refine WQ.st (fun _ _ kz => pw_iadd dJ6_bitCount_0f7a4_28 kz) ?_
  refine WQ.st (fun _ _ kz => pw_ldcw kJ6_267 dJ6_bitCount_0f7a4_29 kz) ?_
  refine WQ.st (fun _ _ kz => pw_iand dJ6_bitCount_0f7a4_32 kz) ?_
  refine WQ.st (fun _ _ kz => pw_istore0 dJ6_bitCount_0f7a4_33 (by decide) kz) ?_
  refine WQ.st (fun _ _ kz => pw_iload0 dJ6_bitCount_0f7a4_34 kz) ?_
  refine WQ.st (fun _ _ kz => pw_iload0 dJ6_bitCount_0f7a4_35 kz) ?_
  refine WQ.st (fun _ _ kz => pw_bipush (v := 8) dJ6_bitCount_0f7a4_36 (by decide) kz) ?_
  refine WQ.st (fun _ _ kz => pw_iushr dJ6_bitCount_0f7a4_38 kz) ?_
  refine WQ.st (fun _ _ kz => pw_iadd dJ6_bitCount_0f7a4_39 kz) ?_
  refine WQ.st (fun _ _ kz => pw_istore0 dJ6_bitCount_0f7a4_40 (by decide) kz) ?_
  refine WQ.st (fun _ _ kz => pw_iload0 dJ6_bitCount_0f7a4_41 kz) ?_
  refine WQ.st (fun _ _ kz => pw_iload0 dJ6_bitCount_0f7a4_42 kz) ?_
  refine WQ.st (fun _ _ kz => pw_bipush (v := 16) dJ6_bitCount_0f7a4_43 (by decide) kz) ?_
  refine WQ.st (fun _ _ kz => pw_iushr dJ6_bitCount_0f7a4_45 kz) ?_
  refine WQ.st (fun _ _ kz => pw_iadd dJ6_bitCount_0f7a4_46 kz) ?_
  refine WQ.st (fun _ _ kz => pw_istore0 dJ6_bitCount_0f7a4_47 (by decide) kz) ?_
  refine WQ.st (fun _ _ kz => pw_iload0 dJ6_bitCount_0f7a4_48 kz) ?_
  refine WQ.st (fun _ _ kz => pw_bipush (v := 63) dJ6_bitCount_0f7a4_49 (by decide) kz) ?_
  refine WQ.st (fun _ _ kz => pw_iand dJ6_bitCount_0f7a4_51 kz) ?_
  refine ⟨_, _, pw_iret dJ6_bitCount_0f7a4_52 rfl rfl rfl rfl, ?_⟩
  exact ⟨rfl, rfl⟩
set_option maxRecDepth 20000 in
theorem q_gaI {G : gT} {d : Nat} {S : sS} {V : sV} {P : sP} {B : sB} {Q : sP} {t sl : Nat} (hC : CF S P) (hQ : OQ Q) {set : Nat} (hset : set < 16) {x2 : Int32} {R U : Nat → Int32} {A0 : sV} (hRb : ∀ s, s < 41 → bnd 60 (R s)) (hUb : ∀ s, s < 41 → bnd 60 (U s)) (hU : ∀ s, s < 41 → A0 134 s = cv (U s)) {Z : Option Value → Ph → Prop} (kf : ∀ A : sV, (∀ x, x ≠ 118 + set → A x = A0 x) → (∀ s, s < 41 → A (118 + set) s = if s < 41 then cv (mxo (R s) (U s)) else cv (R s)) → WQ G (d + 3) mX5_gather 104 [some (.ref 116), some (.int (nI set)), some (.int x2), some (.int (nI 41))] [] (t, sl, gh S V P A B Q) Z) : ∀ (m k : Nat) (A : sV), k + m = 41 → (∀ x, x ≠ 118 + set → A x = A0 x) → (∀ s, s < 41 → A (118 + set) s = if s < k then cv (mxo (R s) (U s)) else cv (R s)) → WQ G (d + 3) mX5_gather 67 [some (.ref 116), some (.int (nI set)), some (.int x2), some (.int (nI k))] [] (t, sl, gh S V P A B Q) Z := by
  intro m
  induction m with
  | zero =>
    intro k A hk h1 h2
    have hk : k = 41 := hk
    subst hk
    refine WQ.st (fun _ _ kz => pw_iload3 dX5_gather_67 kz) ?_
    refine WQ.st (fun _ _ kz => pw_bipush (v := 41) dX5_gather_68 (by decide) kz) ?_
    refine WQ.br (fun _ _ ka kb => pw_icmp_ge (tgt := 104) dX5_gather_70 (by decide) ka kb) (fun c70 => ?_) (fun c70 => absurd (by decide) c70)
    exact kf A h1 h2
  | succ m ih =>
    intro k A hk h1 h2
    refine WQ.st (fun _ _ kz => pw_iload3 dX5_gather_67 kz) ?_
    refine WQ.st (fun _ _ kz => pw_bipush (v := 41) dX5_gather_68 (by decide) kz) ?_
    refine WQ.br (fun _ _ ka kb => pw_icmp_ge (tgt := 104) dX5_gather_70 (by decide) ka kb) (fun c70 => absurd c70 (by rw [le_i li_41 (ix_n (by omega))]; omega)) (fun c70 => ?_)
    refine WQ.st (fun _ _ kz => pw_aload0 dX5_gather_73 kz) ?_
    refine WQ.st (fun _ _ kz => pw_getr gX5_18 dX5_gather_74 (cf_s116 hC) (cf_p116_3 hC) kz) ?_
    refine WQ.st (fun _ _ kz => pw_iload1 dX5_gather_77 kz) ?_
    refine WQ.st (fun _ _ kz => pw_qldr (j := set) dX5_gather_78 (cf_s117 hC) (by decide) (ix_m rfl (by omega)) (by omega) (hQ set (by omega)) kz) ?_
    refine WQ.st (fun _ _ kz => pw_iload3 dX5_gather_79 kz) ?_
    refine WQ.st (fun _ _ kz => pw_aload0 dX5_gather_80 kz) ?_
    refine WQ.st (fun _ _ kz => pw_getr gX5_18 dX5_gather_81 (cf_s116 hC) (cf_p116_3 hC) kz) ?_
    refine WQ.st (fun _ _ kz => pw_iload1 dX5_gather_84 kz) ?_
    refine WQ.st (fun _ _ kz => pw_qldr (j := set) dX5_gather_85 (cf_s117 hC) (by decide) (ix_m rfl (by omega)) (by omega) (hQ set (by omega)) kz) ?_
    refine WQ.st (fun _ _ kz => pw_iload3 dX5_gather_86 kz) ?_
    refine WQ.st (fun _ _ kz => pw_ald (j := k) dX5_gather_87 (cf_e hC (by omega)) (ix_m rfl (by omega)) (by omega) kz) ?_
    rw [show A (118 + set) k = cv (R k) from by rw [h2 k (by omega), if_neg (by omega)]]
    refine WQ.st (fun _ _ kz => pw_aload0 dX5_gather_88 kz) ?_
    refine WQ.st (fun _ _ kz => pw_getr gX5_21 dX5_gather_89 (cf_s116 hC) (cf_p116_4 hC) kz) ?_
    refine WQ.st (fun _ _ kz => pw_iload3 dX5_gather_92 kz) ?_
    refine WQ.st (fun _ _ kz => pw_ald (j := k) dX5_gather_93 (cf_s134 hC) (ix_m rfl (by omega)) (by omega) kz) ?_
    rw [h1 134 (by omega), hU k (by omega)]
    refine WQ.st (fun _ _ kz => pw_max mmX5_88 dX5_gather_94 (Nat.le_of_ble_eq_true rfl) (by omega) kz) ?_
    rw [cv_mx9 (hRb k (by omega)) (hUb k (by omega)) (by omega) (by omega)]
    refine WQ.st (fun _ _ kz => pw_ast (j := k) dX5_gather_97 (cf_e hC (by omega)) (ix_m rfl (by omega)) (by omega)  kz) ?_
    refine WQ.st (fun _ _ kz => pw_iinc3 (v := 1) dX5_gather_98 (by decide) (by decide) (k := kz)) ?_
    refine WQ.st (fun _ _ kz => pw_goto (tgt := 67) dX5_gather_101 (by decide) kz) ?_
    rw [nI_1]
    refine ih (k + 1) _ (by omega) (fun x hx => by rw [up2_na hx]; exact h1 x hx) (fun s hs => ?_)
    by_cases e : s = k
    · rw [e, up2_eq, if_pos (by omega)]
    · rw [up2_nk e, h2 s hs]
      by_cases e2 : s < k
      · rw [if_pos e2, if_pos (by omega)]
      · rw [if_neg e2, if_neg (by omega)]
set_option maxRecDepth 20000 in
theorem q_gaL {G : gT} {d : Nat} {S0 : sS} {V0 : sV} {P0 : sP} {A0 : sV} {B0 : sB} {Q0 : sP} {t0 sl0 : Nat} {al : Nat → Int32} {W : WT} {sh ls0 : Nat} {p tm set : Nat} (hp : p < 5) (htm : tm < 10) (hat : atm al p tm = al) (hls : ls0 + 10 < 2000000000) (hs0 : set ≠ 0) (hs16 : set < 16) (hsN : set < 2 ^ nP al) {Es : Nat → Nat → Int32} (hEb : ∀ x, x < set → ∀ s, s < 41 → bnd 48 (Es x s)) (hE1 : ∀ x, x < set → ∀ s, s < 41 → A0 (118 + x) s = cv (Es x s)) (hD : DV al) (hK : KV (al 2).toInt (fun k => al (75 + k))) : ∀ (m q : Nat) (y : Option Value) (t sl ls : Nat) (S : sS) (V : sV) (P : sP) (A : sV) (B : sB) (Q : sP), q + m = 4 → CI S V P A B Q t al W sh ls → ls ≤ ls0 + q → FrO S0 V0 P0 A0 B0 t0 S V P A B t → (∀ k1 k2, Room2 S0 Q0 t0 sl0 k1 k2 → Room2 S Q t sl k1 k2) → V 116 7 = nI p → V 116 8 = nI tm → (∀ i, i < 16 → i ≠ set → A (118 + i) = A0 (118 + i)) → (∀ s, s < 41 → A (118 + set) s = cv (mfo (fun j => if inB set j = true then spr (thT al p) j (Es (rmB set j)) s else -268435456) q)) → WQ G (d + 6) mX5_gather 13 [some (.ref 116), some (.int (nI set)), some (.int (nI q)), y] [] (t, sl, gh S V P A B Q) (fun r h' => r = none ∧ ∃ (t' sl' ls' : Nat) (S' : sS) (V' : sV) (P' : sP) (A' : sV) (B' : sB) (Q' : sP), h' = (t', sl', gh S' V' P' A' B' Q') ∧ CI S' V' P' A' B' Q' t' al W sh ls' ∧ ls' ≤ ls0 + 4 ∧ FrO S0 V0 P0 A0 B0 t0 S' V' P' A' B' t' ∧ (∀ k1 k2, Room2 S0 Q0 t0 sl0 k1 k2 → Room2 S' Q' t' sl' k1 k2) ∧ (V' 116 7 = nI p ∧ V' 116 8 = nI tm) ∧ (∀ i, i < 16 → i ≠ set → A' (118 + i) = A0 (118 + i)) ∧ ∀ s, s < 41 → A' (118 + set) s = cv (GR (thT al p) Es set s)) := by
  have hN4 : nP al ≤ 4 := by have := hD.n4; unfold nP; omega
  have hT := th_b9 hD hK hp
  intro m
  induction m with
  | zero =>
    intro q y t sl ls S V P A B Q hq hI hl hO hr h7 h8 hrow hset4
    have hq : q = 4 := hq
    subst hq
    have hC := hI.de.dc.ka.cf
    rw [show nI 4 = 4 from rfl]
    refine WQ.st (fun _ _ kz => pw_iload2 dX5_gather_13 kz) ?_
    refine WQ.st (fun _ _ kz => pw_iconst (v := 4) dX5_gather_14 (by decide) kz) ?_
    refine WQ.br (fun _ _ ka kb => pw_icmp_ge (tgt := 110) dX5_gather_15 (by decide) ka kb) (fun c15 => ?_) (fun c15 => absurd (by decide) c15)
    refine ⟨_, _, pw_vret dX5_gather_110 rfl rfl rfl, ?_⟩
    exact ⟨rfl, t, sl, ls, S, V, P, A, B, Q, rfl, hI, by omega, hO, hr, ⟨h7, h8⟩, hrow, hset4⟩
  | succ m ih =>
    intro q y t sl ls S V P A B Q hq hI hl hO hr h7 h8 hrow hset4
    have hC := hI.de.dc.ka.cf
    have hQ := hI.re.oq
    have hE0 := hI.de
    refine WQ.st (fun _ _ kz => pw_iload2 dX5_gather_13 kz) ?_
    refine WQ.st (fun _ _ kz => pw_iconst (v := 4) dX5_gather_14 (by decide) kz) ?_
    refine WQ.br (fun _ _ ka kb => pw_icmp_ge (tgt := 110) dX5_gather_15 (by decide) ka kb) (fun c15 => absurd c15 (by rw [le_i li_4 (ix_n (by omega))]; omega)) (fun c15 => ?_)
    refine WQ.st (fun _ _ kz => pw_iload1 dX5_gather_18 kz) ?_
    refine WQ.st (fun _ _ kz => pw_iload2 dX5_gather_19 kz) ?_
    refine WQ.st (fun _ _ kz => pw_ishr dX5_gather_20 kz) ?_
    refine WQ.st (fun _ _ kz => pw_iconst (v := 1) dX5_gather_21 (by decide) kz) ?_
    refine WQ.st (fun _ _ kz => pw_iand dX5_gather_22 kz) ?_
    refine WQ.br (fun _ _ ka kb => pw_if_eq (tgt := 104) dX5_gather_23 (by decide) ka kb) (fun c23 => ?_) (fun c23 => ?_)
    · rw [in_b9 (by omega) (by omega)] at c23
      have eM : ∀ s, mfo (fun j => if inB set j = true then spr (thT al p) j (Es (rmB set j)) s else -268435456) (q + 1) = mfo (fun j => if inB set j = true then spr (thT al p) j (Es (rmB set j)) s else -268435456) q := fun s => by
        show mxo (mfo (fun j => if inB set j = true then spr (thT al p) j (Es (rmB set j)) s else -268435456) q) (if inB set q = true then _ else _) = _
        rw [c23, if_neg (by decide)]
        exact mx_le9 (mfo_c _ _)
      refine WQ.st (fun _ _ kz => pw_iinc2 (v := 1) dX5_gather_104 (by decide) (by decide) (k := kz)) ?_
      refine WQ.st (fun _ _ kz => pw_goto (tgt := 13) dX5_gather_107 (by decide) kz) ?_
      rw [nI_1]
      exact ih (q + 1) _ t sl ls S V P A B Q (by omega) hI (by omega) hO hr h7 h8 hrow (fun s hs => by rw [eM s]; exact hset4 s hs)
    · have hbk : inB set q = true := by
        rw [in_b9 (by omega) (by omega)] at c23
        cases h : inB set q with
        | false => exact absurd h c23
        | true => rfl
      have hkN := inB_N (nP al) (by omega) set (by omega) hsN q (by omega) hbk
      have hik : isQ al (nI q).toInt = true := by
        unfold isQ
        rw [ix_n (by omega)]
        exact decide_eq_true (by unfold nP at hkN; omega)
      have hrl := rmB_lt hbk
      refine WQ.st (fun _ _ kz => pw_aload0 dX5_gather_26 kz) ?_
      refine WQ.st (fun _ _ kz => pw_getr gX5_37 dX5_gather_27 (cf_s116 hC) (cf_p116_1 hC) kz) ?_
      refine WQ.st (fun _ _ kz => pw_aload0 dX5_gather_30 kz) ?_
      refine WQ.st (fun _ _ kz => pw_geti gX5_31 dX5_gather_31 (cf_s116 hC) kz) ?_
      rw [h7]
      refine WQ.st (fun _ _ kz => pw_aload0 dX5_gather_34 kz) ?_
      refine WQ.st (fun _ _ kz => pw_geti gX5_34 dX5_gather_35 (cf_s116 hC) kz) ?_
      rw [h8]
      refine WQ.st (fun _ _ kz => pw_iload2 dX5_gather_38 kz) ?_
      refine wq_o3v wX0_takeUp lX5_77 rfl dX5_gather_39 (cf_s96 hC) (k_takeUp hI.de.dc.ka (by omega) hp htm (show q < 4 by omega) hik) rfl (Nat.le_of_ble_eq_true rfl) (Nat.le_of_ble_eq_true rfl) (fun h39 z39 => ?_)
      obtain ⟨t5, sl5, ls5, S5, V5, P5, A5, B5, Q5, rfl, k5, l5, f5, r5⟩ := z39
      have i5 := hI.ask (k5.dc hI.de.dc f5.1 (hI.de.dc.hb.to (by rw [f5.2.2.2.1 103 (by omega)])) (hI.de.dc.rh.to (by rw [f5.2.2.2.1 107 (by omega)]) (by rw [f5.2.2.2.1 107 (by omega)])) (hI.de.dc.hw.to (by rw [f5.2.2.2.1 107 (by omega)]) (by rw [f5.2.2.2.1 107 (by omega)])) (f5.2.2.2.2.1 109 (by omega) (by omega) (by omega) (by omega))) f5.d
      have hC := k5.cf
      have hQ := i5.re.oq
      have a5 : ∀ x, x ≠ 97 → x ≠ 98 → x ≠ 100 → x ≠ 101 → A5 x = A x := f5.2.2.2.2.1
      have hrm : rmB set q < 16 := by omega
      have hR5 : ∀ s, s < 41 → A5 (118 + rmB set q) s = cv (Es (rmB set q) s) := fun s hs => by rw [a5 _ (by omega) (by omega) (by omega) (by omega), hrow _ hrm (by omega)]; exact hE1 _ (by omega) s hs
      refine WQ.st (fun _ _ kz => pw_aload0 dX5_gather_42 kz) ?_
      refine WQ.st (fun _ _ kz => pw_getr gX5_41 dX5_gather_43 (cf_s116 hC) (cf_p116_2 hC) kz) ?_
      refine WQ.st (fun _ _ kz => pw_aload0 dX5_gather_46 kz) ?_
      refine WQ.st (fun _ _ kz => pw_getr gX5_18 dX5_gather_47 (cf_s116 hC) (cf_p116_3 hC) kz) ?_
      refine WQ.st (fun _ _ kz => pw_iload1 dX5_gather_50 kz) ?_
      refine WQ.st (fun _ _ kz => pw_iconst (v := 1) dX5_gather_51 (by decide) kz) ?_
      refine WQ.st (fun _ _ kz => pw_iload2 dX5_gather_52 kz) ?_
      refine WQ.st (fun _ _ kz => pw_ishl dX5_gather_53 kz) ?_
      refine WQ.st (fun _ _ kz => pw_iconst (v := -1) dX5_gather_54 (by decide) kz) ?_
      refine WQ.st (fun _ _ kz => pw_ixor dX5_gather_55 kz) ?_
      refine WQ.st (fun _ _ kz => pw_iand dX5_gather_56 kz) ?_
      rw [rmB_I set (by omega) q (by omega)]
      refine WQ.st (fun _ _ kz => pw_qldr (j := rmB set q) dX5_gather_57 (cf_s117 hC) (by decide) (ix_n (by omega)) (by omega) (hQ _ hrm) kz) ?_
      refine WQ.st (fun _ _ kz => pw_aload0 dX5_gather_58 kz) ?_
      refine WQ.st (fun _ _ kz => pw_getr gX5_21 dX5_gather_59 (cf_s116 hC) (cf_p116_4 hC) kz) ?_
      refine wq_o2v wX10_spread lX5_82 rfl dX5_gather_62 (cf_s107 hC) (k_spread k5 i5.de.dc.hw (fr := 118 + rmB set q) (to := 134) (K := 48) (F := Es (rmB set q)) (cf_e hC hrm) (by omega) (cf_s134 hC) (by omega) (by omega) (hEb _ (by omega)) hR5) rfl (Nat.le_of_ble_eq_true rfl) (Nat.le_of_ble_eq_true rfl) (fun h62 z62 => ?_)
      obtain ⟨P7, A7, B7, rfl, k7, w7, p1, p2, a1, a2, b2⟩ := z62
      have fr : FrD 20 S5 V5 P5 A5 B5 Q5 t5 S5 V5 P7 A7 B7 Q5 t5 := ⟨Nat.le_refl _, fun _ _ => rfl, fun _ _ => rfl, fun x hx => p1 x (by omega), fun x hx => a2 x (by omega) (by omega) (by omega) (by omega), fun x hx => b2 x (by omega) (by omega) (by omega), fun _ _ => rfl⟩
      have i7 := i5.step k7 fr (a2 109 (by omega) (by omega) (by omega) (by omega)) (i5.de.dc.hb.to (p1 103 (by omega))) (i5.de.dc.rh.to (p2 9 (by omega) (by omega)) (p2 10 (by omega) (by omega))) w7
      have hO7 := (hO.tr ((FrT.d (a := 20) f5).o (Or.inr rfl))).tr (fr.o (Or.inr rfl))
      have hC := k7.cf
      have v7 : V5 116 = V 116 := f5.2.2.1 116 (by omega)
      have a7 : ∀ x, 113 < x → x ≠ 134 → A7 x = A x := fun x h1 h2 => by rw [a2 x (by omega) (by omega) h2 (by omega), a5 x (by omega) (by omega) (by omega) (by omega)]
      have hU7 : ∀ s, s < 41 → A7 134 s = cv (spr (thT al p) q (Es (rmB set q)) s) := fun s hs => by rw [a1 s hs, hat, sp_spr hD hE0.kv hp (by omega) (hEb _ (by omega)) (by omega) hs]
      have hmb : ∀ s, s < 41 → bnd 60 (mfo (fun j => if inB set j = true then spr (thT al p) j (Es (rmB set j)) s else -268435456) q) := fun s hs => mfo_bnd (fun j hj => by
        show bnd 60 (if inB set j = true then _ else _)
        by_cases hb : inB set j = true
        · rw [if_pos hb]
          have hjr := rmB_lt hb
          exact spr_bnd (fun f t h1 h2 => hT j f t (inB_N (nP al) (by omega) set (by omega) hsN j (by omega) hb) h1 h2) (hEb _ (by omega)) (by omega) s hs
        · rw [if_neg hb]; exact Or.inl rfl)
      refine WQ.st (fun _ _ kz => pw_iconst (v := 0) dX5_gather_65 (by decide) kz) ?_
      refine WQ.st (fun _ _ kz => pw_istore3 dX5_gather_66 (by decide) (k := kz)) ?_
      refine q_gaI hC i7.re.oq (by omega) (R := fun s => mfo (fun j => if inB set j = true then spr (thT al p) j (Es (rmB set j)) s else -268435456) q) (U := fun s => spr (thT al p) q (Es (rmB set q)) s) (A0 := A7) hmb (spr_bnd (fun f t h1 h2 => hT q f t hkN h1 h2) (hEb _ (by omega)) (by omega)) hU7 (fun A8 g1 g2 => ?_) 41 0 A7 (by omega) (fun _ _ => rfl) (fun s hs => by rw [if_neg (by omega), a7 _ (by omega) (by omega)]; exact hset4 s hs)
      obtain ⟨i8, o8⟩ := i7.ord (V' := V5) (A' := A8) (fun _ _ => rfl) (fun x hx => g1 x (by omega))
      have hC := i8.de.dc.ka.cf
      refine WQ.st (fun _ _ kz => pw_iinc2 (v := 1) dX5_gather_104 (by decide) (by decide) (k := kz)) ?_
      refine WQ.st (fun _ _ kz => pw_goto (tgt := 13) dX5_gather_107 (by decide) kz) ?_
      rw [nI_1]
      exact ih (q + 1) _ t5 sl5 ls5 S5 V5 P7 A8 B7 Q5 (by omega) i8 (by omega) (hO7.tr o8) (fun k1 k2 h => r5 _ _ (hr k1 k2 h)) (by rw [v7]; exact h7) (by rw [v7]; exact h8) (fun i hi hn => by rw [g1 _ (by omega), a7 _ (by omega) (by omega)]; exact hrow i hi hn) (fun s hs => by
        rw [g2 s hs, if_pos hs]
        show _ = cv (mxo (mfo (fun j => if inB set j = true then spr (thT al p) j (Es (rmB set j)) s else -268435456) q) (if inB set q = true then _ else _))
        rw [if_pos hbk])
