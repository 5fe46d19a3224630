def okR (r : RR) : Bool := match r with | .error _ => false | .ok _ => true
def KXR (x : Nat → Int32) (L T u : Nat) (r : RR) (V A : sV) : Prop := match r with | .error e => KE e V | .ok s => KN x L T s.1 V A ∧ SG V A u s.2
def FRQ (u : Nat) (V A V' A' : sV) : Prop := (∀ b, b ≠ 10 → V' b = V b) ∧ (∀ k, k ≠ 0 → k ≠ 1 → k ≠ 6 → V' 10 k = V 10 k) ∧ ∀ b, b ≠ u + 1 → b ≠ u + 2 → b ≠ u + 3 → b ≠ u + 4 → A' b = A b
theorem FRQ.rfl {u : Nat} {V A : sV} : FRQ u V A V A := ⟨fun _ _ => _root_.rfl, fun _ _ _ _ => _root_.rfl, fun _ _ _ _ _ => _root_.rfl⟩
theorem FRQ.tr {u : Nat} {V A V1 A1 V2 A2 : sV} (h : FRQ u V A V1 A1) (g : FRQ u V1 A1 V2 A2) : FRQ u V A V2 A2 := ⟨fun b h1 => (g.1 b h1).trans (h.1 b h1), fun k h1 h2 h3 => (g.2.1 k h1 h2 h3).trans (h.2.1 k h1 h2 h3), fun b h1 h2 h3 h4 => (g.2.2 b h1 h2 h3 h4).trans (h.2.2 b h1 h2 h3 h4)⟩
theorem FRK.fq {u : Nat} {V V' A : sV} (h : FRK V V') : FRQ u V A V' A := ⟨h.1, h.2, fun _ _ _ _ _ => _root_.rfl⟩
theorem SG.fk {u : Nat} {V V' A : sV} {F : Nat → Int32} (h : SG V A u F) (hu : 20 ≤ u) (f : FRK V V') : SG V' A u F := by
  unfold SG
  rw [f.1 u (by omega)]
  exact h
def KZR (x : Nat → Int32) (L T u : Nat) (S : sS) (P : sP) (B : sB) (Q : sP) (t sl : Nat) (r : RR) (V A : sV) : Option Value → Ph → Prop := fun q h' => q = some (.int (bI (okR r))) ∧ ∃ V' A' : sV, h' = (t, sl, gh S V' P A' B Q) ∧ KXR x L T u r V' A' ∧ FRQ u V A V' A'
theorem WQ.kr {G : gT} {D : Nat} {M : mT} {pc : Nat} {ls : List (Option Value)} {st : List Value} {h : Ph} {S : sS} {P : sP} {B : sB} {Q : sP} {t sl u : Nat} {x : Nat → Int32} {L T : Nat} {r : RR} {V A V1 A1 : sV} (k : WQ G D M pc ls st h (KZR x L T u S P B Q t sl r V1 A1)) (f : FRQ u V A V1 A1) : WQ G D M pc ls st h (KZR x L T u S P B Q t sl r V A) := by
  obtain ⟨q, h', k, z1, V2, A2, z2, z3, z4⟩ := k
  exact ⟨q, h', k, z1, V2, A2, z2, z3, f.tr z4⟩
theorem SG.bar {V A : sV} {u q b : Nat} {F : Nat → Int32} {y : Int32} (h : SG V A u F) (hq : q < 4) (hb : b < 12) (hF : F (10 + q) = nI b) : SG V (up2 (up2 A (u + 1) (q * 12 + b) y) (u + 2) q (nI (b + 1))) u (pm_up (pm_up F (15 + 12 * q + (F (10 + q)).toInt.toNat) y) (10 + q) (F (10 + q) + 1)) := by
  obtain ⟨h1, h2, h3, h4, h5, h6⟩ := h
  have e : (F (10 + q)).toInt.toNat = b := by rw [hF, ix_n (by omega)]; rfl
  rw [e]
  refine ⟨?_, ?_, fun i hi => ?_, fun i hi => ?_, fun i hi => ?_, fun i hi => ?_⟩
  · rw [pm_up_ne (by omega), pm_up_ne (by omega)]; exact h1
  · rw [pm_up_ne (by omega), pm_up_ne (by omega)]; exact h2
  · rw [up2_na (by omega), pm_up_ne (by omega)]
    by_cases g : i = q * 12 + b
    · subst g
      rw [up2_eq, show 15 + (q * 12 + b) = 15 + 12 * q + b by omega, pm_up_eq]
    · rw [up2_nk g, pm_up_ne (by omega)]; exact h3 i hi
  · by_cases g : i = q
    · subst g
      rw [up2_eq, pm_up_eq, hF, nI_1]
    · rw [up2_nk g, up2_na (by omega), pm_up_ne (by omega), pm_up_ne (by omega)]; exact h4 i hi
  · rw [up2_na (by omega), up2_na (by omega), pm_up_ne (by omega), pm_up_ne (by omega)]; exact h5 i hi
  · rw [up2_na (by omega), up2_na (by omega), pm_up_ne (by omega), pm_up_ne (by omega)]; exact h6 i hi
theorem sg_v1 (v : Int32) : (1 : Int32) * v = v := Int32.one_mul v
theorem sg_v2 (v : Int32) : (-1 : Int32) * v = -v := by rw [Int32.neg_mul, Int32.one_mul]
set_option maxRecDepth 20000 in
theorem l_krp {G : gT} {S : sS} {P : sP} {B : sB} {Q : sP} {t sl u : Nat} (hC : CF S P) (hU : SH S P u) (hp9 : P 10 9 = some u) (hu : 87 ≤ u) {x : Nat → Int32} {L T : Nat} (hT : TK x L T = 24) {q : Nat} (hq : q < 4) {D : Nat} (hD : 20 ≤ D) : ∀ (n j : Nat) (F : Nat → Int32) (V A : sV) (b : Nat) {y : Option Value}, T - j < n → b ≤ 12 → KN x L T j V A → SG V A u F → F (10 + q) = nI b → V u 6 = nI (q + 1) → WQ G D mX6_readPiece 42 [some (.ref 10), some (.int (nI b)), y] [] (t, sl, gh S V P A B Q) (KZR x L T u S P B Q t sl (rpL (TK x L) (TV x L) (TPl x L) q n j F) V A) := by
  intro n
  induction n with
  | zero => intro j F V A b y hn; omega
  | succ n ih =>
    intro j F V A b y hn hb hN hG hF h6
    have hjT := hN.le
    have ht9 := hN.t9
    have hbA : A (u + 2) q = nI b := by rw [hG.2.2.2.1 q hq]; exact hF
    obtain ⟨D, rfl⟩ : ∃ D', D = D' + 1 := ⟨D - 1, by omega⟩
    refine WQ.st (fun _ _ kz => pw_iload1 dX6_readPiece_42 kz) ?_
    refine WQ.st (fun _ _ kz => pw_bipush (v := 12) dX6_readPiece_43 (by decide) kz) ?_
    refine WQ.br (fun _ _ ka kb => pw_icmp_gt (tgt := 146) dX6_readPiece_45 (by decide) ka kb) (fun c45 => absurd c45 (by rw [lt_i (show (12 : Int32).toInt = 12 from rfl) (ix_n (by omega))]; omega)) (fun c45 => ?_)
    refine WQ.st (fun _ _ kz => pw_aload0 dX6_readPiece_48 kz) ?_
    refine wq_o0i wX6_kind lX6_70 rfl dX6_readPiece_49 (cf_s10 hC) (k_kind hC hN) rfl (Nat.le_of_ble_eq_true rfl) (Nat.le_of_ble_eq_true rfl) (fun h49 z49 => ?_)
    subst z49
    refine WQ.st (fun _ _ kz => pw_sipush (v := 213) dX6_readPiece_52 (by decide) kz) ?_
    refine WQ.br (fun _ _ ka kb => pw_icmp_eq (tgt := 68) dX6_readPiece_55 (by decide) ka kb) (fun c55 => ?_) (fun c55 => ?_)
    · have hud : TK x L j = 2 := (cc_i (TK_o (x := x) (L := L) (i := j)) (show tkO 2 by unfold tkO; omega) (by decide +kernel)).mp c55
      obtain hlt := lt_T hT hjT hud (by omega)
      rw [rpL, if_pos (Or.inl hud)]
      have K80 : b < 12 → WQ G (D + 1) mX6_readPiece 80 [some (.ref 10), some (.int (nI b)), y] [] (t, sl, gh S V P A B Q) (KZR x L T u S P B Q t sl (numR (TK x L) (TV x L) (TPl x L) 9 (j + 1) (fun v => rpL (TK x L) (TV x L) (TPl x L) q n (j + 2) (pm_up (pm_up F (15 + 12 * q + (F (10 + q)).toInt.toNat) ((if TK x L j = 2 then 1 else -1) * v)) (10 + q) (F (10 + q) + 1)))) V A) := by
        intro hb12
        unfold numR
        refine WQ.st (fun _ _ kz => pw_aload0 dX6_readPiece_80 kz) ?_
        refine wq_o0i wX6_kind lX6_70 rfl dX6_readPiece_81 (cf_s10 hC) (k_kind hC hN) rfl (Nat.le_of_ble_eq_true rfl) (Nat.le_of_ble_eq_true rfl) (fun h81 z81 => ?_)
        subst z81
        refine WQ.st (fun _ _ kz => pw_sipush (v := 213) dX6_readPiece_84 (by decide) kz) ?_
        refine WQ.bn (fun _ _ ka kb => pw_icmp_ne (tgt := 94) dX6_readPiece_87 (by decide) ka kb) (fun c87 => absurd ((cc_i (TK_o (x := x) (L := L) (i := j)) (show tkO 2 by unfold tkO; omega) (by decide +kernel)).mpr hud) c87) (fun c87 => ?_)
        refine WQ.st (fun _ _ kz => pw_iconst (v := 1) dX6_readPiece_90 (by decide) kz) ?_
        refine WQ.st (fun _ _ kz => pw_goto (tgt := 95) dX6_readPiece_91 (by decide) kz) ?_
        refine WQ.st (fun _ _ kz => pw_istore2 dX6_readPiece_95 (by decide) (k := kz)) ?_
        refine WQ.st (fun _ _ kz => pw_aload0 dX6_readPiece_96 kz) ?_
        refine WQ.st (fun _ _ kz => pw_dup dX6_readPiece_97 rfl kz) ?_
        refine WQ.st (fun _ _ kz => pw_geti gX6_31 dX6_readPiece_98 (cf_s10 hC) kz) ?_
        rw [hN.at]
        refine WQ.st (fun _ _ kz => pw_iconst (v := 1) dX6_readPiece_101 (by decide) kz) ?_
        refine WQ.st (fun _ _ kz => pw_iadd dX6_readPiece_102 kz) ?_
        rw [nI_1]
        refine WQ.st (fun _ _ kz => pw_puti (pX6_31 _ rfl) dX6_readPiece_103 (cf_s10 hC) rfl rfl kz) ?_
        have g1 : FRK V (up2 V 10 6 (nI (j + 1))) := FRK.up (by omega)
        refine WQ.st (fun _ _ kz => pw_aload0 dX6_readPiece_106 kz) ?_
        refine WQ.st (fun _ _ kz => pw_bipush (v := 9) dX6_readPiece_107 (by decide) kz) ?_
        refine wq_o1i wX6_takeNumber lX6_139 rfl dX6_readPiece_109 (cf_s10 hC) ((k_takeNumber (d := 0) (hi := 9) hC (hN.go hlt) hT (by omega)).mn (by omega)) rfl (Nat.le_of_ble_eq_true rfl) (Nat.le_of_ble_eq_true rfl) (fun h109 z109 => ?_)
        obtain ⟨V2, rfl, g2, e2, f2⟩ := z109
        refine WQ.bn (fun _ _ ka kb => pw_if_ne (tgt := 117) dX6_readPiece_112 (by decide) ka kb) (fun c112 => ?_) (fun c112 => ?_)
        · rw [bI_n] at c112
          have c112 := of_decide_eq_true c112
          have n2 := g2 c112
          rw [if_pos c112.1, if_pos c112.2]
          refine WQ.st (fun _ _ kz => pw_aload0 dX6_readPiece_117 kz) ?_
          refine WQ.st (fun _ _ kz => pw_getr gX6_41 dX6_readPiece_118 (cf_s10 hC) hp9 kz) ?_
          refine WQ.st (fun _ _ kz => pw_iload2 dX6_readPiece_121 kz) ?_
          refine WQ.br (fun _ _ ka kb => pw_if_eq (tgt := 132) dX6_readPiece_122 (by decide) ka kb) (fun c122 => absurd c122 (by decide)) (fun c122 => ?_)
          refine WQ.st (fun _ _ kz => pw_aload0 dX6_readPiece_125 kz) ?_
          refine wq_o0i wX6_taken lX6_142 rfl dX6_readPiece_126 (cf_s10 hC) (k_taken hC n2 c112.1) rfl (Nat.le_of_ble_eq_true rfl) (Nat.le_of_ble_eq_true rfl) (fun h126 z126 => ?_)
          subst z126
          refine WQ.st (fun _ _ kz => pw_goto (tgt := 137) dX6_readPiece_129 (by decide) kz) ?_
          refine wq_o1v wX7_addBar lX6_151 rfl dX6_readPiece_137 (sh_s0 hU) ((k_addBar (d := 0) hU hq hb12 (by rw [(g1.tr f2).1 u (by omega)]; exact h6) hbA _).mn (by omega)) rfl (Nat.le_of_ble_eq_true rfl) (Nat.le_of_ble_eq_true rfl) (fun h137 z137 => ?_)
          subst z137
          refine WQ.st (fun _ _ kz => pw_iinc1 (v := 1) dX6_readPiece_140 (by decide) (by decide) (k := kz)) ?_
          rw [nI_1]
          refine WQ.st (fun _ _ kz => pw_goto (tgt := 42) dX6_readPiece_143 (by decide) kz) ?_
          have sg1 := (hG.fk (by omega) (g1.tr f2)).bar (y := (TV x L (j + 1))) hq hb12 hF
          have kn1 : KN x L T (j + 2) V2 (up2 (up2 A (u + 1) (q * 12 + b) (TV x L (j + 1))) (u + 2) q (nI (b + 1))) := n2.fr rfl (by rw [up2_na (by omega), up2_na (by omega)]) (by rw [up2_na (by omega), up2_na (by omega)]) (by rw [up2_na (by omega), up2_na (by omega)])
          have hFn : pm_up (pm_up F (15 + 12 * q + (F (10 + q)).toInt.toNat) (TV x L (j + 1))) (10 + q) (F (10 + q) + 1) (10 + q) = nI (b + 1) := by rw [pm_up_eq, hF, nI_1]
          have fr1 : FRQ u V A V2 (up2 (up2 A (u + 1) (q * 12 + b) (TV x L (j + 1))) (u + 2) q (nI (b + 1))) := ⟨(g1.tr f2).1, (g1.tr f2).2, fun b' h1 h2 _ _ => by rw [up2_na h2, up2_na h1]⟩
          rw [if_pos hud]
          simp only [sg_v1]
          exact (ih (j + 2) _ V2 _ (b + 1) (by omega) (by omega) kn1 sg1 hFn (by rw [(g1.tr f2).1 u (by omega)]; exact h6)).kr fr1
        · rw [bI_0] at c112
          have c112 := of_decide_eq_false c112
          have e2 := e2 c112
          unfold tkE2 at e2
          refine WQ.st (fun _ _ kz => pw_iconst (v := 0) dX6_readPiece_115 (by decide) kz) ?_
          refine ⟨_, _, pw_iret dX6_readPiece_116 rfl rfl rfl rfl, ?_⟩
          by_cases c23 : TK x L (j + 1) = 23
          · rw [if_pos c23] at e2 ⊢
            rw [if_neg (fun q => c112 ⟨c23, q⟩)]
            exact ⟨rfl, V2, A, rfl, e2, (g1.tr f2).fq⟩
          · rw [if_neg c23] at e2 ⊢
            exact ⟨rfl, V2, A, rfl, e2, (g1.tr f2).fq⟩
      by_cases hb12 : b = 12
      · rw [if_pos (by rw [hF, hb12]; rfl)]
        refine WQ.st (fun _ _ kz => pw_iload1 dX6_readPiece_68 kz) ?_
        refine WQ.st (fun _ _ kz => pw_bipush (v := 12) dX6_readPiece_69 (by decide) kz) ?_
        refine WQ.bn (fun _ _ ka kb => pw_icmp_ne (tgt := 80) dX6_readPiece_71 (by decide) ka kb) (fun c71 => absurd (by rw [hb12]; rfl) c71) (fun c71 => ?_)
        refine WQ.st (fun _ _ kz => pw_aload0 dX6_readPiece_74 kz) ?_
        refine WQ.st (fun _ _ kz => pw_iconst (v := 4) dX6_readPiece_75 (by decide) kz) ?_
        refine wq_o1i wX6_faulty lX6_117 rfl dX6_readPiece_76 (cf_s10 hC) (k_faulty hC hN _) rfl (Nat.le_of_ble_eq_true rfl) (Nat.le_of_ble_eq_true rfl) (fun h76 z76 => ?_)
        obtain ⟨V2, rfl, e2, f2⟩ := z76
        refine ⟨_, _, pw_iret dX6_readPiece_79 rfl rfl rfl rfl, ?_⟩
        exact ⟨rfl, V2, A, rfl, e2, f2.fq⟩
      · rw [if_neg (by rw [hF]; exact fun q => hb12 (by have := congrArg Int32.toInt q; rw [ix_n (by omega)] at this; have e12 : (12 : Int32).toInt = 12 := rfl; omega))]
        refine WQ.st (fun _ _ kz => pw_iload1 dX6_readPiece_68 kz) ?_
        refine WQ.st (fun _ _ kz => pw_bipush (v := 12) dX6_readPiece_69 (by decide) kz) ?_
        refine WQ.bn (fun _ _ ka kb => pw_icmp_ne (tgt := 80) dX6_readPiece_71 (by decide) ka kb) (fun c71 => ?_) (fun c71 => absurd c71 (fun q => hb12 (by have := congrArg Int32.toInt q; rw [ix_n (by omega)] at this; have e12 : (12 : Int32).toInt = 12 := rfl; omega)))
        exact K80 (by omega)
    · have c55 : ¬ TK x L j = 2 := fun q => c55 ((cc_i (TK_o (x := x) (L := L) (i := j)) (show tkO 2 by unfold tkO; omega) (by decide +kernel)).mpr q)
      refine WQ.st (fun _ _ kz => pw_aload0 dX6_readPiece_58 kz) ?_
      refine wq_o0i wX6_kind lX6_70 rfl dX6_readPiece_59 (cf_s10 hC) (k_kind hC hN) rfl (Nat.le_of_ble_eq_true rfl) (Nat.le_of_ble_eq_true rfl) (fun h59 z59 => ?_)
      subst z59
      refine WQ.st (fun _ _ kz => pw_sipush (v := 214) dX6_readPiece_62 (by decide) kz) ?_
      refine WQ.bn (fun _ _ ka kb => pw_icmp_ne (tgt := 146) dX6_readPiece_65 (by decide) ka kb) (fun c65 => ?_) (fun c65 => ?_)
      · have c65 : ¬ TK x L j = 3 := fun q => c65 ((cc_i (TK_o (x := x) (L := L) (i := j)) (show tkO 3 by unfold tkO; omega) (by decide +kernel)).mpr q)
        rw [rpL, if_neg (fun q => q.elim c55 c65)]
        refine WQ.st (fun _ _ kz => pw_iconst (v := 1) dX6_readPiece_146 (by decide) kz) ?_
        refine ⟨_, _, pw_iret dX6_readPiece_147 rfl rfl rfl rfl, ?_⟩
        exact ⟨rfl, V, A, rfl, ⟨hN, hG⟩, FRQ.rfl⟩
      · have hud : TK x L j = 3 := (cc_i (TK_o (x := x) (L := L) (i := j)) (show tkO 3 by unfold tkO; omega) (by decide +kernel)).mp c65
        obtain hlt := lt_T hT hjT hud (by omega)
        rw [rpL, if_pos (Or.inr hud)]
        have K80 : b < 12 → WQ G (D + 1) mX6_readPiece 80 [some (.ref 10), some (.int (nI b)), y] [] (t, sl, gh S V P A B Q) (KZR x L T u S P B Q t sl (numR (TK x L) (TV x L) (TPl x L) 9 (j + 1) (fun v => rpL (TK x L) (TV x L) (TPl x L) q n (j + 2) (pm_up (pm_up F (15 + 12 * q + (F (10 + q)).toInt.toNat) ((if TK x L j = 2 then 1 else -1) * v)) (10 + q) (F (10 + q) + 1)))) V A) := by
          intro hb12
          unfold numR
          refine WQ.st (fun _ _ kz => pw_aload0 dX6_readPiece_80 kz) ?_
          refine wq_o0i wX6_kind lX6_70 rfl dX6_readPiece_81 (cf_s10 hC) (k_kind hC hN) rfl (Nat.le_of_ble_eq_true rfl) (Nat.le_of_ble_eq_true rfl) (fun h81 z81 => ?_)
          subst z81
          refine WQ.st (fun _ _ kz => pw_sipush (v := 213) dX6_readPiece_84 (by decide) kz) ?_
          refine WQ.bn (fun _ _ ka kb => pw_icmp_ne (tgt := 94) dX6_readPiece_87 (by decide) ka kb) (fun c87 => ?_) (fun c87 => absurd c87 (fun q => by have := (cc_i (TK_o (x := x) (L := L) (i := j)) (show tkO 2 by unfold tkO; omega) (by decide +kernel)).mp q; omega))
          refine WQ.st (fun _ _ kz => pw_iconst (v := 0) dX6_readPiece_94 (by decide) kz) ?_
          refine WQ.st (fun _ _ kz => pw_istore2 dX6_readPiece_95 (by decide) (k := kz)) ?_
          refine WQ.st (fun _ _ kz => pw_aload0 dX6_readPiece_96 kz) ?_
          refine WQ.st (fun _ _ kz => pw_dup dX6_readPiece_97 rfl kz) ?_
          refine WQ.st (fun _ _ kz => pw_geti gX6_31 dX6_readPiece_98 (cf_s10 hC) kz) ?_
          rw [hN.at]
          refine WQ.st (fun _ _ kz => pw_iconst (v := 1) dX6_readPiece_101 (by decide) kz) ?_
          refine WQ.st (fun _ _ kz => pw_iadd dX6_readPiece_102 kz) ?_
          rw [nI_1]
          refine WQ.st (fun _ _ kz => pw_puti (pX6_31 _ rfl) dX6_readPiece_103 (cf_s10 hC) rfl rfl kz) ?_
          have g1 : FRK V (up2 V 10 6 (nI (j + 1))) := FRK.up (by omega)
          refine WQ.st (fun _ _ kz => pw_aload0 dX6_readPiece_106 kz) ?_
          refine WQ.st (fun _ _ kz => pw_bipush (v := 9) dX6_readPiece_107 (by decide) kz) ?_
          refine wq_o1i wX6_takeNumber lX6_139 rfl dX6_readPiece_109 (cf_s10 hC) ((k_takeNumber (d := 0) (hi := 9) hC (hN.go hlt) hT (by omega)).mn (by omega)) rfl (Nat.le_of_ble_eq_true rfl) (Nat.le_of_ble_eq_true rfl) (fun h109 z109 => ?_)
          obtain ⟨V2, rfl, g2, e2, f2⟩ := z109
          refine WQ.bn (fun _ _ ka kb => pw_if_ne (tgt := 117) dX6_readPiece_112 (by decide) ka kb) (fun c112 => ?_) (fun c112 => ?_)
          · rw [bI_n] at c112
            have c112 := of_decide_eq_true c112
            have n2 := g2 c112
            rw [if_pos c112.1, if_pos c112.2]
            refine WQ.st (fun _ _ kz => pw_aload0 dX6_readPiece_117 kz) ?_
            refine WQ.st (fun _ _ kz => pw_getr gX6_41 dX6_readPiece_118 (cf_s10 hC) hp9 kz) ?_
            refine WQ.st (fun _ _ kz => pw_iload2 dX6_readPiece_121 kz) ?_
            refine WQ.br (fun _ _ ka kb => pw_if_eq (tgt := 132) dX6_readPiece_122 (by decide) ka kb) (fun c122 => ?_) (fun c122 => absurd rfl c122)
            refine WQ.st (fun _ _ kz => pw_aload0 dX6_readPiece_132 kz) ?_
            refine wq_o0i wX6_taken lX6_142 rfl dX6_readPiece_133 (cf_s10 hC) (k_taken hC n2 c112.1) rfl (Nat.le_of_ble_eq_true rfl) (Nat.le_of_ble_eq_true rfl) (fun h133 z133 => ?_)
            subst z133
            refine WQ.st (fun _ _ kz => pw_ineg dX6_readPiece_136 kz) ?_
            refine wq_o1v wX7_addBar lX6_151 rfl dX6_readPiece_137 (sh_s0 hU) ((k_addBar (d := 0) hU hq hb12 (by rw [(g1.tr f2).1 u (by omega)]; exact h6) hbA _).mn (by omega)) rfl (Nat.le_of_ble_eq_true rfl) (Nat.le_of_ble_eq_true rfl) (fun h137 z137 => ?_)
            subst z137
            refine WQ.st (fun _ _ kz => pw_iinc1 (v := 1) dX6_readPiece_140 (by decide) (by decide) (k := kz)) ?_
            rw [nI_1]
            refine WQ.st (fun _ _ kz => pw_goto (tgt := 42) dX6_readPiece_143 (by decide) kz) ?_
            have sg1 := (hG.fk (by omega) (g1.tr f2)).bar (y := (-TV x L (j + 1))) hq hb12 hF
            have kn1 : KN x L T (j + 2) V2 (up2 (up2 A (u + 1) (q * 12 + b) (-TV x L (j + 1))) (u + 2) q (nI (b + 1))) := n2.fr rfl (by rw [up2_na (by omega), up2_na (by omega)]) (by rw [up2_na (by omega), up2_na (by omega)]) (by rw [up2_na (by omega), up2_na (by omega)])
            have hFn : pm_up (pm_up F (15 + 12 * q + (F (10 + q)).toInt.toNat) (-TV x L (j + 1))) (10 + q) (F (10 + q) + 1) (10 + q) = nI (b + 1) := by rw [pm_up_eq, hF, nI_1]
            have fr1 : FRQ u V A V2 (up2 (up2 A (u + 1) (q * 12 + b) (-TV x L (j + 1))) (u + 2) q (nI (b + 1))) := ⟨(g1.tr f2).1, (g1.tr f2).2, fun b' h1 h2 _ _ => by rw [up2_na h2, up2_na h1]⟩
            rw [if_neg (show ¬ TK x L j = 2 by omega)]
            simp only [sg_v2]
            exact (ih (j + 2) _ V2 _ (b + 1) (by omega) (by omega) kn1 sg1 hFn (by rw [(g1.tr f2).1 u (by omega)]; exact h6)).kr fr1
          · rw [bI_0] at c112
            have c112 := of_decide_eq_false c112
            have e2 := e2 c112
            unfold tkE2 at e2
            refine WQ.st (fun _ _ kz => pw_iconst (v := 0) dX6_readPiece_115 (by decide) kz) ?_
            refine ⟨_, _, pw_iret dX6_readPiece_116 rfl rfl rfl rfl, ?_⟩
            by_cases c23 : TK x L (j + 1) = 23
            · rw [if_pos c23] at e2 ⊢
              rw [if_neg (fun q => c112 ⟨c23, q⟩)]
              exact ⟨rfl, V2, A, rfl, e2, (g1.tr f2).fq⟩
            · rw [if_neg c23] at e2 ⊢
              exact ⟨rfl, V2, A, rfl, e2, (g1.tr f2).fq⟩
        by_cases hb12 : b = 12
        · rw [if_pos (by rw [hF, hb12]; rfl)]
          refine WQ.st (fun _ _ kz => pw_iload1 dX6_readPiece_68 kz) ?_
          refine WQ.st (fun _ _ kz => pw_bipush (v := 12) dX6_readPiece_69 (by decide) kz) ?_
          refine WQ.bn (fun _ _ ka kb => pw_icmp_ne (tgt := 80) dX6_readPiece_71 (by decide) ka kb) (fun c71 => absurd (by rw [hb12]; rfl) c71) (fun c71 => ?_)
          refine WQ.st (fun _ _ kz => pw_aload0 dX6_readPiece_74 kz) ?_
          refine WQ.st (fun _ _ kz => pw_iconst (v := 4) dX6_readPiece_75 (by decide) kz) ?_
          refine wq_o1i wX6_faulty lX6_117 rfl dX6_readPiece_76 (cf_s10 hC) (k_faulty hC hN _) rfl (Nat.le_of_ble_eq_true rfl) (Nat.le_of_ble_eq_true rfl) (fun h76 z76 => ?_)
          obtain ⟨V2, rfl, e2, f2⟩ := z76
          refine ⟨_, _, pw_iret dX6_readPiece_79 rfl rfl rfl rfl, ?_⟩
          exact ⟨rfl, V2, A, rfl, e2, f2.fq⟩
        · rw [if_neg (by rw [hF]; exact fun q => hb12 (by have := congrArg Int32.toInt q; rw [ix_n (by omega)] at this; have e12 : (12 : Int32).toInt = 12 := rfl; omega))]
          refine WQ.st (fun _ _ kz => pw_iload1 dX6_readPiece_68 kz) ?_
          refine WQ.st (fun _ _ kz => pw_bipush (v := 12) dX6_readPiece_69 (by decide) kz) ?_
          refine WQ.bn (fun _ _ ka kb => pw_icmp_ne (tgt := 80) dX6_readPiece_71 (by decide) ka kb) (fun c71 => ?_) (fun c71 => absurd c71 (fun q => hb12 (by have := congrArg Int32.toInt q; rw [ix_n (by omega)] at this; have e12 : (12 : Int32).toInt = 12 := rfl; omega)))
          exact K80 (by omega)
