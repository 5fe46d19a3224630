def lawD (F : Nat → Int32) (c : List Int32) (law : Nat) (d : List Int32) : Prop := (F (4 + law) = 0 ∧ d = []) ∨ (F (4 + law) = 1 ∧ ∃ p e : List Int32, c = p ++ d ++ e ∧ F (6 + law) = nI p.length ∧ F (8 + law) = nI d.length)
theorem lawD.fr {F F' : Nat → Int32} {c d : List Int32} {law : Nat} (h : lawD F c law d) (h4 : F' (4 + law) = F (4 + law)) (h6 : F' (6 + law) = F (6 + law)) (h8 : F' (8 + law) = F (8 + law)) (y : List Int32) : lawD F' (c ++ y) law d := by
  rcases h with ⟨h, rfl⟩ | ⟨h, p, e, g1, g2, g3⟩
  · exact Or.inl ⟨h4.trans h, rfl⟩
  · exact Or.inr ⟨h4.trans h, p, e ++ y, by simp only [g1, List.append_assoc], h6.trans g2, h8.trans g3⟩
theorem lawD.f0 {F F' : Nat → Int32} {c d : List Int32} {law : Nat} (h : lawD F c law d) (h4 : F' (4 + law) = F (4 + law)) (h6 : F' (6 + law) = F (6 + law)) (h8 : F' (8 + law) = F (8 + law)) : lawD F' c law d := by
  have := h.fr h4 h6 h8 []
  rw [List.append_nil] at this
  exact this
def KS (x : Nat → Int32) (L T u i : Nat) (F : Nat → Int32) (c : List Int32) (V A : sV) : Prop := KN x L T i V A ∧ SG V A u F ∧ V u 6 = F 1 ∧ V u 7 = F 2 ∧ (∃ d, LWD V A (u + 5) d ∧ lawD F c 0 d) ∧ ∃ d, LWD V A (u + 7) d ∧ lawD F c 1 d
def KXL (x : Nat → Int32) (L T u : Nat) (r : RLn) (V A : sV) : Prop := match r with | .error e => KE e V | .ok s => KS x L T u s.1 s.2.1 s.2.2 V A
def okL (r : RLn) : Bool := match r with | .error _ => false | .ok _ => true
theorem okL_e {e : Int32 × Nat} : bI (okL (.error e)) = 0 := rfl
theorem okL_k {s : Nat × (Nat → Int32) × List Int32} : ¬ bI (okL (.ok s)) = 0 := (by decide : ¬ bI true = 0)
def FRW (u : Nat) (V A : sV) (P : sP) (V' A' : sV) (P' : sP) : Prop := (∀ b, b ≠ 10 → b < u ∨ u + 8 < b → V' b = V b) ∧ (∀ k, k ≠ 0 → k ≠ 1 → k ≠ 6 → V' 10 k = V 10 k) ∧ (∀ b, b < u ∨ u + 8 < b → A' b = A b) ∧ (∀ b, b ≠ 10 → P' b = P b) ∧ ∀ k, k ≠ 10 → P' 10 k = P 10 k
theorem FRW.tr {u : Nat} {V A V1 A1 V2 A2 : sV} {P P1 P2 : sP} (h : FRW u V A P V1 A1 P1) (g : FRW u V1 A1 P1 V2 A2 P2) : FRW u V A P V2 A2 P2 := ⟨fun b h1 h2 => (g.1 b h1 h2).trans (h.1 b h1 h2), fun k h1 h2 h3 => (g.2.1 k h1 h2 h3).trans (h.2.1 k h1 h2 h3), fun b h1 => (g.2.2.1 b h1).trans (h.2.2.1 b h1), fun b h1 => (g.2.2.2.1 b h1).trans (h.2.2.2.1 b h1), fun k h1 => (g.2.2.2.2 k h1).trans (h.2.2.2.2 k h1)⟩
theorem FRQ.fw {u : Nat} {V A V' A' : sV} {P : sP} (h : FRQ u V A V' A') : FRW u V A P V' A' P := ⟨fun b h1 _ => h.1 b h1, h.2.1, fun b h1 => h.2.2 b (by omega) (by omega) (by omega) (by omega), fun _ _ => _root_.rfl, fun _ _ => _root_.rfl⟩
theorem FRK.fw {u : Nat} {V V' A : sV} {P : sP} (h : FRK V V') : FRW u V A P V' A P := ⟨fun b h1 _ => h.1 b h1, h.2, fun _ _ => _root_.rfl, fun _ _ => _root_.rfl, fun _ _ => _root_.rfl⟩
theorem FRW.u {u k : Nat} {V A : sV} {P : sP} {y : Int32} (hu : 20 ≤ u) : FRW u V A P (up2 V u k y) A P := ⟨fun b h1 h2 => up2_na (by omega), fun k _ _ _ => by rw [up2_na (by omega)], fun _ _ => _root_.rfl, fun _ _ => _root_.rfl, fun _ _ => _root_.rfl⟩
theorem FRW.rfl {u : Nat} {V A : sV} {P : sP} : FRW u V A P V A P := ⟨fun _ _ _ => _root_.rfl, fun _ _ _ _ => _root_.rfl, fun _ _ => _root_.rfl, fun _ _ => _root_.rfl, fun _ _ => _root_.rfl⟩
theorem CF.p10 {S : sS} {P P' : sP} (h : CF S P) (h1 : ∀ b, b ≠ 10 → P' b = P b) (h2 : ∀ k, k ≠ 7 → k ≠ 9 → k ≠ 10 → P' 10 k = P 10 k) : CF S P' := by
  refine ⟨h.1, fun q hq => ?_⟩
  have g := (by decide : ∀ q ∈ cfR, q.1 = 10 → q.2.1 ≠ 7 ∧ q.2.1 ≠ 9 ∧ q.2.1 ≠ 10) q hq
  by_cases e : q.1 = 10
  · have := g e
    rw [e, h2 _ this.1 this.2.1 this.2.2, ← e]
    exact h.2 q hq
  · rw [h1 _ e]
    exact h.2 q hq
theorem SH.p10 {S : sS} {P P' : sP} {u : Nat} (h : SH S P u) (hu : 20 ≤ u) (h1 : ∀ b, b ≠ 10 → P' b = P b) : SH S P' u := by
  refine ⟨h.1, fun q hq => ?_⟩
  rw [h1 _ (by omega)]
  exact h.2 q hq
theorem CF.fw {S : sS} {u : Nat} {V A V' A' : sV} {P P' : sP} (h : CF S P) (f : FRW u V A P V' A' P') : CF S P' := h.p10 f.2.2.2.1 (fun k _ _ h3 => f.2.2.2.2 k h3)
theorem SH.fw {S : sS} {u v : Nat} {V A V' A' : sV} {P P' : sP} (h : SH S P v) (hu : 20 ≤ v) (f : FRW u V A P V' A' P') : SH S P' v := h.p10 hu f.2.2.2.1
def KZL (x : Nat → Int32) (L T u : Nat) (S : sS) (B : sB) (Q : sP) (t sl : Nat) (r : RLn) (V A : sV) (P : sP) : Option Value → Ph → Prop := fun q h' => q = some (.int (bI (okL r))) ∧ ∃ (V' A' : sV) (P' : sP), h' = (t, sl, gh S V' P' A' B Q) ∧ KXL x L T u r V' A' ∧ FRW u V A P V' A' P'
theorem KN.fq {x : Nat → Int32} {L T i u : Nat} {V A V' A' : sV} (hu : 20 ≤ u) (h : KN x L T i V A) (hV : V' 10 = V 10) (hA : ∀ b, b < u ∨ u + 8 < b → A' b = A b) : KN x L T i V' A' := h.fr hV (hA 11 (by omega)) (hA 12 (by omega)) (hA 13 (by omega))
theorem LWD.fq {u a : Nat} {V A V' A' : sV} {d : List Int32} (h : LWD V A a d) (f : FRQ u V A V' A') (ha : a ≠ 10) (ha2 : u + 4 ≤ a) : LWD V' A' a d := h.fr (f.1 a ha) (f.2.2 _ (by omega) (by omega) (by omega) (by omega))
theorem LWD.fk {a : Nat} {V A V' : sV} {d : List Int32} (h : LWD V A a d) (f : FRK V V') (ha : a ≠ 10) : LWD V' A a d := h.fr (f.1 a ha) rfl
theorem SG.fu {u k : Nat} {V A : sV} {F : Nat → Int32} {y : Int32} (h : SG V A u F) (hk : k = 6 ∨ k = 7) : SG (up2 V u k y) A u F := ⟨by rw [up2_nk (by omega)]; exact h.1, by rw [up2_nk (by omega)]; exact h.2.1, h.2.2⟩
theorem SG.cg {u : Nat} {V A : sV} {F F' : Nat → Int32} (h : SG V A u F) (h3 : F' 3 = F 3) (h0 : F' 0 = F 0) (hr : ∀ k, 10 ≤ k → F' k = F k) : SG V A u F' := ⟨by rw [h3]; exact h.1, by rw [h0]; exact h.2.1, fun i hi => by rw [hr _ (by omega)]; exact h.2.2.1 i hi, fun i hi => by rw [hr _ (by omega)]; exact h.2.2.2.1 i hi, fun i hi => by rw [hr _ (by omega)]; exact h.2.2.2.2.1 i hi, fun i hi => by rw [hr _ (by omega)]; exact h.2.2.2.2.2 i hi⟩
set_option maxRecDepth 20000 in
theorem k_readPiece {G : gT} {S : sS} {P : sP} {B : sB} {Q : sP} {t sl u : Nat} (hC : CF S P) (hU : SH S P u) (hp9 : P 10 9 = some u) (hu : 87 ≤ u) {x : Nat → Int32} {L T : Nat} (hT : TK x L T = 24) {i : Nat} {F : Nat → Int32} {c : List Int32} {V A : sV} (hS : KS x L T u i F c V A) (hI : IVF F c) (hk : TK x L i = 1) {D : Nat} (hD : 22 ≤ D) : WQ G D mX6_readPiece 0 [some (.ref 10), none, none] [] (t, sl, gh S V P A B Q) (KZL x L T u S B Q t sl (lnP (TK x L) (TV x L) (TPl x L) T i F c) V A P) := by
  obtain ⟨hN, hG, h6, h7, hl0, hl1⟩ := hS
  have hiT := hN.le
  have ht9 := hN.t9
  have hlt := lt_T hT hiT hk (by omega)
  obtain ⟨q, hq4, hq1, hz⟩ := hI.1
  obtain ⟨D, rfl⟩ : ∃ D', D = D' + 1 := ⟨D - 1, by omega⟩
  unfold lnP
  refine WQ.st (fun _ _ kz => pw_aload0 dX6_readPiece_0 kz) ?_
  refine WQ.st (fun _ _ kz => pw_getr gX6_41 dX6_readPiece_1 (cf_s10 hC) hp9 kz) ?_
  refine WQ.st (fun _ _ kz => pw_geti gX6_148 dX6_readPiece_4 (sh_s0 hU) kz) ?_
  rw [h6, hq1]
  refine WQ.st (fun _ _ kz => pw_iconst (v := 4) dX6_readPiece_7 (by decide) kz) ?_
  refine WQ.br (fun _ _ ka kb => pw_icmp_lt (tgt := 17) dX6_readPiece_8 (by decide) ka kb) (fun c8 => ?_) (fun c8 => ?_)
  · rw [lt_i (ix_n (by omega)) (show (4 : Int32).toInt = 4 from rfl)] at c8
    rw [if_neg (fun e => by have := congrArg Int32.toInt e; rw [ix_n (by omega)] at this; have e4 : (4 : Int32).toInt = 4 := rfl; omega)]
    refine WQ.st (fun _ _ kz => pw_aload0 dX6_readPiece_17 kz) ?_
    refine WQ.st (fun _ _ kz => pw_dup dX6_readPiece_18 rfl kz) ?_
    refine WQ.st (fun _ _ kz => pw_geti gX6_31 dX6_readPiece_19 (cf_s10 hC) kz) ?_
    rw [hN.at]
    refine WQ.st (fun _ _ kz => pw_iconst (v := 1) dX6_readPiece_22 (by decide) kz) ?_
    refine WQ.st (fun _ _ kz => pw_iadd dX6_readPiece_23 kz) ?_
    rw [nI_1]
    refine WQ.st (fun _ _ kz => pw_puti (pX6_31 _ rfl) dX6_readPiece_24 (cf_s10 hC) rfl rfl kz) ?_
    refine WQ.st (fun _ _ kz => pw_aload0 dX6_readPiece_27 kz) ?_
    refine WQ.st (fun _ _ kz => pw_getr gX6_41 dX6_readPiece_28 (cf_s10 hC) hp9 kz) ?_
    refine WQ.st (fun _ _ kz => pw_dup dX6_readPiece_31 rfl kz) ?_
    refine WQ.st (fun _ _ kz => pw_geti gX6_148 dX6_readPiece_32 (sh_s0 hU) kz) ?_
    rw [up2_na (by omega), h6, hq1]
    refine WQ.st (fun _ _ kz => pw_iconst (v := 1) dX6_readPiece_35 (by decide) kz) ?_
    refine WQ.st (fun _ _ kz => pw_iadd dX6_readPiece_36 kz) ?_
    rw [nI_1]
    refine WQ.st (fun _ _ kz => pw_puti (pX6_148 _ rfl) dX6_readPiece_37 (sh_s0 hU) rfl rfl kz) ?_
    refine WQ.st (fun _ _ kz => pw_iconst (v := 0) dX6_readPiece_40 (by decide) kz) ?_
    refine WQ.st (fun _ _ kz => pw_istore1 dX6_readPiece_41 (by decide) (k := kz)) ?_
    have g1 : FRK V (up2 V 10 6 (nI (i + 1))) := FRK.up (by omega)
    have n1 : KN x L T (i + 1) (up2 (up2 V 10 6 (nI (i + 1))) u 6 (nI (q + 1))) A := (hN.go hlt).fq (u := u) (by omega) (by rw [up2_na (by omega)]) (fun _ _ => rfl)
    have s1 : SG (up2 (up2 V 10 6 (nI (i + 1))) u 6 (nI (q + 1))) A u F := (hG.fk (by omega) g1).fu (by omega)
    have w1 : FRW u V A P (up2 (up2 V 10 6 (nI (i + 1))) u 6 (nI (q + 1))) A P := g1.fw.tr (FRW.u (by omega))
    have e1 : (nI q).toInt.toNat = q := by rw [ix_n (by omega)]; rfl
    rw [e1]
    refine (l_krp hC hU hp9 hu hT (q := q) (by omega) (by omega) (T + 1) (i + 1) F _ A 0 (by omega) (by omega) n1 s1 (hz q (by omega) (by omega)) up2_eq).imp (fun r h' z => ?_)
    obtain ⟨z1, V2, A2, z2, z3, z4⟩ := z
    generalize hr : rpL (TK x L) (TV x L) (TPl x L) q (T + 1) (i + 1) F = rr at *
    cases rr with
    | error e => exact ⟨z1, V2, A2, P, z2, z3, w1.tr z4.fw⟩
    | ok s =>
      have iv := rpL_iv (fun i h => TV_b h) (by omega : q < 4) _ _ _ _ hr hI.2.2.1
      refine ⟨z1, V2, A2, P, z2, ?_, w1.tr z4.fw⟩
      have z3 : KN x L T s.1 V2 A2 ∧ SG V2 A2 u s.2 := z3
      have v2 : V2 u = up2 (up2 V 10 6 (nI (i + 1))) u 6 (nI (q + 1)) u := z4.1 u (by omega)
      have kp : ∀ k, 3 < k → k < 10 → pm_up s.2 1 (s.2 1 + 1) k = F k := fun k h1 h2 => by rw [pm_up_ne (by omega)]; exact iv.2.1 _ (by omega)
      refine ⟨z3.1, z3.2.cg (F' := pm_up s.2 1 (s.2 1 + 1)) (pm_up_ne (by omega)) (pm_up_ne (by omega)) (fun k hk => pm_up_ne (by omega)), ?_, ?_, ?_, ?_⟩
      · rw [v2, up2_eq]; show nI (q + 1) = pm_up s.2 1 (s.2 1 + 1) 1; rw [pm_up_eq, iv.2.1 1 (by omega), hq1, nI_1]
      · rw [v2, up2_nk (by omega), up2_na (by omega), h7]; show F 2 = pm_up s.2 1 (s.2 1 + 1) 2; rw [pm_up_ne (by omega), iv.2.1 2 (by omega)]
      · obtain ⟨d, y1, y2⟩ := hl0
        refine ⟨d, (LWD.fr (V' := up2 (up2 V 10 6 (nI (i + 1))) u 6 (nI (q + 1))) (A' := A) y1 (by rw [up2_na (by omega), up2_na (by omega)]) rfl).fq z4 (by omega) (by omega), y2.f0 (F' := pm_up s.2 1 (s.2 1 + 1)) (kp 4 (by omega) (by omega)) (kp 6 (by omega) (by omega)) (kp 8 (by omega) (by omega))⟩
      · obtain ⟨d, y1, y2⟩ := hl1
        refine ⟨d, (LWD.fr (V' := up2 (up2 V 10 6 (nI (i + 1))) u 6 (nI (q + 1))) (A' := A) y1 (by rw [up2_na (by omega), up2_na (by omega)]) rfl).fq z4 (by omega) (by omega), y2.f0 (F' := pm_up s.2 1 (s.2 1 + 1)) (kp 5 (by omega) (by omega)) (kp 7 (by omega) (by omega)) (kp 9 (by omega) (by omega))⟩
  · rw [lt_i (ix_n (by omega)) (show (4 : Int32).toInt = 4 from rfl)] at c8
    rw [if_pos (by rw [show q = 4 by omega]; rfl)]
    refine WQ.st (fun _ _ kz => pw_aload0 dX6_readPiece_11 kz) ?_
    refine WQ.st (fun _ _ kz => pw_iconst (v := 4) dX6_readPiece_12 (by decide) kz) ?_
    refine wq_o1i wX6_faulty lX6_117 rfl dX6_readPiece_13 (cf_s10 hC) (k_faulty hC hN _) rfl (Nat.le_of_ble_eq_true rfl) (Nat.le_of_ble_eq_true rfl) (fun h13 z13 => ?_)
    obtain ⟨V1, rfl, e1, f1⟩ := z13
    refine ⟨_, _, pw_iret dX6_readPiece_16 rfl rfl rfl rfl, ?_⟩
    exact ⟨rfl, V1, A, P, rfl, e1, f1.fw⟩
set_option maxRecDepth 20000 in
theorem k_readPlayer {G : gT} {S : sS} {P : sP} {B : sB} {Q : sP} {t sl u : Nat} (hC : CF S P) (hU : SH S P u) (hp9 : P 10 9 = some u) (hu : 87 ≤ u) {x : Nat → Int32} {L T : Nat} (hT : TK x L T = 24) {i : Nat} {F : Nat → Int32} {c : List Int32} {V A : sV} (hS : KS x L T u i F c V A) (hI : IVF F c) (hk : TK x L i = 4) {D : Nat} (hD : 22 ≤ D) : WQ G D mX6_readPlayer 0 [some (.ref 10), none, none, none] [] (t, sl, gh S V P A B Q) (KZL x L T u S B Q t sl (lnY (TK x L) (TV x L) (TPl x L) T i F c) V A P) := by
  obtain ⟨hN, hG, h6, h7, hl0, hl1⟩ := hS
  have hiT := hN.le
  have ht9 := hN.t9
  have hlt := lt_T hT hiT hk (by omega)
  obtain ⟨q, hq4, hq1, hz⟩ := hI.2.1
  obtain ⟨D, rfl⟩ : ∃ D', D = D' + 1 := ⟨D - 1, by omega⟩
  unfold lnY
  refine WQ.st (fun _ _ kz => pw_aload0 dX6_readPlayer_0 kz) ?_
  refine WQ.st (fun _ _ kz => pw_getr gX6_41 dX6_readPlayer_1 (cf_s10 hC) hp9 kz) ?_
  refine WQ.st (fun _ _ kz => pw_geti gX6_155 dX6_readPlayer_4 (sh_s0 hU) kz) ?_
  rw [h7, hq1]
  refine WQ.st (fun _ _ kz => pw_istore1 dX6_readPlayer_7 (by decide) (k := kz)) ?_
  refine WQ.st (fun _ _ kz => pw_iload1 dX6_readPlayer_8 kz) ?_
  refine WQ.st (fun _ _ kz => pw_iconst (v := 5) dX6_readPlayer_9 (by decide) kz) ?_
  refine WQ.br (fun _ _ ka kb => pw_icmp_lt (tgt := 19) dX6_readPlayer_10 (by decide) ka kb) (fun c10 => ?_) (fun c10 => ?_)
  · rw [lt_i (ix_n (by omega)) (show (5 : Int32).toInt = 5 from rfl)] at c10
    rw [if_neg (fun e => by have := congrArg Int32.toInt e; rw [ix_n (by omega)] at this; have e4 : (5 : Int32).toInt = 5 := rfl; omega)]
    refine WQ.st (fun _ _ kz => pw_aload0 dX6_readPlayer_19 kz) ?_
    refine WQ.st (fun _ _ kz => pw_dup dX6_readPlayer_20 rfl kz) ?_
    refine WQ.st (fun _ _ kz => pw_geti gX6_31 dX6_readPlayer_21 (cf_s10 hC) kz) ?_
    rw [hN.at]
    refine WQ.st (fun _ _ kz => pw_iconst (v := 1) dX6_readPlayer_24 (by decide) kz) ?_
    refine WQ.st (fun _ _ kz => pw_iadd dX6_readPlayer_25 kz) ?_
    rw [nI_1]
    refine WQ.st (fun _ _ kz => pw_puti (pX6_31 _ rfl) dX6_readPlayer_26 (cf_s10 hC) rfl rfl kz) ?_
    refine WQ.st (fun _ _ kz => pw_aload0 dX6_readPlayer_29 kz) ?_
    refine WQ.st (fun _ _ kz => pw_getr gX6_41 dX6_readPlayer_30 (cf_s10 hC) hp9 kz) ?_
    refine WQ.st (fun _ _ kz => pw_dup dX6_readPlayer_33 rfl kz) ?_
    refine WQ.st (fun _ _ kz => pw_geti gX6_155 dX6_readPlayer_34 (sh_s0 hU) kz) ?_
    rw [up2_na (by omega), h7, hq1]
    refine WQ.st (fun _ _ kz => pw_iconst (v := 1) dX6_readPlayer_37 (by decide) kz) ?_
    refine WQ.st (fun _ _ kz => pw_iadd dX6_readPlayer_38 kz) ?_
    rw [nI_1]
    refine WQ.st (fun _ _ kz => pw_puti (pX6_155 _ rfl) dX6_readPlayer_39 (sh_s0 hU) rfl rfl kz) ?_
    refine WQ.st (fun _ _ kz => pw_iconst (v := 0) dX6_readPlayer_42 (by decide) kz) ?_
    refine WQ.st (fun _ _ kz => pw_istore2 dX6_readPlayer_43 (by decide) (k := kz)) ?_
    have g1 : FRK V (up2 V 10 6 (nI (i + 1))) := FRK.up (by omega)
    have n1 : KN x L T (i + 1) (up2 (up2 V 10 6 (nI (i + 1))) u 7 (nI (q + 1))) A := (hN.go hlt).fq (u := u) (by omega) (by rw [up2_na (by omega)]) (fun _ _ => rfl)
    have s1 : SG (up2 (up2 V 10 6 (nI (i + 1))) u 7 (nI (q + 1))) A u F := (hG.fk (by omega) g1).fu (by omega)
    have w1 : FRW u V A P (up2 (up2 V 10 6 (nI (i + 1))) u 7 (nI (q + 1))) A P := g1.fw.tr (FRW.u (by omega))
    have e1 : (nI q).toInt.toNat = q := by rw [ix_n (by omega)]; rfl
    rw [e1]
    refine (l_krf hC hU hp9 hu hT (p := q) (by omega) (by omega) (T + 1) (i + 1) F _ A 0 (by omega) (by omega) n1 s1).imp (fun r h' z => ?_)
    obtain ⟨z1, V2, A2, z2, z3, z4⟩ := z
    generalize hr : rfL (TK x L) (TV x L) (TPl x L) q (T + 1) (i + 1) F = rr at *
    cases rr with
    | error e => exact ⟨z1, V2, A2, P, z2, z3, w1.tr z4.fw⟩
    | ok s =>
      have iv := rfL_iv (fun i h => TV_b h) (by omega : q < 5) _ _ _ _ hr hI.2.2.1
      refine ⟨z1, V2, A2, P, z2, ?_, w1.tr z4.fw⟩
      have z3 : KN x L T s.1 V2 A2 ∧ SG V2 A2 u s.2 := z3
      have v2 : V2 u = up2 (up2 V 10 6 (nI (i + 1))) u 7 (nI (q + 1)) u := z4.1 u (by omega)
      have kp : ∀ k, 3 < k → k < 10 → pm_up s.2 2 (s.2 2 + 1) k = F k := fun k h1 h2 => by rw [pm_up_ne (by omega)]; exact iv.2 _ (by omega) (by omega)
      refine ⟨z3.1, z3.2.cg (F' := pm_up s.2 2 (s.2 2 + 1)) (pm_up_ne (by omega)) (pm_up_ne (by omega)) (fun k hk => pm_up_ne (by omega)), ?_, ?_, ?_, ?_⟩
      · rw [v2, up2_nk (by omega), up2_na (by omega), h6]; show F 1 = pm_up s.2 2 (s.2 2 + 1) 1; rw [pm_up_ne (by omega), iv.2 1 (by omega) (by omega)]
      · rw [v2, up2_eq]; show nI (q + 1) = pm_up s.2 2 (s.2 2 + 1) 2; rw [pm_up_eq, iv.2 2 (by omega) (by omega), hq1, nI_1]
      · obtain ⟨d, y1, y2⟩ := hl0
        refine ⟨d, (LWD.fr (V' := up2 (up2 V 10 6 (nI (i + 1))) u 7 (nI (q + 1))) (A' := A) y1 (by rw [up2_na (by omega), up2_na (by omega)]) rfl).fq z4 (by omega) (by omega), y2.f0 (F' := pm_up s.2 2 (s.2 2 + 1)) (kp 4 (by omega) (by omega)) (kp 6 (by omega) (by omega)) (kp 8 (by omega) (by omega))⟩
      · obtain ⟨d, y1, y2⟩ := hl1
        refine ⟨d, (LWD.fr (V' := up2 (up2 V 10 6 (nI (i + 1))) u 7 (nI (q + 1))) (A' := A) y1 (by rw [up2_na (by omega), up2_na (by omega)]) rfl).fq z4 (by omega) (by omega), y2.f0 (F' := pm_up s.2 2 (s.2 2 + 1)) (kp 5 (by omega) (by omega)) (kp 7 (by omega) (by omega)) (kp 9 (by omega) (by omega))⟩
  · rw [lt_i (ix_n (by omega)) (show (5 : Int32).toInt = 5 from rfl)] at c10
    rw [if_pos (by rw [show q = 5 by omega]; rfl)]
    refine WQ.st (fun _ _ kz => pw_aload0 dX6_readPlayer_13 kz) ?_
    refine WQ.st (fun _ _ kz => pw_iconst (v := 4) dX6_readPlayer_14 (by decide) kz) ?_
    refine wq_o1i wX6_faulty lX6_117 rfl dX6_readPlayer_15 (cf_s10 hC) (k_faulty hC hN _) rfl (Nat.le_of_ble_eq_true rfl) (Nat.le_of_ble_eq_true rfl) (fun h15 z15 => ?_)
    obtain ⟨V1, rfl, e1, f1⟩ := z15
    refine ⟨_, _, pw_iret dX6_readPlayer_18 rfl rfl rfl rfl, ?_⟩
    exact ⟨rfl, V1, A, P, rfl, e1, f1.fw⟩
