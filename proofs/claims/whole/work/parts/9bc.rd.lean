/-! ===== the class: reading laws ===== -/
def okB (r : PR) : Bool := match r with | .error _ => false | .ok _ => true
theorem okB_e {e : Int32 × Nat} : bI (okB (.error e)) = 0 := rfl
theorem okB_k {s : Nat × List Int32} : ¬ bI (okB (.ok s)) = 0 := (by decide : ¬ bI true = 0)
def KX (x : Nat → Int32) (L T a : Nat) (pre : List Int32) (r : PR) (V A : sV) : Prop := match r with | .error e => KE e V | .ok s => KN x L T s.1 V A ∧ ∃ d, s.2 = pre ++ d ∧ LWD V A a d
def FRA (a : Nat) (V A V' A' : sV) : Prop := (∀ b, b ≠ 10 → b ≠ a → V' b = V b) ∧ (∀ k, k ≠ 0 → k ≠ 1 → k ≠ 6 → V' 10 k = V 10 k) ∧ ∀ b, b ≠ a + 1 → A' b = A b
theorem FRA.rfl {a : Nat} {V A : sV} : FRA a V A V A := ⟨fun _ _ _ => _root_.rfl, fun _ _ _ _ => _root_.rfl, fun _ _ => _root_.rfl⟩
theorem FRA.tr {a : Nat} {V A V1 A1 V2 A2 : sV} (h : FRA a V A V1 A1) (g : FRA a V1 A1 V2 A2) : FRA a V A V2 A2 := ⟨fun b h1 h2 => (g.1 b h1 h2).trans (h.1 b h1 h2), fun k h1 h2 h3 => (g.2.1 k h1 h2 h3).trans (h.2.1 k h1 h2 h3), fun b hb => (g.2.2 b hb).trans (h.2.2 b hb)⟩
theorem FRK.fa {a : Nat} {V V' A : sV} (h : FRK V V') : FRA a V A V' A := ⟨fun b h1 _ => h.1 b h1, fun k h1 h2 h3 => h.2 k h1 h2 h3, fun _ _ => _root_.rfl⟩
theorem FrL.fa {a : Nat} {V V' A A' : sV} (ha : 20 ≤ a) (h : FrL a V A V' A') : FRA a V A V' A' := ⟨fun b _ h2 => h.1 b h2, fun k _ _ _ => by rw [h.1 10 (by omega)], fun b hb => h.2 b hb⟩
theorem FrL.kn {x : Nat → Int32} {L T i a : Nat} {V A V' A' : sV} (ha : 20 ≤ a) (h : FrL a V A V' A') (k : KN x L T i V A) : KN x L T i V' A' := k.fr (h.1 10 (by omega)) (h.2 11 (by omega)) (h.2 12 (by omega)) (h.2 13 (by omega))
theorem FRK.lw {a : Nat} {V V' A : sV} {d : List Int32} (ha : 20 ≤ a) (h : FRK V V') (k : LWD V A a d) : LWD V' A a d := k.fr (h.1 a (by omega)) _root_.rfl
def KZ (x : Nat → Int32) (L T a : Nat) (pre : List Int32) (S : sS) (P : sP) (B : sB) (Q : sP) (t sl : Nat) (r : PR) (V A : sV) : Option Value → Ph → Prop := fun q h' => q = some (.int (bI (okB r))) ∧ ∃ V' A' : sV, h' = (t, sl, gh S V' P A' B Q) ∧ KX x L T a pre r V' A' ∧ FRA a V A V' A'
theorem WQ.kz {G : gT} {D : Nat} {M : mT} {pc : Nat} {ls : List (Option Value)} {st : List Value} {h : Ph} {S : sS} {P : sP} {B : sB} {Q : sP} {t sl a : Nat} {x : Nat → Int32} {L T : Nat} {pre : List Int32} {r : PR} {V A V1 A1 : sV} (k : WQ G D M pc ls st h (KZ x L T a pre S P B Q t sl r V1 A1)) (f : FRA a V A V1 A1) : WQ G D M pc ls st h (KZ x L T a pre S P B Q t sl r V A) := by
  obtain ⟨q, h', k, z1, V2, A2, z2, z3, z4⟩ := k
  exact ⟨q, h', k, z1, V2, A2, z2, z3, f.tr z4⟩
def HC (G : gT) (S : sS) (P : sP) (B : sB) (Q : sP) (t sl a : Nat) (x : Nat → Int32) (L T : Nat) (M : mT) (lc : Nat → List (Option Value)) (nt off n : Nat) : Prop := ∀ (i dep : Nat) (pre d : List Int32) (m : Nat) (V A : sV) (D : Nat), dep ≤ 6 → 10 * (T - i) + rkT nt < n → KN x L T i V A → LWD V A a d → RB T m i (pre ++ d) → 20 + 13 * (6 - dep) + off ≤ D → WQ G D M 0 (lc dep) [] (t, sl, gh S V P A B Q) (KZ x L T a pre S P B Q t sl (ps (TK x L) (TV x L) (TPl x L) n nt i dep (pre ++ d)) V A)
def HL (G : gT) (S : sS) (P : sP) (B : sB) (Q : sP) (t sl a : Nat) (x : Nat → Int32) (L T lv : Nat) (nt off n : Nat) : Prop := ∀ (i dep k : Nat) (pre d : List Int32) (m : Nat) (V A : sV) (D : Nat) (y : Option Value), dep ≤ 6 → 10 * (T - i) + rkT nt < n → k ≤ i → KN x L T i V A → LWD V A a d → RB T m i (pre ++ d) → 20 + 13 * (6 - dep) + off ≤ D → WQ G D mX6_readChain 13 [some (.ref 10), some (.int (nI lv)), some (.int (nI dep)), some (.int (nI k)), y] [] (t, sl, gh S V P A B Q) (KZ x L T a pre S P B Q t sl (ps (TK x L) (TV x L) (TPl x L) n nt i dep (pre ++ d)) V A)
def jkF (lv k : Nat) : Bool := if lv = 0 then decide (k = 18) else if lv = 1 then decide (k = 17) else if lv = 2 then decide (k = 32 ∨ k = 33) else decide (k = 34)
def jcF (k : Nat) : Int32 := if k = 18 then 3008 else if k = 17 then 3007 else if k = 32 then 3000 else if k = 33 then 3001 else 3002
theorem jk_24 : ∀ lv, jkF lv 24 = false := by
  intro lv
  unfold jkF
  split
  · rfl
  · split
    · rfl
    · split <;> rfl
theorem jc_ok : ∀ k, k < 42 → ∀ lv, lv < 4 → jkF lv k = true → (2000 + ccK k = ctk (jcF k)) ∧ 3000 ≤ (jcF k).toInt ∧ (jcF k).toInt ≤ 3008 := by decide +kernel
theorem rk_9 (nt : Nat) : rkT nt ≤ 9 := by
  unfold rkT
  repeat' split
  all_goals omega
theorem jk_0 (k : Nat) : jkF 0 k = decide (k = 18) := rfl
theorem jk_1 (k : Nat) : jkF 1 k = decide (k = 17) := rfl
theorem jk_2 (k : Nat) : jkF 2 k = decide (k = 32 ∨ k = 33) := rfl
theorem jk_3 (k : Nat) : jkF 3 k = decide (k = 34) := rfl
set_option maxRecDepth 20000 in
theorem k_joins0 {G : gT} {d : Nat} {h : Ph} {k : Nat} (hk : tkO k) : WQ G d mX6_joins 0 [some (.int (nI 0)), some (.int (ccK k))] [] h (fun r h' => r = some (.int (bI (jkF 0 k))) ∧ h' = h) := by
  rw [jk_0]
  refine WQ.st (fun _ _ kz => pw_iload0 dX6_joins_0 kz) ?_
  refine WQ.st (fun _ _ kz => pw_tableIn (off := 27) (tgt := 28) dX6_joins_1 (by decide) (by decide) rfl (by decide) kz) ?_
  refine WQ.st (fun _ _ kz => pw_iload1 dX6_joins_28 kz) ?_
  refine WQ.st (fun _ _ kz => pw_sipush (v := 217) dX6_joins_29 (by decide) kz) ?_
  refine WQ.bn (fun _ _ ka kb => pw_icmp_ne (tgt := 39) dX6_joins_32 (by decide) ka kb) (fun c32 => ?_) (fun c32 => ?_)
  · refine WQ.st (fun _ _ kz => pw_iconst (v := 0) dX6_joins_39 (by decide) kz) ?_
    refine ⟨_, _, pw_iret dX6_joins_40 rfl rfl rfl rfl, ?_⟩
    exact ⟨rI (bI_z (decide_eq_false (fun q => c32 ((cc_i hk (show tkO 18 by unfold tkO; omega) (by decide +kernel)).mpr q)))), rfl⟩
  · refine WQ.st (fun _ _ kz => pw_iconst (v := 1) dX6_joins_35 (by decide) kz) ?_
    refine WQ.st (fun _ _ kz => pw_goto (tgt := 40) dX6_joins_36 (by decide) kz) ?_
    refine ⟨_, _, pw_iret dX6_joins_40 rfl rfl rfl rfl, ?_⟩
    exact ⟨rI (bI_t (decide_eq_true ((cc_i hk (show tkO 18 by unfold tkO; omega) (by decide +kernel)).mp c32))), rfl⟩
set_option maxRecDepth 20000 in
theorem k_joins1 {G : gT} {d : Nat} {h : Ph} {k : Nat} (hk : tkO k) : WQ G d mX6_joins 0 [some (.int (nI 1)), some (.int (ccK k))] [] h (fun r h' => r = some (.int (bI (jkF 1 k))) ∧ h' = h) := by
  rw [jk_1]
  refine WQ.st (fun _ _ kz => pw_iload0 dX6_joins_0 kz) ?_
  refine WQ.st (fun _ _ kz => pw_tableIn (off := 40) (tgt := 41) dX6_joins_1 (by decide) (by decide) rfl (by decide) kz) ?_
  refine WQ.st (fun _ _ kz => pw_iload1 dX6_joins_41 kz) ?_
  refine WQ.st (fun _ _ kz => pw_sipush (v := 218) dX6_joins_42 (by decide) kz) ?_
  refine WQ.bn (fun _ _ ka kb => pw_icmp_ne (tgt := 52) dX6_joins_45 (by decide) ka kb) (fun c45 => ?_) (fun c45 => ?_)
  · refine WQ.st (fun _ _ kz => pw_iconst (v := 0) dX6_joins_52 (by decide) kz) ?_
    refine ⟨_, _, pw_iret dX6_joins_53 rfl rfl rfl rfl, ?_⟩
    exact ⟨rI (bI_z (decide_eq_false (fun q => c45 ((cc_i hk (show tkO 17 by unfold tkO; omega) (by decide +kernel)).mpr q)))), rfl⟩
  · refine WQ.st (fun _ _ kz => pw_iconst (v := 1) dX6_joins_48 (by decide) kz) ?_
    refine WQ.st (fun _ _ kz => pw_goto (tgt := 53) dX6_joins_49 (by decide) kz) ?_
    refine ⟨_, _, pw_iret dX6_joins_53 rfl rfl rfl rfl, ?_⟩
    exact ⟨rI (bI_t (decide_eq_true ((cc_i hk (show tkO 17 by unfold tkO; omega) (by decide +kernel)).mp c45))), rfl⟩
set_option maxRecDepth 20000 in
theorem k_joins3 {G : gT} {d : Nat} {h : Ph} {k : Nat} (hk : tkO k) : WQ G d mX6_joins 0 [some (.int (nI 3)), some (.int (ccK k))] [] h (fun r h' => r = some (.int (bI (jkF 3 k))) ∧ h' = h) := by
  rw [jk_3]
  refine WQ.st (fun _ _ kz => pw_iload0 dX6_joins_0 kz) ?_
  refine WQ.st (fun _ _ kz => pw_tableOut (tgt := 72) dX6_joins_1 (by decide) (by decide) kz) ?_
  refine WQ.st (fun _ _ kz => pw_iload1 dX6_joins_72 kz) ?_
  refine WQ.st (fun _ _ kz => pw_bipush (v := 42) dX6_joins_73 (by decide) kz) ?_
  refine WQ.bn (fun _ _ ka kb => pw_icmp_ne (tgt := 82) dX6_joins_75 (by decide) ka kb) (fun c75 => ?_) (fun c75 => ?_)
  · refine WQ.st (fun _ _ kz => pw_iconst (v := 0) dX6_joins_82 (by decide) kz) ?_
    refine ⟨_, _, pw_iret dX6_joins_83 rfl rfl rfl rfl, ?_⟩
    exact ⟨rI (bI_z (decide_eq_false (fun q => c75 ((cc_i hk (show tkO 34 by unfold tkO; omega) (by decide +kernel)).mpr q)))), rfl⟩
  · refine WQ.st (fun _ _ kz => pw_iconst (v := 1) dX6_joins_78 (by decide) kz) ?_
    refine WQ.st (fun _ _ kz => pw_goto (tgt := 83) dX6_joins_79 (by decide) kz) ?_
    refine ⟨_, _, pw_iret dX6_joins_83 rfl rfl rfl rfl, ?_⟩
    exact ⟨rI (bI_t (decide_eq_true ((cc_i hk (show tkO 34 by unfold tkO; omega) (by decide +kernel)).mp c75))), rfl⟩
set_option maxRecDepth 20000 in
theorem k_joins2 {G : gT} {d : Nat} {h : Ph} {k : Nat} (hk : tkO k) : WQ G d mX6_joins 0 [some (.int (nI 2)), some (.int (ccK k))] [] h (fun r h' => r = some (.int (bI (jkF 2 k))) ∧ h' = h) := by
  rw [jk_2]
  refine WQ.st (fun _ _ kz => pw_iload0 dX6_joins_0 kz) ?_
  refine WQ.st (fun _ _ kz => pw_tableIn (off := 53) (tgt := 54) dX6_joins_1 (by decide) (by decide) rfl (by decide) kz) ?_
  refine WQ.st (fun _ _ kz => pw_iload1 dX6_joins_54 kz) ?_
  refine WQ.st (fun _ _ kz => pw_bipush (v := 43) dX6_joins_55 (by decide) kz) ?_
  refine WQ.br (fun _ _ ka kb => pw_icmp_eq (tgt := 66) dX6_joins_57 (by decide) ka kb) (fun c57 => ?_) (fun c57 => ?_)
  · refine WQ.st (fun _ _ kz => pw_iconst (v := 1) dX6_joins_66 (by decide) kz) ?_
    refine WQ.st (fun _ _ kz => pw_goto (tgt := 71) dX6_joins_67 (by decide) kz) ?_
    refine ⟨_, _, pw_iret dX6_joins_71 rfl rfl rfl rfl, ?_⟩
    exact ⟨rI (bI_t (decide_eq_true (Or.inl ((cc_i hk (show tkO 32 by unfold tkO; omega) (by decide +kernel)).mp c57)))), rfl⟩
  · refine WQ.st (fun _ _ kz => pw_iload1 dX6_joins_60 kz) ?_
    refine WQ.st (fun _ _ kz => pw_bipush (v := 45) dX6_joins_61 (by decide) kz) ?_
    refine WQ.bn (fun _ _ ka kb => pw_icmp_ne (tgt := 70) dX6_joins_63 (by decide) ka kb) (fun c63 => ?_) (fun c63 => ?_)
    · refine WQ.st (fun _ _ kz => pw_iconst (v := 0) dX6_joins_70 (by decide) kz) ?_
      refine ⟨_, _, pw_iret dX6_joins_71 rfl rfl rfl rfl, ?_⟩
      exact ⟨rI (bI_z (decide_eq_false (fun q => q.elim (fun q => c57 ((cc_i hk (show tkO 32 by unfold tkO; omega) (by decide +kernel)).mpr q)) (fun q => c63 ((cc_i hk (show tkO 33 by unfold tkO; omega) (by decide +kernel)).mpr q))))), rfl⟩
    · refine WQ.st (fun _ _ kz => pw_iconst (v := 1) dX6_joins_66 (by decide) kz) ?_
      refine WQ.st (fun _ _ kz => pw_goto (tgt := 71) dX6_joins_67 (by decide) kz) ?_
      refine ⟨_, _, pw_iret dX6_joins_71 rfl rfl rfl rfl, ?_⟩
      exact ⟨rI (bI_t (decide_eq_true (Or.inr ((cc_i hk (show tkO 33 by unfold tkO; omega) (by decide +kernel)).mp c63)))), rfl⟩
theorem k_joins {G : gT} {d : Nat} {h : Ph} {k lv : Nat} (hlv : lv < 4) (hk : tkO k) : WQ G d mX6_joins 0 [some (.int (nI lv)), some (.int (ccK k))] [] h (fun r h' => r = some (.int (bI (jkF lv k))) ∧ h' = h) := by
  rcases (show lv = 0 ∨ lv = 1 ∨ lv = 2 ∨ lv = 3 by omega) with rfl | rfl | rfl | rfl
  · exact k_joins0 hk
  · exact k_joins1 hk
  · exact k_joins2 hk
  · exact k_joins3 hk
