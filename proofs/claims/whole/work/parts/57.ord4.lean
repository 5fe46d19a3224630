/-! ===== the reference: the pieces of the best order ===== -/
def anyF (h : Nat → Bool) : Nat → Bool
  | 0 => false
  | n + 1 => anyF h n || h n
theorem anyF_t {h : Nat → Bool} : ∀ {n : Nat}, anyF h n = true ↔ ∃ i, i < n ∧ h i = true
  | 0 => ⟨fun q => absurd (show false = true from q) (by decide), fun ⟨i, q, _⟩ => absurd q (Nat.not_lt_zero i)⟩
  | n + 1 => by
    rw [anyF, Bool.or_eq_true, anyF_t]
    constructor
    · rintro (⟨i, h1, h2⟩ | h2)
      · exact ⟨i, by omega, h2⟩
      · exact ⟨n, by omega, h2⟩
    · rintro ⟨i, h1, h2⟩
      by_cases e : i = n
      · exact Or.inr (e ▸ h2)
      · exact Or.inl ⟨i, by omega, h2⟩
def hO (th : Nat → Nat → Nat → Int32) (e : Nat → Int32) (N : Nat) (cb : Nat → Bool) (left p f t : Nat) : Bool := cb f && (decide (ob (th p f t) (oG th e N (rmB left p) t) ≠ -268435456) && decide (ob (th p f t) (oG th e N (rmB left p) t) = oG th e N left f))
def gCt (th : Nat → Nat → Nat → Int32) (e : Nat → Int32) (N : Nat) (cb : Nat → Bool) (left p t : Nat) : Bool := anyF (fun f => hO th e N cb left p f t) 41
def gAny (th : Nat → Nat → Nat → Int32) (e : Nat → Int32) (N : Nat) (cb : Nat → Bool) (left p : Nat) : Bool := anyF (fun f => anyF (fun t => hO th e N cb left p f t) 41) 41
def fpn (c : Nat → Bool) : Nat → Nat → Nat
  | 0, p => p
  | m + 1, p => if c p then p else fpn c m (p + 1)
def gFp (th : Nat → Nat → Nat → Int32) (e : Nat → Int32) (N : Nat) (cb : Nat → Bool) (left : Nat) : Nat := fpn (fun p => inB left p && gAny th e N cb left p) 4 0
def oAt (th : Nat → Nat → Nat → Int32) (e : Nat → Int32) (N : Nat) : Nat → (Nat → Bool) → Nat → Int32
  | 0, cb, left => if left = 0 then -1 else nI (gFp th e N cb left)
  | k + 1, cb, left => if left = 0 then -1 else oAt th e N k (gCt th e N cb left (gFp th e N cb left)) (rmB left (gFp th e N cb left))
/-- the tables of the orders -/
def OT (o : Nat) (th : Nat → Nat → Nat → Int32) (e : Nat → Int32) (N : Nat) (A : sV) : Prop := (∀ q f u, q < N → f < 41 → u < 41 → A (o + 14) ((41 * q + f) * 41 + u) = th q f u) ∧ ∀ set s, s < 41 → set < 2 ^ N → A (o + 15) (41 * set + s) = oG th e N set s
/-- what goesPiece has laid of canThen before (f, k) -/
def GO (o : Nat) (h : Nat → Nat → Bool) (f k : Nat) (A0 A : sV) : Prop := (∀ a, a ≠ o + 17 → A a = A0 a) ∧ ∀ t, t < 41 → A (o + 17) t = bI (anyF (fun f' => h f' t) f || (decide (t < k) && h f t))
theorem bI_or1 (b : Bool) : bI (b || true) = 1 := by cases b <;> rfl
set_option maxRecDepth 20000 in
theorem l_gp0 {G : gT} {d : Nat} {S : sS} {V : sV} {P : sP} {B : sB} {Q : sP} {t sl o : Nat} (hF : MF S P o) {A0 : sV} {set q : Nat} {Z : Option Value → Ph → Prop} (kf : ∀ A : sV, (∀ a, a ≠ o + 17 → A a = A0 a) → (∀ i, i < 41 → A (o + 17) i = 0) → WQ G d mX12_goesPiece 26 [some (.ref o), some (.int (nI set)), some (.int (nI q)), some (.int 0), some (.int (nI 41)), none, none] [] (t, sl, gh S V P A B Q) Z) : ∀ (m k : Nat) (A : sV), k + m = 41 → (∀ a, a ≠ o + 17 → A a = A0 a) → (∀ i, i < k → A (o + 17) i = 0) → WQ G d mX12_goesPiece 5 [some (.ref o), some (.int (nI set)), some (.int (nI q)), some (.int 0), some (.int (nI k)), none, none] [] (t, sl, gh S V P A B Q) Z := by
  intro m
  induction m with
  | zero =>
    intro k A hk h1 h2
    have hk : k = 41 := hk
    subst hk
    refine WQ.st (fun _ _ kz => pw_iload4 dX12_goesPiece_5 kz) ?_
    refine WQ.st (fun _ _ kz => pw_bipush (v := 41) dX12_goesPiece_7 (by decide) kz) ?_
    refine WQ.br (fun _ _ ka kb => pw_icmp_ge (tgt := 26) dX12_goesPiece_9 (by decide) ka kb) (fun c9 => ?_) (fun c9 => absurd (by decide) c9)
    exact kf A h1 h2
  | succ m ih =>
    intro k A hk h1 h2
    refine WQ.st (fun _ _ kz => pw_iload4 dX12_goesPiece_5 kz) ?_
    refine WQ.st (fun _ _ kz => pw_bipush (v := 41) dX12_goesPiece_7 (by decide) kz) ?_
    refine WQ.br (fun _ _ ka kb => pw_icmp_ge (tgt := 26) dX12_goesPiece_9 (by decide) ka kb) (fun c9 => absurd c9 (by rw [le_i li_41 (ix_n (j := k) (by omega))]; omega)) (fun c9 => ?_)
    refine WQ.st (fun _ _ kz => pw_aload0 dX12_goesPiece_12 kz) ?_
    refine WQ.st (fun _ _ kz => pw_getr gX12_67 dX12_goesPiece_13 hF.1 (mf_p33 hF) kz) ?_
    refine WQ.st (fun _ _ kz => pw_iload4 dX12_goesPiece_16 kz) ?_
    refine WQ.st (fun _ _ kz => pw_iconst (v := 0) dX12_goesPiece_18 (by decide) kz) ?_
    refine WQ.st (fun _ _ kz => pw_zst (j := k) dX12_goesPiece_19 (mf_s17 hF) (ix_m rfl (by omega)) (by omega) (by decide) kz) ?_
    refine WQ.st (fun _ _ kz => pw_iinc4 (v := 1) dX12_goesPiece_20 (by decide) (by decide) (k := kz)) ?_
    refine WQ.st (fun _ _ kz => pw_goto (tgt := 5) dX12_goesPiece_23 (by decide) kz) ?_
    rw [nI_1]
    refine ih (k + 1) _ (by omega) (fun a ha => by rw [up2_na ha]; exact h1 a ha) (fun i hi => ?_)
    rw [up2_at]
    unfold pm_up
    by_cases e : i = k
    · rw [if_pos e]
    · rw [if_neg e]
      exact h2 i (by omega)
/-- any from k on, with what was found before -/
def anyP (h : Nat → Bool) : Bool → Nat → Nat → Bool
  | b, 0, _ => b
  | b, m + 1, k => anyP h (b || h k) m (k + 1)
theorem anyP_F (h : Nat → Bool) : ∀ (m k : Nat) (b : Bool), anyP h (b || anyF h k) m k = (b || anyF h (k + m))
  | 0, _, _ => rfl
  | m + 1, k, b => by
    rw [anyP, Bool.or_assoc, show (anyF h k || h k) = anyF h (k + 1) from rfl, anyP_F h m (k + 1) b, show k + 1 + m = k + (m + 1) by omega]
set_option maxRecDepth 20000 in
theorem l_gp1 {G : gT} {d : Nat} {S : sS} {V : sV} {P : sP} {B : sB} {Q : sP} {t sl o : Nat} (hF : MF S P o) {A0 : sV} {th : Nat → Nat → Nat → Int32} {e : Nat → Int32} {N set q f : Nat} {cb : Nat → Bool} (hN4 : N ≤ 4) (hT : OT o th e N A0) (hcb : ∀ i, i < 41 → A0 (o + 16) i = bI (cb i)) (hsN : set < 2 ^ N) (hqN : q < N) (hf : f < 41) (hcbf : cb f = true) {Z : Option Value → Ph → Prop} : ∀ (m k : Nat) (b : Bool) (A : sV) (x6 : Option Value), k + m = 41 → GO o (hO th e N cb set q) f k A0 A → (∀ (A : sV) (x6 : Option Value), GO o (hO th e N cb set q) f 41 A0 A → WQ G (d + 2) mX12_goesPiece 112 [some (.ref o), some (.int (nI set)), some (.int (nI q)), some (.int (bI (anyP (hO th e N cb set q f) b m k))), some (.int (nI f)), some (.int (nI 41)), x6] [] (t, sl, gh S V P A B Q) Z) → WQ G (d + 2) mX12_goesPiece 39 [some (.ref o), some (.int (nI set)), some (.int (nI q)), some (.int (bI b)), some (.int (nI f)), some (.int (nI k)), x6] [] (t, sl, gh S V P A B Q) Z := by
  have h16 := pow_N hN4
  intro m
  induction m with
  | zero =>
    intro k b A x6 hk hG kf
    have hk : k = 41 := hk
    subst hk
    refine WQ.st (fun _ _ kz => pw_iload5 dX12_goesPiece_39 kz) ?_
    refine WQ.st (fun _ _ kz => pw_bipush (v := 41) dX12_goesPiece_41 (by decide) kz) ?_
    refine WQ.br (fun _ _ ka kb => pw_icmp_ge (tgt := 112) dX12_goesPiece_43 (by decide) ka kb) (fun c43 => ?_) (fun c43 => absurd (by decide) c43)
    exact kf A x6 hG
  | succ m ih =>
    intro k b A x6 hk hG kf
    have hs : set < 16 := by omega
    have hcb1 : A (o + 16) f = bI true := by rw [hG.1 _ (by omega), hcb f hf, hcbf]
    have hlf : A (o + 15) (41 * set + f) = oG th e N set f := by rw [hG.1 _ (by omega)]; exact hT.2 set f hf hsN
    have eth : ∀ u, u < 41 → A (o + 14) ((41 * q + f) * 41 + u) = th q f u := fun u hu => by rw [hG.1 _ (by omega)]; exact hT.1 q f u hqN hf hu
    have eog : ∀ u, u < 41 → A (o + 15) (41 * rmB set q + u) = oG th e N (rmB set q) u := fun u hu => by rw [hG.1 _ (by omega)]; exact hT.2 (rmB set q) u hu (Nat.lt_of_le_of_lt (rmB_le set q) hsN)
    refine WQ.st (fun _ _ kz => pw_iload5 dX12_goesPiece_39 kz) ?_
    refine WQ.st (fun _ _ kz => pw_bipush (v := 41) dX12_goesPiece_41 (by decide) kz) ?_
    refine WQ.br (fun _ _ ka kb => pw_icmp_ge (tgt := 112) dX12_goesPiece_43 (by decide) ka kb) (fun c43 => absurd c43 (by rw [le_i li_41 (ix_n (j := k) (by omega))]; omega)) (fun c43 => ?_)
    refine WQ.st (fun _ _ kz => pw_aload0 dX12_goesPiece_46 kz) ?_
    refine WQ.st (fun _ _ kz => pw_getr gX12_64 dX12_goesPiece_47 hF.1 (mf_p32 hF) kz) ?_
    refine WQ.st (fun _ _ kz => pw_iload4 dX12_goesPiece_50 kz) ?_
    refine WQ.st (fun _ _ kz => pw_zld (j := f) dX12_goesPiece_52 (mf_s16 hF) (ix_m rfl (by omega)) (by omega) kz) ?_
    rw [hcb1]
    refine WQ.br (fun _ _ ka kb => pw_if_eq (tgt := 112) dX12_goesPiece_53 (by decide) ka kb) (fun c53 => absurd c53 (by decide)) (fun c53 => ?_)
    refine WQ.st (fun _ _ kz => pw_aload0 dX12_goesPiece_56 kz) ?_
    refine WQ.st (fun _ _ kz => pw_iload1 dX12_goesPiece_57 kz) ?_
    refine WQ.st (fun _ _ kz => pw_iload4 dX12_goesPiece_58 kz) ?_
    refine WQ.st (fun _ _ kz => pw_iload2 dX12_goesPiece_60 kz) ?_
    refine WQ.st (fun _ _ kz => pw_iload5 dX12_goesPiece_61 kz) ?_
    obtain ⟨_, _, k1, rfl, rfl⟩ := c_orderBy (d := d) (P := P) (S := S) (G := G) (V := V) (A := A) (B := B) (Q := Q) (t := t) (sl := sl) hF hs hf (show q < 4 by omega) (show k < 41 by omega)
    rw [eth k (by omega), eog k (by omega)] at k1
    refine WQ.st (fun _ _ kz => pw_o4i wX12_orderBy lX12_453 rfl dX12_goesPiece_63 hF.1 (k1) rfl (Nat.le_of_ble_eq_true rfl) (Nat.le_of_ble_eq_true rfl) kz) ?_
    refine WQ.st (fun _ _ kz => pw_istore6 dX12_goesPiece_66 (by decide) (k := kz)) ?_
    refine WQ.st (fun _ _ kz => pw_iload6 dX12_goesPiece_68 kz) ?_
    refine WQ.st (fun _ _ kz => pw_ldcw kX12_273 dX12_goesPiece_70 kz) ?_
    refine WQ.br (fun _ _ ka kb => pw_icmp_eq (tgt := 106) dX12_goesPiece_73 (by decide) ka kb) (fun c73 => ?_) (fun c73 => ?_)
    · refine WQ.st (fun _ _ kz => pw_iinc5 (v := 1) dX12_goesPiece_106 (by decide) (by decide) (k := kz)) ?_
      refine WQ.st (fun _ _ kz => pw_goto (tgt := 39) dX12_goesPiece_109 (by decide) kz) ?_
      have hk1 : hO th e N cb set q f k = false := by unfold hO; rw [c73]; simp
      rw [nI_1]
      refine ih (k + 1) b A _ (by omega) ⟨hG.1, fun u hu => ?_⟩ (fun A' x6 g => ?_)
      · rw [hG.2 u hu]
        by_cases e9 : u = k
        · subst e9
          rw [hk1, Bool.and_false, Bool.and_false]
        · rw [show decide (u < k + 1) = decide (u < k) from decide_eq_decide.mpr (by omega)]
      · have kf := kf A' x6 g
        rw [anyP, hk1, Bool.or_false] at kf
        exact kf
    · refine WQ.st (fun _ _ kz => pw_iload6 dX12_goesPiece_76 kz) ?_
      refine WQ.st (fun _ _ kz => pw_aload0 dX12_goesPiece_78 kz) ?_
      refine WQ.st (fun _ _ kz => pw_getr gX12_61 dX12_goesPiece_79 hF.1 (mf_p31 hF) kz) ?_
      refine WQ.st (fun _ _ kz => pw_bipush (v := 41) dX12_goesPiece_82 (by decide) kz) ?_
      refine WQ.st (fun _ _ kz => pw_iload1 dX12_goesPiece_84 kz) ?_
      refine WQ.st (fun _ _ kz => pw_imul dX12_goesPiece_85 kz) ?_
      refine WQ.st (fun _ _ kz => pw_iload4 dX12_goesPiece_86 kz) ?_
      refine WQ.st (fun _ _ kz => pw_iadd dX12_goesPiece_88 kz) ?_
      refine WQ.st (fun _ _ kz => pw_ald (j := 41 * set + f) dX12_goesPiece_89 (mf_s15 hF) (by simp (disch := omega) only [nl_41, nI_add, pk_mul, pk_sub]; exact ix_m (by omega) (by omega)) (by omega) kz) ?_
      rw [hlf]
      refine WQ.br (fun _ _ ka kb => pw_icmp_eq (tgt := 96) dX12_goesPiece_90 (by decide) ka kb) (fun c90 => ?_) (fun c90 => ?_)
      · refine WQ.st (fun _ _ kz => pw_aload0 dX12_goesPiece_96 kz) ?_
        refine WQ.st (fun _ _ kz => pw_getr gX12_67 dX12_goesPiece_97 hF.1 (mf_p33 hF) kz) ?_
        refine WQ.st (fun _ _ kz => pw_iload5 dX12_goesPiece_100 kz) ?_
        refine WQ.st (fun _ _ kz => pw_iconst (v := 1) dX12_goesPiece_102 (by decide) kz) ?_
        refine WQ.st (fun _ _ kz => pw_zst (j := k) dX12_goesPiece_103 (mf_s17 hF) (ix_m rfl (by omega)) (by omega) (by decide) kz) ?_
        refine WQ.st (fun _ _ kz => pw_iconst (v := 1) dX12_goesPiece_104 (by decide) kz) ?_
        refine WQ.st (fun _ _ kz => pw_istore3 dX12_goesPiece_105 (by decide) (k := kz)) ?_
        refine WQ.st (fun _ _ kz => pw_iinc5 (v := 1) dX12_goesPiece_106 (by decide) (by decide) (k := kz)) ?_
        refine WQ.st (fun _ _ kz => pw_goto (tgt := 39) dX12_goesPiece_109 (by decide) kz) ?_
        have hk1 : hO th e N cb set q f k = true := by unfold hO; rw [hcbf, decide_eq_true c73, decide_eq_true c90]; rfl
        rw [nI_1]
        refine ih (k + 1) true _ _ (by omega) ⟨fun a ha => by rw [up2_na ha]; exact hG.1 a ha, fun u hu => ?_⟩ (fun A' x6 g => ?_)
        · rw [up2_at]
          unfold pm_up
          by_cases e9 : u = k
          · subst e9
            rw [if_pos rfl, hk1, decide_eq_true (show u < u + 1 by omega)]
            exact (bI_or1 _).symm
          · rw [if_neg e9, hG.2 u hu, show decide (u < k + 1) = decide (u < k) from decide_eq_decide.mpr (by omega)]
        · have kf := kf A' x6 g
          rw [anyP, hk1, Bool.or_true] at kf
          exact kf
      · refine WQ.st (fun _ _ kz => pw_goto (tgt := 106) dX12_goesPiece_93 (by decide) kz) ?_
        refine WQ.st (fun _ _ kz => pw_iinc5 (v := 1) dX12_goesPiece_106 (by decide) (by decide) (k := kz)) ?_
        refine WQ.st (fun _ _ kz => pw_goto (tgt := 39) dX12_goesPiece_109 (by decide) kz) ?_
        have hk1 : hO th e N cb set q f k = false := by unfold hO; rw [hcbf, decide_eq_false c90, Bool.and_false]; rfl
        rw [nI_1]
        refine ih (k + 1) b A _ (by omega) ⟨hG.1, fun u hu => ?_⟩ (fun A' x6 g => ?_)
        · rw [hG.2 u hu]
          by_cases e9 : u = k
          · subst e9
            rw [hk1, Bool.and_false, Bool.and_false]
          · rw [show decide (u < k + 1) = decide (u < k) from decide_eq_decide.mpr (by omega)]
        · have kf := kf A' x6 g
          rw [anyP, hk1, Bool.or_false] at kf
          exact kf
set_option maxRecDepth 20000 in
theorem l_gp2 {G : gT} {d : Nat} {S : sS} {V : sV} {P : sP} {B : sB} {Q : sP} {t sl o : Nat} (hF : MF S P o) {A0 : sV} {th : Nat → Nat → Nat → Int32} {e : Nat → Int32} {N set q : Nat} {cb : Nat → Bool} (hN4 : N ≤ 4) (hT : OT o th e N A0) (hcb : ∀ i, i < 41 → A0 (o + 16) i = bI (cb i)) (hsN : set < 2 ^ N) (hqN : q < N) : ∀ (m f : Nat) (A : sV) (x5 x6 : Option Value), f + m = 41 → GO o (hO th e N cb set q) f 0 A0 A → WQ G (d + 2) mX12_goesPiece 29 [some (.ref o), some (.int (nI set)), some (.int (nI q)), some (.int (bI (anyF (fun f => anyF (hO th e N cb set q f) 41) f))), some (.int (nI f)), x5, x6] [] (t, sl, gh S V P A B Q) (fun r h' => r = some (.int (bI (gAny th e N cb set q))) ∧ ∃ A' : sV, h' = (t, sl, gh S V P A' B Q) ∧ (∀ a, a ≠ o + 17 → A' a = A0 a) ∧ ∀ t, t < 41 → A' (o + 17) t = bI (gCt th e N cb set q t)) := by
  intro m
  induction m with
  | zero =>
    intro f A x5 x6 hk hG
    have hk : f = 41 := hk
    subst hk
    refine WQ.st (fun _ _ kz => pw_iload4 dX12_goesPiece_29 kz) ?_
    refine WQ.st (fun _ _ kz => pw_bipush (v := 41) dX12_goesPiece_31 (by decide) kz) ?_
    refine WQ.br (fun _ _ ka kb => pw_icmp_ge (tgt := 118) dX12_goesPiece_33 (by decide) ka kb) (fun c33 => ?_) (fun c33 => absurd (by decide) c33)
    refine WQ.st (fun _ _ kz => pw_iload3 dX12_goesPiece_118 kz) ?_
    refine ⟨_, _, pw_iret dX12_goesPiece_119 rfl (bI_nar _) rfl rfl, ?_⟩
    exact ⟨rfl, A, rfl, hG.1, fun u hu => by rw [hG.2 u hu, show decide (u < 0) = false from rfl, Bool.false_and, Bool.or_false]; rfl⟩
  | succ m ih =>
    intro f A x5 x6 hk hG
    have hrow : ∀ u, u < 41 → (anyF (fun f' => hO th e N cb set q f' u) (f + 1) || (decide (u < 0) && hO th e N cb set q (f + 1) u)) = (anyF (fun f' => hO th e N cb set q f' u) f || hO th e N cb set q f u) := fun u hu => by
      rw [show decide (u < 0) = false from rfl, Bool.false_and, Bool.or_false]
      rfl
    cases hcbf : cb f with
    | true =>
      refine WQ.st (fun _ _ kz => pw_iload4 dX12_goesPiece_29 kz) ?_
      refine WQ.st (fun _ _ kz => pw_bipush (v := 41) dX12_goesPiece_31 (by decide) kz) ?_
      refine WQ.br (fun _ _ ka kb => pw_icmp_ge (tgt := 118) dX12_goesPiece_33 (by decide) ka kb) (fun c33 => absurd c33 (by rw [le_i li_41 (ix_n (j := f) (by omega))]; omega)) (fun c33 => ?_)
      refine WQ.st (fun _ _ kz => pw_iconst (v := 0) dX12_goesPiece_36 (by decide) kz) ?_
      refine WQ.st (fun _ _ kz => pw_istore5 dX12_goesPiece_37 (by decide) (k := kz)) ?_
      exact l_gp1 (S := S) (P := P) (G := G) (V := V) (B := B) (Q := Q) (t := t) (sl := sl) (d := d) hF hN4 hT hcb hsN hqN (show f < 41 by omega) hcbf 41 0 _ A x6 rfl hG (fun A' x6 g => by
        refine WQ.st (fun _ _ kz => pw_iinc4 (v := 1) dX12_goesPiece_112 (by decide) (by decide) (k := kz)) ?_
        refine WQ.st (fun _ _ kz => pw_goto (tgt := 29) dX12_goesPiece_115 (by decide) kz) ?_
        rw [nI_1]
        have e1 : anyP (hO th e N cb set q f) (anyF (fun f => anyF (hO th e N cb set q f) 41) f) 41 0 = anyF (fun f => anyF (hO th e N cb set q f) 41) (f + 1) := by
          have := anyP_F (hO th e N cb set q f) 41 0 (anyF (fun f => anyF (hO th e N cb set q f) 41) f)
          rw [show anyF (hO th e N cb set q f) 0 = false from rfl, Bool.or_false] at this
          exact this
        rw [e1]
        refine ih (f + 1) A' _ _ (by omega) ⟨g.1, fun u hu => ?_⟩
        rw [g.2 u hu, hrow u hu, decide_eq_true hu, Bool.true_and])
    | false =>
      have hcb0 : A (o + 16) f = bI false := by rw [hG.1 _ (by omega), hcb f (by omega), hcbf]
      refine WQ.st (fun _ _ kz => pw_iload4 dX12_goesPiece_29 kz) ?_
      refine WQ.st (fun _ _ kz => pw_bipush (v := 41) dX12_goesPiece_31 (by decide) kz) ?_
      refine WQ.br (fun _ _ ka kb => pw_icmp_ge (tgt := 118) dX12_goesPiece_33 (by decide) ka kb) (fun c33 => absurd c33 (by rw [le_i li_41 (ix_n (j := f) (by omega))]; omega)) (fun c33 => ?_)
      refine WQ.st (fun _ _ kz => pw_iconst (v := 0) dX12_goesPiece_36 (by decide) kz) ?_
      refine WQ.st (fun _ _ kz => pw_istore5 dX12_goesPiece_37 (by decide) (k := kz)) ?_
      refine WQ.st (fun _ _ kz => pw_iload5 dX12_goesPiece_39 kz) ?_
      refine WQ.st (fun _ _ kz => pw_bipush (v := 41) dX12_goesPiece_41 (by decide) kz) ?_
      refine WQ.br (fun _ _ ka kb => pw_icmp_ge (tgt := 112) dX12_goesPiece_43 (by decide) ka kb) (fun c43 => absurd c43 (by decide)) (fun c43 => ?_)
      refine WQ.st (fun _ _ kz => pw_aload0 dX12_goesPiece_46 kz) ?_
      refine WQ.st (fun _ _ kz => pw_getr gX12_64 dX12_goesPiece_47 hF.1 (mf_p32 hF) kz) ?_
      refine WQ.st (fun _ _ kz => pw_iload4 dX12_goesPiece_50 kz) ?_
      refine WQ.st (fun _ _ kz => pw_zld (j := f) dX12_goesPiece_52 (mf_s16 hF) (ix_m rfl (by omega)) (by omega) kz) ?_
      rw [hcb0]
      refine WQ.br (fun _ _ ka kb => pw_if_eq (tgt := 112) dX12_goesPiece_53 (by decide) ka kb) (fun c53 => ?_) (fun c53 => absurd rfl c53)
      refine WQ.st (fun _ _ kz => pw_iinc4 (v := 1) dX12_goesPiece_112 (by decide) (by decide) (k := kz)) ?_
      refine WQ.st (fun _ _ kz => pw_goto (tgt := 29) dX12_goesPiece_115 (by decide) kz) ?_
      rw [nI_1]
      have hz : ∀ u, hO th e N cb set q f u = false := fun u => by unfold hO; rw [hcbf]; rfl
      have e1 : anyF (fun f => anyF (hO th e N cb set q f) 41) (f + 1) = anyF (fun f => anyF (hO th e N cb set q f) 41) f := by
        have e2 : anyF (hO th e N cb set q f) 41 = false := by
          cases e3 : anyF (hO th e N cb set q f) 41 with
          | false => rfl
          | true =>
            obtain ⟨i, _, h3⟩ := anyF_t.mp e3
            rw [hz i] at h3
            exact absurd h3 (by decide)
        rw [anyF, e2, Bool.or_false]
      rw [← e1]
      refine ih (f + 1) A _ _ (by omega) ⟨hG.1, fun u hu => ?_⟩
      rw [hG.2 u hu, hrow u hu, hz u, Bool.and_false]
set_option maxRecDepth 20000 in
theorem c_goesPiece {G : gT} {d : Nat} {S : sS} {V : sV} {P : sP} {A : sV} {B : sB} {Q : sP} {t sl o : Nat} (hF : MF S P o) {th : Nat → Nat → Nat → Int32} {e : Nat → Int32} {N set q : Nat} {cb : Nat → Bool} (hN4 : N ≤ 4) (hT : OT o th e N A) (hcb : ∀ i, i < 41 → A (o + 16) i = bI (cb i)) (hsN : set < 2 ^ N) (hqN : q < N) : WQ G (d + 2) mX12_goesPiece 0 [some (.ref o), some (.int (nI set)), some (.int (nI q)), none, none, none, none] [] (t, sl, gh S V P A B Q) (fun r h' => r = some (.int (bI (gAny th e N cb set q))) ∧ ∃ A' : sV, h' = (t, sl, gh S V P A' B Q) ∧ (∀ a, a ≠ o + 17 → A' a = A a) ∧ ∀ t, t < 41 → A' (o + 17) t = bI (gCt th e N cb set q t)) := by
  refine WQ.st (fun _ _ kz => pw_iconst (v := 0) dX12_goesPiece_0 (by decide) kz) ?_
  refine WQ.st (fun _ _ kz => pw_istore3 dX12_goesPiece_1 (by decide) (k := kz)) ?_
  refine WQ.st (fun _ _ kz => pw_iconst (v := 0) dX12_goesPiece_2 (by decide) kz) ?_
  refine WQ.st (fun _ _ kz => pw_istore4 dX12_goesPiece_3 (by decide) (k := kz)) ?_
  exact l_gp0 (S := S) (P := P) (G := G) (V := V) (B := B) (Q := Q) (t := t) (sl := sl) (d := d + 2) hF (A0 := A) (set := set) (q := q) (fun A1 h1 h2 => by
    refine WQ.st (fun _ _ kz => pw_iconst (v := 0) dX12_goesPiece_26 (by decide) kz) ?_
    refine WQ.st (fun _ _ kz => pw_istore4 dX12_goesPiece_27 (by decide) (k := kz)) ?_
    exact l_gp2 (S := S) (P := P) (G := G) (V := V) (B := B) (Q := Q) (t := t) (sl := sl) (d := d) hF (A0 := A) hN4 hT hcb hsN hqN 41 0 A1 none none rfl ⟨h1, fun u hu => by rw [h2 u hu]; rfl⟩) 41 0 A rfl (fun _ _ => rfl) (fun i hi => absurd hi (Nat.not_lt_zero i))
