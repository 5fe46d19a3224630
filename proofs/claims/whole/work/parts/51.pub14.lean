/-! ===== the reference: tempers, next ===== -/
def atm (al : Nat → Int32) (p t : Nat) : Nat → Int32 := pm_up al (87 + p) (nI t)
def tmI (f : Nat → Int64) (rw : Nat → Int32) : Bool → Nat → Nat → Bool
  | b, 0, _ => b
  | b, m + 1, k => tmI f rw (b && (decide (f k = 9) || decide (f k = (rw k).toInt64))) m (k + 1)
theorem tmI_cong {f : Nat → Int64} {rw rw' : Nat → Int32} {n : Nat} (h : ∀ i, i < n → rw i = rw' i) : ∀ (m k : Nat) (b : Bool), k + m ≤ n → tmI f rw b m k = tmI f rw' b m k
  | 0, _, _, _ => rfl
  | m + 1, k, b, hk => by rw [tmI, tmI, h k (by omega), tmI_cong h m (k + 1) _ (by omega)]
def tmB (al : Nat → Int32) (p q : Nat) (f : Nat → Int64) (t : Nat) : Bool := tmI f (rf_cw (TT (atm al p t) p q) (stN (atm al p t) p)) (decide ((cmF (atm al p t) p q (lgN al q)).2.2 = -1)) (lgN al q) 0
def tmS (al : Nat → Int32) (p q : Nat) (f : Nat → Int64) : Nat → Int32
  | 0 => 0
  | t + 1 => tmS al p q f t ||| (if tmB al p q f t then (1 : Int32) <<< (nI t &&& 31) else 0)
theorem bI_and1 (b : Bool) : bI b &&& 1 = bI b := by cases b <;> decide
theorem bI_and0 (b : Bool) : bI b &&& 0 = bI false := by cases b <;> decide
theorem atm_ok {al : Nat → Int32} (hD : DV al) (hK : KV (al 2).toInt (fun k => al (75 + k))) {p t : Nat} (hp : p < 5) (ht : t < 10) : DV (atm al p t) ∧ KV ((atm al p t) 2).toInt (fun k => atm al p t (75 + k)) := by
  have e : ∀ i, i < 75 ∨ 263 ≤ i ∧ i < 1164 → atm al p t i = al i := fun i hi => pm_up_ne (by omega)
  refine ⟨hD.cong e, ?_⟩
  rw [e 2 (by omega)]
  exact temp_ok hK hp ht
theorem atm_lg {al : Nat → Int32} {p t q : Nat} (hq : q < 4) : lgN (atm al p t) q = lgN al q := by
  unfold lgN atm
  rw [pm_up_ne (by omega)]
set_option maxRecDepth 20000 in
theorem q_laysComesB {G : gT} {d : Nat} {S : sS} {V : sV} {P : sP} {A : sV} {B : sB} {Q : sP} {t sl o : Nat} (hF : MF S P o) (hD : DV (A (o + 1))) (hK : KV ((A (o + 1)) 2).toInt (fun k => (A (o + 1)) (75 + k))) {p q : Nat} (hp : p < 5) (hq : q < 4) : ∃ V' A' : sV, PW G (d + 5) mX12_laysComes 0 [some (.ref o), some (.int (nI p)), some (.int (nI q)), none, none, none] [] (t, sl, gh S V P A B Q) none (t, sl, gh S V' P A' B Q) ∧ (∀ a, a < o + 5 ∨ o + 7 < a → a ≠ o + 9 → A' a = A a) ∧ FV o V V' ∧ V' o 21 = sI (cmF (A (o + 1)) p q (lgN (A (o + 1)) q)).1.2 ∧ V' o 22 = (cmF (A (o + 1)) p q (lgN (A (o + 1)) q)).2.2 ∧ ∀ b, b < lgN (A (o + 1)) q → A' (o + 9) b = rf_cw (TT (A (o + 1)) p q) (stN (A (o + 1)) p) b := by
  obtain ⟨V', A', kb, hb⟩ := c_laysComes (G := G) (d := d) (V := V) (A := A) (B := B) (Q := Q) (t := t) (sl := sl) hF hp hq (hD.lgE hq).2 (hD.lgE hq).1 (hK.stE hp).1 (hK.stE hp).2 hD.gl hD.ml
  exact ⟨V', A', kb, hb.1, hb.FV, by rw [hb.2.1]; exact w3_21, by rw [hb.2.1]; exact w3_22, hb.2.2⟩
set_option maxRecDepth 20000 in
theorem l_tempI {G : gT} {d : Nat} {S : sS} {V : sV} {P : sP} {A : sV} {B : sB} {Q : sP} {t sl o : Nat} (hF : MF S P o) {tr n : Nat} (htr : tr < 4) (hn12 : n ≤ 12) (hn : A (o + 21) tr = nI n) {x2 x3 x4 x5 x6 : Int32} {Z : Option Value → Ph → Prop} : ∀ (m k : Nat) (b : Bool), k + m = n → WQ G d mX12_tempersOf 129 [some (.ref o), some (.int (nI tr)), some (.int x2), some (.int x3), some (.int x4), some (.int x5), some (.int x6), some (.int (bI (tmI (fun k => B (o + 22) (40 * tr + k)) (A (o + 9)) b m k))), some (.int (nI n))] [] (t, sl, gh S V P A B Q) Z → WQ G d mX12_tempersOf 59 [some (.ref o), some (.int (nI tr)), some (.int x2), some (.int x3), some (.int x4), some (.int x5), some (.int x6), some (.int (bI b)), some (.int (nI k))] [] (t, sl, gh S V P A B Q) Z := by
  intro m
  induction m with
  | zero =>
    intro k b hk kf
    have hk : k = n := hk
    subst hk
    refine WQ.st (fun _ _ kz => pw_iload8 dX12_tempersOf_59 kz) ?_
    refine WQ.st (fun _ _ kz => pw_aload0 dX12_tempersOf_61 kz) ?_
    refine WQ.st (fun _ _ kz => pw_getr gX12_79 dX12_tempersOf_62 hF.1 (mf_p37 hF) kz) ?_
    refine WQ.st (fun _ _ kz => pw_iload1 dX12_tempersOf_65 kz) ?_
    refine WQ.st (fun _ _ kz => pw_ald (j := tr) dX12_tempersOf_66 (mf_s21 hF) (ix_m rfl (by omega)) (by omega) kz) ?_
    rw [hn]
    refine WQ.br (fun _ _ ka kb => pw_icmp_ge (tgt := 129) dX12_tempersOf_67 (by decide) ka kb) (fun c67 => ?_) (fun c67 => absurd (Int32.le_refl _) c67)
    exact kf
  | succ m ih =>
    intro k b hk kf
    refine WQ.st (fun _ _ kz => pw_iload8 dX12_tempersOf_59 kz) ?_
    refine WQ.st (fun _ _ kz => pw_aload0 dX12_tempersOf_61 kz) ?_
    refine WQ.st (fun _ _ kz => pw_getr gX12_79 dX12_tempersOf_62 hF.1 (mf_p37 hF) kz) ?_
    refine WQ.st (fun _ _ kz => pw_iload1 dX12_tempersOf_65 kz) ?_
    refine WQ.st (fun _ _ kz => pw_ald (j := tr) dX12_tempersOf_66 (mf_s21 hF) (ix_m rfl (by omega)) (by omega) kz) ?_
    rw [hn]
    refine WQ.br (fun _ _ ka kb => pw_icmp_ge (tgt := 129) dX12_tempersOf_67 (by decide) ka kb) (fun c67 => absurd c67 (by rw [le_i (ix_n (j := n) (by omega)) (ix_n (j := k) (by omega))]; omega)) (fun c67 => ?_)
    refine WQ.st (fun _ _ kz => pw_iload7 dX12_tempersOf_70 kz) ?_
    refine WQ.st (fun _ _ kz => pw_aload0 dX12_tempersOf_72 kz) ?_
    refine WQ.st (fun _ _ kz => pw_getr gX12_82 dX12_tempersOf_73 hF.1 (mf_p38 hF) kz) ?_
    refine WQ.st (fun _ _ kz => pw_bipush (v := 40) dX12_tempersOf_76 (by decide) kz) ?_
    refine WQ.st (fun _ _ kz => pw_iload1 dX12_tempersOf_78 kz) ?_
    refine WQ.st (fun _ _ kz => pw_imul dX12_tempersOf_79 kz) ?_
    refine WQ.st (fun _ _ kz => pw_iload8 dX12_tempersOf_80 kz) ?_
    refine WQ.st (fun _ _ kz => pw_iadd dX12_tempersOf_82 kz) ?_
    refine WQ.st (fun _ _ kz => pw_lld (j := 40 * tr + k) dX12_tempersOf_83 (mf_s22 hF) (by simp (disch := omega) only [nl_40, nI_add, pk_mul, pk_sub]; exact ix_m (by omega) (by omega)) (by omega) kz) ?_
    refine WQ.st (fun _ _ kz => pw_ldc2 kX12_355 dX12_tempersOf_84 kz) ?_
    refine WQ.st (fun _ _ kz => pw_lcmp dX12_tempersOf_87 kz) ?_
    refine WQ.br (fun _ _ ka kb => pw_if_eq (tgt := 115) dX12_tempersOf_88 (by decide) ka kb) (fun c88 => ?_) (fun c88 => ?_)
    · rw [lg_cmp_eq] at c88
      refine WQ.st (fun _ _ kz => pw_iconst (v := 1) dX12_tempersOf_115 (by decide) kz) ?_
      refine WQ.st (fun _ _ kz => pw_goto (tgt := 120) dX12_tempersOf_116 (by decide) kz) ?_
      refine WQ.st (fun _ _ kz => pw_iand dX12_tempersOf_120 kz) ?_
      rw [bI_and1]
      refine WQ.st (fun _ _ kz => pw_istore7 dX12_tempersOf_121 (by decide) (k := kz)) ?_
      refine WQ.st (fun _ _ kz => pw_iinc8 (v := 1) dX12_tempersOf_123 (by decide) (by decide) (k := kz)) ?_
      refine WQ.st (fun _ _ kz => pw_goto (tgt := 59) dX12_tempersOf_126 (by decide) kz) ?_
      rw [nI_1]
      rw [tmI, decide_eq_true c88, Bool.true_or, Bool.and_true] at kf
      exact ih (k + 1) _ (by omega) kf
    · rw [lg_cmp_eq] at c88
      refine WQ.st (fun _ _ kz => pw_aload0 dX12_tempersOf_91 kz) ?_
      refine WQ.st (fun _ _ kz => pw_getr gX12_82 dX12_tempersOf_92 hF.1 (mf_p38 hF) kz) ?_
      refine WQ.st (fun _ _ kz => pw_bipush (v := 40) dX12_tempersOf_95 (by decide) kz) ?_
      refine WQ.st (fun _ _ kz => pw_iload1 dX12_tempersOf_97 kz) ?_
      refine WQ.st (fun _ _ kz => pw_imul dX12_tempersOf_98 kz) ?_
      refine WQ.st (fun _ _ kz => pw_iload8 dX12_tempersOf_99 kz) ?_
      refine WQ.st (fun _ _ kz => pw_iadd dX12_tempersOf_101 kz) ?_
      refine WQ.st (fun _ _ kz => pw_lld (j := 40 * tr + k) dX12_tempersOf_102 (mf_s22 hF) (by simp (disch := omega) only [nl_40, nI_add, pk_mul, pk_sub]; exact ix_m (by omega) (by omega)) (by omega) kz) ?_
      refine WQ.st (fun _ _ kz => pw_aload0 dX12_tempersOf_103 kz) ?_
      refine WQ.st (fun _ _ kz => pw_getr gX12_42 dX12_tempersOf_104 hF.1 (mf_p19 hF) kz) ?_
      refine WQ.st (fun _ _ kz => pw_iload8 dX12_tempersOf_107 kz) ?_
      refine WQ.st (fun _ _ kz => pw_ald (j := k) dX12_tempersOf_109 (mf_s9 hF) (ix_m rfl (by omega)) (by omega) kz) ?_
      refine WQ.st (fun _ _ kz => pw_i2l dX12_tempersOf_110 kz) ?_
      refine WQ.st (fun _ _ kz => pw_lcmp dX12_tempersOf_111 kz) ?_
      refine WQ.bn (fun _ _ ka kb => pw_if_ne (tgt := 119) dX12_tempersOf_112 (by decide) ka kb) (fun c112 => ?_) (fun c112 => ?_)
      · rw [lg_cmp_eq] at c112
        refine WQ.st (fun _ _ kz => pw_iconst (v := 0) dX12_tempersOf_119 (by decide) kz) ?_
        refine WQ.st (fun _ _ kz => pw_iand dX12_tempersOf_120 kz) ?_
        rw [bI_and0]
        refine WQ.st (fun _ _ kz => pw_istore7 dX12_tempersOf_121 (by decide) (k := kz)) ?_
        refine WQ.st (fun _ _ kz => pw_iinc8 (v := 1) dX12_tempersOf_123 (by decide) (by decide) (k := kz)) ?_
        refine WQ.st (fun _ _ kz => pw_goto (tgt := 59) dX12_tempersOf_126 (by decide) kz) ?_
        rw [nI_1]
        rw [tmI, decide_eq_false c88, decide_eq_false c112, Bool.or_false, Bool.and_false] at kf
        exact ih (k + 1) _ (by omega) kf
      · rw [lg_cmp_eq] at c112
        refine WQ.st (fun _ _ kz => pw_iconst (v := 1) dX12_tempersOf_115 (by decide) kz) ?_
        refine WQ.st (fun _ _ kz => pw_goto (tgt := 120) dX12_tempersOf_116 (by decide) kz) ?_
        refine WQ.st (fun _ _ kz => pw_iand dX12_tempersOf_120 kz) ?_
        rw [bI_and1]
        refine WQ.st (fun _ _ kz => pw_istore7 dX12_tempersOf_121 (by decide) (k := kz)) ?_
        refine WQ.st (fun _ _ kz => pw_iinc8 (v := 1) dX12_tempersOf_123 (by decide) (by decide) (k := kz)) ?_
        refine WQ.st (fun _ _ kz => pw_goto (tgt := 59) dX12_tempersOf_126 (by decide) kz) ?_
        rw [nI_1]
        rw [tmI, decide_eq_true c112, Bool.or_true, Bool.and_true] at kf
        exact ih (k + 1) _ (by omega) kf
set_option maxRecDepth 20000 in
theorem l_tempers {G : gT} {d : Nat} {S : sS} {P : sP} {B : sB} {Q : sP} {t sl o : Nat} (hF : MF S P o) {V0 A0 : sV} {al : Nat → Int32} (hD : DV al) (hK : KV (al 2).toInt (fun k => al (75 + k))) {tr p q : Nat} (htr : tr < 4) (hp : p < 5) (hq : q < 4) (hmn : A0 (o + 21) tr = nI (lgN al q)) {x4 : Int32} {Z : Option Value → Ph → Prop} (kf : ∀ (V A : sV) (x7 x8 : Option Value), FV o V0 V → (∀ a, (a ≠ o + 1 ∧ a < o + 5) ∨ (o + 9 < a) → A a = A0 a) → (∃ x : Int32, A (o + 1) = pm_up al (87 + p) x) → WQ G (d + 6) mX12_tempersOf 153 [some (.ref o), some (.int (nI tr)), some (.int (nI p)), some (.int (nI q)), some (.int x4), some (.int (tmS al p q (fun k => B (o + 22) (40 * tr + k)) 10)), some (.int (nI 10)), x7, x8] [] (t, sl, gh S V P A B Q) Z) : ∀ (m k : Nat) (V A : sV) (x7 x8 : Option Value), k + m = 10 → FV o V0 V → (∀ a, (a ≠ o + 1 ∧ a < o + 5) ∨ (o + 9 < a) → A a = A0 a) → (∃ x : Int32, A (o + 1) = pm_up al (87 + p) x) → WQ G (d + 6) mX12_tempersOf 17 [some (.ref o), some (.int (nI tr)), some (.int (nI p)), some (.int (nI q)), some (.int x4), some (.int (tmS al p q (fun k => B (o + 22) (40 * tr + k)) k)), some (.int (nI k)), x7, x8] [] (t, sl, gh S V P A B Q) Z := by
  intro m
  induction m with
  | zero =>
    intro k V A x7 x8 hk hV hA0 ha
    have hk : k = 10 := hk
    subst hk
    refine WQ.st (fun _ _ kz => pw_iload6 dX12_tempersOf_17 kz) ?_
    refine WQ.st (fun _ _ kz => pw_bipush (v := 10) dX12_tempersOf_19 (by decide) kz) ?_
    refine WQ.br (fun _ _ ka kb => pw_icmp_ge (tgt := 153) dX12_tempersOf_21 (by decide) ka kb) (fun c21 => ?_) (fun c21 => absurd (by decide) c21)
    exact kf V A x7 x8 hV hA0 ha
  | succ m ih =>
    intro k V A x7 x8 hk hV hA0 ha
    refine WQ.st (fun _ _ kz => pw_iload6 dX12_tempersOf_17 kz) ?_
    refine WQ.st (fun _ _ kz => pw_bipush (v := 10) dX12_tempersOf_19 (by decide) kz) ?_
    refine WQ.br (fun _ _ ka kb => pw_icmp_ge (tgt := 153) dX12_tempersOf_21 (by decide) ka kb) (fun c21 => absurd c21 (by rw [le_i li_10 (ix_n (j := k) (by omega))]; omega)) (fun c21 => ?_)
    refine WQ.st (fun _ _ kz => pw_aload0 dX12_tempersOf_24 kz) ?_
    refine WQ.st (fun _ _ kz => pw_getr gX12_13 dX12_tempersOf_25 hF.1 (mf_p1 hF) kz) ?_
    refine WQ.st (fun _ _ kz => pw_bipush (v := 87) dX12_tempersOf_28 (by decide) kz) ?_
    refine WQ.st (fun _ _ kz => pw_iload2 dX12_tempersOf_30 kz) ?_
    refine WQ.st (fun _ _ kz => pw_iadd dX12_tempersOf_31 kz) ?_
    refine WQ.st (fun _ _ kz => pw_iload6 dX12_tempersOf_32 kz) ?_
    refine WQ.st (fun _ _ kz => pw_ast (j := 87 + p) dX12_tempersOf_34 (mf_s1 hF) (by simp (disch := omega) only [nl_87, nI_add, pk_mul, pk_sub]; exact ix_m (by omega) (by omega)) (by omega)  kz) ?_
    refine WQ.st (fun _ _ kz => pw_aload0 dX12_tempersOf_35 kz) ?_
    refine WQ.st (fun _ _ kz => pw_iload2 dX12_tempersOf_36 kz) ?_
    refine WQ.st (fun _ _ kz => pw_iload3 dX12_tempersOf_37 kz) ?_
    obtain ⟨x, hx⟩ := ha
    have hat : up2 A (o + 1) (87 + p) (nI k) (o + 1) = atm al p k := by rw [up2_at, hx, pm_up_up]; rfl
    have hok := atm_ok hD hK hp (show k < 10 by omega)
    obtain ⟨V2, A2, k2, f1, f2, f4, f5, f6⟩ := q_laysComesB (d := d) (P := P) (S := S) (G := G) (V := V) (A := (up2 A (o + 1) (87 + p) (nI k))) (B := B) (Q := Q) (t := t) (sl := sl) hF (by rw [hat]; exact hok.1) (by rw [hat]; exact hok.2) hp hq
    rw [hat, atm_lg hq] at f5 f6
    refine WQ.st (fun _ _ kz => pw_o2v wX12_laysComes lX12_335 rfl dX12_tempersOf_38 hF.1 (k2) rfl (Nat.le_of_ble_eq_true rfl) (Nat.le_of_ble_eq_true rfl) kz) ?_
    refine WQ.st (fun _ _ kz => pw_aload0 dX12_tempersOf_41 kz) ?_
    refine WQ.st (fun _ _ kz => pw_geti gX12_309 dX12_tempersOf_42 hF.1 kz) ?_
    rw [f5]
    refine WQ.st (fun _ _ kz => pw_iconst (v := -1) dX12_tempersOf_45 (by decide) kz) ?_
    refine WQ.bn (fun _ _ ka kb => pw_icmp_ne (tgt := 53) dX12_tempersOf_46 (by decide) ka kb) (fun c46 => ?_) (fun c46 => ?_)
    · refine WQ.st (fun _ _ kz => pw_iconst (v := 0) dX12_tempersOf_53 (by decide) kz) ?_
      refine WQ.st (fun _ _ kz => pw_istore7 dX12_tempersOf_54 (by decide) (k := kz)) ?_
      refine WQ.st (fun _ _ kz => pw_iconst (v := 0) dX12_tempersOf_56 (by decide) kz) ?_
      refine WQ.st (fun _ _ kz => pw_istore8 dX12_tempersOf_57 (by decide) (k := kz)) ?_
      have htb : tmB al p q (fun k => B (o + 22) (40 * tr + k)) k = tmI (fun k => B (o + 22) (40 * tr + k)) (A2 (o + 9)) false (lgN al q) 0 := by
        unfold tmB
        rw [decide_eq_false c46]
        exact tmI_cong (n := lgN al q) (fun i hi => (f6 i hi).symm) _ 0 _ (by omega)
      refine l_tempI (d := d + 6) (P := P) (S := S) (G := G) (V := V2) (A := A2) (B := B) (Q := Q) (t := t) (sl := sl) hF htr (n := lgN al q) (hD.lgE hq).2 (by rw [f1 _ (by omega) (by omega), up2_na (by omega), hA0 _ (by omega)]; exact hmn) (lgN al q) 0 false (Nat.zero_add _) ?_
      refine WQ.st (fun _ _ kz => pw_iload5 dX12_tempersOf_129 kz) ?_
      refine WQ.st (fun _ _ kz => pw_iload7 dX12_tempersOf_131 kz) ?_
      refine WQ.br (fun _ _ ka kb => pw_if_eq (tgt := 143) dX12_tempersOf_133 (by decide) ka kb) (fun c133 => ?_) (fun c133 => ?_)
      · rw [bI_0] at c133
        refine WQ.st (fun _ _ kz => pw_iconst (v := 0) dX12_tempersOf_143 (by decide) kz) ?_
        refine WQ.st (fun _ _ kz => pw_ior dX12_tempersOf_144 kz) ?_
        refine WQ.st (fun _ _ kz => pw_istore5 dX12_tempersOf_145 (by decide) (k := kz)) ?_
        refine WQ.st (fun _ _ kz => pw_iinc6 (v := 1) dX12_tempersOf_147 (by decide) (by decide) (k := kz)) ?_
        refine WQ.st (fun _ _ kz => pw_goto (tgt := 17) dX12_tempersOf_150 (by decide) kz) ?_
        rw [nI_1]
        have kk := ih (k + 1) V2 A2 (some (.int (bI (tmI (fun k => B (o + 22) (40 * tr + k)) (A2 (o + 9)) false (lgN al q) 0)))) (some (.int (nI (lgN al q)))) (by omega) (hV.tr f2) (fun a ha => by rw [f1 a (by omega) (by omega), up2_na (by omega)]; exact hA0 a ha) ⟨nI k, by rw [f1 _ (by omega) (by omega), hat]; rfl⟩
        rw [tmS, show tmB al p q (fun k => B (o + 22) (40 * tr + k)) k = tmI (fun k => B (o + 22) (40 * tr + k)) (A2 (o + 9)) false (lgN al q) 0 from htb, if_neg (by rw [c133]; decide)] at kk
        exact kk
      · rw [bI_n] at c133
        refine WQ.st (fun _ _ kz => pw_iconst (v := 1) dX12_tempersOf_136 (by decide) kz) ?_
        refine WQ.st (fun _ _ kz => pw_iload6 dX12_tempersOf_137 kz) ?_
        refine WQ.st (fun _ _ kz => pw_ishl dX12_tempersOf_139 kz) ?_
        refine WQ.st (fun _ _ kz => pw_goto (tgt := 144) dX12_tempersOf_140 (by decide) kz) ?_
        refine WQ.st (fun _ _ kz => pw_ior dX12_tempersOf_144 kz) ?_
        refine WQ.st (fun _ _ kz => pw_istore5 dX12_tempersOf_145 (by decide) (k := kz)) ?_
        refine WQ.st (fun _ _ kz => pw_iinc6 (v := 1) dX12_tempersOf_147 (by decide) (by decide) (k := kz)) ?_
        refine WQ.st (fun _ _ kz => pw_goto (tgt := 17) dX12_tempersOf_150 (by decide) kz) ?_
        rw [nI_1]
        have kk := ih (k + 1) V2 A2 (some (.int (bI (tmI (fun k => B (o + 22) (40 * tr + k)) (A2 (o + 9)) false (lgN al q) 0)))) (some (.int (nI (lgN al q)))) (by omega) (hV.tr f2) (fun a ha => by rw [f1 a (by omega) (by omega), up2_na (by omega)]; exact hA0 a ha) ⟨nI k, by rw [f1 _ (by omega) (by omega), hat]; rfl⟩
        rw [tmS, show tmB al p q (fun k => B (o + 22) (40 * tr + k)) k = tmI (fun k => B (o + 22) (40 * tr + k)) (A2 (o + 9)) false (lgN al q) 0 from htb, if_pos c133] at kk
        exact kk
    · refine WQ.st (fun _ _ kz => pw_iconst (v := 1) dX12_tempersOf_49 (by decide) kz) ?_
      refine WQ.st (fun _ _ kz => pw_goto (tgt := 54) dX12_tempersOf_50 (by decide) kz) ?_
      refine WQ.st (fun _ _ kz => pw_istore7 dX12_tempersOf_54 (by decide) (k := kz)) ?_
      refine WQ.st (fun _ _ kz => pw_iconst (v := 0) dX12_tempersOf_56 (by decide) kz) ?_
      refine WQ.st (fun _ _ kz => pw_istore8 dX12_tempersOf_57 (by decide) (k := kz)) ?_
      have htb : tmB al p q (fun k => B (o + 22) (40 * tr + k)) k = tmI (fun k => B (o + 22) (40 * tr + k)) (A2 (o + 9)) true (lgN al q) 0 := by
        unfold tmB
        rw [decide_eq_true c46]
        exact tmI_cong (n := lgN al q) (fun i hi => (f6 i hi).symm) _ 0 _ (by omega)
      refine l_tempI (d := d + 6) (P := P) (S := S) (G := G) (V := V2) (A := A2) (B := B) (Q := Q) (t := t) (sl := sl) hF htr (n := lgN al q) (hD.lgE hq).2 (by rw [f1 _ (by omega) (by omega), up2_na (by omega), hA0 _ (by omega)]; exact hmn) (lgN al q) 0 true (Nat.zero_add _) ?_
      refine WQ.st (fun _ _ kz => pw_iload5 dX12_tempersOf_129 kz) ?_
      refine WQ.st (fun _ _ kz => pw_iload7 dX12_tempersOf_131 kz) ?_
      refine WQ.br (fun _ _ ka kb => pw_if_eq (tgt := 143) dX12_tempersOf_133 (by decide) ka kb) (fun c133 => ?_) (fun c133 => ?_)
      · rw [bI_0] at c133
        refine WQ.st (fun _ _ kz => pw_iconst (v := 0) dX12_tempersOf_143 (by decide) kz) ?_
        refine WQ.st (fun _ _ kz => pw_ior dX12_tempersOf_144 kz) ?_
        refine WQ.st (fun _ _ kz => pw_istore5 dX12_tempersOf_145 (by decide) (k := kz)) ?_
        refine WQ.st (fun _ _ kz => pw_iinc6 (v := 1) dX12_tempersOf_147 (by decide) (by decide) (k := kz)) ?_
        refine WQ.st (fun _ _ kz => pw_goto (tgt := 17) dX12_tempersOf_150 (by decide) kz) ?_
        rw [nI_1]
        have kk := ih (k + 1) V2 A2 (some (.int (bI (tmI (fun k => B (o + 22) (40 * tr + k)) (A2 (o + 9)) true (lgN al q) 0)))) (some (.int (nI (lgN al q)))) (by omega) (hV.tr f2) (fun a ha => by rw [f1 a (by omega) (by omega), up2_na (by omega)]; exact hA0 a ha) ⟨nI k, by rw [f1 _ (by omega) (by omega), hat]; rfl⟩
        rw [tmS, show tmB al p q (fun k => B (o + 22) (40 * tr + k)) k = tmI (fun k => B (o + 22) (40 * tr + k)) (A2 (o + 9)) true (lgN al q) 0 from htb, if_neg (by rw [c133]; decide)] at kk
        exact kk
      · rw [bI_n] at c133
        refine WQ.st (fun _ _ kz => pw_iconst (v := 1) dX12_tempersOf_136 (by decide) kz) ?_
        refine WQ.st (fun _ _ kz => pw_iload6 dX12_tempersOf_137 kz) ?_
        refine WQ.st (fun _ _ kz => pw_ishl dX12_tempersOf_139 kz) ?_
        refine WQ.st (fun _ _ kz => pw_goto (tgt := 144) dX12_tempersOf_140 (by decide) kz) ?_
        refine WQ.st (fun _ _ kz => pw_ior dX12_tempersOf_144 kz) ?_
        refine WQ.st (fun _ _ kz => pw_istore5 dX12_tempersOf_145 (by decide) (k := kz)) ?_
        refine WQ.st (fun _ _ kz => pw_iinc6 (v := 1) dX12_tempersOf_147 (by decide) (by decide) (k := kz)) ?_
        refine WQ.st (fun _ _ kz => pw_goto (tgt := 17) dX12_tempersOf_150 (by decide) kz) ?_
        rw [nI_1]
        have kk := ih (k + 1) V2 A2 (some (.int (bI (tmI (fun k => B (o + 22) (40 * tr + k)) (A2 (o + 9)) true (lgN al q) 0)))) (some (.int (nI (lgN al q)))) (by omega) (hV.tr f2) (fun a ha => by rw [f1 a (by omega) (by omega), up2_na (by omega)]; exact hA0 a ha) ⟨nI k, by rw [f1 _ (by omega) (by omega), hat]; rfl⟩
        rw [tmS, show tmB al p q (fun k => B (o + 22) (40 * tr + k)) k = tmI (fun k => B (o + 22) (40 * tr + k)) (A2 (o + 9)) true (lgN al q) 0 from htb, if_pos c133] at kk
        exact kk
set_option maxRecDepth 20000 in
theorem c_tempersOf {G : gT} {d : Nat} {S : sS} {V : sV} {P : sP} {A : sV} {B : sB} {Q : sP} {t sl o : Nat} (hF : MF S P o) {al : Nat → Int32} (hal : A (o + 1) = al) (hD : DV al) (hK : KV (al 2).toInt (fun k => al (75 + k))) {tr p q : Nat} (htr : tr < 4) (hp : p < 5) (hq : q < 4) (hmn : A (o + 21) tr = nI (lgN al q)) : WQ G (d + 6) mX12_tempersOf 0 [some (.ref o), some (.int (nI tr)), some (.int (nI p)), some (.int (nI q)), none, none, none, none, none] [] (t, sl, gh S V P A B Q) (fun r h' => r = some (.int (tmS al p q (fun k => B (o + 22) (40 * tr + k)) 10)) ∧ ∃ V' A' : sV, h' = (t, sl, gh S V' P A' B Q) ∧ FV o V V' ∧ FA o A A') := by
  refine WQ.st (fun _ _ kz => pw_aload0 dX12_tempersOf_0 kz) ?_
  refine WQ.st (fun _ _ kz => pw_getr gX12_13 dX12_tempersOf_1 hF.1 (mf_p1 hF) kz) ?_
  refine WQ.st (fun _ _ kz => pw_bipush (v := 87) dX12_tempersOf_4 (by decide) kz) ?_
  refine WQ.st (fun _ _ kz => pw_iload2 dX12_tempersOf_6 kz) ?_
  refine WQ.st (fun _ _ kz => pw_iadd dX12_tempersOf_7 kz) ?_
  refine WQ.st (fun _ _ kz => pw_ald (j := 87 + p) dX12_tempersOf_8 (mf_s1 hF) (by simp (disch := omega) only [nl_87, nI_add, pk_mul, pk_sub]; exact ix_m (by omega) (by omega)) (by omega) kz) ?_
  rw [hal]
  refine WQ.st (fun _ _ kz => pw_istore4 dX12_tempersOf_9 (by decide) (k := kz)) ?_
  refine WQ.st (fun _ _ kz => pw_iconst (v := 0) dX12_tempersOf_11 (by decide) kz) ?_
  refine WQ.st (fun _ _ kz => pw_istore5 dX12_tempersOf_12 (by decide) (k := kz)) ?_
  refine WQ.st (fun _ _ kz => pw_iconst (v := 0) dX12_tempersOf_14 (by decide) kz) ?_
  refine WQ.st (fun _ _ kz => pw_istore6 dX12_tempersOf_15 (by decide) (k := kz)) ?_
  exact l_tempers (S := S) (P := P) (G := G) (B := B) (Q := Q) (t := t) (sl := sl) (d := d) hF (V0 := V) (A0 := A) (al := al) hD hK htr hp hq hmn (x4 := al (87 + p)) (fun V2 A2 x7 x8 g1 g2 g3 => by
    refine WQ.st (fun _ _ kz => pw_aload0 dX12_tempersOf_153 kz) ?_
    refine WQ.st (fun _ _ kz => pw_getr gX12_13 dX12_tempersOf_154 hF.1 (mf_p1 hF) kz) ?_
    refine WQ.st (fun _ _ kz => pw_bipush (v := 87) dX12_tempersOf_157 (by decide) kz) ?_
    refine WQ.st (fun _ _ kz => pw_iload2 dX12_tempersOf_159 kz) ?_
    refine WQ.st (fun _ _ kz => pw_iadd dX12_tempersOf_160 kz) ?_
    refine WQ.st (fun _ _ kz => pw_iload4 dX12_tempersOf_161 kz) ?_
    refine WQ.st (fun _ _ kz => pw_ast (j := 87 + p) dX12_tempersOf_163 (mf_s1 hF) (by simp (disch := omega) only [nl_87, nI_add, pk_mul, pk_sub]; exact ix_m (by omega) (by omega)) (by omega)  kz) ?_
    refine WQ.st (fun _ _ kz => pw_iload5 dX12_tempersOf_164 kz) ?_
    refine ⟨_, _, pw_iret dX12_tempersOf_166 rfl rfl rfl rfl, ?_⟩
    refine ⟨rfl, V2, _, rfl, g1, fun a ha => ?_⟩
    by_cases e : a = o + 1
    · obtain ⟨x, hx⟩ := g3
      rw [e, up2_at, hx, pm_up_up, ← hal, pm_up_self]
    · rw [up2_na e]
      exact g2 a (by omega)) 10 0 V A none none rfl FV.rfl (fun _ _ => rfl) ⟨al (87 + p), by rw [pm_up_self]; exact hal⟩
def sp_temps (al so mn : Nat → Int32) (nb : Nat → Int64) (x y z : Int) : Int32 := if sp_nh al so mn nb x y z = 0 then tmS al y.toNat z.toNat (fun k => nb (40 * x.toNat + k)) 10 else sp_nh al so mn nb x y z
set_option maxRecDepth 20000 in
theorem p_tempers {G : gT} {d : Nat} {S : sS} {V : sV} {P : sP} {A : sV} {B : sB} {Q : sP} {t sl o : Nat} (hF : MF S P o) (hA : AV (A (o + 1)))  (x y z : Int32) : WQ G (d + 9) mX12_tempers 0 [some (.ref o), some (.int x), some (.int y), some (.int z), none] [] (t, sl, gh S V P A B Q) (PZ o S P Q t sl V A B (.int (sp_temps (A (o + 1)) (A (o + 20)) (A (o + 21)) (B (o + 22)) x.toInt y.toInt z.toInt)) (A (o + 1))) := by
  refine WQ.st (fun _ _ kz => pw_aload0 dX12_tempers_0 kz) ?_
  refine WQ.st (fun _ _ kz => pw_iconst (v := 0) dX12_tempers_1 (by decide) kz) ?_
  refine WQ.st (fun _ _ kz => pw_puti (pX12_1 _ rfl) dX12_tempers_2 hF.1 rfl rfl kz) ?_
  refine WQ.st (fun _ _ kz => pw_aload0 dX12_tempers_5 kz) ?_
  refine WQ.st (fun _ _ kz => pw_iload1 dX12_tempers_6 kz) ?_
  refine WQ.st (fun _ _ kz => pw_iload2 dX12_tempers_7 kz) ?_
  refine WQ.st (fun _ _ kz => pw_iload3 dX12_tempers_8 kz) ?_
  obtain ⟨_, _, k0, rfl, rfl⟩ := c_noHeard (d := d + 5) (P := P) (S := S) (G := G) (V := (up2 V o 0 0)) (A := A) (B := B) (Q := Q) (t := t) (sl := sl) hF hA.dv x y z
  refine WQ.st (fun _ _ kz => pw_o3i wX12_noHeard lX12_474 rfl dX12_tempers_9 hF.1 (k0) rfl (Nat.le_of_ble_eq_true rfl) (Nat.le_of_ble_eq_true rfl) kz) ?_
  refine WQ.st (fun _ _ kz => pw_istore4 dX12_tempers_12 (by decide) (k := kz)) ?_
  refine WQ.st (fun _ _ kz => pw_iload4 dX12_tempers_14 kz) ?_
  refine WQ.br (fun _ _ ka kb => pw_if_eq (tgt := 24) dX12_tempers_16 (by decide) ka kb) (fun c16 => ?_) (fun c16 => ?_)
  · obtain ⟨tr, p, q, et, tt, htr, ep, tp, hp, eq, tq, hq, hmn, hnb, hPy, hQz⟩ := nh_0 hA.dv c16
    rw [et, ep, eq]
    refine WQ.st (fun _ _ kz => pw_aload0 dX12_tempers_24 kz) ?_
    refine WQ.st (fun _ _ kz => pw_iload1 dX12_tempers_25 kz) ?_
    refine WQ.st (fun _ _ kz => pw_iload2 dX12_tempers_26 kz) ?_
    refine WQ.st (fun _ _ kz => pw_iload3 dX12_tempers_27 kz) ?_
    obtain ⟨_, _, k6, rfl, V3, A3, rfl, f1, f2⟩ := c_tempersOf (d := d + 2) (P := P) (S := S) (G := G) (V := (up2 V o 0 0)) (A := A) (B := B) (Q := Q) (t := t) (sl := sl) hF rfl hA.dv hA.kv htr hp hq hmn
    refine WQ.st (fun _ _ kz => pw_o3i wX12_tempersOf lX12_485 rfl dX12_tempers_28 hF.1 (k6) rfl (Nat.le_of_ble_eq_true rfl) (Nat.le_of_ble_eq_true rfl) kz) ?_
    refine ⟨_, _, pw_iret dX12_tempers_31 rfl rfl rfl rfl, ?_⟩
    have c0 : sp_temps (A (o + 1)) (A (o + 20)) (A (o + 21)) (B (o + 22)) x.toInt y.toInt z.toInt = tmS (A (o + 1)) p q (fun k => B (o + 22) (40 * tr + k)) 10 := by unfold sp_temps; rw [if_pos c16, tt, tp, tq, Int.toNat_natCast, Int.toNat_natCast, Int.toNat_natCast]
    rw [← et, ← ep, ← eq, c0]
    exact PZ.q ((FP.up (by decide)).tr f1.FP) f2.FQ FB.rfl
  · refine WQ.st (fun _ _ kz => pw_iload4 dX12_tempers_19 kz) ?_
    refine WQ.st (fun _ _ kz => pw_goto (tgt := 31) dX12_tempers_21 (by decide) kz) ?_
    refine ⟨_, _, pw_iret dX12_tempers_31 rfl rfl rfl rfl, ?_⟩
    have c0 : sp_temps (A (o + 1)) (A (o + 20)) (A (o + 21)) (B (o + 22)) x.toInt y.toInt z.toInt = sp_nh (A (o + 1)) (A (o + 20)) (A (o + 21)) (B (o + 22)) x.toInt y.toInt z.toInt := by unfold sp_temps; rw [if_neg c16]
    rw [c0]
    exact PZ.q (FP.up (by decide)) FQ.rfl FB.rfl
