/-! ===== the class's calls: what was heard ===== -/
theorem CI.a69 {S : sS} {V : sV} {P : sP} {A : sV} {B : sB} {Q : sP} {t : Nat} {A' : sV} {al : Nat → Int32} {W : WT} {sh ls : Nat} (hI : CI S V P A B Q t al W sh ls) (g1 : ∀ x, x ≠ 69 → x ≠ 70 → A' x = A x) : CI S V P A' B Q t al W sh ls ∧ FrO S V P A B t S V P A' B t := by
  have f7 : FrD 20 S V P A B Q t S V P A' B Q t := FrD.va (fun _ _ => rfl) (fun x hx => g1 x (by omega) (by omega))
  exact ⟨hI.ask (hI.de.dc.fr ⟨fun _ _ => rfl, fun x hx => g1 x (by omega) (by omega), fun _ _ => rfl⟩ (g1 109 (by omega) (by omega))) f7, f7.o (Or.inr rfl)⟩
def hmk (v : Int64) : Int32 := if v = 9 then 31 else btF v.toInt32
theorem isD_j {v : Int64} (h : isD v.toInt = true) : ∃ j, j < 5 ∧ v.toInt32 = dI j ∧ v = (dI j).toInt64 ∧ ¬ v = 9 := by
  have h := of_decide_eq_true h
  rcases (show v.toInt = -2 ∨ v.toInt = -1 ∨ v.toInt = 0 ∨ v.toInt = 1 ∨ v.toInt = 2 by omega) with e | e | e | e | e
  · have e : v = -2 := Int64.toInt_inj.mp e
    subst e; exact ⟨0, by decide, by decide, by decide, by decide⟩
  · have e : v = -1 := Int64.toInt_inj.mp e
    subst e; exact ⟨1, by decide, by decide, by decide, by decide⟩
  · have e : v = 0 := Int64.toInt_inj.mp e
    subst e; exact ⟨2, by decide, by decide, by decide, by decide⟩
  · have e : v = 1 := Int64.toInt_inj.mp e
    subst e; exact ⟨3, by decide, by decide, by decide, by decide⟩
  · have e : v = 2 := Int64.toInt_inj.mp e
    subst e; exact ⟨4, by decide, by decide, by decide, by decide⟩
theorem v9 {v : Int64} : v.toInt = 9 ↔ v = 9 := by
  rw [show (9 : Int) = (9 : Int64).toInt from rfl]
  exact Int64.toInt_inj
set_option maxRecDepth 20000 in
theorem q_rhL {G : gT} {d : Nat} {S : sS} {V : sV} {P : sP} {B : sB} {Q : sP} {t sl : Nat} (hC : CF S P) {x1 x2 x3 : Int32} {tr n : Nat} (htr : tr < 4) (hn : n ≤ 12) {g : Nat → Int64} (hv : V (79 + 2 * tr) 0 = nI n) (hB : ∀ i, i < n → B (80 + 2 * tr) i = g i) {A0 : sV} : ∀ (m k : Nat) (A : sV) (y : Option Value), k + m = n → (∀ x, x ≠ 69 → A x = A0 x) → (∀ b, b < k → A 69 b = hmk (g b)) → WQ G (d + 1) mX11_refuseHeard 61 [some (.ref 8), some (.int x1), some (.int x2), some (.int x3), some (.ref (79 + 2 * tr)), some (.int (nI k)), y, none] [] (t, sl, gh S V P A B Q) (fun r h' => r = some (.int (nhL (fun k => (g k).toInt) m k)) ∧ ∃ A' : sV, h' = (t, sl, gh S V P A' B Q) ∧ (∀ x, x ≠ 69 → A' x = A0 x) ∧ (nhL (fun k => (g k).toInt) m k = 0 → ∀ b, b < n → A' 69 b = hmk (g b))) := by
  have hTy := cf_ty hC htr
  intro m
  induction m with
  | zero =>
    intro k A y hk h1 h2
    have hk : k = n := hk
    subst hk
    refine WQ.st (fun _ _ kz => pw_iload5 dX11_refuseHeard_61 kz) ?_
    refine WQ.st (fun _ _ kz => pw_aload4 dX11_refuseHeard_63 kz) ?_
    refine WQ.st (fun _ _ kz => pw_geti gX11_240 dX11_refuseHeard_65 (ty_s0 hTy) kz) ?_
    rw [hv]
    refine WQ.br (fun _ _ ka kb => pw_icmp_ge (tgt := 151) dX11_refuseHeard_68 (by decide) ka kb) (fun c68 => ?_) (fun c68 => absurd (by rw [le_i (ix_n (by omega)) (ix_n (by omega))]; omega) c68)
    refine WQ.st (fun _ _ kz => pw_iconst (v := 0) dX11_refuseHeard_151 (by decide) kz) ?_
    refine ⟨_, _, pw_iret dX11_refuseHeard_152 rfl rfl rfl rfl, ?_⟩
    exact ⟨rfl, A, rfl, h1, fun _ => h2⟩
  | succ m ih =>
    intro k A y hk h1 h2
    refine WQ.st (fun _ _ kz => pw_iload5 dX11_refuseHeard_61 kz) ?_
    refine WQ.st (fun _ _ kz => pw_aload4 dX11_refuseHeard_63 kz) ?_
    refine WQ.st (fun _ _ kz => pw_geti gX11_240 dX11_refuseHeard_65 (ty_s0 hTy) kz) ?_
    rw [hv]
    refine WQ.br (fun _ _ ka kb => pw_icmp_ge (tgt := 151) dX11_refuseHeard_68 (by decide) ka kb) (fun c68 => absurd c68 (by rw [le_i (ix_n (by omega)) (ix_n (by omega))]; omega)) (fun c68 => ?_)
    refine WQ.st (fun _ _ kz => pw_iload5 dX11_refuseHeard_71 kz) ?_
    refine WQ.st (fun _ _ kz => pw_bipush (v := 12) dX11_refuseHeard_73 (by decide) kz) ?_
    refine WQ.br (fun _ _ ka kb => pw_icmp_ge (tgt := 151) dX11_refuseHeard_75 (by decide) ka kb) (fun c75 => absurd c75 (by rw [le_i li_12 (ix_n (by omega))]; omega)) (fun c75 => ?_)
    refine WQ.st (fun _ _ kz => pw_aload4 dX11_refuseHeard_78 kz) ?_
    refine WQ.st (fun _ _ kz => pw_iload5 dX11_refuseHeard_80 kz) ?_
    refine wq_o1i wX9_at lX11_241 rfl dX11_refuseHeard_82 (ty_s0 hTy) (k_at hTy hv (by omega) (by omega)) rfl (Nat.le_of_ble_eq_true rfl) (Nat.le_of_ble_eq_true rfl) (fun h82 z82 => ?_)
    subst z82
    rw [show 79 + 2 * tr + 1 = 80 + 2 * tr by omega, hB k (by omega)]
    refine WQ.st (fun _ _ kz => pw_lstore6 dX11_refuseHeard_85 (by decide) (k := kz)) ?_
    refine WQ.st (fun _ _ kz => pw_lload6 dX11_refuseHeard_87 kz) ?_
    refine WQ.st (fun _ _ kz => pw_ldc2 kX11_410 dX11_refuseHeard_89 kz) ?_
    refine WQ.st (fun _ _ kz => pw_lcmp dX11_refuseHeard_92 kz) ?_
    refine WQ.bn (fun _ _ ka kb => pw_if_ne (tgt := 108) dX11_refuseHeard_93 (by decide) ka kb) (fun c93 => ?_) (fun c93 => ?_)
    · rw [lg_cmp_eq] at c93
      refine WQ.st (fun _ _ kz => pw_lload6 dX11_refuseHeard_108 kz) ?_
      refine WQ.st (fun _ _ kz => pw_ldc2 kX11_412 dX11_refuseHeard_110 kz) ?_
      refine WQ.st (fun _ _ kz => pw_lcmp dX11_refuseHeard_113 kz) ?_
      refine WQ.br (fun _ _ ka kb => pw_if_lt (tgt := 142) dX11_refuseHeard_114 (by decide) ka kb) (fun c114 => ?_) (fun c114 => ?_)
      · rw [lg_cmp_lt, Int64.lt_iff_toInt_lt, show (-2 : Int64).toInt = -2 from rfl] at c114
        refine WQ.st (fun _ _ kz => pw_ldc kX11_123 dX11_refuseHeard_142 kz) ?_
        refine ⟨_, _, pw_iret dX11_refuseHeard_144 rfl rfl rfl rfl, ?_⟩
        have eL : nhL (fun k => (g k).toInt) (m + 1) k = -99000003 := by
          show (if _ then _ else _) = _
          rw [if_neg (by show ¬ (isD (g k).toInt || decide ((g k).toInt = 9)) = true; rw [show isD (g k).toInt = false from decide_eq_false (by omega), decide_eq_false (fun h => c93 (v9.mp h))]; decide)]
        rw [eL]
        exact ⟨rfl, A, rfl, h1, fun h => absurd h (by decide)⟩
      · rw [lg_cmp_lt, Int64.lt_iff_toInt_lt, show (-2 : Int64).toInt = -2 from rfl] at c114
        refine WQ.st (fun _ _ kz => pw_lload6 dX11_refuseHeard_117 kz) ?_
        refine WQ.st (fun _ _ kz => pw_ldc2 kX11_414 dX11_refuseHeard_119 kz) ?_
        refine WQ.st (fun _ _ kz => pw_lcmp dX11_refuseHeard_122 kz) ?_
        refine WQ.br (fun _ _ ka kb => pw_if_gt (tgt := 142) dX11_refuseHeard_123 (by decide) ka kb) (fun c123 => ?_) (fun c123 => ?_)
        · rw [lg_cmp_gt, Int64.lt_iff_toInt_lt, show (2 : Int64).toInt = 2 from rfl] at c123
          refine WQ.st (fun _ _ kz => pw_ldc kX11_123 dX11_refuseHeard_142 kz) ?_
          refine ⟨_, _, pw_iret dX11_refuseHeard_144 rfl rfl rfl rfl, ?_⟩
          have eL : nhL (fun k => (g k).toInt) (m + 1) k = -99000003 := by
            show (if _ then _ else _) = _
            rw [if_neg (by show ¬ (isD (g k).toInt || decide ((g k).toInt = 9)) = true; rw [show isD (g k).toInt = false from decide_eq_false (by omega), decide_eq_false (fun h => c93 (v9.mp h))]; decide)]
          rw [eL]
          exact ⟨rfl, A, rfl, h1, fun h => absurd h (by decide)⟩
        · rw [lg_cmp_gt, Int64.lt_iff_toInt_lt, show (2 : Int64).toInt = 2 from rfl] at c123
          have eL : nhL (fun k => (g k).toInt) (m + 1) k = nhL (fun k => (g k).toInt) m (k + 1) := by
            show (if _ then _ else _) = _
            rw [if_pos (by show (isD (g k).toInt || decide ((g k).toInt = 9)) = true; rw [show isD (g k).toInt = true from decide_eq_true (by omega)]; rfl)]
          rw [eL]
          refine WQ.st (fun _ _ kz => pw_aload0 dX11_refuseHeard_126 kz) ?_
          refine WQ.st (fun _ _ kz => pw_getr gX11_62 dX11_refuseHeard_127 (cf_s8 hC) (cf_p8_16 hC) kz) ?_
          refine WQ.st (fun _ _ kz => pw_iload5 dX11_refuseHeard_130 kz) ?_
          refine WQ.st (fun _ _ kz => pw_lload6 dX11_refuseHeard_132 kz) ?_
          refine WQ.st (fun _ _ kz => pw_l2i dX11_refuseHeard_134 kz) ?_
          refine wq_s1i wX11_bitOf lX11_342 dX11_refuseHeard_135 (k_bitOf _) rfl (Nat.le_of_ble_eq_true rfl) (Nat.le_of_ble_eq_true rfl) (fun h135 z135 => ?_)
          subst z135
          refine WQ.st (fun _ _ kz => pw_ast (j := k) dX11_refuseHeard_138 (cf_s69 hC) (ix_m rfl (by omega)) (by omega)  kz) ?_
          refine WQ.st (fun _ _ kz => pw_goto (tgt := 145) dX11_refuseHeard_139 (by decide) kz) ?_
          refine WQ.st (fun _ _ kz => pw_iinc5 (v := 1) dX11_refuseHeard_145 (by decide) (by decide) (k := kz)) ?_
          refine WQ.st (fun _ _ kz => pw_goto (tgt := 61) dX11_refuseHeard_148 (by decide) kz) ?_
          rw [nI_1]
          refine ih (k + 1) _ _ (by omega) (fun x hx => by rw [up2_na hx]; exact h1 x hx) (fun u hu => ?_)
          by_cases e : u = k
          · rw [e, up2_eq]
            unfold hmk
            rw [if_neg c93]
          · rw [up2_nk e]
            exact h2 u (by omega)
    · rw [lg_cmp_eq] at c93
      have eL : nhL (fun k => (g k).toInt) (m + 1) k = nhL (fun k => (g k).toInt) m (k + 1) := by
        show (if _ then _ else _) = _
        rw [if_pos (by show (isD (g k).toInt || decide ((g k).toInt = 9)) = true; rw [decide_eq_true (v9.mpr c93), Bool.or_true])]
      rw [eL]
      refine WQ.st (fun _ _ kz => pw_aload0 dX11_refuseHeard_96 kz) ?_
      refine WQ.st (fun _ _ kz => pw_getr gX11_62 dX11_refuseHeard_97 (cf_s8 hC) (cf_p8_16 hC) kz) ?_
      refine WQ.st (fun _ _ kz => pw_iload5 dX11_refuseHeard_100 kz) ?_
      refine WQ.st (fun _ _ kz => pw_bipush (v := 31) dX11_refuseHeard_102 (by decide) kz) ?_
      refine WQ.st (fun _ _ kz => pw_ast (j := k) dX11_refuseHeard_104 (cf_s69 hC) (ix_m rfl (by omega)) (by omega)  kz) ?_
      refine WQ.st (fun _ _ kz => pw_goto (tgt := 145) dX11_refuseHeard_105 (by decide) kz) ?_
      refine WQ.st (fun _ _ kz => pw_iinc5 (v := 1) dX11_refuseHeard_145 (by decide) (by decide) (k := kz)) ?_
      refine WQ.st (fun _ _ kz => pw_goto (tgt := 61) dX11_refuseHeard_148 (by decide) kz) ?_
      rw [nI_1]
      refine ih (k + 1) _ _ (by omega) (fun x hx => by rw [up2_na hx]; exact h1 x hx) (fun u hu => ?_)
      by_cases e : u = k
      · rw [e, up2_eq]
        unfold hmk
        rw [if_pos c93]
      · rw [up2_nk e]
        exact h2 u (by omega)
set_option maxRecDepth 20000 in
theorem k_refuseHeard {G : gT} {d : Nat} {S : sS} {V : sV} {P : sP} {A : sV} {B : sB} {Q : sP} {t sl : Nat} {al : Nat → Int32} {W : WT} {sh ls : Nat} (hI : CI S V P A B Q t al W sh ls) (hls : ls + 1 < 2000000000) (x y z : Int32) : WQ G (d + 3) mX11_refuseHeard 0 [some (.ref 8), some (.int x), some (.int y), some (.int z), none, none, none, none] [] (t, sl, gh S V P A B Q) (fun r h' => r = some (.int (sp_nh al W.2.1 W.2.2.1 W.2.2.2.1 x.toInt y.toInt z.toInt)) ∧ ∃ A' : sV, h' = (t, sl, gh S V P A' B Q) ∧ (∀ x, x ≠ 69 → A' x = A x) ∧ (sp_nh al W.2.1 W.2.2.1 W.2.2.2.1 x.toInt y.toInt z.toInt = 0 → ∃ tr p q : Nat, (x = nI tr ∧ tr < 4 ∧ x.toInt = (tr : Int)) ∧ (y = nI p ∧ p < 5 ∧ y.toInt = (p : Int)) ∧ (z = nI q ∧ q < 4 ∧ z.toInt = (q : Int) ∧ isQ al (nI q).toInt = true) ∧ ∀ b, b < lgN al q → A' 69 b = hmk (W.2.2.2.1 (40 * tr + b)) ∧ (isD (W.2.2.2.1 (40 * tr + b)).toInt = true ∨ W.2.2.2.1 (40 * tr + b) = 9))) := by
  have hE := hI.de
  have hC := hE.dc.ka.cf
  have hD := hE.dc.ka.dv
  have hSe := hE.dc.ka.se
  have hA := hI.av
  have hp5 := hD.p5
  have hn4 := hD.n4
  refine WQ.st (fun _ _ kz => pw_iload1 dX11_refuseHeard_0 kz) ?_
  refine wq_s1i wX11_isTray lX11_232 dX11_refuseHeard_1 (k_isTray x) rfl (Nat.le_of_ble_eq_true rfl) (Nat.le_of_ble_eq_true rfl) (fun h1 z1 => ?_)
  subst z1
  refine WQ.br (fun _ _ ka kb => pw_if_eq (tgt := 16) dX11_refuseHeard_4 (by decide) ka kb) (fun c4 => ?_) (fun c4 => ?_)
  · rw [bI_0] at c4
    refine WQ.st (fun _ _ kz => pw_ldc kX11_155 dX11_refuseHeard_16 kz) ?_
    refine ⟨_, _, pw_iret dX11_refuseHeard_18 rfl rfl rfl rfl, ?_⟩
    have c0 : sp_nh al W.2.1 W.2.2.1 W.2.2.2.1 x.toInt y.toInt z.toInt = -99000002 := by unfold sp_nh; rw [c4, Bool.false_and, if_neg (by decide)]
    rw [c0]
    exact ⟨rfl, A, rfl, fun _ _ => rfl, fun h => absurd h (by decide)⟩
  · rw [bI_n] at c4
    have hx := of_decide_eq_true c4
    obtain ⟨tr, rfl, tx, _⟩ := nI_get (x := x) (n := 4) (by omega) (by omega) (by omega)
    have htr : tr < 4 := by omega
    have hTy := cf_ty hC htr
    have tx2 : (nI tr).toInt.toNat = tr := by omega
    refine WQ.st (fun _ _ kz => pw_aload0 dX11_refuseHeard_7 kz) ?_
    refine WQ.st (fun _ _ kz => pw_iload2 dX11_refuseHeard_8 kz) ?_
    refine WQ.st (fun _ _ kz => pw_iload3 dX11_refuseHeard_9 kz) ?_
    refine wq_o2i wX11_hasBoth lX11_262 rfl dX11_refuseHeard_10 (cf_s8 hC) (k_hasBoth hI _ _) rfl (Nat.le_of_ble_eq_true rfl) (Nat.le_of_ble_eq_true rfl) (fun h10 z10 => ?_)
    subst z10
    refine WQ.bn (fun _ _ ka kb => pw_if_ne (tgt := 19) dX11_refuseHeard_13 (by decide) ka kb) (fun c13 => ?_) (fun c13 => ?_)
    · rw [bI_n] at c13
      have hb2 := (Bool.and_eq_true _ _).mp c13
      have hiq := hb2.2
      have gy := isP_t hb2.1
      obtain ⟨p, rfl, tp, lp⟩ := nI_get gy.1 gy.2 (by omega)
      have hp : p < 5 := by omega
      have gz := isQ_t hb2.2
      obtain ⟨q, rfl, tq, lq⟩ := nI_get gz.1 gz.2 (by omega)
      have hq : q < 4 := by omega
      refine WQ.st (fun _ _ kz => pw_aload0 dX11_refuseHeard_19 kz) ?_
      refine WQ.st (fun _ _ kz => pw_getr gX11_58 dX11_refuseHeard_20 (cf_s8 hC) (cf_p8_10 hC) kz) ?_
      refine WQ.st (fun _ _ kz => pw_iload1 dX11_refuseHeard_23 kz) ?_
      refine WQ.st (fun _ _ kz => pw_qldr (j := tr) dX11_refuseHeard_24 (cf_s68 hC) (by decide) (ix_m rfl (by omega)) (by omega) (hI.re.tr.1 tr htr) kz) ?_
      refine WQ.st (fun _ _ kz => pw_astore4 dX11_refuseHeard_25 (by decide) (k := kz)) ?_
      refine WQ.st (fun _ _ kz => pw_aload4 dX11_refuseHeard_27 kz) ?_
      refine wq_o0i wX9_isMissing lX11_235 rfl dX11_refuseHeard_29 (ty_s0 hTy) (k_isMissing hTy) rfl (Nat.le_of_ble_eq_true rfl) (Nat.le_of_ble_eq_true rfl) (fun h29 z29 => ?_)
      subst z29
      refine WQ.br (fun _ _ ka kb => pw_if_eq (tgt := 38) dX11_refuseHeard_32 (by decide) ka kb) (fun c32 => ?_) (fun c32 => ?_)
      · rw [bI_0] at c32
        obtain ⟨t1, t2, t3, t4, t5⟩ := tr_ok hI.re.tr htr (of_decide_eq_false c32)
        have hnt : sp_nt W.2.1 (nI tr).toInt = 0 := by
          unfold sp_nt
          rw [if_pos (by omega), tx, Int.toNat_natCast, if_neg t1]
        refine WQ.st (fun _ _ kz => pw_aload4 dX11_refuseHeard_38 kz) ?_
        refine WQ.st (fun _ _ kz => pw_geti gX11_240 dX11_refuseHeard_40 (ty_s0 hTy) kz) ?_
        rw [t3]
        refine WQ.st (fun _ _ kz => pw_aload0 dX11_refuseHeard_43 kz) ?_
        refine WQ.st (fun _ _ kz => pw_getr gX11_71 dX11_refuseHeard_44 (cf_s8 hC) hI.re.p84 kz) ?_
        refine WQ.st (fun _ _ kz => pw_iload3 dX11_refuseHeard_47 kz) ?_
        refine wq_o1i wX7_barsOf lX11_179 rfl dX11_refuseHeard_48 (sh_s0 hE.dc.ka.hsh) (k_barsOf hE.dc.ka.hsh hSe hD hq hiq) rfl (Nat.le_of_ble_eq_true rfl) (Nat.le_of_ble_eq_true rfl) (fun h48 z48 => ?_)
        subst z48
        rw [(hD.lgE hq).1]
        refine WQ.br (fun _ _ ka kb => pw_icmp_eq (tgt := 58) dX11_refuseHeard_51 (by decide) ka kb) (fun c51 => ?_) (fun c51 => ?_)
        · have hmn : (W.2.2.1 tr).toInt.toNat = lgN al q := by
            have h2 := (hD.lgE hq).2
            rw [eq_i (ix_n (by omega)) (ix_n (by omega))] at c51
            omega
          have hmn2 : W.2.2.1 tr = al (10 + q) := by
            rw [(hD.lgE hq).1, ← hmn, ← t3]
            rcases hI.re.tr.2 tr htr with ⟨h, _⟩ | ⟨_, _, h, _⟩
            · exact absurd h t1
            · exact h.symm
          refine WQ.st (fun _ _ kz => pw_iconst (v := 0) dX11_refuseHeard_58 (by decide) kz) ?_
          refine WQ.st (fun _ _ kz => pw_istore5 dX11_refuseHeard_59 (by decide) (k := kz)) ?_
          have hn12 := (hD.lgE hq).2
          have c0 : sp_nh al W.2.1 W.2.2.1 W.2.2.2.1 (nI tr).toInt (nI p).toInt (nI q).toInt = nhL (fun k => (W.2.2.2.1 (40 * tr + k)).toInt) (lgN al q) 0 := by
            unfold sp_nh
            rw [c4, c13, Bool.true_and, if_pos (by rfl), if_pos hnt, tx, tq, Int.toNat_natCast, Int.toNat_natCast, if_pos hmn2]
          rw [c0]
          obtain ⟨r, h', kr, rfl, A1, rfl, g1, g2⟩ := q_rhL (G := G) (d := d + 2) (S := S) (V := V) (P := P) (B := B) (Q := Q) (t := t) (sl := sl) hC (x1 := nI tr) (x2 := nI p) (x3 := nI q) htr hn12 (g := fun k => W.2.2.2.1 (40 * tr + k)) (by rw [t3, hmn]) (fun i hi => t5 i (by omega)) (A0 := A) (lgN al q) 0 A none (by omega) (fun _ _ => rfl) (fun b hb => by omega)
          refine ⟨_, _, kr, rfl, A1, rfl, g1, fun h => ⟨tr, p, q, ⟨rfl, htr, tx⟩, ⟨rfl, hp, tp⟩, ⟨rfl, hq, tq, hiq⟩, fun b hb => ⟨g2 h b hb, ?_⟩⟩⟩
          exact (nhL_0 _ _ h b (by omega) (by omega)).imp id v9.mp
        · refine WQ.st (fun _ _ kz => pw_ldcw kX11_409 dX11_refuseHeard_54 kz) ?_
          refine ⟨_, _, pw_iret dX11_refuseHeard_57 rfl rfl rfl rfl, ?_⟩
          have hmn2 : ¬ W.2.2.1 tr = al (10 + q) := fun h => c51 (by rw [← (hD.lgE hq).1, ← h, ← t3]; rcases hI.re.tr.2 tr htr with ⟨h, _⟩ | ⟨_, _, h, _⟩; exact absurd h t1; exact h)
          have c0 : sp_nh al W.2.1 W.2.2.1 W.2.2.2.1 (nI tr).toInt (nI p).toInt (nI q).toInt = -99000004 := by unfold sp_nh; rw [c4, c13, Bool.true_and, if_pos (by rfl), if_pos hnt, tx, tq, Int.toNat_natCast, Int.toNat_natCast, if_neg hmn2]
          rw [c0]
          exact ⟨rfl, A, rfl, fun _ _ => rfl, fun h => absurd h (by decide)⟩
      · rw [bI_n] at c32
        refine WQ.st (fun _ _ kz => pw_ldc kX11_239 dX11_refuseHeard_35 kz) ?_
        refine ⟨_, _, pw_iret dX11_refuseHeard_37 rfl rfl rfl rfl, ?_⟩
        have hnt : sp_nt W.2.1 (nI tr).toInt = -99000006 := by
          unfold sp_nt
          rw [if_pos (by omega), tx, Int.toNat_natCast, if_pos (tr_no hI.re.tr htr (of_decide_eq_true c32))]
        have c0 : sp_nh al W.2.1 W.2.2.1 W.2.2.2.1 (nI tr).toInt (nI p).toInt (nI q).toInt = -99000006 := by unfold sp_nh; rw [c4, c13, Bool.true_and, if_pos (by rfl), hnt, if_neg (by decide)]
        rw [c0]
        exact ⟨rfl, A, rfl, fun _ _ => rfl, fun h => absurd h (by decide)⟩
    · rw [bI_0] at c13
      refine WQ.st (fun _ _ kz => pw_ldc kX11_155 dX11_refuseHeard_16 kz) ?_
      refine ⟨_, _, pw_iret dX11_refuseHeard_18 rfl rfl rfl rfl, ?_⟩
      have c0 : sp_nh al W.2.1 W.2.2.1 W.2.2.2.1 (nI tr).toInt y.toInt z.toInt = -99000002 := by unfold sp_nh; rw [c13, Bool.and_false, if_neg (by decide)]
      rw [c0]
      exact ⟨rfl, A, rfl, fun _ _ => rfl, fun h => absurd h (by decide)⟩
