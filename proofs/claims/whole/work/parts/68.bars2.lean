/-! ===== the class: Bars, gladness at a place, the draw that comes ===== -/
def okv (x : Int32) : Prop := x = -268435456 ∨ (-100000000 ≤ x.toInt ∧ x.toInt ≤ 100000000)
theorem okv_n {x : Int32} (h : okv x) (hx : x ≠ -268435456) : -100000000 ≤ x.toInt ∧ x.toInt ≤ 100000000 := h.resolve_left hx
theorem cv_c : cv (-268435456) = -2147483648 := by decide
theorem cv_n {x : Int32} (h : x ≠ -268435456) : cv x = x := if_neg h
theorem cv_not {x : Int32} (h : okv x) : cv x = -2147483648 ↔ x = -268435456 := by
  constructor
  · intro e
    rcases h with h | h
    · exact h
    · by_cases q : x = -268435456
      · exact q
      · rw [cv_n q] at e
        rw [e] at h
        exact absurd h.1 (by decide)
  · intro e
    rw [e]
    exact cv_c
theorem cv_lt {x y : Int32} (hx : okv x) (hy : okv y) : cv x < cv y ↔ x < y := by
  have c1 : (-268435456 : Int32).toInt = -268435456 := by decide
  have c2 : (-2147483648 : Int32).toInt = -2147483648 := by decide
  by_cases ex : x = -268435456
  · by_cases ey : y = -268435456
    · rw [ex, ey]
      constructor <;> intro h <;> exact absurd h (by decide)
    · have := okv_n hy ey
      rw [ex, cv_c, cv_n ey, lt_i c2 rfl, lt_i c1 rfl]
      omega
  · have hx' := okv_n hx ex
    by_cases ey : y = -268435456
    · rw [ey, cv_c, cv_n ex, lt_i rfl c2, lt_i rfl c1]
      omega
    · rw [cv_n ex, cv_n ey]
theorem cv_le {x y : Int32} (hx : okv x) (hy : okv y) : cv x ≤ cv y ↔ x ≤ y := by
  rw [← Int32.not_lt, ← Int32.not_lt, cv_lt hy hx]
theorem TT_ok {al : Nat → Int32} (hD : DV al) {p tm q b l s w : Nat} (hp : p < 5) (ht : tm < 10) (hq : q < 4) (hb : b < 12) (hl : l < 5) (hs : s < 41) (hw : w < 5) : TT (atm al p tm) p q b l s w = -268435456 ∨ sml (TT (atm al p tm) p q b l s w) := by
  have h1 := glad_sml hD hp ht hq hb hl hs hw
  unfold TT rf_g
  rw [atm_law hD p tm hp (law := 0) (by omega), atm_law hD p tm hp (law := 1) (by omega)]
  split
  · exact Or.inr h1
  · exact Or.inl rfl
theorem okv_sml {x : Int32} (h : x = -268435456 ∨ sml x) : okv x := by
  rcases h with h | h
  · exact Or.inl h
  · exact Or.inr ⟨by have := h.1; omega, by have := h.2; omega⟩
theorem keyOf_inj {al : Nat → Int32} {p tm p' tm' : Nat} (hp : p < 5) (ht : tm < 10) (hp' : p' < 5) (ht' : tm' < 10) (h : keyOf al p tm = keyOf al p' tm') : (asks al 0 = true → p = p') ∧ (asks al 1 = true → tm = tm') := by
  unfold keyOf at h
  cases e0 : asks al 0
  · cases e1 : asks al 1
    · exact ⟨fun h => absurd h (by decide), fun h => absurd h (by decide)⟩
    · rw [e0, e1] at h
      simp only [Bool.false_eq_true, if_false, if_true, show (0 : Int32) = nI 0 from rfl, show (10 : Int32) = nI 10 from rfl, pk_mul, nI_add] at h
      rw [← Int32.toInt_inj, nI_toInt (by omega), nI_toInt (by omega)] at h
      exact ⟨fun h => absurd h (by decide), fun _ => by omega⟩
  · cases e1 : asks al 1
    · rw [e0, e1] at h
      simp only [Bool.false_eq_true, if_false, if_true, show (0 : Int32) = nI 0 from rfl, show (10 : Int32) = nI 10 from rfl, pk_mul, nI_add] at h
      rw [← Int32.toInt_inj, nI_toInt (by omega), nI_toInt (by omega)] at h
      exact ⟨fun _ => by omega, fun h => absurd h (by decide)⟩
    · rw [e0, e1] at h
      simp only [Bool.false_eq_true, if_false, if_true, show (0 : Int32) = nI 0 from rfl, show (10 : Int32) = nI 10 from rfl, pk_mul, nI_add] at h
      rw [← Int32.toInt_inj, nI_toInt (by omega), nI_toInt (by omega)] at h
      exact ⟨fun _ => by omega, fun _ => by omega⟩
theorem KB.memo {S : sS} {V : sV} {P : sP} {A : sV} {B : sB} {Q : sP} {t : Nat} {al : Nat → Int32} {sh ls p tm q : Nat} (hK : KB S V P A B Q t al sh ls p tm q) {c st : Nat} (h1 : Q 99 q = some c) (h2 : A 101 q = nI st) (h3 : A 100 q = keyOf al p tm) : Memo al p tm q st (B c) ∧ st ≤ ls ∨ ∃ st' : Nat, nI st' = nI st ∧ st' ≤ ls ∧ Memo al p tm q st' (B c) := by
  obtain ⟨hp, ht, hq⟩ := hK.r
  obtain ⟨c', n', st', g1, g2, g3, g4, g5, g6, g7⟩ := (hK.ba.2.2.2.2.2.2.1 q hq).2 (by rw [h3]; exact keyOf_n hp ht)
  have ec : c' = c := Option.some.inj (g1.symm.trans h1)
  subst ec
  exact Or.inr ⟨st', by rw [← g4, h2], g6, g7 p tm hp ht h3.symm⟩
theorem KB.memo' {S : sS} {V : sV} {P : sP} {A : sV} {B : sB} {Q : sP} {t : Nat} {al : Nat → Int32} {sh ls p tm q : Nat} (hK : KB S V P A B Q t al sh ls p tm q) {c st : Nat} (h1 : Q 99 q = some c) (h2 : A 101 q = nI st) (h3 : A 100 q = keyOf al p tm) : Memo al p tm q st (B c) ∧ 0 ≤ (nI st).toInt ∧ (nI st).toInt ≤ (ls : Int) := by
  have hls := hK.lt
  rcases hK.memo h1 h2 h3 with ⟨m, h⟩ | ⟨st', e, h, m⟩
  · exact ⟨m, by rw [nI_toInt (by omega)]; omega, by rw [nI_toInt (by omega)]; omega⟩
  · refine ⟨?_, ?_, ?_⟩
    · unfold Memo at m ⊢
      rw [← e]
      exact m
    · rw [← e, nI_toInt (by omega)]; omega
    · rw [← e, nI_toInt (by omega)]; omega
theorem KB.put {S : sS} {V : sV} {P : sP} {A A1 : sV} {B : sB} {Q : sP} {t : Nat} {al : Nat → Int32} {sh ls p tm q : Nat} (hK : KB S V P A B Q t al sh ls p tm q) (hA : ∀ x, x ≠ 97 → x ≠ 98 → A1 x = A x) (h7 : A1 97 0 = A 97 0 ∧ A1 97 1 = A 97 1 ∧ A1 97 2 = A 97 2) {c st : Nat} (h1 : Q 99 q = some c) (h2 : A 101 q = nI st) (h3 : A 100 q = keyOf al p tm) {b l s w : Nat} (hb : b < 12) (hl : l < 5) (hs : s < 41) (hw : w < 5) : KB S V P A1 (up2 B c (cix (asks al 7) (asks al 6) b s l w) (cel (nI st) (uv al p tm q b l s w))) Q t al sh ls p tm q := by
  have hsa := hK.sa
  obtain ⟨hp, ht, hq⟩ := hK.r
  obtain ⟨-, st0, stl⟩ := hK.memo' h1 h2 h3
  obtain ⟨i1, i2, i3, i4, i5, i6, i7, i8⟩ := hK.ba
  refine ⟨hK.cf, hK.hsh, hsa, hK.dv, hK.se.fr (fun _ _ _ => rfl) (fun x g1 g2 => hA x (by omega) (by omega)), hK.lt, ⟨i1, i2, i3, i4, i5, i6, fun q' hq' => ?_, i8⟩, ?_, hK.r, hK.iq⟩
  · obtain ⟨m1, m2⟩ := i7 q' hq'
    refine ⟨fun c' hc' => ?_, fun hk => ?_⟩
    · obtain ⟨g1, n, g2, g3, g4⟩ := m1 c' hc'
      refine ⟨g1, n, g2, g3, fun i hi => ?_⟩
      by_cases ec : c' = c
      · subst ec
        rw [up2_at]
        unfold pm_up
        by_cases ei : i = cix (asks al 7) (asks al 6) b s l w
        · rw [if_pos ei, cel_hi]
          exact ⟨st0, stl⟩
        · rw [if_neg ei]
          exact g4 i hi
      · rw [up2_na ec]
        exact g4 i hi
    · rw [hA 100 (by omega) (by omega)] at hk
      obtain ⟨c', n, st', g1, g2, g3, g4, g5, g6, g7⟩ := m2 hk
      refine ⟨c', n, st', g1, g2, g3, by rw [hA 101 (by omega) (by omega)]; exact g4, g5, g6, fun p' tm' hp' ht' hk' => ?_⟩
      rw [hA 100 (by omega) (by omega)] at hk'
      have m := g7 p' tm' hp' ht' hk'
      by_cases ec : c' = c
      · subst ec
        have eq : q' = q := i8 q' q c' hq' hq g1 h1
        subst eq
        intro b' l' s' w' hb' hl' hs' hw' hh
        rw [up2_at] at hh ⊢
        unfold pm_up at hh ⊢
        by_cases ei : cix (asks al 7) (asks al 6) b' s' l' w' = cix (asks al 7) (asks al 6) b s l w
        · rw [if_pos ei, cel_lo]
          obtain ⟨e1, e2, e3, e4⟩ := cix_inj hs' hl' hw' hs hl hw ei
          subst e1
          subst e2
          have ek := keyOf_inj hp ht hp' ht' (h3.symm.trans hk'.symm)
          exact uv_ind hK.dv hp hp' hq hb' ek.1 ek.2 (fun h => (e4 h).symm) (fun h => (e3 h).symm)
        · rw [if_neg ei] at hh ⊢
          exact m b' l' s' w' hb' hl' hs' hw' hh
      · rw [up2_na ec]
        exact m
  · obtain ⟨c0, n0, st', u1, u2, u3, u4, u5, u6, u7, u8, u9, w0, w1, w2⟩ := hK.cu
    exact ⟨c0, n0, st', u1, u2, u3, u4, u5, by rw [hA 101 (by omega) (by omega)]; exact u6, by rw [hA 100 (by omega) (by omega)]; exact u7, u8, u9, h7.1.trans w0, h7.2.1.trans w1, h7.2.2.trans w2⟩
set_option maxRecDepth 20000 in
theorem k_gladAt {G : gT} {d : Nat} {S : sS} {V : sV} {P : sP} {A : sV} {B : sB} {Q : sP} {t sl : Nat} {al : Nat → Int32} {sh ls p tm q : Nat} (hK : KB S V P A B Q t al sh ls p tm q) {b l s w : Nat} (hb : b < 12) (hl : l < 5) (hs : s < 41) (hw : w < 5) : WQ G (d + 2) mX0_gladAt 0 [some (.ref 96), some (.int (nI b)), some (.int (sI s)), some (.int (dI l)), some (.int (dI w)), none, none, none, none, none] [] (t, sl, gh S V P A B Q) (fun r h' => r = some (.int (cv ((TT (atm al p tm) p q) b l s w))) ∧ ∃ (A' : sV) (B' : sB), h' = (t, sl, gh S V P A' B' Q) ∧ KB S V P A' B' Q t al sh ls p tm q ∧ FrG A B A' B') := by
  obtain ⟨hp, ht, hq⟩ := hK.r
  have hsa := hK.sa
  obtain ⟨c0, n0, st0, u1, u2, u3, u4, u5, u6, u7, u8, u9, w0, w1, w2⟩ := hK.cu
  have hlt := cix_lt (bs := asks al 7) (bl := asks al 6) hb hs hl hw
  have hc12 := (csz_le (asks al 7) (asks al 6)).1
  have hcb := ((hK.ba.2.2.2.2.2.2.1 q hq).1 c0 u2)
  have hn0 : n0 ≤ 12300 := by
    obtain ⟨-, n, g2, g3, -⟩ := hcb
    rw [u3] at g2
    injection g2 with _ g2
    omega
  have hc1 := hcb.1
  have hbh : (sI s - dI w).toInt = (s : Int) - 18 - (w : Int) := by
    rw [ti_sub (sI_t (by omega)) (dI_t (by omega)) (by omega)]
    omega
  have fin : ∀ (A1 : sV) (g : Int32) (fd : Int64), (∀ x, x ≠ 97 → x ≠ 98 → A1 x = A x) → (A1 97 0 = A 97 0 ∧ A1 97 1 = A 97 1 ∧ A1 97 2 = A 97 2) → g = uv al p tm q b l s w → WQ G (d + 2) mX0_gladAt 169 [some (.ref 96), some (.int (nI b)), some (.int (sI s)), some (.int (dI l)), some (.int (dI w)), some (.int (sI s - dI w)), some (.int (nI (cix (asks al 7) (asks al 6) b s l w))), some (.long fd), none, some (.int g)] [] (t, sl, gh S V P A1 B Q) (fun r h' => r = some (.int (uv al p tm q b l s w)) ∧ ∃ (A' : sV) (B' : sB), h' = (t, sl, gh S V P A' B' Q) ∧ KB S V P A' B' Q t al sh ls p tm q ∧ FrG A B A' B') := by
    intro A1 g fd hA1 h71 hg
    refine WQ.st (fun _ _ kz => pw_aload0 dX0_gladAt_169 kz) ?_
    refine WQ.st (fun _ _ kz => pw_getr gX0_57 dX0_gladAt_170 (cf_s96 hK.cf) u1 kz) ?_
    refine WQ.st (fun _ _ kz => pw_iload6 dX0_gladAt_173 kz) ?_
    refine WQ.st (fun _ _ kz => pw_aload0 dX0_gladAt_175 kz) ?_
    refine WQ.st (fun _ _ kz => pw_geti gX0_60 dX0_gladAt_176 (cf_s96 hK.cf) kz) ?_
    rw [u5]
    refine WQ.st (fun _ _ kz => pw_i2l dX0_gladAt_179 kz) ?_
    refine WQ.st (fun _ _ kz => pw_bipush (v := 32) dX0_gladAt_180 (by decide) kz) ?_
    refine WQ.st (fun _ _ kz => pw_lshl dX0_gladAt_182 kz) ?_
    refine WQ.st (fun _ _ kz => pw_iload9 dX0_gladAt_183 kz) ?_
    refine WQ.st (fun _ _ kz => pw_i2l dX0_gladAt_185 kz) ?_
    refine WQ.st (fun _ _ kz => pw_ldc2 kX0_108 dX0_gladAt_186 kz) ?_
    refine WQ.st (fun _ _ kz => pw_land dX0_gladAt_189 kz) ?_
    refine WQ.st (fun _ _ kz => pw_lor dX0_gladAt_190 kz) ?_
    refine WQ.st (fun _ _ kz => pw_lst (j := (cix (asks al 7) (asks al 6) b s l w)) dX0_gladAt_191 u3 (ix_n (by omega)) (by omega)  kz) ?_
    refine WQ.st (fun _ _ kz => pw_iload9 dX0_gladAt_192 kz) ?_
    refine ⟨_, _, pw_iret dX0_gladAt_194 rfl rfl rfl rfl, ?_⟩
    exact ⟨by rw [hg], A1, _, rfl, by rw [hg]; exact hK.put hA1 h71 u2 u6 u7 hb hl hs hw, fun x h1 h2 => hA1 x h1 h2, fun x hx => up2_na (by omega)⟩
  refine WQ.st (fun _ _ kz => pw_iload2 dX0_gladAt_0 kz) ?_
  refine WQ.st (fun _ _ kz => pw_iload4 dX0_gladAt_1 kz) ?_
  refine WQ.st (fun _ _ kz => pw_isub dX0_gladAt_3 kz) ?_
  refine WQ.st (fun _ _ kz => pw_istore5 dX0_gladAt_4 (by decide) (k := kz)) ?_
  refine WQ.st (fun _ _ kz => pw_aload0 dX0_gladAt_6 kz) ?_
  refine WQ.st (fun _ _ kz => pw_iload1 dX0_gladAt_7 kz) ?_
  refine WQ.st (fun _ _ kz => pw_iload2 dX0_gladAt_8 kz) ?_
  refine WQ.st (fun _ _ kz => pw_iload3 dX0_gladAt_9 kz) ?_
  refine WQ.st (fun _ _ kz => pw_iload4 dX0_gladAt_10 kz) ?_
  refine wq_o4i wX0_cellOf lX0_91 rfl dX0_gladAt_12 (cf_s96 hK.cf) (k_cellOf hK.cf hK.v3 hK.v1 b s l w) rfl (Nat.le_of_ble_eq_true rfl) (Nat.le_of_ble_eq_true rfl) (fun h12 z12 => ?_)
  subst z12
  refine WQ.st (fun _ _ kz => pw_istore6 dX0_gladAt_15 (by decide) (k := kz)) ?_
  refine WQ.st (fun _ _ kz => pw_iload5 dX0_gladAt_17 kz) ?_
  refine WQ.st (fun _ _ kz => pw_bipush (v := -20) dX0_gladAt_19 (by decide) kz) ?_
  refine WQ.br (fun _ _ ka kb => pw_icmp_lt (tgt := 46) dX0_gladAt_21 (by decide) ka kb) (fun c21 => ?_) (fun c21 => ?_)
  · rw [lt_i hbh (show (-20 : Int32).toInt = -20 from rfl)] at c21
    rw [cv_TT hK.dv hp ht hq hb hl hs hw, show rf_in s w = false from decide_eq_false (by omega)]
    refine WQ.st (fun _ _ kz => pw_ldc kX0_107 dX0_gladAt_46 kz) ?_
    refine ⟨_, _, pw_iret dX0_gladAt_48 rfl rfl rfl rfl, ?_⟩
    exact ⟨rfl, A, B, rfl, hK, FrG.rfl⟩
  · rw [lt_i hbh (show (-20 : Int32).toInt = -20 from rfl)] at c21
    refine WQ.st (fun _ _ kz => pw_iload5 dX0_gladAt_24 kz) ?_
    refine WQ.st (fun _ _ kz => pw_bipush (v := 20) dX0_gladAt_26 (by decide) kz) ?_
    refine WQ.br (fun _ _ ka kb => pw_icmp_gt (tgt := 46) dX0_gladAt_28 (by decide) ka kb) (fun c28 => ?_) (fun c28 => ?_)
    · rw [lt_i li_20 hbh] at c28
      rw [cv_TT hK.dv hp ht hq hb hl hs hw, show rf_in s w = false from decide_eq_false (by omega)]
      refine WQ.st (fun _ _ kz => pw_ldc kX0_107 dX0_gladAt_46 kz) ?_
      refine ⟨_, _, pw_iret dX0_gladAt_48 rfl rfl rfl rfl, ?_⟩
      exact ⟨rfl, A, B, rfl, hK, FrG.rfl⟩
    · rw [lt_i li_20 hbh] at c28
      rw [cv_TT hK.dv hp ht hq hb hl hs hw, show rf_in s w = true from decide_eq_true (by omega), if_pos rfl]
      refine WQ.st (fun _ _ kz => pw_iload6 dX0_gladAt_31 kz) ?_
      refine WQ.br (fun _ _ ka kb => pw_if_lt (tgt := 46) dX0_gladAt_33 (by decide) ka kb) (fun c33 => absurd c33 (by rw [lt_i (ix_n (j := (cix (asks al 7) (asks al 6) b s l w)) (by omega)) li_0]; omega)) (fun c33 => ?_)
      refine WQ.st (fun _ _ kz => pw_iload6 dX0_gladAt_36 kz) ?_
      refine WQ.st (fun _ _ kz => pw_aload0 dX0_gladAt_38 kz) ?_
      refine WQ.st (fun _ _ kz => pw_getr gX0_57 dX0_gladAt_39 (cf_s96 hK.cf) u1 kz) ?_
      refine WQ.st (fun _ _ kz => pw_len dX0_gladAt_42 u3 (by decide) kz) ?_
      refine WQ.br (fun _ _ ka kb => pw_icmp_lt (tgt := 49) dX0_gladAt_43 (by decide) ka kb) (fun c43 => ?_) (fun c43 => absurd (by rw [show Int32.ofNat n0 = nI n0 from rfl, lt_i (ix_n (j := (cix (asks al 7) (asks al 6) b s l w)) (by omega)) (ix_n (j := n0) (by omega))]; omega) c43)
      refine WQ.st (fun _ _ kz => pw_aload0 dX0_gladAt_49 kz) ?_
      refine WQ.st (fun _ _ kz => pw_getr gX0_57 dX0_gladAt_50 (cf_s96 hK.cf) u1 kz) ?_
      refine WQ.st (fun _ _ kz => pw_iload6 dX0_gladAt_53 kz) ?_
      refine WQ.st (fun _ _ kz => pw_lld (j := (cix (asks al 7) (asks al 6) b s l w)) dX0_gladAt_55 u3 (ix_n (by omega)) (by omega) kz) ?_
      refine WQ.st (fun _ _ kz => pw_lstore7 dX0_gladAt_56 (by decide) (k := kz)) ?_
      refine WQ.st (fun _ _ kz => pw_lload7 dX0_gladAt_58 kz) ?_
      refine WQ.st (fun _ _ kz => pw_bipush (v := 32) dX0_gladAt_60 (by decide) kz) ?_
      refine WQ.st (fun _ _ kz => pw_lushr dX0_gladAt_62 kz) ?_
      refine WQ.st (fun _ _ kz => pw_l2i dX0_gladAt_63 kz) ?_
      refine WQ.st (fun _ _ kz => pw_aload0 dX0_gladAt_64 kz) ?_
      refine WQ.st (fun _ _ kz => pw_geti gX0_60 dX0_gladAt_65 (cf_s96 hK.cf) kz) ?_
      rw [u5]
      refine WQ.bn (fun _ _ ka kb => pw_icmp_ne (tgt := 75) dX0_gladAt_68 (by decide) ka kb) (fun c68 => ?_) (fun c68 => ?_)
      · refine WQ.st (fun _ _ kz => pw_aload0 dX0_gladAt_75 kz) ?_
        refine WQ.st (fun _ _ kz => pw_iload1 dX0_gladAt_76 kz) ?_
        refine WQ.st (fun _ _ kz => pw_iload2 dX0_gladAt_77 kz) ?_
        refine WQ.st (fun _ _ kz => pw_iload3 dX0_gladAt_78 kz) ?_
        refine WQ.st (fun _ _ kz => pw_iload4 dX0_gladAt_79 kz) ?_
        refine wq_o4v wX0_see lX0_95 rfl dX0_gladAt_81 (cf_s96 hK.cf) (k_see hK hb _ _ _) rfl (Nat.le_of_ble_eq_true rfl) (Nat.le_of_ble_eq_true rfl) (fun h81 z81 => ?_)
        subst z81
        have fk : LwE V (pm_up A 97 (seeF (A 97) (nI b) (al (15 + 12 * q + b)) (dI w) (dI l) (sI s))) (sh + 5) (lawL al 0) := hK.se.gl.fr rfl (pm_up_ne (by omega))
        have fm : LwE V (pm_up A 97 (seeF (A 97) (nI b) (al (15 + 12 * q + b)) (dI w) (dI l) (sI s))) (sh + 7) (lawL al 1) := hK.se.ml.fr rfl (pm_up_ne (by omega))
        have hsee : ∀ i, i < 8 → pm_up A 97 (seeF (A 97) (nI b) (al (15 + 12 * q + b)) (dI w) (dI l) (sI s)) 97 i = rf_w (atm al p tm) p q b (dI w) (dI l) (sI s) i := fun i hi => by rw [pm_up_eq]; exact seeF_w w0 w1 w2 hp hq hb _ _ _ i hi
        have f7 : ∀ x, x ≠ 97 → x ≠ 98 → pm_up A 97 (seeF (A 97) (nI b) (al (15 + 12 * q + b)) (dI w) (dI l) (sI s)) x = A x := fun x h1 _ => pm_up_ne h1
        have f70 : pm_up A 97 (seeF (A 97) (nI b) (al (15 + 12 * q + b)) (dI w) (dI l) (sI s)) 97 0 = A 97 0 ∧ pm_up A 97 (seeF (A 97) (nI b) (al (15 + 12 * q + b)) (dI w) (dI l) (sI s)) 97 1 = A 97 1 ∧ pm_up A 97 (seeF (A 97) (nI b) (al (15 + 12 * q + b)) (dI w) (dI l) (sI s)) 97 2 = A 97 2 := by rw [pm_up_eq]; exact ⟨rfl, rfl, rfl⟩
        refine WQ.st (fun _ _ kz => pw_aload0 dX0_gladAt_84 kz) ?_
        refine WQ.st (fun _ _ kz => pw_getr gX0_33 dX0_gladAt_85 (cf_s96 hK.cf) (cf_p96_7 hK.cf) kz) ?_
        refine WQ.st (fun _ _ kz => pw_iconst (v := 4) dX0_gladAt_88 (by decide) kz) ?_
        refine WQ.st (fun _ _ kz => pw_ald (j := 4) dX0_gladAt_89 (cf_s97 hK.cf) rfl (by omega) kz) ?_
        rw [pm_up_eq, seeF_4]
        refine WQ.st (fun _ _ kz => pw_iload4 dX0_gladAt_90 kz) ?_
        refine WQ.st (fun _ _ kz => pw_imul dX0_gladAt_92 kz) ?_
        refine WQ.st (fun _ _ kz => pw_istore9 dX0_gladAt_93 (by decide) (k := kz)) ?_
        refine WQ.st (fun _ _ kz => pw_aload0 dX0_gladAt_95 kz) ?_
        refine WQ.st (fun _ _ kz => pw_getr gX0_63 dX0_gladAt_96 (cf_s96 hK.cf) hK.p2 kz) ?_
        refine WQ.st (fun _ _ kz => pw_getr gX0_84 dX0_gladAt_99 (sh_s0 hK.hsh) (sh_p0_5 hK.hsh) kz) ?_
        refine wq_o0i wX4_isTold lX0_99 rfl dX0_gladAt_102 (sh_s7 hK.hsh) (k_told hK.hsh.may fm (law9 hK.dv.ml)) rfl (Nat.le_of_ble_eq_true rfl) (Nat.le_of_ble_eq_true rfl) (fun h102 z102 => ?_)
        subst z102
        refine WQ.br (fun _ _ ka kb => pw_if_eq (tgt := 136) dX0_gladAt_105 (by decide) ka kb) (fun c105 => ?_) (fun c105 => ?_)
        · rw [bI_0] at c105
          have hms := Option.isNone_iff_eq_none.mp (by rw [← Option.not_isSome, c105]; rfl)
          refine WQ.st (fun _ _ kz => pw_aload0 dX0_gladAt_136 kz) ?_
          refine WQ.st (fun _ _ kz => pw_getr gX0_63 dX0_gladAt_137 (cf_s96 hK.cf) hK.p2 kz) ?_
          refine WQ.st (fun _ _ kz => pw_getr gX0_77 dX0_gladAt_140 (sh_s0 hK.hsh) (sh_p0_4 hK.hsh) kz) ?_
          refine wq_o0i wX4_isTold lX0_99 rfl dX0_gladAt_143 (sh_s5 hK.hsh) (k_told hK.hsh.glad fk (law9 hK.dv.gl)) rfl (Nat.le_of_ble_eq_true rfl) (Nat.le_of_ble_eq_true rfl) (fun h143 z143 => ?_)
          subst z143
          refine WQ.br (fun _ _ ka kb => pw_if_eq (tgt := 169) dX0_gladAt_146 (by decide) ka kb) (fun c146 => ?_) (fun c146 => ?_)
          · rw [bI_0] at c146
            have hgs := Option.isNone_iff_eq_none.mp (by rw [← Option.not_isSome, c146]; rfl)
            have hu : uv al p tm q b l s w = rf_glad (atm al p tm) (lawL al 0) p q b (dI w) (dI l) (sI s) := by
              unfold uv
              rw [show rf_may (atm al p tm) (lawL al 1) p q b (dI w) (dI l) (sI s) = true from by rw [hms]; rfl, if_pos rfl]
            refine fin _ _ _ f7 f70 ?_
            rw [hu, hgs]
            exact congrArg (· * dI w) (pm_up_ne (show 15 + 12 * q + b ≠ 87 + p by omega)).symm
          · rw [bI_n] at c146
            obtain ⟨cs, hgs⟩ := Option.isSome_iff_exists.mp c146
            refine WQ.st (fun _ _ kz => pw_aload0 dX0_gladAt_149 kz) ?_
            refine WQ.st (fun _ _ kz => pw_getr gX0_63 dX0_gladAt_150 (cf_s96 hK.cf) hK.p2 kz) ?_
            refine WQ.st (fun _ _ kz => pw_getr gX0_77 dX0_gladAt_153 (sh_s0 hK.hsh) (sh_p0_4 hK.hsh) kz) ?_
            refine WQ.st (fun _ _ kz => pw_aload0 dX0_gladAt_156 kz) ?_
            refine WQ.st (fun _ _ kz => pw_getr gX0_33 dX0_gladAt_157 (cf_s96 hK.cf) (cf_p96_7 hK.cf) kz) ?_
            refine WQ.st (fun _ _ kz => pw_aload0 dX0_gladAt_160 kz) ?_
            refine WQ.st (fun _ _ kz => pw_getr gX0_39 dX0_gladAt_161 (cf_s96 hK.cf) (cf_p96_8 hK.cf) kz) ?_
            refine wq_o2i wX4_valueOf lX0_103 rfl dX0_gladAt_164 (sh_s5 hK.hsh) (k_law hK.hsh.glad (cf_s97 hK.cf) (cf_s98 hK.cf) (by omega) (hgs ▸ fk) (hgs ▸ hK.dv.gl) (hb_gs (hK.dv.gs cs hgs)) hsee) rfl (Nat.le_of_ble_eq_true rfl) (Nat.le_of_ble_eq_true rfl) (fun h164 z164 => ?_)
            obtain ⟨R2, rfl⟩ := z164
            refine WQ.st (fun _ _ kz => pw_istore9 dX0_gladAt_167 (by decide) (k := kz)) ?_
            have hu : uv al p tm q b l s w = rf_glad (atm al p tm) (lawL al 0) p q b (dI w) (dI l) (sI s) := by
              unfold uv
              rw [show rf_may (atm al p tm) (lawL al 1) p q b (dI w) (dI l) (sI s) = true from by rw [hms]; rfl, if_pos rfl]
            refine fin _ _ _ (fun x h1 h2 => by rw [pm_up_ne h2]; exact f7 x h1 h2) (by rw [pm_up_ne (by omega)]; exact f70) ?_
            rw [hu, hgs]
            rfl
        · rw [bI_n] at c105
          obtain ⟨ms, hms⟩ := Option.isSome_iff_exists.mp c105
          refine WQ.st (fun _ _ kz => pw_aload0 dX0_gladAt_108 kz) ?_
          refine WQ.st (fun _ _ kz => pw_getr gX0_63 dX0_gladAt_109 (cf_s96 hK.cf) hK.p2 kz) ?_
          refine WQ.st (fun _ _ kz => pw_getr gX0_84 dX0_gladAt_112 (sh_s0 hK.hsh) (sh_p0_5 hK.hsh) kz) ?_
          refine WQ.st (fun _ _ kz => pw_aload0 dX0_gladAt_115 kz) ?_
          refine WQ.st (fun _ _ kz => pw_getr gX0_33 dX0_gladAt_116 (cf_s96 hK.cf) (cf_p96_7 hK.cf) kz) ?_
          refine WQ.st (fun _ _ kz => pw_aload0 dX0_gladAt_119 kz) ?_
          refine WQ.st (fun _ _ kz => pw_getr gX0_39 dX0_gladAt_120 (cf_s96 hK.cf) (cf_p96_8 hK.cf) kz) ?_
          refine wq_o2i wX4_valueOf lX0_103 rfl dX0_gladAt_123 (sh_s7 hK.hsh) (k_law hK.hsh.may (cf_s97 hK.cf) (cf_s98 hK.cf) (by omega) (hms ▸ fm) (hms ▸ hK.dv.ml) (hb_ts (hK.dv.ms ms hms)) hsee) rfl (Nat.le_of_ble_eq_true rfl) (Nat.le_of_ble_eq_true rfl) (fun h123 z123 => ?_)
          obtain ⟨R1, rfl⟩ := z123
          obtain ⟨xm, hxm, em⟩ := (hK.dv.ms ms hms).val _ (rw_sml hK.dv hp ht hq hb hl hs hw)
          have em := (rkv_val em).2
          refine WQ.bn (fun _ _ ka kb => pw_if_ne (tgt := 136) dX0_gladAt_126 (by decide) ka kb) (fun c126 => ?_) (fun c126 => ?_)
          · rw [em] at c126
            have fk : LwE V (pm_up (pm_up A 97 (seeF (A 97) (nI b) (al (15 + 12 * q + b)) (dI w) (dI l) (sI s))) 98 R1) (sh + 5) (lawL al 0) := fk.fr rfl (pm_up_ne (by omega))
            have hsee : ∀ i, i < 8 → pm_up (pm_up A 97 (seeF (A 97) (nI b) (al (15 + 12 * q + b)) (dI w) (dI l) (sI s))) 98 R1 97 i = rf_w (atm al p tm) p q b (dI w) (dI l) (sI s) i := fun i hi => by rw [pm_up_ne (by omega)]; exact hsee i hi
            have f7 : ∀ x, x ≠ 97 → x ≠ 98 → pm_up (pm_up A 97 (seeF (A 97) (nI b) (al (15 + 12 * q + b)) (dI w) (dI l) (sI s))) 98 R1 x = A x := fun x h1 h2 => by rw [pm_up_ne h2]; exact f7 x h1 h2
            have f70 : pm_up (pm_up A 97 (seeF (A 97) (nI b) (al (15 + 12 * q + b)) (dI w) (dI l) (sI s))) 98 R1 97 0 = A 97 0 ∧ pm_up (pm_up A 97 (seeF (A 97) (nI b) (al (15 + 12 * q + b)) (dI w) (dI l) (sI s))) 98 R1 97 1 = A 97 1 ∧ pm_up (pm_up A 97 (seeF (A 97) (nI b) (al (15 + 12 * q + b)) (dI w) (dI l) (sI s))) 98 R1 97 2 = A 97 2 := by rw [pm_up_ne (by omega)]; exact f70
            refine WQ.st (fun _ _ kz => pw_aload0 dX0_gladAt_136 kz) ?_
            refine WQ.st (fun _ _ kz => pw_getr gX0_63 dX0_gladAt_137 (cf_s96 hK.cf) hK.p2 kz) ?_
            refine WQ.st (fun _ _ kz => pw_getr gX0_77 dX0_gladAt_140 (sh_s0 hK.hsh) (sh_p0_4 hK.hsh) kz) ?_
            refine wq_o0i wX4_isTold lX0_99 rfl dX0_gladAt_143 (sh_s5 hK.hsh) (k_told hK.hsh.glad fk (law9 hK.dv.gl)) rfl (Nat.le_of_ble_eq_true rfl) (Nat.le_of_ble_eq_true rfl) (fun h143 z143 => ?_)
            subst z143
            refine WQ.br (fun _ _ ka kb => pw_if_eq (tgt := 169) dX0_gladAt_146 (by decide) ka kb) (fun c146 => ?_) (fun c146 => ?_)
            · rw [bI_0] at c146
              have hgs := Option.isNone_iff_eq_none.mp (by rw [← Option.not_isSome, c146]; rfl)
              have hu : uv al p tm q b l s w = rf_glad (atm al p tm) (lawL al 0) p q b (dI w) (dI l) (sI s) := by
                unfold uv
                rw [show rf_may (atm al p tm) (lawL al 1) p q b (dI w) (dI l) (sI s) = true from by rw [hms]; exact decide_eq_true (by rw [em]; exact hxm.resolve_left c126), if_pos rfl]
              refine fin _ _ _ f7 f70 ?_
              rw [hu, hgs]
              exact congrArg (· * dI w) (pm_up_ne (show 15 + 12 * q + b ≠ 87 + p by omega)).symm
            · rw [bI_n] at c146
              obtain ⟨cs, hgs⟩ := Option.isSome_iff_exists.mp c146
              refine WQ.st (fun _ _ kz => pw_aload0 dX0_gladAt_149 kz) ?_
              refine WQ.st (fun _ _ kz => pw_getr gX0_63 dX0_gladAt_150 (cf_s96 hK.cf) hK.p2 kz) ?_
              refine WQ.st (fun _ _ kz => pw_getr gX0_77 dX0_gladAt_153 (sh_s0 hK.hsh) (sh_p0_4 hK.hsh) kz) ?_
              refine WQ.st (fun _ _ kz => pw_aload0 dX0_gladAt_156 kz) ?_
              refine WQ.st (fun _ _ kz => pw_getr gX0_33 dX0_gladAt_157 (cf_s96 hK.cf) (cf_p96_7 hK.cf) kz) ?_
              refine WQ.st (fun _ _ kz => pw_aload0 dX0_gladAt_160 kz) ?_
              refine WQ.st (fun _ _ kz => pw_getr gX0_39 dX0_gladAt_161 (cf_s96 hK.cf) (cf_p96_8 hK.cf) kz) ?_
              refine wq_o2i wX4_valueOf lX0_103 rfl dX0_gladAt_164 (sh_s5 hK.hsh) (k_law hK.hsh.glad (cf_s97 hK.cf) (cf_s98 hK.cf) (by omega) (hgs ▸ fk) (hgs ▸ hK.dv.gl) (hb_gs (hK.dv.gs cs hgs)) hsee) rfl (Nat.le_of_ble_eq_true rfl) (Nat.le_of_ble_eq_true rfl) (fun h164 z164 => ?_)
              obtain ⟨R2, rfl⟩ := z164
              refine WQ.st (fun _ _ kz => pw_istore9 dX0_gladAt_167 (by decide) (k := kz)) ?_
              have hu : uv al p tm q b l s w = rf_glad (atm al p tm) (lawL al 0) p q b (dI w) (dI l) (sI s) := by
                unfold uv
                rw [show rf_may (atm al p tm) (lawL al 1) p q b (dI w) (dI l) (sI s) = true from by rw [hms]; exact decide_eq_true (by rw [em]; exact hxm.resolve_left c126), if_pos rfl]
              refine fin _ _ _ (fun x h1 h2 => by rw [pm_up_ne h2]; exact f7 x h1 h2) (by rw [pm_up_ne (by omega)]; exact f70) ?_
              rw [hu, hgs]
              rfl
          · refine WQ.st (fun _ _ kz => pw_ldc kX0_107 dX0_gladAt_129 kz) ?_
            refine WQ.st (fun _ _ kz => pw_istore9 dX0_gladAt_131 (by decide) (k := kz)) ?_
            refine WQ.st (fun _ _ kz => pw_goto (tgt := 169) dX0_gladAt_133 (by decide) kz) ?_
            rw [em] at c126
            refine fin _ _ _ (fun x h1 h2 => by rw [pm_up_ne h2]; exact f7 x h1 h2) (by rw [pm_up_ne (by omega)]; exact f70) ?_
            have hn : rf_may (atm al p tm) (lawL al 1) p q b (dI w) (dI l) (sI s) = false := by
              rw [hms]
              exact decide_eq_false (by rw [em, c126]; decide)
            unfold uv
            rw [hn]
            rfl
      · refine WQ.st (fun _ _ kz => pw_lload7 dX0_gladAt_71 kz) ?_
        refine WQ.st (fun _ _ kz => pw_l2i dX0_gladAt_73 kz) ?_
        refine ⟨_, _, pw_iret dX0_gladAt_74 rfl rfl rfl rfl, ?_⟩
        exact ⟨rI ((hK.memo' u2 u6 u7).1 b l s w hb hl hs hw c68), A, B, rfl, hK, FrG.rfl⟩
set_option maxRecDepth 20000 in
theorem l_comingDraw {G : gT} {d : Nat} {S : sS} {V : sV} {P : sP} {Q : sP} {t sl : Nat} {al : Nat → Int32} {sh ls p tm q : Nat} {A0 : sV} {B0 : sB} {b l s : Nat} (hb : b < 12) (hl : l < 5) (hs : s < 41) : ∀ (c w : Nat) (A : sV) (B : sB) (f : Nat) (m : Int32) (x7 : Option Value), w + c = 5 → okv m → KB S V P A B Q t al sh ls p tm q → FrG A0 B0 A B → rf_nf ((TT (atm al p tm) p q) b l s) f m w c = rf_na ((TT (atm al p tm) p q) b l s) → WQ G (d + 3) mX0_comingDraw 12 [some (.ref 96), some (.int (nI b)), some (.int (sI s)), some (.int (dI l)), some (.int (cv m)), some (.int (nd f)), some (.int (dI w)), x7] [] (t, sl, gh S V P A B Q) (fun r h' => r = some (.int (nd (rf_na ((TT (atm al p tm) p q) b l s)))) ∧ ∃ (A' : sV) (B' : sB), h' = (t, sl, gh S V P A' B' Q) ∧ KB S V P A' B' Q t al sh ls p tm q ∧ FrG A0 B0 A' B') := by
  intro c
  induction c with
  | zero =>
    intro w A B f m x7 hw hm hK hF hr
    have hw : w = 5 := hw
    subst hw
    refine WQ.st (fun _ _ kz => pw_iload6 dX0_comingDraw_12 kz) ?_
    refine WQ.st (fun _ _ kz => pw_iconst (v := 2) dX0_comingDraw_14 (by decide) kz) ?_
    refine WQ.br (fun _ _ ka kb => pw_icmp_gt (tgt := 50) dX0_comingDraw_15 (by decide) ka kb) (fun c15 => ?_) (fun c15 => absurd (by decide) c15)
    refine WQ.st (fun _ _ kz => pw_iload5 dX0_comingDraw_50 kz) ?_
    refine ⟨_, _, pw_iret dX0_comingDraw_52 rfl rfl rfl rfl, ?_⟩
    exact ⟨by rw [← hr]; rfl, A, B, rfl, hK, hF⟩
  | succ c ih =>
    intro w A B f m x7 hw hm hK hF hr
    obtain ⟨hp, ht, hq⟩ := hK.r
    refine WQ.st (fun _ _ kz => pw_iload6 dX0_comingDraw_12 kz) ?_
    refine WQ.st (fun _ _ kz => pw_iconst (v := 2) dX0_comingDraw_14 (by decide) kz) ?_
    refine WQ.br (fun _ _ ka kb => pw_icmp_gt (tgt := 50) dX0_comingDraw_15 (by decide) ka kb) (fun c15 => absurd c15 (by rw [lt_i (show (2 : Int32).toInt = 2 from rfl) (dI_t (q := w) (by omega))]; omega)) (fun c15 => ?_)
    refine WQ.st (fun _ _ kz => pw_aload0 dX0_comingDraw_18 kz) ?_
    refine WQ.st (fun _ _ kz => pw_iload1 dX0_comingDraw_19 kz) ?_
    refine WQ.st (fun _ _ kz => pw_iload2 dX0_comingDraw_20 kz) ?_
    refine WQ.st (fun _ _ kz => pw_iload3 dX0_comingDraw_21 kz) ?_
    refine WQ.st (fun _ _ kz => pw_iload6 dX0_comingDraw_22 kz) ?_
    refine wq_o4i wX0_gladAt lX0_113 rfl dX0_comingDraw_24 (cf_s96 hK.cf) (k_gladAt hK hb hl hs (w := w) (by omega)) rfl (Nat.le_of_ble_eq_true rfl) (Nat.le_of_ble_eq_true rfl) (fun h24 z24 => ?_)
    obtain ⟨A1, B1, rfl, hK1, hF1⟩ := z24
    refine WQ.st (fun _ _ kz => pw_istore7 dX0_comingDraw_27 (by decide) (k := kz)) ?_
    refine WQ.st (fun _ _ kz => pw_iload7 dX0_comingDraw_29 kz) ?_
    refine WQ.st (fun _ _ kz => pw_iload4 dX0_comingDraw_31 kz) ?_
    refine WQ.br (fun _ _ ka kb => pw_icmp_le (tgt := 44) dX0_comingDraw_33 (by decide) ka kb) (fun c33 => ?_) (fun c33 => ?_)
    · rw [cv_le (okv_sml (TT_ok hK.dv hp ht hq hb hl hs (by omega))) hm] at c33
      refine WQ.st (fun _ _ kz => pw_iinc6 (v := 1) dX0_comingDraw_44 (by decide) (by decide) (k := kz)) ?_
      refine WQ.st (fun _ _ kz => pw_goto (tgt := 12) dX0_comingDraw_47 (by decide) kz) ?_
      rw [dI_1]
      exact ih (w + 1) A1 B1 f m _ (by omega) hm hK1 (hF.tr hF1) (by rw [← hr, rf_nf, if_neg (Int32.not_lt.mpr c33)])
    · rw [cv_le (okv_sml (TT_ok hK.dv hp ht hq hb hl hs (by omega))) hm] at c33
      refine WQ.st (fun _ _ kz => pw_iload7 dX0_comingDraw_36 kz) ?_
      refine WQ.st (fun _ _ kz => pw_istore4 dX0_comingDraw_38 (by decide) (k := kz)) ?_
      refine WQ.st (fun _ _ kz => pw_iload6 dX0_comingDraw_40 kz) ?_
      refine WQ.st (fun _ _ kz => pw_istore5 dX0_comingDraw_42 (by decide) (k := kz)) ?_
      refine WQ.st (fun _ _ kz => pw_iinc6 (v := 1) dX0_comingDraw_44 (by decide) (by decide) (k := kz)) ?_
      refine WQ.st (fun _ _ kz => pw_goto (tgt := 12) dX0_comingDraw_47 (by decide) kz) ?_
      rw [dI_1, ← nd_lt (show w < 5 by omega)]
      exact ih (w + 1) A1 B1 w _ _ (by omega) (okv_sml (TT_ok hK.dv hp ht hq hb hl hs (by omega))) hK1 (hF.tr hF1) (by rw [← hr, rf_nf, if_pos (Int32.not_le.mp c33)])
set_option maxRecDepth 20000 in
theorem k_comingDraw {G : gT} {d : Nat} {S : sS} {V : sV} {P : sP} {A : sV} {B : sB} {Q : sP} {t sl : Nat} {al : Nat → Int32} {sh ls p tm q : Nat} (hK : KB S V P A B Q t al sh ls p tm q) {b l s : Nat} (hb : b < 12) (hl : l < 5) (hs : s < 41) : WQ G (d + 3) mX0_comingDraw 0 [some (.ref 96), some (.int (nI b)), some (.int (sI s)), some (.int (dI l)), none, none, none, none] [] (t, sl, gh S V P A B Q) (fun r h' => r = some (.int (nd (rf_na ((TT (atm al p tm) p q) b l s)))) ∧ ∃ (A' : sV) (B' : sB), h' = (t, sl, gh S V P A' B' Q) ∧ KB S V P A' B' Q t al sh ls p tm q ∧ FrG A B A' B') := by
  refine WQ.st (fun _ _ kz => pw_ldc kX0_107 dX0_comingDraw_0 kz) ?_
  refine WQ.st (fun _ _ kz => pw_istore4 dX0_comingDraw_2 (by decide) (k := kz)) ?_
  refine WQ.st (fun _ _ kz => pw_bipush (v := 9) dX0_comingDraw_4 (by decide) kz) ?_
  refine WQ.st (fun _ _ kz => pw_istore5 dX0_comingDraw_6 (by decide) (k := kz)) ?_
  refine WQ.st (fun _ _ kz => pw_bipush (v := -2) dX0_comingDraw_8 (by decide) kz) ?_
  refine WQ.st (fun _ _ kz => pw_istore6 dX0_comingDraw_10 (by decide) (k := kz)) ?_
  exact l_comingDraw hb hl hs 5 0 A B 9 (-268435456) none rfl (Or.inl rfl) hK FrG.rfl rfl
