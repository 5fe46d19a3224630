set_option maxRecDepth 20000 in
theorem k_gather {G : gT} {d : Nat} {S : sS} {V : sV} {P : sP} {A : sV} {B : sB} {Q : sP} {t sl : Nat} {al : Nat → Int32} {W : WT} {sh ls : Nat} (hI : CI S V P A B Q t al W sh ls) (hls : ls + 10 < 2000000000) {p tm set : Nat} (hp : p < 5) (htm : tm < 10) (hat : atm al p tm = al) (hs0 : set ≠ 0) (hs16 : set < 16) (hsN : set < 2 ^ nP al) {Es : Nat → Nat → Int32} (hEb : ∀ x, x < set → ∀ s, s < 41 → bnd 48 (Es x s)) (hE1 : ∀ x, x < set → ∀ s, s < 41 → A (118 + x) s = cv (Es x s)) (h7 : V 116 7 = nI p) (h8 : V 116 8 = nI tm) : WQ G (d + 6) mX5_gather 0 [some (.ref 116), some (.int (nI set)), none, none] [] (t, sl, gh S V P A B Q) (fun r h' => r = none ∧ ∃ (t' sl' ls' : Nat) (S' : sS) (V' : sV) (P' : sP) (A' : sV) (B' : sB) (Q' : sP), h' = (t', sl', gh S' V' P' A' B' Q') ∧ CI S' V' P' A' B' Q' t' al W sh ls' ∧ ls' ≤ ls + 4 ∧ FrO S V P A B t S' V' P' A' B' t' ∧ (∀ k1 k2, Room2 S Q t sl k1 k2 → Room2 S' Q' t' sl' k1 k2) ∧ (V' 116 7 = nI p ∧ V' 116 8 = nI tm) ∧ (∀ i, i < 16 → i ≠ set → A' (118 + i) = A (118 + i)) ∧ ∀ s, s < 41 → A' (118 + set) s = cv (GR (thT al p) Es set s)) := by
  have hE := hI.de
  have hC := hE.dc.ka.cf
  have hD := hE.dc.ka.dv
  have hSe := hE.dc.ka.se
  have hA := hI.av
  refine WQ.st (fun _ _ kz => pw_aload0 dX5_gather_0 kz) ?_
  refine WQ.st (fun _ _ kz => pw_getr gX5_18 dX5_gather_1 (cf_s116 hC) (cf_p116_3 hC) kz) ?_
  refine WQ.st (fun _ _ kz => pw_iload1 dX5_gather_4 kz) ?_
  refine WQ.st (fun _ _ kz => pw_qldr (j := set) dX5_gather_5 (cf_s117 hC) (by decide) (ix_m rfl (by omega)) (by omega) (hI.re.oq set (by omega)) kz) ?_
  refine WQ.st (fun _ _ kz => pw_ldc kX5_9 dX5_gather_6 kz) ?_
  refine WQ.st (fun _ _ kz => pw_s2v wJ7_fill_53178 lX5_50 dX5_gather_8 (c_filli (cf_e hC (by omega)) (by omega) _) rfl (Nat.le_of_ble_eq_true rfl) (Nat.le_of_ble_eq_true rfl) kz) ?_
  refine WQ.st (fun _ _ kz => pw_iconst (v := 0) dX5_gather_11 (by decide) kz) ?_
  refine WQ.st (fun _ _ kz => pw_istore2 dX5_gather_12 (by decide) (k := kz)) ?_
  obtain ⟨i1, o1⟩ := hI.ord (V' := V) (A' := pm_up A (118 + set) (fillF (-2147483648) 41 (A (118 + set)))) (fun _ _ => rfl) (fun x hx => pm_up_ne (by omega))
  rw [show (0 : Int32) = nI 0 from rfl]
  exact q_gaL hp htm hat (by omega) hs0 hs16 hsN hEb hE1 hD hI.de.kv 4 0 none t sl ls S V P _ B Q (by omega) i1 (by omega) o1 (fun _ _ h => h) h7 h8 (fun i _ hn => pm_up_ne (by omega)) (fun s hs => by rw [pm_up_eq, fillF_i hs]; rfl)
set_option maxRecDepth 20000 in
theorem q_lsL {G : gT} {d : Nat} {S0 : sS} {V0 : sV} {P0 : sP} {A0 : sV} {B0 : sB} {Q0 : sP} {t0 sl0 : Nat} {al : Nat → Int32} {W : WT} {sh ls0 : Nat} {p tm gg : Nat} {x1 : Int32} (hp : p < 5) (htm : tm < 10) (hat : atm al p tm = al) (hg : gg < 41) (hls : ls0 + 1000 < 2000000000) (hD : DV al) (hK : KV (al 2).toInt (fun k => al (75 + k))) : ∀ (m k b : Nat) (y : Option Value) (t sl ls : Nat) (S : sS) (V : sV) (P : sP) (A : sV) (B : sB) (Q : sP) (Es : Nat → Nat → Int32), k + m = 2 ^ nP al → 1 ≤ k ∧ b < 16 → CI S V P A B Q t al W sh ls → ls ≤ ls0 + 4 * k → FrO S0 V0 P0 A0 B0 t0 S V P A B t → (∀ k1 k2, Room2 S0 Q0 t0 sl0 k1 k2 → Room2 S Q t sl k1 k2) → V 116 7 = nI p → V 116 8 = nI tm → GRI (thT al p) (stN al p) k Es → (∀ x, x < k → ∀ s, s < 41 → A (118 + x) s = cv (Es x s)) → WQ G (d + 8) mX5_largestSet 30 [some (.ref 116), some (.int x1), some (.ref 16), some (.int (sI gg)), some (.int (nI b)), some (.int (nI (2 ^ nP al))), some (.int (nI k)), y] [] (t, sl, gh S V P A B Q) (fun r h' => r = some (.int (mpL (ogT al p (sI gg)) m k (nI b))) ∧ ∃ (t' sl' ls' : Nat) (S' : sS) (V' : sV) (P' : sP) (A' : sV) (B' : sB) (Q' : sP), h' = (t', sl', gh S' V' P' A' B' Q') ∧ CI S' V' P' A' B' Q' t' al W sh ls' ∧ ls' ≤ ls0 + 1000 ∧ FrO S0 V0 P0 A0 B0 t0 S' V' P' A' B' t' ∧ ∀ k1 k2, Room2 S0 Q0 t0 sl0 k1 k2 → Room2 S' Q' t' sl' k1 k2) := by
  have hN4 : nP al ≤ 4 := by have := hD.n4; unfold nP; omega
  have hT := th_b9 hD hK hp
  have h16 := pow_N hN4
  have hs0 := (hK.stE hp).2
  intro m
  induction m with
  | zero =>
    intro k b y t sl ls S V P A B Q Es hk hb hI hl hO hr h7 h8 hG hE1
    have hC := hI.de.dc.ka.cf
    refine WQ.st (fun _ _ kz => pw_iload6 dX5_largestSet_30 kz) ?_
    refine WQ.st (fun _ _ kz => pw_iload5 dX5_largestSet_32 kz) ?_
    refine WQ.br (fun _ _ ka kb => pw_icmp_ge (tgt := 94) dX5_largestSet_34 (by decide) ka kb) (fun c34 => ?_) (fun c34 => absurd (by rw [le_i (ix_n (by omega)) (ix_n (by omega))]; omega) c34)
    refine WQ.st (fun _ _ kz => pw_iload4 dX5_largestSet_94 kz) ?_
    refine ⟨_, _, pw_iret dX5_largestSet_96 rfl rfl rfl rfl, ?_⟩
    exact ⟨rfl, t, sl, ls, S, V, P, A, B, Q, rfl, hI, by omega, hO, hr⟩
  | succ m ih =>
    intro k b y t sl ls S V P A B Q Es hk hb hI hl hO hr h7 h8 hG hE1
    have hC := hI.de.dc.ka.cf
    refine WQ.st (fun _ _ kz => pw_iload6 dX5_largestSet_30 kz) ?_
    refine WQ.st (fun _ _ kz => pw_iload5 dX5_largestSet_32 kz) ?_
    refine WQ.br (fun _ _ ka kb => pw_icmp_ge (tgt := 94) dX5_largestSet_34 (by decide) ka kb) (fun c34 => absurd c34 (by rw [le_i (ix_n (by omega)) (ix_n (by omega))]; omega)) (fun c34 => ?_)
    refine WQ.st (fun _ _ kz => pw_aload0 dX5_largestSet_37 kz) ?_
    refine WQ.st (fun _ _ kz => pw_iload6 dX5_largestSet_38 kz) ?_
    refine wq_o1v wX5_gather lX5_106 rfl dX5_largestSet_40 (cf_s116 hC) (k_gather hI (by omega) hp htm hat (show k ≠ 0 by omega) (by omega) (by omega) (Es := Es) (fun x hx s hs => (hG.bnd hN4 hT (by omega) (crd x) x hx rfl s hs).up (by have := crd_4 x (by omega); omega)) hE1 h7 h8) rfl (Nat.le_of_ble_eq_true rfl) (Nat.le_of_ble_eq_true rfl) (fun h40 z40 => ?_)
    obtain ⟨t8, sl8, ls8, S8, V8, P8, A8, B8, Q8, rfl, i8, l8, o8, r8, ⟨s7, s8⟩, e8, g8⟩ := z40
    have hC := i8.de.dc.ka.cf
    have hG8 : GRI (thT al p) (stN al p) (k + 1) (fun x => if x = k then GR (thT al p) Es k else Es x) := by
      refine ⟨fun t ht => by show (if 0 = k then _ else Es 0) t = _; rw [if_neg (by omega)]; exact hG.1 t ht, fun set h0 hs t ht => ?_⟩
      have er : ∀ j, j < 4 → inB set j = true → (fun x => if x = k then GR (thT al p) Es k else Es x) (rmB set j) = Es (rmB set j) := fun j _ hb => if_neg (by have := rmB_lt hb; omega)
      have eg : GR (thT al p) (fun x => if x = k then GR (thT al p) Es k else Es x) set t = GR (thT al p) Es set t := mfo_cong 4 (fun j hj => by
        by_cases hb : inB set j = true
        · rw [if_pos hb, if_pos hb, er j hj hb]
        · rw [if_neg hb, if_neg hb])
      rw [eg]
      show (if set = k then GR (thT al p) Es k else Es set) t = _
      by_cases c : set = k
      · rw [if_pos c, c]
      · rw [if_neg c]
        exact hG.2 set h0 (by omega) t ht
    have hE8 : ∀ x, x < k + 1 → ∀ s, s < 41 → A8 (118 + x) s = cv ((fun x => if x = k then GR (thT al p) Es k else Es x) x s) := fun x hx s hs => by
      show _ = cv ((if x = k then GR (thT al p) Es k else Es x) s)
      by_cases c : x = k
      · rw [if_pos c, c]
        exact g8 s hs
      · rw [if_neg c, e8 x (by omega) c]
        exact hE1 x (by omega) s hs
    have hb8 : ∀ s, s < 41 → bnd 48 ((fun x => if x = k then GR (thT al p) Es k else Es x) k s) := fun s hs => (hG8.bnd hN4 hT (by omega) (crd k) k (by omega) rfl s hs).up (by have := crd_4 k (by omega); omega)
    have hcan := hG8.can hN4 hT (fun s _ => rf_e_bnd (sI gg) s) hs0 (by omega) (show k < k + 1 by omega)
    have hmb : bnd 48 (mfo (fun f => ob ((fun x => if x = k then GR (thT al p) Es k else Es x) k f) (rf_e (sI gg) f)) 41) := mfo_bnd (fun f hf => ob_bnd (hb8 f hf) (rf_e_bnd _ f) (by omega))
    refine WQ.st (fun _ _ kz => pw_aload0 dX5_largestSet_43 kz) ?_
    refine WQ.st (fun _ _ kz => pw_getr gX5_18 dX5_largestSet_44 (cf_s116 hC) (cf_p116_3 hC) kz) ?_
    refine WQ.st (fun _ _ kz => pw_iload6 dX5_largestSet_47 kz) ?_
    refine WQ.st (fun _ _ kz => pw_qldr (j := k) dX5_largestSet_49 (cf_s117 hC) (by decide) (ix_m rfl (by omega)) (by omega) (i8.re.oq k (by omega)) kz) ?_
    refine WQ.st (fun _ _ kz => pw_iload3 dX5_largestSet_50 kz) ?_
    refine wq_s2i wX5_mostFrom lX5_67 dX5_largestSet_51 (k_omost (cf_e hC (by omega)) hg hb8 (hE8 k (by omega))) rfl (Nat.le_of_ble_eq_true rfl) (Nat.le_of_ble_eq_true rfl) (fun h51 z51 => ?_)
    subst z51
    refine WQ.st (fun _ _ kz => pw_ldc kX5_9 dX5_largestSet_54 kz) ?_
    refine WQ.br (fun _ _ ka kb => pw_icmp_eq (tgt := 63) dX5_largestSet_56 (by decide) ka kb) (fun c56 => ?_) (fun c56 => ?_)
    · have c56 := (cv_min hmb (by omega)).mp c56
      have hno : ogT al p (sI gg) k = -268435456 := Decidable.byContradiction (fun h => (hcan.mpr h) c56)
      refine WQ.st (fun _ _ kz => pw_iconst (v := 0) dX5_largestSet_63 (by decide) kz) ?_
      refine WQ.st (fun _ _ kz => pw_istore7 dX5_largestSet_64 (by decide) (k := kz)) ?_
      refine WQ.st (fun _ _ kz => pw_iload7 dX5_largestSet_66 kz) ?_
      refine WQ.br (fun _ _ ka kb => pw_if_eq (tgt := 88) dX5_largestSet_68 (by decide) ka kb) (fun c68 => ?_) (fun c68 => absurd (by decide) c68)
      have eM : mpL (ogT al p (sI gg)) (m + 1) k (nI b) = mpL (ogT al p (sI gg)) m (k + 1) (nI b) := by
        show (if _ then _ else _) = _
        rw [if_neg (fun h => h.1 hno)]
      rw [eM]
      have kk := fun y => ih (k + 1) (b) y _ _ _ _ _ _ _ _ _ _ (by omega) (by omega) i8 (by omega) (hO.tr o8) (fun k1 k2 h => r8 _ _ (hr k1 k2 h)) s7 s8 hG8 hE8
      refine WQ.st (fun _ _ kz => pw_iinc6 (v := 1) dX5_largestSet_88 (by decide) (by decide) (k := kz)) ?_
      refine WQ.st (fun _ _ kz => pw_goto (tgt := 30) dX5_largestSet_91 (by decide) kz) ?_
      rw [nI_1]
      exact kk _
    · have hyes : ogT al p (sI gg) k ≠ -268435456 := hcan.mp (fun h => c56 ((cv_min hmb (by omega)).mpr h))
      refine WQ.st (fun _ _ kz => pw_iconst (v := 1) dX5_largestSet_59 (by decide) kz) ?_
      refine WQ.st (fun _ _ kz => pw_goto (tgt := 64) dX5_largestSet_60 (by decide) kz) ?_
      refine WQ.st (fun _ _ kz => pw_istore7 dX5_largestSet_64 (by decide) (k := kz)) ?_
      refine WQ.st (fun _ _ kz => pw_iload7 dX5_largestSet_66 kz) ?_
      refine WQ.br (fun _ _ ka kb => pw_if_eq (tgt := 88) dX5_largestSet_68 (by decide) ka kb) (fun c68 => absurd c68 (by decide)) (fun c68 => ?_)
      refine WQ.st (fun _ _ kz => pw_iload6 dX5_largestSet_71 kz) ?_
      refine wq_s1i wJ6_bitCount_0f7a4 lX5_110 dX5_largestSet_73 (k_bitCount _) rfl (Nat.le_of_ble_eq_true rfl) (Nat.le_of_ble_eq_true rfl) (fun h73 z73 => ?_)
      subst z73
      rw [bc_ok k (by omega)]
      refine WQ.st (fun _ _ kz => pw_iload4 dX5_largestSet_76 kz) ?_
      refine wq_s1i wJ6_bitCount_0f7a4 lX5_110 dX5_largestSet_78 (k_bitCount _) rfl (Nat.le_of_ble_eq_true rfl) (Nat.le_of_ble_eq_true rfl) (fun h78 z78 => ?_)
      subst z78
      rw [bc_ok b (by omega)]
      refine WQ.br (fun _ _ ka kb => pw_icmp_le (tgt := 88) dX5_largestSet_81 (by decide) ka kb) (fun c81 => ?_) (fun c81 => ?_)
      · have eM : mpL (ogT al p (sI gg)) (m + 1) k (nI b) = mpL (ogT al p (sI gg)) m (k + 1) (nI b) := by
          show (if _ then _ else _) = _
          rw [if_neg (fun h => absurd h.2 (Int32.not_lt.mpr c81))]
        rw [eM]
        have kk := fun y => ih (k + 1) (b) y _ _ _ _ _ _ _ _ _ _ (by omega) (by omega) i8 (by omega) (hO.tr o8) (fun k1 k2 h => r8 _ _ (hr k1 k2 h)) s7 s8 hG8 hE8
        skip
        refine WQ.st (fun _ _ kz => pw_iinc6 (v := 1) dX5_largestSet_88 (by decide) (by decide) (k := kz)) ?_
        refine WQ.st (fun _ _ kz => pw_goto (tgt := 30) dX5_largestSet_91 (by decide) kz) ?_
        rw [nI_1]
        exact kk _
      · have eM : mpL (ogT al p (sI gg)) (m + 1) k (nI b) = mpL (ogT al p (sI gg)) m (k + 1) (nI k) := by
          show (if _ then _ else _) = _
          rw [if_pos ⟨hyes, Int32.not_le.mp c81⟩]
        rw [eM]
        have kk := fun y => ih (k + 1) (k) y _ _ _ _ _ _ _ _ _ _ (by omega) (by omega) i8 (by omega) (hO.tr o8) (fun k1 k2 h => r8 _ _ (hr k1 k2 h)) s7 s8 hG8 hE8
        refine WQ.st (fun _ _ kz => pw_iload6 dX5_largestSet_84 kz) ?_
        refine WQ.st (fun _ _ kz => pw_istore4 dX5_largestSet_86 (by decide) (k := kz)) ?_
        skip
        refine WQ.st (fun _ _ kz => pw_iinc6 (v := 1) dX5_largestSet_88 (by decide) (by decide) (k := kz)) ?_
        refine WQ.st (fun _ _ kz => pw_goto (tgt := 30) dX5_largestSet_91 (by decide) kz) ?_
        rw [nI_1]
        exact kk _
set_option maxRecDepth 20000 in
theorem k_largestSet {G : gT} {d : Nat} {S : sS} {V : sV} {P : sP} {A : sV} {B : sB} {Q : sP} {t sl : Nat} {al : Nat → Int32} {W : WT} {sh ls : Nat} (hI : CI S V P A B Q t al W sh ls) (hls : ls + 1000 < 2000000000) {p gg : Nat} (hp : p < 5) (hg : gg < 41) : WQ G (d + 8) mX5_largestSet 0 [some (.ref 116), some (.int (nI p)), some (.ref 16), some (.int (sI gg)), none, none, none, none] [] (t, sl, gh S V P A B Q) (fun r h' => r = some (.int (mpL (ogT al p (sI gg)) (2 ^ nP al - 1) 1 0)) ∧ ∃ (t' sl' ls' : Nat) (S' : sS) (V' : sV) (P' : sP) (A' : sV) (B' : sB) (Q' : sP), h' = (t', sl', gh S' V' P' A' B' Q') ∧ CI S' V' P' A' B' Q' t' al W sh ls' ∧ ls' ≤ ls + 1000 ∧ FrO S V P A B t S' V' P' A' B' t' ∧ ∀ k1 k2, Room2 S Q t sl k1 k2 → Room2 S' Q' t' sl' k1 k2) := by
  have hE := hI.de
  have hC := hE.dc.ka.cf
  have hD := hE.dc.ka.dv
  have hSe := hE.dc.ka.se
  have hA := hI.av
  have hp5 := hD.p5
  have hn4 := hD.n4
  obtain ⟨tm, ht, etm, hat⟩ := hE.kv.tmE hp
  have hsa := hE.dc.ka.sa
  have hN4 : nP al ≤ 4 := by unfold nP; omega
  refine WQ.st (fun _ _ kz => pw_aload0 dX5_largestSet_0 kz) ?_
  refine WQ.st (fun _ _ kz => pw_iload1 dX5_largestSet_1 kz) ?_
  refine WQ.st (fun _ _ kz => pw_aload2 dX5_largestSet_2 kz) ?_
  refine wq_o2v wX5_begin lX5_59 rfl dX5_largestSet_3 (cf_s116 hC) (k_obegin hE hI.re.oq hp) rfl (Nat.le_of_ble_eq_true rfl) (Nat.le_of_ble_eq_true rfl) (fun h3 z3 => ?_)
  subst z3
  refine WQ.st (fun _ _ kz => pw_iconst (v := 0) dX5_largestSet_6 (by decide) kz) ?_
  refine WQ.st (fun _ _ kz => pw_istore4 dX5_largestSet_7 (by decide) (k := kz)) ?_
  refine WQ.st (fun _ _ kz => pw_iconst (v := 1) dX5_largestSet_9 (by decide) kz) ?_
  refine WQ.st (fun _ _ kz => pw_aload0 dX5_largestSet_10 kz) ?_
  refine WQ.st (fun _ _ kz => pw_getr gX5_37 dX5_largestSet_11 (cf_s116 hC) (cf_p116_1 hC) kz) ?_
  refine WQ.st (fun _ _ kz => pw_getr gX5_94 dX5_largestSet_14 (cf_s96 hC) hE.dc.ka.p2 kz) ?_
  refine WQ.st (fun _ _ kz => pw_geti gX5_98 dX5_largestSet_17 (sh_s0 hE.dc.ka.hsh) kz) ?_
  rw [show (up2 (up2 V 116 7 (nI p)) 116 8 (al (87 + p))) sh 6 = nI (nP al) from by rw [up2_na (by omega), up2_na (by omega), hSe.2.1]; exact nI_ofI hn4.1]
  refine WQ.st (fun _ _ kz => pw_iconst (v := 4) dX5_largestSet_20 (by decide) kz) ?_
  refine WQ.st (fun _ _ kz => pw_min mmX5_103 dX5_largestSet_21 (Nat.le_of_ble_eq_true rfl) (by omega) kz) ?_
  rw [show (if (4 : Int32) < nI (nP al) then 4 else nI (nP al)) = nI (nP al) from if_neg (by rw [lt_i li_4 (ix_n (by omega))]; omega)]
  refine WQ.st (fun _ _ kz => pw_ishl dX5_largestSet_24 kz) ?_
  rw [shl_N _ (by omega)]
  refine WQ.st (fun _ _ kz => pw_istore5 dX5_largestSet_25 (by decide) (k := kz)) ?_
  refine WQ.st (fun _ _ kz => pw_iconst (v := 1) dX5_largestSet_27 (by decide) kz) ?_
  refine WQ.st (fun _ _ kz => pw_istore6 dX5_largestSet_28 (by decide) (k := kz)) ?_
  obtain ⟨i2, o2⟩ := hI.ord (V' := (up2 (up2 V 116 7 (nI p)) 116 8 (al (87 + p)))) (A' := (up2 (pm_up A 118 (fillF (-2147483648) 41 (A 118))) 118 (stN al p) 0)) (fun x hx => by rw [up2_na hx, up2_na hx]) (fun x hx => by rw [up2_na (by omega), pm_up_ne (by omega)])
  have hR2 : ∀ s, s < 41 → (up2 (pm_up A 118 (fillF (-2147483648) 41 (A 118))) 118 (stN al p) 0) 118 s = cv (one1 (stN al p) s) := fun s hs => by
    rw [up2_at]
    unfold one1
    by_cases e : s = stN al p
    · rw [if_pos e, e, pm_up_eq]; rfl
    · rw [if_neg e, pm_up_ne e, pm_up_eq, fillF_i hs]; rfl
  rw [show (0 : Int32) = nI 0 from rfl, show (1 : Int32) = nI 1 from rfl]
  have kk := q_lsL (G := G) (d := d) (W := W) (sh := sh) (ls0 := ls) (gg := gg) (x1 := nI p) hp ht hat hg (by omega) hD hE.kv (2 ^ nP al - 1) 1 0 none t sl ls S (up2 (up2 V 116 7 (nI p)) 116 8 (al (87 + p))) P (up2 (pm_up A 118 (fillF (-2147483648) 41 (A 118))) 118 (stN al p) 0) B Q (fun _ => one1 (stN al p)) (by have : 0 < 2 ^ nP al := Nat.pow_pos (by decide); omega) (by omega) i2 (by omega) o2 (fun _ _ h => h) (by rw [up2_nk (by omega), up2_eq]) (by rw [up2_eq, etm]) ⟨fun t _ => rfl, fun set h0 hs => by omega⟩ (fun x hx s hs => by rw [show x = 0 by omega]; exact hR2 s hs)
  exact kk
set_option maxRecDepth 20000 in
theorem q_mostPieces {G : gT} {d : Nat} {S : sS} {V : sV} {P : sP} {A : sV} {B : sB} {Q : sP} {t sl : Nat} {al : Nat → Int32} {W : WT} {sh ls : Nat} (hI : CI S V P A B Q t al W sh ls) (hls : ls + 1000 < 2000000000) (x g : Int32) : WQ G (d + 9) mX11_mostPieces 0 [some (.ref 8), some (.int x), some (.int g)] [] (t, sl, gh S V P A B Q) (CZ S V P A B Q t sl W sh ls (.int (sp_mp al x.toInt g)) al) := by
  unfold CZ
  have hE := hI.de
  have hC := hE.dc.ka.cf
  have hD := hE.dc.ka.dv
  have hSe := hE.dc.ka.se
  have hA := hI.av
  have hp5 := hD.p5
  have hn4 := hD.n4
  refine WQ.st (fun _ _ kz => pw_aload0 dX11_mostPieces_0 kz) ?_
  refine WQ.st (fun _ _ kz => pw_getr gX11_71 dX11_mostPieces_1 (cf_s8 hC) hI.re.p84 kz) ?_
  refine WQ.st (fun _ _ kz => pw_iload1 dX11_mostPieces_4 kz) ?_
  refine wq_o1i wX7_hasPlayer lX11_151 rfl dX11_mostPieces_5 (sh_s0 hE.dc.ka.hsh) (k_hasPlayer hE.dc.ka.hsh hSe hD _) rfl (Nat.le_of_ble_eq_true rfl) (Nat.le_of_ble_eq_true rfl) (fun h5 z5 => ?_)
  subst z5
  refine WQ.bn (fun _ _ ka kb => pw_if_ne (tgt := 14) dX11_mostPieces_8 (by decide) ka kb) (fun c8 => ?_) (fun c8 => ?_)
  · rw [bI_n] at c8
    have gx := isP_t c8
    obtain ⟨p, rfl, tp, lp⟩ := nI_get gx.1 gx.2 (by omega)
    have hp : p < 5 := by omega
    refine WQ.st (fun _ _ kz => pw_iload2 dX11_mostPieces_14 kz) ?_
    refine wq_s1i wX11_isStore lX11_281 dX11_mostPieces_15 (k_isStore _) rfl (Nat.le_of_ble_eq_true rfl) (Nat.le_of_ble_eq_true rfl) (fun h15 z15 => ?_)
    subst z15
    refine WQ.bn (fun _ _ ka kb => pw_if_ne (tgt := 24) dX11_mostPieces_18 (by decide) ka kb) (fun c18 => ?_) (fun c18 => ?_)
    · rw [bI_n] at c18
      have hc2 := of_decide_eq_true c18
      obtain ⟨gg, hg41, rfl⟩ : ∃ gg : Nat, gg < 41 ∧ g = sI gg := ⟨(g.toInt + 20).toNat, by omega, sI_of hc2.1 (by omega)⟩
      refine WQ.st (fun _ _ kz => pw_aload0 dX11_mostPieces_24 kz) ?_
      refine WQ.st (fun _ _ kz => pw_getr gX11_105 dX11_mostPieces_25 (cf_s8 hC) (cf_p8_14 hC) kz) ?_
      refine WQ.st (fun _ _ kz => pw_iload1 dX11_mostPieces_28 kz) ?_
      refine WQ.st (fun _ _ kz => pw_aload0 dX11_mostPieces_29 kz) ?_
      refine WQ.st (fun _ _ kz => pw_getr gX11_35 dX11_mostPieces_30 (cf_s8 hC) (cf_p8_5 hC) kz) ?_
      refine WQ.st (fun _ _ kz => pw_iload2 dX11_mostPieces_33 kz) ?_
      refine wq_o3i wX5_largestSet lX11_331 rfl dX11_mostPieces_34 (cf_s116 hC) (k_largestSet hI hls hp hg41) rfl (Nat.le_of_ble_eq_true rfl) (Nat.le_of_ble_eq_true rfl) (fun h34 z34 => ?_)
      obtain ⟨t5, sl5, ls5, S5, V5, P5, A5, B5, Q5, rfl, i5, l5, o5, r5⟩ := z34
      refine ⟨_, _, pw_iret dX11_mostPieces_37 rfl rfl rfl rfl, ?_⟩
      exact ⟨rI (by unfold sp_mp; rw [if_pos c8, if_pos c18, tp, Int.toNat_natCast]), t5, sl5, ls5, S5, V5, P5, A5, B5, Q5, rfl, i5, by omega, o5, r5⟩
    · rw [bI_0] at c18
      refine WQ.st (fun _ _ kz => pw_ldc kX11_123 dX11_mostPieces_21 kz) ?_
      refine ⟨_, _, pw_iret dX11_mostPieces_23 rfl rfl rfl rfl, ?_⟩
      exact ⟨rI (by unfold sp_mp; rw [if_pos c8, c18, if_neg (by decide)]), t, sl, ls, S, V, P, A, B, Q, rfl, hI, by omega, FrO.rfl, fun _ _ h => h⟩
  · rw [bI_0] at c8
    refine WQ.st (fun _ _ kz => pw_ldc kX11_155 dX11_mostPieces_11 kz) ?_
    refine ⟨_, _, pw_iret dX11_mostPieces_13 rfl rfl rfl rfl, ?_⟩
    exact ⟨rI (by unfold sp_mp; rw [c8, if_neg (by decide)]), t, sl, ls, S, V, P, A, B, Q, rfl, hI, by omega, FrO.rfl, fun _ _ h => h⟩
