set_option maxRecDepth 20000 in
theorem q_squL {G : gT} {d : Nat} {S : sS} {V : sV} {P : sP} {A : sV} {B : sB} {Q : sP} {t sl : Nat} (hC : CF S P) {x1 x2 : Int32} {f E : Nat → Int32} (hE : ∀ u, u < 41 → A 70 u = cv (E u)) (hb : ∀ k, k ≤ 41 → bnd 12 (f k)) (he : ∀ u, u < 41 → bnd 12 (E u)) (hf : ∀ k, k < 41 → f k = mxo (f (k + 1)) (E k)) : ∀ (k : Nat) (bv a : Int32), k ≤ 41 → WQ G (d + 1) mX11_squarest 38 [some (.ref 8), some (.int x1), some (.int x2), some (.ref 70), some (.int (cv (f k))), some (.int bv), some (.int a), some (.int (sI k + (-1)))] [] (t, sl, gh S V P A B Q) (fun r h' => r = some (.int (cq f k bv a)) ∧ h' = (t, sl, gh S V P A B Q)) := by
  intro k
  induction k with
  | zero =>
    intro bv a hk
    refine WQ.st (fun _ _ kz => pw_iload7 dX11_squarest_38 kz) ?_
    refine WQ.st (fun _ _ kz => pw_bipush (v := -20) dX11_squarest_40 (by decide) kz) ?_
    refine WQ.br (fun _ _ ka kb => pw_icmp_lt (tgt := 98) dX11_squarest_42 (by decide) ka kb) (fun c42 => ?_) (fun c42 => absurd (by decide) c42)
    refine WQ.st (fun _ _ kz => pw_iload6 dX11_squarest_98 kz) ?_
    refine ⟨_, _, pw_iret dX11_squarest_100 rfl rfl rfl rfl, ?_⟩
    exact ⟨rfl, rfl⟩
  | succ k ih =>
    intro bv a hk
    rw [sI_m]
    refine WQ.st (fun _ _ kz => pw_iload7 dX11_squarest_38 kz) ?_
    refine WQ.st (fun _ _ kz => pw_bipush (v := -20) dX11_squarest_40 (by decide) kz) ?_
    refine WQ.br (fun _ _ ka kb => pw_icmp_lt (tgt := 98) dX11_squarest_42 (by decide) ka kb) (fun c42 => absurd c42 (by rw [lt_i (sI_t (by omega)) lq_m20]; omega)) (fun c42 => ?_)
    refine WQ.st (fun _ _ kz => pw_iload4 dX11_squarest_45 kz) ?_
    refine WQ.st (fun _ _ kz => pw_aload3 dX11_squarest_47 kz) ?_
    refine WQ.st (fun _ _ kz => pw_iload7 dX11_squarest_48 kz) ?_
    refine WQ.st (fun _ _ kz => pw_bipush (v := 20) dX11_squarest_50 (by decide) kz) ?_
    refine WQ.st (fun _ _ kz => pw_iadd dX11_squarest_52 kz) ?_
    refine WQ.st (fun _ _ kz => pw_ald (j := k) dX11_squarest_53 (cf_s70 hC) (by rw [sI_20]; exact ix_n (by omega)) (by omega) kz) ?_
    rw [hE k (by omega)]
    refine WQ.st (fun _ _ kz => pw_max mmX11_315 dX11_squarest_54 (Nat.le_of_ble_eq_true rfl) (by omega) kz) ?_
    rw [cv_mxq (hb (k + 1) (by omega)) (he k (by omega)), ← hf k (by omega)]
    refine WQ.st (fun _ _ kz => pw_istore4 dX11_squarest_57 (by decide) (k := kz)) ?_
    refine WQ.st (fun _ _ kz => pw_iload4 dX11_squarest_59 kz) ?_
    refine WQ.st (fun _ _ kz => pw_ldcw kX11_307 dX11_squarest_61 kz) ?_
    refine WQ.br (fun _ _ ka kb => pw_icmp_eq (tgt := 92) dX11_squarest_64 (by decide) ka kb) (fun c64 => ?_) (fun c64 => ?_)
    · have c64 := (cv_min (hb k (by omega)) (by omega)).mp c64
      have eU : cq f (k + 1) bv a = cq f k bv a := by
        show (if _ then _ else _) = _
        rw [if_neg (fun h => h.1 c64)]
      rw [eU]
      refine WQ.st (fun _ _ kz => pw_iinc7 (v := -1) dX11_squarest_92 (by decide) (by decide) (k := kz)) ?_
      refine WQ.st (fun _ _ kz => pw_goto (tgt := 38) dX11_squarest_95 (by decide) kz) ?_
      exact ih _ _ (by omega)
    · have c64 : f k ≠ -268435456 := fun h => c64 ((cv_min (hb k (by omega)) (by omega)).mpr h)
      have ec := cv_n c64
      refine WQ.st (fun _ _ kz => pw_iload4 dX11_squarest_67 kz) ?_
      refine WQ.st (fun _ _ kz => pw_iconst (v := 3) dX11_squarest_69 (by decide) kz) ?_
      refine WQ.st (fun _ _ kz => pw_iload7 dX11_squarest_70 kz) ?_
      refine WQ.st (fun _ _ kz => pw_imul dX11_squarest_72 kz) ?_
      refine WQ.st (fun _ _ kz => pw_iadd dX11_squarest_73 kz) ?_
      refine WQ.st (fun _ _ kz => pw_iload5 dX11_squarest_74 kz) ?_
      refine WQ.br (fun _ _ ka kb => pw_icmp_lt (tgt := 92) dX11_squarest_76 (by decide) ka kb) (fun c76 => ?_) (fun c76 => ?_)
      · rw [ec] at c76
        have eU : cq f (k + 1) bv a = cq f k bv a := by
          show (if _ then _ else _) = _
          rw [if_neg (fun h => absurd c76 (Int32.not_lt.mpr h.2))]
        rw [eU]
        refine WQ.st (fun _ _ kz => pw_iinc7 (v := -1) dX11_squarest_92 (by decide) (by decide) (k := kz)) ?_
        refine WQ.st (fun _ _ kz => pw_goto (tgt := 38) dX11_squarest_95 (by decide) kz) ?_
        exact ih _ _ (by omega)
      · rw [ec] at c76
        have eU : cq f (k + 1) bv a = cq f k (f k + 3 * sI k) (sI k) := by
          show (if _ then _ else _) = _
          rw [if_pos ⟨c64, Int32.not_lt.mp c76⟩]
        rw [eU]
        refine WQ.st (fun _ _ kz => pw_iload4 dX11_squarest_79 kz) ?_
        refine WQ.st (fun _ _ kz => pw_iconst (v := 3) dX11_squarest_81 (by decide) kz) ?_
        refine WQ.st (fun _ _ kz => pw_iload7 dX11_squarest_82 kz) ?_
        refine WQ.st (fun _ _ kz => pw_imul dX11_squarest_84 kz) ?_
        refine WQ.st (fun _ _ kz => pw_iadd dX11_squarest_85 kz) ?_
        refine WQ.st (fun _ _ kz => pw_istore5 dX11_squarest_86 (by decide) (k := kz)) ?_
        refine WQ.st (fun _ _ kz => pw_iload7 dX11_squarest_88 kz) ?_
        refine WQ.st (fun _ _ kz => pw_istore6 dX11_squarest_90 (by decide) (k := kz)) ?_
        refine WQ.st (fun _ _ kz => pw_iinc7 (v := -1) dX11_squarest_92 (by decide) (by decide) (k := kz)) ?_
        refine WQ.st (fun _ _ kz => pw_goto (tgt := 38) dX11_squarest_95 (by decide) kz) ?_
        have kk := ih (f k + 3 * sI k) (sI k) (by omega)
        rw [ec] at kk ⊢
        exact kk
set_option maxRecDepth 20000 in
theorem q_squarest {G : gT} {d : Nat} {S : sS} {V : sV} {P : sP} {A : sV} {B : sB} {Q : sP} {t sl : Nat} {al : Nat → Int32} {W : WT} {sh ls : Nat} (hI : CI S V P A B Q t al W sh ls) (hls : ls + 1000 < 2000000000) (x y : Int32) : WQ G (d + 9) mX11_squarest 0 [some (.ref 8), some (.int x), some (.int y), none, none, none, none, none] [] (t, sl, gh S V P A B Q) (CZ S V P A B Q t sl W sh ls (.int (sp_squ al x.toInt y.toInt)) al) := by
  unfold CZ
  have hE := hI.de
  have hC := hE.dc.ka.cf
  have hD := hE.dc.ka.dv
  have hSe := hE.dc.ka.se
  have hA := hI.av
  have hp5 := hD.p5
  have hn4 := hD.n4
  refine WQ.st (fun _ _ kz => pw_aload0 dX11_squarest_0 kz) ?_
  refine WQ.st (fun _ _ kz => pw_iload1 dX11_squarest_1 kz) ?_
  refine WQ.st (fun _ _ kz => pw_iload2 dX11_squarest_2 kz) ?_
  refine wq_o2i wX11_hasBoth lX11_262 rfl dX11_squarest_3 (cf_s8 hC) (k_hasBoth hI _ _) rfl (Nat.le_of_ble_eq_true rfl) (Nat.le_of_ble_eq_true rfl) (fun h3 z3 => ?_)
  subst z3
  refine WQ.bn (fun _ _ ka kb => pw_if_ne (tgt := 12) dX11_squarest_6 (by decide) ka kb) (fun c6 => ?_) (fun c6 => ?_)
  · rw [bI_n] at c6
    have hb2 := (Bool.and_eq_true _ _).mp c6
    have hiq := hb2.2
    have gx := isP_t hb2.1
    obtain ⟨p, rfl, tp, lp⟩ := nI_get gx.1 gx.2 (by omega)
    have hp : p < 5 := by omega
    have gy := isQ_t hb2.2
    obtain ⟨q, rfl, tq, lq⟩ := nI_get gy.1 gy.2 (by omega)
    have hq : q < 4 := by omega
    refine WQ.st (fun _ _ kz => pw_aload0 dX11_squarest_12 kz) ?_
    refine WQ.st (fun _ _ kz => pw_iload1 dX11_squarest_13 kz) ?_
    refine WQ.st (fun _ _ kz => pw_iload2 dX11_squarest_14 kz) ?_
    refine wq_o2i wX11_endsOf lX11_303 rfl dX11_squarest_15 (cf_s8 hC) (k_endsOf hI (by omega) hp hq hiq) rfl (Nat.le_of_ble_eq_true rfl) (Nat.le_of_ble_eq_true rfl) (fun h15 z15 => ?_)
    obtain ⟨t5, sl5, ls5, S5, V5, P5, A5, B5, Q5, rfl, i5, l5, o5, r5, e5⟩ := z15
    have hC := i5.de.dc.ka.cf
    refine WQ.st (fun _ _ kz => pw_astore3 dX11_squarest_18 (by decide) (k := kz)) ?_
    refine WQ.st (fun _ _ kz => pw_ldcw kX11_307 dX11_squarest_19 kz) ?_
    refine WQ.st (fun _ _ kz => pw_istore4 dX11_squarest_22 (by decide) (k := kz)) ?_
    refine WQ.st (fun _ _ kz => pw_ldcw kX11_307 dX11_squarest_24 kz) ?_
    refine WQ.st (fun _ _ kz => pw_istore5 dX11_squarest_27 (by decide) (k := kz)) ?_
    refine WQ.st (fun _ _ kz => pw_ldcw kX11_294 dX11_squarest_29 kz) ?_
    refine WQ.st (fun _ _ kz => pw_istore6 dX11_squarest_32 (by decide) (k := kz)) ?_
    refine WQ.st (fun _ _ kz => pw_bipush (v := 20) dX11_squarest_34 (by decide) kz) ?_
    refine WQ.st (fun _ _ kz => pw_istore7 dX11_squarest_36 (by decide) (k := kz)) ?_
    have e41 := bs_41 hD hE.kv hp hq
    rw [show (20 : Int32) = sI 41 + (-1) from rfl]
    have kk := q_squL (G := G) (d := d + 8) (S := S5) (V := V5) (P := P5) (A := A5) (B := B5) (Q := Q5) (t := t5) (sl := sl5) hC (x1 := nI p) (x2 := nI q) (f := fun k => bsT al p q (sI k)) (E := fun u => thT al p q (stN al p) u) e5 (fun k _ => bs_bnd hD hE.kv hp hq _) (fun u _ => th_bnd hD hE.kv hp hq u) (fun k hk => bs_next hD hE.kv hp hq hk) 41 (-2147483648) (-99000001) (by omega)
    rw [show cv ((fun k => bsT al p q (sI k)) 41) = -2147483648 from by show cv (bsT al p q (sI 41)) = _; rw [e41]; rfl] at kk
    obtain ⟨r, h', kr, rfl, rfl⟩ := kk
    refine ⟨_, _, kr, rI ?_, t5, sl5, ls5, S5, V5, P5, A5, B5, Q5, rfl, i5, by omega, o5, r5⟩
    unfold sp_squ
    rw [if_pos c6, tp, tq, Int.toNat_natCast, Int.toNat_natCast]
    exact cq_sq (fun m hm n => sq_v (bs_bnd hD hE.kv hp hq _) hm n)
  · rw [bI_0] at c6
    refine WQ.st (fun _ _ kz => pw_ldc kX11_155 dX11_squarest_9 kz) ?_
    refine ⟨_, _, pw_iret dX11_squarest_11 rfl rfl rfl rfl, ?_⟩
    exact ⟨rI (by unfold sp_squ; rw [c6, if_neg (by decide)]), t, sl, ls, S, V, P, A, B, Q, rfl, hI, by omega, FrO.rfl, fun _ _ h => h⟩
