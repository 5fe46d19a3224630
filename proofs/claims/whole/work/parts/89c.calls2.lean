theorem lq_m20 : (-20 : Int32).toInt = -20 := by decide
theorem lq_m2 : (-2 : Int32).toInt = -2 := by decide
theorem i32_iff {x k : Int32} {z : Int} (hk : k.toInt = z) : x = k ↔ x.toInt = z := by rw [← Int32.toInt_inj, hk]
set_option maxRecDepth 20000 in
theorem k_isTray {G : gT} {d : Nat} {S : sS} {V : sV} {P : sP} {A : sV} {B : sB} {Q : sP} {t sl : Nat}  (x : Int32) : WQ G d mX11_isTray 0 [some (.int x)] [] (t, sl, gh S V P A B Q) (fun r h' => r = some (.int (bI (decide (0 ≤ x.toInt ∧ x.toInt ≤ 3)))) ∧ h' = (t, sl, gh S V P A B Q)) := by
  refine WQ.st (fun _ _ kz => pw_iload0 dX11_isTray_0 kz) ?_
  refine WQ.br (fun _ _ ka kb => pw_if_lt (tgt := 13) dX11_isTray_1 (by decide) ka kb) (fun c1 => ?_) (fun c1 => ?_)
  · rw [lt_i rfl li_0] at c1
    refine WQ.st (fun _ _ kz => pw_iconst (v := 0) dX11_isTray_13 (by decide) kz) ?_
    refine ⟨_, _, pw_iret dX11_isTray_14 rfl rfl rfl rfl, ?_⟩
    exact ⟨by rw [decide_eq_false (by omega)]; rfl, rfl⟩
  · rw [lt_i rfl li_0] at c1
    refine WQ.st (fun _ _ kz => pw_iload0 dX11_isTray_4 kz) ?_
    refine WQ.st (fun _ _ kz => pw_iconst (v := 4) dX11_isTray_5 (by decide) kz) ?_
    refine WQ.br (fun _ _ ka kb => pw_icmp_ge (tgt := 13) dX11_isTray_6 (by decide) ka kb) (fun c6 => ?_) (fun c6 => ?_)
    · rw [le_i li_4 rfl] at c6
      refine WQ.st (fun _ _ kz => pw_iconst (v := 0) dX11_isTray_13 (by decide) kz) ?_
      refine ⟨_, _, pw_iret dX11_isTray_14 rfl rfl rfl rfl, ?_⟩
      exact ⟨by rw [decide_eq_false (by omega)]; rfl, rfl⟩
    · rw [le_i li_4 rfl] at c6
      refine WQ.st (fun _ _ kz => pw_iconst (v := 1) dX11_isTray_9 (by decide) kz) ?_
      refine WQ.st (fun _ _ kz => pw_goto (tgt := 14) dX11_isTray_10 (by decide) kz) ?_
      refine ⟨_, _, pw_iret dX11_isTray_14 rfl rfl rfl rfl, ?_⟩
      exact ⟨by rw [decide_eq_true (by omega)]; rfl, rfl⟩
set_option maxRecDepth 20000 in
theorem k_isStore {G : gT} {d : Nat} {S : sS} {V : sV} {P : sP} {A : sV} {B : sB} {Q : sP} {t sl : Nat}  (x : Int32) : WQ G d mX11_isStore 0 [some (.int x)] [] (t, sl, gh S V P A B Q) (fun r h' => r = some (.int (bI (isS x.toInt))) ∧ h' = (t, sl, gh S V P A B Q)) := by
  refine WQ.st (fun _ _ kz => pw_iload0 dX11_isStore_0 kz) ?_
  refine WQ.st (fun _ _ kz => pw_bipush (v := -20) dX11_isStore_1 (by decide) kz) ?_
  refine WQ.br (fun _ _ ka kb => pw_icmp_lt (tgt := 16) dX11_isStore_3 (by decide) ka kb) (fun c3 => ?_) (fun c3 => ?_)
  · rw [lt_i rfl lq_m20] at c3
    refine WQ.st (fun _ _ kz => pw_iconst (v := 0) dX11_isStore_16 (by decide) kz) ?_
    refine ⟨_, _, pw_iret dX11_isStore_17 rfl rfl rfl rfl, ?_⟩
    unfold isS
    exact ⟨by rw [decide_eq_false (by omega)]; rfl, rfl⟩
  · rw [lt_i rfl lq_m20] at c3
    refine WQ.st (fun _ _ kz => pw_iload0 dX11_isStore_6 kz) ?_
    refine WQ.st (fun _ _ kz => pw_bipush (v := 20) dX11_isStore_7 (by decide) kz) ?_
    refine WQ.br (fun _ _ ka kb => pw_icmp_gt (tgt := 16) dX11_isStore_9 (by decide) ka kb) (fun c9 => ?_) (fun c9 => ?_)
    · rw [lt_i li_20 rfl] at c9
      refine WQ.st (fun _ _ kz => pw_iconst (v := 0) dX11_isStore_16 (by decide) kz) ?_
      refine ⟨_, _, pw_iret dX11_isStore_17 rfl rfl rfl rfl, ?_⟩
      unfold isS
      exact ⟨by rw [decide_eq_false (by omega)]; rfl, rfl⟩
    · rw [lt_i li_20 rfl] at c9
      refine WQ.st (fun _ _ kz => pw_iconst (v := 1) dX11_isStore_12 (by decide) kz) ?_
      refine WQ.st (fun _ _ kz => pw_goto (tgt := 17) dX11_isStore_13 (by decide) kz) ?_
      refine ⟨_, _, pw_iret dX11_isStore_17 rfl rfl rfl rfl, ?_⟩
      unfold isS
      exact ⟨by rw [decide_eq_true (by omega)]; rfl, rfl⟩
set_option maxRecDepth 20000 in
theorem k_isDraw {G : gT} {d : Nat} {S : sS} {V : sV} {P : sP} {A : sV} {B : sB} {Q : sP} {t sl : Nat}  (x : Int32) : WQ G d mX11_isDraw 0 [some (.int x)] [] (t, sl, gh S V P A B Q) (fun r h' => r = some (.int (bI (isD x.toInt))) ∧ h' = (t, sl, gh S V P A B Q)) := by
  refine WQ.st (fun _ _ kz => pw_iload0 dX11_isDraw_0 kz) ?_
  refine WQ.st (fun _ _ kz => pw_bipush (v := -2) dX11_isDraw_1 (by decide) kz) ?_
  refine WQ.br (fun _ _ ka kb => pw_icmp_lt (tgt := 15) dX11_isDraw_3 (by decide) ka kb) (fun c3 => ?_) (fun c3 => ?_)
  · rw [lt_i rfl lq_m2] at c3
    refine WQ.st (fun _ _ kz => pw_iconst (v := 0) dX11_isDraw_15 (by decide) kz) ?_
    refine ⟨_, _, pw_iret dX11_isDraw_16 rfl rfl rfl rfl, ?_⟩
    unfold isD
    exact ⟨by rw [decide_eq_false (by omega)]; rfl, rfl⟩
  · rw [lt_i rfl lq_m2] at c3
    refine WQ.st (fun _ _ kz => pw_iload0 dX11_isDraw_6 kz) ?_
    refine WQ.st (fun _ _ kz => pw_iconst (v := 2) dX11_isDraw_7 (by decide) kz) ?_
    refine WQ.br (fun _ _ ka kb => pw_icmp_gt (tgt := 15) dX11_isDraw_8 (by decide) ka kb) (fun c8 => ?_) (fun c8 => ?_)
    · rw [lt_i li_2 rfl] at c8
      refine WQ.st (fun _ _ kz => pw_iconst (v := 0) dX11_isDraw_15 (by decide) kz) ?_
      refine ⟨_, _, pw_iret dX11_isDraw_16 rfl rfl rfl rfl, ?_⟩
      unfold isD
      exact ⟨by rw [decide_eq_false (by omega)]; rfl, rfl⟩
    · rw [lt_i li_2 rfl] at c8
      refine WQ.st (fun _ _ kz => pw_iconst (v := 1) dX11_isDraw_11 (by decide) kz) ?_
      refine WQ.st (fun _ _ kz => pw_goto (tgt := 16) dX11_isDraw_12 (by decide) kz) ?_
      refine ⟨_, _, pw_iret dX11_isDraw_16 rfl rfl rfl rfl, ?_⟩
      unfold isD
      exact ⟨by rw [decide_eq_true (by omega)]; rfl, rfl⟩
set_option maxRecDepth 20000 in
theorem k_isOfRow {G : gT} {d : Nat} {S : sS} {V : sV} {P : sP} {A : sV} {B : sB} {Q : sP} {t sl : Nat}  (x : Int32) : WQ G d mX11_isOfRow 0 [some (.int x)] [] (t, sl, gh S V P A B Q) (fun r h' => r = some (.int (bI (isT x.toInt 1))) ∧ h' = (t, sl, gh S V P A B Q)) := by
  refine WQ.st (fun _ _ kz => pw_iload0 dX11_isOfRow_0 kz) ?_
  refine WQ.br (fun _ _ ka kb => pw_if_eq (tgt := 21) dX11_isOfRow_1 (by decide) ka kb) (fun c1 => ?_) (fun c1 => ?_)
  · rw [i32_iff li_0] at c1
    refine WQ.st (fun _ _ kz => pw_iconst (v := 1) dX11_isOfRow_21 (by decide) kz) ?_
    refine WQ.st (fun _ _ kz => pw_goto (tgt := 26) dX11_isOfRow_22 (by decide) kz) ?_
    refine ⟨_, _, pw_iret dX11_isOfRow_26 rfl rfl rfl rfl, ?_⟩
    unfold isT
    exact ⟨by rw [decide_eq_true (by omega)]; rfl, rfl⟩
  · rw [i32_iff li_0] at c1
    refine WQ.st (fun _ _ kz => pw_iload0 dX11_isOfRow_4 kz) ?_
    refine WQ.st (fun _ _ kz => pw_iconst (v := 1) dX11_isOfRow_5 (by decide) kz) ?_
    refine WQ.br (fun _ _ ka kb => pw_icmp_eq (tgt := 21) dX11_isOfRow_6 (by decide) ka kb) (fun c6 => ?_) (fun c6 => ?_)
    · rw [i32_iff li_1] at c6
      refine WQ.st (fun _ _ kz => pw_iconst (v := 1) dX11_isOfRow_21 (by decide) kz) ?_
      refine WQ.st (fun _ _ kz => pw_goto (tgt := 26) dX11_isOfRow_22 (by decide) kz) ?_
      refine ⟨_, _, pw_iret dX11_isOfRow_26 rfl rfl rfl rfl, ?_⟩
      unfold isT
      exact ⟨by rw [decide_eq_true (by omega)]; rfl, rfl⟩
    · rw [i32_iff li_1] at c6
      refine WQ.st (fun _ _ kz => pw_iload0 dX11_isOfRow_9 kz) ?_
      refine WQ.st (fun _ _ kz => pw_bipush (v := 10) dX11_isOfRow_10 (by decide) kz) ?_
      refine WQ.br (fun _ _ ka kb => pw_icmp_lt (tgt := 25) dX11_isOfRow_12 (by decide) ka kb) (fun c12 => ?_) (fun c12 => ?_)
      · rw [lt_i rfl li_10] at c12
        refine WQ.st (fun _ _ kz => pw_iconst (v := 0) dX11_isOfRow_25 (by decide) kz) ?_
        refine ⟨_, _, pw_iret dX11_isOfRow_26 rfl rfl rfl rfl, ?_⟩
        unfold isT
        exact ⟨by rw [decide_eq_false (by omega), decide_eq_false (by omega)]; rfl, rfl⟩
      · rw [lt_i rfl li_10] at c12
        refine WQ.st (fun _ _ kz => pw_iload0 dX11_isOfRow_15 kz) ?_
        refine WQ.st (fun _ _ kz => pw_bipush (v := 22) dX11_isOfRow_16 (by decide) kz) ?_
        refine WQ.br (fun _ _ ka kb => pw_icmp_ge (tgt := 25) dX11_isOfRow_18 (by decide) ka kb) (fun c18 => ?_) (fun c18 => ?_)
        · rw [le_i li_22 rfl] at c18
          refine WQ.st (fun _ _ kz => pw_iconst (v := 0) dX11_isOfRow_25 (by decide) kz) ?_
          refine ⟨_, _, pw_iret dX11_isOfRow_26 rfl rfl rfl rfl, ?_⟩
          unfold isT
          exact ⟨by rw [decide_eq_false (by omega), decide_eq_false (by omega)]; rfl, rfl⟩
        · rw [le_i li_22 rfl] at c18
          refine WQ.st (fun _ _ kz => pw_iconst (v := 1) dX11_isOfRow_21 (by decide) kz) ?_
          refine WQ.st (fun _ _ kz => pw_goto (tgt := 26) dX11_isOfRow_22 (by decide) kz) ?_
          refine ⟨_, _, pw_iret dX11_isOfRow_26 rfl rfl rfl rfl, ?_⟩
          unfold isT
          exact ⟨by rw [decide_eq_true (p := 10 ≤ x.toInt ∧ x.toInt ≤ 21) (by omega), Bool.or_true]; rfl, rfl⟩
set_option maxRecDepth 20000 in
theorem k_hasBoth {G : gT} {d : Nat} {S : sS} {V : sV} {P : sP} {A : sV} {B : sB} {Q : sP} {t sl : Nat} {al : Nat → Int32} {W : WT} {sh ls : Nat} (hI : CI S V P A B Q t al W sh ls) (x y : Int32) : WQ G (d + 1) mX11_hasBoth 0 [some (.ref 8), some (.int x), some (.int y)] [] (t, sl, gh S V P A B Q) (fun r h' => r = some (.int (bI (isP al x.toInt && isQ al y.toInt))) ∧ h' = (t, sl, gh S V P A B Q)) := by
  have hE := hI.de
  have hC := hE.dc.ka.cf
  refine WQ.st (fun _ _ kz => pw_aload0 dX11_hasBoth_0 kz) ?_
  refine WQ.st (fun _ _ kz => pw_getr gX11_71 dX11_hasBoth_1 (cf_s8 hC) hI.re.p84 kz) ?_
  refine WQ.st (fun _ _ kz => pw_iload1 dX11_hasBoth_4 kz) ?_
  refine wq_o1i wX7_hasPlayer lX11_151 rfl dX11_hasBoth_5 (sh_s0 hE.dc.ka.hsh) (k_hasPlayer hE.dc.ka.hsh hE.dc.ka.se hE.dc.ka.dv x) rfl (Nat.le_of_ble_eq_true rfl) (Nat.le_of_ble_eq_true rfl) (fun h5 z5 => ?_)
  subst z5
  refine WQ.br (fun _ _ ka kb => pw_if_eq (tgt := 26) dX11_hasBoth_8 (by decide) ka kb) (fun c8 => ?_) (fun c8 => ?_)
  · rw [bI_0] at c8
    refine WQ.st (fun _ _ kz => pw_iconst (v := 0) dX11_hasBoth_26 (by decide) kz) ?_
    refine ⟨_, _, pw_iret dX11_hasBoth_27 rfl rfl rfl rfl, ?_⟩
    exact ⟨by rw [c8]; rfl, rfl⟩
  · rw [bI_n] at c8
    refine WQ.st (fun _ _ kz => pw_aload0 dX11_hasBoth_11 kz) ?_
    refine WQ.st (fun _ _ kz => pw_getr gX11_71 dX11_hasBoth_12 (cf_s8 hC) hI.re.p84 kz) ?_
    refine WQ.st (fun _ _ kz => pw_iload2 dX11_hasBoth_15 kz) ?_
    refine wq_o1i wX7_hasPiece lX11_176 rfl dX11_hasBoth_16 (sh_s0 hE.dc.ka.hsh) (k_hasPiece hE.dc.ka.hsh hE.dc.ka.se hE.dc.ka.dv y) rfl (Nat.le_of_ble_eq_true rfl) (Nat.le_of_ble_eq_true rfl) (fun h16 z16 => ?_)
    subst z16
    refine WQ.br (fun _ _ ka kb => pw_if_eq (tgt := 26) dX11_hasBoth_19 (by decide) ka kb) (fun c19 => ?_) (fun c19 => ?_)
    · rw [bI_0] at c19
      refine WQ.st (fun _ _ kz => pw_iconst (v := 0) dX11_hasBoth_26 (by decide) kz) ?_
      refine ⟨_, _, pw_iret dX11_hasBoth_27 rfl rfl rfl rfl, ?_⟩
      exact ⟨by rw [c19, Bool.and_false]; rfl, rfl⟩
    · rw [bI_n] at c19
      refine WQ.st (fun _ _ kz => pw_iconst (v := 1) dX11_hasBoth_22 (by decide) kz) ?_
      refine WQ.st (fun _ _ kz => pw_goto (tgt := 27) dX11_hasBoth_23 (by decide) kz) ?_
      refine ⟨_, _, pw_iret dX11_hasBoth_27 rfl rfl rfl rfl, ?_⟩
      exact ⟨by rw [c8, c19]; rfl, rfl⟩
theorem cf_ty {S : sS} {P : sP} (hC : CF S P) {k : Nat} (hk : k < 4) : TY S P (79 + 2 * k) := by
  rcases (by omega : k = 0 ∨ k = 1 ∨ k = 2 ∨ k = 3) with rfl | rfl | rfl | rfl
  · exact cf_ty79 hC
  · exact cf_ty81 hC
  · exact cf_ty83 hC
  · exact cf_ty85 hC
theorem smI_cong {f g : Nat → Int32} : ∀ (n : Nat), (∀ i, i < n → f i = g i) → smI f n = smI g n
  | 0, _ => rfl
  | n + 1, h => by
    show smI f n + f n = smI g n + g n
    rw [smI_cong n (fun i hi => h i (by omega)), h n (by omega)]
theorem smI_tail {f : Nat → Int32} {k : Nat} : ∀ (m : Nat), (∀ i, k ≤ i → i < k + m → f i = 0) → smI f (k + m) = smI f k
  | 0, _ => rfl
  | m + 1, h => by
    show smI f (k + m) + f (k + m) = smI f k
    rw [smI_tail m (fun i h1 h2 => h i h1 (by omega)), h _ (by omega) (by omega), Int32.add_zero]
theorem smI_5 {f g : Nat → Int32} {n : Nat} (hn : n ≤ 5) (e : ∀ i, i < 5 → f i = g i) (hz : ∀ i, n ≤ i → i < 5 → g i = 0) : smI f 5 = smI g n := by
  rw [smI_cong 5 e]
  have := smI_tail (f := g) (k := n) (5 - n) (fun i h1 h2 => hz i h1 (by omega))
  rw [show n + (5 - n) = 5 by omega] at this
  exact this
theorem tr_no {V : sV} {B : sB} {Q : sP} {so mn : Nat → Int32} {nb : Nat → Int64} (h : TRY V B Q so mn nb) {k : Nat} (hk : k < 4) (e : V (79 + 2 * k) 0 = -1) : so k = -1 := by
  rcases h.2 k hk with ⟨g, _⟩ | ⟨_, _, g, g2, _⟩
  · exact g
  · rw [e] at g
    rw [← g] at g2
    exact absurd g2.1 (by decide)
theorem tr_ok {V : sV} {B : sB} {Q : sP} {so mn : Nat → Int32} {nb : Nat → Int64} (h : TRY V B Q so mn nb) {k : Nat} (hk : k < 4) (e : ¬ V (79 + 2 * k) 0 = -1) : ¬ so k = -1 ∧ V (79 + 2 * k) 1 = so k ∧ V (79 + 2 * k) 0 = nI (mn k).toInt.toNat ∧ (mn k).toInt.toNat ≤ 40 ∧ ∀ i, i < (mn k).toInt.toNat → B (80 + 2 * k) i = nb (40 * k + i) := by
  rcases h.2 k hk with ⟨_, g⟩ | ⟨g0, g1, g, g2, g3⟩
  · exact absurd g e
  · exact ⟨g0, g1, by rw [g]; exact nI_ofI g2.1, by omega, fun i hi => g3 i (by omega)⟩
set_option maxRecDepth 20000 in
theorem q_doesL {G : gT} {d : Nat} {S0 : sS} {V0 : sV} {P0 : sP} {A0 : sV} {B0 : sB} {Q0 : sP} {t0 sl0 : Nat} {sh ls0 : Nat} {tr n : Nat} {x1 : Int32} (htr : tr < 4) (hn : n ≤ 40) {f : Nat → Int} (hls : ls0 + 1000 < 2000000000) (hV : V0 (79 + 2 * tr) 0 = nI n) (hB : ∀ i, i < n → (B0 (80 + 2 * tr) i).toInt = f i) {R : (Nat → Int32) × Nat × Int32} {Z : Option Value → Ph → Prop} (kf : ∀ (t sl ls : Nat) (S : sS) (V : sV) (P : sP) (A : sV) (B : sB) (Q : sP) (al : Nat → Int32) (c : Nat), DE S V P A B Q t al sh ls 16 → FrD 16 S0 V0 P0 A0 B0 Q0 t0 S V P A B Q t → ls ≤ ls0 + 40 → (∀ k1 k2, Room2 S0 Q0 t0 sl0 k1 k2 → Room2 S Q t sl k1 k2) → al = R.1 → c = R.2.1 → c ≤ 40 → WQ G (d + 9) mX11_does 81 [some (.ref 8), some (.int x1), some (.ref (79 + 2 * tr)), some (.int (nI c)), some (.int (nI c))] [] (t, sl, gh S V P A B Q) Z) : ∀ (m k : Nat) (t sl ls : Nat) (S : sS) (V : sV) (P : sP) (A : sV) (B : sB) (Q : sP) (al : Nat → Int32), k + m = n → DE S V P A B Q t al sh ls 16 → FrD 16 S0 V0 P0 A0 B0 Q0 t0 S V P A B Q t → ls ≤ ls0 + k → (∀ k1 k2, Room2 S0 Q0 t0 sl0 k1 k2 → Room2 S Q t sl k1 k2) → sp_tell f m k al = R → WQ G (d + 9) mX11_does 43 [some (.ref 8), some (.int x1), some (.ref (79 + 2 * tr)), some (.int (nI k)), some (.int (nI k))] [] (t, sl, gh S V P A B Q) Z := by
  intro m
  induction m with
  | zero =>
    intro k t sl ls S V P A B Q al hk hE hf hl hr hR
    have hk : k = n := hk
    subst hk
    have hC := hE.dc.ka.cf
    have hTy := cf_ty hC htr
    have hv : V (79 + 2 * tr) 0 = nI k := by rw [hf.2.2.1 _ (by omega)]; exact hV
    refine WQ.st (fun _ _ kz => pw_iload4 dX11_does_43 kz) ?_
    refine WQ.st (fun _ _ kz => pw_aload2 dX11_does_45 kz) ?_
    refine WQ.st (fun _ _ kz => pw_geti gX11_240 dX11_does_46 (ty_s0 hTy) kz) ?_
    rw [hv]
    refine WQ.br (fun _ _ ka kb => pw_icmp_ge (tgt := 81) dX11_does_49 (by decide) ka kb) (fun c49 => ?_) (fun c49 => absurd (by rw [le_i (ix_n (j := k) (by omega)) (ix_n (j := k) (by omega))]; omega) c49)
    exact kf _ _ _ _ _ _ _ _ _ _ _  hE hf (by omega) hr (by rw [← hR]; rfl) (by rw [← hR]; rfl) (by omega)
  | succ m ih =>
    intro k t sl ls S V P A B Q al hk hE hf hl hr hR
    have hR : (if sp_why al (f k) = 0 then sp_tell f m (k + 1) (sp_act al (f k)) else (al, k, sp_why al (f k))) = R := hR
    have hC := hE.dc.ka.cf
    have hTy := cf_ty hC htr
    have hv : V (79 + 2 * tr) 0 = nI n := by rw [hf.2.2.1 _ (by omega)]; exact hV
    refine WQ.st (fun _ _ kz => pw_iload4 dX11_does_43 kz) ?_
    refine WQ.st (fun _ _ kz => pw_aload2 dX11_does_45 kz) ?_
    refine WQ.st (fun _ _ kz => pw_geti gX11_240 dX11_does_46 (ty_s0 hTy) kz) ?_
    rw [hv]
    refine WQ.br (fun _ _ ka kb => pw_icmp_ge (tgt := 81) dX11_does_49 (by decide) ka kb) (fun c49 => absurd c49 (by rw [le_i (ix_n (j := n) (by omega)) (ix_n (j := k) (by omega))]; omega)) (fun c49 => ?_)
    refine WQ.st (fun _ _ kz => pw_aload0 dX11_does_52 kz) ?_
    refine WQ.st (fun _ _ kz => pw_getr gX11_114 dX11_does_53 (cf_s8 hC) (cf_p8_15 hC) kz) ?_
    refine WQ.st (fun _ _ kz => pw_aload0 dX11_does_56 kz) ?_
    refine WQ.st (fun _ _ kz => pw_getr gX11_35 dX11_does_57 (cf_s8 hC) (cf_p8_5 hC) kz) ?_
    refine WQ.st (fun _ _ kz => pw_aload2 dX11_does_60 kz) ?_
    refine WQ.st (fun _ _ kz => pw_iload4 dX11_does_61 kz) ?_
    refine wq_o1i wX9_at lX11_241 rfl dX11_does_63 (ty_s0 hTy) (k_at hTy hv hn (by omega)) rfl (Nat.le_of_ble_eq_true rfl) (Nat.le_of_ble_eq_true rfl) (fun h63 z63 => ?_)
    subst z63
    refine wq_o2i wX2_doTold lX11_245 rfl dX11_does_66 (cf_s137 hC) (k_doTold hE (by omega) _) rfl (Nat.le_of_ble_eq_true rfl) (Nat.le_of_ble_eq_true rfl) (fun h66 z66 => ?_)
    obtain ⟨t5, sl5, ls5, S5, V5, P5, A5, B5, Q5, rfl, z1, z2, z3, z4, z5⟩ := z66
    have eB : (B (79 + 2 * tr + 1) k).toInt = f k := by
      rw [show 79 + 2 * tr + 1 = 80 + 2 * tr by omega, hf.2.2.2.2.2.1 _ (by omega)]
      exact hB k (by omega)
    rw [eB] at z1
    rw [eB]
    refine WQ.bn (fun _ _ ka kb => pw_if_ne (tgt := 81) dX11_does_69 (by decide) ka kb) (fun c69 => ?_) (fun c69 => ?_)
    · rw [if_neg c69] at z1 hR
      exact kf _ _ _ _ _ _ _ _ _ _ _  z1 (hf.tr z3) (by omega) (fun k1 k2 h => z4 _ _ (hr _ _ h)) (by rw [← hR]) (by rw [← hR]) (by omega)
    · rw [if_pos c69] at z1 hR
      have kk := ih (k + 1) _ _ _ _ _ _ _ _ _ _ (by omega) z1 (hf.tr z3) (by omega) (fun k1 k2 h => z4 _ _ (hr _ _ h)) hR
      refine WQ.st (fun _ _ kz => pw_iinc3 (v := 1) dX11_does_72 (by decide) (by decide) (k := kz)) ?_
      refine WQ.st (fun _ _ kz => pw_iinc4 (v := 1) dX11_does_75 (by decide) (by decide) (k := kz)) ?_
      refine WQ.st (fun _ _ kz => pw_goto (tgt := 43) dX11_does_78 (by decide) kz) ?_
      rw [nI_1]
      exact kk
set_option maxRecDepth 20000 in
theorem q_does {G : gT} {d : Nat} {S : sS} {V : sV} {P : sP} {A : sV} {B : sB} {Q : sP} {t sl : Nat} {al : Nat → Int32} {W : WT} {sh ls : Nat} (hI : CI S V P A B Q t al W sh ls) (hls : ls + 1000 < 2000000000) (x : Int32) : WQ G (d + 9) mX11_does 0 [some (.ref 8), some (.int x), none, none, none] [] (t, sl, gh S V P A B Q) (CZ S V P A B Q t sl W sh ls (.int (sp_does al W.2.1 W.2.2.1 W.2.2.2.1 x.toInt).1) (sp_does al W.2.1 W.2.2.1 W.2.2.2.1 x.toInt).2) := by
  unfold CZ
  have hE := hI.de
  have hC := hE.dc.ka.cf
  have hD := hE.dc.ka.dv
  have hSe := hE.dc.ka.se
  have hA := hI.av
  refine WQ.st (fun _ _ kz => pw_iload1 dX11_does_0 kz) ?_
  refine wq_s1i wX11_isTray lX11_232 dX11_does_1 (k_isTray x) rfl (Nat.le_of_ble_eq_true rfl) (Nat.le_of_ble_eq_true rfl) (fun h1 z1 => ?_)
  subst z1
  refine WQ.bn (fun _ _ ka kb => pw_if_ne (tgt := 10) dX11_does_4 (by decide) ka kb) (fun c4 => ?_) (fun c4 => ?_)
  · rw [bI_n] at c4
    have hx := of_decide_eq_true c4
    obtain ⟨tr, rfl, tx, _⟩ := nI_get (x := x) (n := 4) (by omega) (by omega) (by omega)
    have htr : tr < 4 := by omega
    have hTy := cf_ty hC htr
    have tx2 : (nI tr).toInt.toNat = tr := by omega
    refine WQ.st (fun _ _ kz => pw_aload0 dX11_does_10 kz) ?_
    refine WQ.st (fun _ _ kz => pw_getr gX11_58 dX11_does_11 (cf_s8 hC) (cf_p8_10 hC) kz) ?_
    refine WQ.st (fun _ _ kz => pw_iload1 dX11_does_14 kz) ?_
    refine WQ.st (fun _ _ kz => pw_qldr (j := tr) dX11_does_15 (cf_s68 hC) (by decide) (ix_m rfl (by omega)) (by omega) (hI.re.tr.1 tr htr) kz) ?_
    refine WQ.st (fun _ _ kz => pw_astore2 dX11_does_16 (by decide) (k := kz)) ?_
    refine WQ.st (fun _ _ kz => pw_aload2 dX11_does_17 kz) ?_
    refine wq_o0i wX9_isMissing lX11_235 rfl dX11_does_18 (ty_s0 hTy) (k_isMissing hTy) rfl (Nat.le_of_ble_eq_true rfl) (Nat.le_of_ble_eq_true rfl) (fun h18 z18 => ?_)
    subst z18
    refine WQ.br (fun _ _ ka kb => pw_if_eq (tgt := 27) dX11_does_21 (by decide) ka kb) (fun c21 => ?_) (fun c21 => ?_)
    · rw [bI_0] at c21
      refine WQ.st (fun _ _ kz => pw_aload0 dX11_does_27 kz) ?_
      refine WQ.st (fun _ _ kz => pw_getr gX11_39 dX11_does_28 (cf_s8 hC) (cf_p8_6 hC) kz) ?_
      refine WQ.st (fun _ _ kz => pw_aload0 dX11_does_31 kz) ?_
      refine WQ.st (fun _ _ kz => pw_getr gX11_35 dX11_does_32 (cf_s8 hC) (cf_p8_5 hC) kz) ?_
      refine wq_o1v wX8_copy lX11_194 rfl dX11_does_35 (cf_s20 hC) (k_copy (cf_st20 hC) (cf_st16 hC) (by omega) hE.se) rfl (Nat.le_of_ble_eq_true rfl) (Nat.le_of_ble_eq_true rfl) (fun h35 z35 => ?_)
      obtain ⟨V1, A1, rfl, w1, w2⟩ := z35
      have hE1 := hE.aside w2
      refine WQ.st (fun _ _ kz => pw_iconst (v := 0) dX11_does_38 (by decide) kz) ?_
      refine WQ.st (fun _ _ kz => pw_istore3 dX11_does_39 (by decide) (k := kz)) ?_
      refine WQ.st (fun _ _ kz => pw_iconst (v := 0) dX11_does_40 (by decide) kz) ?_
      refine WQ.st (fun _ _ kz => pw_istore4 dX11_does_41 (by decide) (k := kz)) ?_
      obtain ⟨t1, t2, t3, t4, t5⟩ := tr_ok hI.re.tr htr (of_decide_eq_false c21)
      have hnt : sp_nt W.2.1 (nI tr).toInt = 0 := by
        unfold sp_nt
        rw [if_pos (by omega), tx, Int.toNat_natCast, if_neg t1]
      have hv1 : V1 (79 + 2 * tr) 0 = nI (W.2.2.1 tr).toInt.toNat := by rw [w2.1 _ (by omega)]; exact t3
      refine q_doesL (tr := tr) (n := (W.2.2.1 tr).toInt.toNat) (f := fun k => (W.2.2.2.1 (40 * tr + k)).toInt) (R := tlR al W.2.2.1 W.2.2.2.1 tr) htr t4 hls hv1 (fun i hi => by rw [t5 i hi]) (fun t5 sl5 ls5 S5 V5 P5 A5 B5 Q5 al5 c z1 z3 z2 z4 e1 e2 hc => ?_) (W.2.2.1 tr).toInt.toNat 0 _ _ _ _ _ _ _ _ _ al (by omega) hE1 FrD.rfl (by omega) (fun _ _ h => h) rfl
      subst e1
      have ho := (tell_ok (fun k => (W.2.2.2.1 (40 * tr + k)).toInt) (W.2.2.1 tr).toInt.toNat 0 al hA.dv hA.kv).1
      have ho : ∀ i, i < 75 ∨ 92 ≤ i → (tlR al W.2.2.1 W.2.2.2.1 tr).1 i = al i := ho
      have hC := z1.dc.ka.cf
      have hR5 := (hI.re.aside w2).fr (z3.r (Or.inl rfl))
      have hH5 := hR5.hi.cong hA.dn.2 (fun i h1 h2 => ho i (by omega))
      have w5 : StE V5 A5 20 (fun k => al (75 + k)) := w1.fr (z3.2.2.1 20 (by omega)) (fun x _ _ => z3.2.2.2.2.1 x (by omega))
      have es : sp_does al W.2.1 W.2.2.1 W.2.2.2.1 (nI tr).toInt = (nI c, if c = 0 then (tlR al W.2.2.1 W.2.2.2.1 tr).1 else nk al (tlR al W.2.2.1 W.2.2.2.1 tr).1) := by
        unfold sp_does
        rw [if_pos hnt, tx2, ← e2]
      rw [es]
      refine WQ.st (fun _ _ kz => pw_iload3 dX11_does_81 kz) ?_
      refine WQ.br (fun _ _ ka kb => pw_if_le (tgt := 96) dX11_does_82 (by decide) ka kb) (fun c82 => ?_) (fun c82 => ?_)
      · rw [le_i (ix_n (j := c) (by omega)) rfl] at c82
        have c82 : (c : Int) ≤ 0 := c82
        have c0 : c = 0 := by omega
        refine WQ.st (fun _ _ kz => pw_iload3 dX11_does_96 kz) ?_
        refine ⟨_, _, pw_iret dX11_does_97 rfl rfl rfl rfl, ?_⟩
        rw [if_pos c0]
        exact ⟨rfl, t5, sl5, ls5, S5, V5, P5, A5, B5, Q5, rfl, CI.plain hA (hI.re.aside w2) z1 z3 ho, by omega, w2.o.tr (z3.o (Or.inl rfl)), z4⟩
      · rw [le_i (ix_n (j := c) (by omega)) rfl] at c82
        have c82 : ¬ (c : Int) ≤ 0 := c82
        have c0 : ¬ c = 0 := by omega
        refine WQ.st (fun _ _ kz => pw_aload0 dX11_does_85 kz) ?_
        refine WQ.st (fun _ _ kz => pw_getr gX11_45 dX11_does_86 (cf_s8 hC) (cf_p8_7 hC) kz) ?_
        refine WQ.st (fun _ _ kz => pw_aload0 dX11_does_89 kz) ?_
        refine WQ.st (fun _ _ kz => pw_getr gX11_39 dX11_does_90 (cf_s8 hC) (cf_p8_6 hC) kz) ?_
        refine wq_o1v wX3_keep lX11_203 rfl dX11_does_93 (cf_s24 hC) (k_keep hC hH5 (by rw [ho 92 (by omega)]; exact hA.dn) (Or.inr rfl) w5) rfl (Nat.le_of_ble_eq_true rfl) (Nat.le_of_ble_eq_true rfl) (fun h93 z93 => ?_)
        obtain ⟨V7, A7, rfl, g1, g2⟩ := z93
        refine WQ.st (fun _ _ kz => pw_iload3 dX11_does_96 kz) ?_
        refine ⟨_, _, pw_iret dX11_does_97 rfl rfl rfl rfl, ?_⟩
        obtain ⟨q1, q2⟩ := CI.deed hA (hI.re.aside w2) z1 z3 ho g1 g2
        rw [if_neg c0]
        exact ⟨rfl, t5, sl5, ls5, S5, V7, P5, A7, B5, Q5, rfl, q1, by omega, w2.o.tr q2, z4⟩
    · rw [bI_n] at c21
      refine WQ.st (fun _ _ kz => pw_ldc kX11_239 dX11_does_24 kz) ?_
      refine ⟨_, _, pw_iret dX11_does_26 rfl rfl rfl rfl, ?_⟩
      have hnt : sp_nt W.2.1 (nI tr).toInt = -99000006 := by
        unfold sp_nt
        rw [if_pos (by omega), tx, Int.toNat_natCast, if_pos (tr_no hI.re.tr htr (of_decide_eq_true c21))]
      have es : sp_does al W.2.1 W.2.2.1 W.2.2.2.1 (nI tr).toInt = (-99000006, al) := by
        unfold sp_does
        rw [hnt, if_neg (by decide)]
      rw [es]
      exact ⟨rfl, t, sl, ls, S, V, P, A, B, Q, rfl, hI, by omega, FrO.rfl, fun _ _ h => h⟩
  · rw [bI_0] at c4
    refine WQ.st (fun _ _ kz => pw_ldc kX11_155 dX11_does_7 kz) ?_
    refine ⟨_, _, pw_iret dX11_does_9 rfl rfl rfl rfl, ?_⟩
    have hnt : sp_nt W.2.1 x.toInt = -99000002 := by
      unfold sp_nt
      rw [if_neg (of_decide_eq_false c4)]
    have es : sp_does al W.2.1 W.2.2.1 W.2.2.2.1 x.toInt = (-99000002, al) := by
      unfold sp_does
      rw [hnt, if_neg (by decide)]
    rw [es]
    exact ⟨rfl, t, sl, ls, S, V, P, A, B, Q, rfl, hI, by omega, FrO.rfl, fun _ _ h => h⟩
