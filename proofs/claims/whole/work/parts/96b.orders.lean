theorem cf_e {S : sS} {P : sP} (h : CF S P) {i : Nat} (hi : i < 16) : S (118 + i) = (20, 41) := by
  rcases (show i = 0 ∨ i = 1 ∨ i = 2 ∨ i = 3 ∨ i = 4 ∨ i = 5 ∨ i = 6 ∨ i = 7 ∨ i = 8 ∨ i = 9 ∨ i = 10 ∨ i = 11 ∨ i = 12 ∨ i = 13 ∨ i = 14 ∨ i = 15 by omega) with rfl | rfl | rfl | rfl | rfl | rfl | rfl | rfl | rfl | rfl | rfl | rfl | rfl | rfl | rfl | rfl
  · exact cf_s118 h
  · exact cf_s119 h
  · exact cf_s120 h
  · exact cf_s121 h
  · exact cf_s122 h
  · exact cf_s123 h
  · exact cf_s124 h
  · exact cf_s125 h
  · exact cf_s126 h
  · exact cf_s127 h
  · exact cf_s128 h
  · exact cf_s129 h
  · exact cf_s130 h
  · exact cf_s131 h
  · exact cf_s132 h
  · exact cf_s133 h
theorem cv_lt9 {a b : Int32} {k k' : Nat} (ha : bnd k a) (hb : bnd k' b) (hk : k ≤ 100) (hk' : k' ≤ 100) : cv a < cv b ↔ a < b := by
  by_cases ca : a = -268435456
  · by_cases cb : b = -268435456
    · rw [ca, cb]; decide
    · have h := bnd_c hb hk' cb
      refine ⟨fun _ => by rw [ca]; exact h, fun _ => ?_⟩
      rw [ca, cv_n cb, lt_i (show (cv (-268435456)).toInt = -2147483648 from rfl) rfl]
      rw [lt_i (show (-268435456 : Int32).toInt = -268435456 from rfl) rfl] at h
      omega
  · have h := bnd_c ha hk ca
    by_cases cb : b = -268435456
    · rw [cb, cv_n ca, lt_i rfl (show (cv (-268435456)).toInt = -2147483648 from rfl), lt_i rfl (show (-268435456 : Int32).toInt = -268435456 from rfl)]
      rw [lt_i (show (-268435456 : Int32).toInt = -268435456 from rfl) rfl] at h
      omega
    · rw [cv_n ca, cv_n cb]
theorem cv_mx9 {a b : Int32} {k k' : Nat} (ha : bnd k a) (hb : bnd k' b) (hk : k ≤ 100) (hk' : k' ≤ 100) : (if cv a < cv b then cv b else cv a) = cv (mxo a b) := by
  have h := cv_lt9 ha hb hk hk'
  unfold mxo
  by_cases c : a < b
  · rw [if_pos c, if_pos (h.mpr c)]
  · rw [if_neg c, if_neg (fun q => c (h.mp q))]
theorem CI.ord {S : sS} {V : sV} {P : sP} {A : sV} {B : sB} {Q : sP} {t : Nat} {V' A' : sV} {al : Nat → Int32} {W : WT} {sh ls : Nat} (hI : CI S V P A B Q t al W sh ls) (hV : ∀ x, x ≠ 116 → V' x = V x) (hA : ∀ x, x < 117 ∨ 136 < x → A' x = A x) : CI S V' P A' B Q t al W sh ls ∧ FrO S V P A B t S V' P A' B t := by
  have f7 : FrD 20 S V P A B Q t S V' P A' B Q t := FrD.va (fun x hx => hV x (by omega)) (fun x hx => hA x (by omega))
  exact ⟨hI.ask (hI.de.dc.fr ⟨fun x hx => hV x (by omega), fun x hx => hA x (by omega), fun _ _ => rfl⟩ (hA 109 (by omega))) f7, f7.o (Or.inr rfl)⟩
theorem th_b9 {al : Nat → Int32} (hD : DV al) {np : Int} (hK : KV np (fun k => al (75 + k))) {p : Nat} (hp : p < 5) : ∀ q f t, q < nP al → f < 41 → t < 41 → bnd 12 (thT al p q f t) := fun q f t hq hf _ => by
  have hq4 : q < 4 := by have := hD.n4; unfold nP at hq; omega
  obtain ⟨tm, ht, etm, hat⟩ := hK.tmE hp
  have hn12 := (hD.lgE hq4).2
  have := rf_T_bnd (kp := kpA) (n := lgN al q) (e := rf_e1 (sI t)) hn12 (TT_b1 hD hp ht hq4 hn12) (fun b l s w _ _ _ _ h => TT_in h) (fun s _ => rf_e1_bnd (sI t) s) (lgN al q) (Nat.le_refl _) 2 f (by omega) hf
  rw [hat] at this
  exact this.up hn12
theorem sp_spr {al : Nat → Int32} (hD : DV al) {np : Int} (hK : KV np (fun k => al (75 + k))) {p q : Nat} (hp : p < 5) (hq : q < 4) {K : Nat} {F : Nat → Int32} (hF : ∀ s, s < 41 → bnd K (F s)) (hK60 : K ≤ 60) {u : Nat} (hu : u < 41) : spF (TT al p q) (asks al 6) (lgN al q) F u = spr (thT al p) q F u := by
  obtain ⟨tm, ht, etm, hat⟩ := hK.tmE hp
  have hn12 := (hD.lgE hq).2
  have hT := TT_b1 hD hp ht hq hn12
  have hin : ∀ b l s w, b < lgN al q → l < 5 → s < 41 → w < 5 → TT (atm al p tm) p q b l s w ≠ -268435456 → rf_in s w = true := fun b l s w _ _ _ _ h => TT_in h
  have hi : asks al 6 = false → ∀ b l s w, b < lgN al q → l < 5 → s < 41 → w < 5 → TT (atm al p tm) p q b l s w = TT (atm al p tm) p q b 2 s w := fun h6 b l s w hb hl hs hw => TT_l2 hD hp ht hq h6 (by omega) hl hs hw
  rw [hat] at hT hin hi
  exact spF_eq hn12 hT hin hi hF hK60 hu
theorem fpn_first {c : Nat → Bool} {i : Nat} (hi : c i = true) : ∀ m p, p ≤ i → i < p + m → (∀ j, p ≤ j → j < i → c j = false) → fpn c m p = i
  | 0, p, h1, h2, _ => by omega
  | m + 1, p, h1, h2, h => by
    show (if c p then p else fpn c m (p + 1)) = i
    by_cases e : p = i
    · rw [e, if_pos hi]
    · rw [h p (by omega) (by omega), if_neg (by decide)]
      exact fpn_first hi m (p + 1) (by omega) (by omega) (fun j h1 h2 => h j (by omega) h2)
set_option maxRecDepth 20000 in
theorem q_omL {G : gT} {d : Nat} {S : sS} {V : sV} {P : sP} {A : sV} {B : sB} {Q : sP} {t sl : Nat} {a gg : Nat} {x1 : Int32} {F : Nat → Int32} (hs : S a = (20, 41)) (hF : ∀ s, s < 41 → bnd 48 (F s)) (hR : ∀ s, s < 41 → A a s = cv (F s)) : ∀ (m k : Nat), gg ≤ k → k + m = 41 → WQ G (d + 1) mX5_mostFrom 8 [some (.ref a), some (.int x1), some (.int (cv (mfo (fun f => ob (F f) (rf_e (sI gg) f)) k))), some (.int (nI k))] [] (t, sl, gh S V P A B Q) (fun r h' => r = some (.int (cv (mfo (fun f => ob (F f) (rf_e (sI gg) f)) 41))) ∧ h' = (t, sl, gh S V P A B Q)) := by
  have hb48 : ∀ f, f < 41 → bnd 48 (ob (F f) (rf_e (sI gg) f)) := fun f hf => ob_bnd (hF f hf) (rf_e_bnd _ f) (by omega)
  intro m
  induction m with
  | zero =>
    intro k hg hk
    have hk : k = 41 := hk
    subst hk
    refine WQ.st (fun _ _ kz => pw_iload3 dX5_mostFrom_8 kz) ?_
    refine WQ.st (fun _ _ kz => pw_aload0 dX5_mostFrom_9 kz) ?_
    refine WQ.st (fun _ _ kz => pw_len dX5_mostFrom_10 hs (by decide) kz) ?_
    refine WQ.br (fun _ _ ka kb => pw_icmp_ge (tgt := 28) dX5_mostFrom_11 (by decide) ka kb) (fun c11 => ?_) (fun c11 => absurd (by decide) c11)
    refine WQ.st (fun _ _ kz => pw_iload2 dX5_mostFrom_28 kz) ?_
    refine ⟨_, _, pw_iret dX5_mostFrom_29 rfl rfl rfl rfl, ?_⟩
    exact ⟨rfl, rfl⟩
  | succ m ih =>
    intro k hg hk
    have ek : ob (F k) (rf_e (sI gg) k) = F k := by
      unfold rf_e
      rw [if_neg (by rw [lt_i (sI_t (by omega)) (sI_t (by omega))]; omega)]
      by_cases c : F k = -268435456
      · rw [c]; rfl
      · rw [ob_n c (by decide), Int32.add_zero]
    refine WQ.st (fun _ _ kz => pw_iload3 dX5_mostFrom_8 kz) ?_
    refine WQ.st (fun _ _ kz => pw_aload0 dX5_mostFrom_9 kz) ?_
    refine WQ.st (fun _ _ kz => pw_len dX5_mostFrom_10 hs (by decide) kz) ?_
    refine WQ.br (fun _ _ ka kb => pw_icmp_ge (tgt := 28) dX5_mostFrom_11 (by decide) ka kb) (fun c11 => absurd c11 (by rw [le_i (show (Int32.ofNat 41).toInt = 41 from rfl) (ix_n (by omega))]; omega)) (fun c11 => ?_)
    refine WQ.st (fun _ _ kz => pw_iload2 dX5_mostFrom_14 kz) ?_
    refine WQ.st (fun _ _ kz => pw_aload0 dX5_mostFrom_15 kz) ?_
    refine WQ.st (fun _ _ kz => pw_iload3 dX5_mostFrom_16 kz) ?_
    refine WQ.st (fun _ _ kz => pw_ald (j := k) dX5_mostFrom_17 hs (ix_m rfl (by omega)) (by omega) kz) ?_
    rw [hR k (by omega)]
    refine WQ.st (fun _ _ kz => pw_max mmX5_88 dX5_mostFrom_18 (Nat.le_of_ble_eq_true rfl) (by omega) kz) ?_
    rw [cv_mx9 (mfo_bnd (fun f hf => hb48 f (by omega))) (hF k (by omega)) (by omega) (by omega), show mxo (mfo (fun f => ob (F f) (rf_e (sI gg) f)) k) (F k) = mfo (fun f => ob (F f) (rf_e (sI gg) f)) (k + 1) from by
      show _ = mxo (mfo (fun f => ob (F f) (rf_e (sI gg) f)) k) (ob (F k) (rf_e (sI gg) k))
      rw [ek]]
    refine WQ.st (fun _ _ kz => pw_istore2 dX5_mostFrom_21 (by decide) (k := kz)) ?_
    refine WQ.st (fun _ _ kz => pw_iinc3 (v := 1) dX5_mostFrom_22 (by decide) (by decide) (k := kz)) ?_
    refine WQ.st (fun _ _ kz => pw_goto (tgt := 8) dX5_mostFrom_25 (by decide) kz) ?_
    rw [nI_1]
    exact ih (k + 1) (by omega) (by omega)
set_option maxRecDepth 20000 in
theorem k_omost {G : gT} {d : Nat} {S : sS} {V : sV} {P : sP} {A : sV} {B : sB} {Q : sP} {t sl : Nat} {a gg : Nat} {F : Nat → Int32} (hs : S a = (20, 41)) (hg : gg < 41) (hF : ∀ s, s < 41 → bnd 48 (F s)) (hR : ∀ s, s < 41 → A a s = cv (F s)) : WQ G (d + 1) mX5_mostFrom 0 [some (.ref a), some (.int (sI gg)), none, none] [] (t, sl, gh S V P A B Q) (fun r h' => r = some (.int (cv (mfo (fun f => ob (F f) (rf_e (sI gg) f)) 41))) ∧ h' = (t, sl, gh S V P A B Q)) := by
  refine WQ.st (fun _ _ kz => pw_ldc kX5_9 dX5_mostFrom_0 kz) ?_
  refine WQ.st (fun _ _ kz => pw_istore2 dX5_mostFrom_2 (by decide) (k := kz)) ?_
  refine WQ.st (fun _ _ kz => pw_iload1 dX5_mostFrom_3 kz) ?_
  refine WQ.st (fun _ _ kz => pw_bipush (v := 20) dX5_mostFrom_4 (by decide) kz) ?_
  refine WQ.st (fun _ _ kz => pw_iadd dX5_mostFrom_6 kz) ?_
  rw [sI_20]
  refine WQ.st (fun _ _ kz => pw_istore3 dX5_mostFrom_7 (by decide) (k := kz)) ?_
  have e0 : (-2147483648 : Int32) = cv (mfo (fun f => ob (F f) (rf_e (sI gg) f)) gg) := by
    have : mfo (fun f => ob (F f) (rf_e (sI gg) f)) gg = -268435456 := Int32.le_antisymm (mfo_le (Int32.le_refl _) (fun f hf => by
      show ob (F f) (rf_e (sI gg) f) ≤ _
      unfold rf_e
      rw [if_pos (by rw [lt_i (sI_t (by omega)) (sI_t (by omega))]; omega), ob_c (Or.inr rfl)]
      exact Int32.le_refl _)) (mfo_c _ _)
    rw [this]
    rfl
  rw [e0]
  exact q_omL hs hF hR (41 - gg) gg (Nat.le_refl _) (by omega)
set_option maxRecDepth 20000 in
theorem k_obegin {G : gT} {d : Nat} {S : sS} {V : sV} {P : sP} {A : sV} {B : sB} {Q : sP} {t sl : Nat} {al : Nat → Int32} {sh ls p : Nat} (hE : DE S V P A B Q t al sh ls 16) (hQ : OQ Q) (hp : p < 5) : WQ G (d + 1) mX5_begin 0 [some (.ref 116), some (.int (nI p)), some (.ref 16)] [] (t, sl, gh S V P A B Q) (fun r h' => r = none ∧ h' = (t, sl, gh S (up2 (up2 V 116 7 (nI p)) 116 8 (al (87 + p))) P (up2 (pm_up A 118 (fillF (-2147483648) 41 (A 118))) 118 (stN al p) 0) B Q)) := by
  have hC := hE.dc.ka.cf
  obtain ⟨es0, hs0⟩ := hE.kv.stE hp
  refine WQ.st (fun _ _ kz => pw_aload0 dX5_begin_0 kz) ?_
  refine WQ.st (fun _ _ kz => pw_iload1 dX5_begin_1 kz) ?_
  refine WQ.st (fun _ _ kz => pw_puti (pX5_31 _ rfl) dX5_begin_2 (cf_s116 hC) rfl rfl kz) ?_
  refine WQ.st (fun _ _ kz => pw_aload0 dX5_begin_5 kz) ?_
  refine WQ.st (fun _ _ kz => pw_aload2 dX5_begin_6 kz) ?_
  refine WQ.st (fun _ _ kz => pw_getr gX5_45 dX5_begin_7 (cf_s16 hC) (cf_p16_2 hC) kz) ?_
  refine WQ.st (fun _ _ kz => pw_iload1 dX5_begin_10 kz) ?_
  refine WQ.st (fun _ _ kz => pw_ald (j := p) dX5_begin_11 (cf_s19 hC) (ix_m rfl (by omega)) (by omega) kz) ?_
  rw [hE.se.tm hp]
  refine WQ.st (fun _ _ kz => pw_puti (pX5_34 _ rfl) dX5_begin_12 (cf_s116 hC) rfl rfl kz) ?_
  refine WQ.st (fun _ _ kz => pw_aload0 dX5_begin_15 kz) ?_
  refine WQ.st (fun _ _ kz => pw_getr gX5_18 dX5_begin_16 (cf_s116 hC) (cf_p116_3 hC) kz) ?_
  refine WQ.st (fun _ _ kz => pw_iconst (v := 0) dX5_begin_19 (by decide) kz) ?_
  refine WQ.st (fun _ _ kz => pw_qldr (j := 0) dX5_begin_20 (cf_s117 hC) (by decide) rfl (by omega) (hQ 0 (by omega)) kz) ?_
  refine WQ.st (fun _ _ kz => pw_ldc kX5_9 dX5_begin_21 kz) ?_
  refine WQ.st (fun _ _ kz => pw_s2v wJ7_fill_53178 lX5_50 dX5_begin_23 (c_filli (cf_s118 hC) (by omega) _) rfl (Nat.le_of_ble_eq_true rfl) (Nat.le_of_ble_eq_true rfl) kz) ?_
  refine WQ.st (fun _ _ kz => pw_aload0 dX5_begin_26 kz) ?_
  refine WQ.st (fun _ _ kz => pw_getr gX5_18 dX5_begin_27 (cf_s116 hC) (cf_p116_3 hC) kz) ?_
  refine WQ.st (fun _ _ kz => pw_iconst (v := 0) dX5_begin_30 (by decide) kz) ?_
  refine WQ.st (fun _ _ kz => pw_qldr (j := 0) dX5_begin_31 (cf_s117 hC) (by decide) rfl (by omega) (hQ 0 (by omega)) kz) ?_
  refine WQ.st (fun _ _ kz => pw_aload2 dX5_begin_32 kz) ?_
  refine WQ.st (fun _ _ kz => pw_getr gX5_56 dX5_begin_33 (cf_s16 hC) (cf_p16_0 hC) kz) ?_
  refine WQ.st (fun _ _ kz => pw_iload1 dX5_begin_36 kz) ?_
  refine WQ.st (fun _ _ kz => pw_ald (j := p) dX5_begin_37 (cf_s17 hC) (ix_m rfl (by omega)) (by omega) kz) ?_
  rw [pm_up_ne (by omega), hE.se.st hp, es0]
  refine WQ.st (fun _ _ kz => pw_bipush (v := 20) dX5_begin_38 (by decide) kz) ?_
  refine WQ.st (fun _ _ kz => pw_iadd dX5_begin_40 kz) ?_
  refine WQ.st (fun _ _ kz => pw_iconst (v := 0) dX5_begin_41 (by decide) kz) ?_
  refine WQ.st (fun _ _ kz => pw_ast (j := stN al p) dX5_begin_42 (cf_s118 hC) (by rw [sI_20]; exact ix_n (by omega)) (by omega)  kz) ?_
  refine ⟨_, _, pw_vret dX5_begin_43 rfl rfl rfl, ?_⟩
  exact ⟨rfl, rfl⟩
