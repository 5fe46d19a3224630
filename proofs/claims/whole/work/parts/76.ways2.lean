/-! ===== the class: Ways.howMany ===== -/
def hmN (T : Nat → Nat → Nat → Nat → Int32) (kp : Nat → Nat → Bool) (bl : Bool) (s0 n : Nat) (en : Int32) : Nat := sm (fun i => if en = 99 ∨ sI (i / 5) = en then cIt (wtC T kp) bl s0 n i else 0) 205
theorem sI_inj {a b : Nat} (ha : a < 1000) (hb : b < 1000) : sI a = sI b ↔ a = b := by
  rw [eq_i (sI_t (by omega)) (sI_t (by omega))]
  omega
theorem sI_99 {a : Nat} (ha : a < 41) : ¬ sI a = 99 := fun h => by
  rw [eq_i (sI_t (by omega)) (show (99 : Int32).toInt = 99 from rfl)] at h
  omega
theorem hm_at {T : Nat → Nat → Nat → Nat → Int32} {kp : Nat → Nat → Bool} {bl : Bool} {s0 n e : Nat} (hw : ∀ b, b < n → wtOK (wtC T kp b) bl) (he : e < 41) : hmN T kp bl s0 n (sI e) = sm (fun l => rf_c T kp s0 n l e) 5 := by
  unfold hmN
  rw [show (205 : Nat) = 41 * 5 from rfl, sm_blk _ 5 41]
  have e1 : ∀ s, s < 41 → sm (fun j => if sI e = 99 ∨ sI ((s * 5 + j) / 5) = sI e then cIt (wtC T kp) bl s0 n (s * 5 + j) else 0) 5 = if e = s then sm (fun l => cIt (wtC T kp) bl s0 n (s * 5 + l)) 5 else 0 := by
    intro s hs
    by_cases g : e = s
    · rw [if_pos g]
      refine sm_cong 5 (fun j hj => ?_)
      rw [if_pos (Or.inr (by rw [show (s * 5 + j) / 5 = s by omega, g]))]
    · rw [if_neg g]
      refine sm_0 (fun j hj => ?_)
      rw [if_neg (fun q => ?_)]
      rcases q with q | q
      · exact sI_99 he q
      · rw [show (s * 5 + j) / 5 = s by omega, sI_inj (by omega) (by omega)] at q
        exact g q.symm
  rw [sm_cong 41 e1, sm_pick (fun s => sm (fun l => cIt (wtC T kp) bl s0 n (s * 5 + l)) 5) 41, if_pos he, (cIt_rel hw n (Nat.le_refl n)).st he]
  exact sm_cong 5 (fun l _ => wtC_rf _ _ _)
theorem hm_all {T : Nat → Nat → Nat → Nat → Int32} {kp : Nat → Nat → Bool} {bl : Bool} {s0 n : Nat} (hw : ∀ b, b < n → wtOK (wtC T kp b) bl) : hmN T kp bl s0 n 99 = sm (fun s => sm (fun l => rf_c T kp s0 n l s) 5) 41 := by
  unfold hmN
  rw [show (205 : Nat) = 41 * 5 from rfl, sm_blk _ 5 41]
  refine sm_cong 41 (fun s hs => ?_)
  rw [← (sm_cong 5 (fun l _ => wtC_rf (T := T) (kp := kp) (s0 := s0) n l s)), ← (cIt_rel hw n (Nat.le_refl n)).st hs]
  refine sm_cong 5 (fun j hj => ?_)
  rw [if_pos (Or.inl rfl)]
set_option maxRecDepth 20000 in
theorem l_hmSum {G : gT} {d : Nat} {S : sS} {V : sV} {P : sP} {A : sV} {B : sB} {Q : sP} {t sl : Nat} {al : Nat → Int32} {sh ls p tm q : Nat} (hK : KB S V P A B Q t al sh ls p tm q) {rh am s0 : Nat} {en : Int32} {c : Nat → Nat} (h9 : P 107 9 = some rh) (sr9 : S rh = (22, 205)) (hc0 : ∀ j, j < 205 → B rh j = lN (c j)) : ∀ (m j : Nat), j + m = 205 → WQ G (d + 1) mX10_howMany 63 [some (.ref 107), some (.int (sI s0)), some (.int en), some (.ref am), some (.long (lN (sm (fun i => if en = 99 ∨ sI (i / 5) = en then c i else 0) j))), none, some (.int (nI j))] [] (t, sl, gh S V P A B Q) (fun r h' => r = some (.long (lN (sm (fun i => if en = 99 ∨ sI (i / 5) = en then c i else 0) 205))) ∧ h' = (t, sl, gh S V P A B Q)) := by
  intro m
  induction m with
  | zero =>
    intro j hj
    have hj : j = 205 := hj
    subst hj
    refine WQ.st (fun _ _ kz => pw_iload6 dX10_howMany_63 kz) ?_
    refine WQ.st (fun _ _ kz => pw_sipush (v := 205) dX10_howMany_65 (by decide) kz) ?_
    refine WQ.br (fun _ _ ka kb => pw_icmp_ge (tgt := 104) dX10_howMany_68 (by decide) ka kb) (fun c68 => ?_) (fun c68 => absurd (by decide) c68)
    refine WQ.st (fun _ _ kz => pw_lload4 dX10_howMany_104 kz) ?_
    refine ⟨_, _, pw_lret dX10_howMany_106 rfl rfl rfl, ?_⟩
    exact ⟨rfl, rfl⟩
  | succ m ih =>
    intro j hj
    refine WQ.st (fun _ _ kz => pw_iload6 dX10_howMany_63 kz) ?_
    refine WQ.st (fun _ _ kz => pw_sipush (v := 205) dX10_howMany_65 (by decide) kz) ?_
    refine WQ.br (fun _ _ ka kb => pw_icmp_ge (tgt := 104) dX10_howMany_68 (by decide) ka kb) (fun c68 => absurd c68 (by rw [show (205 : Int32) = nI 205 from rfl, le_i (ix_n (j := 205) (by omega)) (ix_n (j := j) (by omega))]; omega)) (fun c68 => ?_)
    refine WQ.st (fun _ _ kz => pw_iload2 dX10_howMany_71 kz) ?_
    refine WQ.st (fun _ _ kz => pw_bipush (v := 99) dX10_howMany_72 (by decide) kz) ?_
    refine WQ.br (fun _ _ ka kb => pw_icmp_eq (tgt := 86) dX10_howMany_74 (by decide) ka kb) (fun c74 => ?_) (fun c74 => ?_)
    · refine WQ.st (fun _ _ kz => pw_lload4 dX10_howMany_86 kz) ?_
      refine WQ.st (fun _ _ kz => pw_aload0 dX10_howMany_88 kz) ?_
      refine WQ.st (fun _ _ kz => pw_getr gX10_38 dX10_howMany_89 (cf_s107 hK.cf) h9 kz) ?_
      refine WQ.st (fun _ _ kz => pw_iload6 dX10_howMany_92 kz) ?_
      refine WQ.st (fun _ _ kz => pw_lld (j := j) dX10_howMany_94 sr9 (ix_m rfl (by omega)) (by omega) kz) ?_
      rw [hc0 j (by omega)]
      refine WQ.st (fun _ _ kz => pw_ladd dX10_howMany_95 kz) ?_
      rw [lN_add, show (sm (fun i => if en = 99 ∨ sI (i / 5) = en then c i else 0) j) + c j = (sm (fun i => if en = 99 ∨ sI (i / 5) = en then c i else 0) (j + 1)) from by rw [sm, if_pos (Or.inl c74)]]
      refine WQ.st (fun _ _ kz => pw_lstore4 dX10_howMany_96 (by decide) (k := kz)) ?_
      refine WQ.st (fun _ _ kz => pw_iinc6 (v := 1) dX10_howMany_98 (by decide) (by decide) (k := kz)) ?_
      refine WQ.st (fun _ _ kz => pw_goto (tgt := 63) dX10_howMany_101 (by decide) kz) ?_
      rw [nI_1]
      exact ih (j + 1) (by omega)
    · refine WQ.st (fun _ _ kz => pw_iload6 dX10_howMany_77 kz) ?_
      refine wq_s1i wX0_storeOf lX10_66 dX10_howMany_79 (k_storeOf (by omega)) rfl (Nat.le_of_ble_eq_true rfl) (Nat.le_of_ble_eq_true rfl) (fun h79 z79 => ?_)
      subst z79
      refine WQ.st (fun _ _ kz => pw_iload2 dX10_howMany_82 kz) ?_
      refine WQ.bn (fun _ _ ka kb => pw_icmp_ne (tgt := 98) dX10_howMany_83 (by decide) ka kb) (fun c83 => ?_) (fun c83 => ?_)
      · refine WQ.st (fun _ _ kz => pw_iinc6 (v := 1) dX10_howMany_98 (by decide) (by decide) (k := kz)) ?_
        refine WQ.st (fun _ _ kz => pw_goto (tgt := 63) dX10_howMany_101 (by decide) kz) ?_
        rw [nI_1, show (sm (fun i => if en = 99 ∨ sI (i / 5) = en then c i else 0) j) = (sm (fun i => if en = 99 ∨ sI (i / 5) = en then c i else 0) (j + 1)) from by rw [sm, if_neg (fun q => q.elim c74 c83)]; rfl]
        exact ih (j + 1) (by omega)
      · refine WQ.st (fun _ _ kz => pw_lload4 dX10_howMany_86 kz) ?_
        refine WQ.st (fun _ _ kz => pw_aload0 dX10_howMany_88 kz) ?_
        refine WQ.st (fun _ _ kz => pw_getr gX10_38 dX10_howMany_89 (cf_s107 hK.cf) h9 kz) ?_
        refine WQ.st (fun _ _ kz => pw_iload6 dX10_howMany_92 kz) ?_
        refine WQ.st (fun _ _ kz => pw_lld (j := j) dX10_howMany_94 sr9 (ix_m rfl (by omega)) (by omega) kz) ?_
        rw [hc0 j (by omega)]
        refine WQ.st (fun _ _ kz => pw_ladd dX10_howMany_95 kz) ?_
        rw [lN_add, show (sm (fun i => if en = 99 ∨ sI (i / 5) = en then c i else 0) j) + c j = (sm (fun i => if en = 99 ∨ sI (i / 5) = en then c i else 0) (j + 1)) from by rw [sm, if_pos (Or.inr c83)]]
        refine WQ.st (fun _ _ kz => pw_lstore4 dX10_howMany_96 (by decide) (k := kz)) ?_
        refine WQ.st (fun _ _ kz => pw_iinc6 (v := 1) dX10_howMany_98 (by decide) (by decide) (k := kz)) ?_
        refine WQ.st (fun _ _ kz => pw_goto (tgt := 63) dX10_howMany_101 (by decide) kz) ?_
        rw [nI_1]
        exact ih (j + 1) (by omega)
set_option maxRecDepth 20000 in
theorem l_howMany {G : gT} {d : Nat} {S : sS} {V : sV} {Q : sP} {t sl : Nat} {al : Nat → Int32} {sh ls p tm q : Nat} {P0 : sP} {A0 : sV} {B0 : sB} {am s0 : Nat} {en : Int32} (ham : S am = (20, 12)) (ham2 : am = 69 ∨ am = 109) : ∀ (m b : Nat) (P : sP) (A : sV) (B : sB) (rh rb : Nat), b + m = (lgN al q) → KB S V P A B Q t al sh ls p tm q → P 107 9 = some rh → P 107 10 = some rb → ((rh = 114 ∧ rb = 115) ∨ (rh = 115 ∧ rb = 114)) → (∀ j, j < 205 → B rh j = lN (cIt (wtC (TT (atm al p tm) p q) (kpM (A0 am))) (asks al 6) s0 b j)) → (∀ x, x ≠ 107 → P x = P0 x) → (∀ k, k ≠ 9 → k ≠ 10 → P 107 k = P0 107 k) → FrW V A0 B0 V A B → WQ G (d + 4) mX10_howMany 22 [some (.ref 107), some (.int (sI s0)), some (.int en), some (.ref am), some (.int (nI b)), none, none] [] (t, sl, gh S V P A B Q) (fun r h' => r = some (.long (lN (hmN (TT (atm al p tm) p q) (kpM (A0 am)) (asks al 6) s0 (lgN al q) en))) ∧ ∃ (P' : sP) (A' : sV) (B' : sB), h' = (t, sl, gh S V P' A' B' Q) ∧ KB S V P' A' B' Q t al sh ls p tm q ∧ RH P' ∧ (∀ x, x ≠ 107 → P' x = P0 x) ∧ (∀ k, k ≠ 9 → k ≠ 10 → P' 107 k = P0 107 k) ∧ FrW V A0 B0 V A' B') := by
  intro m
  induction m with
  | zero =>
    intro b P A B rh rb hb0 hK h9 h10 hrb hc0 hP0 hP7 hF
    have hn := hK.len
    have sr9 : S rh = (22, 205) := by rcases hrb with ⟨h, -⟩ | ⟨h, -⟩ <;> subst h <;> first | exact cf_s114 hK.cf | exact cf_s115 hK.cf
    have sr10 : S rb = (22, 205) := by rcases hrb with ⟨-, h⟩ | ⟨-, h⟩ <;> subst h <;> first | exact cf_s114 hK.cf | exact cf_s115 hK.cf
    have hb0 : b = (lgN al q) := hb0
    subst hb0
    refine WQ.st (fun _ _ kz => pw_iload4 dX10_howMany_22 kz) ?_
    refine WQ.st (fun _ _ kz => pw_aload0 dX10_howMany_24 kz) ?_
    refine WQ.st (fun _ _ kz => pw_getr gX10_45 dX10_howMany_25 (cf_s107 hK.cf) (cf_p107_4 hK.cf) kz) ?_
    refine WQ.st (fun _ _ kz => pw_geti gX10_55 dX10_howMany_28 (cf_s96 hK.cf) kz) ?_
    rw [hn.1]
    refine WQ.br (fun _ _ ka kb => pw_icmp_ge (tgt := 57) dX10_howMany_31 (by decide) ka kb) (fun c31 => ?_) (fun c31 => absurd (Int32.le_refl _) c31)
    refine WQ.st (fun _ _ kz => pw_lconst (v := 0) dX10_howMany_57 (by decide) kz) ?_
    refine WQ.st (fun _ _ kz => pw_lstore4 dX10_howMany_58 (by decide) (k := kz)) ?_
    refine WQ.st (fun _ _ kz => pw_iconst (v := 0) dX10_howMany_60 (by decide) kz) ?_
    refine WQ.st (fun _ _ kz => pw_istore6 dX10_howMany_61 (by decide) (k := kz)) ?_
    have k9 := l_hmSum (G := G) (d := d + 3) (V := V) (A := A) (Q := Q) (t := t) (sl := sl) (rh := rh) (am := am) (s0 := s0) (en := en) hK h9 sr9 hc0 205 0 rfl
    refine k9.imp (fun r h' z => ?_)
    obtain ⟨rfl, rfl⟩ := z
    exact ⟨rfl, P, A, B, rfl, hK, ⟨rh, rb, h9, h10, hrb⟩, hP0, hP7, hF⟩
  | succ m ih =>
    intro b P A B rh rb hb0 hK h9 h10 hrb hc0 hP0 hP7 hF
    have hn := hK.len
    have sr9 : S rh = (22, 205) := by rcases hrb with ⟨h, -⟩ | ⟨h, -⟩ <;> subst h <;> first | exact cf_s114 hK.cf | exact cf_s115 hK.cf
    have sr10 : S rb = (22, 205) := by rcases hrb with ⟨-, h⟩ | ⟨-, h⟩ <;> subst h <;> first | exact cf_s114 hK.cf | exact cf_s115 hK.cf
    have hle : ∀ b, b ≤ (lgN al q) → sm (cIt (wtC (TT (atm al p tm) p q) (kpM (A0 am))) (asks al 6) s0 b) 205 ≤ 244140625 := fun b hb => Nat.le_trans (cIt_le (n := (lgN al q)) (fun b l s _ _ _ => wtC_le b l s) b hb) (p5_12 (by omega))
    refine WQ.st (fun _ _ kz => pw_iload4 dX10_howMany_22 kz) ?_
    refine WQ.st (fun _ _ kz => pw_aload0 dX10_howMany_24 kz) ?_
    refine WQ.st (fun _ _ kz => pw_getr gX10_45 dX10_howMany_25 (cf_s107 hK.cf) (cf_p107_4 hK.cf) kz) ?_
    refine WQ.st (fun _ _ kz => pw_geti gX10_55 dX10_howMany_28 (cf_s96 hK.cf) kz) ?_
    rw [hn.1]
    refine WQ.br (fun _ _ ka kb => pw_icmp_ge (tgt := 57) dX10_howMany_31 (by decide) ka kb) (fun c31 => absurd c31 (by rw [le_i (ix_n (j := (lgN al q)) (by omega)) (ix_n (j := b) (by omega))]; omega)) (fun c31 => ?_)
    refine WQ.st (fun _ _ kz => pw_iload4 dX10_howMany_34 kz) ?_
    refine WQ.st (fun _ _ kz => pw_aload3 dX10_howMany_36 kz) ?_
    refine WQ.st (fun _ _ kz => pw_len dX10_howMany_37 ham (by decide) kz) ?_
    refine WQ.br (fun _ _ ka kb => pw_icmp_ge (tgt := 57) dX10_howMany_38 (by decide) ka kb) (fun c38 => absurd c38 (by rw [show Int32.ofNat 12 = nI 12 from rfl, le_i (ix_n (j := 12) (by omega)) (ix_n (j := b) (by omega))]; omega)) (fun c38 => ?_)
    refine WQ.st (fun _ _ kz => pw_aload0 dX10_howMany_41 kz) ?_
    refine WQ.st (fun _ _ kz => pw_iload4 dX10_howMany_42 kz) ?_
    refine WQ.st (fun _ _ kz => pw_aload3 dX10_howMany_44 kz) ?_
    refine WQ.st (fun _ _ kz => pw_iload4 dX10_howMany_45 kz) ?_
    refine WQ.st (fun _ _ kz => pw_ald (j := b) dX10_howMany_47 ham (ix_m rfl (by omega)) (by omega) kz) ?_
    refine wq_o2v wX10_countBar lX10_107 rfl dX10_howMany_48 (cf_s107 hK.cf) (k_countBar hK (kp := (kpM (A0 am))) h9 h10 hrb sr9 sr10 (b := b) (by omega) (fun w hw => by unfold kpM; rw [hF.2.1 am (by omega) (by omega) (by omega)]) (fun j hj => by have := sm_at (f := cIt (wtC (TT (atm al p tm) p q) (kpM (A0 am))) (asks al 6) s0 b) hj; have := hle b (by omega); omega) hc0) rfl (Nat.le_of_ble_eq_true rfl) (Nat.le_of_ble_eq_true rfl) (fun h48 z48 => ?_)
    obtain ⟨A1, B1, rfl, hK1, hB1, hF1⟩ := z48
    refine WQ.st (fun _ _ kz => pw_iinc4 (v := 1) dX10_howMany_51 (by decide) (by decide) (k := kz)) ?_
    refine WQ.st (fun _ _ kz => pw_goto (tgt := 22) dX10_howMany_54 (by decide) kz) ?_
    rw [nI_1]
    exact ih (b + 1) _ A1 B1 rb rh (by omega) hK1 (by rw [up2_nk (by decide), up2_eq]) up2_eq (by omega) hB1 (fun x hx => by rw [up2_na hx, up2_na hx]; exact hP0 x hx) (fun k x1 x2 => by rw [up2_nk x2, up2_nk x1]; exact hP7 k x1 x2) (hF.tr hF1)
set_option maxRecDepth 20000 in
theorem k_howMany {G : gT} {d : Nat} {S : sS} {V : sV} {P : sP} {A : sV} {B : sB} {Q : sP} {t sl : Nat} {al : Nat → Int32} {sh ls p tm q : Nat} (hK : KB S V P A B Q t al sh ls p tm q) (hRH : RH P) {am s0 : Nat} {en : Int32} (ham : S am = (20, 12)) (ham2 : am = 69 ∨ am = 109) (h0 : s0 < 41) : WQ G (d + 4) mX10_howMany 0 [some (.ref 107), some (.int (sI s0)), some (.int en), some (.ref am), none, none, none] [] (t, sl, gh S V P A B Q) (fun r h' => r = some (.long (lN (hmN (TT (atm al p tm) p q) (kpM (A am)) (asks al 6) s0 (lgN al q) en))) ∧ ∃ (P' : sP) (A' : sV) (B' : sB), h' = (t, sl, gh S V P' A' B' Q) ∧ KB S V P' A' B' Q t al sh ls p tm q ∧ RH P' ∧ (∀ x, x ≠ 107 → P' x = P x) ∧ (∀ k, k ≠ 9 → k ≠ 10 → P' 107 k = P 107 k) ∧ FrW V A B V A' B') := by
  obtain ⟨rh, rb, h9, h10, hrb⟩ := hRH
  have sr9 : S rh = (22, 205) := by rcases hrb with ⟨h, -⟩ | ⟨h, -⟩ <;> subst h <;> first | exact cf_s114 hK.cf | exact cf_s115 hK.cf
  refine WQ.st (fun _ _ kz => pw_aload0 dX10_howMany_0 kz) ?_
  refine WQ.st (fun _ _ kz => pw_getr gX10_38 dX10_howMany_1 (cf_s107 hK.cf) h9 kz) ?_
  refine WQ.st (fun _ _ kz => pw_lconst (v := 0) dX10_howMany_4 (by decide) kz) ?_
  refine WQ.st (fun _ _ kz => pw_s2v wJ7_fill_d0a16 lX10_104 dX10_howMany_5 (c_filll sr9 (by omega) _) rfl (Nat.le_of_ble_eq_true rfl) (Nat.le_of_ble_eq_true rfl) kz) ?_
  refine WQ.st (fun _ _ kz => pw_aload0 dX10_howMany_8 kz) ?_
  refine WQ.st (fun _ _ kz => pw_getr gX10_38 dX10_howMany_9 (cf_s107 hK.cf) h9 kz) ?_
  refine WQ.st (fun _ _ kz => pw_iload1 dX10_howMany_12 kz) ?_
  refine WQ.st (fun _ _ kz => pw_iconst (v := 0) dX10_howMany_13 (by decide) kz) ?_
  refine wq_s2i wX0_placeOf lX10_91 dX10_howMany_14 (k_placeOf0 _) rfl (Nat.le_of_ble_eq_true rfl) (Nat.le_of_ble_eq_true rfl) (fun h14 z14 => ?_)
  subst z14
  refine WQ.st (fun _ _ kz => pw_lconst (v := 1) dX10_howMany_17 (by decide) kz) ?_
  refine WQ.st (fun _ _ kz => pw_lst (j := s0 * 5 + 2) dX10_howMany_18 sr9 (ix_n (by omega)) (by omega)  kz) ?_
  refine WQ.st (fun _ _ kz => pw_iconst (v := 0) dX10_howMany_19 (by decide) kz) ?_
  refine WQ.st (fun _ _ kz => pw_istore4 dX10_howMany_20 (by decide) (k := kz)) ?_
  refine l_howMany (P0 := P) (A0 := A) (B0 := B) ham ham2 (lgN al q) 0 P A _ rh rb (by omega) (hK.fr ((FrK.b (a := rh) (by omega)).tr (FrK.b (a := rh) (by omega)))) h9 h10 hrb (fun j hj => ?_) (fun _ _ => rfl) (fun _ _ _ => rfl) ((FrW.b (by omega)).tr (FrW.b (by omega)))
  rw [up2_at, pm_up_eq]
  unfold pm_up
  show _ = lN (if j = s0 * 5 + 2 then 1 else 0)
  by_cases e : j = s0 * 5 + 2
  · rw [if_pos e, if_pos e]
    rfl
  · rw [if_neg e, if_neg e, fillF_i hj]
    rfl
