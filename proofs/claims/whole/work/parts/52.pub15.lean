/-! ===== the reference: next, lists ===== -/
def moS (al : Nat → Int32) (p q t : Nat) : Nat := (cmF (atm al p t) p q (lgN al q)).1.2
def moF (al : Nat → Int32) (p q : Nat) (set : Int) : Nat → Nat → (Nat → Int32) → Int32 → Int32
  | 0, _, _, mo => mo
  | m + 1, t, c, mo => if brd set t then moF al p q set m (t + 1) (pm_up c (moS al p q t) (c (moS al p q t) + 1)) (if c (moS al p q t) + 1 ≤ mo then mo else c (moS al p q t) + 1) else moF al p q set m (t + 1) c mo
/-- the cells that mostOften works in -/
def MO (o : Nat) (al : Nat → Int32) (p : Nat) (c : Nat → Int32) (A0 A : sV) : Prop := (∀ a, (a ≠ o + 1 ∧ a < o + 5) ∨ (o + 7 < a ∧ a ≠ o + 9 ∧ a ≠ o + 19) → A a = A0 a) ∧ (∃ x : Int32, A (o + 1) = pm_up al (87 + p) x) ∧ ∀ s, s < 41 → A (o + 19) s = c s
set_option maxRecDepth 20000 in
theorem l_most0 {G : gT} {d : Nat} {S : sS} {V : sV} {P : sP} {B : sB} {Q : sP} {t sl o : Nat} (hF : MF S P o) {A0 : sV} {p q : Nat} {set x4 x5 : Int32} {Z : Option Value → Ph → Prop} (kf : ∀ A : sV, (∀ a, a ≠ o + 19 → A a = A0 a) → (∀ i, i < 41 → A (o + 19) i = 0) → WQ G d mX12_mostOften 38 [some (.ref o), some (.int (nI p)), some (.int (nI q)), some (.int set), some (.int x4), some (.int x5), some (.int (nI 41))] [] (t, sl, gh S V P A B Q) Z) : ∀ (m k : Nat) (A : sV), k + m = 41 → (∀ a, a ≠ o + 19 → A a = A0 a) → (∀ i, i < k → A (o + 19) i = 0) → WQ G d mX12_mostOften 17 [some (.ref o), some (.int (nI p)), some (.int (nI q)), some (.int set), some (.int x4), some (.int x5), some (.int (nI k))] [] (t, sl, gh S V P A B Q) Z := by
  intro m
  induction m with
  | zero =>
    intro k A hk h1 h2
    have hk : k = 41 := hk
    subst hk
    refine WQ.st (fun _ _ kz => pw_iload6 dX12_mostOften_17 kz) ?_
    refine WQ.st (fun _ _ kz => pw_bipush (v := 41) dX12_mostOften_19 (by decide) kz) ?_
    refine WQ.br (fun _ _ ka kb => pw_icmp_ge (tgt := 38) dX12_mostOften_21 (by decide) ka kb) (fun c21 => ?_) (fun c21 => absurd (by decide) c21)
    exact kf A h1 h2
  | succ m ih =>
    intro k A hk h1 h2
    refine WQ.st (fun _ _ kz => pw_iload6 dX12_mostOften_17 kz) ?_
    refine WQ.st (fun _ _ kz => pw_bipush (v := 41) dX12_mostOften_19 (by decide) kz) ?_
    refine WQ.br (fun _ _ ka kb => pw_icmp_ge (tgt := 38) dX12_mostOften_21 (by decide) ka kb) (fun c21 => absurd c21 (by rw [le_i li_41 (ix_n (j := k) (by omega))]; omega)) (fun c21 => ?_)
    refine WQ.st (fun _ _ kz => pw_aload0 dX12_mostOften_24 kz) ?_
    refine WQ.st (fun _ _ kz => pw_getr gX12_73 dX12_mostOften_25 hF.1 (mf_p35 hF) kz) ?_
    refine WQ.st (fun _ _ kz => pw_iload6 dX12_mostOften_28 kz) ?_
    refine WQ.st (fun _ _ kz => pw_iconst (v := 0) dX12_mostOften_30 (by decide) kz) ?_
    refine WQ.st (fun _ _ kz => pw_ast (j := k) dX12_mostOften_31 (mf_s19 hF) (ix_m rfl (by omega)) (by omega)  kz) ?_
    refine WQ.st (fun _ _ kz => pw_iinc6 (v := 1) dX12_mostOften_32 (by decide) (by decide) (k := kz)) ?_
    refine WQ.st (fun _ _ kz => pw_goto (tgt := 17) dX12_mostOften_35 (by decide) kz) ?_
    rw [nI_1]
    refine ih (k + 1) _ (by omega) (fun a ha => by rw [up2_na ha]; exact h1 a ha) (fun i hi => ?_)
    rw [up2_at]
    unfold pm_up
    by_cases e : i = k
    · rw [if_pos e]
    · rw [if_neg e]
      exact h2 i (by omega)
set_option maxRecDepth 20000 in
theorem l_most {G : gT} {d : Nat} {S : sS} {P : sP} {B : sB} {Q : sP} {t sl o : Nat} (hF : MF S P o) {V0 A0 : sV} {al : Nat → Int32} (hD : DV al) (hK : KV (al 2).toInt (fun k => al (75 + k))) {p q : Nat} (hp : p < 5) (hq : q < 4) {set x4 : Int32} (hx4 : x4 = al (87 + p)) : ∀ (m k : Nat) (c : Nat → Int32) (mo : Int32) (V A : sV), k + m = 10 → FV o V0 V → MO o al p c A0 A → WQ G (d + 6) mX12_mostOften 41 [some (.ref o), some (.int (nI p)), some (.int (nI q)), some (.int set), some (.int x4), some (.int mo), some (.int (nI k))] [] (t, sl, gh S V P A B Q) (fun r h' => r = some (.int (moF al p q set.toInt m k c mo)) ∧ ∃ V' A' : sV, h' = (t, sl, gh S V' P A' B Q) ∧ FV o V0 V' ∧ FA o (pm_up A0 (o + 1) al) A') := by
  intro m
  induction m with
  | zero =>
    intro k c mo V A hk hV hM
    have hk : k = 10 := hk
    subst hk
    refine WQ.st (fun _ _ kz => pw_iload6 dX12_mostOften_41 kz) ?_
    refine WQ.st (fun _ _ kz => pw_bipush (v := 10) dX12_mostOften_43 (by decide) kz) ?_
    refine WQ.br (fun _ _ ka kb => pw_icmp_ge (tgt := 136) dX12_mostOften_45 (by decide) ka kb) (fun c45 => ?_) (fun c45 => absurd (by decide) c45)
    refine WQ.st (fun _ _ kz => pw_aload0 dX12_mostOften_136 kz) ?_
    refine WQ.st (fun _ _ kz => pw_getr gX12_13 dX12_mostOften_137 hF.1 (mf_p1 hF) kz) ?_
    refine WQ.st (fun _ _ kz => pw_bipush (v := 87) dX12_mostOften_140 (by decide) kz) ?_
    refine WQ.st (fun _ _ kz => pw_iload1 dX12_mostOften_142 kz) ?_
    refine WQ.st (fun _ _ kz => pw_iadd dX12_mostOften_143 kz) ?_
    refine WQ.st (fun _ _ kz => pw_iload4 dX12_mostOften_144 kz) ?_
    refine WQ.st (fun _ _ kz => pw_ast (j := 87 + p) dX12_mostOften_146 (mf_s1 hF) (by simp (disch := omega) only [nl_87, nI_add, pk_mul, pk_sub]; exact ix_m (by omega) (by omega)) (by omega)  kz) ?_
    refine WQ.st (fun _ _ kz => pw_iload5 dX12_mostOften_147 kz) ?_
    refine ⟨_, _, pw_iret dX12_mostOften_149 rfl rfl rfl rfl, ?_⟩
    refine ⟨rfl, V, _, rfl, hV, fun a ha => ?_⟩
    by_cases e : a = o + 1
    · obtain ⟨x, hx⟩ := hM.2.1
      rw [e, up2_at, hx, pm_up_up, pm_up_eq, hx4, pm_up_self]
    · rw [up2_na e, pm_up_ne e]
      exact hM.1 a (by omega)
  | succ m ih =>
    intro k c mo V A hk hV hM
    refine WQ.st (fun _ _ kz => pw_iload6 dX12_mostOften_41 kz) ?_
    refine WQ.st (fun _ _ kz => pw_bipush (v := 10) dX12_mostOften_43 (by decide) kz) ?_
    refine WQ.br (fun _ _ ka kb => pw_icmp_ge (tgt := 136) dX12_mostOften_45 (by decide) ka kb) (fun c45 => absurd c45 (by rw [le_i li_10 (ix_n (j := k) (by omega))]; omega)) (fun c45 => ?_)
    refine WQ.st (fun _ _ kz => pw_iload3 dX12_mostOften_48 kz) ?_
    refine WQ.st (fun _ _ kz => pw_i2l dX12_mostOften_49 kz) ?_
    refine WQ.st (fun _ _ kz => pw_iload6 dX12_mostOften_50 kz) ?_
    refine WQ.st (fun _ _ kz => pw_s2i wX12_isIn lX12_315 dX12_mostOften_52 (c_isIn _ _) rfl (Nat.le_of_ble_eq_true rfl) (Nat.le_of_ble_eq_true rfl) kz) ?_
    rw [brd_64 _ (by omega), il_t]
    refine WQ.bn (fun _ _ ka kb => pw_if_ne (tgt := 61) dX12_mostOften_55 (by decide) ka kb) (fun c55 => ?_) (fun c55 => ?_)
    · rw [bI_n] at c55
      refine WQ.st (fun _ _ kz => pw_aload0 dX12_mostOften_61 kz) ?_
      refine WQ.st (fun _ _ kz => pw_getr gX12_13 dX12_mostOften_62 hF.1 (mf_p1 hF) kz) ?_
      refine WQ.st (fun _ _ kz => pw_bipush (v := 87) dX12_mostOften_65 (by decide) kz) ?_
      refine WQ.st (fun _ _ kz => pw_iload1 dX12_mostOften_67 kz) ?_
      refine WQ.st (fun _ _ kz => pw_iadd dX12_mostOften_68 kz) ?_
      refine WQ.st (fun _ _ kz => pw_iload6 dX12_mostOften_69 kz) ?_
      refine WQ.st (fun _ _ kz => pw_ast (j := 87 + p) dX12_mostOften_71 (mf_s1 hF) (by simp (disch := omega) only [nl_87, nI_add, pk_mul, pk_sub]; exact ix_m (by omega) (by omega)) (by omega)  kz) ?_
      refine WQ.st (fun _ _ kz => pw_aload0 dX12_mostOften_72 kz) ?_
      refine WQ.st (fun _ _ kz => pw_iload1 dX12_mostOften_73 kz) ?_
      refine WQ.st (fun _ _ kz => pw_iload2 dX12_mostOften_74 kz) ?_
      obtain ⟨hM1, ⟨x, hx⟩, hM3⟩ := hM
      have hat : up2 A (o + 1) (87 + p) (nI k) (o + 1) = atm al p k := by rw [up2_at, hx, pm_up_up]; rfl
      have hok := atm_ok hD hK hp (show k < 10 by omega)
      obtain ⟨V2, A2, k2, f1, f2, f4, f5, f6⟩ := q_laysComesB (d := d) (P := P) (S := S) (G := G) (V := V) (A := (up2 A (o + 1) (87 + p) (nI k))) (B := B) (Q := Q) (t := t) (sl := sl) hF (by rw [hat]; exact hok.1) (by rw [hat]; exact hok.2) hp hq
      rw [hat, atm_lg hq] at f4
      have hs41 : moS al p q k < 41 := by
        have := cm_st hok.1 hok.2 hp hq
        rw [atm_lg hq] at this
        exact this
      have f4 : V2 o 21 = sI (moS al p q k) := f4
      have h19 : ∀ s, s < 41 → A2 (o + 19) s = c s := fun s hs => by rw [f1 _ (by omega) (by omega), up2_na (by omega)]; exact hM3 s hs
      have e20 : sI (moS al p q k) + 20 = nI (moS al p q k) := by unfold sI; rw [show (20 : Int32) = iI 20 from rfl, iI_add, iI_nat]; congr 1; omega
      refine WQ.st (fun _ _ kz => pw_o2v wX12_laysComes lX12_335 rfl dX12_mostOften_75 hF.1 (k2) rfl (Nat.le_of_ble_eq_true rfl) (Nat.le_of_ble_eq_true rfl) kz) ?_
      refine WQ.st (fun _ _ kz => pw_aload0 dX12_mostOften_78 kz) ?_
      refine WQ.st (fun _ _ kz => pw_getr gX12_73 dX12_mostOften_79 hF.1 (mf_p35 hF) kz) ?_
      refine WQ.st (fun _ _ kz => pw_aload0 dX12_mostOften_82 kz) ?_
      refine WQ.st (fun _ _ kz => pw_geti gX12_293 dX12_mostOften_83 hF.1 kz) ?_
      rw [f4]
      refine WQ.st (fun _ _ kz => pw_bipush (v := 20) dX12_mostOften_86 (by decide) kz) ?_
      refine WQ.st (fun _ _ kz => pw_iadd dX12_mostOften_88 kz) ?_
      rw [e20]
      refine WQ.st (fun _ _ kz => pw_dup2_11 dX12_mostOften_89 rfl rfl kz) ?_
      refine WQ.st (fun _ _ kz => pw_ald (j := moS al p q k) dX12_mostOften_90 (mf_s19 hF) (ix_n (by omega)) (by omega) kz) ?_
      rw [h19 _ hs41]
      refine WQ.st (fun _ _ kz => pw_iconst (v := 1) dX12_mostOften_91 (by decide) kz) ?_
      refine WQ.st (fun _ _ kz => pw_iadd dX12_mostOften_92 kz) ?_
      refine WQ.st (fun _ _ kz => pw_ast (j := moS al p q k) dX12_mostOften_93 (mf_s19 hF) (ix_n (by omega)) (by omega)  kz) ?_
      refine WQ.st (fun _ _ kz => pw_aload0 dX12_mostOften_94 kz) ?_
      refine WQ.st (fun _ _ kz => pw_getr gX12_73 dX12_mostOften_95 hF.1 (mf_p35 hF) kz) ?_
      refine WQ.st (fun _ _ kz => pw_aload0 dX12_mostOften_98 kz) ?_
      refine WQ.st (fun _ _ kz => pw_geti gX12_293 dX12_mostOften_99 hF.1 kz) ?_
      rw [f4]
      refine WQ.st (fun _ _ kz => pw_bipush (v := 20) dX12_mostOften_102 (by decide) kz) ?_
      refine WQ.st (fun _ _ kz => pw_iadd dX12_mostOften_104 kz) ?_
      rw [e20]
      refine WQ.st (fun _ _ kz => pw_ald (j := moS al p q k) dX12_mostOften_105 (mf_s19 hF) (ix_n (by omega)) (by omega) kz) ?_
      rw [up2_eq]
      refine WQ.st (fun _ _ kz => pw_iload5 dX12_mostOften_106 kz) ?_
      refine WQ.br (fun _ _ ka kb => pw_icmp_le (tgt := 126) dX12_mostOften_108 (by decide) ka kb) (fun c108 => ?_) (fun c108 => ?_)
      · refine WQ.st (fun _ _ kz => pw_iload5 dX12_mostOften_126 kz) ?_
        refine WQ.st (fun _ _ kz => pw_istore5 dX12_mostOften_128 (by decide) (k := kz)) ?_
        refine WQ.st (fun _ _ kz => pw_iinc6 (v := 1) dX12_mostOften_130 (by decide) (by decide) (k := kz)) ?_
        refine WQ.st (fun _ _ kz => pw_goto (tgt := 41) dX12_mostOften_133 (by decide) kz) ?_
        rw [nI_1]
        refine (ih (k + 1) (pm_up c (moS al p q k) (c (moS al p q k) + 1)) mo V2 _ (by omega) (hV.tr f2) ⟨fun a ha => by rw [up2_na (by omega), f1 a (by omega) (by omega), up2_na (by omega)]; exact hM1 a ha, ⟨nI k, by rw [up2_na (by omega), f1 _ (by omega) (by omega), hat]; rfl⟩, fun s hs => ?_⟩).imp (fun r h' z => ?_)
        · rw [up2_at]
          unfold pm_up
          by_cases e : s = moS al p q k
          · rw [if_pos e, if_pos e]
          · rw [if_neg e, if_neg e]
            exact h19 s hs
        · rw [moF, if_pos c55, if_pos c108]
          exact z
      · refine WQ.st (fun _ _ kz => pw_aload0 dX12_mostOften_111 kz) ?_
        refine WQ.st (fun _ _ kz => pw_getr gX12_73 dX12_mostOften_112 hF.1 (mf_p35 hF) kz) ?_
        refine WQ.st (fun _ _ kz => pw_aload0 dX12_mostOften_115 kz) ?_
        refine WQ.st (fun _ _ kz => pw_geti gX12_293 dX12_mostOften_116 hF.1 kz) ?_
        rw [f4]
        refine WQ.st (fun _ _ kz => pw_bipush (v := 20) dX12_mostOften_119 (by decide) kz) ?_
        refine WQ.st (fun _ _ kz => pw_iadd dX12_mostOften_121 kz) ?_
        rw [e20]
        refine WQ.st (fun _ _ kz => pw_ald (j := moS al p q k) dX12_mostOften_122 (mf_s19 hF) (ix_n (by omega)) (by omega) kz) ?_
        rw [up2_eq]
        refine WQ.st (fun _ _ kz => pw_goto (tgt := 128) dX12_mostOften_123 (by decide) kz) ?_
        refine WQ.st (fun _ _ kz => pw_istore5 dX12_mostOften_128 (by decide) (k := kz)) ?_
        refine WQ.st (fun _ _ kz => pw_iinc6 (v := 1) dX12_mostOften_130 (by decide) (by decide) (k := kz)) ?_
        refine WQ.st (fun _ _ kz => pw_goto (tgt := 41) dX12_mostOften_133 (by decide) kz) ?_
        rw [nI_1]
        refine (ih (k + 1) (pm_up c (moS al p q k) (c (moS al p q k) + 1)) (c (moS al p q k) + 1) V2 _ (by omega) (hV.tr f2) ⟨fun a ha => by rw [up2_na (by omega), f1 a (by omega) (by omega), up2_na (by omega)]; exact hM1 a ha, ⟨nI k, by rw [up2_na (by omega), f1 _ (by omega) (by omega), hat]; rfl⟩, fun s hs => ?_⟩).imp (fun r h' z => ?_)
        · rw [up2_at]
          unfold pm_up
          by_cases e : s = moS al p q k
          · rw [if_pos e, if_pos e]
          · rw [if_neg e, if_neg e]
            exact h19 s hs
        · rw [moF, if_pos c55, if_neg c108]
          exact z
    · rw [bI_0] at c55
      refine WQ.st (fun _ _ kz => pw_goto (tgt := 130) dX12_mostOften_58 (by decide) kz) ?_
      refine WQ.st (fun _ _ kz => pw_iinc6 (v := 1) dX12_mostOften_130 (by decide) (by decide) (k := kz)) ?_
      refine WQ.st (fun _ _ kz => pw_goto (tgt := 41) dX12_mostOften_133 (by decide) kz) ?_
      rw [nI_1]
      refine (ih (k + 1) c mo V A (by omega) hV hM).imp (fun r h' z => ?_)
      rw [moF, if_neg (by rw [c55]; decide)]
      exact z
set_option maxRecDepth 20000 in
theorem c_mostOften {G : gT} {d : Nat} {S : sS} {V : sV} {P : sP} {A : sV} {B : sB} {Q : sP} {t sl o : Nat} (hF : MF S P o) {al : Nat → Int32} (hal : A (o + 1) = al) (hD : DV al) (hK : KV (al 2).toInt (fun k => al (75 + k))) {p q : Nat} (hp : p < 5) (hq : q < 4) (set : Int32) : WQ G (d + 6) mX12_mostOften 0 [some (.ref o), some (.int (nI p)), some (.int (nI q)), some (.int set), none, none, none] [] (t, sl, gh S V P A B Q) (fun r h' => r = some (.int (moF al p q set.toInt 10 0 (fun _ => 0) 0)) ∧ ∃ V' A' : sV, h' = (t, sl, gh S V' P A' B Q) ∧ FV o V V' ∧ FA o A A') := by
  refine WQ.st (fun _ _ kz => pw_aload0 dX12_mostOften_0 kz) ?_
  refine WQ.st (fun _ _ kz => pw_getr gX12_13 dX12_mostOften_1 hF.1 (mf_p1 hF) kz) ?_
  refine WQ.st (fun _ _ kz => pw_bipush (v := 87) dX12_mostOften_4 (by decide) kz) ?_
  refine WQ.st (fun _ _ kz => pw_iload1 dX12_mostOften_6 kz) ?_
  refine WQ.st (fun _ _ kz => pw_iadd dX12_mostOften_7 kz) ?_
  refine WQ.st (fun _ _ kz => pw_ald (j := 87 + p) dX12_mostOften_8 (mf_s1 hF) (by simp (disch := omega) only [nl_87, nI_add, pk_mul, pk_sub]; exact ix_m (by omega) (by omega)) (by omega) kz) ?_
  rw [hal]
  refine WQ.st (fun _ _ kz => pw_istore4 dX12_mostOften_9 (by decide) (k := kz)) ?_
  refine WQ.st (fun _ _ kz => pw_iconst (v := 0) dX12_mostOften_11 (by decide) kz) ?_
  refine WQ.st (fun _ _ kz => pw_istore5 dX12_mostOften_12 (by decide) (k := kz)) ?_
  refine WQ.st (fun _ _ kz => pw_iconst (v := 0) dX12_mostOften_14 (by decide) kz) ?_
  refine WQ.st (fun _ _ kz => pw_istore6 dX12_mostOften_15 (by decide) (k := kz)) ?_
  have kk := l_most0 (S := S) (P := P) (G := G) (V := V) (B := B) (Q := Q) (t := t) (sl := sl) (d := d + 6) hF (A0 := A) (p := p) (q := q) (set := set) (x4 := al (87 + p)) (x5 := 0) (Z := fun r h' => r = some (.int (moF al p q set.toInt 10 0 (fun _ => 0) 0)) ∧ ∃ V' A' : sV, h' = (t, sl, gh S V' P A' B Q) ∧ FV o V V' ∧ FA o (pm_up A (o + 1) al) A') (fun A1 h1 h2 => by
    refine WQ.st (fun _ _ kz => pw_iconst (v := 0) dX12_mostOften_38 (by decide) kz) ?_
    refine WQ.st (fun _ _ kz => pw_istore6 dX12_mostOften_39 (by decide) (k := kz)) ?_
    exact l_most (S := S) (P := P) (G := G) (B := B) (Q := Q) (t := t) (sl := sl) (d := d) hF (V0 := V) (A0 := A) (al := al) hD hK hp hq (set := set) rfl 10 0 (fun _ => 0) 0 V A1 rfl FV.rfl ⟨fun a ha => h1 a (by omega), ⟨al (87 + p), by rw [h1 _ (by omega), pm_up_self]; exact hal⟩, h2⟩) 41 0 A rfl (fun _ _ => rfl) (fun i hi => absurd hi (Nat.not_lt_zero i))
  rw [← hal, pm_up_self] at kk
  rw [← hal]
  exact kk
def nxI (al : Nat → Int32) (p q : Nat) (set : Int) (k : Nat) : Int32 := if k = q then 11 else moF al p k set 10 0 (fun _ => 0) 0
def nxL (f : Nat → Int32) : Nat → Nat → Int32 → Int32 → Int32
  | 0, _, b, _ => b
  | m + 1, k, b, l => if f k < l then nxL f m (k + 1) (nI k) (f k) else nxL f m (k + 1) b l
def sp_next (al so mn : Nat → Int32) (nb : Nat → Int64) (x y z : Int) : Int32 := if sp_nh al so mn nb x y z = 0 then (if tmS al y.toNat z.toNat (fun k => nb (40 * x.toNat + k)) 10 = 0 then -1 else nxL (nxI al y.toNat z.toNat (tmS al y.toNat z.toNat (fun k => nb (40 * x.toNat + k)) 10).toInt) (al 1).toInt.toNat 0 (-1) 11) else sp_nh al so mn nb x y z
set_option maxRecDepth 20000 in
theorem l_next {G : gT} {d : Nat} {S : sS} {P : sP} {B : sB} {Q : sP} {t sl o : Nat} (hF : MF S P o) {V0 A0 : sV} {al : Nat → Int32} (hal : A0 (o + 1) = al) (hD : DV al) (hK : KV (al 2).toInt (fun k => al (75 + k))) {p q N : Nat} (hp : p < 5) (hq : q < 4) (hN4 : N ≤ 4) (hN : al 1 = nI N) {set x1 x4 : Int32} (hset : ¬ set = 0) : ∀ (m k : Nat) (b l : Int32) (V A : sV) (x9 : Option Value), k + m = N → FV o V0 V → FA o A0 A → WQ G (d + 7) mX12_next 41 [some (.ref o), some (.int x1), some (.int (nI p)), some (.int (nI q)), some (.int x4), some (.int set), some (.int b), some (.int l), some (.int (nI k)), x9] [] (t, sl, gh S V P A B Q) (fun r h' => r = some (.int (nxL (nxI al p q set.toInt) m k b l)) ∧ ∃ V' A' : sV, h' = (t, sl, gh S V' P A' B Q) ∧ FV o V0 V' ∧ FA o A0 A') := by
  intro m
  induction m with
  | zero =>
    intro k b l V A x9 hk hV hA0
    have hal2 : A (o + 1) = al := (hA0 _ (by omega)).trans hal
    have hk : k = N := hk
    subst hk
    refine WQ.st (fun _ _ kz => pw_iload8 dX12_next_41 kz) ?_
    refine WQ.st (fun _ _ kz => pw_aload0 dX12_next_43 kz) ?_
    refine WQ.st (fun _ _ kz => pw_getr gX12_13 dX12_next_44 hF.1 (mf_p1 hF) kz) ?_
    refine WQ.st (fun _ _ kz => pw_iconst (v := 1) dX12_next_47 (by decide) kz) ?_
    refine WQ.st (fun _ _ kz => pw_ald (j := 1) dX12_next_48 (mf_s1 hF) rfl (by omega) kz) ?_
    rw [hal2, hN]
    refine WQ.br (fun _ _ ka kb => pw_icmp_ge (tgt := 103) dX12_next_49 (by decide) ka kb) (fun c49 => ?_) (fun c49 => absurd (Int32.le_refl _) c49)
    refine WQ.st (fun _ _ kz => pw_iload6 dX12_next_103 kz) ?_
    refine ⟨_, _, pw_iret dX12_next_105 rfl rfl rfl rfl, ?_⟩
    exact ⟨rfl, V, A, rfl, hV, hA0⟩
  | succ m ih =>
    intro k b l V A x9 hk hV hA0
    have hal2 : A (o + 1) = al := (hA0 _ (by omega)).trans hal
    refine WQ.st (fun _ _ kz => pw_iload8 dX12_next_41 kz) ?_
    refine WQ.st (fun _ _ kz => pw_aload0 dX12_next_43 kz) ?_
    refine WQ.st (fun _ _ kz => pw_getr gX12_13 dX12_next_44 hF.1 (mf_p1 hF) kz) ?_
    refine WQ.st (fun _ _ kz => pw_iconst (v := 1) dX12_next_47 (by decide) kz) ?_
    refine WQ.st (fun _ _ kz => pw_ald (j := 1) dX12_next_48 (mf_s1 hF) rfl (by omega) kz) ?_
    rw [hal2, hN]
    refine WQ.br (fun _ _ ka kb => pw_icmp_ge (tgt := 103) dX12_next_49 (by decide) ka kb) (fun c49 => absurd c49 (by rw [le_i (ix_n (j := N) (by omega)) (ix_n (j := k) (by omega))]; omega)) (fun c49 => ?_)
    refine WQ.st (fun _ _ kz => pw_iload5 dX12_next_52 kz) ?_
    refine WQ.br (fun _ _ ka kb => pw_if_eq (tgt := 103) dX12_next_54 (by decide) ka kb) (fun c54 => absurd c54 hset) (fun c54 => ?_)
    refine WQ.st (fun _ _ kz => pw_iload8 dX12_next_57 kz) ?_
    refine WQ.st (fun _ _ kz => pw_iload3 dX12_next_59 kz) ?_
    refine WQ.bn (fun _ _ ka kb => pw_icmp_ne (tgt := 68) dX12_next_60 (by decide) ka kb) (fun c60 => ?_) (fun c60 => ?_)
    · rw [nI_eq (by omega) (by omega)] at c60
      refine WQ.st (fun _ _ kz => pw_aload0 dX12_next_68 kz) ?_
      refine WQ.st (fun _ _ kz => pw_iload2 dX12_next_69 kz) ?_
      refine WQ.st (fun _ _ kz => pw_iload8 dX12_next_70 kz) ?_
      refine WQ.st (fun _ _ kz => pw_iload5 dX12_next_72 kz) ?_
      obtain ⟨_, _, k2, rfl, V2, A2, rfl, f1, f2⟩ := c_mostOften (d := d) (P := P) (S := S) (G := G) (V := V) (A := A) (B := B) (Q := Q) (t := t) (sl := sl) hF hal2 hD hK hp (show k < 4 by omega) set
      refine WQ.st (fun _ _ kz => pw_o3i wX12_mostOften lX12_488 rfl dX12_next_74 hF.1 (k2) rfl (Nat.le_of_ble_eq_true rfl) (Nat.le_of_ble_eq_true rfl) kz) ?_
      refine WQ.st (fun _ _ kz => pw_istore9 dX12_next_77 (by decide) (k := kz)) ?_
      refine WQ.st (fun _ _ kz => pw_iload9 dX12_next_79 kz) ?_
      refine WQ.st (fun _ _ kz => pw_iload7 dX12_next_81 kz) ?_
      refine WQ.br (fun _ _ ka kb => pw_icmp_lt (tgt := 89) dX12_next_83 (by decide) ka kb) (fun c83 => ?_) (fun c83 => ?_)
      · refine WQ.st (fun _ _ kz => pw_iload8 dX12_next_89 kz) ?_
        refine WQ.st (fun _ _ kz => pw_istore6 dX12_next_91 (by decide) (k := kz)) ?_
        refine WQ.st (fun _ _ kz => pw_iload9 dX12_next_93 kz) ?_
        refine WQ.st (fun _ _ kz => pw_istore7 dX12_next_95 (by decide) (k := kz)) ?_
        refine WQ.st (fun _ _ kz => pw_iinc8 (v := 1) dX12_next_97 (by decide) (by decide) (k := kz)) ?_
        refine WQ.st (fun _ _ kz => pw_goto (tgt := 41) dX12_next_100 (by decide) kz) ?_
        have ei : nxI al p q set.toInt k = (moF al p k set.toInt 10 0 (fun _ => 0) 0) := by unfold nxI; rw [if_neg c60]
        rw [nI_1]
        refine (ih (k + 1) (nI k) (moF al p k set.toInt 10 0 (fun _ => 0) 0) V2 A2 (some (.int (moF al p k set.toInt 10 0 (fun _ => 0) 0))) (by omega) (hV.tr f1) (hA0.tr f2)).imp (fun r h' z => ?_)
        rw [nxL, ei, if_pos c83]
        exact z
      · refine WQ.st (fun _ _ kz => pw_goto (tgt := 97) dX12_next_86 (by decide) kz) ?_
        refine WQ.st (fun _ _ kz => pw_iinc8 (v := 1) dX12_next_97 (by decide) (by decide) (k := kz)) ?_
        refine WQ.st (fun _ _ kz => pw_goto (tgt := 41) dX12_next_100 (by decide) kz) ?_
        have ei : nxI al p q set.toInt k = (moF al p k set.toInt 10 0 (fun _ => 0) 0) := by unfold nxI; rw [if_neg c60]
        rw [nI_1]
        refine (ih (k + 1) b l V2 A2 (some (.int (moF al p k set.toInt 10 0 (fun _ => 0) 0))) (by omega) (hV.tr f1) (hA0.tr f2)).imp (fun r h' z => ?_)
        rw [nxL, ei, if_neg c83]
        exact z
    · rw [nI_eq (by omega) (by omega)] at c60
      refine WQ.st (fun _ _ kz => pw_bipush (v := 11) dX12_next_63 (by decide) kz) ?_
      refine WQ.st (fun _ _ kz => pw_goto (tgt := 77) dX12_next_65 (by decide) kz) ?_
      refine WQ.st (fun _ _ kz => pw_istore9 dX12_next_77 (by decide) (k := kz)) ?_
      refine WQ.st (fun _ _ kz => pw_iload9 dX12_next_79 kz) ?_
      refine WQ.st (fun _ _ kz => pw_iload7 dX12_next_81 kz) ?_
      refine WQ.br (fun _ _ ka kb => pw_icmp_lt (tgt := 89) dX12_next_83 (by decide) ka kb) (fun c83 => ?_) (fun c83 => ?_)
      · refine WQ.st (fun _ _ kz => pw_iload8 dX12_next_89 kz) ?_
        refine WQ.st (fun _ _ kz => pw_istore6 dX12_next_91 (by decide) (k := kz)) ?_
        refine WQ.st (fun _ _ kz => pw_iload9 dX12_next_93 kz) ?_
        refine WQ.st (fun _ _ kz => pw_istore7 dX12_next_95 (by decide) (k := kz)) ?_
        refine WQ.st (fun _ _ kz => pw_iinc8 (v := 1) dX12_next_97 (by decide) (by decide) (k := kz)) ?_
        refine WQ.st (fun _ _ kz => pw_goto (tgt := 41) dX12_next_100 (by decide) kz) ?_
        have ei : nxI al p q set.toInt k = 11 := by unfold nxI; rw [if_pos c60]
        rw [nI_1]
        refine (ih (k + 1) (nI k) 11 V A (some (.int 11)) (by omega) hV hA0).imp (fun r h' z => ?_)
        rw [nxL, ei, if_pos c83]
        exact z
      · refine WQ.st (fun _ _ kz => pw_goto (tgt := 97) dX12_next_86 (by decide) kz) ?_
        refine WQ.st (fun _ _ kz => pw_iinc8 (v := 1) dX12_next_97 (by decide) (by decide) (k := kz)) ?_
        refine WQ.st (fun _ _ kz => pw_goto (tgt := 41) dX12_next_100 (by decide) kz) ?_
        have ei : nxI al p q set.toInt k = 11 := by unfold nxI; rw [if_pos c60]
        rw [nI_1]
        refine (ih (k + 1) b l V A (some (.int 11)) (by omega) hV hA0).imp (fun r h' z => ?_)
        rw [nxL, ei, if_neg c83]
        exact z
set_option maxRecDepth 20000 in
theorem p_next {G : gT} {d : Nat} {S : sS} {V : sV} {P : sP} {A : sV} {B : sB} {Q : sP} {t sl o : Nat} (hF : MF S P o) (hA : AV (A (o + 1)))  (x y z : Int32) : WQ G (d + 9) mX12_next 0 [some (.ref o), some (.int x), some (.int y), some (.int z), none, none, none, none, none, none] [] (t, sl, gh S V P A B Q) (PZ o S P Q t sl V A B (.int (sp_next (A (o + 1)) (A (o + 20)) (A (o + 21)) (B (o + 22)) x.toInt y.toInt z.toInt)) (A (o + 1))) := by
  refine WQ.st (fun _ _ kz => pw_aload0 dX12_next_0 kz) ?_
  refine WQ.st (fun _ _ kz => pw_iconst (v := 0) dX12_next_1 (by decide) kz) ?_
  refine WQ.st (fun _ _ kz => pw_puti (pX12_1 _ rfl) dX12_next_2 hF.1 rfl rfl kz) ?_
  refine WQ.st (fun _ _ kz => pw_aload0 dX12_next_5 kz) ?_
  refine WQ.st (fun _ _ kz => pw_iload1 dX12_next_6 kz) ?_
  refine WQ.st (fun _ _ kz => pw_iload2 dX12_next_7 kz) ?_
  refine WQ.st (fun _ _ kz => pw_iload3 dX12_next_8 kz) ?_
  obtain ⟨_, _, k0, rfl, rfl⟩ := c_noHeard (d := d + 5) (P := P) (S := S) (G := G) (V := (up2 V o 0 0)) (A := A) (B := B) (Q := Q) (t := t) (sl := sl) hF hA.dv x y z
  refine WQ.st (fun _ _ kz => pw_o3i wX12_noHeard lX12_474 rfl dX12_next_9 hF.1 (k0) rfl (Nat.le_of_ble_eq_true rfl) (Nat.le_of_ble_eq_true rfl) kz) ?_
  refine WQ.st (fun _ _ kz => pw_istore4 dX12_next_12 (by decide) (k := kz)) ?_
  refine WQ.st (fun _ _ kz => pw_iload4 dX12_next_14 kz) ?_
  refine WQ.br (fun _ _ ka kb => pw_if_eq (tgt := 22) dX12_next_16 (by decide) ka kb) (fun c16 => ?_) (fun c16 => ?_)
  · obtain ⟨tr, p, q, et, tt, htr, ep, tp, hp, eq, tq, hq, hmn, hnb, hPy, hQz⟩ := nh_0 hA.dv c16
    rw [et, ep, eq]
    refine WQ.st (fun _ _ kz => pw_aload0 dX12_next_22 kz) ?_
    refine WQ.st (fun _ _ kz => pw_iload1 dX12_next_23 kz) ?_
    refine WQ.st (fun _ _ kz => pw_iload2 dX12_next_24 kz) ?_
    refine WQ.st (fun _ _ kz => pw_iload3 dX12_next_25 kz) ?_
    obtain ⟨_, _, k6, rfl, V3, A3, rfl, f1, f2⟩ := c_tempersOf (d := d + 2) (P := P) (S := S) (G := G) (V := (up2 V o 0 0)) (A := A) (B := B) (Q := Q) (t := t) (sl := sl) hF rfl hA.dv hA.kv htr hp hq hmn
    refine WQ.st (fun _ _ kz => pw_o3i wX12_tempersOf lX12_485 rfl dX12_next_26 hF.1 (k6) rfl (Nat.le_of_ble_eq_true rfl) (Nat.le_of_ble_eq_true rfl) kz) ?_
    refine WQ.st (fun _ _ kz => pw_istore5 dX12_next_29 (by decide) (k := kz)) ?_
    refine WQ.st (fun _ _ kz => pw_iconst (v := -1) dX12_next_31 (by decide) kz) ?_
    refine WQ.st (fun _ _ kz => pw_istore6 dX12_next_32 (by decide) (k := kz)) ?_
    refine WQ.st (fun _ _ kz => pw_bipush (v := 11) dX12_next_34 (by decide) kz) ?_
    refine WQ.st (fun _ _ kz => pw_istore7 dX12_next_36 (by decide) (k := kz)) ?_
    refine WQ.st (fun _ _ kz => pw_iconst (v := 0) dX12_next_38 (by decide) kz) ?_
    refine WQ.st (fun _ _ kz => pw_istore8 dX12_next_39 (by decide) (k := kz)) ?_
    have hn4 := hA.dv.n4
    have hal3 : A3 (o + 1) = A (o + 1) := f2 _ (by omega)
    by_cases hs : (tmS (A (o + 1)) p q (fun k => B (o + 22) (40 * tr + k)) 10) = 0
    · skip
      refine WQ.st (fun _ _ kz => pw_iload8 dX12_next_41 kz) ?_
      refine WQ.st (fun _ _ kz => pw_aload0 dX12_next_43 kz) ?_
      refine WQ.st (fun _ _ kz => pw_getr gX12_13 dX12_next_44 hF.1 (mf_p1 hF) kz) ?_
      refine WQ.st (fun _ _ kz => pw_iconst (v := 1) dX12_next_47 (by decide) kz) ?_
      refine WQ.st (fun _ _ kz => pw_ald (j := 1) dX12_next_48 (mf_s1 hF) rfl (by omega) kz) ?_
      refine WQ.br (fun _ _ ka kb => pw_icmp_ge (tgt := 103) dX12_next_49 (by decide) ka kb) (fun c49 => ?_) (fun c49 => ?_)
      · refine WQ.st (fun _ _ kz => pw_iload6 dX12_next_103 kz) ?_
        refine ⟨_, _, pw_iret dX12_next_105 rfl rfl rfl rfl, ?_⟩
        have c0 : sp_next (A (o + 1)) (A (o + 20)) (A (o + 21)) (B (o + 22)) x.toInt y.toInt z.toInt = -1 := by unfold sp_next; rw [if_pos c16, tt, tp, tq, Int.toNat_natCast, Int.toNat_natCast, Int.toNat_natCast, if_pos hs]
        rw [← et, ← ep, ← eq, c0]
        exact PZ.q ((FP.up (by decide)).tr f1.FP) f2.FQ FB.rfl
      · refine WQ.st (fun _ _ kz => pw_iload5 dX12_next_52 kz) ?_
        refine WQ.br (fun _ _ ka kb => pw_if_eq (tgt := 103) dX12_next_54 (by decide) ka kb) (fun c54 => ?_) (fun c54 => absurd hs c54)
        refine WQ.st (fun _ _ kz => pw_iload6 dX12_next_103 kz) ?_
        refine ⟨_, _, pw_iret dX12_next_105 rfl rfl rfl rfl, ?_⟩
        have c0 : sp_next (A (o + 1)) (A (o + 20)) (A (o + 21)) (B (o + 22)) x.toInt y.toInt z.toInt = -1 := by unfold sp_next; rw [if_pos c16, tt, tp, tq, Int.toNat_natCast, Int.toNat_natCast, Int.toNat_natCast, if_pos hs]
        rw [← et, ← ep, ← eq, c0]
        exact PZ.q ((FP.up (by decide)).tr f1.FP) f2.FQ FB.rfl
    refine (l_next (S := S) (P := P) (G := G) (B := B) (Q := Q) (t := t) (sl := sl) (d := d + 2) hF (V0 := V3) (A0 := A3) hal3 hA.dv hA.kv (N := (A (o + 1) 1).toInt.toNat) hp hq (by omega) (nI_ofI hn4.1) hs _ 0 (-1) 11 V3 A3 _ (Nat.zero_add _) FV.rfl FA.rfl).imp (fun r h' zz => ?_)
    obtain ⟨rfl, V4, A4, rfl, g1, g2⟩ := zz
    have c0 : sp_next (A (o + 1)) (A (o + 20)) (A (o + 21)) (B (o + 22)) x.toInt y.toInt z.toInt = nxL (nxI (A (o + 1)) p q (tmS (A (o + 1)) p q (fun k => B (o + 22) (40 * tr + k)) 10).toInt) (A (o + 1) 1).toInt.toNat 0 (-1) 11 := by unfold sp_next; rw [if_pos c16, tt, tp, tq, Int.toNat_natCast, Int.toNat_natCast, Int.toNat_natCast, if_neg hs]
    rw [← et, ← ep, ← eq, c0]
    exact PZ.q (((FP.up (by decide)).tr f1.FP).tr g1.FP) (f2.FQ.tr g2.FQ) FB.rfl
  · refine WQ.st (fun _ _ kz => pw_iload4 dX12_next_19 kz) ?_
    refine ⟨_, _, pw_iret dX12_next_21 rfl rfl rfl rfl, ?_⟩
    have c0 : sp_next (A (o + 1)) (A (o + 20)) (A (o + 21)) (B (o + 22)) x.toInt y.toInt z.toInt = sp_nh (A (o + 1)) (A (o + 20)) (A (o + 21)) (B (o + 22)) x.toInt y.toInt z.toInt := by unfold sp_next; rw [if_neg c16]
    rw [c0]
    exact PZ.q (FP.up (by decide)) FQ.rfl FB.rfl
