theorem DE.seed {S : sS} {V : sV} {P : sP} {A : sV} {B : sB} {Q : sP} {t : Nat} {al : Nat → Int32} {sh ls a : Nat} (h : DE S V P A B Q t al sh ls a) (x : Int32) : DE S (up2 V 137 4 x) P A B Q t al sh ls a ∧ FrD a S V P A B Q t S (up2 V 137 4 x) P A B Q t := by
  have ha := h.a2
  exact h.upd (fun y _ hy => up2_na hy) (fun _ _ => rfl) (fun _ _ => rfl) h.kv (h.se.fr (up2_na (by omega)) (fun _ _ _ => rfl))
section DDS
variable (al : Nat → Int32) {p o k : Nat}
theorem dd_c (hp : p < 5) (ho : o < 5) : sp_why al ((10 * p + o : Nat) : Int) = sp_wp al (p : Int) (o : Int) ∧ sp_act al ((10 * p + o : Nat) : Int) = sp_pc al p o := by
  have h := to_c al (n := 10 * p + o) (by omega)
  rw [show (10 * p + o) / 10 = p by omega, show (10 * p + o) % 10 = o by omega] at h
  exact h
theorem dd_b (hp : p < 5) (ho : o < 5) : sp_why al ((100 + 10 * p + o : Nat) : Int) = sp_wb al (p : Int) (o : Int) ∧ sp_act al ((100 + 10 * p + o : Nat) : Int) = sp_pb al p o := by
  have h := to_b al (n := 100 + 10 * p + o) (by omega) (by omega)
  rw [show (100 + 10 * p + o) / 10 - 10 = p by omega, show (100 + 10 * p + o) % 10 = o by omega] at h
  exact h
theorem dd_l (hp : p < 5) (ho : o < 5) (hk : k < 9) : sp_why al ((1000 + 1000 * p + 100 * o + (1 + k) : Nat) : Int) = sp_wl al (p : Int) (o : Int) ((1 + k : Nat) : Int) ∧ sp_act al ((1000 + 1000 * p + 100 * o + (1 + k) : Nat) : Int) = sp_lend al p o (nI (1 + k)) := by
  have h := to_l al (n := 1000 + 1000 * p + 100 * o + (1 + k)) (by omega) (by omega)
  rw [show (1000 + 1000 * p + 100 * o + (1 + k)) / 1000 - 1 = p by omega, show (1000 + 1000 * p + 100 * o + (1 + k)) / 100 % 10 = o by omega, show (1000 + 1000 * p + 100 * o + (1 + k)) % 100 = 1 + k by omega] at h
  exact h
end DDS
set_option maxRecDepth 20000 in
theorem k_doDrawn {G : gT} {d : Nat} {S : sS} {V : sV} {P : sP} {A : sV} {B : sB} {Q : sP} {t sl : Nat} {al : Nat → Int32} {sh ls a : Nat} (hE : DE S V P A B Q t al sh ls a) (hls : ls + 1 < 2000000000) : WQ G (d + 6) mX2_doDrawn 0 [some (.ref 137), some (.ref a), none, none, none] [] (t, sl, gh S V P A B Q) (fun r h' => ∃ w : Int32, r = some (.int w) ∧ decide (w = 0) = (sp_dd al (V 137 4)).1.1 ∧ ∃ (t' sl' ls' : Nat) (S' : sS) (V' : sV) (P' : sP) (A' : sV) (B' : sB) (Q' : sP), h' = (t', sl', gh S' V' P' A' B' Q') ∧ DE S' V' P' A' B' Q' t' (sp_dd al (V 137 4)).1.2 sh ls' a ∧ ls' ≤ ls + 1 ∧ FrD a S V P A B Q t S' V' P' A' B' Q' t' ∧ (∀ k1 k2, Room2 S Q t sl k1 k2 → Room2 S' Q' t' sl' k1 k2) ∧ V' 137 4 = (sp_dd al (V 137 4)).2) := by
  have hC := hE.dc.ka.cf
  have hD := hE.dc.ka.dv
  have hSe := hE.dc.ka.se
  have hST := hE.st
  have ha := hE.a2
  have hsa := hE.dc.ka.sa
  refine WQ.st (fun _ _ kz => pw_aload0 dX2_doDrawn_0 kz) ?_
  refine WQ.st (fun _ _ kz => pw_iconst (v := 5) dX2_doDrawn_1 (by decide) kz) ?_
  rw [show (5 : Int32) = nI 5 from rfl]
  refine wq_o1i wX2_drawn lX2_118 rfl dX2_doDrawn_2 (cf_s137 hC) (k_drawn hC (by decide) (by decide)) rfl (Nat.le_of_ble_eq_true rfl) (Nat.le_of_ble_eq_true rfl) (fun h2 z2 => ?_)
  subst z2
  have b0 := dw_lt (V 137 4) (b := 5) (by decide)
  refine WQ.st (fun _ _ kz => pw_istore2 dX2_doDrawn_5 (by decide) (k := kz)) ?_
  refine WQ.st (fun _ _ kz => pw_iload2 dX2_doDrawn_6 kz) ?_
  refine WQ.bn (fun _ _ ka kb => pw_if_ne (tgt := 16) dX2_doDrawn_7 (by decide) ka kb) (fun c7 => ?_) (fun c7 => ?_)
  · rw [nl_0, nI_eq (by omega) (by decide)] at c7
    refine WQ.st (fun _ _ kz => pw_aload0 dX2_doDrawn_16 kz) ?_
    refine WQ.st (fun _ _ kz => pw_iconst (v := 5) dX2_doDrawn_17 (by decide) kz) ?_
    rw [show (5 : Int32) = nI 5 from rfl]
    refine wq_o1i wX2_drawn lX2_118 rfl dX2_doDrawn_18 (cf_s137 hC) (k_drawn hC (by decide) (by decide)) rfl (Nat.le_of_ble_eq_true rfl) (Nat.le_of_ble_eq_true rfl) (fun h18 z18 => ?_)
    subst z18
    simp only [up2_eq, up2_up2]
    have b1 := dw_lt (dx (V 137 4)) (b := 5) (by decide)
    refine WQ.st (fun _ _ kz => pw_istore3 dX2_doDrawn_21 (by decide) (k := kz)) ?_
    refine WQ.st (fun _ _ kz => pw_iload2 dX2_doDrawn_22 kz) ?_
    refine WQ.st (fun _ _ kz => pw_iconst (v := 4) dX2_doDrawn_23 (by decide) kz) ?_
    refine WQ.bn (fun _ _ ka kb => pw_icmp_ne (tgt := 40) dX2_doDrawn_24 (by decide) ka kb) (fun c24 => ?_) (fun c24 => ?_)
    · rw [show (4 : Int32) = nI 4 from rfl, nI_eq (by omega) (by decide)] at c24
      refine WQ.st (fun _ _ kz => pw_aload0 dX2_doDrawn_40 kz) ?_
      refine WQ.st (fun _ _ kz => pw_iconst (v := 5) dX2_doDrawn_41 (by decide) kz) ?_
      rw [show (5 : Int32) = nI 5 from rfl]
      refine wq_o1i wX2_drawn lX2_118 rfl dX2_doDrawn_42 (cf_s137 hC) (k_drawn hC (by decide) (by decide)) rfl (Nat.le_of_ble_eq_true rfl) (Nat.le_of_ble_eq_true rfl) (fun h42 z42 => ?_)
      subst z42
      simp only [up2_eq, up2_up2]
      have b2 := dw_lt (dx (dx (V 137 4))) (b := 5) (by decide)
      refine WQ.st (fun _ _ kz => pw_istore4 dX2_doDrawn_45 (by decide) (k := kz)) ?_
      refine WQ.st (fun _ _ kz => pw_iload2 dX2_doDrawn_47 kz) ?_
      refine WQ.st (fun _ _ kz => pw_iconst (v := 3) dX2_doDrawn_48 (by decide) kz) ?_
      refine WQ.bn (fun _ _ ka kb => pw_icmp_ne (tgt := 69) dX2_doDrawn_49 (by decide) ka kb) (fun c49 => ?_) (fun c49 => ?_)
      · rw [show (3 : Int32) = nI 3 from rfl, nI_eq (by omega) (by decide)] at c49
        refine WQ.st (fun _ _ kz => pw_iload2 dX2_doDrawn_69 kz) ?_
        refine WQ.st (fun _ _ kz => pw_iconst (v := 1) dX2_doDrawn_70 (by decide) kz) ?_
        refine WQ.bn (fun _ _ ka kb => pw_icmp_ne (tgt := 85) dX2_doDrawn_71 (by decide) ka kb) (fun c71 => ?_) (fun c71 => ?_)
        · rw [show (1 : Int32) = nI 1 from rfl, nI_eq (by omega) (by decide)] at c71
          refine WQ.st (fun _ _ kz => pw_aload0 dX2_doDrawn_85 kz) ?_
          refine WQ.st (fun _ _ kz => pw_aload1 dX2_doDrawn_86 kz) ?_
          refine WQ.st (fun _ _ kz => pw_iload3 dX2_doDrawn_87 kz) ?_
          refine WQ.st (fun _ _ kz => pw_iload4 dX2_doDrawn_88 kz) ?_
          refine wq_o3i wX2_playBest lX2_110 rfl dX2_doDrawn_90 (cf_s137 hC) (k_playBest (hE.seed (dx (dx (dx (V 137 4))))).1 hls _ _) rfl (Nat.le_of_ble_eq_true rfl) (Nat.le_of_ble_eq_true rfl) (fun h90 z90 => ?_)
          obtain ⟨t5, sl5, ls5, S5, V5, P5, A5, B5, Q5, rfl, z1, z2, z3, z4, z5, _⟩ := z90
          refine ⟨_, _, pw_iret dX2_doDrawn_93 rfl rfl rfl rfl, ?_⟩
          have e0 : sp_dd al (V 137 4) = (ddV al ((100 + 10 * (dw (dx (V 137 4)) 5) + (dw (dx (dx (V 137 4))) 5) : Nat) : Int), (dx (dx (dx (V 137 4))))) := by unfold sp_dd; rw [if_neg c7, if_neg c24, if_neg c49]; unfold dwV; rw [if_neg c49, show dw (V 137 4) 5 = 2 by omega]
          have e3 := dd_b al b1 b2
          rw [e0]
          rw [ix_n (j := (dw (dx (V 137 4)) 5)) (by omega), ix_n (j := (dw (dx (dx (V 137 4))) 5)) (by omega)] at z1 ⊢
          simp only [Int.toNat_natCast] at z1
          rw [← e3.1] at z1 ⊢
          rw [← e3.2] at z1
          refine ⟨_, rfl, ?_, t5, sl5, ls5, S5, V5, P5, A5, B5, Q5, rfl, ?_, z2, (hE.seed (dx (dx (dx (V 137 4))))).2.tr z3, z4, by rw [z5, up2_eq]⟩
          · unfold ddV
            by_cases g : sp_why al ((100 + 10 * (dw (dx (V 137 4)) 5) + (dw (dx (dx (V 137 4))) 5) : Nat) : Int) = 0
            · rw [if_pos g, g]; rfl
            · rw [if_neg g, decide_eq_false g]
          · show DE _ _ _ _ _ _ _ (ddV al _).2 _ _ _
            unfold ddV
            by_cases g : sp_why al ((100 + 10 * (dw (dx (V 137 4)) 5) + (dw (dx (dx (V 137 4))) 5) : Nat) : Int) = 0
            · rw [if_pos g]; rw [if_pos g] at z1; exact z1
            · rw [if_neg g]; rw [if_neg g] at z1; exact z1
        · rw [show (1 : Int32) = nI 1 from rfl, nI_eq (by omega) (by decide)] at c71
          refine WQ.st (fun _ _ kz => pw_aload0 dX2_doDrawn_74 kz) ?_
          refine WQ.st (fun _ _ kz => pw_aload1 dX2_doDrawn_75 kz) ?_
          refine WQ.st (fun _ _ kz => pw_iload3 dX2_doDrawn_76 kz) ?_
          refine WQ.st (fun _ _ kz => pw_iload4 dX2_doDrawn_77 kz) ?_
          refine wq_o3i wX2_playComing lX2_107 rfl dX2_doDrawn_79 (cf_s137 hC) (k_playComing (hE.seed (dx (dx (dx (V 137 4))))).1 hls _ _) rfl (Nat.le_of_ble_eq_true rfl) (Nat.le_of_ble_eq_true rfl) (fun h79 z79 => ?_)
          obtain ⟨t5, sl5, ls5, S5, V5, P5, A5, B5, Q5, rfl, z1, z2, z3, z4, z5, _⟩ := z79
          refine WQ.st (fun _ _ kz => pw_goto (tgt := 93) dX2_doDrawn_82 (by decide) kz) ?_
          refine ⟨_, _, pw_iret dX2_doDrawn_93 rfl rfl rfl rfl, ?_⟩
          have e0 : sp_dd al (V 137 4) = (ddV al ((10 * (dw (dx (V 137 4)) 5) + (dw (dx (dx (V 137 4))) 5) : Nat) : Int), (dx (dx (dx (V 137 4))))) := by unfold sp_dd; rw [if_neg c7, if_neg c24, if_neg c49]; unfold dwV; rw [if_neg c49, show dw (V 137 4) 5 = 1 from c71]; simp only [Nat.sub_self, Nat.mul_zero, Nat.zero_add]
          have e3 := dd_c al b1 b2
          rw [e0]
          rw [ix_n (j := (dw (dx (V 137 4)) 5)) (by omega), ix_n (j := (dw (dx (dx (V 137 4))) 5)) (by omega)] at z1 ⊢
          simp only [Int.toNat_natCast] at z1
          rw [← e3.1] at z1 ⊢
          rw [← e3.2] at z1
          refine ⟨_, rfl, ?_, t5, sl5, ls5, S5, V5, P5, A5, B5, Q5, rfl, ?_, z2, (hE.seed (dx (dx (dx (V 137 4))))).2.tr z3, z4, by rw [z5, up2_eq]⟩
          · unfold ddV
            by_cases g : sp_why al ((10 * (dw (dx (V 137 4)) 5) + (dw (dx (dx (V 137 4))) 5) : Nat) : Int) = 0
            · rw [if_pos g, g]; rfl
            · rw [if_neg g, decide_eq_false g]
          · show DE _ _ _ _ _ _ _ (ddV al _).2 _ _ _
            unfold ddV
            by_cases g : sp_why al ((10 * (dw (dx (V 137 4)) 5) + (dw (dx (dx (V 137 4))) 5) : Nat) : Int) = 0
            · rw [if_pos g]; rw [if_pos g] at z1; exact z1
            · rw [if_neg g]; rw [if_neg g] at z1; exact z1
      · rw [show (3 : Int32) = nI 3 from rfl, nI_eq (by omega) (by decide)] at c49
        refine WQ.st (fun _ _ kz => pw_aload0 dX2_doDrawn_52 kz) ?_
        refine WQ.st (fun _ _ kz => pw_aload1 dX2_doDrawn_53 kz) ?_
        refine WQ.st (fun _ _ kz => pw_iload3 dX2_doDrawn_54 kz) ?_
        refine WQ.st (fun _ _ kz => pw_iload4 dX2_doDrawn_55 kz) ?_
        refine WQ.st (fun _ _ kz => pw_iconst (v := 1) dX2_doDrawn_57 (by decide) kz) ?_
        refine WQ.st (fun _ _ kz => pw_aload0 dX2_doDrawn_58 kz) ?_
        refine WQ.st (fun _ _ kz => pw_bipush (v := 9) dX2_doDrawn_59 (by decide) kz) ?_
        rw [show (9 : Int32) = nI 9 from rfl]
        refine wq_o1i wX2_drawn lX2_118 rfl dX2_doDrawn_61 (cf_s137 hC) (k_drawn hC (by decide) (by decide)) rfl (Nat.le_of_ble_eq_true rfl) (Nat.le_of_ble_eq_true rfl) (fun h61 z61 => ?_)
        subst z61
        simp only [up2_eq, up2_up2]
        have b3 := dw_lt (dx (dx (dx (V 137 4)))) (b := 9) (by decide)
        refine WQ.st (fun _ _ kz => pw_iadd dX2_doDrawn_64 kz) ?_
        rw [nl_1, nI_add]
        refine wq_o4i wX2_lendTicks lX2_113 rfl dX2_doDrawn_65 (cf_s137 hC) (k_lendTicks (hE.seed (dx (dx (dx (dx (V 137 4)))))).1 _ _ _) rfl (Nat.le_of_ble_eq_true rfl) (Nat.le_of_ble_eq_true rfl) (fun h65 z65 => ?_)
        obtain ⟨t5, sl5, ls5, S5, V5, P5, A5, B5, Q5, rfl, z1, z2, z3, z4, z5⟩ := z65
        refine ⟨_, _, pw_iret dX2_doDrawn_68 rfl rfl rfl rfl, ?_⟩
        have e0 : sp_dd al (V 137 4) = (ddV al ((1000 + 1000 * (dw (dx (V 137 4)) 5) + 100 * (dw (dx (dx (V 137 4))) 5) + (1 + (dw (dx (dx (dx (V 137 4)))) 9)) : Nat) : Int), (dx (dx (dx (dx (V 137 4)))))) := by unfold sp_dd; rw [if_neg c7, if_neg c24, if_pos c49]; unfold dwV; rw [if_pos rfl]
        have e3 := dd_l al b1 b2 b3
        rw [e0]
        rw [ix_n (j := (dw (dx (V 137 4)) 5)) (by omega), ix_n (j := (dw (dx (dx (V 137 4))) 5)) (by omega), ix_n (j := (1 + (dw (dx (dx (dx (V 137 4)))) 9))) (by omega)] at z1 ⊢
        simp only [Int.toNat_natCast] at z1
        rw [← e3.1] at z1 ⊢
        rw [← e3.2] at z1
        refine ⟨_, rfl, ?_, t5, sl5, ls5, S5, V5, P5, A5, B5, Q5, rfl, ?_, by omega, (hE.seed (dx (dx (dx (dx (V 137 4)))))).2.tr z3, z4, by rw [z5, up2_eq]⟩
        · unfold ddV
          by_cases g : sp_why al ((1000 + 1000 * (dw (dx (V 137 4)) 5) + 100 * (dw (dx (dx (V 137 4))) 5) + (1 + (dw (dx (dx (dx (V 137 4)))) 9)) : Nat) : Int) = 0
          · rw [if_pos g, g]; rfl
          · rw [if_neg g, decide_eq_false g]
        · show DE _ _ _ _ _ _ _ (ddV al _).2 _ _ _
          unfold ddV
          by_cases g : sp_why al ((1000 + 1000 * (dw (dx (V 137 4)) 5) + 100 * (dw (dx (dx (V 137 4))) 5) + (1 + (dw (dx (dx (dx (V 137 4)))) 9)) : Nat) : Int) = 0
          · rw [if_pos g]; rw [if_pos g] at z1; exact z1
          · rw [if_neg g]; rw [if_neg g] at z1; exact z1
    · rw [show (4 : Int32) = nI 4 from rfl, nI_eq (by omega) (by decide)] at c24
      refine WQ.st (fun _ _ kz => pw_aload0 dX2_doDrawn_27 kz) ?_
      refine WQ.st (fun _ _ kz => pw_aload1 dX2_doDrawn_28 kz) ?_
      refine WQ.st (fun _ _ kz => pw_iload3 dX2_doDrawn_29 kz) ?_
      refine WQ.st (fun _ _ kz => pw_aload0 dX2_doDrawn_30 kz) ?_
      refine WQ.st (fun _ _ kz => pw_bipush (v := 10) dX2_doDrawn_31 (by decide) kz) ?_
      rw [show (10 : Int32) = nI 10 from rfl]
      refine wq_o1i wX2_drawn lX2_118 rfl dX2_doDrawn_33 (cf_s137 hC) (k_drawn hC (by decide) (by decide)) rfl (Nat.le_of_ble_eq_true rfl) (Nat.le_of_ble_eq_true rfl) (fun h33 z33 => ?_)
      subst z33
      simp only [up2_eq, up2_up2]
      have b2 := dw_lt (dx (dx (V 137 4))) (b := 10) (by decide)
      refine wq_o3i wX2_haveTemper lX2_122 rfl dX2_doDrawn_36 (cf_s137 hC) (k_haveTemper (hE.seed (dx (dx (dx (V 137 4))))).1 _ _) rfl (Nat.le_of_ble_eq_true rfl) (Nat.le_of_ble_eq_true rfl) (fun h36 z36 => ?_)
      obtain ⟨t5, sl5, ls5, S5, V5, P5, A5, B5, Q5, rfl, z1, z2, z3, z4, z5⟩ := z36
      refine ⟨_, _, pw_iret dX2_doDrawn_39 rfl rfl rfl rfl, ?_⟩
      have e0 : sp_dd al (V 137 4) = (dd4 al (dw (dx (V 137 4)) 5) (dw (dx (dx (V 137 4))) 10), (dx (dx (dx (V 137 4))))) := by unfold sp_dd; rw [if_neg c7, if_pos c24]
      rw [e0]
      rw [ix_n (j := (dw (dx (V 137 4)) 5)) (by omega), ix_n (j := dw (dx (dx (V 137 4))) 10) (by omega), decide_eq_true (show (0 : Int) ≤ (dw (dx (dx (V 137 4))) 10 : Int) ∧ (dw (dx (dx (V 137 4))) 10 : Int) ≤ 9 by omega), Bool.and_true] at z1 ⊢
      simp only [Int.toNat_natCast] at z1
      refine ⟨_, rfl, ?_, t5, sl5, ls5, S5, V5, P5, A5, B5, Q5, rfl, ?_, by omega, (hE.seed (dx (dx (dx (V 137 4))))).2.tr z3, z4, by rw [z5, up2_eq]⟩
      · unfold dd4
        by_cases g : isP al (((dw (dx (V 137 4)) 5) : Nat) : Int) = true
        · rw [if_pos g, if_pos g]; rfl
        · rw [if_neg g, if_neg g]; rfl
      · show DE _ _ _ _ _ _ _ (dd4 al _ _).2 _ _ _
        unfold dd4
        by_cases g : isP al (((dw (dx (V 137 4)) 5) : Nat) : Int) = true
        · rw [if_pos g]; rw [if_pos g] at z1; exact z1
        · rw [if_neg g]; rw [if_neg g] at z1; exact z1
  · rw [nl_0, nI_eq (by omega) (by decide)] at c7
    refine WQ.st (fun _ _ kz => pw_aload0 dX2_doDrawn_10 kz) ?_
    refine WQ.st (fun _ _ kz => pw_aload1 dX2_doDrawn_11 kz) ?_
    refine wq_o1i wX2_holdFriday lX2_101 rfl dX2_doDrawn_12 (cf_s137 hC) (k_holdFriday (hE.seed (dx (V 137 4))).1) rfl (Nat.le_of_ble_eq_true rfl) (Nat.le_of_ble_eq_true rfl) (fun h12 z12 => ?_)
    obtain ⟨t5, sl5, ls5, S5, V5, P5, A5, B5, Q5, rfl, z1, z2, z3, z4, z5⟩ := z12
    refine ⟨_, _, pw_iret dX2_doDrawn_15 rfl rfl rfl rfl, ?_⟩
    have e0 : sp_dd al (V 137 4) = ((true, sp_fri al), (dx (V 137 4))) := by unfold sp_dd; rw [if_pos c7]
    rw [e0]
    exact ⟨_, rfl, rfl, t5, sl5, ls5, S5, V5, P5, A5, B5, Q5, rfl, z1, by omega, (hE.seed (dx (V 137 4))).2.tr z3, z4, by rw [z5, up2_eq]⟩
