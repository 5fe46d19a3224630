/-! ===== the class's calls that only ask: the small ones ===== -/
theorem KA.g {S : sS} {V : sV} {P : sP} {A : sV} {B : sB} {Q : sP} {t : Nat} {A' : sV} {al : Nat → Int32} {sh ls : Nat} (h : KA S V P A B Q t al sh ls) (hA : ∀ x, x ≠ 97 → x ≠ 98 → A' x = A x) : KA S V P A' B Q t al sh ls := by
  have hs := h.sa
  refine ⟨h.cf, h.hsh, ⟨hs, h.st⟩, h.dv, h.se.fr (fun x h1 h2 => rfl) (fun x h1 h2 => hA x (by omega) (by omega)), ?_⟩
  obtain ⟨h1, h2, h3, h4, h5, h6, h7, h8⟩ := h.ba
  refine ⟨h1, h2, h3, h4, h5, h6, fun q hq => ?_, h8⟩
  have h9 := h7 q hq
  unfold BMem at h9 ⊢
  rw [hA 100 (by omega) (by omega), hA 101 (by omega) (by omega)]
  exact h9
theorem CI.ask {S : sS} {V : sV} {P : sP} {A : sV} {B : sB} {Q : sP} {t : Nat} {S' : sS} {V' : sV} {P' : sP} {A' : sV} {B' : sB} {Q' : sP} {t' : Nat} {al : Nat → Int32} {W : WT} {sh ls ls' : Nat} (hI : CI S V P A B Q t al W sh ls) (hd : DC S' V' P' A' B' Q' t' al sh ls') (hf : FrD 20 S V P A B Q t S' V' P' A' B' Q' t') : CI S' V' P' A' B' Q' t' al W sh ls' :=
  ⟨⟨hd, hI.de.kv, hI.de.se.fr (hf.2.2.1 16 (by omega)) (fun x _ _ => hf.2.2.2.2.1 x (by omega)), Or.inl rfl⟩, hI.av, hI.re.fr (hf.r (Or.inr rfl))⟩
/-- rows taken up and used: the class stands as it stood -/
theorem CI.step {S : sS} {V : sV} {P : sP} {A : sV} {B : sB} {Q : sP} {t : Nat} {V' A' : sV} {P' : sP} {B' : sB} {al : Nat → Int32} {W : WT} {sh ls p tm q : Nat} (hI : CI S V P A B Q t al W sh ls) (k : KB S V' P' A' B' Q t al sh ls p tm q) (hf : FrD 20 S V P A B Q t S V' P' A' B' Q t) (h9 : A' 109 = A 109) (hb : HB P') (hr : RH P') (hw : HW P') : CI S V' P' A' B' Q t al W sh ls := hI.ask (k.dc hI.de.dc (Nat.le_refl _) hb hr hw h9) hf
theorem CI.frc {S : sS} {V : sV} {P : sP} {A : sV} {B : sB} {Q : sP} {t : Nat} {V' A' : sV} {B' : sB} {al : Nat → Int32} {W : WT} {sh ls p tm q : Nat} (hI : CI S V P A B Q t al W sh ls) (k : KB S V' P A' B' Q t al sh ls p tm q) (f : FrC V A B V' A' B') : CI S V' P A' B' Q t al W sh ls := hI.step k f.d (f.2.1 109 (by omega) (by omega) (by omega)) hI.de.dc.hb hI.de.dc.rh hI.de.dc.hw
theorem CI.frw {S : sS} {V : sV} {P : sP} {A : sV} {B : sB} {Q : sP} {t : Nat} {V' A' : sV} {B' : sB} {al : Nat → Int32} {W : WT} {sh ls p tm q : Nat} (hI : CI S V P A B Q t al W sh ls) (k : KB S V' P A' B' Q t al sh ls p tm q) (f : FrW V A B V' A' B') : CI S V' P A' B' Q t al W sh ls := hI.step k f.d (f.2.1 109 (by omega) (by omega) (by omega)) hI.de.dc.hb hI.de.dc.rh hI.de.dc.hw
theorem FrC.o {S : sS} {V : sV} {P : sP} {A : sV} {B : sB} {Q : sP} {t : Nat} {V' A' : sV} {B' : sB} (f : FrC V A B V' A' B') : FrO S V P A B t S V' P A' B' t := (FrC.d (a := 20) (S := S) (P := P) (Q := Q) (t := t) f).o (Or.inr _root_.rfl)
theorem FrW.o {S : sS} {V : sV} {P : sP} {A : sV} {B : sB} {Q : sP} {t : Nat} {V' A' : sV} {B' : sB} (f : FrW V A B V' A' B') : FrO S V P A B t S V' P A' B' t := (FrW.d (a := 20) (S := S) (P := P) (Q := Q) (t := t) f).o (Or.inr _root_.rfl)
set_option maxRecDepth 20000 in
theorem k_take {G : gT} {d : Nat} {S : sS} {V : sV} {P : sP} {A : sV} {B : sB} {Q : sP} {t sl : Nat} {al : Nat → Int32} {W : WT} {sh ls : Nat} (hI : CI S V P A B Q t al W sh ls) (hls : ls + 1 < 2000000000) {p q : Nat} (hp : p < 5) (hq : q < 4) (hiq : isQ al (nI q).toInt = true) : WQ G (d + 3) mX11_takeUp 0 [some (.ref 8), some (.int (nI p)), some (.int (nI q))] [] (t, sl, gh S V P A B Q) (fun r h' => r = none ∧ ∃ tm : Nat, atm al p tm = al ∧ ∃ (t' sl' ls' : Nat) (S' : sS) (V' : sV) (P' : sP) (A' : sV) (B' : sB) (Q' : sP), h' = (t', sl', gh S' V' P' A' B' Q') ∧ KB S' V' P' A' B' Q' t' al sh ls' p tm q ∧ CI S' V' P' A' B' Q' t' al W sh ls' ∧ ls' ≤ ls + 1 ∧ FrT S V P A B Q t S' V' P' A' B' Q' t' ∧ ∀ k1 k2, Room2 S Q t sl k1 k2 → Room2 S' Q' t' sl' k1 k2) := by
  have hE := hI.de
  have hC := hE.dc.ka.cf
  have hD := hE.dc.ka.dv
  have hSe := hE.dc.ka.se
  have hA := hI.av
  obtain ⟨tm, ht, etm, hat⟩ := hE.kv.tmE hp
  refine WQ.st (fun _ _ kz => pw_aload0 dX11_takeUp_0 kz) ?_
  refine WQ.st (fun _ _ kz => pw_getr gX11_80 dX11_takeUp_1 (cf_s8 hC) (cf_p8_11 hC) kz) ?_
  refine WQ.st (fun _ _ kz => pw_iload1 dX11_takeUp_4 kz) ?_
  refine WQ.st (fun _ _ kz => pw_aload0 dX11_takeUp_5 kz) ?_
  refine WQ.st (fun _ _ kz => pw_getr gX11_35 dX11_takeUp_6 (cf_s8 hC) (cf_p8_5 hC) kz) ?_
  refine WQ.st (fun _ _ kz => pw_getr gX11_162 dX11_takeUp_9 (cf_s16 hC) (cf_p16_2 hC) kz) ?_
  refine WQ.st (fun _ _ kz => pw_iload1 dX11_takeUp_12 kz) ?_
  refine WQ.st (fun _ _ kz => pw_ald (j := p) dX11_takeUp_13 (cf_s19 hC) (ix_m rfl (by omega)) (by omega) kz) ?_
  rw [hE.se.tm hp, etm]
  refine WQ.st (fun _ _ kz => pw_iload2 dX11_takeUp_14 kz) ?_
  refine wq_o3v wX0_takeUp lX11_393 rfl dX11_takeUp_15 (cf_s96 hC) (k_takeUp hE.dc.ka (by omega) hp ht hq hiq) rfl (Nat.le_of_ble_eq_true rfl) (Nat.le_of_ble_eq_true rfl) (fun h15 z15 => ?_)
  obtain ⟨t5, sl5, ls5, S5, V5, P5, A5, B5, Q5, rfl, k5, l5, f5, r5⟩ := z15
  refine ⟨_, _, pw_vret dX11_takeUp_18 rfl rfl rfl, ?_⟩
  refine ⟨rfl, tm, hat, t5, sl5, ls5, S5, V5, P5, A5, B5, Q5, rfl, k5, hI.ask (k5.dc hE.dc f5.1 (hE.dc.hb.to (by rw [f5.2.2.2.1 103 (by omega)])) (hE.dc.rh.to (by rw [f5.2.2.2.1 107 (by omega)]) (by rw [f5.2.2.2.1 107 (by omega)])) (hE.dc.hw.to (by rw [f5.2.2.2.1 107 (by omega)]) (by rw [f5.2.2.2.1 107 (by omega)])) (f5.2.2.2.2.1 109 (by omega) (by omega) (by omega) (by omega))) f5.d, l5, f5, r5⟩
set_option maxRecDepth 20000 in
theorem q_fault {G : gT} {d : Nat} {S : sS} {V : sV} {P : sP} {A : sV} {B : sB} {Q : sP} {t sl : Nat} {al : Nat → Int32} {W : WT} {sh ls : Nat} (hI : CI S V P A B Q t al W sh ls) (hls : ls + 1000 < 2000000000) (x : Int32) : WQ G (d + 9) mX11_fault 0 [some (.ref 8), some (.int x)] [] (t, sl, gh S V P A B Q) (CZ S V P A B Q t sl W sh ls (.int (sp_fault W.2.2.2.2.2.1 W.2.2.2.2.2.2.1 x.toInt)) al) := by
  unfold CZ
  have hE := hI.de
  have hC := hE.dc.ka.cf
  have hD := hE.dc.ka.dv
  have hSe := hE.dc.ka.se
  have hA := hI.av
  have hp5 := hD.p5
  have hn4 := hD.n4
  refine WQ.st (fun _ _ kz => pw_iload1 dX11_fault_0 kz) ?_
  refine WQ.bn (fun _ _ ka kb => pw_if_ne (tgt := 12) dX11_fault_1 (by decide) ka kb) (fun c1 => ?_) (fun c1 => ?_)
  · rw [i32_iff li_0] at c1
    refine WQ.st (fun _ _ kz => pw_iload1 dX11_fault_12 kz) ?_
    refine WQ.st (fun _ _ kz => pw_iconst (v := 1) dX11_fault_13 (by decide) kz) ?_
    refine WQ.bn (fun _ _ ka kb => pw_icmp_ne (tgt := 27) dX11_fault_14 (by decide) ka kb) (fun c14 => ?_) (fun c14 => ?_)
    · rw [i32_iff li_1] at c14
      refine WQ.st (fun _ _ kz => pw_iconst (v := -1) dX11_fault_27 (by decide) kz) ?_
      refine ⟨_, _, pw_iret dX11_fault_28 rfl rfl rfl rfl, ?_⟩
      exact ⟨rI (by unfold sp_fault; rw [if_neg c1, if_neg c14]), t, sl, ls, S, V, P, A, B, Q, rfl, hI, by omega, FrO.rfl, fun _ _ h => h⟩
    · rw [i32_iff li_1] at c14
      refine WQ.st (fun _ _ kz => pw_aload0 dX11_fault_17 kz) ?_
      refine WQ.st (fun _ _ kz => pw_getr gX11_22 dX11_fault_18 (cf_s8 hC) (cf_p8_2 hC) kz) ?_
      refine WQ.st (fun _ _ kz => pw_geti gX11_148 dX11_fault_21 (cf_s10 hC) kz) ?_
      refine WQ.st (fun _ _ kz => pw_goto (tgt := 28) dX11_fault_24 (by decide) kz) ?_
      refine ⟨_, _, pw_iret dX11_fault_28 rfl rfl rfl rfl, ?_⟩
      exact ⟨rI (by unfold sp_fault; rw [if_neg c1, if_pos c14]; exact hI.re.tp.2.2.1), t, sl, ls, S, V, P, A, B, Q, rfl, hI, by omega, FrO.rfl, fun _ _ h => h⟩
  · rw [i32_iff li_0] at c1
    refine WQ.st (fun _ _ kz => pw_aload0 dX11_fault_4 kz) ?_
    refine WQ.st (fun _ _ kz => pw_getr gX11_22 dX11_fault_5 (cf_s8 hC) (cf_p8_2 hC) kz) ?_
    refine WQ.st (fun _ _ kz => pw_geti gX11_133 dX11_fault_8 (cf_s10 hC) kz) ?_
    refine ⟨_, _, pw_iret dX11_fault_11 rfl rfl rfl rfl, ?_⟩
    exact ⟨rI (by unfold sp_fault; rw [if_pos c1]; exact hI.re.tp.2.1), t, sl, ls, S, V, P, A, B, Q, rfl, hI, by omega, FrO.rfl, fun _ _ h => h⟩
set_option maxRecDepth 20000 in
theorem q_player {G : gT} {d : Nat} {S : sS} {V : sV} {P : sP} {A : sV} {B : sB} {Q : sP} {t sl : Nat} {al : Nat → Int32} {W : WT} {sh ls : Nat} (hI : CI S V P A B Q t al W sh ls) (hls : ls + 1000 < 2000000000) (x y : Int32) : WQ G (d + 9) mX11_player 0 [some (.ref 8), some (.int x), some (.int y)] [] (t, sl, gh S V P A B Q) (CZ S V P A B Q t sl W sh ls (.int (sp_player al x.toInt y.toInt)) al) := by
  unfold CZ
  have hE := hI.de
  have hC := hE.dc.ka.cf
  have hD := hE.dc.ka.dv
  have hSe := hE.dc.ka.se
  have hA := hI.av
  have hp5 := hD.p5
  have hn4 := hD.n4
  refine WQ.st (fun _ _ kz => pw_aload0 dX11_player_0 kz) ?_
  refine WQ.st (fun _ _ kz => pw_getr gX11_71 dX11_player_1 (cf_s8 hC) hI.re.p84 kz) ?_
  refine WQ.st (fun _ _ kz => pw_iload1 dX11_player_4 kz) ?_
  refine wq_o1i wX7_hasPlayer lX11_151 rfl dX11_player_5 (sh_s0 hE.dc.ka.hsh) (k_hasPlayer hE.dc.ka.hsh hSe hD _) rfl (Nat.le_of_ble_eq_true rfl) (Nat.le_of_ble_eq_true rfl) (fun h5 z5 => ?_)
  subst z5
  refine WQ.bn (fun _ _ ka kb => pw_if_ne (tgt := 14) dX11_player_8 (by decide) ka kb) (fun c8 => ?_) (fun c8 => ?_)
  · rw [bI_n] at c8
    have gx := isP_t c8
    obtain ⟨p, rfl, tp, lp⟩ := nI_get gx.1 gx.2 (by omega)
    have hp : p < 5 := by omega
    refine WQ.st (fun _ _ kz => pw_iload2 dX11_player_14 kz) ?_
    by_cases h15_0 : y = 0
    · refine WQ.st (fun _ _ kz => pw_tableIn (off := 29) (tgt := 44) dX11_player_15 (by rw [h15_0]; decide) (by rw [h15_0]; decide) (by rw [h15_0]; rfl) (by decide) kz) ?_
      refine WQ.st (fun _ _ kz => pw_aload0 dX11_player_44 kz) ?_
      refine WQ.st (fun _ _ kz => pw_getr gX11_35 dX11_player_45 (cf_s8 hC) (cf_p8_5 hC) kz) ?_
      refine WQ.st (fun _ _ kz => pw_getr gX11_156 dX11_player_48 (cf_s16 hC) (cf_p16_0 hC) kz) ?_
      refine WQ.st (fun _ _ kz => pw_iload1 dX11_player_51 kz) ?_
      refine WQ.st (fun _ _ kz => pw_ald (j := p) dX11_player_52 (cf_s17 hC) (ix_m rfl (by omega)) (by omega) kz) ?_
      refine ⟨_, _, pw_iret dX11_player_53 rfl rfl rfl rfl, ?_⟩
      exact ⟨rI (by unfold sp_player; rw [if_pos c8, tp, Int.toNat_natCast, if_pos (by rw [h15_0]; rfl)]; exact hE.se.st hp), t, sl, ls, S, V, P, A, B, Q, rfl, hI, by omega, FrO.rfl, fun _ _ h => h⟩
    by_cases h15_1 : y = 1
    · refine WQ.st (fun _ _ kz => pw_tableIn (off := 39) (tgt := 54) dX11_player_15 (by rw [h15_1]; decide) (by rw [h15_1]; decide) (by rw [h15_1]; rfl) (by decide) kz) ?_
      refine WQ.st (fun _ _ kz => pw_aload0 dX11_player_54 kz) ?_
      refine WQ.st (fun _ _ kz => pw_getr gX11_35 dX11_player_55 (cf_s8 hC) (cf_p8_5 hC) kz) ?_
      refine WQ.st (fun _ _ kz => pw_getr gX11_159 dX11_player_58 (cf_s16 hC) (cf_p16_1 hC) kz) ?_
      refine WQ.st (fun _ _ kz => pw_iload1 dX11_player_61 kz) ?_
      refine WQ.st (fun _ _ kz => pw_ald (j := p) dX11_player_62 (cf_s18 hC) (ix_m rfl (by omega)) (by omega) kz) ?_
      refine ⟨_, _, pw_iret dX11_player_63 rfl rfl rfl rfl, ?_⟩
      exact ⟨rI (by unfold sp_player; rw [if_pos c8, tp, Int.toNat_natCast, if_neg (by rw [h15_1]; decide), if_pos (by rw [h15_1]; rfl)]; exact hE.se.jo hp), t, sl, ls, S, V, P, A, B, Q, rfl, hI, by omega, FrO.rfl, fun _ _ h => h⟩
    by_cases h15_2 : y = 2
    · refine WQ.st (fun _ _ kz => pw_tableIn (off := 49) (tgt := 64) dX11_player_15 (by rw [h15_2]; decide) (by rw [h15_2]; decide) (by rw [h15_2]; rfl) (by decide) kz) ?_
      refine WQ.st (fun _ _ kz => pw_aload0 dX11_player_64 kz) ?_
      refine WQ.st (fun _ _ kz => pw_getr gX11_35 dX11_player_65 (cf_s8 hC) (cf_p8_5 hC) kz) ?_
      refine WQ.st (fun _ _ kz => pw_getr gX11_162 dX11_player_68 (cf_s16 hC) (cf_p16_2 hC) kz) ?_
      refine WQ.st (fun _ _ kz => pw_iload1 dX11_player_71 kz) ?_
      refine WQ.st (fun _ _ kz => pw_ald (j := p) dX11_player_72 (cf_s19 hC) (ix_m rfl (by omega)) (by omega) kz) ?_
      refine ⟨_, _, pw_iret dX11_player_73 rfl rfl rfl rfl, ?_⟩
      exact ⟨rI (by unfold sp_player; rw [if_pos c8, tp, Int.toNat_natCast, if_neg (by rw [h15_2]; decide), if_neg (by rw [h15_2]; decide), if_pos (by rw [h15_2]; rfl)]; exact hE.se.tm hp), t, sl, ls, S, V, P, A, B, Q, rfl, hI, by omega, FrO.rfl, fun _ _ h => h⟩
    by_cases h15_3 : y = 3
    · refine WQ.st (fun _ _ kz => pw_tableIn (off := 59) (tgt := 74) dX11_player_15 (by rw [h15_3]; decide) (by rw [h15_3]; decide) (by rw [h15_3]; rfl) (by decide) kz) ?_
      refine WQ.st (fun _ _ kz => pw_aload0 dX11_player_74 kz) ?_
      refine WQ.st (fun _ _ kz => pw_getr gX11_35 dX11_player_75 (cf_s8 hC) (cf_p8_5 hC) kz) ?_
      refine WQ.st (fun _ _ kz => pw_iload1 dX11_player_78 kz) ?_
      refine wq_o1i wX8_isBarred lX11_165 rfl dX11_player_79 (cf_s16 hC) (k_isBarred (cf_st16 hC) _) rfl (Nat.le_of_ble_eq_true rfl) (Nat.le_of_ble_eq_true rfl) (fun h79 z79 => ?_)
      subst z79
      refine WQ.br (fun _ _ ka kb => pw_if_eq (tgt := 89) dX11_player_82 (by decide) ka kb) (fun c82 => ?_) (fun c82 => ?_)
      · rw [bI_0] at c82
        rw [brd_b hp hE.se.1] at c82
        refine WQ.st (fun _ _ kz => pw_iconst (v := 0) dX11_player_89 (by decide) kz) ?_
        refine ⟨_, _, pw_iret dX11_player_90 rfl rfl rfl rfl, ?_⟩
        have c82 : brd (al 75).toInt p = false := c82
        exact ⟨rI (by unfold sp_player; rw [if_pos c8, tp, Int.toNat_natCast, if_neg (by rw [h15_3]; decide), if_neg (by rw [h15_3]; decide), if_neg (by rw [h15_3]; decide), if_pos (by rw [h15_3]; rfl), c82]; rfl), t, sl, ls, S, V, P, A, B, Q, rfl, hI, by omega, FrO.rfl, fun _ _ h => h⟩
      · rw [bI_n] at c82
        rw [brd_b hp hE.se.1] at c82
        refine WQ.st (fun _ _ kz => pw_iconst (v := 1) dX11_player_85 (by decide) kz) ?_
        refine WQ.st (fun _ _ kz => pw_goto (tgt := 90) dX11_player_86 (by decide) kz) ?_
        refine ⟨_, _, pw_iret dX11_player_90 rfl rfl rfl rfl, ?_⟩
        have c82 : brd (al 75).toInt p = true := c82
        exact ⟨rI (by unfold sp_player; rw [if_pos c8, tp, Int.toNat_natCast, if_neg (by rw [h15_3]; decide), if_neg (by rw [h15_3]; decide), if_neg (by rw [h15_3]; decide), if_pos (by rw [h15_3]; rfl), c82]; rfl), t, sl, ls, S, V, P, A, B, Q, rfl, hI, by omega, FrO.rfl, fun _ _ h => h⟩
    have g15_0 := i32_ne (z := 0) rfl h15_0
    have g15_1 := i32_ne (z := 1) rfl h15_1
    have g15_2 := i32_ne (z := 2) rfl h15_2
    have g15_3 := i32_ne (z := 3) rfl h15_3
    refine WQ.st (fun _ _ kz => pw_tableOut (tgt := 91) dX11_player_15 (by omega) (by decide) kz) ?_
    refine WQ.st (fun _ _ kz => pw_ldc kX11_155 dX11_player_91 kz) ?_
    refine ⟨_, _, pw_iret dX11_player_93 rfl rfl rfl rfl, ?_⟩
    exact ⟨rI (by unfold sp_player; rw [if_pos c8, if_neg g15_0, if_neg g15_1, if_neg g15_2, if_neg g15_3]), t, sl, ls, S, V, P, A, B, Q, rfl, hI, by omega, FrO.rfl, fun _ _ h => h⟩
  · rw [bI_0] at c8
    refine WQ.st (fun _ _ kz => pw_ldc kX11_155 dX11_player_11 kz) ?_
    refine ⟨_, _, pw_iret dX11_player_13 rfl rfl rfl rfl, ?_⟩
    exact ⟨rI (by unfold sp_player; rw [c8, if_neg (by decide)]), t, sl, ls, S, V, P, A, B, Q, rfl, hI, by omega, FrO.rfl, fun _ _ h => h⟩
set_option maxRecDepth 20000 in
theorem q_wants {G : gT} {d : Nat} {S : sS} {V : sV} {P : sP} {A : sV} {B : sB} {Q : sP} {t sl : Nat} {al : Nat → Int32} {W : WT} {sh ls : Nat} (hI : CI S V P A B Q t al W sh ls) (hls : ls + 1000 < 2000000000) (x y : Int32) : WQ G (d + 9) mX11_wants 0 [some (.ref 8), some (.int x), some (.int y)] [] (t, sl, gh S V P A B Q) (CZ S V P A B Q t sl W sh ls (.int (sp_wants al x.toInt y.toInt)) al) := by
  unfold CZ
  have hE := hI.de
  have hC := hE.dc.ka.cf
  have hD := hE.dc.ka.dv
  have hSe := hE.dc.ka.se
  have hA := hI.av
  have hp5 := hD.p5
  have hn4 := hD.n4
  refine WQ.st (fun _ _ kz => pw_aload0 dX11_wants_0 kz) ?_
  refine WQ.st (fun _ _ kz => pw_getr gX11_71 dX11_wants_1 (cf_s8 hC) hI.re.p84 kz) ?_
  refine WQ.st (fun _ _ kz => pw_iload1 dX11_wants_4 kz) ?_
  refine WQ.st (fun _ _ kz => pw_iload2 dX11_wants_5 kz) ?_
  refine wq_o2i wX7_hasBar lX11_168 rfl dX11_wants_6 (sh_s0 hE.dc.ka.hsh) (k_hasBar hE.dc.ka.hsh hSe hD _ _) rfl (Nat.le_of_ble_eq_true rfl) (Nat.le_of_ble_eq_true rfl) (fun h6 z6 => ?_)
  subst z6
  refine WQ.br (fun _ _ ka kb => pw_if_eq (tgt := 24) dX11_wants_9 (by decide) ka kb) (fun c9 => ?_) (fun c9 => ?_)
  · rw [bI_0] at c9
    refine WQ.st (fun _ _ kz => pw_ldc kX11_155 dX11_wants_24 kz) ?_
    refine ⟨_, _, pw_iret dX11_wants_26 rfl rfl rfl rfl, ?_⟩
    exact ⟨rI (by unfold sp_wants; rw [c9, if_neg (by decide)]), t, sl, ls, S, V, P, A, B, Q, rfl, hI, by omega, FrO.rfl, fun _ _ h => h⟩
  · rw [bI_n] at c9
    have hb2 := (Bool.and_eq_true _ _).mp c9
    have hiq := hb2.1
    have gx := isQ_t hb2.1
    obtain ⟨q, rfl, tq, lq⟩ := nI_get gx.1 gx.2 (by omega)
    have hq : q < 4 := by omega
    have gb := of_decide_eq_true hb2.2
    rw [tq, Int.toNat_natCast] at gb
    have hlg := hD.lg q hq
    obtain ⟨b, rfl, tb, lb⟩ := nI_get gb.1 gb.2 (by omega)
    have hb : b < 12 := by omega
    refine WQ.st (fun _ _ kz => pw_aload0 dX11_wants_12 kz) ?_
    refine WQ.st (fun _ _ kz => pw_getr gX11_71 dX11_wants_13 (cf_s8 hC) hI.re.p84 kz) ?_
    refine WQ.st (fun _ _ kz => pw_iload1 dX11_wants_16 kz) ?_
    refine WQ.st (fun _ _ kz => pw_iload2 dX11_wants_17 kz) ?_
    refine wq_o2i wX7_wantOf lX11_172 rfl dX11_wants_18 (sh_s0 hE.dc.ka.hsh) (k_wantOf hE.dc.ka.hsh hSe hD hq hb c9) rfl (Nat.le_of_ble_eq_true rfl) (Nat.le_of_ble_eq_true rfl) (fun h18 z18 => ?_)
    subst z18
    refine WQ.st (fun _ _ kz => pw_goto (tgt := 26) dX11_wants_21 (by decide) kz) ?_
    refine ⟨_, _, pw_iret dX11_wants_26 rfl rfl rfl rfl, ?_⟩
    exact ⟨rI (by unfold sp_wants; rw [if_pos c9, tq, tb, Int.toNat_natCast, Int.toNat_natCast, Nat.add_assoc]), t, sl, ls, S, V, P, A, B, Q, rfl, hI, by omega, FrO.rfl, fun _ _ h => h⟩
set_option maxRecDepth 20000 in
theorem q_bars {G : gT} {d : Nat} {S : sS} {V : sV} {P : sP} {A : sV} {B : sB} {Q : sP} {t sl : Nat} {al : Nat → Int32} {W : WT} {sh ls : Nat} (hI : CI S V P A B Q t al W sh ls) (hls : ls + 1000 < 2000000000) (x : Int32) : WQ G (d + 9) mX11_bars 0 [some (.ref 8), some (.int x)] [] (t, sl, gh S V P A B Q) (CZ S V P A B Q t sl W sh ls (.int (sp_bars al x.toInt)) al) := by
  unfold CZ
  have hE := hI.de
  have hC := hE.dc.ka.cf
  have hD := hE.dc.ka.dv
  have hSe := hE.dc.ka.se
  have hA := hI.av
  have hp5 := hD.p5
  have hn4 := hD.n4
  refine WQ.st (fun _ _ kz => pw_aload0 dX11_bars_0 kz) ?_
  refine WQ.st (fun _ _ kz => pw_getr gX11_71 dX11_bars_1 (cf_s8 hC) hI.re.p84 kz) ?_
  refine WQ.st (fun _ _ kz => pw_iload1 dX11_bars_4 kz) ?_
  refine wq_o1i wX7_hasPiece lX11_176 rfl dX11_bars_5 (sh_s0 hE.dc.ka.hsh) (k_hasPiece hE.dc.ka.hsh hSe hD _) rfl (Nat.le_of_ble_eq_true rfl) (Nat.le_of_ble_eq_true rfl) (fun h5 z5 => ?_)
  subst z5
  refine WQ.br (fun _ _ ka kb => pw_if_eq (tgt := 22) dX11_bars_8 (by decide) ka kb) (fun c8 => ?_) (fun c8 => ?_)
  · rw [bI_0] at c8
    refine WQ.st (fun _ _ kz => pw_ldc kX11_155 dX11_bars_22 kz) ?_
    refine ⟨_, _, pw_iret dX11_bars_24 rfl rfl rfl rfl, ?_⟩
    exact ⟨rI (by unfold sp_bars; rw [c8, if_neg (by decide)]), t, sl, ls, S, V, P, A, B, Q, rfl, hI, by omega, FrO.rfl, fun _ _ h => h⟩
  · rw [bI_n] at c8
    have gx := isQ_t c8
    obtain ⟨q, rfl, tq, lq⟩ := nI_get gx.1 gx.2 (by omega)
    have hq : q < 4 := by omega
    refine WQ.st (fun _ _ kz => pw_aload0 dX11_bars_11 kz) ?_
    refine WQ.st (fun _ _ kz => pw_getr gX11_71 dX11_bars_12 (cf_s8 hC) hI.re.p84 kz) ?_
    refine WQ.st (fun _ _ kz => pw_iload1 dX11_bars_15 kz) ?_
    refine wq_o1i wX7_barsOf lX11_179 rfl dX11_bars_16 (sh_s0 hE.dc.ka.hsh) (k_barsOf hE.dc.ka.hsh hSe hD hq c8) rfl (Nat.le_of_ble_eq_true rfl) (Nat.le_of_ble_eq_true rfl) (fun h16 z16 => ?_)
    subst z16
    refine WQ.st (fun _ _ kz => pw_goto (tgt := 24) dX11_bars_19 (by decide) kz) ?_
    refine ⟨_, _, pw_iret dX11_bars_24 rfl rfl rfl rfl, ?_⟩
    exact ⟨rI (by unfold sp_bars; rw [if_pos c8, tq, Int.toNat_natCast]), t, sl, ls, S, V, P, A, B, Q, rfl, hI, by omega, FrO.rfl, fun _ _ h => h⟩
set_option maxRecDepth 20000 in
theorem q_count {G : gT} {d : Nat} {S : sS} {V : sV} {P : sP} {A : sV} {B : sB} {Q : sP} {t sl : Nat} {al : Nat → Int32} {W : WT} {sh ls : Nat} (hI : CI S V P A B Q t al W sh ls) (hls : ls + 1000 < 2000000000) (x : Int32) : WQ G (d + 9) mX11_count 0 [some (.ref 8), some (.int x)] [] (t, sl, gh S V P A B Q) (CZ S V P A B Q t sl W sh ls (.int (sp_count al W.2.2.2.2.1 x.toInt)) al) := by
  unfold CZ
  have hE := hI.de
  have hC := hE.dc.ka.cf
  have hD := hE.dc.ka.dv
  have hSe := hE.dc.ka.se
  have hA := hI.av
  have hp5 := hD.p5
  have hn4 := hD.n4
  refine WQ.st (fun _ _ kz => pw_iload1 dX11_count_0 kz) ?_
  by_cases h1_0 : x = 0
  · refine WQ.st (fun _ _ kz => pw_tableIn (off := 59) (tgt := 60) dX11_count_1 (by rw [h1_0]; decide) (by rw [h1_0]; decide) (by rw [h1_0]; rfl) (by decide) kz) ?_
    refine WQ.st (fun _ _ kz => pw_aload0 dX11_count_60 kz) ?_
    refine WQ.st (fun _ _ kz => pw_getr gX11_71 dX11_count_61 (cf_s8 hC) hI.re.p84 kz) ?_
    refine WQ.st (fun _ _ kz => pw_geti gX11_320 dX11_count_64 (sh_s0 hE.dc.ka.hsh) kz) ?_
    refine ⟨_, _, pw_iret dX11_count_67 rfl rfl rfl rfl, ?_⟩
    exact ⟨rI (by unfold sp_count; rw [if_pos (by rw [h1_0]; rfl)]; exact hSe.2.1), t, sl, ls, S, V, P, A, B, Q, rfl, hI, by omega, FrO.rfl, fun _ _ h => h⟩
  by_cases h1_1 : x = 1
  · refine WQ.st (fun _ _ kz => pw_tableIn (off := 67) (tgt := 68) dX11_count_1 (by rw [h1_1]; decide) (by rw [h1_1]; decide) (by rw [h1_1]; rfl) (by decide) kz) ?_
    refine WQ.st (fun _ _ kz => pw_aload0 dX11_count_68 kz) ?_
    refine WQ.st (fun _ _ kz => pw_getr gX11_71 dX11_count_69 (cf_s8 hC) hI.re.p84 kz) ?_
    refine WQ.st (fun _ _ kz => pw_geti gX11_335 dX11_count_72 (sh_s0 hE.dc.ka.hsh) kz) ?_
    refine ⟨_, _, pw_iret dX11_count_75 rfl rfl rfl rfl, ?_⟩
    exact ⟨rI (by unfold sp_count; rw [if_neg (by rw [h1_1]; decide), if_pos (by rw [h1_1]; rfl)]; exact hSe.2.2.1), t, sl, ls, S, V, P, A, B, Q, rfl, hI, by omega, FrO.rfl, fun _ _ h => h⟩
  by_cases h1_2 : x = 2
  · refine WQ.st (fun _ _ kz => pw_tableIn (off := 75) (tgt := 76) dX11_count_1 (by rw [h1_2]; decide) (by rw [h1_2]; decide) (by rw [h1_2]; rfl) (by decide) kz) ?_
    refine WQ.st (fun _ _ kz => pw_aload0 dX11_count_76 kz) ?_
    refine WQ.st (fun _ _ kz => pw_getr gX11_71 dX11_count_77 (cf_s8 hC) hI.re.p84 kz) ?_
    refine wq_o0i wX7_allBars lX11_383 rfl dX11_count_80 (sh_s0 hE.dc.ka.hsh) (k_allBars hE.dc.ka.hsh hSe hD) rfl (Nat.le_of_ble_eq_true rfl) (Nat.le_of_ble_eq_true rfl) (fun h80 z80 => ?_)
    subst z80
    refine ⟨_, _, pw_iret dX11_count_83 rfl rfl rfl rfl, ?_⟩
    exact ⟨rI (by unfold sp_count; rw [if_neg (by rw [h1_2]; decide), if_neg (by rw [h1_2]; decide), if_pos (by rw [h1_2]; rfl)]), t, sl, ls, S, V, P, A, B, Q, rfl, hI, by omega, FrO.rfl, fun _ _ h => h⟩
  by_cases h1_3 : x = 3
  · refine WQ.st (fun _ _ kz => pw_tableIn (off := 83) (tgt := 84) dX11_count_1 (by rw [h1_3]; decide) (by rw [h1_3]; decide) (by rw [h1_3]; rfl) (by decide) kz) ?_
    refine WQ.st (fun _ _ kz => pw_aload0 dX11_count_84 kz) ?_
    refine WQ.st (fun _ _ kz => pw_getr gX11_35 dX11_count_85 (cf_s8 hC) (cf_p8_5 hC) kz) ?_
    refine wq_o0i wX8_allStores lX11_249 rfl dX11_count_88 (cf_s16 hC) (k_allStores (cf_st16 hC)) rfl (Nat.le_of_ble_eq_true rfl) (Nat.le_of_ble_eq_true rfl) (fun h88 z88 => ?_)
    subst z88
    refine ⟨_, _, pw_iret dX11_count_91 rfl rfl rfl rfl, ?_⟩
    exact ⟨rI (by unfold sp_count; rw [if_neg (by rw [h1_3]; decide), if_neg (by rw [h1_3]; decide), if_neg (by rw [h1_3]; decide), if_pos (by rw [h1_3]; rfl)]; exact smI_5 (n := (al 2).toInt.toNat) (by omega) (fun i hi => hE.se.st hi) (fun i h1 h2 => by have := (hE.kv.ze i h2 (by omega)).1; rw [show 75 + (2 + i) = 77 + i by omega] at this; exact this)), t, sl, ls, S, V, P, A, B, Q, rfl, hI, by omega, FrO.rfl, fun _ _ h => h⟩
  by_cases h1_4 : x = 4
  · refine WQ.st (fun _ _ kz => pw_tableIn (off := 91) (tgt := 92) dX11_count_1 (by rw [h1_4]; decide) (by rw [h1_4]; decide) (by rw [h1_4]; rfl) (by decide) kz) ?_
    refine WQ.st (fun _ _ kz => pw_aload0 dX11_count_92 kz) ?_
    refine WQ.st (fun _ _ kz => pw_getr gX11_35 dX11_count_93 (cf_s8 hC) (cf_p8_5 hC) kz) ?_
    refine wq_o0i wX8_allJoy lX11_253 rfl dX11_count_96 (cf_s16 hC) (k_allJoy (cf_st16 hC)) rfl (Nat.le_of_ble_eq_true rfl) (Nat.le_of_ble_eq_true rfl) (fun h96 z96 => ?_)
    subst z96
    refine ⟨_, _, pw_iret dX11_count_99 rfl rfl rfl rfl, ?_⟩
    exact ⟨rI (by unfold sp_count; rw [if_neg (by rw [h1_4]; decide), if_neg (by rw [h1_4]; decide), if_neg (by rw [h1_4]; decide), if_neg (by rw [h1_4]; decide), if_pos (by rw [h1_4]; rfl)]; exact smI_5 (n := (al 2).toInt.toNat) (by omega) (fun i hi => hE.se.jo hi) (fun i h1 h2 => by have := (hE.kv.ze i h2 (by omega)).2; rw [show 75 + (7 + i) = 82 + i by omega] at this; exact this)), t, sl, ls, S, V, P, A, B, Q, rfl, hI, by omega, FrO.rfl, fun _ _ h => h⟩
  by_cases h1_5 : x = 5
  · refine WQ.st (fun _ _ kz => pw_tableIn (off := 99) (tgt := 100) dX11_count_1 (by rw [h1_5]; decide) (by rw [h1_5]; decide) (by rw [h1_5]; rfl) (by decide) kz) ?_
    refine WQ.st (fun _ _ kz => pw_aload0 dX11_count_100 kz) ?_
    refine WQ.st (fun _ _ kz => pw_getr gX11_35 dX11_count_101 (cf_s8 hC) (cf_p8_5 hC) kz) ?_
    refine WQ.st (fun _ _ kz => pw_geti gX11_223 dX11_count_104 (cf_s16 hC) kz) ?_
    refine ⟨_, _, pw_iret dX11_count_107 rfl rfl rfl rfl, ?_⟩
    exact ⟨rI (by unfold sp_count; rw [if_neg (by rw [h1_5]; decide), if_neg (by rw [h1_5]; decide), if_neg (by rw [h1_5]; decide), if_neg (by rw [h1_5]; decide), if_neg (by rw [h1_5]; decide), if_pos (by rw [h1_5]; rfl)]; exact hE.se.1), t, sl, ls, S, V, P, A, B, Q, rfl, hI, by omega, FrO.rfl, fun _ _ h => h⟩
  by_cases h1_6 : x = 6
  · refine WQ.st (fun _ _ kz => pw_tableIn (off := 107) (tgt := 108) dX11_count_1 (by rw [h1_6]; decide) (by rw [h1_6]; decide) (by rw [h1_6]; rfl) (by decide) kz) ?_
    refine WQ.st (fun _ _ kz => pw_aload0 dX11_count_108 kz) ?_
    refine WQ.st (fun _ _ kz => pw_getr gX11_35 dX11_count_109 (cf_s8 hC) (cf_p8_5 hC) kz) ?_
    refine WQ.st (fun _ _ kz => pw_geti gX11_386 dX11_count_112 (cf_s16 hC) kz) ?_
    refine ⟨_, _, pw_iret dX11_count_115 rfl rfl rfl rfl, ?_⟩
    exact ⟨rI (by unfold sp_count; rw [if_neg (by rw [h1_6]; decide), if_neg (by rw [h1_6]; decide), if_neg (by rw [h1_6]; decide), if_neg (by rw [h1_6]; decide), if_neg (by rw [h1_6]; decide), if_neg (by rw [h1_6]; decide), if_pos (by rw [h1_6]; rfl)]; exact hE.se.2.1), t, sl, ls, S, V, P, A, B, Q, rfl, hI, by omega, FrO.rfl, fun _ _ h => h⟩
  by_cases h1_7 : x = 7
  · refine WQ.st (fun _ _ kz => pw_tableIn (off := 115) (tgt := 116) dX11_count_1 (by rw [h1_7]; decide) (by rw [h1_7]; decide) (by rw [h1_7]; rfl) (by decide) kz) ?_
    refine WQ.st (fun _ _ kz => pw_aload0 dX11_count_116 kz) ?_
    refine WQ.st (fun _ _ kz => pw_getr gX11_71 dX11_count_117 (cf_s8 hC) hI.re.p84 kz) ?_
    refine WQ.st (fun _ _ kz => pw_geti gX11_389 dX11_count_120 (sh_s0 hE.dc.ka.hsh) kz) ?_
    refine ⟨_, _, pw_iret dX11_count_123 rfl rfl rfl rfl, ?_⟩
    exact ⟨rI (by unfold sp_count; rw [if_neg (by rw [h1_7]; decide), if_neg (by rw [h1_7]; decide), if_neg (by rw [h1_7]; decide), if_neg (by rw [h1_7]; decide), if_neg (by rw [h1_7]; decide), if_neg (by rw [h1_7]; decide), if_neg (by rw [h1_7]; decide), if_pos (by rw [h1_7]; rfl)]; exact hSe.2.2.2.1), t, sl, ls, S, V, P, A, B, Q, rfl, hI, by omega, FrO.rfl, fun _ _ h => h⟩
  by_cases h1_8 : x = 8
  · refine WQ.st (fun _ _ kz => pw_tableIn (off := 123) (tgt := 124) dX11_count_1 (by rw [h1_8]; decide) (by rw [h1_8]; decide) (by rw [h1_8]; rfl) (by decide) kz) ?_
    refine WQ.st (fun _ _ kz => pw_aload0 dX11_count_124 kz) ?_
    refine WQ.st (fun _ _ kz => pw_getr gX11_45 dX11_count_125 (cf_s8 hC) (cf_p8_7 hC) kz) ?_
    refine WQ.st (fun _ _ kz => pw_geti gX11_226 dX11_count_128 (cf_s24 hC) kz) ?_
    refine ⟨_, _, pw_iret dX11_count_131 rfl rfl rfl rfl, ?_⟩
    exact ⟨rI (by unfold sp_count; rw [if_neg (by rw [h1_8]; decide), if_neg (by rw [h1_8]; decide), if_neg (by rw [h1_8]; decide), if_neg (by rw [h1_8]; decide), if_neg (by rw [h1_8]; decide), if_neg (by rw [h1_8]; decide), if_neg (by rw [h1_8]; decide), if_neg (by rw [h1_8]; decide), if_pos (by rw [h1_8]; rfl)]; exact hI.re.hi.2.1), t, sl, ls, S, V, P, A, B, Q, rfl, hI, by omega, FrO.rfl, fun _ _ h => h⟩
  by_cases h1_9 : x = 9
  · refine WQ.st (fun _ _ kz => pw_tableIn (off := 131) (tgt := 132) dX11_count_1 (by rw [h1_9]; decide) (by rw [h1_9]; decide) (by rw [h1_9]; rfl) (by decide) kz) ?_
    refine WQ.st (fun _ _ kz => pw_aload0 dX11_count_132 kz) ?_
    refine WQ.st (fun _ _ kz => pw_geti gX11_15 dX11_count_133 (cf_s8 hC) kz) ?_
    refine ⟨_, _, pw_iret dX11_count_136 rfl rfl rfl rfl, ?_⟩
    exact ⟨rI (by unfold sp_count; rw [if_neg (by rw [h1_9]; decide), if_neg (by rw [h1_9]; decide), if_neg (by rw [h1_9]; decide), if_neg (by rw [h1_9]; decide), if_neg (by rw [h1_9]; decide), if_neg (by rw [h1_9]; decide), if_neg (by rw [h1_9]; decide), if_neg (by rw [h1_9]; decide), if_neg (by rw [h1_9]; decide), if_pos (by rw [h1_9]; rfl)]; exact hI.re.tp.1), t, sl, ls, S, V, P, A, B, Q, rfl, hI, by omega, FrO.rfl, fun _ _ h => h⟩
  by_cases h1_10 : x = 10
  · refine WQ.st (fun _ _ kz => pw_tableIn (off := 136) (tgt := 137) dX11_count_1 (by rw [h1_10]; decide) (by rw [h1_10]; decide) (by rw [h1_10]; rfl) (by decide) kz) ?_
    refine WQ.st (fun _ _ kz => pw_aload0 dX11_count_137 kz) ?_
    refine WQ.st (fun _ _ kz => pw_getr gX11_71 dX11_count_138 (cf_s8 hC) hI.re.p84 kz) ?_
    refine WQ.st (fun _ _ kz => pw_geti gX11_145 dX11_count_141 (sh_s0 hE.dc.ka.hsh) kz) ?_
    refine ⟨_, _, pw_iret dX11_count_144 rfl rfl rfl rfl, ?_⟩
    exact ⟨rI (by unfold sp_count; rw [if_neg (by rw [h1_10]; decide), if_neg (by rw [h1_10]; decide), if_neg (by rw [h1_10]; decide), if_neg (by rw [h1_10]; decide), if_neg (by rw [h1_10]; decide), if_neg (by rw [h1_10]; decide), if_neg (by rw [h1_10]; decide), if_neg (by rw [h1_10]; decide), if_neg (by rw [h1_10]; decide), if_neg (by rw [h1_10]; decide), if_pos (by rw [h1_10]; rfl)]; exact hSe.1), t, sl, ls, S, V, P, A, B, Q, rfl, hI, by omega, FrO.rfl, fun _ _ h => h⟩
  have g1_0 := i32_ne (z := 0) rfl h1_0
  have g1_1 := i32_ne (z := 1) rfl h1_1
  have g1_2 := i32_ne (z := 2) rfl h1_2
  have g1_3 := i32_ne (z := 3) rfl h1_3
  have g1_4 := i32_ne (z := 4) rfl h1_4
  have g1_5 := i32_ne (z := 5) rfl h1_5
  have g1_6 := i32_ne (z := 6) rfl h1_6
  have g1_7 := i32_ne (z := 7) rfl h1_7
  have g1_8 := i32_ne (z := 8) rfl h1_8
  have g1_9 := i32_ne (z := 9) rfl h1_9
  have g1_10 := i32_ne (z := 10) rfl h1_10
  refine WQ.st (fun _ _ kz => pw_tableOut (tgt := 145) dX11_count_1 (by omega) (by decide) kz) ?_
  refine WQ.st (fun _ _ kz => pw_iconst (v := -1) dX11_count_145 (by decide) kz) ?_
  refine ⟨_, _, pw_iret dX11_count_146 rfl rfl rfl rfl, ?_⟩
  exact ⟨rI (by unfold sp_count; rw [if_neg g1_0, if_neg g1_1, if_neg g1_2, if_neg g1_3, if_neg g1_4, if_neg g1_5, if_neg g1_6, if_neg g1_7, if_neg g1_8, if_neg g1_9, if_neg g1_10]), t, sl, ls, S, V, P, A, B, Q, rfl, hI, by omega, FrO.rfl, fun _ _ h => h⟩
set_option maxRecDepth 20000 in
theorem q_glad {G : gT} {d : Nat} {S : sS} {V : sV} {P : sP} {A : sV} {B : sB} {Q : sP} {t sl : Nat} {al : Nat → Int32} {W : WT} {sh ls : Nat} (hI : CI S V P A B Q t al W sh ls) (hls : ls + 1000 < 2000000000) (x y z w l : Int32) : WQ G (d + 9) mX11_glad 0 [some (.ref 8), some (.int x), some (.int y), some (.int z), some (.int w), some (.int l)] [] (t, sl, gh S V P A B Q) (CZ S V P A B Q t sl W sh ls (.int (sp_glad al x.toInt y.toInt z.toInt w l)) al) := by
  unfold CZ
  have hE := hI.de
  have hC := hE.dc.ka.cf
  have hD := hE.dc.ka.dv
  have hSe := hE.dc.ka.se
  have hA := hI.av
  have hp5 := hD.p5
  have hn4 := hD.n4
  refine WQ.st (fun _ _ kz => pw_aload0 dX11_glad_0 kz) ?_
  refine WQ.st (fun _ _ kz => pw_getr gX11_71 dX11_glad_1 (cf_s8 hC) hI.re.p84 kz) ?_
  refine WQ.st (fun _ _ kz => pw_iload1 dX11_glad_4 kz) ?_
  refine wq_o1i wX7_hasPlayer lX11_151 rfl dX11_glad_5 (sh_s0 hE.dc.ka.hsh) (k_hasPlayer hE.dc.ka.hsh hSe hD _) rfl (Nat.le_of_ble_eq_true rfl) (Nat.le_of_ble_eq_true rfl) (fun h5 z5 => ?_)
  subst z5
  refine WQ.br (fun _ _ ka kb => pw_if_eq (tgt := 23) dX11_glad_8 (by decide) ka kb) (fun c8 => ?_) (fun c8 => ?_)
  · rw [bI_0] at c8
    refine WQ.st (fun _ _ kz => pw_ldc kX11_155 dX11_glad_23 kz) ?_
    refine ⟨_, _, pw_iret dX11_glad_25 rfl rfl rfl rfl, ?_⟩
    exact ⟨rI (by unfold sp_glad; rw [c8, Bool.false_and, if_neg (by decide)]), t, sl, ls, S, V, P, A, B, Q, rfl, hI, by omega, FrO.rfl, fun _ _ h => h⟩
  · rw [bI_n] at c8
    have gx := isP_t c8
    obtain ⟨p, rfl, tp, lp⟩ := nI_get gx.1 gx.2 (by omega)
    have hp : p < 5 := by omega
    refine WQ.st (fun _ _ kz => pw_aload0 dX11_glad_11 kz) ?_
    refine WQ.st (fun _ _ kz => pw_getr gX11_71 dX11_glad_12 (cf_s8 hC) hI.re.p84 kz) ?_
    refine WQ.st (fun _ _ kz => pw_iload2 dX11_glad_15 kz) ?_
    refine WQ.st (fun _ _ kz => pw_iload3 dX11_glad_16 kz) ?_
    refine wq_o2i wX7_hasBar lX11_168 rfl dX11_glad_17 (sh_s0 hE.dc.ka.hsh) (k_hasBar hE.dc.ka.hsh hSe hD _ _) rfl (Nat.le_of_ble_eq_true rfl) (Nat.le_of_ble_eq_true rfl) (fun h17 z17 => ?_)
    subst z17
    refine WQ.bn (fun _ _ ka kb => pw_if_ne (tgt := 26) dX11_glad_20 (by decide) ka kb) (fun c20 => ?_) (fun c20 => ?_)
    · rw [bI_n] at c20
      have hb2 := (Bool.and_eq_true _ _).mp c20
      have hiq := hb2.1
      have gy := isQ_t hb2.1
      obtain ⟨q, rfl, tq, lq⟩ := nI_get gy.1 gy.2 (by omega)
      have hq : q < 4 := by omega
      have gb := of_decide_eq_true hb2.2
      rw [tq, Int.toNat_natCast] at gb
      have hlg := hD.lg q hq
      obtain ⟨b, rfl, tb, lb⟩ := nI_get gb.1 gb.2 (by omega)
      have hb : b < 12 := by omega
      refine WQ.st (fun _ _ kz => pw_iload4 dX11_glad_26 kz) ?_
      refine wq_s1i wX11_isDraw lX11_183 dX11_glad_28 (k_isDraw _) rfl (Nat.le_of_ble_eq_true rfl) (Nat.le_of_ble_eq_true rfl) (fun h28 z28 => ?_)
      subst z28
      refine WQ.br (fun _ _ ka kb => pw_if_eq (tgt := 42) dX11_glad_31 (by decide) ka kb) (fun c31 => ?_) (fun c31 => ?_)
      · rw [bI_0] at c31
        refine WQ.st (fun _ _ kz => pw_ldc kX11_123 dX11_glad_42 kz) ?_
        refine ⟨_, _, pw_iret dX11_glad_44 rfl rfl rfl rfl, ?_⟩
        exact ⟨rI (by unfold sp_glad; rw [c8, c20, Bool.true_and, if_pos (by rfl), c31, Bool.false_and, if_neg (by decide)]), t, sl, ls, S, V, P, A, B, Q, rfl, hI, by omega, FrO.rfl, fun _ _ h => h⟩
      · rw [bI_n] at c31
        refine WQ.st (fun _ _ kz => pw_iload5 dX11_glad_34 kz) ?_
        refine wq_s1i wX11_isDraw lX11_183 dX11_glad_36 (k_isDraw _) rfl (Nat.le_of_ble_eq_true rfl) (Nat.le_of_ble_eq_true rfl) (fun h36 z36 => ?_)
        subst z36
        refine WQ.bn (fun _ _ ka kb => pw_if_ne (tgt := 45) dX11_glad_39 (by decide) ka kb) (fun c39 => ?_) (fun c39 => ?_)
        · rw [bI_n] at c39
          refine WQ.st (fun _ _ kz => pw_aload0 dX11_glad_45 kz) ?_
          refine WQ.st (fun _ _ kz => pw_iload1 dX11_glad_46 kz) ?_
          refine WQ.st (fun _ _ kz => pw_iload2 dX11_glad_47 kz) ?_
          refine wq_o2v wX11_takeUp lX11_186 rfl dX11_glad_48 (cf_s8 hC) (k_take hI (by omega) hp hq hiq) rfl (Nat.le_of_ble_eq_true rfl) (Nat.le_of_ble_eq_true rfl) (fun h48 z48 => ?_)
          obtain ⟨tm, hat, t5, sl5, ls5, S5, V5, P5, A5, B5, Q5, rfl, k5, i5, l5, f5, r5⟩ := z48
          have hC := k5.cf
          have hE5 := i5.de
          refine WQ.st (fun _ _ kz => pw_aload0 dX11_glad_51 kz) ?_
          refine WQ.st (fun _ _ kz => pw_getr gX11_80 dX11_glad_52 (cf_s8 hC) (cf_p8_11 hC) kz) ?_
          refine WQ.st (fun _ _ kz => pw_iload3 dX11_glad_55 kz) ?_
          refine WQ.st (fun _ _ kz => pw_aload0 dX11_glad_56 kz) ?_
          refine WQ.st (fun _ _ kz => pw_getr gX11_35 dX11_glad_57 (cf_s8 hC) (cf_p8_5 hC) kz) ?_
          refine WQ.st (fun _ _ kz => pw_getr gX11_156 dX11_glad_60 (cf_s16 hC) (cf_p16_0 hC) kz) ?_
          refine WQ.st (fun _ _ kz => pw_iload1 dX11_glad_63 kz) ?_
          refine WQ.st (fun _ _ kz => pw_ald (j := p) dX11_glad_64 (cf_s17 hC) (ix_m rfl (by omega)) (by omega) kz) ?_
          rw [hE5.se.st hp]
          refine WQ.st (fun _ _ kz => pw_iload5 dX11_glad_65 kz) ?_
          refine WQ.st (fun _ _ kz => pw_iload4 dX11_glad_67 kz) ?_
          refine wq_o4i wX0_gladBy lX11_190 rfl dX11_glad_69 (cf_s96 hC) (k_gladBy k5 hb _ _ _) rfl (Nat.le_of_ble_eq_true rfl) (Nat.le_of_ble_eq_true rfl) (fun h69 z69 => ?_)
          obtain ⟨A6, rfl, f6⟩ := z69
          refine ⟨_, _, pw_iret dX11_glad_72 rfl rfl rfl rfl, ?_⟩
          have fd : FrG A5 B5 A6 B5 := ⟨f6, fun _ _ => rfl⟩
          have fo := (FrG.d (a := 20) (S := S5) (V := V5) (P := P5) (Q := Q5) (t := t5) fd)
          have dc5 := i5.de.dc
          refine ⟨rI ?_, t5, sl5, ls5, S5, V5, P5, A6, B5, Q5, rfl, i5.ask ⟨dc5.ka.g f6, dc5.hb, dc5.rh, dc5.hw, by rw [f6 109 (by omega) (by omega)]; exact dc5.ev⟩ fo, by omega, ((FrT.d (a := 20) f5).o (Or.inr rfl)).tr (fo.o (Or.inr rfl)), r5⟩
          unfold sp_glad
          rw [c8, c20, Bool.true_and, if_pos (by rfl), c31, c39, Bool.true_and, if_pos (by rfl), hat, tp, tq, tb, Int.toNat_natCast, Int.toNat_natCast, Int.toNat_natCast]
        · rw [bI_0] at c39
          refine WQ.st (fun _ _ kz => pw_ldc kX11_123 dX11_glad_42 kz) ?_
          refine ⟨_, _, pw_iret dX11_glad_44 rfl rfl rfl rfl, ?_⟩
          exact ⟨rI (by unfold sp_glad; rw [c8, c20, Bool.true_and, if_pos (by rfl), c31, c39, Bool.and_false, if_neg (by decide)]), t, sl, ls, S, V, P, A, B, Q, rfl, hI, by omega, FrO.rfl, fun _ _ h => h⟩
    · rw [bI_0] at c20
      refine WQ.st (fun _ _ kz => pw_ldc kX11_155 dX11_glad_23 kz) ?_
      refine ⟨_, _, pw_iret dX11_glad_25 rfl rfl rfl rfl, ?_⟩
      exact ⟨rI (by unfold sp_glad; rw [c8, c20, Bool.and_false, if_neg (by decide)]), t, sl, ls, S, V, P, A, B, Q, rfl, hI, by omega, FrO.rfl, fun _ _ h => h⟩
