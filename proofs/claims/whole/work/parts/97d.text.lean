set_option maxRecDepth 20000 in
theorem c_nextToken {G : gT} {d : Nat} {S : sS} {P : sP} {A : sV} {B : sB} {Q : sP} {t sl o : Nat} (hF : MF S P o) {x : Nat → Int32} {L p : Nat} {V0 : sV} (hX0 : TXR x L o V0 A) (hp : p ≤ L) (h7 : V0 o 7 = nI p) : WQ G (d + 5) mX12_nextToken 0 [some (.ref o), none] [] (t, sl, gh S V0 P A B Q) (fun r h' => r = none ∧ ∃ V' : sV, h' = (t, sl, gh S V' P A B Q) ∧ FRV o V0 V' ∧ V' o 6 = nI (tkS x L p) ∧ V' o 7 = nI (tkE x L p) ∧ V' o 9 = nI (tkK x L p) ∧ (tkK x L p = 23 → V' o 10 = tkV x L p)) := by
  have h9 := hX0.2.1
  have hf0 : FRV o V0 V0 := FRV.rfl
  refine WQ.st (fun _ _ kz => pw_aload0 dX12_nextToken_0 kz) ?_
  refine WQ.st (fun _ _ kz => pw_aload0 dX12_nextToken_1 kz) ?_
  refine WQ.st (fun _ _ kz => pw_geti gX12_111 dX12_nextToken_2 hF.1 kz) ?_
  rw [h7]
  refine WQ.st (fun _ _ kz => pw_puti (pX12_108 _ rfl) dX12_nextToken_5 hF.1 rfl rfl kz) ?_
  refine l_ntS hF hX0 (L - p) p _ (by omega) (hf0.up (by omega)) up2_eq (fun V1 f1 h6 => ?_)
  have h6 : V1 o 6 = nI (tkS x L p) := h6
  have hS := tkS_le (x := x) hp
  have hE := tkE_le (x := x) hp
  generalize hs : tkS x L p = s at *
  refine WQ.st (fun _ _ kz => pw_aload0 dX12_nextToken_47 kz) ?_
  refine WQ.st (fun _ _ kz => pw_aload0 dX12_nextToken_48 kz) ?_
  refine WQ.st (fun _ _ kz => pw_geti gX12_108 dX12_nextToken_49 hF.1 kz) ?_
  rw [h6]
  refine WQ.st (fun _ _ kz => pw_puti (pX12_111 _ rfl) dX12_nextToken_52 hF.1 rfl rfl kz) ?_
  refine WQ.st (fun _ _ kz => pw_aload0 dX12_nextToken_55 kz) ?_
  refine WQ.st (fun _ _ kz => pw_geti gX12_108 dX12_nextToken_56 hF.1 kz) ?_
  rw [up2_nk (by omega), h6]
  refine WQ.st (fun _ _ kz => pw_aload0 dX12_nextToken_59 kz) ?_
  refine WQ.st (fun _ _ kz => pw_geti gX12_93 dX12_nextToken_60 hF.1 kz) ?_
  rw [up2_nk (by omega), f1.2 8 (by omega) (by omega) (by omega) (by omega), hX0.1]
  refine WQ.br (fun _ _ ka kb => pw_icmp_lt (tgt := 75) dX12_nextToken_63 (by decide) ka kb) (fun c63 => ?_) (fun c63 => ?_)
  · rw [lt_i (ix_n (by omega)) (ix_n (by omega))] at c63
    have c63 : s < L := by omega
    have hX := (hX0.fr f1).fr (FRV.rfl.up (k := 7) (y := nI s) (by omega))
    have seL : seT x L s = x s := by unfold seT; rw [if_pos c63]
    refine WQ.st (fun _ _ kz => pw_aload0 dX12_nextToken_75 kz) ?_
    refine WQ.st (fun _ _ kz => pw_aload0 dX12_nextToken_76 kz) ?_
    refine WQ.st (fun _ _ kz => pw_geti gX12_108 dX12_nextToken_77 hF.1 kz) ?_
    rw [up2_nk (by omega), h6]
    refine WQ.st (fun _ _ kz => pw_o1i wX12_see lX12_114 rfl dX12_nextToken_80 hF.1 (c_seeT hF hX (p := s) (by omega)) rfl (Nat.le_of_ble_eq_true rfl) (Nat.le_of_ble_eq_true rfl) kz) ?_
    rw [seL]
    refine WQ.st (fun _ _ kz => pw_s1i wX12_isSmall lX12_121 dX12_nextToken_83 (c_isSmall _) rfl (Nat.le_of_ble_eq_true rfl) (Nat.le_of_ble_eq_true rfl) kz) ?_
    rw [sm_I]
    refine WQ.br (fun _ _ ka kb => pw_if_eq (tgt := 127) dX12_nextToken_86 (by decide) ka kb) (fun c86 => ?_) (fun c86 => ?_)
    · rw [bI_0] at c86
      refine WQ.st (fun _ _ kz => pw_aload0 dX12_nextToken_127 kz) ?_
      refine WQ.st (fun _ _ kz => pw_aload0 dX12_nextToken_128 kz) ?_
      refine WQ.st (fun _ _ kz => pw_geti gX12_108 dX12_nextToken_129 hF.1 kz) ?_
      rw [up2_nk (by omega), h6]
      refine WQ.st (fun _ _ kz => pw_o1i wX12_see lX12_114 rfl dX12_nextToken_132 hF.1 (c_seeT hF hX (p := s) (by omega)) rfl (Nat.le_of_ble_eq_true rfl) (Nat.le_of_ble_eq_true rfl) kz) ?_
      rw [seL]
      refine WQ.st (fun _ _ kz => pw_s1i wX12_isDigit lX12_128 dX12_nextToken_135 (c_isDigit _) rfl (Nat.le_of_ble_eq_true rfl) (Nat.le_of_ble_eq_true rfl) kz) ?_
      rw [dg_I]
      refine WQ.br (fun _ _ ka kb => pw_if_eq (tgt := 236) dX12_nextToken_138 (by decide) ka kb) (fun c138 => ?_) (fun c138 => ?_)
      · rw [bI_0] at c138
        refine WQ.st (fun _ _ kz => pw_aload0 dX12_nextToken_236 kz) ?_
        refine WQ.st (fun _ _ kz => pw_dup dX12_nextToken_237 rfl kz) ?_
        refine WQ.st (fun _ _ kz => pw_geti gX12_111 dX12_nextToken_238 hF.1 kz) ?_
        rw [up2_eq]
        refine WQ.st (fun _ _ kz => pw_iconst (v := 1) dX12_nextToken_241 (by decide) kz) ?_
        refine WQ.st (fun _ _ kz => pw_iadd dX12_nextToken_242 kz) ?_
        refine WQ.st (fun _ _ kz => pw_puti (pX12_111 _ rfl) dX12_nextToken_243 hF.1 rfl rfl kz) ?_
        refine WQ.st (fun _ _ kz => pw_aload0 dX12_nextToken_246 kz) ?_
        refine WQ.st (fun _ _ kz => pw_bipush (v := 25) dX12_nextToken_247 (by decide) kz) ?_
        refine WQ.st (fun _ _ kz => pw_puti (pX12_118 _ rfl) dX12_nextToken_249 hF.1 rfl rfl kz) ?_
        refine WQ.st (fun _ _ kz => pw_iconst (v := 0) dX12_nextToken_252 (by decide) kz) ?_
        refine WQ.st (fun _ _ kz => pw_istore1 dX12_nextToken_253 (by decide) (k := kz)) ?_
        have eE : tkE x L p = s + 1 := by unfold tkE; rw [hs, if_pos c63, if_neg (by rw [c86]; decide), if_neg (by rw [c138]; decide)]
        rw [show (0 : Int32) = nI 0 from rfl, show nI s + 1 = nI (s + 1) from nI_1 _]
        refine l_ntG hF hX0 (s := s) (e := s + 1) c63 12 0 _ (by omega) (((f1.up (by omega)).up (by omega)).up (by omega)) (by rw [up2_nk (by omega), up2_nk (by omega), up2_nk (by omega)]; exact h6) (by rw [up2_nk (by omega), up2_eq]) (by rw [up2_eq]; rfl) (fun V2 f2 a6 a7 a9 => ?_)
        refine ⟨_, _, pw_vret dX12_nextToken_294 rfl rfl rfl, ?_⟩
        exact ⟨rfl, _, rfl, f2, a6, by rw [eE]; exact a7, by rw [a9]; unfold tkK; rw [hs, if_pos c63, if_neg (by rw [c86]; decide), if_neg (by rw [c138]; decide)], fun q => by unfold tkK at q; rw [hs, if_pos c63, if_neg (by rw [c86]; decide), if_neg (by rw [c138]; decide)] at q; have := sgF_n (x s) 12; omega⟩
      · rw [bI_n] at c138
        refine WQ.st (fun _ _ kz => pw_aload0 dX12_nextToken_141 kz) ?_
        refine WQ.st (fun _ _ kz => pw_iconst (v := 0) dX12_nextToken_142 (by decide) kz) ?_
        refine WQ.st (fun _ _ kz => pw_puti (pX12_131 _ rfl) dX12_nextToken_143 hF.1 rfl rfl kz) ?_
        have eE : tkE x L p = runF x isDgI (L - s) s := by unfold tkE; rw [hs, if_pos c63, if_neg (by rw [c86]; decide), if_pos c138]
        refine l_ntD hF hX0 (s := s) (L - s) s _ (by omega) (Nat.le_refl _) ((f1.up (by omega)).up (by omega)) (by rw [up2_nk (by omega), up2_nk (by omega)]; exact h6) (by rw [up2_nk (by omega), up2_eq]) (by rw [up2_eq, Nat.sub_self, if_pos (by omega)]; rfl) (fun V2 f2 a6 a7 a10 => ?_)
        rw [← eE] at a7 a10
        refine WQ.st (fun _ _ kz => pw_aload0 dX12_nextToken_209 kz) ?_
        refine WQ.st (fun _ _ kz => pw_aload0 dX12_nextToken_210 kz) ?_
        refine WQ.st (fun _ _ kz => pw_geti gX12_111 dX12_nextToken_211 hF.1 kz) ?_
        rw [a7]
        refine WQ.st (fun _ _ kz => pw_aload0 dX12_nextToken_214 kz) ?_
        refine WQ.st (fun _ _ kz => pw_geti gX12_108 dX12_nextToken_215 hF.1 kz) ?_
        rw [a6]
        refine WQ.st (fun _ _ kz => pw_isub dX12_nextToken_218 kz) ?_
        rw [nI_subk (show s ≤ tkE x L p by have := hE.2 c63; omega)]
        refine WQ.st (fun _ _ kz => pw_iconst (v := 3) dX12_nextToken_219 (by decide) kz) ?_
        refine WQ.br (fun _ _ ka kb => pw_icmp_le (tgt := 228) dX12_nextToken_220 (by decide) ka kb) (fun c220 => ?_) (fun c220 => ?_)
        · rw [le_i (ix_n (by omega)) li_3] at c220
          refine WQ.st (fun _ _ kz => pw_bipush (v := 23) dX12_nextToken_228 (by decide) kz) ?_
          refine WQ.st (fun _ _ kz => pw_puti (pX12_118 _ rfl) dX12_nextToken_230 hF.1 rfl rfl kz) ?_
          refine WQ.st (fun _ _ kz => pw_goto (tgt := 294) dX12_nextToken_233 (by decide) kz) ?_
          refine ⟨_, _, pw_vret dX12_nextToken_294 rfl rfl rfl, ?_⟩
          exact ⟨rfl, _, rfl, f2.up (by omega), by rw [up2_nk (by omega)]; exact a6, by rw [up2_nk (by omega)]; exact a7, by rw [up2_eq]; unfold tkK; rw [hs, if_pos c63, if_neg (by rw [c86]; decide), if_pos c138, if_neg (by omega)]; rfl, fun q => by rw [up2_nk (by omega)]; unfold tkV; rw [hs]; exact a10⟩
        · rw [le_i (ix_n (by omega)) li_3] at c220
          refine WQ.st (fun _ _ kz => pw_bipush (v := 25) dX12_nextToken_223 (by decide) kz) ?_
          refine WQ.st (fun _ _ kz => pw_goto (tgt := 230) dX12_nextToken_225 (by decide) kz) ?_
          refine WQ.st (fun _ _ kz => pw_puti (pX12_118 _ rfl) dX12_nextToken_230 hF.1 rfl rfl kz) ?_
          refine WQ.st (fun _ _ kz => pw_goto (tgt := 294) dX12_nextToken_233 (by decide) kz) ?_
          refine ⟨_, _, pw_vret dX12_nextToken_294 rfl rfl rfl, ?_⟩
          exact ⟨rfl, _, rfl, f2.up (by omega), by rw [up2_nk (by omega)]; exact a6, by rw [up2_nk (by omega)]; exact a7, by rw [up2_eq]; unfold tkK; rw [hs, if_pos c63, if_neg (by rw [c86]; decide), if_pos c138, if_pos (by omega)]; rfl, fun q => by rw [up2_nk (by omega)]; unfold tkV; rw [hs]; exact a10⟩
    · rw [bI_n] at c86
      have eE : tkE x L p = runF x isSmI (L - s) s := by unfold tkE; rw [hs, if_pos c63, if_pos c86]
      refine l_ntL hF hX0 (L - s) s _ (by omega) (f1.up (by omega)) (by rw [up2_nk (by omega)]; exact h6) up2_eq (fun V2 f2 a6 a7 => ?_)
      rw [← eE] at a7
      have hX := hX0.fr f2
      refine WQ.st (fun _ _ kz => pw_aload0 dX12_nextToken_116 kz) ?_
      refine WQ.st (fun _ _ kz => pw_aload0 dX12_nextToken_117 kz) ?_
      refine wq_o0i wX12_keyAt lX12_125 rfl dX12_nextToken_118 hF.1 (c_keyAt hF hX a6 a7 (hE.2 c63) hE.1) rfl (Nat.le_of_ble_eq_true rfl) (Nat.le_of_ble_eq_true rfl) (fun h118 z118 => ?_)
      subst z118
      refine WQ.st (fun _ _ kz => pw_puti (pX12_118 _ rfl) dX12_nextToken_121 hF.1 rfl rfl kz) ?_
      refine WQ.st (fun _ _ kz => pw_goto (tgt := 294) dX12_nextToken_124 (by decide) kz) ?_
      refine ⟨_, _, pw_vret dX12_nextToken_294 rfl rfl rfl, ?_⟩
      exact ⟨rfl, _, rfl, f2.up (by omega), by rw [up2_nk (by omega)]; exact a6, by rw [up2_nk (by omega)]; exact a7, by rw [up2_eq]; unfold tkK; rw [hs, if_pos c63, if_pos c86], fun q => by unfold tkK at q; rw [hs, if_pos c63, if_pos c86] at q; have := wR_n (x := x) s (tkE x L p); omega⟩
  · rw [lt_i (ix_n (by omega)) (ix_n (by omega))] at c63
    have c63 : ¬ s < L := by omega
    refine WQ.st (fun _ _ kz => pw_aload0 dX12_nextToken_66 kz) ?_
    refine WQ.st (fun _ _ kz => pw_bipush (v := 24) dX12_nextToken_67 (by decide) kz) ?_
    refine WQ.st (fun _ _ kz => pw_puti (pX12_118 _ rfl) dX12_nextToken_69 hF.1 rfl rfl kz) ?_
    refine WQ.st (fun _ _ kz => pw_goto (tgt := 294) dX12_nextToken_72 (by decide) kz) ?_
    refine ⟨_, _, pw_vret dX12_nextToken_294 rfl rfl rfl, ?_⟩
    exact ⟨rfl, _, rfl, ((f1.up (by omega)).up (by omega)), by rw [up2_nk (by omega), up2_nk (by omega)]; exact h6, by rw [up2_nk (by omega), up2_eq]; unfold tkE; rw [hs, if_neg c63]; exact congrArg nI (by omega), by rw [up2_eq]; unfold tkK; rw [hs, if_neg c63]; rfl, fun q => by unfold tkK at q; rw [hs, if_neg c63] at q; omega⟩
