/-! ===== the class's calls: undo, term, does, judge ===== -/
theorem KV.cg {np : Int} {f g : Nat → Int32} (h : KV np f) (e : ∀ k, k < 17 → g k = f k) : KV np g :=
  ⟨fun p hp => by rw [e _ (by omega)]; exact h.st p hp, fun p hp => by rw [e _ (by omega)]; exact h.jo p hp, fun p hp => by rw [e _ (by omega)]; exact h.tm p hp, fun p hp hn => by rw [e _ (by omega), e _ (by omega)]; exact h.ze p hp hn⟩
theorem AV.stt {al al2 : Nat → Int32} (hA : AV al) (ho : ∀ i, i < 75 ∨ 92 ≤ i → al2 i = al i) (hk : KV (al 2).toInt (fun k => al2 (75 + k))) : AV al2 := by
  refine ⟨hA.dv.cong (fun i hi => ho i (by omega)), by rw [ho 2 (by omega)]; exact hk, by rw [ho 92 (by omega)]; exact hA.dn, fun j hj => ?_⟩
  rw [ho 92 (by omega)] at hj
  rw [ho 2 (by omega)]
  exact (hA.ws j hj).cg (fun k hk => ho _ (by omega))
theorem un_ok {al : Nat → Int32} (hA : AV al) {k : Nat} (hk : (k : Int) < (al 92).toInt) : AV (un al k) := by
  have h92 := hA.dn
  have e2 : un al k 2 = al 2 := by unfold un; rw [if_neg (by omega), if_neg (by omega)]
  have e92 : un al k 92 = nI k := by unfold un; rw [if_pos rfl]
  refine ⟨hA.dv.cong (fun i hi => ?_), ?_, ?_, fun j hj => ?_⟩
  · unfold un
    rw [if_neg (by omega), if_neg (by omega)]
  · rw [e2]
    refine (hA.ws k hk).cg (fun j hj => ?_)
    unfold un
    rw [if_neg (by omega), if_pos (by omega)]
    congr 1
    omega
  · rw [e92, nI_toInt (by omega)]
    omega
  · rw [e92, nI_toInt (by omega)] at hj
    rw [e2]
    refine (hA.ws j (by omega)).cg (fun i hi => ?_)
    unfold un
    rw [if_neg (by omega), if_neg (by omega)]
theorem un_un {al : Nat → Int32} {j k : Nat} : un (un al j) k = un al k := by
  funext i
  show (if i = 92 then nI k else if 75 ≤ i ∧ i < 75 + 17 then un al j (i - 75 + (93 + 17 * k)) else un al j i) = (if i = 92 then nI k else if 75 ≤ i ∧ i < 75 + 17 then al (i - 75 + (93 + 17 * k)) else al i)
  by_cases e : i = 92
  · rw [if_pos e, if_pos e]
  · rw [if_neg e, if_neg e]
    by_cases e2 : 75 ≤ i ∧ i < 75 + 17
    · rw [if_pos e2, if_pos e2]
      unfold un
      rw [if_neg (by omega), if_neg (by omega)]
    · rw [if_neg e2, if_neg e2]
      unfold un
      rw [if_neg e, if_neg e2]
section CIT
variable {S : sS} {V : sV} {P : sP} {A : sV} {B : sB} {Q : sP} {t : Nat} {al : Nat → Int32} {W : WT} {sh ls : Nat}
theorem CRe.put {V' A' : sV} {al' : Nat → Int32} (h : CRe S V P A B Q t al W sh) (hV : ∀ x, x < 16 ∨ 66 ≤ x → V' x = V x) (hA : ∀ x, x < 16 ∨ 66 ≤ x → A' x = A x) (hH : HI V' A' Q al') (e : ∀ i, 1164 ≤ i → al' i = al i) : CRe S V' P A' B Q t al' W sh := by
  have es : ∀ i, sft al' i = sft al i := fun i => by funext k; exact e _ (by omega)
  have h3 := h.ss.2.2.1
  refine ⟨hH, h.ss, ⟨h.im.1, fun i hi => ?_⟩, ⟨h.tr.1, fun k hk => ?_⟩, ?_, h.oq⟩
  · unfold IM1
    rw [es]
    rcases h.im.2 i hi with g | ⟨g0, u, g1, ⟨j, hj, g2⟩, g3, g4, g5, g6⟩
    · exact Or.inl g
    · obtain ⟨_, u2, u3⟩ := h3 j u hj g2
      exact Or.inr ⟨g0, u, g1, ⟨j, hj, g2⟩, g3.fr (fun x _ _ => hV x (by omega)) (fun x _ _ => hA x (by omega)), g4, g5.fr (hV _ (by omega)) (fun x _ _ => hA x (by omega)), g6⟩
  · rw [hV _ (by omega)]
    exact h.tr.2 k hk
  · unfold TPE
    rw [hV 8 (by omega), hV 10 (by omega), hA 9 (by omega)]
    exact h.tp
theorem CI.back {V' A' : sV} (hI : CI S V P A B Q t al W sh ls) (h1 : 0 < (al 92).toInt) (hs : StE V' A' 16 (fun k => al (93 + 17 * ((al 92).toInt.toNat - 1) + k))) (hh : ∀ al' : Nat → Int32, al' 92 = nI ((al 92).toInt.toNat - 1) → (∀ i, 93 ≤ i → i < 263 → al' i = al i) → HI V' A' Q al') (hV : ∀ x, x ≠ 16 → x ≠ 24 → V' x = V x) (hA' : ∀ x, x < 17 ∨ 19 < x → A' x = A x) : CI S V' P A' B Q t (un al ((al 92).toInt.toNat - 1)) W sh ls := by
  have hE := hI.de
  have h92 := hI.av.dn
  have hU := un_ok hI.av (k := (al 92).toInt.toNat - 1) (by omega)
  refine ⟨⟨(hE.dc.fr ⟨fun x hx => hV x (by omega) (by omega), fun x hx => hA' x (by omega), fun _ _ => rfl⟩ (hA' 109 (by omega))).cong (fun i hi => ?_), hU.kv, hs.cg (fun k hk => ?_), Or.inl rfl⟩, hU, hI.re.put (fun x hx => hV x (by omega) (by omega)) (fun x hx => hA' x (by omega)) (hh _ ?_ (fun i h1 h2 => ?_)) (fun i hi => ?_)⟩
  · unfold un
    rw [if_neg (by omega), if_neg (by omega)]
  · unfold un
    rw [if_neg (by omega), if_pos (by omega)]
    congr 1
    omega
  · unfold un
    rw [if_pos rfl]
  · unfold un
    rw [if_neg (by omega), if_neg (by omega)]
  · unfold un
    rw [if_neg (by omega), if_neg (by omega)]
/-- a deed done, nothing kept -/
theorem CI.plain {S' : sS} {V' : sV} {P' : sP} {A' : sV} {B' : sB} {Q' : sP} {t' : Nat} {al2 : Nat → Int32} {ls' : Nat} (hA : AV al) (hR : CRe S V P A B Q t al W sh) (hE : DE S' V' P' A' B' Q' t' al2 sh ls' 16) (hf : FrD 16 S V P A B Q t S' V' P' A' B' Q' t') (ho : ∀ i, i < 75 ∨ 92 ≤ i → al2 i = al i) : CI S' V' P' A' B' Q' t' al2 W sh ls' := by
  have hk : KV (al 2).toInt (fun k => al2 (75 + k)) := by have := hE.kv; rw [ho 2 (by omega)] at this; exact this
  have hr := hR.fr (hf.r (Or.inl rfl))
  exact ⟨hE, hA.stt ho hk, hr.cong (hr.hi.cong hA.dn.2 (fun i h1 h2 => ho i (by omega))) (fun i hi => ho i (by omega))⟩
end CIT
def unJ (al : Nat → Int32) (N k : Nat) : Nat → Int32 := if k = 0 then al else un al (N - k)
theorem unJ_s {al : Nat → Int32} {N k : Nat} (h : al 92 = nI N) : unJ al N k 92 = nI (N - k) := by
  unfold unJ
  by_cases e : k = 0
  · rw [if_pos e, h, e, Nat.sub_zero]
  · rw [if_neg e]
    unfold un
    rw [if_pos rfl]
theorem unJ_n {al : Nat → Int32} {N k : Nat} : un (unJ al N k) (N - k - 1) = unJ al N (k + 1) := by
  unfold unJ
  rw [if_neg (by omega : ¬ k + 1 = 0)]
  by_cases e : k = 0
  · rw [if_pos e, e]
    rfl
  · rw [if_neg e, un_un]
    rfl
set_option maxRecDepth 20000 in
theorem q_undoL {G : gT} {d : Nat} {S : sS} {P : sP} {B : sB} {Q : sP} {t sl : Nat} {al : Nat → Int32} {W : WT} {sh ls : Nat} {V0 A0 : sV} {N x : Nat} (hN : al 92 = nI N) (h10 : N ≤ 10) (hx : x ≤ N) {Z : Option Value → Ph → Prop} (kf : ∀ V A : sV, CI S V P A B Q t (unJ al N x) W sh ls → FrO S V0 P A0 B t S V P A B t → WQ G (d + 9) mX11_undo 49 [some (.ref 8), some (.int (nI x)), some (.int (nI x))] [] (t, sl, gh S V P A B Q) Z) : ∀ (m k : Nat) (V A : sV), k + m = x → CI S V P A B Q t (unJ al N k) W sh ls → FrO S V0 P A0 B t S V P A B t → WQ G (d + 9) mX11_undo 27 [some (.ref 8), some (.int (nI x)), some (.int (nI k))] [] (t, sl, gh S V P A B Q) Z := by
  intro m
  induction m with
  | zero =>
    intro k V A hk hI hO
    have hk : k = x := hk
    subst hk
    have hE := hI.de
    have hC := hE.dc.ka.cf
    refine WQ.st (fun _ _ kz => pw_iload2 dX11_undo_27 kz) ?_
    refine WQ.st (fun _ _ kz => pw_iload1 dX11_undo_28 kz) ?_
    refine WQ.br (fun _ _ ka kb => pw_icmp_ge (tgt := 49) dX11_undo_29 (by decide) ka kb) (fun c29 => ?_) (fun c29 => absurd (by rw [le_i (ix_n (j := k) (by omega)) (ix_n (j := k) (by omega))]; omega) c29)
    exact kf _ _ hI hO
  | succ m ih =>
    intro k V A hk hI hO
    have hE := hI.de
    have hC := hE.dc.ka.cf
    have hA := hI.av
    have eT : (unJ al N k 92).toInt = ((N - k : Nat) : Int) := by rw [unJ_s hN, nI_toInt (by omega)]
    have h1 : 0 < (unJ al N k 92).toInt := by omega
    have eN : (unJ al N k 92).toInt.toNat - 1 = N - k - 1 := by omega
    refine WQ.st (fun _ _ kz => pw_iload2 dX11_undo_27 kz) ?_
    refine WQ.st (fun _ _ kz => pw_iload1 dX11_undo_28 kz) ?_
    refine WQ.br (fun _ _ ka kb => pw_icmp_ge (tgt := 49) dX11_undo_29 (by decide) ka kb) (fun c29 => absurd c29 (by rw [le_i (ix_n (j := x) (by omega)) (ix_n (j := k) (by omega))]; omega)) (fun c29 => ?_)
    refine WQ.st (fun _ _ kz => pw_aload0 dX11_undo_32 kz) ?_
    refine WQ.st (fun _ _ kz => pw_getr gX11_45 dX11_undo_33 (cf_s8 hC) (cf_p8_7 hC) kz) ?_
    refine WQ.st (fun _ _ kz => pw_aload0 dX11_undo_36 kz) ?_
    refine WQ.st (fun _ _ kz => pw_getr gX11_35 dX11_undo_37 (cf_s8 hC) (cf_p8_5 hC) kz) ?_
    refine wq_o1v wX3_bringBack lX11_229 rfl dX11_undo_40 (cf_s24 hC) (k_bringBack hC hI.re.hi hA.dn h1) rfl (Nat.le_of_ble_eq_true rfl) (Nat.le_of_ble_eq_true rfl) (fun h40 z40 => ?_)
    obtain ⟨V1, A1, rfl, g1, g2, g3, g4⟩ := z40
    have hI1 := hI.back h1 g1 g2 g3 g4
    rw [eN, unJ_n] at hI1
    have kk := ih (k + 1) _ _ (by omega) hI1 (hO.tr (FrO.va (fun y _ _ => g3 y (by omega) (by omega)) (fun y _ _ => g4 y (by omega))))
    refine WQ.st (fun _ _ kz => pw_iinc2 (v := 1) dX11_undo_43 (by decide) (by decide) (k := kz)) ?_
    refine WQ.st (fun _ _ kz => pw_goto (tgt := 27) dX11_undo_46 (by decide) kz) ?_
    rw [nI_1]
    exact kk
set_option maxRecDepth 20000 in
theorem q_undo {G : gT} {d : Nat} {S : sS} {V : sV} {P : sP} {A : sV} {B : sB} {Q : sP} {t sl : Nat} {al : Nat → Int32} {W : WT} {sh ls : Nat} (hI : CI S V P A B Q t al W sh ls) (hls : ls + 1000 < 2000000000) (x : Int32) : WQ G (d + 9) mX11_undo 0 [some (.ref 8), some (.int x), none] [] (t, sl, gh S V P A B Q) (CZ S V P A B Q t sl W sh ls (.int (sp_undo al x.toInt).1) (sp_undo al x.toInt).2) := by
  unfold CZ
  have hE := hI.de
  have hC := hE.dc.ka.cf
  have hD := hE.dc.ka.dv
  have hSe := hE.dc.ka.se
  have hA := hI.av
  have hdn := hA.dn
  have hv0 : V 24 0 = al 92 := hI.re.hi.2.1
  refine WQ.st (fun _ _ kz => pw_iload1 dX11_undo_0 kz) ?_
  refine WQ.st (fun _ _ kz => pw_iconst (v := 1) dX11_undo_1 (by decide) kz) ?_
  refine WQ.br (fun _ _ ka kb => pw_icmp_lt (tgt := 22) dX11_undo_2 (by decide) ka kb) (fun c2 => ?_) (fun c2 => ?_)
  · rw [lt_i rfl li_1] at c2
    refine WQ.st (fun _ _ kz => pw_ldc kX11_123 dX11_undo_22 kz) ?_
    refine ⟨_, _, pw_iret dX11_undo_24 rfl rfl rfl rfl, ?_⟩
    have es : sp_undo al x.toInt = (-99000003, al) := by
      unfold sp_undo
      rw [if_neg (fun h => by have := h.1.1; omega)]
    rw [es]
    exact ⟨rfl, t, sl, ls, S, V, P, A, B, Q, rfl, hI, by omega, FrO.rfl, fun _ _ h => h⟩
  · rw [lt_i rfl li_1] at c2
    refine WQ.st (fun _ _ kz => pw_iload1 dX11_undo_5 kz) ?_
    refine WQ.st (fun _ _ kz => pw_bipush (v := 10) dX11_undo_6 (by decide) kz) ?_
    refine WQ.br (fun _ _ ka kb => pw_icmp_gt (tgt := 22) dX11_undo_8 (by decide) ka kb) (fun c8 => ?_) (fun c8 => ?_)
    · rw [lt_i li_10 rfl] at c8
      refine WQ.st (fun _ _ kz => pw_ldc kX11_123 dX11_undo_22 kz) ?_
      refine ⟨_, _, pw_iret dX11_undo_24 rfl rfl rfl rfl, ?_⟩
      have es : sp_undo al x.toInt = (-99000003, al) := by
        unfold sp_undo
        rw [if_neg (fun h => by have := h.1.2; omega)]
      rw [es]
      exact ⟨rfl, t, sl, ls, S, V, P, A, B, Q, rfl, hI, by omega, FrO.rfl, fun _ _ h => h⟩
    · rw [lt_i li_10 rfl] at c8
      refine WQ.st (fun _ _ kz => pw_iload1 dX11_undo_11 kz) ?_
      refine WQ.st (fun _ _ kz => pw_aload0 dX11_undo_12 kz) ?_
      refine WQ.st (fun _ _ kz => pw_getr gX11_45 dX11_undo_13 (cf_s8 hC) (cf_p8_7 hC) kz) ?_
      refine WQ.st (fun _ _ kz => pw_geti gX11_226 dX11_undo_16 (cf_s24 hC) kz) ?_
      rw [hv0]
      refine WQ.br (fun _ _ ka kb => pw_icmp_le (tgt := 25) dX11_undo_19 (by decide) ka kb) (fun c19 => ?_) (fun c19 => ?_)
      · rw [le_i rfl rfl] at c19
        have hc : (1 ≤ x.toInt ∧ x.toInt ≤ 10) ∧ x.toInt ≤ (al 92).toInt := ⟨⟨by omega, by omega⟩, c19⟩
        obtain ⟨x, rfl, tx, _⟩ := nI_get (x := x) (n := 11) (by omega) (by omega) (by omega)
        have hxN : x ≤ (al 92).toInt.toNat := by omega
        have hx0 : ¬ x = 0 := by omega
        refine WQ.st (fun _ _ kz => pw_iconst (v := 0) dX11_undo_25 (by decide) kz) ?_
        refine WQ.st (fun _ _ kz => pw_istore2 dX11_undo_26 (by decide) (k := kz)) ?_
        refine q_undoL (al := al) (V0 := V) (A0 := A) (nI_ofI hdn.1) (by omega) hxN (fun V1 A1 hI1 hO1 => ?_) x 0 V A (by omega) hI FrO.rfl
        have hC := hI1.de.dc.ka.cf
        have hw : V1 24 0 = nI ((al 92).toInt.toNat - x) := by rw [hI1.re.hi.2.1, unJ_s (nI_ofI hdn.1)]
        refine WQ.st (fun _ _ kz => pw_aload0 dX11_undo_49 kz) ?_
        refine WQ.st (fun _ _ kz => pw_getr gX11_45 dX11_undo_50 (cf_s8 hC) (cf_p8_7 hC) kz) ?_
        refine WQ.st (fun _ _ kz => pw_geti gX11_226 dX11_undo_53 (cf_s24 hC) kz) ?_
        rw [hw]
        refine ⟨_, _, pw_iret dX11_undo_56 rfl rfl rfl rfl, ?_⟩
        have es : sp_undo al (nI x).toInt = (nI ((al 92).toInt.toNat - x), un al ((al 92).toInt.toNat - x)) := by
          unfold sp_undo
          rw [if_pos hc, tx]
          have e1 : ((al 92).toInt - (x : Int)).toNat = (al 92).toInt.toNat - x := by omega
          rw [e1]
        rw [es]
        unfold unJ at hI1
        rw [if_neg hx0] at hI1
        exact ⟨rfl, t, sl, ls, S, V1, P, A1, B, Q, rfl, hI1, by omega, hO1, fun _ _ h => h⟩
      · rw [le_i rfl rfl] at c19
        refine WQ.st (fun _ _ kz => pw_ldc kX11_123 dX11_undo_22 kz) ?_
        refine ⟨_, _, pw_iret dX11_undo_24 rfl rfl rfl rfl, ?_⟩
        have es : sp_undo al x.toInt = (-99000003, al) := by
          unfold sp_undo
          rw [if_neg (fun h => c19 h.2)]
        rw [es]
        exact ⟨rfl, t, sl, ls, S, V, P, A, B, Q, rfl, hI, by omega, FrO.rfl, fun _ _ h => h⟩
