/-! ===== the class's calls: lends, reply, chance, putBy ===== -/
theorem ld_stop {T1 T2 : Nat → Int32} {s1 s2 : Nat} : ∀ (m k : Nat) (b mo : Int32), ¬ (k ≤ s1 ∧ s2 + k ≤ 40) → sp_ld T1 T2 s1 s2 m k b mo = b
  | 0, _, _, _, _ => rfl
  | m + 1, k, b, mo, h => by
    show (if _ then _ else _) = b
    rw [if_neg (fun q => h q.1)]
    exact ld_stop m (k + 1) b mo (by omega)
theorem sI_mk {s k : Nat} (h : k ≤ s) : sI s - nI k = sI (s - k) := by
  unfold sI
  rw [iI_nat, iI_sub]
  congr 1
  omega
theorem sI_pk (s k : Nat) : sI s + nI k = sI (s + k) := by
  unfold sI
  rw [iI_nat, iI_add]
  congr 1
  omega
theorem SR_at {A : sV} {al : Nat → Int32} {p q lo hi : Nat} {f : Nat → Int32} (hf : ∀ i, i < 12 → f i = 31) (hn : lgN al q ≤ 12) {goal : Int32} (h : SR A (TT al p q) (kpM f) (lgN al q) (rf_e goal) (asks al 6) lo hi 0) {s : Nat} (hs : s < 41) (h1 : lo ≤ s) (h2 : s ≤ hi) : A 110 (s * 5 + 2) = cv (rf_T (TT al p q) kpA (lgN al q) (rf_e goal) (lgN al q) 2 s) := by
  have := (h 0 (by omega) (by omega) s 2 hs (by omega) (by omega) (LsN_0 _)).1
  rw [Nat.zero_mul, Nat.zero_add, Nat.sub_zero, rf_T_cong (fun _ _ _ _ _ _ _ _ => rfl) (fun b w hb hw => ev_kp hf b w (by omega) hw) (fun b l s w _ _ _ _ h => TT_in h) _ (Nat.le_refl _) 2 s (by omega) hs] at this
  exact this
theorem ls_bnd {al : Nat → Int32} (hD : DV al) {np : Int} (hK : KV np (fun k => al (75 + k))) {p q : Nat} (hp : p < 5) (hq : q < 4) {s : Nat} (hs : s < 41) : bnd 12 (lsT al p q s) := by
  obtain ⟨tm, ht, etm, hat⟩ := hK.tmE hp
  have hn12 := (hD.lgE hq).2
  have := rf_T_bnd (kp := kpA) (n := lgN al q) (e := rf_e 0) hn12 (TT_b1 hD hp ht hq hn12) (fun b l s w _ _ _ _ h => TT_in h) (fun s _ => rf_e_bnd 0 s) (lgN al q) (Nat.le_refl _) 2 s (by omega) hs
  rw [hat] at this
  exact this.up hn12
def LdI (b cm mo : Int32) : Prop := (b = -1 ∧ cm = -2147483648) ∨ (¬ b = -1 ∧ cm = mo)
theorem ld_cmp {b cm mo x y : Int32} (h : LdI b cm mo) (hx : bnd 12 x) (hy : bnd 12 y) (nx : x ≠ -268435456) (ny : y ≠ -268435456) : (b = -1 ∨ mo < x + y) ↔ ¬ x + y ≤ cm := by
  rw [Int32.not_le]
  rcases h with ⟨h1, h2⟩ | ⟨h1, h2⟩
  · refine ⟨fun _ => ?_, fun _ => Or.inl h1⟩
    have hx := hx.resolve_left nx
    have hy := hy.resolve_left ny
    rw [h2, lt_i (show (-2147483648 : Int32).toInt = -2147483648 from rfl) (ad_t (by omega) (by omega))]
    omega
  · rw [h2]
    exact ⟨fun q => q.resolve_left h1, fun q => Or.inr q⟩
set_option maxRecDepth 20000 in
theorem q_lendsA {G : gT} {d : Nat} {S : sS} {V : sV} {P : sP} {B : sB} {Q : sP} {t sl : Nat} (hC : CF S P) {x1 x2 x3 x4 x6 : Int32} {s1 : Nat} (hs1 : s1 < 41) {A0 : sV} {Z : Option Value → Ph → Prop} (kf : ∀ A : sV, (∀ x, x ≠ 70 → A x = A0 x) → (∀ u, u < s1 + 1 → A 70 u = A0 110 (u * 5 + 2)) → WQ G (d + 3) mX11_lends 110 [some (.ref 8), some (.int x1), some (.int x2), some (.int x3), some (.int x4), some (.int (sI s1)), some (.int x6), some (.int (sI (s1 + 1))), none, none, none, none] [] (t, sl, gh S V P A B Q) Z) : ∀ (m k : Nat) (A : sV), k + m = s1 + 1 → (∀ x, x ≠ 70 → A x = A0 x) → (∀ u, u < k → A 70 u = A0 110 (u * 5 + 2)) → WQ G (d + 3) mX11_lends 78 [some (.ref 8), some (.int x1), some (.int x2), some (.int x3), some (.int x4), some (.int (sI s1)), some (.int x6), some (.int (sI k)), none, none, none, none] [] (t, sl, gh S V P A B Q) Z := by
  intro m
  induction m with
  | zero =>
    intro k A hk h1 h2
    have hk : k = s1 + 1 := hk
    subst hk
    refine WQ.st (fun _ _ kz => pw_iload7 dX11_lends_78 kz) ?_
    refine WQ.st (fun _ _ kz => pw_iload5 dX11_lends_80 kz) ?_
    refine WQ.br (fun _ _ ka kb => pw_icmp_gt (tgt := 110) dX11_lends_82 (by decide) ka kb) (fun c82 => ?_) (fun c82 => absurd (by rw [lt_i (sI_t (by omega)) (sI_t (by omega))]; omega) c82)
    exact kf A h1 h2
  | succ m ih =>
    intro k A hk h1 h2
    refine WQ.st (fun _ _ kz => pw_iload7 dX11_lends_78 kz) ?_
    refine WQ.st (fun _ _ kz => pw_iload5 dX11_lends_80 kz) ?_
    refine WQ.br (fun _ _ ka kb => pw_icmp_gt (tgt := 110) dX11_lends_82 (by decide) ka kb) (fun c82 => absurd c82 (by rw [lt_i (sI_t (by omega)) (sI_t (by omega))]; omega)) (fun c82 => ?_)
    refine WQ.st (fun _ _ kz => pw_aload0 dX11_lends_85 kz) ?_
    refine WQ.st (fun _ _ kz => pw_getr gX11_66 dX11_lends_86 (cf_s8 hC) (cf_p8_17 hC) kz) ?_
    refine WQ.st (fun _ _ kz => pw_iload7 dX11_lends_89 kz) ?_
    refine WQ.st (fun _ _ kz => pw_bipush (v := 20) dX11_lends_91 (by decide) kz) ?_
    refine WQ.st (fun _ _ kz => pw_iadd dX11_lends_93 kz) ?_
    refine WQ.st (fun _ _ kz => pw_aload0 dX11_lends_94 kz) ?_
    refine WQ.st (fun _ _ kz => pw_getr gX11_96 dX11_lends_95 (cf_s8 hC) (cf_p8_13 hC) kz) ?_
    refine WQ.st (fun _ _ kz => pw_iload7 dX11_lends_98 kz) ?_
    refine wq_o1i wX10_mostFrom lX11_312 rfl dX11_lends_100 (cf_s107 hC) (k_mostFrom hC (s := k) (by omega)) rfl (Nat.le_of_ble_eq_true rfl) (Nat.le_of_ble_eq_true rfl) (fun h100 z100 => ?_)
    subst z100
    refine WQ.st (fun _ _ kz => pw_ast (j := k) dX11_lends_103 (cf_s70 hC) (by rw [sI_20]; exact ix_n (by omega)) (by omega)  kz) ?_
    refine WQ.st (fun _ _ kz => pw_iinc7 (v := 1) dX11_lends_104 (by decide) (by decide) (k := kz)) ?_
    refine WQ.st (fun _ _ kz => pw_goto (tgt := 78) dX11_lends_107 (by decide) kz) ?_
    rw [sI_1]
    refine ih (k + 1) _ (by omega) (fun x hx => by rw [up2_na hx]; exact h1 x hx) (fun u hu => ?_)
    by_cases e : u = k
    · rw [e, up2_eq, h1 110 (by omega)]
    · rw [up2_nk e]
      exact h2 u (by omega)
set_option maxRecDepth 20000 in
theorem q_lendsB {G : gT} {d : Nat} {S : sS} {V : sV} {P : sP} {A : sV} {B : sB} {Q : sP} {t sl : Nat} (hC : CF S P) {x1 x2 x3 x4 : Int32} {s1 s2 : Nat} (hs1 : s1 < 41) (hs2 : s2 < 41) {T1 T2 : Nat → Int32} (hb1 : ∀ s, s < 41 → bnd 12 (T1 s)) (hb2 : ∀ s, s < 41 → bnd 12 (T2 s)) (hA1 : ∀ u, u < s1 + 1 → A 70 u = cv (T1 u)) (hA2 : ∀ u, s2 ≤ u → u ≤ 40 → A 110 (u * 5 + 2) = cv (T2 u)) : ∀ (m k : Nat) (b cm mo : Int32) (y y2 : Option Value), k + m = 41 → LdI b cm mo → WQ G (d + 3) mX11_lends 147 [some (.ref 8), some (.int x1), some (.int x2), some (.int x3), some (.int x4), some (.int (sI s1)), some (.int (sI s2)), some (.int b), some (.int cm), some (.int (nI k)), y, y2] [] (t, sl, gh S V P A B Q) (fun r h' => r = some (.int (sp_ld T1 T2 s1 s2 m k b mo)) ∧ h' = (t, sl, gh S V P A B Q)) := by
  intro m
  induction m with
  | zero =>
    intro k b cm mo y y2 hk hL
    have hk : k = 41 := hk
    subst hk
    refine WQ.st (fun _ _ kz => pw_iload5 dX11_lends_147 kz) ?_
    refine WQ.st (fun _ _ kz => pw_iload9 dX11_lends_149 kz) ?_
    refine WQ.st (fun _ _ kz => pw_isub dX11_lends_151 kz) ?_
    refine WQ.st (fun _ _ kz => pw_bipush (v := -20) dX11_lends_152 (by decide) kz) ?_
    refine WQ.br (fun _ _ ka kb => pw_icmp_lt (tgt := 239) dX11_lends_154 (by decide) ka kb) (fun c154 => ?_) (fun c154 => absurd (by rw [lt_i (su_t (by rw [sI_t (by omega), ix_n (by omega)]; omega) (by rw [sI_t (by omega), ix_n (by omega)]; omega)) lq_m20, sI_t (by omega), ix_n (by omega)]; omega) c154)
    refine WQ.st (fun _ _ kz => pw_iload7 dX11_lends_239 kz) ?_
    refine ⟨_, _, pw_iret dX11_lends_241 rfl rfl rfl rfl, ?_⟩
    exact ⟨rI (ld_stop _ _ _ _ (by omega)).symm, rfl⟩
  | succ m ih =>
    intro k b cm mo y y2 hk hL
    refine WQ.st (fun _ _ kz => pw_iload5 dX11_lends_147 kz) ?_
    refine WQ.st (fun _ _ kz => pw_iload9 dX11_lends_149 kz) ?_
    refine WQ.st (fun _ _ kz => pw_isub dX11_lends_151 kz) ?_
    refine WQ.st (fun _ _ kz => pw_bipush (v := -20) dX11_lends_152 (by decide) kz) ?_
    refine WQ.br (fun _ _ ka kb => pw_icmp_lt (tgt := 239) dX11_lends_154 (by decide) ka kb) (fun c154 => ?_) (fun c154 => ?_)
    · have g : ¬ k ≤ s1 := fun q => by
        rw [sI_mk q, lt_i (sI_t (by omega)) lq_m20] at c154
        omega
      refine WQ.st (fun _ _ kz => pw_iload7 dX11_lends_239 kz) ?_
      refine ⟨_, _, pw_iret dX11_lends_241 rfl rfl rfl rfl, ?_⟩
      exact ⟨rI (ld_stop _ _ _ _ (by omega)).symm, rfl⟩
    · have g : k ≤ s1 := by
        apply Decidable.byContradiction
        intro q
        apply c154
        rw [lt_i (su_t (by rw [sI_t (by omega), ix_n (by omega)]; omega) (by rw [sI_t (by omega), ix_n (by omega)]; omega)) lq_m20, sI_t (by omega), ix_n (by omega)]
        omega
      refine WQ.st (fun _ _ kz => pw_iload6 dX11_lends_157 kz) ?_
      refine WQ.st (fun _ _ kz => pw_iload9 dX11_lends_159 kz) ?_
      refine WQ.st (fun _ _ kz => pw_iadd dX11_lends_161 kz) ?_
      rw [sI_pk]
      refine WQ.st (fun _ _ kz => pw_bipush (v := 20) dX11_lends_162 (by decide) kz) ?_
      refine WQ.br (fun _ _ ka kb => pw_icmp_gt (tgt := 239) dX11_lends_164 (by decide) ka kb) (fun c164 => ?_) (fun c164 => ?_)
      · rw [lt_i li_20 (sI_t (by omega))] at c164
        have g2 : ¬ s2 + k ≤ 40 := by omega
        refine WQ.st (fun _ _ kz => pw_iload7 dX11_lends_239 kz) ?_
        refine ⟨_, _, pw_iret dX11_lends_241 rfl rfl rfl rfl, ?_⟩
        exact ⟨rI (ld_stop _ _ _ _ (by omega)).symm, rfl⟩
      · rw [lt_i li_20 (sI_t (by omega))] at c164
        have g2 : s2 + k ≤ 40 := by omega
        refine WQ.st (fun _ _ kz => pw_aload0 dX11_lends_167 kz) ?_
        refine WQ.st (fun _ _ kz => pw_getr gX11_66 dX11_lends_168 (cf_s8 hC) (cf_p8_17 hC) kz) ?_
        refine WQ.st (fun _ _ kz => pw_iload5 dX11_lends_171 kz) ?_
        refine WQ.st (fun _ _ kz => pw_iload9 dX11_lends_173 kz) ?_
        refine WQ.st (fun _ _ kz => pw_isub dX11_lends_175 kz) ?_
        rw [sI_mk g]
        refine WQ.st (fun _ _ kz => pw_bipush (v := 20) dX11_lends_176 (by decide) kz) ?_
        refine WQ.st (fun _ _ kz => pw_iadd dX11_lends_178 kz) ?_
        refine WQ.st (fun _ _ kz => pw_ald (j := (s1 - k)) dX11_lends_179 (cf_s70 hC) (by rw [sI_20]; exact ix_n (by omega)) (by omega) kz) ?_
        rw [hA1 _ (by omega)]
        refine WQ.st (fun _ _ kz => pw_istore10 dX11_lends_180 (by decide) (k := kz)) ?_
        refine WQ.st (fun _ _ kz => pw_aload0 dX11_lends_182 kz) ?_
        refine WQ.st (fun _ _ kz => pw_getr gX11_96 dX11_lends_183 (cf_s8 hC) (cf_p8_13 hC) kz) ?_
        refine WQ.st (fun _ _ kz => pw_iload6 dX11_lends_186 kz) ?_
        refine WQ.st (fun _ _ kz => pw_iload9 dX11_lends_188 kz) ?_
        refine WQ.st (fun _ _ kz => pw_iadd dX11_lends_190 kz) ?_
        rw [sI_pk]
        refine wq_o1i wX10_mostFrom lX11_312 rfl dX11_lends_191 (cf_s107 hC) (k_mostFrom hC (s := s2 + k) (by omega)) rfl (Nat.le_of_ble_eq_true rfl) (Nat.le_of_ble_eq_true rfl) (fun h191 z191 => ?_)
        subst z191
        rw [hA2 _ (by omega) g2]
        refine WQ.st (fun _ _ kz => pw_istore11 dX11_lends_194 (by decide) (k := kz)) ?_
        refine WQ.st (fun _ _ kz => pw_iload10 dX11_lends_196 kz) ?_
        refine WQ.st (fun _ _ kz => pw_ldcw kX11_307 dX11_lends_198 kz) ?_
        refine WQ.br (fun _ _ ka kb => pw_icmp_eq (tgt := 233) dX11_lends_201 (by decide) ka kb) (fun c201 => ?_) (fun c201 => ?_)
        · have c201 := (cv_min (hb1 _ (by omega)) (by omega)).mp c201
          have eL : sp_ld T1 T2 s1 s2 (m + 1) k b mo = sp_ld T1 T2 s1 s2 m (k + 1) b mo := by
            show (if _ then _ else _) = _
            rw [if_neg (fun q => q.2.1.1 c201)]
          rw [eL]
          refine WQ.st (fun _ _ kz => pw_iinc9 (v := 1) dX11_lends_233 (by decide) (by decide) (k := kz)) ?_
          refine WQ.st (fun _ _ kz => pw_goto (tgt := 147) dX11_lends_236 (by decide) kz) ?_
          rw [nI_1]
          exact ih (k + 1) _ _ _ _ _ (by omega) hL
        · have c201 : T1 (s1 - k) ≠ -268435456 := fun q => c201 ((cv_min (hb1 _ (by omega)) (by omega)).mpr q)
          refine WQ.st (fun _ _ kz => pw_iload11 dX11_lends_204 kz) ?_
          refine WQ.st (fun _ _ kz => pw_ldcw kX11_307 dX11_lends_206 kz) ?_
          refine WQ.br (fun _ _ ka kb => pw_icmp_eq (tgt := 233) dX11_lends_209 (by decide) ka kb) (fun c209 => ?_) (fun c209 => ?_)
          · have c209 := (cv_min (hb2 _ (by omega)) (by omega)).mp c209
            have eL : sp_ld T1 T2 s1 s2 (m + 1) k b mo = sp_ld T1 T2 s1 s2 m (k + 1) b mo := by
              show (if _ then _ else _) = _
              rw [if_neg (fun q => q.2.1.2 c209)]
            rw [eL]
            refine WQ.st (fun _ _ kz => pw_iinc9 (v := 1) dX11_lends_233 (by decide) (by decide) (k := kz)) ?_
            refine WQ.st (fun _ _ kz => pw_goto (tgt := 147) dX11_lends_236 (by decide) kz) ?_
            rw [nI_1]
            exact ih (k + 1) _ _ _ _ _ (by omega) hL
          · have c209 : T2 (s2 + k) ≠ -268435456 := fun q => c209 ((cv_min (hb2 _ (by omega)) (by omega)).mpr q)
            rw [cv_n c201, cv_n c209]
            refine WQ.st (fun _ _ kz => pw_iload10 dX11_lends_212 kz) ?_
            refine WQ.st (fun _ _ kz => pw_iload11 dX11_lends_214 kz) ?_
            refine WQ.st (fun _ _ kz => pw_iadd dX11_lends_216 kz) ?_
            refine WQ.st (fun _ _ kz => pw_iload8 dX11_lends_217 kz) ?_
            refine WQ.br (fun _ _ ka kb => pw_icmp_le (tgt := 233) dX11_lends_219 (by decide) ka kb) (fun c219 => ?_) (fun c219 => ?_)
            · have eL : sp_ld T1 T2 s1 s2 (m + 1) k b mo = sp_ld T1 T2 s1 s2 m (k + 1) b mo := by
                show (if _ then _ else _) = _
                rw [if_neg (fun q => absurd c219 ((ld_cmp hL (hb1 _ (by omega)) (hb2 _ (by omega)) c201 c209).mp q.2.2))]
              rw [eL]
              refine WQ.st (fun _ _ kz => pw_iinc9 (v := 1) dX11_lends_233 (by decide) (by decide) (k := kz)) ?_
              refine WQ.st (fun _ _ kz => pw_goto (tgt := 147) dX11_lends_236 (by decide) kz) ?_
              rw [nI_1]
              exact ih (k + 1) _ _ _ _ _ (by omega) hL
            · have eL : sp_ld T1 T2 s1 s2 (m + 1) k b mo = sp_ld T1 T2 s1 s2 m (k + 1) (nI k) (T1 (s1 - k) + T2 (s2 + k)) := by
                show (if _ then _ else _) = _
                rw [if_pos ⟨⟨g, g2⟩, ⟨c201, c209⟩, (ld_cmp hL (hb1 _ (by omega)) (hb2 _ (by omega)) c201 c209).mpr c219⟩]
              rw [eL]
              refine WQ.st (fun _ _ kz => pw_iload10 dX11_lends_222 kz) ?_
              refine WQ.st (fun _ _ kz => pw_iload11 dX11_lends_224 kz) ?_
              refine WQ.st (fun _ _ kz => pw_iadd dX11_lends_226 kz) ?_
              refine WQ.st (fun _ _ kz => pw_istore8 dX11_lends_227 (by decide) (k := kz)) ?_
              refine WQ.st (fun _ _ kz => pw_iload9 dX11_lends_229 kz) ?_
              refine WQ.st (fun _ _ kz => pw_istore7 dX11_lends_231 (by decide) (k := kz)) ?_
              refine WQ.st (fun _ _ kz => pw_iinc9 (v := 1) dX11_lends_233 (by decide) (by decide) (k := kz)) ?_
              refine WQ.st (fun _ _ kz => pw_goto (tgt := 147) dX11_lends_236 (by decide) kz) ?_
              rw [nI_1]
              exact ih (k + 1) _ _ _ _ _ (by omega) (Or.inr ⟨fun q => by rw [eq_i (ix_n (by omega)) (show (-1 : Int32).toInt = -1 from rfl)] at q; omega, rfl⟩)
set_option maxRecDepth 20000 in
theorem q_lends {G : gT} {d : Nat} {S : sS} {V : sV} {P : sP} {A : sV} {B : sB} {Q : sP} {t sl : Nat} {al : Nat → Int32} {W : WT} {sh ls : Nat} (hI : CI S V P A B Q t al W sh ls) (hls : ls + 1000 < 2000000000) (x y z w : Int32) : WQ G (d + 9) mX11_lends 0 [some (.ref 8), some (.int x), some (.int y), some (.int z), some (.int w), none, none, none, none, none, none, none] [] (t, sl, gh S V P A B Q) (CZ S V P A B Q t sl W sh ls (.int (sp_lds al x.toInt y.toInt z.toInt w.toInt)) al) := by
  unfold CZ
  have hE := hI.de
  have hC := hE.dc.ka.cf
  have hD := hE.dc.ka.dv
  have hSe := hE.dc.ka.se
  have hA := hI.av
  have hp5 := hD.p5
  have hn4 := hD.n4
  refine WQ.st (fun _ _ kz => pw_aload0 dX11_lends_0 kz) ?_
  refine WQ.st (fun _ _ kz => pw_iload1 dX11_lends_1 kz) ?_
  refine WQ.st (fun _ _ kz => pw_iload2 dX11_lends_2 kz) ?_
  refine wq_o2i wX11_hasBoth lX11_262 rfl dX11_lends_3 (cf_s8 hC) (k_hasBoth hI _ _) rfl (Nat.le_of_ble_eq_true rfl) (Nat.le_of_ble_eq_true rfl) (fun h3 z3 => ?_)
  subst z3
  refine WQ.br (fun _ _ ka kb => pw_if_eq (tgt := 24) dX11_lends_6 (by decide) ka kb) (fun c6 => ?_) (fun c6 => ?_)
  · rw [bI_0] at c6
    refine WQ.st (fun _ _ kz => pw_ldc kX11_155 dX11_lends_24 kz) ?_
    refine ⟨_, _, pw_iret dX11_lends_26 rfl rfl rfl rfl, ?_⟩
    exact ⟨rI (by unfold sp_lds; rw [c6, Bool.false_and, if_neg (by decide)]), t, sl, ls, S, V, P, A, B, Q, rfl, hI, by omega, FrO.rfl, fun _ _ h => h⟩
  · rw [bI_n] at c6
    have hb2 := (Bool.and_eq_true _ _).mp c6
    have hiq := hb2.2
    have gx := isP_t hb2.1
    obtain ⟨p, rfl, tp, lp⟩ := nI_get gx.1 gx.2 (by omega)
    have hp : p < 5 := by omega
    have gy := isQ_t hb2.2
    obtain ⟨q, rfl, tq, lq⟩ := nI_get gy.1 gy.2 (by omega)
    have hq : q < 4 := by omega
    refine WQ.st (fun _ _ kz => pw_aload0 dX11_lends_9 kz) ?_
    refine WQ.st (fun _ _ kz => pw_iload3 dX11_lends_10 kz) ?_
    refine WQ.st (fun _ _ kz => pw_iload4 dX11_lends_11 kz) ?_
    refine wq_o2i wX11_hasBoth lX11_262 rfl dX11_lends_13 (cf_s8 hC) (k_hasBoth hI _ _) rfl (Nat.le_of_ble_eq_true rfl) (Nat.le_of_ble_eq_true rfl) (fun h13 z13 => ?_)
    subst z13
    refine WQ.br (fun _ _ ka kb => pw_if_eq (tgt := 24) dX11_lends_16 (by decide) ka kb) (fun c16 => ?_) (fun c16 => ?_)
    · rw [bI_0] at c16
      refine WQ.st (fun _ _ kz => pw_ldc kX11_155 dX11_lends_24 kz) ?_
      refine ⟨_, _, pw_iret dX11_lends_26 rfl rfl rfl rfl, ?_⟩
      exact ⟨rI (by unfold sp_lds; rw [c16, Bool.false_and, Bool.and_false, if_neg (by decide)]), t, sl, ls, S, V, P, A, B, Q, rfl, hI, by omega, FrO.rfl, fun _ _ h => h⟩
    · rw [bI_n] at c16
      have hb3 := (Bool.and_eq_true _ _).mp c16
      have hiq2 := hb3.2
      have gz := isP_t hb3.1
      obtain ⟨r, rfl, tr, lr⟩ := nI_get gz.1 gz.2 (by omega)
      have hr : r < 5 := by omega
      have gw := isQ_t hb3.2
      obtain ⟨u, rfl, tu, lu⟩ := nI_get gw.1 gw.2 (by omega)
      have hu : u < 4 := by omega
      refine WQ.st (fun _ _ kz => pw_iload1 dX11_lends_19 kz) ?_
      refine WQ.st (fun _ _ kz => pw_iload3 dX11_lends_20 kz) ?_
      refine WQ.bn (fun _ _ ka kb => pw_icmp_ne (tgt := 27) dX11_lends_21 (by decide) ka kb) (fun c21 => ?_) (fun c21 => ?_)
      · have hne : decide ((nI p).toInt ≠ (nI r).toInt) = true := decide_eq_true (fun h => c21 (Int32.toInt_inj.mp h))
        obtain ⟨es1, hs1⟩ := hE.kv.stE hp
        obtain ⟨es2, hs2⟩ := hE.kv.stE hr
        refine WQ.st (fun _ _ kz => pw_aload0 dX11_lends_27 kz) ?_
        refine WQ.st (fun _ _ kz => pw_getr gX11_35 dX11_lends_28 (cf_s8 hC) (cf_p8_5 hC) kz) ?_
        refine WQ.st (fun _ _ kz => pw_getr gX11_156 dX11_lends_31 (cf_s16 hC) (cf_p16_0 hC) kz) ?_
        refine WQ.st (fun _ _ kz => pw_iload1 dX11_lends_34 kz) ?_
        refine WQ.st (fun _ _ kz => pw_ald (j := p) dX11_lends_35 (cf_s17 hC) (ix_m rfl (by omega)) (by omega) kz) ?_
        rw [hE.se.st hp, es1]
        refine WQ.st (fun _ _ kz => pw_istore5 dX11_lends_36 (by decide) (k := kz)) ?_
        refine WQ.st (fun _ _ kz => pw_aload0 dX11_lends_38 kz) ?_
        refine WQ.st (fun _ _ kz => pw_getr gX11_35 dX11_lends_39 (cf_s8 hC) (cf_p8_5 hC) kz) ?_
        refine WQ.st (fun _ _ kz => pw_getr gX11_156 dX11_lends_42 (cf_s16 hC) (cf_p16_0 hC) kz) ?_
        refine WQ.st (fun _ _ kz => pw_iload3 dX11_lends_45 kz) ?_
        refine WQ.st (fun _ _ kz => pw_ald (j := r) dX11_lends_46 (cf_s17 hC) (ix_m rfl (by omega)) (by omega) kz) ?_
        rw [hE.se.st hr, es2]
        refine WQ.st (fun _ _ kz => pw_istore6 dX11_lends_47 (by decide) (k := kz)) ?_
        refine WQ.st (fun _ _ kz => pw_aload0 dX11_lends_49 kz) ?_
        refine WQ.st (fun _ _ kz => pw_iload1 dX11_lends_50 kz) ?_
        refine WQ.st (fun _ _ kz => pw_iload2 dX11_lends_51 kz) ?_
        refine wq_o2v wX11_takeUp lX11_186 rfl dX11_lends_52 (cf_s8 hC) (k_take hI (by omega) hp hq hiq) rfl (Nat.le_of_ble_eq_true rfl) (Nat.le_of_ble_eq_true rfl) (fun h52 z52 => ?_)
        obtain ⟨tm, hat, t5, sl5, ls5, S5, V5, P5, A5, B5, Q5, rfl, k5, i5, l5, f5, r5⟩ := z52
        have hC := k5.cf
        have hE5 := i5.de
        obtain ⟨es0, hs0⟩ := hE5.kv.stE hp
        refine WQ.st (fun _ _ kz => pw_aload0 dX11_lends_55 kz) ?_
        refine WQ.st (fun _ _ kz => pw_getr gX11_96 dX11_lends_56 (cf_s8 hC) (cf_p8_13 hC) kz) ?_
        refine WQ.st (fun _ _ kz => pw_bipush (v := -20) dX11_lends_59 (by decide) kz) ?_
        refine WQ.st (fun _ _ kz => pw_iload5 dX11_lends_61 kz) ?_
        refine WQ.st (fun _ _ kz => pw_iconst (v := 0) dX11_lends_63 (by decide) kz) ?_
        refine WQ.st (fun _ _ kz => pw_aload0 dX11_lends_64 kz) ?_
        refine WQ.st (fun _ _ kz => pw_getr gX11_96 dX11_lends_65 (cf_s8 hC) (cf_p8_13 hC) kz) ?_
        refine WQ.st (fun _ _ kz => pw_getr gX11_284 dX11_lends_68 (cf_s107 hC) (cf_p107_1 hC) kz) ?_
        rw [show (-20 : Int32) = sI 0 from rfl]
        refine wq_o4v wX10_settle lX11_308 rfl dX11_lends_71 (cf_s107 hC) (k_settle k5 (lo := 0) (hi := stN al p) (am := 109) (goal := 0) (cf_s109 hC) (Or.inr rfl) (by omega) (by omega) (by omega)) rfl (Nat.le_of_ble_eq_true rfl) (Nat.le_of_ble_eq_true rfl) (fun h71 z71 => ?_)
        obtain ⟨A6, B6, rfl, k6, z1, z2⟩ := z71
        rw [hat] at z1
        have i6 := i5.frw k6 z2.w
        have hn12 := (hD.lgE hq).2
        refine WQ.st (fun _ _ kz => pw_bipush (v := -20) dX11_lends_74 (by decide) kz) ?_
        refine WQ.st (fun _ _ kz => pw_istore7 dX11_lends_76 (by decide) (k := kz)) ?_
        rw [show (-20 : Int32) = sI 0 from rfl]
        refine q_lendsA hC hs1 (A0 := A6) (fun A7 g1 g2 => ?_) (stN al p + 1) 0 A6 (by omega) (fun _ _ => rfl) (fun u hu => by omega)
        have f7 : FrD 20 S5 V5 P5 A6 B6 Q5 t5 S5 V5 P5 A7 B6 Q5 t5 := FrD.va (fun _ _ => rfl) (fun x hx => g1 x (by omega))
        have i7 : CI S5 V5 P5 A7 B6 Q5 t5 al W sh ls5 := i6.ask (i6.de.dc.fr ⟨fun _ _ => rfl, fun x hx => g1 x (by omega), fun _ _ => rfl⟩ (g1 109 (by omega))) f7
        refine WQ.st (fun _ _ kz => pw_aload0 dX11_lends_110 kz) ?_
        refine WQ.st (fun _ _ kz => pw_iload3 dX11_lends_111 kz) ?_
        refine WQ.st (fun _ _ kz => pw_iload4 dX11_lends_112 kz) ?_
        refine wq_o2v wX11_takeUp lX11_186 rfl dX11_lends_114 (cf_s8 hC) (k_take i7 (by omega) hr hu hiq2) rfl (Nat.le_of_ble_eq_true rfl) (Nat.le_of_ble_eq_true rfl) (fun h114 z114 => ?_)
        obtain ⟨tm2, hat2, t8, sl8, ls8, S8, V8, P8, A8, B8, Q8, rfl, k8, i8, l8, f8, r8⟩ := z114
        have hC := k8.cf
        refine WQ.st (fun _ _ kz => pw_aload0 dX11_lends_117 kz) ?_
        refine WQ.st (fun _ _ kz => pw_getr gX11_96 dX11_lends_118 (cf_s8 hC) (cf_p8_13 hC) kz) ?_
        refine WQ.st (fun _ _ kz => pw_iload6 dX11_lends_121 kz) ?_
        refine WQ.st (fun _ _ kz => pw_bipush (v := 20) dX11_lends_123 (by decide) kz) ?_
        refine WQ.st (fun _ _ kz => pw_iconst (v := 0) dX11_lends_125 (by decide) kz) ?_
        refine WQ.st (fun _ _ kz => pw_aload0 dX11_lends_126 kz) ?_
        refine WQ.st (fun _ _ kz => pw_getr gX11_96 dX11_lends_127 (cf_s8 hC) (cf_p8_13 hC) kz) ?_
        refine WQ.st (fun _ _ kz => pw_getr gX11_284 dX11_lends_130 (cf_s107 hC) (cf_p107_1 hC) kz) ?_
        rw [show (20 : Int32) = sI 40 from rfl]
        refine wq_o4v wX10_settle lX11_308 rfl dX11_lends_133 (cf_s107 hC) (k_settle k8 (lo := stN al r) (hi := 40) (am := 109) (goal := 0) (cf_s109 hC) (Or.inr rfl) (by omega) (by omega) (by omega)) rfl (Nat.le_of_ble_eq_true rfl) (Nat.le_of_ble_eq_true rfl) (fun h133 z133 => ?_)
        obtain ⟨A9, B9, rfl, k9, y1, y2⟩ := z133
        rw [hat2] at y1
        have i9 := i8.frw k9 y2.w
        have hm12 := (hD.lgE hu).2
        refine WQ.st (fun _ _ kz => pw_iconst (v := -1) dX11_lends_136 (by decide) kz) ?_
        refine WQ.st (fun _ _ kz => pw_istore7 dX11_lends_137 (by decide) (k := kz)) ?_
        refine WQ.st (fun _ _ kz => pw_ldcw kX11_307 dX11_lends_139 kz) ?_
        refine WQ.st (fun _ _ kz => pw_istore8 dX11_lends_142 (by decide) (k := kz)) ?_
        refine WQ.st (fun _ _ kz => pw_iconst (v := 0) dX11_lends_144 (by decide) kz) ?_
        refine WQ.st (fun _ _ kz => pw_istore9 dX11_lends_145 (by decide) (k := kz)) ?_
        have a7 : ∀ u, u < stN al p + 1 → A9 70 u = cv (lsT al p q u) := fun u hu => by
          rw [y2.1 70 (by omega) (by omega) (by omega) (by omega), f8.2.2.2.2.1 70 (by omega) (by omega) (by omega) (by omega), g2 u hu]
          exact SR_at i5.de.dc.ev hn12 z1 (by omega) (by omega) (by omega)
        obtain ⟨r', h', kr, rfl, rfl⟩ := q_lendsB (G := G) (d := d + 6) (S := S8) (V := V8) (P := P8) (A := A9) (B := B9) (Q := Q8) (t := t8) (sl := sl8) hC (x1 := nI p) (x2 := nI q) (x3 := nI r) (x4 := nI u) hs1 hs2 (T1 := lsT al p q) (T2 := lsT al r u) (fun s hs => ls_bnd hD hE.kv hp hq hs) (fun s hs => ls_bnd hD hE.kv hr hu hs) a7 (fun v h1 h2 => SR_at i8.de.dc.ev hm12 y1 (by omega) h1 h2) 41 0 (-1) (-2147483648) (-268435456) none none (by omega) (Or.inl ⟨rfl, rfl⟩)
        refine ⟨_, _, kr, rI ?_, t8, sl8, ls8, S8, V8, P8, A9, B9, Q8, rfl, i9, by omega, ((((FrT.d (a := 20) f5).o (Or.inr rfl)).tr (z2.w.o (V := V5) (Q := Q5))).tr (f7.o (Or.inr rfl))).tr (((FrT.d (a := 20) f8).o (Or.inr rfl)).tr (y2.w.o (V := V8) (Q := Q8))), fun k1 k2 h => r8 _ _ (r5 _ _ h)⟩
        unfold sp_lds
        rw [c6, c16, hne, Bool.true_and, if_pos (by rfl), tp, tq, tr, tu, Int.toNat_natCast, Int.toNat_natCast, Int.toNat_natCast, Int.toNat_natCast]
      · refine WQ.st (fun _ _ kz => pw_ldc kX11_155 dX11_lends_24 kz) ?_
        refine ⟨_, _, pw_iret dX11_lends_26 rfl rfl rfl rfl, ?_⟩
        exact ⟨rI (by unfold sp_lds; rw [decide_eq_false (fun h : (nI p).toInt ≠ (nI r).toInt => h (by rw [c21])), Bool.and_false, Bool.and_false, if_neg (by decide)]), t, sl, ls, S, V, P, A, B, Q, rfl, hI, by omega, FrO.rfl, fun _ _ h => h⟩
