/-! ===== the law's loop ===== -/
theorem LI.up {S : sS} {V : sV} {P : sP} {A : sV} {B : sB} {Q : sP} {t sl sh ls k : Nat} (h : LI S V P A B Q t sl sh ls k) : LI S V P A B Q t sl sh ls (k + 1) := ⟨h.1, h.2.1, h.2.2.1, h.2.2.2.1, h.rm.up (by omega) (by omega), by have := h.lb; omega⟩
def LZ (r : Option Value) (h' : Ph) : Prop := r = some (.int 1) ∧ h'.1 ≤ 20000 ∧ h'.2.1 ≤ 2000000
theorem rkN_4 (n : Nat) : rkN n ≤ 4 := by
  unfold rkN
  repeat' split
  all_goals omega
theorem toN_4 (n : Nat) : toN n ≤ 15120 := by
  unfold toN
  repeat' split
  all_goals omega
theorem len_6 {n : Nat} (hn : n ≤ 3072) : (Int32.ofNat n - 6).toInt = (n : Int) - 6 := by
  have e : (Int32.ofNat n).toInt = (n : Int) := ix_n (j := n) (by omega)
  rw [Int32.toInt_sub, e, show (6 : Int32).toInt = 6 from rfl]
  exact Int.bmod_eq_of_le (by omega) (by omega)
theorem sc_0 {i n : Nat} (hi : i + 6 ≤ n) (hn : n ≤ 3072) : vp_in (nI i) n := by
  have e : (nI i).toInt = ((i : Nat) : Int) := ix_n (by omega)
  rintro (q | q)
  · exact ix_nn e q
  · rw [ix_nat e] at q
    omega
set_option maxRecDepth 20000 in
theorem law_loop {G : gT} (hn : G.2.2.2.1.2.1 ≤ 3072) {D : Nat} (hD : 150 ≤ D) : ∀ (m i k t sl sh ls : Nat) (S : sS) (V : sV) (P : sP) (A : sV) (B : sB) (Q : sP), G.2.2.2.1.2.1 + 6 - i ≤ m → i = 6 * k ∧ i ≤ G.2.2.2.1.2.1 → LI S V P A B Q t sl sh ls k → WQ G D mL_law 18 [some (.ref 0), some (.ref 8), some (.ref 138), some (.int (nI i))] [] (t, sl, gh S V P A B Q) LZ := by
  intro m
  induction m with
  | zero => intro i k t sl sh ls S V P A B Q hm hk; omega
  | succ m ih =>
    intro i k t sl sh ls S V P A B Q hm hk6 hL
    refine WQ.st (fun _ _ kz => pw_iload3 dL_law_18 kz) ?_
    refine WQ.st (fun _ _ kz => pw_aload0 dL_law_19 kz) ?_
    refine WQ.st (fun _ _ kz => pw_slen dL_law_20 kz) ?_
    refine WQ.st (fun _ _ kz => pw_bipush (v := 6) dL_law_21 (by decide) kz) ?_
    refine WQ.st (fun _ _ kz => pw_isub dL_law_23 kz) ?_
    refine WQ.br (fun _ _ ka kb => pw_icmp_gt (tgt := 1751) dL_law_24 (by decide) ka kb) (fun c24 => ?_) (fun c24 => ?_)
    · refine WQ.st (fun _ _ kz => pw_iconst (v := 1) dL_law_1751 (by decide) kz) ?_
      refine ⟨_, _, pw_iret dL_law_1752 rfl rfl rfl rfl, ?_⟩
      have r := hL.rm
      have q0 := rkN_4 (szQ S Q 0)
      have q1 := rkN_4 (szQ S Q 1)
      have q2 := rkN_4 (szQ S Q 2)
      have q3 := rkN_4 (szQ S Q 3)
      have p0 := toN_4 (szQ S Q 0)
      have p1 := toN_4 (szQ S Q 1)
      have p2 := toN_4 (szQ S Q 2)
      have p3 := toN_4 (szQ S Q 3)
      have r1 := r.1
      have r2 := r.2
      refine ⟨rfl, ?_, ?_⟩
      · show t ≤ 20000
        omega
      · show sl ≤ 2000000
        omega
    · rw [lt_i (len_6 hn) (ix_n (by omega))] at c24
      have hi6 : i + 6 ≤ G.2.2.2.1.2.1 := by omega
      have kf : LK G D LZ k i := by
        intro t2 sl2 sh2 ls2 S2 V2 P2 A2 B2 Q2 hL2
        refine WQ.st (fun _ _ kz => pw_iinc3 (v := 6) dL_law_1745 (by decide) (by decide) (k := kz)) ?_
        refine WQ.st (fun _ _ kz => pw_goto (tgt := 18) dL_law_1748 (by decide) kz) ?_
        show WQ G D mL_law 18 [some (.ref 0), some (.ref 8), some (.ref 138), some (.int (nI i + 6))] [] _ LZ
        rw [show (6 : Int32) = nI 6 from rfl, nI_add]
        exact ih (i + 6) (k + 1) t2 sl2 sh2 ls2 S2 V2 P2 A2 B2 Q2 (by omega) (by omega) hL2
      have hk : k ≤ 600 := by omega
      refine WQ.st (fun _ _ kz => pw_aload0 dL_law_27 kz) ?_
      refine WQ.st (fun _ _ kz => pw_iload3 dL_law_28 kz) ?_
      refine WQ.st (fun _ _ kz => pw_saload dL_law_29 (sc_0 hi6 hn) kz) ?_
      refine WQ.st (fun _ _ kz => pw_bipush (v := 63) dL_law_30 (by decide) kz) ?_
      refine WQ.st (fun _ _ kz => pw_iand dL_law_32 kz) ?_
      generalize hx : (G.2.2.2.1.2.2 (nI i).toNatClampNeg &&& 63) = x
      by_cases c0 : x.toInt = 0
      · refine WQ.st (fun _ _ kz => pw_tableIn (off := 171) (tgt := 204) dL_law_33 (by omega) (by omega) (by rw [c0]; rfl) (by decide) kz) ?_
        exact lc_feed hL hk hi6 hn hD kf
      by_cases c1 : x.toInt = 1
      · refine WQ.st (fun _ _ kz => pw_tableIn (off := 234) (tgt := 267) dL_law_33 (by omega) (by omega) (by rw [c1]; rfl) (by decide) kz) ?_
        exact lc_desk hL hk hi6 hn hD kf
      by_cases c2 : x.toInt = 2
      · refine WQ.st (fun _ _ kz => pw_tableIn (off := 257) (tgt := 290) dL_law_33 (by omega) (by omega) (by rw [c2]; rfl) (by decide) kz) ?_
        exact lc_fault hL hk hi6 hn hD kf
      by_cases c3 : x.toInt = 3
      · refine WQ.st (fun _ _ kz => pw_tableIn (off := 280) (tgt := 313) dL_law_33 (by omega) (by omega) (by rw [c3]; rfl) (by decide) kz) ?_
        exact lc_player hL hk hi6 hn hD kf
      by_cases c4 : x.toInt = 4
      · refine WQ.st (fun _ _ kz => pw_tableIn (off := 313) (tgt := 346) dL_law_33 (by omega) (by omega) (by rw [c4]; rfl) (by decide) kz) ?_
        exact lc_wants hL hk hi6 hn hD kf
      by_cases c5 : x.toInt = 5
      · refine WQ.st (fun _ _ kz => pw_tableIn (off := 346) (tgt := 379) dL_law_33 (by omega) (by omega) (by rw [c5]; rfl) (by decide) kz) ?_
        exact lc_bars hL hk hi6 hn hD kf
      by_cases c6 : x.toInt = 6
      · refine WQ.st (fun _ _ kz => pw_tableIn (off := 369) (tgt := 402) dL_law_33 (by omega) (by omega) (by rw [c6]; rfl) (by decide) kz) ?_
        exact lc_glad hL hk hi6 hn hD kf
      by_cases c7 : x.toInt = 7
      · refine WQ.st (fun _ _ kz => pw_tableIn (off := 432) (tgt := 465) dL_law_33 (by omega) (by omega) (by rw [c7]; rfl) (by decide) kz) ?_
        exact lc_play hL hk hi6 hn hD kf
      by_cases c8 : x.toInt = 8
      · refine WQ.st (fun _ _ kz => pw_tableIn (off := 465) (tgt := 498) dL_law_33 (by omega) (by omega) (by rw [c8]; rfl) (by decide) kz) ?_
        exact lc_perform hL hk hi6 hn hD kf
      by_cases c9 : x.toInt = 9
      · refine WQ.st (fun _ _ kz => pw_tableIn (off := 498) (tgt := 531) dL_law_33 (by omega) (by omega) (by rw [c9]; rfl) (by decide) kz) ?_
        exact lc_lend hL hk hi6 hn hD kf
      by_cases c10 : x.toInt = 10
      · refine WQ.st (fun _ _ kz => pw_tableIn (off := 541) (tgt := 574) dL_law_33 (by omega) (by omega) (by rw [c10]; rfl) (by decide) kz) ?_
        exact lc_temper hL hk hi6 hn hD kf
      by_cases c11 : x.toInt = 11
      · refine WQ.st (fun _ _ kz => pw_tableIn (off := 574) (tgt := 607) dL_law_33 (by omega) (by omega) (by rw [c11]; rfl) (by decide) kz) ?_
        exact lc_friday hL hk hi6 hn hD kf
      by_cases c12 : x.toInt = 12
      · refine WQ.st (fun _ _ kz => pw_tableIn (off := 587) (tgt := 620) dL_law_33 (by omega) (by omega) (by rw [c12]; rfl) (by decide) kz) ?_
        exact lc_undo hL hk hi6 hn hD kf
      by_cases c13 : x.toInt = 13
      · refine WQ.st (fun _ _ kz => pw_tableIn (off := 610) (tgt := 643) dL_law_33 (by omega) (by omega) (by rw [c13]; rfl) (by decide) kz) ?_
        exact lc_judge hL hk hi6 hn hD kf
      by_cases c14 : x.toInt = 14
      · refine WQ.st (fun _ _ kz => pw_tableIn (off := 643) (tgt := 676) dL_law_33 (by omega) (by omega) (by rw [c14]; rfl) (by decide) kz) ?_
        exact lc_does hL hk hi6 hn hD kf
      by_cases c15 : x.toInt = 15
      · refine WQ.st (fun _ _ kz => pw_tableIn (off := 666) (tgt := 699) dL_law_33 (by omega) (by omega) (by rw [c15]; rfl) (by decide) kz) ?_
        exact lc_term hL hk hi6 hn hD kf
      by_cases c16 : x.toInt = 16
      · refine WQ.st (fun _ _ kz => pw_tableIn (off := 699) (tgt := 732) dL_law_33 (by omega) (by omega) (by rw [c16]; rfl) (by decide) kz) ?_
        exact lc_comes hL hk hi6 hn hD kf
      by_cases c17 : x.toInt = 17
      · refine WQ.st (fun _ _ kz => pw_tableIn (off := 742) (tgt := 775) dL_law_33 (by omega) (by omega) (by rw [c17]; rfl) (by decide) kz) ?_
        exact lc_best hL hk hi6 hn hD kf
      by_cases c18 : x.toInt = 18
      · refine WQ.st (fun _ _ kz => pw_tableIn (off := 795) (tgt := 828) dL_law_33 (by omega) (by omega) (by rw [c18]; rfl) (by decide) kz) ?_
        exact lc_rows hL hk hi6 hn hD kf
      by_cases c19 : x.toInt = 19
      · refine WQ.st (fun _ _ kz => pw_tableIn (off := 839) (tgt := 872) dL_law_33 (by omega) (by omega) (by rw [c19]; rfl) (by decide) kz) ?_
        exact lc_thriftiest hL hk hi6 hn hD kf
      by_cases c20 : x.toInt = 20
      · refine WQ.st (fun _ _ kz => pw_tableIn (off := 872) (tgt := 905) dL_law_33 (by omega) (by omega) (by rw [c20]; rfl) (by decide) kz) ?_
        exact lc_least hL hk hi6 hn hD kf
      by_cases c21 : x.toInt = 21
      · refine WQ.st (fun _ _ kz => pw_tableIn (off := 925) (tgt := 958) dL_law_33 (by omega) (by omega) (by rw [c21]; rfl) (by decide) kz) ?_
        exact lc_squarest hL hk hi6 hn hD kf
      by_cases c22 : x.toInt = 22
      · refine WQ.st (fun _ _ kz => pw_tableIn (off := 958) (tgt := 991) dL_law_33 (by omega) (by omega) (by rw [c22]; rfl) (by decide) kz) ?_
        exact lc_order hL hk hi6 hn hD kf
      by_cases c23 : x.toInt = 23
      · refine WQ.st (fun _ _ kz => pw_tableIn (off := 1011) (tgt := 1044) dL_law_33 (by omega) (by omega) (by rw [c23]; rfl) (by decide) kz) ?_
        exact lc_mostPieces hL hk hi6 hn hD kf
      by_cases c24 : x.toInt = 24
      · refine WQ.st (fun _ _ kz => pw_tableIn (off := 1044) (tgt := 1077) dL_law_33 (by omega) (by omega) (by rw [c24]; rfl) (by decide) kz) ?_
        exact lc_gladdest hL hk hi6 hn hD kf
      by_cases c25 : x.toInt = 25
      · refine WQ.st (fun _ _ kz => pw_tableIn (off := 1067) (tgt := 1100) dL_law_33 (by omega) (by omega) (by rw [c25]; rfl) (by decide) kz) ?_
        exact lc_lends hL hk hi6 hn hD kf
      by_cases c26 : x.toInt = 26
      · refine WQ.st (fun _ _ kz => pw_tableIn (off := 1120) (tgt := 1153) dL_law_33 (by omega) (by omega) (by rw [c26]; rfl) (by decide) kz) ?_
        exact lc_reply hL hk hi6 hn hD kf
      by_cases c27 : x.toInt = 27
      · refine WQ.st (fun _ _ kz => pw_tableIn (off := 1173) (tgt := 1206) dL_law_33 (by omega) (by omega) (by rw [c27]; rfl) (by decide) kz) ?_
        exact lc_heard hL hk hi6 hn hD kf
      by_cases c28 : x.toInt = 28
      · refine WQ.st (fun _ _ kz => pw_tableIn (off := 1227) (tgt := 1260) dL_law_33 (by omega) (by omega) (by rw [c28]; rfl) (by decide) kz) ?_
        exact lc_sure hL hk hi6 hn hD kf
      by_cases c29 : x.toInt = 29
      · refine WQ.st (fun _ _ kz => pw_tableIn (off := 1290) (tgt := 1323) dL_law_33 (by omega) (by omega) (by rw [c29]; rfl) (by decide) kz) ?_
        exact lc_tempers hL hk hi6 hn hD kf
      by_cases c30 : x.toInt = 30
      · refine WQ.st (fun _ _ kz => pw_tableIn (off := 1333) (tgt := 1366) dL_law_33 (by omega) (by omega) (by rw [c30]; rfl) (by decide) kz) ?_
        exact lc_next hL hk hi6 hn hD kf
      by_cases c31 : x.toInt = 31
      · refine WQ.st (fun _ _ kz => pw_tableIn (off := 1376) (tgt := 1409) dL_law_33 (by omega) (by omega) (by rw [c31]; rfl) (by decide) kz) ?_
        exact lc_chance hL hk hi6 hn hD kf
      by_cases c32 : x.toInt = 32
      · refine WQ.st (fun _ _ kz => pw_tableIn (off := 1430) (tgt := 1463) dL_law_33 (by omega) (by omega) (by rw [c32]; rfl) (by decide) kz) ?_
        exact lc_putBy hL hk hi6 hn hD kf
      by_cases c33 : x.toInt = 33
      · refine WQ.st (fun _ _ kz => pw_tableIn (off := 1473) (tgt := 1506) dL_law_33 (by omega) (by omega) (by rw [c33]; rfl) (by decide) kz) ?_
        exact lc_numbers hL hk hi6 hn hD kf
      by_cases c34 : x.toInt = 34
      · refine WQ.st (fun _ _ kz => pw_tableIn (off := 1516) (tgt := 1549) dL_law_33 (by omega) (by omega) (by rw [c34]; rfl) (by decide) kz) ?_
        exact lc_write hL hk hi6 hn hD kf
      by_cases c35 : x.toInt = 35
      · refine WQ.st (fun _ _ kz => pw_tableIn (off := 1590) (tgt := 1623) dL_law_33 (by omega) (by omega) (by rw [c35]; rfl) (by decide) kz) ?_
        exact lc_lists hL hk hi6 hn hD kf
      by_cases c36 : x.toInt = 36
      · refine WQ.st (fun _ _ kz => pw_tableIn (off := 1643) (tgt := 1676) dL_law_33 (by omega) (by omega) (by rw [c36]; rfl) (by decide) kz) ?_
        exact lc_image hL hk hi6 hn hD kf
      by_cases c37 : x.toInt = 37
      · refine WQ.st (fun _ _ kz => pw_tableIn (off := 1666) (tgt := 1699) dL_law_33 (by omega) (by omega) (by rw [c37]; rfl) (by decide) kz) ?_
        exact lc_restore hL hk hi6 hn hD kf
      by_cases c38 : x.toInt = 38
      · refine WQ.st (fun _ _ kz => pw_tableIn (off := 1689) (tgt := 1722) dL_law_33 (by omega) (by omega) (by rw [c38]; rfl) (by decide) kz) ?_
        exact lc_count hL hk hi6 hn hD kf
      refine WQ.st (fun _ _ kz => pw_tableOut (tgt := 1745) dL_law_33 (by omega) (by decide) kz) ?_
      exact kf t sl sh ls S V P A B Q hL.up
