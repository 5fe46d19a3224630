theorem wd_f1 : ∀ k, k < 42 → tkOb k = true → (decide (wdI k = -1)) = (decide ((ccK k).toInt < 200) || decide (208 ≤ (ccK k).toInt)) := by decide +kernel
theorem wd_f2 : ∀ k, k < 42 → tkOb k = true → ¬ wdI k = -1 → 1000 + ccK k - 200 = ctk (1000 + wdI k) ∧ 0 ≤ (1000 + wdI k).toInt ∧ (1000 + wdI k).toInt < 1008 ∧ ¬ k = 23 ∧ ¬ k = 24 := by decide +kernel
theorem wd_f (k : Nat) (h : k < 42) (ho : tkOb k = true) : (wdI k ≠ -1 ↔ (¬ ccK k < 200 ∧ ¬ 208 ≤ ccK k)) ∧ (wdI k ≠ -1 → 1000 + ccK k - 200 = ctk (1000 + wdI k) ∧ 0 ≤ (1000 + wdI k).toInt ∧ (1000 + wdI k).toInt < 1008 ∧ k ≠ 23 ∧ k ≠ 24) := by
  refine ⟨?_, wd_f2 k h ho⟩
  have := wd_f1 k h ho
  rw [lt_i rfl (show (200 : Int32).toInt = 200 from rfl), le_i (show (208 : Int32).toInt = 208 from rfl) rfl]
  by_cases c : wdI k = -1
  · rw [decide_eq_true c] at this
    have := this.symm
    rw [Bool.or_eq_true] at this
    refine ⟨fun q => absurd c q, fun q => ?_⟩
    rcases this with g | g
    · exact absurd (of_decide_eq_true g) q.1
    · exact absurd (of_decide_eq_true g) q.2
  · rw [decide_eq_false c] at this
    have := this.symm
    rw [Bool.or_eq_false_iff] at this
    exact ⟨fun _ => ⟨of_decide_eq_false this.1, of_decide_eq_false this.2⟩, fun _ => c⟩
theorem cm_ok : ∀ k, k < 42 → (k = 39 ∨ k = 40 ∨ k = 41) → 2000 + ccK k = ctk (if k = 39 then 3003 else if k = 40 then 3004 else 3005) ∧ 3000 ≤ (if k = 39 then (3003 : Int32) else if k = 40 then 3004 else 3005).toInt ∧ (if k = 39 then (3003 : Int32) else if k = 40 then 3004 else 3005).toInt ≤ 3008 := by decide +kernel
def cmpF (K : Nat → Nat) (Vl : Nat → Int32) (Pl : Nat → Nat) (n dep : Nat) : Nat → List Int32 → PR := fun j c' => if K j = 39 ∨ K j = 40 ∨ K j = 41 then (ps K Vl Pl n 2 (j + 1) dep c').andThen (fun k c'' => .ok (k, c'' ++ [if K j = 39 then 3003 else if K j = 40 then 3004 else 3005])) else badT K Pl j 2
theorem ps_3c (K : Nat → Nat) (Vl : Nat → Int32) (Pl : Nat → Nat) (n i dep : Nat) (c : List Int32) : ps K Vl Pl (n + 1) 3 i dep c = (if K i = 19 then (if dep = 6 then .error (4, Pl i) else (ps K Vl Pl n 3 (i + 1) (dep + 1) c).andThen (fun j c' => .ok (j, c' ++ [3006]))) else if K i = 37 then (if dep = 6 then .error (4, Pl i) else (ps K Vl Pl n 5 (i + 1) (dep + 1) c).andThen (fun j c' => if K j = 38 then .ok (j + 1, c') else badT K Pl j 2)) else (ps K Vl Pl n 2 i dep c).andThen (cmpF K Vl Pl n dep)) := rfl
set_option maxRecDepth 20000 in
theorem kp_0 {G : gT} {S : sS} {P : sP} {B : sB} {Q : sP} {t sl a : Nat} (hC : CF S P) (hL : LA S P a) (hp10 : P 10 10 = some a) (ha : 20 ≤ a) {x : Nat → Int32} {L T n : Nat} (h : HC G S P B Q t sl a x L T mX6_readChain (fun dep => [some (.ref 10), some (.int (nI 1)), some (.int (nI dep)), none, none]) 4 8 n) : HC G S P B Q t sl a x L T mX6_readPart (fun dep => [some (.ref 10), some (.int (nI 0)), some (.int (nI dep))]) 4 9 n := by
  intro i dep pre d m V A D hd hn hN hW hB hD
  have hB1 := hB.1
  have hm9 := hB.2.2
  have hiT := hN.le
  have ht9 := hN.t9
  obtain ⟨D, rfl⟩ : ∃ D', D = D' + 1 := ⟨D - 1, by omega⟩
  refine WQ.st (fun _ _ kz => pw_iload1 dX6_readPart_0 kz) ?_
  refine WQ.st (fun _ _ kz => pw_tableIn (off := 27) (tgt := 28) dX6_readPart_1 (by decide) (by decide) rfl (by decide) kz) ?_
  refine WQ.st (fun _ _ kz => pw_aload0 dX6_readPart_28 kz) ?_
  refine WQ.st (fun _ _ kz => pw_iconst (v := 1) dX6_readPart_29 (by decide) kz) ?_
  refine WQ.st (fun _ _ kz => pw_iload2 dX6_readPart_30 kz) ?_
  refine wq_o2i wX6_readChain lX6_170 rfl dX6_readPart_31 (cf_s10 hC) (h i dep pre d m V A D hd hn hN hW hB (by omega)) rfl (Nat.le_of_ble_eq_true rfl) (Nat.le_of_ble_eq_true rfl) (fun h31 z31 => ?_)
  obtain ⟨V2, A2, rfl, z2, f2⟩ := z31
  refine ⟨_, _, pw_iret dX6_readPart_34 rfl (bI_nar _) rfl rfl, ?_⟩
  exact ⟨rfl, V2, A2, rfl, z2, f2⟩
set_option maxRecDepth 20000 in
theorem kp_1 {G : gT} {S : sS} {P : sP} {B : sB} {Q : sP} {t sl a : Nat} (hC : CF S P) (hL : LA S P a) (hp10 : P 10 10 = some a) (ha : 20 ≤ a) {x : Nat → Int32} {L T n : Nat} (h : HC G S P B Q t sl a x L T mX6_readUnit (fun dep => [some (.ref 10), some (.int (nI dep)), none]) 3 6 n) : HC G S P B Q t sl a x L T mX6_readPart (fun dep => [some (.ref 10), some (.int (nI 1)), some (.int (nI dep))]) 3 7 n := by
  intro i dep pre d m V A D hd hn hN hW hB hD
  have hB1 := hB.1
  have hm9 := hB.2.2
  have hiT := hN.le
  have ht9 := hN.t9
  obtain ⟨D, rfl⟩ : ∃ D', D = D' + 1 := ⟨D - 1, by omega⟩
  refine WQ.st (fun _ _ kz => pw_iload1 dX6_readPart_0 kz) ?_
  refine WQ.st (fun _ _ kz => pw_tableIn (off := 34) (tgt := 35) dX6_readPart_1 (by decide) (by decide) rfl (by decide) kz) ?_
  refine WQ.st (fun _ _ kz => pw_aload0 dX6_readPart_35 kz) ?_
  refine WQ.st (fun _ _ kz => pw_iload2 dX6_readPart_36 kz) ?_
  refine wq_o1i wX6_readUnit lX6_183 rfl dX6_readPart_37 (cf_s10 hC) (h i dep pre d m V A D hd hn hN hW hB (by omega)) rfl (Nat.le_of_ble_eq_true rfl) (Nat.le_of_ble_eq_true rfl) (fun h37 z37 => ?_)
  obtain ⟨V2, A2, rfl, z2, f2⟩ := z37
  refine ⟨_, _, pw_iret dX6_readPart_40 rfl (bI_nar _) rfl rfl, ?_⟩
  exact ⟨rfl, V2, A2, rfl, z2, f2⟩
set_option maxRecDepth 20000 in
theorem kp_2 {G : gT} {S : sS} {P : sP} {B : sB} {Q : sP} {t sl a : Nat} (hC : CF S P) (hL : LA S P a) (hp10 : P 10 10 = some a) (ha : 20 ≤ a) {x : Nat → Int32} {L T n : Nat} (h : HC G S P B Q t sl a x L T mX6_readChain (fun dep => [some (.ref 10), some (.int (nI 3)), some (.int (nI dep)), none, none]) 1 2 n) : HC G S P B Q t sl a x L T mX6_readPart (fun dep => [some (.ref 10), some (.int (nI 2)), some (.int (nI dep))]) 1 3 n := by
  intro i dep pre d m V A D hd hn hN hW hB hD
  have hB1 := hB.1
  have hm9 := hB.2.2
  have hiT := hN.le
  have ht9 := hN.t9
  obtain ⟨D, rfl⟩ : ∃ D', D = D' + 1 := ⟨D - 1, by omega⟩
  refine WQ.st (fun _ _ kz => pw_iload1 dX6_readPart_0 kz) ?_
  refine WQ.st (fun _ _ kz => pw_tableIn (off := 40) (tgt := 41) dX6_readPart_1 (by decide) (by decide) rfl (by decide) kz) ?_
  refine WQ.st (fun _ _ kz => pw_aload0 dX6_readPart_41 kz) ?_
  refine WQ.st (fun _ _ kz => pw_iconst (v := 3) dX6_readPart_42 (by decide) kz) ?_
  refine WQ.st (fun _ _ kz => pw_iload2 dX6_readPart_43 kz) ?_
  refine wq_o2i wX6_readChain lX6_170 rfl dX6_readPart_44 (cf_s10 hC) (h i dep pre d m V A D hd hn hN hW hB (by omega)) rfl (Nat.le_of_ble_eq_true rfl) (Nat.le_of_ble_eq_true rfl) (fun h44 z44 => ?_)
  obtain ⟨V2, A2, rfl, z2, f2⟩ := z44
  refine ⟨_, _, pw_iret dX6_readPart_47 rfl (bI_nar _) rfl rfl, ?_⟩
  exact ⟨rfl, V2, A2, rfl, z2, f2⟩
set_option maxRecDepth 20000 in
theorem kp_3 {G : gT} {S : sS} {P : sP} {B : sB} {Q : sP} {t sl a : Nat} (hC : CF S P) (hL : LA S P a) (hp10 : P 10 10 = some a) (ha : 20 ≤ a) {x : Nat → Int32} {L T n : Nat} (h : HC G S P B Q t sl a x L T mX6_readAtom (fun dep => [some (.ref 10), some (.int (nI dep)), none]) 0 0 n) : HC G S P B Q t sl a x L T mX6_readPart (fun dep => [some (.ref 10), some (.int (nI 3)), some (.int (nI dep))]) 0 1 n := by
  intro i dep pre d m V A D hd hn hN hW hB hD
  have hB1 := hB.1
  have hm9 := hB.2.2
  have hiT := hN.le
  have ht9 := hN.t9
  obtain ⟨D, rfl⟩ : ∃ D', D = D' + 1 := ⟨D - 1, by omega⟩
  refine WQ.st (fun _ _ kz => pw_iload1 dX6_readPart_0 kz) ?_
  refine WQ.st (fun _ _ kz => pw_tableOut (tgt := 48) dX6_readPart_1 (by decide) (by decide) kz) ?_
  refine WQ.st (fun _ _ kz => pw_aload0 dX6_readPart_48 kz) ?_
  refine WQ.st (fun _ _ kz => pw_iload2 dX6_readPart_49 kz) ?_
  refine wq_o1i wX6_readAtom lX6_186 rfl dX6_readPart_50 (cf_s10 hC) (h i dep pre d m V A D hd hn hN hW hB (by omega)) rfl (Nat.le_of_ble_eq_true rfl) (Nat.le_of_ble_eq_true rfl) (fun h50 z50 => ?_)
  obtain ⟨V2, A2, rfl, z2, f2⟩ := z50
  refine ⟨_, _, pw_iret dX6_readPart_53 rfl (bI_nar _) rfl rfl, ?_⟩
  exact ⟨rfl, V2, A2, rfl, z2, f2⟩
