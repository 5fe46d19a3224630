/-! ===== the judgement with an end asked for ===== -/
def WQ (G : gT) (d : Nat) (M : mT) (pc : Nat) (ls : List (Option Value)) (st : List Value) (h : Ph) (Z : Option Value → Ph → Prop) : Prop := ∃ (r : Option Value) (h' : Ph), PW G d M pc ls st h r h' ∧ Z r h'
theorem WQ.st {G : gT} {d d1 : Nat} {M M1 : mT} {pc pc1 : Nat} {ls ls1 : List (Option Value)} {st st1 : List Value} {h h1 : Ph} {Z : Option Value → Ph → Prop} (f : ∀ (r : Option Value) (h' : Ph), PW G d1 M1 pc1 ls1 st1 h1 r h' → PW G d M pc ls st h r h') (k : WQ G d1 M1 pc1 ls1 st1 h1 Z) : WQ G d M pc ls st h Z := by
  obtain ⟨r, h', k, z⟩ := k
  exact ⟨r, h', f r h' k, z⟩
theorem WQ.br {G : gT} {d d1 d2 : Nat} {M M1 M2 : mT} {pc pc1 pc2 : Nat} {ls ls1 ls2 : List (Option Value)} {st st1 st2 : List Value} {h h1 h2 : Ph} {Z : Option Value → Ph → Prop} {c : Prop} (f : ∀ (r : Option Value) (h' : Ph), (c → PW G d1 M1 pc1 ls1 st1 h1 r h') → (¬ c → PW G d2 M2 pc2 ls2 st2 h2 r h') → PW G d M pc ls st h r h') (kt : c → WQ G d1 M1 pc1 ls1 st1 h1 Z) (kf : ¬ c → WQ G d2 M2 pc2 ls2 st2 h2 Z) : WQ G d M pc ls st h Z := by
  by_cases hc : c
  · obtain ⟨r, h', k, z⟩ := kt hc
    exact ⟨r, h', f r h' (fun _ => k) (fun q => absurd hc q), z⟩
  · obtain ⟨r, h', k, z⟩ := kf hc
    exact ⟨r, h', f r h' (fun q => absurd q hc) (fun _ => k), z⟩
theorem WQ.bn {G : gT} {d d1 d2 : Nat} {M M1 M2 : mT} {pc pc1 pc2 : Nat} {ls ls1 ls2 : List (Option Value)} {st st1 st2 : List Value} {h h1 h2 : Ph} {Z : Option Value → Ph → Prop} {c : Prop} (f : ∀ (r : Option Value) (h' : Ph), (¬ c → PW G d1 M1 pc1 ls1 st1 h1 r h') → (c → PW G d2 M2 pc2 ls2 st2 h2 r h') → PW G d M pc ls st h r h') (kt : ¬ c → WQ G d1 M1 pc1 ls1 st1 h1 Z) (kf : c → WQ G d2 M2 pc2 ls2 st2 h2 Z) : WQ G d M pc ls st h Z := by
  by_cases hc : c
  · obtain ⟨r, h', k, z⟩ := kf hc
    exact ⟨r, h', f r h' (fun q => absurd hc q) (fun _ => k), z⟩
  · obtain ⟨r, h', k, z⟩ := kt hc
    exact ⟨r, h', f r h' (fun _ => k) (fun q => absurd q hc), z⟩
theorem WQ.mono {G : gT} {d d' : Nat} {M : mT} {pc : Nat} {ls : List (Option Value)} {st : List Value} {h : Ph} {Z : Option Value → Ph → Prop} (k : WQ G d M pc ls st h Z) (hd : d ≤ d') : WQ G d' M pc ls st h Z := by
  obtain ⟨r, h', k, z⟩ := k
  exact ⟨r, h', k.mono hd, z⟩
theorem WQ.imp {G : gT} {d : Nat} {M : mT} {pc : Nat} {ls : List (Option Value)} {st : List Value} {h : Ph} {Z Z' : Option Value → Ph → Prop} (k : WQ G d M pc ls st h Z) (hz : ∀ r h', Z r h' → Z' r h') : WQ G d M pc ls st h Z' := by
  obtain ⟨r, h', k, z⟩ := k
  exact ⟨r, h', k, hz r h' z⟩
theorem sI_of {x : Int32} (h : -20 ≤ x.toInt) (h2 : x.toInt ≤ 2147483600) : x = sI (x.toInt + 20).toNat := by
  rw [← Int32.toInt_inj, sI_t (by omega)]
  omega
theorem dI_of {x : Int32} (h : -2 ≤ x.toInt) (h2 : x.toInt ≤ 2147483600) : x = dI (x.toInt + 2).toNat := by
  rw [← Int32.toInt_inj, dI_t (by omega)]
  omega
theorem il_t (x : Int32) : x.toInt64.toInt = x.toInt := Int32.toInt_toInt64 x
theorem li_t {x : Int64} (h : -2147483648 ≤ x.toInt ∧ x.toInt < 2147483648) : x.toInt32.toInt = x.toInt := by
  rw [Int64.toInt_toInt32]
  exact Int.bmod_eq_of_le (by show -(4294967296 / 2 : Int) ≤ x.toInt; omega) (by show x.toInt < (4294967296 + 1) / 2; omega)
