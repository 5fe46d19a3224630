def btB (x : Int32) : Int32 := x.toInt8.toInt32
theorem btB_2 (x : Int32) : btB (btB x) = btB x := by
  unfold btB
  rw [Int8.toInt8_toInt32]
theorem btB_24 (v : Int32) : btB ((v.toUInt32 >>> ((nI 24).toUInt32 &&& Int32.toUInt32 31)).toInt32) = btB ((v >>> (nI 24 &&& 31)) &&& 255) := by
  unfold btB
  congr 1
  rw [← Int8.toBitVec_inj, Int32.toBitVec_toInt8, Int32.toBitVec_toInt8]
  have e1 : (v.toUInt32 >>> ((nI 24).toUInt32 &&& Int32.toUInt32 31)).toInt32.toBitVec = v.toBitVec >>> 24 := by
    rw [show ((nI 24).toUInt32 &&& Int32.toUInt32 31) = 24 by decide]
    show (v.toUInt32 >>> 24).toBitVec = _
    rw [UInt32.toBitVec_shiftRight]
    rfl
  have e2 : ((v >>> (nI 24 &&& 31)) &&& 255).toBitVec = (v.toBitVec.sshiftRight 24) &&& 255#32 := by
    rw [Int32.toBitVec_and, show (nI 24 &&& 31) = 24 by decide, Int32.toBitVec_shiftRight]
    rfl
  rw [e1, e2]
  apply BitVec.eq_of_getLsbD_eq
  intro i hi
  have key : ∀ i : Fin 8, (255#32).getLsbD i.1 = true := by decide
  have k := key ⟨i, hi⟩
  rw [BitVec.getLsbD_signExtend, BitVec.getLsbD_signExtend, BitVec.getLsbD_ushiftRight, BitVec.getLsbD_and, BitVec.getLsbD_sshiftRight, k]
  simp [hi, show i < 32 by omega, show 24 + i < 32 by omega]
theorem btB_16 (v : Int32) : btB ((v.toUInt32 >>> ((nI 16).toUInt32 &&& Int32.toUInt32 31)).toInt32) = btB ((v >>> (nI 16 &&& 31)) &&& 255) := by
  unfold btB
  congr 1
  rw [← Int8.toBitVec_inj, Int32.toBitVec_toInt8, Int32.toBitVec_toInt8]
  have e1 : (v.toUInt32 >>> ((nI 16).toUInt32 &&& Int32.toUInt32 31)).toInt32.toBitVec = v.toBitVec >>> 16 := by
    rw [show ((nI 16).toUInt32 &&& Int32.toUInt32 31) = 16 by decide]
    show (v.toUInt32 >>> 16).toBitVec = _
    rw [UInt32.toBitVec_shiftRight]
    rfl
  have e2 : ((v >>> (nI 16 &&& 31)) &&& 255).toBitVec = (v.toBitVec.sshiftRight 16) &&& 255#32 := by
    rw [Int32.toBitVec_and, show (nI 16 &&& 31) = 16 by decide, Int32.toBitVec_shiftRight]
    rfl
  rw [e1, e2]
  apply BitVec.eq_of_getLsbD_eq
  intro i hi
  have key : ∀ i : Fin 8, (255#32).getLsbD i.1 = true := by decide
  have k := key ⟨i, hi⟩
  rw [BitVec.getLsbD_signExtend, BitVec.getLsbD_signExtend, BitVec.getLsbD_ushiftRight, BitVec.getLsbD_and, BitVec.getLsbD_sshiftRight, k]
  simp [hi, show i < 32 by omega, show 16 + i < 32 by omega]
theorem btB_8 (v : Int32) : btB ((v.toUInt32 >>> ((nI 8).toUInt32 &&& Int32.toUInt32 31)).toInt32) = btB ((v >>> (nI 8 &&& 31)) &&& 255) := by
  unfold btB
  congr 1
  rw [← Int8.toBitVec_inj, Int32.toBitVec_toInt8, Int32.toBitVec_toInt8]
  have e1 : (v.toUInt32 >>> ((nI 8).toUInt32 &&& Int32.toUInt32 31)).toInt32.toBitVec = v.toBitVec >>> 8 := by
    rw [show ((nI 8).toUInt32 &&& Int32.toUInt32 31) = 8 by decide]
    show (v.toUInt32 >>> 8).toBitVec = _
    rw [UInt32.toBitVec_shiftRight]
    rfl
  have e2 : ((v >>> (nI 8 &&& 31)) &&& 255).toBitVec = (v.toBitVec.sshiftRight 8) &&& 255#32 := by
    rw [Int32.toBitVec_and, show (nI 8 &&& 31) = 8 by decide, Int32.toBitVec_shiftRight]
    rfl
  rw [e1, e2]
  apply BitVec.eq_of_getLsbD_eq
  intro i hi
  have key : ∀ i : Fin 8, (255#32).getLsbD i.1 = true := by decide
  have k := key ⟨i, hi⟩
  rw [BitVec.getLsbD_signExtend, BitVec.getLsbD_signExtend, BitVec.getLsbD_ushiftRight, BitVec.getLsbD_and, BitVec.getLsbD_sshiftRight, k]
  simp [hi, show i < 32 by omega, show 8 + i < 32 by omega]
theorem btB_0 (v : Int32) : btB ((v.toUInt32 >>> ((nI 0).toUInt32 &&& Int32.toUInt32 31)).toInt32) = btB ((v >>> (nI 0 &&& 31)) &&& 255) := by
  unfold btB
  congr 1
  rw [← Int8.toBitVec_inj, Int32.toBitVec_toInt8, Int32.toBitVec_toInt8]
  have e1 : (v.toUInt32 >>> ((nI 0).toUInt32 &&& Int32.toUInt32 31)).toInt32.toBitVec = v.toBitVec >>> 0 := by
    rw [show ((nI 0).toUInt32 &&& Int32.toUInt32 31) = 0 by decide]
    show (v.toUInt32 >>> 0).toBitVec = _
    rw [UInt32.toBitVec_shiftRight]
    rfl
  have e2 : ((v >>> (nI 0 &&& 31)) &&& 255).toBitVec = (v.toBitVec.sshiftRight 0) &&& 255#32 := by
    rw [Int32.toBitVec_and, show (nI 0 &&& 31) = 0 by decide, Int32.toBitVec_shiftRight]
    rfl
  rw [e1, e2]
  apply BitVec.eq_of_getLsbD_eq
  intro i hi
  have key : ∀ i : Fin 8, (255#32).getLsbD i.1 = true := by decide
  have k := key ⟨i, hi⟩
  rw [BitVec.getLsbD_signExtend, BitVec.getLsbD_signExtend, BitVec.getLsbD_ushiftRight, BitVec.getLsbD_and, BitVec.getLsbD_sshiftRight, k]
  simp [hi, show i < 32 by omega, show 0 + i < 32 by omega]
def sp_fd (W : WT) (a b c d e : Int32) : Int32 × WT := if W.2.2.2.2.1.toInt + 20 ≤ 900 then (nI (W.2.2.2.2.1.toInt.toNat + 20), W.tape (nI (W.2.2.2.2.1.toInt.toNat + 20)) (fun i => if W.2.2.2.2.1.toInt.toNat ≤ i ∧ i < W.2.2.2.2.1.toInt.toNat + 20 then btB (fdb (fdv a b c d e (i - W.2.2.2.2.1.toInt.toNat)) (i - W.2.2.2.2.1.toInt.toNat)) else W.2.2.2.2.2.2.2 i)) else (-99000005, W)
