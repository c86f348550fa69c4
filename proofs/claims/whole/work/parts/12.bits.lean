/-! bytes and signs: pure rows -/
def fd_sg (c : Int32) : Prop := ∃ b : Nat, c = nI b ∧ ((48 ≤ b ∧ b ≤ 57) ∨ (65 ≤ b ∧ b ≤ 90))
theorem fd_asc (a b c : Int32) : a + (b - c) = a + b - c := by
  rw [Int32.sub_eq_add_neg, Int32.sub_eq_add_neg, Int32.add_assoc]
theorem fd_sg_d : ∀ b, b < 58 → 48 ≤ b → (¬ (57 : Int32) < nI b) ∧ fd_val (nI b) = nI b - 48 ∧ ¬ (10 : Int32) ≤ fd_val (nI b) := by decide +kernel
theorem fd_sg_l : ∀ b, b < 91 → 65 ≤ b → ((57 : Int32) < nI b) ∧ fd_val (nI b) = nI b - 65 + 10 ∧ (10 : Int32) ≤ fd_val (nI b) := by decide +kernel
theorem fd_stp_eq {c : Int32} (h : fd_sg c) (r : Int32) : fd_stp r c = fd_rst r (fd_val c) := by
  obtain ⟨b, rfl, h | h⟩ := h
  · obtain ⟨h1, h2, h3⟩ := fd_sg_d b (by omega) h.1
    rw [fd_stp, if_neg h1, fd_rst, if_neg h3, h2, fd_asc]
  · obtain ⟨h1, h2, h3⟩ := fd_sg_l b (by omega) h.1
    rw [fd_stp, if_pos h1, fd_rst, if_pos h3, h2, ← Int32.add_assoc, fd_asc]
theorem fd_sh1 : ∀ z, z < 8 → (((8 : Int32) * nI z).toInt64 &&& 63).toBitVec.smod 64 = BitVec.ofNat 64 (8 * z) := by decide +kernel
theorem fd_sh2 : ∀ z, z < 8 → ((((8 : Int32) * nI z).toInt64.toUInt64 &&& Int64.toUInt64 63).toBitVec % 64#64).toNat = 8 * z := by decide +kernel
theorem fd_byte_eq (v : Int64) {z : Nat} (h : z < 8) : ((v >>> (((8 : Int32) * nI z).toInt64 &&& 63)) &&& 255).toInt32 = fd_byte v z := by
  apply Int32.toBitVec_inj.mp
  rw [fd_byte]
  have e1 := fd_sh1 z h
  have e2 := fd_sh2 z h
  have hu : ((v.toUInt64 >>> (((8 : Int32) * nI z).toInt64.toUInt64 &&& Int64.toUInt64 63)).toInt64).toBitVec = v.toBitVec >>> (8 * z) := by
    show v.toUInt64.toBitVec >>> ((((8 : Int32) * nI z).toInt64.toUInt64 &&& Int64.toUInt64 63).toBitVec % 64#64) = _
    rw [BitVec.ushiftRight_eq', e2]; rfl
  have hs : (v >>> (((8 : Int32) * nI z).toInt64 &&& 63)).toBitVec = v.toBitVec.sshiftRight (8 * z) := by
    show v.toBitVec.sshiftRight' ((((8 : Int32) * nI z).toInt64 &&& 63).toBitVec.smod 64) = _
    rw [e1, BitVec.sshiftRight'_ofNat_eq_sshiftRight, Nat.mod_eq_of_lt (by omega)]
  rw [Int64.toBitVec_toInt32, Int64.toBitVec_and, hs, Int32.toBitVec_and, Int64.toBitVec_toInt32, hu]
  have b1 : ∀ i, i < 64 → (Int64.toBitVec 255).getLsbD i = decide (i < 8) := by decide +kernel
  have b2 : ∀ i, i < 32 → (Int32.toBitVec 255).getLsbD i = decide (i < 8) := by decide +kernel
  apply BitVec.eq_of_getLsbD_eq
  intro i hi
  have hi2 : i < 64 := by omega
  rw [BitVec.getLsbD_signExtend, BitVec.getLsbD_and, BitVec.getLsbD_and, BitVec.getLsbD_signExtend, BitVec.getLsbD_sshiftRight, BitVec.getLsbD_ushiftRight, b1 i hi2, b2 i hi]
  by_cases h8 : i < 8
  · have h10 : 8 * z + i < 64 := by omega
    have h11 : ¬ 64 ≤ i := by omega
    simp [h10, h8, hi, hi2, h11]
  · simp [h8]; intro _ h9; omega
