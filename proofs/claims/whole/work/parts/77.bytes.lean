/-! the eight bytes of a long, the highest first -/
def btB (w : Int64) (s : Nat) : BitVec 64 := (w.toBitVec >>> s) &&& 255#64
def bty (w : Int64) (k : Int) : Int := ((btB w (56 - 8 * k).toNat).toNat : Int)
theorem bty_in (w : Int64) (k : Int) : 0 ≤ bty w k ∧ bty w k < 256 := by
  unfold bty btB
  rw [BitVec.toNat_and]
  have h : (w.toBitVec >>> (56 - 8 * k).toNat).toNat &&& (255#64).toNat ≤ (255#64).toNat := Nat.and_le_right
  have h2 : (255#64 : BitVec 64).toNat = 255 := rfl
  omega
theorem btB_s (b : BitVec 64) (s : Nat) (hs : s ≤ 56) : b.sshiftRight s &&& 255#64 = (b >>> s) &&& 255#64 := by
  apply BitVec.eq_of_getLsbD_eq
  intro i hi
  rw [BitVec.getLsbD_and, BitVec.getLsbD_and, BitVec.getLsbD_ushiftRight, BitVec.getLsbD_sshiftRight]
  by_cases h8 : i < 8
  · have h1 : ¬ 64 ≤ i := by omega
    have h2 : s + i < 64 := by omega
    simp [h1, h2]
  · have h3 : (255#64 : BitVec 64).getLsbD i = false := by
      have h4 : 255 < 2 ^ i := Nat.lt_of_lt_of_le (by decide : 255 < 2 ^ 8) (Nat.pow_le_pow_right (by decide) (by omega))
      rw [BitVec.getLsbD_ofNat, Nat.testBit_lt_two_pow h4, Bool.and_false]
    rw [h3, Bool.and_false, Bool.and_false]
theorem k8 {k : Int} (h : 0 ≤ k ∧ k < 8) : k = 0 ∨ k = 1 ∨ k = 2 ∨ k = 3 ∨ k = 4 ∨ k = 5 ∨ k = 6 ∨ k = 7 := by omega
theorem i64_of (b : BitVec 64) : (Int64.ofBitVec b).toBitVec = b := rfl
/-- the reference's byte, as a long -/
theorem sh_S (w : Int64) {k : Int} (h : 0 ≤ k ∧ k < 8) : w >>> ((iI (56 - 8 * k)).toInt64 &&& 63) &&& 255 = Int64.ofBitVec (btB w (56 - 8 * k).toNat) := by
  apply Int64.toBitVec_inj.1
  rcases k8 h with rfl | rfl | rfl | rfl | rfl | rfl | rfl | rfl <;> exact btB_s _ _ (by decide)
/-- the class's byte, as a long -/
theorem sh_U (w : Int64) {k : Int} (h : 0 ≤ k ∧ k < 8) : (w.toUInt64 >>> ((iI (56 - 8 * k)).toInt64.toUInt64 &&& Int64.toUInt64 63)).toInt64 &&& 255 = Int64.ofBitVec (btB w (56 - 8 * k).toNat) := by
  apply Int64.toBitVec_inj.1
  rcases k8 h with rfl | rfl | rfl | rfl | rfl | rfl | rfl | rfl <;> rfl
