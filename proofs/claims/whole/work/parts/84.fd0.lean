/-- the j-th byte of a number, the highest first -/
def mbyt (v : Int32) (j : Nat) : Nat := ((v >>> (nI (24 - 8 * j) &&& 31)) &&& 255).toBitVec.toNat
theorem i32n (y : Int32) : nI y.toBitVec.toNat = y := by
  apply Int32.toBitVec_inj.1
  show BitVec.ofNat 32 y.toBitVec.toNat = y.toBitVec
  rw [BitVec.ofNat_toNat, BitVec.setWidth_eq]
theorem mbyt_i (v : Int32) (j : Nat) : (v >>> (nI (24 - 8 * j) &&& 31)) &&& 255 = nI (mbyt v j) := (i32n _).symm
theorem mbyt_l (v : Int32) (j : Nat) : mbyt v j < 256 := by
  unfold mbyt
  show (_ &&& (255 : BitVec 32)).toNat < 256
  rw [BitVec.toNat_and]
  exact Nat.lt_of_le_of_lt Nat.and_le_right (by decide)
theorem shb (x : BitVec 32) (s : Nat) (hs : s ≤ 24) : (x >>> s).setWidth 8 = ((x.sshiftRight s) &&& 255#32).setWidth 8 := by
  apply BitVec.eq_of_getLsbD_eq
  intro i hi
  have h255 : ∀ i, i < 8 → (255#32).getLsbD i = true := by decide
  rw [BitVec.getLsbD_setWidth, BitVec.getLsbD_setWidth, BitVec.getLsbD_and, BitVec.getLsbD_ushiftRight, BitVec.getLsbD_sshiftRight, h255 i hi]
  have : s + i < 32 := by omega
  simp [this, show i < 32 by omega, show ¬ 32 ≤ i by omega]
theorem nar_sb (b : Nat) : vp_nar .byte (sb b) = sb b := by
  show (sb b).toInt8.toInt32 = sb b
  unfold sb
  simp
theorem sh31 : ∀ j, j < 4 → (((nI (24 - 8 * j) &&& 31).toBitVec).smod 32).toNat = 24 - 8 * j := by decide
theorem sbu {v : Int32} {j : Nat} (hj : j < 4) (s : Nat) (hs : s = 24 - 8 * j) : ((v.toUInt32 >>> ((nI s).toUInt32 &&& Int32.toUInt32 31)).toInt32).toInt8.toInt32 = sb (mbyt v j) := by
  subst hs
  unfold sb
  rw [show nI (mbyt v j) = (v >>> (nI (24 - 8 * j) &&& 31)) &&& 255 from (mbyt_i v j).symm]
  refine congrArg Int8.toInt32 ?_
  apply Int8.toBitVec_inj.1
  have k := shb v.toBitVec (24 - 8 * j) (by omega)
  rw [Int32.toBitVec_toInt8, Int32.toBitVec_toInt8, BitVec.signExtend_eq_setWidth_of_le _ (by decide), BitVec.signExtend_eq_setWidth_of_le _ (by decide)]
  rcases (show j = 0 ∨ j = 1 ∨ j = 2 ∨ j = 3 by omega) with rfl | rfl | rfl | rfl
  · rw [show ((nI (24 - 8 * 0)).toUInt32 &&& Int32.toUInt32 31) = 24 by decide, show (nI (24 - 8 * 0) &&& 31) = 24 by decide]; exact k
  · rw [show ((nI (24 - 8 * 1)).toUInt32 &&& Int32.toUInt32 31) = 16 by decide, show (nI (24 - 8 * 1) &&& 31) = 16 by decide]; exact k
  · rw [show ((nI (24 - 8 * 2)).toUInt32 &&& Int32.toUInt32 31) = 8 by decide, show (nI (24 - 8 * 2) &&& 31) = 8 by decide]; exact k
  · rw [show ((nI (24 - 8 * 3)).toUInt32 &&& Int32.toUInt32 31) = 0 by decide, show (nI (24 - 8 * 3) &&& 31) = 0 by decide]; exact k
