/-! PURE: bytes of a long -/
def byU (x : Int64) (y : Int32) : Int := ((x.toUInt64 >>> (y.toInt64.toUInt64 &&& Int64.toUInt64 63)).toInt64 &&& 255).toInt
def byS (x : Int64) (y : Int32) : Int := (x >>> (y.toInt64 &&& 63) &&& 255).toInt
theorem bv_byte (x : BitVec 64) (s : Nat) (hs : s ≤ 56) : (x >>> s) &&& 255#64 = (x.sshiftRight s) &&& 255#64 := by
  apply BitVec.eq_of_getLsbD_eq
  intro i hi
  rw [BitVec.getLsbD_and, BitVec.getLsbD_and, BitVec.getLsbD_ushiftRight, BitVec.getLsbD_sshiftRight]
  by_cases h : i < 8
  · rw [decide_eq_false (by omega : ¬ 64 ≤ i), if_pos (by omega : s + i < 64)]
    simp
  · have e : (255#64).getLsbD i = false := by
      rw [BitVec.getLsbD_ofNat]
      rw [Nat.testBit_lt_two_pow (show 255 < 2 ^ i from Nat.lt_of_lt_of_le (by decide : 255 < 2 ^ 8) (Nat.pow_le_pow_right (by decide) (by omega)))]
      simp
    rw [e, Bool.and_false, Bool.and_false]
theorem byU_rng (x : Int64) (y : Int32) : 0 ≤ byU x y ∧ byU x y ≤ 255 := by
  unfold byU
  generalize (x.toUInt64 >>> (y.toInt64.toUInt64 &&& Int64.toUInt64 63)).toInt64 = v
  have e : (v &&& 255).toInt = ((v.toBitVec &&& 255#64).toNat : Int) := by
    show (v.toBitVec &&& 255#64).toInt = _
    rw [BitVec.toInt_eq_toNat_of_lt]
    rw [BitVec.toNat_and]
    have := Nat.and_le_right (n := v.toBitVec.toNat) (m := (255#64).toNat)
    have e2 : (255#64).toNat = 255 := rfl
    omega
  rw [e, BitVec.toNat_and]
  have := Nat.and_le_right (n := v.toBitVec.toNat) (m := (255#64).toNat)
  have e2 : (255#64).toNat = 255 := rfl
  omega
theorem byU_S (x : Int64) {k : Int} (h : 0 ≤ k ∧ k ≤ 7) : byU x (jI (8 * k)) = byS x (jI (8 * k)) := by
  unfold byU byS
  rcases (show k = 0 ∨ k = 1 ∨ k = 2 ∨ k = 3 ∨ k = 4 ∨ k = 5 ∨ k = 6 ∨ k = 7 by omega) with rfl | rfl | rfl | rfl | rfl | rfl | rfl | rfl
  all_goals
    refine congrArg Int64.toInt ?_
    apply Int64.toBitVec_inj.mp
    first
    | exact bv_byte x.toBitVec 0 (by decide)
    | exact bv_byte x.toBitVec 8 (by decide)
    | exact bv_byte x.toBitVec 16 (by decide)
    | exact bv_byte x.toBitVec 24 (by decide)
    | exact bv_byte x.toBitVec 32 (by decide)
    | exact bv_byte x.toBitVec 40 (by decide)
    | exact bv_byte x.toBitVec 48 (by decide)
    | exact bv_byte x.toBitVec 56 (by decide)
theorem jL_255 : jL 255 = 255 := by decide
theorem byU_at (x : Int64) (y : Int32) : jL (((x.toUInt64 >>> (y.toInt64.toUInt64 &&& Int64.toUInt64 63)).toInt64).toInt) &&& jL 255 = jL (byU x y) := by
  rw [jL_int, jL_255]
  exact (jL_int _).symm
theorem byS_at (x : Int64) (y : Int32) : jL ((x >>> (y.toInt64 &&& 63)).toInt) &&& jL 255 = jL (byS x y) := by
  rw [jL_int, jL_255]
  exact (jL_int _).symm
