/-! PURE: a mask of eight zones -/
def orN (m z : Nat) : Nat := m ||| 2 ^ z
theorem orN_lt : ∀ m : Fin 256, ∀ z : Fin 8, orN m.val z.val < 256 := by decide +kernel
theorem orN_bit : ∀ m : Fin 256, ∀ z w : Fin 8, orN m.val z.val / 2 ^ w.val % 2 = if w.val = z.val then 1 else m.val / 2 ^ w.val % 2 := by decide +kernel
theorem shl_1 : ∀ z : Fin 8, jI 1 <<< (jI (z.val : Int) &&& 31) = jI ((2 ^ z.val : Nat) : Int) := by decide +kernel
theorem or_N {a b : Nat} (ha : a < 256) (hb : b < 256) : jI (a : Int) ||| jI (b : Int) = jI ((a ||| b : Nat) : Int) := by
  rw [jI_nat2, jI_nat2, jI_nat2]
  apply Int32.toBitVec_inj.mp
  apply BitVec.eq_of_toNat_eq
  show ((BitVec.ofNat 32 a) ||| (BitVec.ofNat 32 b)).toNat = (BitVec.ofNat 32 (a ||| b)).toNat
  have h : a ||| b < 2 ^ 8 := Nat.or_lt_two_pow (by omega) (by omega)
  rw [BitVec.toNat_or, BitVec.toNat_ofNat, BitVec.toNat_ofNat, BitVec.toNat_ofNat, Nat.mod_eq_of_lt (by omega), Nat.mod_eq_of_lt (by omega), Nat.mod_eq_of_lt (by omega)]
/-- the same of whole numbers -/
def orI (m z : Int) : Int := ((orN m.toNat z.toNat : Nat) : Int)
theorem orI_at {m z : Int} (hm : 0 ≤ m ∧ m < 256) (hz : 0 ≤ z ∧ z < 8) : jI m ||| (jI ((2 ^ z.toNat : Nat) : Int)) = jI (orI m z) := by
  obtain ⟨a, rfl⟩ := Int.eq_ofNat_of_zero_le hm.1
  obtain ⟨b, rfl⟩ := Int.eq_ofNat_of_zero_le hz.1
  have h2 : 2 ^ b < 256 := by
    have := Nat.pow_lt_pow_right (a := 2) (by decide) (show b < 8 by omega)
    omega
  exact or_N (by omega) h2
theorem orI_rng {m z : Int} (hm : 0 ≤ m ∧ m < 256) (hz : 0 ≤ z ∧ z < 8) : 0 ≤ orI m z ∧ orI m z < 256 := by
  have := orN_lt ⟨m.toNat, by omega⟩ ⟨z.toNat, by omega⟩
  unfold orI
  dsimp only at this
  omega
theorem orI_bit {m z w : Int} (hm : 0 ≤ m ∧ m < 256) (hz : 0 ≤ z ∧ z < 8) (hw : 0 ≤ w ∧ w < 8) : btA (orI m z) w = if w = z then 1 else btA m w := by
  obtain ⟨a, rfl⟩ := Int.eq_ofNat_of_zero_le hm.1
  obtain ⟨b, rfl⟩ := Int.eq_ofNat_of_zero_le hz.1
  obtain ⟨k, rfl⟩ := Int.eq_ofNat_of_zero_le hw.1
  have h := orN_bit ⟨a, by omega⟩ ⟨b, by omega⟩ ⟨k, by omega⟩
  dsimp only at h
  have e : ∀ n : Nat, btA (n : Int) (k : Int) = ((n / 2 ^ k % 2 : Nat) : Int) := fun n => by
    unfold btA
    rw [Int.toNat_natCast, Int.natCast_emod, Int.natCast_ediv, Int.natCast_pow]
    rfl
  unfold orI
  rw [Int.toNat_natCast, Int.toNat_natCast, e, e, h]
  by_cases q : k = b
  · rw [if_pos q, if_pos (by omega)]; rfl
  · rw [if_neg q, if_neg (by omega)]
theorem shl_at {z : Int} (hz : 0 ≤ z ∧ z < 8) : jI 1 <<< (jI z &&& 31) = jI ((2 ^ z.toNat : Nat) : Int) := by
  obtain ⟨b, rfl⟩ := Int.eq_ofNat_of_zero_le hz.1
  exact shl_1 ⟨b, by omega⟩
