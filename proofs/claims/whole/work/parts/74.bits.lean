/-! PURE: bits of an int that may be below 0 -/
theorem jI_mod (a : Int) : jI a = jI (a % 4294967296) := by
  apply Int32.toBitVec_inj.mp
  show BitVec.ofInt 32 a = BitVec.ofInt 32 (a % 4294967296)
  apply BitVec.eq_of_toNat_eq
  rw [BitVec.toNat_ofInt, BitVec.toNat_ofInt]
  omega
theorem sh_u2 {a : Nat} (ha : a < 4294967296) {k : Nat} (hk : k < 32) : ((jI (a : Int)).toUInt32 >>> ((jI (k : Int)).toUInt32 &&& Int32.toUInt32 31)).toInt32 = jI ((a / 2 ^ k : Nat) : Int) := by
  rw [jI_nat2, jI_nat2, jI_nat2]
  apply Int32.toBitVec_inj.mp
  apply BitVec.eq_of_toNat_eq
  have e1 := sh_cu k hk
  show ((BitVec.ofNat 32 a) >>> ((((Int32.ofNat k).toUInt32 &&& Int32.toUInt32 31).toBitVec) % 32).toNat).toNat = (BitVec.ofNat 32 (a / 2 ^ k)).toNat
  rw [e1, BitVec.toNat_ushiftRight, BitVec.toNat_ofNat, BitVec.toNat_ofNat, Nat.mod_eq_of_lt (by omega), Nat.shiftRight_eq_div_pow, Nat.mod_eq_of_lt (by have := Nat.div_le_self a (2 ^ k); omega)]
def uz (a k : Int) : Int := if k = 0 then a else (a % 4294967296) / 2 ^ k.toNat
theorem uz_at {a k : Int} (hk : 0 ≤ k ∧ k < 32) : ((jI a).toUInt32 >>> ((jI k).toUInt32 &&& Int32.toUInt32 31)).toInt32 = jI (uz a k) := by
  obtain ⟨n, hn⟩ := Int.eq_ofNat_of_zero_le hk.1
  obtain ⟨b, hb⟩ := Int.eq_ofNat_of_zero_le (show 0 ≤ a % 4294967296 by omega)
  have h := sh_u2 (a := b) (by omega) (k := n) (by omega)
  rw [jI_mod a, hb, hn, h]
  unfold uz
  by_cases c : n = 0
  · subst c
    rw [if_pos (show ((0 : Nat) : Int) = 0 from rfl), jI_mod a, hb, Nat.pow_zero, Nat.div_one]
  · rw [if_neg (by omega), hb, Int.toNat_natCast]
    congr 1
theorem pw_pos (n : Nat) : (0 : Int) < 2 ^ n := Int.pow_pos (by decide)
theorem uz_rng {a k : Int} (ha : -2147483648 ≤ a ∧ a < 2147483648) (hk : 0 ≤ k ∧ k ≤ 30) : -2147483648 ≤ uz a k ∧ uz a k < 2147483648 := by
  unfold uz
  by_cases c : k = 0
  · rw [if_pos c]; exact ha
  · rw [if_neg c]
    have h0 : 0 ≤ (a % 4294967296) / 2 ^ k.toNat := Int.ediv_nonneg (by omega) (Int.le_of_lt (pw_pos _))
    have h1 : (a % 4294967296) / 2 ^ k.toNat < 2147483648 := by
      refine Int.ediv_lt_of_lt_mul (pw_pos _) ?_
      have h2 : (2 : Int) ^ 1 ≤ 2 ^ k.toNat := by
        rw [show k.toNat = 1 + (k.toNat - 1) by omega, Int.pow_add]
        have := pw_pos (k.toNat - 1)
        omega
      have h3 : (2 : Int) ^ 1 = 2 := rfl
      omega
    omega
theorem uz_0 {a k : Int} (ha : (-2147483648 ≤ a ∧ a < 2147483648) ∧ ¬ a = 0) (hk : 0 ≤ k ∧ k ≤ 30) : uz a k = 0 ↔ (0 < a ∧ a < 2 ^ k.toNat) := by
  unfold uz
  have hp : (2 : Int) ^ k.toNat ≤ 1073741824 := by
    have e : (2 : Int) ^ 30 = 2 ^ k.toNat * 2 ^ (30 - k.toNat) := by rw [← Int.pow_add]; congr 1; omega
    have e2 : (2 : Int) ^ 30 = 1073741824 := rfl
    have := pw_pos (30 - k.toNat)
    have h4 := pw_pos k.toNat
    rw [e2] at e
    rw [e]
    have := Int.mul_le_mul_of_nonneg_left (show (1 : Int) ≤ 2 ^ (30 - k.toNat) by omega) (Int.le_of_lt h4)
    omega
  have hq := pw_pos k.toNat
  by_cases c : k = 0
  · rw [if_pos c, c]
    constructor
    · intro q; exact absurd q ha.2
    · intro q; have e : (2 : Int) ^ (0 : Int).toNat = 1 := rfl; omega
  · rw [if_neg c]
    constructor
    · intro q
      have h5 : a % 4294967296 < 2 ^ k.toNat := by
        rcases Int.lt_or_le (a % 4294967296) (2 ^ k.toNat) with h | h
        · exact h
        · have := Int.le_ediv_of_mul_le hq (show 1 * (2 : Int) ^ k.toNat ≤ a % 4294967296 by omega)
          omega
      omega
    · intro q
      exact Int.ediv_eq_zero_of_lt (by omega) (by omega)
def btA (a k : Int) : Int := a / 2 ^ k.toNat % 2
theorem btA_rng (a k : Int) : 0 ≤ btA a k ∧ btA a k ≤ 1 := by unfold btA; omega
theorem an_1 (b : Int) : jI b &&& jI 1 = jI (b % 2) := by
  obtain ⟨n, hn⟩ := Int.eq_ofNat_of_zero_le (show 0 ≤ b % 4294967296 by omega)
  rw [jI_mod b, hn, sh_1 n]
  congr 1
  omega
theorem sh_s {a k : Int} (ha : -2147483648 ≤ a ∧ a < 2147483648) (hk : 0 ≤ k ∧ k < 32) : jI a >>> (jI k &&& 31) = jI (a / 2 ^ k.toNat) := by
  obtain ⟨n, hn⟩ := Int.eq_ofNat_of_zero_le hk.1
  have e1 := sh_cs n (by omega)
  rw [hn, jI_nat2 n, Int.toNat_natCast]
  apply Int32.toBitVec_inj.mp
  show (jI a).toBitVec.sshiftRight ((Int32.ofNat n &&& 31).toBitVec.smod 32).toNat = BitVec.ofInt 32 (a / 2 ^ n)
  rw [e1]
  show BitVec.ofInt 32 ((jI a).toInt >>> n) = _
  rw [jI_T ha, Int.shiftRight_eq_div_pow]
  rfl
