/-! PURE: works -/
def yoS (bl be : Int → Int) (b : Int) : Int → Int := fun i => if bl i = b ∧ ¬ be i = -1 then 1 else 0
theorem iU_back (f : Int → Int) (i x : Int) : iU (iU f i (f i + x)) i (iU f i (f i + x) i + -x) = f := by
  funext k
  by_cases e : k = i
  · rw [e, iU_s, iU_s]; omega
  · rw [iU_n e, iU_n e]
/-- the digits of a code -/
def lfN (co n : Int) : Int → Int := itI (fun _ x => x / (n + 1)) co
theorem lfN_0 (co n : Int) : lfN co n 0 = co := rfl
theorem lfN_s {co n j : Int} (h : 0 ≤ j) : lfN co n (j + 1) = lfN co n j / (n + 1) := itI_s h
def dgt (co many n k : Int) : Int := lfN co n (many - 1 - k) % (n + 1)
/-! bits of an int -/
theorem sh_cu : ∀ k, k < 32 → (((Int32.ofNat k).toUInt32 &&& Int32.toUInt32 31).toBitVec % 32).toNat = k := by decide +kernel
theorem sh_cs : ∀ k, k < 32 → ((Int32.ofNat k &&& 31).toBitVec.smod 32).toNat = k := by decide +kernel
theorem jI_nat2 (k : Nat) : jI (k : Int) = Int32.ofNat k := by
  apply Int32.toBitVec_inj.mp
  show BitVec.ofInt 32 (k : Int) = BitVec.ofNat 32 k
  exact BitVec.ofInt_natCast 32 k
/-- of a number that is not below 0 -/
theorem sh_u {a : Nat} (ha : a < 2147483648) {k : Nat} (hk : k < 32) : ((jI (a : Int)).toUInt32 >>> ((jI (k : Int)).toUInt32 &&& Int32.toUInt32 31)).toInt32 = jI ((a / 2 ^ k : Nat) : Int) := by
  rw [jI_nat2, jI_nat2, jI_nat2]
  apply Int32.toBitVec_inj.mp
  apply BitVec.eq_of_toNat_eq
  show ((Int32.ofNat a).toBitVec >>> ((((Int32.ofNat k).toUInt32 &&& Int32.toUInt32 31).toBitVec) % 32)).toNat = (BitVec.ofNat 32 (a / 2 ^ k)).toNat
  have e1 := sh_cu k hk
  show ((BitVec.ofNat 32 a) >>> ((((Int32.ofNat k).toUInt32 &&& Int32.toUInt32 31).toBitVec) % 32).toNat).toNat = (BitVec.ofNat 32 (a / 2 ^ k)).toNat
  rw [e1, BitVec.toNat_ushiftRight, BitVec.toNat_ofNat, BitVec.toNat_ofNat, Nat.mod_eq_of_lt (by omega), Nat.shiftRight_eq_div_pow, Nat.mod_eq_of_lt (by have := Nat.div_le_self a (2 ^ k); omega)]
theorem sh_1 (a : Nat) : jI (a : Int) &&& jI 1 = jI ((a % 2 : Nat) : Int) := by
  rw [jI_nat2, jI_nat2]
  apply Int32.toBitVec_inj.mp
  apply BitVec.eq_of_toNat_eq
  show ((BitVec.ofNat 32 a) &&& 1#32).toNat = (BitVec.ofNat 32 (a % 2)).toNat
  rw [BitVec.toNat_and, BitVec.toNat_ofNat, BitVec.toNat_ofNat, BitVec.toNat_ofNat, show 1 % 2 ^ 32 = 1 from rfl, Nat.and_one_is_mod]
  omega
