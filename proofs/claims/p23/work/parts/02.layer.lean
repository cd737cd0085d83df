/-! THE LAYER: whole numbers for ints and longs; rows over a picture of the heap (cells, locals, stack), the heap itself out of sight -/
def jI (z : Int) : Int32 := Int32.ofInt z
def jL (z : Int) : Int64 := Int64.ofInt z
def jA (f : Int → Int) : Nat → Int32 := fun k => jI (f (k : Int))
def jB (f : Int → Int) : Nat → Int64 := fun k => jL (f (k : Int))
def iU (f : Int → Int) (i v : Int) : Int → Int := fun k => if k = i then v else f k
theorem iU_s (f : Int → Int) (i v : Int) : iU f i v i = v := by simp [iU]
theorem iU_n {f : Int → Int} {i v k : Int} (h : k ≠ i) : iU f i v k = f k := by simp [iU, h]
theorem jx_bmod {z : Int} (h1 : -2147483648 ≤ z) (h2 : z < 2147483648) : z.bmod (2 ^ 32) = z := by
  rw [Int.bmod_eq_of_le (by omega) (by omega)]
theorem jx_bmodL {z : Int} (h1 : -9223372036854775808 ≤ z) (h2 : z < 9223372036854775808) : z.bmod (2 ^ 64) = z := by
  rw [Int.bmod_eq_of_le (by omega) (by omega)]
theorem jx_rng (x : Int32) : -2147483648 ≤ x.toInt ∧ x.toInt < 2147483648 := by
  have h1 := Int32.le_toInt x
  have h2 := Int32.toInt_lt x
  omega
theorem jx_rngL (x : Int64) : -9223372036854775808 ≤ x.toInt ∧ x.toInt < 9223372036854775808 := by
  have h1 := Int64.le_toInt x
  have h2 := Int64.toInt_lt x
  omega
theorem jI_int (x : Int32) : jI x.toInt = x := Int32.ofInt_toInt x
theorem jL_int (x : Int64) : jL x.toInt = x := Int64.ofInt_toInt x
theorem jI_T {z : Int} (h : -2147483648 ≤ z ∧ z < 2147483648) : (jI z).toInt = z := by
  unfold jI; rw [Int32.toInt_ofInt, jx_bmod h.1 h.2]
theorem jL_T {z : Int} (h : -9223372036854775808 ≤ z ∧ z < 9223372036854775808) : (jL z).toInt = z := by
  unfold jL; rw [Int64.toInt_ofInt, jx_bmodL h.1 h.2]
theorem jI_add (a b : Int) : jI a + jI b = jI (a + b) := by
  apply Int32.toInt_inj.mp
  unfold jI
  rw [Int32.toInt_add, Int32.toInt_ofInt, Int32.toInt_ofInt, Int32.toInt_ofInt]
  first | simp | rw [Int.bmod_add_bmod, Int.add_bmod_bmod]
theorem jI_sub (a b : Int) : jI a - jI b = jI (a - b) := by
  apply Int32.toInt_inj.mp
  unfold jI
  rw [Int32.toInt_sub, Int32.toInt_ofInt, Int32.toInt_ofInt, Int32.toInt_ofInt]
  first | simp | rw [Int.bmod_sub_bmod, Int.sub_bmod_bmod]
theorem jI_mul (a b : Int) : jI a * jI b = jI (a * b) := by
  apply Int32.toInt_inj.mp
  unfold jI
  rw [Int32.toInt_mul, Int32.toInt_ofInt, Int32.toInt_ofInt, Int32.toInt_ofInt]
  first | simp | rw [Int.bmod_mul_bmod, Int.mul_bmod_bmod]
theorem jI_neg (a : Int) : -jI a = jI (-a) := by
  have h := jI_sub 0 a
  rw [show (0 : Int) - a = -a by omega] at h
  rw [← h, show jI 0 = 0 from rfl]
  simp
theorem jL_add (a b : Int) : jL a + jL b = jL (a + b) := by
  apply Int64.toInt_inj.mp
  unfold jL
  rw [Int64.toInt_add, Int64.toInt_ofInt, Int64.toInt_ofInt, Int64.toInt_ofInt]
  first | simp | rw [Int.bmod_add_bmod, Int.add_bmod_bmod]
theorem jL_sub (a b : Int) : jL a - jL b = jL (a - b) := by
  apply Int64.toInt_inj.mp
  unfold jL
  rw [Int64.toInt_sub, Int64.toInt_ofInt, Int64.toInt_ofInt, Int64.toInt_ofInt]
  first | simp | rw [Int.bmod_sub_bmod, Int.sub_bmod_bmod]
theorem jL_mul (a b : Int) : jL a * jL b = jL (a * b) := by
  apply Int64.toInt_inj.mp
  unfold jL
  rw [Int64.toInt_mul, Int64.toInt_ofInt, Int64.toInt_ofInt, Int64.toInt_ofInt]
  first | simp | rw [Int.bmod_mul_bmod, Int.mul_bmod_bmod]
theorem jL_neg (a : Int) : -jL a = jL (-a) := by
  have h := jL_sub 0 a
  rw [show (0 : Int) - a = -a by omega] at h
  rw [← h, show jL 0 = 0 from rfl]
  simp
theorem jI_L {a : Int} (h : -2147483648 ≤ a ∧ a < 2147483648) : (jI a).toInt64 = jL a := by
  apply Int64.toInt_inj.mp
  rw [Int32.toInt_toInt64, jI_T h, jL_T (by omega)]
theorem jL_I {a : Int} (h : -9223372036854775808 ≤ a ∧ a < 9223372036854775808) : (jL a).toInt32 = jI a := by
  apply Int32.toInt_inj.mp
  rw [Int64.toInt_toInt32, jL_T h]
  unfold jI
  rw [Int32.toInt_ofInt]
theorem jI_lt {a b : Int} (ha : -2147483648 ≤ a ∧ a < 2147483648) (hb : -2147483648 ≤ b ∧ b < 2147483648) : jI a < jI b ↔ a < b := by
  rw [Int32.lt_iff_toInt_lt, jI_T ha, jI_T hb]
theorem jI_le {a b : Int} (ha : -2147483648 ≤ a ∧ a < 2147483648) (hb : -2147483648 ≤ b ∧ b < 2147483648) : jI a ≤ jI b ↔ a ≤ b := by
  rw [Int32.le_iff_toInt_le, jI_T ha, jI_T hb]
theorem jI_eq {a b : Int} (ha : -2147483648 ≤ a ∧ a < 2147483648) (hb : -2147483648 ≤ b ∧ b < 2147483648) : jI a = jI b ↔ a = b := by
  rw [← Int32.toInt_inj, jI_T ha, jI_T hb]
theorem jL_lt {a b : Int} (ha : -9223372036854775808 ≤ a ∧ a < 9223372036854775808) (hb : -9223372036854775808 ≤ b ∧ b < 9223372036854775808) : jL a < jL b ↔ a < b := by
  rw [Int64.lt_iff_toInt_lt, jL_T ha, jL_T hb]
theorem jL_le {a b : Int} (ha : -9223372036854775808 ≤ a ∧ a < 9223372036854775808) (hb : -9223372036854775808 ≤ b ∧ b < 9223372036854775808) : jL a ≤ jL b ↔ a ≤ b := by
  rw [Int64.le_iff_toInt_le, jL_T ha, jL_T hb]
theorem jL_eq {a b : Int} (ha : -9223372036854775808 ≤ a ∧ a < 9223372036854775808) (hb : -9223372036854775808 ≤ b ∧ b < 9223372036854775808) : jL a = jL b ↔ a = b := by
  rw [← Int64.toInt_inj, jL_T ha, jL_T hb]
theorem jI_0 : (0 : Int32) = jI 0 := rfl
theorem jL_0 : (0 : Int64) = jL 0 := rfl
theorem jx_tdN {a b : Int} (ha : 0 ≤ a) : a.tdiv b = a / b := Int.tdiv_eq_ediv_of_nonneg ha
theorem jx_tdB {a b M : Int} (h : -M ≤ a ∧ a < M) (hb : 0 < b) : -M ≤ a.tdiv b ∧ a.tdiv b < M := by
  have h1 : (a.tdiv b).natAbs ≤ a.natAbs := by rw [Int.natAbs_tdiv]; exact Nat.div_le_self _ _
  by_cases h0 : 0 ≤ a
  · have h2 : a.tdiv b ≤ a := by rw [jx_tdN h0]; exact Int.ediv_le_self _ h0
    have h3 : 0 ≤ a.tdiv b := Int.tdiv_nonneg h0 (by omega)
    omega
  · have h2 : a.tdiv b = -((-a) / b) := by
      rw [← jx_tdN (show 0 ≤ -a by omega), Int.neg_tdiv]
      omega
    have h3 : 0 ≤ (-a) / b := Int.ediv_nonneg (by omega) (by omega)
    omega
theorem jI_div {a b : Int} (ha : -2147483648 ≤ a ∧ a < 2147483648) (hb : 0 < b ∧ b < 2147483648) : jI a / jI b = jI (a.tdiv b) := by
  apply Int32.toInt_inj.mp
  rw [Jvm.Kit.i32_div (by rw [jI_T ha, jI_T (by omega)]; omega), jI_T ha, jI_T (by omega), jI_T (jx_tdB ha hb.1)]
theorem jL_div {a b : Int} (ha : -9223372036854775808 ≤ a ∧ a < 9223372036854775808) (hb : 0 < b ∧ b < 9223372036854775808) : jL a / jL b = jL (a.tdiv b) := by
  apply Int64.toInt_inj.mp
  rw [Jvm.Kit.i64_div (by rw [jL_T ha, jL_T (by omega)]; omega), jL_T ha, jL_T (by omega), jL_T (jx_tdB ha hb.1)]
theorem jI_ne0 {b : Int} (hb : 0 < b ∧ b < 2147483648) : ¬ jI b = 0 := by
  rw [jI_0, jI_eq (by omega) (by omega)]; omega
theorem jL_ne0 {b : Int} (hb : 0 < b ∧ b < 9223372036854775808) : ¬ jL b = 0 := by
  rw [jL_0, jL_eq (by omega) (by omega)]; omega
theorem jx_clamp {i : Int} (h : 0 ≤ i ∧ i < 2147483648) : (jI i).toNatClampNeg = i.toNat := by
  unfold Int32.toNatClampNeg
  rw [jI_T (by omega)]
theorem jx_in {i : Int} {n : Nat} (h : 0 ≤ i ∧ i < (n : Int)) (hn : n < 2147483648) : vp_in (jI i) n := by
  rw [vp_in_iff, jI_T (by omega)]
  exact h
theorem jA_at {f : Int → Int} {i : Int} (h : 0 ≤ i ∧ i < 2147483648) : jA f (jI i).toNatClampNeg = jI (f i) := by
  rw [jx_clamp h]
  unfold jA
  rw [Int.toNat_of_nonneg h.1]
theorem jB_at {f : Int → Int} {i : Int} (h : 0 ≤ i ∧ i < 2147483648) : jB f (jI i).toNatClampNeg = jL (f i) := by
  rw [jx_clamp h]
  unfold jB
  rw [Int.toNat_of_nonneg h.1]
theorem jA_up {f : Int → Int} {i v : Int} (h : 0 ≤ i ∧ i < 2147483648) : upd (jA f) (jI i).toNatClampNeg (jI v) = jA (iU f i v) := by
  rw [jx_clamp h]
  funext k
  unfold upd jA iU
  by_cases hk : k = i.toNat
  · rw [if_pos hk, if_pos (by omega)]
  · rw [if_neg hk, if_neg (by omega)]
theorem jB_up {f : Int → Int} {i v : Int} (h : 0 ≤ i ∧ i < 2147483648) : vp_updL (jB f) (jI i).toNatClampNeg (jL v) = jB (iU f i v) := by
  rw [jx_clamp h]
  funext k
  unfold vp_updL jB iU
  by_cases hk : k = i.toNat
  · rw [if_pos hk, if_pos (by omega)]
  · rw [if_neg hk, if_neg (by omega)]
/-- the sign of a comparison of two longs -/
def jC (a b : Int) : Int := if b < a then 1 else if a = b then 0 else -1
theorem jC_lcmp {a b : Int} (ha : -9223372036854775808 ≤ a ∧ a < 9223372036854775808) (hb : -9223372036854775808 ≤ b ∧ b < 9223372036854775808) : lg_cmp (jL a) (jL b) = jI (jC a b) := by
  unfold lg_cmp jC
  by_cases h1 : b < a
  · rw [if_pos ((jL_lt hb ha).mpr h1), if_pos h1]; rfl
  · rw [if_neg (fun h => h1 ((jL_lt hb ha).mp h)), if_neg h1]
    by_cases h2 : a = b
    · rw [if_pos ((jL_eq ha hb).mpr h2), if_pos h2]; rfl
    · rw [if_neg (fun h => h2 ((jL_eq ha hb).mp h)), if_neg h2]; rfl
theorem jC_rng (a b : Int) : -2147483648 ≤ jC a b ∧ jC a b < 2147483648 := by
  unfold jC; split
  · omega
  · split <;> omega
theorem jC_lt {a b : Int} : jC a b < 0 ↔ a < b := by
  unfold jC; split
  · omega
  · split <;> omega
theorem jC_gt {a b : Int} : 0 < jC a b ↔ b < a := by
  unfold jC; split
  · omega
  · split <;> omega
theorem jC_le {a b : Int} : jC a b ≤ 0 ↔ a ≤ b := by
  unfold jC; split
  · omega
  · split <;> omega
theorem jC_ge {a b : Int} : 0 ≤ jC a b ↔ b ≤ a := by
  unfold jC; split
  · omega
  · split <;> omega
theorem jC_eq {a b : Int} : jC a b = 0 ↔ a = b := by
  unfold jC; split
  · omega
  · split <;> omega
abbrev aI (kI q n : Nat) (f : Int → Int) : Nat × va_E := (q, .inl (kI, (n, .inl (jA f))))
abbrev aJ (kJ q n : Nat) (f : Int → Int) : Nat × va_E := (q, .inl (kJ, (n, .inr (.inl (jB f)))))
abbrev vI (z : Int) : Value := .int (jI z)
abbrev vJ (z : Int) : Value := .long (jL z)
abbrev tyy (kI kJ : Nat) : List (ClassId × FieldType) := [(kI, .int)]
