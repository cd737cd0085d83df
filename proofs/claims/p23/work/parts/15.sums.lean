/-! PURE: sums, the first of the best -/
def sI (f : Int → Int) : Nat → Int
  | 0 => 0
  | n + 1 => sI f n + f n
def sm (f : Int → Int) (i : Int) : Int := sI f i.toNat
theorem sm_0 (f : Int → Int) : sm f 0 = 0 := rfl
theorem sm_s {f : Int → Int} {i : Int} (h : 0 ≤ i) : sm f (i + 1) = sm f i + f i := by
  unfold sm
  obtain ⟨n, rfl⟩ := Int.eq_ofNat_of_zero_le h
  show sI f (n + 1) = _
  rw [sI]
  rfl
theorem sm_rng {f : Int → Int} {n c : Int} (h : Rg f n 0 c) : ∀ {i : Int}, 0 ≤ i → i ≤ n → 0 ≤ sm f i ∧ sm f i ≤ c * i := by
  intro i h0
  obtain ⟨m, rfl⟩ := Int.eq_ofNat_of_zero_le h0
  clear h0
  induction m with
  | zero => intro _; rw [show ((0 : Nat) : Int) = 0 from rfl, sm_0]; omega
  | succ m ih =>
    intro h1
    have ih := ih (by omega)
    have e : ((m + 1 : Nat) : Int) = (m : Int) + 1 := by omega
    rw [e, sm_s (by omega), Int.mul_add, Int.mul_one]
    have := h (m : Int) (by omega) (by omega)
    omega
theorem sm_congr {f g : Int → Int} : ∀ {i : Int}, 0 ≤ i → (∀ k : Int, 0 ≤ k → k < i → f k = g k) → sm f i = sm g i := by
  intro i h0
  obtain ⟨m, rfl⟩ := Int.eq_ofNat_of_zero_le h0
  clear h0
  induction m with
  | zero => intro _; rfl
  | succ m ih =>
    intro h1
    have e : ((m + 1 : Nat) : Int) = (m : Int) + 1 := by omega
    rw [e] at h1 ⊢
    rw [sm_s (by omega), sm_s (by omega), ih (fun k a b => h1 k a (by omega)), h1 m (by omega) (by omega)]
/-- of the first n the first one of the least cost (below 0: it does not count); -1: none -/
def mnR (cost : Int → Int) : Nat → Int
  | 0 => -1
  | n + 1 => if 0 ≤ cost n ∧ (mnR cost n < 0 ∨ cost n < cost (mnR cost n)) then (n : Int) else mnR cost n
def mnI (cost : Int → Int) (i : Int) : Int := mnR cost i.toNat
theorem mnI_0 (cost : Int → Int) : mnI cost 0 = -1 := rfl
theorem mnI_s {cost : Int → Int} {i : Int} (h : 0 ≤ i) : mnI cost (i + 1) = if 0 ≤ cost i ∧ (mnI cost i < 0 ∨ cost i < cost (mnI cost i)) then i else mnI cost i := by
  unfold mnI
  obtain ⟨n, rfl⟩ := Int.eq_ofNat_of_zero_le h
  show mnR cost (n + 1) = _
  rw [mnR]
  rfl
theorem mnI_rng {cost : Int → Int} : ∀ {i : Int}, 0 ≤ i → -1 ≤ mnI cost i ∧ (mnI cost i < i ∨ mnI cost i = -1) := by
  intro i h
  obtain ⟨n, rfl⟩ := Int.eq_ofNat_of_zero_le h
  clear h
  induction n with
  | zero => rw [show ((0 : Nat) : Int) = 0 from rfl, mnI_0]; omega
  | succ n ih =>
    rw [show ((n + 1 : Nat) : Int) = (n : Int) + 1 from by omega, mnI_s (by omega)]
    split <;> omega
theorem mnI_congr {f g : Int → Int} : ∀ {i : Int}, 0 ≤ i → (∀ k : Int, 0 ≤ k → k < i → f k = g k) → mnI f i = mnI g i := by
  intro i h0
  obtain ⟨m, rfl⟩ := Int.eq_ofNat_of_zero_le h0
  clear h0
  induction m with
  | zero => intro _; rfl
  | succ m ih =>
    intro h1
    have e : ((m + 1 : Nat) : Int) = (m : Int) + 1 := by omega
    rw [e] at h1 ⊢
    have ih := ih (fun k a b => h1 k a (by omega))
    rw [mnI_s (by omega), mnI_s (by omega), ← ih, h1 m (by omega) (by omega)]
    by_cases d : mnI f m < 0
    · simp only [d, true_or]
    · have r := mnI_rng (cost := f) (i := (m : Int)) (by omega)
      rw [h1 (mnI f m) (by omega) (by omega)]
/-- what a lot is off, -1 where it does not match -/
def lotOff (st sg po co pc : Int → Int) (stone strength pores colour span : Int) : Int → Int := fun k =>
  if (stone = -1 ∨ st k = stone) ∧ 0 < pc k ∧ (sg k - strength).natAbs ≤ span ∧ (po k - pores).natAbs ≤ span ∧ (co k - colour).natAbs ≤ span then ((sg k - strength).natAbs : Int) + (po k - pores).natAbs + (co k - colour).natAbs else -1
