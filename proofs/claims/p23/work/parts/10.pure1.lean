/-! PURE: what rules of tellings; rows that are written place by place -/
theorem jI_nat (n : Nat) : Int32.ofNat n = jI (n : Int) := by
  apply Int32.toInt_inj.mp
  unfold jI
  rw [Int32.toInt_ofInt, Int32.toInt_ofNat']
theorem row_set {g : Int → Int} {i v : Int} {P : Int → Int → Prop} (h : ∀ k : Int, 0 ≤ k → k < i → P k (g k)) (hv : P i v) : ∀ k : Int, 0 ≤ k → k < i + 1 → P k (iU g i v k) := by
  intro k h1 h2
  by_cases e : k = i
  · subst e; rw [iU_s]; exact hv
  · rw [iU_n e]; exact h k h1 (by omega)
theorem mul_bd {a b A B : Int} (ha : 0 ≤ a ∧ a ≤ A) (hb : 0 ≤ b ∧ b ≤ B) : 0 ≤ a * b ∧ a * b ≤ A * B :=
  ⟨Int.mul_nonneg ha.1 hb.1, Int.mul_le_mul ha.2 hb.2 hb.1 (by omega)⟩
/-- of the first n tellings the one that rules of b at y: its place; -1: none -/
def rB (bl yr : Int → Int) (b y : Int) : Nat → Int
  | 0 => -1
  | n + 1 => if bl n = b ∧ yr n ≤ y ∧ (rB bl yr b y n < 0 ∨ yr (rB bl yr b y n) ≤ yr n) then (n : Int) else rB bl yr b y n
def rI (bl yr : Int → Int) (b y i : Int) : Int := rB bl yr b y i.toNat
theorem rI_0 (bl yr : Int → Int) (b y : Int) : rI bl yr b y 0 = -1 := rfl
theorem rI_s {bl yr : Int → Int} {b y i : Int} (h : 0 ≤ i) : rI bl yr b y (i + 1) = if bl i = b ∧ yr i ≤ y ∧ (rI bl yr b y i < 0 ∨ yr (rI bl yr b y i) ≤ yr i) then i else rI bl yr b y i := by
  unfold rI
  obtain ⟨n, rfl⟩ := Int.eq_ofNat_of_zero_le h
  show rB bl yr b y (n + 1) = _
  rw [rB]
  rfl
theorem rI_rng {bl yr : Int → Int} {b y : Int} : ∀ {i : Int}, 0 ≤ i → -1 ≤ rI bl yr b y i ∧ rI bl yr b y i < i ∨ rI bl yr b y i = -1 := by
  intro i h
  obtain ⟨n, rfl⟩ := Int.eq_ofNat_of_zero_le h
  clear h
  induction n with
  | zero => exact Or.inr rfl
  | succ n ih =>
    rw [show ((n + 1 : Nat) : Int) = (n : Int) + 1 from by omega, rI_s (by omega)]
    split <;> omega
/-- the value that rules, 0 without; the year since which, -1 without -/
def rV (bl yr vl : Int → Int) (b y i : Int) : Int := if rI bl yr b y i < 0 then 0 else vl (rI bl yr b y i)
def rS (bl yr : Int → Int) (b y i : Int) : Int := if rI bl yr b y i < 0 then -1 else yr (rI bl yr b y i)
theorem rV_0 (bl yr vl : Int → Int) (b y : Int) : rV bl yr vl b y 0 = 0 := rfl
theorem rS_0 (bl yr : Int → Int) (b y : Int) : rS bl yr b y 0 = -1 := rfl
theorem rS_step {bl yr : Int → Int} {b y i : Int} (h : 0 ≤ i) (h0 : 0 ≤ yr i) : rS bl yr b y (i + 1) = if bl i = b ∧ yr i ≤ y ∧ rS bl yr b y i ≤ yr i then yr i else rS bl yr b y i := by
  have hs := rI_s (bl := bl) (yr := yr) (b := b) (y := y) h
  unfold rS
  rw [hs]
  by_cases c : bl i = b ∧ yr i ≤ y ∧ (rI bl yr b y i < 0 ∨ yr (rI bl yr b y i) ≤ yr i)
  · rw [if_pos c, if_neg (by omega), if_pos]
    refine ⟨c.1, c.2.1, ?_⟩
    split <;> omega
  · rw [if_neg c]
    by_cases d : rI bl yr b y i < 0
    · rw [if_pos d, if_neg (by omega)]
    · rw [if_neg d, if_neg (by omega)]
theorem rV_step {bl yr vl : Int → Int} {b y i : Int} (h : 0 ≤ i) (h0 : 0 ≤ yr i) : rV bl yr vl b y (i + 1) = if bl i = b ∧ yr i ≤ y ∧ rS bl yr b y i ≤ yr i then vl i else rV bl yr vl b y i := by
  have hs := rI_s (bl := bl) (yr := yr) (b := b) (y := y) h
  unfold rV rS
  rw [hs]
  by_cases c : bl i = b ∧ yr i ≤ y ∧ (rI bl yr b y i < 0 ∨ yr (rI bl yr b y i) ≤ yr i)
  · rw [if_pos c, if_neg (by omega), if_pos]
    refine ⟨c.1, c.2.1, ?_⟩
    split <;> omega
  · rw [if_neg c]
    by_cases d : rI bl yr b y i < 0
    · rw [if_pos d, if_neg (by omega)]
    · rw [if_neg d, if_neg (by omega)]
theorem rV_rng {bl yr vl : Int → Int} {b y i n lo hi : Int} (h : 0 ≤ i ∧ i ≤ n) (hv : Rg vl n lo hi) (h0 : lo ≤ 0 ∧ 0 ≤ hi) : lo ≤ rV bl yr vl b y i ∧ rV bl yr vl b y i ≤ hi := by
  have := rI_rng (bl := bl) (yr := yr) (b := b) (y := y) h.1
  unfold rV
  split
  · omega
  · exact hv _ (by omega) (by omega)
theorem rS_rng {bl yr : Int → Int} {b y i n lo hi : Int} (h : 0 ≤ i ∧ i ≤ n) (hv : Rg yr n lo hi) (h0 : lo ≤ hi ∧ 0 ≤ lo) : -1 ≤ rS bl yr b y i ∧ rS bl yr b y i ≤ hi := by
  have := rI_rng (bl := bl) (yr := yr) (b := b) (y := y) h.1
  unfold rS
  split
  · omega
  · have := hv (rI bl yr b y i) (by omega) (by omega)
    omega
theorem rI_congr {bl bl2 yr yr2 : Int → Int} {b y : Int} : ∀ {i : Int}, 0 ≤ i → (∀ k : Int, 0 ≤ k → k < i → bl k = bl2 k ∧ yr k = yr2 k) → rI bl yr b y i = rI bl2 yr2 b y i := by
  intro i h hk
  obtain ⟨n, rfl⟩ := Int.eq_ofNat_of_zero_le h
  clear h
  induction n with
  | zero => rfl
  | succ n ih =>
    have e : ((n + 1 : Nat) : Int) = (n : Int) + 1 := by omega
    rw [e] at hk ⊢
    have ih := ih (fun k h1 h2 => hk k h1 (by omega))
    rw [rI_s (by omega), rI_s (by omega), ← ih, (hk n (by omega) (by omega)).1, (hk n (by omega) (by omega)).2]
    by_cases d : rI bl yr b y n < 0
    · simp only [d, true_or]
    · have r := rI_rng (bl := bl) (yr := yr) (b := b) (y := y) (i := (n : Int)) (by omega)
      rw [(hk (rI bl yr b y n) (by omega) (by omega)).2]

/-- what is lost: the sum of what each year takes, from the year laid on -/
def lsum (loss : Int → Int) (laid : Int) : Nat → Int
  | 0 => 0
  | n + 1 => lsum loss laid n + (if laid ≤ (n : Int) then loss n else 0)
def lS (loss : Int → Int) (laid y : Int) : Int := lsum loss laid y.toNat
theorem lS_s {loss : Int → Int} {laid y : Int} (h : 0 ≤ y) : lS loss laid (y + 1) = lS loss laid y + (if laid ≤ y then loss y else 0) := by
  unfold lS
  obtain ⟨n, rfl⟩ := Int.eq_ofNat_of_zero_le h
  show lsum loss laid (n + 1) = _
  rw [lsum]
  rfl
theorem lS_0 (loss : Int → Int) (laid : Int) : lS loss laid 0 = 0 := rfl
theorem lS_rng {loss : Int → Int} {laid n : Int} (h : Rg loss n 0 100) : ∀ {y : Int}, 0 ≤ y → y ≤ n → 0 ≤ lS loss laid y ∧ lS loss laid y ≤ 100 * y := by
  intro y h0
  obtain ⟨m, rfl⟩ := Int.eq_ofNat_of_zero_le h0
  clear h0
  induction m with
  | zero => intro _; rw [show ((0 : Nat) : Int) = 0 from rfl, lS_0]; omega
  | succ m ih =>
    intro h1
    have ih := ih (by omega)
    have e : ((m + 1 : Nat) : Int) = (m : Int) + 1 := by omega
    rw [e, lS_s (by omega)]
    have := h (m : Int) (by omega) (by omega)
    split <;> omega
theorem lS_before {loss : Int → Int} {laid : Int} : ∀ {y : Int}, 0 ≤ y → y ≤ laid → lS loss laid y = 0 := by
  intro y h0
  obtain ⟨m, rfl⟩ := Int.eq_ofNat_of_zero_le h0
  clear h0
  induction m with
  | zero => intro _; rfl
  | succ m ih =>
    intro h1
    have e : ((m + 1 : Nat) : Int) = (m : Int) + 1 := by omega
    rw [e] at h1 ⊢
    rw [lS_s (by omega), if_neg (by omega), ih (by omega)]
    rfl
/-- the first year at which 100 times what is lost reaches a bound; -1: none of the first n -/
def dgr (ls : Int → Int) (thr : Int) : Nat → Int
  | 0 => -1
  | n + 1 => if dgr ls thr n < 0 ∧ thr ≤ ls n * 100 then (n : Int) else dgr ls thr n
def dG (ls : Int → Int) (thr i : Int) : Int := dgr ls thr i.toNat
theorem dG_0 (ls : Int → Int) (thr : Int) : dG ls thr 0 = -1 := rfl
theorem dG_s {ls : Int → Int} {thr i : Int} (h : 0 ≤ i) : dG ls thr (i + 1) = if dG ls thr i < 0 ∧ thr ≤ ls i * 100 then i else dG ls thr i := by
  unfold dG
  obtain ⟨n, rfl⟩ := Int.eq_ofNat_of_zero_le h
  show dgr ls thr (n + 1) = _
  rw [dgr]
  rfl
theorem dG_rng {ls : Int → Int} {thr : Int} : ∀ {i : Int}, 0 ≤ i → -1 ≤ dG ls thr i ∧ dG ls thr i < max i 1 := by
  intro i h
  obtain ⟨n, rfl⟩ := Int.eq_ofNat_of_zero_le h
  clear h
  induction n with
  | zero => rw [show ((0 : Nat) : Int) = 0 from rfl, dG_0]; omega
  | succ n ih =>
    rw [show ((n + 1 : Nat) : Int) = (n : Int) + 1 from by omega, dG_s (by omega)]
    split <;> omega
theorem dG_stay {ls : Int → Int} {thr i : Int} (h : 0 ≤ i) (hd : 0 ≤ dG ls thr i) : ∀ n : Nat, dG ls thr (i + n) = dG ls thr i := by
  intro n
  induction n with
  | zero => rw [show i + ((0 : Nat) : Int) = i by omega]
  | succ n ih => rw [show i + ((n + 1 : Nat) : Int) = (i + n) + 1 by omega, dG_s (by omega), ih, if_neg (by omega)]
/-- what a block loses in a year, as the class has it -/
def kLoss (rates : Int → Int) (stone : Int) (pbl pyr pvl : Int → Int) (np : Int) (tbl tyr tvl : Int → Int) (nt b : Int) : Int → Int :=
  fun y => rates (stone * 16 + rV pbl pyr pvl b y np % 16) * (1 + rV tbl tyr tvl b y nt)
theorem kLoss_rng {rates : Int → Int} {stone : Int} {pbl pyr pvl tbl tyr tvl : Int → Int} {np nt b : Int} (hr : Rg rates 64 0 50) (hs : 0 ≤ stone ∧ stone ≤ 3) (hnp : 0 ≤ np ∧ np ≤ 60) (hnt : 0 ≤ nt ∧ nt ≤ 60) (hp : Rg pvl 60 0 127) (ht : Rg tvl 60 0 1) (n : Int) : Rg (kLoss rates stone pbl pyr pvl np tbl tyr tvl nt b) n 0 100 := by
  intro y _ _
  have h1 := rV_rng (bl := pbl) (yr := pyr) (b := b) (y := y) hnp hp (by omega)
  have h2 := rV_rng (bl := tbl) (yr := tyr) (b := b) (y := y) hnt ht (by omega)
  have h3 := hr (stone * 16 + rV pbl pyr pvl b y np % 16) (by omega) (by omega)
  have h4 := mul_bd (a := rates (stone * 16 + rV pbl pyr pvl b y np % 16)) (b := 1 + rV tbl tyr tvl b y nt) (A := 50) (B := 2) h3 (by omega)
  unfold kLoss
  omega
