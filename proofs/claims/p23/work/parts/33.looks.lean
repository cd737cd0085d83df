/-! PURE: habits, states -/
theorem sm_add (f g : Int → Int) : ∀ {n : Int}, 0 ≤ n → sm (fun i => f i + g i) n = sm f n + sm g n := by
  intro n h0
  obtain ⟨m, rfl⟩ := Int.eq_ofNat_of_zero_le h0
  clear h0
  induction m with
  | zero => rfl
  | succ m ih =>
    have e : ((m + 1 : Nat) : Int) = (m : Int) + 1 := by omega
    rw [e, sm_s (by omega), sm_s (by omega), sm_s (by omega), ih]
    omega
theorem sm_le {f g : Int → Int} : ∀ {n : Int}, 0 ≤ n → (∀ k : Int, 0 ≤ k → k < n → f k ≤ g k) → sm f n ≤ sm g n := by
  intro n h0
  obtain ⟨m, rfl⟩ := Int.eq_ofNat_of_zero_le h0
  clear h0
  induction m with
  | zero => intro _; exact Int.le_refl _
  | succ m ih =>
    intro h
    have e : ((m + 1 : Nat) : Int) = (m : Int) + 1 := by omega
    rw [e] at h ⊢
    rw [sm_s (by omega), sm_s (by omega)]
    have := ih (fun k a b => h k a (by omega))
    have := h m (by omega) (by omega)
    omega
theorem sm_mul (c : Int) (f : Int → Int) : ∀ {n : Int}, 0 ≤ n → sm (fun i => c * f i) n = c * sm f n := by
  intro n h0
  obtain ⟨m, rfl⟩ := Int.eq_ofNat_of_zero_le h0
  clear h0
  induction m with
  | zero => show (0 : Int) = c * 0; omega
  | succ m ih =>
    have e : ((m + 1 : Nat) : Int) = (m : Int) + 1 := by omega
    rw [e, sm_s (by omega), sm_s (by omega), ih, Int.mul_add]
theorem sm_const (c : Int) : ∀ {n : Int}, 0 ≤ n → sm (fun _ => c) n = c * n := by
  intro n h0
  obtain ⟨m, rfl⟩ := Int.eq_ofNat_of_zero_le h0
  clear h0
  induction m with
  | zero => show (0 : Int) = c * 0; omega
  | succ m ih =>
    have e : ((m + 1 : Nat) : Int) = (m : Int) + 1 := by omega
    rw [e, sm_s (by omega), ih, Int.mul_add, Int.mul_one]
/-- over all ordered pairs; and the same as each new one comes -/
def sq (F : Int → Int → Int) (n : Int) : Int := sm (fun i => sm (F i) n) n
def tri (F : Int → Int → Int) (n : Int) : Int := sm (fun j => sm (fun i => F i j + F j i) j) n
theorem sq_tri {F : Int → Int → Int} (hd : ∀ i, F i i = 0) : ∀ {n : Int}, 0 ≤ n → sq F n = tri F n := by
  intro n h0
  obtain ⟨m, rfl⟩ := Int.eq_ofNat_of_zero_le h0
  clear h0
  induction m with
  | zero => rfl
  | succ m ih =>
    have e : ((m + 1 : Nat) : Int) = (m : Int) + 1 := by omega
    have hm : (0 : Int) ≤ m := by omega
    rw [e]
    unfold sq tri at *
    rw [sm_s hm, sm_s hm, sm_s hm, ← ih, hd, sm_add _ _ hm, sm_congr (f := fun i => sm (F i) ((m : Int) + 1)) (g := fun i => sm (F i) m + F i m) hm (fun k _ _ => sm_s hm), sm_add _ _ hm]
    omega
def hvF (b y h g : Int → Int) (hd i j : Int) : Int := if (b i = b j ∧ y i = y j ∧ ¬ h i = h j) ∧ h i = hd then g i - g j else 0
def hvP (b y h : Int → Int) (hd i j : Int) : Int := if (b i = b j ∧ y i = y j ∧ ¬ h i = h j) ∧ h i = hd then 1 else 0
def hS (b y h g : Int → Int) (n hd : Int) : Int := sq (hvF b y h g hd) n
def hN (b y h : Int → Int) (n hd : Int) : Int := sq (hvP b y h hd) n
def hD (b y h : Int → Int) (n hd : Int) : Int := if hN b y h n hd = 0 then 1 else 2 * hN b y h n hd
theorem hvF_ii (b y h g : Int → Int) (hd i : Int) : hvF b y h g hd i i = 0 := by unfold hvF; rw [if_neg (by omega)]
theorem hvP_ii (b y h : Int → Int) (hd i : Int) : hvP b y h hd i i = 0 := by unfold hvP; rw [if_neg (by omega)]
theorem dbI_comm (b y h : Int → Int) (i j : Int) : dbI b y h i j = dbI b y h j i := by
  unfold dbI
  by_cases c : b i = b j ∧ y i = y j ∧ ¬ h i = h j
  · rw [if_pos c, if_pos (by omega)]
  · rw [if_neg c, if_neg (by omega)]
theorem hN_0 {b y h : Int → Int} {n hd : Int} (hn : 0 ≤ n) : 0 ≤ hN b y h n hd := by
  have := sm_rng (f := fun i => sm (hvP b y h hd i) n) (n := n) (c := n) (fun k _ _ => by
    have := sm_rng (f := hvP b y h hd k) (n := n) (c := 1) (fun j _ _ => by unfold hvP; split <;> omega) hn (Int.le_refl _)
    try dsimp only
    omega) hn (Int.le_refl _)
  exact this.1
theorem hN_le {b y h : Int → Int} {n hd : Int} (hn : 0 ≤ n ∧ n ≤ 80) : hN b y h n hd ≤ 1600 := by
  have cs : ∀ i, 0 ≤ i → i < n → sm (hvP b y h hd i) n ≤ sm (fun j => if h j = hd then 0 else 1) n * (if h i = hd then 1 else 0) := by
    intro i _ _
    by_cases q : h i = hd
    · rw [if_pos q, Int.mul_one]
      refine sm_le hn.1 (fun j _ _ => ?_)
      unfold hvP
      (try dsimp only)
      (repeat' split) <;> omega
    · rw [if_neg q, Int.mul_zero]
      have := sm_le (f := hvP b y h hd i) (g := fun _ => 0) hn.1 (fun j _ _ => by unfold hvP; (try dsimp only); rw [if_neg (by omega)]; exact Int.le_refl _)
      rw [sm_const 0 hn.1] at this
      omega
  have h1 := sm_le hn.1 cs
  rw [sm_mul _ _ hn.1] at h1
  have hc := sm_rng (f := fun i => if h i = hd then 1 else 0) (n := n) (c := 1) (fun j _ _ => by (try dsimp only); split <;> omega) hn.1 (Int.le_refl _)
  have hm := sm_rng (f := fun i => if h i = hd then 0 else 1) (n := n) (c := 1) (fun j _ _ => by (try dsimp only); split <;> omega) hn.1 (Int.le_refl _)
  have hs := sm_add (fun i => if h i = hd then 1 else 0) (fun i => if h i = hd then 0 else 1) hn.1
  rw [sm_congr (g := fun _ => 1) hn.1 (fun k _ _ => by (try dsimp only); split <;> rfl), sm_const 1 hn.1] at hs
  unfold hN sq
  generalize sm (fun i => if h i = hd then 1 else 0) n = c at *
  generalize sm (fun i => if h i = hd then 0 else 1) n = m at *
  have e1 : m * c ≤ (80 - c) * c := Int.mul_le_mul_of_nonneg_right (by omega) hc.1
  have e2 : (80 - c) * c = 1600 - (40 - c) * (40 - c) := by grind
  have e3 : 0 ≤ (40 - c) * (40 - c) := by
    rcases Int.le_total 0 (40 - c) with q | q
    · exact Int.mul_nonneg q q
    · exact Int.mul_nonneg_of_nonpos_of_nonpos q q
  omega
theorem hS_bd {b y h g : Int → Int} {n hd : Int} (hn : 0 ≤ n) (hg : ∀ k : Int, 0 ≤ k → k < n → 0 ≤ g k ∧ g k ≤ 99) : -(99 * hN b y h n hd) ≤ hS b y h g n hd ∧ hS b y h g n hd ≤ 99 * hN b y h n hd := by
  have r : ∀ i, 0 ≤ i → i < n → -(99 * sm (hvP b y h hd i) n) ≤ sm (hvF b y h g hd i) n ∧ sm (hvF b y h g hd i) n ≤ 99 * sm (hvP b y h hd i) n := by
    intro i i0 i1
    have gi := hg i i0 i1
    have a1 := sm_le (f := fun j => (-99) * hvP b y h hd i j) (g := hvF b y h g hd i) hn (fun j j0 j1 => by
      have gj := hg j j0 j1
      unfold hvF hvP
      (try dsimp only)
      split <;> omega)
    have a2 := sm_le (f := hvF b y h g hd i) (g := fun j => 99 * hvP b y h hd i j) hn (fun j j0 j1 => by
      have gj := hg j j0 j1
      unfold hvF hvP
      (try dsimp only)
      split <;> omega)
    rw [sm_mul _ _ hn] at a1 a2
    omega
  have a1 := sm_le (f := fun i => (-99) * sm (hvP b y h hd i) n) (g := fun i => sm (hvF b y h g hd i) n) hn (fun i i0 i1 => by have := r i i0 i1; omega)
  have a2 := sm_le (f := fun i => sm (hvF b y h g hd i) n) (g := fun i => 99 * sm (hvP b y h hd i) n) hn (fun i i0 i1 => by have := r i i0 i1; omega)
  rw [sm_mul _ _ hn] at a1 a2
  unfold hS hN sq
  omega
theorem hD_rng {b y h : Int → Int} {n hd : Int} (hn : 0 ≤ n ∧ n ≤ 80) : 1 ≤ hD b y h n hd ∧ hD b y h n hd ≤ 3200 := by
  have h0 := hN_0 (b := b) (y := y) (h := h) (hd := hd) hn.1
  have h1 := hN_le (b := b) (y := y) (h := h) (hd := hd) hn
  unfold hD
  split <;> omega
theorem hS_D {b y h g : Int → Int} {n hd : Int} (hn : 0 ≤ n ∧ n ≤ 80) (hg : ∀ k : Int, 0 ≤ k → k < n → 0 ≤ g k ∧ g k ≤ 99) : -(50 * hD b y h n hd) ≤ hS b y h g n hd ∧ hS b y h g n hd ≤ 50 * hD b y h n hd := by
  have h0 := hN_0 (b := b) (y := y) (h := h) (hd := hd) hn.1
  have h2 := hS_bd (b := b) (y := y) (h := h) (g := g) (hd := hd) hn.1 hg
  unfold hD
  split <;> omega
/-- the latest year not above one in which a block was looked at; -1: none -/
def laR (b y : Int → Int) (bb yr : Int) : Nat → Int
  | 0 => -1
  | n + 1 => if b n = bb ∧ y n ≤ yr ∧ laR b y bb yr n < y n then y n else laR b y bb yr n
def laI (b y : Int → Int) (bb yr i : Int) : Int := laR b y bb yr i.toNat
theorem laI_0 (b y : Int → Int) (bb yr : Int) : laI b y bb yr 0 = -1 := rfl
theorem laI_s {b y : Int → Int} {bb yr i : Int} (h : 0 ≤ i) : laI b y bb yr (i + 1) = if b i = bb ∧ y i ≤ yr ∧ laI b y bb yr i < y i then y i else laI b y bb yr i := by
  unfold laI
  obtain ⟨n, rfl⟩ := Int.eq_ofNat_of_zero_le h
  show laR b y bb yr (n + 1) = _
  rw [laR]
  rfl
theorem laI_rng {b y : Int → Int} {bb yr n : Int} (hy : Rg y n 0 400) : ∀ {i : Int}, 0 ≤ i → i ≤ n → -1 ≤ laI b y bb yr i ∧ laI b y bb yr i ≤ 400 := by
  intro i h0
  obtain ⟨m, rfl⟩ := Int.eq_ofNat_of_zero_le h0
  clear h0
  induction m with
  | zero => intro _; rw [show ((0 : Nat) : Int) = 0 from rfl, laI_0]; omega
  | succ m ih =>
    intro h1
    have e : ((m + 1 : Nat) : Int) = (m : Int) + 1 := by omega
    rw [e] at h1 ⊢
    have := ih (by omega)
    have := hy m (by omega) (by omega)
    rw [laI_s (by omega)]
    split <;> omega
theorem laI_some {b y : Int → Int} {bb yr : Int} : ∀ {i : Int}, 0 ≤ i → laI b y bb yr i = -1 ∨ ∃ k : Int, 0 ≤ k ∧ k < i ∧ b k = bb ∧ y k = laI b y bb yr i := by
  intro i h0
  obtain ⟨m, rfl⟩ := Int.eq_ofNat_of_zero_le h0
  clear h0
  induction m with
  | zero => exact Or.inl rfl
  | succ m ih =>
    have e : ((m + 1 : Nat) : Int) = (m : Int) + 1 := by omega
    rw [e, laI_s (by omega)]
    by_cases c : b m = bb ∧ y m ≤ yr ∧ laI b y bb yr m < y m
    · rw [if_pos c]
      exact Or.inr ⟨m, by omega, by omega, c.1, rfl⟩
    · rw [if_neg c]
      rcases ih with h | ⟨k, h1, h2, h3, h4⟩
      · exact Or.inl h
      · exact Or.inr ⟨k, h1, by omega, h3, h4⟩
/-- of the looks at a block in a year: how many; how many by a hand; their grades -/
def tF (b y : Int → Int) (bb lt : Int) (i : Int) : Int := if b i = bb ∧ y i = lt then 1 else 0
def tH (b y h : Int → Int) (bb lt hd : Int) (i : Int) : Int := if (b i = bb ∧ y i = lt) ∧ h i = hd then 1 else 0
def tG (b y g : Int → Int) (bb lt : Int) (i : Int) : Int := if b i = bb ∧ y i = lt then g i else 0
def tK (b y h g : Int → Int) (bb lt hd : Int) (i : Int) : Int := if (b i = bb ∧ y i = lt) ∧ h i = hd then g i else 0
def sT (b y h : Int → Int) (bb lt n hd : Int) : Int := sm (tH b y h bb lt hd) n
theorem tF_rng {b y : Int → Int} {bb lt n : Int} (hn : 0 ≤ n) : 0 ≤ sm (tF b y bb lt) n ∧ sm (tF b y bb lt) n ≤ n := by
  have := sm_rng (f := tF b y bb lt) (n := n) (c := 1) (fun k _ _ => by unfold tF; split <;> omega) hn (Int.le_refl _)
  omega
theorem tG_rng {b y g : Int → Int} {bb lt n : Int} (hn : 0 ≤ n) (hg : ∀ k : Int, 0 ≤ k → k < n → 0 ≤ g k ∧ g k ≤ 99) : 0 ≤ sm (tG b y g bb lt) n ∧ sm (tG b y g bb lt) n ≤ 99 * n :=
  sm_rng (f := tG b y g bb lt) (n := n) (c := 99) (fun k k0 k1 => by have := hg k k0 k1; unfold tG; split <;> omega) hn (Int.le_refl _)
theorem sT_rng {b y h : Int → Int} {bb lt n hd : Int} (hn : 0 ≤ n) : 0 ≤ sT b y h bb lt n hd ∧ sT b y h bb lt n hd ≤ n := by
  have := sm_rng (f := tH b y h bb lt hd) (n := n) (c := 1) (fun k _ _ => by unfold tH; split <;> omega) hn (Int.le_refl _)
  unfold sT
  omega
theorem sT_sum {b y h : Int → Int} {bb lt n : Int} (hn : 0 ≤ n) (hh : ∀ k : Int, 0 ≤ k → k < n → 0 ≤ h k ∧ h k ≤ 3) : sm (sT b y h bb lt n) 4 = sm (tF b y bb lt) n := by
  have e : sm (sT b y h bb lt n) 4 = 0 + sT b y h bb lt n 0 + sT b y h bb lt n 1 + sT b y h bb lt n 2 + sT b y h bb lt n 3 := rfl
  rw [e]
  unfold sT
  rw [sm_congr (f := tF b y bb lt) (g := fun i => tH b y h bb lt 0 i + tH b y h bb lt 1 i + tH b y h bb lt 2 i + tH b y h bb lt 3 i) hn (fun k k0 k1 => by
    have := hh k k0 k1
    unfold tF tH
    (repeat' split) <;> omega), sm_add _ _ hn, sm_add _ _ hn, sm_add _ _ hn]
  omega
theorem tK_sum {b y h g : Int → Int} {bb lt n : Int} (hn : 0 ≤ n) (hh : ∀ k : Int, 0 ≤ k → k < n → 0 ≤ h k ∧ h k ≤ 3) : sm (tG b y g bb lt) n = sm (tK b y h g bb lt 0) n + sm (tK b y h g bb lt 1) n + sm (tK b y h g bb lt 2) n + sm (tK b y h g bb lt 3) n := by
  rw [sm_congr (f := tG b y g bb lt) (g := fun i => tK b y h g bb lt 0 i + tK b y h g bb lt 1 i + tK b y h g bb lt 2 i + tK b y h g bb lt 3 i) hn (fun k k0 k1 => by
    have := hh k k0 k1
    unfold tG tK
    (repeat' split) <;> omega), sm_add _ _ hn, sm_add _ _ hn, sm_add _ _ hn]
theorem tF_pos {b y : Int → Int} {bb yr n : Int} (hn : 0 ≤ n) (h : ¬ laI b y bb yr n = -1) : 0 < sm (tF b y bb (laI b y bb yr n)) n := by
  rcases laI_some (b := b) (y := y) (bb := bb) (yr := yr) hn with h1 | ⟨k, k0, k1, k2, k3⟩
  · exact absurd h1 h
  · generalize laI b y bb yr n = lt at *
    have h2 := sm_le (f := fun i => if i = k then 1 else 0) (g := tF b y bb lt) hn (fun i _ _ => by
      unfold tF
      by_cases e : i = k
      · subst e; (try dsimp only); rw [if_pos rfl, if_pos ⟨k2, k3⟩]; exact Int.le_refl _
      · (try dsimp only); rw [if_neg e]; split <;> omega)
    have h3 : ∀ m : Nat, sm (fun i => if i = k then 1 else 0) (m : Int) = if k < (m : Int) then 1 else 0 := by
      intro m
      induction m with
      | zero => rw [if_neg (by omega)]; rfl
      | succ m ih =>
        rw [show ((m + 1 : Nat) : Int) = (m : Int) + 1 by omega, sm_s (by omega), ih]
        (repeat' split) <;> omega
    obtain ⟨m, rfl⟩ := Int.eq_ofNat_of_zero_le hn
    rw [h3 m, if_pos k1] at h2
    omega
/-- a state: its upper and lower number -/
def stN (b y h g : Int → Int) (bb lt n i : Int) : Int := frN (hD b y h n) (hS b y h g n) (sT b y h bb lt n) (sm (tG b y g bb lt) n) i
def stU (b y h g : Int → Int) (bb yr n : Int) : Int := nU (stN b y h g bb (laI b y bb yr n) n 4) (frD (hD b y h n) 4 * sm (tF b y bb (laI b y bb yr n)) n)
def stL (b y h g : Int → Int) (bb yr n : Int) : Int := nL (stN b y h g bb (laI b y bb yr n) n 4) (frD (hD b y h n) 4 * sm (tF b y bb (laI b y bb yr n)) n)
theorem stN_bd {b y h g : Int → Int} {bb lt n i : Int} (hn : 0 ≤ n ∧ n ≤ 80) (hg : ∀ k : Int, 0 ≤ k → k < n → 0 ≤ g k ∧ g k ≤ 99) (hh : ∀ k : Int, 0 ≤ k → k < n → 0 ≤ h k ∧ h k ≤ 3) (hi : 0 ≤ i ∧ i ≤ 4) : 0 < frD (hD b y h n) i ∧ -(11920 * frD (hD b y h n) i) ≤ stN b y h g bb lt n i ∧ stN b y h g bb lt n i ≤ 11920 * frD (hD b y h n) i := by
  have hp := frD_pos (dd := hD b y h n) (n := 4) (fun k _ _ => by have := hD_rng (b := b) (y := y) (h := h) (hd := k) hn; omega) hi.1 hi.2
  have hG := tG_rng (b := b) (y := y) (g := g) (bb := bb) (lt := lt) hn.1 hg
  have hb := frN_bd (dd := hD b y h n) (s := hS b y h g n) (t := sT b y h bb lt n) (g := sm (tG b y g bb lt) n) (n := 4) (fun k _ _ => by
    have e1 := hD_rng (b := b) (y := y) (h := h) (hd := k) hn
    have e2 := sT_rng (b := b) (y := y) (h := h) (bb := bb) (lt := lt) (hd := k) hn.1
    have e3 := hS_D (b := b) (y := y) (h := h) (g := g) (hd := k) hn hg
    omega) hG.1 hi.1 hi.2
  have hs : sm (sT b y h bb lt n) i ≤ 80 := by
    have e := sT_sum (b := b) (y := y) (h := h) (bb := bb) (lt := lt) hn.1 hh
    have f := tF_rng (b := b) (y := y) (bb := bb) (lt := lt) hn.1
    have t0 := sT_rng (b := b) (y := y) (h := h) (bb := bb) (lt := lt) (hd := 0) hn.1
    have t1 := sT_rng (b := b) (y := y) (h := h) (bb := bb) (lt := lt) (hd := 1) hn.1
    have t2 := sT_rng (b := b) (y := y) (h := h) (bb := bb) (lt := lt) (hd := 2) hn.1
    have t3 := sT_rng (b := b) (y := y) (h := h) (bb := bb) (lt := lt) (hd := 3) hn.1
    have e4 : sm (sT b y h bb lt n) 4 = 0 + sT b y h bb lt n 0 + sT b y h bb lt n 1 + sT b y h bb lt n 2 + sT b y h bb lt n 3 := rfl
    have e3 : sm (sT b y h bb lt n) 3 = 0 + sT b y h bb lt n 0 + sT b y h bb lt n 1 + sT b y h bb lt n 2 := rfl
    have e2 : sm (sT b y h bb lt n) 2 = 0 + sT b y h bb lt n 0 + sT b y h bb lt n 1 := rfl
    have e1 : sm (sT b y h bb lt n) 1 = 0 + sT b y h bb lt n 0 := rfl
    have e0 : sm (sT b y h bb lt n) 0 = 0 := rfl
    rcases (show i = 0 ∨ i = 1 ∨ i = 2 ∨ i = 3 ∨ i = 4 by omega) with r | r | r | r | r <;> rw [r] <;> omega
  refine ⟨hp, ?_⟩
  have hk := Int.mul_le_mul_of_nonneg_right (a := sm (tG b y g bb lt) n + 50 * sm (sT b y h bb lt n) i) (b := 11920) (c := frD (hD b y h n) i) (by omega) (by omega)
  unfold stN
  omega
theorem two_add {f : Int → Int} {a b x y : Int} (hab : ¬ a = b) (k : Int) : iU (iU f a (f a + x)) b (iU f a (f a + x) b + y) k = f k + (if a = k then x else 0) + (if b = k then y else 0) := by
  by_cases hb : k = b
  · subst hb
    rw [iU_s, iU_n (by omega), if_neg (by omega), if_pos rfl]
    omega
  · rw [iU_n hb, if_neg (show ¬ b = k by omega)]
    by_cases ha : k = a
    · subst ha
      rw [iU_s, if_pos rfl]
      omega
    · rw [iU_n ha, if_neg (by omega)]
      omega
theorem one_add (f : Int → Int) (a x k : Int) : iU f a (f a + x) k = f k + (if a = k then x else 0) := by
  by_cases ha : k = a
  · subst ha; rw [iU_s, if_pos rfl]
  · rw [iU_n ha, if_neg (by omega)]; omega
