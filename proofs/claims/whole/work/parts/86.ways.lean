/-! PURE: ways, their sums, the best of them -/
/-- of the first i works of the code c: what is spent in each year, which scaffolds stand -/
def wSN (cs zn : Int → Int → Int) (n : Int) : Nat → Int → (Int → Int) × (Int → Int)
  | 0, _ => (fun _ => 0, fun _ => 0)
  | i + 1, c => if c % (n + 1) = n then wSN cs zn n i (c / (n + 1)) else
      (iU (wSN cs zn n i (c / (n + 1))).1 (c % (n + 1)) ((wSN cs zn n i (c / (n + 1))).1 (c % (n + 1)) + (cs i (c % (n + 1)) + if (wSN cs zn n i (c / (n + 1))).2 (c % (n + 1) * 8 + zn i (c % (n + 1))) = 0 then 25 else 0)),
       iU (wSN cs zn n i (c / (n + 1))).2 (c % (n + 1) * 8 + zn i (c % (n + 1))) ((wSN cs zn n i (c / (n + 1))).2 (c % (n + 1) * 8 + zn i (c % (n + 1))) + 1))
def wSp (cs zn : Int → Int → Int) (n i c : Int) : Int → Int := (wSN cs zn n i.toNat c).1
def wSc (cs zn : Int → Int → Int) (n i c : Int) : Int → Int := (wSN cs zn n i.toNat c).2
def wCo (cs zn : Int → Int → Int) (n i c t : Int) : Int := cs i t + if wSc cs zn n i c (t * 8 + zn i t) = 0 then 25 else 0
def wTN (cs zn : Int → Int → Int) (ng : Int → Int) (n : Int) : Nat → Int → Int
  | 0, _ => 0
  | i + 1, c => wTN cs zn ng n i (c / (n + 1)) + if c % (n + 1) = n then ng i else wCo cs zn n i (c / (n + 1)) (c % (n + 1))
def wT (cs zn : Int → Int → Int) (ng : Int → Int) (n i c : Int) : Int := wTN cs zn ng n i.toNat c
def wKN (cs zn : Int → Int → Int) (n coin : Int) : Nat → Int → Bool
  | 0, _ => true
  | i + 1, c => wKN cs zn n coin i (c / (n + 1)) && (decide (c % (n + 1) = n) || decide (wSp cs zn n ((i : Int) + 1) c (c % (n + 1)) ≤ coin))
def wK (cs zn : Int → Int → Int) (n coin i c : Int) : Bool := wKN cs zn n coin i.toNat c
def wV (cs zn : Int → Int → Int) (ng : Int → Int) (n coin m X : Int) : Int := if wK cs zn n coin m X = true then wT cs zn ng n m X else -1
def dgN (n : Int) : Nat → Int → Int → Int
  | 0, _, _ => 0
  | i + 1, c, j => if j = (i : Int) then c % (n + 1) else dgN n i (c / (n + 1)) j
def dg (n i c j : Int) : Int := dgN n i.toNat c j
def chD (n t : Int) : Int := if t = n then -1 else t
def pcs (f : Int → Int) : Int → Int → Int := fun j t => f (j * 4 + t)
theorem dm {c n t : Int} (ht : 0 ≤ t ∧ t < n + 1) : (c * (n + 1) + t) / (n + 1) = c ∧ (c * (n + 1) + t) % (n + 1) = t := by
  have e : c * (n + 1) + t = t + (n + 1) * c := by rw [Int.mul_comm c, Int.add_comm]
  rw [e]
  constructor
  · rw [Int.add_mul_ediv_left _ _ (by omega), Int.ediv_eq_zero_of_lt ht.1 ht.2]; omega
  · rw [Int.add_mul_emod_self_left, Int.emod_eq_of_lt ht.1 ht.2]
theorem toNat_s {i : Int} (h : 0 ≤ i) : (i + 1).toNat = i.toNat + 1 ∧ ((i.toNat : Nat) : Int) = i := by omega
section WAYS
variable {cs zn : Int → Int → Int} {ng : Int → Int} {n coin : Int}
theorem wS_0 (c : Int) : wSp cs zn n 0 c = (fun _ => 0) ∧ wSc cs zn n 0 c = fun _ => 0 := ⟨rfl, rfl⟩
theorem wS_t {i c t : Int} (hi : 0 ≤ i) (ht : 0 ≤ t ∧ t < n) : wSp cs zn n (i + 1) (c * (n + 1) + t) = iU (wSp cs zn n i c) t (wSp cs zn n i c t + wCo cs zn n i c t) ∧ wSc cs zn n (i + 1) (c * (n + 1) + t) = iU (wSc cs zn n i c) (t * 8 + zn i t) (wSc cs zn n i c (t * 8 + zn i t) + 1) := by
  obtain ⟨h1, h2⟩ := dm (c := c) (n := n) (t := t) (by omega)
  obtain ⟨t1, t2⟩ := toNat_s hi
  unfold wSp wSc wCo wSc
  rw [t1]
  constructor
  · rw [wSN, h1, h2, if_neg (show ¬ t = n by omega), t2]
    try rfl
  · rw [wSN, h1, h2, if_neg (show ¬ t = n by omega), t2]
    try rfl
theorem wS_n {i c : Int} (hi : 0 ≤ i) (hn : 0 ≤ n) : wSp cs zn n (i + 1) (c * (n + 1) + n) = wSp cs zn n i c ∧ wSc cs zn n (i + 1) (c * (n + 1) + n) = wSc cs zn n i c := by
  obtain ⟨h1, h2⟩ := dm (c := c) (n := n) (t := n) (by omega)
  obtain ⟨t1, t2⟩ := toNat_s hi
  unfold wSp wSc
  rw [t1]
  constructor
  · rw [wSN, h1, h2, if_pos rfl]
  · rw [wSN, h1, h2, if_pos rfl]
theorem wT_0 (c : Int) : wT cs zn ng n 0 c = 0 := rfl
theorem wT_t {i c t : Int} (hi : 0 ≤ i) (ht : 0 ≤ t ∧ t < n) : wT cs zn ng n (i + 1) (c * (n + 1) + t) = wT cs zn ng n i c + wCo cs zn n i c t := by
  obtain ⟨h1, h2⟩ := dm (c := c) (n := n) (t := t) (by omega)
  obtain ⟨t1, t2⟩ := toNat_s hi
  unfold wT
  rw [t1, wTN, h1, h2, if_neg (show ¬ t = n by omega), t2]
theorem wT_n {i c : Int} (hi : 0 ≤ i) (hn : 0 ≤ n) : wT cs zn ng n (i + 1) (c * (n + 1) + n) = wT cs zn ng n i c + ng i := by
  obtain ⟨h1, h2⟩ := dm (c := c) (n := n) (t := n) (by omega)
  obtain ⟨t1, t2⟩ := toNat_s hi
  unfold wT
  rw [t1, wTN, h1, h2, if_pos rfl, t2]
theorem wK_0 (c : Int) : wK cs zn n coin 0 c = true := rfl
theorem wK_t {i c t : Int} (hi : 0 ≤ i) (ht : 0 ≤ t ∧ t < n) : wK cs zn n coin (i + 1) (c * (n + 1) + t) = true ↔ wK cs zn n coin i c = true ∧ wSp cs zn n (i + 1) (c * (n + 1) + t) t ≤ coin := by
  obtain ⟨h1, h2⟩ := dm (c := c) (n := n) (t := t) (by omega)
  obtain ⟨t1, t2⟩ := toNat_s hi
  unfold wK
  rw [t1, wKN, h1, h2, t2, Bool.and_eq_true, Bool.or_eq_true, decide_eq_true_eq, decide_eq_true_eq]
  exact ⟨fun q => ⟨q.1, q.2.resolve_left (by omega)⟩, fun q => ⟨q.1, Or.inr q.2⟩⟩
theorem wK_n {i c : Int} (hi : 0 ≤ i) (hn : 0 ≤ n) : wK cs zn n coin (i + 1) (c * (n + 1) + n) = true ↔ wK cs zn n coin i c = true := by
  obtain ⟨h1, h2⟩ := dm (c := c) (n := n) (t := n) (by omega)
  obtain ⟨t1, t2⟩ := toNat_s hi
  unfold wK
  rw [t1, wKN, h1, h2, t2, Bool.and_eq_true, Bool.or_eq_true, decide_eq_true_eq]
  exact ⟨fun q => q.1, fun q => ⟨q, Or.inl rfl⟩⟩
theorem dg_t {i c t j : Int} (hi : 0 ≤ i) (ht : 0 ≤ t ∧ t ≤ n) : dg n (i + 1) (c * (n + 1) + t) j = if j = i then t else dg n i c j := by
  obtain ⟨h1, h2⟩ := dm (c := c) (n := n) (t := t) (by omega)
  obtain ⟨t1, t2⟩ := toNat_s hi
  unfold dg
  rw [t1, dgN, h1, h2, t2]
/-- a code is its first part and its last digit -/
theorem cd_split (hn : 0 ≤ n) (c : Int) : ∃ t, (0 ≤ t ∧ t ≤ n) ∧ c = c / (n + 1) * (n + 1) + t := by
  refine ⟨c % (n + 1), ⟨Int.emod_nonneg _ (by omega), ?_⟩, ?_⟩
  · have := Int.emod_lt_of_pos c (show 0 < n + 1 by omega)
    omega
  · have := Int.mul_ediv_add_emod c (n + 1)
    rw [Int.mul_comm (c / (n + 1))]; omega
theorem wS_bd (hn : 0 ≤ n ∧ n ≤ 4) (hcs : ∀ j t : Int, 0 ≤ j → j < 6 → 0 ≤ t → t < n → 0 ≤ cs j t ∧ cs j t ≤ 50000) : ∀ (i : Nat) (c : Int), i ≤ 6 → (∀ k : Int, 0 ≤ wSp cs zn n (i : Int) c k ∧ wSp cs zn n (i : Int) c k ≤ 50025 * i) ∧ ∀ k : Int, 0 ≤ wSc cs zn n (i : Int) c k ∧ wSc cs zn n (i : Int) c k ≤ i := by
  intro i
  induction i with
  | zero => intro c h; exact ⟨fun k => ⟨Int.le_refl _, Int.le_refl _⟩, fun k => ⟨Int.le_refl _, Int.le_refl _⟩⟩
  | succ i ih =>
    intro c h
    obtain ⟨t, ht, e⟩ := cd_split hn.1 c
    have h1 := ih (c / (n + 1)) (by omega)
    rw [e, show ((i + 1 : Nat) : Int) = (i : Int) + 1 by omega]
    generalize c / (n + 1) = c' at h1
    by_cases q : t = n
    · rw [q, (wS_n (by omega) hn.1).1, (wS_n (by omega) hn.1).2]
      exact ⟨fun k => by have := h1.1 k; omega, fun k => by have := h1.2 k; omega⟩
    · rw [(wS_t (by omega) (by omega)).1, (wS_t (by omega) (by omega)).2]
      have hc := hcs i t (by omega) (by omega) (by omega) (by omega)
      constructor
      · intro k
        by_cases e2 : k = t
        · rw [e2, iU_s]
          have := h1.1 t
          unfold wCo
          split <;> omega
        · rw [iU_n e2]; have := h1.1 k; omega
      · intro k
        by_cases e2 : k = t * 8 + zn i t
        · rw [e2, iU_s]; have := h1.2 (t * 8 + zn i t); omega
        · rw [iU_n e2]; have := h1.2 k; omega
theorem wSp_bd (hn : 0 ≤ n ∧ n ≤ 4) (hcs : ∀ j t : Int, 0 ≤ j → j < 6 → 0 ≤ t → t < n → 0 ≤ cs j t ∧ cs j t ≤ 50000) {i : Int} (hi : 0 ≤ i ∧ i ≤ 6) (c k : Int) : 0 ≤ wSp cs zn n i c k ∧ wSp cs zn n i c k ≤ 50025 * i := by
  have h := (wS_bd (zn := zn) hn hcs i.toNat c (by omega)).1 k
  rw [(show ((i.toNat : Nat) : Int) = i by omega)] at h
  exact h
theorem wSc_bd (hn : 0 ≤ n ∧ n ≤ 4) (hcs : ∀ j t : Int, 0 ≤ j → j < 6 → 0 ≤ t → t < n → 0 ≤ cs j t ∧ cs j t ≤ 50000) {i : Int} (hi : 0 ≤ i ∧ i ≤ 6) (c k : Int) : 0 ≤ wSc cs zn n i c k ∧ wSc cs zn n i c k ≤ i := by
  have h := (wS_bd (zn := zn) hn hcs i.toNat c (by omega)).2 k
  rw [(show ((i.toNat : Nat) : Int) = i by omega)] at h
  exact h
theorem wCo_bd (hcs : ∀ j t : Int, 0 ≤ j → j < 6 → 0 ≤ t → t < n → 0 ≤ cs j t ∧ cs j t ≤ 50000) {i t : Int} (hi : 0 ≤ i ∧ i < 6) (ht : 0 ≤ t ∧ t < n) (c : Int) : 0 ≤ wCo cs zn n i c t ∧ wCo cs zn n i c t ≤ 50025 := by
  have := hcs i t hi.1 hi.2 ht.1 ht.2
  unfold wCo
  split <;> omega
theorem wT_bdN (hn : 0 ≤ n ∧ n ≤ 4) (hcs : ∀ j t : Int, 0 ≤ j → j < 6 → 0 ≤ t → t < n → 0 ≤ cs j t ∧ cs j t ≤ 50000) (hng : ∀ j : Int, 0 ≤ j → j < 6 → 0 ≤ ng j ∧ ng j ≤ 200000) : ∀ (i : Nat) (c : Int), i ≤ 6 → 0 ≤ wT cs zn ng n (i : Int) c ∧ wT cs zn ng n (i : Int) c ≤ 200000 * i := by
  intro i
  induction i with
  | zero => intro c h; exact ⟨Int.le_refl _, Int.le_refl _⟩
  | succ i ih =>
    intro c h
    obtain ⟨t, ht, e⟩ := cd_split hn.1 c
    have h1 := ih (c / (n + 1)) (by omega)
    rw [e, show ((i + 1 : Nat) : Int) = (i : Int) + 1 by omega]
    generalize c / (n + 1) = c' at h1
    by_cases q : t = n
    · rw [q, wT_n (by omega) hn.1]
      have := hng i (by omega) (by omega)
      omega
    · rw [wT_t (by omega) (by omega)]
      have := wCo_bd (zn := zn) hcs (i := i) (t := t) (by omega) (by omega) c'
      omega
theorem wT_bd (hn : 0 ≤ n ∧ n ≤ 4) (hcs : ∀ j t : Int, 0 ≤ j → j < 6 → 0 ≤ t → t < n → 0 ≤ cs j t ∧ cs j t ≤ 50000) (hng : ∀ j : Int, 0 ≤ j → j < 6 → 0 ≤ ng j ∧ ng j ≤ 200000) {i : Int} (hi : 0 ≤ i ∧ i ≤ 6) (c : Int) : 0 ≤ wT cs zn ng n i c ∧ wT cs zn ng n i c ≤ 200000 * i := by
  have h := wT_bdN (zn := zn) hn hcs hng i.toNat c (by omega)
  rw [(show ((i.toNat : Nat) : Int) = i by omega)] at h
  exact h
end WAYS
/-- powers; the codes that begin with c -/
def pwI (n : Int) : Nat → Int
  | 0 => 1
  | k + 1 => pwI n k * (n + 1)
theorem pwI_pos {n : Int} (hn : 0 ≤ n) : ∀ k : Nat, 1 ≤ pwI n k := by
  intro k
  induction k with
  | zero => exact Int.le_refl _
  | succ k ih =>
    have := Int.mul_le_mul ih (show (1 : Int) ≤ n + 1 by omega) (by omega) (by omega)
    show 1 ≤ pwI n k * (n + 1)
    omega
theorem pw_in (n c t : Int) (k : Nat) : c * pwI n (k + 1) = (c * (n + 1) + 0) * pwI n k ∧ (c + 1) * pwI n (k + 1) = (c * (n + 1) + n + 1) * pwI n k := by
  show c * (pwI n k * (n + 1)) = _ ∧ (c + 1) * (pwI n k * (n + 1)) = _
  constructor
  · rw [Int.add_zero, Int.mul_comm (pwI n k), Int.mul_assoc]
  · rw [show c * (n + 1) + n + 1 = (c + 1) * (n + 1) by rw [Int.add_mul, Int.one_mul]; omega, Int.mul_comm (pwI n k), Int.mul_assoc]
theorem pw_down {n c X : Int} {k : Nat} (hn : 0 ≤ n) (h : c * pwI n (k + 1) ≤ X ∧ X < (c + 1) * pwI n (k + 1)) : c * pwI n k ≤ X / (n + 1) ∧ X / (n + 1) < (c + 1) * pwI n k := by
  have e : ∀ d : Int, d * pwI n (k + 1) = d * pwI n k * (n + 1) := fun d => (Int.mul_assoc _ _ _).symm
  rw [e, e] at h
  exact ⟨Int.le_ediv_of_mul_le (by omega) h.1, Int.ediv_lt_of_lt_mul (by omega) h.2⟩
section WAYS2
variable {cs zn : Int → Int → Int} {ng : Int → Int} {n coin : Int}
theorem w_anc (hn : 0 ≤ n ∧ n ≤ 4) (hcs : ∀ j t : Int, 0 ≤ j → j < 6 → 0 ≤ t → t < n → 0 ≤ cs j t ∧ cs j t ≤ 50000) (hng : ∀ j : Int, 0 ≤ j → j < 6 → 0 ≤ ng j ∧ ng j ≤ 200000) {i c : Int} (hi : 0 ≤ i) : ∀ (k : Nat) (X : Int), i + k ≤ 6 → c * pwI n k ≤ X ∧ X < (c + 1) * pwI n k → wT cs zn ng n i c ≤ wT cs zn ng n (i + k) X ∧ (wK cs zn n coin (i + k) X = true → wK cs zn n coin i c = true) ∧ ∀ j : Int, 0 ≤ j → j < i → dg n (i + k) X j = dg n i c j := by
  intro k
  induction k with
  | zero =>
    intro X h6 h
    have e1 : pwI n 0 = 1 := rfl
    rw [e1] at h
    obtain rfl : X = c := by omega
    rw [show i + ((0 : Nat) : Int) = i by omega]
    exact ⟨Int.le_refl _, id, fun _ _ _ => rfl⟩
  | succ k ih =>
    intro X h6 h
    have h1 := ih (X / (n + 1)) (by omega) (pw_down hn.1 h)
    obtain ⟨t, ht, e⟩ := cd_split hn.1 X
    rw [show i + ((k + 1 : Nat) : Int) = i + k + 1 by omega]
    rw [e]
    generalize X / (n + 1) = Y at h1
    have hd : ∀ j : Int, 0 ≤ j → j < i → dg n (i + k + 1) (Y * (n + 1) + t) j = dg n i c j := fun j j0 j1 => by
      rw [dg_t (by omega) ht, if_neg (by omega)]
      exact h1.2.2 j j0 j1
    by_cases q : t = n
    · rw [q] at hd ⊢
      rw [wT_n (by omega) hn.1, wK_n (by omega) hn.1]
      have := hng (i + k) (by omega) (by omega)
      exact ⟨by omega, h1.2.1, hd⟩
    · rw [wT_t (by omega) (by omega), wK_t (by omega) (by omega)]
      have := wCo_bd (zn := zn) hcs (i := i + k) (t := t) (by omega) (by omega) Y
      exact ⟨by omega, fun z => h1.2.1 z.1, hd⟩
theorem wV_prune (hn : 0 ≤ n ∧ n ≤ 4) (hcs : ∀ j t : Int, 0 ≤ j → j < 6 → 0 ≤ t → t < n → 0 ≤ cs j t ∧ cs j t ≤ 50000) (hng : ∀ j : Int, 0 ≤ j → j < 6 → 0 ≤ ng j ∧ ng j ≤ 200000) {i c m L : Int} (hi : 0 ≤ i) (k : Nat) (hm : i + k = m ∧ m ≤ 6) (hL : L ≤ wT cs zn ng n i c) : ∀ X : Int, c * pwI n k ≤ X → X < (c + 1) * pwI n k → wV cs zn ng n coin m X < 0 ∨ L ≤ wV cs zn ng n coin m X := by
  intro X h1 h2
  have h := (w_anc (coin := coin) (zn := zn) hn hcs hng hi k X (by omega) ⟨h1, h2⟩).1
  rw [hm.1] at h
  unfold wV
  split
  · exact Or.inr (by omega)
  · exact Or.inl (by omega)
theorem wV_none (hn : 0 ≤ n ∧ n ≤ 4) (hcs : ∀ j t : Int, 0 ≤ j → j < 6 → 0 ≤ t → t < n → 0 ≤ cs j t ∧ cs j t ≤ 50000) (hng : ∀ j : Int, 0 ≤ j → j < 6 → 0 ≤ ng j ∧ ng j ≤ 200000) {i c m L : Int} (hi : 0 ≤ i) (k : Nat) (hm : i + k = m ∧ m ≤ 6) (hK : ¬ wK cs zn n coin i c = true) : ∀ X : Int, c * pwI n k ≤ X → X < (c + 1) * pwI n k → wV cs zn ng n coin m X < 0 ∨ L ≤ wV cs zn ng n coin m X := by
  intro X h1 h2
  have h := (w_anc (coin := coin) (zn := zn) hn hcs hng hi k X (by omega) ⟨h1, h2⟩).2.1
  rw [hm.1] at h
  unfold wV
  rw [if_neg (fun z => hK (h z))]
  exact Or.inl (by omega)
theorem wV_bd (hn : 0 ≤ n ∧ n ≤ 4) (hcs : ∀ j t : Int, 0 ≤ j → j < 6 → 0 ≤ t → t < n → 0 ≤ cs j t ∧ cs j t ≤ 50000) (hng : ∀ j : Int, 0 ≤ j → j < 6 → 0 ≤ ng j ∧ ng j ≤ 200000) {m : Int} (hm : 0 ≤ m ∧ m ≤ 6) (X : Int) : -1 ≤ wV cs zn ng n coin m X ∧ wV cs zn ng n coin m X ≤ 1200000 := by
  have := wT_bd (zn := zn) hn hcs hng hm X
  unfold wV
  split <;> omega
end WAYS2
/-- the least of the first codes, and the first that has it -/
def lsN (vl : Int → Int) : Nat → Int
  | 0 => 1000000000
  | x + 1 => if 0 ≤ vl x ∧ vl x < lsN vl x then vl x else lsN vl x
def bsN (vl : Int → Int) : Nat → Int
  | 0 => -1
  | x + 1 => if 0 ≤ vl x ∧ vl x < lsN vl x then x else bsN vl x
def lsI (vl : Int → Int) (X : Int) : Int := lsN vl X.toNat
def bsI (vl : Int → Int) (X : Int) : Int := bsN vl X.toNat
theorem lsI_0 (vl : Int → Int) : lsI vl 0 = 1000000000 ∧ bsI vl 0 = -1 := ⟨rfl, rfl⟩
theorem lsI_s {vl : Int → Int} {X : Int} (h : 0 ≤ X) : lsI vl (X + 1) = (if 0 ≤ vl X ∧ vl X < lsI vl X then vl X else lsI vl X) ∧ bsI vl (X + 1) = if 0 ≤ vl X ∧ vl X < lsI vl X then X else bsI vl X := by
  obtain ⟨t1, t2⟩ := toNat_s h
  unfold lsI bsI
  rw [t1]
  constructor
  · rw [lsN, t2]
  · rw [bsN, t2]
theorem ls_skip {vl : Int → Int} {a : Int} (ha : 0 ≤ a) : ∀ k : Nat, (∀ x : Int, a ≤ x → x < a + k → vl x < 0 ∨ lsI vl a ≤ vl x) → lsI vl (a + k) = lsI vl a ∧ bsI vl (a + k) = bsI vl a := by
  intro k
  induction k with
  | zero => intro h; rw [show a + ((0 : Nat) : Int) = a by omega]; exact ⟨rfl, rfl⟩
  | succ k ih =>
    intro h
    have h1 := ih (fun x x0 x1 => h x x0 (by omega))
    have h2 := lsI_s (vl := vl) (X := a + k) (by omega)
    have h3 := h (a + k) (by omega) (by omega)
    rw [show a + ((k + 1 : Nat) : Int) = a + k + 1 by omega, h2.1, h2.2, h1.1, h1.2]
    rw [if_neg (by omega), if_neg (by omega)]
    exact ⟨rfl, rfl⟩
theorem ls_over {vl : Int → Int} {a b : Int} (ha : 0 ≤ a ∧ a ≤ b) (h : ∀ x : Int, a ≤ x → x < b → vl x < 0 ∨ lsI vl a ≤ vl x) : lsI vl b = lsI vl a ∧ bsI vl b = bsI vl a := by
  have h1 := ls_skip (vl := vl) ha.1 (b - a).toNat (fun x x0 x1 => h x x0 (by omega))
  rw [show a + ((b - a).toNat : Int) = b by omega] at h1
  exact h1
theorem ls_rng {vl : Int → Int} (X : Int) : 0 ≤ lsI vl X ∧ lsI vl X ≤ 1000000000 := by
  unfold lsI
  induction X.toNat with
  | zero =>
    show (0 : Int) ≤ 1000000000 ∧ (1000000000 : Int) ≤ 1000000000
    omega
  | succ n ih => rw [lsN]; split <;> omega
theorem ls_bs {vl : Int → Int} : ∀ n : Nat, (lsI vl n = 1000000000 ∧ bsI vl n = -1) ∨ (0 ≤ bsI vl n ∧ bsI vl n < n ∧ lsI vl n = vl (bsI vl n) ∧ 0 ≤ vl (bsI vl n)) := by
  intro n
  induction n with
  | zero => exact Or.inl ⟨rfl, rfl⟩
  | succ n ih =>
    have h2 := lsI_s (vl := vl) (X := n) (by omega)
    rw [show ((n + 1 : Nat) : Int) = (n : Int) + 1 by omega, h2.1, h2.2]
    by_cases q : 0 ≤ vl n ∧ vl n < lsI vl n
    · rw [if_pos q, if_pos q]; exact Or.inr ⟨by omega, by omega, rfl, q.1⟩
    · rw [if_neg q, if_neg q]
      rcases ih with h | h
      · exact Or.inl h
      · exact Or.inr ⟨h.1, by omega, h.2.2⟩
theorem bs_rng {vl : Int → Int} {X : Int} (hX : 0 ≤ X) : -1 ≤ bsI vl X ∧ bsI vl X < max X 1 := by
  have h := ls_bs (vl := vl) X.toNat
  rw [show ((X.toNat : Nat) : Int) = X by omega] at h
  rcases h with h | h <;> omega
/-- where some way fits, there is a best -/
theorem bs_has {vl : Int → Int} {X x : Int} (hx : 0 ≤ x ∧ x < X) (h0 : 0 ≤ vl x ∧ vl x < 1000000000) : 0 ≤ bsI vl X ∧ bsI vl X < X := by
  have h := ls_bs (vl := vl) X.toNat
  rw [show ((X.toNat : Nat) : Int) = X by omega] at h
  rcases h with h | h
  · exfalso
    have key : ∀ k : Nat, lsI vl (x + 1 + k) ≤ vl x := by
      intro k
      induction k with
      | zero =>
        have h2 := (lsI_s (vl := vl) hx.1).1
        rw [show x + 1 + ((0 : Nat) : Int) = x + 1 by omega, h2]
        split <;> omega
      | succ k ih =>
        have h2 := (lsI_s (vl := vl) (X := x + 1 + k) (by omega)).1
        rw [show x + 1 + ((k + 1 : Nat) : Int) = x + 1 + k + 1 by omega, h2]
        split <;> omega
    have := key (X - x - 1).toNat
    rw [show x + 1 + ((X - x - 1).toNat : Int) = X by omega] at this
    omega
  · omega
theorem ls_congr {vl vm : Int → Int} : ∀ n : Nat, (∀ x : Int, 0 ≤ x → x < n → vl x = vm x) → lsI vl n = lsI vm n ∧ bsI vl n = bsI vm n := by
  intro n
  induction n with
  | zero => intro h; exact ⟨rfl, rfl⟩
  | succ n ih =>
    intro h
    have h1 := ih (fun x x0 x1 => h x x0 (by omega))
    have h2 := lsI_s (vl := vl) (X := n) (by omega)
    have h3 := lsI_s (vl := vm) (X := n) (by omega)
    rw [show ((n + 1 : Nat) : Int) = (n : Int) + 1 by omega, h2.1, h2.2, h3.1, h3.2, h n (by omega) (by omega), h1.1, h1.2]
    exact ⟨rfl, rfl⟩
