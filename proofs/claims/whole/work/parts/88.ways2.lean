/-! PURE: a way's sum as the reference counts it; blocks of a set -/
def wGN (ng : Int → Int) (n : Int) : Nat → Int → Int
  | 0, _ => 0
  | i + 1, c => wGN ng n i (c / (n + 1)) + if c % (n + 1) = n then ng i else 0
def wG (ng : Int → Int) (n i c : Int) : Int := wGN ng n i.toNat c
section WAYS3
variable {cs zn : Int → Int → Int} {ng : Int → Int} {n coin : Int}
theorem wG_0 (c : Int) : wG ng n 0 c = 0 := rfl
theorem wG_t {i c t : Int} (hi : 0 ≤ i) (ht : 0 ≤ t ∧ t < n) : wG ng n (i + 1) (c * (n + 1) + t) = wG ng n i c := by
  obtain ⟨h1, h2⟩ := dm (c := c) (n := n) (t := t) (by omega)
  obtain ⟨t1, t2⟩ := toNat_s hi
  unfold wG
  rw [t1, wGN, h1, h2, if_neg (show ¬ t = n by omega)]
  omega
theorem wG_n {i c : Int} (hi : 0 ≤ i) (hn : 0 ≤ n) : wG ng n (i + 1) (c * (n + 1) + n) = wG ng n i c + ng i := by
  obtain ⟨h1, h2⟩ := dm (c := c) (n := n) (t := n) (by omega)
  obtain ⟨t1, t2⟩ := toNat_s hi
  unfold wG
  rw [t1, wGN, h1, h2, if_pos rfl, t2]
theorem wG_bd (hn : 0 ≤ n) (hng : ∀ j : Int, 0 ≤ j → j < 6 → 0 ≤ ng j ∧ ng j ≤ 200000) : ∀ (i : Nat) (c : Int), i ≤ 6 → 0 ≤ wG ng n (i : Int) c ∧ wG ng n (i : Int) c ≤ 200000 * i := by
  intro i
  induction i with
  | zero => intro c h; exact ⟨Int.le_refl _, Int.le_refl _⟩
  | succ i ih =>
    intro c h
    obtain ⟨t, ht, e⟩ := cd_split hn c
    have h1 := ih (c / (n + 1)) (by omega)
    rw [e, show ((i + 1 : Nat) : Int) = (i : Int) + 1 by omega]
    generalize c / (n + 1) = c' at h1
    by_cases q : t = n
    · rw [q, wG_n (by omega) hn]
      have := hng i (by omega) (by omega)
      omega
    · rw [wG_t (by omega) (by omega)]
      omega
theorem sm_iU {f : Int → Int} {t v : Int} : ∀ (k : Nat), sm (iU f t v) (k : Int) = sm f k + if 0 ≤ t ∧ t < k then v - f t else 0 := by
  intro k
  induction k with
  | zero => rw [if_neg (by omega)]; rfl
  | succ k ih =>
    rw [show ((k + 1 : Nat) : Int) = (k : Int) + 1 by omega, sm_s (by omega), sm_s (by omega), ih]
    by_cases e : t = k
    · rw [if_neg (by omega), if_pos (by omega), e, iU_s]; omega
    · rw [iU_n (by omega)]
      by_cases q : 0 ≤ t ∧ t < k
      · rw [if_pos q, if_pos (by omega)]; omega
      · rw [if_neg q, if_neg (by omega)]; omega
theorem wT_G (hn : 0 ≤ n) : ∀ (i : Nat) (c : Int), wT cs zn ng n (i : Int) c = wG ng n (i : Int) c + sm (wSp cs zn n (i : Int) c) n := by
  intro i
  induction i with
  | zero =>
    intro c
    have e : sm (fun _ : Int => (0 : Int)) n = 0 := by rw [sm_const 0 hn, Int.zero_mul]
    show (0 : Int) = 0 + sm (fun _ => 0) n
    rw [e]; rfl
  | succ i ih =>
    intro c
    obtain ⟨t, ht, e⟩ := cd_split hn c
    have h1 := ih (c / (n + 1))
    rw [e, show ((i + 1 : Nat) : Int) = (i : Int) + 1 by omega]
    generalize c / (n + 1) = c' at h1
    by_cases q : t = n
    · rw [q, wT_n (by omega) hn, wG_n (by omega) hn, (wS_n (by omega) hn).1]; omega
    · rw [wT_t (by omega) (by omega), wG_t (by omega) (by omega), (wS_t (by omega) (by omega)).1]
      have h2 := sm_iU (f := wSp cs zn n i c') (t := t) (v := wSp cs zn n i c' t + wCo cs zn n i c' t) n.toNat
      rw [show ((n.toNat : Nat) : Int) = n by omega, if_pos (by omega)] at h2
      rw [h2]; omega
theorem wK_all (hn : 0 ≤ n ∧ n ≤ 4) (hco : 0 ≤ coin) (hcs : ∀ j t : Int, 0 ≤ j → j < 6 → 0 ≤ t → t < n → 0 ≤ cs j t ∧ cs j t ≤ 50000) : ∀ (i : Nat) (c : Int), i ≤ 6 → (wK cs zn n coin (i : Int) c = true ↔ ∀ y : Int, 0 ≤ y → y < n → wSp cs zn n (i : Int) c y ≤ coin) := by
  intro i
  induction i with
  | zero => intro c h; exact ⟨fun _ y _ _ => hco, fun _ => rfl⟩
  | succ i ih =>
    intro c h
    obtain ⟨t, ht, e⟩ := cd_split hn.1 c
    have h1 := ih (c / (n + 1)) (by omega)
    rw [e, show ((i + 1 : Nat) : Int) = (i : Int) + 1 by omega]
    generalize c / (n + 1) = c' at h1
    by_cases q : t = n
    · rw [q, wK_n (by omega) hn.1, (wS_n (by omega) hn.1).1]; exact h1
    · rw [wK_t (by omega) (by omega), h1, (wS_t (by omega) (by omega)).1]
      have hc := wCo_bd (zn := zn) hcs (i := i) (t := t) (by omega) (by omega) c'
      constructor
      · intro z y y0 y1
        by_cases e2 : y = t
        · rw [e2]; exact z.2
        · rw [iU_n e2]; exact z.1 y y0 y1
      · intro z
        refine ⟨fun y y0 y1 => ?_, z t ht.1 (by omega)⟩
        have := z y y0 y1
        by_cases e2 : y = t
        · rw [e2, iU_s] at this; rw [e2]; omega
        · rw [iU_n e2] at this; exact this
theorem wV_sum (hn : 0 ≤ n ∧ n ≤ 4) (hco : 0 ≤ coin) (hcs : ∀ j t : Int, 0 ≤ j → j < 6 → 0 ≤ t → t < n → 0 ≤ cs j t ∧ cs j t ≤ 50000) {m : Int} (hm : 0 ≤ m ∧ m ≤ 6) (X : Int) : ((∀ y : Int, 0 ≤ y → y < n → wSp cs zn n m X y ≤ coin) → wV cs zn ng n coin m X = wG ng n m X + sm (wSp cs zn n m X) n) ∧ ∀ y : Int, 0 ≤ y ∧ y < n → coin < wSp cs zn n m X y → wV cs zn ng n coin m X = -1 := by
  have h := wK_all (zn := zn) hn hco hcs m.toNat X (by omega)
  have h2 := wT_G (cs := cs) (zn := zn) (ng := ng) hn.1 m.toNat X
  rw [show ((m.toNat : Nat) : Int) = m by omega] at h h2
  unfold wV
  constructor
  · intro q
    rw [if_pos (h.2 q)]; exact h2
  · intro y hy q
    rw [if_neg (fun z => by have := h.1 z y hy.1 hy.2; omega)]
/-- what counts of the costs -/
theorem w_congrN {cs' zn' : Int → Int → Int} {ng' : Int → Int} (hn : 0 ≤ n) : ∀ (i : Nat) (c : Int), (∀ j t : Int, 0 ≤ j → j < i → 0 ≤ t → t < n → cs j t = cs' j t ∧ zn j t = zn' j t) → (∀ j : Int, 0 ≤ j → j < i → ng j = ng' j) → (wSp cs zn n (i : Int) c = wSp cs' zn' n (i : Int) c ∧ wSc cs zn n (i : Int) c = wSc cs' zn' n (i : Int) c) ∧ wT cs zn ng n (i : Int) c = wT cs' zn' ng' n (i : Int) c ∧ (wK cs zn n coin (i : Int) c = true ↔ wK cs' zn' n coin (i : Int) c = true) := by
  intro i
  induction i with
  | zero => intro c _ _; exact ⟨⟨rfl, rfl⟩, rfl, Iff.rfl⟩
  | succ i ih =>
    intro c h g
    obtain ⟨t, ht, e⟩ := cd_split hn c
    have h1 := ih (c / (n + 1)) (fun j t j0 j1 => h j t j0 (by omega)) (fun j j0 j1 => g j j0 (by omega))
    rw [e, show ((i + 1 : Nat) : Int) = (i : Int) + 1 by omega]
    generalize c / (n + 1) = c' at h1
    by_cases q : t = n
    · rw [q, (wS_n (by omega) hn).1, (wS_n (by omega) hn).2, (wS_n (by omega) hn).1, (wS_n (by omega) hn).2, wT_n (by omega) hn, wT_n (by omega) hn, wK_n (by omega) hn, wK_n (by omega) hn, h1.2.1, g i (by omega) (by omega)]
      exact ⟨h1.1, rfl, h1.2.2⟩
    · have hh := h i t (by omega) (by omega) ht.1 (by omega)
      have hc : wCo cs zn n i c' t = wCo cs' zn' n i c' t := by unfold wCo; rw [hh.1, hh.2, h1.1.2]
      have hs : wSp cs zn n (i + 1) (c' * (n + 1) + t) = wSp cs' zn' n (i + 1) (c' * (n + 1) + t) := by
        rw [(wS_t (by omega) (by omega)).1, (wS_t (by omega) (by omega)).1, h1.1.1, hc]
      refine ⟨⟨hs, ?_⟩, ?_, ?_⟩
      · rw [(wS_t (by omega) (by omega)).2, (wS_t (by omega) (by omega)).2, h1.1.2, hh.2]
      · rw [wT_t (by omega) (by omega), wT_t (by omega) (by omega), h1.2.1, hc]
      · rw [wK_t (by omega) (by omega), wK_t (by omega) (by omega), hs, h1.2.2]
theorem wV_congr {cs' zn' : Int → Int → Int} {ng' : Int → Int} {m : Int} (hn : 0 ≤ n) (hm : 0 ≤ m) (h : ∀ j t : Int, 0 ≤ j → j < m → 0 ≤ t → t < n → cs j t = cs' j t ∧ zn j t = zn' j t) (g : ∀ j : Int, 0 ≤ j → j < m → ng j = ng' j) : wV cs zn ng n coin m = wV cs' zn' ng' n coin m := by
  funext X
  have e := w_congrN (coin := coin) (cs := cs) (zn := zn) (ng := ng) (cs' := cs') (zn' := zn') (ng' := ng') hn m.toNat X (fun j t j0 j1 => h j t j0 (by omega)) (fun j j0 j1 => g j j0 (by omega))
  rw [show ((m.toNat : Nat) : Int) = m by omega] at e
  unfold wV
  by_cases q : wK cs zn n coin m X = true
  · rw [if_pos q, if_pos (e.2.2.1 q), e.2.1]
  · rw [if_neg q, if_neg (fun z => q (e.2.2.2 z))]
end WAYS3
/-- digits by the code's own division -/
theorem lfN_sh (X n : Int) : ∀ k : Nat, lfN X n ((k : Int) + 1) = lfN (X / (n + 1)) n k := by
  intro k
  induction k with
  | zero => rfl
  | succ k ih => rw [show ((k + 1 : Nat) : Int) + 1 = ((k : Int) + 1) + 1 by omega, lfN_s (by omega), ih, show ((k + 1 : Nat) : Int) = (k : Int) + 1 by omega, lfN_s (by omega)]
theorem dg_dgtN {n : Int} : ∀ (m : Nat) (X j : Int), 0 ≤ j → j < m → dg n m X j = dgt X m n j := by
  intro m
  induction m with
  | zero => intro X j j0 j1; omega
  | succ m ih =>
    intro X j j0 j1
    have e : dg n ((m + 1 : Nat) : Int) X j = if j = (m : Int) then X % (n + 1) else dg n m (X / (n + 1)) j := rfl
    rw [e]
    by_cases q : j = m
    · rw [if_pos q, q]
      unfold dgt
      rw [show ((m + 1 : Nat) : Int) - 1 - m = 0 by omega, lfN_0]
    · rw [if_neg q, ih _ j j0 (by omega)]
      unfold dgt
      have := lfN_sh X n (m - 1 - j).toNat
      rw [show (((m - 1 - j).toNat : Nat) : Int) = m - 1 - j by omega] at this
      rw [← this, show (m : Int) - 1 - j + 1 = ((m + 1 : Nat) : Int) - 1 - j by omega]
theorem dg_dgt {n m X j : Int} (hj : 0 ≤ j ∧ j < m) : dg n m X j = dgt X m n j := by
  have := dg_dgtN (n := n) m.toNat X j hj.1 (by omega)
  rw [show ((m.toNat : Nat) : Int) = m by omega] at this
  exact this
theorem pre_s {co n many k : Int} (hk : 0 ≤ k ∧ k < many) (hn : 0 ≤ n) : lfN co n (many - (k + 1)) = lfN co n (many - k) * (n + 1) + dgt co many n k ∧ 0 ≤ dgt co many n k ∧ dgt co many n k ≤ n := by
  have e := lfN_s (co := co) (n := n) (j := many - 1 - k) (by omega)
  rw [show many - 1 - k + 1 = many - k by omega] at e
  have h1 := Int.mul_ediv_add_emod (lfN co n (many - 1 - k)) (n + 1)
  have h2 := Int.emod_nonneg (lfN co n (many - 1 - k)) (show n + 1 ≠ 0 by omega)
  have h3 := Int.emod_lt_of_pos (lfN co n (many - 1 - k)) (show 0 < n + 1 by omega)
  unfold dgt
  rw [e, show many - (k + 1) = many - 1 - k by omega, Int.mul_comm (lfN co n (many - 1 - k) / (n + 1))]
  exact ⟨h1.symm, h2, by omega⟩
def ocs (f : Int → Int) : Int → Int → Int := fun k y => 10 + f (5 * k + y)
def ozn (f : Int → Int) : Int → Int → Int := fun k y => f (5 * k + y)
def ong (f : Int → Int) (n : Int) : Int → Int := fun k => 3 * f (5 * k + n)
/-- the j-th block of a set -/
def nbI (set j : Int) : Int := dG (fun k => if j < sm (btA set) (k + 1) then 1 else 0) 100 30
theorem sm_bt_mono (set : Int) {a : Int} (ha : 0 ≤ a) : ∀ k : Nat, sm (btA set) a ≤ sm (btA set) (a + k) := by
  intro k
  induction k with
  | zero => rw [show a + ((0 : Nat) : Int) = a by omega]; exact Int.le_refl _
  | succ k ih =>
    rw [show a + ((k + 1 : Nat) : Int) = a + k + 1 by omega, sm_s (by omega)]
    have := btA_rng set (a + k)
    omega
theorem nb_at {set k : Int} (hk : 0 ≤ k ∧ k < 30) (hb : btA set k = 1) : nbI set (sm (btA set) k) = k := by
  have hs := sm_s (f := btA set) hk.1
  refine dG_first (thr := 100) (i := k) (n := 30) hk ?_ ?_
  · rw [dG_none hk.1 (fun j j0 j1 => ?_)]; omega
    have := sm_bt_mono set (a := j + 1) (by omega) (k - (j + 1)).toNat
    rw [show j + 1 + ((k - (j + 1)).toNat : Int) = k by omega] at this
    show (if sm (btA set) k < sm (btA set) (j + 1) then (1 : Int) else 0) * 100 < 100
    rw [if_neg (by omega)]; omega
  · show 100 ≤ (if sm (btA set) k < sm (btA set) (k + 1) then (1 : Int) else 0) * 100
    rw [if_pos (by omega)]; omega
theorem nb_some {set : Int} : ∀ (n : Nat) (j : Int), 0 ≤ j → j < sm (btA set) n → ∃ k : Int, (0 ≤ k ∧ k < n) ∧ btA set k = 1 ∧ sm (btA set) k = j := by
  intro n
  induction n with
  | zero => intro j j0 j1; rw [show ((0 : Nat) : Int) = 0 from rfl, sm_0] at j1; omega
  | succ n ih =>
    intro j j0 j1
    rw [show ((n + 1 : Nat) : Int) = (n : Int) + 1 by omega, sm_s (by omega)] at j1
    by_cases q : j < sm (btA set) n
    · obtain ⟨k, k1, k2⟩ := ih j j0 q
      exact ⟨k, ⟨k1.1, by omega⟩, k2⟩
    · have := btA_rng set n
      exact ⟨n, ⟨by omega, by omega⟩, by omega, by omega⟩
def wkV (set year n coin bl : Int) (LS ZN : Int → Int → Int) : Int → Int := wV (fun j t => 10 + LS (nbI set j) (year + t)) (fun j t => ZN (nbI set j) (year + t)) (fun j => 3 * LS (nbI set j) (year + n)) n coin (sm (btA set) bl)
def wkR (set year n coin b bl : Int) (LS ZN : Int → Int → Int) : Int :=
  if b = -1 then lsI (wkV set year n coin bl LS ZN) (pwI n (sm (btA set) bl).toNat)
  else if dg n (sm (btA set) bl) (bsI (wkV set year n coin bl LS ZN) (pwI n (sm (btA set) bl).toNat)) (sm (btA set) b) = n then -1
  else year + dg n (sm (btA set) bl) (bsI (wkV set year n coin bl LS ZN) (pwI n (sm (btA set) bl).toNat)) (sm (btA set) b)
def wkA (set year n coin b bl : Int) (LS ZN : Int → Int → Int) : Int :=
  if ¬ b = -1 ∧ ¬ (0 ≤ b ∧ b < bl) then -1001
  else if ¬ ((0 < set ∧ set < 2 ^ bl.toNat) ∧ sm (btA set) 30 ≤ 6 ∧ (0 ≤ year ∧ year ≤ 396) ∧ (1 ≤ n ∧ n ≤ 4) ∧ (0 ≤ coin ∧ coin ≤ 1000) ∧ ¬ (0 ≤ b ∧ btA set b = 0)) then -1002
  else wkR set year n coin b bl LS ZN
theorem bt_hi {set : Int} {bl : Int} (h : 0 ≤ set ∧ set < 2 ^ bl.toNat) (hb : 0 ≤ bl) : ∀ n : Nat, sm (btA set) (bl + n) = sm (btA set) bl := by
  intro n
  induction n with
  | zero => rw [show bl + ((0 : Nat) : Int) = bl by omega]
  | succ n ih =>
    have e : btA set (bl + n) = 0 := by
      unfold btA
      have h2 : (2 : Int) ^ bl.toNat ≤ 2 ^ (bl + n).toNat := by
        rw [show (bl + (n : Int)).toNat = bl.toNat + n by omega, Int.pow_add]
        have h3 := pw_pos bl.toNat
        have h4 := pw_pos n
        have := Int.mul_le_mul_of_nonneg_left (show (1 : Int) ≤ 2 ^ n by omega) (Int.le_of_lt h3)
        omega
      rw [Int.ediv_eq_zero_of_lt h.1 (by omega)]
      rfl
    rw [show bl + ((n + 1 : Nat) : Int) = bl + n + 1 by omega, sm_s (by omega), ih, e]
    omega
