/-! PURE: reading a text: where runs end -/
def scN (tx : Int → Int) (lo hi sz : Int) : Nat → Int → Int
  | 0, i => i
  | n + 1, i => if i < sz ∧ lo ≤ tx i ∧ tx i ≤ hi then scN tx lo hi sz n (i + 1) else i
def sc (tx : Int → Int) (lo hi sz i : Int) : Int := scN tx lo hi sz (sz - i).toNat i
theorem sc_go {tx : Int → Int} {lo hi sz i : Int} (h : i < sz ∧ lo ≤ tx i ∧ tx i ≤ hi) : sc tx lo hi sz i = sc tx lo hi sz (i + 1) := by
  unfold sc
  rw [show (sz - i).toNat = (sz - (i + 1)).toNat + 1 by omega]
  exact if_pos h
theorem sc_stop {tx : Int → Int} {lo hi sz i : Int} (h : ¬ (i < sz ∧ lo ≤ tx i ∧ tx i ≤ hi)) : sc tx lo hi sz i = i := by
  unfold sc
  rcases hn : (sz - i).toNat with _ | n
  · rfl
  · exact if_neg h
theorem scN_all {tx : Int → Int} {lo hi sz : Int} : ∀ (n : Nat) (i : Int), (sz - i).toNat ≤ n → (i ≤ scN tx lo hi sz n i ∧ (scN tx lo hi sz n i ≤ sz ∨ scN tx lo hi sz n i = i)) ∧ ¬ (scN tx lo hi sz n i < sz ∧ lo ≤ tx (scN tx lo hi sz n i) ∧ tx (scN tx lo hi sz n i) ≤ hi) ∧ ∀ k : Int, i ≤ k → k < scN tx lo hi sz n i → lo ≤ tx k ∧ tx k ≤ hi := by
  intro n
  induction n with
  | zero =>
    intro i h
    show (i ≤ i ∧ (i ≤ sz ∨ i = i)) ∧ ¬ (i < sz ∧ lo ≤ tx i ∧ tx i ≤ hi) ∧ ∀ k : Int, i ≤ k → k < i → lo ≤ tx k ∧ tx k ≤ hi
    exact ⟨⟨Int.le_refl _, Or.inr rfl⟩, fun q => by omega, fun k h1 h2 => by omega⟩
  | succ n ih =>
    intro i h
    by_cases c : i < sz ∧ lo ≤ tx i ∧ tx i ≤ hi
    · have e : scN tx lo hi sz (n + 1) i = scN tx lo hi sz n (i + 1) := if_pos c
      rw [e]
      obtain ⟨⟨h1, h2⟩, h3, h4⟩ := ih (i + 1) (by omega)
      refine ⟨⟨by omega, by omega⟩, h3, fun k k1 k2 => ?_⟩
      by_cases e2 : k = i
      · rw [e2]; exact c.2
      · exact h4 k (by omega) k2
    · have e : scN tx lo hi sz (n + 1) i = i := if_neg c
      rw [e]
      exact ⟨⟨Int.le_refl _, Or.inr rfl⟩, c, fun k h1 h2 => by omega⟩
theorem sc_rng (tx : Int → Int) (lo hi sz i : Int) : i ≤ sc tx lo hi sz i ∧ (sc tx lo hi sz i ≤ sz ∨ sc tx lo hi sz i = i) := (scN_all _ i (Nat.le_refl _)).1
theorem sc_end (tx : Int → Int) (lo hi sz i : Int) : ¬ (sc tx lo hi sz i < sz ∧ lo ≤ tx (sc tx lo hi sz i) ∧ tx (sc tx lo hi sz i) ≤ hi) := (scN_all _ i (Nat.le_refl _)).2.1
theorem sc_in (tx : Int → Int) (lo hi sz i : Int) : ∀ k : Int, i ≤ k → k < sc tx lo hi sz i → lo ≤ tx k ∧ tx k ≤ hi := (scN_all _ i (Nat.le_refl _)).2.2
def skp (tx : Int → Int) (sz i : Int) : Int := sc tx 32 32 sz i
def wde (tx : Int → Int) (sz i : Int) : Int := sc tx 97 122 sz i
def dge (tx : Int → Int) (sz i : Int) : Int := sc tx 48 57 sz i
def cha (tx : Int → Int) (sz i : Int) : Int := if i < sz then tx i else -1
theorem skp_skp (tx : Int → Int) (sz i : Int) : skp tx sz (skp tx sz i) = skp tx sz i := sc_stop (sc_end tx 32 32 sz i)
theorem skp_rng {tx : Int → Int} {sz i : Int} (h : 0 ≤ i ∧ i ≤ sz) : i ≤ skp tx sz i ∧ skp tx sz i ≤ sz := by
  have := sc_rng tx 32 32 sz i
  unfold skp; omega
theorem wde_rng {tx : Int → Int} {sz i : Int} (h : 0 ≤ i ∧ i ≤ sz) : i ≤ wde tx sz i ∧ wde tx sz i ≤ sz := by
  have := sc_rng tx 97 122 sz i
  unfold wde; omega
theorem dge_rng {tx : Int → Int} {sz i : Int} (h : 0 ≤ i ∧ i ≤ sz) : i ≤ dge tx sz i ∧ dge tx sz i ≤ sz := by
  have := sc_rng tx 48 57 sz i
  unfold dge; omega
/-! words -/
def nmI (tx : Int → Int) (i e : Int) : Int :=
  if e - i = 4 ∧ tx i = 108 ∧ tx (i + 1) = 111 ∧ tx (i + 2) = 115 ∧ tx (i + 3) = 116 then 0
  else if e - i = 5 ∧ tx i = 115 ∧ tx (i + 1) = 116 ∧ tx (i + 2) = 97 ∧ tx (i + 3) = 116 ∧ tx (i + 4) = 101 then 1
  else if e - i = 3 ∧ tx i = 119 ∧ tx (i + 1) = 101 ∧ tx (i + 2) = 116 then 2
  else if e - i = 4 ∧ tx i = 115 ∧ tx (i + 1) = 105 ∧ tx (i + 2) = 100 ∧ tx (i + 3) = 101 then 3
  else if e - i = 5 ∧ tx i = 115 ∧ tx (i + 1) = 116 ∧ tx (i + 2) = 111 ∧ tx (i + 3) = 110 ∧ tx (i + 4) = 101 then 4
  else if e - i = 3 ∧ tx i = 97 ∧ tx (i + 1) = 103 ∧ tx (i + 2) = 101 then 5
  else if e - i = 4 ∧ tx i = 104 ∧ tx (i + 1) = 97 ∧ tx (i + 2) = 114 ∧ tx (i + 3) = 109 then 6
  else -1
def acI (tx : Int → Int) (i e : Int) : Int :=
  if e - i = 5 ∧ tx i = 108 ∧ tx (i + 1) = 101 ∧ tx (i + 2) = 97 ∧ tx (i + 3) = 118 ∧ tx (i + 4) = 101 then 0
  else if e - i = 4 ∧ tx i = 109 ∧ tx (i + 1) = 101 ∧ tx (i + 2) = 110 ∧ tx (i + 3) = 100 then 1
  else if e - i = 6 ∧ tx i = 99 ∧ tx (i + 1) = 104 ∧ tx (i + 2) = 97 ∧ tx (i + 3) = 110 ∧ tx (i + 4) = 103 ∧ tx (i + 5) = 101 then 2
  else -1
def wdN (tx : Int → Int) (i : Int) : Nat → Int
  | 0 => 0
  | n + 1 => if 1000000000 < wdN tx i n then wdN tx i n else 27 * wdN tx i n + tx (i + n) - 96
def wrd (tx : Int → Int) (i e : Int) : Int := wdN tx i (e - i).toNat
theorem wrd_0 (tx : Int → Int) (i : Int) : wrd tx i i = 0 := by
  unfold wrd
  rw [show (i - i).toNat = 0 by omega]; rfl
theorem wrd_s {tx : Int → Int} {i e : Int} (h : i ≤ e) : wrd tx i (e + 1) = if 1000000000 < wrd tx i e then wrd tx i e else 27 * wrd tx i e + tx e - 96 := by
  unfold wrd
  rw [show (e + 1 - i).toNat = (e - i).toNat + 1 by omega]
  have e1 : i + ((e - i).toNat : Int) = e := by omega
  show (if 1000000000 < wdN tx i (e - i).toNat then wdN tx i (e - i).toNat else 27 * wdN tx i (e - i).toNat + tx (i + ((e - i).toNat : Int)) - 96) = _
  rw [e1]
def nmW (w : Int) : Int := if w = 247664 then 0 else if w = 10492313 then 1 else if w = 16922 then 2 else if w = 380651 then 3 else if w = 10502357 then 4 else if w = 923 then 5 else if w = 158692 then 6 else -1
def acW (w : Int) : Int := if w = 6477035 then 0 else if w = 259906 then 1 else if w = 47328332 then 2 else -1
theorem wd_st {tx : Int → Int} {i : Int} (k : Nat) (q : wdN tx i k ≤ 1000000000) : wdN tx i (k + 1) = 27 * wdN tx i k + tx (i + (k : Int)) - 96 := if_neg (by omega)
theorem wd_1 (tx : Int → Int) (i : Int) : wdN tx i 1 = tx i - 96 := by
  have w : wdN tx i 1 = 27 * 0 + tx (i + 0) - 96 := wd_st 0 (by show (0 : Int) ≤ _; omega)
  rw [w, show i + 0 = i by omega]; omega
theorem wd_2 {tx : Int → Int} {i : Int} (h0 : 97 ≤ tx i ∧ tx i ≤ 122) : wdN tx i 2 = 27 * wdN tx i 1 + tx (i + 1) - 96 := by
  have w1 := wd_1 tx i
  exact wd_st 1 (by omega)
theorem wd_3 {tx : Int → Int} {i : Int} (h0 : 97 ≤ tx i ∧ tx i ≤ 122) (h1 : 97 ≤ tx (i + 1) ∧ tx (i + 1) ≤ 122) : wdN tx i 3 = 27 * wdN tx i 2 + tx (i + 2) - 96 := by
  have w1 := wd_1 tx i
  have w2 := wd_2 (tx := tx) (i := i) h0
  exact wd_st 2 (by omega)
theorem wd_4 {tx : Int → Int} {i : Int} (h0 : 97 ≤ tx i ∧ tx i ≤ 122) (h1 : 97 ≤ tx (i + 1) ∧ tx (i + 1) ≤ 122) (h2 : 97 ≤ tx (i + 2) ∧ tx (i + 2) ≤ 122) : wdN tx i 4 = 27 * wdN tx i 3 + tx (i + 3) - 96 := by
  have w1 := wd_1 tx i
  have w2 := wd_2 (tx := tx) (i := i) h0
  have w3 := wd_3 (tx := tx) (i := i) h0 h1
  exact wd_st 3 (by omega)
theorem wd_5 {tx : Int → Int} {i : Int} (h0 : 97 ≤ tx i ∧ tx i ≤ 122) (h1 : 97 ≤ tx (i + 1) ∧ tx (i + 1) ≤ 122) (h2 : 97 ≤ tx (i + 2) ∧ tx (i + 2) ≤ 122) (h3 : 97 ≤ tx (i + 3) ∧ tx (i + 3) ≤ 122) : wdN tx i 5 = 27 * wdN tx i 4 + tx (i + 4) - 96 := by
  have w1 := wd_1 tx i
  have w2 := wd_2 (tx := tx) (i := i) h0
  have w3 := wd_3 (tx := tx) (i := i) h0 h1
  have w4 := wd_4 (tx := tx) (i := i) h0 h1 h2
  exact wd_st 4 (by omega)
theorem wd_6 {tx : Int → Int} {i : Int} (h0 : 97 ≤ tx i ∧ tx i ≤ 122) (h1 : 97 ≤ tx (i + 1) ∧ tx (i + 1) ≤ 122) (h2 : 97 ≤ tx (i + 2) ∧ tx (i + 2) ≤ 122) (h3 : 97 ≤ tx (i + 3) ∧ tx (i + 3) ≤ 122) (h4 : 97 ≤ tx (i + 4) ∧ tx (i + 4) ≤ 122) : wdN tx i 6 = 27 * wdN tx i 5 + tx (i + 5) - 96 := by
  have w1 := wd_1 tx i
  have w2 := wd_2 (tx := tx) (i := i) h0
  have w3 := wd_3 (tx := tx) (i := i) h0 h1
  have w4 := wd_4 (tx := tx) (i := i) h0 h1 h2
  have w5 := wd_5 (tx := tx) (i := i) h0 h1 h2 h3
  exact wd_st 5 (by omega)
theorem wd_7 {tx : Int → Int} {i : Int} (h0 : 97 ≤ tx i ∧ tx i ≤ 122) (h1 : 97 ≤ tx (i + 1) ∧ tx (i + 1) ≤ 122) (h2 : 97 ≤ tx (i + 2) ∧ tx (i + 2) ≤ 122) (h3 : 97 ≤ tx (i + 3) ∧ tx (i + 3) ≤ 122) (h4 : 97 ≤ tx (i + 4) ∧ tx (i + 4) ≤ 122) (h5 : 97 ≤ tx (i + 5) ∧ tx (i + 5) ≤ 122) : wdN tx i 7 = 27 * wdN tx i 6 + tx (i + 6) - 96 := by
  have w1 := wd_1 tx i
  have w2 := wd_2 (tx := tx) (i := i) h0
  have w3 := wd_3 (tx := tx) (i := i) h0 h1
  have w4 := wd_4 (tx := tx) (i := i) h0 h1 h2
  have w5 := wd_5 (tx := tx) (i := i) h0 h1 h2 h3
  have w6 := wd_6 (tx := tx) (i := i) h0 h1 h2 h3 h4
  exact wd_st 6 (by omega)
theorem wdN_big {tx : Int → Int} {i : Int} : ∀ (n : Nat), (∀ k : Int, i ≤ k → k < i + n + 7 → 97 ≤ tx k ∧ tx k ≤ 122) → 387420489 ≤ wdN tx i (n + 7) := by
  intro n
  induction n with
  | zero =>
    intro h2
    have h0 := h2 i (by omega) (by omega)
    have h3 := h2 (i + 1) (by omega) (by omega)
    have h4 := h2 (i + 2) (by omega) (by omega)
    have h5 := h2 (i + 3) (by omega) (by omega)
    have h6 := h2 (i + 4) (by omega) (by omega)
    have h7 := h2 (i + 5) (by omega) (by omega)
    have h8 := h2 (i + 6) (by omega) (by omega)
    have w1 := wd_1 tx i
    have w2 := wd_2 (tx := tx) (i := i) h0 
    have w3 := wd_3 (tx := tx) (i := i) h0 h3
    have w4 := wd_4 (tx := tx) (i := i) h0 h3 h4
    have w5 := wd_5 (tx := tx) (i := i) h0 h3 h4 h5
    have w6 := wd_6 (tx := tx) (i := i) h0 h3 h4 h5 h6
    have w7 := wd_7 (tx := tx) (i := i) h0 h3 h4 h5 h6 h7
    show 387420489 ≤ wdN tx i 7
    omega
  | succ n ih =>
    intro h2
    have := ih (fun k a b => h2 k a (by omega))
    have h3 := h2 (i + (n + 7 : Nat)) (by omega) (by omega)
    show 387420489 ≤ (if 1000000000 < wdN tx i (n + 7) then wdN tx i (n + 7) else 27 * wdN tx i (n + 7) + tx (i + ((n + 7 : Nat) : Int)) - 96)
    split <;> omega
theorem wv {tx : Int → Int} {i e : Int} (he : i ≤ e) (h : ∀ k : Int, i ≤ k → k < e → 97 ≤ tx k ∧ tx k ≤ 122) : (7 ≤ e - i → 387420489 ≤ wrd tx i e) ∧ (e - i = 0 → wrd tx i e = 0) ∧ (e - i = 1 → wrd tx i e = tx i - 96 ∧ (97 ≤ tx i ∧ tx i ≤ 122)) ∧ (e - i = 2 → wrd tx i e = 27 * (tx i - 96) + tx (i + 1) - 96 ∧ (97 ≤ tx i ∧ tx i ≤ 122) ∧ (97 ≤ tx (i + 1) ∧ tx (i + 1) ≤ 122)) ∧ (e - i = 3 → wrd tx i e = 27 * (27 * (tx i - 96) + tx (i + 1) - 96) + tx (i + 2) - 96 ∧ (97 ≤ tx i ∧ tx i ≤ 122) ∧ (97 ≤ tx (i + 1) ∧ tx (i + 1) ≤ 122) ∧ (97 ≤ tx (i + 2) ∧ tx (i + 2) ≤ 122)) ∧ (e - i = 4 → wrd tx i e = 27 * (27 * (27 * (tx i - 96) + tx (i + 1) - 96) + tx (i + 2) - 96) + tx (i + 3) - 96 ∧ (97 ≤ tx i ∧ tx i ≤ 122) ∧ (97 ≤ tx (i + 1) ∧ tx (i + 1) ≤ 122) ∧ (97 ≤ tx (i + 2) ∧ tx (i + 2) ≤ 122) ∧ (97 ≤ tx (i + 3) ∧ tx (i + 3) ≤ 122)) ∧ (e - i = 5 → wrd tx i e = 27 * (27 * (27 * (27 * (tx i - 96) + tx (i + 1) - 96) + tx (i + 2) - 96) + tx (i + 3) - 96) + tx (i + 4) - 96 ∧ (97 ≤ tx i ∧ tx i ≤ 122) ∧ (97 ≤ tx (i + 1) ∧ tx (i + 1) ≤ 122) ∧ (97 ≤ tx (i + 2) ∧ tx (i + 2) ≤ 122) ∧ (97 ≤ tx (i + 3) ∧ tx (i + 3) ≤ 122) ∧ (97 ≤ tx (i + 4) ∧ tx (i + 4) ≤ 122)) ∧ (e - i = 6 → wrd tx i e = 27 * (27 * (27 * (27 * (27 * (tx i - 96) + tx (i + 1) - 96) + tx (i + 2) - 96) + tx (i + 3) - 96) + tx (i + 4) - 96) + tx (i + 5) - 96 ∧ (97 ≤ tx i ∧ tx i ≤ 122) ∧ (97 ≤ tx (i + 1) ∧ tx (i + 1) ≤ 122) ∧ (97 ≤ tx (i + 2) ∧ tx (i + 2) ≤ 122) ∧ (97 ≤ tx (i + 3) ∧ tx (i + 3) ≤ 122) ∧ (97 ≤ tx (i + 4) ∧ tx (i + 4) ≤ 122) ∧ (97 ≤ tx (i + 5) ∧ tx (i + 5) ≤ 122)) := by
  obtain ⟨n, hn⟩ := Int.eq_ofNat_of_zero_le (show 0 ≤ e - i by omega)
  have e1 : e = i + n := by omega
  subst e1
  have e2 : (i + (n : Int) - i).toNat = n := by omega
  refine ⟨fun q => ?_, fun q => ?_, fun q => ?_, fun q => ?_, fun q => ?_, fun q => ?_, fun q => ?_, fun q => ?_⟩
  · obtain ⟨m, rfl⟩ : ∃ m, n = m + 7 := ⟨n - 7, by omega⟩
    have b := wdN_big (tx := tx) (i := i) m (fun k a b => h k a (by omega))
    unfold wrd
    rw [e2]
    exact b
  · have e3 : n = 0 := by omega
    subst e3
    unfold wrd
    rw [e2]
    rfl
  · have e3 : n = 1 := by omega
    subst e3
    have w1 := wd_1 tx i
    have h0 := h i (by omega) (by omega)
    unfold wrd
    rw [e2]
    exact ⟨by omega, h0⟩
  · have e3 : n = 2 := by omega
    subst e3
    have w1 := wd_1 tx i
    have h0 := h i (by omega) (by omega)
    have h1 := h (i + 1) (by omega) (by omega)
    have w2 := wd_2 (tx := tx) (i := i) h0
    unfold wrd
    rw [e2]
    exact ⟨by omega, h0, h1⟩
  · have e3 : n = 3 := by omega
    subst e3
    have w1 := wd_1 tx i
    have h0 := h i (by omega) (by omega)
    have h1 := h (i + 1) (by omega) (by omega)
    have h2 := h (i + 2) (by omega) (by omega)
    have w2 := wd_2 (tx := tx) (i := i) h0
    have w3 := wd_3 (tx := tx) (i := i) h0 h1
    unfold wrd
    rw [e2]
    exact ⟨by omega, h0, h1, h2⟩
  · have e3 : n = 4 := by omega
    subst e3
    have w1 := wd_1 tx i
    have h0 := h i (by omega) (by omega)
    have h1 := h (i + 1) (by omega) (by omega)
    have h2 := h (i + 2) (by omega) (by omega)
    have h3 := h (i + 3) (by omega) (by omega)
    have w2 := wd_2 (tx := tx) (i := i) h0
    have w3 := wd_3 (tx := tx) (i := i) h0 h1
    have w4 := wd_4 (tx := tx) (i := i) h0 h1 h2
    unfold wrd
    rw [e2]
    exact ⟨by omega, h0, h1, h2, h3⟩
  · have e3 : n = 5 := by omega
    subst e3
    have w1 := wd_1 tx i
    have h0 := h i (by omega) (by omega)
    have h1 := h (i + 1) (by omega) (by omega)
    have h2 := h (i + 2) (by omega) (by omega)
    have h3 := h (i + 3) (by omega) (by omega)
    have h4 := h (i + 4) (by omega) (by omega)
    have w2 := wd_2 (tx := tx) (i := i) h0
    have w3 := wd_3 (tx := tx) (i := i) h0 h1
    have w4 := wd_4 (tx := tx) (i := i) h0 h1 h2
    have w5 := wd_5 (tx := tx) (i := i) h0 h1 h2 h3
    unfold wrd
    rw [e2]
    exact ⟨by omega, h0, h1, h2, h3, h4⟩
  · have e3 : n = 6 := by omega
    subst e3
    have w1 := wd_1 tx i
    have h0 := h i (by omega) (by omega)
    have h1 := h (i + 1) (by omega) (by omega)
    have h2 := h (i + 2) (by omega) (by omega)
    have h3 := h (i + 3) (by omega) (by omega)
    have h4 := h (i + 4) (by omega) (by omega)
    have h5 := h (i + 5) (by omega) (by omega)
    have w2 := wd_2 (tx := tx) (i := i) h0
    have w3 := wd_3 (tx := tx) (i := i) h0 h1
    have w4 := wd_4 (tx := tx) (i := i) h0 h1 h2
    have w5 := wd_5 (tx := tx) (i := i) h0 h1 h2 h3
    have w6 := wd_6 (tx := tx) (i := i) h0 h1 h2 h3 h4
    unfold wrd
    rw [e2]
    exact ⟨by omega, h0, h1, h2, h3, h4, h5⟩
theorem wq_lost {tx : Int → Int} {i e : Int} (he : i ≤ e) (h : ∀ k : Int, i ≤ k → k < e → 97 ≤ tx k ∧ tx k ≤ 122) : wrd tx i e = 247664 ↔ (e - i = 4 ∧ tx i = 108 ∧ tx (i + 1) = 111 ∧ tx (i + 2) = 115 ∧ tx (i + 3) = 116) := by
  obtain ⟨v7, v0, v1, v2, v3, v4, v5, v6⟩ := wv he h
  by_cases hL : e - i = 4
  · have v := v4 hL
    clear v7 v0 v1 v2 v3 v4 v5 v6
    exact ⟨fun q => by omega, fun q => by omega⟩
  · refine ⟨fun q => absurd q ?_, fun q => absurd q.1 hL⟩
    rcases (show e - i = 0 ∨ e - i = 1 ∨ e - i = 2 ∨ e - i = 3 ∨ e - i = 4 ∨ e - i = 5 ∨ e - i = 6 ∨ 7 ≤ e - i by omega) with g | g | g | g | g | g | g | g
    · have v := v0 g; omega
    · have v := v1 g; clear v7 v0 v1 v2 v3 v4 v5 v6; omega
    · have v := v2 g; clear v7 v0 v1 v2 v3 v4 v5 v6; omega
    · have v := v3 g; clear v7 v0 v1 v2 v3 v4 v5 v6; omega
    · have v := v4 g; clear v7 v0 v1 v2 v3 v4 v5 v6; omega
    · have v := v5 g; clear v7 v0 v1 v2 v3 v4 v5 v6; omega
    · have v := v6 g; clear v7 v0 v1 v2 v3 v4 v5 v6; omega
    · have v := v7 g; clear v7 v0 v1 v2 v3 v4 v5 v6; omega
theorem wq_state {tx : Int → Int} {i e : Int} (he : i ≤ e) (h : ∀ k : Int, i ≤ k → k < e → 97 ≤ tx k ∧ tx k ≤ 122) : wrd tx i e = 10492313 ↔ (e - i = 5 ∧ tx i = 115 ∧ tx (i + 1) = 116 ∧ tx (i + 2) = 97 ∧ tx (i + 3) = 116 ∧ tx (i + 4) = 101) := by
  obtain ⟨v7, v0, v1, v2, v3, v4, v5, v6⟩ := wv he h
  by_cases hL : e - i = 5
  · have v := v5 hL
    clear v7 v0 v1 v2 v3 v4 v5 v6
    exact ⟨fun q => by omega, fun q => by omega⟩
  · refine ⟨fun q => absurd q ?_, fun q => absurd q.1 hL⟩
    rcases (show e - i = 0 ∨ e - i = 1 ∨ e - i = 2 ∨ e - i = 3 ∨ e - i = 4 ∨ e - i = 5 ∨ e - i = 6 ∨ 7 ≤ e - i by omega) with g | g | g | g | g | g | g | g
    · have v := v0 g; omega
    · have v := v1 g; clear v7 v0 v1 v2 v3 v4 v5 v6; omega
    · have v := v2 g; clear v7 v0 v1 v2 v3 v4 v5 v6; omega
    · have v := v3 g; clear v7 v0 v1 v2 v3 v4 v5 v6; omega
    · have v := v4 g; clear v7 v0 v1 v2 v3 v4 v5 v6; omega
    · have v := v5 g; clear v7 v0 v1 v2 v3 v4 v5 v6; omega
    · have v := v6 g; clear v7 v0 v1 v2 v3 v4 v5 v6; omega
    · have v := v7 g; clear v7 v0 v1 v2 v3 v4 v5 v6; omega
theorem wq_wet {tx : Int → Int} {i e : Int} (he : i ≤ e) (h : ∀ k : Int, i ≤ k → k < e → 97 ≤ tx k ∧ tx k ≤ 122) : wrd tx i e = 16922 ↔ (e - i = 3 ∧ tx i = 119 ∧ tx (i + 1) = 101 ∧ tx (i + 2) = 116) := by
  obtain ⟨v7, v0, v1, v2, v3, v4, v5, v6⟩ := wv he h
  by_cases hL : e - i = 3
  · have v := v3 hL
    clear v7 v0 v1 v2 v3 v4 v5 v6
    exact ⟨fun q => by omega, fun q => by omega⟩
  · refine ⟨fun q => absurd q ?_, fun q => absurd q.1 hL⟩
    rcases (show e - i = 0 ∨ e - i = 1 ∨ e - i = 2 ∨ e - i = 3 ∨ e - i = 4 ∨ e - i = 5 ∨ e - i = 6 ∨ 7 ≤ e - i by omega) with g | g | g | g | g | g | g | g
    · have v := v0 g; omega
    · have v := v1 g; clear v7 v0 v1 v2 v3 v4 v5 v6; omega
    · have v := v2 g; clear v7 v0 v1 v2 v3 v4 v5 v6; omega
    · have v := v3 g; clear v7 v0 v1 v2 v3 v4 v5 v6; omega
    · have v := v4 g; clear v7 v0 v1 v2 v3 v4 v5 v6; omega
    · have v := v5 g; clear v7 v0 v1 v2 v3 v4 v5 v6; omega
    · have v := v6 g; clear v7 v0 v1 v2 v3 v4 v5 v6; omega
    · have v := v7 g; clear v7 v0 v1 v2 v3 v4 v5 v6; omega
theorem wq_side {tx : Int → Int} {i e : Int} (he : i ≤ e) (h : ∀ k : Int, i ≤ k → k < e → 97 ≤ tx k ∧ tx k ≤ 122) : wrd tx i e = 380651 ↔ (e - i = 4 ∧ tx i = 115 ∧ tx (i + 1) = 105 ∧ tx (i + 2) = 100 ∧ tx (i + 3) = 101) := by
  obtain ⟨v7, v0, v1, v2, v3, v4, v5, v6⟩ := wv he h
  by_cases hL : e - i = 4
  · have v := v4 hL
    clear v7 v0 v1 v2 v3 v4 v5 v6
    exact ⟨fun q => by omega, fun q => by omega⟩
  · refine ⟨fun q => absurd q ?_, fun q => absurd q.1 hL⟩
    rcases (show e - i = 0 ∨ e - i = 1 ∨ e - i = 2 ∨ e - i = 3 ∨ e - i = 4 ∨ e - i = 5 ∨ e - i = 6 ∨ 7 ≤ e - i by omega) with g | g | g | g | g | g | g | g
    · have v := v0 g; omega
    · have v := v1 g; clear v7 v0 v1 v2 v3 v4 v5 v6; omega
    · have v := v2 g; clear v7 v0 v1 v2 v3 v4 v5 v6; omega
    · have v := v3 g; clear v7 v0 v1 v2 v3 v4 v5 v6; omega
    · have v := v4 g; clear v7 v0 v1 v2 v3 v4 v5 v6; omega
    · have v := v5 g; clear v7 v0 v1 v2 v3 v4 v5 v6; omega
    · have v := v6 g; clear v7 v0 v1 v2 v3 v4 v5 v6; omega
    · have v := v7 g; clear v7 v0 v1 v2 v3 v4 v5 v6; omega
theorem wq_stone {tx : Int → Int} {i e : Int} (he : i ≤ e) (h : ∀ k : Int, i ≤ k → k < e → 97 ≤ tx k ∧ tx k ≤ 122) : wrd tx i e = 10502357 ↔ (e - i = 5 ∧ tx i = 115 ∧ tx (i + 1) = 116 ∧ tx (i + 2) = 111 ∧ tx (i + 3) = 110 ∧ tx (i + 4) = 101) := by
  obtain ⟨v7, v0, v1, v2, v3, v4, v5, v6⟩ := wv he h
  by_cases hL : e - i = 5
  · have v := v5 hL
    clear v7 v0 v1 v2 v3 v4 v5 v6
    exact ⟨fun q => by omega, fun q => by omega⟩
  · refine ⟨fun q => absurd q ?_, fun q => absurd q.1 hL⟩
    rcases (show e - i = 0 ∨ e - i = 1 ∨ e - i = 2 ∨ e - i = 3 ∨ e - i = 4 ∨ e - i = 5 ∨ e - i = 6 ∨ 7 ≤ e - i by omega) with g | g | g | g | g | g | g | g
    · have v := v0 g; omega
    · have v := v1 g; clear v7 v0 v1 v2 v3 v4 v5 v6; omega
    · have v := v2 g; clear v7 v0 v1 v2 v3 v4 v5 v6; omega
    · have v := v3 g; clear v7 v0 v1 v2 v3 v4 v5 v6; omega
    · have v := v4 g; clear v7 v0 v1 v2 v3 v4 v5 v6; omega
    · have v := v5 g; clear v7 v0 v1 v2 v3 v4 v5 v6; omega
    · have v := v6 g; clear v7 v0 v1 v2 v3 v4 v5 v6; omega
    · have v := v7 g; clear v7 v0 v1 v2 v3 v4 v5 v6; omega
theorem wq_age {tx : Int → Int} {i e : Int} (he : i ≤ e) (h : ∀ k : Int, i ≤ k → k < e → 97 ≤ tx k ∧ tx k ≤ 122) : wrd tx i e = 923 ↔ (e - i = 3 ∧ tx i = 97 ∧ tx (i + 1) = 103 ∧ tx (i + 2) = 101) := by
  obtain ⟨v7, v0, v1, v2, v3, v4, v5, v6⟩ := wv he h
  by_cases hL : e - i = 3
  · have v := v3 hL
    clear v7 v0 v1 v2 v3 v4 v5 v6
    exact ⟨fun q => by omega, fun q => by omega⟩
  · refine ⟨fun q => absurd q ?_, fun q => absurd q.1 hL⟩
    rcases (show e - i = 0 ∨ e - i = 1 ∨ e - i = 2 ∨ e - i = 3 ∨ e - i = 4 ∨ e - i = 5 ∨ e - i = 6 ∨ 7 ≤ e - i by omega) with g | g | g | g | g | g | g | g
    · have v := v0 g; omega
    · have v := v1 g; clear v7 v0 v1 v2 v3 v4 v5 v6; omega
    · have v := v2 g; clear v7 v0 v1 v2 v3 v4 v5 v6; omega
    · have v := v3 g; clear v7 v0 v1 v2 v3 v4 v5 v6; omega
    · have v := v4 g; clear v7 v0 v1 v2 v3 v4 v5 v6; omega
    · have v := v5 g; clear v7 v0 v1 v2 v3 v4 v5 v6; omega
    · have v := v6 g; clear v7 v0 v1 v2 v3 v4 v5 v6; omega
    · have v := v7 g; clear v7 v0 v1 v2 v3 v4 v5 v6; omega
theorem wq_harm {tx : Int → Int} {i e : Int} (he : i ≤ e) (h : ∀ k : Int, i ≤ k → k < e → 97 ≤ tx k ∧ tx k ≤ 122) : wrd tx i e = 158692 ↔ (e - i = 4 ∧ tx i = 104 ∧ tx (i + 1) = 97 ∧ tx (i + 2) = 114 ∧ tx (i + 3) = 109) := by
  obtain ⟨v7, v0, v1, v2, v3, v4, v5, v6⟩ := wv he h
  by_cases hL : e - i = 4
  · have v := v4 hL
    clear v7 v0 v1 v2 v3 v4 v5 v6
    exact ⟨fun q => by omega, fun q => by omega⟩
  · refine ⟨fun q => absurd q ?_, fun q => absurd q.1 hL⟩
    rcases (show e - i = 0 ∨ e - i = 1 ∨ e - i = 2 ∨ e - i = 3 ∨ e - i = 4 ∨ e - i = 5 ∨ e - i = 6 ∨ 7 ≤ e - i by omega) with g | g | g | g | g | g | g | g
    · have v := v0 g; omega
    · have v := v1 g; clear v7 v0 v1 v2 v3 v4 v5 v6; omega
    · have v := v2 g; clear v7 v0 v1 v2 v3 v4 v5 v6; omega
    · have v := v3 g; clear v7 v0 v1 v2 v3 v4 v5 v6; omega
    · have v := v4 g; clear v7 v0 v1 v2 v3 v4 v5 v6; omega
    · have v := v5 g; clear v7 v0 v1 v2 v3 v4 v5 v6; omega
    · have v := v6 g; clear v7 v0 v1 v2 v3 v4 v5 v6; omega
    · have v := v7 g; clear v7 v0 v1 v2 v3 v4 v5 v6; omega
theorem wq_leave {tx : Int → Int} {i e : Int} (he : i ≤ e) (h : ∀ k : Int, i ≤ k → k < e → 97 ≤ tx k ∧ tx k ≤ 122) : wrd tx i e = 6477035 ↔ (e - i = 5 ∧ tx i = 108 ∧ tx (i + 1) = 101 ∧ tx (i + 2) = 97 ∧ tx (i + 3) = 118 ∧ tx (i + 4) = 101) := by
  obtain ⟨v7, v0, v1, v2, v3, v4, v5, v6⟩ := wv he h
  by_cases hL : e - i = 5
  · have v := v5 hL
    clear v7 v0 v1 v2 v3 v4 v5 v6
    exact ⟨fun q => by omega, fun q => by omega⟩
  · refine ⟨fun q => absurd q ?_, fun q => absurd q.1 hL⟩
    rcases (show e - i = 0 ∨ e - i = 1 ∨ e - i = 2 ∨ e - i = 3 ∨ e - i = 4 ∨ e - i = 5 ∨ e - i = 6 ∨ 7 ≤ e - i by omega) with g | g | g | g | g | g | g | g
    · have v := v0 g; omega
    · have v := v1 g; clear v7 v0 v1 v2 v3 v4 v5 v6; omega
    · have v := v2 g; clear v7 v0 v1 v2 v3 v4 v5 v6; omega
    · have v := v3 g; clear v7 v0 v1 v2 v3 v4 v5 v6; omega
    · have v := v4 g; clear v7 v0 v1 v2 v3 v4 v5 v6; omega
    · have v := v5 g; clear v7 v0 v1 v2 v3 v4 v5 v6; omega
    · have v := v6 g; clear v7 v0 v1 v2 v3 v4 v5 v6; omega
    · have v := v7 g; clear v7 v0 v1 v2 v3 v4 v5 v6; omega
theorem wq_mend {tx : Int → Int} {i e : Int} (he : i ≤ e) (h : ∀ k : Int, i ≤ k → k < e → 97 ≤ tx k ∧ tx k ≤ 122) : wrd tx i e = 259906 ↔ (e - i = 4 ∧ tx i = 109 ∧ tx (i + 1) = 101 ∧ tx (i + 2) = 110 ∧ tx (i + 3) = 100) := by
  obtain ⟨v7, v0, v1, v2, v3, v4, v5, v6⟩ := wv he h
  by_cases hL : e - i = 4
  · have v := v4 hL
    clear v7 v0 v1 v2 v3 v4 v5 v6
    exact ⟨fun q => by omega, fun q => by omega⟩
  · refine ⟨fun q => absurd q ?_, fun q => absurd q.1 hL⟩
    rcases (show e - i = 0 ∨ e - i = 1 ∨ e - i = 2 ∨ e - i = 3 ∨ e - i = 4 ∨ e - i = 5 ∨ e - i = 6 ∨ 7 ≤ e - i by omega) with g | g | g | g | g | g | g | g
    · have v := v0 g; omega
    · have v := v1 g; clear v7 v0 v1 v2 v3 v4 v5 v6; omega
    · have v := v2 g; clear v7 v0 v1 v2 v3 v4 v5 v6; omega
    · have v := v3 g; clear v7 v0 v1 v2 v3 v4 v5 v6; omega
    · have v := v4 g; clear v7 v0 v1 v2 v3 v4 v5 v6; omega
    · have v := v5 g; clear v7 v0 v1 v2 v3 v4 v5 v6; omega
    · have v := v6 g; clear v7 v0 v1 v2 v3 v4 v5 v6; omega
    · have v := v7 g; clear v7 v0 v1 v2 v3 v4 v5 v6; omega
theorem wq_change {tx : Int → Int} {i e : Int} (he : i ≤ e) (h : ∀ k : Int, i ≤ k → k < e → 97 ≤ tx k ∧ tx k ≤ 122) : wrd tx i e = 47328332 ↔ (e - i = 6 ∧ tx i = 99 ∧ tx (i + 1) = 104 ∧ tx (i + 2) = 97 ∧ tx (i + 3) = 110 ∧ tx (i + 4) = 103 ∧ tx (i + 5) = 101) := by
  obtain ⟨v7, v0, v1, v2, v3, v4, v5, v6⟩ := wv he h
  by_cases hL : e - i = 6
  · have v := v6 hL
    clear v7 v0 v1 v2 v3 v4 v5 v6
    exact ⟨fun q => by omega, fun q => by omega⟩
  · refine ⟨fun q => absurd q ?_, fun q => absurd q.1 hL⟩
    rcases (show e - i = 0 ∨ e - i = 1 ∨ e - i = 2 ∨ e - i = 3 ∨ e - i = 4 ∨ e - i = 5 ∨ e - i = 6 ∨ 7 ≤ e - i by omega) with g | g | g | g | g | g | g | g
    · have v := v0 g; omega
    · have v := v1 g; clear v7 v0 v1 v2 v3 v4 v5 v6; omega
    · have v := v2 g; clear v7 v0 v1 v2 v3 v4 v5 v6; omega
    · have v := v3 g; clear v7 v0 v1 v2 v3 v4 v5 v6; omega
    · have v := v4 g; clear v7 v0 v1 v2 v3 v4 v5 v6; omega
    · have v := v5 g; clear v7 v0 v1 v2 v3 v4 v5 v6; omega
    · have v := v6 g; clear v7 v0 v1 v2 v3 v4 v5 v6; omega
    · have v := v7 g; clear v7 v0 v1 v2 v3 v4 v5 v6; omega
theorem if_iff {p q : Prop} [Decidable p] [Decidable q] {a b c : Int} (h : p ↔ q) (hb : b = c) : (if p then a else b) = if q then a else c := by
  by_cases x : p
  · rw [if_pos x, if_pos (h.1 x)]
  · rw [if_neg x, if_neg (fun y => x (h.2 y)), hb]
theorem nmW_nmI {tx : Int → Int} {i e : Int} (he : i ≤ e) (h : ∀ k : Int, i ≤ k → k < e → 97 ≤ tx k ∧ tx k ≤ 122) : nmW (wrd tx i e) = nmI tx i e := if_iff (wq_lost he h) (if_iff (wq_state he h) (if_iff (wq_wet he h) (if_iff (wq_side he h) (if_iff (wq_stone he h) (if_iff (wq_age he h) (if_iff (wq_harm he h) (rfl)))))))
theorem acW_acI {tx : Int → Int} {i e : Int} (he : i ≤ e) (h : ∀ k : Int, i ≤ k → k < e → 97 ≤ tx k ∧ tx k ≤ 122) : acW (wrd tx i e) = acI tx i e := if_iff (wq_leave he h) (if_iff (wq_mend he h) (if_iff (wq_change he h) (rfl)))
