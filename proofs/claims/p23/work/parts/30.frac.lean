/-! PURE: fractions in least terms -/
theorem gc_step {x y : Int} (hx : 0 ≤ x) (hy : 0 ≤ y) : Int.gcd y (x % y) = Int.gcd x y := by
  obtain ⟨m, rfl⟩ := Int.eq_ofNat_of_zero_le hx
  obtain ⟨n, rfl⟩ := Int.eq_ofNat_of_zero_le hy
  show Nat.gcd n (m % n) = Nat.gcd m n
  rw [Nat.gcd_comm m n, Nat.gcd_rec n m, Nat.gcd_comm]
theorem gc_end (x : Int) (hx : 0 ≤ x) : (Int.gcd x 0 : Int) = x := by
  obtain ⟨m, rfl⟩ := Int.eq_ofNat_of_zero_le hx
  show ((Nat.gcd m 0 : Nat) : Int) = m
  rw [Nat.gcd_zero_right]
theorem gc_abs (a b : Int) : Int.gcd (if a < 0 then -a else a) b = Int.gcd a b := by
  split
  · rw [Int.neg_gcd]
  · rfl
theorem gc_pos {a b : Int} (hb : 0 < b) : 0 < (Int.gcd a b : Int) := by
  have : 0 < Int.gcd a b := Nat.gcd_pos_of_pos_right _ (by omega)
  omega
theorem gc_le {a b : Int} (hb : 0 < b) : (Int.gcd a b : Int) ≤ b := by
  have : Int.gcd a b ≤ b.natAbs := Nat.gcd_le_right _ (by omega)
  omega
def nU (u l : Int) : Int := u / (Int.gcd u l : Int)
def nL (u l : Int) : Int := l / (Int.gcd u l : Int)
theorem nU_mul (u l : Int) : (Int.gcd u l : Int) * nU u l = u := Int.mul_ediv_cancel' (Int.gcd_dvd_left ..)
theorem nL_mul (u l : Int) : (Int.gcd u l : Int) * nL u l = l := Int.mul_ediv_cancel' (Int.gcd_dvd_right ..)
theorem nL_pos {u l : Int} (h : 0 < l) : 0 < nL u l := by
  have h1 := nL_mul u l
  have h2 := gc_pos (a := u) h
  exact Int.pos_of_mul_pos_right (by rw [h1]; exact h) h2
theorem nL_le {u l : Int} (h : 0 < l) : nL u l ≤ l := by
  have h1 := nL_mul u l
  have h2 := gc_pos (a := u) h
  have h3 := nL_pos (u := u) h
  have h4 := Int.mul_le_mul (a := 1) (b := nL u l) (c := (Int.gcd u l : Int)) (d := nL u l) (by omega) (Int.le_refl _) (by omega) (by omega)
  omega
theorem nU_bd {u l K : Int} (h : 0 < l) (hk : -(K * l) ≤ u ∧ u ≤ K * l) : -(K * nL u l) ≤ nU u l ∧ nU u l ≤ K * nL u l := by
  have h1 := nL_mul u l
  have h2 := nU_mul u l
  have h3 := gc_pos (a := u) h
  generalize (Int.gcd u l : Int) = g at h1 h2 h3
  generalize nL u l = b at h1 ⊢
  generalize nU u l = a at h2 ⊢
  subst h1; subst h2
  constructor
  · refine Int.le_of_mul_le_mul_left (a := g) ?_ h3
    have : g * -(K * b) = -(K * (g * b)) := by grind
    omega
  · refine Int.le_of_mul_le_mul_left (a := g) ?_ h3
    have : g * (K * b) = K * (g * b) := by grind
    omega
theorem nf_uniq {u l u' l' : Int} (hl : 0 < l) (hl' : 0 < l') (h : u * l' = u' * l) : nU u l = nU u' l' ∧ nL u l = nL u' l' := by
  have a1 := nU_mul u l
  have a2 := nL_mul u l
  have b1 := nU_mul u' l'
  have b2 := nL_mul u' l'
  have ga := gc_pos (a := u) hl
  have gb := gc_pos (a := u') hl'
  have pa := nL_pos (u := u) hl
  have pb := nL_pos (u := u') hl'
  have hg : (Int.gcd u l : Int) * l' = (Int.gcd u' l' : Int) * l := by
    have e1 : Int.gcd (u * l') (l * l') = Int.gcd u l * l'.natAbs := Int.gcd_mul_right ..
    have e2 : Int.gcd (u' * l) (l' * l) = Int.gcd u' l' * l.natAbs := Int.gcd_mul_right ..
    rw [h, Int.mul_comm l l', e2] at e1
    have e3 : ((Int.gcd u' l' * l.natAbs : Nat) : Int) = ((Int.gcd u l * l'.natAbs : Nat) : Int) := by rw [e1]
    rw [Int.natCast_mul, Int.natCast_mul, show ((l.natAbs : Nat) : Int) = l by omega, show ((l'.natAbs : Nat) : Int) = l' by omega] at e3
    omega
  generalize (Int.gcd u l : Int) = g at *
  generalize (Int.gcd u' l' : Int) = g' at *
  generalize nU u l = p at *
  generalize nL u l = q at *
  generalize nU u' l' = p' at *
  generalize nL u' l' = q' at *
  subst a1; subst a2; subst b1; subst b2
  have hq : q = q' := by
    have e : (g * g') * q = (g * g') * q' := by grind
    exact Int.eq_of_mul_eq_mul_left (by have := Int.mul_pos ga gb; omega) e
  subst hq
  refine ⟨?_, rfl⟩
  have e : (g * g' * q) * p = (g * g' * q) * p' := by grind
  have hp := Int.mul_pos (Int.mul_pos ga gb) pa
  exact Int.eq_of_mul_eq_mul_left (by omega) e
theorem td_U {u l : Int} (h : 0 < l) : Int.tdiv u (Int.gcd u l : Int) = nU u l := by
  have h1 := nU_mul u l
  have h3 := gc_pos (a := u) h
  have e : Int.tdiv ((Int.gcd u l : Int) * nU u l) (Int.gcd u l : Int) = nU u l := Int.mul_tdiv_cancel_left _ (by omega)
  rw [h1] at e
  exact e
theorem td_L {u l : Int} (h : 0 < l) : Int.tdiv l (Int.gcd u l : Int) = nL u l := by
  have h1 := nL_mul u l
  have h3 := gc_pos (a := u) h
  have e : Int.tdiv ((Int.gcd u l : Int) * nL u l) (Int.gcd u l : Int) = nL u l := Int.mul_tdiv_cancel_left _ (by omega)
  rw [h1] at e
  exact e
theorem n_one {u l : Int} (h : (Int.gcd u l : Int) = 1) : nU u l = u ∧ nL u l = l := by
  have h1 := nU_mul u l
  have h2 := nL_mul u l
  rw [h] at h1 h2
  omega
theorem mod_half {a b : Int} (hb : 0 < b) (h : b < a) : 2 * (a % b) < a := by
  have h1 := Int.emod_lt_of_pos a hb
  have h2 := Int.emod_add_mul_ediv a b
  have h3 : 1 ≤ a / b := by
    have := Int.le_ediv_of_mul_le (a := 1) (b := a) hb (by omega)
    exact this
  have h4 := Int.mul_le_mul (a := b) (b := 1) (c := b) (d := a / b) (Int.le_refl _) h3 (by omega) (by omega)
  omega
/-- the steps that are left: t halvings -/
theorem eu_odd {a b : Int} {t : Nat} (hb : 0 < b) (h : b < a) (ha : a < 2 ^ t) : 1 ≤ t ∧ a % b < 2 ^ (t - 1) := by
  have hm := mod_half hb h
  cases t with
  | zero => simp at ha; omega
  | succ t =>
    refine ⟨by omega, ?_⟩
    rw [Nat.add_sub_cancel]
    have : (2 : Int) ^ (t + 1) = 2 ^ t * 2 := by rw [Int.pow_succ]
    omega
/-- sums over a state's four hands -/
def fD (dd : Int → Int) : Nat → Int
  | 0 => 1
  | n + 1 => fD dd n * dd n
def fN (dd s t : Int → Int) (g : Int) : Nat → Int
  | 0 => g
  | n + 1 => fN dd s t g n * dd n - t n * s n * fD dd n
def frD (dd : Int → Int) (i : Int) : Int := fD dd i.toNat
def frN (dd s t : Int → Int) (g i : Int) : Int := fN dd s t g i.toNat
theorem frD_0 (dd : Int → Int) : frD dd 0 = 1 := rfl
theorem frN_0 (dd s t : Int → Int) (g : Int) : frN dd s t g 0 = g := rfl
theorem frD_s {dd : Int → Int} {i : Int} (h : 0 ≤ i) : frD dd (i + 1) = frD dd i * dd i := by
  unfold frD
  obtain ⟨n, rfl⟩ := Int.eq_ofNat_of_zero_le h
  show fD dd (n + 1) = _
  rw [fD]
  rfl
theorem frN_s {dd s t : Int → Int} {g i : Int} (h : 0 ≤ i) : frN dd s t g (i + 1) = frN dd s t g i * dd i - t i * s i * frD dd i := by
  unfold frN frD
  obtain ⟨n, rfl⟩ := Int.eq_ofNat_of_zero_le h
  show fN dd s t g (n + 1) = _
  rw [fN]
  rfl
/-- one hand more, a fraction in least terms taken off -/
theorem fr_sub {N D up low : Int} (hD : 0 < D) (hl : 0 < low) : nU (nU N D * low - up * nL N D) (nL N D * low) = nU (N * low - up * D) (D * low) ∧ nL (nU N D * low - up * nL N D) (nL N D * low) = nL (N * low - up * D) (D * low) := by
  have h1 := nU_mul N D
  have h2 := nL_mul N D
  have hp := nL_pos (u := N) hD
  refine nf_uniq (Int.mul_pos hp hl) (Int.mul_pos hD hl) ?_
  generalize (Int.gcd N D : Int) = g at h1 h2
  generalize nU N D = a at *
  generalize nL N D = b at *
  subst h1; subst h2
  grind
theorem fr_div {N D m : Int} (hD : 0 < D) (hm : 0 < m) : nU (nU N D) (nL N D * m) = nU N (D * m) ∧ nL (nU N D) (nL N D * m) = nL N (D * m) := by
  have h1 := nU_mul N D
  have h2 := nL_mul N D
  have hp := nL_pos (u := N) hD
  refine nf_uniq (Int.mul_pos hp hm) (Int.mul_pos hD hm) ?_
  generalize (Int.gcd N D : Int) = g at h1 h2
  generalize nU N D = a at *
  generalize nL N D = b at *
  subst h1; subst h2
  grind
theorem fr_skip {N D d : Int} (hD : 0 < D) (hd : 0 < d) : nU N D = nU (N * d - 0 * D) (D * d) ∧ nL N D = nL (N * d - 0 * D) (D * d) := by
  refine nf_uniq hD (Int.mul_pos hD hd) ?_
  grind
theorem frD_pos {dd : Int → Int} {n : Int} (h : ∀ k : Int, 0 ≤ k → k < n → 0 < dd k) : ∀ {i : Int}, 0 ≤ i → i ≤ n → 0 < frD dd i := by
  intro i h0
  obtain ⟨m, rfl⟩ := Int.eq_ofNat_of_zero_le h0
  clear h0
  induction m with
  | zero => intro _; rw [show ((0 : Nat) : Int) = 0 from rfl, frD_0]; omega
  | succ m ih =>
    intro h1
    have e : ((m + 1 : Nat) : Int) = (m : Int) + 1 := by omega
    rw [e] at h1 ⊢
    rw [frD_s (by omega)]
    exact Int.mul_pos (ih (by omega)) (h m (by omega) (by omega))
