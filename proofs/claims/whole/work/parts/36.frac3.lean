/-! PURE: the reference's fractions -/
theorem gc_div {a g : Int} (hg : 0 < g) (h : g ∣ a) : Int.tdiv a g = a / g := by
  obtain ⟨k, rfl⟩ := h
  rw [Int.mul_tdiv_cancel_left _ (by omega), Int.mul_ediv_cancel_left _ (by omega)]
/-- a fraction taken off so many times, as the reference does it -/
theorem fr_take {u l a b t : Int} (hl : 0 < l) (hb : 0 < b) {g n y : Int} (hg : g = (Int.gcd a b : Int)) (hn : n = Int.tdiv b g) (hy : y = (Int.gcd l n : Int)) :
    0 < g ∧ 0 < n ∧ n ≤ b ∧ 0 < y ∧ y ≤ n ∧ 0 < Int.tdiv n y ∧ Int.tdiv n y ≤ n ∧ 0 < Int.tdiv l y ∧ Int.tdiv l y ≤ l ∧ 0 < l * Int.tdiv n y ∧ l * Int.tdiv n y ≤ l * b ∧
    nU (u * Int.tdiv n y - Int.tdiv a g * t * Int.tdiv l y) (l * Int.tdiv n y) = nU (u * b - t * a * l) (l * b) ∧ nL (u * Int.tdiv n y - Int.tdiv a g * t * Int.tdiv l y) (l * Int.tdiv n y) = nL (u * b - t * a * l) (l * b) ∧
    (∀ K : Int, -(K * l) ≤ u ∧ u ≤ K * l → 0 ≤ K → -(K * (l * Int.tdiv n y)) ≤ u * Int.tdiv n y ∧ u * Int.tdiv n y ≤ K * (l * Int.tdiv n y)) ∧ (∀ M : Int, -M ≤ a ∧ a ≤ M → -M ≤ Int.tdiv a g ∧ Int.tdiv a g ≤ M) := by
  have g0 : 0 < g := by rw [hg]; exact gc_pos hb
  have a1 : g * (a / g) = a := by rw [hg]; exact nU_mul a b
  have b1 : g * (b / g) = b := by rw [hg]; exact nL_mul a b
  have ea : Int.tdiv a g = a / g := gc_div g0 ⟨a / g, a1.symm⟩
  have eb : Int.tdiv b g = b / g := gc_div g0 ⟨b / g, b1.symm⟩
  rw [eb] at hn
  rw [← hn] at b1
  rw [ea]
  have n0 : 0 < n := Int.pos_of_mul_pos_right (by rw [b1]; exact hb) g0
  have y0 : 0 < y := by rw [hy]; exact gc_pos n0
  have yn : y ≤ n := by rw [hy]; exact gc_le n0
  have l1 : y * (l / y) = l := by rw [hy]; exact nU_mul l n
  have n1 : y * (n / y) = n := by rw [hy]; exact nL_mul l n
  have el : Int.tdiv l y = l / y := gc_div y0 ⟨l / y, l1.symm⟩
  have en : Int.tdiv n y = n / y := gc_div y0 ⟨n / y, n1.symm⟩
  rw [el, en]
  have q0 : 0 < n / y := Int.pos_of_mul_pos_right (by rw [n1]; exact n0) y0
  have p0 : 0 < l / y := Int.pos_of_mul_pos_right (by rw [l1]; exact hl) y0
  have hM : ∀ M : Int, -M ≤ a ∧ a ≤ M → -M ≤ a / g ∧ a / g ≤ M := by
    intro M hM
    generalize a / g = a2 at a1 ⊢
    rcases Int.le_total 0 a2 with s | s
    · have := Int.mul_le_mul_of_nonneg_right (show 1 ≤ g by omega) s
      omega
    · have := Int.mul_le_mul_of_nonneg_right (show 1 ≤ g by omega) (show 0 ≤ -a2 by omega)
      have e := Int.mul_neg g a2
      rw [a1] at e
      omega
  generalize a / g = a2 at *
  generalize hq2 : n / y = n2 at *
  generalize hl2 : l / y = l2 at *
  have c1 : n ≤ b := by
    have := Int.mul_le_mul_of_nonneg_right (show 1 ≤ g by omega) (show 0 ≤ n by omega)
    omega
  have c2 : n2 ≤ n := by
    have := Int.mul_le_mul_of_nonneg_right (show 1 ≤ y by omega) (show 0 ≤ n2 by omega)
    omega
  have c3 : l2 ≤ l := by
    have := Int.mul_le_mul_of_nonneg_right (show 1 ≤ y by omega) (show 0 ≤ l2 by omega)
    omega
  have c4 := Int.mul_pos hl q0
  have c5 := Int.mul_le_mul_of_nonneg_left (show n2 ≤ b by omega) (show 0 ≤ l by omega)
  have c6 := nf_uniq (u := u * n2 - a2 * t * l2) (l := l * n2) (u' := u * b - t * a * l) (l' := l * b) c4 (Int.mul_pos hl hb) (by
    clear hg hn hy ea eb el en hM c1 c2 c3 c5 hq2 hl2
    subst a1; subst b1; subst l1; subst n1
    grind)
  refine ⟨g0, n0, c1, y0, yn, q0, c2, p0, c3, c4, c5, c6.1, c6.2, ?_, hM⟩
  intro K hK hK0
  have d1 := Int.mul_le_mul_of_nonneg_right hK.1 (show 0 ≤ n2 by omega)
  have d2 := Int.mul_le_mul_of_nonneg_right hK.2 (show 0 ≤ n2 by omega)
  have e1 : -(K * l) * n2 = -(K * (l * n2)) := by grind
  have e2 : K * l * n2 = K * (l * n2) := by grind
  omega
/-- of the reference's order: a hand's grades come first, then its habit goes off -/
theorem frN_lin {dd s t : Int → Int} {g : Int} : ∀ {i : Int}, 0 ≤ i → frN dd s t g i = frN dd s t 0 i + g * frD dd i := by
  intro i h0
  obtain ⟨m, rfl⟩ := Int.eq_ofNat_of_zero_le h0
  clear h0
  induction m with
  | zero => show g = 0 + g * 1; omega
  | succ m ih =>
    have e : ((m + 1 : Nat) : Int) = (m : Int) + 1 := by omega
    rw [e, frN_s (by omega), frN_s (by omega), frD_s (by omega), ih]
    grind
theorem fr_gradeB {N D g K u l : Int} (hD : 0 < D) (hu : u = nU N D ∧ l = nL N D) (hk : -(K * D) ≤ N + g * D ∧ N + g * D ≤ K * D) : -(K * l) ≤ u + g * l ∧ u + g * l ≤ K * l := by
  have h1 := nU_mul N D
  have h2 := nL_mul N D
  have h3 := gc_pos (a := N) hD
  rw [← hu.1] at h1
  rw [← hu.2] at h2
  clear hu
  generalize (Int.gcd N D : Int) = k at *
  subst h1; subst h2
  constructor
  · refine Int.le_of_mul_le_mul_left (a := k) ?_ h3
    have e1 : k * -(K * l) = -(K * (k * l)) := by grind
    have e2 : k * (u + g * l) = k * u + g * (k * l) := by grind
    omega
  · refine Int.le_of_mul_le_mul_left (a := k) ?_ h3
    have e1 : k * (K * l) = K * (k * l) := by grind
    have e2 : k * (u + g * l) = k * u + g * (k * l) := by grind
    omega
theorem fr_gradeT {N D g a b t u l : Int} (hD : 0 < D) (hb : 0 < b) (hu : u = nU N D ∧ l = nL N D) : nU ((u + g * l) * b - t * a * l) (l * b) = nU ((N + g * D) * b - t * a * D) (D * b) ∧ nL ((u + g * l) * b - t * a * l) (l * b) = nL ((N + g * D) * b - t * a * D) (D * b) := by
  have h1 := nU_mul N D
  have h2 := nL_mul N D
  have hp := nL_pos (u := N) hD
  rw [← hu.1] at h1
  rw [← hu.2] at h2 hp
  refine nf_uniq (Int.mul_pos hp hb) (Int.mul_pos hD hb) ?_
  generalize (Int.gcd N D : Int) = k at h1 h2
  subst h1; subst h2
  grind
/-- the reference's sums, hand by hand -/
def sK (b y h g : Int → Int) (bb lt n hd : Int) : Int := sm (tK b y h g bb lt hd) n
def stM (b y h g : Int → Int) (bb lt n i : Int) : Int := frN (hD b y h n) (hS b y h g n) (sT b y h bb lt n) 0 i + sm (sK b y h g bb lt n) i * frD (hD b y h n) i
theorem stM_0 (b y h g : Int → Int) (bb lt n : Int) : stM b y h g bb lt n 0 = 0 := rfl
theorem stM_4 {b y h g : Int → Int} {bb lt n : Int} (hn : 0 ≤ n) (hh : ∀ k : Int, 0 ≤ k → k < n → 0 ≤ h k ∧ h k ≤ 3) : stM b y h g bb lt n 4 = stN b y h g bb lt n 4 := by
  unfold stM stN
  rw [frN_lin (g := sm (tG b y g bb lt) n) (by omega), tK_sum hn hh]
  have e : sm (sK b y h g bb lt n) 4 = 0 + sK b y h g bb lt n 0 + sK b y h g bb lt n 1 + sK b y h g bb lt n 2 + sK b y h g bb lt n 3 := rfl
  rw [e]
  unfold sK
  rw [Int.zero_add]
theorem stM_s {b y h g : Int → Int} {bb lt n i : Int} (hi : 0 ≤ i) : stM b y h g bb lt n (i + 1) = (stM b y h g bb lt n i + sK b y h g bb lt n i * frD (hD b y h n) i) * hD b y h n i - sT b y h bb lt n i * hS b y h g n i * frD (hD b y h n) i := by
  unfold stM
  rw [frN_s hi, frD_s hi, sm_s hi]
  grind
theorem sK_rng {b y h g : Int → Int} {bb lt n hd : Int} (hn : 0 ≤ n) (hg : ∀ k : Int, 0 ≤ k → k < n → 0 ≤ g k ∧ g k ≤ 99) : 0 ≤ sK b y h g bb lt n hd ∧ sK b y h g bb lt n hd ≤ 99 * sT b y h bb lt n hd := by
  unfold sK sT
  constructor
  · exact (sm_rng (f := tK b y h g bb lt hd) (n := n) (c := 99) (fun k k0 k1 => by have := hg k k0 k1; unfold tK; split <;> omega) hn (Int.le_refl _)).1
  · rw [← sm_mul _ _ hn]
    refine sm_le hn (fun k k0 k1 => ?_)
    have := hg k k0 k1
    unfold tK tH
    split <;> omega
theorem stM_bd {b y h g : Int → Int} {bb lt n i : Int} (hn : 0 ≤ n ∧ n ≤ 80) (hg : ∀ k : Int, 0 ≤ k → k < n → 0 ≤ g k ∧ g k ≤ 99) (hh : ∀ k : Int, 0 ≤ k → k < n → 0 ≤ h k ∧ h k ≤ 3) (hi : 0 ≤ i ∧ i ≤ 3) :
    0 < frD (hD b y h n) i ∧ (-(11920 * frD (hD b y h n) i) ≤ stM b y h g bb lt n i + sK b y h g bb lt n i * frD (hD b y h n) i ∧ stM b y h g bb lt n i + sK b y h g bb lt n i * frD (hD b y h n) i ≤ 11920 * frD (hD b y h n) i) := by
  have hp := frD_pos (dd := hD b y h n) (n := 4) (fun k _ _ => by have := hD_rng (b := b) (y := y) (h := h) (hd := k) hn; omega) hi.1 (by omega)
  have hb := frN_bd (dd := hD b y h n) (s := hS b y h g n) (t := sT b y h bb lt n) (g := 0) (n := 4) (fun k _ _ => by
    have e1 := hD_rng (b := b) (y := y) (h := h) (hd := k) hn
    have e2 := sT_rng (b := b) (y := y) (h := h) (bb := bb) (lt := lt) (hd := k) hn.1
    have e3 := hS_D (b := b) (y := y) (h := h) (g := g) (hd := k) hn hg
    omega) (by omega) hi.1 (by omega)
  have hs : 0 ≤ sm (sT b y h bb lt n) i ∧ sm (sT b y h bb lt n) i ≤ 80 ∧ 0 ≤ sm (sK b y h g bb lt n) i + sK b y h g bb lt n i ∧ sm (sK b y h g bb lt n) i + sK b y h g bb lt n i ≤ 7920 := by
    have e := sT_sum (b := b) (y := y) (h := h) (bb := bb) (lt := lt) hn.1 hh
    have f := tF_rng (b := b) (y := y) (bb := bb) (lt := lt) hn.1
    have t0 := sT_rng (b := b) (y := y) (h := h) (bb := bb) (lt := lt) (hd := 0) hn.1
    have t1 := sT_rng (b := b) (y := y) (h := h) (bb := bb) (lt := lt) (hd := 1) hn.1
    have t2 := sT_rng (b := b) (y := y) (h := h) (bb := bb) (lt := lt) (hd := 2) hn.1
    have t3 := sT_rng (b := b) (y := y) (h := h) (bb := bb) (lt := lt) (hd := 3) hn.1
    have k0 := sK_rng (b := b) (y := y) (h := h) (g := g) (bb := bb) (lt := lt) (hd := 0) hn.1 hg
    have k1 := sK_rng (b := b) (y := y) (h := h) (g := g) (bb := bb) (lt := lt) (hd := 1) hn.1 hg
    have k2 := sK_rng (b := b) (y := y) (h := h) (g := g) (bb := bb) (lt := lt) (hd := 2) hn.1 hg
    have k3 := sK_rng (b := b) (y := y) (h := h) (g := g) (bb := bb) (lt := lt) (hd := 3) hn.1 hg
    have e4 : sm (sT b y h bb lt n) 4 = 0 + sT b y h bb lt n 0 + sT b y h bb lt n 1 + sT b y h bb lt n 2 + sT b y h bb lt n 3 := rfl
    have e3 : sm (sT b y h bb lt n) 3 = 0 + sT b y h bb lt n 0 + sT b y h bb lt n 1 + sT b y h bb lt n 2 := rfl
    have e2 : sm (sT b y h bb lt n) 2 = 0 + sT b y h bb lt n 0 + sT b y h bb lt n 1 := rfl
    have e1 : sm (sT b y h bb lt n) 1 = 0 + sT b y h bb lt n 0 := rfl
    have e0 : sm (sT b y h bb lt n) 0 = 0 := rfl
    have g3 : sm (sK b y h g bb lt n) 3 = 0 + sK b y h g bb lt n 0 + sK b y h g bb lt n 1 + sK b y h g bb lt n 2 := rfl
    have g2 : sm (sK b y h g bb lt n) 2 = 0 + sK b y h g bb lt n 0 + sK b y h g bb lt n 1 := rfl
    have g1 : sm (sK b y h g bb lt n) 1 = 0 + sK b y h g bb lt n 0 := rfl
    have g0 : sm (sK b y h g bb lt n) 0 = 0 := rfl
    rcases (show i = 0 ∨ i = 1 ∨ i = 2 ∨ i = 3 by omega) with r | r | r | r <;> rw [r] <;> omega
  refine ⟨hp, ?_⟩
  unfold stM
  rw [Int.add_assoc, ← Int.add_mul]
  rw [Int.zero_add] at hb
  have m1 := Int.mul_le_mul_of_nonneg_right (a := 50 * sm (sT b y h bb lt n) i) (b := 4000) (c := frD (hD b y h n) i) (by omega) (by omega)
  have m2 := Int.mul_le_mul_of_nonneg_right (a := sm (sK b y h g bb lt n) i + sK b y h g bb lt n i) (b := 7920) (c := frD (hD b y h n) i) (by omega) (by omega)
  have m3 := Int.mul_nonneg (a := sm (sK b y h g bb lt n) i + sK b y h g bb lt n i) (b := frD (hD b y h n) i) (by omega) (by omega)
  omega
