/-! PURE: the rule; a row of cells told anew -/
theorem vpI_congr {kI n : Nat} {f g : Int → Int} (h : ∀ k : Int, 0 ≤ k → k < (n : Int) → f k = g k) : vp_cell kI (n, .inl (jA f)) = vp_cell kI (n, .inl (jA g)) := by
  rw [vp_cell_i, vp_cell_i]
  unfold arrV
  congr 1
  congr 1
  funext j
  unfold jA
  have e := h (j.val : Int) (by omega) (by omega)
  show Value.int (jI (f ((j.val : Nat) : Int))) = Value.int (jI (g ((j.val : Nat) : Int)))
  rw [e]
theorem x_ext {D : va_G} {kI : Nat} {p : Program} {l : Launch} {e : Env} {R : Room} {s : State} {m : MethodId} {args : Array Value} {below : List Frame} {meth : Method} {c : Code} {nL : Nat} {A : Nat → Prop} {Q : State → Prop} {cells slots : Nat} {ws : va_W} {lv : List (Nat × Value)} {pc : Nat} {st : List Value} (q0 : Nat) {a n : Nat} {f : Int → Int} (ha : ws[q0]? = some (aI kI a n f)) (g : Int → Int) (h : ∀ k : Int, 0 ≤ k → k < (n : Int) → f k = g k) (ws' : va_W) (hws : ws.set q0 (aI kI a n g) = ws') (kk : xG D p l e R s m args below meth c nL A Q cells slots ws' lv pc st) : xG D p l e R s m args below meth c nL A Q cells slots ws lv pc st := by
  subst hws
  exact fun H locs ls hP hD hS hL => kk H locs ls (hP.set hD ha (by
    have h0 := hP q0 _ ha
    show H[a]? = some (vp_cell kI (n, .inl (jA g)))
    rw [← vpI_congr h]
    exact h0) (fun _ _ => rfl)) (hD.set ha) hS hL
/-- 1: a test is not met -/
def tN (f hs nm lt num : Int) : Int := if (nm = 1 ∧ hs = 0) ∨ ¬ ((lt = 1 ∧ f < num) ∨ (¬ lt = 1 ∧ num < f)) then 1 else 0
def factF (lo st we si sto ag ha : Int) : Int → Int := fun n => if n = 0 then lo else if n = 1 then st else if n = 2 then we else if n = 3 then si else if n = 4 then sto else if n = 5 then ag else ha
/-- the class's rows of a rule: which tests of a clause are not met; the first clause all of whose are -/
def kN (nm sg nu fa : Int → Int) (hs c : Int) : Int → Int := fun t => tN (fa (nm (c * 3 + t))) hs (nm (c * 3 + t)) (if sg (c * 3 + t) = 60 then 1 else 0) (nu (c * 3 + t))
def kC (nm sg nu ts fa : Int → Int) (hs : Int) : Int → Int := fun c => if dG (kN nm sg nu fa hs c) 100 (ts c) < 0 then 1 else 0
def decd (m ac : Int → Int) (n : Int) : Int := if dG m 100 n < 0 then 0 else ac (dG m 100 n)
theorem decd_rng {m ac : Int → Int} {n lo hi : Int} (hn : 0 ≤ n) (h : Rg ac n lo hi) (h0 : lo ≤ 0 ∧ 0 ≤ hi) : lo ≤ decd m ac n ∧ decd m ac n ≤ hi := by
  have := dG_rng (ls := m) (thr := 100) hn
  unfold decd
  split
  · omega
  · rename_i q
    by_cases z : n = 0
    · subst z; exact absurd (show dG m 100 0 < 0 by rw [dG_0]; omega) q
    · exact h _ (by omega) (by omega)
/-- the reference's rows -/
def oN (ru fa : Int → Int) (hs c : Int) : Int → Int := fun t => tN (fa (ru (11 * c + 2 + 3 * t))) hs (ru (11 * c + 2 + 3 * t)) (if ru (11 * c + 2 + 3 * t + 1) = 0 then 1 else 0) (ru (11 * c + 2 + 3 * t + 2))
def oC (ru fa : Int → Int) (hs : Int) : Int → Int := fun c => if dG (oN ru fa hs c) 100 (ru (11 * c)) < 0 then 1 else 0
/-- how many of the first n have a value -/
def cntE (f : Int → Int) (v : Int) : Int → Int := fun k => if f k = v then 1 else 0
theorem nU_le {u l M : Int} (hl : 0 < l) (hM : -M ≤ u ∧ u ≤ M) : -M ≤ nU u l ∧ nU u l ≤ M := by
  have a1 := nU_mul u l
  have g0 := gc_pos (a := u) hl
  generalize (Int.gcd u l : Int) = g at *
  generalize nU u l = a2 at *
  rcases Int.le_total 0 a2 with s | s
  · have := Int.mul_le_mul_of_nonneg_right (show 1 ≤ g by omega) s
    omega
  · have := Int.mul_le_mul_of_nonneg_right (show 1 ≤ g by omega) (show 0 ≤ -a2 by omega)
    have e := Int.mul_neg g a2
    rw [a1] at e
    omega
theorem stL_bd {b y h g : Int → Int} {bb yr n : Int} (hn : 0 ≤ n ∧ n ≤ 80) (hg : ∀ k : Int, 0 ≤ k → k < n → 0 ≤ g k ∧ g k ≤ 99) (hh : ∀ k : Int, 0 ≤ k → k < n → 0 ≤ h k ∧ h k ≤ 3) (hl : ¬ laI b y bb yr n = -1) :
    (0 < stL b y h g bb yr n ∧ stL b y h g bb yr n ≤ 8388608000000000) ∧ (-(11920 * stL b y h g bb yr n) ≤ stU b y h g bb yr n ∧ stU b y h g bb yr n ≤ 11920 * stL b y h g bb yr n) ∧ -1250000000000000000 ≤ stU b y h g bb yr n ∧ stU b y h g bb yr n ≤ 1250000000000000000 := by
  have hbd := stN_bd (b := b) (y := y) (h := h) (g := g) (bb := bb) (lt := laI b y bb yr n) (n := n) (i := 4) hn hg hh (by omega)
  have hfn := tF_rng (b := b) (y := y) (bb := bb) (lt := laI b y bb yr n) (n := n) hn.1
  have htp := tF_pos (b := b) (y := y) (bb := bb) (yr := yr) (n := n) hn.1 hl
  have hd4 := frD_le4 (dd := hD b y h n) (fun k _ _ => hD_rng hn)
  unfold stU stL
  generalize sm (tF b y bb (laI b y bb yr n)) n = f at *
  generalize stN b y h g bb (laI b y bb yr n) n 4 = N at *
  generalize frD (hD b y h n) 4 = D at *
  have m1 := Int.mul_pos hbd.1 htp
  have m2 := mul_bd (a := D) (b := f) (A := 104857600000000) (B := 80) (by omega) (by omega)
  have q1 := nL_pos (u := N) m1
  have q2 := nL_le (u := N) m1
  refine ⟨⟨q1, by omega⟩, nU_bd m1 ?_, nU_le m1 (by omega)⟩
  have e1 := Int.mul_le_mul_of_nonneg_left (show 1 ≤ f by omega) (show 0 ≤ 11920 * D by omega)
  have e2 : 11920 * D * f = 11920 * (D * f) := Int.mul_assoc ..
  omega
theorem td_bd {u l : Int} (hl : 0 < l) (h1 : -(11920 * l) ≤ u) (h2 : u ≤ 11920 * l) : -20000 ≤ Int.tdiv u l ∧ Int.tdiv u l ≤ 20000 := by
  by_cases h0 : 0 ≤ u
  · rw [jx_tdN h0]
    have a1 := Int.ediv_nonneg h0 (show 0 ≤ l by omega)
    have a2 : u / l ≤ 11920 := Int.ediv_le_of_le_mul hl h2
    omega
  · have e : u.tdiv l = -((-u) / l) := by
      rw [← jx_tdN (show 0 ≤ -u by omega), Int.neg_tdiv]
      omega
    have a1 := Int.ediv_nonneg (show 0 ≤ -u by omega) (show 0 ≤ l by omega)
    have a2 : (-u) / l ≤ 11920 := Int.ediv_le_of_le_mul hl (by omega)
    omega
