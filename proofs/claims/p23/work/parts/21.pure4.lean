/-! PURE: the reference's own words for what rules and for what is lost -/
def oPl (pl : Int → Int) (b y n w : Int) : Int := rV (fun k => pl (5 * k)) (fun k => pl (5 * k + 1)) (fun k => pl (5 * k + w)) b y n
def oHm (pu : Int → Int) (b y n : Int) : Int := rV (fun k => pu (3 * k)) (fun k => pu (3 * k + 1)) (fun k => pu (3 * k + 2)) b y n
def oLoss (rates : Int → Int) (stone : Int) (pl : Int → Int) (np : Int) (pu : Int → Int) (nm b : Int) : Int → Int :=
  fun y => rates (16 * stone + 4 * oPl pl b y np 2 + oPl pl b y np 3) * (1 + oHm pu b y nm)
theorem oPl_rng {pl : Int → Int} {b y n w lo hi : Int} (hn : 0 ≤ n ∧ n ≤ 60) (h : Rg (fun k => pl (5 * k + w)) 60 lo hi) (h0 : lo ≤ 0 ∧ 0 ≤ hi) : lo ≤ oPl pl b y n w ∧ oPl pl b y n w ≤ hi := rV_rng hn h h0
theorem oHm_rng {pu : Int → Int} {b y n : Int} (hn : 0 ≤ n ∧ n ≤ 60) (h : Rg (fun k => pu (3 * k + 2)) 60 0 1) : 0 ≤ oHm pu b y n ∧ oHm pu b y n ≤ 1 := rV_rng hn h (by omega)
theorem oLoss_rng {rates pl pu : Int → Int} {stone np nm b : Int} (hr : Rg rates 64 0 50) (hs : 0 ≤ stone ∧ stone ≤ 3) (hnp : 0 ≤ np ∧ np ≤ 60) (hnm : 0 ≤ nm ∧ nm ≤ 60) (h2 : Rg (fun k => pl (5 * k + 2)) 60 0 3) (h3 : Rg (fun k => pl (5 * k + 3)) 60 0 3) (h4 : Rg (fun k => pu (3 * k + 2)) 60 0 1) (n : Int) : Rg (oLoss rates stone pl np pu nm b) n 0 100 := by
  intro y _ _
  have e2 := oPl_rng (b := b) (y := y) hnp h2 (by omega)
  have e3 := oPl_rng (b := b) (y := y) hnp h3 (by omega)
  have e4 := oHm_rng (b := b) (y := y) hnm h4
  have h5 := hr (16 * stone + 4 * oPl pl b y np 2 + oPl pl b y np 3) (by omega) (by omega)
  have h6 := mul_bd (a := rates (16 * stone + 4 * oPl pl b y np 2 + oPl pl b y np 3)) (b := 1 + oHm pu b y nm) (A := 50) (B := 2) h5 (by omega)
  unfold oLoss
  omega
theorem dG_none {ls : Int → Int} {thr : Int} : ∀ {i : Int}, 0 ≤ i → (∀ k : Int, 0 ≤ k → k < i → ls k * 100 < thr) → dG ls thr i = -1 := by
  intro i h0
  obtain ⟨m, rfl⟩ := Int.eq_ofNat_of_zero_le h0
  clear h0
  induction m with
  | zero => intro _; rfl
  | succ m ih =>
    intro h1
    have e : ((m + 1 : Nat) : Int) = (m : Int) + 1 := by omega
    rw [e] at h1 ⊢
    have h2 := h1 m (by omega) (by omega)
    rw [dG_s (by omega), if_neg (by omega), ih (fun k a b => h1 k a (by omega))]
theorem dG_first {ls : Int → Int} {thr i n : Int} (h : 0 ≤ i ∧ i < n) (h1 : dG ls thr i < 0) (h2 : thr ≤ ls i * 100) : dG ls thr n = i := by
  have e : dG ls thr (i + 1) = i := by rw [dG_s h.1, if_pos ⟨h1, h2⟩]
  have s := dG_stay (ls := ls) (thr := thr) (i := i + 1) (by omega) (by omega) (n - (i + 1)).toNat
  rw [e] at s
  rw [show i + 1 + ((n - (i + 1)).toNat : Int) = n by omega] at s
  exact s
/-- doubles -/
def dbI (b y h : Int → Int) (i j : Int) : Int := if b i = b j ∧ y i = y j ∧ ¬ h i = h j then 1 else 0
def dnS (b y h : Int → Int) (n : Int) : Int := sm (fun i => sm (dbI b y h i) i) n
theorem dbI_rng (b y h : Int → Int) (i j : Int) : 0 ≤ dbI b y h i j ∧ dbI b y h i j ≤ 1 := by unfold dbI; split <;> omega
theorem dnS_in (b y h : Int → Int) (i : Int) {j : Int} (hj : 0 ≤ j) : 0 ≤ sm (dbI b y h i) j ∧ sm (dbI b y h i) j ≤ j := by
  have := sm_rng (f := dbI b y h i) (n := j) (c := 1) (fun k _ _ => dbI_rng b y h i k) hj (Int.le_refl _)
  omega
theorem dnS_rng (b y h : Int → Int) {n : Int} (hn : 0 ≤ n ∧ n ≤ 80) : 0 ≤ dnS b y h n ∧ dnS b y h n ≤ 80 * n :=
  sm_rng (n := n) (fun k h0 h1 => by have := dnS_in b y h k h0; omega) hn.1 (Int.le_refl _)
