/-! PURE: who is worst -/
def wr (dg ls : Int → Int) (a b : Int) : Prop := dg a < dg b ∨ (dg a = dg b ∧ (ls b < ls a ∨ (ls a = ls b ∧ a < b)))
def cWf (dg ls : Int → Int) (b : Int) : Int → Int := fun a => if 0 ≤ dg a ∧ (dg a < dg b ∨ (dg a = dg b ∧ (ls b < ls a ∨ (ls a = ls b ∧ a < b)))) then 1 else 0
def cW (dg ls : Int → Int) (n b : Int) : Int := sm (cWf dg ls b) n
def wsf (dg ls : Int → Int) (n i : Int) : Int → Int := fun b => if 0 ≤ dg b ∧ cW dg ls n b = i then 1 else 0
def wst (dg ls : Int → Int) (n i : Int) : Int := dG (wsf dg ls n i) 100 n
def wInv (dg ls : Int → Int) (b many : Int) (g : Int → Int) : Prop :=
  (∀ P : Int → Int, sm (fun c => if 0 ≤ dg c then P c else 0) b = sm (fun j => P (g j)) many) ∧ (∀ i j : Int, 0 ≤ i → i < j → j < many → wr dg ls (g i) (g j)) ∧ ∀ j : Int, 0 ≤ j → j < many → 0 ≤ g j ∧ g j < b ∧ 0 ≤ dg (g j)
theorem wInv_0 (dg ls g : Int → Int) : wInv dg ls 0 0 g := ⟨fun _ => rfl, fun i j h1 h2 h3 => by omega, fun j h1 h2 => by omega⟩
theorem wInv_skip {dg ls g : Int → Int} {b many : Int} (hb : 0 ≤ b) (h : wInv dg ls b many g) (hd : ¬ 0 ≤ dg b) : wInv dg ls (b + 1) many g := by
  refine ⟨fun P => ?_, h.2.1, fun j h1 h2 => ?_⟩
  · rw [sm_s hb, h.1 P, if_neg hd]; omega
  · have := h.2.2 j h1 h2; omega
theorem ins_sum {F G : Int → Int} {k : Int} (hk : 0 ≤ k) (h1 : ∀ j : Int, 0 ≤ j → j < k → F j = G j) : ∀ (d : Nat), (∀ j : Int, k < j → j ≤ k + d → F j = G (j - 1)) → sm F (k + d + 1) = sm G (k + d) + F k := by
  intro d
  induction d with
  | zero =>
    intro _
    rw [show k + ((0 : Nat) : Int) = k by omega, sm_s hk, sm_congr hk h1]
  | succ d ih =>
    intro h2
    have ih := ih (fun j a b => h2 j a (by omega))
    rw [show k + ((d + 1 : Nat) : Int) = k + d + 1 by omega, sm_s (show 0 ≤ k + (d : Int) + 1 by omega), ih, sm_s (show 0 ≤ k + (d : Int) by omega), h2 (k + d + 1) (by omega) (by omega), show k + (d : Int) + 1 - 1 = k + d by omega]
    omega
theorem wr_trans {dg ls : Int → Int} {a b c : Int} (h1 : wr dg ls a b) (h2 : wr dg ls b c) : wr dg ls a c := by
  unfold wr at *
  omega
theorem wr_irr {dg ls : Int → Int} {a : Int} (h : wr dg ls a a) : False := by
  unfold wr at h
  omega
theorem wInv_put {dg ls g g2 : Int → Int} {b many k : Int} (hb : 0 ≤ b) (h : wInv dg ls b many g) (hd : 0 ≤ dg b) (hk : 0 ≤ k ∧ k ≤ many) (h1 : ∀ j : Int, 0 ≤ j → j < k → g2 j = g j) (h2 : g2 k = b) (h3 : ∀ j : Int, k < j → j ≤ many → g2 j = g (j - 1))
    (h4 : ∀ j : Int, k ≤ j → j < many → dg b < dg (g j) ∨ (dg b = dg (g j) ∧ ls (g j) < ls b)) (h5 : k = 0 ∨ ¬ (dg b < dg (g (k - 1)) ∨ (dg b = dg (g (k - 1)) ∧ ls (g (k - 1)) < ls b))) : wInv dg ls (b + 1) (many + 1) g2 := by
  have lo : ∀ j : Int, 0 ≤ j → j < k → wr dg ls (g j) b := by
    intro j j0 j1
    have q1 : wr dg ls (g (k - 1)) b := by
      have r := h.2.2 (k - 1) (by omega) (by omega)
      rcases h5 with e | e
      · omega
      · unfold wr
        omega
    by_cases e : j = k - 1
    · rw [e]; exact q1
    · exact wr_trans (h.2.1 j (k - 1) j0 (by omega) (by omega)) q1
  have up : ∀ j : Int, k ≤ j → j < many → wr dg ls b (g j) := by
    intro j j0 j1
    have := h4 j j0 j1
    unfold wr
    omega
  refine ⟨fun P => ?_, fun i j i0 ij jm => ?_, fun j j0 jm => ?_⟩
  · rw [sm_s hb, h.1 P, if_pos hd]
    have e := ins_sum (F := fun j => P (g2 j)) (G := fun j => P (g j)) hk.1 (fun j a c => by show P (g2 j) = P (g j); rw [h1 j a c]) (many - k).toNat (fun j a c => by show P (g2 j) = P (g (j - 1)); rw [h3 j a (by omega)])
    rw [show k + ((many - k).toNat : Int) = many by omega] at e
    rw [e]
    show sm (fun j => P (g j)) many + P b = sm (fun j => P (g j)) many + P (g2 k)
    rw [h2]
  · by_cases c1 : j < k
    · rw [h1 i i0 (by omega), h1 j (by omega) c1]
      exact h.2.1 i j i0 ij (by omega)
    · by_cases c2 : j = k
      · rw [c2, h2, h1 i i0 (by omega)]
        exact lo i i0 (by omega)
      · rw [h3 j (by omega) (by omega)]
        by_cases c3 : i < k
        · rw [h1 i i0 c3]
          by_cases c4 : i = j - 1
          · omega
          · exact h.2.1 i (j - 1) i0 (by omega) (by omega)
        · by_cases c4 : i = k
          · rw [c4, h2]
            exact up (j - 1) (by omega) (by omega)
          · rw [h3 i (by omega) (by omega)]
            exact h.2.1 (i - 1) (j - 1) (by omega) (by omega) (by omega)
  · by_cases c1 : j < k
    · rw [h1 j j0 c1]
      have := h.2.2 j j0 (by omega)
      omega
    · by_cases c2 : j = k
      · rw [c2, h2]; omega
      · rw [h3 j (by omega) (by omega)]
        have := h.2.2 (j - 1) (by omega) (by omega)
        omega
theorem sm_step {i : Int} : ∀ (m : Nat), sm (fun j => if j < i then 1 else 0) (m : Int) = if i ≤ 0 then 0 else if i ≤ (m : Int) then i else m := by
  intro m
  induction m with
  | zero => show (0 : Int) = _; (repeat' split) <;> omega
  | succ m ih =>
    rw [show ((m + 1 : Nat) : Int) = (m : Int) + 1 by omega, sm_s (by omega), ih]
    (repeat' split) <;> omega
theorem wInv_rank {dg ls g : Int → Int} {n many i : Int} (h : wInv dg ls n many g) (hi : 0 ≤ i ∧ i < many) : cW dg ls n (g i) = i := by
  have e := h.1 (fun a => if dg a < dg (g i) ∨ (dg a = dg (g i) ∧ (ls (g i) < ls a ∨ (ls a = ls (g i) ∧ a < g i))) then 1 else 0)
  have hn : 0 ≤ n := by have := h.2.2 i hi.1 hi.2; omega
  unfold cW
  rw [sm_congr (f := cWf dg ls (g i)) (g := fun c => if 0 ≤ dg c then (if dg c < dg (g i) ∨ (dg c = dg (g i) ∧ (ls (g i) < ls c ∨ (ls c = ls (g i) ∧ c < g i))) then 1 else 0) else 0) hn (fun k _ _ => by unfold cWf; (repeat' split) <;> omega), e, sm_congr (g := fun j => if j < i then 1 else 0) (show 0 ≤ many by omega) (fun j j0 j1 => by
    show (if _ then (1 : Int) else 0) = if j < i then 1 else 0
    by_cases c1 : j < i
    · rw [if_pos c1]
      exact if_pos (h.2.1 j i j0 c1 hi.2)
    · rw [if_neg c1]
      refine if_neg (fun q => ?_)
      by_cases c2 : j = i
      · rw [c2] at q; exact wr_irr (dg := dg) (ls := ls) q
      · exact wr_irr (wr_trans (dg := dg) (ls := ls) q (h.2.1 i j hi.1 (by omega) j1)))]
  obtain ⟨m, hm⟩ := Int.eq_ofNat_of_zero_le (show 0 ≤ many by omega)
  rw [hm, sm_step m]
  (repeat' split) <;> omega
theorem wInv_has {dg ls g : Int → Int} {n many b : Int} (h : wInv dg ls n many g) (hm : 0 ≤ many) (hb : 0 ≤ b ∧ b < n) (hd : 0 ≤ dg b) : ∃ j : Int, 0 ≤ j ∧ j < many ∧ g j = b := by
  have e := h.1 (fun a => if a = b then 1 else 0)
  have e2 : ∀ m : Nat, b < (m : Int) → 1 ≤ sm (fun c => if 0 ≤ dg c then (if c = b then (1 : Int) else 0) else 0) (m : Int) := by
    intro m
    induction m with
    | zero => intro q; omega
    | succ m ih =>
      intro q
      rw [show ((m + 1 : Nat) : Int) = (m : Int) + 1 by omega, sm_s (by omega)]
      have r := sm_rng (f := fun c => if 0 ≤ dg c then (if c = b then (1 : Int) else 0) else 0) (n := (m : Int)) (c := 1) (fun k _ _ => by (try dsimp only); (repeat' split) <;> omega) (by omega) (Int.le_refl _)
      by_cases c1 : b = m
      · rw [if_pos (by rw [← c1]; exact hd), if_pos c1.symm]; omega
      · have := ih (by omega)
        have : 0 ≤ (if 0 ≤ dg (m : Int) then (if (m : Int) = b then (1 : Int) else 0) else 0) := by (repeat' split) <;> omega
        omega
  obtain ⟨nn, hn⟩ := Int.eq_ofNat_of_zero_le (show 0 ≤ n by omega)
  have e3 := e2 nn (by omega)
  rw [← hn, e] at e3
  have e4 : ∀ m : Nat, 1 ≤ sm (fun j => if g j = b then (1 : Int) else 0) (m : Int) → ∃ j : Int, 0 ≤ j ∧ j < m ∧ g j = b := by
    intro m
    induction m with
    | zero => intro q; exact absurd q (by rw [show ((0 : Nat) : Int) = 0 from rfl, sm_0]; omega)
    | succ m ih =>
      intro q
      rw [show ((m + 1 : Nat) : Int) = (m : Int) + 1 by omega, sm_s (by omega)] at q
      by_cases c1 : g (m : Int) = b
      · exact ⟨m, by omega, by omega, c1⟩
      · rw [if_neg c1] at q
        obtain ⟨j, j0, j1, j2⟩ := ih (by omega)
        exact ⟨j, j0, by omega, j2⟩
  obtain ⟨mm, hmm⟩ := Int.eq_ofNat_of_zero_le hm
  rw [hmm] at e3 ⊢
  exact e4 mm e3
theorem dG_uniq {f : Int → Int} {n x : Int} (hx : 0 ≤ x ∧ x < n) (h1 : 100 ≤ f x * 100) (h2 : ∀ k : Int, 0 ≤ k → k < n → 100 ≤ f k * 100 → k = x) : dG f 100 n = x := by
  refine dG_first hx ?_ h1
  rw [dG_none hx.1 (fun k k0 k1 => by
    rcases Int.lt_or_le (f k * 100) 100 with q | q
    · exact q
    · have := h2 k k0 (by omega) q
      omega)]
  omega
theorem wInv_end {dg ls g : Int → Int} {n many i : Int} (hn : 0 ≤ n) (hm : 0 ≤ many) (h : wInv dg ls n many g) : wst dg ls n i = if 0 ≤ i ∧ i < many then g i else -1 := by
  unfold wst
  by_cases c : 0 ≤ i ∧ i < many
  · rw [if_pos c]
    have r := h.2.2 i c.1 c.2
    refine dG_uniq ⟨r.1, r.2.1⟩ ?_ ?_
    · unfold wsf
      rw [if_pos ⟨r.2.2, wInv_rank h c⟩]; omega
    · intro k k0 k1 q
      by_cases c2 : 0 ≤ dg k ∧ cW dg ls n k = i
      · obtain ⟨j, j0, j1, j2⟩ := wInv_has h hm ⟨k0, k1⟩ c2.1
        have e := wInv_rank h ⟨j0, j1⟩
        rw [j2, c2.2] at e
        rw [← j2, e]
      · unfold wsf at q
        rw [if_neg c2] at q
        omega
  · rw [if_neg c]
    refine dG_none hn (fun k k0 k1 => ?_)
    unfold wsf
    by_cases c2 : 0 ≤ dg k ∧ cW dg ls n k = i
    · obtain ⟨j, j0, j1, j2⟩ := wInv_has h hm ⟨k0, k1⟩ c2.1
      have e := wInv_rank h ⟨j0, j1⟩
      rw [j2, c2.2] at e
      omega
    · rw [if_neg c2]; omega
theorem cW_congr {dg ls dg2 ls2 : Int → Int} {n b : Int} (h0 : 0 ≤ b) (h1 : b < n) (h2 : ∀ k : Int, 0 ≤ k → k < n → dg k = dg2 k) (h3 : ∀ k : Int, 0 ≤ k → k < n → ls k = ls2 k) : cW dg ls n b = cW dg2 ls2 n b := by
  refine sm_congr (by omega) (fun k k0 k1 => ?_)
  unfold cWf
  rw [h2 k k0 k1, h2 b h0 h1, h3 k k0 k1, h3 b h0 h1]
theorem cW_rng (dg ls : Int → Int) {n : Int} (b : Int) (hn : 0 ≤ n) : 0 ≤ cW dg ls n b ∧ cW dg ls n b ≤ n := by
  have h := sm_rng (f := cWf dg ls b) (n := n) (c := 1) (fun k _ _ => by unfold cWf; split <;> omega) hn (Int.le_refl _)
  unfold cW
  omega
theorem dG_congr {f g : Int → Int} {thr n : Int} (hn : 0 ≤ n) (h : ∀ k : Int, 0 ≤ k → k < n → f k = g k) : dG f thr n = dG g thr n := by
  obtain ⟨m, rfl⟩ := Int.eq_ofNat_of_zero_le hn
  clear hn
  induction m with
  | zero => rfl
  | succ m ih =>
    rw [show ((m + 1 : Nat) : Int) = (m : Int) + 1 by omega] at h ⊢
    rw [dG_s (by omega), dG_s (by omega), ih (fun k k0 k1 => h k k0 (by omega)), h m (by omega) (by omega)]
theorem wst_congr {dg ls dg2 ls2 : Int → Int} {n : Int} (hn : 0 ≤ n) (h2 : ∀ k : Int, 0 ≤ k → k < n → dg k = dg2 k) (h3 : ∀ k : Int, 0 ≤ k → k < n → ls k = ls2 k) (i : Int) : wst dg ls n i = wst dg2 ls2 n i := by
  refine dG_congr hn (fun k k0 k1 => ?_)
  unfold wsf
  rw [h2 k k0 k1, cW_congr k0 k1 h2 h3]
