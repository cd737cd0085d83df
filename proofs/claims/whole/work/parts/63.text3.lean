/-! PURE: a word's code, as the reference counts it -/
def cd1 (d v : Int) : Int := if d = 0 then v else 27 * v + d - 96
def cdv (a b c d e f : Int) : Int := cd1 f (cd1 e (cd1 d (27 * (27 * (a - 96) + b - 96) + c - 96)))
/-! PURE: a test that starts at x; the clause that starts at p; the clauses of a text -/
def nuN (tx : Int → Int) (i : Int) : Nat → Int
  | 0 => 0
  | n + 1 => nuN tx i n * 10 + tx (i + n) - 48
def nuV (tx : Int → Int) (i e : Int) : Int := nuN tx i (e - i).toNat
theorem nuV_0 (tx : Int → Int) (i : Int) : nuV tx i i = 0 := by
  unfold nuV
  rw [show (i - i).toNat = 0 by omega]; rfl
theorem nuV_s {tx : Int → Int} {i e : Int} (h : i ≤ e) : nuV tx i (e + 1) = nuV tx i e * 10 + tx e - 48 := by
  unfold nuV
  rw [show (e + 1 - i).toNat = (e - i).toNat + 1 by omega]
  have e1 : i + ((e - i).toNat : Int) = e := by omega
  show nuN tx i (e - i).toNat * 10 + tx (i + ((e - i).toNat : Int)) - 48 = _
  rw [e1]
theorem nuV_3 {tx : Int → Int} {i e : Int} (h : i ≤ e ∧ e ≤ i + 3) (hd : ∀ k : Int, i ≤ k → k < e → 48 ≤ tx k ∧ tx k ≤ 57) : 0 ≤ nuV tx i e ∧ nuV tx i e ≤ 999 := by
  have a0 := nuV_0 tx i
  have a1 := nuV_s (tx := tx) (i := i) (e := i) (by omega)
  have a2 := nuV_s (tx := tx) (i := i) (e := i + 1) (by omega)
  have a3 := nuV_s (tx := tx) (i := i) (e := i + 1 + 1) (by omega)
  rcases (show e = i ∨ e = i + 1 ∨ e = i + 1 + 1 ∨ e = i + 1 + 1 + 1 by omega) with g | g | g | g
  · rw [g]; omega
  · have d0 := hd i (by omega) (by omega)
    rw [g]; omega
  · have d0 := hd i (by omega) (by omega)
    have d1 := hd (i + 1) (by omega) (by omega)
    rw [g]; omega
  · have d0 := hd i (by omega) (by omega)
    have d1 := hd (i + 1) (by omega) (by omega)
    have d2 := hd (i + 1 + 1) (by omega) (by omega)
    rw [g]; omega
/-- a test: its name, its sign's place, its number's place and end -/
def tsN (tx : Int → Int) (sz x : Int) : Int := nmI tx x (wde tx sz x)
def tsQ (tx : Int → Int) (sz x : Int) : Int := skp tx sz (wde tx sz x)
def tsR (tx : Int → Int) (sz x : Int) : Int := skp tx sz (tsQ tx sz x + 1)
def tsE (tx : Int → Int) (sz x : Int) : Int := dge tx sz (tsR tx sz x)
def tsS (tx : Int → Int) (sz x : Int) : Int := cha tx sz (tsQ tx sz x)
def tsV (tx : Int → Int) (sz x : Int) : Int := nuV tx (tsR tx sz x) (tsE tx sz x)
/-- behind its name: its fault, where -/
def tsG (tx : Int → Int) (sz x : Int) : Int := if ¬ (tsS tx sz x = 60 ∨ tsS tx sz x = 62) then 1 else if tsE tx sz x = tsR tx sz x then 1 else if 3 < tsE tx sz x - tsR tx sz x then 2 else 0
def tsH (tx : Int → Int) (sz x : Int) : Int := if ¬ (tsS tx sz x = 60 ∨ tsS tx sz x = 62) then tsQ tx sz x else tsR tx sz x
def tsF (tx : Int → Int) (sz c t x : Int) : Int := if tsN tx sz x < 0 then 1 else if c = 6 then 3 else if t = 3 then 4 else tsG tx sz x
def tsA (tx : Int → Int) (sz c t x : Int) : Int := if tsN tx sz x < 0 ∨ c = 6 ∨ t = 3 then x else tsH tx sz x
def it2 (f : Int → Int → Int) (p : Int) : Nat → Int
  | 0 => p
  | n + 1 => f n (it2 f p n)
def itI (f : Int → Int → Int) (p j : Int) : Int := it2 f p j.toNat
theorem itI_0 (f : Int → Int → Int) (p : Int) : itI f p 0 = p := rfl
theorem itI_s {f : Int → Int → Int} {p j : Int} (h : 0 ≤ j) : itI f p (j + 1) = f j (itI f p j) := by
  unfold itI
  rw [show (j + 1).toNat = j.toNat + 1 by omega]
  show f (j.toNat : Int) _ = _
  rw [show ((j.toNat : Nat) : Int) = j by omega]
/-- where a clause's tests start, which is the last; its act's place -/
def clX (tx : Int → Int) (sz p : Int) : Int → Int := itI (fun _ x => skp tx sz (skp tx sz (tsE tx sz x) + 1)) p
def clT (tx : Int → Int) (sz c p : Int) : Int → Int := fun j => if ¬ tsF tx sz c j (clX tx sz p j) = 0 ∨ ¬ cha tx sz (skp tx sz (tsE tx sz (clX tx sz p j))) = 38 then 1 else 0
def clJ (tx : Int → Int) (sz c p : Int) : Int := dG (clT tx sz c p) 100 4
def clL (tx : Int → Int) (sz c p : Int) : Int := clX tx sz p (clJ tx sz c p)
def clQ (tx : Int → Int) (sz c p : Int) : Int := skp tx sz (tsE tx sz (clL tx sz c p))
def clW (tx : Int → Int) (sz c p : Int) : Int := skp tx sz (clQ tx sz c p + 1)
def clB (tx : Int → Int) (sz c p : Int) : Int := acI tx (clW tx sz c p) (wde tx sz (clW tx sz c p))
def clZ (tx : Int → Int) (sz c p : Int) : Int := skp tx sz (wde tx sz (clW tx sz c p))
def clF (tx : Int → Int) (sz c p : Int) : Int := if ¬ tsF tx sz c (clJ tx sz c p) (clL tx sz c p) = 0 then tsF tx sz c (clJ tx sz c p) (clL tx sz c p) else if ¬ cha tx sz (clQ tx sz c p) = 61 then 1 else if clB tx sz c p < 0 then 1 else if ¬ cha tx sz (clZ tx sz c p) = 59 then 1 else 0
def clA (tx : Int → Int) (sz c p : Int) : Int := if ¬ tsF tx sz c (clJ tx sz c p) (clL tx sz c p) = 0 then tsA tx sz c (clJ tx sz c p) (clL tx sz c p) else if ¬ cha tx sz (clQ tx sz c p) = 61 then clQ tx sz c p else if clB tx sz c p < 0 then clW tx sz c p else clZ tx sz c p
/-- where the clauses start; which is the first that is not there or faults -/
def rdZ (tx : Int → Int) (sz : Int) : Int → Int := itI (fun c p => skp tx sz (clZ tx sz c p + 1)) (skp tx sz 0)
def rdT (tx : Int → Int) (sz : Int) : Int → Int := fun c => if ¬ rdZ tx sz c < sz ∨ ¬ clF tx sz c (rdZ tx sz c) = 0 then 1 else 0
def rdC (tx : Int → Int) (sz : Int) : Int := dG (rdT tx sz) 100 7
theorem cha_rng {tx : Int → Int} {sz i : Int} (h : Rg tx 120 0 255) (hs : sz ≤ 120) (hi : 0 ≤ i) : -1 ≤ cha tx sz i ∧ cha tx sz i ≤ 255 := by
  unfold cha
  by_cases c : i < sz
  · rw [if_pos c]
    have := h i hi (by omega)
    omega
  · rw [if_neg c]; omega
theorem nmW_rng (w : Int) : -1 ≤ nmW w ∧ nmW w ≤ 6 := by unfold nmW; (repeat' split) <;> omega
theorem acW_rng (w : Int) : -1 ≤ acW w ∧ acW w ≤ 2 := by unfold acW; (repeat' split) <;> omega
theorem nmW_at {tx : Int → Int} {sz x w e : Int} (he : e = wde tx sz x) (hw : w = wrd tx x e) : nmW w = tsN tx sz x := by
  rw [hw, he]
  exact nmW_nmI (sc_rng tx 97 122 sz x).1 (sc_in tx 97 122 sz x)
theorem acW_at {tx : Int → Int} {sz x w e : Int} (he : e = wde tx sz x) (hw : w = wrd tx x e) : acW w = acI tx x (wde tx sz x) := by
  rw [hw, he]
  exact acW_acI (sc_rng tx 97 122 sz x).1 (sc_in tx 97 122 sz x)
theorem tsG_rng (tx : Int → Int) (sz x : Int) : 0 ≤ tsG tx sz x ∧ tsG tx sz x ≤ 2 := by unfold tsG; (repeat' split) <;> omega
theorem clX_0 (tx : Int → Int) (sz p : Int) : clX tx sz p 0 = p := rfl
theorem clX_s {tx : Int → Int} {sz p j : Int} (h : 0 ≤ j) : clX tx sz p (j + 1) = skp tx sz (skp tx sz (tsE tx sz (clX tx sz p j)) + 1) := itI_s h
theorem clF_test {tx : Int → Int} {sz c p j : Int} (hj : 0 ≤ j ∧ j < 4) (hd : dG (clT tx sz c p) 100 j < 0) (hF : ¬ tsF tx sz c j (clX tx sz p j) = 0) : clF tx sz c p = tsF tx sz c j (clX tx sz p j) ∧ clA tx sz c p = tsA tx sz c j (clX tx sz p j) := by
  have hJ : clJ tx sz c p = j := dG_first hj hd (by unfold clT; rw [if_pos (Or.inl hF)]; omega)
  have hL : clL tx sz c p = clX tx sz p j := by unfold clL; rw [hJ]
  unfold clF clA
  rw [hL, hJ]
  exact ⟨if_pos hF, if_pos hF⟩
theorem clJ_last {tx : Int → Int} {sz c p j : Int} (hj : 0 ≤ j ∧ j < 4) (hd : dG (clT tx sz c p) 100 j < 0) (hq : ¬ cha tx sz (skp tx sz (tsE tx sz (clX tx sz p j))) = 38) : clJ tx sz c p = j := dG_first hj hd (by unfold clT; rw [if_pos (Or.inr hq)]; omega)
theorem clT_go {tx : Int → Int} {sz c p j : Int} (hj : 0 ≤ j) (hd : dG (clT tx sz c p) 100 j < 0) (hF : tsF tx sz c j (clX tx sz p j) = 0) (hq : cha tx sz (skp tx sz (tsE tx sz (clX tx sz p j))) = 38) : dG (clT tx sz c p) 100 (j + 1) < 0 := by
  have e : clT tx sz c p j = 0 := by
    unfold clT
    exact if_neg (fun q => by rcases q with q | q; exact q hF; exact q hq)
  rw [dG_s hj, if_neg (by omega)]
  exact hd
theorem clF_rest {tx : Int → Int} {sz c p j : Int} (hJ : clJ tx sz c p = j) (hF : tsF tx sz c j (clX tx sz p j) = 0) : clQ tx sz c p = skp tx sz (tsE tx sz (clX tx sz p j)) ∧ clF tx sz c p = (if ¬ cha tx sz (clQ tx sz c p) = 61 then 1 else if clB tx sz c p < 0 then 1 else if ¬ cha tx sz (clZ tx sz c p) = 59 then 1 else 0) ∧ clA tx sz c p = (if ¬ cha tx sz (clQ tx sz c p) = 61 then clQ tx sz c p else if clB tx sz c p < 0 then clW tx sz c p else clZ tx sz c p) := by
  have hL : clL tx sz c p = clX tx sz p j := by unfold clL; rw [hJ]
  refine ⟨by unfold clQ; rw [hL], ?_, ?_⟩
  · unfold clF
    rw [hL, hJ]
    exact if_neg (fun q => q hF)
  · unfold clA
    rw [hL, hJ]
    exact if_neg (fun q => q hF)
theorem clF_rng (tx : Int → Int) (sz c p : Int) : 0 ≤ clF tx sz c p ∧ clF tx sz c p ≤ 4 := by
  have h : 0 ≤ tsF tx sz c (clJ tx sz c p) (clL tx sz c p) ∧ tsF tx sz c (clJ tx sz c p) (clL tx sz c p) ≤ 4 := by
    have := tsG_rng tx sz (clL tx sz c p)
    unfold tsF
    (repeat' split) <;> omega
  unfold clF
  (repeat' split) <;> omega
theorem rdZ_0 (tx : Int → Int) (sz : Int) : rdZ tx sz 0 = skp tx sz 0 := rfl
theorem rdZ_s {tx : Int → Int} {sz j : Int} (h : 0 ≤ j) : rdZ tx sz (j + 1) = skp tx sz (clZ tx sz j (rdZ tx sz j) + 1) := itI_s h
theorem rdC_at {tx : Int → Int} {sz j : Int} (hj : 0 ≤ j ∧ j < 7) (hd : dG (rdT tx sz) 100 j < 0) (h : ¬ rdZ tx sz j < sz ∨ ¬ clF tx sz j (rdZ tx sz j) = 0) : rdC tx sz = j := dG_first hj hd (by unfold rdT; rw [if_pos h]; omega)
theorem rdT_go {tx : Int → Int} {sz j : Int} (hj : 0 ≤ j) (hd : dG (rdT tx sz) 100 j < 0) (h : rdZ tx sz j < sz) (hF : clF tx sz j (rdZ tx sz j) = 0) : dG (rdT tx sz) 100 (j + 1) < 0 := by
  have e : rdT tx sz j = 0 := by
    unfold rdT
    exact if_neg (fun q => by rcases q with q | q; exact q h; exact q hF)
  rw [dG_s hj, if_neg (by omega)]
  exact hd
