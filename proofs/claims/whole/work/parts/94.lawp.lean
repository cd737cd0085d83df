/-! PURE: the class's words are the reference's -/
def pVl (pl : Int → Int) : Int → Int := fun k => pl (5 * k + 4) * 16 + (pl (5 * k + 2) * 4 + pl (5 * k + 3))
theorem rV_lin (bl yr f g h : Int → Int) (b y n : Int) : rV bl yr (fun k => f k * 16 + (g k * 4 + h k)) b y n = rV bl yr f b y n * 16 + (rV bl yr g b y n * 4 + rV bl yr h b y n) := by
  unfold rV
  by_cases q : rI bl yr b y n < 0
  · rw [if_pos q, if_pos q, if_pos q, if_pos q]; rfl
  · rw [if_neg q, if_neg q, if_neg q, if_neg q]
theorem pv_lin (pl : Int → Int) (b y n : Int) : rV (fun k => pl (5 * k)) (fun k => pl (5 * k + 1)) (pVl pl) b y n = oPl pl b y n 4 * 16 + (oPl pl b y n 2 * 4 + oPl pl b y n 3) := rV_lin (fun k => pl (5 * k)) (fun k => pl (5 * k + 1)) (fun k => pl (5 * k + 4)) (fun k => pl (5 * k + 2)) (fun k => pl (5 * k + 3)) b y n
theorem pv_parts {pl : Int → Int} {n : Int} (hn : 0 ≤ n ∧ n ≤ 60) (h2 : Rg (fun k => pl (5 * k + 2)) 60 0 3) (h3 : Rg (fun k => pl (5 * k + 3)) 60 0 3) (b y : Int) : rV (fun k => pl (5 * k)) (fun k => pl (5 * k + 1)) (pVl pl) b y n % 16 / 4 = oPl pl b y n 2 ∧ rV (fun k => pl (5 * k)) (fun k => pl (5 * k + 1)) (pVl pl) b y n % 4 = oPl pl b y n 3 ∧ rV (fun k => pl (5 * k)) (fun k => pl (5 * k + 1)) (pVl pl) b y n / 16 = oPl pl b y n 4 := by
  have e2 := oPl_rng (b := b) (y := y) hn h2 (by omega)
  have e3 := oPl_rng (b := b) (y := y) hn h3 (by omega)
  rw [pv_lin]
  omega
theorem pVl_rng {pl : Int → Int} (h2 : Rg (fun k => pl (5 * k + 2)) 60 0 3) (h3 : Rg (fun k => pl (5 * k + 3)) 60 0 3) (h4 : Rg (fun k => pl (5 * k + 4)) 60 0 7) : Rg (pVl pl) 60 0 127 := fun k k0 k1 => by
  have a2 := h2 k k0 k1
  have a3 := h3 k k0 k1
  have a4 := h4 k k0 k1
  (try dsimp only at a2 a3 a4)
  unfold pVl
  omega
theorem kLoss_o {rates pl pu : Int → Int} {np : Int} (hn : 0 ≤ np ∧ np ≤ 60) (h2 : Rg (fun k => pl (5 * k + 2)) 60 0 3) (h3 : Rg (fun k => pl (5 * k + 3)) 60 0 3) (nt st b : Int) : kLoss rates st (fun k => pl (5 * k)) (fun k => pl (5 * k + 1)) (pVl pl) np (fun k => pu (3 * k)) (fun k => pu (3 * k + 1)) (fun k => pu (3 * k + 2)) nt b = oLoss rates st pl np pu nt b := by
  funext y
  have e2 := oPl_rng (b := b) (y := y) hn h2 (by omega)
  have e3 := oPl_rng (b := b) (y := y) hn h3 (by omega)
  show rates (st * 16 + rV (fun k => pl (5 * k)) (fun k => pl (5 * k + 1)) (pVl pl) b y np % 16) * (1 + oHm pu b y nt) = rates (16 * st + 4 * oPl pl b y np 2 + oPl pl b y np 3) * (1 + oHm pu b y nt)
  rw [pv_lin, show st * 16 + (oPl pl b y np 4 * 16 + (oPl pl b y np 2 * 4 + oPl pl b y np 3)) % 16 = 16 * st + 4 * oPl pl b y np 2 + oPl pl b y np 3 by omega]
/-- rows with an entry put in -/
theorem up_row {f : Int → Int} {n v : Int} {m : Int} {g : Int → Int} (h1 : g (m * n) = v) (h2 : ∀ k : Int, ¬ k = n → g (m * k) = f (m * k)) : iU (fun k => f (m * k)) n v = fun k => g (m * k) := by
  funext k
  by_cases e : k = n
  · rw [e, iU_s, h1]
  · rw [iU_n e, h2 k e]
theorem up_roww {f : Int → Int} {n v : Int} {m w : Int} {g : Int → Int} (h1 : g (m * n + w) = v) (h2 : ∀ k : Int, ¬ k = n → g (m * k + w) = f (m * k + w)) : iU (fun k => f (m * k + w)) n v = fun k => g (m * k + w) := by
  funext k
  by_cases e : k = n
  · rw [e, iU_s, h1]
  · rw [iU_n e, h2 k e]
/-- looks: sums over looks that are the same -/
theorem hS_congr {b y h g b' y' h' g' : Int → Int} {n : Int} (hn : 0 ≤ n) (e : ∀ k : Int, 0 ≤ k → k < n → b k = b' k ∧ y k = y' k ∧ h k = h' k ∧ g k = g' k) (hd : Int) : hS b y h g n hd = hS b' y' h' g' n hd := by
  refine sm_congr hn (fun i i0 i1 => sm_congr hn (fun j j0 j1 => ?_))
  obtain ⟨a1, a2, a3, a4⟩ := e i i0 i1
  obtain ⟨c1, c2, c3, c4⟩ := e j j0 j1
  unfold hvF
  rw [a1, a2, a3, a4, c1, c2, c3, c4]
theorem hN_congr {b y h b' y' h' : Int → Int} {n : Int} (hn : 0 ≤ n) (e : ∀ k : Int, 0 ≤ k → k < n → b k = b' k ∧ y k = y' k ∧ h k = h' k) (hd : Int) : hN b y h n hd = hN b' y' h' n hd := by
  refine sm_congr hn (fun i i0 i1 => sm_congr hn (fun j j0 j1 => ?_))
  obtain ⟨a1, a2, a3⟩ := e i i0 i1
  obtain ⟨c1, c2, c3⟩ := e j j0 j1
  unfold hvP
  rw [a1, a2, a3, c1, c2, c3]
theorem dnS_congr {b y h b' y' h' : Int → Int} {n : Int} (hn : 0 ≤ n) (e : ∀ k : Int, 0 ≤ k → k < n → b k = b' k ∧ y k = y' k ∧ h k = h' k) : dnS b y h n = dnS b' y' h' n := by
  refine sm_congr hn (fun i i0 i1 => sm_congr i0 (fun j j0 j1 => ?_))
  obtain ⟨a1, a2, a3⟩ := e i i0 i1
  obtain ⟨c1, c2, c3⟩ := e j j0 (by omega)
  unfold dbI
  rw [a1, a2, a3, c1, c2, c3]
/-- the rule in both programs' rows -/
def rL (nm sg nu ts ac ru : Int → Int) (n : Int) : Prop := ∀ c : Int, 0 ≤ c → c < n → ((ts c = ru (11 * c) ∧ 0 ≤ ts c) ∧ ac c = ru (11 * c + 1)) ∧ ∀ t : Int, 0 ≤ t → t < ts c → nm (c * 3 + t) = ru (11 * c + 2 + 3 * t) ∧ (sg (c * 3 + t) = 60 ↔ ru (11 * c + 2 + 3 * t + 1) = 0) ∧ nu (c * 3 + t) = ru (11 * c + 2 + 3 * t + 2)
theorem jd_link {nm sg nu ts ac ru fa fb : Int → Int} {hs n : Int} (hn : 0 ≤ n) (hR : rL nm sg nu ts ac ru n) (hf : ∀ x : Int, (x = 1 ∧ hs = 0) ∨ fa x = fb x) : decd (kC nm sg nu ts fa hs) ac n = decd (oC ru fb hs) (fun c => ru (11 * c + 1)) n := by
  have hm : dG (kC nm sg nu ts fa hs) 100 n = dG (oC ru fb hs) 100 n := by
    refine dG_congr hn (fun c c0 c1 => ?_)
    obtain ⟨⟨⟨q1, q2⟩, q3⟩, q4⟩ := hR c c0 c1
    have e : dG (kN nm sg nu fa hs c) 100 (ts c) = dG (oN ru fb hs c) 100 (ru (11 * c)) := by
      rw [← q1]
      refine dG_congr q2 (fun t t0 t1 => ?_)
      obtain ⟨r1, r2, r3⟩ := q4 t t0 t1
      unfold kN oN
      rw [r1, r3]
      have es : (if sg (c * 3 + t) = 60 then (1 : Int) else 0) = if ru (11 * c + 2 + 3 * t + 1) = 0 then 1 else 0 := if_iff r2 rfl
      rw [es]
      rcases hf (ru (11 * c + 2 + 3 * t)) with q | q
      · unfold tN
        rw [if_pos (Or.inl q), if_pos (Or.inl q)]
      · rw [q]
    unfold kC oC
    rw [e]
  unfold decd
  rw [hm]
  by_cases q : dG (oC ru fb hs) 100 n < 0
  · rw [if_pos q, if_pos q]
  · rw [if_neg q, if_neg q]
    have hr := dG_rng (ls := oC ru fb hs) (thr := 100) hn
    by_cases z : n = 0
    · subst z; exact absurd (show dG (oC ru fb hs) 100 0 < 0 by rw [dG_0]; omega) q
    · exact (hR _ (by omega) (by omega)).1.2
theorem fact_link {lo st st' we si so ag ha hs : Int} (h : hs = 0 ∨ st = st') : ∀ x : Int, (x = 1 ∧ hs = 0) ∨ factF lo st we si so ag ha x = factF lo st' we si so ag ha x := by
  intro x
  by_cases q : x = 1
  · rcases h with h | h
    · exact Or.inl ⟨q, h⟩
    · exact Or.inr (by rw [h])
  · refine Or.inr ?_
    unfold factF
    by_cases z : x = 0
    · rw [if_pos z, if_pos z]
    · rw [if_neg z, if_neg z, if_neg q, if_neg q]
