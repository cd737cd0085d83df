/-! PURE: tests of the rule -/
theorem tN_01 (f hs nm lt num : Int) : tN f hs nm lt num = 0 ∨ tN f hs nm lt num = 1 := by unfold tN; split <;> omega
theorem oC_no {ru fa : Int → Int} {hs c : Int} (h : 0 ≤ dG (oN ru fa hs c) 100 (ru (11 * c))) : oC ru fa hs c = 0 := by
  unfold oC
  rw [if_neg (by omega)]
theorem oC_yes {ru fa : Int → Int} {hs c : Int} (h : dG (oN ru fa hs c) 100 (ru (11 * c)) < 0) : oC ru fa hs c = 1 := by
  unfold oC
  rw [if_pos h]
theorem oN_no {ru fa : Int → Int} {hs c t : Int} (h : tN (fa (ru (11 * c + 2 + 3 * t))) hs (ru (11 * c + 2 + 3 * t)) (if ru (11 * c + 2 + 3 * t + 1) = 0 then 1 else 0) (ru (11 * c + 2 + 3 * t + 2)) = 0) : oN ru fa hs c t = 0 := h
theorem oN_yes {ru fa : Int → Int} {hs c t : Int} (h : ¬ tN (fa (ru (11 * c + 2 + 3 * t))) hs (ru (11 * c + 2 + 3 * t)) (if ru (11 * c + 2 + 3 * t + 1) = 0 then 1 else 0) (ru (11 * c + 2 + 3 * t + 2)) = 0) : oN ru fa hs c t = 1 := by
  rcases tN_01 (fa (ru (11 * c + 2 + 3 * t))) hs (ru (11 * c + 2 + 3 * t)) (if ru (11 * c + 2 + 3 * t + 1) = 0 then 1 else 0) (ru (11 * c + 2 + 3 * t + 2)) with q | q
  · exact absurd q h
  · exact q
