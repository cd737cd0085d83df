/-! PURE: works -/
def yoS (bl be : Int → Int) (b : Int) : Int → Int := fun i => if bl i = b ∧ ¬ be i = -1 then 1 else 0
theorem iU_back (f : Int → Int) (i x : Int) : iU (iU f i (f i + x)) i (iU f i (f i + x) i + -x) = f := by
  funext k
  by_cases e : k = i
  · rw [e, iU_s, iU_s]; omega
  · rw [iU_n e, iU_n e]
