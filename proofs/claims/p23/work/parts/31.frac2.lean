/-! PURE: how large the fractions grow; a row for Math.abs of a long -/
theorem fr_bdS {N D K d t s : Int} (hD : 0 < D) (hd : 0 < d) (ht : 0 ≤ t) (hN : -(K * D) ≤ N ∧ N ≤ K * D) (hs : -(50 * d) ≤ s ∧ s ≤ 50 * d) : -((K + 50 * t) * (D * d)) ≤ N * d - t * s * D ∧ N * d - t * s * D ≤ (K + 50 * t) * (D * d) := by
  have hd0 : 0 ≤ d := by omega
  have hT : 0 ≤ t * D := Int.mul_nonneg ht (by omega)
  have a1 := Int.mul_le_mul_of_nonneg_right hN.1 hd0
  have a2 := Int.mul_le_mul_of_nonneg_right hN.2 hd0
  have b1 := Int.mul_le_mul_of_nonneg_left hs.1 hT
  have b2 := Int.mul_le_mul_of_nonneg_left hs.2 hT
  have e1 : (K + 50 * t) * (D * d) = K * D * d + t * D * (50 * d) := by grind
  have e2 : N * d - t * s * D = N * d - t * D * s := by grind
  have e3 : -(K * D) * d = -(K * D * d) := by grind
  have e4 : t * D * -(50 * d) = -(t * D * (50 * d)) := by grind
  rw [e1, e2]
  rw [e3] at a1
  rw [e4] at b1
  generalize K * D * d = x1 at *
  generalize t * D * (50 * d) = x2 at *
  generalize N * d = x3 at *
  generalize t * D * s = x4 at *
  omega
theorem frN_bd {dd s t : Int → Int} {g n : Int} (h : ∀ k : Int, 0 ≤ k → k < n → 0 < dd k ∧ 0 ≤ t k ∧ -(50 * dd k) ≤ s k ∧ s k ≤ 50 * dd k) (hg : 0 ≤ g) : ∀ {i : Int}, 0 ≤ i → i ≤ n → -((g + 50 * sm t i) * frD dd i) ≤ frN dd s t g i ∧ frN dd s t g i ≤ (g + 50 * sm t i) * frD dd i := by
  intro i h0
  obtain ⟨m, rfl⟩ := Int.eq_ofNat_of_zero_le h0
  clear h0
  induction m with
  | zero => intro _; rw [show ((0 : Nat) : Int) = 0 from rfl, frD_0, frN_0, sm_0]; omega
  | succ m ih =>
    intro h1
    have e : ((m + 1 : Nat) : Int) = (m : Int) + 1 := by omega
    rw [e] at h1 ⊢
    have hk := h m (by omega) (by omega)
    have hp := frD_pos (dd := dd) (n := n) (fun k a b => (h k a b).1) (i := (m : Int)) (by omega) (by omega)
    have r := fr_bdS (s := s m) hp hk.1 hk.2.1 (ih (by omega)) hk.2.2
    rw [frD_s (by omega), frN_s (by omega), sm_s (by omega), show g + 50 * (sm t m + t m) = g + 50 * sm t m + 50 * t m by omega]
    exact r
theorem frD_le3 {dd : Int → Int} (h : ∀ k : Int, 0 ≤ k → k < 4 → 1 ≤ dd k ∧ dd k ≤ 3200) {i : Int} (hi : 0 ≤ i ∧ i ≤ 3) : frD dd i ≤ 32768000000 := by
  have q0 := h 0 (by omega) (by omega)
  have q1 := h 1 (by omega) (by omega)
  have q2 := h 2 (by omega) (by omega)
  have e0 : frD dd 0 = 1 := rfl
  have e1 : frD dd 1 = frD dd 0 * dd 0 := rfl
  have e2 : frD dd 2 = frD dd 1 * dd 1 := rfl
  have e3 : frD dd 3 = frD dd 2 * dd 2 := rfl
  rw [e0] at e1
  have m2 := mul_bd (a := frD dd 1) (b := dd 1) (A := 3200) (B := 3200) (by omega) (by omega)
  have m3 := mul_bd (a := frD dd 2) (b := dd 2) (A := 10240000) (B := 3200) (by omega) (by omega)
  rcases (show i = 0 ∨ i = 1 ∨ i = 2 ∨ i = 3 by omega) with r | r | r | r <;> rw [r] <;> omega
theorem frD_le4 {dd : Int → Int} (h : ∀ k : Int, 0 ≤ k → k < 4 → 1 ≤ dd k ∧ dd k ≤ 3200) : frD dd 4 ≤ 104857600000000 := by
  have q3 := h 3 (by omega) (by omega)
  have e4 : frD dd 4 = frD dd 3 * dd 3 := rfl
  have l3 := frD_le3 h (i := 3) (by omega)
  have p3 := frD_pos (dd := dd) (n := 4) (fun k a b => by have := h k a b; omega) (i := 3) (by omega) (by omega)
  have m4 := mul_bd (a := frD dd 3) (b := dd 3) (A := 32768000000) (B := 3200) (by omega) (by omega)
  omega
theorem x_absL {D : va_G} {kI kJ : Nat} {p : Program} {l : Launch} {e : Env} {R : Room} {s : State} {m : MethodId} {args : Array Value} {below : List Frame} {meth : Method} {c : Code} {cc : ByteArray} {nL : Nat} {own : String} {Ts : List Cond} {A : Nat → Prop} {Q : State → Prop} {cells slots : Nat} {ws : va_W} {lv : List (Nat × Value)} {pc : Nat} {st : List Value} (F : xFix D kI kJ p s m args c cc nL own Ts A) {index : Nat} {a : Int} (h1 : Cond.methodLink own index Lib.MathLoose.abs_long.x ∈ Ts) (h2 : Cond.static Lib.MathLoose.abs_long.x ∈ Ts) (h3 : Cond.initialized "java/lang/Math" ∈ Ts) (h4 : Cond.code Lib.MathLoose.abs_long.x Lib.MathLoose.abs_long.code 2 (some .long) ∈ Ts) (hf : 1 ≤ R.frames) (hl : (st.map fun v => v.category).sum + 13 ≤ R.locals) (hc : cells ≤ R.cells) (hs : slots ≤ R.slots) (h : (-9223372036854775808 ≤ a ∧ a < 9223372036854775808)) (hdg : decode cc pc = .ok (.invokestatic index, 3)) (kk : xG D p l e R s m args below meth c nL A Q cells slots ws lv (pc + 3) (.long (jL (if a < 0 then -a else a)) :: st)) : xG D p l e R s m args below meth c nL A Q cells slots ws lv pc (.long (jL a) :: st) :=
  fun H locs ls hP hD hS hL => va_mabs_long F.1 F.2.1 (by rw [F.2.2.1]; exact hL.1.symm) F.2.2.2.1 (F.2.2.2.2.1 _ h1) (F.2.2.2.2.1 _ h2) (F.2.2.2.2.1 _ h3) (F.2.2.2.2.1 _ h4) hf hl hc hs hdg (by
    have e : (if 0 < jL a then jL a else -jL a) = jL (if a < 0 then -a else a) := by
      rw [jL_0]
      by_cases q : 0 < a
      · rw [if_pos ((jL_lt (by omega) h).mpr q), if_neg (by omega)]
      · rw [if_neg (fun w => q ((jL_lt (by omega) h).mp w)), jL_neg]
        by_cases q2 : a < 0
        · rw [if_pos q2]
        · rw [if_neg q2, show -a = a by omega]
    rw [e]
    exact kk H locs ls hP hD hS hL)
