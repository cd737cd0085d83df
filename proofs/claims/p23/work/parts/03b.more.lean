/-- a boolean: 1 where P, else 0 -/
def xBool (z : Int) (P : Prop) : Prop := (z = 1 ∧ P) ∨ (z = 0 ∧ ¬ P)
theorem xBool_t {P : Prop} (h : P) : xBool 1 P := Or.inl ⟨rfl, h⟩
theorem xBool_f {P : Prop} (h : ¬ P) : xBool 0 P := Or.inr ⟨rfl, h⟩
theorem xBool_iff {z : Int} {P P' : Prop} (h : xBool z P) (e : P ↔ P') : xBool z P' := h.elim (fun q => Or.inl ⟨q.1, e.mp q.2⟩) (fun q => Or.inr ⟨q.1, fun w => q.2 (e.mpr w)⟩)
theorem xBool_rng {z : Int} {P : Prop} (h : xBool z P) : -2147483648 ≤ z ∧ z < 2147483648 := by
  rcases h with ⟨rfl, -⟩ | ⟨rfl, -⟩ <;> decide
theorem xBool_01 {z : Int} {P : Prop} (h : xBool z P) : 0 ≤ z ∧ z ≤ 1 := by
  rcases h with ⟨rfl, -⟩ | ⟨rfl, -⟩ <;> decide
theorem xBool_nar {z : Int} {P : Prop} (h : xBool z P) : narrow .boolean (.int (jI z)) = .int (jI z) := by
  rcases h with ⟨rfl, -⟩ | ⟨rfl, -⟩ <;> rfl
/-- a row of numbers within bounds -/
def Rg (f : Int → Int) (n lo hi : Int) : Prop := ∀ k : Int, 0 ≤ k → k < n → lo ≤ f k ∧ f k ≤ hi
theorem Rg.at {f : Int → Int} {n lo hi : Int} (h : Rg f n lo hi) (i : Int) (hi2 : 0 ≤ i ∧ i < n) : lo ≤ f i ∧ f i ≤ hi := h i hi2.1 hi2.2
theorem Rg.up {f : Int → Int} {n lo hi : Int} (h : Rg f n lo hi) (i v : Int) (hv : lo ≤ v ∧ v ≤ hi) : Rg (iU f i v) n lo hi := by
  intro k h1 h2
  by_cases e : k = i
  · subst e; rw [iU_s]; exact hv
  · rw [iU_n e]; exact h k h1 h2
theorem Rg.mono {f : Int → Int} {n lo hi n2 lo2 hi2 : Int} (h : Rg f n lo hi) (e : n2 ≤ n ∧ lo2 ≤ lo ∧ hi ≤ hi2) : Rg f n2 lo2 hi2 := by
  intro k h1 h2
  have := h k h1 (by omega)
  omega
theorem Rg.const {n lo hi v : Int} (e : lo ≤ v ∧ v ≤ hi) : Rg (fun _ => v) n lo hi := fun _ _ _ => e
section XR2
variable {D : va_G} {kI kJ : Nat} {p : Program} {l : Launch} {e : Env} {R : Room} {s : State} {m : MethodId} {args : Array Value} {below : List Frame} {meth : Method} {c : Code} {cc : ByteArray} {nL : Nat} {own : String} {Ts : List Cond} {A : Nat → Prop} {Q : State → Prop} {cells slots : Nat} {ws : va_W} {lv lv' : List (Nat × Value)} {pc tgt : Nat} {st : List Value}
theorem x_beq (F : xFix D kI kJ p s m args c cc nL own Ts A) {z : Int} {P : Prop} {off : Int} (hdg : decode cc pc = .ok (.ifCond .eq off, 3)) (ht : (pc : Int) + off = (tgt : Int)) (hz : xBool z P) (kt : ¬ P → xG D p l e R s m args below meth c nL A Q cells slots ws lv tgt st) (kf : P → xG D p l e R s m args below meth c nL A Q cells slots ws lv (pc + 3) st) : xG D p l e R s m args below meth c nL A Q cells slots ws lv pc (.int (jI z) :: st) :=
  x_if_eq F hdg ht (xBool_rng hz) (fun h0 => kt (fun w => hz.elim (fun q => by omega) (fun q => q.2 w))) (fun h0 => kf (hz.elim (fun q => q.2) (fun q => absurd q.1 h0)))
theorem x_bne (F : xFix D kI kJ p s m args c cc nL own Ts A) {z : Int} {P : Prop} {off : Int} (hdg : decode cc pc = .ok (.ifCond .ne off, 3)) (ht : (pc : Int) + off = (tgt : Int)) (hz : xBool z P) (kt : P → xG D p l e R s m args below meth c nL A Q cells slots ws lv tgt st) (kf : ¬ P → xG D p l e R s m args below meth c nL A Q cells slots ws lv (pc + 3) st) : xG D p l e R s m args below meth c nL A Q cells slots ws lv pc (.int (jI z) :: st) :=
  x_if_ne F hdg ht (xBool_rng hz) (fun h0 => kt (hz.elim (fun q => q.2) (fun q => absurd q.1 h0))) (fun h0 => kf (fun w => hz.elim (fun q => by omega) (fun q => q.2 w)))
theorem x_lv (ks : List Nat) (h : lv_pick lv ks = lv') (kk : xG D p l e R s m args below meth c nL A Q cells slots ws lv' pc st) : xG D p l e R s m args below meth c nL A Q cells slots ws lv pc st :=
  fun H locs ls hP hD hS hL => kk H locs ls hP hD hS (lv_sub hL ks h)
theorem x_lveq (h : lv = lv') (kk : xG D p l e R s m args below meth c nL A Q cells slots ws lv' pc st) : xG D p l e R s m args below meth c nL A Q cells slots ws lv pc st := h ▸ kk
end XR2
