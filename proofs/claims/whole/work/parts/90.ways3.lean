/-! PURE: what works answers, from rows; a contract in more room -/
theorem hasRoom_less {s : State} {pl : Platform} {r q : Room} (h : s.hasRoom pl r = true) (h1 : q.frames ≤ r.frames) (h2 : q.locals ≤ r.locals) (h3 : q.cells ≤ r.cells) (h4 : q.slots ≤ r.slots) : s.hasRoom pl q = true := by
  have a := State.hasRoom_stack h
  have b := State.hasRoom_heap h
  have c := State.hasRoom_plain h
  have d := State.hasRoom_real h
  have e : s.slotsTrue = true := by
    unfold State.hasRoom at h
    exact ((Bool.and_eq_true _ _).mp h).2
  exact State.hasRoom_of c (by omega) (by omega) (by omega) (by omega) e (by omega)
theorem xMv_room {D : va_G} {kI kJ : Nat} {l : Launch} {y : MethodName} {wy : List Cond} {fr lo fr2 lo2 mc ms : Nat} {av : List Value} {W0 : va_W} {S : Type} {post : S → Prop} {W1 : S → va_W} (h : xMv D kI kJ l y wy fr lo mc ms av W0 post W1) (h1 : fr ≤ fr2) (h2 : lo ≤ lo2) : xMv D kI kJ l y wy fr2 lo2 mc ms av W0 post W1 := by
  intro sz p e ha hc hk s m args below hf happ hP hK
  refine h sz p e ha hc hk s m args below hf ?_ hP hK
  have q := (Spec.appliesLoose_iff hf).mp happ
  exact (Spec.appliesLoose_iff hf).mpr (by
    simp only [headSpec] at q ⊢
    first
      | exact ⟨q.1, q.2.1, q.2.2.1, q.2.2.2.1, q.2.2.2.2.1, q.2.2.2.2.2.1, hasRoom_less q.2.2.2.2.2.2.1 h1 h2 (Nat.le_refl _) (Nat.le_refl _), q.2.2.2.2.2.2.2⟩
      | exact ⟨⟨⟨⟨⟨⟨⟨q.1.1.1.1.1.1.1, q.1.1.1.1.1.1.2⟩, q.1.1.1.1.1.2⟩, q.1.1.1.1.2⟩, q.1.1.1.2⟩, q.1.1.2⟩, hasRoom_less q.1.2 h1 h2 (Nat.le_refl _) (Nat.le_refl _)⟩, q.2⟩)
theorem pwI_bd {n : Int} (hn : 1 ≤ n ∧ n ≤ 4) {k : Nat} (hk : k ≤ 6) : 1 ≤ pwI n k ∧ pwI n k ≤ 15625 := by
  rcases (show n = 1 ∨ n = 2 ∨ n = 3 ∨ n = 4 by omega) with rfl | rfl | rfl | rfl <;>
    rcases (show k = 0 ∨ k = 1 ∨ k = 2 ∨ k = 3 ∨ k = 4 ∨ k = 5 ∨ k = 6 by omega) with rfl | rfl | rfl | rfl | rfl | rfl | rfl <;> decide
theorem shlL_at : ∀ k : Fin 31, jL 1 <<< ((jI (k.val : Int)).toInt64 &&& 63) = jL (2 ^ k.val) := by decide +kernel
theorem shlL {k : Int} (hk : 0 ≤ k ∧ k ≤ 30) : jL 1 <<< ((jI k).toInt64 &&& 63) = jL (2 ^ k.toNat) := by
  obtain ⟨b, rfl⟩ := Int.eq_ofNat_of_zero_le hk.1
  exact shlL_at ⟨b, by omega⟩
theorem pw_30 {k : Int} (hk : 0 ≤ k ∧ k ≤ 30) : (1 : Int) ≤ 2 ^ k.toNat ∧ (2 : Int) ^ k.toNat ≤ 1073741824 := by
  have e : (2 : Int) ^ 30 = 2 ^ k.toNat * 2 ^ (30 - k.toNat) := by rw [← Int.pow_add]; congr 1; omega
  have e2 : (2 : Int) ^ 30 = 1073741824 := rfl
  have h1 := pw_pos (30 - k.toNat)
  have h2 := pw_pos k.toNat
  have h3 := Int.mul_le_mul_of_nonneg_left (show (1 : Int) ≤ 2 ^ (30 - k.toNat) by omega) (Int.le_of_lt h2)
  rw [e2] at e
  omega
theorem w_all {cs zn : Int → Int → Int} {n coin : Int} (hn : 0 ≤ n) : ∀ m : Nat, wK cs zn n coin (m : Int) (pwI n m - 1) = true := by
  intro m
  induction m with
  | zero => rfl
  | succ m ih =>
    have e : pwI n (m + 1) - 1 = (pwI n m - 1) * (n + 1) + n := by
      show pwI n m * (n + 1) - 1 = _
      rw [Int.sub_mul]; omega
    rw [e, show ((m + 1 : Nat) : Int) = (m : Int) + 1 by omega]
    exact (wK_n (by omega) hn).2 ih
theorem bs_some {cs zn : Int → Int → Int} {ng : Int → Int} {n coin m : Int} (hn : 0 ≤ n ∧ n ≤ 4) (hcs : ∀ j t : Int, 0 ≤ j → j < 6 → 0 ≤ t → t < n → 0 ≤ cs j t ∧ cs j t ≤ 50000) (hng : ∀ j : Int, 0 ≤ j → j < 6 → 0 ≤ ng j ∧ ng j ≤ 200000) (hm : 0 ≤ m ∧ m ≤ 6) : 0 ≤ bsI (wV cs zn ng n coin m) (pwI n m.toNat) ∧ bsI (wV cs zn ng n coin m) (pwI n m.toNat) < pwI n m.toNat := by
  have h := w_all (cs := cs) (zn := zn) (coin := coin) hn.1 m.toNat
  rw [show ((m.toNat : Nat) : Int) = m by omega] at h
  have hp := pwI_pos hn.1 m.toNat
  refine bs_has (x := pwI n m.toNat - 1) (by omega) ?_
  have hb := wT_bd (zn := zn) hn hcs hng hm (pwI n m.toNat - 1)
  unfold wV
  rw [if_pos h]
  omega
theorem wkV_ref {lo zo : Int → Int} {set year n coin bl : Int} {LS ZN : Int → Int → Int} (hn : 0 ≤ n) (hbl : 0 ≤ bl ∧ bl ≤ 30) (h : ∀ k : Int, 0 ≤ k → k < bl → btA set k = 1 → ∀ y : Int, 0 ≤ y → y ≤ n → lo (5 * sm (btA set) k + y) = LS k (year + y) ∧ zo (5 * sm (btA set) k + y) = ZN k (year + y)) : wV (ocs lo) (ozn zo) (ong lo n) n coin (sm (btA set) bl) = wkV set year n coin bl LS ZN := by
  have h0 := sm_bt_mono set (a := 0) (by omega) bl.toNat
  rw [sm_0, show (0 : Int) + (bl.toNat : Int) = bl by omega] at h0
  have key : ∀ j : Int, 0 ≤ j → j < sm (btA set) bl → ∀ y : Int, 0 ≤ y → y ≤ n → lo (5 * j + y) = LS (nbI set j) (year + y) ∧ zo (5 * j + y) = ZN (nbI set j) (year + y) := fun j j0 j1 => by
    obtain ⟨k, hk, hb, hj⟩ := nb_some (set := set) bl.toNat j j0 (by rw [show ((bl.toNat : Nat) : Int) = bl by omega]; exact j1)
    have hnb := nb_at (set := set) (k := k) (by omega) hb
    rw [← hj, hnb]
    exact h k hk.1 (by omega) hb
  unfold wkV
  refine wV_congr hn h0 (fun j t j0 j1 t0 t1 => ?_) (fun j j0 j1 => ?_)
  · have := key j j0 j1 t t0 (by omega)
    unfold ocs ozn
    exact ⟨by rw [this.1], this.2⟩
  · have := key j j0 j1 n hn (Int.le_refl _)
    unfold ong
    rw [this.1]
theorem wkV_cls {co zo ne : Int → Int} {set year n coin bl : Int} {LS ZN : Int → Int → Int} (hn : 0 ≤ n) (hbl : 0 ≤ bl ∧ bl ≤ 30) (h : ∀ k : Int, 0 ≤ k → k < bl → btA set k = 1 → (∀ y : Int, 0 ≤ y → y < n → co (sm (btA set) k * 4 + y) = 10 + LS k (year + y) ∧ zo (sm (btA set) k * 4 + y) = ZN k (year + y)) ∧ ne (sm (btA set) k) = LS k (year + n) * 3) : wV (pcs co) (pcs zo) ne n coin (sm (btA set) bl) = wkV set year n coin bl LS ZN := by
  have h0 := sm_bt_mono set (a := 0) (by omega) bl.toNat
  rw [sm_0, show (0 : Int) + (bl.toNat : Int) = bl by omega] at h0
  have key : ∀ j : Int, 0 ≤ j → j < sm (btA set) bl → (∀ y : Int, 0 ≤ y → y < n → co (j * 4 + y) = 10 + LS (nbI set j) (year + y) ∧ zo (j * 4 + y) = ZN (nbI set j) (year + y)) ∧ ne j = LS (nbI set j) (year + n) * 3 := fun j j0 j1 => by
    obtain ⟨k, hk, hb, hj⟩ := nb_some (set := set) bl.toNat j j0 (by rw [show ((bl.toNat : Nat) : Int) = bl by omega]; exact j1)
    have hnb := nb_at (set := set) (k := k) (by omega) hb
    rw [← hj, hnb]
    exact h k hk.1 (by omega) hb
  unfold wkV
  refine wV_congr hn h0 (fun j t j0 j1 t0 t1 => ?_) (fun j j0 j1 => ?_)
  · exact (key j j0 j1).1 t t0 t1
  · show ne j = 3 * _
    rw [(key j j0 j1).2]; omega
theorem sm_bt_le {set : Int} {a b : Int} (h : 0 ≤ a ∧ a ≤ b) : sm (btA set) a ≤ sm (btA set) b := by
  have := sm_bt_mono set h.1 (b - a).toNat
  rw [show a + ((b - a).toNat : Int) = b by omega] at this
  exact this
theorem sm_bt_0 {set : Int} {a : Int} (h : 0 ≤ a) : 0 ≤ sm (btA set) a := by
  have := sm_bt_le (set := set) (a := 0) (b := a) ⟨by omega, h⟩
  rw [sm_0] at this
  exact this
theorem wkA_unk {set year n coin b bl : Int} {LS ZN : Int → Int → Int} (h : ¬ b = -1 ∧ ¬ (0 ≤ b ∧ b < bl)) : wkA set year n coin b bl LS ZN = -1001 := if_pos h
theorem wkA_out {set year n coin b bl : Int} {LS ZN : Int → Int → Int} (h : ¬ (¬ b = -1 ∧ ¬ (0 ≤ b ∧ b < bl))) (g : ¬ ((0 < set ∧ set < 2 ^ bl.toNat) ∧ sm (btA set) 30 ≤ 6 ∧ (0 ≤ year ∧ year ≤ 396) ∧ (1 ≤ n ∧ n ≤ 4) ∧ (0 ≤ coin ∧ coin ≤ 1000) ∧ ¬ (0 ≤ b ∧ btA set b = 0))) : wkA set year n coin b bl LS ZN = -1002 := (if_neg h).trans (if_pos g)
theorem wkA_in {set year n coin b bl : Int} {LS ZN : Int → Int → Int} (h : ¬ (¬ b = -1 ∧ ¬ (0 ≤ b ∧ b < bl))) (g : (0 < set ∧ set < 2 ^ bl.toNat) ∧ sm (btA set) 30 ≤ 6 ∧ (0 ≤ year ∧ year ≤ 396) ∧ (1 ≤ n ∧ n ≤ 4) ∧ (0 ≤ coin ∧ coin ≤ 1000) ∧ ¬ (0 ≤ b ∧ btA set b = 0)) : wkA set year n coin b bl LS ZN = wkR set year n coin b bl LS ZN := (if_neg h).trans (if_neg (fun q => q g))
