set_option maxHeartbeats 4000000 in
set_option maxRecDepth 100000 in
theorem c_X9_hasBit (D : va_G) (kI kJ : Nat) (l : Launch) (set : Int) (k : Int) (hr_set : -2147483648 ≤ set ∧ set < 2147483648) (hr_k : -2147483648 ≤ k ∧ k < 2147483648) (hst : 0 ≤ set) : xMi D kI kJ l yX9_hasBit wsX9_hasBit 2 53 0 0 [.int (jI set), .int (jI k)] [] (fun (z : Int) (u : Unit) => xBool z ((0 ≤ k ∧ k < 30) ∧ btA set k = 1)) (fun (u : Unit) => []) := by
  refine xMi_of (cc := cX9_hasBit) (maxL := 2) (rt := .boolean) (by decide) rfl (Nat.le_of_ble_eq_true rfl) (fun z u hp => xBool_nar hp) ?_
  intro p e s m args below meth c A Q F hin2 hret
  refine x_lveq (lv' := [(0, .int (jI set)), (1, .int (jI k))]) rfl ?_
  refine x_iload_n F dX9_hasBit_0 rfl 1 rfl ?_
  refine x_bipush F dX9_hasBit_1 (by decide) ?_
  refine x_callSi (As := [.int (jI k), .int (jI 30)]) (st := []) F (c_X9_isBelow D kI kJ l k 30 (by omega) (by omega)) (va_cwS 2 F.2.2.2.2.1 gX9_hasBit_X9_isBelow rfl rfl rfl (by decide +kernel) ⟨Nat.le_of_ble_eq_true rfl, Nat.le_of_ble_eq_true rfl⟩) [] [] [] rfl rfl (by decide) (by decide) (by decide) (fun _ => rfl) (by decide) rfl (Nat.le_of_ble_eq_true rfl) dX9_hasBit_3 ⟨Nat.le_of_ble_eq_true rfl, Nat.le_of_ble_eq_true rfl⟩ (fun z3 u3 h3 => ?_)
  try dsimp only at h3
  refine x_ws [] rfl ?_
  have hb3 := h3
  refine x_beq (tgt := 22) F dX9_hasBit_6 (by decide) hb3 (fun c6 => ?_) (fun c6 => ?_)
  · -- 6 t
    refine x_iconst F dX9_hasBit_22 ?_
    exact hret 0 0 23 _ 0 () (Nat.le_of_ble_eq_true rfl) (Nat.le_of_ble_eq_true rfl) dX9_hasBit_23 (by first | exact xBool_t (by omega) | exact xBool_f (by omega))
  · -- 6 f
    refine x_iload_n F dX9_hasBit_9 rfl 0 rfl ?_
    refine x_iload_n F dX9_hasBit_10 rfl 1 rfl ?_
    refine x_iushr F (uz set k) dX9_hasBit_11 (uz_at (by omega)) ?_
    refine x_iconst F dX9_hasBit_12 ?_
    refine x_iand F (uz set k % 2) dX9_hasBit_13 (an_1 _) ?_
    have hub : uz set k % 2 = btA set k := by
      unfold uz btA
      by_cases q : k = 0
      · rw [if_pos q, q]
        have e : (2 : Int) ^ (0 : Int).toNat = 1 := rfl
        rw [e, Int.ediv_one]
      · rw [if_neg q, show set % 4294967296 = set by omega]
    refine x_iconst F dX9_hasBit_14 ?_
    refine x_icmp_ne (tgt := 22) F dX9_hasBit_15 (by decide) (by omega) (fun c15 => ?_) (fun c15 => ?_)
    · -- 15 t
      refine x_iconst F dX9_hasBit_22 ?_
      exact hret 0 0 23 _ 0 () (Nat.le_of_ble_eq_true rfl) (Nat.le_of_ble_eq_true rfl) dX9_hasBit_23 (by first | exact xBool_t (by omega) | exact xBool_f (by omega))
    · -- 15 f
      refine x_iconst F dX9_hasBit_18 ?_
      refine x_goto (tgt := 23) F dX9_hasBit_19 (by decide) ?_
      exact hret 0 0 23 _ 1 () (Nat.le_of_ble_eq_true rfl) (Nat.le_of_ble_eq_true rfl) dX9_hasBit_23 (by first | exact xBool_t (by omega) | exact xBool_f (by omega))
set_option maxHeartbeats 4000000 in
set_option maxRecDepth 100000 in
theorem c_X3_hasBlocks (D : va_G) (kI kJ : Nat) (l : Launch) (qM : Nat) (set : Int) (qM_stones : Nat) (qM_laid : Nat) (qM_deeps : Nat) (qM_rates : Nat) (qP : Nat) (qT : Nat) (qM_dangers : Nat) (qM_losses : Nat) (vM_size : Int) (vM_limit : Int) (hr_set : -2147483648 ≤ set ∧ set < 2147483648) (hMs : 0 ≤ vM_size ∧ vM_size ≤ 30) : xMi D kI kJ l yX3_hasBlocks wsX3_hasBlocks 1 32 0 0 [.ref qM, .int (jI set)] [(qM, .inr (3, [.ref qM_stones, .ref qM_laid, .ref qM_deeps, .ref qM_rates, .ref qP, .ref qT, .ref qM_dangers, .ref qM_losses, .int (jI vM_size), .int (jI vM_limit)]))] (fun (z : Int) (u : Unit) => xBool z (0 < set ∧ set < 2 ^ vM_size.toNat)) (fun (u : Unit) => [(qM, .inr (3, [.ref qM_stones, .ref qM_laid, .ref qM_deeps, .ref qM_rates, .ref qP, .ref qT, .ref qM_dangers, .ref qM_losses, .int (jI vM_size), .int (jI vM_limit)]))]) := by
  refine xMi_of (cc := cX3_hasBlocks) (maxL := 2) (rt := .boolean) (by decide) rfl (Nat.le_of_ble_eq_true rfl) (fun z u hp => xBool_nar hp) ?_
  intro p e s m args below meth c A Q F hin2 hret
  have hin3 : ∀ w ∈ wsX30, w ∈ wsX3_hasBlocks := by decide +kernel
  have hw0 : Cond.fieldLink RX3 50 (TX3 8).1 (TX3 8).2.1 (TX3 8).2.2.1 ∈ wsX3_hasBlocks := by decide +kernel
  refine x_lveq (lv' := [(0, .ref qM), (1, .int (jI set))]) rfl ?_
  refine x_iload_n F dX3_hasBlocks_0 rfl 1 rfl ?_
  refine x_if_eq (tgt := 17) F dX3_hasBlocks_1 (by decide) (by omega) (fun c1 => ?_) (fun c1 => ?_)
  · -- 1 t
    refine x_iconst F dX3_hasBlocks_17 ?_
    exact hret 0 0 18 _ 0 () (Nat.le_of_ble_eq_true rfl) (Nat.le_of_ble_eq_true rfl) dX3_hasBlocks_18 (xBool_f (fun q => by omega))
  · -- 1 f
    refine x_iload_n F dX3_hasBlocks_4 rfl 1 rfl ?_
    refine x_aload_n F dX3_hasBlocks_5 rfl 0 rfl ?_
    refine x_get (ci := 3) F hin3 0 rfl rfl 8 (by decide) hw0 rfl dX3_hasBlocks_6 ?_
    have hur := uz_rng (a := set) (k := vM_size) (by omega) (by omega)
    have hu0 := uz_0 (a := set) (k := vM_size) (by omega) (by omega)
    refine x_iushr F (uz set vM_size) dX3_hasBlocks_9 (uz_at (by omega)) ?_
    refine x_if_ne (tgt := 17) F dX3_hasBlocks_10 (by decide) (by omega) (fun c10 => ?_) (fun c10 => ?_)
    · -- 10 t
      refine x_iconst F dX3_hasBlocks_17 ?_
      exact hret 0 0 18 _ 0 () (Nat.le_of_ble_eq_true rfl) (Nat.le_of_ble_eq_true rfl) dX3_hasBlocks_18 (xBool_f (fun q => c10 (hu0.2 q)))
    · -- 10 f
      refine x_iconst F dX3_hasBlocks_13 ?_
      refine x_goto (tgt := 18) F dX3_hasBlocks_14 (by decide) ?_
      exact hret 0 0 18 _ 1 () (Nat.le_of_ble_eq_true rfl) (Nat.le_of_ble_eq_true rfl) dX3_hasBlocks_18 (xBool_t (hu0.1 (by omega)))
