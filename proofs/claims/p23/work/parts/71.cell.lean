set_option maxHeartbeats 4000000 in
set_option maxRecDepth 100000 in
theorem c_L_cell (D : va_G) (kI kJ : Nat) (bS L : Nat) (xs : Nat → Int32) (l : Launch) (k : Int) (hk : 0 ≤ k ∧ k < 2147483648) : yMi D kI kJ bS L xs l yL_cell wsL_cell 1 32 0 0 [.ref bS, .int (jI k)] [] (fun (z : Int) (u : Unit) => z = cX L xs k) (fun (u : Unit) => []) := by
  refine yMi_of (cc := cL_cell) (maxL := 2) (rt := .int) (by decide) rfl (Nat.le_of_ble_eq_true rfl) (fun _ _ _ => rfl) ?_
  intro p e s m args below meth c A Q F hY hin2 hret
  refine x_lveq (lv' := [(0, .ref bS), (1, .int (jI k))]) rfl ?_
  have hL9 := hY.2.2.2
  refine x_iload_n F dL_cell_0 rfl 1 rfl ?_
  refine x_aload_n F dL_cell_1 rfl 0 rfl ?_
  refine x_slen F hY.1 hY.2.1 hY.2.2.1 dL_cell_2 ?_
  refine x_icmp_ge (tgt := 12) F dL_cell_3 (by decide) (by omega) (fun c3 => ?_) (fun c3 => ?_)
  · -- 3 t
    refine x_iconst F dL_cell_12 ?_
    exact hret 0 0 13 _ 0 () (Nat.le_of_ble_eq_true rfl) (Nat.le_of_ble_eq_true rfl) dL_cell_13 (by unfold cX; first | exact (if_pos (by omega)).symm | exact (if_neg (by omega)).symm)
  · -- 3 f
    refine x_aload_n F dL_cell_6 rfl 0 rfl ?_
    refine x_iload_n F dL_cell_7 rfl 1 rfl ?_
    refine x_sld F hY.1 hY.2.1 hY.2.2.1 (by omega) (by omega) dL_cell_8 ?_
    refine x_goto (tgt := 13) F dL_cell_9 (by decide) ?_
    exact hret 0 0 13 _ (scr xs k) () (Nat.le_of_ble_eq_true rfl) (Nat.le_of_ble_eq_true rfl) dL_cell_13 (by unfold cX; first | exact (if_pos (by omega)).symm | exact (if_neg (by omega)).symm)
set_option maxHeartbeats 4000000 in
set_option maxRecDepth 100000 in
theorem c_L_some (D : va_G) (kI kJ : Nat) (bS L : Nat) (xs : Nat → Int32) (l : Launch) (k : Int) (most : Int) (hk : 0 ≤ k ∧ k < 2147483648) (hm : 1 ≤ most ∧ most < 2147483648) : yMi D kI kJ bS L xs l yL_some wsL_some 2 53 0 0 [.ref bS, .int (jI k), .int (jI most)] [] (fun (z : Int) (u : Unit) => z = sX L xs k most) (fun (u : Unit) => []) := by
  refine yMi_of (cc := cL_some) (maxL := 3) (rt := .int) (by decide) rfl (Nat.le_of_ble_eq_true rfl) (fun _ _ _ => rfl) ?_
  intro p e s m args below meth c A Q F hY hin2 hret
  have hw0 : Cond.constant RL 13 2147483647 ∈ wsL_some := by decide +kernel
  refine x_lveq (lv' := [(0, .ref bS), (1, .int (jI k)), (2, .int (jI most))]) rfl ?_
  refine x_aload_n F dL_some_0 rfl 0 rfl ?_
  refine x_iload_n F dL_some_1 rfl 1 rfl ?_
  refine y_callSi (As := [.ref bS, .int (jI k)]) (st := []) F hY (c_L_cell D kI kJ bS L xs l k hk) (va_cwS 2 F.2.2.2.2.1 gL_some_L_cell rfl rfl rfl (by decide +kernel) ⟨Nat.le_of_ble_eq_true rfl, Nat.le_of_ble_eq_true rfl⟩) [] [] [] rfl rfl (by decide) (by decide) (by decide) (fun _ => rfl) (by decide) rfl (Nat.le_of_ble_eq_true rfl) dL_some_2 ⟨Nat.le_of_ble_eq_true rfl, Nat.le_of_ble_eq_true rfl⟩ (fun z2 u2 h2 => ?_)
  try dsimp only at h2
  refine x_ws [] rfl ?_
  have he2 := h2
  have he2 := he2.symm
  subst he2
  refine x_ldc F 2147483647 hw0 (by decide) dL_some_5 ?_
  refine x_iand F (((cX L xs k) % 2147483648)) dL_some_7 (an_2147483647i _) ?_
  refine x_iload_n F dL_some_8 rfl 2 rfl ?_
  refine x_irem F dL_some_9 (by omega) ?_
  exact hret 0 0 10 _ (((cX L xs k) % 2147483648) % most) () (Nat.le_of_ble_eq_true rfl) (Nat.le_of_ble_eq_true rfl) dL_some_10 (rfl)
