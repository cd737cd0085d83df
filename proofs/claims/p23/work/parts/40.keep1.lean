set_option maxHeartbeats 4000000 in
set_option maxRecDepth 100000 in
theorem c_X9_block (D : va_G) (kI kJ : Nat) (l : Launch) (qK : Nat) (stone : Int) (year : Int) (deep : Int) (qM : Nat) (qC : Nat) (qL : Nat) (qFr : Nat) (qE : Nat) (qK_facts : Nat) (qN : Nat) (qS : Nat) (qM_stones : Nat) (qM_laid : Nat) (qM_deeps : Nat) (qM_rates : Nat) (qP : Nat) (qT : Nat) (qM_dangers : Nat) (qM_losses : Nat) (vM_size : Int) (vM_limit : Int) (fM_stones : (Int → Int)) (fM_laid : (Int → Int)) (fM_deeps : (Int → Int)) (hr_stone : -2147483648 ≤ stone ∧ stone < 2147483648) (hr_year : -2147483648 ≤ year ∧ year < 2147483648) (hr_deep : -2147483648 ≤ deep ∧ deep < 2147483648) (hMs : 0 ≤ vM_size ∧ vM_size ≤ 30) : xMi D kI kJ l yX9_block wsX9_block 3 76 0 0 [.ref qK, .int (jI stone), .int (jI year), .int (jI deep)] [(qK, .inr (9, [.ref qM, .ref qC, .ref qL, .ref qFr, .ref qE, .ref qK_facts, .ref qN, .ref qS])), (qM, .inr (3, [.ref qM_stones, .ref qM_laid, .ref qM_deeps, .ref qM_rates, .ref qP, .ref qT, .ref qM_dangers, .ref qM_losses, .int (jI vM_size), .int (jI vM_limit)])), aI kI qM_stones 30 fM_stones, aI kI qM_laid 30 fM_laid, aI kI qM_deeps 30 fM_deeps] (fun (z : Int) (u : Int × (Int → Int) × (Int → Int) × (Int → Int)) => (((¬ ((0 ≤ stone ∧ stone ≤ 3) ∧ (0 ≤ year ∧ year ≤ 400) ∧ 1 ≤ deep ∧ deep ≤ 2000)) ∧ z = -1002 ∧ u.1 = vM_size ∧ u.2.1 = fM_stones ∧ u.2.2.1 = fM_laid ∧ u.2.2.2 = fM_deeps) ∨ ((((0 ≤ stone ∧ stone ≤ 3) ∧ (0 ≤ year ∧ year ≤ 400) ∧ 1 ≤ deep ∧ deep ≤ 2000) ∧ vM_size = 30) ∧ z = -1004 ∧ u.1 = vM_size ∧ u.2.1 = fM_stones ∧ u.2.2.1 = fM_laid ∧ u.2.2.2 = fM_deeps) ∨ ((((0 ≤ stone ∧ stone ≤ 3) ∧ (0 ≤ year ∧ year ≤ 400) ∧ 1 ≤ deep ∧ deep ≤ 2000) ∧ vM_size < 30) ∧ z = vM_size ∧ u.1 = vM_size + 1 ∧ u.2.1 = iU fM_stones vM_size stone ∧ u.2.2.1 = iU fM_laid vM_size year ∧ u.2.2.2 = iU fM_deeps vM_size deep))) (fun (u : Int × (Int → Int) × (Int → Int) × (Int → Int)) => [(qK, .inr (9, [.ref qM, .ref qC, .ref qL, .ref qFr, .ref qE, .ref qK_facts, .ref qN, .ref qS])), (qM, .inr (3, [.ref qM_stones, .ref qM_laid, .ref qM_deeps, .ref qM_rates, .ref qP, .ref qT, .ref qM_dangers, .ref qM_losses, .int (jI u.1), .int (jI vM_limit)])), aI kI qM_stones 30 u.2.1, aI kI qM_laid 30 u.2.2.1, aI kI qM_deeps 30 u.2.2.2]) := by
  refine xMi_of (cc := cX9_block) (maxL := 4) (rt := .int) (by decide) rfl (Nat.le_of_ble_eq_true rfl) (fun _ _ _ => rfl) ?_
  intro p e s m args below meth c A Q F hin2 hret
  have hin9 : ∀ w ∈ wsX90, w ∈ wsX9_block := by decide +kernel
  have hw0 : Cond.fieldLink RX9 12 (TX9 0).1 (TX9 0).2.1 (TX9 0).2.2.1 ∈ wsX9_block := by decide +kernel
  refine x_lveq (lv' := [(0, .ref qK), (1, .int (jI stone)), (2, .int (jI year)), (3, .int (jI deep))]) rfl ?_
  refine x_iload_n F dX9_block_0 rfl 1 rfl ?_
  refine x_iconst F dX9_block_1 ?_
  refine x_callSi (As := [.int (jI stone), .int (jI 4)]) (st := []) F (c_X9_isBelow D kI kJ l stone 4 (by omega) (by omega)) (va_cwS 2 F.2.2.2.2.1 gX9_block_X9_isBelow rfl rfl rfl (by decide +kernel) ⟨Nat.le_of_ble_eq_true rfl, Nat.le_of_ble_eq_true rfl⟩) [] [0, 1, 2, 3, 4] [0, 1, 2, 3, 4] rfl rfl (by decide) (by decide) (by decide) (fun _ => rfl) (by decide) rfl (Nat.le_of_ble_eq_true rfl) dX9_block_2 ⟨Nat.le_of_ble_eq_true rfl, Nat.le_of_ble_eq_true rfl⟩ (fun z2 u2 h2 => ?_)
  try dsimp only at h2
  refine x_ws [(qK, .inr (9, [.ref qM, .ref qC, .ref qL, .ref qFr, .ref qE, .ref qK_facts, .ref qN, .ref qS])), (qM, .inr (3, [.ref qM_stones, .ref qM_laid, .ref qM_deeps, .ref qM_rates, .ref qP, .ref qT, .ref qM_dangers, .ref qM_losses, .int (jI vM_size), .int (jI vM_limit)])), aI kI qM_stones 30 fM_stones, aI kI qM_laid 30 fM_laid, aI kI qM_deeps 30 fM_deeps] rfl ?_
  have hb2 := h2
  refine x_beq (tgt := 30) F dX9_block_5 (by decide) hb2 (fun c5 => ?_) (fun c5 => ?_)
  · -- 5 t
    refine x_sipush F dX9_block_30 (by decide) ?_
    exact hret 0 0 33 _ (-1002) (vM_size, fM_stones, fM_laid, fM_deeps) (Nat.le_of_ble_eq_true rfl) (Nat.le_of_ble_eq_true rfl) dX9_block_33 (by (try dsimp only); exact (by first | exact Or.inl (⟨by omega, (by first | rfl | omega), (by first | rfl | omega), (by first | rfl | omega), (by first | rfl | omega), (by first | rfl | omega)⟩) | exact Or.inr (Or.inl (⟨by omega, (by first | rfl | omega), (by first | rfl | omega), (by first | rfl | omega), (by first | rfl | omega), (by first | rfl | omega)⟩)) | exact Or.inr (Or.inr (⟨by omega, (by first | rfl | omega), (by first | rfl | omega), (by first | rfl | omega), (by first | rfl | omega), (by first | rfl | omega)⟩))))
  · -- 5 f
    refine x_iload_n F dX9_block_8 rfl 2 rfl ?_
    refine x_sipush F dX9_block_9 (by decide) ?_
    refine x_callSi (As := [.int (jI year), .int (jI 401)]) (st := []) F (c_X9_isBelow D kI kJ l year 401 (by omega) (by omega)) (va_cwS 2 F.2.2.2.2.1 gX9_block_X9_isBelow rfl rfl rfl (by decide +kernel) ⟨Nat.le_of_ble_eq_true rfl, Nat.le_of_ble_eq_true rfl⟩) [] [0, 1, 2, 3, 4] [0, 1, 2, 3, 4] rfl rfl (by decide) (by decide) (by decide) (fun _ => rfl) (by decide) rfl (Nat.le_of_ble_eq_true rfl) dX9_block_12 ⟨Nat.le_of_ble_eq_true rfl, Nat.le_of_ble_eq_true rfl⟩ (fun z12 u12 h12 => ?_)
    try dsimp only at h12
    refine x_ws [(qK, .inr (9, [.ref qM, .ref qC, .ref qL, .ref qFr, .ref qE, .ref qK_facts, .ref qN, .ref qS])), (qM, .inr (3, [.ref qM_stones, .ref qM_laid, .ref qM_deeps, .ref qM_rates, .ref qP, .ref qT, .ref qM_dangers, .ref qM_losses, .int (jI vM_size), .int (jI vM_limit)])), aI kI qM_stones 30 fM_stones, aI kI qM_laid 30 fM_laid, aI kI qM_deeps 30 fM_deeps] rfl ?_
    have hb12 := h12
    refine x_beq (tgt := 30) F dX9_block_15 (by decide) hb12 (fun c15 => ?_) (fun c15 => ?_)
    · -- 15 t
      refine x_sipush F dX9_block_30 (by decide) ?_
      exact hret 0 0 33 _ (-1002) (vM_size, fM_stones, fM_laid, fM_deeps) (Nat.le_of_ble_eq_true rfl) (Nat.le_of_ble_eq_true rfl) dX9_block_33 (by (try dsimp only); exact (by first | exact Or.inl (⟨by omega, (by first | rfl | omega), (by first | rfl | omega), (by first | rfl | omega), (by first | rfl | omega), (by first | rfl | omega)⟩) | exact Or.inr (Or.inl (⟨by omega, (by first | rfl | omega), (by first | rfl | omega), (by first | rfl | omega), (by first | rfl | omega), (by first | rfl | omega)⟩)) | exact Or.inr (Or.inr (⟨by omega, (by first | rfl | omega), (by first | rfl | omega), (by first | rfl | omega), (by first | rfl | omega), (by first | rfl | omega)⟩))))
    · -- 15 f
      refine x_iload_n F dX9_block_18 rfl 3 rfl ?_
      refine x_iconst F dX9_block_19 ?_
      refine x_icmp_lt (tgt := 30) F dX9_block_20 (by decide) (by omega) (fun c20 => ?_) (fun c20 => ?_)
      · -- 20 t
        refine x_sipush F dX9_block_30 (by decide) ?_
        exact hret 0 0 33 _ (-1002) (vM_size, fM_stones, fM_laid, fM_deeps) (Nat.le_of_ble_eq_true rfl) (Nat.le_of_ble_eq_true rfl) dX9_block_33 (by (try dsimp only); exact (by first | exact Or.inl (⟨by omega, (by first | rfl | omega), (by first | rfl | omega), (by first | rfl | omega), (by first | rfl | omega), (by first | rfl | omega)⟩) | exact Or.inr (Or.inl (⟨by omega, (by first | rfl | omega), (by first | rfl | omega), (by first | rfl | omega), (by first | rfl | omega), (by first | rfl | omega)⟩)) | exact Or.inr (Or.inr (⟨by omega, (by first | rfl | omega), (by first | rfl | omega), (by first | rfl | omega), (by first | rfl | omega), (by first | rfl | omega)⟩))))
      · -- 20 f
        refine x_iload_n F dX9_block_23 rfl 3 rfl ?_
        refine x_sipush F dX9_block_24 (by decide) ?_
        refine x_icmp_le (tgt := 34) F dX9_block_27 (by decide) (by omega) (fun c27 => ?_) (fun c27 => ?_)
        · -- 27 t
          refine x_aload_n F dX9_block_34 rfl 0 rfl ?_
          refine x_get (ci := 9) F hin9 0 rfl rfl 0 (by decide) hw0 rfl dX9_block_35 ?_
          refine x_iload_n F dX9_block_38 rfl 1 rfl ?_
          refine x_iload_n F dX9_block_39 rfl 2 rfl ?_
          refine x_iload_n F dX9_block_40 rfl 3 rfl ?_
          by_cases hf41 : vM_size < 30
          · -- fork 41 t
            refine x_callVi (ci := 3) (q0 := 1) (As := [.int (jI stone), .int (jI year), .int (jI deep)]) (st := []) F (c_X3_addBlock_ok D kI kJ l qM stone year deep qM_stones qM_laid qM_deeps qM_rates qP qT qM_dangers qM_losses vM_size vM_limit fM_stones fM_laid fM_deeps hr_stone hr_year hr_deep (by omega)) (cwV 3 F.2.2.2.2.1 gX9_block_X3_addBlock rfl rfl rfl (by decide +kernel) ⟨Nat.le_of_ble_eq_true rfl, Nat.le_of_ble_eq_true rfl⟩) rfl rfl [1, 2, 3, 4] [0] [0, 1, 2, 3, 4] rfl rfl (by decide) (by decide) (by decide) (fun _ => rfl) (by decide) rfl (Nat.le_of_ble_eq_true rfl) dX9_block_41 ⟨Nat.le_of_ble_eq_true rfl, Nat.le_of_ble_eq_true rfl⟩ (fun z41 u41 h41 => ?_)
            try dsimp only at h41
            refine x_ws [(qK, .inr (9, [.ref qM, .ref qC, .ref qL, .ref qFr, .ref qE, .ref qK_facts, .ref qN, .ref qS])), (qM, .inr (3, [.ref qM_stones, .ref qM_laid, .ref qM_deeps, .ref qM_rates, .ref qP, .ref qT, .ref qM_dangers, .ref qM_losses, .int (jI (vM_size + 1)), .int (jI vM_limit)])), aI kI qM_stones 30 (iU fM_stones vM_size stone), aI kI qM_laid 30 (iU fM_laid vM_size year), aI kI qM_deeps 30 (iU fM_deeps vM_size deep)] rfl ?_
            have he41 := h41
            have he41 := he41.symm
            subst he41
            exact hret 0 0 44 _ vM_size ((vM_size + 1), (iU fM_stones vM_size stone), (iU fM_laid vM_size year), (iU fM_deeps vM_size deep)) (Nat.le_of_ble_eq_true rfl) (Nat.le_of_ble_eq_true rfl) dX9_block_44 (by (try dsimp only); exact (by first | exact Or.inl (⟨by omega, (by first | rfl | omega), (by first | rfl | omega), (by first | rfl | omega), (by first | rfl | omega), (by first | rfl | omega)⟩) | exact Or.inr (Or.inl (⟨by omega, (by first | rfl | omega), (by first | rfl | omega), (by first | rfl | omega), (by first | rfl | omega), (by first | rfl | omega)⟩)) | exact Or.inr (Or.inr (⟨by omega, (by first | rfl | omega), (by first | rfl | omega), (by first | rfl | omega), (by first | rfl | omega), (by first | rfl | omega)⟩))))
          · -- fork 41 f
            refine x_callVi (ci := 3) (q0 := 1) (As := [.int (jI stone), .int (jI year), .int (jI deep)]) (st := []) F (c_X3_addBlock_full D kI kJ l qM stone year deep qM_stones qM_laid qM_deeps qM_rates qP qT qM_dangers qM_losses vM_size vM_limit fM_stones fM_laid fM_deeps hr_stone hr_year hr_deep (by omega)) (cwV 3 F.2.2.2.2.1 gX9_block_X3_addBlock rfl rfl rfl (by decide +kernel) ⟨Nat.le_of_ble_eq_true rfl, Nat.le_of_ble_eq_true rfl⟩) rfl rfl [1, 2, 3, 4] [0] [0, 1, 2, 3, 4] rfl rfl (by decide) (by decide) (by decide) (fun _ => rfl) (by decide) rfl (Nat.le_of_ble_eq_true rfl) dX9_block_41 ⟨Nat.le_of_ble_eq_true rfl, Nat.le_of_ble_eq_true rfl⟩ (fun z41 u41 h41 => ?_)
            try dsimp only at h41
            refine x_ws [(qK, .inr (9, [.ref qM, .ref qC, .ref qL, .ref qFr, .ref qE, .ref qK_facts, .ref qN, .ref qS])), (qM, .inr (3, [.ref qM_stones, .ref qM_laid, .ref qM_deeps, .ref qM_rates, .ref qP, .ref qT, .ref qM_dangers, .ref qM_losses, .int (jI vM_size), .int (jI vM_limit)])), aI kI qM_stones 30 fM_stones, aI kI qM_laid 30 fM_laid, aI kI qM_deeps 30 fM_deeps] rfl ?_
            have he41 := h41
            have he41 := he41.symm
            subst he41
            exact hret 0 0 44 _ (-1004) (vM_size, fM_stones, fM_laid, fM_deeps) (Nat.le_of_ble_eq_true rfl) (Nat.le_of_ble_eq_true rfl) dX9_block_44 (by (try dsimp only); exact (by first | exact Or.inl (⟨by omega, (by first | rfl | omega), (by first | rfl | omega), (by first | rfl | omega), (by first | rfl | omega), (by first | rfl | omega)⟩) | exact Or.inr (Or.inl (⟨by omega, (by first | rfl | omega), (by first | rfl | omega), (by first | rfl | omega), (by first | rfl | omega), (by first | rfl | omega)⟩)) | exact Or.inr (Or.inr (⟨by omega, (by first | rfl | omega), (by first | rfl | omega), (by first | rfl | omega), (by first | rfl | omega), (by first | rfl | omega)⟩))))
        · -- 27 f
          refine x_sipush F dX9_block_30 (by decide) ?_
          exact hret 0 0 33 _ (-1002) (vM_size, fM_stones, fM_laid, fM_deeps) (Nat.le_of_ble_eq_true rfl) (Nat.le_of_ble_eq_true rfl) dX9_block_33 (by (try dsimp only); exact (by first | exact Or.inl (⟨by omega, (by first | rfl | omega), (by first | rfl | omega), (by first | rfl | omega), (by first | rfl | omega), (by first | rfl | omega)⟩) | exact Or.inr (Or.inl (⟨by omega, (by first | rfl | omega), (by first | rfl | omega), (by first | rfl | omega), (by first | rfl | omega), (by first | rfl | omega)⟩)) | exact Or.inr (Or.inr (⟨by omega, (by first | rfl | omega), (by first | rfl | omega), (by first | rfl | omega), (by first | rfl | omega), (by first | rfl | omega)⟩))))
set_option maxHeartbeats 4000000 in
set_option maxRecDepth 100000 in
theorem c_X9_place (D : va_G) (kI kJ : Nat) (l : Launch) (qK : Nat) (b : Int) (year : Int) (side : Int) (wet : Int) (zone : Int) (qM : Nat) (qC : Nat) (qL : Nat) (qFr : Nat) (qE : Nat) (qK_facts : Nat) (qN : Nat) (qS : Nat) (qM_stones : Nat) (qM_laid : Nat) (qM_deeps : Nat) (qM_rates : Nat) (qP : Nat) (qT : Nat) (qM_dangers : Nat) (qM_losses : Nat) (vM_size : Int) (vM_limit : Int) (qP_blocks : Nat) (qP_years : Nat) (qP_values : Nat) (qP_since : Nat) (vP_size : Int) (fP_blocks : (Int → Int)) (fP_years : (Int → Int)) (fP_values : (Int → Int)) (hr_b : -2147483648 ≤ b ∧ b < 2147483648) (hr_year : -2147483648 ≤ year ∧ year < 2147483648) (hr_side : -2147483648 ≤ side ∧ side < 2147483648) (hr_wet : -2147483648 ≤ wet ∧ wet < 2147483648) (hr_zone : -2147483648 ≤ zone ∧ zone < 2147483648) (hMs : 0 ≤ vM_size ∧ vM_size ≤ 30) (hPs : 0 ≤ vP_size ∧ vP_size ≤ 60) : xMi D kI kJ l yX9_place wsX9_place 3 76 0 0 [.ref qK, .int (jI b), .int (jI year), .int (jI side), .int (jI wet), .int (jI zone)] [(qK, .inr (9, [.ref qM, .ref qC, .ref qL, .ref qFr, .ref qE, .ref qK_facts, .ref qN, .ref qS])), (qM, .inr (3, [.ref qM_stones, .ref qM_laid, .ref qM_deeps, .ref qM_rates, .ref qP, .ref qT, .ref qM_dangers, .ref qM_losses, .int (jI vM_size), .int (jI vM_limit)])), (qP, .inr (7, [.ref qP_blocks, .ref qP_years, .ref qP_values, .ref qP_since, .int (jI vP_size)])), aI kI qP_blocks 60 fP_blocks, aI kI qP_years 60 fP_years, aI kI qP_values 60 fP_values] (fun (z : Int) (u : Int × (Int → Int) × (Int → Int) × (Int → Int)) => (((¬ (0 ≤ b ∧ b < vM_size)) ∧ z = -1001 ∧ u.1 = vP_size ∧ u.2.1 = fP_blocks ∧ u.2.2.1 = fP_years ∧ u.2.2.2 = fP_values) ∨ (((0 ≤ b ∧ b < vM_size) ∧ ¬ ((0 ≤ year ∧ year ≤ 400) ∧ (0 ≤ side ∧ side ≤ 3) ∧ (0 ≤ wet ∧ wet ≤ 3) ∧ 0 ≤ zone ∧ zone ≤ 7)) ∧ z = -1002 ∧ u.1 = vP_size ∧ u.2.1 = fP_blocks ∧ u.2.2.1 = fP_years ∧ u.2.2.2 = fP_values) ∨ (((0 ≤ b ∧ b < vM_size) ∧ ((0 ≤ year ∧ year ≤ 400) ∧ (0 ≤ side ∧ side ≤ 3) ∧ (0 ≤ wet ∧ wet ≤ 3) ∧ 0 ≤ zone ∧ zone ≤ 7) ∧ vP_size = 60) ∧ z = -1004 ∧ u.1 = vP_size ∧ u.2.1 = fP_blocks ∧ u.2.2.1 = fP_years ∧ u.2.2.2 = fP_values) ∨ (((0 ≤ b ∧ b < vM_size) ∧ ((0 ≤ year ∧ year ≤ 400) ∧ (0 ≤ side ∧ side ≤ 3) ∧ (0 ≤ wet ∧ wet ≤ 3) ∧ 0 ≤ zone ∧ zone ≤ 7) ∧ vP_size < 60) ∧ z = vP_size + 1 ∧ u.1 = vP_size + 1 ∧ u.2.1 = iU fP_blocks vP_size b ∧ u.2.2.1 = iU fP_years vP_size year ∧ u.2.2.2 = iU fP_values vP_size (zone * 16 + (side * 4 + wet))))) (fun (u : Int × (Int → Int) × (Int → Int) × (Int → Int)) => [(qK, .inr (9, [.ref qM, .ref qC, .ref qL, .ref qFr, .ref qE, .ref qK_facts, .ref qN, .ref qS])), (qM, .inr (3, [.ref qM_stones, .ref qM_laid, .ref qM_deeps, .ref qM_rates, .ref qP, .ref qT, .ref qM_dangers, .ref qM_losses, .int (jI vM_size), .int (jI vM_limit)])), (qP, .inr (7, [.ref qP_blocks, .ref qP_years, .ref qP_values, .ref qP_since, .int (jI u.1)])), aI kI qP_blocks 60 u.2.1, aI kI qP_years 60 u.2.2.1, aI kI qP_values 60 u.2.2.2]) := by
  refine xMi_of (cc := cX9_place) (maxL := 6) (rt := .int) (by decide) rfl (Nat.le_of_ble_eq_true rfl) (fun _ _ _ => rfl) ?_
  intro p e s m args below meth c A Q F hin2 hret
  have hin3 : ∀ w ∈ wsX30, w ∈ wsX9_place := by decide +kernel
  have hin9 : ∀ w ∈ wsX90, w ∈ wsX9_place := by decide +kernel
  have hw0 : Cond.fieldLink RX9 12 (TX9 0).1 (TX9 0).2.1 (TX9 0).2.2.1 ∈ wsX9_place := by decide +kernel
  refine x_lveq (lv' := [(0, .ref qK), (1, .int (jI b)), (2, .int (jI year)), (3, .int (jI side)), (4, .int (jI wet)), (5, .int (jI zone))]) rfl ?_
  refine x_aload_n F dX9_place_0 rfl 0 rfl ?_
  refine x_get (ci := 9) F hin9 0 rfl rfl 0 (by decide) hw0 rfl dX9_place_1 ?_
  refine x_iload_n F dX9_place_4 rfl 1 rfl ?_
  refine x_callVi (ci := 3) (q0 := 1) (As := [.int (jI b)]) (st := []) F (c_X3_hasBlock D kI kJ l qM b qM_stones qM_laid qM_deeps qM_rates qP qT qM_dangers qM_losses vM_size vM_limit hr_b hMs) (cwV 1 F.2.2.2.2.1 gX9_place_X3_hasBlock rfl rfl rfl (by decide +kernel) ⟨Nat.le_of_ble_eq_true rfl, Nat.le_of_ble_eq_true rfl⟩) rfl rfl [1] [0, 2, 3, 4, 5] [0, 5, 1, 2, 3, 4] rfl rfl (by decide) (by decide) (by decide) (fun _ => rfl) (by decide) rfl (Nat.le_of_ble_eq_true rfl) dX9_place_5 ⟨Nat.le_of_ble_eq_true rfl, Nat.le_of_ble_eq_true rfl⟩ (fun z5 u5 h5 => ?_)
  try dsimp only at h5
  refine x_ws [(qK, .inr (9, [.ref qM, .ref qC, .ref qL, .ref qFr, .ref qE, .ref qK_facts, .ref qN, .ref qS])), (qM, .inr (3, [.ref qM_stones, .ref qM_laid, .ref qM_deeps, .ref qM_rates, .ref qP, .ref qT, .ref qM_dangers, .ref qM_losses, .int (jI vM_size), .int (jI vM_limit)])), (qP, .inr (7, [.ref qP_blocks, .ref qP_years, .ref qP_values, .ref qP_since, .int (jI vP_size)])), aI kI qP_blocks 60 fP_blocks, aI kI qP_years 60 fP_years, aI kI qP_values 60 fP_values] rfl ?_
  have hb5 := h5
  refine x_bne (tgt := 15) F dX9_place_8 (by decide) hb5 (fun c8 => ?_) (fun c8 => ?_)
  · -- 8 t
    refine x_iload_n F dX9_place_15 rfl 2 rfl ?_
    refine x_sipush F dX9_place_16 (by decide) ?_
    refine x_callSi (As := [.int (jI year), .int (jI 401)]) (st := []) F (c_X9_isBelow D kI kJ l year 401 (by omega) (by omega)) (va_cwS 2 F.2.2.2.2.1 gX9_place_X9_isBelow rfl rfl rfl (by decide +kernel) ⟨Nat.le_of_ble_eq_true rfl, Nat.le_of_ble_eq_true rfl⟩) [] [0, 1, 2, 3, 4, 5] [0, 1, 2, 3, 4, 5] rfl rfl (by decide) (by decide) (by decide) (fun _ => rfl) (by decide) rfl (Nat.le_of_ble_eq_true rfl) dX9_place_19 ⟨Nat.le_of_ble_eq_true rfl, Nat.le_of_ble_eq_true rfl⟩ (fun z19 u19 h19 => ?_)
    try dsimp only at h19
    refine x_ws [(qK, .inr (9, [.ref qM, .ref qC, .ref qL, .ref qFr, .ref qE, .ref qK_facts, .ref qN, .ref qS])), (qM, .inr (3, [.ref qM_stones, .ref qM_laid, .ref qM_deeps, .ref qM_rates, .ref qP, .ref qT, .ref qM_dangers, .ref qM_losses, .int (jI vM_size), .int (jI vM_limit)])), (qP, .inr (7, [.ref qP_blocks, .ref qP_years, .ref qP_values, .ref qP_since, .int (jI vP_size)])), aI kI qP_blocks 60 fP_blocks, aI kI qP_years 60 fP_years, aI kI qP_values 60 fP_values] rfl ?_
    have hb19 := h19
    refine x_beq (tgt := 44) F dX9_place_22 (by decide) hb19 (fun c22 => ?_) (fun c22 => ?_)
    · -- 22 t
      refine x_sipush F dX9_place_44 (by decide) ?_
      exact hret 0 0 47 _ (-1002) (vP_size, fP_blocks, fP_years, fP_values) (Nat.le_of_ble_eq_true rfl) (Nat.le_of_ble_eq_true rfl) dX9_place_47 (by (try dsimp only); exact (by first | exact Or.inl (⟨by omega, (by first | rfl | omega), (by first | rfl | omega), (by first | rfl | omega), (by first | rfl | omega), (by first | rfl | omega)⟩) | exact Or.inr (Or.inl (⟨by omega, (by first | rfl | omega), (by first | rfl | omega), (by first | rfl | omega), (by first | rfl | omega), (by first | rfl | omega)⟩)) | exact Or.inr (Or.inr (Or.inl (⟨by omega, (by first | rfl | omega), (by first | rfl | omega), (by first | rfl | omega), (by first | rfl | omega), (by first | rfl | omega)⟩))) | exact Or.inr (Or.inr (Or.inr (⟨by omega, (by first | rfl | omega), (by first | rfl | omega), (by first | rfl | omega), (by first | rfl | omega), (by first | rfl | omega)⟩)))))
    · -- 22 f
      refine x_iload_n F dX9_place_25 rfl 3 rfl ?_
      refine x_iload F dX9_place_26 4 rfl ?_
      refine x_callSi (As := [.int (jI side), .int (jI wet)]) (st := []) F (c_X9_isSpot D kI kJ l side wet hr_side hr_wet) (va_cwS 2 F.2.2.2.2.1 gX9_place_X9_isSpot rfl rfl rfl (by decide +kernel) ⟨Nat.le_of_ble_eq_true rfl, Nat.le_of_ble_eq_true rfl⟩) [] [0, 1, 2, 3, 4, 5] [0, 1, 2, 3, 4, 5] rfl rfl (by decide) (by decide) (by decide) (fun _ => rfl) (by decide) rfl (Nat.le_of_ble_eq_true rfl) dX9_place_28 ⟨Nat.le_of_ble_eq_true rfl, Nat.le_of_ble_eq_true rfl⟩ (fun z28 u28 h28 => ?_)
      try dsimp only at h28
      refine x_ws [(qK, .inr (9, [.ref qM, .ref qC, .ref qL, .ref qFr, .ref qE, .ref qK_facts, .ref qN, .ref qS])), (qM, .inr (3, [.ref qM_stones, .ref qM_laid, .ref qM_deeps, .ref qM_rates, .ref qP, .ref qT, .ref qM_dangers, .ref qM_losses, .int (jI vM_size), .int (jI vM_limit)])), (qP, .inr (7, [.ref qP_blocks, .ref qP_years, .ref qP_values, .ref qP_since, .int (jI vP_size)])), aI kI qP_blocks 60 fP_blocks, aI kI qP_years 60 fP_years, aI kI qP_values 60 fP_values] rfl ?_
      have hb28 := h28
      refine x_beq (tgt := 44) F dX9_place_31 (by decide) hb28 (fun c31 => ?_) (fun c31 => ?_)
      · -- 31 t
        refine x_sipush F dX9_place_44 (by decide) ?_
        exact hret 0 0 47 _ (-1002) (vP_size, fP_blocks, fP_years, fP_values) (Nat.le_of_ble_eq_true rfl) (Nat.le_of_ble_eq_true rfl) dX9_place_47 (by (try dsimp only); exact (by first | exact Or.inl (⟨by omega, (by first | rfl | omega), (by first | rfl | omega), (by first | rfl | omega), (by first | rfl | omega), (by first | rfl | omega)⟩) | exact Or.inr (Or.inl (⟨by omega, (by first | rfl | omega), (by first | rfl | omega), (by first | rfl | omega), (by first | rfl | omega), (by first | rfl | omega)⟩)) | exact Or.inr (Or.inr (Or.inl (⟨by omega, (by first | rfl | omega), (by first | rfl | omega), (by first | rfl | omega), (by first | rfl | omega), (by first | rfl | omega)⟩))) | exact Or.inr (Or.inr (Or.inr (⟨by omega, (by first | rfl | omega), (by first | rfl | omega), (by first | rfl | omega), (by first | rfl | omega), (by first | rfl | omega)⟩)))))
      · -- 31 f
        refine x_iload F dX9_place_34 5 rfl ?_
        refine x_bipush F dX9_place_36 (by decide) ?_
        refine x_callSi (As := [.int (jI zone), .int (jI 8)]) (st := []) F (c_X9_isBelow D kI kJ l zone 8 (by omega) (by omega)) (va_cwS 2 F.2.2.2.2.1 gX9_place_X9_isBelow rfl rfl rfl (by decide +kernel) ⟨Nat.le_of_ble_eq_true rfl, Nat.le_of_ble_eq_true rfl⟩) [] [0, 1, 2, 3, 4, 5] [0, 1, 2, 3, 4, 5] rfl rfl (by decide) (by decide) (by decide) (fun _ => rfl) (by decide) rfl (Nat.le_of_ble_eq_true rfl) dX9_place_38 ⟨Nat.le_of_ble_eq_true rfl, Nat.le_of_ble_eq_true rfl⟩ (fun z38 u38 h38 => ?_)
        try dsimp only at h38
        refine x_ws [(qK, .inr (9, [.ref qM, .ref qC, .ref qL, .ref qFr, .ref qE, .ref qK_facts, .ref qN, .ref qS])), (qM, .inr (3, [.ref qM_stones, .ref qM_laid, .ref qM_deeps, .ref qM_rates, .ref qP, .ref qT, .ref qM_dangers, .ref qM_losses, .int (jI vM_size), .int (jI vM_limit)])), (qP, .inr (7, [.ref qP_blocks, .ref qP_years, .ref qP_values, .ref qP_since, .int (jI vP_size)])), aI kI qP_blocks 60 fP_blocks, aI kI qP_years 60 fP_years, aI kI qP_values 60 fP_values] rfl ?_
        have hb38 := h38
        refine x_bne (tgt := 48) F dX9_place_41 (by decide) hb38 (fun c41 => ?_) (fun c41 => ?_)
        · -- 41 t
          refine x_aload_n F dX9_place_48 rfl 0 rfl ?_
          refine x_get (ci := 9) F hin9 0 rfl rfl 0 (by decide) hw0 rfl dX9_place_49 ?_
          refine x_getN (ci := 3) F hin3 1 rfl rfl 4 (by decide) (nF2 F.2.2.2.2.2.2.2) rfl dX9_place_52 ?_
          refine x_iload_n F dX9_place_55 rfl 1 rfl ?_
          refine x_iload_n F dX9_place_56 rfl 2 rfl ?_
          refine x_iload F dX9_place_57 5 rfl ?_
          refine x_bipush F dX9_place_59 (by decide) ?_
          refine x_imul F dX9_place_61 ?_
          refine x_iload_n F dX9_place_62 rfl 3 rfl ?_
          refine x_iload F dX9_place_63 4 rfl ?_
          refine x_callSi (As := [.int (jI side), .int (jI wet)]) (st := [.int (jI (zone * 16)), .int (jI year), .int (jI b), .ref qP]) F (c_X9_spot D kI kJ l side wet hr_side hr_wet) (va_cwS 2 F.2.2.2.2.1 gX9_place_X9_spot rfl rfl rfl (by decide +kernel) ⟨Nat.le_of_ble_eq_true rfl, Nat.le_of_ble_eq_true rfl⟩) [] [0, 1, 2, 3, 4, 5] [0, 1, 2, 3, 4, 5] rfl rfl (by decide) (by decide) (by decide) (fun _ => rfl) (by decide) rfl (Nat.le_of_ble_eq_true rfl) dX9_place_65 ⟨Nat.le_of_ble_eq_true rfl, Nat.le_of_ble_eq_true rfl⟩ (fun z65 u65 h65 => ?_)
          try dsimp only at h65
          refine x_ws [(qK, .inr (9, [.ref qM, .ref qC, .ref qL, .ref qFr, .ref qE, .ref qK_facts, .ref qN, .ref qS])), (qM, .inr (3, [.ref qM_stones, .ref qM_laid, .ref qM_deeps, .ref qM_rates, .ref qP, .ref qT, .ref qM_dangers, .ref qM_losses, .int (jI vM_size), .int (jI vM_limit)])), (qP, .inr (7, [.ref qP_blocks, .ref qP_years, .ref qP_values, .ref qP_since, .int (jI vP_size)])), aI kI qP_blocks 60 fP_blocks, aI kI qP_years 60 fP_years, aI kI qP_values 60 fP_values] rfl ?_
          have he65 := h65
          have he65 := he65.symm
          subst he65
          refine x_iadd F dX9_place_68 ?_
          by_cases hf69 : vP_size < 60
          · -- fork 69 t
            refine x_callVi (ci := 7) (q0 := 2) (As := [.int (jI b), .int (jI year), .int (jI ((zone * 16) + (side * 4 + wet)))]) (st := []) F (c_X7_add_ok D kI kJ l qP b year ((zone * 16) + (side * 4 + wet)) qP_blocks qP_years qP_values qP_since vP_size fP_blocks fP_years fP_values hr_b hr_year (by omega) (by omega)) (cwV 3 F.2.2.2.2.1 gX9_place_X7_add rfl rfl rfl (by decide +kernel) ⟨Nat.le_of_ble_eq_true rfl, Nat.le_of_ble_eq_true rfl⟩) rfl rfl [2, 3, 4, 5] [0, 1] [0, 1, 2, 3, 4, 5] rfl rfl (by decide) (by decide) (by decide) (fun _ => rfl) (by decide) rfl (Nat.le_of_ble_eq_true rfl) dX9_place_69 ⟨Nat.le_of_ble_eq_true rfl, Nat.le_of_ble_eq_true rfl⟩ (fun z69 u69 h69 => ?_)
            try dsimp only at h69
            refine x_ws [(qK, .inr (9, [.ref qM, .ref qC, .ref qL, .ref qFr, .ref qE, .ref qK_facts, .ref qN, .ref qS])), (qM, .inr (3, [.ref qM_stones, .ref qM_laid, .ref qM_deeps, .ref qM_rates, .ref qP, .ref qT, .ref qM_dangers, .ref qM_losses, .int (jI vM_size), .int (jI vM_limit)])), (qP, .inr (7, [.ref qP_blocks, .ref qP_years, .ref qP_values, .ref qP_since, .int (jI (vP_size + 1))])), aI kI qP_blocks 60 (iU fP_blocks vP_size b), aI kI qP_years 60 (iU fP_years vP_size year), aI kI qP_values 60 (iU fP_values vP_size ((zone * 16) + (side * 4 + wet)))] rfl ?_
            have he69 := h69
            have he69 := he69.symm
            subst he69
            exact hret 0 0 72 _ (vP_size + 1) ((vP_size + 1), (iU fP_blocks vP_size b), (iU fP_years vP_size year), (iU fP_values vP_size ((zone * 16) + (side * 4 + wet)))) (Nat.le_of_ble_eq_true rfl) (Nat.le_of_ble_eq_true rfl) dX9_place_72 (by (try dsimp only); exact (by first | exact Or.inl (⟨by omega, (by first | rfl | omega), (by first | rfl | omega), (by first | rfl | omega), (by first | rfl | omega), (by first | rfl | omega)⟩) | exact Or.inr (Or.inl (⟨by omega, (by first | rfl | omega), (by first | rfl | omega), (by first | rfl | omega), (by first | rfl | omega), (by first | rfl | omega)⟩)) | exact Or.inr (Or.inr (Or.inl (⟨by omega, (by first | rfl | omega), (by first | rfl | omega), (by first | rfl | omega), (by first | rfl | omega), (by first | rfl | omega)⟩))) | exact Or.inr (Or.inr (Or.inr (⟨by omega, (by first | rfl | omega), (by first | rfl | omega), (by first | rfl | omega), (by first | rfl | omega), (by first | rfl | omega)⟩)))))
          · -- fork 69 f
            refine x_callVi (ci := 7) (q0 := 2) (As := [.int (jI b), .int (jI year), .int (jI ((zone * 16) + (side * 4 + wet)))]) (st := []) F (c_X7_add_full D kI kJ l qP b year ((zone * 16) + (side * 4 + wet)) qP_blocks qP_years qP_values qP_since vP_size fP_blocks fP_years fP_values hr_b hr_year (by omega) (by omega)) (cwV 3 F.2.2.2.2.1 gX9_place_X7_add rfl rfl rfl (by decide +kernel) ⟨Nat.le_of_ble_eq_true rfl, Nat.le_of_ble_eq_true rfl⟩) rfl rfl [2, 3, 4, 5] [0, 1] [0, 1, 2, 3, 4, 5] rfl rfl (by decide) (by decide) (by decide) (fun _ => rfl) (by decide) rfl (Nat.le_of_ble_eq_true rfl) dX9_place_69 ⟨Nat.le_of_ble_eq_true rfl, Nat.le_of_ble_eq_true rfl⟩ (fun z69 u69 h69 => ?_)
            try dsimp only at h69
            refine x_ws [(qK, .inr (9, [.ref qM, .ref qC, .ref qL, .ref qFr, .ref qE, .ref qK_facts, .ref qN, .ref qS])), (qM, .inr (3, [.ref qM_stones, .ref qM_laid, .ref qM_deeps, .ref qM_rates, .ref qP, .ref qT, .ref qM_dangers, .ref qM_losses, .int (jI vM_size), .int (jI vM_limit)])), (qP, .inr (7, [.ref qP_blocks, .ref qP_years, .ref qP_values, .ref qP_since, .int (jI vP_size)])), aI kI qP_blocks 60 fP_blocks, aI kI qP_years 60 fP_years, aI kI qP_values 60 fP_values] rfl ?_
            have he69 := h69
            have he69 := he69.symm
            subst he69
            exact hret 0 0 72 _ (-1004) (vP_size, fP_blocks, fP_years, fP_values) (Nat.le_of_ble_eq_true rfl) (Nat.le_of_ble_eq_true rfl) dX9_place_72 (by (try dsimp only); exact (by first | exact Or.inl (⟨by omega, (by first | rfl | omega), (by first | rfl | omega), (by first | rfl | omega), (by first | rfl | omega), (by first | rfl | omega)⟩) | exact Or.inr (Or.inl (⟨by omega, (by first | rfl | omega), (by first | rfl | omega), (by first | rfl | omega), (by first | rfl | omega), (by first | rfl | omega)⟩)) | exact Or.inr (Or.inr (Or.inl (⟨by omega, (by first | rfl | omega), (by first | rfl | omega), (by first | rfl | omega), (by first | rfl | omega), (by first | rfl | omega)⟩))) | exact Or.inr (Or.inr (Or.inr (⟨by omega, (by first | rfl | omega), (by first | rfl | omega), (by first | rfl | omega), (by first | rfl | omega), (by first | rfl | omega)⟩)))))
        · -- 41 f
          refine x_sipush F dX9_place_44 (by decide) ?_
          exact hret 0 0 47 _ (-1002) (vP_size, fP_blocks, fP_years, fP_values) (Nat.le_of_ble_eq_true rfl) (Nat.le_of_ble_eq_true rfl) dX9_place_47 (by (try dsimp only); exact (by first | exact Or.inl (⟨by omega, (by first | rfl | omega), (by first | rfl | omega), (by first | rfl | omega), (by first | rfl | omega), (by first | rfl | omega)⟩) | exact Or.inr (Or.inl (⟨by omega, (by first | rfl | omega), (by first | rfl | omega), (by first | rfl | omega), (by first | rfl | omega), (by first | rfl | omega)⟩)) | exact Or.inr (Or.inr (Or.inl (⟨by omega, (by first | rfl | omega), (by first | rfl | omega), (by first | rfl | omega), (by first | rfl | omega), (by first | rfl | omega)⟩))) | exact Or.inr (Or.inr (Or.inr (⟨by omega, (by first | rfl | omega), (by first | rfl | omega), (by first | rfl | omega), (by first | rfl | omega), (by first | rfl | omega)⟩)))))
  · -- 8 f
    refine x_sipush F dX9_place_11 (by decide) ?_
    exact hret 0 0 14 _ (-1001) (vP_size, fP_blocks, fP_years, fP_values) (Nat.le_of_ble_eq_true rfl) (Nat.le_of_ble_eq_true rfl) dX9_place_14 (by (try dsimp only); exact (by first | exact Or.inl (⟨by omega, (by first | rfl | omega), (by first | rfl | omega), (by first | rfl | omega), (by first | rfl | omega), (by first | rfl | omega)⟩) | exact Or.inr (Or.inl (⟨by omega, (by first | rfl | omega), (by first | rfl | omega), (by first | rfl | omega), (by first | rfl | omega), (by first | rfl | omega)⟩)) | exact Or.inr (Or.inr (Or.inl (⟨by omega, (by first | rfl | omega), (by first | rfl | omega), (by first | rfl | omega), (by first | rfl | omega), (by first | rfl | omega)⟩))) | exact Or.inr (Or.inr (Or.inr (⟨by omega, (by first | rfl | omega), (by first | rfl | omega), (by first | rfl | omega), (by first | rfl | omega), (by first | rfl | omega)⟩)))))
set_option maxHeartbeats 4000000 in
set_option maxRecDepth 100000 in
theorem c_X9_mortar (D : va_G) (kI kJ : Nat) (l : Launch) (qK : Nat) (b : Int) (year : Int) (wrong : Int) (qM : Nat) (qC : Nat) (qL : Nat) (qFr : Nat) (qE : Nat) (qK_facts : Nat) (qN : Nat) (qS : Nat) (qM_stones : Nat) (qM_laid : Nat) (qM_deeps : Nat) (qM_rates : Nat) (qP : Nat) (qT : Nat) (qM_dangers : Nat) (qM_losses : Nat) (vM_size : Int) (vM_limit : Int) (qT_blocks : Nat) (qT_years : Nat) (qT_values : Nat) (qT_since : Nat) (vT_size : Int) (fT_blocks : (Int → Int)) (fT_years : (Int → Int)) (fT_values : (Int → Int)) (hr_b : -2147483648 ≤ b ∧ b < 2147483648) (hr_year : -2147483648 ≤ year ∧ year < 2147483648) (hr_wrong : -2147483648 ≤ wrong ∧ wrong < 2147483648) (hMs : 0 ≤ vM_size ∧ vM_size ≤ 30) (hTs : 0 ≤ vT_size ∧ vT_size ≤ 60) : xMi D kI kJ l yX9_mortar wsX9_mortar 3 76 0 0 [.ref qK, .int (jI b), .int (jI year), .int (jI wrong)] [(qK, .inr (9, [.ref qM, .ref qC, .ref qL, .ref qFr, .ref qE, .ref qK_facts, .ref qN, .ref qS])), (qM, .inr (3, [.ref qM_stones, .ref qM_laid, .ref qM_deeps, .ref qM_rates, .ref qP, .ref qT, .ref qM_dangers, .ref qM_losses, .int (jI vM_size), .int (jI vM_limit)])), (qT, .inr (7, [.ref qT_blocks, .ref qT_years, .ref qT_values, .ref qT_since, .int (jI vT_size)])), aI kI qT_blocks 60 fT_blocks, aI kI qT_years 60 fT_years, aI kI qT_values 60 fT_values] (fun (z : Int) (u : Int × (Int → Int) × (Int → Int) × (Int → Int)) => (((¬ (0 ≤ b ∧ b < vM_size)) ∧ z = -1001 ∧ u.1 = vT_size ∧ u.2.1 = fT_blocks ∧ u.2.2.1 = fT_years ∧ u.2.2.2 = fT_values) ∨ (((0 ≤ b ∧ b < vM_size) ∧ ¬ (0 ≤ year ∧ year ≤ 400)) ∧ z = -1002 ∧ u.1 = vT_size ∧ u.2.1 = fT_blocks ∧ u.2.2.1 = fT_years ∧ u.2.2.2 = fT_values) ∨ (((0 ≤ b ∧ b < vM_size) ∧ (0 ≤ year ∧ year ≤ 400) ∧ vT_size = 60) ∧ z = -1004 ∧ u.1 = vT_size ∧ u.2.1 = fT_blocks ∧ u.2.2.1 = fT_years ∧ u.2.2.2 = fT_values) ∨ (((0 ≤ b ∧ b < vM_size) ∧ (0 ≤ year ∧ year ≤ 400) ∧ vT_size < 60 ∧ ¬ wrong = 0) ∧ z = vT_size + 1 ∧ u.1 = vT_size + 1 ∧ u.2.1 = iU fT_blocks vT_size b ∧ u.2.2.1 = iU fT_years vT_size year ∧ u.2.2.2 = iU fT_values vT_size 1) ∨ (((0 ≤ b ∧ b < vM_size) ∧ (0 ≤ year ∧ year ≤ 400) ∧ vT_size < 60 ∧ wrong = 0) ∧ z = vT_size + 1 ∧ u.1 = vT_size + 1 ∧ u.2.1 = iU fT_blocks vT_size b ∧ u.2.2.1 = iU fT_years vT_size year ∧ u.2.2.2 = iU fT_values vT_size 0))) (fun (u : Int × (Int → Int) × (Int → Int) × (Int → Int)) => [(qK, .inr (9, [.ref qM, .ref qC, .ref qL, .ref qFr, .ref qE, .ref qK_facts, .ref qN, .ref qS])), (qM, .inr (3, [.ref qM_stones, .ref qM_laid, .ref qM_deeps, .ref qM_rates, .ref qP, .ref qT, .ref qM_dangers, .ref qM_losses, .int (jI vM_size), .int (jI vM_limit)])), (qT, .inr (7, [.ref qT_blocks, .ref qT_years, .ref qT_values, .ref qT_since, .int (jI u.1)])), aI kI qT_blocks 60 u.2.1, aI kI qT_years 60 u.2.2.1, aI kI qT_values 60 u.2.2.2]) := by
  refine xMi_of (cc := cX9_mortar) (maxL := 4) (rt := .int) (by decide) rfl (Nat.le_of_ble_eq_true rfl) (fun _ _ _ => rfl) ?_
  intro p e s m args below meth c A Q F hin2 hret
  have hin3 : ∀ w ∈ wsX30, w ∈ wsX9_mortar := by decide +kernel
  have hin9 : ∀ w ∈ wsX90, w ∈ wsX9_mortar := by decide +kernel
  have hw0 : Cond.fieldLink RX9 12 (TX9 0).1 (TX9 0).2.1 (TX9 0).2.2.1 ∈ wsX9_mortar := by decide +kernel
  refine x_lveq (lv' := [(0, .ref qK), (1, .int (jI b)), (2, .int (jI year)), (3, .int (jI wrong))]) rfl ?_
  refine x_aload_n F dX9_mortar_0 rfl 0 rfl ?_
  refine x_get (ci := 9) F hin9 0 rfl rfl 0 (by decide) hw0 rfl dX9_mortar_1 ?_
  refine x_iload_n F dX9_mortar_4 rfl 1 rfl ?_
  refine x_callVi (ci := 3) (q0 := 1) (As := [.int (jI b)]) (st := []) F (c_X3_hasBlock D kI kJ l qM b qM_stones qM_laid qM_deeps qM_rates qP qT qM_dangers qM_losses vM_size vM_limit hr_b hMs) (cwV 1 F.2.2.2.2.1 gX9_mortar_X3_hasBlock rfl rfl rfl (by decide +kernel) ⟨Nat.le_of_ble_eq_true rfl, Nat.le_of_ble_eq_true rfl⟩) rfl rfl [1] [0, 2, 3, 4, 5] [0, 5, 1, 2, 3, 4] rfl rfl (by decide) (by decide) (by decide) (fun _ => rfl) (by decide) rfl (Nat.le_of_ble_eq_true rfl) dX9_mortar_5 ⟨Nat.le_of_ble_eq_true rfl, Nat.le_of_ble_eq_true rfl⟩ (fun z5 u5 h5 => ?_)
  try dsimp only at h5
  refine x_ws [(qK, .inr (9, [.ref qM, .ref qC, .ref qL, .ref qFr, .ref qE, .ref qK_facts, .ref qN, .ref qS])), (qM, .inr (3, [.ref qM_stones, .ref qM_laid, .ref qM_deeps, .ref qM_rates, .ref qP, .ref qT, .ref qM_dangers, .ref qM_losses, .int (jI vM_size), .int (jI vM_limit)])), (qT, .inr (7, [.ref qT_blocks, .ref qT_years, .ref qT_values, .ref qT_since, .int (jI vT_size)])), aI kI qT_blocks 60 fT_blocks, aI kI qT_years 60 fT_years, aI kI qT_values 60 fT_values] rfl ?_
  have hb5 := h5
  refine x_bne (tgt := 15) F dX9_mortar_8 (by decide) hb5 (fun c8 => ?_) (fun c8 => ?_)
  · -- 8 t
    refine x_iload_n F dX9_mortar_15 rfl 2 rfl ?_
    refine x_sipush F dX9_mortar_16 (by decide) ?_
    refine x_callSi (As := [.int (jI year), .int (jI 401)]) (st := []) F (c_X9_isBelow D kI kJ l year 401 (by omega) (by omega)) (va_cwS 2 F.2.2.2.2.1 gX9_mortar_X9_isBelow rfl rfl rfl (by decide +kernel) ⟨Nat.le_of_ble_eq_true rfl, Nat.le_of_ble_eq_true rfl⟩) [] [0, 1, 2, 3, 4, 5] [0, 1, 2, 3, 4, 5] rfl rfl (by decide) (by decide) (by decide) (fun _ => rfl) (by decide) rfl (Nat.le_of_ble_eq_true rfl) dX9_mortar_19 ⟨Nat.le_of_ble_eq_true rfl, Nat.le_of_ble_eq_true rfl⟩ (fun z19 u19 h19 => ?_)
    try dsimp only at h19
    refine x_ws [(qK, .inr (9, [.ref qM, .ref qC, .ref qL, .ref qFr, .ref qE, .ref qK_facts, .ref qN, .ref qS])), (qM, .inr (3, [.ref qM_stones, .ref qM_laid, .ref qM_deeps, .ref qM_rates, .ref qP, .ref qT, .ref qM_dangers, .ref qM_losses, .int (jI vM_size), .int (jI vM_limit)])), (qT, .inr (7, [.ref qT_blocks, .ref qT_years, .ref qT_values, .ref qT_since, .int (jI vT_size)])), aI kI qT_blocks 60 fT_blocks, aI kI qT_years 60 fT_years, aI kI qT_values 60 fT_values] rfl ?_
    have hb19 := h19
    refine x_bne (tgt := 29) F dX9_mortar_22 (by decide) hb19 (fun c22 => ?_) (fun c22 => ?_)
    · -- 22 t
      refine x_aload_n F dX9_mortar_29 rfl 0 rfl ?_
      refine x_get (ci := 9) F hin9 0 rfl rfl 0 (by decide) hw0 rfl dX9_mortar_30 ?_
      refine x_getN (ci := 3) F hin3 1 rfl rfl 5 (by decide) (nF4 F.2.2.2.2.2.2.2) rfl dX9_mortar_33 ?_
      refine x_iload_n F dX9_mortar_36 rfl 1 rfl ?_
      refine x_iload_n F dX9_mortar_37 rfl 2 rfl ?_
      refine x_iload_n F dX9_mortar_38 rfl 3 rfl ?_
      refine x_if_eq (tgt := 46) F dX9_mortar_39 (by decide) (by omega) (fun c39 => ?_) (fun c39 => ?_)
      · -- 39 t
        refine x_iconst F dX9_mortar_46 ?_
        by_cases hf47 : vT_size < 60
        · -- fork 47 t
          refine x_callVi (ci := 7) (q0 := 2) (As := [.int (jI b), .int (jI year), .int (jI 0)]) (st := []) F (c_X7_add_ok D kI kJ l qT b year 0 qT_blocks qT_years qT_values qT_since vT_size fT_blocks fT_years fT_values hr_b hr_year (by omega) (by omega)) (cwV 3 F.2.2.2.2.1 gX9_mortar_X7_add rfl rfl rfl (by decide +kernel) ⟨Nat.le_of_ble_eq_true rfl, Nat.le_of_ble_eq_true rfl⟩) rfl rfl [2, 3, 4, 5] [0, 1] [0, 1, 2, 3, 4, 5] rfl rfl (by decide) (by decide) (by decide) (fun _ => rfl) (by decide) rfl (Nat.le_of_ble_eq_true rfl) dX9_mortar_47 ⟨Nat.le_of_ble_eq_true rfl, Nat.le_of_ble_eq_true rfl⟩ (fun z47 u47 h47 => ?_)
          try dsimp only at h47
          refine x_ws [(qK, .inr (9, [.ref qM, .ref qC, .ref qL, .ref qFr, .ref qE, .ref qK_facts, .ref qN, .ref qS])), (qM, .inr (3, [.ref qM_stones, .ref qM_laid, .ref qM_deeps, .ref qM_rates, .ref qP, .ref qT, .ref qM_dangers, .ref qM_losses, .int (jI vM_size), .int (jI vM_limit)])), (qT, .inr (7, [.ref qT_blocks, .ref qT_years, .ref qT_values, .ref qT_since, .int (jI (vT_size + 1))])), aI kI qT_blocks 60 (iU fT_blocks vT_size b), aI kI qT_years 60 (iU fT_years vT_size year), aI kI qT_values 60 (iU fT_values vT_size 0)] rfl ?_
          have he47 := h47
          have he47 := he47.symm
          subst he47
          exact hret 0 0 50 _ (vT_size + 1) ((vT_size + 1), (iU fT_blocks vT_size b), (iU fT_years vT_size year), (iU fT_values vT_size 0)) (Nat.le_of_ble_eq_true rfl) (Nat.le_of_ble_eq_true rfl) dX9_mortar_50 (by (try dsimp only); exact (by first | exact Or.inl (⟨by omega, (by first | rfl | omega), (by first | rfl | omega), (by first | rfl | omega), (by first | rfl | omega), (by first | rfl | omega)⟩) | exact Or.inr (Or.inl (⟨by omega, (by first | rfl | omega), (by first | rfl | omega), (by first | rfl | omega), (by first | rfl | omega), (by first | rfl | omega)⟩)) | exact Or.inr (Or.inr (Or.inl (⟨by omega, (by first | rfl | omega), (by first | rfl | omega), (by first | rfl | omega), (by first | rfl | omega), (by first | rfl | omega)⟩))) | exact Or.inr (Or.inr (Or.inr (Or.inl (⟨by omega, (by first | rfl | omega), (by first | rfl | omega), (by first | rfl | omega), (by first | rfl | omega), (by first | rfl | omega)⟩)))) | exact Or.inr (Or.inr (Or.inr (Or.inr (⟨by omega, (by first | rfl | omega), (by first | rfl | omega), (by first | rfl | omega), (by first | rfl | omega), (by first | rfl | omega)⟩))))))
        · -- fork 47 f
          refine x_callVi (ci := 7) (q0 := 2) (As := [.int (jI b), .int (jI year), .int (jI 0)]) (st := []) F (c_X7_add_full D kI kJ l qT b year 0 qT_blocks qT_years qT_values qT_since vT_size fT_blocks fT_years fT_values hr_b hr_year (by omega) (by omega)) (cwV 3 F.2.2.2.2.1 gX9_mortar_X7_add rfl rfl rfl (by decide +kernel) ⟨Nat.le_of_ble_eq_true rfl, Nat.le_of_ble_eq_true rfl⟩) rfl rfl [2, 3, 4, 5] [0, 1] [0, 1, 2, 3, 4, 5] rfl rfl (by decide) (by decide) (by decide) (fun _ => rfl) (by decide) rfl (Nat.le_of_ble_eq_true rfl) dX9_mortar_47 ⟨Nat.le_of_ble_eq_true rfl, Nat.le_of_ble_eq_true rfl⟩ (fun z47 u47 h47 => ?_)
          try dsimp only at h47
          refine x_ws [(qK, .inr (9, [.ref qM, .ref qC, .ref qL, .ref qFr, .ref qE, .ref qK_facts, .ref qN, .ref qS])), (qM, .inr (3, [.ref qM_stones, .ref qM_laid, .ref qM_deeps, .ref qM_rates, .ref qP, .ref qT, .ref qM_dangers, .ref qM_losses, .int (jI vM_size), .int (jI vM_limit)])), (qT, .inr (7, [.ref qT_blocks, .ref qT_years, .ref qT_values, .ref qT_since, .int (jI vT_size)])), aI kI qT_blocks 60 fT_blocks, aI kI qT_years 60 fT_years, aI kI qT_values 60 fT_values] rfl ?_
          have he47 := h47
          have he47 := he47.symm
          subst he47
          exact hret 0 0 50 _ (-1004) (vT_size, fT_blocks, fT_years, fT_values) (Nat.le_of_ble_eq_true rfl) (Nat.le_of_ble_eq_true rfl) dX9_mortar_50 (by (try dsimp only); exact (by first | exact Or.inl (⟨by omega, (by first | rfl | omega), (by first | rfl | omega), (by first | rfl | omega), (by first | rfl | omega), (by first | rfl | omega)⟩) | exact Or.inr (Or.inl (⟨by omega, (by first | rfl | omega), (by first | rfl | omega), (by first | rfl | omega), (by first | rfl | omega), (by first | rfl | omega)⟩)) | exact Or.inr (Or.inr (Or.inl (⟨by omega, (by first | rfl | omega), (by first | rfl | omega), (by first | rfl | omega), (by first | rfl | omega), (by first | rfl | omega)⟩))) | exact Or.inr (Or.inr (Or.inr (Or.inl (⟨by omega, (by first | rfl | omega), (by first | rfl | omega), (by first | rfl | omega), (by first | rfl | omega), (by first | rfl | omega)⟩)))) | exact Or.inr (Or.inr (Or.inr (Or.inr (⟨by omega, (by first | rfl | omega), (by first | rfl | omega), (by first | rfl | omega), (by first | rfl | omega), (by first | rfl | omega)⟩))))))
      · -- 39 f
        refine x_iconst F dX9_mortar_42 ?_
        refine x_goto (tgt := 47) F dX9_mortar_43 (by decide) ?_
        by_cases hf47 : vT_size < 60
        · -- fork 47 t
          refine x_callVi (ci := 7) (q0 := 2) (As := [.int (jI b), .int (jI year), .int (jI 1)]) (st := []) F (c_X7_add_ok D kI kJ l qT b year 1 qT_blocks qT_years qT_values qT_since vT_size fT_blocks fT_years fT_values hr_b hr_year (by omega) (by omega)) (cwV 3 F.2.2.2.2.1 gX9_mortar_X7_add rfl rfl rfl (by decide +kernel) ⟨Nat.le_of_ble_eq_true rfl, Nat.le_of_ble_eq_true rfl⟩) rfl rfl [2, 3, 4, 5] [0, 1] [0, 1, 2, 3, 4, 5] rfl rfl (by decide) (by decide) (by decide) (fun _ => rfl) (by decide) rfl (Nat.le_of_ble_eq_true rfl) dX9_mortar_47 ⟨Nat.le_of_ble_eq_true rfl, Nat.le_of_ble_eq_true rfl⟩ (fun z47 u47 h47 => ?_)
          try dsimp only at h47
          refine x_ws [(qK, .inr (9, [.ref qM, .ref qC, .ref qL, .ref qFr, .ref qE, .ref qK_facts, .ref qN, .ref qS])), (qM, .inr (3, [.ref qM_stones, .ref qM_laid, .ref qM_deeps, .ref qM_rates, .ref qP, .ref qT, .ref qM_dangers, .ref qM_losses, .int (jI vM_size), .int (jI vM_limit)])), (qT, .inr (7, [.ref qT_blocks, .ref qT_years, .ref qT_values, .ref qT_since, .int (jI (vT_size + 1))])), aI kI qT_blocks 60 (iU fT_blocks vT_size b), aI kI qT_years 60 (iU fT_years vT_size year), aI kI qT_values 60 (iU fT_values vT_size 1)] rfl ?_
          have he47 := h47
          have he47 := he47.symm
          subst he47
          exact hret 0 0 50 _ (vT_size + 1) ((vT_size + 1), (iU fT_blocks vT_size b), (iU fT_years vT_size year), (iU fT_values vT_size 1)) (Nat.le_of_ble_eq_true rfl) (Nat.le_of_ble_eq_true rfl) dX9_mortar_50 (by (try dsimp only); exact (by first | exact Or.inl (⟨by omega, (by first | rfl | omega), (by first | rfl | omega), (by first | rfl | omega), (by first | rfl | omega), (by first | rfl | omega)⟩) | exact Or.inr (Or.inl (⟨by omega, (by first | rfl | omega), (by first | rfl | omega), (by first | rfl | omega), (by first | rfl | omega), (by first | rfl | omega)⟩)) | exact Or.inr (Or.inr (Or.inl (⟨by omega, (by first | rfl | omega), (by first | rfl | omega), (by first | rfl | omega), (by first | rfl | omega), (by first | rfl | omega)⟩))) | exact Or.inr (Or.inr (Or.inr (Or.inl (⟨by omega, (by first | rfl | omega), (by first | rfl | omega), (by first | rfl | omega), (by first | rfl | omega), (by first | rfl | omega)⟩)))) | exact Or.inr (Or.inr (Or.inr (Or.inr (⟨by omega, (by first | rfl | omega), (by first | rfl | omega), (by first | rfl | omega), (by first | rfl | omega), (by first | rfl | omega)⟩))))))
        · -- fork 47 f
          refine x_callVi (ci := 7) (q0 := 2) (As := [.int (jI b), .int (jI year), .int (jI 1)]) (st := []) F (c_X7_add_full D kI kJ l qT b year 1 qT_blocks qT_years qT_values qT_since vT_size fT_blocks fT_years fT_values hr_b hr_year (by omega) (by omega)) (cwV 3 F.2.2.2.2.1 gX9_mortar_X7_add rfl rfl rfl (by decide +kernel) ⟨Nat.le_of_ble_eq_true rfl, Nat.le_of_ble_eq_true rfl⟩) rfl rfl [2, 3, 4, 5] [0, 1] [0, 1, 2, 3, 4, 5] rfl rfl (by decide) (by decide) (by decide) (fun _ => rfl) (by decide) rfl (Nat.le_of_ble_eq_true rfl) dX9_mortar_47 ⟨Nat.le_of_ble_eq_true rfl, Nat.le_of_ble_eq_true rfl⟩ (fun z47 u47 h47 => ?_)
          try dsimp only at h47
          refine x_ws [(qK, .inr (9, [.ref qM, .ref qC, .ref qL, .ref qFr, .ref qE, .ref qK_facts, .ref qN, .ref qS])), (qM, .inr (3, [.ref qM_stones, .ref qM_laid, .ref qM_deeps, .ref qM_rates, .ref qP, .ref qT, .ref qM_dangers, .ref qM_losses, .int (jI vM_size), .int (jI vM_limit)])), (qT, .inr (7, [.ref qT_blocks, .ref qT_years, .ref qT_values, .ref qT_since, .int (jI vT_size)])), aI kI qT_blocks 60 fT_blocks, aI kI qT_years 60 fT_years, aI kI qT_values 60 fT_values] rfl ?_
          have he47 := h47
          have he47 := he47.symm
          subst he47
          exact hret 0 0 50 _ (-1004) (vT_size, fT_blocks, fT_years, fT_values) (Nat.le_of_ble_eq_true rfl) (Nat.le_of_ble_eq_true rfl) dX9_mortar_50 (by (try dsimp only); exact (by first | exact Or.inl (⟨by omega, (by first | rfl | omega), (by first | rfl | omega), (by first | rfl | omega), (by first | rfl | omega), (by first | rfl | omega)⟩) | exact Or.inr (Or.inl (⟨by omega, (by first | rfl | omega), (by first | rfl | omega), (by first | rfl | omega), (by first | rfl | omega), (by first | rfl | omega)⟩)) | exact Or.inr (Or.inr (Or.inl (⟨by omega, (by first | rfl | omega), (by first | rfl | omega), (by first | rfl | omega), (by first | rfl | omega), (by first | rfl | omega)⟩))) | exact Or.inr (Or.inr (Or.inr (Or.inl (⟨by omega, (by first | rfl | omega), (by first | rfl | omega), (by first | rfl | omega), (by first | rfl | omega), (by first | rfl | omega)⟩)))) | exact Or.inr (Or.inr (Or.inr (Or.inr (⟨by omega, (by first | rfl | omega), (by first | rfl | omega), (by first | rfl | omega), (by first | rfl | omega), (by first | rfl | omega)⟩))))))
    · -- 22 f
      refine x_sipush F dX9_mortar_25 (by decide) ?_
      exact hret 0 0 28 _ (-1002) (vT_size, fT_blocks, fT_years, fT_values) (Nat.le_of_ble_eq_true rfl) (Nat.le_of_ble_eq_true rfl) dX9_mortar_28 (by (try dsimp only); exact (by first | exact Or.inl (⟨by omega, (by first | rfl | omega), (by first | rfl | omega), (by first | rfl | omega), (by first | rfl | omega), (by first | rfl | omega)⟩) | exact Or.inr (Or.inl (⟨by omega, (by first | rfl | omega), (by first | rfl | omega), (by first | rfl | omega), (by first | rfl | omega), (by first | rfl | omega)⟩)) | exact Or.inr (Or.inr (Or.inl (⟨by omega, (by first | rfl | omega), (by first | rfl | omega), (by first | rfl | omega), (by first | rfl | omega), (by first | rfl | omega)⟩))) | exact Or.inr (Or.inr (Or.inr (Or.inl (⟨by omega, (by first | rfl | omega), (by first | rfl | omega), (by first | rfl | omega), (by first | rfl | omega), (by first | rfl | omega)⟩)))) | exact Or.inr (Or.inr (Or.inr (Or.inr (⟨by omega, (by first | rfl | omega), (by first | rfl | omega), (by first | rfl | omega), (by first | rfl | omega), (by first | rfl | omega)⟩))))))
  · -- 8 f
    refine x_sipush F dX9_mortar_11 (by decide) ?_
    exact hret 0 0 14 _ (-1001) (vT_size, fT_blocks, fT_years, fT_values) (Nat.le_of_ble_eq_true rfl) (Nat.le_of_ble_eq_true rfl) dX9_mortar_14 (by (try dsimp only); exact (by first | exact Or.inl (⟨by omega, (by first | rfl | omega), (by first | rfl | omega), (by first | rfl | omega), (by first | rfl | omega), (by first | rfl | omega)⟩) | exact Or.inr (Or.inl (⟨by omega, (by first | rfl | omega), (by first | rfl | omega), (by first | rfl | omega), (by first | rfl | omega), (by first | rfl | omega)⟩)) | exact Or.inr (Or.inr (Or.inl (⟨by omega, (by first | rfl | omega), (by first | rfl | omega), (by first | rfl | omega), (by first | rfl | omega), (by first | rfl | omega)⟩))) | exact Or.inr (Or.inr (Or.inr (Or.inl (⟨by omega, (by first | rfl | omega), (by first | rfl | omega), (by first | rfl | omega), (by first | rfl | omega), (by first | rfl | omega)⟩)))) | exact Or.inr (Or.inr (Or.inr (Or.inr (⟨by omega, (by first | rfl | omega), (by first | rfl | omega), (by first | rfl | omega), (by first | rfl | omega), (by first | rfl | omega)⟩))))))
set_option maxHeartbeats 4000000 in
set_option maxRecDepth 100000 in
theorem c_X9_rate (D : va_G) (kI kJ : Nat) (l : Launch) (qK : Nat) (stone : Int) (side : Int) (wet : Int) (v : Int) (qM : Nat) (qC : Nat) (qL : Nat) (qFr : Nat) (qE : Nat) (qK_facts : Nat) (qN : Nat) (qS : Nat) (qM_stones : Nat) (qM_laid : Nat) (qM_deeps : Nat) (qM_rates : Nat) (qP : Nat) (qT : Nat) (qM_dangers : Nat) (qM_losses : Nat) (vM_size : Int) (vM_limit : Int) (fM_rates : (Int → Int)) (hr_stone : -2147483648 ≤ stone ∧ stone < 2147483648) (hr_side : -2147483648 ≤ side ∧ side < 2147483648) (hr_wet : -2147483648 ≤ wet ∧ wet < 2147483648) (hr_v : -2147483648 ≤ v ∧ v < 2147483648) : xMi D kI kJ l yX9_rate wsX9_rate 3 78 0 0 [.ref qK, .int (jI stone), .int (jI side), .int (jI wet), .int (jI v)] [(qK, .inr (9, [.ref qM, .ref qC, .ref qL, .ref qFr, .ref qE, .ref qK_facts, .ref qN, .ref qS])), (qM, .inr (3, [.ref qM_stones, .ref qM_laid, .ref qM_deeps, .ref qM_rates, .ref qP, .ref qT, .ref qM_dangers, .ref qM_losses, .int (jI vM_size), .int (jI vM_limit)])), aI kI qM_rates 64 fM_rates] (fun (z : Int) (u : (Int → Int)) => (((¬ ((0 ≤ stone ∧ stone ≤ 3) ∧ (0 ≤ side ∧ side ≤ 3) ∧ (0 ≤ wet ∧ wet ≤ 3) ∧ 0 ≤ v ∧ v ≤ 50)) ∧ z = -1002 ∧ u = fM_rates) ∨ (((0 ≤ stone ∧ stone ≤ 3) ∧ (0 ≤ side ∧ side ≤ 3) ∧ (0 ≤ wet ∧ wet ≤ 3) ∧ 0 ≤ v ∧ v ≤ 50) ∧ z = fM_rates (stone * 16 + (side * 4 + wet)) ∧ u = iU fM_rates (stone * 16 + (side * 4 + wet)) v))) (fun (u : (Int → Int)) => [(qK, .inr (9, [.ref qM, .ref qC, .ref qL, .ref qFr, .ref qE, .ref qK_facts, .ref qN, .ref qS])), (qM, .inr (3, [.ref qM_stones, .ref qM_laid, .ref qM_deeps, .ref qM_rates, .ref qP, .ref qT, .ref qM_dangers, .ref qM_losses, .int (jI vM_size), .int (jI vM_limit)])), aI kI qM_rates 64 u]) := by
  refine xMi_of (cc := cX9_rate) (maxL := 5) (rt := .int) (by decide) rfl (Nat.le_of_ble_eq_true rfl) (fun _ _ _ => rfl) ?_
  intro p e s m args below meth c A Q F hin2 hret
  have hin9 : ∀ w ∈ wsX90, w ∈ wsX9_rate := by decide +kernel
  have hw0 : Cond.fieldLink RX9 12 (TX9 0).1 (TX9 0).2.1 (TX9 0).2.2.1 ∈ wsX9_rate := by decide +kernel
  refine x_lveq (lv' := [(0, .ref qK), (1, .int (jI stone)), (2, .int (jI side)), (3, .int (jI wet)), (4, .int (jI v))]) rfl ?_
  refine x_iload_n F dX9_rate_0 rfl 1 rfl ?_
  refine x_iconst F dX9_rate_1 ?_
  refine x_callSi (As := [.int (jI stone), .int (jI 4)]) (st := []) F (c_X9_isBelow D kI kJ l stone 4 (by omega) (by omega)) (va_cwS 2 F.2.2.2.2.1 gX9_rate_X9_isBelow rfl rfl rfl (by decide +kernel) ⟨Nat.le_of_ble_eq_true rfl, Nat.le_of_ble_eq_true rfl⟩) [] [0, 1, 2] [0, 1, 2] rfl rfl (by decide) (by decide) (by decide) (fun _ => rfl) (by decide) rfl (Nat.le_of_ble_eq_true rfl) dX9_rate_2 ⟨Nat.le_of_ble_eq_true rfl, Nat.le_of_ble_eq_true rfl⟩ (fun z2 u2 h2 => ?_)
  try dsimp only at h2
  refine x_ws [(qK, .inr (9, [.ref qM, .ref qC, .ref qL, .ref qFr, .ref qE, .ref qK_facts, .ref qN, .ref qS])), (qM, .inr (3, [.ref qM_stones, .ref qM_laid, .ref qM_deeps, .ref qM_rates, .ref qP, .ref qT, .ref qM_dangers, .ref qM_losses, .int (jI vM_size), .int (jI vM_limit)])), aI kI qM_rates 64 fM_rates] rfl ?_
  have hb2 := h2
  refine x_beq (tgt := 28) F dX9_rate_5 (by decide) hb2 (fun c5 => ?_) (fun c5 => ?_)
  · -- 5 t
    refine x_sipush F dX9_rate_28 (by decide) ?_
    exact hret 0 0 31 _ (-1002) fM_rates (Nat.le_of_ble_eq_true rfl) (Nat.le_of_ble_eq_true rfl) dX9_rate_31 (by first | exact Or.inl (⟨by omega, (by first | rfl | omega), (by first | rfl | omega)⟩) | exact Or.inr (⟨by omega, (by first | rfl | omega), (by first | rfl | omega)⟩))
  · -- 5 f
    refine x_iload_n F dX9_rate_8 rfl 2 rfl ?_
    refine x_iload_n F dX9_rate_9 rfl 3 rfl ?_
    refine x_callSi (As := [.int (jI side), .int (jI wet)]) (st := []) F (c_X9_isSpot D kI kJ l side wet hr_side hr_wet) (va_cwS 2 F.2.2.2.2.1 gX9_rate_X9_isSpot rfl rfl rfl (by decide +kernel) ⟨Nat.le_of_ble_eq_true rfl, Nat.le_of_ble_eq_true rfl⟩) [] [0, 1, 2] [0, 1, 2] rfl rfl (by decide) (by decide) (by decide) (fun _ => rfl) (by decide) rfl (Nat.le_of_ble_eq_true rfl) dX9_rate_10 ⟨Nat.le_of_ble_eq_true rfl, Nat.le_of_ble_eq_true rfl⟩ (fun z10 u10 h10 => ?_)
    try dsimp only at h10
    refine x_ws [(qK, .inr (9, [.ref qM, .ref qC, .ref qL, .ref qFr, .ref qE, .ref qK_facts, .ref qN, .ref qS])), (qM, .inr (3, [.ref qM_stones, .ref qM_laid, .ref qM_deeps, .ref qM_rates, .ref qP, .ref qT, .ref qM_dangers, .ref qM_losses, .int (jI vM_size), .int (jI vM_limit)])), aI kI qM_rates 64 fM_rates] rfl ?_
    have hb10 := h10
    refine x_beq (tgt := 28) F dX9_rate_13 (by decide) hb10 (fun c13 => ?_) (fun c13 => ?_)
    · -- 13 t
      refine x_sipush F dX9_rate_28 (by decide) ?_
      exact hret 0 0 31 _ (-1002) fM_rates (Nat.le_of_ble_eq_true rfl) (Nat.le_of_ble_eq_true rfl) dX9_rate_31 (by first | exact Or.inl (⟨by omega, (by first | rfl | omega), (by first | rfl | omega)⟩) | exact Or.inr (⟨by omega, (by first | rfl | omega), (by first | rfl | omega)⟩))
    · -- 13 f
      refine x_iload F dX9_rate_16 4 rfl ?_
      refine x_if_lt (tgt := 28) F dX9_rate_18 (by decide) (by omega) (fun c18 => ?_) (fun c18 => ?_)
      · -- 18 t
        refine x_sipush F dX9_rate_28 (by decide) ?_
        exact hret 0 0 31 _ (-1002) fM_rates (Nat.le_of_ble_eq_true rfl) (Nat.le_of_ble_eq_true rfl) dX9_rate_31 (by first | exact Or.inl (⟨by omega, (by first | rfl | omega), (by first | rfl | omega)⟩) | exact Or.inr (⟨by omega, (by first | rfl | omega), (by first | rfl | omega)⟩))
      · -- 18 f
        refine x_iload F dX9_rate_21 4 rfl ?_
        refine x_bipush F dX9_rate_23 (by decide) ?_
        refine x_icmp_le (tgt := 32) F dX9_rate_25 (by decide) (by omega) (fun c25 => ?_) (fun c25 => ?_)
        · -- 25 t
          refine x_aload_n F dX9_rate_32 rfl 0 rfl ?_
          refine x_get (ci := 9) F hin9 0 rfl rfl 0 (by decide) hw0 rfl dX9_rate_33 ?_
          refine x_iload_n F dX9_rate_36 rfl 1 rfl ?_
          refine x_iload_n F dX9_rate_37 rfl 2 rfl ?_
          refine x_iload_n F dX9_rate_38 rfl 3 rfl ?_
          refine x_callSi (As := [.int (jI side), .int (jI wet)]) (st := [.int (jI stone), .ref qM]) F (c_X9_spot D kI kJ l side wet hr_side hr_wet) (va_cwS 2 F.2.2.2.2.1 gX9_rate_X9_spot rfl rfl rfl (by decide +kernel) ⟨Nat.le_of_ble_eq_true rfl, Nat.le_of_ble_eq_true rfl⟩) [] [0, 1, 2] [0, 1, 2] rfl rfl (by decide) (by decide) (by decide) (fun _ => rfl) (by decide) rfl (Nat.le_of_ble_eq_true rfl) dX9_rate_39 ⟨Nat.le_of_ble_eq_true rfl, Nat.le_of_ble_eq_true rfl⟩ (fun z39 u39 h39 => ?_)
          try dsimp only at h39
          refine x_ws [(qK, .inr (9, [.ref qM, .ref qC, .ref qL, .ref qFr, .ref qE, .ref qK_facts, .ref qN, .ref qS])), (qM, .inr (3, [.ref qM_stones, .ref qM_laid, .ref qM_deeps, .ref qM_rates, .ref qP, .ref qT, .ref qM_dangers, .ref qM_losses, .int (jI vM_size), .int (jI vM_limit)])), aI kI qM_rates 64 fM_rates] rfl ?_
          have he39 := h39
          have he39 := he39.symm
          subst he39
          refine x_iload F dX9_rate_42 4 rfl ?_
          refine x_callVi (ci := 3) (q0 := 1) (As := [.int (jI stone), .int (jI (side * 4 + wet)), .int (jI v)]) (st := []) F (c_X3_changeRate D kI kJ l qM stone (side * 4 + wet) v qM_stones qM_laid qM_deeps qM_rates qP qT qM_dangers qM_losses vM_size vM_limit fM_rates hr_v (by omega)) (cwV 3 F.2.2.2.2.1 gX9_rate_X3_changeRate rfl rfl rfl (by decide +kernel) ⟨Nat.le_of_ble_eq_true rfl, Nat.le_of_ble_eq_true rfl⟩) rfl rfl [1, 2] [0] [0, 1, 2] rfl rfl (by decide) (by decide) (by decide) (fun _ => rfl) (by decide) rfl (Nat.le_of_ble_eq_true rfl) dX9_rate_44 ⟨Nat.le_of_ble_eq_true rfl, Nat.le_of_ble_eq_true rfl⟩ (fun z44 u44 h44 => ?_)
          try dsimp only at h44
          refine x_ws [(qK, .inr (9, [.ref qM, .ref qC, .ref qL, .ref qFr, .ref qE, .ref qK_facts, .ref qN, .ref qS])), (qM, .inr (3, [.ref qM_stones, .ref qM_laid, .ref qM_deeps, .ref qM_rates, .ref qP, .ref qT, .ref qM_dangers, .ref qM_losses, .int (jI vM_size), .int (jI vM_limit)])), aI kI qM_rates 64 (iU fM_rates (stone * 16 + (side * 4 + wet)) v)] rfl ?_
          have he44 := h44
          have he44 := he44.symm
          subst he44
          exact hret 0 0 47 _ (fM_rates (stone * 16 + (side * 4 + wet))) (iU fM_rates (stone * 16 + (side * 4 + wet)) v) (Nat.le_of_ble_eq_true rfl) (Nat.le_of_ble_eq_true rfl) dX9_rate_47 (by first | exact Or.inl (⟨by omega, (by first | rfl | omega), (by first | rfl | omega)⟩) | exact Or.inr (⟨by omega, (by first | rfl | omega), (by first | rfl | omega)⟩))
        · -- 25 f
          refine x_sipush F dX9_rate_28 (by decide) ?_
          exact hret 0 0 31 _ (-1002) fM_rates (Nat.le_of_ble_eq_true rfl) (Nat.le_of_ble_eq_true rfl) dX9_rate_31 (by first | exact Or.inl (⟨by omega, (by first | rfl | omega), (by first | rfl | omega)⟩) | exact Or.inr (⟨by omega, (by first | rfl | omega), (by first | rfl | omega)⟩))
set_option maxHeartbeats 4000000 in
set_option maxRecDepth 100000 in
theorem c_X9_limit (D : va_G) (kI kJ : Nat) (l : Launch) (qK : Nat) (v : Int) (qM : Nat) (qC : Nat) (qL : Nat) (qFr : Nat) (qE : Nat) (qK_facts : Nat) (qN : Nat) (qS : Nat) (qM_stones : Nat) (qM_laid : Nat) (qM_deeps : Nat) (qM_rates : Nat) (qP : Nat) (qT : Nat) (qM_dangers : Nat) (qM_losses : Nat) (vM_size : Int) (vM_limit : Int) (hr_v : -2147483648 ≤ v ∧ v < 2147483648) : xMi D kI kJ l yX9_limit wsX9_limit 2 54 0 0 [.ref qK, .int (jI v)] [(qK, .inr (9, [.ref qM, .ref qC, .ref qL, .ref qFr, .ref qE, .ref qK_facts, .ref qN, .ref qS])), (qM, .inr (3, [.ref qM_stones, .ref qM_laid, .ref qM_deeps, .ref qM_rates, .ref qP, .ref qT, .ref qM_dangers, .ref qM_losses, .int (jI vM_size), .int (jI vM_limit)]))] (fun (z : Int) (u : Int) => (((¬ (1 ≤ v ∧ v ≤ 100)) ∧ z = -1002 ∧ u = vM_limit) ∨ ((1 ≤ v ∧ v ≤ 100) ∧ z = vM_limit ∧ u = v))) (fun (u : Int) => [(qK, .inr (9, [.ref qM, .ref qC, .ref qL, .ref qFr, .ref qE, .ref qK_facts, .ref qN, .ref qS])), (qM, .inr (3, [.ref qM_stones, .ref qM_laid, .ref qM_deeps, .ref qM_rates, .ref qP, .ref qT, .ref qM_dangers, .ref qM_losses, .int (jI vM_size), .int (jI u)]))]) := by
  refine xMi_of (cc := cX9_limit) (maxL := 2) (rt := .int) (by decide) rfl (Nat.le_of_ble_eq_true rfl) (fun _ _ _ => rfl) ?_
  intro p e s m args below meth c A Q F hin2 hret
  have hin9 : ∀ w ∈ wsX90, w ∈ wsX9_limit := by decide +kernel
  have hw0 : Cond.fieldLink RX9 12 (TX9 0).1 (TX9 0).2.1 (TX9 0).2.2.1 ∈ wsX9_limit := by decide +kernel
  refine x_lveq (lv' := [(0, .ref qK), (1, .int (jI v))]) rfl ?_
  refine x_iload_n F dX9_limit_0 rfl 1 rfl ?_
  refine x_iconst F dX9_limit_1 ?_
  refine x_icmp_lt (tgt := 11) F dX9_limit_2 (by decide) (by omega) (fun c2 => ?_) (fun c2 => ?_)
  · -- 2 t
    refine x_sipush F dX9_limit_11 (by decide) ?_
    exact hret 0 0 14 _ (-1002) vM_limit (Nat.le_of_ble_eq_true rfl) (Nat.le_of_ble_eq_true rfl) dX9_limit_14 (by first | exact Or.inl (⟨by omega, (by first | rfl | omega), (by first | rfl | omega)⟩) | exact Or.inr (⟨by omega, (by first | rfl | omega), (by first | rfl | omega)⟩))
  · -- 2 f
    refine x_iload_n F dX9_limit_5 rfl 1 rfl ?_
    refine x_bipush F dX9_limit_6 (by decide) ?_
    refine x_icmp_le (tgt := 15) F dX9_limit_8 (by decide) (by omega) (fun c8 => ?_) (fun c8 => ?_)
    · -- 8 t
      refine x_aload_n F dX9_limit_15 rfl 0 rfl ?_
      refine x_get (ci := 9) F hin9 0 rfl rfl 0 (by decide) hw0 rfl dX9_limit_16 ?_
      refine x_iload_n F dX9_limit_19 rfl 1 rfl ?_
      refine x_callVi (ci := 3) (q0 := 1) (As := [.int (jI v)]) (st := []) F (c_X3_changeLimit D kI kJ l qM v qM_stones qM_laid qM_deeps qM_rates qP qT qM_dangers qM_losses vM_size vM_limit hr_v) (cwV 1 F.2.2.2.2.1 gX9_limit_X3_changeLimit rfl rfl rfl (by decide +kernel) ⟨Nat.le_of_ble_eq_true rfl, Nat.le_of_ble_eq_true rfl⟩) rfl rfl [1] [0] [0, 1] rfl rfl (by decide) (by decide) (by decide) (fun _ => rfl) (by decide) rfl (Nat.le_of_ble_eq_true rfl) dX9_limit_20 ⟨Nat.le_of_ble_eq_true rfl, Nat.le_of_ble_eq_true rfl⟩ (fun z20 u20 h20 => ?_)
      try dsimp only at h20
      refine x_ws [(qK, .inr (9, [.ref qM, .ref qC, .ref qL, .ref qFr, .ref qE, .ref qK_facts, .ref qN, .ref qS])), (qM, .inr (3, [.ref qM_stones, .ref qM_laid, .ref qM_deeps, .ref qM_rates, .ref qP, .ref qT, .ref qM_dangers, .ref qM_losses, .int (jI vM_size), .int (jI v)]))] rfl ?_
      have he20 := h20
      have he20 := he20.symm
      subst he20
      exact hret 0 0 23 _ vM_limit v (Nat.le_of_ble_eq_true rfl) (Nat.le_of_ble_eq_true rfl) dX9_limit_23 (by first | exact Or.inl (⟨by omega, (by first | rfl | omega), (by first | rfl | omega)⟩) | exact Or.inr (⟨by omega, (by first | rfl | omega), (by first | rfl | omega)⟩))
    · -- 8 f
      refine x_sipush F dX9_limit_11 (by decide) ?_
      exact hret 0 0 14 _ (-1002) vM_limit (Nat.le_of_ble_eq_true rfl) (Nat.le_of_ble_eq_true rfl) dX9_limit_14 (by first | exact Or.inl (⟨by omega, (by first | rfl | omega), (by first | rfl | omega)⟩) | exact Or.inr (⟨by omega, (by first | rfl | omega), (by first | rfl | omega)⟩))
set_option maxHeartbeats 4000000 in
set_option maxRecDepth 100000 in
theorem c_X9_told (D : va_G) (kI kJ : Nat) (l : Launch) (qK : Nat) (b : Int) (year : Int) (what : Int) (qM : Nat) (qC : Nat) (qL : Nat) (qFr : Nat) (qE : Nat) (qK_facts : Nat) (qN : Nat) (qS : Nat) (qC_placed : Nat) (qC_wrong : Nat) (qC_lost : Nat) (vC_danger : Int) (fC_placed : (Int → Int)) (fC_wrong : (Int → Int)) (fC_lost : (Int → Int)) (qM_stones : Nat) (qM_laid : Nat) (qM_deeps : Nat) (qM_rates : Nat) (qP : Nat) (qT : Nat) (qM_dangers : Nat) (qM_losses : Nat) (vM_size : Int) (vM_limit : Int) (fM_stones : (Int → Int)) (fM_laid : (Int → Int)) (fM_deeps : (Int → Int)) (fM_rates : (Int → Int)) (qP_blocks : Nat) (qP_years : Nat) (qP_values : Nat) (qP_since : Nat) (vP_size : Int) (fP_blocks : (Int → Int)) (fP_years : (Int → Int)) (fP_values : (Int → Int)) (fP_since : (Int → Int)) (qT_blocks : Nat) (qT_years : Nat) (qT_values : Nat) (qT_since : Nat) (vT_size : Int) (fT_blocks : (Int → Int)) (fT_years : (Int → Int)) (fT_values : (Int → Int)) (fT_since : (Int → Int)) (hr_b : -2147483648 ≤ b ∧ b < 2147483648) (hr_year : -2147483648 ≤ year ∧ year < 2147483648) (hr_what : -2147483648 ≤ what ∧ what < 2147483648) (hMs : 0 ≤ vM_size ∧ vM_size ≤ 30) (hMr : Rg fM_rates 64 0 50) (hMst : Rg fM_stones 30 0 3) (hMla : Rg fM_laid 30 0 400) (hMd : Rg fM_deeps 30 0 2000) (hMl : 1 ≤ vM_limit ∧ vM_limit ≤ 100) (hPs : 0 ≤ vP_size ∧ vP_size ≤ 60) (hPb : Rg fP_blocks 60 0 29) (hPy : Rg fP_years 60 0 400) (hPv : Rg fP_values 60 0 127) (hTs : 0 ≤ vT_size ∧ vT_size ≤ 60) (hTb : Rg fT_blocks 60 0 29) (hTy : Rg fT_years 60 0 400) (hTv : Rg fT_values 60 0 1) : xMi D kI kJ l yX9_told wsX9_told 5 137 0 0 [.ref qK, .int (jI b), .int (jI year), .int (jI what)] [(qK, .inr (9, [.ref qM, .ref qC, .ref qL, .ref qFr, .ref qE, .ref qK_facts, .ref qN, .ref qS])), (qC, .inr (0, [.ref qC_placed, .ref qC_wrong, .ref qC_lost, .int (jI vC_danger)])), aI kI qC_placed 401 fC_placed, aI kI qC_wrong 401 fC_wrong, aI kI qC_lost 401 fC_lost, (qM, .inr (3, [.ref qM_stones, .ref qM_laid, .ref qM_deeps, .ref qM_rates, .ref qP, .ref qT, .ref qM_dangers, .ref qM_losses, .int (jI vM_size), .int (jI vM_limit)])), aI kI qM_stones 30 fM_stones, aI kI qM_laid 30 fM_laid, aI kI qM_deeps 30 fM_deeps, aI kI qM_rates 64 fM_rates, (qP, .inr (7, [.ref qP_blocks, .ref qP_years, .ref qP_values, .ref qP_since, .int (jI vP_size)])), aI kI qP_blocks 60 fP_blocks, aI kI qP_years 60 fP_years, aI kI qP_values 60 fP_values, aI kI qP_since 401 fP_since, (qT, .inr (7, [.ref qT_blocks, .ref qT_years, .ref qT_values, .ref qT_since, .int (jI vT_size)])), aI kI qT_blocks 60 fT_blocks, aI kI qT_years 60 fT_years, aI kI qT_values 60 fT_values, aI kI qT_since 401 fT_since] (fun (z : Int) (u : (Int → Int) × (Int → Int) × (Int → Int) × Int × (Int → Int) × (Int → Int)) => z = if ¬ (0 ≤ b ∧ b < vM_size) then -1001 else if ¬ (0 ≤ year ∧ year ≤ 400) then -1002 else if what = 0 then fM_stones b else if what = 1 then fM_laid b else if what = 2 then fM_deeps b else if what = 3 then (rV fP_blocks fP_years fP_values b year vP_size) % 16 / 4 else if what = 4 then (rV fP_blocks fP_years fP_values b year vP_size) % 4 else if what = 5 then (rV fP_blocks fP_years fP_values b year vP_size) / 16 else if what = 6 then (rV fT_blocks fT_years fT_values b year vT_size) else if what = 7 then (lS (kLoss fM_rates (fM_stones b) fP_blocks fP_years fP_values vP_size fT_blocks fT_years fT_values vT_size b) (fM_laid b)) year else if what = 8 then dG (lS (kLoss fM_rates (fM_stones b) fP_blocks fP_years fP_values vP_size fT_blocks fT_years fT_values vT_size b) (fM_laid b)) (fM_deeps b * vM_limit) 401 else -1002) (fun (u : (Int → Int) × (Int → Int) × (Int → Int) × Int × (Int → Int) × (Int → Int)) => [(qK, .inr (9, [.ref qM, .ref qC, .ref qL, .ref qFr, .ref qE, .ref qK_facts, .ref qN, .ref qS])), (qC, .inr (0, [.ref qC_placed, .ref qC_wrong, .ref qC_lost, .int (jI u.2.2.2.1)])), aI kI qC_placed 401 u.1, aI kI qC_wrong 401 u.2.1, aI kI qC_lost 401 u.2.2.1, (qM, .inr (3, [.ref qM_stones, .ref qM_laid, .ref qM_deeps, .ref qM_rates, .ref qP, .ref qT, .ref qM_dangers, .ref qM_losses, .int (jI vM_size), .int (jI vM_limit)])), aI kI qM_stones 30 fM_stones, aI kI qM_laid 30 fM_laid, aI kI qM_deeps 30 fM_deeps, aI kI qM_rates 64 fM_rates, (qP, .inr (7, [.ref qP_blocks, .ref qP_years, .ref qP_values, .ref qP_since, .int (jI vP_size)])), aI kI qP_blocks 60 fP_blocks, aI kI qP_years 60 fP_years, aI kI qP_values 60 fP_values, aI kI qP_since 401 u.2.2.2.2.1, (qT, .inr (7, [.ref qT_blocks, .ref qT_years, .ref qT_values, .ref qT_since, .int (jI vT_size)])), aI kI qT_blocks 60 fT_blocks, aI kI qT_years 60 fT_years, aI kI qT_values 60 fT_values, aI kI qT_since 401 u.2.2.2.2.2]) := by
  refine xMi_of (cc := cX9_told) (maxL := 4) (rt := .int) (by decide) rfl (Nat.le_of_ble_eq_true rfl) (fun _ _ _ => rfl) ?_
  intro p e s m args below meth c A Q F hin2 hret
  have hin0 : ∀ w ∈ wsX00, w ∈ wsX9_told := by decide +kernel
  have hin9 : ∀ w ∈ wsX90, w ∈ wsX9_told := by decide +kernel
  have hw0 : Cond.fieldLink RX9 12 (TX9 0).1 (TX9 0).2.1 (TX9 0).2.2.1 ∈ wsX9_told := by decide +kernel
  have hw1 : Cond.fieldLink RX9 19 (TX9 1).1 (TX9 1).2.1 (TX9 1).2.2.1 ∈ wsX9_told := by decide +kernel
  refine x_lveq (lv' := [(0, .ref qK), (1, .int (jI b)), (2, .int (jI year)), (3, .int (jI what))]) rfl ?_
  refine x_aload_n F dX9_told_0 rfl 0 rfl ?_
  refine x_get (ci := 9) F hin9 0 rfl rfl 0 (by decide) hw0 rfl dX9_told_1 ?_
  refine x_iload_n F dX9_told_4 rfl 1 rfl ?_
  refine x_callVi (ci := 3) (q0 := 5) (As := [.int (jI b)]) (st := []) F (c_X3_hasBlock D kI kJ l qM b qM_stones qM_laid qM_deeps qM_rates qP qT qM_dangers qM_losses vM_size vM_limit hr_b hMs) (cwV 1 F.2.2.2.2.1 gX9_told_X3_hasBlock rfl rfl rfl (by decide +kernel) ⟨Nat.le_of_ble_eq_true rfl, Nat.le_of_ble_eq_true rfl⟩) rfl rfl [5] [0, 1, 2, 3, 4, 6, 7, 8, 9, 10, 11, 12, 13, 14, 15, 16, 17, 18, 19] [0, 1, 2, 3, 4, 19, 5, 6, 7, 8, 9, 10, 11, 12, 13, 14, 15, 16, 17, 18] rfl rfl (by decide) (by decide) (by decide) (fun _ => rfl) (by decide) rfl (Nat.le_of_ble_eq_true rfl) dX9_told_5 ⟨Nat.le_of_ble_eq_true rfl, Nat.le_of_ble_eq_true rfl⟩ (fun z5 u5 h5 => ?_)
  try dsimp only at h5
  refine x_ws [(qK, .inr (9, [.ref qM, .ref qC, .ref qL, .ref qFr, .ref qE, .ref qK_facts, .ref qN, .ref qS])), (qC, .inr (0, [.ref qC_placed, .ref qC_wrong, .ref qC_lost, .int (jI vC_danger)])), aI kI qC_placed 401 fC_placed, aI kI qC_wrong 401 fC_wrong, aI kI qC_lost 401 fC_lost, (qM, .inr (3, [.ref qM_stones, .ref qM_laid, .ref qM_deeps, .ref qM_rates, .ref qP, .ref qT, .ref qM_dangers, .ref qM_losses, .int (jI vM_size), .int (jI vM_limit)])), aI kI qM_stones 30 fM_stones, aI kI qM_laid 30 fM_laid, aI kI qM_deeps 30 fM_deeps, aI kI qM_rates 64 fM_rates, (qP, .inr (7, [.ref qP_blocks, .ref qP_years, .ref qP_values, .ref qP_since, .int (jI vP_size)])), aI kI qP_blocks 60 fP_blocks, aI kI qP_years 60 fP_years, aI kI qP_values 60 fP_values, aI kI qP_since 401 fP_since, (qT, .inr (7, [.ref qT_blocks, .ref qT_years, .ref qT_values, .ref qT_since, .int (jI vT_size)])), aI kI qT_blocks 60 fT_blocks, aI kI qT_years 60 fT_years, aI kI qT_values 60 fT_values, aI kI qT_since 401 fT_since] rfl ?_
  have hb5 := h5
  refine x_bne (tgt := 15) F dX9_told_8 (by decide) hb5 (fun c8 => ?_) (fun c8 => ?_)
  · -- 8 t
    refine x_iload_n F dX9_told_15 rfl 2 rfl ?_
    refine x_sipush F dX9_told_16 (by decide) ?_
    refine x_callSi (As := [.int (jI year), .int (jI 401)]) (st := []) F (c_X9_isBelow D kI kJ l year 401 (by omega) (by omega)) (va_cwS 2 F.2.2.2.2.1 gX9_told_X9_isBelow rfl rfl rfl (by decide +kernel) ⟨Nat.le_of_ble_eq_true rfl, Nat.le_of_ble_eq_true rfl⟩) [] [0, 1, 2, 3, 4, 5, 6, 7, 8, 9, 10, 11, 12, 13, 14, 15, 16, 17, 18, 19] [0, 1, 2, 3, 4, 5, 6, 7, 8, 9, 10, 11, 12, 13, 14, 15, 16, 17, 18, 19] rfl rfl (by decide) (by decide) (by decide) (fun _ => rfl) (by decide) rfl (Nat.le_of_ble_eq_true rfl) dX9_told_19 ⟨Nat.le_of_ble_eq_true rfl, Nat.le_of_ble_eq_true rfl⟩ (fun z19 u19 h19 => ?_)
    try dsimp only at h19
    refine x_ws [(qK, .inr (9, [.ref qM, .ref qC, .ref qL, .ref qFr, .ref qE, .ref qK_facts, .ref qN, .ref qS])), (qC, .inr (0, [.ref qC_placed, .ref qC_wrong, .ref qC_lost, .int (jI vC_danger)])), aI kI qC_placed 401 fC_placed, aI kI qC_wrong 401 fC_wrong, aI kI qC_lost 401 fC_lost, (qM, .inr (3, [.ref qM_stones, .ref qM_laid, .ref qM_deeps, .ref qM_rates, .ref qP, .ref qT, .ref qM_dangers, .ref qM_losses, .int (jI vM_size), .int (jI vM_limit)])), aI kI qM_stones 30 fM_stones, aI kI qM_laid 30 fM_laid, aI kI qM_deeps 30 fM_deeps, aI kI qM_rates 64 fM_rates, (qP, .inr (7, [.ref qP_blocks, .ref qP_years, .ref qP_values, .ref qP_since, .int (jI vP_size)])), aI kI qP_blocks 60 fP_blocks, aI kI qP_years 60 fP_years, aI kI qP_values 60 fP_values, aI kI qP_since 401 fP_since, (qT, .inr (7, [.ref qT_blocks, .ref qT_years, .ref qT_values, .ref qT_since, .int (jI vT_size)])), aI kI qT_blocks 60 fT_blocks, aI kI qT_years 60 fT_years, aI kI qT_values 60 fT_values, aI kI qT_since 401 fT_since] rfl ?_
    have hb19 := h19
    refine x_bne (tgt := 29) F dX9_told_22 (by decide) hb19 (fun c22 => ?_) (fun c22 => ?_)
    · -- 22 t
      refine x_aload_n F dX9_told_29 rfl 0 rfl ?_
      refine x_get (ci := 9) F hin9 0 rfl rfl 1 (by decide) hw1 rfl dX9_told_30 ?_
      refine x_aload_n F dX9_told_33 rfl 0 rfl ?_
      refine x_get (ci := 9) F hin9 0 rfl rfl 0 (by decide) hw0 rfl dX9_told_34 ?_
      refine x_iload_n F dX9_told_37 rfl 1 rfl ?_
      refine x_callVv (ci := 0) (q0 := 1) (As := [.ref qM, .int (jI b)]) (st := []) F (c_X0_follow D kI kJ l qC qM b qC_placed qC_wrong qC_lost vC_danger fC_placed fC_wrong fC_lost qM_stones qM_laid qM_deeps qM_rates qP qT qM_dangers qM_losses vM_size vM_limit fM_stones fM_laid fM_deeps fM_rates qP_blocks qP_years qP_values qP_since vP_size fP_blocks fP_years fP_values fP_since qT_blocks qT_years qT_values qT_since vT_size fT_blocks fT_years fT_values fT_since (by omega) hMr hMst hMla hMd hMl hPs hPb hPy hPv hTs hTb hTy hTv) (cwV 2 F.2.2.2.2.1 gX9_told_X0_follow rfl rfl rfl (by decide +kernel) ⟨Nat.le_of_ble_eq_true rfl, Nat.le_of_ble_eq_true rfl⟩) rfl rfl [1, 2, 3, 4, 5, 6, 7, 8, 9, 10, 11, 12, 13, 14, 15, 16, 17, 18, 19] [0] [0, 1, 2, 3, 4, 5, 6, 7, 8, 9, 10, 11, 12, 13, 14, 15, 16, 17, 18, 19] rfl rfl (by decide) (by decide) (by decide) (fun _ => rfl) (by decide) rfl (Nat.le_of_ble_eq_true rfl) dX9_told_38 ⟨Nat.le_of_ble_eq_true rfl, Nat.le_of_ble_eq_true rfl⟩ (fun u38 h38 => ?_)
      obtain ⟨p2_38, w2_38, l2_38, d2_38, s2_38, r2_38⟩ := u38
      try dsimp only at h38
      refine x_ws [(qK, .inr (9, [.ref qM, .ref qC, .ref qL, .ref qFr, .ref qE, .ref qK_facts, .ref qN, .ref qS])), (qC, .inr (0, [.ref qC_placed, .ref qC_wrong, .ref qC_lost, .int (jI d2_38)])), aI kI qC_placed 401 p2_38, aI kI qC_wrong 401 w2_38, aI kI qC_lost 401 l2_38, (qM, .inr (3, [.ref qM_stones, .ref qM_laid, .ref qM_deeps, .ref qM_rates, .ref qP, .ref qT, .ref qM_dangers, .ref qM_losses, .int (jI vM_size), .int (jI vM_limit)])), aI kI qM_stones 30 fM_stones, aI kI qM_laid 30 fM_laid, aI kI qM_deeps 30 fM_deeps, aI kI qM_rates 64 fM_rates, (qP, .inr (7, [.ref qP_blocks, .ref qP_years, .ref qP_values, .ref qP_since, .int (jI vP_size)])), aI kI qP_blocks 60 fP_blocks, aI kI qP_years 60 fP_years, aI kI qP_values 60 fP_values, aI kI qP_since 401 s2_38, (qT, .inr (7, [.ref qT_blocks, .ref qT_years, .ref qT_values, .ref qT_since, .int (jI vT_size)])), aI kI qT_blocks 60 fT_blocks, aI kI qT_years 60 fT_years, aI kI qT_values 60 fT_values, aI kI qT_since 401 r2_38] rfl ?_
      obtain ⟨hp_38, hw_38, hl_38, hd_38⟩ := h38
      have hp9 := hp_38 year (by omega) (by omega)
      have hw9 := hw_38 year (by omega) (by omega)
      have hl9 := hl_38 year (by omega) (by omega)
      have hgp9 : Rg p2_38 401 0 127 := fun k h1 h2 => by rw [hp_38 k h1 h2]; exact rV_rng hPs hPv (by omega)
      refine x_iload_n F dX9_told_41 rfl 3 rfl ?_
      by_cases c42_0 : what = 0
      · -- 42 case 0
        refine x_tabIn (tgt := 92) F 0 dX9_told_42 (by decide) c42_0 (by decide) rfl (by decide) ?_
        refine x_aload_n F dX9_told_92 rfl 0 rfl ?_
        refine x_get (ci := 9) F hin9 0 rfl rfl 0 (by decide) hw0 rfl dX9_told_93 ?_
        refine x_iload_n F dX9_told_96 rfl 1 rfl ?_
        refine x_callVi (ci := 3) (q0 := 5) (As := [.int (jI b)]) (st := []) F (c_X3_stoneOf D kI kJ l qM b qM_stones qM_laid qM_deeps qM_rates qP qT qM_dangers qM_losses vM_size vM_limit fM_stones (by omega)) (cwV 1 F.2.2.2.2.1 gX9_told_X3_stoneOf rfl rfl rfl (by decide +kernel) ⟨Nat.le_of_ble_eq_true rfl, Nat.le_of_ble_eq_true rfl⟩) rfl rfl [5, 6] [0, 1, 2, 3, 4, 7, 8, 9, 10, 11, 12, 13, 14, 15, 16, 17, 18, 19] [0, 1, 2, 3, 4, 18, 19, 5, 6, 7, 8, 9, 10, 11, 12, 13, 14, 15, 16, 17] rfl rfl (by decide) (by decide) (by decide) (fun _ => rfl) (by decide) rfl (Nat.le_of_ble_eq_true rfl) dX9_told_97 ⟨Nat.le_of_ble_eq_true rfl, Nat.le_of_ble_eq_true rfl⟩ (fun z97 u97 h97 => ?_)
        try dsimp only at h97
        refine x_ws [(qK, .inr (9, [.ref qM, .ref qC, .ref qL, .ref qFr, .ref qE, .ref qK_facts, .ref qN, .ref qS])), (qC, .inr (0, [.ref qC_placed, .ref qC_wrong, .ref qC_lost, .int (jI d2_38)])), aI kI qC_placed 401 p2_38, aI kI qC_wrong 401 w2_38, aI kI qC_lost 401 l2_38, (qM, .inr (3, [.ref qM_stones, .ref qM_laid, .ref qM_deeps, .ref qM_rates, .ref qP, .ref qT, .ref qM_dangers, .ref qM_losses, .int (jI vM_size), .int (jI vM_limit)])), aI kI qM_stones 30 fM_stones, aI kI qM_laid 30 fM_laid, aI kI qM_deeps 30 fM_deeps, aI kI qM_rates 64 fM_rates, (qP, .inr (7, [.ref qP_blocks, .ref qP_years, .ref qP_values, .ref qP_since, .int (jI vP_size)])), aI kI qP_blocks 60 fP_blocks, aI kI qP_years 60 fP_years, aI kI qP_values 60 fP_values, aI kI qP_since 401 s2_38, (qT, .inr (7, [.ref qT_blocks, .ref qT_years, .ref qT_values, .ref qT_since, .int (jI vT_size)])), aI kI qT_blocks 60 fT_blocks, aI kI qT_years 60 fT_years, aI kI qT_values 60 fT_values, aI kI qT_since 401 r2_38] rfl ?_
        have he97 := h97
        have he97 := he97.symm
        subst he97
        exact hret 0 0 100 _ (fM_stones b) (p2_38, w2_38, l2_38, d2_38, s2_38, r2_38) (Nat.le_of_ble_eq_true rfl) (Nat.le_of_ble_eq_true rfl) dX9_told_100 (by (try dsimp only); exact (by (repeat' split) <;> omega))
      by_cases c42_1 : what = 1
      · -- 42 case 1
        refine x_tabIn (tgt := 101) F 1 dX9_told_42 (by decide) c42_1 (by decide) rfl (by decide) ?_
        refine x_aload_n F dX9_told_101 rfl 0 rfl ?_
        refine x_get (ci := 9) F hin9 0 rfl rfl 0 (by decide) hw0 rfl dX9_told_102 ?_
        refine x_iload_n F dX9_told_105 rfl 1 rfl ?_
        refine x_callVi (ci := 3) (q0 := 5) (As := [.int (jI b)]) (st := []) F (c_X3_laidOf D kI kJ l qM b qM_stones qM_laid qM_deeps qM_rates qP qT qM_dangers qM_losses vM_size vM_limit fM_laid (by omega)) (cwV 1 F.2.2.2.2.1 gX9_told_X3_laidOf rfl rfl rfl (by decide +kernel) ⟨Nat.le_of_ble_eq_true rfl, Nat.le_of_ble_eq_true rfl⟩) rfl rfl [5, 7] [0, 1, 2, 3, 4, 6, 8, 9, 10, 11, 12, 13, 14, 15, 16, 17, 18, 19] [0, 1, 2, 3, 4, 18, 5, 19, 6, 7, 8, 9, 10, 11, 12, 13, 14, 15, 16, 17] rfl rfl (by decide) (by decide) (by decide) (fun _ => rfl) (by decide) rfl (Nat.le_of_ble_eq_true rfl) dX9_told_106 ⟨Nat.le_of_ble_eq_true rfl, Nat.le_of_ble_eq_true rfl⟩ (fun z106 u106 h106 => ?_)
        try dsimp only at h106
        refine x_ws [(qK, .inr (9, [.ref qM, .ref qC, .ref qL, .ref qFr, .ref qE, .ref qK_facts, .ref qN, .ref qS])), (qC, .inr (0, [.ref qC_placed, .ref qC_wrong, .ref qC_lost, .int (jI d2_38)])), aI kI qC_placed 401 p2_38, aI kI qC_wrong 401 w2_38, aI kI qC_lost 401 l2_38, (qM, .inr (3, [.ref qM_stones, .ref qM_laid, .ref qM_deeps, .ref qM_rates, .ref qP, .ref qT, .ref qM_dangers, .ref qM_losses, .int (jI vM_size), .int (jI vM_limit)])), aI kI qM_stones 30 fM_stones, aI kI qM_laid 30 fM_laid, aI kI qM_deeps 30 fM_deeps, aI kI qM_rates 64 fM_rates, (qP, .inr (7, [.ref qP_blocks, .ref qP_years, .ref qP_values, .ref qP_since, .int (jI vP_size)])), aI kI qP_blocks 60 fP_blocks, aI kI qP_years 60 fP_years, aI kI qP_values 60 fP_values, aI kI qP_since 401 s2_38, (qT, .inr (7, [.ref qT_blocks, .ref qT_years, .ref qT_values, .ref qT_since, .int (jI vT_size)])), aI kI qT_blocks 60 fT_blocks, aI kI qT_years 60 fT_years, aI kI qT_values 60 fT_values, aI kI qT_since 401 r2_38] rfl ?_
        have he106 := h106
        have he106 := he106.symm
        subst he106
        exact hret 0 0 109 _ (fM_laid b) (p2_38, w2_38, l2_38, d2_38, s2_38, r2_38) (Nat.le_of_ble_eq_true rfl) (Nat.le_of_ble_eq_true rfl) dX9_told_109 (by (try dsimp only); exact (by (repeat' split) <;> omega))
      by_cases c42_2 : what = 2
      · -- 42 case 2
        refine x_tabIn (tgt := 110) F 2 dX9_told_42 (by decide) c42_2 (by decide) rfl (by decide) ?_
        refine x_aload_n F dX9_told_110 rfl 0 rfl ?_
        refine x_get (ci := 9) F hin9 0 rfl rfl 0 (by decide) hw0 rfl dX9_told_111 ?_
        refine x_iload_n F dX9_told_114 rfl 1 rfl ?_
        refine x_callVi (ci := 3) (q0 := 5) (As := [.int (jI b)]) (st := []) F (c_X3_deepOf D kI kJ l qM b qM_stones qM_laid qM_deeps qM_rates qP qT qM_dangers qM_losses vM_size vM_limit fM_deeps (by omega)) (cwV 1 F.2.2.2.2.1 gX9_told_X3_deepOf rfl rfl rfl (by decide +kernel) ⟨Nat.le_of_ble_eq_true rfl, Nat.le_of_ble_eq_true rfl⟩) rfl rfl [5, 8] [0, 1, 2, 3, 4, 6, 7, 9, 10, 11, 12, 13, 14, 15, 16, 17, 18, 19] [0, 1, 2, 3, 4, 18, 5, 6, 19, 7, 8, 9, 10, 11, 12, 13, 14, 15, 16, 17] rfl rfl (by decide) (by decide) (by decide) (fun _ => rfl) (by decide) rfl (Nat.le_of_ble_eq_true rfl) dX9_told_115 ⟨Nat.le_of_ble_eq_true rfl, Nat.le_of_ble_eq_true rfl⟩ (fun z115 u115 h115 => ?_)
        try dsimp only at h115
        refine x_ws [(qK, .inr (9, [.ref qM, .ref qC, .ref qL, .ref qFr, .ref qE, .ref qK_facts, .ref qN, .ref qS])), (qC, .inr (0, [.ref qC_placed, .ref qC_wrong, .ref qC_lost, .int (jI d2_38)])), aI kI qC_placed 401 p2_38, aI kI qC_wrong 401 w2_38, aI kI qC_lost 401 l2_38, (qM, .inr (3, [.ref qM_stones, .ref qM_laid, .ref qM_deeps, .ref qM_rates, .ref qP, .ref qT, .ref qM_dangers, .ref qM_losses, .int (jI vM_size), .int (jI vM_limit)])), aI kI qM_stones 30 fM_stones, aI kI qM_laid 30 fM_laid, aI kI qM_deeps 30 fM_deeps, aI kI qM_rates 64 fM_rates, (qP, .inr (7, [.ref qP_blocks, .ref qP_years, .ref qP_values, .ref qP_since, .int (jI vP_size)])), aI kI qP_blocks 60 fP_blocks, aI kI qP_years 60 fP_years, aI kI qP_values 60 fP_values, aI kI qP_since 401 s2_38, (qT, .inr (7, [.ref qT_blocks, .ref qT_years, .ref qT_values, .ref qT_since, .int (jI vT_size)])), aI kI qT_blocks 60 fT_blocks, aI kI qT_years 60 fT_years, aI kI qT_values 60 fT_values, aI kI qT_since 401 r2_38] rfl ?_
        have he115 := h115
        have he115 := he115.symm
        subst he115
        exact hret 0 0 118 _ (fM_deeps b) (p2_38, w2_38, l2_38, d2_38, s2_38, r2_38) (Nat.le_of_ble_eq_true rfl) (Nat.le_of_ble_eq_true rfl) dX9_told_118 (by (try dsimp only); exact (by (repeat' split) <;> omega))
      by_cases c42_3 : what = 3
      · -- 42 case 3
        refine x_tabIn (tgt := 119) F 3 dX9_told_42 (by decide) c42_3 (by decide) rfl (by decide) ?_
        refine x_aload_n F dX9_told_119 rfl 0 rfl ?_
        refine x_get (ci := 9) F hin9 0 rfl rfl 1 (by decide) hw1 rfl dX9_told_120 ?_
        refine x_iload_n F dX9_told_123 rfl 2 rfl ?_
        refine x_callVi (ci := 0) (q0 := 1) (As := [.int (jI year)]) (st := []) F (c_X0_sideAt D kI kJ l qC year qC_placed qC_wrong qC_lost d2_38 p2_38 (by omega) hgp9) (cwV 1 F.2.2.2.2.1 gX9_told_X0_sideAt rfl rfl rfl (by decide +kernel) ⟨Nat.le_of_ble_eq_true rfl, Nat.le_of_ble_eq_true rfl⟩) rfl rfl [1, 2] [0, 3, 4, 5, 6, 7, 8, 9, 10, 11, 12, 13, 14, 15, 16, 17, 18, 19] [0, 18, 19, 1, 2, 3, 4, 5, 6, 7, 8, 9, 10, 11, 12, 13, 14, 15, 16, 17] rfl rfl (by decide) (by decide) (by decide) (fun _ => rfl) (by decide) rfl (Nat.le_of_ble_eq_true rfl) dX9_told_124 ⟨Nat.le_of_ble_eq_true rfl, Nat.le_of_ble_eq_true rfl⟩ (fun z124 u124 h124 => ?_)
        try dsimp only at h124
        refine x_ws [(qK, .inr (9, [.ref qM, .ref qC, .ref qL, .ref qFr, .ref qE, .ref qK_facts, .ref qN, .ref qS])), (qC, .inr (0, [.ref qC_placed, .ref qC_wrong, .ref qC_lost, .int (jI d2_38)])), aI kI qC_placed 401 p2_38, aI kI qC_wrong 401 w2_38, aI kI qC_lost 401 l2_38, (qM, .inr (3, [.ref qM_stones, .ref qM_laid, .ref qM_deeps, .ref qM_rates, .ref qP, .ref qT, .ref qM_dangers, .ref qM_losses, .int (jI vM_size), .int (jI vM_limit)])), aI kI qM_stones 30 fM_stones, aI kI qM_laid 30 fM_laid, aI kI qM_deeps 30 fM_deeps, aI kI qM_rates 64 fM_rates, (qP, .inr (7, [.ref qP_blocks, .ref qP_years, .ref qP_values, .ref qP_since, .int (jI vP_size)])), aI kI qP_blocks 60 fP_blocks, aI kI qP_years 60 fP_years, aI kI qP_values 60 fP_values, aI kI qP_since 401 s2_38, (qT, .inr (7, [.ref qT_blocks, .ref qT_years, .ref qT_values, .ref qT_since, .int (jI vT_size)])), aI kI qT_blocks 60 fT_blocks, aI kI qT_years 60 fT_years, aI kI qT_values 60 fT_values, aI kI qT_since 401 r2_38] rfl ?_
        have he124 := h124
        have he124 := he124.symm
        subst he124
        exact hret 0 0 127 _ (p2_38 year % 16 / 4) (p2_38, w2_38, l2_38, d2_38, s2_38, r2_38) (Nat.le_of_ble_eq_true rfl) (Nat.le_of_ble_eq_true rfl) dX9_told_127 (by (try dsimp only); exact (by (repeat' split) <;> omega))
      by_cases c42_4 : what = 4
      · -- 42 case 4
        refine x_tabIn (tgt := 128) F 4 dX9_told_42 (by decide) c42_4 (by decide) rfl (by decide) ?_
        refine x_aload_n F dX9_told_128 rfl 0 rfl ?_
        refine x_get (ci := 9) F hin9 0 rfl rfl 1 (by decide) hw1 rfl dX9_told_129 ?_
        refine x_iload_n F dX9_told_132 rfl 2 rfl ?_
        refine x_callVi (ci := 0) (q0 := 1) (As := [.int (jI year)]) (st := []) F (c_X0_wetAt D kI kJ l qC year qC_placed qC_wrong qC_lost d2_38 p2_38 (by omega) hgp9) (cwV 1 F.2.2.2.2.1 gX9_told_X0_wetAt rfl rfl rfl (by decide +kernel) ⟨Nat.le_of_ble_eq_true rfl, Nat.le_of_ble_eq_true rfl⟩) rfl rfl [1, 2] [0, 3, 4, 5, 6, 7, 8, 9, 10, 11, 12, 13, 14, 15, 16, 17, 18, 19] [0, 18, 19, 1, 2, 3, 4, 5, 6, 7, 8, 9, 10, 11, 12, 13, 14, 15, 16, 17] rfl rfl (by decide) (by decide) (by decide) (fun _ => rfl) (by decide) rfl (Nat.le_of_ble_eq_true rfl) dX9_told_133 ⟨Nat.le_of_ble_eq_true rfl, Nat.le_of_ble_eq_true rfl⟩ (fun z133 u133 h133 => ?_)
        try dsimp only at h133
        refine x_ws [(qK, .inr (9, [.ref qM, .ref qC, .ref qL, .ref qFr, .ref qE, .ref qK_facts, .ref qN, .ref qS])), (qC, .inr (0, [.ref qC_placed, .ref qC_wrong, .ref qC_lost, .int (jI d2_38)])), aI kI qC_placed 401 p2_38, aI kI qC_wrong 401 w2_38, aI kI qC_lost 401 l2_38, (qM, .inr (3, [.ref qM_stones, .ref qM_laid, .ref qM_deeps, .ref qM_rates, .ref qP, .ref qT, .ref qM_dangers, .ref qM_losses, .int (jI vM_size), .int (jI vM_limit)])), aI kI qM_stones 30 fM_stones, aI kI qM_laid 30 fM_laid, aI kI qM_deeps 30 fM_deeps, aI kI qM_rates 64 fM_rates, (qP, .inr (7, [.ref qP_blocks, .ref qP_years, .ref qP_values, .ref qP_since, .int (jI vP_size)])), aI kI qP_blocks 60 fP_blocks, aI kI qP_years 60 fP_years, aI kI qP_values 60 fP_values, aI kI qP_since 401 s2_38, (qT, .inr (7, [.ref qT_blocks, .ref qT_years, .ref qT_values, .ref qT_since, .int (jI vT_size)])), aI kI qT_blocks 60 fT_blocks, aI kI qT_years 60 fT_years, aI kI qT_values 60 fT_values, aI kI qT_since 401 r2_38] rfl ?_
        have he133 := h133
        have he133 := he133.symm
        subst he133
        exact hret 0 0 136 _ (p2_38 year % 4) (p2_38, w2_38, l2_38, d2_38, s2_38, r2_38) (Nat.le_of_ble_eq_true rfl) (Nat.le_of_ble_eq_true rfl) dX9_told_136 (by (try dsimp only); exact (by (repeat' split) <;> omega))
      by_cases c42_5 : what = 5
      · -- 42 case 5
        refine x_tabIn (tgt := 137) F 5 dX9_told_42 (by decide) c42_5 (by decide) rfl (by decide) ?_
        refine x_aload_n F dX9_told_137 rfl 0 rfl ?_
        refine x_get (ci := 9) F hin9 0 rfl rfl 1 (by decide) hw1 rfl dX9_told_138 ?_
        refine x_iload_n F dX9_told_141 rfl 2 rfl ?_
        refine x_callVi (ci := 0) (q0 := 1) (As := [.int (jI year)]) (st := []) F (c_X0_zoneAt D kI kJ l qC year qC_placed qC_wrong qC_lost d2_38 p2_38 (by omega) hgp9) (cwV 1 F.2.2.2.2.1 gX9_told_X0_zoneAt rfl rfl rfl (by decide +kernel) ⟨Nat.le_of_ble_eq_true rfl, Nat.le_of_ble_eq_true rfl⟩) rfl rfl [1, 2] [0, 3, 4, 5, 6, 7, 8, 9, 10, 11, 12, 13, 14, 15, 16, 17, 18, 19] [0, 18, 19, 1, 2, 3, 4, 5, 6, 7, 8, 9, 10, 11, 12, 13, 14, 15, 16, 17] rfl rfl (by decide) (by decide) (by decide) (fun _ => rfl) (by decide) rfl (Nat.le_of_ble_eq_true rfl) dX9_told_142 ⟨Nat.le_of_ble_eq_true rfl, Nat.le_of_ble_eq_true rfl⟩ (fun z142 u142 h142 => ?_)
        try dsimp only at h142
        refine x_ws [(qK, .inr (9, [.ref qM, .ref qC, .ref qL, .ref qFr, .ref qE, .ref qK_facts, .ref qN, .ref qS])), (qC, .inr (0, [.ref qC_placed, .ref qC_wrong, .ref qC_lost, .int (jI d2_38)])), aI kI qC_placed 401 p2_38, aI kI qC_wrong 401 w2_38, aI kI qC_lost 401 l2_38, (qM, .inr (3, [.ref qM_stones, .ref qM_laid, .ref qM_deeps, .ref qM_rates, .ref qP, .ref qT, .ref qM_dangers, .ref qM_losses, .int (jI vM_size), .int (jI vM_limit)])), aI kI qM_stones 30 fM_stones, aI kI qM_laid 30 fM_laid, aI kI qM_deeps 30 fM_deeps, aI kI qM_rates 64 fM_rates, (qP, .inr (7, [.ref qP_blocks, .ref qP_years, .ref qP_values, .ref qP_since, .int (jI vP_size)])), aI kI qP_blocks 60 fP_blocks, aI kI qP_years 60 fP_years, aI kI qP_values 60 fP_values, aI kI qP_since 401 s2_38, (qT, .inr (7, [.ref qT_blocks, .ref qT_years, .ref qT_values, .ref qT_since, .int (jI vT_size)])), aI kI qT_blocks 60 fT_blocks, aI kI qT_years 60 fT_years, aI kI qT_values 60 fT_values, aI kI qT_since 401 r2_38] rfl ?_
        have he142 := h142
        have he142 := he142.symm
        subst he142
        exact hret 0 0 145 _ (p2_38 year / 16) (p2_38, w2_38, l2_38, d2_38, s2_38, r2_38) (Nat.le_of_ble_eq_true rfl) (Nat.le_of_ble_eq_true rfl) dX9_told_145 (by (try dsimp only); exact (by (repeat' split) <;> omega))
      by_cases c42_6 : what = 6
      · -- 42 case 6
        refine x_tabIn (tgt := 146) F 6 dX9_told_42 (by decide) c42_6 (by decide) rfl (by decide) ?_
        refine x_aload_n F dX9_told_146 rfl 0 rfl ?_
        refine x_get (ci := 9) F hin9 0 rfl rfl 1 (by decide) hw1 rfl dX9_told_147 ?_
        refine x_iload_n F dX9_told_150 rfl 2 rfl ?_
        refine x_callVi (ci := 0) (q0 := 1) (As := [.int (jI year)]) (st := []) F (c_X0_harmAt D kI kJ l qC year qC_placed qC_wrong qC_lost d2_38 w2_38 (by omega)) (cwV 1 F.2.2.2.2.1 gX9_told_X0_harmAt rfl rfl rfl (by decide +kernel) ⟨Nat.le_of_ble_eq_true rfl, Nat.le_of_ble_eq_true rfl⟩) rfl rfl [1, 3] [0, 2, 4, 5, 6, 7, 8, 9, 10, 11, 12, 13, 14, 15, 16, 17, 18, 19] [0, 18, 1, 19, 2, 3, 4, 5, 6, 7, 8, 9, 10, 11, 12, 13, 14, 15, 16, 17] rfl rfl (by decide) (by decide) (by decide) (fun _ => rfl) (by decide) rfl (Nat.le_of_ble_eq_true rfl) dX9_told_151 ⟨Nat.le_of_ble_eq_true rfl, Nat.le_of_ble_eq_true rfl⟩ (fun z151 u151 h151 => ?_)
        try dsimp only at h151
        refine x_ws [(qK, .inr (9, [.ref qM, .ref qC, .ref qL, .ref qFr, .ref qE, .ref qK_facts, .ref qN, .ref qS])), (qC, .inr (0, [.ref qC_placed, .ref qC_wrong, .ref qC_lost, .int (jI d2_38)])), aI kI qC_placed 401 p2_38, aI kI qC_wrong 401 w2_38, aI kI qC_lost 401 l2_38, (qM, .inr (3, [.ref qM_stones, .ref qM_laid, .ref qM_deeps, .ref qM_rates, .ref qP, .ref qT, .ref qM_dangers, .ref qM_losses, .int (jI vM_size), .int (jI vM_limit)])), aI kI qM_stones 30 fM_stones, aI kI qM_laid 30 fM_laid, aI kI qM_deeps 30 fM_deeps, aI kI qM_rates 64 fM_rates, (qP, .inr (7, [.ref qP_blocks, .ref qP_years, .ref qP_values, .ref qP_since, .int (jI vP_size)])), aI kI qP_blocks 60 fP_blocks, aI kI qP_years 60 fP_years, aI kI qP_values 60 fP_values, aI kI qP_since 401 s2_38, (qT, .inr (7, [.ref qT_blocks, .ref qT_years, .ref qT_values, .ref qT_since, .int (jI vT_size)])), aI kI qT_blocks 60 fT_blocks, aI kI qT_years 60 fT_years, aI kI qT_values 60 fT_values, aI kI qT_since 401 r2_38] rfl ?_
        have he151 := h151
        have he151 := he151.symm
        subst he151
        exact hret 0 0 154 _ (w2_38 year) (p2_38, w2_38, l2_38, d2_38, s2_38, r2_38) (Nat.le_of_ble_eq_true rfl) (Nat.le_of_ble_eq_true rfl) dX9_told_154 (by (try dsimp only); exact (by (repeat' split) <;> omega))
      by_cases c42_7 : what = 7
      · -- 42 case 7
        refine x_tabIn (tgt := 155) F 7 dX9_told_42 (by decide) c42_7 (by decide) rfl (by decide) ?_
        refine x_aload_n F dX9_told_155 rfl 0 rfl ?_
        refine x_get (ci := 9) F hin9 0 rfl rfl 1 (by decide) hw1 rfl dX9_told_156 ?_
        refine x_iload_n F dX9_told_159 rfl 2 rfl ?_
        refine x_callVi (ci := 0) (q0 := 1) (As := [.int (jI year)]) (st := []) F (c_X0_lostAt D kI kJ l qC year qC_placed qC_wrong qC_lost d2_38 l2_38 (by omega)) (cwV 1 F.2.2.2.2.1 gX9_told_X0_lostAt rfl rfl rfl (by decide +kernel) ⟨Nat.le_of_ble_eq_true rfl, Nat.le_of_ble_eq_true rfl⟩) rfl rfl [1, 4] [0, 2, 3, 5, 6, 7, 8, 9, 10, 11, 12, 13, 14, 15, 16, 17, 18, 19] [0, 18, 1, 2, 19, 3, 4, 5, 6, 7, 8, 9, 10, 11, 12, 13, 14, 15, 16, 17] rfl rfl (by decide) (by decide) (by decide) (fun _ => rfl) (by decide) rfl (Nat.le_of_ble_eq_true rfl) dX9_told_160 ⟨Nat.le_of_ble_eq_true rfl, Nat.le_of_ble_eq_true rfl⟩ (fun z160 u160 h160 => ?_)
        try dsimp only at h160
        refine x_ws [(qK, .inr (9, [.ref qM, .ref qC, .ref qL, .ref qFr, .ref qE, .ref qK_facts, .ref qN, .ref qS])), (qC, .inr (0, [.ref qC_placed, .ref qC_wrong, .ref qC_lost, .int (jI d2_38)])), aI kI qC_placed 401 p2_38, aI kI qC_wrong 401 w2_38, aI kI qC_lost 401 l2_38, (qM, .inr (3, [.ref qM_stones, .ref qM_laid, .ref qM_deeps, .ref qM_rates, .ref qP, .ref qT, .ref qM_dangers, .ref qM_losses, .int (jI vM_size), .int (jI vM_limit)])), aI kI qM_stones 30 fM_stones, aI kI qM_laid 30 fM_laid, aI kI qM_deeps 30 fM_deeps, aI kI qM_rates 64 fM_rates, (qP, .inr (7, [.ref qP_blocks, .ref qP_years, .ref qP_values, .ref qP_since, .int (jI vP_size)])), aI kI qP_blocks 60 fP_blocks, aI kI qP_years 60 fP_years, aI kI qP_values 60 fP_values, aI kI qP_since 401 s2_38, (qT, .inr (7, [.ref qT_blocks, .ref qT_years, .ref qT_values, .ref qT_since, .int (jI vT_size)])), aI kI qT_blocks 60 fT_blocks, aI kI qT_years 60 fT_years, aI kI qT_values 60 fT_values, aI kI qT_since 401 r2_38] rfl ?_
        have he160 := h160
        have he160 := he160.symm
        subst he160
        exact hret 0 0 163 _ (l2_38 year) (p2_38, w2_38, l2_38, d2_38, s2_38, r2_38) (Nat.le_of_ble_eq_true rfl) (Nat.le_of_ble_eq_true rfl) dX9_told_163 (by (try dsimp only); exact (by (repeat' split) <;> omega))
      by_cases c42_8 : what = 8
      · -- 42 case 8
        refine x_tabIn (tgt := 164) F 8 dX9_told_42 (by decide) c42_8 (by decide) rfl (by decide) ?_
        refine x_aload_n F dX9_told_164 rfl 0 rfl ?_
        refine x_get (ci := 9) F hin9 0 rfl rfl 1 (by decide) hw1 rfl dX9_told_165 ?_
        refine x_getN (ci := 0) F hin0 1 rfl rfl 3 (by decide) (nF6 F.2.2.2.2.2.2.2) rfl dX9_told_168 ?_
        exact hret 0 0 171 _ d2_38 (p2_38, w2_38, l2_38, d2_38, s2_38, r2_38) (Nat.le_of_ble_eq_true rfl) (Nat.le_of_ble_eq_true rfl) dX9_told_171 (by (try dsimp only); exact (by (repeat' split) <;> omega))
      refine x_tabOut (tgt := 172) F dX9_told_42 (by omega) (by omega) (by decide) ?_
      refine x_sipush F dX9_told_172 (by decide) ?_
      exact hret 0 0 175 _ (-1002) (p2_38, w2_38, l2_38, d2_38, s2_38, r2_38) (Nat.le_of_ble_eq_true rfl) (Nat.le_of_ble_eq_true rfl) dX9_told_175 (by (try dsimp only); exact (by (repeat' split) <;> omega))
    · -- 22 f
      refine x_sipush F dX9_told_25 (by decide) ?_
      exact hret 0 0 28 _ (-1002) (fC_placed, fC_wrong, fC_lost, vC_danger, fP_since, fT_since) (Nat.le_of_ble_eq_true rfl) (Nat.le_of_ble_eq_true rfl) dX9_told_28 (by (try dsimp only); exact (by (repeat' split) <;> omega))
  · -- 8 f
    refine x_sipush F dX9_told_11 (by decide) ?_
    exact hret 0 0 14 _ (-1001) (fC_placed, fC_wrong, fC_lost, vC_danger, fP_since, fT_since) (Nat.le_of_ble_eq_true rfl) (Nat.le_of_ble_eq_true rfl) dX9_told_14 (by (try dsimp only); exact (by (repeat' split) <;> omega))
