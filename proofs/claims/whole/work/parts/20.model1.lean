set_option maxHeartbeats 4000000 in
set_option maxRecDepth 100000 in
theorem c_X10_in (D : va_G) (kI kJ : Nat) (l : Launch) (v : Int) (least : Int) (most : Int) (hv : -9223372036854775808 ≤ v ∧ v < 9223372036854775808) (hl : -9223372036854775808 ≤ least ∧ least < 9223372036854775808) (hm : -9223372036854775808 ≤ most ∧ most < 9223372036854775808) : xMi D kI kJ l yX10_in wsX10_in 1 32 0 0 [.long (jL v), .long (jL least), .long (jL most)] [] (fun (z : Int) (u : Unit) => xBool z (least ≤ v ∧ v ≤ most)) (fun (u : Unit) => []) := by
  refine xMi_of (cc := cX10_in) (maxL := 6) (rt := .boolean) (by decide) rfl (Nat.le_of_ble_eq_true rfl) (fun z u hp => xBool_nar hp) ?_
  intro p e s m args below meth c A Q F hin2 hret
  refine x_lveq (lv' := [(0, .long (jL v)), (2, .long (jL least)), (4, .long (jL most))]) rfl ?_
  refine x_lload_n F dX10_in_0 rfl 0 rfl ?_
  refine x_lload_n F dX10_in_1 rfl 1 rfl ?_
  refine x_lcmp F dX10_in_2 (by omega) ?_
  refine x_if_lt (tgt := 17) F dX10_in_3 (by decide) (jC_rng _ _) (fun c3 => ?_) (fun c3 => ?_)
  · -- 3 t
    rw [jC_lt] at c3
    refine x_iconst F dX10_in_17 ?_
    exact hret 0 0 18 _ 0 () (Nat.le_of_ble_eq_true rfl) (Nat.le_of_ble_eq_true rfl) dX10_in_18 (by first | exact xBool_t (by omega) | exact xBool_f (by omega))
  · -- 3 f
    rw [jC_lt] at c3
    refine x_lload_n F dX10_in_6 rfl 0 rfl ?_
    refine x_lload F dX10_in_7 2 rfl ?_
    refine x_lcmp F dX10_in_9 (by omega) ?_
    refine x_if_gt (tgt := 17) F dX10_in_10 (by decide) (jC_rng _ _) (fun c10 => ?_) (fun c10 => ?_)
    · -- 10 t
      rw [jC_gt] at c10
      refine x_iconst F dX10_in_17 ?_
      exact hret 0 0 18 _ 0 () (Nat.le_of_ble_eq_true rfl) (Nat.le_of_ble_eq_true rfl) dX10_in_18 (by first | exact xBool_t (by omega) | exact xBool_f (by omega))
    · -- 10 f
      rw [jC_gt] at c10
      refine x_iconst F dX10_in_13 ?_
      refine x_goto (tgt := 18) F dX10_in_14 (by decide) ?_
      exact hret 0 0 18 _ 1 () (Nat.le_of_ble_eq_true rfl) (Nat.le_of_ble_eq_true rfl) dX10_in_18 (by first | exact xBool_t (by omega) | exact xBool_f (by omega))
set_option maxHeartbeats 4000000 in
set_option maxRecDepth 100000 in
theorem c_X10_isYear (D : va_G) (kI kJ : Nat) (l : Launch) (y : Int) (hr_y : -2147483648 ≤ y ∧ y < 2147483648) : xMi D kI kJ l yX10_isYear wsX10_isYear 2 57 0 0 [.int (jI y)] [] (fun (z : Int) (u : Unit) => xBool z (0 ≤ y ∧ y ≤ 400)) (fun (u : Unit) => []) := by
  refine xMi_of (cc := cX10_isYear) (maxL := 1) (rt := .boolean) (by decide) rfl (Nat.le_of_ble_eq_true rfl) (fun z u hp => xBool_nar hp) ?_
  intro p e s m args below meth c A Q F hin2 hret
  have hw0 : Cond.constantLong RX10 84 400 ∈ wsX10_isYear := by decide +kernel
  refine x_lveq (lv' := [(0, .int (jI y))]) rfl ?_
  refine x_iload_n F dX10_isYear_0 rfl 0 rfl ?_
  refine x_i2l F dX10_isYear_1 (by omega) ?_
  refine x_lconst F 0 dX10_isYear_2 (by decide) ?_
  refine x_ldc2 F 400 hw0 (by decide) dX10_isYear_3 ?_
  refine x_callSi (As := [.long (jL y), .long (jL 0), .long (jL 400)]) (st := []) F (c_X10_in D kI kJ l y 0 400 (by omega) (by omega) (by omega)) (va_cwS 3 F.2.2.2.2.1 gX10_isYear_X10_in rfl rfl rfl (by decide +kernel) ⟨Nat.le_of_ble_eq_true rfl, Nat.le_of_ble_eq_true rfl⟩) [] [] [] rfl rfl (by decide) (by decide) (by decide) (fun _ => rfl) (by decide) rfl (Nat.le_of_ble_eq_true rfl) dX10_isYear_6 ⟨Nat.le_of_ble_eq_true rfl, Nat.le_of_ble_eq_true rfl⟩ (fun z6 u6 h6 => ?_)
  try dsimp only at h6
  refine x_ws [] rfl ?_
  have hb6 := h6
  exact hret 0 0 9 _ z6 () (Nat.le_of_ble_eq_true rfl) (Nat.le_of_ble_eq_true rfl) dX10_isYear_9 (hb6)
set_option maxHeartbeats 4000000 in
set_option maxRecDepth 100000 in
theorem c_X10_isBlock (D : va_G) (kI kJ : Nat) (l : Launch) (qO : Nat) (b : Int) (vO_blocks : Int) (qO_stones : Nat) (qO_laid : Nat) (qO_deep : Nat) (vO_placings : Int) (qO_placed : Nat) (vO_mortars : Int) (qO_put : Nat) (qO_rates : Nat) (vO_limit : Int) (vO_looks : Int) (qO_seen : Nat) (qO_text : Nat) (vO_texted : Int) (vO_faultPlace : Int) (vO_clauses : Int) (qO_rule : Nat) (qO_fresh : Nat) (vO_lots : Int) (qO_stocks : Nat) (qO_row : Nat) (qO_dangers : Nat) (qO_losses : Nat) (vO_upper : Int) (vO_lower : Int) (qO_habitUpper : Nat) (qO_habitLower : Nat) (vO_at : Int) (vO_word : Int) (vO_wordEnd : Int) (qO_chosen : Nat) (qO_lost : Nat) (qO_zones : Nat) (qO_way : Nat) (qO_spent : Nat) (qO_scaffolds : Nat) (hr_b : -2147483648 ≤ b ∧ b < 2147483648) (hOb : 0 ≤ vO_blocks ∧ vO_blocks ≤ 30) : xMi D kI kJ l yX10_isBlock wsX10_isBlock 2 57 0 0 [.ref qO, .int (jI b)] [(qO, .inr (10, [.int (jI vO_blocks), .ref qO_stones, .ref qO_laid, .ref qO_deep, .int (jI vO_placings), .ref qO_placed, .int (jI vO_mortars), .ref qO_put, .ref qO_rates, .int (jI vO_limit), .int (jI vO_looks), .ref qO_seen, .ref qO_text, .int (jI vO_texted), .int (jI vO_faultPlace), .int (jI vO_clauses), .ref qO_rule, .ref qO_fresh, .int (jI vO_lots), .ref qO_stocks, .ref qO_row, .ref qO_dangers, .ref qO_losses, .long (jL vO_upper), .long (jL vO_lower), .ref qO_habitUpper, .ref qO_habitLower, .int (jI vO_at), .long (jL vO_word), .int (jI vO_wordEnd), .ref qO_chosen, .ref qO_lost, .ref qO_zones, .ref qO_way, .ref qO_spent, .ref qO_scaffolds]))] (fun (z : Int) (u : Unit) => xBool z (0 ≤ b ∧ b < vO_blocks)) (fun (u : Unit) => [(qO, .inr (10, [.int (jI vO_blocks), .ref qO_stones, .ref qO_laid, .ref qO_deep, .int (jI vO_placings), .ref qO_placed, .int (jI vO_mortars), .ref qO_put, .ref qO_rates, .int (jI vO_limit), .int (jI vO_looks), .ref qO_seen, .ref qO_text, .int (jI vO_texted), .int (jI vO_faultPlace), .int (jI vO_clauses), .ref qO_rule, .ref qO_fresh, .int (jI vO_lots), .ref qO_stocks, .ref qO_row, .ref qO_dangers, .ref qO_losses, .long (jL vO_upper), .long (jL vO_lower), .ref qO_habitUpper, .ref qO_habitLower, .int (jI vO_at), .long (jL vO_word), .int (jI vO_wordEnd), .ref qO_chosen, .ref qO_lost, .ref qO_zones, .ref qO_way, .ref qO_spent, .ref qO_scaffolds]))]) := by
  refine xMi_of (cc := cX10_isBlock) (maxL := 2) (rt := .boolean) (by decide) rfl (Nat.le_of_ble_eq_true rfl) (fun z u hp => xBool_nar hp) ?_
  intro p e s m args below meth c A Q F hin2 hret
  have hin10 : ∀ w ∈ wsX100, w ∈ wsX10_isBlock := by decide +kernel
  have hw0 : Cond.fieldLink RX10 90 (TX10 0).1 (TX10 0).2.1 (TX10 0).2.2.1 ∈ wsX10_isBlock := by decide +kernel
  refine x_lveq (lv' := [(0, .ref qO), (1, .int (jI b))]) rfl ?_
  refine x_iload_n F dX10_isBlock_0 rfl 1 rfl ?_
  refine x_i2l F dX10_isBlock_1 (by omega) ?_
  refine x_lconst F 0 dX10_isBlock_2 (by decide) ?_
  refine x_aload_n F dX10_isBlock_3 rfl 0 rfl ?_
  refine x_get (ci := 10) F hin10 0 rfl rfl 0 (by decide) hw0 rfl dX10_isBlock_4 ?_
  refine x_iconst F dX10_isBlock_7 ?_
  refine x_isub F dX10_isBlock_8 ?_
  refine x_i2l F dX10_isBlock_9 (by omega) ?_
  refine x_callSi (As := [.long (jL b), .long (jL 0), .long (jL (vO_blocks - 1))]) (st := []) F (c_X10_in D kI kJ l b 0 (vO_blocks - 1) (by omega) (by omega) (by omega)) (va_cwS 3 F.2.2.2.2.1 gX10_isBlock_X10_in rfl rfl rfl (by decide +kernel) ⟨Nat.le_of_ble_eq_true rfl, Nat.le_of_ble_eq_true rfl⟩) [] [0] [0] rfl rfl (by decide) (by decide) (by decide) (fun _ => rfl) (by decide) rfl (Nat.le_of_ble_eq_true rfl) dX10_isBlock_10 ⟨Nat.le_of_ble_eq_true rfl, Nat.le_of_ble_eq_true rfl⟩ (fun z10 u10 h10 => ?_)
  try dsimp only at h10
  refine x_ws [(qO, .inr (10, [.int (jI vO_blocks), .ref qO_stones, .ref qO_laid, .ref qO_deep, .int (jI vO_placings), .ref qO_placed, .int (jI vO_mortars), .ref qO_put, .ref qO_rates, .int (jI vO_limit), .int (jI vO_looks), .ref qO_seen, .ref qO_text, .int (jI vO_texted), .int (jI vO_faultPlace), .int (jI vO_clauses), .ref qO_rule, .ref qO_fresh, .int (jI vO_lots), .ref qO_stocks, .ref qO_row, .ref qO_dangers, .ref qO_losses, .long (jL vO_upper), .long (jL vO_lower), .ref qO_habitUpper, .ref qO_habitLower, .int (jI vO_at), .long (jL vO_word), .int (jI vO_wordEnd), .ref qO_chosen, .ref qO_lost, .ref qO_zones, .ref qO_way, .ref qO_spent, .ref qO_scaffolds]))] rfl ?_
  have hb10 := h10
  exact hret 0 0 13 _ z10 () (Nat.le_of_ble_eq_true rfl) (Nat.le_of_ble_eq_true rfl) dX10_isBlock_13 (xBool_iff hb10 (by omega))
set_option maxHeartbeats 4000000 in
set_option maxRecDepth 100000 in
theorem c_X10_block (D : va_G) (kI kJ : Nat) (l : Launch) (qO : Nat) (stone : Int) (year : Int) (deep : Int) (vO_blocks : Int) (qO_stones : Nat) (qO_laid : Nat) (qO_deep : Nat) (vO_placings : Int) (qO_placed : Nat) (vO_mortars : Int) (qO_put : Nat) (qO_rates : Nat) (vO_limit : Int) (vO_looks : Int) (qO_seen : Nat) (qO_text : Nat) (vO_texted : Int) (vO_faultPlace : Int) (vO_clauses : Int) (qO_rule : Nat) (qO_fresh : Nat) (vO_lots : Int) (qO_stocks : Nat) (qO_row : Nat) (qO_dangers : Nat) (qO_losses : Nat) (vO_upper : Int) (vO_lower : Int) (qO_habitUpper : Nat) (qO_habitLower : Nat) (vO_at : Int) (vO_word : Int) (vO_wordEnd : Int) (qO_chosen : Nat) (qO_lost : Nat) (qO_zones : Nat) (qO_way : Nat) (qO_spent : Nat) (qO_scaffolds : Nat) (fO_stones : (Int → Int)) (fO_laid : (Int → Int)) (fO_deep : (Int → Int)) (hr_stone : -2147483648 ≤ stone ∧ stone < 2147483648) (hr_year : -2147483648 ≤ year ∧ year < 2147483648) (hr_deep : -2147483648 ≤ deep ∧ deep < 2147483648) (hOb : 0 ≤ vO_blocks ∧ vO_blocks ≤ 30) : xMi D kI kJ l yX10_block wsX10_block 3 77 0 0 [.ref qO, .int (jI stone), .int (jI year), .int (jI deep)] [(qO, .inr (10, [.int (jI vO_blocks), .ref qO_stones, .ref qO_laid, .ref qO_deep, .int (jI vO_placings), .ref qO_placed, .int (jI vO_mortars), .ref qO_put, .ref qO_rates, .int (jI vO_limit), .int (jI vO_looks), .ref qO_seen, .ref qO_text, .int (jI vO_texted), .int (jI vO_faultPlace), .int (jI vO_clauses), .ref qO_rule, .ref qO_fresh, .int (jI vO_lots), .ref qO_stocks, .ref qO_row, .ref qO_dangers, .ref qO_losses, .long (jL vO_upper), .long (jL vO_lower), .ref qO_habitUpper, .ref qO_habitLower, .int (jI vO_at), .long (jL vO_word), .int (jI vO_wordEnd), .ref qO_chosen, .ref qO_lost, .ref qO_zones, .ref qO_way, .ref qO_spent, .ref qO_scaffolds])), aI kI qO_stones 30 fO_stones, aI kI qO_laid 30 fO_laid, aI kI qO_deep 30 fO_deep] (fun (z : Int) (u : Int × (Int → Int) × (Int → Int) × (Int → Int)) => (((¬ ((0 ≤ stone ∧ stone ≤ 3) ∧ (0 ≤ year ∧ year ≤ 400) ∧ 1 ≤ deep ∧ deep ≤ 2000)) ∧ z = -1002 ∧ u.1 = vO_blocks ∧ u.2.1 = fO_stones ∧ u.2.2.1 = fO_laid ∧ u.2.2.2 = fO_deep) ∨ ((((0 ≤ stone ∧ stone ≤ 3) ∧ (0 ≤ year ∧ year ≤ 400) ∧ 1 ≤ deep ∧ deep ≤ 2000) ∧ vO_blocks = 30) ∧ z = -1004 ∧ u.1 = vO_blocks ∧ u.2.1 = fO_stones ∧ u.2.2.1 = fO_laid ∧ u.2.2.2 = fO_deep) ∨ ((((0 ≤ stone ∧ stone ≤ 3) ∧ (0 ≤ year ∧ year ≤ 400) ∧ 1 ≤ deep ∧ deep ≤ 2000) ∧ vO_blocks < 30) ∧ z = vO_blocks ∧ u.1 = vO_blocks + 1 ∧ u.2.1 = iU fO_stones vO_blocks stone ∧ u.2.2.1 = iU fO_laid vO_blocks year ∧ u.2.2.2 = iU fO_deep vO_blocks deep))) (fun (u : Int × (Int → Int) × (Int → Int) × (Int → Int)) => [(qO, .inr (10, [.int (jI u.1), .ref qO_stones, .ref qO_laid, .ref qO_deep, .int (jI vO_placings), .ref qO_placed, .int (jI vO_mortars), .ref qO_put, .ref qO_rates, .int (jI vO_limit), .int (jI vO_looks), .ref qO_seen, .ref qO_text, .int (jI vO_texted), .int (jI vO_faultPlace), .int (jI vO_clauses), .ref qO_rule, .ref qO_fresh, .int (jI vO_lots), .ref qO_stocks, .ref qO_row, .ref qO_dangers, .ref qO_losses, .long (jL vO_upper), .long (jL vO_lower), .ref qO_habitUpper, .ref qO_habitLower, .int (jI vO_at), .long (jL vO_word), .int (jI vO_wordEnd), .ref qO_chosen, .ref qO_lost, .ref qO_zones, .ref qO_way, .ref qO_spent, .ref qO_scaffolds])), aI kI qO_stones 30 u.2.1, aI kI qO_laid 30 u.2.2.1, aI kI qO_deep 30 u.2.2.2]) := by
  refine xMi_of (cc := cX10_block) (maxL := 4) (rt := .int) (by decide) rfl (Nat.le_of_ble_eq_true rfl) (fun _ _ _ => rfl) ?_
  intro p e s m args below meth c A Q F hin2 hret
  have hin10 : ∀ w ∈ wsX100, w ∈ wsX10_block := by decide +kernel
  have hw0 : Cond.constantLong RX10 93 3 ∈ wsX10_block := by decide +kernel
  have hw1 : Cond.constantLong RX10 99 2000 ∈ wsX10_block := by decide +kernel
  have hw2 : Cond.fieldLink RX10 90 (TX10 0).1 (TX10 0).2.1 (TX10 0).2.2.1 ∈ wsX10_block := by decide +kernel
  have hw3 : Cond.fieldLink RX10 7 (TX10 1).1 (TX10 1).2.1 (TX10 1).2.2.1 ∈ wsX10_block := by decide +kernel
  have hw4 : Cond.fieldLink RX10 13 (TX10 2).1 (TX10 2).2.1 (TX10 2).2.2.1 ∈ wsX10_block := by decide +kernel
  have hw5 : Cond.fieldLink RX10 16 (TX10 3).1 (TX10 3).2.1 (TX10 3).2.2.1 ∈ wsX10_block := by decide +kernel
  refine x_lveq (lv' := [(0, .ref qO), (1, .int (jI stone)), (2, .int (jI year)), (3, .int (jI deep))]) rfl ?_
  refine x_iload_n F dX10_block_0 rfl 1 rfl ?_
  refine x_i2l F dX10_block_1 (by omega) ?_
  refine x_lconst F 0 dX10_block_2 (by decide) ?_
  refine x_ldc2 F 3 hw0 (by decide) dX10_block_3 ?_
  refine x_callSi (As := [.long (jL stone), .long (jL 0), .long (jL 3)]) (st := []) F (c_X10_in D kI kJ l stone 0 3 (by omega) (by omega) (by omega)) (va_cwS 3 F.2.2.2.2.1 gX10_block_X10_in rfl rfl rfl (by decide +kernel) ⟨Nat.le_of_ble_eq_true rfl, Nat.le_of_ble_eq_true rfl⟩) [] [0, 1, 2, 3] [0, 1, 2, 3] rfl rfl (by decide) (by decide) (by decide) (fun _ => rfl) (by decide) rfl (Nat.le_of_ble_eq_true rfl) dX10_block_6 ⟨Nat.le_of_ble_eq_true rfl, Nat.le_of_ble_eq_true rfl⟩ (fun z6 u6 h6 => ?_)
  try dsimp only at h6
  refine x_ws [(qO, .inr (10, [.int (jI vO_blocks), .ref qO_stones, .ref qO_laid, .ref qO_deep, .int (jI vO_placings), .ref qO_placed, .int (jI vO_mortars), .ref qO_put, .ref qO_rates, .int (jI vO_limit), .int (jI vO_looks), .ref qO_seen, .ref qO_text, .int (jI vO_texted), .int (jI vO_faultPlace), .int (jI vO_clauses), .ref qO_rule, .ref qO_fresh, .int (jI vO_lots), .ref qO_stocks, .ref qO_row, .ref qO_dangers, .ref qO_losses, .long (jL vO_upper), .long (jL vO_lower), .ref qO_habitUpper, .ref qO_habitLower, .int (jI vO_at), .long (jL vO_word), .int (jI vO_wordEnd), .ref qO_chosen, .ref qO_lost, .ref qO_zones, .ref qO_way, .ref qO_spent, .ref qO_scaffolds])), aI kI qO_stones 30 fO_stones, aI kI qO_laid 30 fO_laid, aI kI qO_deep 30 fO_deep] rfl ?_
  have hb6 := h6
  refine x_beq (tgt := 31) F dX10_block_9 (by decide) hb6 (fun c9 => ?_) (fun c9 => ?_)
  · -- 9 t
    refine x_sipush F dX10_block_31 (by decide) ?_
    exact hret 0 0 34 _ (-1002) (vO_blocks, fO_stones, fO_laid, fO_deep) (Nat.le_of_ble_eq_true rfl) (Nat.le_of_ble_eq_true rfl) dX10_block_34 (by (try dsimp only); exact (by first | exact Or.inl (⟨by omega, (by first | rfl | omega), (by first | rfl | omega), (by first | rfl | omega), (by first | rfl | omega), (by first | rfl | omega)⟩) | exact Or.inr (Or.inl (⟨by omega, (by first | rfl | omega), (by first | rfl | omega), (by first | rfl | omega), (by first | rfl | omega), (by first | rfl | omega)⟩)) | exact Or.inr (Or.inr (⟨by omega, (by first | rfl | omega), (by first | rfl | omega), (by first | rfl | omega), (by first | rfl | omega), (by first | rfl | omega)⟩))))
  · -- 9 f
    refine x_iload_n F dX10_block_12 rfl 2 rfl ?_
    refine x_callSi (As := [.int (jI year)]) (st := []) F (c_X10_isYear D kI kJ l year (by omega)) (va_cwS 1 F.2.2.2.2.1 gX10_block_X10_isYear rfl rfl rfl (by decide +kernel) ⟨Nat.le_of_ble_eq_true rfl, Nat.le_of_ble_eq_true rfl⟩) [] [0, 1, 2, 3] [0, 1, 2, 3] rfl rfl (by decide) (by decide) (by decide) (fun _ => rfl) (by decide) rfl (Nat.le_of_ble_eq_true rfl) dX10_block_13 ⟨Nat.le_of_ble_eq_true rfl, Nat.le_of_ble_eq_true rfl⟩ (fun z13 u13 h13 => ?_)
    try dsimp only at h13
    refine x_ws [(qO, .inr (10, [.int (jI vO_blocks), .ref qO_stones, .ref qO_laid, .ref qO_deep, .int (jI vO_placings), .ref qO_placed, .int (jI vO_mortars), .ref qO_put, .ref qO_rates, .int (jI vO_limit), .int (jI vO_looks), .ref qO_seen, .ref qO_text, .int (jI vO_texted), .int (jI vO_faultPlace), .int (jI vO_clauses), .ref qO_rule, .ref qO_fresh, .int (jI vO_lots), .ref qO_stocks, .ref qO_row, .ref qO_dangers, .ref qO_losses, .long (jL vO_upper), .long (jL vO_lower), .ref qO_habitUpper, .ref qO_habitLower, .int (jI vO_at), .long (jL vO_word), .int (jI vO_wordEnd), .ref qO_chosen, .ref qO_lost, .ref qO_zones, .ref qO_way, .ref qO_spent, .ref qO_scaffolds])), aI kI qO_stones 30 fO_stones, aI kI qO_laid 30 fO_laid, aI kI qO_deep 30 fO_deep] rfl ?_
    have hb13 := h13
    refine x_beq (tgt := 31) F dX10_block_16 (by decide) hb13 (fun c16 => ?_) (fun c16 => ?_)
    · -- 16 t
      refine x_sipush F dX10_block_31 (by decide) ?_
      exact hret 0 0 34 _ (-1002) (vO_blocks, fO_stones, fO_laid, fO_deep) (Nat.le_of_ble_eq_true rfl) (Nat.le_of_ble_eq_true rfl) dX10_block_34 (by (try dsimp only); exact (by first | exact Or.inl (⟨by omega, (by first | rfl | omega), (by first | rfl | omega), (by first | rfl | omega), (by first | rfl | omega), (by first | rfl | omega)⟩) | exact Or.inr (Or.inl (⟨by omega, (by first | rfl | omega), (by first | rfl | omega), (by first | rfl | omega), (by first | rfl | omega), (by first | rfl | omega)⟩)) | exact Or.inr (Or.inr (⟨by omega, (by first | rfl | omega), (by first | rfl | omega), (by first | rfl | omega), (by first | rfl | omega), (by first | rfl | omega)⟩))))
    · -- 16 f
      refine x_iload_n F dX10_block_19 rfl 3 rfl ?_
      refine x_i2l F dX10_block_20 (by omega) ?_
      refine x_lconst F 1 dX10_block_21 (by decide) ?_
      refine x_ldc2 F 2000 hw1 (by decide) dX10_block_22 ?_
      refine x_callSi (As := [.long (jL deep), .long (jL 1), .long (jL 2000)]) (st := []) F (c_X10_in D kI kJ l deep 1 2000 (by omega) (by omega) (by omega)) (va_cwS 3 F.2.2.2.2.1 gX10_block_X10_in rfl rfl rfl (by decide +kernel) ⟨Nat.le_of_ble_eq_true rfl, Nat.le_of_ble_eq_true rfl⟩) [] [0, 1, 2, 3] [0, 1, 2, 3] rfl rfl (by decide) (by decide) (by decide) (fun _ => rfl) (by decide) rfl (Nat.le_of_ble_eq_true rfl) dX10_block_25 ⟨Nat.le_of_ble_eq_true rfl, Nat.le_of_ble_eq_true rfl⟩ (fun z25 u25 h25 => ?_)
      try dsimp only at h25
      refine x_ws [(qO, .inr (10, [.int (jI vO_blocks), .ref qO_stones, .ref qO_laid, .ref qO_deep, .int (jI vO_placings), .ref qO_placed, .int (jI vO_mortars), .ref qO_put, .ref qO_rates, .int (jI vO_limit), .int (jI vO_looks), .ref qO_seen, .ref qO_text, .int (jI vO_texted), .int (jI vO_faultPlace), .int (jI vO_clauses), .ref qO_rule, .ref qO_fresh, .int (jI vO_lots), .ref qO_stocks, .ref qO_row, .ref qO_dangers, .ref qO_losses, .long (jL vO_upper), .long (jL vO_lower), .ref qO_habitUpper, .ref qO_habitLower, .int (jI vO_at), .long (jL vO_word), .int (jI vO_wordEnd), .ref qO_chosen, .ref qO_lost, .ref qO_zones, .ref qO_way, .ref qO_spent, .ref qO_scaffolds])), aI kI qO_stones 30 fO_stones, aI kI qO_laid 30 fO_laid, aI kI qO_deep 30 fO_deep] rfl ?_
      have hb25 := h25
      refine x_bne (tgt := 35) F dX10_block_28 (by decide) hb25 (fun c28 => ?_) (fun c28 => ?_)
      · -- 28 t
        refine x_aload_n F dX10_block_35 rfl 0 rfl ?_
        refine x_get (ci := 10) F hin10 0 rfl rfl 0 (by decide) hw2 rfl dX10_block_36 ?_
        refine x_bipush F dX10_block_39 (by decide) ?_
        refine x_icmp_ne (tgt := 48) F dX10_block_41 (by decide) (by omega) (fun c41 => ?_) (fun c41 => ?_)
        · -- 41 t
          refine x_aload_n F dX10_block_48 rfl 0 rfl ?_
          refine x_get (ci := 10) F hin10 0 rfl rfl 1 (by decide) hw3 rfl dX10_block_49 ?_
          refine x_aload_n F dX10_block_52 rfl 0 rfl ?_
          refine x_get (ci := 10) F hin10 0 rfl rfl 0 (by decide) hw2 rfl dX10_block_53 ?_
          refine x_iload_n F dX10_block_56 rfl 1 rfl ?_
          refine x_iast F 1 rfl (by decide) (by omega) dX10_block_57 [(qO, .inr (10, [.int (jI vO_blocks), .ref qO_stones, .ref qO_laid, .ref qO_deep, .int (jI vO_placings), .ref qO_placed, .int (jI vO_mortars), .ref qO_put, .ref qO_rates, .int (jI vO_limit), .int (jI vO_looks), .ref qO_seen, .ref qO_text, .int (jI vO_texted), .int (jI vO_faultPlace), .int (jI vO_clauses), .ref qO_rule, .ref qO_fresh, .int (jI vO_lots), .ref qO_stocks, .ref qO_row, .ref qO_dangers, .ref qO_losses, .long (jL vO_upper), .long (jL vO_lower), .ref qO_habitUpper, .ref qO_habitLower, .int (jI vO_at), .long (jL vO_word), .int (jI vO_wordEnd), .ref qO_chosen, .ref qO_lost, .ref qO_zones, .ref qO_way, .ref qO_spent, .ref qO_scaffolds])), aI kI qO_stones 30 (iU fO_stones vO_blocks stone), aI kI qO_laid 30 fO_laid, aI kI qO_deep 30 fO_deep] rfl ?_
          refine x_aload_n F dX10_block_58 rfl 0 rfl ?_
          refine x_get (ci := 10) F hin10 0 rfl rfl 2 (by decide) hw4 rfl dX10_block_59 ?_
          refine x_aload_n F dX10_block_62 rfl 0 rfl ?_
          refine x_get (ci := 10) F hin10 0 rfl rfl 0 (by decide) hw2 rfl dX10_block_63 ?_
          refine x_iload_n F dX10_block_66 rfl 2 rfl ?_
          refine x_iast F 2 rfl (by decide) (by omega) dX10_block_67 [(qO, .inr (10, [.int (jI vO_blocks), .ref qO_stones, .ref qO_laid, .ref qO_deep, .int (jI vO_placings), .ref qO_placed, .int (jI vO_mortars), .ref qO_put, .ref qO_rates, .int (jI vO_limit), .int (jI vO_looks), .ref qO_seen, .ref qO_text, .int (jI vO_texted), .int (jI vO_faultPlace), .int (jI vO_clauses), .ref qO_rule, .ref qO_fresh, .int (jI vO_lots), .ref qO_stocks, .ref qO_row, .ref qO_dangers, .ref qO_losses, .long (jL vO_upper), .long (jL vO_lower), .ref qO_habitUpper, .ref qO_habitLower, .int (jI vO_at), .long (jL vO_word), .int (jI vO_wordEnd), .ref qO_chosen, .ref qO_lost, .ref qO_zones, .ref qO_way, .ref qO_spent, .ref qO_scaffolds])), aI kI qO_stones 30 (iU fO_stones vO_blocks stone), aI kI qO_laid 30 (iU fO_laid vO_blocks year), aI kI qO_deep 30 fO_deep] rfl ?_
          refine x_aload_n F dX10_block_68 rfl 0 rfl ?_
          refine x_get (ci := 10) F hin10 0 rfl rfl 3 (by decide) hw5 rfl dX10_block_69 ?_
          refine x_aload_n F dX10_block_72 rfl 0 rfl ?_
          refine x_get (ci := 10) F hin10 0 rfl rfl 0 (by decide) hw2 rfl dX10_block_73 ?_
          refine x_iload_n F dX10_block_76 rfl 3 rfl ?_
          refine x_iast F 3 rfl (by decide) (by omega) dX10_block_77 [(qO, .inr (10, [.int (jI vO_blocks), .ref qO_stones, .ref qO_laid, .ref qO_deep, .int (jI vO_placings), .ref qO_placed, .int (jI vO_mortars), .ref qO_put, .ref qO_rates, .int (jI vO_limit), .int (jI vO_looks), .ref qO_seen, .ref qO_text, .int (jI vO_texted), .int (jI vO_faultPlace), .int (jI vO_clauses), .ref qO_rule, .ref qO_fresh, .int (jI vO_lots), .ref qO_stocks, .ref qO_row, .ref qO_dangers, .ref qO_losses, .long (jL vO_upper), .long (jL vO_lower), .ref qO_habitUpper, .ref qO_habitLower, .int (jI vO_at), .long (jL vO_word), .int (jI vO_wordEnd), .ref qO_chosen, .ref qO_lost, .ref qO_zones, .ref qO_way, .ref qO_spent, .ref qO_scaffolds])), aI kI qO_stones 30 (iU fO_stones vO_blocks stone), aI kI qO_laid 30 (iU fO_laid vO_blocks year), aI kI qO_deep 30 (iU fO_deep vO_blocks deep)] rfl ?_
          refine x_aload_n F dX10_block_78 rfl 0 rfl ?_
          refine x_dup F dX10_block_79 rfl ?_
          refine x_get (ci := 10) F hin10 0 rfl rfl 0 (by decide) hw2 rfl dX10_block_80 ?_
          refine x_iconst F dX10_block_83 ?_
          refine x_iadd F dX10_block_84 ?_
          refine x_put (ci := 10) F hin10 tyX10_ok nmX10 0 rfl rfl 0 (by decide) hw2 rfl rfl rfl (show 0 + 1 ≤ _ from Nat.le_of_ble_eq_true rfl) dX10_block_85 [(qO, .inr (10, [.int (jI (vO_blocks + 1)), .ref qO_stones, .ref qO_laid, .ref qO_deep, .int (jI vO_placings), .ref qO_placed, .int (jI vO_mortars), .ref qO_put, .ref qO_rates, .int (jI vO_limit), .int (jI vO_looks), .ref qO_seen, .ref qO_text, .int (jI vO_texted), .int (jI vO_faultPlace), .int (jI vO_clauses), .ref qO_rule, .ref qO_fresh, .int (jI vO_lots), .ref qO_stocks, .ref qO_row, .ref qO_dangers, .ref qO_losses, .long (jL vO_upper), .long (jL vO_lower), .ref qO_habitUpper, .ref qO_habitLower, .int (jI vO_at), .long (jL vO_word), .int (jI vO_wordEnd), .ref qO_chosen, .ref qO_lost, .ref qO_zones, .ref qO_way, .ref qO_spent, .ref qO_scaffolds])), aI kI qO_stones 30 (iU fO_stones vO_blocks stone), aI kI qO_laid 30 (iU fO_laid vO_blocks year), aI kI qO_deep 30 (iU fO_deep vO_blocks deep)] rfl ?_
          refine x_aload_n F dX10_block_88 rfl 0 rfl ?_
          refine x_get (ci := 10) F hin10 0 rfl rfl 0 (by decide) hw2 rfl dX10_block_89 ?_
          refine x_iconst F dX10_block_92 ?_
          refine x_isub F dX10_block_93 ?_
          exact hret 0 0 94 _ ((vO_blocks + 1) - 1) ((vO_blocks + 1), iU fO_stones vO_blocks stone, iU fO_laid vO_blocks year, iU fO_deep vO_blocks deep) (Nat.le_of_ble_eq_true rfl) (Nat.le_of_ble_eq_true rfl) dX10_block_94 (by (try dsimp only); exact (by first | exact Or.inl (⟨by omega, (by first | rfl | omega), (by first | rfl | omega), (by first | rfl | omega), (by first | rfl | omega), (by first | rfl | omega)⟩) | exact Or.inr (Or.inl (⟨by omega, (by first | rfl | omega), (by first | rfl | omega), (by first | rfl | omega), (by first | rfl | omega), (by first | rfl | omega)⟩)) | exact Or.inr (Or.inr (⟨by omega, (by first | rfl | omega), (by first | rfl | omega), (by first | rfl | omega), (by first | rfl | omega), (by first | rfl | omega)⟩))))
        · -- 41 f
          refine x_sipush F dX10_block_44 (by decide) ?_
          exact hret 0 0 47 _ (-1004) (vO_blocks, fO_stones, fO_laid, fO_deep) (Nat.le_of_ble_eq_true rfl) (Nat.le_of_ble_eq_true rfl) dX10_block_47 (by (try dsimp only); exact (by first | exact Or.inl (⟨by omega, (by first | rfl | omega), (by first | rfl | omega), (by first | rfl | omega), (by first | rfl | omega), (by first | rfl | omega)⟩) | exact Or.inr (Or.inl (⟨by omega, (by first | rfl | omega), (by first | rfl | omega), (by first | rfl | omega), (by first | rfl | omega), (by first | rfl | omega)⟩)) | exact Or.inr (Or.inr (⟨by omega, (by first | rfl | omega), (by first | rfl | omega), (by first | rfl | omega), (by first | rfl | omega), (by first | rfl | omega)⟩))))
      · -- 28 f
        refine x_sipush F dX10_block_31 (by decide) ?_
        exact hret 0 0 34 _ (-1002) (vO_blocks, fO_stones, fO_laid, fO_deep) (Nat.le_of_ble_eq_true rfl) (Nat.le_of_ble_eq_true rfl) dX10_block_34 (by (try dsimp only); exact (by first | exact Or.inl (⟨by omega, (by first | rfl | omega), (by first | rfl | omega), (by first | rfl | omega), (by first | rfl | omega), (by first | rfl | omega)⟩) | exact Or.inr (Or.inl (⟨by omega, (by first | rfl | omega), (by first | rfl | omega), (by first | rfl | omega), (by first | rfl | omega), (by first | rfl | omega)⟩)) | exact Or.inr (Or.inr (⟨by omega, (by first | rfl | omega), (by first | rfl | omega), (by first | rfl | omega), (by first | rfl | omega), (by first | rfl | omega)⟩))))
set_option maxHeartbeats 4000000 in
set_option maxRecDepth 100000 in
theorem c_X10_place (D : va_G) (kI kJ : Nat) (l : Launch) (qO : Nat) (b : Int) (year : Int) (side : Int) (wet : Int) (zone : Int) (vO_blocks : Int) (qO_stones : Nat) (qO_laid : Nat) (qO_deep : Nat) (vO_placings : Int) (qO_placed : Nat) (vO_mortars : Int) (qO_put : Nat) (qO_rates : Nat) (vO_limit : Int) (vO_looks : Int) (qO_seen : Nat) (qO_text : Nat) (vO_texted : Int) (vO_faultPlace : Int) (vO_clauses : Int) (qO_rule : Nat) (qO_fresh : Nat) (vO_lots : Int) (qO_stocks : Nat) (qO_row : Nat) (qO_dangers : Nat) (qO_losses : Nat) (vO_upper : Int) (vO_lower : Int) (qO_habitUpper : Nat) (qO_habitLower : Nat) (vO_at : Int) (vO_word : Int) (vO_wordEnd : Int) (qO_chosen : Nat) (qO_lost : Nat) (qO_zones : Nat) (qO_way : Nat) (qO_spent : Nat) (qO_scaffolds : Nat) (fO_placed : (Int → Int)) (hr_b : -2147483648 ≤ b ∧ b < 2147483648) (hr_year : -2147483648 ≤ year ∧ year < 2147483648) (hr_side : -2147483648 ≤ side ∧ side < 2147483648) (hr_wet : -2147483648 ≤ wet ∧ wet < 2147483648) (hr_zone : -2147483648 ≤ zone ∧ zone < 2147483648) (hOb : 0 ≤ vO_blocks ∧ vO_blocks ≤ 30) (hOp : 0 ≤ vO_placings ∧ vO_placings ≤ 60) : xMi D kI kJ l yX10_place wsX10_place 3 78 0 0 [.ref qO, .int (jI b), .int (jI year), .int (jI side), .int (jI wet), .int (jI zone)] [(qO, .inr (10, [.int (jI vO_blocks), .ref qO_stones, .ref qO_laid, .ref qO_deep, .int (jI vO_placings), .ref qO_placed, .int (jI vO_mortars), .ref qO_put, .ref qO_rates, .int (jI vO_limit), .int (jI vO_looks), .ref qO_seen, .ref qO_text, .int (jI vO_texted), .int (jI vO_faultPlace), .int (jI vO_clauses), .ref qO_rule, .ref qO_fresh, .int (jI vO_lots), .ref qO_stocks, .ref qO_row, .ref qO_dangers, .ref qO_losses, .long (jL vO_upper), .long (jL vO_lower), .ref qO_habitUpper, .ref qO_habitLower, .int (jI vO_at), .long (jL vO_word), .int (jI vO_wordEnd), .ref qO_chosen, .ref qO_lost, .ref qO_zones, .ref qO_way, .ref qO_spent, .ref qO_scaffolds])), aI kI qO_placed 300 fO_placed] (fun (z : Int) (u : Int × (Int → Int)) => (((¬ (0 ≤ b ∧ b < vO_blocks)) ∧ z = -1001 ∧ u.1 = vO_placings ∧ u.2 = fO_placed) ∨ (((0 ≤ b ∧ b < vO_blocks) ∧ ¬ ((0 ≤ year ∧ year ≤ 400) ∧ (0 ≤ side ∧ side ≤ 3) ∧ (0 ≤ wet ∧ wet ≤ 3) ∧ 0 ≤ zone ∧ zone ≤ 7)) ∧ z = -1002 ∧ u.1 = vO_placings ∧ u.2 = fO_placed) ∨ (((0 ≤ b ∧ b < vO_blocks) ∧ ((0 ≤ year ∧ year ≤ 400) ∧ (0 ≤ side ∧ side ≤ 3) ∧ (0 ≤ wet ∧ wet ≤ 3) ∧ 0 ≤ zone ∧ zone ≤ 7) ∧ vO_placings = 60) ∧ z = -1004 ∧ u.1 = vO_placings ∧ u.2 = fO_placed) ∨ (((0 ≤ b ∧ b < vO_blocks) ∧ ((0 ≤ year ∧ year ≤ 400) ∧ (0 ≤ side ∧ side ≤ 3) ∧ (0 ≤ wet ∧ wet ≤ 3) ∧ 0 ≤ zone ∧ zone ≤ 7) ∧ vO_placings < 60) ∧ z = vO_placings + 1 ∧ u.1 = vO_placings + 1 ∧ u.2 = iU (iU (iU (iU (iU fO_placed (5 * vO_placings) b) (5 * vO_placings + 1) year) (5 * vO_placings + 2) side) (5 * vO_placings + 3) wet) (5 * vO_placings + 4) zone))) (fun (u : Int × (Int → Int)) => [(qO, .inr (10, [.int (jI vO_blocks), .ref qO_stones, .ref qO_laid, .ref qO_deep, .int (jI u.1), .ref qO_placed, .int (jI vO_mortars), .ref qO_put, .ref qO_rates, .int (jI vO_limit), .int (jI vO_looks), .ref qO_seen, .ref qO_text, .int (jI vO_texted), .int (jI vO_faultPlace), .int (jI vO_clauses), .ref qO_rule, .ref qO_fresh, .int (jI vO_lots), .ref qO_stocks, .ref qO_row, .ref qO_dangers, .ref qO_losses, .long (jL vO_upper), .long (jL vO_lower), .ref qO_habitUpper, .ref qO_habitLower, .int (jI vO_at), .long (jL vO_word), .int (jI vO_wordEnd), .ref qO_chosen, .ref qO_lost, .ref qO_zones, .ref qO_way, .ref qO_spent, .ref qO_scaffolds])), aI kI qO_placed 300 u.2]) := by
  refine xMi_of (cc := cX10_place) (maxL := 7) (rt := .int) (by decide) rfl (Nat.le_of_ble_eq_true rfl) (fun _ _ _ => rfl) ?_
  intro p e s m args below meth c A Q F hin2 hret
  have hin10 : ∀ w ∈ wsX100, w ∈ wsX10_place := by decide +kernel
  have hw0 : Cond.constantLong RX10 93 3 ∈ wsX10_place := by decide +kernel
  have hw1 : Cond.constantLong RX10 104 7 ∈ wsX10_place := by decide +kernel
  have hw2 : Cond.fieldLink RX10 106 (TX10 4).1 (TX10 4).2.1 (TX10 4).2.2.1 ∈ wsX10_place := by decide +kernel
  have hw3 : Cond.fieldLink RX10 19 (TX10 5).1 (TX10 5).2.1 (TX10 5).2.2.1 ∈ wsX10_place := by decide +kernel
  refine x_lveq (lv' := [(0, .ref qO), (1, .int (jI b)), (2, .int (jI year)), (3, .int (jI side)), (4, .int (jI wet)), (5, .int (jI zone))]) rfl ?_
  refine x_aload_n F dX10_place_0 rfl 0 rfl ?_
  refine x_iload_n F dX10_place_1 rfl 1 rfl ?_
  refine x_callVi (ci := 10) (q0 := 0) (As := [.int (jI b)]) (st := []) F (c_X10_isBlock D kI kJ l qO b vO_blocks qO_stones qO_laid qO_deep vO_placings qO_placed vO_mortars qO_put qO_rates vO_limit vO_looks qO_seen qO_text vO_texted vO_faultPlace vO_clauses qO_rule qO_fresh vO_lots qO_stocks qO_row qO_dangers qO_losses vO_upper vO_lower qO_habitUpper qO_habitLower vO_at vO_word vO_wordEnd qO_chosen qO_lost qO_zones qO_way qO_spent qO_scaffolds hr_b hOb) (cwV 1 F.2.2.2.2.1 gX10_place_X10_isBlock rfl rfl rfl (by decide +kernel) ⟨Nat.le_of_ble_eq_true rfl, Nat.le_of_ble_eq_true rfl⟩) rfl rfl [0] [1] [1, 0] rfl rfl (by decide) (by decide) (by decide) (fun _ => rfl) (by decide) rfl (Nat.le_of_ble_eq_true rfl) dX10_place_2 ⟨Nat.le_of_ble_eq_true rfl, Nat.le_of_ble_eq_true rfl⟩ (fun z2 u2 h2 => ?_)
  try dsimp only at h2
  refine x_ws [(qO, .inr (10, [.int (jI vO_blocks), .ref qO_stones, .ref qO_laid, .ref qO_deep, .int (jI vO_placings), .ref qO_placed, .int (jI vO_mortars), .ref qO_put, .ref qO_rates, .int (jI vO_limit), .int (jI vO_looks), .ref qO_seen, .ref qO_text, .int (jI vO_texted), .int (jI vO_faultPlace), .int (jI vO_clauses), .ref qO_rule, .ref qO_fresh, .int (jI vO_lots), .ref qO_stocks, .ref qO_row, .ref qO_dangers, .ref qO_losses, .long (jL vO_upper), .long (jL vO_lower), .ref qO_habitUpper, .ref qO_habitLower, .int (jI vO_at), .long (jL vO_word), .int (jI vO_wordEnd), .ref qO_chosen, .ref qO_lost, .ref qO_zones, .ref qO_way, .ref qO_spent, .ref qO_scaffolds])), aI kI qO_placed 300 fO_placed] rfl ?_
  have hb2 := h2
  refine x_bne (tgt := 12) F dX10_place_5 (by decide) hb2 (fun c5 => ?_) (fun c5 => ?_)
  · -- 5 t
    refine x_iload_n F dX10_place_12 rfl 2 rfl ?_
    refine x_callSi (As := [.int (jI year)]) (st := []) F (c_X10_isYear D kI kJ l year (by omega)) (va_cwS 1 F.2.2.2.2.1 gX10_place_X10_isYear rfl rfl rfl (by decide +kernel) ⟨Nat.le_of_ble_eq_true rfl, Nat.le_of_ble_eq_true rfl⟩) [] [0, 1] [0, 1] rfl rfl (by decide) (by decide) (by decide) (fun _ => rfl) (by decide) rfl (Nat.le_of_ble_eq_true rfl) dX10_place_13 ⟨Nat.le_of_ble_eq_true rfl, Nat.le_of_ble_eq_true rfl⟩ (fun z13 u13 h13 => ?_)
    try dsimp only at h13
    refine x_ws [(qO, .inr (10, [.int (jI vO_blocks), .ref qO_stones, .ref qO_laid, .ref qO_deep, .int (jI vO_placings), .ref qO_placed, .int (jI vO_mortars), .ref qO_put, .ref qO_rates, .int (jI vO_limit), .int (jI vO_looks), .ref qO_seen, .ref qO_text, .int (jI vO_texted), .int (jI vO_faultPlace), .int (jI vO_clauses), .ref qO_rule, .ref qO_fresh, .int (jI vO_lots), .ref qO_stocks, .ref qO_row, .ref qO_dangers, .ref qO_losses, .long (jL vO_upper), .long (jL vO_lower), .ref qO_habitUpper, .ref qO_habitLower, .int (jI vO_at), .long (jL vO_word), .int (jI vO_wordEnd), .ref qO_chosen, .ref qO_lost, .ref qO_zones, .ref qO_way, .ref qO_spent, .ref qO_scaffolds])), aI kI qO_placed 300 fO_placed] rfl ?_
    have hb13 := h13
    refine x_beq (tgt := 57) F dX10_place_16 (by decide) hb13 (fun c16 => ?_) (fun c16 => ?_)
    · -- 16 t
      refine x_sipush F dX10_place_57 (by decide) ?_
      exact hret 0 0 60 _ (-1002) (vO_placings, fO_placed) (Nat.le_of_ble_eq_true rfl) (Nat.le_of_ble_eq_true rfl) dX10_place_60 (by (try dsimp only); exact (by first | exact Or.inl (⟨by omega, (by first | rfl | omega), (by first | rfl | omega), (by first | rfl | omega)⟩) | exact Or.inr (Or.inl (⟨by omega, (by first | rfl | omega), (by first | rfl | omega), (by first | rfl | omega)⟩)) | exact Or.inr (Or.inr (Or.inl (⟨by omega, (by first | rfl | omega), (by first | rfl | omega), (by first | rfl | omega)⟩))) | exact Or.inr (Or.inr (Or.inr (⟨by omega, (by first | rfl | omega), (by first | rfl | omega), (by first | rfl | omega)⟩)))))
    · -- 16 f
      refine x_iload_n F dX10_place_19 rfl 3 rfl ?_
      refine x_i2l F dX10_place_20 (by omega) ?_
      refine x_lconst F 0 dX10_place_21 (by decide) ?_
      refine x_ldc2 F 3 hw0 (by decide) dX10_place_22 ?_
      refine x_callSi (As := [.long (jL side), .long (jL 0), .long (jL 3)]) (st := []) F (c_X10_in D kI kJ l side 0 3 (by omega) (by omega) (by omega)) (va_cwS 3 F.2.2.2.2.1 gX10_place_X10_in rfl rfl rfl (by decide +kernel) ⟨Nat.le_of_ble_eq_true rfl, Nat.le_of_ble_eq_true rfl⟩) [] [0, 1] [0, 1] rfl rfl (by decide) (by decide) (by decide) (fun _ => rfl) (by decide) rfl (Nat.le_of_ble_eq_true rfl) dX10_place_25 ⟨Nat.le_of_ble_eq_true rfl, Nat.le_of_ble_eq_true rfl⟩ (fun z25 u25 h25 => ?_)
      try dsimp only at h25
      refine x_ws [(qO, .inr (10, [.int (jI vO_blocks), .ref qO_stones, .ref qO_laid, .ref qO_deep, .int (jI vO_placings), .ref qO_placed, .int (jI vO_mortars), .ref qO_put, .ref qO_rates, .int (jI vO_limit), .int (jI vO_looks), .ref qO_seen, .ref qO_text, .int (jI vO_texted), .int (jI vO_faultPlace), .int (jI vO_clauses), .ref qO_rule, .ref qO_fresh, .int (jI vO_lots), .ref qO_stocks, .ref qO_row, .ref qO_dangers, .ref qO_losses, .long (jL vO_upper), .long (jL vO_lower), .ref qO_habitUpper, .ref qO_habitLower, .int (jI vO_at), .long (jL vO_word), .int (jI vO_wordEnd), .ref qO_chosen, .ref qO_lost, .ref qO_zones, .ref qO_way, .ref qO_spent, .ref qO_scaffolds])), aI kI qO_placed 300 fO_placed] rfl ?_
      have hb25 := h25
      refine x_beq (tgt := 57) F dX10_place_28 (by decide) hb25 (fun c28 => ?_) (fun c28 => ?_)
      · -- 28 t
        refine x_sipush F dX10_place_57 (by decide) ?_
        exact hret 0 0 60 _ (-1002) (vO_placings, fO_placed) (Nat.le_of_ble_eq_true rfl) (Nat.le_of_ble_eq_true rfl) dX10_place_60 (by (try dsimp only); exact (by first | exact Or.inl (⟨by omega, (by first | rfl | omega), (by first | rfl | omega), (by first | rfl | omega)⟩) | exact Or.inr (Or.inl (⟨by omega, (by first | rfl | omega), (by first | rfl | omega), (by first | rfl | omega)⟩)) | exact Or.inr (Or.inr (Or.inl (⟨by omega, (by first | rfl | omega), (by first | rfl | omega), (by first | rfl | omega)⟩))) | exact Or.inr (Or.inr (Or.inr (⟨by omega, (by first | rfl | omega), (by first | rfl | omega), (by first | rfl | omega)⟩)))))
      · -- 28 f
        refine x_iload F dX10_place_31 4 rfl ?_
        refine x_i2l F dX10_place_33 (by omega) ?_
        refine x_lconst F 0 dX10_place_34 (by decide) ?_
        refine x_ldc2 F 3 hw0 (by decide) dX10_place_35 ?_
        refine x_callSi (As := [.long (jL wet), .long (jL 0), .long (jL 3)]) (st := []) F (c_X10_in D kI kJ l wet 0 3 (by omega) (by omega) (by omega)) (va_cwS 3 F.2.2.2.2.1 gX10_place_X10_in rfl rfl rfl (by decide +kernel) ⟨Nat.le_of_ble_eq_true rfl, Nat.le_of_ble_eq_true rfl⟩) [] [0, 1] [0, 1] rfl rfl (by decide) (by decide) (by decide) (fun _ => rfl) (by decide) rfl (Nat.le_of_ble_eq_true rfl) dX10_place_38 ⟨Nat.le_of_ble_eq_true rfl, Nat.le_of_ble_eq_true rfl⟩ (fun z38 u38 h38 => ?_)
        try dsimp only at h38
        refine x_ws [(qO, .inr (10, [.int (jI vO_blocks), .ref qO_stones, .ref qO_laid, .ref qO_deep, .int (jI vO_placings), .ref qO_placed, .int (jI vO_mortars), .ref qO_put, .ref qO_rates, .int (jI vO_limit), .int (jI vO_looks), .ref qO_seen, .ref qO_text, .int (jI vO_texted), .int (jI vO_faultPlace), .int (jI vO_clauses), .ref qO_rule, .ref qO_fresh, .int (jI vO_lots), .ref qO_stocks, .ref qO_row, .ref qO_dangers, .ref qO_losses, .long (jL vO_upper), .long (jL vO_lower), .ref qO_habitUpper, .ref qO_habitLower, .int (jI vO_at), .long (jL vO_word), .int (jI vO_wordEnd), .ref qO_chosen, .ref qO_lost, .ref qO_zones, .ref qO_way, .ref qO_spent, .ref qO_scaffolds])), aI kI qO_placed 300 fO_placed] rfl ?_
        have hb38 := h38
        refine x_beq (tgt := 57) F dX10_place_41 (by decide) hb38 (fun c41 => ?_) (fun c41 => ?_)
        · -- 41 t
          refine x_sipush F dX10_place_57 (by decide) ?_
          exact hret 0 0 60 _ (-1002) (vO_placings, fO_placed) (Nat.le_of_ble_eq_true rfl) (Nat.le_of_ble_eq_true rfl) dX10_place_60 (by (try dsimp only); exact (by first | exact Or.inl (⟨by omega, (by first | rfl | omega), (by first | rfl | omega), (by first | rfl | omega)⟩) | exact Or.inr (Or.inl (⟨by omega, (by first | rfl | omega), (by first | rfl | omega), (by first | rfl | omega)⟩)) | exact Or.inr (Or.inr (Or.inl (⟨by omega, (by first | rfl | omega), (by first | rfl | omega), (by first | rfl | omega)⟩))) | exact Or.inr (Or.inr (Or.inr (⟨by omega, (by first | rfl | omega), (by first | rfl | omega), (by first | rfl | omega)⟩)))))
        · -- 41 f
          refine x_iload F dX10_place_44 5 rfl ?_
          refine x_i2l F dX10_place_46 (by omega) ?_
          refine x_lconst F 0 dX10_place_47 (by decide) ?_
          refine x_ldc2 F 7 hw1 (by decide) dX10_place_48 ?_
          refine x_callSi (As := [.long (jL zone), .long (jL 0), .long (jL 7)]) (st := []) F (c_X10_in D kI kJ l zone 0 7 (by omega) (by omega) (by omega)) (va_cwS 3 F.2.2.2.2.1 gX10_place_X10_in rfl rfl rfl (by decide +kernel) ⟨Nat.le_of_ble_eq_true rfl, Nat.le_of_ble_eq_true rfl⟩) [] [0, 1] [0, 1] rfl rfl (by decide) (by decide) (by decide) (fun _ => rfl) (by decide) rfl (Nat.le_of_ble_eq_true rfl) dX10_place_51 ⟨Nat.le_of_ble_eq_true rfl, Nat.le_of_ble_eq_true rfl⟩ (fun z51 u51 h51 => ?_)
          try dsimp only at h51
          refine x_ws [(qO, .inr (10, [.int (jI vO_blocks), .ref qO_stones, .ref qO_laid, .ref qO_deep, .int (jI vO_placings), .ref qO_placed, .int (jI vO_mortars), .ref qO_put, .ref qO_rates, .int (jI vO_limit), .int (jI vO_looks), .ref qO_seen, .ref qO_text, .int (jI vO_texted), .int (jI vO_faultPlace), .int (jI vO_clauses), .ref qO_rule, .ref qO_fresh, .int (jI vO_lots), .ref qO_stocks, .ref qO_row, .ref qO_dangers, .ref qO_losses, .long (jL vO_upper), .long (jL vO_lower), .ref qO_habitUpper, .ref qO_habitLower, .int (jI vO_at), .long (jL vO_word), .int (jI vO_wordEnd), .ref qO_chosen, .ref qO_lost, .ref qO_zones, .ref qO_way, .ref qO_spent, .ref qO_scaffolds])), aI kI qO_placed 300 fO_placed] rfl ?_
          have hb51 := h51
          refine x_bne (tgt := 61) F dX10_place_54 (by decide) hb51 (fun c54 => ?_) (fun c54 => ?_)
          · -- 54 t
            refine x_aload_n F dX10_place_61 rfl 0 rfl ?_
            refine x_get (ci := 10) F hin10 0 rfl rfl 4 (by decide) hw2 rfl dX10_place_62 ?_
            refine x_bipush F dX10_place_65 (by decide) ?_
            refine x_icmp_ne (tgt := 74) F dX10_place_67 (by decide) (by omega) (fun c67 => ?_) (fun c67 => ?_)
            · -- 67 t
              refine x_iconst F dX10_place_74 ?_
              refine x_aload_n F dX10_place_75 rfl 0 rfl ?_
              refine x_get (ci := 10) F hin10 0 rfl rfl 4 (by decide) hw2 rfl dX10_place_76 ?_
              refine x_imul F dX10_place_79 ?_
              refine x_istore (lv' := [(0, .ref qO), (1, .int (jI b)), (2, .int (jI year)), (3, .int (jI side)), (4, .int (jI wet)), (5, .int (jI zone)), (6, .int (jI (5 * vO_placings)))]) F dX10_place_80 (by decide) [1, 2, 3, 4, 5, 6, 0] rfl ?_
              refine x_aload_n F dX10_place_82 rfl 0 rfl ?_
              refine x_get (ci := 10) F hin10 0 rfl rfl 5 (by decide) hw3 rfl dX10_place_83 ?_
              refine x_iload F dX10_place_86 6 rfl ?_
              refine x_iload_n F dX10_place_88 rfl 1 rfl ?_
              refine x_iast F 1 rfl (by decide) (by omega) dX10_place_89 [(qO, .inr (10, [.int (jI vO_blocks), .ref qO_stones, .ref qO_laid, .ref qO_deep, .int (jI vO_placings), .ref qO_placed, .int (jI vO_mortars), .ref qO_put, .ref qO_rates, .int (jI vO_limit), .int (jI vO_looks), .ref qO_seen, .ref qO_text, .int (jI vO_texted), .int (jI vO_faultPlace), .int (jI vO_clauses), .ref qO_rule, .ref qO_fresh, .int (jI vO_lots), .ref qO_stocks, .ref qO_row, .ref qO_dangers, .ref qO_losses, .long (jL vO_upper), .long (jL vO_lower), .ref qO_habitUpper, .ref qO_habitLower, .int (jI vO_at), .long (jL vO_word), .int (jI vO_wordEnd), .ref qO_chosen, .ref qO_lost, .ref qO_zones, .ref qO_way, .ref qO_spent, .ref qO_scaffolds])), aI kI qO_placed 300 (iU fO_placed (5 * vO_placings) b)] rfl ?_
              refine x_aload_n F dX10_place_90 rfl 0 rfl ?_
              refine x_get (ci := 10) F hin10 0 rfl rfl 5 (by decide) hw3 rfl dX10_place_91 ?_
              refine x_iload F dX10_place_94 6 rfl ?_
              refine x_iconst F dX10_place_96 ?_
              refine x_iadd F dX10_place_97 ?_
              refine x_iload_n F dX10_place_98 rfl 2 rfl ?_
              refine x_iast F 1 rfl (by decide) (by omega) dX10_place_99 [(qO, .inr (10, [.int (jI vO_blocks), .ref qO_stones, .ref qO_laid, .ref qO_deep, .int (jI vO_placings), .ref qO_placed, .int (jI vO_mortars), .ref qO_put, .ref qO_rates, .int (jI vO_limit), .int (jI vO_looks), .ref qO_seen, .ref qO_text, .int (jI vO_texted), .int (jI vO_faultPlace), .int (jI vO_clauses), .ref qO_rule, .ref qO_fresh, .int (jI vO_lots), .ref qO_stocks, .ref qO_row, .ref qO_dangers, .ref qO_losses, .long (jL vO_upper), .long (jL vO_lower), .ref qO_habitUpper, .ref qO_habitLower, .int (jI vO_at), .long (jL vO_word), .int (jI vO_wordEnd), .ref qO_chosen, .ref qO_lost, .ref qO_zones, .ref qO_way, .ref qO_spent, .ref qO_scaffolds])), aI kI qO_placed 300 (iU (iU fO_placed (5 * vO_placings) b) ((5 * vO_placings) + 1) year)] rfl ?_
              refine x_aload_n F dX10_place_100 rfl 0 rfl ?_
              refine x_get (ci := 10) F hin10 0 rfl rfl 5 (by decide) hw3 rfl dX10_place_101 ?_
              refine x_iload F dX10_place_104 6 rfl ?_
              refine x_iconst F dX10_place_106 ?_
              refine x_iadd F dX10_place_107 ?_
              refine x_iload_n F dX10_place_108 rfl 3 rfl ?_
              refine x_iast F 1 rfl (by decide) (by omega) dX10_place_109 [(qO, .inr (10, [.int (jI vO_blocks), .ref qO_stones, .ref qO_laid, .ref qO_deep, .int (jI vO_placings), .ref qO_placed, .int (jI vO_mortars), .ref qO_put, .ref qO_rates, .int (jI vO_limit), .int (jI vO_looks), .ref qO_seen, .ref qO_text, .int (jI vO_texted), .int (jI vO_faultPlace), .int (jI vO_clauses), .ref qO_rule, .ref qO_fresh, .int (jI vO_lots), .ref qO_stocks, .ref qO_row, .ref qO_dangers, .ref qO_losses, .long (jL vO_upper), .long (jL vO_lower), .ref qO_habitUpper, .ref qO_habitLower, .int (jI vO_at), .long (jL vO_word), .int (jI vO_wordEnd), .ref qO_chosen, .ref qO_lost, .ref qO_zones, .ref qO_way, .ref qO_spent, .ref qO_scaffolds])), aI kI qO_placed 300 (iU (iU (iU fO_placed (5 * vO_placings) b) ((5 * vO_placings) + 1) year) ((5 * vO_placings) + 2) side)] rfl ?_
              refine x_aload_n F dX10_place_110 rfl 0 rfl ?_
              refine x_get (ci := 10) F hin10 0 rfl rfl 5 (by decide) hw3 rfl dX10_place_111 ?_
              refine x_iload F dX10_place_114 6 rfl ?_
              refine x_iconst F dX10_place_116 ?_
              refine x_iadd F dX10_place_117 ?_
              refine x_iload F dX10_place_118 4 rfl ?_
              refine x_iast F 1 rfl (by decide) (by omega) dX10_place_120 [(qO, .inr (10, [.int (jI vO_blocks), .ref qO_stones, .ref qO_laid, .ref qO_deep, .int (jI vO_placings), .ref qO_placed, .int (jI vO_mortars), .ref qO_put, .ref qO_rates, .int (jI vO_limit), .int (jI vO_looks), .ref qO_seen, .ref qO_text, .int (jI vO_texted), .int (jI vO_faultPlace), .int (jI vO_clauses), .ref qO_rule, .ref qO_fresh, .int (jI vO_lots), .ref qO_stocks, .ref qO_row, .ref qO_dangers, .ref qO_losses, .long (jL vO_upper), .long (jL vO_lower), .ref qO_habitUpper, .ref qO_habitLower, .int (jI vO_at), .long (jL vO_word), .int (jI vO_wordEnd), .ref qO_chosen, .ref qO_lost, .ref qO_zones, .ref qO_way, .ref qO_spent, .ref qO_scaffolds])), aI kI qO_placed 300 (iU (iU (iU (iU fO_placed (5 * vO_placings) b) ((5 * vO_placings) + 1) year) ((5 * vO_placings) + 2) side) ((5 * vO_placings) + 3) wet)] rfl ?_
              refine x_aload_n F dX10_place_121 rfl 0 rfl ?_
              refine x_get (ci := 10) F hin10 0 rfl rfl 5 (by decide) hw3 rfl dX10_place_122 ?_
              refine x_iload F dX10_place_125 6 rfl ?_
              refine x_iconst F dX10_place_127 ?_
              refine x_iadd F dX10_place_128 ?_
              refine x_iload F dX10_place_129 5 rfl ?_
              refine x_iast F 1 rfl (by decide) (by omega) dX10_place_131 [(qO, .inr (10, [.int (jI vO_blocks), .ref qO_stones, .ref qO_laid, .ref qO_deep, .int (jI vO_placings), .ref qO_placed, .int (jI vO_mortars), .ref qO_put, .ref qO_rates, .int (jI vO_limit), .int (jI vO_looks), .ref qO_seen, .ref qO_text, .int (jI vO_texted), .int (jI vO_faultPlace), .int (jI vO_clauses), .ref qO_rule, .ref qO_fresh, .int (jI vO_lots), .ref qO_stocks, .ref qO_row, .ref qO_dangers, .ref qO_losses, .long (jL vO_upper), .long (jL vO_lower), .ref qO_habitUpper, .ref qO_habitLower, .int (jI vO_at), .long (jL vO_word), .int (jI vO_wordEnd), .ref qO_chosen, .ref qO_lost, .ref qO_zones, .ref qO_way, .ref qO_spent, .ref qO_scaffolds])), aI kI qO_placed 300 (iU (iU (iU (iU (iU fO_placed (5 * vO_placings) b) ((5 * vO_placings) + 1) year) ((5 * vO_placings) + 2) side) ((5 * vO_placings) + 3) wet) ((5 * vO_placings) + 4) zone)] rfl ?_
              refine x_aload_n F dX10_place_132 rfl 0 rfl ?_
              refine x_dup F dX10_place_133 rfl ?_
              refine x_get (ci := 10) F hin10 0 rfl rfl 4 (by decide) hw2 rfl dX10_place_134 ?_
              refine x_iconst F dX10_place_137 ?_
              refine x_iadd F dX10_place_138 ?_
              refine x_put (ci := 10) F hin10 tyX10_ok nmX10 0 rfl rfl 4 (by decide) hw2 rfl rfl rfl (show 4 + 1 ≤ _ from Nat.le_of_ble_eq_true rfl) dX10_place_139 [(qO, .inr (10, [.int (jI vO_blocks), .ref qO_stones, .ref qO_laid, .ref qO_deep, .int (jI (vO_placings + 1)), .ref qO_placed, .int (jI vO_mortars), .ref qO_put, .ref qO_rates, .int (jI vO_limit), .int (jI vO_looks), .ref qO_seen, .ref qO_text, .int (jI vO_texted), .int (jI vO_faultPlace), .int (jI vO_clauses), .ref qO_rule, .ref qO_fresh, .int (jI vO_lots), .ref qO_stocks, .ref qO_row, .ref qO_dangers, .ref qO_losses, .long (jL vO_upper), .long (jL vO_lower), .ref qO_habitUpper, .ref qO_habitLower, .int (jI vO_at), .long (jL vO_word), .int (jI vO_wordEnd), .ref qO_chosen, .ref qO_lost, .ref qO_zones, .ref qO_way, .ref qO_spent, .ref qO_scaffolds])), aI kI qO_placed 300 (iU (iU (iU (iU (iU fO_placed (5 * vO_placings) b) ((5 * vO_placings) + 1) year) ((5 * vO_placings) + 2) side) ((5 * vO_placings) + 3) wet) ((5 * vO_placings) + 4) zone)] rfl ?_
              refine x_aload_n F dX10_place_142 rfl 0 rfl ?_
              refine x_get (ci := 10) F hin10 0 rfl rfl 4 (by decide) hw2 rfl dX10_place_143 ?_
              exact hret 0 0 146 _ (vO_placings + 1) ((vO_placings + 1), iU (iU (iU (iU (iU fO_placed (5 * vO_placings) b) ((5 * vO_placings) + 1) year) ((5 * vO_placings) + 2) side) ((5 * vO_placings) + 3) wet) ((5 * vO_placings) + 4) zone) (Nat.le_of_ble_eq_true rfl) (Nat.le_of_ble_eq_true rfl) dX10_place_146 (by (try dsimp only); exact (by first | exact Or.inl (⟨by omega, (by first | rfl | omega), (by first | rfl | omega), (by first | rfl | omega)⟩) | exact Or.inr (Or.inl (⟨by omega, (by first | rfl | omega), (by first | rfl | omega), (by first | rfl | omega)⟩)) | exact Or.inr (Or.inr (Or.inl (⟨by omega, (by first | rfl | omega), (by first | rfl | omega), (by first | rfl | omega)⟩))) | exact Or.inr (Or.inr (Or.inr (⟨by omega, (by first | rfl | omega), (by first | rfl | omega), (by first | rfl | omega)⟩)))))
            · -- 67 f
              refine x_sipush F dX10_place_70 (by decide) ?_
              exact hret 0 0 73 _ (-1004) (vO_placings, fO_placed) (Nat.le_of_ble_eq_true rfl) (Nat.le_of_ble_eq_true rfl) dX10_place_73 (by (try dsimp only); exact (by first | exact Or.inl (⟨by omega, (by first | rfl | omega), (by first | rfl | omega), (by first | rfl | omega)⟩) | exact Or.inr (Or.inl (⟨by omega, (by first | rfl | omega), (by first | rfl | omega), (by first | rfl | omega)⟩)) | exact Or.inr (Or.inr (Or.inl (⟨by omega, (by first | rfl | omega), (by first | rfl | omega), (by first | rfl | omega)⟩))) | exact Or.inr (Or.inr (Or.inr (⟨by omega, (by first | rfl | omega), (by first | rfl | omega), (by first | rfl | omega)⟩)))))
          · -- 54 f
            refine x_sipush F dX10_place_57 (by decide) ?_
            exact hret 0 0 60 _ (-1002) (vO_placings, fO_placed) (Nat.le_of_ble_eq_true rfl) (Nat.le_of_ble_eq_true rfl) dX10_place_60 (by (try dsimp only); exact (by first | exact Or.inl (⟨by omega, (by first | rfl | omega), (by first | rfl | omega), (by first | rfl | omega)⟩) | exact Or.inr (Or.inl (⟨by omega, (by first | rfl | omega), (by first | rfl | omega), (by first | rfl | omega)⟩)) | exact Or.inr (Or.inr (Or.inl (⟨by omega, (by first | rfl | omega), (by first | rfl | omega), (by first | rfl | omega)⟩))) | exact Or.inr (Or.inr (Or.inr (⟨by omega, (by first | rfl | omega), (by first | rfl | omega), (by first | rfl | omega)⟩)))))
  · -- 5 f
    refine x_sipush F dX10_place_8 (by decide) ?_
    exact hret 0 0 11 _ (-1001) (vO_placings, fO_placed) (Nat.le_of_ble_eq_true rfl) (Nat.le_of_ble_eq_true rfl) dX10_place_11 (by (try dsimp only); exact (by first | exact Or.inl (⟨by omega, (by first | rfl | omega), (by first | rfl | omega), (by first | rfl | omega)⟩) | exact Or.inr (Or.inl (⟨by omega, (by first | rfl | omega), (by first | rfl | omega), (by first | rfl | omega)⟩)) | exact Or.inr (Or.inr (Or.inl (⟨by omega, (by first | rfl | omega), (by first | rfl | omega), (by first | rfl | omega)⟩))) | exact Or.inr (Or.inr (Or.inr (⟨by omega, (by first | rfl | omega), (by first | rfl | omega), (by first | rfl | omega)⟩)))))
set_option maxHeartbeats 4000000 in
set_option maxRecDepth 100000 in
theorem c_X10_mortar (D : va_G) (kI kJ : Nat) (l : Launch) (qO : Nat) (b : Int) (year : Int) (wrong : Int) (vO_blocks : Int) (qO_stones : Nat) (qO_laid : Nat) (qO_deep : Nat) (vO_placings : Int) (qO_placed : Nat) (vO_mortars : Int) (qO_put : Nat) (qO_rates : Nat) (vO_limit : Int) (vO_looks : Int) (qO_seen : Nat) (qO_text : Nat) (vO_texted : Int) (vO_faultPlace : Int) (vO_clauses : Int) (qO_rule : Nat) (qO_fresh : Nat) (vO_lots : Int) (qO_stocks : Nat) (qO_row : Nat) (qO_dangers : Nat) (qO_losses : Nat) (vO_upper : Int) (vO_lower : Int) (qO_habitUpper : Nat) (qO_habitLower : Nat) (vO_at : Int) (vO_word : Int) (vO_wordEnd : Int) (qO_chosen : Nat) (qO_lost : Nat) (qO_zones : Nat) (qO_way : Nat) (qO_spent : Nat) (qO_scaffolds : Nat) (fO_put : (Int → Int)) (hr_b : -2147483648 ≤ b ∧ b < 2147483648) (hr_year : -2147483648 ≤ year ∧ year < 2147483648) (hr_wrong : -2147483648 ≤ wrong ∧ wrong < 2147483648) (hOb : 0 ≤ vO_blocks ∧ vO_blocks ≤ 30) (hOm : 0 ≤ vO_mortars ∧ vO_mortars ≤ 60) : xMi D kI kJ l yX10_mortar wsX10_mortar 3 78 0 0 [.ref qO, .int (jI b), .int (jI year), .int (jI wrong)] [(qO, .inr (10, [.int (jI vO_blocks), .ref qO_stones, .ref qO_laid, .ref qO_deep, .int (jI vO_placings), .ref qO_placed, .int (jI vO_mortars), .ref qO_put, .ref qO_rates, .int (jI vO_limit), .int (jI vO_looks), .ref qO_seen, .ref qO_text, .int (jI vO_texted), .int (jI vO_faultPlace), .int (jI vO_clauses), .ref qO_rule, .ref qO_fresh, .int (jI vO_lots), .ref qO_stocks, .ref qO_row, .ref qO_dangers, .ref qO_losses, .long (jL vO_upper), .long (jL vO_lower), .ref qO_habitUpper, .ref qO_habitLower, .int (jI vO_at), .long (jL vO_word), .int (jI vO_wordEnd), .ref qO_chosen, .ref qO_lost, .ref qO_zones, .ref qO_way, .ref qO_spent, .ref qO_scaffolds])), aI kI qO_put 180 fO_put] (fun (z : Int) (u : Int × (Int → Int)) => (((¬ (0 ≤ b ∧ b < vO_blocks)) ∧ z = -1001 ∧ u.1 = vO_mortars ∧ u.2 = fO_put) ∨ (((0 ≤ b ∧ b < vO_blocks) ∧ ¬ (0 ≤ year ∧ year ≤ 400)) ∧ z = -1002 ∧ u.1 = vO_mortars ∧ u.2 = fO_put) ∨ (((0 ≤ b ∧ b < vO_blocks) ∧ (0 ≤ year ∧ year ≤ 400) ∧ vO_mortars = 60) ∧ z = -1004 ∧ u.1 = vO_mortars ∧ u.2 = fO_put) ∨ (((0 ≤ b ∧ b < vO_blocks) ∧ (0 ≤ year ∧ year ≤ 400) ∧ vO_mortars < 60 ∧ ¬ wrong = 0) ∧ z = vO_mortars + 1 ∧ u.1 = vO_mortars + 1 ∧ u.2 = iU (iU (iU fO_put (3 * vO_mortars) b) (3 * vO_mortars + 1) year) (3 * vO_mortars + 2) 1) ∨ (((0 ≤ b ∧ b < vO_blocks) ∧ (0 ≤ year ∧ year ≤ 400) ∧ vO_mortars < 60 ∧ wrong = 0) ∧ z = vO_mortars + 1 ∧ u.1 = vO_mortars + 1 ∧ u.2 = iU (iU (iU fO_put (3 * vO_mortars) b) (3 * vO_mortars + 1) year) (3 * vO_mortars + 2) 0))) (fun (u : Int × (Int → Int)) => [(qO, .inr (10, [.int (jI vO_blocks), .ref qO_stones, .ref qO_laid, .ref qO_deep, .int (jI vO_placings), .ref qO_placed, .int (jI u.1), .ref qO_put, .ref qO_rates, .int (jI vO_limit), .int (jI vO_looks), .ref qO_seen, .ref qO_text, .int (jI vO_texted), .int (jI vO_faultPlace), .int (jI vO_clauses), .ref qO_rule, .ref qO_fresh, .int (jI vO_lots), .ref qO_stocks, .ref qO_row, .ref qO_dangers, .ref qO_losses, .long (jL vO_upper), .long (jL vO_lower), .ref qO_habitUpper, .ref qO_habitLower, .int (jI vO_at), .long (jL vO_word), .int (jI vO_wordEnd), .ref qO_chosen, .ref qO_lost, .ref qO_zones, .ref qO_way, .ref qO_spent, .ref qO_scaffolds])), aI kI qO_put 180 u.2]) := by
  refine xMi_of (cc := cX10_mortar) (maxL := 4) (rt := .int) (by decide) rfl (Nat.le_of_ble_eq_true rfl) (fun _ _ _ => rfl) ?_
  intro p e s m args below meth c A Q F hin2 hret
  have hin10 : ∀ w ∈ wsX100, w ∈ wsX10_mortar := by decide +kernel
  have hw0 : Cond.fieldLink RX10 109 (TX10 6).1 (TX10 6).2.1 (TX10 6).2.2.1 ∈ wsX10_mortar := by decide +kernel
  have hw1 : Cond.fieldLink RX10 22 (TX10 7).1 (TX10 7).2.1 (TX10 7).2.2.1 ∈ wsX10_mortar := by decide +kernel
  refine x_lveq (lv' := [(0, .ref qO), (1, .int (jI b)), (2, .int (jI year)), (3, .int (jI wrong))]) rfl ?_
  refine x_aload_n F dX10_mortar_0 rfl 0 rfl ?_
  refine x_iload_n F dX10_mortar_1 rfl 1 rfl ?_
  refine x_callVi (ci := 10) (q0 := 0) (As := [.int (jI b)]) (st := []) F (c_X10_isBlock D kI kJ l qO b vO_blocks qO_stones qO_laid qO_deep vO_placings qO_placed vO_mortars qO_put qO_rates vO_limit vO_looks qO_seen qO_text vO_texted vO_faultPlace vO_clauses qO_rule qO_fresh vO_lots qO_stocks qO_row qO_dangers qO_losses vO_upper vO_lower qO_habitUpper qO_habitLower vO_at vO_word vO_wordEnd qO_chosen qO_lost qO_zones qO_way qO_spent qO_scaffolds hr_b hOb) (cwV 1 F.2.2.2.2.1 gX10_mortar_X10_isBlock rfl rfl rfl (by decide +kernel) ⟨Nat.le_of_ble_eq_true rfl, Nat.le_of_ble_eq_true rfl⟩) rfl rfl [0] [1] [1, 0] rfl rfl (by decide) (by decide) (by decide) (fun _ => rfl) (by decide) rfl (Nat.le_of_ble_eq_true rfl) dX10_mortar_2 ⟨Nat.le_of_ble_eq_true rfl, Nat.le_of_ble_eq_true rfl⟩ (fun z2 u2 h2 => ?_)
  try dsimp only at h2
  refine x_ws [(qO, .inr (10, [.int (jI vO_blocks), .ref qO_stones, .ref qO_laid, .ref qO_deep, .int (jI vO_placings), .ref qO_placed, .int (jI vO_mortars), .ref qO_put, .ref qO_rates, .int (jI vO_limit), .int (jI vO_looks), .ref qO_seen, .ref qO_text, .int (jI vO_texted), .int (jI vO_faultPlace), .int (jI vO_clauses), .ref qO_rule, .ref qO_fresh, .int (jI vO_lots), .ref qO_stocks, .ref qO_row, .ref qO_dangers, .ref qO_losses, .long (jL vO_upper), .long (jL vO_lower), .ref qO_habitUpper, .ref qO_habitLower, .int (jI vO_at), .long (jL vO_word), .int (jI vO_wordEnd), .ref qO_chosen, .ref qO_lost, .ref qO_zones, .ref qO_way, .ref qO_spent, .ref qO_scaffolds])), aI kI qO_put 180 fO_put] rfl ?_
  have hb2 := h2
  refine x_bne (tgt := 12) F dX10_mortar_5 (by decide) hb2 (fun c5 => ?_) (fun c5 => ?_)
  · -- 5 t
    refine x_iload_n F dX10_mortar_12 rfl 2 rfl ?_
    refine x_callSi (As := [.int (jI year)]) (st := []) F (c_X10_isYear D kI kJ l year (by omega)) (va_cwS 1 F.2.2.2.2.1 gX10_mortar_X10_isYear rfl rfl rfl (by decide +kernel) ⟨Nat.le_of_ble_eq_true rfl, Nat.le_of_ble_eq_true rfl⟩) [] [0, 1] [0, 1] rfl rfl (by decide) (by decide) (by decide) (fun _ => rfl) (by decide) rfl (Nat.le_of_ble_eq_true rfl) dX10_mortar_13 ⟨Nat.le_of_ble_eq_true rfl, Nat.le_of_ble_eq_true rfl⟩ (fun z13 u13 h13 => ?_)
    try dsimp only at h13
    refine x_ws [(qO, .inr (10, [.int (jI vO_blocks), .ref qO_stones, .ref qO_laid, .ref qO_deep, .int (jI vO_placings), .ref qO_placed, .int (jI vO_mortars), .ref qO_put, .ref qO_rates, .int (jI vO_limit), .int (jI vO_looks), .ref qO_seen, .ref qO_text, .int (jI vO_texted), .int (jI vO_faultPlace), .int (jI vO_clauses), .ref qO_rule, .ref qO_fresh, .int (jI vO_lots), .ref qO_stocks, .ref qO_row, .ref qO_dangers, .ref qO_losses, .long (jL vO_upper), .long (jL vO_lower), .ref qO_habitUpper, .ref qO_habitLower, .int (jI vO_at), .long (jL vO_word), .int (jI vO_wordEnd), .ref qO_chosen, .ref qO_lost, .ref qO_zones, .ref qO_way, .ref qO_spent, .ref qO_scaffolds])), aI kI qO_put 180 fO_put] rfl ?_
    have hb13 := h13
    refine x_bne (tgt := 23) F dX10_mortar_16 (by decide) hb13 (fun c16 => ?_) (fun c16 => ?_)
    · -- 16 t
      refine x_aload_n F dX10_mortar_23 rfl 0 rfl ?_
      refine x_get (ci := 10) F hin10 0 rfl rfl 6 (by decide) hw0 rfl dX10_mortar_24 ?_
      refine x_bipush F dX10_mortar_27 (by decide) ?_
      refine x_icmp_ne (tgt := 36) F dX10_mortar_29 (by decide) (by omega) (fun c29 => ?_) (fun c29 => ?_)
      · -- 29 t
        refine x_aload_n F dX10_mortar_36 rfl 0 rfl ?_
        refine x_get (ci := 10) F hin10 0 rfl rfl 7 (by decide) hw1 rfl dX10_mortar_37 ?_
        refine x_iconst F dX10_mortar_40 ?_
        refine x_aload_n F dX10_mortar_41 rfl 0 rfl ?_
        refine x_get (ci := 10) F hin10 0 rfl rfl 6 (by decide) hw0 rfl dX10_mortar_42 ?_
        refine x_imul F dX10_mortar_45 ?_
        refine x_iload_n F dX10_mortar_46 rfl 1 rfl ?_
        refine x_iast F 1 rfl (by decide) (by omega) dX10_mortar_47 [(qO, .inr (10, [.int (jI vO_blocks), .ref qO_stones, .ref qO_laid, .ref qO_deep, .int (jI vO_placings), .ref qO_placed, .int (jI vO_mortars), .ref qO_put, .ref qO_rates, .int (jI vO_limit), .int (jI vO_looks), .ref qO_seen, .ref qO_text, .int (jI vO_texted), .int (jI vO_faultPlace), .int (jI vO_clauses), .ref qO_rule, .ref qO_fresh, .int (jI vO_lots), .ref qO_stocks, .ref qO_row, .ref qO_dangers, .ref qO_losses, .long (jL vO_upper), .long (jL vO_lower), .ref qO_habitUpper, .ref qO_habitLower, .int (jI vO_at), .long (jL vO_word), .int (jI vO_wordEnd), .ref qO_chosen, .ref qO_lost, .ref qO_zones, .ref qO_way, .ref qO_spent, .ref qO_scaffolds])), aI kI qO_put 180 (iU fO_put (3 * vO_mortars) b)] rfl ?_
        refine x_aload_n F dX10_mortar_48 rfl 0 rfl ?_
        refine x_get (ci := 10) F hin10 0 rfl rfl 7 (by decide) hw1 rfl dX10_mortar_49 ?_
        refine x_iconst F dX10_mortar_52 ?_
        refine x_aload_n F dX10_mortar_53 rfl 0 rfl ?_
        refine x_get (ci := 10) F hin10 0 rfl rfl 6 (by decide) hw0 rfl dX10_mortar_54 ?_
        refine x_imul F dX10_mortar_57 ?_
        refine x_iconst F dX10_mortar_58 ?_
        refine x_iadd F dX10_mortar_59 ?_
        refine x_iload_n F dX10_mortar_60 rfl 2 rfl ?_
        refine x_iast F 1 rfl (by decide) (by omega) dX10_mortar_61 [(qO, .inr (10, [.int (jI vO_blocks), .ref qO_stones, .ref qO_laid, .ref qO_deep, .int (jI vO_placings), .ref qO_placed, .int (jI vO_mortars), .ref qO_put, .ref qO_rates, .int (jI vO_limit), .int (jI vO_looks), .ref qO_seen, .ref qO_text, .int (jI vO_texted), .int (jI vO_faultPlace), .int (jI vO_clauses), .ref qO_rule, .ref qO_fresh, .int (jI vO_lots), .ref qO_stocks, .ref qO_row, .ref qO_dangers, .ref qO_losses, .long (jL vO_upper), .long (jL vO_lower), .ref qO_habitUpper, .ref qO_habitLower, .int (jI vO_at), .long (jL vO_word), .int (jI vO_wordEnd), .ref qO_chosen, .ref qO_lost, .ref qO_zones, .ref qO_way, .ref qO_spent, .ref qO_scaffolds])), aI kI qO_put 180 (iU (iU fO_put (3 * vO_mortars) b) ((3 * vO_mortars) + 1) year)] rfl ?_
        refine x_aload_n F dX10_mortar_62 rfl 0 rfl ?_
        refine x_get (ci := 10) F hin10 0 rfl rfl 7 (by decide) hw1 rfl dX10_mortar_63 ?_
        refine x_iconst F dX10_mortar_66 ?_
        refine x_aload_n F dX10_mortar_67 rfl 0 rfl ?_
        refine x_get (ci := 10) F hin10 0 rfl rfl 6 (by decide) hw0 rfl dX10_mortar_68 ?_
        refine x_imul F dX10_mortar_71 ?_
        refine x_iconst F dX10_mortar_72 ?_
        refine x_iadd F dX10_mortar_73 ?_
        refine x_iload_n F dX10_mortar_74 rfl 3 rfl ?_
        refine x_if_eq (tgt := 82) F dX10_mortar_75 (by decide) (by omega) (fun c75 => ?_) (fun c75 => ?_)
        · -- 75 t
          refine x_iconst F dX10_mortar_82 ?_
          refine x_iast F 1 rfl (by decide) (by omega) dX10_mortar_83 [(qO, .inr (10, [.int (jI vO_blocks), .ref qO_stones, .ref qO_laid, .ref qO_deep, .int (jI vO_placings), .ref qO_placed, .int (jI vO_mortars), .ref qO_put, .ref qO_rates, .int (jI vO_limit), .int (jI vO_looks), .ref qO_seen, .ref qO_text, .int (jI vO_texted), .int (jI vO_faultPlace), .int (jI vO_clauses), .ref qO_rule, .ref qO_fresh, .int (jI vO_lots), .ref qO_stocks, .ref qO_row, .ref qO_dangers, .ref qO_losses, .long (jL vO_upper), .long (jL vO_lower), .ref qO_habitUpper, .ref qO_habitLower, .int (jI vO_at), .long (jL vO_word), .int (jI vO_wordEnd), .ref qO_chosen, .ref qO_lost, .ref qO_zones, .ref qO_way, .ref qO_spent, .ref qO_scaffolds])), aI kI qO_put 180 (iU (iU (iU fO_put (3 * vO_mortars) b) ((3 * vO_mortars) + 1) year) ((3 * vO_mortars) + 2) 0)] rfl ?_
          refine x_aload_n F dX10_mortar_84 rfl 0 rfl ?_
          refine x_dup F dX10_mortar_85 rfl ?_
          refine x_get (ci := 10) F hin10 0 rfl rfl 6 (by decide) hw0 rfl dX10_mortar_86 ?_
          refine x_iconst F dX10_mortar_89 ?_
          refine x_iadd F dX10_mortar_90 ?_
          refine x_put (ci := 10) F hin10 tyX10_ok nmX10 0 rfl rfl 6 (by decide) hw0 rfl rfl rfl (show 6 + 1 ≤ _ from Nat.le_of_ble_eq_true rfl) dX10_mortar_91 [(qO, .inr (10, [.int (jI vO_blocks), .ref qO_stones, .ref qO_laid, .ref qO_deep, .int (jI vO_placings), .ref qO_placed, .int (jI (vO_mortars + 1)), .ref qO_put, .ref qO_rates, .int (jI vO_limit), .int (jI vO_looks), .ref qO_seen, .ref qO_text, .int (jI vO_texted), .int (jI vO_faultPlace), .int (jI vO_clauses), .ref qO_rule, .ref qO_fresh, .int (jI vO_lots), .ref qO_stocks, .ref qO_row, .ref qO_dangers, .ref qO_losses, .long (jL vO_upper), .long (jL vO_lower), .ref qO_habitUpper, .ref qO_habitLower, .int (jI vO_at), .long (jL vO_word), .int (jI vO_wordEnd), .ref qO_chosen, .ref qO_lost, .ref qO_zones, .ref qO_way, .ref qO_spent, .ref qO_scaffolds])), aI kI qO_put 180 (iU (iU (iU fO_put (3 * vO_mortars) b) ((3 * vO_mortars) + 1) year) ((3 * vO_mortars) + 2) 0)] rfl ?_
          refine x_aload_n F dX10_mortar_94 rfl 0 rfl ?_
          refine x_get (ci := 10) F hin10 0 rfl rfl 6 (by decide) hw0 rfl dX10_mortar_95 ?_
          exact hret 0 0 98 _ (vO_mortars + 1) ((vO_mortars + 1), iU (iU (iU fO_put (3 * vO_mortars) b) ((3 * vO_mortars) + 1) year) ((3 * vO_mortars) + 2) 0) (Nat.le_of_ble_eq_true rfl) (Nat.le_of_ble_eq_true rfl) dX10_mortar_98 (by (try dsimp only); exact (by first | exact Or.inl (⟨by omega, (by first | rfl | omega), (by first | rfl | omega), (by first | rfl | omega)⟩) | exact Or.inr (Or.inl (⟨by omega, (by first | rfl | omega), (by first | rfl | omega), (by first | rfl | omega)⟩)) | exact Or.inr (Or.inr (Or.inl (⟨by omega, (by first | rfl | omega), (by first | rfl | omega), (by first | rfl | omega)⟩))) | exact Or.inr (Or.inr (Or.inr (Or.inl (⟨by omega, (by first | rfl | omega), (by first | rfl | omega), (by first | rfl | omega)⟩)))) | exact Or.inr (Or.inr (Or.inr (Or.inr (⟨by omega, (by first | rfl | omega), (by first | rfl | omega), (by first | rfl | omega)⟩))))))
        · -- 75 f
          refine x_iconst F dX10_mortar_78 ?_
          refine x_goto (tgt := 83) F dX10_mortar_79 (by decide) ?_
          refine x_iast F 1 rfl (by decide) (by omega) dX10_mortar_83 [(qO, .inr (10, [.int (jI vO_blocks), .ref qO_stones, .ref qO_laid, .ref qO_deep, .int (jI vO_placings), .ref qO_placed, .int (jI vO_mortars), .ref qO_put, .ref qO_rates, .int (jI vO_limit), .int (jI vO_looks), .ref qO_seen, .ref qO_text, .int (jI vO_texted), .int (jI vO_faultPlace), .int (jI vO_clauses), .ref qO_rule, .ref qO_fresh, .int (jI vO_lots), .ref qO_stocks, .ref qO_row, .ref qO_dangers, .ref qO_losses, .long (jL vO_upper), .long (jL vO_lower), .ref qO_habitUpper, .ref qO_habitLower, .int (jI vO_at), .long (jL vO_word), .int (jI vO_wordEnd), .ref qO_chosen, .ref qO_lost, .ref qO_zones, .ref qO_way, .ref qO_spent, .ref qO_scaffolds])), aI kI qO_put 180 (iU (iU (iU fO_put (3 * vO_mortars) b) ((3 * vO_mortars) + 1) year) ((3 * vO_mortars) + 2) 1)] rfl ?_
          refine x_aload_n F dX10_mortar_84 rfl 0 rfl ?_
          refine x_dup F dX10_mortar_85 rfl ?_
          refine x_get (ci := 10) F hin10 0 rfl rfl 6 (by decide) hw0 rfl dX10_mortar_86 ?_
          refine x_iconst F dX10_mortar_89 ?_
          refine x_iadd F dX10_mortar_90 ?_
          refine x_put (ci := 10) F hin10 tyX10_ok nmX10 0 rfl rfl 6 (by decide) hw0 rfl rfl rfl (show 6 + 1 ≤ _ from Nat.le_of_ble_eq_true rfl) dX10_mortar_91 [(qO, .inr (10, [.int (jI vO_blocks), .ref qO_stones, .ref qO_laid, .ref qO_deep, .int (jI vO_placings), .ref qO_placed, .int (jI (vO_mortars + 1)), .ref qO_put, .ref qO_rates, .int (jI vO_limit), .int (jI vO_looks), .ref qO_seen, .ref qO_text, .int (jI vO_texted), .int (jI vO_faultPlace), .int (jI vO_clauses), .ref qO_rule, .ref qO_fresh, .int (jI vO_lots), .ref qO_stocks, .ref qO_row, .ref qO_dangers, .ref qO_losses, .long (jL vO_upper), .long (jL vO_lower), .ref qO_habitUpper, .ref qO_habitLower, .int (jI vO_at), .long (jL vO_word), .int (jI vO_wordEnd), .ref qO_chosen, .ref qO_lost, .ref qO_zones, .ref qO_way, .ref qO_spent, .ref qO_scaffolds])), aI kI qO_put 180 (iU (iU (iU fO_put (3 * vO_mortars) b) ((3 * vO_mortars) + 1) year) ((3 * vO_mortars) + 2) 1)] rfl ?_
          refine x_aload_n F dX10_mortar_94 rfl 0 rfl ?_
          refine x_get (ci := 10) F hin10 0 rfl rfl 6 (by decide) hw0 rfl dX10_mortar_95 ?_
          exact hret 0 0 98 _ (vO_mortars + 1) ((vO_mortars + 1), iU (iU (iU fO_put (3 * vO_mortars) b) ((3 * vO_mortars) + 1) year) ((3 * vO_mortars) + 2) 1) (Nat.le_of_ble_eq_true rfl) (Nat.le_of_ble_eq_true rfl) dX10_mortar_98 (by (try dsimp only); exact (by first | exact Or.inl (⟨by omega, (by first | rfl | omega), (by first | rfl | omega), (by first | rfl | omega)⟩) | exact Or.inr (Or.inl (⟨by omega, (by first | rfl | omega), (by first | rfl | omega), (by first | rfl | omega)⟩)) | exact Or.inr (Or.inr (Or.inl (⟨by omega, (by first | rfl | omega), (by first | rfl | omega), (by first | rfl | omega)⟩))) | exact Or.inr (Or.inr (Or.inr (Or.inl (⟨by omega, (by first | rfl | omega), (by first | rfl | omega), (by first | rfl | omega)⟩)))) | exact Or.inr (Or.inr (Or.inr (Or.inr (⟨by omega, (by first | rfl | omega), (by first | rfl | omega), (by first | rfl | omega)⟩))))))
      · -- 29 f
        refine x_sipush F dX10_mortar_32 (by decide) ?_
        exact hret 0 0 35 _ (-1004) (vO_mortars, fO_put) (Nat.le_of_ble_eq_true rfl) (Nat.le_of_ble_eq_true rfl) dX10_mortar_35 (by (try dsimp only); exact (by first | exact Or.inl (⟨by omega, (by first | rfl | omega), (by first | rfl | omega), (by first | rfl | omega)⟩) | exact Or.inr (Or.inl (⟨by omega, (by first | rfl | omega), (by first | rfl | omega), (by first | rfl | omega)⟩)) | exact Or.inr (Or.inr (Or.inl (⟨by omega, (by first | rfl | omega), (by first | rfl | omega), (by first | rfl | omega)⟩))) | exact Or.inr (Or.inr (Or.inr (Or.inl (⟨by omega, (by first | rfl | omega), (by first | rfl | omega), (by first | rfl | omega)⟩)))) | exact Or.inr (Or.inr (Or.inr (Or.inr (⟨by omega, (by first | rfl | omega), (by first | rfl | omega), (by first | rfl | omega)⟩))))))
    · -- 16 f
      refine x_sipush F dX10_mortar_19 (by decide) ?_
      exact hret 0 0 22 _ (-1002) (vO_mortars, fO_put) (Nat.le_of_ble_eq_true rfl) (Nat.le_of_ble_eq_true rfl) dX10_mortar_22 (by (try dsimp only); exact (by first | exact Or.inl (⟨by omega, (by first | rfl | omega), (by first | rfl | omega), (by first | rfl | omega)⟩) | exact Or.inr (Or.inl (⟨by omega, (by first | rfl | omega), (by first | rfl | omega), (by first | rfl | omega)⟩)) | exact Or.inr (Or.inr (Or.inl (⟨by omega, (by first | rfl | omega), (by first | rfl | omega), (by first | rfl | omega)⟩))) | exact Or.inr (Or.inr (Or.inr (Or.inl (⟨by omega, (by first | rfl | omega), (by first | rfl | omega), (by first | rfl | omega)⟩)))) | exact Or.inr (Or.inr (Or.inr (Or.inr (⟨by omega, (by first | rfl | omega), (by first | rfl | omega), (by first | rfl | omega)⟩))))))
  · -- 5 f
    refine x_sipush F dX10_mortar_8 (by decide) ?_
    exact hret 0 0 11 _ (-1001) (vO_mortars, fO_put) (Nat.le_of_ble_eq_true rfl) (Nat.le_of_ble_eq_true rfl) dX10_mortar_11 (by (try dsimp only); exact (by first | exact Or.inl (⟨by omega, (by first | rfl | omega), (by first | rfl | omega), (by first | rfl | omega)⟩) | exact Or.inr (Or.inl (⟨by omega, (by first | rfl | omega), (by first | rfl | omega), (by first | rfl | omega)⟩)) | exact Or.inr (Or.inr (Or.inl (⟨by omega, (by first | rfl | omega), (by first | rfl | omega), (by first | rfl | omega)⟩))) | exact Or.inr (Or.inr (Or.inr (Or.inl (⟨by omega, (by first | rfl | omega), (by first | rfl | omega), (by first | rfl | omega)⟩)))) | exact Or.inr (Or.inr (Or.inr (Or.inr (⟨by omega, (by first | rfl | omega), (by first | rfl | omega), (by first | rfl | omega)⟩))))))
set_option maxHeartbeats 4000000 in
set_option maxRecDepth 100000 in
theorem c_X10_rate (D : va_G) (kI kJ : Nat) (l : Launch) (qO : Nat) (stone : Int) (side : Int) (wet : Int) (v : Int) (vO_blocks : Int) (qO_stones : Nat) (qO_laid : Nat) (qO_deep : Nat) (vO_placings : Int) (qO_placed : Nat) (vO_mortars : Int) (qO_put : Nat) (qO_rates : Nat) (vO_limit : Int) (vO_looks : Int) (qO_seen : Nat) (qO_text : Nat) (vO_texted : Int) (vO_faultPlace : Int) (vO_clauses : Int) (qO_rule : Nat) (qO_fresh : Nat) (vO_lots : Int) (qO_stocks : Nat) (qO_row : Nat) (qO_dangers : Nat) (qO_losses : Nat) (vO_upper : Int) (vO_lower : Int) (qO_habitUpper : Nat) (qO_habitLower : Nat) (vO_at : Int) (vO_word : Int) (vO_wordEnd : Int) (qO_chosen : Nat) (qO_lost : Nat) (qO_zones : Nat) (qO_way : Nat) (qO_spent : Nat) (qO_scaffolds : Nat) (fO_rates : (Int → Int)) (hr_stone : -2147483648 ≤ stone ∧ stone < 2147483648) (hr_side : -2147483648 ≤ side ∧ side < 2147483648) (hr_wet : -2147483648 ≤ wet ∧ wet < 2147483648) (hr_v : -2147483648 ≤ v ∧ v < 2147483648) : xMi D kI kJ l yX10_rate wsX10_rate 2 57 0 0 [.ref qO, .int (jI stone), .int (jI side), .int (jI wet), .int (jI v)] [(qO, .inr (10, [.int (jI vO_blocks), .ref qO_stones, .ref qO_laid, .ref qO_deep, .int (jI vO_placings), .ref qO_placed, .int (jI vO_mortars), .ref qO_put, .ref qO_rates, .int (jI vO_limit), .int (jI vO_looks), .ref qO_seen, .ref qO_text, .int (jI vO_texted), .int (jI vO_faultPlace), .int (jI vO_clauses), .ref qO_rule, .ref qO_fresh, .int (jI vO_lots), .ref qO_stocks, .ref qO_row, .ref qO_dangers, .ref qO_losses, .long (jL vO_upper), .long (jL vO_lower), .ref qO_habitUpper, .ref qO_habitLower, .int (jI vO_at), .long (jL vO_word), .int (jI vO_wordEnd), .ref qO_chosen, .ref qO_lost, .ref qO_zones, .ref qO_way, .ref qO_spent, .ref qO_scaffolds])), aI kI qO_rates 64 fO_rates] (fun (z : Int) (u : (Int → Int)) => (((¬ ((0 ≤ stone ∧ stone ≤ 3) ∧ (0 ≤ side ∧ side ≤ 3) ∧ (0 ≤ wet ∧ wet ≤ 3) ∧ 0 ≤ v ∧ v ≤ 50)) ∧ z = -1002 ∧ u = fO_rates) ∨ (((0 ≤ stone ∧ stone ≤ 3) ∧ (0 ≤ side ∧ side ≤ 3) ∧ (0 ≤ wet ∧ wet ≤ 3) ∧ 0 ≤ v ∧ v ≤ 50) ∧ z = fO_rates (16 * stone + 4 * side + wet) ∧ u = iU fO_rates (16 * stone + 4 * side + wet) v))) (fun (u : (Int → Int)) => [(qO, .inr (10, [.int (jI vO_blocks), .ref qO_stones, .ref qO_laid, .ref qO_deep, .int (jI vO_placings), .ref qO_placed, .int (jI vO_mortars), .ref qO_put, .ref qO_rates, .int (jI vO_limit), .int (jI vO_looks), .ref qO_seen, .ref qO_text, .int (jI vO_texted), .int (jI vO_faultPlace), .int (jI vO_clauses), .ref qO_rule, .ref qO_fresh, .int (jI vO_lots), .ref qO_stocks, .ref qO_row, .ref qO_dangers, .ref qO_losses, .long (jL vO_upper), .long (jL vO_lower), .ref qO_habitUpper, .ref qO_habitLower, .int (jI vO_at), .long (jL vO_word), .int (jI vO_wordEnd), .ref qO_chosen, .ref qO_lost, .ref qO_zones, .ref qO_way, .ref qO_spent, .ref qO_scaffolds])), aI kI qO_rates 64 u]) := by
  refine xMi_of (cc := cX10_rate) (maxL := 7) (rt := .int) (by decide) rfl (Nat.le_of_ble_eq_true rfl) (fun _ _ _ => rfl) ?_
  intro p e s m args below meth c A Q F hin2 hret
  have hin10 : ∀ w ∈ wsX100, w ∈ wsX10_rate := by decide +kernel
  have hw0 : Cond.constantLong RX10 93 3 ∈ wsX10_rate := by decide +kernel
  have hw1 : Cond.constantLong RX10 112 50 ∈ wsX10_rate := by decide +kernel
  have hw2 : Cond.fieldLink RX10 25 (TX10 8).1 (TX10 8).2.1 (TX10 8).2.2.1 ∈ wsX10_rate := by decide +kernel
  refine x_lveq (lv' := [(0, .ref qO), (1, .int (jI stone)), (2, .int (jI side)), (3, .int (jI wet)), (4, .int (jI v))]) rfl ?_
  refine x_iload_n F dX10_rate_0 rfl 1 rfl ?_
  refine x_i2l F dX10_rate_1 (by omega) ?_
  refine x_lconst F 0 dX10_rate_2 (by decide) ?_
  refine x_ldc2 F 3 hw0 (by decide) dX10_rate_3 ?_
  refine x_callSi (As := [.long (jL stone), .long (jL 0), .long (jL 3)]) (st := []) F (c_X10_in D kI kJ l stone 0 3 (by omega) (by omega) (by omega)) (va_cwS 3 F.2.2.2.2.1 gX10_rate_X10_in rfl rfl rfl (by decide +kernel) ⟨Nat.le_of_ble_eq_true rfl, Nat.le_of_ble_eq_true rfl⟩) [] [0, 1] [0, 1] rfl rfl (by decide) (by decide) (by decide) (fun _ => rfl) (by decide) rfl (Nat.le_of_ble_eq_true rfl) dX10_rate_6 ⟨Nat.le_of_ble_eq_true rfl, Nat.le_of_ble_eq_true rfl⟩ (fun z6 u6 h6 => ?_)
  try dsimp only at h6
  refine x_ws [(qO, .inr (10, [.int (jI vO_blocks), .ref qO_stones, .ref qO_laid, .ref qO_deep, .int (jI vO_placings), .ref qO_placed, .int (jI vO_mortars), .ref qO_put, .ref qO_rates, .int (jI vO_limit), .int (jI vO_looks), .ref qO_seen, .ref qO_text, .int (jI vO_texted), .int (jI vO_faultPlace), .int (jI vO_clauses), .ref qO_rule, .ref qO_fresh, .int (jI vO_lots), .ref qO_stocks, .ref qO_row, .ref qO_dangers, .ref qO_losses, .long (jL vO_upper), .long (jL vO_lower), .ref qO_habitUpper, .ref qO_habitLower, .int (jI vO_at), .long (jL vO_word), .int (jI vO_wordEnd), .ref qO_chosen, .ref qO_lost, .ref qO_zones, .ref qO_way, .ref qO_spent, .ref qO_scaffolds])), aI kI qO_rates 64 fO_rates] rfl ?_
  have hb6 := h6
  refine x_beq (tgt := 49) F dX10_rate_9 (by decide) hb6 (fun c9 => ?_) (fun c9 => ?_)
  · -- 9 t
    refine x_sipush F dX10_rate_49 (by decide) ?_
    exact hret 0 0 52 _ (-1002) fO_rates (Nat.le_of_ble_eq_true rfl) (Nat.le_of_ble_eq_true rfl) dX10_rate_52 (by first | exact Or.inl (⟨by omega, (by first | rfl | omega), (by first | rfl | omega)⟩) | exact Or.inr (⟨by omega, (by first | rfl | omega), (by first | rfl | omega)⟩))
  · -- 9 f
    refine x_iload_n F dX10_rate_12 rfl 2 rfl ?_
    refine x_i2l F dX10_rate_13 (by omega) ?_
    refine x_lconst F 0 dX10_rate_14 (by decide) ?_
    refine x_ldc2 F 3 hw0 (by decide) dX10_rate_15 ?_
    refine x_callSi (As := [.long (jL side), .long (jL 0), .long (jL 3)]) (st := []) F (c_X10_in D kI kJ l side 0 3 (by omega) (by omega) (by omega)) (va_cwS 3 F.2.2.2.2.1 gX10_rate_X10_in rfl rfl rfl (by decide +kernel) ⟨Nat.le_of_ble_eq_true rfl, Nat.le_of_ble_eq_true rfl⟩) [] [0, 1] [0, 1] rfl rfl (by decide) (by decide) (by decide) (fun _ => rfl) (by decide) rfl (Nat.le_of_ble_eq_true rfl) dX10_rate_18 ⟨Nat.le_of_ble_eq_true rfl, Nat.le_of_ble_eq_true rfl⟩ (fun z18 u18 h18 => ?_)
    try dsimp only at h18
    refine x_ws [(qO, .inr (10, [.int (jI vO_blocks), .ref qO_stones, .ref qO_laid, .ref qO_deep, .int (jI vO_placings), .ref qO_placed, .int (jI vO_mortars), .ref qO_put, .ref qO_rates, .int (jI vO_limit), .int (jI vO_looks), .ref qO_seen, .ref qO_text, .int (jI vO_texted), .int (jI vO_faultPlace), .int (jI vO_clauses), .ref qO_rule, .ref qO_fresh, .int (jI vO_lots), .ref qO_stocks, .ref qO_row, .ref qO_dangers, .ref qO_losses, .long (jL vO_upper), .long (jL vO_lower), .ref qO_habitUpper, .ref qO_habitLower, .int (jI vO_at), .long (jL vO_word), .int (jI vO_wordEnd), .ref qO_chosen, .ref qO_lost, .ref qO_zones, .ref qO_way, .ref qO_spent, .ref qO_scaffolds])), aI kI qO_rates 64 fO_rates] rfl ?_
    have hb18 := h18
    refine x_beq (tgt := 49) F dX10_rate_21 (by decide) hb18 (fun c21 => ?_) (fun c21 => ?_)
    · -- 21 t
      refine x_sipush F dX10_rate_49 (by decide) ?_
      exact hret 0 0 52 _ (-1002) fO_rates (Nat.le_of_ble_eq_true rfl) (Nat.le_of_ble_eq_true rfl) dX10_rate_52 (by first | exact Or.inl (⟨by omega, (by first | rfl | omega), (by first | rfl | omega)⟩) | exact Or.inr (⟨by omega, (by first | rfl | omega), (by first | rfl | omega)⟩))
    · -- 21 f
      refine x_iload_n F dX10_rate_24 rfl 3 rfl ?_
      refine x_i2l F dX10_rate_25 (by omega) ?_
      refine x_lconst F 0 dX10_rate_26 (by decide) ?_
      refine x_ldc2 F 3 hw0 (by decide) dX10_rate_27 ?_
      refine x_callSi (As := [.long (jL wet), .long (jL 0), .long (jL 3)]) (st := []) F (c_X10_in D kI kJ l wet 0 3 (by omega) (by omega) (by omega)) (va_cwS 3 F.2.2.2.2.1 gX10_rate_X10_in rfl rfl rfl (by decide +kernel) ⟨Nat.le_of_ble_eq_true rfl, Nat.le_of_ble_eq_true rfl⟩) [] [0, 1] [0, 1] rfl rfl (by decide) (by decide) (by decide) (fun _ => rfl) (by decide) rfl (Nat.le_of_ble_eq_true rfl) dX10_rate_30 ⟨Nat.le_of_ble_eq_true rfl, Nat.le_of_ble_eq_true rfl⟩ (fun z30 u30 h30 => ?_)
      try dsimp only at h30
      refine x_ws [(qO, .inr (10, [.int (jI vO_blocks), .ref qO_stones, .ref qO_laid, .ref qO_deep, .int (jI vO_placings), .ref qO_placed, .int (jI vO_mortars), .ref qO_put, .ref qO_rates, .int (jI vO_limit), .int (jI vO_looks), .ref qO_seen, .ref qO_text, .int (jI vO_texted), .int (jI vO_faultPlace), .int (jI vO_clauses), .ref qO_rule, .ref qO_fresh, .int (jI vO_lots), .ref qO_stocks, .ref qO_row, .ref qO_dangers, .ref qO_losses, .long (jL vO_upper), .long (jL vO_lower), .ref qO_habitUpper, .ref qO_habitLower, .int (jI vO_at), .long (jL vO_word), .int (jI vO_wordEnd), .ref qO_chosen, .ref qO_lost, .ref qO_zones, .ref qO_way, .ref qO_spent, .ref qO_scaffolds])), aI kI qO_rates 64 fO_rates] rfl ?_
      have hb30 := h30
      refine x_beq (tgt := 49) F dX10_rate_33 (by decide) hb30 (fun c33 => ?_) (fun c33 => ?_)
      · -- 33 t
        refine x_sipush F dX10_rate_49 (by decide) ?_
        exact hret 0 0 52 _ (-1002) fO_rates (Nat.le_of_ble_eq_true rfl) (Nat.le_of_ble_eq_true rfl) dX10_rate_52 (by first | exact Or.inl (⟨by omega, (by first | rfl | omega), (by first | rfl | omega)⟩) | exact Or.inr (⟨by omega, (by first | rfl | omega), (by first | rfl | omega)⟩))
      · -- 33 f
        refine x_iload F dX10_rate_36 4 rfl ?_
        refine x_i2l F dX10_rate_38 (by omega) ?_
        refine x_lconst F 0 dX10_rate_39 (by decide) ?_
        refine x_ldc2 F 50 hw1 (by decide) dX10_rate_40 ?_
        refine x_callSi (As := [.long (jL v), .long (jL 0), .long (jL 50)]) (st := []) F (c_X10_in D kI kJ l v 0 50 (by omega) (by omega) (by omega)) (va_cwS 3 F.2.2.2.2.1 gX10_rate_X10_in rfl rfl rfl (by decide +kernel) ⟨Nat.le_of_ble_eq_true rfl, Nat.le_of_ble_eq_true rfl⟩) [] [0, 1] [0, 1] rfl rfl (by decide) (by decide) (by decide) (fun _ => rfl) (by decide) rfl (Nat.le_of_ble_eq_true rfl) dX10_rate_43 ⟨Nat.le_of_ble_eq_true rfl, Nat.le_of_ble_eq_true rfl⟩ (fun z43 u43 h43 => ?_)
        try dsimp only at h43
        refine x_ws [(qO, .inr (10, [.int (jI vO_blocks), .ref qO_stones, .ref qO_laid, .ref qO_deep, .int (jI vO_placings), .ref qO_placed, .int (jI vO_mortars), .ref qO_put, .ref qO_rates, .int (jI vO_limit), .int (jI vO_looks), .ref qO_seen, .ref qO_text, .int (jI vO_texted), .int (jI vO_faultPlace), .int (jI vO_clauses), .ref qO_rule, .ref qO_fresh, .int (jI vO_lots), .ref qO_stocks, .ref qO_row, .ref qO_dangers, .ref qO_losses, .long (jL vO_upper), .long (jL vO_lower), .ref qO_habitUpper, .ref qO_habitLower, .int (jI vO_at), .long (jL vO_word), .int (jI vO_wordEnd), .ref qO_chosen, .ref qO_lost, .ref qO_zones, .ref qO_way, .ref qO_spent, .ref qO_scaffolds])), aI kI qO_rates 64 fO_rates] rfl ?_
        have hb43 := h43
        refine x_bne (tgt := 53) F dX10_rate_46 (by decide) hb43 (fun c46 => ?_) (fun c46 => ?_)
        · -- 46 t
          refine x_bipush F dX10_rate_53 (by decide) ?_
          refine x_iload_n F dX10_rate_55 rfl 1 rfl ?_
          refine x_imul F dX10_rate_56 ?_
          refine x_iconst F dX10_rate_57 ?_
          refine x_iload_n F dX10_rate_58 rfl 2 rfl ?_
          refine x_imul F dX10_rate_59 ?_
          refine x_iadd F dX10_rate_60 ?_
          refine x_iload_n F dX10_rate_61 rfl 3 rfl ?_
          refine x_iadd F dX10_rate_62 ?_
          refine x_istore (lv' := [(0, .ref qO), (1, .int (jI stone)), (2, .int (jI side)), (3, .int (jI wet)), (4, .int (jI v)), (5, .int (jI (((16 * stone) + (4 * side)) + wet)))]) F dX10_rate_63 (by decide) [1, 2, 3, 4, 5, 0] rfl ?_
          refine x_aload_n F dX10_rate_65 rfl 0 rfl ?_
          refine x_get (ci := 10) F hin10 0 rfl rfl 8 (by decide) hw2 rfl dX10_rate_66 ?_
          refine x_iload F dX10_rate_69 5 rfl ?_
          refine x_iald F 1 rfl (by decide) (by omega) dX10_rate_71 ?_
          refine x_istore (lv' := [(0, .ref qO), (1, .int (jI stone)), (2, .int (jI side)), (3, .int (jI wet)), (4, .int (jI v)), (5, .int (jI (((16 * stone) + (4 * side)) + wet))), (6, .int (jI (fO_rates (((16 * stone) + (4 * side)) + wet))))]) F dX10_rate_72 (by decide) [1, 2, 3, 4, 5, 6, 0] rfl ?_
          refine x_aload_n F dX10_rate_74 rfl 0 rfl ?_
          refine x_get (ci := 10) F hin10 0 rfl rfl 8 (by decide) hw2 rfl dX10_rate_75 ?_
          refine x_iload F dX10_rate_78 5 rfl ?_
          refine x_iload F dX10_rate_80 4 rfl ?_
          refine x_iast F 1 rfl (by decide) (by omega) dX10_rate_82 [(qO, .inr (10, [.int (jI vO_blocks), .ref qO_stones, .ref qO_laid, .ref qO_deep, .int (jI vO_placings), .ref qO_placed, .int (jI vO_mortars), .ref qO_put, .ref qO_rates, .int (jI vO_limit), .int (jI vO_looks), .ref qO_seen, .ref qO_text, .int (jI vO_texted), .int (jI vO_faultPlace), .int (jI vO_clauses), .ref qO_rule, .ref qO_fresh, .int (jI vO_lots), .ref qO_stocks, .ref qO_row, .ref qO_dangers, .ref qO_losses, .long (jL vO_upper), .long (jL vO_lower), .ref qO_habitUpper, .ref qO_habitLower, .int (jI vO_at), .long (jL vO_word), .int (jI vO_wordEnd), .ref qO_chosen, .ref qO_lost, .ref qO_zones, .ref qO_way, .ref qO_spent, .ref qO_scaffolds])), aI kI qO_rates 64 (iU fO_rates (((16 * stone) + (4 * side)) + wet) v)] rfl ?_
          refine x_iload F dX10_rate_83 6 rfl ?_
          exact hret 0 0 85 _ (fO_rates (((16 * stone) + (4 * side)) + wet)) (iU fO_rates (((16 * stone) + (4 * side)) + wet) v) (Nat.le_of_ble_eq_true rfl) (Nat.le_of_ble_eq_true rfl) dX10_rate_85 (by first | exact Or.inl (⟨by omega, (by first | rfl | omega), (by first | rfl | omega)⟩) | exact Or.inr (⟨by omega, (by first | rfl | omega), (by first | rfl | omega)⟩))
        · -- 46 f
          refine x_sipush F dX10_rate_49 (by decide) ?_
          exact hret 0 0 52 _ (-1002) fO_rates (Nat.le_of_ble_eq_true rfl) (Nat.le_of_ble_eq_true rfl) dX10_rate_52 (by first | exact Or.inl (⟨by omega, (by first | rfl | omega), (by first | rfl | omega)⟩) | exact Or.inr (⟨by omega, (by first | rfl | omega), (by first | rfl | omega)⟩))
set_option maxHeartbeats 4000000 in
set_option maxRecDepth 100000 in
theorem c_X10_limit (D : va_G) (kI kJ : Nat) (l : Launch) (qO : Nat) (v : Int) (vO_blocks : Int) (qO_stones : Nat) (qO_laid : Nat) (qO_deep : Nat) (vO_placings : Int) (qO_placed : Nat) (vO_mortars : Int) (qO_put : Nat) (qO_rates : Nat) (vO_limit : Int) (vO_looks : Int) (qO_seen : Nat) (qO_text : Nat) (vO_texted : Int) (vO_faultPlace : Int) (vO_clauses : Int) (qO_rule : Nat) (qO_fresh : Nat) (vO_lots : Int) (qO_stocks : Nat) (qO_row : Nat) (qO_dangers : Nat) (qO_losses : Nat) (vO_upper : Int) (vO_lower : Int) (qO_habitUpper : Nat) (qO_habitLower : Nat) (vO_at : Int) (vO_word : Int) (vO_wordEnd : Int) (qO_chosen : Nat) (qO_lost : Nat) (qO_zones : Nat) (qO_way : Nat) (qO_spent : Nat) (qO_scaffolds : Nat) (hr_v : -2147483648 ≤ v ∧ v < 2147483648) : xMi D kI kJ l yX10_limit wsX10_limit 2 57 0 0 [.ref qO, .int (jI v)] [(qO, .inr (10, [.int (jI vO_blocks), .ref qO_stones, .ref qO_laid, .ref qO_deep, .int (jI vO_placings), .ref qO_placed, .int (jI vO_mortars), .ref qO_put, .ref qO_rates, .int (jI vO_limit), .int (jI vO_looks), .ref qO_seen, .ref qO_text, .int (jI vO_texted), .int (jI vO_faultPlace), .int (jI vO_clauses), .ref qO_rule, .ref qO_fresh, .int (jI vO_lots), .ref qO_stocks, .ref qO_row, .ref qO_dangers, .ref qO_losses, .long (jL vO_upper), .long (jL vO_lower), .ref qO_habitUpper, .ref qO_habitLower, .int (jI vO_at), .long (jL vO_word), .int (jI vO_wordEnd), .ref qO_chosen, .ref qO_lost, .ref qO_zones, .ref qO_way, .ref qO_spent, .ref qO_scaffolds]))] (fun (z : Int) (u : Int) => (((¬ (1 ≤ v ∧ v ≤ 100)) ∧ z = -1002 ∧ u = vO_limit) ∨ ((1 ≤ v ∧ v ≤ 100) ∧ z = vO_limit ∧ u = v))) (fun (u : Int) => [(qO, .inr (10, [.int (jI vO_blocks), .ref qO_stones, .ref qO_laid, .ref qO_deep, .int (jI vO_placings), .ref qO_placed, .int (jI vO_mortars), .ref qO_put, .ref qO_rates, .int (jI u), .int (jI vO_looks), .ref qO_seen, .ref qO_text, .int (jI vO_texted), .int (jI vO_faultPlace), .int (jI vO_clauses), .ref qO_rule, .ref qO_fresh, .int (jI vO_lots), .ref qO_stocks, .ref qO_row, .ref qO_dangers, .ref qO_losses, .long (jL vO_upper), .long (jL vO_lower), .ref qO_habitUpper, .ref qO_habitLower, .int (jI vO_at), .long (jL vO_word), .int (jI vO_wordEnd), .ref qO_chosen, .ref qO_lost, .ref qO_zones, .ref qO_way, .ref qO_spent, .ref qO_scaffolds]))]) := by
  refine xMi_of (cc := cX10_limit) (maxL := 3) (rt := .int) (by decide) rfl (Nat.le_of_ble_eq_true rfl) (fun _ _ _ => rfl) ?_
  intro p e s m args below meth c A Q F hin2 hret
  have hin10 : ∀ w ∈ wsX100, w ∈ wsX10_limit := by decide +kernel
  have hw0 : Cond.constantLong RX10 114 100 ∈ wsX10_limit := by decide +kernel
  have hw1 : Cond.fieldLink RX10 28 (TX10 9).1 (TX10 9).2.1 (TX10 9).2.2.1 ∈ wsX10_limit := by decide +kernel
  refine x_lveq (lv' := [(0, .ref qO), (1, .int (jI v))]) rfl ?_
  refine x_iload_n F dX10_limit_0 rfl 1 rfl ?_
  refine x_i2l F dX10_limit_1 (by omega) ?_
  refine x_lconst F 1 dX10_limit_2 (by decide) ?_
  refine x_ldc2 F 100 hw0 (by decide) dX10_limit_3 ?_
  refine x_callSi (As := [.long (jL v), .long (jL 1), .long (jL 100)]) (st := []) F (c_X10_in D kI kJ l v 1 100 (by omega) (by omega) (by omega)) (va_cwS 3 F.2.2.2.2.1 gX10_limit_X10_in rfl rfl rfl (by decide +kernel) ⟨Nat.le_of_ble_eq_true rfl, Nat.le_of_ble_eq_true rfl⟩) [] [0] [0] rfl rfl (by decide) (by decide) (by decide) (fun _ => rfl) (by decide) rfl (Nat.le_of_ble_eq_true rfl) dX10_limit_6 ⟨Nat.le_of_ble_eq_true rfl, Nat.le_of_ble_eq_true rfl⟩ (fun z6 u6 h6 => ?_)
  try dsimp only at h6
  refine x_ws [(qO, .inr (10, [.int (jI vO_blocks), .ref qO_stones, .ref qO_laid, .ref qO_deep, .int (jI vO_placings), .ref qO_placed, .int (jI vO_mortars), .ref qO_put, .ref qO_rates, .int (jI vO_limit), .int (jI vO_looks), .ref qO_seen, .ref qO_text, .int (jI vO_texted), .int (jI vO_faultPlace), .int (jI vO_clauses), .ref qO_rule, .ref qO_fresh, .int (jI vO_lots), .ref qO_stocks, .ref qO_row, .ref qO_dangers, .ref qO_losses, .long (jL vO_upper), .long (jL vO_lower), .ref qO_habitUpper, .ref qO_habitLower, .int (jI vO_at), .long (jL vO_word), .int (jI vO_wordEnd), .ref qO_chosen, .ref qO_lost, .ref qO_zones, .ref qO_way, .ref qO_spent, .ref qO_scaffolds]))] rfl ?_
  have hb6 := h6
  refine x_bne (tgt := 16) F dX10_limit_9 (by decide) hb6 (fun c9 => ?_) (fun c9 => ?_)
  · -- 9 t
    refine x_aload_n F dX10_limit_16 rfl 0 rfl ?_
    refine x_get (ci := 10) F hin10 0 rfl rfl 9 (by decide) hw1 rfl dX10_limit_17 ?_
    refine x_istore_n (lv' := [(0, .ref qO), (1, .int (jI v)), (2, .int (jI vO_limit))]) F dX10_limit_20 rfl (by decide) [1, 2, 0] rfl ?_
    refine x_aload_n F dX10_limit_21 rfl 0 rfl ?_
    refine x_iload_n F dX10_limit_22 rfl 1 rfl ?_
    refine x_put (ci := 10) F hin10 tyX10_ok nmX10 0 rfl rfl 9 (by decide) hw1 rfl rfl rfl (show 9 + 1 ≤ _ from Nat.le_of_ble_eq_true rfl) dX10_limit_23 [(qO, .inr (10, [.int (jI vO_blocks), .ref qO_stones, .ref qO_laid, .ref qO_deep, .int (jI vO_placings), .ref qO_placed, .int (jI vO_mortars), .ref qO_put, .ref qO_rates, .int (jI v), .int (jI vO_looks), .ref qO_seen, .ref qO_text, .int (jI vO_texted), .int (jI vO_faultPlace), .int (jI vO_clauses), .ref qO_rule, .ref qO_fresh, .int (jI vO_lots), .ref qO_stocks, .ref qO_row, .ref qO_dangers, .ref qO_losses, .long (jL vO_upper), .long (jL vO_lower), .ref qO_habitUpper, .ref qO_habitLower, .int (jI vO_at), .long (jL vO_word), .int (jI vO_wordEnd), .ref qO_chosen, .ref qO_lost, .ref qO_zones, .ref qO_way, .ref qO_spent, .ref qO_scaffolds]))] rfl ?_
    refine x_iload_n F dX10_limit_26 rfl 2 rfl ?_
    exact hret 0 0 27 _ vO_limit v (Nat.le_of_ble_eq_true rfl) (Nat.le_of_ble_eq_true rfl) dX10_limit_27 (by first | exact Or.inl (⟨by omega, (by first | rfl | omega), (by first | rfl | omega)⟩) | exact Or.inr (⟨by omega, (by first | rfl | omega), (by first | rfl | omega)⟩))
  · -- 9 f
    refine x_sipush F dX10_limit_12 (by decide) ?_
    exact hret 0 0 15 _ (-1002) vO_limit (Nat.le_of_ble_eq_true rfl) (Nat.le_of_ble_eq_true rfl) dX10_limit_15 (by first | exact Or.inl (⟨by omega, (by first | rfl | omega), (by first | rfl | omega)⟩) | exact Or.inr (⟨by omega, (by first | rfl | omega), (by first | rfl | omega)⟩))
set_option maxHeartbeats 4000000 in
set_option maxRecDepth 100000 in
theorem c_ruling5 (D : va_G) (kI kJ : Nat) (l : Launch) (qr : Nat) (many : Int) (b : Int) (year : Int) (what : Int) (row : (Int → Int)) (hr_b : -2147483648 ≤ b ∧ b < 2147483648) (hr_year : -2147483648 ≤ year ∧ year < 2147483648) (hmany : 0 ≤ many ∧ many ≤ 60) (hwhat : 0 ≤ what ∧ what < 5) (hrow : Rg row 300 (-2147483648) 2147483647) : xMi D kI kJ l yX10_ruling wsX10_ruling 1 32 0 0 [.ref qr, .int (jI many), .int (jI 5), .int (jI b), .int (jI year), .int (jI what)] [aI kI qr 300 row] (fun (z : Int) (u : Unit) => z = rV (fun k => row (5 * k)) (fun k => row (5 * k + 1)) (fun k => row (5 * k + what)) b year many) (fun (u : Unit) => [aI kI qr 300 row]) := by
  refine xMi_of (cc := cX10_ruling) (maxL := 9) (rt := .int) (by decide) rfl (Nat.le_of_ble_eq_true rfl) (fun _ _ _ => rfl) ?_
  intro p e s m args below meth c A Q F hin2 hret
  refine x_lveq (lv' := [(0, .ref qr), (1, .int (jI many)), (2, .int (jI 5)), (3, .int (jI b)), (4, .int (jI year)), (5, .int (jI what))]) rfl ?_
  refine x_iconst F dX10_ruling_0 ?_
  refine x_istore (lv' := [(0, .ref qr), (1, .int (jI many)), (2, .int (jI 5)), (3, .int (jI b)), (4, .int (jI year)), (5, .int (jI what)), (6, .int (jI (-1)))]) F dX10_ruling_1 (by decide) [1, 2, 3, 4, 5, 6, 0] rfl ?_
  refine x_iconst F dX10_ruling_3 ?_
  refine x_istore (lv' := [(0, .ref qr), (1, .int (jI many)), (2, .int (jI 5)), (3, .int (jI b)), (4, .int (jI year)), (5, .int (jI what)), (6, .int (jI (-1))), (7, .int (jI 0))]) F dX10_ruling_4 (by decide) [1, 2, 3, 4, 5, 6, 7, 0] rfl ?_
  have lp6 : ∀ (fu : Nat) (i : Int) (best : Int) (hi : 0 ≤ i ∧ i ≤ many) (hbest : best = rI (fun k => row (5 * k)) (fun k => row (5 * k + 1)) b year i) (hm : many - i < (fu : Int)), xG D p l e (xRm 1 32 0 0) s m args below meth c 9 A Q 0 0 [aI kI qr 300 row] [(0, .ref qr), (1, .int (jI many)), (2, .int (jI 5)), (3, .int (jI b)), (4, .int (jI year)), (5, .int (jI what)), (6, .int (jI best)), (7, .int (jI i))] 6 [] := by
    intro fu
    induction fu with
    | zero =>
      intro i best hi hbest hm
      exact absurd hm (by omega)
    | succ fu ih6 =>
      intro i best hi hbest hm
      have hbr : -1 ≤ best ∧ best < i ∨ best = -1 := by rw [hbest]; exact rI_rng hi.1
      refine x_iload F dX10_ruling_6 7 rfl ?_
      refine x_iload_n F dX10_ruling_8 rfl 1 rfl ?_
      refine x_icmp_ge (tgt := 86) F dX10_ruling_9 (by decide) (by omega) (fun c9 => ?_) (fun c9 => ?_)
      · -- 9 t
        refine x_iload F dX10_ruling_86 6 rfl ?_
        refine x_if_ge (tgt := 95) F dX10_ruling_88 (by decide) (by omega) (fun c88 => ?_) (fun c88 => ?_)
        · -- 88 t
          refine x_aload_n F dX10_ruling_95 rfl 0 rfl ?_
          refine x_iload_n F dX10_ruling_96 rfl 2 rfl ?_
          refine x_iload F dX10_ruling_97 6 rfl ?_
          refine x_imul F dX10_ruling_99 ?_
          refine x_iload F dX10_ruling_100 5 rfl ?_
          refine x_iadd F dX10_ruling_102 ?_
          refine x_iald F 0 rfl (by decide) (by omega) dX10_ruling_103 ?_
          have hr103 := Rg.at hrow ((5 * best) + what) (by omega)
          exact hret 0 0 104 _ (row ((5 * best) + what)) () (Nat.le_of_ble_eq_true rfl) (Nat.le_of_ble_eq_true rfl) dX10_ruling_104 (by unfold rV; rw [show many = i by omega, ← hbest]; first | (rw [if_pos (by omega)]) | (rw [if_neg (by omega)]))
        · -- 88 f
          refine x_iconst F dX10_ruling_91 ?_
          refine x_goto (tgt := 104) F dX10_ruling_92 (by decide) ?_
          exact hret 0 0 104 _ 0 () (Nat.le_of_ble_eq_true rfl) (Nat.le_of_ble_eq_true rfl) dX10_ruling_104 (by unfold rV; rw [show many = i by omega, ← hbest]; first | (rw [if_pos (by omega)]) | (rw [if_neg (by omega)]))
      · -- 9 f
        have jn40 : ∀ (zc : Int) (hzc : xBool zc (row (5 * i) = b ∧ row (5 * i + 1) ≤ year)), xG D p l e (xRm 1 32 0 0) s m args below meth c 9 A Q 0 0 [aI kI qr 300 row] [(0, .ref qr), (1, .int (jI many)), (2, .int (jI 5)), (3, .int (jI b)), (4, .int (jI year)), (5, .int (jI what)), (6, .int (jI best)), (7, .int (jI i))] 40 [.int (jI zc)] := by
          intro zc hzc
          refine x_istore (lv' := [(0, .ref qr), (1, .int (jI many)), (2, .int (jI 5)), (3, .int (jI b)), (4, .int (jI year)), (5, .int (jI what)), (6, .int (jI best)), (7, .int (jI i)), (8, .int (jI zc))]) F dX10_ruling_40 (by decide) [1, 2, 3, 4, 5, 6, 7, 8, 0] rfl ?_
          refine x_iload F dX10_ruling_42 8 rfl ?_
          refine x_beq (tgt := 76) F dX10_ruling_44 (by decide) hzc (fun c44 => ?_) (fun c44 => ?_)
          · -- 44 t
            refine x_iload F dX10_ruling_76 6 rfl ?_
            refine x_istore (lv' := [(0, .ref qr), (1, .int (jI many)), (2, .int (jI 5)), (3, .int (jI b)), (4, .int (jI year)), (5, .int (jI what)), (6, .int (jI best)), (7, .int (jI i)), (8, .int (jI zc))]) F dX10_ruling_78 (by decide) [1, 2, 3, 4, 5, 6, 0, 7, 8] rfl ?_
            refine x_iinc (lv' := [(0, .ref qr), (1, .int (jI many)), (2, .int (jI 5)), (3, .int (jI b)), (4, .int (jI year)), (5, .int (jI what)), (6, .int (jI best)), (7, .int (jI (i + 1))), (8, .int (jI zc))]) (k := 7) F dX10_ruling_80 rfl (by decide) [1, 2, 3, 4, 5, 6, 7, 0, 8] rfl ?_
            refine x_goto (tgt := 6) F dX10_ruling_83 (by decide) ?_
            refine x_lv (lv' := [(0, .ref qr), (1, .int (jI many)), (2, .int (jI 5)), (3, .int (jI b)), (4, .int (jI year)), (5, .int (jI what)), (6, .int (jI best)), (7, .int (jI (i + 1)))]) [0, 1, 2, 3, 4, 5, 6, 7] rfl ?_
            exact ih6 (i + 1) best (by omega) (by rw [rI_s hi.1, ← hbest]; first | (rw [if_pos (by omega)]) | (rw [if_neg (by omega)])) (by omega)
          · -- 44 f
            refine x_iload F dX10_ruling_47 6 rfl ?_
            refine x_if_lt (tgt := 71) F dX10_ruling_49 (by decide) (by omega) (fun c49 => ?_) (fun c49 => ?_)
            · -- 49 t
              refine x_iload F dX10_ruling_71 7 rfl ?_
              refine x_goto (tgt := 78) F dX10_ruling_73 (by decide) ?_
              refine x_istore (lv' := [(0, .ref qr), (1, .int (jI many)), (2, .int (jI 5)), (3, .int (jI b)), (4, .int (jI year)), (5, .int (jI what)), (6, .int (jI i)), (7, .int (jI i)), (8, .int (jI zc))]) F dX10_ruling_78 (by decide) [1, 2, 3, 4, 5, 6, 0, 7, 8] rfl ?_
              refine x_iinc (lv' := [(0, .ref qr), (1, .int (jI many)), (2, .int (jI 5)), (3, .int (jI b)), (4, .int (jI year)), (5, .int (jI what)), (6, .int (jI i)), (7, .int (jI (i + 1))), (8, .int (jI zc))]) (k := 7) F dX10_ruling_80 rfl (by decide) [1, 2, 3, 4, 5, 6, 7, 0, 8] rfl ?_
              refine x_goto (tgt := 6) F dX10_ruling_83 (by decide) ?_
              refine x_lv (lv' := [(0, .ref qr), (1, .int (jI many)), (2, .int (jI 5)), (3, .int (jI b)), (4, .int (jI year)), (5, .int (jI what)), (6, .int (jI i)), (7, .int (jI (i + 1)))]) [0, 1, 2, 3, 4, 5, 6, 7] rfl ?_
              exact ih6 (i + 1) i (by omega) (by rw [rI_s hi.1, ← hbest]; first | (rw [if_pos (by omega)]) | (rw [if_neg (by omega)])) (by omega)
            · -- 49 f
              refine x_aload_n F dX10_ruling_52 rfl 0 rfl ?_
              refine x_iload_n F dX10_ruling_53 rfl 2 rfl ?_
              refine x_iload F dX10_ruling_54 7 rfl ?_
              refine x_imul F dX10_ruling_56 ?_
              refine x_iconst F dX10_ruling_57 ?_
              refine x_iadd F dX10_ruling_58 ?_
              refine x_iald F 0 rfl (by decide) (by omega) dX10_ruling_59 ?_
              have hr59 := Rg.at hrow ((5 * i) + 1) (by omega)
              refine x_aload_n F dX10_ruling_60 rfl 0 rfl ?_
              refine x_iload_n F dX10_ruling_61 rfl 2 rfl ?_
              refine x_iload F dX10_ruling_62 6 rfl ?_
              refine x_imul F dX10_ruling_64 ?_
              refine x_iconst F dX10_ruling_65 ?_
              refine x_iadd F dX10_ruling_66 ?_
              refine x_iald F 0 rfl (by decide) (by omega) dX10_ruling_67 ?_
              have hr67 := Rg.at hrow ((5 * best) + 1) (by omega)
              refine x_icmp_lt (tgt := 76) F dX10_ruling_68 (by decide) (by omega) (fun c68 => ?_) (fun c68 => ?_)
              · -- 68 t
                refine x_iload F dX10_ruling_76 6 rfl ?_
                refine x_istore (lv' := [(0, .ref qr), (1, .int (jI many)), (2, .int (jI 5)), (3, .int (jI b)), (4, .int (jI year)), (5, .int (jI what)), (6, .int (jI best)), (7, .int (jI i)), (8, .int (jI zc))]) F dX10_ruling_78 (by decide) [1, 2, 3, 4, 5, 6, 0, 7, 8] rfl ?_
                refine x_iinc (lv' := [(0, .ref qr), (1, .int (jI many)), (2, .int (jI 5)), (3, .int (jI b)), (4, .int (jI year)), (5, .int (jI what)), (6, .int (jI best)), (7, .int (jI (i + 1))), (8, .int (jI zc))]) (k := 7) F dX10_ruling_80 rfl (by decide) [1, 2, 3, 4, 5, 6, 7, 0, 8] rfl ?_
                refine x_goto (tgt := 6) F dX10_ruling_83 (by decide) ?_
                refine x_lv (lv' := [(0, .ref qr), (1, .int (jI many)), (2, .int (jI 5)), (3, .int (jI b)), (4, .int (jI year)), (5, .int (jI what)), (6, .int (jI best)), (7, .int (jI (i + 1)))]) [0, 1, 2, 3, 4, 5, 6, 7] rfl ?_
                exact ih6 (i + 1) best (by omega) (by rw [rI_s hi.1, ← hbest]; first | (rw [if_pos (by omega)]) | (rw [if_neg (by omega)])) (by omega)
              · -- 68 f
                refine x_iload F dX10_ruling_71 7 rfl ?_
                refine x_goto (tgt := 78) F dX10_ruling_73 (by decide) ?_
                refine x_istore (lv' := [(0, .ref qr), (1, .int (jI many)), (2, .int (jI 5)), (3, .int (jI b)), (4, .int (jI year)), (5, .int (jI what)), (6, .int (jI i)), (7, .int (jI i)), (8, .int (jI zc))]) F dX10_ruling_78 (by decide) [1, 2, 3, 4, 5, 6, 0, 7, 8] rfl ?_
                refine x_iinc (lv' := [(0, .ref qr), (1, .int (jI many)), (2, .int (jI 5)), (3, .int (jI b)), (4, .int (jI year)), (5, .int (jI what)), (6, .int (jI i)), (7, .int (jI (i + 1))), (8, .int (jI zc))]) (k := 7) F dX10_ruling_80 rfl (by decide) [1, 2, 3, 4, 5, 6, 7, 0, 8] rfl ?_
                refine x_goto (tgt := 6) F dX10_ruling_83 (by decide) ?_
                refine x_lv (lv' := [(0, .ref qr), (1, .int (jI many)), (2, .int (jI 5)), (3, .int (jI b)), (4, .int (jI year)), (5, .int (jI what)), (6, .int (jI i)), (7, .int (jI (i + 1)))]) [0, 1, 2, 3, 4, 5, 6, 7] rfl ?_
                exact ih6 (i + 1) i (by omega) (by rw [rI_s hi.1, ← hbest]; first | (rw [if_pos (by omega)]) | (rw [if_neg (by omega)])) (by omega)
        refine x_aload_n F dX10_ruling_12 rfl 0 rfl ?_
        refine x_iload_n F dX10_ruling_13 rfl 2 rfl ?_
        refine x_iload F dX10_ruling_14 7 rfl ?_
        refine x_imul F dX10_ruling_16 ?_
        refine x_iald F 0 rfl (by decide) (by omega) dX10_ruling_17 ?_
        have hr17 := Rg.at hrow (5 * i) (by omega)
        refine x_iload_n F dX10_ruling_18 rfl 3 rfl ?_
        refine x_icmp_ne (tgt := 39) F dX10_ruling_19 (by decide) (by omega) (fun c19 => ?_) (fun c19 => ?_)
        · -- 19 t
          refine x_iconst F dX10_ruling_39 ?_
          exact jn40 0 (by first | exact xBool_t (by omega) | exact xBool_f (by omega))
        · -- 19 f
          refine x_aload_n F dX10_ruling_22 rfl 0 rfl ?_
          refine x_iload_n F dX10_ruling_23 rfl 2 rfl ?_
          refine x_iload F dX10_ruling_24 7 rfl ?_
          refine x_imul F dX10_ruling_26 ?_
          refine x_iconst F dX10_ruling_27 ?_
          refine x_iadd F dX10_ruling_28 ?_
          refine x_iald F 0 rfl (by decide) (by omega) dX10_ruling_29 ?_
          have hr29 := Rg.at hrow ((5 * i) + 1) (by omega)
          refine x_iload F dX10_ruling_30 4 rfl ?_
          refine x_icmp_gt (tgt := 39) F dX10_ruling_32 (by decide) (by omega) (fun c32 => ?_) (fun c32 => ?_)
          · -- 32 t
            refine x_iconst F dX10_ruling_39 ?_
            exact jn40 0 (by first | exact xBool_t (by omega) | exact xBool_f (by omega))
          · -- 32 f
            refine x_iconst F dX10_ruling_35 ?_
            refine x_goto (tgt := 40) F dX10_ruling_36 (by decide) ?_
            exact jn40 1 (by first | exact xBool_t (by omega) | exact xBool_f (by omega))
  exact lp6 (Int.toNat (many - 0) + 1) 0 (-1) (by omega) rfl (by omega)
set_option maxHeartbeats 4000000 in
set_option maxRecDepth 100000 in
theorem c_ruling3 (D : va_G) (kI kJ : Nat) (l : Launch) (qr : Nat) (many : Int) (b : Int) (year : Int) (what : Int) (row : (Int → Int)) (hr_b : -2147483648 ≤ b ∧ b < 2147483648) (hr_year : -2147483648 ≤ year ∧ year < 2147483648) (hmany : 0 ≤ many ∧ many ≤ 60) (hwhat : 0 ≤ what ∧ what < 3) (hrow : Rg row 180 (-2147483648) 2147483647) : xMi D kI kJ l yX10_ruling wsX10_ruling 1 32 0 0 [.ref qr, .int (jI many), .int (jI 3), .int (jI b), .int (jI year), .int (jI what)] [aI kI qr 180 row] (fun (z : Int) (u : Unit) => z = rV (fun k => row (3 * k)) (fun k => row (3 * k + 1)) (fun k => row (3 * k + what)) b year many) (fun (u : Unit) => [aI kI qr 180 row]) := by
  refine xMi_of (cc := cX10_ruling) (maxL := 9) (rt := .int) (by decide) rfl (Nat.le_of_ble_eq_true rfl) (fun _ _ _ => rfl) ?_
  intro p e s m args below meth c A Q F hin2 hret
  refine x_lveq (lv' := [(0, .ref qr), (1, .int (jI many)), (2, .int (jI 3)), (3, .int (jI b)), (4, .int (jI year)), (5, .int (jI what))]) rfl ?_
  refine x_iconst F dX10_ruling_0 ?_
  refine x_istore (lv' := [(0, .ref qr), (1, .int (jI many)), (2, .int (jI 3)), (3, .int (jI b)), (4, .int (jI year)), (5, .int (jI what)), (6, .int (jI (-1)))]) F dX10_ruling_1 (by decide) [1, 2, 3, 4, 5, 6, 0] rfl ?_
  refine x_iconst F dX10_ruling_3 ?_
  refine x_istore (lv' := [(0, .ref qr), (1, .int (jI many)), (2, .int (jI 3)), (3, .int (jI b)), (4, .int (jI year)), (5, .int (jI what)), (6, .int (jI (-1))), (7, .int (jI 0))]) F dX10_ruling_4 (by decide) [1, 2, 3, 4, 5, 6, 7, 0] rfl ?_
  have lp6 : ∀ (fu : Nat) (i : Int) (best : Int) (hi : 0 ≤ i ∧ i ≤ many) (hbest : best = rI (fun k => row (3 * k)) (fun k => row (3 * k + 1)) b year i) (hm : many - i < (fu : Int)), xG D p l e (xRm 1 32 0 0) s m args below meth c 9 A Q 0 0 [aI kI qr 180 row] [(0, .ref qr), (1, .int (jI many)), (2, .int (jI 3)), (3, .int (jI b)), (4, .int (jI year)), (5, .int (jI what)), (6, .int (jI best)), (7, .int (jI i))] 6 [] := by
    intro fu
    induction fu with
    | zero =>
      intro i best hi hbest hm
      exact absurd hm (by omega)
    | succ fu ih6 =>
      intro i best hi hbest hm
      have hbr : -1 ≤ best ∧ best < i ∨ best = -1 := by rw [hbest]; exact rI_rng hi.1
      refine x_iload F dX10_ruling_6 7 rfl ?_
      refine x_iload_n F dX10_ruling_8 rfl 1 rfl ?_
      refine x_icmp_ge (tgt := 86) F dX10_ruling_9 (by decide) (by omega) (fun c9 => ?_) (fun c9 => ?_)
      · -- 9 t
        refine x_iload F dX10_ruling_86 6 rfl ?_
        refine x_if_ge (tgt := 95) F dX10_ruling_88 (by decide) (by omega) (fun c88 => ?_) (fun c88 => ?_)
        · -- 88 t
          refine x_aload_n F dX10_ruling_95 rfl 0 rfl ?_
          refine x_iload_n F dX10_ruling_96 rfl 2 rfl ?_
          refine x_iload F dX10_ruling_97 6 rfl ?_
          refine x_imul F dX10_ruling_99 ?_
          refine x_iload F dX10_ruling_100 5 rfl ?_
          refine x_iadd F dX10_ruling_102 ?_
          refine x_iald F 0 rfl (by decide) (by omega) dX10_ruling_103 ?_
          have hr103 := Rg.at hrow ((3 * best) + what) (by omega)
          exact hret 0 0 104 _ (row ((3 * best) + what)) () (Nat.le_of_ble_eq_true rfl) (Nat.le_of_ble_eq_true rfl) dX10_ruling_104 (by unfold rV; rw [show many = i by omega, ← hbest]; first | (rw [if_pos (by omega)]) | (rw [if_neg (by omega)]))
        · -- 88 f
          refine x_iconst F dX10_ruling_91 ?_
          refine x_goto (tgt := 104) F dX10_ruling_92 (by decide) ?_
          exact hret 0 0 104 _ 0 () (Nat.le_of_ble_eq_true rfl) (Nat.le_of_ble_eq_true rfl) dX10_ruling_104 (by unfold rV; rw [show many = i by omega, ← hbest]; first | (rw [if_pos (by omega)]) | (rw [if_neg (by omega)]))
      · -- 9 f
        have jn40 : ∀ (zc : Int) (hzc : xBool zc (row (3 * i) = b ∧ row (3 * i + 1) ≤ year)), xG D p l e (xRm 1 32 0 0) s m args below meth c 9 A Q 0 0 [aI kI qr 180 row] [(0, .ref qr), (1, .int (jI many)), (2, .int (jI 3)), (3, .int (jI b)), (4, .int (jI year)), (5, .int (jI what)), (6, .int (jI best)), (7, .int (jI i))] 40 [.int (jI zc)] := by
          intro zc hzc
          refine x_istore (lv' := [(0, .ref qr), (1, .int (jI many)), (2, .int (jI 3)), (3, .int (jI b)), (4, .int (jI year)), (5, .int (jI what)), (6, .int (jI best)), (7, .int (jI i)), (8, .int (jI zc))]) F dX10_ruling_40 (by decide) [1, 2, 3, 4, 5, 6, 7, 8, 0] rfl ?_
          refine x_iload F dX10_ruling_42 8 rfl ?_
          refine x_beq (tgt := 76) F dX10_ruling_44 (by decide) hzc (fun c44 => ?_) (fun c44 => ?_)
          · -- 44 t
            refine x_iload F dX10_ruling_76 6 rfl ?_
            refine x_istore (lv' := [(0, .ref qr), (1, .int (jI many)), (2, .int (jI 3)), (3, .int (jI b)), (4, .int (jI year)), (5, .int (jI what)), (6, .int (jI best)), (7, .int (jI i)), (8, .int (jI zc))]) F dX10_ruling_78 (by decide) [1, 2, 3, 4, 5, 6, 0, 7, 8] rfl ?_
            refine x_iinc (lv' := [(0, .ref qr), (1, .int (jI many)), (2, .int (jI 3)), (3, .int (jI b)), (4, .int (jI year)), (5, .int (jI what)), (6, .int (jI best)), (7, .int (jI (i + 1))), (8, .int (jI zc))]) (k := 7) F dX10_ruling_80 rfl (by decide) [1, 2, 3, 4, 5, 6, 7, 0, 8] rfl ?_
            refine x_goto (tgt := 6) F dX10_ruling_83 (by decide) ?_
            refine x_lv (lv' := [(0, .ref qr), (1, .int (jI many)), (2, .int (jI 3)), (3, .int (jI b)), (4, .int (jI year)), (5, .int (jI what)), (6, .int (jI best)), (7, .int (jI (i + 1)))]) [0, 1, 2, 3, 4, 5, 6, 7] rfl ?_
            exact ih6 (i + 1) best (by omega) (by rw [rI_s hi.1, ← hbest]; first | (rw [if_pos (by omega)]) | (rw [if_neg (by omega)])) (by omega)
          · -- 44 f
            refine x_iload F dX10_ruling_47 6 rfl ?_
            refine x_if_lt (tgt := 71) F dX10_ruling_49 (by decide) (by omega) (fun c49 => ?_) (fun c49 => ?_)
            · -- 49 t
              refine x_iload F dX10_ruling_71 7 rfl ?_
              refine x_goto (tgt := 78) F dX10_ruling_73 (by decide) ?_
              refine x_istore (lv' := [(0, .ref qr), (1, .int (jI many)), (2, .int (jI 3)), (3, .int (jI b)), (4, .int (jI year)), (5, .int (jI what)), (6, .int (jI i)), (7, .int (jI i)), (8, .int (jI zc))]) F dX10_ruling_78 (by decide) [1, 2, 3, 4, 5, 6, 0, 7, 8] rfl ?_
              refine x_iinc (lv' := [(0, .ref qr), (1, .int (jI many)), (2, .int (jI 3)), (3, .int (jI b)), (4, .int (jI year)), (5, .int (jI what)), (6, .int (jI i)), (7, .int (jI (i + 1))), (8, .int (jI zc))]) (k := 7) F dX10_ruling_80 rfl (by decide) [1, 2, 3, 4, 5, 6, 7, 0, 8] rfl ?_
              refine x_goto (tgt := 6) F dX10_ruling_83 (by decide) ?_
              refine x_lv (lv' := [(0, .ref qr), (1, .int (jI many)), (2, .int (jI 3)), (3, .int (jI b)), (4, .int (jI year)), (5, .int (jI what)), (6, .int (jI i)), (7, .int (jI (i + 1)))]) [0, 1, 2, 3, 4, 5, 6, 7] rfl ?_
              exact ih6 (i + 1) i (by omega) (by rw [rI_s hi.1, ← hbest]; first | (rw [if_pos (by omega)]) | (rw [if_neg (by omega)])) (by omega)
            · -- 49 f
              refine x_aload_n F dX10_ruling_52 rfl 0 rfl ?_
              refine x_iload_n F dX10_ruling_53 rfl 2 rfl ?_
              refine x_iload F dX10_ruling_54 7 rfl ?_
              refine x_imul F dX10_ruling_56 ?_
              refine x_iconst F dX10_ruling_57 ?_
              refine x_iadd F dX10_ruling_58 ?_
              refine x_iald F 0 rfl (by decide) (by omega) dX10_ruling_59 ?_
              have hr59 := Rg.at hrow ((3 * i) + 1) (by omega)
              refine x_aload_n F dX10_ruling_60 rfl 0 rfl ?_
              refine x_iload_n F dX10_ruling_61 rfl 2 rfl ?_
              refine x_iload F dX10_ruling_62 6 rfl ?_
              refine x_imul F dX10_ruling_64 ?_
              refine x_iconst F dX10_ruling_65 ?_
              refine x_iadd F dX10_ruling_66 ?_
              refine x_iald F 0 rfl (by decide) (by omega) dX10_ruling_67 ?_
              have hr67 := Rg.at hrow ((3 * best) + 1) (by omega)
              refine x_icmp_lt (tgt := 76) F dX10_ruling_68 (by decide) (by omega) (fun c68 => ?_) (fun c68 => ?_)
              · -- 68 t
                refine x_iload F dX10_ruling_76 6 rfl ?_
                refine x_istore (lv' := [(0, .ref qr), (1, .int (jI many)), (2, .int (jI 3)), (3, .int (jI b)), (4, .int (jI year)), (5, .int (jI what)), (6, .int (jI best)), (7, .int (jI i)), (8, .int (jI zc))]) F dX10_ruling_78 (by decide) [1, 2, 3, 4, 5, 6, 0, 7, 8] rfl ?_
                refine x_iinc (lv' := [(0, .ref qr), (1, .int (jI many)), (2, .int (jI 3)), (3, .int (jI b)), (4, .int (jI year)), (5, .int (jI what)), (6, .int (jI best)), (7, .int (jI (i + 1))), (8, .int (jI zc))]) (k := 7) F dX10_ruling_80 rfl (by decide) [1, 2, 3, 4, 5, 6, 7, 0, 8] rfl ?_
                refine x_goto (tgt := 6) F dX10_ruling_83 (by decide) ?_
                refine x_lv (lv' := [(0, .ref qr), (1, .int (jI many)), (2, .int (jI 3)), (3, .int (jI b)), (4, .int (jI year)), (5, .int (jI what)), (6, .int (jI best)), (7, .int (jI (i + 1)))]) [0, 1, 2, 3, 4, 5, 6, 7] rfl ?_
                exact ih6 (i + 1) best (by omega) (by rw [rI_s hi.1, ← hbest]; first | (rw [if_pos (by omega)]) | (rw [if_neg (by omega)])) (by omega)
              · -- 68 f
                refine x_iload F dX10_ruling_71 7 rfl ?_
                refine x_goto (tgt := 78) F dX10_ruling_73 (by decide) ?_
                refine x_istore (lv' := [(0, .ref qr), (1, .int (jI many)), (2, .int (jI 3)), (3, .int (jI b)), (4, .int (jI year)), (5, .int (jI what)), (6, .int (jI i)), (7, .int (jI i)), (8, .int (jI zc))]) F dX10_ruling_78 (by decide) [1, 2, 3, 4, 5, 6, 0, 7, 8] rfl ?_
                refine x_iinc (lv' := [(0, .ref qr), (1, .int (jI many)), (2, .int (jI 3)), (3, .int (jI b)), (4, .int (jI year)), (5, .int (jI what)), (6, .int (jI i)), (7, .int (jI (i + 1))), (8, .int (jI zc))]) (k := 7) F dX10_ruling_80 rfl (by decide) [1, 2, 3, 4, 5, 6, 7, 0, 8] rfl ?_
                refine x_goto (tgt := 6) F dX10_ruling_83 (by decide) ?_
                refine x_lv (lv' := [(0, .ref qr), (1, .int (jI many)), (2, .int (jI 3)), (3, .int (jI b)), (4, .int (jI year)), (5, .int (jI what)), (6, .int (jI i)), (7, .int (jI (i + 1)))]) [0, 1, 2, 3, 4, 5, 6, 7] rfl ?_
                exact ih6 (i + 1) i (by omega) (by rw [rI_s hi.1, ← hbest]; first | (rw [if_pos (by omega)]) | (rw [if_neg (by omega)])) (by omega)
        refine x_aload_n F dX10_ruling_12 rfl 0 rfl ?_
        refine x_iload_n F dX10_ruling_13 rfl 2 rfl ?_
        refine x_iload F dX10_ruling_14 7 rfl ?_
        refine x_imul F dX10_ruling_16 ?_
        refine x_iald F 0 rfl (by decide) (by omega) dX10_ruling_17 ?_
        have hr17 := Rg.at hrow (3 * i) (by omega)
        refine x_iload_n F dX10_ruling_18 rfl 3 rfl ?_
        refine x_icmp_ne (tgt := 39) F dX10_ruling_19 (by decide) (by omega) (fun c19 => ?_) (fun c19 => ?_)
        · -- 19 t
          refine x_iconst F dX10_ruling_39 ?_
          exact jn40 0 (by first | exact xBool_t (by omega) | exact xBool_f (by omega))
        · -- 19 f
          refine x_aload_n F dX10_ruling_22 rfl 0 rfl ?_
          refine x_iload_n F dX10_ruling_23 rfl 2 rfl ?_
          refine x_iload F dX10_ruling_24 7 rfl ?_
          refine x_imul F dX10_ruling_26 ?_
          refine x_iconst F dX10_ruling_27 ?_
          refine x_iadd F dX10_ruling_28 ?_
          refine x_iald F 0 rfl (by decide) (by omega) dX10_ruling_29 ?_
          have hr29 := Rg.at hrow ((3 * i) + 1) (by omega)
          refine x_iload F dX10_ruling_30 4 rfl ?_
          refine x_icmp_gt (tgt := 39) F dX10_ruling_32 (by decide) (by omega) (fun c32 => ?_) (fun c32 => ?_)
          · -- 32 t
            refine x_iconst F dX10_ruling_39 ?_
            exact jn40 0 (by first | exact xBool_t (by omega) | exact xBool_f (by omega))
          · -- 32 f
            refine x_iconst F dX10_ruling_35 ?_
            refine x_goto (tgt := 40) F dX10_ruling_36 (by decide) ?_
            exact jn40 1 (by first | exact xBool_t (by omega) | exact xBool_f (by omega))
  exact lp6 (Int.toNat (many - 0) + 1) 0 (-1) (by omega) rfl (by omega)
