set_option maxHeartbeats 4000000 in
set_option maxRecDepth 100000 in
theorem c_X10_placeOf (D : va_G) (kI kJ : Nat) (l : Launch) (qO : Nat) (b : Int) (year : Int) (what : Int) (vO_blocks : Int) (qO_stones : Nat) (qO_laid : Nat) (qO_deep : Nat) (vO_placings : Int) (qO_placed : Nat) (vO_mortars : Int) (qO_put : Nat) (qO_rates : Nat) (vO_limit : Int) (vO_looks : Int) (qO_seen : Nat) (qO_text : Nat) (vO_texted : Int) (vO_faultPlace : Int) (vO_clauses : Int) (qO_rule : Nat) (qO_fresh : Nat) (vO_lots : Int) (qO_stocks : Nat) (qO_row : Nat) (qO_dangers : Nat) (qO_losses : Nat) (vO_upper : Int) (vO_lower : Int) (qO_habitUpper : Nat) (qO_habitLower : Nat) (vO_at : Int) (vO_word : Int) (vO_wordEnd : Int) (qO_chosen : Nat) (qO_lost : Nat) (qO_zones : Nat) (qO_way : Nat) (qO_spent : Nat) (qO_scaffolds : Nat) (fO_placed : (Int → Int)) (hr_b : -2147483648 ≤ b ∧ b < 2147483648) (hr_year : -2147483648 ≤ year ∧ year < 2147483648) (hOp : 0 ≤ vO_placings ∧ vO_placings ≤ 60) (hOpr : Rg fO_placed 300 0 400) (hwhat : 0 ≤ what ∧ what < 5) : xMi D kI kJ l yX10_placeOf wsX10_placeOf 2 60 0 0 [.ref qO, .int (jI b), .int (jI year), .int (jI what)] [(qO, .inr (10, [.int (jI vO_blocks), .ref qO_stones, .ref qO_laid, .ref qO_deep, .int (jI vO_placings), .ref qO_placed, .int (jI vO_mortars), .ref qO_put, .ref qO_rates, .int (jI vO_limit), .int (jI vO_looks), .ref qO_seen, .ref qO_text, .int (jI vO_texted), .int (jI vO_faultPlace), .int (jI vO_clauses), .ref qO_rule, .ref qO_fresh, .int (jI vO_lots), .ref qO_stocks, .ref qO_row, .ref qO_dangers, .ref qO_losses, .long (jL vO_upper), .long (jL vO_lower), .ref qO_habitUpper, .ref qO_habitLower, .int (jI vO_at), .long (jL vO_word), .int (jI vO_wordEnd), .ref qO_chosen, .ref qO_lost, .ref qO_zones, .ref qO_way, .ref qO_spent, .ref qO_scaffolds])), aI kI qO_placed 300 fO_placed] (fun (z : Int) (u : Unit) => z = oPl fO_placed b year vO_placings what) (fun (u : Unit) => [(qO, .inr (10, [.int (jI vO_blocks), .ref qO_stones, .ref qO_laid, .ref qO_deep, .int (jI vO_placings), .ref qO_placed, .int (jI vO_mortars), .ref qO_put, .ref qO_rates, .int (jI vO_limit), .int (jI vO_looks), .ref qO_seen, .ref qO_text, .int (jI vO_texted), .int (jI vO_faultPlace), .int (jI vO_clauses), .ref qO_rule, .ref qO_fresh, .int (jI vO_lots), .ref qO_stocks, .ref qO_row, .ref qO_dangers, .ref qO_losses, .long (jL vO_upper), .long (jL vO_lower), .ref qO_habitUpper, .ref qO_habitLower, .int (jI vO_at), .long (jL vO_word), .int (jI vO_wordEnd), .ref qO_chosen, .ref qO_lost, .ref qO_zones, .ref qO_way, .ref qO_spent, .ref qO_scaffolds])), aI kI qO_placed 300 fO_placed]) := by
  refine xMi_of (cc := cX10_placeOf) (maxL := 4) (rt := .int) (by decide) rfl (Nat.le_of_ble_eq_true rfl) (fun _ _ _ => rfl) ?_
  intro p e s m args below meth c A Q F hin2 hret
  have hin10 : ∀ w ∈ wsX100, w ∈ wsX10_placeOf := by decide +kernel
  have hw0 : Cond.fieldLink RX10 19 (TX10 5).1 (TX10 5).2.1 (TX10 5).2.2.1 ∈ wsX10_placeOf := by decide +kernel
  have hw1 : Cond.fieldLink RX10 106 (TX10 4).1 (TX10 4).2.1 (TX10 4).2.2.1 ∈ wsX10_placeOf := by decide +kernel
  refine x_lveq (lv' := [(0, .ref qO), (1, .int (jI b)), (2, .int (jI year)), (3, .int (jI what))]) rfl ?_
  refine x_aload_n F dX10_placeOf_0 rfl 0 rfl ?_
  refine x_get (ci := 10) F hin10 0 rfl rfl 5 (by decide) hw0 rfl dX10_placeOf_1 ?_
  refine x_aload_n F dX10_placeOf_4 rfl 0 rfl ?_
  refine x_get (ci := 10) F hin10 0 rfl rfl 4 (by decide) hw1 rfl dX10_placeOf_5 ?_
  refine x_iconst F dX10_placeOf_8 ?_
  refine x_iload_n F dX10_placeOf_9 rfl 1 rfl ?_
  refine x_iload_n F dX10_placeOf_10 rfl 2 rfl ?_
  refine x_iload_n F dX10_placeOf_11 rfl 3 rfl ?_
  refine x_callSi (As := [.ref qO_placed, .int (jI vO_placings), .int (jI 5), .int (jI b), .int (jI year), .int (jI what)]) (st := []) F (c_ruling5 D kI kJ l qO_placed vO_placings b year what fO_placed hr_b hr_year (by omega) hwhat (Rg.mono hOpr (by omega))) (va_cwS 6 F.2.2.2.2.1 gX10_placeOf_X10_ruling rfl rfl rfl (by decide +kernel) ⟨Nat.le_of_ble_eq_true rfl, Nat.le_of_ble_eq_true rfl⟩) [1] [0] [0, 1] rfl rfl (by decide) (by decide) (by decide) (fun _ => rfl) (by decide) rfl (Nat.le_of_ble_eq_true rfl) dX10_placeOf_12 ⟨Nat.le_of_ble_eq_true rfl, Nat.le_of_ble_eq_true rfl⟩ (fun z12 u12 h12 => ?_)
  try dsimp only at h12
  refine x_ws [(qO, .inr (10, [.int (jI vO_blocks), .ref qO_stones, .ref qO_laid, .ref qO_deep, .int (jI vO_placings), .ref qO_placed, .int (jI vO_mortars), .ref qO_put, .ref qO_rates, .int (jI vO_limit), .int (jI vO_looks), .ref qO_seen, .ref qO_text, .int (jI vO_texted), .int (jI vO_faultPlace), .int (jI vO_clauses), .ref qO_rule, .ref qO_fresh, .int (jI vO_lots), .ref qO_stocks, .ref qO_row, .ref qO_dangers, .ref qO_losses, .long (jL vO_upper), .long (jL vO_lower), .ref qO_habitUpper, .ref qO_habitLower, .int (jI vO_at), .long (jL vO_word), .int (jI vO_wordEnd), .ref qO_chosen, .ref qO_lost, .ref qO_zones, .ref qO_way, .ref qO_spent, .ref qO_scaffolds])), aI kI qO_placed 300 fO_placed] rfl ?_
  subst h12
  exact hret 0 0 15 _ (rV (fun k => fO_placed (5 * k)) (fun k => fO_placed (5 * k + 1)) (fun k => fO_placed (5 * k + what)) b year vO_placings) () (Nat.le_of_ble_eq_true rfl) (Nat.le_of_ble_eq_true rfl) dX10_placeOf_15 (rfl)
set_option maxHeartbeats 4000000 in
set_option maxRecDepth 100000 in
theorem c_X10_harmOf (D : va_G) (kI kJ : Nat) (l : Launch) (qO : Nat) (b : Int) (year : Int) (vO_blocks : Int) (qO_stones : Nat) (qO_laid : Nat) (qO_deep : Nat) (vO_placings : Int) (qO_placed : Nat) (vO_mortars : Int) (qO_put : Nat) (qO_rates : Nat) (vO_limit : Int) (vO_looks : Int) (qO_seen : Nat) (qO_text : Nat) (vO_texted : Int) (vO_faultPlace : Int) (vO_clauses : Int) (qO_rule : Nat) (qO_fresh : Nat) (vO_lots : Int) (qO_stocks : Nat) (qO_row : Nat) (qO_dangers : Nat) (qO_losses : Nat) (vO_upper : Int) (vO_lower : Int) (qO_habitUpper : Nat) (qO_habitLower : Nat) (vO_at : Int) (vO_word : Int) (vO_wordEnd : Int) (qO_chosen : Nat) (qO_lost : Nat) (qO_zones : Nat) (qO_way : Nat) (qO_spent : Nat) (qO_scaffolds : Nat) (fO_put : (Int → Int)) (hr_b : -2147483648 ≤ b ∧ b < 2147483648) (hr_year : -2147483648 ≤ year ∧ year < 2147483648) (hOm : 0 ≤ vO_mortars ∧ vO_mortars ≤ 60) (hOmr : Rg fO_put 180 0 400) : xMi D kI kJ l yX10_harmOf wsX10_harmOf 2 60 0 0 [.ref qO, .int (jI b), .int (jI year)] [(qO, .inr (10, [.int (jI vO_blocks), .ref qO_stones, .ref qO_laid, .ref qO_deep, .int (jI vO_placings), .ref qO_placed, .int (jI vO_mortars), .ref qO_put, .ref qO_rates, .int (jI vO_limit), .int (jI vO_looks), .ref qO_seen, .ref qO_text, .int (jI vO_texted), .int (jI vO_faultPlace), .int (jI vO_clauses), .ref qO_rule, .ref qO_fresh, .int (jI vO_lots), .ref qO_stocks, .ref qO_row, .ref qO_dangers, .ref qO_losses, .long (jL vO_upper), .long (jL vO_lower), .ref qO_habitUpper, .ref qO_habitLower, .int (jI vO_at), .long (jL vO_word), .int (jI vO_wordEnd), .ref qO_chosen, .ref qO_lost, .ref qO_zones, .ref qO_way, .ref qO_spent, .ref qO_scaffolds])), aI kI qO_put 180 fO_put] (fun (z : Int) (u : Unit) => z = oHm fO_put b year vO_mortars) (fun (u : Unit) => [(qO, .inr (10, [.int (jI vO_blocks), .ref qO_stones, .ref qO_laid, .ref qO_deep, .int (jI vO_placings), .ref qO_placed, .int (jI vO_mortars), .ref qO_put, .ref qO_rates, .int (jI vO_limit), .int (jI vO_looks), .ref qO_seen, .ref qO_text, .int (jI vO_texted), .int (jI vO_faultPlace), .int (jI vO_clauses), .ref qO_rule, .ref qO_fresh, .int (jI vO_lots), .ref qO_stocks, .ref qO_row, .ref qO_dangers, .ref qO_losses, .long (jL vO_upper), .long (jL vO_lower), .ref qO_habitUpper, .ref qO_habitLower, .int (jI vO_at), .long (jL vO_word), .int (jI vO_wordEnd), .ref qO_chosen, .ref qO_lost, .ref qO_zones, .ref qO_way, .ref qO_spent, .ref qO_scaffolds])), aI kI qO_put 180 fO_put]) := by
  refine xMi_of (cc := cX10_harmOf) (maxL := 3) (rt := .int) (by decide) rfl (Nat.le_of_ble_eq_true rfl) (fun _ _ _ => rfl) ?_
  intro p e s m args below meth c A Q F hin2 hret
  have hin10 : ∀ w ∈ wsX100, w ∈ wsX10_harmOf := by decide +kernel
  have hw0 : Cond.fieldLink RX10 22 (TX10 7).1 (TX10 7).2.1 (TX10 7).2.2.1 ∈ wsX10_harmOf := by decide +kernel
  have hw1 : Cond.fieldLink RX10 109 (TX10 6).1 (TX10 6).2.1 (TX10 6).2.2.1 ∈ wsX10_harmOf := by decide +kernel
  refine x_lveq (lv' := [(0, .ref qO), (1, .int (jI b)), (2, .int (jI year))]) rfl ?_
  refine x_aload_n F dX10_harmOf_0 rfl 0 rfl ?_
  refine x_get (ci := 10) F hin10 0 rfl rfl 7 (by decide) hw0 rfl dX10_harmOf_1 ?_
  refine x_aload_n F dX10_harmOf_4 rfl 0 rfl ?_
  refine x_get (ci := 10) F hin10 0 rfl rfl 6 (by decide) hw1 rfl dX10_harmOf_5 ?_
  refine x_iconst F dX10_harmOf_8 ?_
  refine x_iload_n F dX10_harmOf_9 rfl 1 rfl ?_
  refine x_iload_n F dX10_harmOf_10 rfl 2 rfl ?_
  refine x_iconst F dX10_harmOf_11 ?_
  refine x_callSi (As := [.ref qO_put, .int (jI vO_mortars), .int (jI 3), .int (jI b), .int (jI year), .int (jI 2)]) (st := []) F (c_ruling3 D kI kJ l qO_put vO_mortars b year 2 fO_put hr_b hr_year (by omega) (by omega) (Rg.mono hOmr (by omega))) (va_cwS 6 F.2.2.2.2.1 gX10_harmOf_X10_ruling rfl rfl rfl (by decide +kernel) ⟨Nat.le_of_ble_eq_true rfl, Nat.le_of_ble_eq_true rfl⟩) [1] [0] [0, 1] rfl rfl (by decide) (by decide) (by decide) (fun _ => rfl) (by decide) rfl (Nat.le_of_ble_eq_true rfl) dX10_harmOf_12 ⟨Nat.le_of_ble_eq_true rfl, Nat.le_of_ble_eq_true rfl⟩ (fun z12 u12 h12 => ?_)
  try dsimp only at h12
  refine x_ws [(qO, .inr (10, [.int (jI vO_blocks), .ref qO_stones, .ref qO_laid, .ref qO_deep, .int (jI vO_placings), .ref qO_placed, .int (jI vO_mortars), .ref qO_put, .ref qO_rates, .int (jI vO_limit), .int (jI vO_looks), .ref qO_seen, .ref qO_text, .int (jI vO_texted), .int (jI vO_faultPlace), .int (jI vO_clauses), .ref qO_rule, .ref qO_fresh, .int (jI vO_lots), .ref qO_stocks, .ref qO_row, .ref qO_dangers, .ref qO_losses, .long (jL vO_upper), .long (jL vO_lower), .ref qO_habitUpper, .ref qO_habitLower, .int (jI vO_at), .long (jL vO_word), .int (jI vO_wordEnd), .ref qO_chosen, .ref qO_lost, .ref qO_zones, .ref qO_way, .ref qO_spent, .ref qO_scaffolds])), aI kI qO_put 180 fO_put] rfl ?_
  subst h12
  exact hret 0 0 15 _ (rV (fun k => fO_put (3 * k)) (fun k => fO_put (3 * k + 1)) (fun k => fO_put (3 * k + 2)) b year vO_mortars) () (Nat.le_of_ble_eq_true rfl) (Nat.le_of_ble_eq_true rfl) dX10_harmOf_15 (rfl)
set_option maxHeartbeats 4000000 in
set_option maxRecDepth 100000 in
theorem c_X10_lossIn (D : va_G) (kI kJ : Nat) (l : Launch) (qO : Nat) (b : Int) (year : Int) (vO_blocks : Int) (qO_stones : Nat) (qO_laid : Nat) (qO_deep : Nat) (vO_placings : Int) (qO_placed : Nat) (vO_mortars : Int) (qO_put : Nat) (qO_rates : Nat) (vO_limit : Int) (vO_looks : Int) (qO_seen : Nat) (qO_text : Nat) (vO_texted : Int) (vO_faultPlace : Int) (vO_clauses : Int) (qO_rule : Nat) (qO_fresh : Nat) (vO_lots : Int) (qO_stocks : Nat) (qO_row : Nat) (qO_dangers : Nat) (qO_losses : Nat) (vO_upper : Int) (vO_lower : Int) (qO_habitUpper : Nat) (qO_habitLower : Nat) (vO_at : Int) (vO_word : Int) (vO_wordEnd : Int) (qO_chosen : Nat) (qO_lost : Nat) (qO_zones : Nat) (qO_way : Nat) (qO_spent : Nat) (qO_scaffolds : Nat) (fO_stones : (Int → Int)) (fO_rates : (Int → Int)) (fO_placed : (Int → Int)) (fO_put : (Int → Int)) (hr_year : -2147483648 ≤ year ∧ year < 2147483648) (hb30 : 0 ≤ b ∧ b < 30) (hOst : Rg fO_stones 30 0 3) (hOra : Rg fO_rates 64 0 50) (hOp : 0 ≤ vO_placings ∧ vO_placings ≤ 60) (hOpr : Rg fO_placed 300 0 400) (hOp2 : Rg (fun k => fO_placed (5 * k + 2)) 60 0 3) (hOp3 : Rg (fun k => fO_placed (5 * k + 3)) 60 0 3) (hOp4 : Rg (fun k => fO_placed (5 * k + 4)) 60 0 7) (hOm : 0 ≤ vO_mortars ∧ vO_mortars ≤ 60) (hOmr : Rg fO_put 180 0 400) (hOm2 : Rg (fun k => fO_put (3 * k + 2)) 60 0 1) : xMi D kI kJ l yX10_lossIn wsX10_lossIn 3 83 0 0 [.ref qO, .int (jI b), .int (jI year)] [(qO, .inr (10, [.int (jI vO_blocks), .ref qO_stones, .ref qO_laid, .ref qO_deep, .int (jI vO_placings), .ref qO_placed, .int (jI vO_mortars), .ref qO_put, .ref qO_rates, .int (jI vO_limit), .int (jI vO_looks), .ref qO_seen, .ref qO_text, .int (jI vO_texted), .int (jI vO_faultPlace), .int (jI vO_clauses), .ref qO_rule, .ref qO_fresh, .int (jI vO_lots), .ref qO_stocks, .ref qO_row, .ref qO_dangers, .ref qO_losses, .long (jL vO_upper), .long (jL vO_lower), .ref qO_habitUpper, .ref qO_habitLower, .int (jI vO_at), .long (jL vO_word), .int (jI vO_wordEnd), .ref qO_chosen, .ref qO_lost, .ref qO_zones, .ref qO_way, .ref qO_spent, .ref qO_scaffolds])), aI kI qO_stones 30 fO_stones, aI kI qO_rates 64 fO_rates, aI kI qO_placed 300 fO_placed, aI kI qO_put 180 fO_put] (fun (z : Int) (u : Unit) => z = (oLoss fO_rates (fO_stones b) fO_placed vO_placings fO_put vO_mortars b) year) (fun (u : Unit) => [(qO, .inr (10, [.int (jI vO_blocks), .ref qO_stones, .ref qO_laid, .ref qO_deep, .int (jI vO_placings), .ref qO_placed, .int (jI vO_mortars), .ref qO_put, .ref qO_rates, .int (jI vO_limit), .int (jI vO_looks), .ref qO_seen, .ref qO_text, .int (jI vO_texted), .int (jI vO_faultPlace), .int (jI vO_clauses), .ref qO_rule, .ref qO_fresh, .int (jI vO_lots), .ref qO_stocks, .ref qO_row, .ref qO_dangers, .ref qO_losses, .long (jL vO_upper), .long (jL vO_lower), .ref qO_habitUpper, .ref qO_habitLower, .int (jI vO_at), .long (jL vO_word), .int (jI vO_wordEnd), .ref qO_chosen, .ref qO_lost, .ref qO_zones, .ref qO_way, .ref qO_spent, .ref qO_scaffolds])), aI kI qO_stones 30 fO_stones, aI kI qO_rates 64 fO_rates, aI kI qO_placed 300 fO_placed, aI kI qO_put 180 fO_put]) := by
  refine xMi_of (cc := cX10_lossIn) (maxL := 3) (rt := .int) (by decide) rfl (Nat.le_of_ble_eq_true rfl) (fun _ _ _ => rfl) ?_
  intro p e s m args below meth c A Q F hin2 hret
  have hin10 : ∀ w ∈ wsX100, w ∈ wsX10_lossIn := by decide +kernel
  have hw0 : Cond.fieldLink RX10 25 (TX10 8).1 (TX10 8).2.1 (TX10 8).2.2.1 ∈ wsX10_lossIn := by decide +kernel
  have hw1 : Cond.fieldLink RX10 7 (TX10 1).1 (TX10 1).2.1 (TX10 1).2.2.1 ∈ wsX10_lossIn := by decide +kernel
  refine x_lveq (lv' := [(0, .ref qO), (1, .int (jI b)), (2, .int (jI year))]) rfl ?_
  have hst := Rg.at hOst b hb30
  refine x_aload_n F dX10_lossIn_0 rfl 0 rfl ?_
  refine x_get (ci := 10) F hin10 0 rfl rfl 8 (by decide) hw0 rfl dX10_lossIn_1 ?_
  refine x_bipush F dX10_lossIn_4 (by decide) ?_
  refine x_aload_n F dX10_lossIn_6 rfl 0 rfl ?_
  refine x_get (ci := 10) F hin10 0 rfl rfl 1 (by decide) hw1 rfl dX10_lossIn_7 ?_
  refine x_iload_n F dX10_lossIn_10 rfl 1 rfl ?_
  refine x_iald F 1 rfl (by decide) (by omega) dX10_lossIn_11 ?_
  have hr11 := Rg.at hOst b (by omega)
  refine x_imul F dX10_lossIn_12 ?_
  refine x_iconst F dX10_lossIn_13 ?_
  refine x_aload_n F dX10_lossIn_14 rfl 0 rfl ?_
  refine x_iload_n F dX10_lossIn_15 rfl 1 rfl ?_
  refine x_iload_n F dX10_lossIn_16 rfl 2 rfl ?_
  refine x_iconst F dX10_lossIn_17 ?_
  refine x_callVi (ci := 10) (q0 := 0) (As := [.int (jI b), .int (jI year), .int (jI 2)]) (st := [.int (jI 4), .int (jI (16 * (fO_stones b))), .ref qO_rates]) F (c_X10_placeOf D kI kJ l qO b year 2 vO_blocks qO_stones qO_laid qO_deep vO_placings qO_placed vO_mortars qO_put qO_rates vO_limit vO_looks qO_seen qO_text vO_texted vO_faultPlace vO_clauses qO_rule qO_fresh vO_lots qO_stocks qO_row qO_dangers qO_losses vO_upper vO_lower qO_habitUpper qO_habitLower vO_at vO_word vO_wordEnd qO_chosen qO_lost qO_zones qO_way qO_spent qO_scaffolds fO_placed (by omega) hr_year hOp hOpr (by omega)) (cwV 3 F.2.2.2.2.1 gX10_lossIn_X10_placeOf rfl rfl rfl (by decide +kernel) ⟨Nat.le_of_ble_eq_true rfl, Nat.le_of_ble_eq_true rfl⟩) rfl rfl [0, 3] [1, 2, 4] [3, 0, 1, 4, 2] rfl rfl (by decide) (by decide) (by decide) (fun _ => rfl) (by decide) rfl (Nat.le_of_ble_eq_true rfl) dX10_lossIn_18 ⟨Nat.le_of_ble_eq_true rfl, Nat.le_of_ble_eq_true rfl⟩ (fun z18 u18 h18 => ?_)
  try dsimp only at h18
  refine x_ws [(qO, .inr (10, [.int (jI vO_blocks), .ref qO_stones, .ref qO_laid, .ref qO_deep, .int (jI vO_placings), .ref qO_placed, .int (jI vO_mortars), .ref qO_put, .ref qO_rates, .int (jI vO_limit), .int (jI vO_looks), .ref qO_seen, .ref qO_text, .int (jI vO_texted), .int (jI vO_faultPlace), .int (jI vO_clauses), .ref qO_rule, .ref qO_fresh, .int (jI vO_lots), .ref qO_stocks, .ref qO_row, .ref qO_dangers, .ref qO_losses, .long (jL vO_upper), .long (jL vO_lower), .ref qO_habitUpper, .ref qO_habitLower, .int (jI vO_at), .long (jL vO_word), .int (jI vO_wordEnd), .ref qO_chosen, .ref qO_lost, .ref qO_zones, .ref qO_way, .ref qO_spent, .ref qO_scaffolds])), aI kI qO_stones 30 fO_stones, aI kI qO_rates 64 fO_rates, aI kI qO_placed 300 fO_placed, aI kI qO_put 180 fO_put] rfl ?_
  subst h18
  have hq2 := oPl_rng (b := b) (y := year) hOp hOp2 (by omega)
  refine x_imul F dX10_lossIn_21 ?_
  refine x_iadd F dX10_lossIn_22 ?_
  refine x_aload_n F dX10_lossIn_23 rfl 0 rfl ?_
  refine x_iload_n F dX10_lossIn_24 rfl 1 rfl ?_
  refine x_iload_n F dX10_lossIn_25 rfl 2 rfl ?_
  refine x_iconst F dX10_lossIn_26 ?_
  refine x_callVi (ci := 10) (q0 := 0) (As := [.int (jI b), .int (jI year), .int (jI 3)]) (st := [.int (jI ((16 * (fO_stones b)) + (4 * oPl fO_placed b year vO_placings 2))), .ref qO_rates]) F (c_X10_placeOf D kI kJ l qO b year 3 vO_blocks qO_stones qO_laid qO_deep vO_placings qO_placed vO_mortars qO_put qO_rates vO_limit vO_looks qO_seen qO_text vO_texted vO_faultPlace vO_clauses qO_rule qO_fresh vO_lots qO_stocks qO_row qO_dangers qO_losses vO_upper vO_lower qO_habitUpper qO_habitLower vO_at vO_word vO_wordEnd qO_chosen qO_lost qO_zones qO_way qO_spent qO_scaffolds fO_placed (by omega) hr_year hOp hOpr (by omega)) (cwV 3 F.2.2.2.2.1 gX10_lossIn_X10_placeOf rfl rfl rfl (by decide +kernel) ⟨Nat.le_of_ble_eq_true rfl, Nat.le_of_ble_eq_true rfl⟩) rfl rfl [0, 3] [1, 2, 4] [3, 0, 1, 4, 2] rfl rfl (by decide) (by decide) (by decide) (fun _ => rfl) (by decide) rfl (Nat.le_of_ble_eq_true rfl) dX10_lossIn_27 ⟨Nat.le_of_ble_eq_true rfl, Nat.le_of_ble_eq_true rfl⟩ (fun z27 u27 h27 => ?_)
  try dsimp only at h27
  refine x_ws [(qO, .inr (10, [.int (jI vO_blocks), .ref qO_stones, .ref qO_laid, .ref qO_deep, .int (jI vO_placings), .ref qO_placed, .int (jI vO_mortars), .ref qO_put, .ref qO_rates, .int (jI vO_limit), .int (jI vO_looks), .ref qO_seen, .ref qO_text, .int (jI vO_texted), .int (jI vO_faultPlace), .int (jI vO_clauses), .ref qO_rule, .ref qO_fresh, .int (jI vO_lots), .ref qO_stocks, .ref qO_row, .ref qO_dangers, .ref qO_losses, .long (jL vO_upper), .long (jL vO_lower), .ref qO_habitUpper, .ref qO_habitLower, .int (jI vO_at), .long (jL vO_word), .int (jI vO_wordEnd), .ref qO_chosen, .ref qO_lost, .ref qO_zones, .ref qO_way, .ref qO_spent, .ref qO_scaffolds])), aI kI qO_stones 30 fO_stones, aI kI qO_rates 64 fO_rates, aI kI qO_placed 300 fO_placed, aI kI qO_put 180 fO_put] rfl ?_
  subst h27
  have hq3 := oPl_rng (b := b) (y := year) hOp hOp3 (by omega)
  refine x_iadd F dX10_lossIn_30 ?_
  refine x_iald F 2 rfl (by decide) (by omega) dX10_lossIn_31 ?_
  have hr31 := Rg.at hOra (((16 * (fO_stones b)) + (4 * oPl fO_placed b year vO_placings 2)) + oPl fO_placed b year vO_placings 3) (by omega)
  refine x_iconst F dX10_lossIn_32 ?_
  refine x_aload_n F dX10_lossIn_33 rfl 0 rfl ?_
  refine x_iload_n F dX10_lossIn_34 rfl 1 rfl ?_
  refine x_iload_n F dX10_lossIn_35 rfl 2 rfl ?_
  refine x_callVi (ci := 10) (q0 := 0) (As := [.int (jI b), .int (jI year)]) (st := [.int (jI 1), .int (jI (fO_rates (((16 * (fO_stones b)) + (4 * oPl fO_placed b year vO_placings 2)) + oPl fO_placed b year vO_placings 3)))]) F (c_X10_harmOf D kI kJ l qO b year vO_blocks qO_stones qO_laid qO_deep vO_placings qO_placed vO_mortars qO_put qO_rates vO_limit vO_looks qO_seen qO_text vO_texted vO_faultPlace vO_clauses qO_rule qO_fresh vO_lots qO_stocks qO_row qO_dangers qO_losses vO_upper vO_lower qO_habitUpper qO_habitLower vO_at vO_word vO_wordEnd qO_chosen qO_lost qO_zones qO_way qO_spent qO_scaffolds fO_put (by omega) hr_year hOm hOmr) (cwV 2 F.2.2.2.2.1 gX10_lossIn_X10_harmOf rfl rfl rfl (by decide +kernel) ⟨Nat.le_of_ble_eq_true rfl, Nat.le_of_ble_eq_true rfl⟩) rfl rfl [0, 4] [1, 2, 3] [3, 0, 1, 2, 4] rfl rfl (by decide) (by decide) (by decide) (fun _ => rfl) (by decide) rfl (Nat.le_of_ble_eq_true rfl) dX10_lossIn_36 ⟨Nat.le_of_ble_eq_true rfl, Nat.le_of_ble_eq_true rfl⟩ (fun z36 u36 h36 => ?_)
  try dsimp only at h36
  refine x_ws [(qO, .inr (10, [.int (jI vO_blocks), .ref qO_stones, .ref qO_laid, .ref qO_deep, .int (jI vO_placings), .ref qO_placed, .int (jI vO_mortars), .ref qO_put, .ref qO_rates, .int (jI vO_limit), .int (jI vO_looks), .ref qO_seen, .ref qO_text, .int (jI vO_texted), .int (jI vO_faultPlace), .int (jI vO_clauses), .ref qO_rule, .ref qO_fresh, .int (jI vO_lots), .ref qO_stocks, .ref qO_row, .ref qO_dangers, .ref qO_losses, .long (jL vO_upper), .long (jL vO_lower), .ref qO_habitUpper, .ref qO_habitLower, .int (jI vO_at), .long (jL vO_word), .int (jI vO_wordEnd), .ref qO_chosen, .ref qO_lost, .ref qO_zones, .ref qO_way, .ref qO_spent, .ref qO_scaffolds])), aI kI qO_stones 30 fO_stones, aI kI qO_rates 64 fO_rates, aI kI qO_placed 300 fO_placed, aI kI qO_put 180 fO_put] rfl ?_
  subst h36
  refine x_iadd F dX10_lossIn_39 ?_
  refine x_imul F dX10_lossIn_40 ?_
  exact hret 0 0 41 _ ((fO_rates (((16 * (fO_stones b)) + (4 * oPl fO_placed b year vO_placings 2)) + oPl fO_placed b year vO_placings 3)) * (1 + oHm fO_put b year vO_mortars)) () (Nat.le_of_ble_eq_true rfl) (Nat.le_of_ble_eq_true rfl) dX10_lossIn_41 (rfl)
set_option maxHeartbeats 4000000 in
set_option maxRecDepth 100000 in
theorem c_X10_lostAt (D : va_G) (kI kJ : Nat) (l : Launch) (qO : Nat) (b : Int) (year : Int) (vO_blocks : Int) (qO_stones : Nat) (qO_laid : Nat) (qO_deep : Nat) (vO_placings : Int) (qO_placed : Nat) (vO_mortars : Int) (qO_put : Nat) (qO_rates : Nat) (vO_limit : Int) (vO_looks : Int) (qO_seen : Nat) (qO_text : Nat) (vO_texted : Int) (vO_faultPlace : Int) (vO_clauses : Int) (qO_rule : Nat) (qO_fresh : Nat) (vO_lots : Int) (qO_stocks : Nat) (qO_row : Nat) (qO_dangers : Nat) (qO_losses : Nat) (vO_upper : Int) (vO_lower : Int) (qO_habitUpper : Nat) (qO_habitLower : Nat) (vO_at : Int) (vO_word : Int) (vO_wordEnd : Int) (qO_chosen : Nat) (qO_lost : Nat) (qO_zones : Nat) (qO_way : Nat) (qO_spent : Nat) (qO_scaffolds : Nat) (fO_stones : (Int → Int)) (fO_laid : (Int → Int)) (fO_rates : (Int → Int)) (fO_placed : (Int → Int)) (fO_put : (Int → Int)) (hb30 : 0 ≤ b ∧ b < 30) (hy : 0 ≤ year ∧ year ≤ 400) (hOst : Rg fO_stones 30 0 3) (hOla : Rg fO_laid 30 0 400) (hOra : Rg fO_rates 64 0 50) (hOp : 0 ≤ vO_placings ∧ vO_placings ≤ 60) (hOpr : Rg fO_placed 300 0 400) (hOp2 : Rg (fun k => fO_placed (5 * k + 2)) 60 0 3) (hOp3 : Rg (fun k => fO_placed (5 * k + 3)) 60 0 3) (hOp4 : Rg (fun k => fO_placed (5 * k + 4)) 60 0 7) (hOm : 0 ≤ vO_mortars ∧ vO_mortars ≤ 60) (hOmr : Rg fO_put 180 0 400) (hOm2 : Rg (fun k => fO_put (3 * k + 2)) 60 0 1) : xMi D kI kJ l yX10_lostAt wsX10_lostAt 4 105 0 0 [.ref qO, .int (jI b), .int (jI year)] [(qO, .inr (10, [.int (jI vO_blocks), .ref qO_stones, .ref qO_laid, .ref qO_deep, .int (jI vO_placings), .ref qO_placed, .int (jI vO_mortars), .ref qO_put, .ref qO_rates, .int (jI vO_limit), .int (jI vO_looks), .ref qO_seen, .ref qO_text, .int (jI vO_texted), .int (jI vO_faultPlace), .int (jI vO_clauses), .ref qO_rule, .ref qO_fresh, .int (jI vO_lots), .ref qO_stocks, .ref qO_row, .ref qO_dangers, .ref qO_losses, .long (jL vO_upper), .long (jL vO_lower), .ref qO_habitUpper, .ref qO_habitLower, .int (jI vO_at), .long (jL vO_word), .int (jI vO_wordEnd), .ref qO_chosen, .ref qO_lost, .ref qO_zones, .ref qO_way, .ref qO_spent, .ref qO_scaffolds])), aI kI qO_stones 30 fO_stones, aI kI qO_laid 30 fO_laid, aI kI qO_rates 64 fO_rates, aI kI qO_placed 300 fO_placed, aI kI qO_put 180 fO_put] (fun (z : Int) (u : Unit) => z = (lS (oLoss fO_rates (fO_stones b) fO_placed vO_placings fO_put vO_mortars b) (fO_laid b)) year) (fun (u : Unit) => [(qO, .inr (10, [.int (jI vO_blocks), .ref qO_stones, .ref qO_laid, .ref qO_deep, .int (jI vO_placings), .ref qO_placed, .int (jI vO_mortars), .ref qO_put, .ref qO_rates, .int (jI vO_limit), .int (jI vO_looks), .ref qO_seen, .ref qO_text, .int (jI vO_texted), .int (jI vO_faultPlace), .int (jI vO_clauses), .ref qO_rule, .ref qO_fresh, .int (jI vO_lots), .ref qO_stocks, .ref qO_row, .ref qO_dangers, .ref qO_losses, .long (jL vO_upper), .long (jL vO_lower), .ref qO_habitUpper, .ref qO_habitLower, .int (jI vO_at), .long (jL vO_word), .int (jI vO_wordEnd), .ref qO_chosen, .ref qO_lost, .ref qO_zones, .ref qO_way, .ref qO_spent, .ref qO_scaffolds])), aI kI qO_stones 30 fO_stones, aI kI qO_laid 30 fO_laid, aI kI qO_rates 64 fO_rates, aI kI qO_placed 300 fO_placed, aI kI qO_put 180 fO_put]) := by
  refine xMi_of (cc := cX10_lostAt) (maxL := 5) (rt := .int) (by decide) rfl (Nat.le_of_ble_eq_true rfl) (fun _ _ _ => rfl) ?_
  intro p e s m args below meth c A Q F hin2 hret
  have hin10 : ∀ w ∈ wsX100, w ∈ wsX10_lostAt := by decide +kernel
  have hw0 : Cond.fieldLink RX10 13 (TX10 2).1 (TX10 2).2.1 (TX10 2).2.2.1 ∈ wsX10_lostAt := by decide +kernel
  refine x_lveq (lv' := [(0, .ref qO), (1, .int (jI b)), (2, .int (jI year))]) rfl ?_
  have hla := Rg.at hOla b hb30
  have hlr : Rg (oLoss fO_rates (fO_stones b) fO_placed vO_placings fO_put vO_mortars b) 401 0 100 := oLoss_rng hOra (Rg.at hOst b hb30) hOp hOm hOp2 hOp3 hOm2 401
  refine x_iconst F dX10_lostAt_0 ?_
  refine x_istore_n (lv' := [(0, .ref qO), (1, .int (jI b)), (2, .int (jI year)), (3, .int (jI 0))]) F dX10_lostAt_1 rfl (by decide) [1, 2, 3, 0] rfl ?_
  refine x_aload_n F dX10_lostAt_2 rfl 0 rfl ?_
  refine x_get (ci := 10) F hin10 0 rfl rfl 2 (by decide) hw0 rfl dX10_lostAt_3 ?_
  refine x_iload_n F dX10_lostAt_6 rfl 1 rfl ?_
  refine x_iald F 2 rfl (by decide) (by omega) dX10_lostAt_7 ?_
  have hr7 := Rg.at hOla b (by omega)
  refine x_istore (lv' := [(0, .ref qO), (1, .int (jI b)), (2, .int (jI year)), (3, .int (jI 0)), (4, .int (jI (fO_laid b)))]) F dX10_lostAt_8 (by decide) [1, 2, 3, 4, 0] rfl ?_
  have lp10 : ∀ (fu : Nat) (sum : Int) (y : Int) (hyy : fO_laid b ≤ y ∧ (y ≤ year ∨ y = fO_laid b)) (hs : sum = (lS (oLoss fO_rates (fO_stones b) fO_placed vO_placings fO_put vO_mortars b) (fO_laid b)) y) (hm : 401 - y < (fu : Int)), xG D p l e (xRm 4 105 0 0) s m args below meth c 5 A Q 0 0 [(qO, .inr (10, [.int (jI vO_blocks), .ref qO_stones, .ref qO_laid, .ref qO_deep, .int (jI vO_placings), .ref qO_placed, .int (jI vO_mortars), .ref qO_put, .ref qO_rates, .int (jI vO_limit), .int (jI vO_looks), .ref qO_seen, .ref qO_text, .int (jI vO_texted), .int (jI vO_faultPlace), .int (jI vO_clauses), .ref qO_rule, .ref qO_fresh, .int (jI vO_lots), .ref qO_stocks, .ref qO_row, .ref qO_dangers, .ref qO_losses, .long (jL vO_upper), .long (jL vO_lower), .ref qO_habitUpper, .ref qO_habitLower, .int (jI vO_at), .long (jL vO_word), .int (jI vO_wordEnd), .ref qO_chosen, .ref qO_lost, .ref qO_zones, .ref qO_way, .ref qO_spent, .ref qO_scaffolds])), aI kI qO_stones 30 fO_stones, aI kI qO_laid 30 fO_laid, aI kI qO_rates 64 fO_rates, aI kI qO_placed 300 fO_placed, aI kI qO_put 180 fO_put] [(0, .ref qO), (1, .int (jI b)), (2, .int (jI year)), (3, .int (jI sum)), (4, .int (jI y))] 10 [] := by
    intro fu
    induction fu with
    | zero =>
      intro sum y hyy hs hm
      exact absurd hm (by omega)
    | succ fu ih10 =>
      intro sum y hyy hs hm
      have hsr : 0 ≤ sum ∧ sum ≤ 100 * y := by rw [hs]; exact lS_rng hlr (by omega) (by omega)
      refine x_iload F dX10_lostAt_10 4 rfl ?_
      refine x_iload_n F dX10_lostAt_12 rfl 2 rfl ?_
      refine x_icmp_ge (tgt := 32) F dX10_lostAt_13 (by decide) (by omega) (fun c13 => ?_) (fun c13 => ?_)
      · -- 13 t
        refine x_iload_n F dX10_lostAt_32 rfl 3 rfl ?_
        exact hret 0 0 33 _ sum () (Nat.le_of_ble_eq_true rfl) (Nat.le_of_ble_eq_true rfl) dX10_lostAt_33 (by rw [hs]; by_cases q : fO_laid b ≤ year; (rw [show y = year by omega]); (rw [lS_before (by omega) (by omega), lS_before (by omega) (by omega)]))
      · -- 13 f
        refine x_iload_n F dX10_lostAt_16 rfl 3 rfl ?_
        refine x_aload_n F dX10_lostAt_17 rfl 0 rfl ?_
        refine x_iload_n F dX10_lostAt_18 rfl 1 rfl ?_
        refine x_iload F dX10_lostAt_19 4 rfl ?_
        refine x_callVi (ci := 10) (q0 := 0) (As := [.int (jI b), .int (jI y)]) (st := [.int (jI sum)]) F (c_X10_lossIn D kI kJ l qO b y vO_blocks qO_stones qO_laid qO_deep vO_placings qO_placed vO_mortars qO_put qO_rates vO_limit vO_looks qO_seen qO_text vO_texted vO_faultPlace vO_clauses qO_rule qO_fresh vO_lots qO_stocks qO_row qO_dangers qO_losses vO_upper vO_lower qO_habitUpper qO_habitLower vO_at vO_word vO_wordEnd qO_chosen qO_lost qO_zones qO_way qO_spent qO_scaffolds fO_stones fO_rates fO_placed fO_put (by omega) hb30 hOst hOra hOp hOpr hOp2 hOp3 hOp4 hOm hOmr hOm2) (cwV 2 F.2.2.2.2.1 gX10_lostAt_X10_lossIn rfl rfl rfl (by decide +kernel) ⟨Nat.le_of_ble_eq_true rfl, Nat.le_of_ble_eq_true rfl⟩) rfl rfl [0, 1, 3, 4, 5] [2] [1, 2, 0, 3, 4, 5] rfl rfl (by decide) (by decide) (by decide) (fun _ => rfl) (by decide) rfl (Nat.le_of_ble_eq_true rfl) dX10_lostAt_21 ⟨Nat.le_of_ble_eq_true rfl, Nat.le_of_ble_eq_true rfl⟩ (fun z21 u21 h21 => ?_)
        try dsimp only at h21
        refine x_ws [(qO, .inr (10, [.int (jI vO_blocks), .ref qO_stones, .ref qO_laid, .ref qO_deep, .int (jI vO_placings), .ref qO_placed, .int (jI vO_mortars), .ref qO_put, .ref qO_rates, .int (jI vO_limit), .int (jI vO_looks), .ref qO_seen, .ref qO_text, .int (jI vO_texted), .int (jI vO_faultPlace), .int (jI vO_clauses), .ref qO_rule, .ref qO_fresh, .int (jI vO_lots), .ref qO_stocks, .ref qO_row, .ref qO_dangers, .ref qO_losses, .long (jL vO_upper), .long (jL vO_lower), .ref qO_habitUpper, .ref qO_habitLower, .int (jI vO_at), .long (jL vO_word), .int (jI vO_wordEnd), .ref qO_chosen, .ref qO_lost, .ref qO_zones, .ref qO_way, .ref qO_spent, .ref qO_scaffolds])), aI kI qO_stones 30 fO_stones, aI kI qO_laid 30 fO_laid, aI kI qO_rates 64 fO_rates, aI kI qO_placed 300 fO_placed, aI kI qO_put 180 fO_put] rfl ?_
        subst h21
        refine x_iadd F dX10_lostAt_24 ?_
        refine x_istore_n (lv' := [(0, .ref qO), (1, .int (jI b)), (2, .int (jI year)), (3, .int (jI (sum + (oLoss fO_rates (fO_stones b) fO_placed vO_placings fO_put vO_mortars b) y))), (4, .int (jI y))]) F dX10_lostAt_25 rfl (by decide) [1, 2, 3, 0, 4] rfl ?_
        refine x_iinc (lv' := [(0, .ref qO), (1, .int (jI b)), (2, .int (jI year)), (3, .int (jI (sum + (oLoss fO_rates (fO_stones b) fO_placed vO_placings fO_put vO_mortars b) y))), (4, .int (jI (y + 1)))]) (k := 4) F dX10_lostAt_26 rfl (by decide) [1, 2, 3, 4, 0] rfl ?_
        refine x_goto (tgt := 10) F dX10_lostAt_29 (by decide) ?_
        exact ih10 (sum + (oLoss fO_rates (fO_stones b) fO_placed vO_placings fO_put vO_mortars b) y) (y + 1) (by omega) (by rw [lS_s (by omega), if_pos (by omega), hs]) (by omega)
  exact lp10 (Int.toNat (401 - (fO_laid b)) + 1) 0 (fO_laid b) (by omega) ((lS_before hla.1 (Int.le_refl _)).symm) (by omega)
set_option maxHeartbeats 4000000 in
set_option maxRecDepth 100000 in
theorem c_X10_dangerOf (D : va_G) (kI kJ : Nat) (l : Launch) (qO : Nat) (b : Int) (vO_blocks : Int) (qO_stones : Nat) (qO_laid : Nat) (qO_deep : Nat) (vO_placings : Int) (qO_placed : Nat) (vO_mortars : Int) (qO_put : Nat) (qO_rates : Nat) (vO_limit : Int) (vO_looks : Int) (qO_seen : Nat) (qO_text : Nat) (vO_texted : Int) (vO_faultPlace : Int) (vO_clauses : Int) (qO_rule : Nat) (qO_fresh : Nat) (vO_lots : Int) (qO_stocks : Nat) (qO_row : Nat) (qO_dangers : Nat) (qO_losses : Nat) (vO_upper : Int) (vO_lower : Int) (qO_habitUpper : Nat) (qO_habitLower : Nat) (vO_at : Int) (vO_word : Int) (vO_wordEnd : Int) (qO_chosen : Nat) (qO_lost : Nat) (qO_zones : Nat) (qO_way : Nat) (qO_spent : Nat) (qO_scaffolds : Nat) (fO_stones : (Int → Int)) (fO_laid : (Int → Int)) (fO_deep : (Int → Int)) (fO_rates : (Int → Int)) (fO_placed : (Int → Int)) (fO_put : (Int → Int)) (hb30 : 0 ≤ b ∧ b < 30) (hd1 : 1 ≤ fO_deep b) (hOst : Rg fO_stones 30 0 3) (hOla : Rg fO_laid 30 0 400) (hOde : Rg fO_deep 30 0 2000) (hOli : 1 ≤ vO_limit ∧ vO_limit ≤ 100) (hOra : Rg fO_rates 64 0 50) (hOp : 0 ≤ vO_placings ∧ vO_placings ≤ 60) (hOpr : Rg fO_placed 300 0 400) (hOp2 : Rg (fun k => fO_placed (5 * k + 2)) 60 0 3) (hOp3 : Rg (fun k => fO_placed (5 * k + 3)) 60 0 3) (hOp4 : Rg (fun k => fO_placed (5 * k + 4)) 60 0 7) (hOm : 0 ≤ vO_mortars ∧ vO_mortars ≤ 60) (hOmr : Rg fO_put 180 0 400) (hOm2 : Rg (fun k => fO_put (3 * k + 2)) 60 0 1) : xMi D kI kJ l yX10_dangerOf wsX10_dangerOf 4 105 0 0 [.ref qO, .int (jI b)] [(qO, .inr (10, [.int (jI vO_blocks), .ref qO_stones, .ref qO_laid, .ref qO_deep, .int (jI vO_placings), .ref qO_placed, .int (jI vO_mortars), .ref qO_put, .ref qO_rates, .int (jI vO_limit), .int (jI vO_looks), .ref qO_seen, .ref qO_text, .int (jI vO_texted), .int (jI vO_faultPlace), .int (jI vO_clauses), .ref qO_rule, .ref qO_fresh, .int (jI vO_lots), .ref qO_stocks, .ref qO_row, .ref qO_dangers, .ref qO_losses, .long (jL vO_upper), .long (jL vO_lower), .ref qO_habitUpper, .ref qO_habitLower, .int (jI vO_at), .long (jL vO_word), .int (jI vO_wordEnd), .ref qO_chosen, .ref qO_lost, .ref qO_zones, .ref qO_way, .ref qO_spent, .ref qO_scaffolds])), aI kI qO_stones 30 fO_stones, aI kI qO_laid 30 fO_laid, aI kI qO_deep 30 fO_deep, aI kI qO_rates 64 fO_rates, aI kI qO_placed 300 fO_placed, aI kI qO_put 180 fO_put] (fun (z : Int) (u : Unit) => z = dG (lS (oLoss fO_rates (fO_stones b) fO_placed vO_placings fO_put vO_mortars b) (fO_laid b)) (fO_deep b * vO_limit) 401) (fun (u : Unit) => [(qO, .inr (10, [.int (jI vO_blocks), .ref qO_stones, .ref qO_laid, .ref qO_deep, .int (jI vO_placings), .ref qO_placed, .int (jI vO_mortars), .ref qO_put, .ref qO_rates, .int (jI vO_limit), .int (jI vO_looks), .ref qO_seen, .ref qO_text, .int (jI vO_texted), .int (jI vO_faultPlace), .int (jI vO_clauses), .ref qO_rule, .ref qO_fresh, .int (jI vO_lots), .ref qO_stocks, .ref qO_row, .ref qO_dangers, .ref qO_losses, .long (jL vO_upper), .long (jL vO_lower), .ref qO_habitUpper, .ref qO_habitLower, .int (jI vO_at), .long (jL vO_word), .int (jI vO_wordEnd), .ref qO_chosen, .ref qO_lost, .ref qO_zones, .ref qO_way, .ref qO_spent, .ref qO_scaffolds])), aI kI qO_stones 30 fO_stones, aI kI qO_laid 30 fO_laid, aI kI qO_deep 30 fO_deep, aI kI qO_rates 64 fO_rates, aI kI qO_placed 300 fO_placed, aI kI qO_put 180 fO_put]) := by
  refine xMi_of (cc := cX10_dangerOf) (maxL := 4) (rt := .int) (by decide) rfl (Nat.le_of_ble_eq_true rfl) (fun _ _ _ => rfl) ?_
  intro p e s m args below meth c A Q F hin2 hret
  have hin10 : ∀ w ∈ wsX100, w ∈ wsX10_dangerOf := by decide +kernel
  have hw0 : Cond.fieldLink RX10 13 (TX10 2).1 (TX10 2).2.1 (TX10 2).2.2.1 ∈ wsX10_dangerOf := by decide +kernel
  have hw1 : Cond.fieldLink RX10 16 (TX10 3).1 (TX10 3).2.1 (TX10 3).2.2.1 ∈ wsX10_dangerOf := by decide +kernel
  have hw2 : Cond.fieldLink RX10 28 (TX10 9).1 (TX10 9).2.1 (TX10 9).2.2.1 ∈ wsX10_dangerOf := by decide +kernel
  refine x_lveq (lv' := [(0, .ref qO), (1, .int (jI b))]) rfl ?_
  have hla := Rg.at hOla b hb30
  have hde := Rg.at hOde b hb30
  have hmb := mul_bd (A := 2000) (B := 100) hde (show 0 ≤ vO_limit ∧ vO_limit ≤ 100 by omega)
  have hm1 : 1 ≤ fO_deep b * vO_limit := by have := Int.mul_le_mul hd1 hOli.1 (by omega) (by omega); omega
  have hlr : Rg (oLoss fO_rates (fO_stones b) fO_placed vO_placings fO_put vO_mortars b) 401 0 100 := oLoss_rng hOra (Rg.at hOst b hb30) hOp hOm hOp2 hOp3 hOm2 401
  refine x_iconst F dX10_dangerOf_0 ?_
  refine x_istore_n (lv' := [(0, .ref qO), (1, .int (jI b)), (2, .int (jI 0))]) F dX10_dangerOf_1 rfl (by decide) [1, 2, 0] rfl ?_
  refine x_aload_n F dX10_dangerOf_2 rfl 0 rfl ?_
  refine x_get (ci := 10) F hin10 0 rfl rfl 2 (by decide) hw0 rfl dX10_dangerOf_3 ?_
  refine x_iload_n F dX10_dangerOf_6 rfl 1 rfl ?_
  refine x_iald F 2 rfl (by decide) (by omega) dX10_dangerOf_7 ?_
  have hr7 := Rg.at hOla b (by omega)
  refine x_istore_n (lv' := [(0, .ref qO), (1, .int (jI b)), (2, .int (jI 0)), (3, .int (jI (fO_laid b)))]) F dX10_dangerOf_8 rfl (by decide) [1, 2, 3, 0] rfl ?_
  have lp9 : ∀ (fu : Nat) (sum : Int) (y : Int) (hyy : fO_laid b ≤ y ∧ y ≤ 401) (hs : sum = (lS (oLoss fO_rates (fO_stones b) fO_placed vO_placings fO_put vO_mortars b) (fO_laid b)) y) (hd : dG (lS (oLoss fO_rates (fO_stones b) fO_placed vO_placings fO_put vO_mortars b) (fO_laid b)) (fO_deep b * vO_limit) y < 0) (hm : 402 - y < (fu : Int)), xG D p l e (xRm 4 105 0 0) s m args below meth c 4 A Q 0 0 [(qO, .inr (10, [.int (jI vO_blocks), .ref qO_stones, .ref qO_laid, .ref qO_deep, .int (jI vO_placings), .ref qO_placed, .int (jI vO_mortars), .ref qO_put, .ref qO_rates, .int (jI vO_limit), .int (jI vO_looks), .ref qO_seen, .ref qO_text, .int (jI vO_texted), .int (jI vO_faultPlace), .int (jI vO_clauses), .ref qO_rule, .ref qO_fresh, .int (jI vO_lots), .ref qO_stocks, .ref qO_row, .ref qO_dangers, .ref qO_losses, .long (jL vO_upper), .long (jL vO_lower), .ref qO_habitUpper, .ref qO_habitLower, .int (jI vO_at), .long (jL vO_word), .int (jI vO_wordEnd), .ref qO_chosen, .ref qO_lost, .ref qO_zones, .ref qO_way, .ref qO_spent, .ref qO_scaffolds])), aI kI qO_stones 30 fO_stones, aI kI qO_laid 30 fO_laid, aI kI qO_deep 30 fO_deep, aI kI qO_rates 64 fO_rates, aI kI qO_placed 300 fO_placed, aI kI qO_put 180 fO_put] [(0, .ref qO), (1, .int (jI b)), (2, .int (jI sum)), (3, .int (jI y))] 9 [] := by
    intro fu
    induction fu with
    | zero =>
      intro sum y hyy hs hd hm
      exact absurd hm (by omega)
    | succ fu ih9 =>
      intro sum y hyy hs hd hm
      have hsr : 0 ≤ sum ∧ sum ≤ 100 * y := by rw [hs]; exact lS_rng hlr (by omega) (by omega)
      refine x_iload_n F dX10_dangerOf_9 rfl 3 rfl ?_
      refine x_sipush F dX10_dangerOf_10 (by decide) ?_
      refine x_icmp_gt (tgt := 51) F dX10_dangerOf_13 (by decide) (by omega) (fun c13 => ?_) (fun c13 => ?_)
      · -- 13 t
        refine x_iconst F dX10_dangerOf_51 ?_
        exact hret 0 0 52 _ (-1) () (Nat.le_of_ble_eq_true rfl) (Nat.le_of_ble_eq_true rfl) dX10_dangerOf_52 (by rw [show (401 : Int) = y by omega]; have := (dG_rng (ls := (lS (oLoss fO_rates (fO_stones b) fO_placed vO_placings fO_put vO_mortars b) (fO_laid b))) (thr := fO_deep b * vO_limit) (i := y) (by omega)).1; omega)
      · -- 13 f
        refine x_bipush F dX10_dangerOf_16 (by decide) ?_
        refine x_iload_n F dX10_dangerOf_18 rfl 2 rfl ?_
        refine x_imul F dX10_dangerOf_19 ?_
        refine x_aload_n F dX10_dangerOf_20 rfl 0 rfl ?_
        refine x_get (ci := 10) F hin10 0 rfl rfl 3 (by decide) hw1 rfl dX10_dangerOf_21 ?_
        refine x_iload_n F dX10_dangerOf_24 rfl 1 rfl ?_
        refine x_iald F 3 rfl (by decide) (by omega) dX10_dangerOf_25 ?_
        have hr25 := Rg.at hOde b (by omega)
        refine x_aload_n F dX10_dangerOf_26 rfl 0 rfl ?_
        refine x_get (ci := 10) F hin10 0 rfl rfl 9 (by decide) hw2 rfl dX10_dangerOf_27 ?_
        refine x_imul F dX10_dangerOf_30 ?_
        refine x_icmp_lt (tgt := 36) F dX10_dangerOf_31 (by decide) (by omega) (fun c31 => ?_) (fun c31 => ?_)
        · -- 31 t
          refine x_iload_n F dX10_dangerOf_36 rfl 2 rfl ?_
          refine x_aload_n F dX10_dangerOf_37 rfl 0 rfl ?_
          refine x_iload_n F dX10_dangerOf_38 rfl 1 rfl ?_
          refine x_iload_n F dX10_dangerOf_39 rfl 3 rfl ?_
          refine x_callVi (ci := 10) (q0 := 0) (As := [.int (jI b), .int (jI y)]) (st := [.int (jI sum)]) F (c_X10_lossIn D kI kJ l qO b y vO_blocks qO_stones qO_laid qO_deep vO_placings qO_placed vO_mortars qO_put qO_rates vO_limit vO_looks qO_seen qO_text vO_texted vO_faultPlace vO_clauses qO_rule qO_fresh vO_lots qO_stocks qO_row qO_dangers qO_losses vO_upper vO_lower qO_habitUpper qO_habitLower vO_at vO_word vO_wordEnd qO_chosen qO_lost qO_zones qO_way qO_spent qO_scaffolds fO_stones fO_rates fO_placed fO_put (by omega) hb30 hOst hOra hOp hOpr hOp2 hOp3 hOp4 hOm hOmr hOm2) (cwV 2 F.2.2.2.2.1 gX10_dangerOf_X10_lossIn rfl rfl rfl (by decide +kernel) ⟨Nat.le_of_ble_eq_true rfl, Nat.le_of_ble_eq_true rfl⟩) rfl rfl [0, 1, 4, 5, 6] [2, 3] [2, 3, 0, 1, 4, 5, 6] rfl rfl (by decide) (by decide) (by decide) (fun _ => rfl) (by decide) rfl (Nat.le_of_ble_eq_true rfl) dX10_dangerOf_40 ⟨Nat.le_of_ble_eq_true rfl, Nat.le_of_ble_eq_true rfl⟩ (fun z40 u40 h40 => ?_)
          try dsimp only at h40
          refine x_ws [(qO, .inr (10, [.int (jI vO_blocks), .ref qO_stones, .ref qO_laid, .ref qO_deep, .int (jI vO_placings), .ref qO_placed, .int (jI vO_mortars), .ref qO_put, .ref qO_rates, .int (jI vO_limit), .int (jI vO_looks), .ref qO_seen, .ref qO_text, .int (jI vO_texted), .int (jI vO_faultPlace), .int (jI vO_clauses), .ref qO_rule, .ref qO_fresh, .int (jI vO_lots), .ref qO_stocks, .ref qO_row, .ref qO_dangers, .ref qO_losses, .long (jL vO_upper), .long (jL vO_lower), .ref qO_habitUpper, .ref qO_habitLower, .int (jI vO_at), .long (jL vO_word), .int (jI vO_wordEnd), .ref qO_chosen, .ref qO_lost, .ref qO_zones, .ref qO_way, .ref qO_spent, .ref qO_scaffolds])), aI kI qO_stones 30 fO_stones, aI kI qO_laid 30 fO_laid, aI kI qO_deep 30 fO_deep, aI kI qO_rates 64 fO_rates, aI kI qO_placed 300 fO_placed, aI kI qO_put 180 fO_put] rfl ?_
          subst h40
          refine x_iadd F dX10_dangerOf_43 ?_
          refine x_istore_n (lv' := [(0, .ref qO), (1, .int (jI b)), (2, .int (jI (sum + (oLoss fO_rates (fO_stones b) fO_placed vO_placings fO_put vO_mortars b) y))), (3, .int (jI y))]) F dX10_dangerOf_44 rfl (by decide) [1, 2, 0, 3] rfl ?_
          refine x_iinc (lv' := [(0, .ref qO), (1, .int (jI b)), (2, .int (jI (sum + (oLoss fO_rates (fO_stones b) fO_placed vO_placings fO_put vO_mortars b) y))), (3, .int (jI (y + 1)))]) (k := 3) F dX10_dangerOf_45 rfl (by decide) [1, 2, 3, 0] rfl ?_
          refine x_goto (tgt := 9) F dX10_dangerOf_48 (by decide) ?_
          exact ih9 (sum + (oLoss fO_rates (fO_stones b) fO_placed vO_placings fO_put vO_mortars b) y) (y + 1) (by omega) (by rw [lS_s (by omega), if_pos (by omega), hs]) (by rw [dG_s (by omega), if_neg (by omega)]; exact hd) (by omega)
        · -- 31 f
          refine x_iload_n F dX10_dangerOf_34 rfl 3 rfl ?_
          exact hret 0 0 35 _ y () (Nat.le_of_ble_eq_true rfl) (Nat.le_of_ble_eq_true rfl) dX10_dangerOf_35 ((dG_first (by omega) hd (by omega)).symm)
  exact lp9 (Int.toNat (402 - (fO_laid b)) + 1) 0 (fO_laid b) (by omega) ((lS_before hla.1 (Int.le_refl _)).symm) (by rw [dG_none hla.1 (fun k h1 h2 => by rw [lS_before h1 (by omega)]; omega)]; omega) (by omega)
set_option maxHeartbeats 4000000 in
set_option maxRecDepth 100000 in
theorem c_X10_told (D : va_G) (kI kJ : Nat) (l : Launch) (qO : Nat) (b : Int) (year : Int) (what : Int) (vO_blocks : Int) (qO_stones : Nat) (qO_laid : Nat) (qO_deep : Nat) (vO_placings : Int) (qO_placed : Nat) (vO_mortars : Int) (qO_put : Nat) (qO_rates : Nat) (vO_limit : Int) (vO_looks : Int) (qO_seen : Nat) (qO_text : Nat) (vO_texted : Int) (vO_faultPlace : Int) (vO_clauses : Int) (qO_rule : Nat) (qO_fresh : Nat) (vO_lots : Int) (qO_stocks : Nat) (qO_row : Nat) (qO_dangers : Nat) (qO_losses : Nat) (vO_upper : Int) (vO_lower : Int) (qO_habitUpper : Nat) (qO_habitLower : Nat) (vO_at : Int) (vO_word : Int) (vO_wordEnd : Int) (qO_chosen : Nat) (qO_lost : Nat) (qO_zones : Nat) (qO_way : Nat) (qO_spent : Nat) (qO_scaffolds : Nat) (fO_stones : (Int → Int)) (fO_laid : (Int → Int)) (fO_deep : (Int → Int)) (fO_rates : (Int → Int)) (fO_placed : (Int → Int)) (fO_put : (Int → Int)) (hr_b : -2147483648 ≤ b ∧ b < 2147483648) (hr_year : -2147483648 ≤ year ∧ year < 2147483648) (hr_what : -2147483648 ≤ what ∧ what < 2147483648) (hOb : 0 ≤ vO_blocks ∧ vO_blocks ≤ 30) (hOd1 : ∀ k : Int, 0 ≤ k → k < vO_blocks → 1 ≤ fO_deep k) (hOst : Rg fO_stones 30 0 3) (hOla : Rg fO_laid 30 0 400) (hOde : Rg fO_deep 30 0 2000) (hOli : 1 ≤ vO_limit ∧ vO_limit ≤ 100) (hOra : Rg fO_rates 64 0 50) (hOp : 0 ≤ vO_placings ∧ vO_placings ≤ 60) (hOpr : Rg fO_placed 300 0 400) (hOp2 : Rg (fun k => fO_placed (5 * k + 2)) 60 0 3) (hOp3 : Rg (fun k => fO_placed (5 * k + 3)) 60 0 3) (hOp4 : Rg (fun k => fO_placed (5 * k + 4)) 60 0 7) (hOm : 0 ≤ vO_mortars ∧ vO_mortars ≤ 60) (hOmr : Rg fO_put 180 0 400) (hOm2 : Rg (fun k => fO_put (3 * k + 2)) 60 0 1) : xMi D kI kJ l yX10_told wsX10_told 5 129 0 0 [.ref qO, .int (jI b), .int (jI year), .int (jI what)] [(qO, .inr (10, [.int (jI vO_blocks), .ref qO_stones, .ref qO_laid, .ref qO_deep, .int (jI vO_placings), .ref qO_placed, .int (jI vO_mortars), .ref qO_put, .ref qO_rates, .int (jI vO_limit), .int (jI vO_looks), .ref qO_seen, .ref qO_text, .int (jI vO_texted), .int (jI vO_faultPlace), .int (jI vO_clauses), .ref qO_rule, .ref qO_fresh, .int (jI vO_lots), .ref qO_stocks, .ref qO_row, .ref qO_dangers, .ref qO_losses, .long (jL vO_upper), .long (jL vO_lower), .ref qO_habitUpper, .ref qO_habitLower, .int (jI vO_at), .long (jL vO_word), .int (jI vO_wordEnd), .ref qO_chosen, .ref qO_lost, .ref qO_zones, .ref qO_way, .ref qO_spent, .ref qO_scaffolds])), aI kI qO_stones 30 fO_stones, aI kI qO_laid 30 fO_laid, aI kI qO_deep 30 fO_deep, aI kI qO_rates 64 fO_rates, aI kI qO_placed 300 fO_placed, aI kI qO_put 180 fO_put] (fun (z : Int) (u : Unit) => z = if ¬ (0 ≤ b ∧ b < vO_blocks) then -1001 else if ¬ (0 ≤ year ∧ year ≤ 400) then -1002 else if what = 0 then fO_stones b else if what = 1 then fO_laid b else if what = 2 then fO_deep b else if 3 ≤ what ∧ what ≤ 5 then oPl fO_placed b year vO_placings (what - 1) else if what = 6 then oHm fO_put b year vO_mortars else if what = 7 then (lS (oLoss fO_rates (fO_stones b) fO_placed vO_placings fO_put vO_mortars b) (fO_laid b)) year else if what = 8 then dG (lS (oLoss fO_rates (fO_stones b) fO_placed vO_placings fO_put vO_mortars b) (fO_laid b)) (fO_deep b * vO_limit) 401 else -1002) (fun (u : Unit) => [(qO, .inr (10, [.int (jI vO_blocks), .ref qO_stones, .ref qO_laid, .ref qO_deep, .int (jI vO_placings), .ref qO_placed, .int (jI vO_mortars), .ref qO_put, .ref qO_rates, .int (jI vO_limit), .int (jI vO_looks), .ref qO_seen, .ref qO_text, .int (jI vO_texted), .int (jI vO_faultPlace), .int (jI vO_clauses), .ref qO_rule, .ref qO_fresh, .int (jI vO_lots), .ref qO_stocks, .ref qO_row, .ref qO_dangers, .ref qO_losses, .long (jL vO_upper), .long (jL vO_lower), .ref qO_habitUpper, .ref qO_habitLower, .int (jI vO_at), .long (jL vO_word), .int (jI vO_wordEnd), .ref qO_chosen, .ref qO_lost, .ref qO_zones, .ref qO_way, .ref qO_spent, .ref qO_scaffolds])), aI kI qO_stones 30 fO_stones, aI kI qO_laid 30 fO_laid, aI kI qO_deep 30 fO_deep, aI kI qO_rates 64 fO_rates, aI kI qO_placed 300 fO_placed, aI kI qO_put 180 fO_put]) := by
  refine xMi_of (cc := cX10_told) (maxL := 4) (rt := .int) (by decide) rfl (Nat.le_of_ble_eq_true rfl) (fun _ _ _ => rfl) ?_
  intro p e s m args below meth c A Q F hin2 hret
  have hin10 : ∀ w ∈ wsX100, w ∈ wsX10_told := by decide +kernel
  have hw0 : Cond.fieldLink RX10 7 (TX10 1).1 (TX10 1).2.1 (TX10 1).2.2.1 ∈ wsX10_told := by decide +kernel
  have hw1 : Cond.fieldLink RX10 13 (TX10 2).1 (TX10 2).2.1 (TX10 2).2.2.1 ∈ wsX10_told := by decide +kernel
  have hw2 : Cond.fieldLink RX10 16 (TX10 3).1 (TX10 3).2.1 (TX10 3).2.2.1 ∈ wsX10_told := by decide +kernel
  refine x_lveq (lv' := [(0, .ref qO), (1, .int (jI b)), (2, .int (jI year)), (3, .int (jI what))]) rfl ?_
  refine x_aload_n F dX10_told_0 rfl 0 rfl ?_
  refine x_iload_n F dX10_told_1 rfl 1 rfl ?_
  refine x_callVi (ci := 10) (q0 := 0) (As := [.int (jI b)]) (st := []) F (c_X10_isBlock D kI kJ l qO b vO_blocks qO_stones qO_laid qO_deep vO_placings qO_placed vO_mortars qO_put qO_rates vO_limit vO_looks qO_seen qO_text vO_texted vO_faultPlace vO_clauses qO_rule qO_fresh vO_lots qO_stocks qO_row qO_dangers qO_losses vO_upper vO_lower qO_habitUpper qO_habitLower vO_at vO_word vO_wordEnd qO_chosen qO_lost qO_zones qO_way qO_spent qO_scaffolds hr_b hOb) (cwV 1 F.2.2.2.2.1 gX10_told_X10_isBlock rfl rfl rfl (by decide +kernel) ⟨Nat.le_of_ble_eq_true rfl, Nat.le_of_ble_eq_true rfl⟩) rfl rfl [0] [1, 2, 3, 4, 5, 6] [6, 0, 1, 2, 3, 4, 5] rfl rfl (by decide) (by decide) (by decide) (fun _ => rfl) (by decide) rfl (Nat.le_of_ble_eq_true rfl) dX10_told_2 ⟨Nat.le_of_ble_eq_true rfl, Nat.le_of_ble_eq_true rfl⟩ (fun z2 u2 h2 => ?_)
  try dsimp only at h2
  refine x_ws [(qO, .inr (10, [.int (jI vO_blocks), .ref qO_stones, .ref qO_laid, .ref qO_deep, .int (jI vO_placings), .ref qO_placed, .int (jI vO_mortars), .ref qO_put, .ref qO_rates, .int (jI vO_limit), .int (jI vO_looks), .ref qO_seen, .ref qO_text, .int (jI vO_texted), .int (jI vO_faultPlace), .int (jI vO_clauses), .ref qO_rule, .ref qO_fresh, .int (jI vO_lots), .ref qO_stocks, .ref qO_row, .ref qO_dangers, .ref qO_losses, .long (jL vO_upper), .long (jL vO_lower), .ref qO_habitUpper, .ref qO_habitLower, .int (jI vO_at), .long (jL vO_word), .int (jI vO_wordEnd), .ref qO_chosen, .ref qO_lost, .ref qO_zones, .ref qO_way, .ref qO_spent, .ref qO_scaffolds])), aI kI qO_stones 30 fO_stones, aI kI qO_laid 30 fO_laid, aI kI qO_deep 30 fO_deep, aI kI qO_rates 64 fO_rates, aI kI qO_placed 300 fO_placed, aI kI qO_put 180 fO_put] rfl ?_
  have hb2 := h2
  refine x_bne (tgt := 12) F dX10_told_5 (by decide) hb2 (fun c5 => ?_) (fun c5 => ?_)
  · -- 5 t
    refine x_iload_n F dX10_told_12 rfl 2 rfl ?_
    refine x_callSi (As := [.int (jI year)]) (st := []) F (c_X10_isYear D kI kJ l year (by omega)) (va_cwS 1 F.2.2.2.2.1 gX10_told_X10_isYear rfl rfl rfl (by decide +kernel) ⟨Nat.le_of_ble_eq_true rfl, Nat.le_of_ble_eq_true rfl⟩) [] [0, 1, 2, 3, 4, 5, 6] [0, 1, 2, 3, 4, 5, 6] rfl rfl (by decide) (by decide) (by decide) (fun _ => rfl) (by decide) rfl (Nat.le_of_ble_eq_true rfl) dX10_told_13 ⟨Nat.le_of_ble_eq_true rfl, Nat.le_of_ble_eq_true rfl⟩ (fun z13 u13 h13 => ?_)
    try dsimp only at h13
    refine x_ws [(qO, .inr (10, [.int (jI vO_blocks), .ref qO_stones, .ref qO_laid, .ref qO_deep, .int (jI vO_placings), .ref qO_placed, .int (jI vO_mortars), .ref qO_put, .ref qO_rates, .int (jI vO_limit), .int (jI vO_looks), .ref qO_seen, .ref qO_text, .int (jI vO_texted), .int (jI vO_faultPlace), .int (jI vO_clauses), .ref qO_rule, .ref qO_fresh, .int (jI vO_lots), .ref qO_stocks, .ref qO_row, .ref qO_dangers, .ref qO_losses, .long (jL vO_upper), .long (jL vO_lower), .ref qO_habitUpper, .ref qO_habitLower, .int (jI vO_at), .long (jL vO_word), .int (jI vO_wordEnd), .ref qO_chosen, .ref qO_lost, .ref qO_zones, .ref qO_way, .ref qO_spent, .ref qO_scaffolds])), aI kI qO_stones 30 fO_stones, aI kI qO_laid 30 fO_laid, aI kI qO_deep 30 fO_deep, aI kI qO_rates 64 fO_rates, aI kI qO_placed 300 fO_placed, aI kI qO_put 180 fO_put] rfl ?_
    have hb13 := h13
    refine x_bne (tgt := 23) F dX10_told_16 (by decide) hb13 (fun c16 => ?_) (fun c16 => ?_)
    · -- 16 t
      refine x_iload_n F dX10_told_23 rfl 3 rfl ?_
      by_cases c24_0 : what = 0
      · -- 24 case 0
        refine x_tabIn (tgt := 76) F 0 dX10_told_24 (by decide) c24_0 (by decide) rfl (by decide) ?_
        refine x_aload_n F dX10_told_76 rfl 0 rfl ?_
        refine x_get (ci := 10) F hin10 0 rfl rfl 1 (by decide) hw0 rfl dX10_told_77 ?_
        refine x_iload_n F dX10_told_80 rfl 1 rfl ?_
        refine x_iald F 1 rfl (by decide) (by omega) dX10_told_81 ?_
        have hr81 := Rg.at hOst b (by omega)
        exact hret 0 0 82 _ (fO_stones b) () (Nat.le_of_ble_eq_true rfl) (Nat.le_of_ble_eq_true rfl) dX10_told_82 (by (repeat' split) <;> omega)
      by_cases c24_1 : what = 1
      · -- 24 case 1
        refine x_tabIn (tgt := 83) F 1 dX10_told_24 (by decide) c24_1 (by decide) rfl (by decide) ?_
        refine x_aload_n F dX10_told_83 rfl 0 rfl ?_
        refine x_get (ci := 10) F hin10 0 rfl rfl 2 (by decide) hw1 rfl dX10_told_84 ?_
        refine x_iload_n F dX10_told_87 rfl 1 rfl ?_
        refine x_iald F 2 rfl (by decide) (by omega) dX10_told_88 ?_
        have hr88 := Rg.at hOla b (by omega)
        exact hret 0 0 89 _ (fO_laid b) () (Nat.le_of_ble_eq_true rfl) (Nat.le_of_ble_eq_true rfl) dX10_told_89 (by (repeat' split) <;> omega)
      by_cases c24_2 : what = 2
      · -- 24 case 2
        refine x_tabIn (tgt := 90) F 2 dX10_told_24 (by decide) c24_2 (by decide) rfl (by decide) ?_
        refine x_aload_n F dX10_told_90 rfl 0 rfl ?_
        refine x_get (ci := 10) F hin10 0 rfl rfl 3 (by decide) hw2 rfl dX10_told_91 ?_
        refine x_iload_n F dX10_told_94 rfl 1 rfl ?_
        refine x_iald F 3 rfl (by decide) (by omega) dX10_told_95 ?_
        have hr95 := Rg.at hOde b (by omega)
        exact hret 0 0 96 _ (fO_deep b) () (Nat.le_of_ble_eq_true rfl) (Nat.le_of_ble_eq_true rfl) dX10_told_96 (by (repeat' split) <;> omega)
      by_cases c24_3 : what = 3
      · -- 24 case 3
        refine x_tabIn (tgt := 97) F 3 dX10_told_24 (by decide) c24_3 (by decide) rfl (by decide) ?_
        refine x_aload_n F dX10_told_97 rfl 0 rfl ?_
        refine x_iload_n F dX10_told_98 rfl 1 rfl ?_
        refine x_iload_n F dX10_told_99 rfl 2 rfl ?_
        refine x_iload_n F dX10_told_100 rfl 3 rfl ?_
        refine x_iconst F dX10_told_101 ?_
        refine x_isub F dX10_told_102 ?_
        refine x_callVi (ci := 10) (q0 := 0) (As := [.int (jI b), .int (jI year), .int (jI (what - 1))]) (st := []) F (c_X10_placeOf D kI kJ l qO b year (what - 1) vO_blocks qO_stones qO_laid qO_deep vO_placings qO_placed vO_mortars qO_put qO_rates vO_limit vO_looks qO_seen qO_text vO_texted vO_faultPlace vO_clauses qO_rule qO_fresh vO_lots qO_stocks qO_row qO_dangers qO_losses vO_upper vO_lower qO_habitUpper qO_habitLower vO_at vO_word vO_wordEnd qO_chosen qO_lost qO_zones qO_way qO_spent qO_scaffolds fO_placed hr_b hr_year hOp hOpr (by omega)) (cwV 3 F.2.2.2.2.1 gX10_told_X10_placeOf rfl rfl rfl (by decide +kernel) ⟨Nat.le_of_ble_eq_true rfl, Nat.le_of_ble_eq_true rfl⟩) rfl rfl [0, 5] [1, 2, 3, 4, 6] [5, 0, 1, 2, 3, 6, 4] rfl rfl (by decide) (by decide) (by decide) (fun _ => rfl) (by decide) rfl (Nat.le_of_ble_eq_true rfl) dX10_told_103 ⟨Nat.le_of_ble_eq_true rfl, Nat.le_of_ble_eq_true rfl⟩ (fun z103 u103 h103 => ?_)
        try dsimp only at h103
        refine x_ws [(qO, .inr (10, [.int (jI vO_blocks), .ref qO_stones, .ref qO_laid, .ref qO_deep, .int (jI vO_placings), .ref qO_placed, .int (jI vO_mortars), .ref qO_put, .ref qO_rates, .int (jI vO_limit), .int (jI vO_looks), .ref qO_seen, .ref qO_text, .int (jI vO_texted), .int (jI vO_faultPlace), .int (jI vO_clauses), .ref qO_rule, .ref qO_fresh, .int (jI vO_lots), .ref qO_stocks, .ref qO_row, .ref qO_dangers, .ref qO_losses, .long (jL vO_upper), .long (jL vO_lower), .ref qO_habitUpper, .ref qO_habitLower, .int (jI vO_at), .long (jL vO_word), .int (jI vO_wordEnd), .ref qO_chosen, .ref qO_lost, .ref qO_zones, .ref qO_way, .ref qO_spent, .ref qO_scaffolds])), aI kI qO_stones 30 fO_stones, aI kI qO_laid 30 fO_laid, aI kI qO_deep 30 fO_deep, aI kI qO_rates 64 fO_rates, aI kI qO_placed 300 fO_placed, aI kI qO_put 180 fO_put] rfl ?_
        subst h103
        exact hret 0 0 106 _ (oPl fO_placed b year vO_placings (what - 1)) () (Nat.le_of_ble_eq_true rfl) (Nat.le_of_ble_eq_true rfl) dX10_told_106 (by (repeat' split) <;> omega)
      by_cases c24_4 : what = 4
      · -- 24 case 4
        refine x_tabIn (tgt := 97) F 4 dX10_told_24 (by decide) c24_4 (by decide) rfl (by decide) ?_
        refine x_aload_n F dX10_told_97 rfl 0 rfl ?_
        refine x_iload_n F dX10_told_98 rfl 1 rfl ?_
        refine x_iload_n F dX10_told_99 rfl 2 rfl ?_
        refine x_iload_n F dX10_told_100 rfl 3 rfl ?_
        refine x_iconst F dX10_told_101 ?_
        refine x_isub F dX10_told_102 ?_
        refine x_callVi (ci := 10) (q0 := 0) (As := [.int (jI b), .int (jI year), .int (jI (what - 1))]) (st := []) F (c_X10_placeOf D kI kJ l qO b year (what - 1) vO_blocks qO_stones qO_laid qO_deep vO_placings qO_placed vO_mortars qO_put qO_rates vO_limit vO_looks qO_seen qO_text vO_texted vO_faultPlace vO_clauses qO_rule qO_fresh vO_lots qO_stocks qO_row qO_dangers qO_losses vO_upper vO_lower qO_habitUpper qO_habitLower vO_at vO_word vO_wordEnd qO_chosen qO_lost qO_zones qO_way qO_spent qO_scaffolds fO_placed hr_b hr_year hOp hOpr (by omega)) (cwV 3 F.2.2.2.2.1 gX10_told_X10_placeOf rfl rfl rfl (by decide +kernel) ⟨Nat.le_of_ble_eq_true rfl, Nat.le_of_ble_eq_true rfl⟩) rfl rfl [0, 5] [1, 2, 3, 4, 6] [5, 0, 1, 2, 3, 6, 4] rfl rfl (by decide) (by decide) (by decide) (fun _ => rfl) (by decide) rfl (Nat.le_of_ble_eq_true rfl) dX10_told_103 ⟨Nat.le_of_ble_eq_true rfl, Nat.le_of_ble_eq_true rfl⟩ (fun z103 u103 h103 => ?_)
        try dsimp only at h103
        refine x_ws [(qO, .inr (10, [.int (jI vO_blocks), .ref qO_stones, .ref qO_laid, .ref qO_deep, .int (jI vO_placings), .ref qO_placed, .int (jI vO_mortars), .ref qO_put, .ref qO_rates, .int (jI vO_limit), .int (jI vO_looks), .ref qO_seen, .ref qO_text, .int (jI vO_texted), .int (jI vO_faultPlace), .int (jI vO_clauses), .ref qO_rule, .ref qO_fresh, .int (jI vO_lots), .ref qO_stocks, .ref qO_row, .ref qO_dangers, .ref qO_losses, .long (jL vO_upper), .long (jL vO_lower), .ref qO_habitUpper, .ref qO_habitLower, .int (jI vO_at), .long (jL vO_word), .int (jI vO_wordEnd), .ref qO_chosen, .ref qO_lost, .ref qO_zones, .ref qO_way, .ref qO_spent, .ref qO_scaffolds])), aI kI qO_stones 30 fO_stones, aI kI qO_laid 30 fO_laid, aI kI qO_deep 30 fO_deep, aI kI qO_rates 64 fO_rates, aI kI qO_placed 300 fO_placed, aI kI qO_put 180 fO_put] rfl ?_
        subst h103
        exact hret 0 0 106 _ (oPl fO_placed b year vO_placings (what - 1)) () (Nat.le_of_ble_eq_true rfl) (Nat.le_of_ble_eq_true rfl) dX10_told_106 (by (repeat' split) <;> omega)
      by_cases c24_5 : what = 5
      · -- 24 case 5
        refine x_tabIn (tgt := 97) F 5 dX10_told_24 (by decide) c24_5 (by decide) rfl (by decide) ?_
        refine x_aload_n F dX10_told_97 rfl 0 rfl ?_
        refine x_iload_n F dX10_told_98 rfl 1 rfl ?_
        refine x_iload_n F dX10_told_99 rfl 2 rfl ?_
        refine x_iload_n F dX10_told_100 rfl 3 rfl ?_
        refine x_iconst F dX10_told_101 ?_
        refine x_isub F dX10_told_102 ?_
        refine x_callVi (ci := 10) (q0 := 0) (As := [.int (jI b), .int (jI year), .int (jI (what - 1))]) (st := []) F (c_X10_placeOf D kI kJ l qO b year (what - 1) vO_blocks qO_stones qO_laid qO_deep vO_placings qO_placed vO_mortars qO_put qO_rates vO_limit vO_looks qO_seen qO_text vO_texted vO_faultPlace vO_clauses qO_rule qO_fresh vO_lots qO_stocks qO_row qO_dangers qO_losses vO_upper vO_lower qO_habitUpper qO_habitLower vO_at vO_word vO_wordEnd qO_chosen qO_lost qO_zones qO_way qO_spent qO_scaffolds fO_placed hr_b hr_year hOp hOpr (by omega)) (cwV 3 F.2.2.2.2.1 gX10_told_X10_placeOf rfl rfl rfl (by decide +kernel) ⟨Nat.le_of_ble_eq_true rfl, Nat.le_of_ble_eq_true rfl⟩) rfl rfl [0, 5] [1, 2, 3, 4, 6] [5, 0, 1, 2, 3, 6, 4] rfl rfl (by decide) (by decide) (by decide) (fun _ => rfl) (by decide) rfl (Nat.le_of_ble_eq_true rfl) dX10_told_103 ⟨Nat.le_of_ble_eq_true rfl, Nat.le_of_ble_eq_true rfl⟩ (fun z103 u103 h103 => ?_)
        try dsimp only at h103
        refine x_ws [(qO, .inr (10, [.int (jI vO_blocks), .ref qO_stones, .ref qO_laid, .ref qO_deep, .int (jI vO_placings), .ref qO_placed, .int (jI vO_mortars), .ref qO_put, .ref qO_rates, .int (jI vO_limit), .int (jI vO_looks), .ref qO_seen, .ref qO_text, .int (jI vO_texted), .int (jI vO_faultPlace), .int (jI vO_clauses), .ref qO_rule, .ref qO_fresh, .int (jI vO_lots), .ref qO_stocks, .ref qO_row, .ref qO_dangers, .ref qO_losses, .long (jL vO_upper), .long (jL vO_lower), .ref qO_habitUpper, .ref qO_habitLower, .int (jI vO_at), .long (jL vO_word), .int (jI vO_wordEnd), .ref qO_chosen, .ref qO_lost, .ref qO_zones, .ref qO_way, .ref qO_spent, .ref qO_scaffolds])), aI kI qO_stones 30 fO_stones, aI kI qO_laid 30 fO_laid, aI kI qO_deep 30 fO_deep, aI kI qO_rates 64 fO_rates, aI kI qO_placed 300 fO_placed, aI kI qO_put 180 fO_put] rfl ?_
        subst h103
        exact hret 0 0 106 _ (oPl fO_placed b year vO_placings (what - 1)) () (Nat.le_of_ble_eq_true rfl) (Nat.le_of_ble_eq_true rfl) dX10_told_106 (by (repeat' split) <;> omega)
      by_cases c24_6 : what = 6
      · -- 24 case 6
        refine x_tabIn (tgt := 107) F 6 dX10_told_24 (by decide) c24_6 (by decide) rfl (by decide) ?_
        refine x_aload_n F dX10_told_107 rfl 0 rfl ?_
        refine x_iload_n F dX10_told_108 rfl 1 rfl ?_
        refine x_iload_n F dX10_told_109 rfl 2 rfl ?_
        refine x_callVi (ci := 10) (q0 := 0) (As := [.int (jI b), .int (jI year)]) (st := []) F (c_X10_harmOf D kI kJ l qO b year vO_blocks qO_stones qO_laid qO_deep vO_placings qO_placed vO_mortars qO_put qO_rates vO_limit vO_looks qO_seen qO_text vO_texted vO_faultPlace vO_clauses qO_rule qO_fresh vO_lots qO_stocks qO_row qO_dangers qO_losses vO_upper vO_lower qO_habitUpper qO_habitLower vO_at vO_word vO_wordEnd qO_chosen qO_lost qO_zones qO_way qO_spent qO_scaffolds fO_put hr_b hr_year hOm hOmr) (cwV 2 F.2.2.2.2.1 gX10_told_X10_harmOf rfl rfl rfl (by decide +kernel) ⟨Nat.le_of_ble_eq_true rfl, Nat.le_of_ble_eq_true rfl⟩) rfl rfl [0, 6] [1, 2, 3, 4, 5] [5, 0, 1, 2, 3, 4, 6] rfl rfl (by decide) (by decide) (by decide) (fun _ => rfl) (by decide) rfl (Nat.le_of_ble_eq_true rfl) dX10_told_110 ⟨Nat.le_of_ble_eq_true rfl, Nat.le_of_ble_eq_true rfl⟩ (fun z110 u110 h110 => ?_)
        try dsimp only at h110
        refine x_ws [(qO, .inr (10, [.int (jI vO_blocks), .ref qO_stones, .ref qO_laid, .ref qO_deep, .int (jI vO_placings), .ref qO_placed, .int (jI vO_mortars), .ref qO_put, .ref qO_rates, .int (jI vO_limit), .int (jI vO_looks), .ref qO_seen, .ref qO_text, .int (jI vO_texted), .int (jI vO_faultPlace), .int (jI vO_clauses), .ref qO_rule, .ref qO_fresh, .int (jI vO_lots), .ref qO_stocks, .ref qO_row, .ref qO_dangers, .ref qO_losses, .long (jL vO_upper), .long (jL vO_lower), .ref qO_habitUpper, .ref qO_habitLower, .int (jI vO_at), .long (jL vO_word), .int (jI vO_wordEnd), .ref qO_chosen, .ref qO_lost, .ref qO_zones, .ref qO_way, .ref qO_spent, .ref qO_scaffolds])), aI kI qO_stones 30 fO_stones, aI kI qO_laid 30 fO_laid, aI kI qO_deep 30 fO_deep, aI kI qO_rates 64 fO_rates, aI kI qO_placed 300 fO_placed, aI kI qO_put 180 fO_put] rfl ?_
        subst h110
        exact hret 0 0 113 _ (oHm fO_put b year vO_mortars) () (Nat.le_of_ble_eq_true rfl) (Nat.le_of_ble_eq_true rfl) dX10_told_113 (by (repeat' split) <;> omega)
      by_cases c24_7 : what = 7
      · -- 24 case 7
        refine x_tabIn (tgt := 114) F 7 dX10_told_24 (by decide) c24_7 (by decide) rfl (by decide) ?_
        refine x_aload_n F dX10_told_114 rfl 0 rfl ?_
        refine x_iload_n F dX10_told_115 rfl 1 rfl ?_
        refine x_iload_n F dX10_told_116 rfl 2 rfl ?_
        refine x_callVi (ci := 10) (q0 := 0) (As := [.int (jI b), .int (jI year)]) (st := []) F (c_X10_lostAt D kI kJ l qO b year vO_blocks qO_stones qO_laid qO_deep vO_placings qO_placed vO_mortars qO_put qO_rates vO_limit vO_looks qO_seen qO_text vO_texted vO_faultPlace vO_clauses qO_rule qO_fresh vO_lots qO_stocks qO_row qO_dangers qO_losses vO_upper vO_lower qO_habitUpper qO_habitLower vO_at vO_word vO_wordEnd qO_chosen qO_lost qO_zones qO_way qO_spent qO_scaffolds fO_stones fO_laid fO_rates fO_placed fO_put (by omega) (by omega) hOst hOla hOra hOp hOpr hOp2 hOp3 hOp4 hOm hOmr hOm2) (cwV 2 F.2.2.2.2.1 gX10_told_X10_lostAt rfl rfl rfl (by decide +kernel) ⟨Nat.le_of_ble_eq_true rfl, Nat.le_of_ble_eq_true rfl⟩) rfl rfl [0, 1, 2, 4, 5, 6] [3] [1, 2, 3, 0, 4, 5, 6] rfl rfl (by decide) (by decide) (by decide) (fun _ => rfl) (by decide) rfl (Nat.le_of_ble_eq_true rfl) dX10_told_117 ⟨Nat.le_of_ble_eq_true rfl, Nat.le_of_ble_eq_true rfl⟩ (fun z117 u117 h117 => ?_)
        try dsimp only at h117
        refine x_ws [(qO, .inr (10, [.int (jI vO_blocks), .ref qO_stones, .ref qO_laid, .ref qO_deep, .int (jI vO_placings), .ref qO_placed, .int (jI vO_mortars), .ref qO_put, .ref qO_rates, .int (jI vO_limit), .int (jI vO_looks), .ref qO_seen, .ref qO_text, .int (jI vO_texted), .int (jI vO_faultPlace), .int (jI vO_clauses), .ref qO_rule, .ref qO_fresh, .int (jI vO_lots), .ref qO_stocks, .ref qO_row, .ref qO_dangers, .ref qO_losses, .long (jL vO_upper), .long (jL vO_lower), .ref qO_habitUpper, .ref qO_habitLower, .int (jI vO_at), .long (jL vO_word), .int (jI vO_wordEnd), .ref qO_chosen, .ref qO_lost, .ref qO_zones, .ref qO_way, .ref qO_spent, .ref qO_scaffolds])), aI kI qO_stones 30 fO_stones, aI kI qO_laid 30 fO_laid, aI kI qO_deep 30 fO_deep, aI kI qO_rates 64 fO_rates, aI kI qO_placed 300 fO_placed, aI kI qO_put 180 fO_put] rfl ?_
        subst h117
        exact hret 0 0 120 _ ((lS (oLoss fO_rates (fO_stones b) fO_placed vO_placings fO_put vO_mortars b) (fO_laid b)) year) () (Nat.le_of_ble_eq_true rfl) (Nat.le_of_ble_eq_true rfl) dX10_told_120 (by (repeat' split) <;> omega)
      by_cases c24_8 : what = 8
      · -- 24 case 8
        refine x_tabIn (tgt := 121) F 8 dX10_told_24 (by decide) c24_8 (by decide) rfl (by decide) ?_
        refine x_aload_n F dX10_told_121 rfl 0 rfl ?_
        refine x_iload_n F dX10_told_122 rfl 1 rfl ?_
        refine x_callVi (ci := 10) (q0 := 0) (As := [.int (jI b)]) (st := []) F (c_X10_dangerOf D kI kJ l qO b vO_blocks qO_stones qO_laid qO_deep vO_placings qO_placed vO_mortars qO_put qO_rates vO_limit vO_looks qO_seen qO_text vO_texted vO_faultPlace vO_clauses qO_rule qO_fresh vO_lots qO_stocks qO_row qO_dangers qO_losses vO_upper vO_lower qO_habitUpper qO_habitLower vO_at vO_word vO_wordEnd qO_chosen qO_lost qO_zones qO_way qO_spent qO_scaffolds fO_stones fO_laid fO_deep fO_rates fO_placed fO_put (by omega) (hOd1 b (by omega) (by omega)) hOst hOla hOde hOli hOra hOp hOpr hOp2 hOp3 hOp4 hOm hOmr hOm2) (cwV 1 F.2.2.2.2.1 gX10_told_X10_dangerOf rfl rfl rfl (by decide +kernel) ⟨Nat.le_of_ble_eq_true rfl, Nat.le_of_ble_eq_true rfl⟩) rfl rfl [0, 1, 2, 3, 4, 5, 6] [] [0, 1, 2, 3, 4, 5, 6] rfl rfl (by decide) (by decide) (by decide) (fun _ => rfl) (by decide) rfl (Nat.le_of_ble_eq_true rfl) dX10_told_123 ⟨Nat.le_of_ble_eq_true rfl, Nat.le_of_ble_eq_true rfl⟩ (fun z123 u123 h123 => ?_)
        try dsimp only at h123
        refine x_ws [(qO, .inr (10, [.int (jI vO_blocks), .ref qO_stones, .ref qO_laid, .ref qO_deep, .int (jI vO_placings), .ref qO_placed, .int (jI vO_mortars), .ref qO_put, .ref qO_rates, .int (jI vO_limit), .int (jI vO_looks), .ref qO_seen, .ref qO_text, .int (jI vO_texted), .int (jI vO_faultPlace), .int (jI vO_clauses), .ref qO_rule, .ref qO_fresh, .int (jI vO_lots), .ref qO_stocks, .ref qO_row, .ref qO_dangers, .ref qO_losses, .long (jL vO_upper), .long (jL vO_lower), .ref qO_habitUpper, .ref qO_habitLower, .int (jI vO_at), .long (jL vO_word), .int (jI vO_wordEnd), .ref qO_chosen, .ref qO_lost, .ref qO_zones, .ref qO_way, .ref qO_spent, .ref qO_scaffolds])), aI kI qO_stones 30 fO_stones, aI kI qO_laid 30 fO_laid, aI kI qO_deep 30 fO_deep, aI kI qO_rates 64 fO_rates, aI kI qO_placed 300 fO_placed, aI kI qO_put 180 fO_put] rfl ?_
        subst h123
        exact hret 0 0 126 _ (dG (lS (oLoss fO_rates (fO_stones b) fO_placed vO_placings fO_put vO_mortars b) (fO_laid b)) (fO_deep b * vO_limit) 401) () (Nat.le_of_ble_eq_true rfl) (Nat.le_of_ble_eq_true rfl) dX10_told_126 (by (repeat' split) <;> omega)
      refine x_tabOut (tgt := 127) F dX10_told_24 (by omega) (by omega) (by decide) ?_
      refine x_sipush F dX10_told_127 (by decide) ?_
      exact hret 0 0 130 _ (-1002) () (Nat.le_of_ble_eq_true rfl) (Nat.le_of_ble_eq_true rfl) dX10_told_130 (by (repeat' split) <;> omega)
    · -- 16 f
      refine x_sipush F dX10_told_19 (by decide) ?_
      exact hret 0 0 22 _ (-1002) () (Nat.le_of_ble_eq_true rfl) (Nat.le_of_ble_eq_true rfl) dX10_told_22 (by (repeat' split) <;> omega)
  · -- 5 f
    refine x_sipush F dX10_told_8 (by decide) ?_
    exact hret 0 0 11 _ (-1001) () (Nat.le_of_ble_eq_true rfl) (Nat.le_of_ble_eq_true rfl) dX10_told_11 (by (repeat' split) <;> omega)
set_option maxHeartbeats 4000000 in
set_option maxRecDepth 100000 in
theorem c_X10_isDouble (D : va_G) (kI kJ : Nat) (l : Launch) (qO : Nat) (i : Int) (j : Int) (vO_blocks : Int) (qO_stones : Nat) (qO_laid : Nat) (qO_deep : Nat) (vO_placings : Int) (qO_placed : Nat) (vO_mortars : Int) (qO_put : Nat) (qO_rates : Nat) (vO_limit : Int) (vO_looks : Int) (qO_seen : Nat) (qO_text : Nat) (vO_texted : Int) (vO_faultPlace : Int) (vO_clauses : Int) (qO_rule : Nat) (qO_fresh : Nat) (vO_lots : Int) (qO_stocks : Nat) (qO_row : Nat) (qO_dangers : Nat) (qO_losses : Nat) (vO_upper : Int) (vO_lower : Int) (qO_habitUpper : Nat) (qO_habitLower : Nat) (vO_at : Int) (vO_word : Int) (vO_wordEnd : Int) (qO_chosen : Nat) (qO_lost : Nat) (qO_zones : Nat) (qO_way : Nat) (qO_spent : Nat) (qO_scaffolds : Nat) (fO_seen : (Int → Int)) (hij : (0 ≤ i ∧ i < 80) ∧ 0 ≤ j ∧ j < 80) (hOsn : Rg fO_seen 320 0 400) : xMi D kI kJ l yX10_isDouble wsX10_isDouble 1 32 0 0 [.ref qO, .int (jI i), .int (jI j)] [(qO, .inr (10, [.int (jI vO_blocks), .ref qO_stones, .ref qO_laid, .ref qO_deep, .int (jI vO_placings), .ref qO_placed, .int (jI vO_mortars), .ref qO_put, .ref qO_rates, .int (jI vO_limit), .int (jI vO_looks), .ref qO_seen, .ref qO_text, .int (jI vO_texted), .int (jI vO_faultPlace), .int (jI vO_clauses), .ref qO_rule, .ref qO_fresh, .int (jI vO_lots), .ref qO_stocks, .ref qO_row, .ref qO_dangers, .ref qO_losses, .long (jL vO_upper), .long (jL vO_lower), .ref qO_habitUpper, .ref qO_habitLower, .int (jI vO_at), .long (jL vO_word), .int (jI vO_wordEnd), .ref qO_chosen, .ref qO_lost, .ref qO_zones, .ref qO_way, .ref qO_spent, .ref qO_scaffolds])), aI kI qO_seen 320 fO_seen] (fun (z : Int) (u : Unit) => xBool z (fO_seen (4 * i) = fO_seen (4 * j) ∧ fO_seen (4 * i + 2) = fO_seen (4 * j + 2) ∧ ¬ fO_seen (4 * i + 1) = fO_seen (4 * j + 1))) (fun (u : Unit) => [(qO, .inr (10, [.int (jI vO_blocks), .ref qO_stones, .ref qO_laid, .ref qO_deep, .int (jI vO_placings), .ref qO_placed, .int (jI vO_mortars), .ref qO_put, .ref qO_rates, .int (jI vO_limit), .int (jI vO_looks), .ref qO_seen, .ref qO_text, .int (jI vO_texted), .int (jI vO_faultPlace), .int (jI vO_clauses), .ref qO_rule, .ref qO_fresh, .int (jI vO_lots), .ref qO_stocks, .ref qO_row, .ref qO_dangers, .ref qO_losses, .long (jL vO_upper), .long (jL vO_lower), .ref qO_habitUpper, .ref qO_habitLower, .int (jI vO_at), .long (jL vO_word), .int (jI vO_wordEnd), .ref qO_chosen, .ref qO_lost, .ref qO_zones, .ref qO_way, .ref qO_spent, .ref qO_scaffolds])), aI kI qO_seen 320 fO_seen]) := by
  refine xMi_of (cc := cX10_isDouble) (maxL := 3) (rt := .boolean) (by decide) rfl (Nat.le_of_ble_eq_true rfl) (fun z u hp => xBool_nar hp) ?_
  intro p e s m args below meth c A Q F hin2 hret
  have hin10 : ∀ w ∈ wsX100, w ∈ wsX10_isDouble := by decide +kernel
  have hw0 : Cond.fieldLink RX10 32 (TX10 11).1 (TX10 11).2.1 (TX10 11).2.2.1 ∈ wsX10_isDouble := by decide +kernel
  refine x_lveq (lv' := [(0, .ref qO), (1, .int (jI i)), (2, .int (jI j))]) rfl ?_
  refine x_aload_n F dX10_isDouble_0 rfl 0 rfl ?_
  refine x_get (ci := 10) F hin10 0 rfl rfl 11 (by decide) hw0 rfl dX10_isDouble_1 ?_
  refine x_iconst F dX10_isDouble_4 ?_
  refine x_iload_n F dX10_isDouble_5 rfl 1 rfl ?_
  refine x_imul F dX10_isDouble_6 ?_
  refine x_iald F 1 rfl (by decide) (by omega) dX10_isDouble_7 ?_
  have hr7 := Rg.at hOsn (4 * i) (by omega)
  refine x_aload_n F dX10_isDouble_8 rfl 0 rfl ?_
  refine x_get (ci := 10) F hin10 0 rfl rfl 11 (by decide) hw0 rfl dX10_isDouble_9 ?_
  refine x_iconst F dX10_isDouble_12 ?_
  refine x_iload_n F dX10_isDouble_13 rfl 2 rfl ?_
  refine x_imul F dX10_isDouble_14 ?_
  refine x_iald F 1 rfl (by decide) (by omega) dX10_isDouble_15 ?_
  have hr15 := Rg.at hOsn (4 * j) (by omega)
  refine x_icmp_ne (tgt := 69) F dX10_isDouble_16 (by decide) (by omega) (fun c16 => ?_) (fun c16 => ?_)
  · -- 16 t
    refine x_iconst F dX10_isDouble_69 ?_
    exact hret 0 0 70 _ 0 () (Nat.le_of_ble_eq_true rfl) (Nat.le_of_ble_eq_true rfl) dX10_isDouble_70 (by first | exact xBool_t (by omega) | exact xBool_f (by omega))
  · -- 16 f
    refine x_aload_n F dX10_isDouble_19 rfl 0 rfl ?_
    refine x_get (ci := 10) F hin10 0 rfl rfl 11 (by decide) hw0 rfl dX10_isDouble_20 ?_
    refine x_iconst F dX10_isDouble_23 ?_
    refine x_iload_n F dX10_isDouble_24 rfl 1 rfl ?_
    refine x_imul F dX10_isDouble_25 ?_
    refine x_iconst F dX10_isDouble_26 ?_
    refine x_iadd F dX10_isDouble_27 ?_
    refine x_iald F 1 rfl (by decide) (by omega) dX10_isDouble_28 ?_
    have hr28 := Rg.at hOsn ((4 * i) + 2) (by omega)
    refine x_aload_n F dX10_isDouble_29 rfl 0 rfl ?_
    refine x_get (ci := 10) F hin10 0 rfl rfl 11 (by decide) hw0 rfl dX10_isDouble_30 ?_
    refine x_iconst F dX10_isDouble_33 ?_
    refine x_iload_n F dX10_isDouble_34 rfl 2 rfl ?_
    refine x_imul F dX10_isDouble_35 ?_
    refine x_iconst F dX10_isDouble_36 ?_
    refine x_iadd F dX10_isDouble_37 ?_
    refine x_iald F 1 rfl (by decide) (by omega) dX10_isDouble_38 ?_
    have hr38 := Rg.at hOsn ((4 * j) + 2) (by omega)
    refine x_icmp_ne (tgt := 69) F dX10_isDouble_39 (by decide) (by omega) (fun c39 => ?_) (fun c39 => ?_)
    · -- 39 t
      refine x_iconst F dX10_isDouble_69 ?_
      exact hret 0 0 70 _ 0 () (Nat.le_of_ble_eq_true rfl) (Nat.le_of_ble_eq_true rfl) dX10_isDouble_70 (by first | exact xBool_t (by omega) | exact xBool_f (by omega))
    · -- 39 f
      refine x_aload_n F dX10_isDouble_42 rfl 0 rfl ?_
      refine x_get (ci := 10) F hin10 0 rfl rfl 11 (by decide) hw0 rfl dX10_isDouble_43 ?_
      refine x_iconst F dX10_isDouble_46 ?_
      refine x_iload_n F dX10_isDouble_47 rfl 1 rfl ?_
      refine x_imul F dX10_isDouble_48 ?_
      refine x_iconst F dX10_isDouble_49 ?_
      refine x_iadd F dX10_isDouble_50 ?_
      refine x_iald F 1 rfl (by decide) (by omega) dX10_isDouble_51 ?_
      have hr51 := Rg.at hOsn ((4 * i) + 1) (by omega)
      refine x_aload_n F dX10_isDouble_52 rfl 0 rfl ?_
      refine x_get (ci := 10) F hin10 0 rfl rfl 11 (by decide) hw0 rfl dX10_isDouble_53 ?_
      refine x_iconst F dX10_isDouble_56 ?_
      refine x_iload_n F dX10_isDouble_57 rfl 2 rfl ?_
      refine x_imul F dX10_isDouble_58 ?_
      refine x_iconst F dX10_isDouble_59 ?_
      refine x_iadd F dX10_isDouble_60 ?_
      refine x_iald F 1 rfl (by decide) (by omega) dX10_isDouble_61 ?_
      have hr61 := Rg.at hOsn ((4 * j) + 1) (by omega)
      refine x_icmp_eq (tgt := 69) F dX10_isDouble_62 (by decide) (by omega) (fun c62 => ?_) (fun c62 => ?_)
      · -- 62 t
        refine x_iconst F dX10_isDouble_69 ?_
        exact hret 0 0 70 _ 0 () (Nat.le_of_ble_eq_true rfl) (Nat.le_of_ble_eq_true rfl) dX10_isDouble_70 (by first | exact xBool_t (by omega) | exact xBool_f (by omega))
      · -- 62 f
        refine x_iconst F dX10_isDouble_65 ?_
        refine x_goto (tgt := 70) F dX10_isDouble_66 (by decide) ?_
        exact hret 0 0 70 _ 1 () (Nat.le_of_ble_eq_true rfl) (Nat.le_of_ble_eq_true rfl) dX10_isDouble_70 (by first | exact xBool_t (by omega) | exact xBool_f (by omega))
set_option maxHeartbeats 4000000 in
set_option maxRecDepth 100000 in
theorem c_X10_count (D : va_G) (kI kJ : Nat) (l : Launch) (qO : Nat) (what : Int) (vO_blocks : Int) (qO_stones : Nat) (qO_laid : Nat) (qO_deep : Nat) (vO_placings : Int) (qO_placed : Nat) (vO_mortars : Int) (qO_put : Nat) (qO_rates : Nat) (vO_limit : Int) (vO_looks : Int) (qO_seen : Nat) (qO_text : Nat) (vO_texted : Int) (vO_faultPlace : Int) (vO_clauses : Int) (qO_rule : Nat) (qO_fresh : Nat) (vO_lots : Int) (qO_stocks : Nat) (qO_row : Nat) (qO_dangers : Nat) (qO_losses : Nat) (vO_upper : Int) (vO_lower : Int) (qO_habitUpper : Nat) (qO_habitLower : Nat) (vO_at : Int) (vO_word : Int) (vO_wordEnd : Int) (qO_chosen : Nat) (qO_lost : Nat) (qO_zones : Nat) (qO_way : Nat) (qO_spent : Nat) (qO_scaffolds : Nat) (fO_seen : (Int → Int)) (fO_stocks : (Int → Int)) (hr_what : -2147483648 ≤ what ∧ what < 2147483648) (hOl : 0 ≤ vO_looks ∧ vO_looks ≤ 80) (hOsn : Rg fO_seen 320 0 400) (hOlo : 0 ≤ vO_lots ∧ vO_lots ≤ 20) (hOsk : Rg fO_stocks 100 0 99) : xMi D kI kJ l yX10_count wsX10_count 2 54 0 0 [.ref qO, .int (jI what)] [(qO, .inr (10, [.int (jI vO_blocks), .ref qO_stones, .ref qO_laid, .ref qO_deep, .int (jI vO_placings), .ref qO_placed, .int (jI vO_mortars), .ref qO_put, .ref qO_rates, .int (jI vO_limit), .int (jI vO_looks), .ref qO_seen, .ref qO_text, .int (jI vO_texted), .int (jI vO_faultPlace), .int (jI vO_clauses), .ref qO_rule, .ref qO_fresh, .int (jI vO_lots), .ref qO_stocks, .ref qO_row, .ref qO_dangers, .ref qO_losses, .long (jL vO_upper), .long (jL vO_lower), .ref qO_habitUpper, .ref qO_habitLower, .int (jI vO_at), .long (jL vO_word), .int (jI vO_wordEnd), .ref qO_chosen, .ref qO_lost, .ref qO_zones, .ref qO_way, .ref qO_spent, .ref qO_scaffolds])), aI kI qO_seen 320 fO_seen, aI kI qO_stocks 100 fO_stocks] (fun (z : Int) (u : Unit) => z = if what = 0 then vO_blocks else if what = 1 then vO_placings else if what = 2 then vO_mortars else if what = 3 then vO_looks else if what = 4 then dnS (fun k => fO_seen (4 * k)) (fun k => fO_seen (4 * k + 2)) (fun k => fO_seen (4 * k + 1)) vO_looks else if what = 5 then vO_clauses else if what = 6 then vO_texted else if what = 7 then vO_lots else if what = 8 then sm (fun k => fO_stocks (5 * k + 4)) vO_lots else -1002) (fun (u : Unit) => [(qO, .inr (10, [.int (jI vO_blocks), .ref qO_stones, .ref qO_laid, .ref qO_deep, .int (jI vO_placings), .ref qO_placed, .int (jI vO_mortars), .ref qO_put, .ref qO_rates, .int (jI vO_limit), .int (jI vO_looks), .ref qO_seen, .ref qO_text, .int (jI vO_texted), .int (jI vO_faultPlace), .int (jI vO_clauses), .ref qO_rule, .ref qO_fresh, .int (jI vO_lots), .ref qO_stocks, .ref qO_row, .ref qO_dangers, .ref qO_losses, .long (jL vO_upper), .long (jL vO_lower), .ref qO_habitUpper, .ref qO_habitLower, .int (jI vO_at), .long (jL vO_word), .int (jI vO_wordEnd), .ref qO_chosen, .ref qO_lost, .ref qO_zones, .ref qO_way, .ref qO_spent, .ref qO_scaffolds])), aI kI qO_seen 320 fO_seen, aI kI qO_stocks 100 fO_stocks]) := by
  refine xMi_of (cc := cX10_count) (maxL := 6) (rt := .int) (by decide) rfl (Nat.le_of_ble_eq_true rfl) (fun _ _ _ => rfl) ?_
  intro p e s m args below meth c A Q F hin2 hret
  have hin10 : ∀ w ∈ wsX100, w ∈ wsX10_count := by decide +kernel
  have hw0 : Cond.fieldLink RX10 138 (TX10 18).1 (TX10 18).2.1 (TX10 18).2.2.1 ∈ wsX10_count := by decide +kernel
  have hw1 : Cond.fieldLink RX10 141 (TX10 10).1 (TX10 10).2.1 (TX10 10).2.2.1 ∈ wsX10_count := by decide +kernel
  have hw2 : Cond.fieldLink RX10 90 (TX10 0).1 (TX10 0).2.1 (TX10 0).2.2.1 ∈ wsX10_count := by decide +kernel
  have hw3 : Cond.fieldLink RX10 106 (TX10 4).1 (TX10 4).2.1 (TX10 4).2.2.1 ∈ wsX10_count := by decide +kernel
  have hw4 : Cond.fieldLink RX10 109 (TX10 6).1 (TX10 6).2.1 (TX10 6).2.2.1 ∈ wsX10_count := by decide +kernel
  have hw5 : Cond.fieldLink RX10 148 (TX10 15).1 (TX10 15).2.1 (TX10 15).2.2.1 ∈ wsX10_count := by decide +kernel
  have hw6 : Cond.fieldLink RX10 151 (TX10 13).1 (TX10 13).2.1 (TX10 13).2.2.1 ∈ wsX10_count := by decide +kernel
  have hw7 : Cond.fieldLink RX10 47 (TX10 19).1 (TX10 19).2.1 (TX10 19).2.2.1 ∈ wsX10_count := by decide +kernel
  refine x_lveq (lv' := [(0, .ref qO), (1, .int (jI what))]) rfl ?_
  refine x_iconst F dX10_count_0 ?_
  refine x_istore_n (lv' := [(0, .ref qO), (1, .int (jI what)), (2, .int (jI 0))]) F dX10_count_1 rfl (by decide) [1, 2, 0] rfl ?_
  refine x_iconst F dX10_count_2 ?_
  refine x_istore_n (lv' := [(0, .ref qO), (1, .int (jI what)), (2, .int (jI 0)), (3, .int (jI 0))]) F dX10_count_3 rfl (by decide) [1, 2, 3, 0] rfl ?_
  have lp4 : ∀ (fu : Nat) (pcs : Int) (ll : Int) (hll : 0 ≤ ll ∧ ll ≤ vO_lots) (hp : pcs = sm (fun k => fO_stocks (5 * k + 4)) ll) (hm : vO_lots - ll < (fu : Int)), xG D p l e (xRm 2 54 0 0) s m args below meth c 6 A Q 0 0 [(qO, .inr (10, [.int (jI vO_blocks), .ref qO_stones, .ref qO_laid, .ref qO_deep, .int (jI vO_placings), .ref qO_placed, .int (jI vO_mortars), .ref qO_put, .ref qO_rates, .int (jI vO_limit), .int (jI vO_looks), .ref qO_seen, .ref qO_text, .int (jI vO_texted), .int (jI vO_faultPlace), .int (jI vO_clauses), .ref qO_rule, .ref qO_fresh, .int (jI vO_lots), .ref qO_stocks, .ref qO_row, .ref qO_dangers, .ref qO_losses, .long (jL vO_upper), .long (jL vO_lower), .ref qO_habitUpper, .ref qO_habitLower, .int (jI vO_at), .long (jL vO_word), .int (jI vO_wordEnd), .ref qO_chosen, .ref qO_lost, .ref qO_zones, .ref qO_way, .ref qO_spent, .ref qO_scaffolds])), aI kI qO_seen 320 fO_seen, aI kI qO_stocks 100 fO_stocks] [(0, .ref qO), (1, .int (jI what)), (2, .int (jI pcs)), (3, .int (jI ll))] 4 [] := by
    intro fu
    induction fu with
    | zero =>
      intro pcs ll hll hp hm
      exact absurd hm (by omega)
    | succ fu ih4 =>
      intro pcs ll hll hp hm
      refine x_iload_n F dX10_count_4 rfl 3 rfl ?_
      refine x_aload_n F dX10_count_5 rfl 0 rfl ?_
      refine x_get (ci := 10) F hin10 0 rfl rfl 18 (by decide) hw0 rfl dX10_count_6 ?_
      refine x_icmp_ge (tgt := 31) F dX10_count_9 (by decide) (by omega) (fun c9 => ?_) (fun c9 => ?_)
      · -- 9 t
        refine x_iconst F dX10_count_31 ?_
        refine x_istore_n (lv' := [(0, .ref qO), (1, .int (jI what)), (2, .int (jI pcs)), (3, .int (jI 0))]) F dX10_count_32 rfl (by decide) [1, 2, 3, 0] rfl ?_
        refine x_iconst F dX10_count_33 ?_
        refine x_istore (lv' := [(0, .ref qO), (1, .int (jI what)), (2, .int (jI pcs)), (3, .int (jI 0)), (4, .int (jI 0))]) F dX10_count_34 (by decide) [1, 2, 3, 4, 0] rfl ?_
        have lp36 : ∀ (fu : Nat) (dd : Int) (i : Int) (hi : 0 ≤ i ∧ i ≤ vO_looks) (hd : dd = dnS (fun k => fO_seen (4 * k)) (fun k => fO_seen (4 * k + 2)) (fun k => fO_seen (4 * k + 1)) i) (hm : vO_looks - i < (fu : Int)), xG D p l e (xRm 2 54 0 0) s m args below meth c 6 A Q 0 0 [(qO, .inr (10, [.int (jI vO_blocks), .ref qO_stones, .ref qO_laid, .ref qO_deep, .int (jI vO_placings), .ref qO_placed, .int (jI vO_mortars), .ref qO_put, .ref qO_rates, .int (jI vO_limit), .int (jI vO_looks), .ref qO_seen, .ref qO_text, .int (jI vO_texted), .int (jI vO_faultPlace), .int (jI vO_clauses), .ref qO_rule, .ref qO_fresh, .int (jI vO_lots), .ref qO_stocks, .ref qO_row, .ref qO_dangers, .ref qO_losses, .long (jL vO_upper), .long (jL vO_lower), .ref qO_habitUpper, .ref qO_habitLower, .int (jI vO_at), .long (jL vO_word), .int (jI vO_wordEnd), .ref qO_chosen, .ref qO_lost, .ref qO_zones, .ref qO_way, .ref qO_spent, .ref qO_scaffolds])), aI kI qO_seen 320 fO_seen, aI kI qO_stocks 100 fO_stocks] [(0, .ref qO), (1, .int (jI what)), (2, .int (jI pcs)), (3, .int (jI dd)), (4, .int (jI i))] 36 [] := by
          intro fu
          induction fu with
          | zero =>
            intro dd i hi hd hm
            exact absurd hm (by omega)
          | succ fu ih36 =>
            intro dd i hi hd hm
            refine x_iload F dX10_count_36 4 rfl ?_
            refine x_aload_n F dX10_count_38 rfl 0 rfl ?_
            refine x_get (ci := 10) F hin10 0 rfl rfl 10 (by decide) hw1 rfl dX10_count_39 ?_
            refine x_icmp_ge (tgt := 86) F dX10_count_42 (by decide) (by omega) (fun c42 => ?_) (fun c42 => ?_)
            · -- 42 t
              refine x_iload_n F dX10_count_86 rfl 1 rfl ?_
              have hdn := dnS_rng (fun k => fO_seen (4 * k)) (fun k => fO_seen (4 * k + 2)) (fun k => fO_seen (4 * k + 1)) (n := vO_looks) hOl
              have hpn := sm_rng (f := (fun k => fO_stocks (5 * k + 4))) (n := vO_lots) (c := 99) (fun k h1 h2 => hOsk _ (by omega) (by omega)) hOlo.1 (Int.le_refl _)
              have hdd : dd = dnS (fun k => fO_seen (4 * k)) (fun k => fO_seen (4 * k + 2)) (fun k => fO_seen (4 * k + 1)) vO_looks := by rw [hd, show i = vO_looks by omega]
              have hpp : pcs = sm (fun k => fO_stocks (5 * k + 4)) vO_lots := by rw [hp, show ll = vO_lots by omega]
              by_cases c87_0 : what = 0
              · -- 87 case 0
                refine x_tabIn (tgt := 136) F 0 dX10_count_87 (by decide) c87_0 (by decide) rfl (by decide) ?_
                refine x_aload_n F dX10_count_136 rfl 0 rfl ?_
                refine x_get (ci := 10) F hin10 0 rfl rfl 0 (by decide) hw2 rfl dX10_count_137 ?_
                exact hret 0 0 140 _ vO_blocks () (Nat.le_of_ble_eq_true rfl) (Nat.le_of_ble_eq_true rfl) dX10_count_140 (by (repeat' split) <;> omega)
              by_cases c87_1 : what = 1
              · -- 87 case 1
                refine x_tabIn (tgt := 141) F 1 dX10_count_87 (by decide) c87_1 (by decide) rfl (by decide) ?_
                refine x_aload_n F dX10_count_141 rfl 0 rfl ?_
                refine x_get (ci := 10) F hin10 0 rfl rfl 4 (by decide) hw3 rfl dX10_count_142 ?_
                exact hret 0 0 145 _ vO_placings () (Nat.le_of_ble_eq_true rfl) (Nat.le_of_ble_eq_true rfl) dX10_count_145 (by (repeat' split) <;> omega)
              by_cases c87_2 : what = 2
              · -- 87 case 2
                refine x_tabIn (tgt := 146) F 2 dX10_count_87 (by decide) c87_2 (by decide) rfl (by decide) ?_
                refine x_aload_n F dX10_count_146 rfl 0 rfl ?_
                refine x_get (ci := 10) F hin10 0 rfl rfl 6 (by decide) hw4 rfl dX10_count_147 ?_
                exact hret 0 0 150 _ vO_mortars () (Nat.le_of_ble_eq_true rfl) (Nat.le_of_ble_eq_true rfl) dX10_count_150 (by (repeat' split) <;> omega)
              by_cases c87_3 : what = 3
              · -- 87 case 3
                refine x_tabIn (tgt := 151) F 3 dX10_count_87 (by decide) c87_3 (by decide) rfl (by decide) ?_
                refine x_aload_n F dX10_count_151 rfl 0 rfl ?_
                refine x_get (ci := 10) F hin10 0 rfl rfl 10 (by decide) hw1 rfl dX10_count_152 ?_
                exact hret 0 0 155 _ vO_looks () (Nat.le_of_ble_eq_true rfl) (Nat.le_of_ble_eq_true rfl) dX10_count_155 (by (repeat' split) <;> omega)
              by_cases c87_4 : what = 4
              · -- 87 case 4
                refine x_tabIn (tgt := 156) F 4 dX10_count_87 (by decide) c87_4 (by decide) rfl (by decide) ?_
                refine x_iload_n F dX10_count_156 rfl 3 rfl ?_
                exact hret 0 0 157 _ dd () (Nat.le_of_ble_eq_true rfl) (Nat.le_of_ble_eq_true rfl) dX10_count_157 (by (repeat' split) <;> omega)
              by_cases c87_5 : what = 5
              · -- 87 case 5
                refine x_tabIn (tgt := 158) F 5 dX10_count_87 (by decide) c87_5 (by decide) rfl (by decide) ?_
                refine x_aload_n F dX10_count_158 rfl 0 rfl ?_
                refine x_get (ci := 10) F hin10 0 rfl rfl 15 (by decide) hw5 rfl dX10_count_159 ?_
                exact hret 0 0 162 _ vO_clauses () (Nat.le_of_ble_eq_true rfl) (Nat.le_of_ble_eq_true rfl) dX10_count_162 (by (repeat' split) <;> omega)
              by_cases c87_6 : what = 6
              · -- 87 case 6
                refine x_tabIn (tgt := 163) F 6 dX10_count_87 (by decide) c87_6 (by decide) rfl (by decide) ?_
                refine x_aload_n F dX10_count_163 rfl 0 rfl ?_
                refine x_get (ci := 10) F hin10 0 rfl rfl 13 (by decide) hw6 rfl dX10_count_164 ?_
                exact hret 0 0 167 _ vO_texted () (Nat.le_of_ble_eq_true rfl) (Nat.le_of_ble_eq_true rfl) dX10_count_167 (by (repeat' split) <;> omega)
              by_cases c87_7 : what = 7
              · -- 87 case 7
                refine x_tabIn (tgt := 168) F 7 dX10_count_87 (by decide) c87_7 (by decide) rfl (by decide) ?_
                refine x_aload_n F dX10_count_168 rfl 0 rfl ?_
                refine x_get (ci := 10) F hin10 0 rfl rfl 18 (by decide) hw0 rfl dX10_count_169 ?_
                exact hret 0 0 172 _ vO_lots () (Nat.le_of_ble_eq_true rfl) (Nat.le_of_ble_eq_true rfl) dX10_count_172 (by (repeat' split) <;> omega)
              by_cases c87_8 : what = 8
              · -- 87 case 8
                refine x_tabIn (tgt := 173) F 8 dX10_count_87 (by decide) c87_8 (by decide) rfl (by decide) ?_
                refine x_iload_n F dX10_count_173 rfl 2 rfl ?_
                exact hret 0 0 174 _ pcs () (Nat.le_of_ble_eq_true rfl) (Nat.le_of_ble_eq_true rfl) dX10_count_174 (by (repeat' split) <;> omega)
              refine x_tabOut (tgt := 175) F dX10_count_87 (by omega) (by omega) (by decide) ?_
              refine x_sipush F dX10_count_175 (by decide) ?_
              exact hret 0 0 178 _ (-1002) () (Nat.le_of_ble_eq_true rfl) (Nat.le_of_ble_eq_true rfl) dX10_count_178 (by (repeat' split) <;> omega)
            · -- 42 f
              refine x_iconst F dX10_count_45 ?_
              refine x_istore (lv' := [(0, .ref qO), (1, .int (jI what)), (2, .int (jI pcs)), (3, .int (jI dd)), (4, .int (jI i)), (5, .int (jI 0))]) F dX10_count_46 (by decide) [1, 2, 3, 4, 5, 0] rfl ?_
              have lp48 : ∀ (fu : Nat) (ee : Int) (j : Int) (hj : 0 ≤ j ∧ j ≤ i) (he : ee = dd + sm (dbI (fun k => fO_seen (4 * k)) (fun k => fO_seen (4 * k + 2)) (fun k => fO_seen (4 * k + 1)) i) j) (hm : i - j < (fu : Int)), xG D p l e (xRm 2 54 0 0) s m args below meth c 6 A Q 0 0 [(qO, .inr (10, [.int (jI vO_blocks), .ref qO_stones, .ref qO_laid, .ref qO_deep, .int (jI vO_placings), .ref qO_placed, .int (jI vO_mortars), .ref qO_put, .ref qO_rates, .int (jI vO_limit), .int (jI vO_looks), .ref qO_seen, .ref qO_text, .int (jI vO_texted), .int (jI vO_faultPlace), .int (jI vO_clauses), .ref qO_rule, .ref qO_fresh, .int (jI vO_lots), .ref qO_stocks, .ref qO_row, .ref qO_dangers, .ref qO_losses, .long (jL vO_upper), .long (jL vO_lower), .ref qO_habitUpper, .ref qO_habitLower, .int (jI vO_at), .long (jL vO_word), .int (jI vO_wordEnd), .ref qO_chosen, .ref qO_lost, .ref qO_zones, .ref qO_way, .ref qO_spent, .ref qO_scaffolds])), aI kI qO_seen 320 fO_seen, aI kI qO_stocks 100 fO_stocks] [(0, .ref qO), (1, .int (jI what)), (2, .int (jI pcs)), (3, .int (jI ee)), (4, .int (jI i)), (5, .int (jI j))] 48 [] := by
                intro fu
                induction fu with
                | zero =>
                  intro ee j hj he hm
                  exact absurd hm (by omega)
                | succ fu ih48 =>
                  intro ee j hj he hm
                  refine x_iload F dX10_count_48 5 rfl ?_
                  refine x_iload F dX10_count_50 4 rfl ?_
                  refine x_icmp_ge (tgt := 80) F dX10_count_52 (by decide) (by omega) (fun c52 => ?_) (fun c52 => ?_)
                  · -- 52 t
                    refine x_iinc (lv' := [(0, .ref qO), (1, .int (jI what)), (2, .int (jI pcs)), (3, .int (jI ee)), (4, .int (jI (i + 1))), (5, .int (jI j))]) (k := 4) F dX10_count_80 rfl (by decide) [1, 2, 3, 4, 0, 5] rfl ?_
                    refine x_goto (tgt := 36) F dX10_count_83 (by decide) ?_
                    refine x_lv (lv' := [(0, .ref qO), (1, .int (jI what)), (2, .int (jI pcs)), (3, .int (jI ee)), (4, .int (jI (i + 1)))]) [0, 1, 2, 3, 4] rfl ?_
                    exact ih36 ee (i + 1) (by omega) (by rw [he, show j = i by omega, show dnS (fun k => fO_seen (4 * k)) (fun k => fO_seen (4 * k + 2)) (fun k => fO_seen (4 * k + 1)) (i + 1) = dnS (fun k => fO_seen (4 * k)) (fun k => fO_seen (4 * k + 2)) (fun k => fO_seen (4 * k + 1)) i + sm (dbI (fun k => fO_seen (4 * k)) (fun k => fO_seen (4 * k + 2)) (fun k => fO_seen (4 * k + 1)) i) i from sm_s hi.1, hd]) (by omega)
                  · -- 52 f
                    have jn72 : ∀ (zq : Int) (hq : zq = dbI (fun k => fO_seen (4 * k)) (fun k => fO_seen (4 * k + 2)) (fun k => fO_seen (4 * k + 1)) i j), xG D p l e (xRm 2 54 0 0) s m args below meth c 6 A Q 0 0 [(qO, .inr (10, [.int (jI vO_blocks), .ref qO_stones, .ref qO_laid, .ref qO_deep, .int (jI vO_placings), .ref qO_placed, .int (jI vO_mortars), .ref qO_put, .ref qO_rates, .int (jI vO_limit), .int (jI vO_looks), .ref qO_seen, .ref qO_text, .int (jI vO_texted), .int (jI vO_faultPlace), .int (jI vO_clauses), .ref qO_rule, .ref qO_fresh, .int (jI vO_lots), .ref qO_stocks, .ref qO_row, .ref qO_dangers, .ref qO_losses, .long (jL vO_upper), .long (jL vO_lower), .ref qO_habitUpper, .ref qO_habitLower, .int (jI vO_at), .long (jL vO_word), .int (jI vO_wordEnd), .ref qO_chosen, .ref qO_lost, .ref qO_zones, .ref qO_way, .ref qO_spent, .ref qO_scaffolds])), aI kI qO_seen 320 fO_seen, aI kI qO_stocks 100 fO_stocks] [(0, .ref qO), (1, .int (jI what)), (2, .int (jI pcs)), (3, .int (jI ee)), (4, .int (jI i)), (5, .int (jI j))] 72 [.int (jI zq), .int (jI ee)] := by
                      intro zq hq
                      refine x_iadd F dX10_count_72 ?_
                      refine x_istore_n (lv' := [(0, .ref qO), (1, .int (jI what)), (2, .int (jI pcs)), (3, .int (jI (ee + zq))), (4, .int (jI i)), (5, .int (jI j))]) F dX10_count_73 rfl (by decide) [1, 2, 3, 0, 4, 5] rfl ?_
                      refine x_iinc (lv' := [(0, .ref qO), (1, .int (jI what)), (2, .int (jI pcs)), (3, .int (jI (ee + zq))), (4, .int (jI i)), (5, .int (jI (j + 1)))]) (k := 5) F dX10_count_74 rfl (by decide) [1, 2, 3, 4, 5, 0] rfl ?_
                      refine x_goto (tgt := 48) F dX10_count_77 (by decide) ?_
                      exact ih48 (ee + zq) (j + 1) (by omega) (by rw [sm_s hj.1, hq, he]; omega) (by omega)
                    refine x_iload_n F dX10_count_55 rfl 3 rfl ?_
                    refine x_aload_n F dX10_count_56 rfl 0 rfl ?_
                    refine x_iload F dX10_count_57 4 rfl ?_
                    refine x_iload F dX10_count_59 5 rfl ?_
                    refine x_callVi (ci := 10) (q0 := 0) (As := [.int (jI i), .int (jI j)]) (st := [.int (jI ee)]) F (c_X10_isDouble D kI kJ l qO i j vO_blocks qO_stones qO_laid qO_deep vO_placings qO_placed vO_mortars qO_put qO_rates vO_limit vO_looks qO_seen qO_text vO_texted vO_faultPlace vO_clauses qO_rule qO_fresh vO_lots qO_stocks qO_row qO_dangers qO_losses vO_upper vO_lower qO_habitUpper qO_habitLower vO_at vO_word vO_wordEnd qO_chosen qO_lost qO_zones qO_way qO_spent qO_scaffolds fO_seen (by omega) hOsn) (cwV 2 F.2.2.2.2.1 gX10_count_X10_isDouble rfl rfl rfl (by decide +kernel) ⟨Nat.le_of_ble_eq_true rfl, Nat.le_of_ble_eq_true rfl⟩) rfl rfl [0, 1] [2] [1, 2, 0] rfl rfl (by decide) (by decide) (by decide) (fun _ => rfl) (by decide) rfl (Nat.le_of_ble_eq_true rfl) dX10_count_61 ⟨Nat.le_of_ble_eq_true rfl, Nat.le_of_ble_eq_true rfl⟩ (fun z61 u61 h61 => ?_)
                    try dsimp only at h61
                    refine x_ws [(qO, .inr (10, [.int (jI vO_blocks), .ref qO_stones, .ref qO_laid, .ref qO_deep, .int (jI vO_placings), .ref qO_placed, .int (jI vO_mortars), .ref qO_put, .ref qO_rates, .int (jI vO_limit), .int (jI vO_looks), .ref qO_seen, .ref qO_text, .int (jI vO_texted), .int (jI vO_faultPlace), .int (jI vO_clauses), .ref qO_rule, .ref qO_fresh, .int (jI vO_lots), .ref qO_stocks, .ref qO_row, .ref qO_dangers, .ref qO_losses, .long (jL vO_upper), .long (jL vO_lower), .ref qO_habitUpper, .ref qO_habitLower, .int (jI vO_at), .long (jL vO_word), .int (jI vO_wordEnd), .ref qO_chosen, .ref qO_lost, .ref qO_zones, .ref qO_way, .ref qO_spent, .ref qO_scaffolds])), aI kI qO_seen 320 fO_seen, aI kI qO_stocks 100 fO_stocks] rfl ?_
                    have hb61 := h61
                    refine x_beq (tgt := 71) F dX10_count_64 (by decide) hb61 (fun c64 => ?_) (fun c64 => ?_)
                    · -- 64 t
                      refine x_iconst F dX10_count_71 ?_
                      exact jn72 0 (by unfold dbI; dsimp only; first | (rw [if_pos (by omega)]) | (rw [if_neg (by omega)]))
                    · -- 64 f
                      refine x_iconst F dX10_count_67 ?_
                      refine x_goto (tgt := 72) F dX10_count_68 (by decide) ?_
                      exact jn72 1 (by unfold dbI; dsimp only; first | (rw [if_pos (by omega)]) | (rw [if_neg (by omega)]))
              exact lp48 (Int.toNat (i - 0) + 1) dd 0 (by omega) (by rw [sm_0]; omega) (by omega)
        exact lp36 (Int.toNat (vO_looks - 0) + 1) 0 0 (by omega) rfl (by omega)
      · -- 9 f
        refine x_iload_n F dX10_count_12 rfl 2 rfl ?_
        refine x_aload_n F dX10_count_13 rfl 0 rfl ?_
        refine x_get (ci := 10) F hin10 0 rfl rfl 19 (by decide) hw7 rfl dX10_count_14 ?_
        refine x_iconst F dX10_count_17 ?_
        refine x_iload_n F dX10_count_18 rfl 3 rfl ?_
        refine x_imul F dX10_count_19 ?_
        refine x_iconst F dX10_count_20 ?_
        refine x_iadd F dX10_count_21 ?_
        refine x_iald F 2 rfl (by decide) (by omega) dX10_count_22 ?_
        have hr22 := Rg.at hOsk ((5 * ll) + 4) (by omega)
        refine x_iadd F dX10_count_23 ?_
        refine x_istore_n (lv' := [(0, .ref qO), (1, .int (jI what)), (2, .int (jI (pcs + (fO_stocks ((5 * ll) + 4))))), (3, .int (jI ll))]) F dX10_count_24 rfl (by decide) [1, 2, 0, 3] rfl ?_
        refine x_iinc (lv' := [(0, .ref qO), (1, .int (jI what)), (2, .int (jI (pcs + (fO_stocks ((5 * ll) + 4))))), (3, .int (jI (ll + 1)))]) (k := 3) F dX10_count_25 rfl (by decide) [1, 2, 3, 0] rfl ?_
        refine x_goto (tgt := 4) F dX10_count_28 (by decide) ?_
        exact ih4 (pcs + (fO_stocks ((5 * ll) + 4))) (ll + 1) (by omega) (by rw [sm_s hll.1, hp]) (by omega)
  exact lp4 (Int.toNat (vO_lots - 0) + 1) 0 0 (by omega) rfl (by omega)
