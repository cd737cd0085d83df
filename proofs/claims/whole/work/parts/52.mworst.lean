set_option maxHeartbeats 4000000 in
set_option maxRecDepth 100000 in
theorem c_X10_isWorse (D : va_G) (kI kJ : Nat) (l : Launch) (qO : Nat) (i1 : Int) (i2 : Int) (vO_blocks : Int) (qO_stones : Nat) (qO_laid : Nat) (qO_deep : Nat) (vO_placings : Int) (qO_placed : Nat) (vO_mortars : Int) (qO_put : Nat) (qO_rates : Nat) (vO_limit : Int) (vO_looks : Int) (qO_seen : Nat) (qO_text : Nat) (vO_texted : Int) (vO_faultPlace : Int) (vO_clauses : Int) (qO_rule : Nat) (qO_fresh : Nat) (vO_lots : Int) (qO_stocks : Nat) (qO_row : Nat) (qO_dangers : Nat) (qO_losses : Nat) (vO_upper : Int) (vO_lower : Int) (qO_habitUpper : Nat) (qO_habitLower : Nat) (vO_at : Int) (vO_word : Int) (vO_wordEnd : Int) (qO_chosen : Nat) (qO_lost : Nat) (qO_zones : Nat) (qO_way : Nat) (qO_spent : Nat) (qO_scaffolds : Nat) (fO_dangers : (Int → Int)) (fO_losses : (Int → Int)) (hi12 : (0 ≤ i1 ∧ i1 < 30) ∧ 0 ≤ i2 ∧ i2 < 30) (hOda : Rg fO_dangers 30 (-1) 400) (hOlo : Rg fO_losses 30 0 40100) : xMi D kI kJ l yX10_isWorse wsX10_isWorse 1 32 0 0 [.ref qO, .int (jI i1), .int (jI i2)] [(qO, .inr (10, [.int (jI vO_blocks), .ref qO_stones, .ref qO_laid, .ref qO_deep, .int (jI vO_placings), .ref qO_placed, .int (jI vO_mortars), .ref qO_put, .ref qO_rates, .int (jI vO_limit), .int (jI vO_looks), .ref qO_seen, .ref qO_text, .int (jI vO_texted), .int (jI vO_faultPlace), .int (jI vO_clauses), .ref qO_rule, .ref qO_fresh, .int (jI vO_lots), .ref qO_stocks, .ref qO_row, .ref qO_dangers, .ref qO_losses, .long (jL vO_upper), .long (jL vO_lower), .ref qO_habitUpper, .ref qO_habitLower, .int (jI vO_at), .long (jL vO_word), .int (jI vO_wordEnd), .ref qO_chosen, .ref qO_lost, .ref qO_zones, .ref qO_way, .ref qO_spent, .ref qO_scaffolds])), aI kI qO_dangers 30 fO_dangers, aI kI qO_losses 30 fO_losses] (fun (z : Int) (u : Unit) => xBool z (fO_dangers i1 < fO_dangers i2 ∨ (fO_dangers i1 = fO_dangers i2 ∧ fO_losses i2 < fO_losses i1))) (fun (u : Unit) => [(qO, .inr (10, [.int (jI vO_blocks), .ref qO_stones, .ref qO_laid, .ref qO_deep, .int (jI vO_placings), .ref qO_placed, .int (jI vO_mortars), .ref qO_put, .ref qO_rates, .int (jI vO_limit), .int (jI vO_looks), .ref qO_seen, .ref qO_text, .int (jI vO_texted), .int (jI vO_faultPlace), .int (jI vO_clauses), .ref qO_rule, .ref qO_fresh, .int (jI vO_lots), .ref qO_stocks, .ref qO_row, .ref qO_dangers, .ref qO_losses, .long (jL vO_upper), .long (jL vO_lower), .ref qO_habitUpper, .ref qO_habitLower, .int (jI vO_at), .long (jL vO_word), .int (jI vO_wordEnd), .ref qO_chosen, .ref qO_lost, .ref qO_zones, .ref qO_way, .ref qO_spent, .ref qO_scaffolds])), aI kI qO_dangers 30 fO_dangers, aI kI qO_losses 30 fO_losses]) := by
  refine xMi_of (cc := cX10_isWorse) (maxL := 3) (rt := .boolean) (by decide) rfl (Nat.le_of_ble_eq_true rfl) (fun z u hp => xBool_nar hp) ?_
  intro p e s m args below meth c A Q F hin2 hret
  have hin10 : ∀ w ∈ wsX100, w ∈ wsX10_isWorse := by decide +kernel
  have hw0 : Cond.fieldLink RX10 53 (TX10 21).1 (TX10 21).2.1 (TX10 21).2.2.1 ∈ wsX10_isWorse := by decide +kernel
  have hw1 : Cond.fieldLink RX10 56 (TX10 22).1 (TX10 22).2.1 (TX10 22).2.2.1 ∈ wsX10_isWorse := by decide +kernel
  refine x_lveq (lv' := [(0, .ref qO), (1, .int (jI i1)), (2, .int (jI i2))]) rfl ?_
  have hx1 := Rg.at hOda i1 (by omega)
  have hx2 := Rg.at hOda i2 (by omega)
  have hx3 := Rg.at hOlo i1 (by omega)
  have hx4 := Rg.at hOlo i2 (by omega)
  refine x_aload_n F dX10_isWorse_0 rfl 0 rfl ?_
  refine x_get (ci := 10) F hin10 0 rfl rfl 21 (by decide) hw0 rfl dX10_isWorse_1 ?_
  refine x_iload_n F dX10_isWorse_4 rfl 1 rfl ?_
  refine x_iald F 1 rfl (by decide) (by omega) dX10_isWorse_5 ?_
  have hr5 := Rg.at hOda i1 (by omega)
  refine x_aload_n F dX10_isWorse_6 rfl 0 rfl ?_
  refine x_get (ci := 10) F hin10 0 rfl rfl 21 (by decide) hw0 rfl dX10_isWorse_7 ?_
  refine x_iload_n F dX10_isWorse_10 rfl 2 rfl ?_
  refine x_iald F 1 rfl (by decide) (by omega) dX10_isWorse_11 ?_
  have hr11 := Rg.at hOda i2 (by omega)
  refine x_icmp_lt (tgt := 45) F dX10_isWorse_12 (by decide) (by omega) (fun c12 => ?_) (fun c12 => ?_)
  · -- 12 t
    refine x_iconst F dX10_isWorse_45 ?_
    refine x_goto (tgt := 50) F dX10_isWorse_46 (by decide) ?_
    exact hret 0 0 50 _ 1 () (Nat.le_of_ble_eq_true rfl) (Nat.le_of_ble_eq_true rfl) dX10_isWorse_50 (by first | exact xBool_t (by omega) | exact xBool_f (by omega))
  · -- 12 f
    refine x_aload_n F dX10_isWorse_15 rfl 0 rfl ?_
    refine x_get (ci := 10) F hin10 0 rfl rfl 21 (by decide) hw0 rfl dX10_isWorse_16 ?_
    refine x_iload_n F dX10_isWorse_19 rfl 1 rfl ?_
    refine x_iald F 1 rfl (by decide) (by omega) dX10_isWorse_20 ?_
    have hr20 := Rg.at hOda i1 (by omega)
    refine x_aload_n F dX10_isWorse_21 rfl 0 rfl ?_
    refine x_get (ci := 10) F hin10 0 rfl rfl 21 (by decide) hw0 rfl dX10_isWorse_22 ?_
    refine x_iload_n F dX10_isWorse_25 rfl 2 rfl ?_
    refine x_iald F 1 rfl (by decide) (by omega) dX10_isWorse_26 ?_
    have hr26 := Rg.at hOda i2 (by omega)
    refine x_icmp_ne (tgt := 49) F dX10_isWorse_27 (by decide) (by omega) (fun c27 => ?_) (fun c27 => ?_)
    · -- 27 t
      refine x_iconst F dX10_isWorse_49 ?_
      exact hret 0 0 50 _ 0 () (Nat.le_of_ble_eq_true rfl) (Nat.le_of_ble_eq_true rfl) dX10_isWorse_50 (by first | exact xBool_t (by omega) | exact xBool_f (by omega))
    · -- 27 f
      refine x_aload_n F dX10_isWorse_30 rfl 0 rfl ?_
      refine x_get (ci := 10) F hin10 0 rfl rfl 22 (by decide) hw1 rfl dX10_isWorse_31 ?_
      refine x_iload_n F dX10_isWorse_34 rfl 1 rfl ?_
      refine x_iald F 2 rfl (by decide) (by omega) dX10_isWorse_35 ?_
      have hr35 := Rg.at hOlo i1 (by omega)
      refine x_aload_n F dX10_isWorse_36 rfl 0 rfl ?_
      refine x_get (ci := 10) F hin10 0 rfl rfl 22 (by decide) hw1 rfl dX10_isWorse_37 ?_
      refine x_iload_n F dX10_isWorse_40 rfl 2 rfl ?_
      refine x_iald F 2 rfl (by decide) (by omega) dX10_isWorse_41 ?_
      have hr41 := Rg.at hOlo i2 (by omega)
      refine x_icmp_le (tgt := 49) F dX10_isWorse_42 (by decide) (by omega) (fun c42 => ?_) (fun c42 => ?_)
      · -- 42 t
        refine x_iconst F dX10_isWorse_49 ?_
        exact hret 0 0 50 _ 0 () (Nat.le_of_ble_eq_true rfl) (Nat.le_of_ble_eq_true rfl) dX10_isWorse_50 (by first | exact xBool_t (by omega) | exact xBool_f (by omega))
      · -- 42 f
        refine x_iconst F dX10_isWorse_45 ?_
        refine x_goto (tgt := 50) F dX10_isWorse_46 (by decide) ?_
        exact hret 0 0 50 _ 1 () (Nat.le_of_ble_eq_true rfl) (Nat.le_of_ble_eq_true rfl) dX10_isWorse_50 (by first | exact xBool_t (by omega) | exact xBool_f (by omega))
set_option maxHeartbeats 4000000 in
set_option maxRecDepth 100000 in
theorem c_X10_worst (D : va_G) (kI kJ : Nat) (l : Launch) (qO : Nat) (year : Int) (i : Int) (vO_blocks : Int) (qO_stones : Nat) (qO_laid : Nat) (qO_deep : Nat) (vO_placings : Int) (qO_placed : Nat) (vO_mortars : Int) (qO_put : Nat) (qO_rates : Nat) (vO_limit : Int) (vO_looks : Int) (qO_seen : Nat) (qO_text : Nat) (vO_texted : Int) (vO_faultPlace : Int) (vO_clauses : Int) (qO_rule : Nat) (qO_fresh : Nat) (vO_lots : Int) (qO_stocks : Nat) (qO_row : Nat) (qO_dangers : Nat) (qO_losses : Nat) (vO_upper : Int) (vO_lower : Int) (qO_habitUpper : Nat) (qO_habitLower : Nat) (vO_at : Int) (vO_word : Int) (vO_wordEnd : Int) (qO_chosen : Nat) (qO_lost : Nat) (qO_zones : Nat) (qO_way : Nat) (qO_spent : Nat) (qO_scaffolds : Nat) (fO_stones : (Int → Int)) (fO_laid : (Int → Int)) (fO_deep : (Int → Int)) (fO_rates : (Int → Int)) (fO_placed : (Int → Int)) (fO_put : (Int → Int)) (fO_row : (Int → Int)) (fO_dangers : (Int → Int)) (fO_losses : (Int → Int)) (hr_year : -2147483648 ≤ year ∧ year < 2147483648) (hr_i : -2147483648 ≤ i ∧ i < 2147483648) (hOb : 0 ≤ vO_blocks ∧ vO_blocks ≤ 30) (hOd1 : ∀ k : Int, 0 ≤ k → k < vO_blocks → 1 ≤ fO_deep k) (hOst : Rg fO_stones 30 0 3) (hOla : Rg fO_laid 30 0 400) (hOde : Rg fO_deep 30 0 2000) (hOli : 1 ≤ vO_limit ∧ vO_limit ≤ 100) (hOra : Rg fO_rates 64 0 50) (hOp : 0 ≤ vO_placings ∧ vO_placings ≤ 60) (hOpr : Rg fO_placed 300 0 400) (hOp2 : Rg (fun k => fO_placed (5 * k + 2)) 60 0 3) (hOp3 : Rg (fun k => fO_placed (5 * k + 3)) 60 0 3) (hOp4 : Rg (fun k => fO_placed (5 * k + 4)) 60 0 7) (hOm : 0 ≤ vO_mortars ∧ vO_mortars ≤ 60) (hOmr : Rg fO_put 180 0 400) (hOm2 : Rg (fun k => fO_put (3 * k + 2)) 60 0 1) (hOda : Rg fO_dangers 30 (-1) 400) (hOlo : Rg fO_losses 30 0 40100) : xMi D kI kJ l yX10_worst wsX10_worst 5 129 0 0 [.ref qO, .int (jI year), .int (jI i)] [(qO, .inr (10, [.int (jI vO_blocks), .ref qO_stones, .ref qO_laid, .ref qO_deep, .int (jI vO_placings), .ref qO_placed, .int (jI vO_mortars), .ref qO_put, .ref qO_rates, .int (jI vO_limit), .int (jI vO_looks), .ref qO_seen, .ref qO_text, .int (jI vO_texted), .int (jI vO_faultPlace), .int (jI vO_clauses), .ref qO_rule, .ref qO_fresh, .int (jI vO_lots), .ref qO_stocks, .ref qO_row, .ref qO_dangers, .ref qO_losses, .long (jL vO_upper), .long (jL vO_lower), .ref qO_habitUpper, .ref qO_habitLower, .int (jI vO_at), .long (jL vO_word), .int (jI vO_wordEnd), .ref qO_chosen, .ref qO_lost, .ref qO_zones, .ref qO_way, .ref qO_spent, .ref qO_scaffolds])), aI kI qO_stones 30 fO_stones, aI kI qO_laid 30 fO_laid, aI kI qO_deep 30 fO_deep, aI kI qO_rates 64 fO_rates, aI kI qO_placed 300 fO_placed, aI kI qO_put 180 fO_put, aI kI qO_row 30 fO_row, aI kI qO_dangers 30 fO_dangers, aI kI qO_losses 30 fO_losses] (fun (z : Int) (u : (Int → Int) × (Int → Int) × (Int → Int)) => z = (if ¬ (0 ≤ year ∧ year ≤ 400) then -1002 else wst (fun b => dG (lS (oLoss fO_rates (fO_stones b) fO_placed vO_placings fO_put vO_mortars b) (fO_laid b)) (fO_deep b * vO_limit) 401) (fun b => (lS (oLoss fO_rates (fO_stones b) fO_placed vO_placings fO_put vO_mortars b) (fO_laid b)) year) vO_blocks i) ∧ (Rg u.2.1 30 (-1) 400) ∧ (Rg u.2.2 30 0 40100)) (fun (u : (Int → Int) × (Int → Int) × (Int → Int)) => [(qO, .inr (10, [.int (jI vO_blocks), .ref qO_stones, .ref qO_laid, .ref qO_deep, .int (jI vO_placings), .ref qO_placed, .int (jI vO_mortars), .ref qO_put, .ref qO_rates, .int (jI vO_limit), .int (jI vO_looks), .ref qO_seen, .ref qO_text, .int (jI vO_texted), .int (jI vO_faultPlace), .int (jI vO_clauses), .ref qO_rule, .ref qO_fresh, .int (jI vO_lots), .ref qO_stocks, .ref qO_row, .ref qO_dangers, .ref qO_losses, .long (jL vO_upper), .long (jL vO_lower), .ref qO_habitUpper, .ref qO_habitLower, .int (jI vO_at), .long (jL vO_word), .int (jI vO_wordEnd), .ref qO_chosen, .ref qO_lost, .ref qO_zones, .ref qO_way, .ref qO_spent, .ref qO_scaffolds])), aI kI qO_stones 30 fO_stones, aI kI qO_laid 30 fO_laid, aI kI qO_deep 30 fO_deep, aI kI qO_rates 64 fO_rates, aI kI qO_placed 300 fO_placed, aI kI qO_put 180 fO_put, aI kI qO_row 30 u.1, aI kI qO_dangers 30 u.2.1, aI kI qO_losses 30 u.2.2]) := by
  refine xMi_of (cc := cX10_worst) (maxL := 6) (rt := .int) (by decide) rfl (Nat.le_of_ble_eq_true rfl) (fun _ _ _ => rfl) ?_
  intro p e s m args below meth c A Q F hin2 hret
  have hin10 : ∀ w ∈ wsX100, w ∈ wsX10_worst := by decide +kernel
  have hw0 : Cond.fieldLink RX10 90 (TX10 0).1 (TX10 0).2.1 (TX10 0).2.2.1 ∈ wsX10_worst := by decide +kernel
  have hw1 : Cond.fieldLink RX10 50 (TX10 20).1 (TX10 20).2.1 (TX10 20).2.2.1 ∈ wsX10_worst := by decide +kernel
  have hw2 : Cond.fieldLink RX10 53 (TX10 21).1 (TX10 21).2.1 (TX10 21).2.2.1 ∈ wsX10_worst := by decide +kernel
  have hw3 : Cond.fieldLink RX10 56 (TX10 22).1 (TX10 22).2.1 (TX10 22).2.2.1 ∈ wsX10_worst := by decide +kernel
  refine x_lveq (lv' := [(0, .ref qO), (1, .int (jI year)), (2, .int (jI i))]) rfl ?_
  obtain ⟨dgf, hdgf⟩ : ∃ f : Int → Int, f = (fun b => dG (lS (oLoss fO_rates (fO_stones b) fO_placed vO_placings fO_put vO_mortars b) (fO_laid b)) (fO_deep b * vO_limit) 401) := ⟨_, rfl⟩
  obtain ⟨lsf, hlsf⟩ : ∃ f : Int → Int, f = (fun b => (lS (oLoss fO_rates (fO_stones b) fO_placed vO_placings fO_put vO_mortars b) (fO_laid b)) year) := ⟨_, rfl⟩
  rw [← hdgf, ← hlsf] at hret
  refine x_iload_n F dX10_worst_0 rfl 1 rfl ?_
  refine x_callSi (As := [.int (jI year)]) (st := []) F (c_X10_isYear D kI kJ l year (by omega)) (va_cwS 1 F.2.2.2.2.1 gX10_worst_X10_isYear rfl rfl rfl (by decide +kernel) ⟨Nat.le_of_ble_eq_true rfl, Nat.le_of_ble_eq_true rfl⟩) [] [0, 1, 2, 3, 4, 5, 6, 7, 8, 9] [0, 1, 2, 3, 4, 5, 6, 7, 8, 9] rfl rfl (by decide) (by decide) (by decide) (fun _ => rfl) (by decide) rfl (Nat.le_of_ble_eq_true rfl) dX10_worst_1 ⟨Nat.le_of_ble_eq_true rfl, Nat.le_of_ble_eq_true rfl⟩ (fun z1 u1 h1 => ?_)
  try dsimp only at h1
  refine x_ws [(qO, .inr (10, [.int (jI vO_blocks), .ref qO_stones, .ref qO_laid, .ref qO_deep, .int (jI vO_placings), .ref qO_placed, .int (jI vO_mortars), .ref qO_put, .ref qO_rates, .int (jI vO_limit), .int (jI vO_looks), .ref qO_seen, .ref qO_text, .int (jI vO_texted), .int (jI vO_faultPlace), .int (jI vO_clauses), .ref qO_rule, .ref qO_fresh, .int (jI vO_lots), .ref qO_stocks, .ref qO_row, .ref qO_dangers, .ref qO_losses, .long (jL vO_upper), .long (jL vO_lower), .ref qO_habitUpper, .ref qO_habitLower, .int (jI vO_at), .long (jL vO_word), .int (jI vO_wordEnd), .ref qO_chosen, .ref qO_lost, .ref qO_zones, .ref qO_way, .ref qO_spent, .ref qO_scaffolds])), aI kI qO_stones 30 fO_stones, aI kI qO_laid 30 fO_laid, aI kI qO_deep 30 fO_deep, aI kI qO_rates 64 fO_rates, aI kI qO_placed 300 fO_placed, aI kI qO_put 180 fO_put, aI kI qO_row 30 fO_row, aI kI qO_dangers 30 fO_dangers, aI kI qO_losses 30 fO_losses] rfl ?_
  have hb1 := h1
  refine x_bne (tgt := 11) F dX10_worst_4 (by decide) hb1 (fun c4 => ?_) (fun c4 => ?_)
  · -- 4 t
    refine x_iconst F dX10_worst_11 ?_
    refine x_istore_n (lv' := [(0, .ref qO), (1, .int (jI year)), (2, .int (jI i)), (3, .int (jI 0))]) F dX10_worst_12 rfl (by decide) [1, 2, 3, 0] rfl ?_
    refine x_iconst F dX10_worst_13 ?_
    refine x_istore (lv' := [(0, .ref qO), (1, .int (jI year)), (2, .int (jI i)), (3, .int (jI 0)), (4, .int (jI 0))]) F dX10_worst_14 (by decide) [1, 2, 3, 4, 0] rfl ?_
    have lp16 : ∀ (fu : Nat) (many : Int) (bb : Int) (dv : (Int → Int)) (lv9 : (Int → Int)) (rw9 : (Int → Int)) (hbb : 0 ≤ bb ∧ bb ≤ vO_blocks) (hmany : 0 ≤ many ∧ many ≤ bb) (hda : Rg dv 30 (-1) 400) (hlo : Rg lv9 30 0 40100) (hdg : ∀ k : Int, 0 ≤ k → k < bb → dv k = dgf k) (hls : ∀ k : Int, 0 ≤ k → k < bb → lv9 k = lsf k) (hinv : wInv dgf lsf bb many rw9) (hm : vO_blocks - bb < (fu : Int)), xG D p l e (xRm 5 129 0 0) s m args below meth c 6 A Q 0 0 [(qO, .inr (10, [.int (jI vO_blocks), .ref qO_stones, .ref qO_laid, .ref qO_deep, .int (jI vO_placings), .ref qO_placed, .int (jI vO_mortars), .ref qO_put, .ref qO_rates, .int (jI vO_limit), .int (jI vO_looks), .ref qO_seen, .ref qO_text, .int (jI vO_texted), .int (jI vO_faultPlace), .int (jI vO_clauses), .ref qO_rule, .ref qO_fresh, .int (jI vO_lots), .ref qO_stocks, .ref qO_row, .ref qO_dangers, .ref qO_losses, .long (jL vO_upper), .long (jL vO_lower), .ref qO_habitUpper, .ref qO_habitLower, .int (jI vO_at), .long (jL vO_word), .int (jI vO_wordEnd), .ref qO_chosen, .ref qO_lost, .ref qO_zones, .ref qO_way, .ref qO_spent, .ref qO_scaffolds])), aI kI qO_stones 30 fO_stones, aI kI qO_laid 30 fO_laid, aI kI qO_deep 30 fO_deep, aI kI qO_rates 64 fO_rates, aI kI qO_placed 300 fO_placed, aI kI qO_put 180 fO_put, aI kI qO_row 30 rw9, aI kI qO_dangers 30 dv, aI kI qO_losses 30 lv9] [(0, .ref qO), (1, .int (jI year)), (2, .int (jI i)), (3, .int (jI many)), (4, .int (jI bb))] 16 [] := by
      intro fu
      induction fu with
      | zero =>
        intro many bb dv lv9 rw9 hbb hmany hda hlo hdg hls hinv hm
        exact absurd hm (by omega)
      | succ fu ih16 =>
        intro many bb dv lv9 rw9 hbb hmany hda hlo hdg hls hinv hm
        refine x_iload F dX10_worst_16 4 rfl ?_
        refine x_aload_n F dX10_worst_18 rfl 0 rfl ?_
        refine x_get (ci := 10) F hin10 0 rfl rfl 0 (by decide) hw0 rfl dX10_worst_19 ?_
        refine x_icmp_ge (tgt := 128) F dX10_worst_22 (by decide) (by omega) (fun c22 => ?_) (fun c22 => ?_)
        · -- 22 t
          refine x_iload_n F dX10_worst_128 rfl 2 rfl ?_
          refine x_i2l F dX10_worst_129 (by omega) ?_
          refine x_lconst F 0 dX10_worst_130 (by decide) ?_
          refine x_iload_n F dX10_worst_131 rfl 3 rfl ?_
          refine x_iconst F dX10_worst_132 ?_
          refine x_isub F dX10_worst_133 ?_
          refine x_i2l F dX10_worst_134 (by omega) ?_
          refine x_callSi (As := [.long (jL i), .long (jL 0), .long (jL (many - 1))]) (st := []) F (c_X10_in D kI kJ l i 0 (many - 1) (by omega) (by omega) (by omega)) (va_cwS 3 F.2.2.2.2.1 gX10_worst_X10_in rfl rfl rfl (by decide +kernel) ⟨Nat.le_of_ble_eq_true rfl, Nat.le_of_ble_eq_true rfl⟩) [] [0, 1, 2, 3, 4, 5, 6, 7, 8, 9] [0, 1, 2, 3, 4, 5, 6, 7, 8, 9] rfl rfl (by decide) (by decide) (by decide) (fun _ => rfl) (by decide) rfl (Nat.le_of_ble_eq_true rfl) dX10_worst_135 ⟨Nat.le_of_ble_eq_true rfl, Nat.le_of_ble_eq_true rfl⟩ (fun z135 u135 h135 => ?_)
          try dsimp only at h135
          refine x_ws [(qO, .inr (10, [.int (jI vO_blocks), .ref qO_stones, .ref qO_laid, .ref qO_deep, .int (jI vO_placings), .ref qO_placed, .int (jI vO_mortars), .ref qO_put, .ref qO_rates, .int (jI vO_limit), .int (jI vO_looks), .ref qO_seen, .ref qO_text, .int (jI vO_texted), .int (jI vO_faultPlace), .int (jI vO_clauses), .ref qO_rule, .ref qO_fresh, .int (jI vO_lots), .ref qO_stocks, .ref qO_row, .ref qO_dangers, .ref qO_losses, .long (jL vO_upper), .long (jL vO_lower), .ref qO_habitUpper, .ref qO_habitLower, .int (jI vO_at), .long (jL vO_word), .int (jI vO_wordEnd), .ref qO_chosen, .ref qO_lost, .ref qO_zones, .ref qO_way, .ref qO_spent, .ref qO_scaffolds])), aI kI qO_stones 30 fO_stones, aI kI qO_laid 30 fO_laid, aI kI qO_deep 30 fO_deep, aI kI qO_rates 64 fO_rates, aI kI qO_placed 300 fO_placed, aI kI qO_put 180 fO_put, aI kI qO_row 30 rw9, aI kI qO_dangers 30 dv, aI kI qO_losses 30 lv9] rfl ?_
          have hb135 := h135
          refine x_beq (tgt := 150) F dX10_worst_138 (by decide) hb135 (fun c138 => ?_) (fun c138 => ?_)
          · -- 138 t
            refine x_iconst F dX10_worst_150 ?_
            exact hret 0 0 151 _ (-1) (rw9, dv, lv9) (Nat.le_of_ble_eq_true rfl) (Nat.le_of_ble_eq_true rfl) dX10_worst_151 (by (try dsimp only); exact (⟨by have hE := wInv_end (i := i) hbb.1 hmany.1 hinv; rw [show bb = vO_blocks by omega] at hE; exact ((if_neg (by omega)).trans (hE.trans (by first | exact if_pos (by omega) | exact if_neg (by omega)))).symm, hda, hlo⟩))
          · -- 138 f
            refine x_aload_n F dX10_worst_141 rfl 0 rfl ?_
            refine x_get (ci := 10) F hin10 0 rfl rfl 20 (by decide) hw1 rfl dX10_worst_142 ?_
            refine x_iload_n F dX10_worst_145 rfl 2 rfl ?_
            refine x_iald F 7 rfl (by decide) (by omega) dX10_worst_146 ?_
            refine x_goto (tgt := 151) F dX10_worst_147 (by decide) ?_
            exact hret 0 0 151 _ (rw9 i) (rw9, dv, lv9) (Nat.le_of_ble_eq_true rfl) (Nat.le_of_ble_eq_true rfl) dX10_worst_151 (by (try dsimp only); exact (⟨by have hE := wInv_end (i := i) hbb.1 hmany.1 hinv; rw [show bb = vO_blocks by omega] at hE; exact ((if_neg (by omega)).trans (hE.trans (by first | exact if_pos (by omega) | exact if_neg (by omega)))).symm, hda, hlo⟩))
        · -- 22 f
          refine x_aload_n F dX10_worst_25 rfl 0 rfl ?_
          refine x_get (ci := 10) F hin10 0 rfl rfl 21 (by decide) hw2 rfl dX10_worst_26 ?_
          refine x_iload F dX10_worst_29 4 rfl ?_
          refine x_aload_n F dX10_worst_31 rfl 0 rfl ?_
          refine x_iload F dX10_worst_32 4 rfl ?_
          refine x_callVi (ci := 10) (q0 := 0) (As := [.int (jI bb)]) (st := [.int (jI bb), .ref qO_dangers]) F (c_X10_dangerOf D kI kJ l qO bb vO_blocks qO_stones qO_laid qO_deep vO_placings qO_placed vO_mortars qO_put qO_rates vO_limit vO_looks qO_seen qO_text vO_texted vO_faultPlace vO_clauses qO_rule qO_fresh vO_lots qO_stocks qO_row qO_dangers qO_losses vO_upper vO_lower qO_habitUpper qO_habitLower vO_at vO_word vO_wordEnd qO_chosen qO_lost qO_zones qO_way qO_spent qO_scaffolds fO_stones fO_laid fO_deep fO_rates fO_placed fO_put (by omega) (hOd1 bb (by omega) (by omega)) hOst hOla hOde hOli hOra hOp hOpr hOp2 hOp3 hOp4 hOm hOmr hOm2) (cwV 1 F.2.2.2.2.1 gX10_worst_X10_dangerOf rfl rfl rfl (by decide +kernel) ⟨Nat.le_of_ble_eq_true rfl, Nat.le_of_ble_eq_true rfl⟩) rfl rfl [0, 1, 2, 3, 4, 5, 6] [7, 8, 9] [3, 4, 5, 6, 7, 8, 9, 0, 1, 2] rfl rfl (by decide) (by decide) (by decide) (fun _ => rfl) (by decide) rfl (Nat.le_of_ble_eq_true rfl) dX10_worst_34 ⟨Nat.le_of_ble_eq_true rfl, Nat.le_of_ble_eq_true rfl⟩ (fun z34 u34 h34 => ?_)
          try dsimp only at h34
          refine x_ws [(qO, .inr (10, [.int (jI vO_blocks), .ref qO_stones, .ref qO_laid, .ref qO_deep, .int (jI vO_placings), .ref qO_placed, .int (jI vO_mortars), .ref qO_put, .ref qO_rates, .int (jI vO_limit), .int (jI vO_looks), .ref qO_seen, .ref qO_text, .int (jI vO_texted), .int (jI vO_faultPlace), .int (jI vO_clauses), .ref qO_rule, .ref qO_fresh, .int (jI vO_lots), .ref qO_stocks, .ref qO_row, .ref qO_dangers, .ref qO_losses, .long (jL vO_upper), .long (jL vO_lower), .ref qO_habitUpper, .ref qO_habitLower, .int (jI vO_at), .long (jL vO_word), .int (jI vO_wordEnd), .ref qO_chosen, .ref qO_lost, .ref qO_zones, .ref qO_way, .ref qO_spent, .ref qO_scaffolds])), aI kI qO_stones 30 fO_stones, aI kI qO_laid 30 fO_laid, aI kI qO_deep 30 fO_deep, aI kI qO_rates 64 fO_rates, aI kI qO_placed 300 fO_placed, aI kI qO_put 180 fO_put, aI kI qO_row 30 rw9, aI kI qO_dangers 30 dv, aI kI qO_losses 30 lv9] rfl ?_
          have he34 := h34
          have he34 := he34.symm
          subst he34
          have hd9 := (dG_rng (ls := (lS (oLoss fO_rates (fO_stones bb) fO_placed vO_placings fO_put vO_mortars bb) (fO_laid bb))) (thr := (fO_deep bb * vO_limit)) (i := 401) (by omega))
          refine x_iast F 8 rfl (by decide) (by omega) dX10_worst_37 [(qO, .inr (10, [.int (jI vO_blocks), .ref qO_stones, .ref qO_laid, .ref qO_deep, .int (jI vO_placings), .ref qO_placed, .int (jI vO_mortars), .ref qO_put, .ref qO_rates, .int (jI vO_limit), .int (jI vO_looks), .ref qO_seen, .ref qO_text, .int (jI vO_texted), .int (jI vO_faultPlace), .int (jI vO_clauses), .ref qO_rule, .ref qO_fresh, .int (jI vO_lots), .ref qO_stocks, .ref qO_row, .ref qO_dangers, .ref qO_losses, .long (jL vO_upper), .long (jL vO_lower), .ref qO_habitUpper, .ref qO_habitLower, .int (jI vO_at), .long (jL vO_word), .int (jI vO_wordEnd), .ref qO_chosen, .ref qO_lost, .ref qO_zones, .ref qO_way, .ref qO_spent, .ref qO_scaffolds])), aI kI qO_stones 30 fO_stones, aI kI qO_laid 30 fO_laid, aI kI qO_deep 30 fO_deep, aI kI qO_rates 64 fO_rates, aI kI qO_placed 300 fO_placed, aI kI qO_put 180 fO_put, aI kI qO_row 30 rw9, aI kI qO_dangers 30 (iU dv bb (dG (lS (oLoss fO_rates (fO_stones bb) fO_placed vO_placings fO_put vO_mortars bb) (fO_laid bb)) (fO_deep bb * vO_limit) 401)), aI kI qO_losses 30 lv9] rfl ?_
          have hg37 := Rg.up hda bb (dG (lS (oLoss fO_rates (fO_stones bb) fO_placed vO_placings fO_put vO_mortars bb) (fO_laid bb)) (fO_deep bb * vO_limit) 401) (by omega)
          refine x_aload_n F dX10_worst_38 rfl 0 rfl ?_
          refine x_get (ci := 10) F hin10 0 rfl rfl 22 (by decide) hw3 rfl dX10_worst_39 ?_
          refine x_iload F dX10_worst_42 4 rfl ?_
          refine x_aload_n F dX10_worst_44 rfl 0 rfl ?_
          refine x_iload F dX10_worst_45 4 rfl ?_
          refine x_iload_n F dX10_worst_47 rfl 1 rfl ?_
          refine x_callVi (ci := 10) (q0 := 0) (As := [.int (jI bb), .int (jI year)]) (st := [.int (jI bb), .ref qO_losses]) F (c_X10_lostAt D kI kJ l qO bb year vO_blocks qO_stones qO_laid qO_deep vO_placings qO_placed vO_mortars qO_put qO_rates vO_limit vO_looks qO_seen qO_text vO_texted vO_faultPlace vO_clauses qO_rule qO_fresh vO_lots qO_stocks qO_row qO_dangers qO_losses vO_upper vO_lower qO_habitUpper qO_habitLower vO_at vO_word vO_wordEnd qO_chosen qO_lost qO_zones qO_way qO_spent qO_scaffolds fO_stones fO_laid fO_rates fO_placed fO_put (by omega) (by omega) hOst hOla hOra hOp hOpr hOp2 hOp3 hOp4 hOm hOmr hOm2) (cwV 2 F.2.2.2.2.1 gX10_worst_X10_lostAt rfl rfl rfl (by decide +kernel) ⟨Nat.le_of_ble_eq_true rfl, Nat.le_of_ble_eq_true rfl⟩) rfl rfl [0, 1, 2, 4, 5, 6] [3, 7, 8, 9] [4, 5, 6, 0, 7, 8, 9, 1, 2, 3] rfl rfl (by decide) (by decide) (by decide) (fun _ => rfl) (by decide) rfl (Nat.le_of_ble_eq_true rfl) dX10_worst_48 ⟨Nat.le_of_ble_eq_true rfl, Nat.le_of_ble_eq_true rfl⟩ (fun z48 u48 h48 => ?_)
          try dsimp only at h48
          refine x_ws [(qO, .inr (10, [.int (jI vO_blocks), .ref qO_stones, .ref qO_laid, .ref qO_deep, .int (jI vO_placings), .ref qO_placed, .int (jI vO_mortars), .ref qO_put, .ref qO_rates, .int (jI vO_limit), .int (jI vO_looks), .ref qO_seen, .ref qO_text, .int (jI vO_texted), .int (jI vO_faultPlace), .int (jI vO_clauses), .ref qO_rule, .ref qO_fresh, .int (jI vO_lots), .ref qO_stocks, .ref qO_row, .ref qO_dangers, .ref qO_losses, .long (jL vO_upper), .long (jL vO_lower), .ref qO_habitUpper, .ref qO_habitLower, .int (jI vO_at), .long (jL vO_word), .int (jI vO_wordEnd), .ref qO_chosen, .ref qO_lost, .ref qO_zones, .ref qO_way, .ref qO_spent, .ref qO_scaffolds])), aI kI qO_stones 30 fO_stones, aI kI qO_laid 30 fO_laid, aI kI qO_deep 30 fO_deep, aI kI qO_rates 64 fO_rates, aI kI qO_placed 300 fO_placed, aI kI qO_put 180 fO_put, aI kI qO_row 30 rw9, aI kI qO_dangers 30 (iU dv bb (dG (lS (oLoss fO_rates (fO_stones bb) fO_placed vO_placings fO_put vO_mortars bb) (fO_laid bb)) (fO_deep bb * vO_limit) 401)), aI kI qO_losses 30 lv9] rfl ?_
          have he48 := h48
          have he48 := he48.symm
          subst he48
          have hlr9 := lS_rng (loss := (oLoss fO_rates (fO_stones bb) fO_placed vO_placings fO_put vO_mortars bb)) (laid := fO_laid bb) (n := 401) (oLoss_rng hOra (Rg.at hOst bb (by omega)) hOp hOm hOp2 hOp3 hOm2 401) (show 0 ≤ year by omega) (show year ≤ 401 by omega)
          have hdd : ∀ k : Int, 0 ≤ k → k < bb + 1 → (iU dv bb (dG (lS (oLoss fO_rates (fO_stones bb) fO_placed vO_placings fO_put vO_mortars bb) (fO_laid bb)) (fO_deep bb * vO_limit) 401)) k = dgf k := fun k h1 h2 => by
            by_cases e : k = bb
            · rw [e, iU_s, hdgf]
            · rw [iU_n e]; exact hdg k h1 (by omega)
          have hll : ∀ k : Int, 0 ≤ k → k < bb + 1 → (iU lv9 bb ((lS (oLoss fO_rates (fO_stones bb) fO_placed vO_placings fO_put vO_mortars bb) (fO_laid bb)) year)) k = lsf k := fun k h1 h2 => by
            by_cases e : k = bb
            · rw [e, iU_s, hlsf]
            · rw [iU_n e]; exact hls k h1 (by omega)
          refine x_iast F 9 rfl (by decide) (by omega) dX10_worst_51 [(qO, .inr (10, [.int (jI vO_blocks), .ref qO_stones, .ref qO_laid, .ref qO_deep, .int (jI vO_placings), .ref qO_placed, .int (jI vO_mortars), .ref qO_put, .ref qO_rates, .int (jI vO_limit), .int (jI vO_looks), .ref qO_seen, .ref qO_text, .int (jI vO_texted), .int (jI vO_faultPlace), .int (jI vO_clauses), .ref qO_rule, .ref qO_fresh, .int (jI vO_lots), .ref qO_stocks, .ref qO_row, .ref qO_dangers, .ref qO_losses, .long (jL vO_upper), .long (jL vO_lower), .ref qO_habitUpper, .ref qO_habitLower, .int (jI vO_at), .long (jL vO_word), .int (jI vO_wordEnd), .ref qO_chosen, .ref qO_lost, .ref qO_zones, .ref qO_way, .ref qO_spent, .ref qO_scaffolds])), aI kI qO_stones 30 fO_stones, aI kI qO_laid 30 fO_laid, aI kI qO_deep 30 fO_deep, aI kI qO_rates 64 fO_rates, aI kI qO_placed 300 fO_placed, aI kI qO_put 180 fO_put, aI kI qO_row 30 rw9, aI kI qO_dangers 30 (iU dv bb (dG (lS (oLoss fO_rates (fO_stones bb) fO_placed vO_placings fO_put vO_mortars bb) (fO_laid bb)) (fO_deep bb * vO_limit) 401)), aI kI qO_losses 30 (iU lv9 bb ((lS (oLoss fO_rates (fO_stones bb) fO_placed vO_placings fO_put vO_mortars bb) (fO_laid bb)) year))] rfl ?_
          have hg51 := Rg.up hlo bb ((lS (oLoss fO_rates (fO_stones bb) fO_placed vO_placings fO_put vO_mortars bb) (fO_laid bb)) year) (by omega)
          have hy0 := hdd bb hbb.1 (by omega)
          refine x_aload_n F dX10_worst_52 rfl 0 rfl ?_
          refine x_get (ci := 10) F hin10 0 rfl rfl 21 (by decide) hw2 rfl dX10_worst_53 ?_
          refine x_iload F dX10_worst_56 4 rfl ?_
          refine x_iald F 8 rfl (by decide) (by omega) dX10_worst_58 ?_
          have hr58 := Rg.at hg37 bb (by omega)
          refine x_if_lt (tgt := 122) F dX10_worst_59 (by decide) (by omega) (fun c59 => ?_) (fun c59 => ?_)
          · -- 59 t
            refine x_iinc (lv' := [(0, .ref qO), (1, .int (jI year)), (2, .int (jI i)), (3, .int (jI many)), (4, .int (jI (bb + 1)))]) (k := 4) F dX10_worst_122 rfl (by decide) [1, 2, 3, 4, 0] rfl ?_
            refine x_goto (tgt := 16) F dX10_worst_125 (by decide) ?_
            exact ih16 many (bb + 1) (iU dv bb (dG (lS (oLoss fO_rates (fO_stones bb) fO_placed vO_placings fO_put vO_mortars bb) (fO_laid bb)) (fO_deep bb * vO_limit) 401)) (iU lv9 bb ((lS (oLoss fO_rates (fO_stones bb) fO_placed vO_placings fO_put vO_mortars bb) (fO_laid bb)) year)) rw9 (by omega) (by omega) hg37 hg51 hdd hll (wInv_skip hbb.1 hinv (by omega)) (by omega)
          · -- 59 f
            refine x_iload_n F dX10_worst_62 rfl 3 rfl ?_
            refine x_istore (lv' := [(0, .ref qO), (1, .int (jI year)), (2, .int (jI i)), (3, .int (jI many)), (4, .int (jI bb)), (5, .int (jI many))]) F dX10_worst_63 (by decide) [1, 2, 3, 4, 5, 0] rfl ?_
            have lp65 : ∀ (fu : Nat) (j9 : Int) (rv : (Int → Int)) (hj : 0 ≤ j9 ∧ j9 ≤ many) (hk1 : ∀ k : Int, 0 ≤ k → k < j9 → rv k = rw9 k) (hk3 : ∀ k : Int, j9 < k → k ≤ many → rv k = rw9 (k - 1)) (hk4 : ∀ k : Int, j9 ≤ k → k < many → dgf bb < dgf (rw9 k) ∨ (dgf bb = dgf (rw9 k) ∧ lsf (rw9 k) < lsf bb)) (hm : j9 < (fu : Int)), xG D p l e (xRm 5 129 0 0) s m args below meth c 6 A Q 0 0 [(qO, .inr (10, [.int (jI vO_blocks), .ref qO_stones, .ref qO_laid, .ref qO_deep, .int (jI vO_placings), .ref qO_placed, .int (jI vO_mortars), .ref qO_put, .ref qO_rates, .int (jI vO_limit), .int (jI vO_looks), .ref qO_seen, .ref qO_text, .int (jI vO_texted), .int (jI vO_faultPlace), .int (jI vO_clauses), .ref qO_rule, .ref qO_fresh, .int (jI vO_lots), .ref qO_stocks, .ref qO_row, .ref qO_dangers, .ref qO_losses, .long (jL vO_upper), .long (jL vO_lower), .ref qO_habitUpper, .ref qO_habitLower, .int (jI vO_at), .long (jL vO_word), .int (jI vO_wordEnd), .ref qO_chosen, .ref qO_lost, .ref qO_zones, .ref qO_way, .ref qO_spent, .ref qO_scaffolds])), aI kI qO_stones 30 fO_stones, aI kI qO_laid 30 fO_laid, aI kI qO_deep 30 fO_deep, aI kI qO_rates 64 fO_rates, aI kI qO_placed 300 fO_placed, aI kI qO_put 180 fO_put, aI kI qO_row 30 rv, aI kI qO_dangers 30 (iU dv bb (dG (lS (oLoss fO_rates (fO_stones bb) fO_placed vO_placings fO_put vO_mortars bb) (fO_laid bb)) (fO_deep bb * vO_limit) 401)), aI kI qO_losses 30 (iU lv9 bb ((lS (oLoss fO_rates (fO_stones bb) fO_placed vO_placings fO_put vO_mortars bb) (fO_laid bb)) year))] [(0, .ref qO), (1, .int (jI year)), (2, .int (jI i)), (3, .int (jI many)), (4, .int (jI bb)), (5, .int (jI j9))] 65 [] := by
              intro fu
              induction fu with
              | zero =>
                intro j9 rv hj hk1 hk3 hk4 hm
                exact absurd hm (by omega)
              | succ fu ih65 =>
                intro j9 rv hj hk1 hk3 hk4 hm
                refine x_iload F dX10_worst_65 5 rfl ?_
                refine x_if_le (tgt := 110) F dX10_worst_67 (by decide) (by omega) (fun c67 => ?_) (fun c67 => ?_)
                · -- 67 t
                  refine x_aload_n F dX10_worst_110 rfl 0 rfl ?_
                  refine x_get (ci := 10) F hin10 0 rfl rfl 20 (by decide) hw1 rfl dX10_worst_111 ?_
                  refine x_iload F dX10_worst_114 5 rfl ?_
                  refine x_iload F dX10_worst_116 4 rfl ?_
                  refine x_iast F 7 rfl (by decide) (by omega) dX10_worst_118 [(qO, .inr (10, [.int (jI vO_blocks), .ref qO_stones, .ref qO_laid, .ref qO_deep, .int (jI vO_placings), .ref qO_placed, .int (jI vO_mortars), .ref qO_put, .ref qO_rates, .int (jI vO_limit), .int (jI vO_looks), .ref qO_seen, .ref qO_text, .int (jI vO_texted), .int (jI vO_faultPlace), .int (jI vO_clauses), .ref qO_rule, .ref qO_fresh, .int (jI vO_lots), .ref qO_stocks, .ref qO_row, .ref qO_dangers, .ref qO_losses, .long (jL vO_upper), .long (jL vO_lower), .ref qO_habitUpper, .ref qO_habitLower, .int (jI vO_at), .long (jL vO_word), .int (jI vO_wordEnd), .ref qO_chosen, .ref qO_lost, .ref qO_zones, .ref qO_way, .ref qO_spent, .ref qO_scaffolds])), aI kI qO_stones 30 fO_stones, aI kI qO_laid 30 fO_laid, aI kI qO_deep 30 fO_deep, aI kI qO_rates 64 fO_rates, aI kI qO_placed 300 fO_placed, aI kI qO_put 180 fO_put, aI kI qO_row 30 (iU rv j9 bb), aI kI qO_dangers 30 (iU dv bb (dG (lS (oLoss fO_rates (fO_stones bb) fO_placed vO_placings fO_put vO_mortars bb) (fO_laid bb)) (fO_deep bb * vO_limit) 401)), aI kI qO_losses 30 (iU lv9 bb ((lS (oLoss fO_rates (fO_stones bb) fO_placed vO_placings fO_put vO_mortars bb) (fO_laid bb)) year))] rfl ?_
                  refine x_iinc (lv' := [(0, .ref qO), (1, .int (jI year)), (2, .int (jI i)), (3, .int (jI (many + 1))), (4, .int (jI bb)), (5, .int (jI j9))]) (k := 3) F dX10_worst_119 rfl (by decide) [1, 2, 3, 0, 4, 5] rfl ?_
                  refine x_iinc (lv' := [(0, .ref qO), (1, .int (jI year)), (2, .int (jI i)), (3, .int (jI (many + 1))), (4, .int (jI (bb + 1))), (5, .int (jI j9))]) (k := 4) F dX10_worst_122 rfl (by decide) [1, 2, 3, 4, 0, 5] rfl ?_
                  refine x_goto (tgt := 16) F dX10_worst_125 (by decide) ?_
                  refine x_lv (lv' := [(0, .ref qO), (1, .int (jI year)), (2, .int (jI i)), (3, .int (jI (many + 1))), (4, .int (jI (bb + 1)))]) [0, 1, 2, 3, 4] rfl ?_
                  exact ih16 (many + 1) (bb + 1) (iU dv bb (dG (lS (oLoss fO_rates (fO_stones bb) fO_placed vO_placings fO_put vO_mortars bb) (fO_laid bb)) (fO_deep bb * vO_limit) 401)) (iU lv9 bb ((lS (oLoss fO_rates (fO_stones bb) fO_placed vO_placings fO_put vO_mortars bb) (fO_laid bb)) year)) (iU rv j9 bb) (by omega) (by omega) hg37 hg51 hdd hll (wInv_put hbb.1 hinv (by omega) ⟨hj.1, hj.2⟩ (fun k h1 h2 => by rw [iU_n (by omega)]; exact hk1 k h1 h2) (iU_s _ _ _) (fun k h1 h2 => by rw [iU_n (by omega)]; exact hk3 k h1 h2) hk4 (by first | exact Or.inl (by omega) | exact Or.inr (by omega))) (by omega)
                · -- 67 f
                  refine x_aload_n F dX10_worst_70 rfl 0 rfl ?_
                  refine x_iload F dX10_worst_71 4 rfl ?_
                  refine x_aload_n F dX10_worst_73 rfl 0 rfl ?_
                  refine x_get (ci := 10) F hin10 0 rfl rfl 20 (by decide) hw1 rfl dX10_worst_74 ?_
                  refine x_iload F dX10_worst_77 5 rfl ?_
                  refine x_iconst F dX10_worst_79 ?_
                  refine x_isub F dX10_worst_80 ?_
                  refine x_iald F 7 rfl (by decide) (by omega) dX10_worst_81 ?_
                  have hrj := hk1 (j9 - 1) (by omega) (by omega)
                  have hrk := hinv.2.2 (j9 - 1) (by omega) (by omega)
                  rw [← hrj] at hrk
                  refine x_callVi (ci := 10) (q0 := 0) (As := [.int (jI bb), .int (jI (rv (j9 - 1)))]) (st := []) F (c_X10_isWorse D kI kJ l qO bb (rv (j9 - 1)) vO_blocks qO_stones qO_laid qO_deep vO_placings qO_placed vO_mortars qO_put qO_rates vO_limit vO_looks qO_seen qO_text vO_texted vO_faultPlace vO_clauses qO_rule qO_fresh vO_lots qO_stocks qO_row qO_dangers qO_losses vO_upper vO_lower qO_habitUpper qO_habitLower vO_at vO_word vO_wordEnd qO_chosen qO_lost qO_zones qO_way qO_spent qO_scaffolds (iU dv bb (dG (lS (oLoss fO_rates (fO_stones bb) fO_placed vO_placings fO_put vO_mortars bb) (fO_laid bb)) (fO_deep bb * vO_limit) 401)) (iU lv9 bb ((lS (oLoss fO_rates (fO_stones bb) fO_placed vO_placings fO_put vO_mortars bb) (fO_laid bb)) year)) (by omega) hg37 hg51) (cwV 2 F.2.2.2.2.1 gX10_worst_X10_isWorse rfl rfl rfl (by decide +kernel) ⟨Nat.le_of_ble_eq_true rfl, Nat.le_of_ble_eq_true rfl⟩) rfl rfl [0, 8, 9] [1, 2, 3, 4, 5, 6, 7] [7, 0, 1, 2, 3, 4, 5, 6, 8, 9] rfl rfl (by decide) (by decide) (by decide) (fun _ => rfl) (by decide) rfl (Nat.le_of_ble_eq_true rfl) dX10_worst_82 ⟨Nat.le_of_ble_eq_true rfl, Nat.le_of_ble_eq_true rfl⟩ (fun z82 u82 h82 => ?_)
                  try dsimp only at h82
                  refine x_ws [(qO, .inr (10, [.int (jI vO_blocks), .ref qO_stones, .ref qO_laid, .ref qO_deep, .int (jI vO_placings), .ref qO_placed, .int (jI vO_mortars), .ref qO_put, .ref qO_rates, .int (jI vO_limit), .int (jI vO_looks), .ref qO_seen, .ref qO_text, .int (jI vO_texted), .int (jI vO_faultPlace), .int (jI vO_clauses), .ref qO_rule, .ref qO_fresh, .int (jI vO_lots), .ref qO_stocks, .ref qO_row, .ref qO_dangers, .ref qO_losses, .long (jL vO_upper), .long (jL vO_lower), .ref qO_habitUpper, .ref qO_habitLower, .int (jI vO_at), .long (jL vO_word), .int (jI vO_wordEnd), .ref qO_chosen, .ref qO_lost, .ref qO_zones, .ref qO_way, .ref qO_spent, .ref qO_scaffolds])), aI kI qO_stones 30 fO_stones, aI kI qO_laid 30 fO_laid, aI kI qO_deep 30 fO_deep, aI kI qO_rates 64 fO_rates, aI kI qO_placed 300 fO_placed, aI kI qO_put 180 fO_put, aI kI qO_row 30 rv, aI kI qO_dangers 30 (iU dv bb (dG (lS (oLoss fO_rates (fO_stones bb) fO_placed vO_placings fO_put vO_mortars bb) (fO_laid bb)) (fO_deep bb * vO_limit) 401)), aI kI qO_losses 30 (iU lv9 bb ((lS (oLoss fO_rates (fO_stones bb) fO_placed vO_placings fO_put vO_mortars bb) (fO_laid bb)) year))] rfl ?_
                  have hb82 := h82
                  have hy1 := hdd bb hbb.1 (by omega)
                  have hy2 := hll bb hbb.1 (by omega)
                  have hy3 := hdd (rv (j9 - 1)) (by omega) (by omega)
                  have hy4 := hll (rv (j9 - 1)) (by omega) (by omega)
                  rw [hy1, hy2, hy3, hy4, hrj] at hb82
                  refine x_beq (tgt := 110) F dX10_worst_85 (by decide) hb82 (fun c85 => ?_) (fun c85 => ?_)
                  · -- 85 t
                    refine x_aload_n F dX10_worst_110 rfl 0 rfl ?_
                    refine x_get (ci := 10) F hin10 0 rfl rfl 20 (by decide) hw1 rfl dX10_worst_111 ?_
                    refine x_iload F dX10_worst_114 5 rfl ?_
                    refine x_iload F dX10_worst_116 4 rfl ?_
                    refine x_iast F 7 rfl (by decide) (by omega) dX10_worst_118 [(qO, .inr (10, [.int (jI vO_blocks), .ref qO_stones, .ref qO_laid, .ref qO_deep, .int (jI vO_placings), .ref qO_placed, .int (jI vO_mortars), .ref qO_put, .ref qO_rates, .int (jI vO_limit), .int (jI vO_looks), .ref qO_seen, .ref qO_text, .int (jI vO_texted), .int (jI vO_faultPlace), .int (jI vO_clauses), .ref qO_rule, .ref qO_fresh, .int (jI vO_lots), .ref qO_stocks, .ref qO_row, .ref qO_dangers, .ref qO_losses, .long (jL vO_upper), .long (jL vO_lower), .ref qO_habitUpper, .ref qO_habitLower, .int (jI vO_at), .long (jL vO_word), .int (jI vO_wordEnd), .ref qO_chosen, .ref qO_lost, .ref qO_zones, .ref qO_way, .ref qO_spent, .ref qO_scaffolds])), aI kI qO_stones 30 fO_stones, aI kI qO_laid 30 fO_laid, aI kI qO_deep 30 fO_deep, aI kI qO_rates 64 fO_rates, aI kI qO_placed 300 fO_placed, aI kI qO_put 180 fO_put, aI kI qO_row 30 (iU rv j9 bb), aI kI qO_dangers 30 (iU dv bb (dG (lS (oLoss fO_rates (fO_stones bb) fO_placed vO_placings fO_put vO_mortars bb) (fO_laid bb)) (fO_deep bb * vO_limit) 401)), aI kI qO_losses 30 (iU lv9 bb ((lS (oLoss fO_rates (fO_stones bb) fO_placed vO_placings fO_put vO_mortars bb) (fO_laid bb)) year))] rfl ?_
                    refine x_iinc (lv' := [(0, .ref qO), (1, .int (jI year)), (2, .int (jI i)), (3, .int (jI (many + 1))), (4, .int (jI bb)), (5, .int (jI j9))]) (k := 3) F dX10_worst_119 rfl (by decide) [1, 2, 3, 0, 4, 5] rfl ?_
                    refine x_iinc (lv' := [(0, .ref qO), (1, .int (jI year)), (2, .int (jI i)), (3, .int (jI (many + 1))), (4, .int (jI (bb + 1))), (5, .int (jI j9))]) (k := 4) F dX10_worst_122 rfl (by decide) [1, 2, 3, 4, 0, 5] rfl ?_
                    refine x_goto (tgt := 16) F dX10_worst_125 (by decide) ?_
                    refine x_lv (lv' := [(0, .ref qO), (1, .int (jI year)), (2, .int (jI i)), (3, .int (jI (many + 1))), (4, .int (jI (bb + 1)))]) [0, 1, 2, 3, 4] rfl ?_
                    exact ih16 (many + 1) (bb + 1) (iU dv bb (dG (lS (oLoss fO_rates (fO_stones bb) fO_placed vO_placings fO_put vO_mortars bb) (fO_laid bb)) (fO_deep bb * vO_limit) 401)) (iU lv9 bb ((lS (oLoss fO_rates (fO_stones bb) fO_placed vO_placings fO_put vO_mortars bb) (fO_laid bb)) year)) (iU rv j9 bb) (by omega) (by omega) (by omega) (by omega) hdd hll (wInv_put hbb.1 hinv (by omega) ⟨hj.1, hj.2⟩ (fun k h1 h2 => by rw [iU_n (by omega)]; exact hk1 k h1 h2) (iU_s _ _ _) (fun k h1 h2 => by rw [iU_n (by omega)]; exact hk3 k h1 h2) hk4 (by first | exact Or.inl (by omega) | exact Or.inr (by omega))) (by omega)
                  · -- 85 f
                    refine x_aload_n F dX10_worst_88 rfl 0 rfl ?_
                    refine x_get (ci := 10) F hin10 0 rfl rfl 20 (by decide) hw1 rfl dX10_worst_89 ?_
                    refine x_iload F dX10_worst_92 5 rfl ?_
                    refine x_aload_n F dX10_worst_94 rfl 0 rfl ?_
                    refine x_get (ci := 10) F hin10 0 rfl rfl 20 (by decide) hw1 rfl dX10_worst_95 ?_
                    refine x_iload F dX10_worst_98 5 rfl ?_
                    refine x_iconst F dX10_worst_100 ?_
                    refine x_isub F dX10_worst_101 ?_
                    refine x_iald F 7 rfl (by decide) (by omega) dX10_worst_102 ?_
                    refine x_iast F 7 rfl (by decide) (by omega) dX10_worst_103 [(qO, .inr (10, [.int (jI vO_blocks), .ref qO_stones, .ref qO_laid, .ref qO_deep, .int (jI vO_placings), .ref qO_placed, .int (jI vO_mortars), .ref qO_put, .ref qO_rates, .int (jI vO_limit), .int (jI vO_looks), .ref qO_seen, .ref qO_text, .int (jI vO_texted), .int (jI vO_faultPlace), .int (jI vO_clauses), .ref qO_rule, .ref qO_fresh, .int (jI vO_lots), .ref qO_stocks, .ref qO_row, .ref qO_dangers, .ref qO_losses, .long (jL vO_upper), .long (jL vO_lower), .ref qO_habitUpper, .ref qO_habitLower, .int (jI vO_at), .long (jL vO_word), .int (jI vO_wordEnd), .ref qO_chosen, .ref qO_lost, .ref qO_zones, .ref qO_way, .ref qO_spent, .ref qO_scaffolds])), aI kI qO_stones 30 fO_stones, aI kI qO_laid 30 fO_laid, aI kI qO_deep 30 fO_deep, aI kI qO_rates 64 fO_rates, aI kI qO_placed 300 fO_placed, aI kI qO_put 180 fO_put, aI kI qO_row 30 (iU rv j9 (rv (j9 - 1))), aI kI qO_dangers 30 (iU dv bb (dG (lS (oLoss fO_rates (fO_stones bb) fO_placed vO_placings fO_put vO_mortars bb) (fO_laid bb)) (fO_deep bb * vO_limit) 401)), aI kI qO_losses 30 (iU lv9 bb ((lS (oLoss fO_rates (fO_stones bb) fO_placed vO_placings fO_put vO_mortars bb) (fO_laid bb)) year))] rfl ?_
                    refine x_iinc (lv' := [(0, .ref qO), (1, .int (jI year)), (2, .int (jI i)), (3, .int (jI many)), (4, .int (jI bb)), (5, .int (jI (j9 + (-1))))]) (k := 5) F dX10_worst_104 rfl (by decide) [1, 2, 3, 4, 5, 0] rfl ?_
                    refine x_goto (tgt := 65) F dX10_worst_107 (by decide) ?_
                    -- CAUTION 65: iU dv bb (dG (lS (oLoss fO_rates (fO_stones bb) fO_placed vO_placings fO_put vO_mortars bb) (fO_laid bb)) (fO_deep bb * vO_limit) 401) against (iU dv bb (dG (lS (oLoss fO_rates (fO_stones bb) fO_placed vO_placings fO_put vO_mortars bb) (fO_laid bb)) (fO_deep bb * vO_limit) 401))
                    -- CAUTION 65: iU lv9 bb ((lS (oLoss fO_rates (fO_stones bb) fO_placed vO_placings fO_put vO_mortars bb) (fO_laid bb)) year) against (iU lv9 bb ((lS (oLoss fO_rates (fO_stones bb) fO_placed vO_placings fO_put vO_mortars bb) (fO_laid bb)) year))
                    exact ih65 (j9 + (-1)) (iU rv j9 (rv (j9 - 1))) (by omega) (fun k h1 h2 => by rw [iU_n (by omega)]; exact hk1 k h1 (by omega)) (fun k h1 h2 => by by_cases e : k = j9; (rw [e, iU_s]; exact hrj); (rw [iU_n e]; exact hk3 k (by omega) h2)) (fun k h1 h2 => by by_cases e : k = j9 - 1; (rw [e]; exact c85); exact hk4 k (by omega) h2) (by omega)
            exact lp65 (Int.toNat many + 1) many rw9 (by omega) (fun k h1 h2 => rfl) (fun k h1 h2 => by omega) (fun k h1 h2 => by omega) (by omega)
    exact lp16 (Int.toNat (vO_blocks - 0) + 1) 0 0 fO_dangers fO_losses fO_row (by omega) (by omega) hOda hOlo (fun k h1 h2 => by omega) (fun k h1 h2 => by omega) (wInv_0 dgf lsf fO_row) (by omega)
  · -- 4 f
    refine x_sipush F dX10_worst_7 (by decide) ?_
    exact hret 0 0 10 _ (-1002) (fO_row, fO_dangers, fO_losses) (Nat.le_of_ble_eq_true rfl) (Nat.le_of_ble_eq_true rfl) dX10_worst_10 (by (try dsimp only); exact (⟨(if_pos (by omega)).symm, hOda, hOlo⟩))
