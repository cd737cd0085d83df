set_option maxHeartbeats 4000000 in
set_option maxRecDepth 100000 in
theorem c_X6_clear (D : va_G) (kI kJ : Nat) (l : Launch) (qU : Nat) (qU_names : Nat) (qU_signs : Nat) (qU_numbers : Nat) (qU_tests : Nat) (qU_acts : Nat) (vU_clauses : Int) (fU_tests : (Int → Int))  : xMv D kI kJ l yX6_clear wsX6_clear 2 55 0 0 [.ref qU] [(qU, .inr (6, [.ref qU_names, .ref qU_signs, .ref qU_numbers, .ref qU_tests, .ref qU_acts, .int (jI vU_clauses)])), aI kI qU_tests 6 fU_tests] (fun (u : (Int → Int)) => (∀ k : Int, 0 ≤ k → k < 6 → u k = 0)) (fun (u : (Int → Int)) => [(qU, .inr (6, [.ref qU_names, .ref qU_signs, .ref qU_numbers, .ref qU_tests, .ref qU_acts, .int (jI 0)])), aI kI qU_tests 6 u]) := by
  refine xMv_of (cc := cX6_clear) (maxL := 1) (by decide) rfl (Nat.le_of_ble_eq_true rfl) ?_
  intro p e s m args below meth c A Q F hin2 hret
  have hin6 : ∀ w ∈ wsX60, w ∈ wsX6_clear := by decide +kernel
  have hw0 : Cond.fieldLink RX6 27 (TX6 5).1 (TX6 5).2.1 (TX6 5).2.2.1 ∈ wsX6_clear := by decide +kernel
  have hw1 : Cond.fieldLink RX6 21 (TX6 3).1 (TX6 3).2.1 (TX6 3).2.2.1 ∈ wsX6_clear := by decide +kernel
  refine x_lveq (lv' := [(0, .ref qU)]) rfl ?_
  refine x_aload_n F dX6_clear_0 rfl 0 rfl ?_
  refine x_iconst F dX6_clear_1 ?_
  refine x_put (ci := 6) F hin6 tyX6_ok nmX6 0 rfl rfl 5 (by decide) hw0 rfl rfl rfl (show 5 + 1 ≤ _ from Nat.le_of_ble_eq_true rfl) dX6_clear_2 [(qU, .inr (6, [.ref qU_names, .ref qU_signs, .ref qU_numbers, .ref qU_tests, .ref qU_acts, .int (jI 0)])), aI kI qU_tests 6 fU_tests] rfl ?_
  refine x_aload_n F dX6_clear_5 rfl 0 rfl ?_
  refine x_get (ci := 6) F hin6 0 rfl rfl 3 (by decide) hw1 rfl dX6_clear_6 ?_
  refine x_iconst F dX6_clear_9 ?_
  refine x_callSv (As := [.ref qU_tests, .int (jI 0)]) (st := []) F (c_J7_fill_53178 D kI kJ l qU_tests 0 6 fU_tests (by omega)) (va_cwS 2 F.2.2.2.2.1 gX6_clear_J7_fill_53178 rfl rfl rfl (by decide +kernel) ⟨Nat.le_of_ble_eq_true rfl, Nat.le_of_ble_eq_true rfl⟩) [1] [0] [0, 1] rfl rfl (by decide) (by decide) (by decide) (fun _ => rfl) (by decide) rfl (Nat.le_of_ble_eq_true rfl) dX6_clear_10 ⟨Nat.le_of_ble_eq_true rfl, Nat.le_of_ble_eq_true rfl⟩ (fun u10 h10 => ?_)
  obtain ⟨f2_10, rfl⟩ : ∃ z, z = u10 := ⟨_, rfl⟩
  try dsimp only at h10
  refine x_ws [(qU, .inr (6, [.ref qU_names, .ref qU_signs, .ref qU_numbers, .ref qU_tests, .ref qU_acts, .int (jI 0)])), aI kI qU_tests 6 f2_10] rfl ?_
  have hf_10 := h10
  exact hret 0 0 13 _ f2_10 (Nat.le_of_ble_eq_true rfl) (Nat.le_of_ble_eq_true rfl) dX6_clear_13 (hf_10)
set_option maxHeartbeats 4000000 in
set_option maxRecDepth 100000 in
theorem c_X6_addTest (D : va_G) (kI kJ : Nat) (l : Launch) (qU : Nat) (name : Int) (sign : Int) (number : Int) (qU_names : Nat) (qU_signs : Nat) (qU_numbers : Nat) (qU_tests : Nat) (qU_acts : Nat) (vU_clauses : Int) (fU_names : (Int → Int)) (fU_signs : (Int → Int)) (fU_numbers : (Int → Int)) (fU_tests : (Int → Int)) (hc : 0 ≤ vU_clauses ∧ vU_clauses < 6) (ht : 0 ≤ fU_tests vU_clauses ∧ fU_tests vU_clauses < 3) : xMv D kI kJ l yX6_addTest wsX6_addTest 2 53 0 0 [.ref qU, .int (jI name), .int (jI sign), .int (jI number)] [(qU, .inr (6, [.ref qU_names, .ref qU_signs, .ref qU_numbers, .ref qU_tests, .ref qU_acts, .int (jI vU_clauses)])), aI kI qU_names 18 fU_names, aI kI qU_signs 18 fU_signs, aI kI qU_numbers 18 fU_numbers, aI kI qU_tests 6 fU_tests] (fun (u : Unit) => True) (fun (u : Unit) => [(qU, .inr (6, [.ref qU_names, .ref qU_signs, .ref qU_numbers, .ref qU_tests, .ref qU_acts, .int (jI vU_clauses)])), aI kI qU_names 18 (iU fU_names (vU_clauses * 3 + fU_tests vU_clauses) name), aI kI qU_signs 18 (iU fU_signs (vU_clauses * 3 + fU_tests vU_clauses) sign), aI kI qU_numbers 18 (iU fU_numbers (vU_clauses * 3 + fU_tests vU_clauses) number), aI kI qU_tests 6 (iU fU_tests vU_clauses (fU_tests vU_clauses + 1))]) := by
  refine xMv_of (cc := cX6_addTest) (maxL := 6) (by decide) rfl (Nat.le_of_ble_eq_true rfl) ?_
  intro p e s m args below meth c A Q F hin2 hret
  have hin6 : ∀ w ∈ wsX60, w ∈ wsX6_addTest := by decide +kernel
  have hw0 : Cond.fieldLink RX6 21 (TX6 3).1 (TX6 3).2.1 (TX6 3).2.2.1 ∈ wsX6_addTest := by decide +kernel
  have hw1 : Cond.fieldLink RX6 27 (TX6 5).1 (TX6 5).2.1 (TX6 5).2.2.1 ∈ wsX6_addTest := by decide +kernel
  have hw2 : Cond.initialized yX9_at.cls ∈ wsX6_addTest := by decide +kernel
  have hw3 : Cond.static yX9_at ∈ wsX6_addTest := by decide +kernel
  have hw4 : Cond.initialized yX9_isBelow.cls ∈ wsX6_addTest := by decide +kernel
  have hw5 : Cond.static yX9_isBelow ∈ wsX6_addTest := by decide +kernel
  have hw6 : Cond.fieldLink RX6 9 (TX6 0).1 (TX6 0).2.1 (TX6 0).2.2.1 ∈ wsX6_addTest := by decide +kernel
  have hw7 : Cond.fieldLink RX6 15 (TX6 1).1 (TX6 1).2.1 (TX6 1).2.2.1 ∈ wsX6_addTest := by decide +kernel
  have hw8 : Cond.fieldLink RX6 18 (TX6 2).1 (TX6 2).2.1 (TX6 2).2.2.1 ∈ wsX6_addTest := by decide +kernel
  refine x_lveq (lv' := [(0, .ref qU), (1, .int (jI name)), (2, .int (jI sign)), (3, .int (jI number))]) rfl ?_
  refine x_aload_n F dX6_addTest_0 rfl 0 rfl ?_
  refine x_get (ci := 6) F hin6 0 rfl rfl 3 (by decide) hw0 rfl dX6_addTest_1 ?_
  refine x_aload_n F dX6_addTest_4 rfl 0 rfl ?_
  refine x_get (ci := 6) F hin6 0 rfl rfl 5 (by decide) hw1 rfl dX6_addTest_5 ?_
  refine x_callSNi (As := [.ref qU_tests, .int (jI vU_clauses)]) (st := []) F (c_X9_at D kI kJ l qU_tests vU_clauses 6 fU_tests (by omega) (by omega)) ⟨va_cnB 2 F.2.2.2.2.1 gX6_addTest_X9_at_n37 rfl rfl rfl (nM16 F.2.2.2.2.2.2.2) (F.2.2.2.2.1 _ hw2) (by decide +kernel) ⟨Nat.le_of_ble_eq_true rfl, Nat.le_of_ble_eq_true rfl⟩, F.2.2.2.2.1 _ hw3, trivial⟩ [4] [0, 1, 2, 3] [0, 1, 2, 3, 4] rfl rfl (by decide) (by decide) (by decide) (fun _ => rfl) (by decide) rfl (Nat.le_of_ble_eq_true rfl) dX6_addTest_8 ⟨Nat.le_of_ble_eq_true rfl, Nat.le_of_ble_eq_true rfl⟩ (fun z8 u8 h8 => ?_)
  try dsimp only at h8
  refine x_ws [(qU, .inr (6, [.ref qU_names, .ref qU_signs, .ref qU_numbers, .ref qU_tests, .ref qU_acts, .int (jI vU_clauses)])), aI kI qU_names 18 fU_names, aI kI qU_signs 18 fU_signs, aI kI qU_numbers 18 fU_numbers, aI kI qU_tests 6 fU_tests] rfl ?_
  have he8 := h8
  have he8 := he8.symm
  subst he8
  refine x_istore (lv' := [(0, .ref qU), (1, .int (jI name)), (2, .int (jI sign)), (3, .int (jI number)), (4, .int (jI (fU_tests vU_clauses)))]) F dX6_addTest_11 (by decide) [1, 2, 3, 4, 0] rfl ?_
  refine x_aload_n F dX6_addTest_13 rfl 0 rfl ?_
  refine x_get (ci := 6) F hin6 0 rfl rfl 5 (by decide) hw1 rfl dX6_addTest_14 ?_
  refine x_bipush F dX6_addTest_17 (by decide) ?_
  refine x_callSNi (As := [.int (jI vU_clauses), .int (jI 6)]) (st := []) F (c_X9_isBelow D kI kJ l vU_clauses 6 (by omega) (by omega)) ⟨va_cnB 2 F.2.2.2.2.1 gX6_addTest_X9_isBelow_n41 rfl rfl rfl (nM17 F.2.2.2.2.2.2.2) (F.2.2.2.2.1 _ hw4) (by decide +kernel) ⟨Nat.le_of_ble_eq_true rfl, Nat.le_of_ble_eq_true rfl⟩, F.2.2.2.2.1 _ hw5, trivial⟩ [] [0, 1, 2, 3, 4] [0, 1, 2, 3, 4] rfl rfl (by decide) (by decide) (by decide) (fun _ => rfl) (by decide) rfl (Nat.le_of_ble_eq_true rfl) dX6_addTest_19 ⟨Nat.le_of_ble_eq_true rfl, Nat.le_of_ble_eq_true rfl⟩ (fun z19 u19 h19 => ?_)
  try dsimp only at h19
  refine x_ws [(qU, .inr (6, [.ref qU_names, .ref qU_signs, .ref qU_numbers, .ref qU_tests, .ref qU_acts, .int (jI vU_clauses)])), aI kI qU_names 18 fU_names, aI kI qU_signs 18 fU_signs, aI kI qU_numbers 18 fU_numbers, aI kI qU_tests 6 fU_tests] rfl ?_
  have hb19 := h19
  refine x_beq (tgt := 82) F dX6_addTest_22 (by decide) hb19 (fun c22 => ?_) (fun c22 => ?_)
  · exact absurd c22 (by omega)
  · -- 22 f
    refine x_iload F dX6_addTest_25 4 rfl ?_
    refine x_iconst F dX6_addTest_27 ?_
    refine x_callSNi (As := [.int (jI (fU_tests vU_clauses)), .int (jI 3)]) (st := []) F (c_X9_isBelow D kI kJ l (fU_tests vU_clauses) 3 (by omega) (by omega)) ⟨va_cnB 2 F.2.2.2.2.1 gX6_addTest_X9_isBelow_n41 rfl rfl rfl (nM17 F.2.2.2.2.2.2.2) (F.2.2.2.2.1 _ hw4) (by decide +kernel) ⟨Nat.le_of_ble_eq_true rfl, Nat.le_of_ble_eq_true rfl⟩, F.2.2.2.2.1 _ hw5, trivial⟩ [] [0, 1, 2, 3, 4] [0, 1, 2, 3, 4] rfl rfl (by decide) (by decide) (by decide) (fun _ => rfl) (by decide) rfl (Nat.le_of_ble_eq_true rfl) dX6_addTest_28 ⟨Nat.le_of_ble_eq_true rfl, Nat.le_of_ble_eq_true rfl⟩ (fun z28 u28 h28 => ?_)
    try dsimp only at h28
    refine x_ws [(qU, .inr (6, [.ref qU_names, .ref qU_signs, .ref qU_numbers, .ref qU_tests, .ref qU_acts, .int (jI vU_clauses)])), aI kI qU_names 18 fU_names, aI kI qU_signs 18 fU_signs, aI kI qU_numbers 18 fU_numbers, aI kI qU_tests 6 fU_tests] rfl ?_
    have hb28 := h28
    refine x_beq (tgt := 82) F dX6_addTest_31 (by decide) hb28 (fun c31 => ?_) (fun c31 => ?_)
    · exact absurd c31 (by omega)
    · -- 31 f
      refine x_aload_n F dX6_addTest_34 rfl 0 rfl ?_
      refine x_get (ci := 6) F hin6 0 rfl rfl 5 (by decide) hw1 rfl dX6_addTest_35 ?_
      refine x_iconst F dX6_addTest_38 ?_
      refine x_imul F dX6_addTest_39 ?_
      refine x_iload F dX6_addTest_40 4 rfl ?_
      refine x_iadd F dX6_addTest_42 ?_
      refine x_istore (lv' := [(0, .ref qU), (1, .int (jI name)), (2, .int (jI sign)), (3, .int (jI number)), (4, .int (jI (fU_tests vU_clauses))), (5, .int (jI ((vU_clauses * 3) + (fU_tests vU_clauses))))]) F dX6_addTest_43 (by decide) [1, 2, 3, 4, 5, 0] rfl ?_
      refine x_aload_n F dX6_addTest_45 rfl 0 rfl ?_
      refine x_get (ci := 6) F hin6 0 rfl rfl 0 (by decide) hw6 rfl dX6_addTest_46 ?_
      refine x_iload F dX6_addTest_49 5 rfl ?_
      refine x_iload_n F dX6_addTest_51 rfl 1 rfl ?_
      refine x_iast F 1 rfl (by decide) (by omega) dX6_addTest_52 [(qU, .inr (6, [.ref qU_names, .ref qU_signs, .ref qU_numbers, .ref qU_tests, .ref qU_acts, .int (jI vU_clauses)])), aI kI qU_names 18 (iU fU_names ((vU_clauses * 3) + (fU_tests vU_clauses)) name), aI kI qU_signs 18 fU_signs, aI kI qU_numbers 18 fU_numbers, aI kI qU_tests 6 fU_tests] rfl ?_
      refine x_aload_n F dX6_addTest_53 rfl 0 rfl ?_
      refine x_get (ci := 6) F hin6 0 rfl rfl 1 (by decide) hw7 rfl dX6_addTest_54 ?_
      refine x_iload F dX6_addTest_57 5 rfl ?_
      refine x_iload_n F dX6_addTest_59 rfl 2 rfl ?_
      refine x_iast F 2 rfl (by decide) (by omega) dX6_addTest_60 [(qU, .inr (6, [.ref qU_names, .ref qU_signs, .ref qU_numbers, .ref qU_tests, .ref qU_acts, .int (jI vU_clauses)])), aI kI qU_names 18 (iU fU_names ((vU_clauses * 3) + (fU_tests vU_clauses)) name), aI kI qU_signs 18 (iU fU_signs ((vU_clauses * 3) + (fU_tests vU_clauses)) sign), aI kI qU_numbers 18 fU_numbers, aI kI qU_tests 6 fU_tests] rfl ?_
      refine x_aload_n F dX6_addTest_61 rfl 0 rfl ?_
      refine x_get (ci := 6) F hin6 0 rfl rfl 2 (by decide) hw8 rfl dX6_addTest_62 ?_
      refine x_iload F dX6_addTest_65 5 rfl ?_
      refine x_iload_n F dX6_addTest_67 rfl 3 rfl ?_
      refine x_iast F 3 rfl (by decide) (by omega) dX6_addTest_68 [(qU, .inr (6, [.ref qU_names, .ref qU_signs, .ref qU_numbers, .ref qU_tests, .ref qU_acts, .int (jI vU_clauses)])), aI kI qU_names 18 (iU fU_names ((vU_clauses * 3) + (fU_tests vU_clauses)) name), aI kI qU_signs 18 (iU fU_signs ((vU_clauses * 3) + (fU_tests vU_clauses)) sign), aI kI qU_numbers 18 (iU fU_numbers ((vU_clauses * 3) + (fU_tests vU_clauses)) number), aI kI qU_tests 6 fU_tests] rfl ?_
      refine x_aload_n F dX6_addTest_69 rfl 0 rfl ?_
      refine x_get (ci := 6) F hin6 0 rfl rfl 3 (by decide) hw0 rfl dX6_addTest_70 ?_
      refine x_aload_n F dX6_addTest_73 rfl 0 rfl ?_
      refine x_get (ci := 6) F hin6 0 rfl rfl 5 (by decide) hw1 rfl dX6_addTest_74 ?_
      refine x_iload F dX6_addTest_77 4 rfl ?_
      refine x_iconst F dX6_addTest_79 ?_
      refine x_iadd F dX6_addTest_80 ?_
      refine x_iast F 4 rfl (by decide) (by omega) dX6_addTest_81 [(qU, .inr (6, [.ref qU_names, .ref qU_signs, .ref qU_numbers, .ref qU_tests, .ref qU_acts, .int (jI vU_clauses)])), aI kI qU_names 18 (iU fU_names ((vU_clauses * 3) + (fU_tests vU_clauses)) name), aI kI qU_signs 18 (iU fU_signs ((vU_clauses * 3) + (fU_tests vU_clauses)) sign), aI kI qU_numbers 18 (iU fU_numbers ((vU_clauses * 3) + (fU_tests vU_clauses)) number), aI kI qU_tests 6 (iU fU_tests vU_clauses ((fU_tests vU_clauses) + 1))] rfl ?_
      exact hret 0 0 82 _ () (Nat.le_of_ble_eq_true rfl) (Nat.le_of_ble_eq_true rfl) dX6_addTest_82 (trivial)
set_option maxHeartbeats 4000000 in
set_option maxRecDepth 100000 in
theorem c_X6_endClause (D : va_G) (kI kJ : Nat) (l : Launch) (qU : Nat) (act : Int) (qU_names : Nat) (qU_signs : Nat) (qU_numbers : Nat) (qU_tests : Nat) (qU_acts : Nat) (vU_clauses : Int) (fU_acts : (Int → Int)) (hc : 0 ≤ vU_clauses ∧ vU_clauses < 6) : xMv D kI kJ l yX6_endClause wsX6_endClause 2 53 0 0 [.ref qU, .int (jI act)] [(qU, .inr (6, [.ref qU_names, .ref qU_signs, .ref qU_numbers, .ref qU_tests, .ref qU_acts, .int (jI vU_clauses)])), aI kI qU_acts 6 fU_acts] (fun (u : Unit) => True) (fun (u : Unit) => [(qU, .inr (6, [.ref qU_names, .ref qU_signs, .ref qU_numbers, .ref qU_tests, .ref qU_acts, .int (jI (vU_clauses + 1))])), aI kI qU_acts 6 (iU fU_acts vU_clauses act)]) := by
  refine xMv_of (cc := cX6_endClause) (maxL := 2) (by decide) rfl (Nat.le_of_ble_eq_true rfl) ?_
  intro p e s m args below meth c A Q F hin2 hret
  have hin6 : ∀ w ∈ wsX60, w ∈ wsX6_endClause := by decide +kernel
  have hw0 : Cond.fieldLink RX6 27 (TX6 5).1 (TX6 5).2.1 (TX6 5).2.2.1 ∈ wsX6_endClause := by decide +kernel
  have hw1 : Cond.initialized yX9_isBelow.cls ∈ wsX6_endClause := by decide +kernel
  have hw2 : Cond.static yX9_isBelow ∈ wsX6_endClause := by decide +kernel
  have hw3 : Cond.fieldLink RX6 24 (TX6 4).1 (TX6 4).2.1 (TX6 4).2.2.1 ∈ wsX6_endClause := by decide +kernel
  refine x_lveq (lv' := [(0, .ref qU), (1, .int (jI act))]) rfl ?_
  refine x_aload_n F dX6_endClause_0 rfl 0 rfl ?_
  refine x_get (ci := 6) F hin6 0 rfl rfl 5 (by decide) hw0 rfl dX6_endClause_1 ?_
  refine x_bipush F dX6_endClause_4 (by decide) ?_
  refine x_callSNi (As := [.int (jI vU_clauses), .int (jI 6)]) (st := []) F (c_X9_isBelow D kI kJ l vU_clauses 6 (by omega) (by omega)) ⟨va_cnB 2 F.2.2.2.2.1 gX6_endClause_X9_isBelow_n41 rfl rfl rfl (nM17 F.2.2.2.2.2.2.2) (F.2.2.2.2.1 _ hw1) (by decide +kernel) ⟨Nat.le_of_ble_eq_true rfl, Nat.le_of_ble_eq_true rfl⟩, F.2.2.2.2.1 _ hw2, trivial⟩ [] [0, 1] [0, 1] rfl rfl (by decide) (by decide) (by decide) (fun _ => rfl) (by decide) rfl (Nat.le_of_ble_eq_true rfl) dX6_endClause_6 ⟨Nat.le_of_ble_eq_true rfl, Nat.le_of_ble_eq_true rfl⟩ (fun z6 u6 h6 => ?_)
  try dsimp only at h6
  refine x_ws [(qU, .inr (6, [.ref qU_names, .ref qU_signs, .ref qU_numbers, .ref qU_tests, .ref qU_acts, .int (jI vU_clauses)])), aI kI qU_acts 6 fU_acts] rfl ?_
  have hb6 := h6
  refine x_beq (tgt := 32) F dX6_endClause_9 (by decide) hb6 (fun c9 => ?_) (fun c9 => ?_)
  · exact absurd c9 (by omega)
  · -- 9 f
    refine x_aload_n F dX6_endClause_12 rfl 0 rfl ?_
    refine x_get (ci := 6) F hin6 0 rfl rfl 4 (by decide) hw3 rfl dX6_endClause_13 ?_
    refine x_aload_n F dX6_endClause_16 rfl 0 rfl ?_
    refine x_get (ci := 6) F hin6 0 rfl rfl 5 (by decide) hw0 rfl dX6_endClause_17 ?_
    refine x_iload_n F dX6_endClause_20 rfl 1 rfl ?_
    refine x_iast F 1 rfl (by decide) (by omega) dX6_endClause_21 [(qU, .inr (6, [.ref qU_names, .ref qU_signs, .ref qU_numbers, .ref qU_tests, .ref qU_acts, .int (jI vU_clauses)])), aI kI qU_acts 6 (iU fU_acts vU_clauses act)] rfl ?_
    refine x_aload_n F dX6_endClause_22 rfl 0 rfl ?_
    refine x_dup F dX6_endClause_23 rfl ?_
    refine x_get (ci := 6) F hin6 0 rfl rfl 5 (by decide) hw0 rfl dX6_endClause_24 ?_
    refine x_iconst F dX6_endClause_27 ?_
    refine x_iadd F dX6_endClause_28 ?_
    refine x_put (ci := 6) F hin6 tyX6_ok nmX6 0 rfl rfl 5 (by decide) hw0 rfl rfl rfl (show 5 + 1 ≤ _ from Nat.le_of_ble_eq_true rfl) dX6_endClause_29 [(qU, .inr (6, [.ref qU_names, .ref qU_signs, .ref qU_numbers, .ref qU_tests, .ref qU_acts, .int (jI (vU_clauses + 1))])), aI kI qU_acts 6 (iU fU_acts vU_clauses act)] rfl ?_
    exact hret 0 0 32 _ () (Nat.le_of_ble_eq_true rfl) (Nat.le_of_ble_eq_true rfl) dX6_endClause_32 (trivial)
set_option maxHeartbeats 4000000 in
set_option maxRecDepth 100000 in
theorem c_X6_isMet (D : va_G) (kI kJ : Nat) (l : Launch) (qU : Nat) (clause : Int) (qfa : Nat) (hs : Int) (qU_names : Nat) (qU_signs : Nat) (qU_numbers : Nat) (qU_tests : Nat) (qU_acts : Nat) (vU_clauses : Int) (fU_names : (Int → Int)) (fU_signs : (Int → Int)) (fU_numbers : (Int → Int)) (fU_tests : (Int → Int)) (ffa : (Int → Int)) (hcl : 0 ≤ clause ∧ clause < 6) (hUt : Rg fU_tests 6 0 3) (hUn : Rg fU_names 18 0 6) (hUs : Rg fU_signs 18 (-2147483648) 2147483647) (hUu : Rg fU_numbers 18 0 999) (hfa : Rg ffa 7 (-10000000) 10000000) (hhs : hs = 0 ∨ hs = 1) : xMi D kI kJ l yX6_isMet wsX6_isMet 2 53 0 0 [.ref qU, .int (jI clause), .ref qfa, .int (jI hs)] [(qU, .inr (6, [.ref qU_names, .ref qU_signs, .ref qU_numbers, .ref qU_tests, .ref qU_acts, .int (jI vU_clauses)])), aI kI qU_names 18 fU_names, aI kI qU_signs 18 fU_signs, aI kI qU_numbers 18 fU_numbers, aI kI qU_tests 6 fU_tests, aI kI qfa 7 ffa] (fun (z : Int) (u : Unit) => xBool z (dG (kN fU_names fU_signs fU_numbers ffa hs clause) 100 (fU_tests clause) < 0)) (fun (u : Unit) => [(qU, .inr (6, [.ref qU_names, .ref qU_signs, .ref qU_numbers, .ref qU_tests, .ref qU_acts, .int (jI vU_clauses)])), aI kI qU_names 18 fU_names, aI kI qU_signs 18 fU_signs, aI kI qU_numbers 18 fU_numbers, aI kI qU_tests 6 fU_tests, aI kI qfa 7 ffa]) := by
  refine xMi_of (cc := cX6_isMet) (maxL := 9) (rt := .boolean) (by decide) rfl (Nat.le_of_ble_eq_true rfl) (fun z u hp => xBool_nar hp) ?_
  intro p e s m args below meth c A Q F hin2 hret
  have hin6 : ∀ w ∈ wsX60, w ∈ wsX6_isMet := by decide +kernel
  have hw0 : Cond.fieldLink RX6 21 (TX6 3).1 (TX6 3).2.1 (TX6 3).2.2.1 ∈ wsX6_isMet := by decide +kernel
  have hw1 : Cond.initialized yX9_at.cls ∈ wsX6_isMet := by decide +kernel
  have hw2 : Cond.static yX9_at ∈ wsX6_isMet := by decide +kernel
  have hw3 : Cond.fieldLink RX6 9 (TX6 0).1 (TX6 0).2.1 (TX6 0).2.2.1 ∈ wsX6_isMet := by decide +kernel
  have hw4 : Cond.fieldLink RX6 15 (TX6 1).1 (TX6 1).2.1 (TX6 1).2.2.1 ∈ wsX6_isMet := by decide +kernel
  have hw5 : Cond.fieldLink RX6 18 (TX6 2).1 (TX6 2).2.1 (TX6 2).2.2.1 ∈ wsX6_isMet := by decide +kernel
  refine x_lveq (lv' := [(0, .ref qU), (1, .int (jI clause)), (2, .ref qfa), (3, .int (jI hs))]) rfl ?_
  have htc := Rg.at hUt clause hcl
  refine x_iconst F dX6_isMet_0 ?_
  refine x_istore (lv' := [(0, .ref qU), (1, .int (jI clause)), (2, .ref qfa), (3, .int (jI hs)), (4, .int (jI 0))]) F dX6_isMet_1 (by decide) [1, 2, 3, 4, 0] rfl ?_
  have lp3 : ∀ (fu : Nat) (t : Int) (ht : 0 ≤ t ∧ t ≤ fU_tests clause) (hd : dG (kN fU_names fU_signs fU_numbers ffa hs clause) 100 t < 0) (hm : 4 - t < (fu : Int)), xG D p l e (xRm 2 53 0 0) s m args below meth c 9 A Q 0 0 [(qU, .inr (6, [.ref qU_names, .ref qU_signs, .ref qU_numbers, .ref qU_tests, .ref qU_acts, .int (jI vU_clauses)])), aI kI qU_names 18 fU_names, aI kI qU_signs 18 fU_signs, aI kI qU_numbers 18 fU_numbers, aI kI qU_tests 6 fU_tests, aI kI qfa 7 ffa] [(0, .ref qU), (1, .int (jI clause)), (2, .ref qfa), (3, .int (jI hs)), (4, .int (jI t))] 3 [] := by
    intro fu
    induction fu with
    | zero =>
      intro t ht hd hm
      exact absurd hm (by omega)
    | succ fu ih3 =>
      intro t ht hd hm
      refine x_iload F dX6_isMet_3 4 rfl ?_
      refine x_iconst F dX6_isMet_5 ?_
      refine x_icmp_ge (tgt := 131) F dX6_isMet_6 (by decide) (by omega) (fun c6 => ?_) (fun c6 => ?_)
      · -- 6 t
        refine x_iconst F dX6_isMet_131 ?_
        exact hret 0 0 132 _ 1 () (Nat.le_of_ble_eq_true rfl) (Nat.le_of_ble_eq_true rfl) dX6_isMet_132 (xBool_t (by rw [show fU_tests clause = t by omega]; exact hd))
      · -- 6 f
        refine x_iload F dX6_isMet_9 4 rfl ?_
        refine x_aload_n F dX6_isMet_11 rfl 0 rfl ?_
        refine x_get (ci := 6) F hin6 0 rfl rfl 3 (by decide) hw0 rfl dX6_isMet_12 ?_
        refine x_iload_n F dX6_isMet_15 rfl 1 rfl ?_
        refine x_callSNi (As := [.ref qU_tests, .int (jI clause)]) (st := [.int (jI t)]) F (c_X9_at D kI kJ l qU_tests clause 6 fU_tests (by omega) (by omega)) ⟨va_cnB 2 F.2.2.2.2.1 gX6_isMet_X9_at_n37 rfl rfl rfl (nM16 F.2.2.2.2.2.2.2) (F.2.2.2.2.1 _ hw1) (by decide +kernel) ⟨Nat.le_of_ble_eq_true rfl, Nat.le_of_ble_eq_true rfl⟩, F.2.2.2.2.1 _ hw2, trivial⟩ [4] [0, 1, 2, 3, 5] [0, 1, 2, 3, 5, 4] rfl rfl (by decide) (by decide) (by decide) (fun _ => rfl) (by decide) rfl (Nat.le_of_ble_eq_true rfl) dX6_isMet_16 ⟨Nat.le_of_ble_eq_true rfl, Nat.le_of_ble_eq_true rfl⟩ (fun z16 u16 h16 => ?_)
        try dsimp only at h16
        refine x_ws [(qU, .inr (6, [.ref qU_names, .ref qU_signs, .ref qU_numbers, .ref qU_tests, .ref qU_acts, .int (jI vU_clauses)])), aI kI qU_names 18 fU_names, aI kI qU_signs 18 fU_signs, aI kI qU_numbers 18 fU_numbers, aI kI qU_tests 6 fU_tests, aI kI qfa 7 ffa] rfl ?_
        have he16 := h16
        have he16 := he16.symm
        subst he16
        refine x_icmp_ge (tgt := 131) F dX6_isMet_19 (by decide) (by omega) (fun c19 => ?_) (fun c19 => ?_)
        · -- 19 t
          refine x_iconst F dX6_isMet_131 ?_
          exact hret 0 0 132 _ 1 () (Nat.le_of_ble_eq_true rfl) (Nat.le_of_ble_eq_true rfl) dX6_isMet_132 (xBool_t (by rw [show fU_tests clause = t by omega]; exact hd))
        · -- 19 f
          have r1 := Rg.at hUn (clause * 3 + t) (by omega)
          have r2 := Rg.at hUs (clause * 3 + t) (by omega)
          have r3 := Rg.at hUu (clause * 3 + t) (by omega)
          have r4 := Rg.at hfa (fU_names (clause * 3 + t)) (by omega)
          have eif : (if fU_signs (clause * 3 + t) = 60 then (1 : Int) else 0) = 1 ↔ fU_signs (clause * 3 + t) = 60 := by split <;> omega
          refine x_iload_n F dX6_isMet_22 rfl 1 rfl ?_
          refine x_iconst F dX6_isMet_23 ?_
          refine x_imul F dX6_isMet_24 ?_
          refine x_iload F dX6_isMet_25 4 rfl ?_
          refine x_iadd F dX6_isMet_27 ?_
          refine x_istore (lv' := [(0, .ref qU), (1, .int (jI clause)), (2, .ref qfa), (3, .int (jI hs)), (4, .int (jI t)), (5, .int (jI ((clause * 3) + t)))]) F dX6_isMet_28 (by decide) [1, 2, 3, 4, 5, 0] rfl ?_
          refine x_aload_n F dX6_isMet_30 rfl 0 rfl ?_
          refine x_get (ci := 6) F hin6 0 rfl rfl 0 (by decide) hw3 rfl dX6_isMet_31 ?_
          refine x_iload F dX6_isMet_34 5 rfl ?_
          refine x_callSNi (As := [.ref qU_names, .int (jI ((clause * 3) + t))]) (st := []) F (c_X9_at D kI kJ l qU_names ((clause * 3) + t) 18 fU_names (by omega) (by omega)) ⟨va_cnB 2 F.2.2.2.2.1 gX6_isMet_X9_at_n37 rfl rfl rfl (nM16 F.2.2.2.2.2.2.2) (F.2.2.2.2.1 _ hw1) (by decide +kernel) ⟨Nat.le_of_ble_eq_true rfl, Nat.le_of_ble_eq_true rfl⟩, F.2.2.2.2.1 _ hw2, trivial⟩ [1] [0, 2, 3, 4, 5] [0, 5, 1, 2, 3, 4] rfl rfl (by decide) (by decide) (by decide) (fun _ => rfl) (by decide) rfl (Nat.le_of_ble_eq_true rfl) dX6_isMet_36 ⟨Nat.le_of_ble_eq_true rfl, Nat.le_of_ble_eq_true rfl⟩ (fun z36 u36 h36 => ?_)
          try dsimp only at h36
          refine x_ws [(qU, .inr (6, [.ref qU_names, .ref qU_signs, .ref qU_numbers, .ref qU_tests, .ref qU_acts, .int (jI vU_clauses)])), aI kI qU_names 18 fU_names, aI kI qU_signs 18 fU_signs, aI kI qU_numbers 18 fU_numbers, aI kI qU_tests 6 fU_tests, aI kI qfa 7 ffa] rfl ?_
          have he36 := h36
          have he36 := he36.symm
          subst he36
          refine x_istore (lv' := [(0, .ref qU), (1, .int (jI clause)), (2, .ref qfa), (3, .int (jI hs)), (4, .int (jI t)), (5, .int (jI ((clause * 3) + t))), (6, .int (jI (fU_names ((clause * 3) + t))))]) F dX6_isMet_39 (by decide) [1, 2, 3, 4, 5, 6, 0] rfl ?_
          refine x_iload F dX6_isMet_41 6 rfl ?_
          refine x_iconst F dX6_isMet_43 ?_
          refine x_icmp_ne (tgt := 53) F dX6_isMet_44 (by decide) (by omega) (fun c44 => ?_) (fun c44 => ?_)
          · -- 44 t
            refine x_aload_n F dX6_isMet_53 rfl 2 rfl ?_
            refine x_iload F dX6_isMet_54 6 rfl ?_
            refine x_callSNi (As := [.ref qfa, .int (jI (fU_names ((clause * 3) + t)))]) (st := []) F (c_X9_at D kI kJ l qfa (fU_names ((clause * 3) + t)) 7 ffa (by omega) (by omega)) ⟨va_cnB 2 F.2.2.2.2.1 gX6_isMet_X9_at_n37 rfl rfl rfl (nM16 F.2.2.2.2.2.2.2) (F.2.2.2.2.1 _ hw1) (by decide +kernel) ⟨Nat.le_of_ble_eq_true rfl, Nat.le_of_ble_eq_true rfl⟩, F.2.2.2.2.1 _ hw2, trivial⟩ [5] [0, 1, 2, 3, 4] [0, 1, 2, 3, 4, 5] rfl rfl (by decide) (by decide) (by decide) (fun _ => rfl) (by decide) rfl (Nat.le_of_ble_eq_true rfl) dX6_isMet_56 ⟨Nat.le_of_ble_eq_true rfl, Nat.le_of_ble_eq_true rfl⟩ (fun z56 u56 h56 => ?_)
            try dsimp only at h56
            refine x_ws [(qU, .inr (6, [.ref qU_names, .ref qU_signs, .ref qU_numbers, .ref qU_tests, .ref qU_acts, .int (jI vU_clauses)])), aI kI qU_names 18 fU_names, aI kI qU_signs 18 fU_signs, aI kI qU_numbers 18 fU_numbers, aI kI qU_tests 6 fU_tests, aI kI qfa 7 ffa] rfl ?_
            have he56 := h56
            have he56 := he56.symm
            subst he56
            refine x_istore (lv' := [(0, .ref qU), (1, .int (jI clause)), (2, .ref qfa), (3, .int (jI hs)), (4, .int (jI t)), (5, .int (jI ((clause * 3) + t))), (6, .int (jI (fU_names ((clause * 3) + t)))), (7, .int (jI (ffa (fU_names ((clause * 3) + t)))))]) F dX6_isMet_59 (by decide) [1, 2, 3, 4, 5, 6, 7, 0] rfl ?_
            have jn116 : ∀ (zm : Int) (hzm : xBool zm ((fU_signs (clause * 3 + t) = 60 ∧ ffa (fU_names (clause * 3 + t)) < fU_numbers (clause * 3 + t)) ∨ (¬ fU_signs (clause * 3 + t) = 60 ∧ fU_numbers (clause * 3 + t) < ffa (fU_names (clause * 3 + t))))), xG D p l e (xRm 2 53 0 0) s m args below meth c 9 A Q 0 0 [(qU, .inr (6, [.ref qU_names, .ref qU_signs, .ref qU_numbers, .ref qU_tests, .ref qU_acts, .int (jI vU_clauses)])), aI kI qU_names 18 fU_names, aI kI qU_signs 18 fU_signs, aI kI qU_numbers 18 fU_numbers, aI kI qU_tests 6 fU_tests, aI kI qfa 7 ffa] [(0, .ref qU), (1, .int (jI clause)), (2, .ref qfa), (3, .int (jI hs)), (4, .int (jI t)), (5, .int (jI ((clause * 3) + t))), (6, .int (jI (fU_names ((clause * 3) + t)))), (7, .int (jI (ffa (fU_names ((clause * 3) + t)))))] 116 [.int (jI zm)] := by
              intro zm hzm
              refine x_istore (lv' := [(0, .ref qU), (1, .int (jI clause)), (2, .ref qfa), (3, .int (jI hs)), (4, .int (jI t)), (5, .int (jI ((clause * 3) + t))), (6, .int (jI (fU_names ((clause * 3) + t)))), (7, .int (jI (ffa (fU_names ((clause * 3) + t))))), (8, .int (jI zm))]) F dX6_isMet_116 (by decide) [1, 2, 3, 4, 5, 6, 7, 8, 0] rfl ?_
              refine x_iload F dX6_isMet_118 8 rfl ?_
              refine x_bne (tgt := 125) F dX6_isMet_120 (by decide) hzm (fun c120 => ?_) (fun c120 => ?_)
              · -- 120 t
                refine x_iinc (lv' := [(0, .ref qU), (1, .int (jI clause)), (2, .ref qfa), (3, .int (jI hs)), (4, .int (jI (t + 1))), (5, .int (jI ((clause * 3) + t))), (6, .int (jI (fU_names ((clause * 3) + t)))), (7, .int (jI (ffa (fU_names ((clause * 3) + t))))), (8, .int (jI zm))]) (k := 4) F dX6_isMet_125 rfl (by decide) [1, 2, 3, 4, 0, 5, 6, 7, 8] rfl ?_
                refine x_goto (tgt := 3) F dX6_isMet_128 (by decide) ?_
                refine x_lv (lv' := [(0, .ref qU), (1, .int (jI clause)), (2, .ref qfa), (3, .int (jI hs)), (4, .int (jI (t + 1)))]) [0, 1, 2, 3, 4] rfl ?_
                exact ih3 (t + 1) (by omega) (by rw [dG_s ht.1, if_neg (by unfold kN tN; rw [if_neg (by omega)]; omega)]; exact hd) (by omega)
              · -- 120 f
                refine x_iconst F dX6_isMet_123 ?_
                exact hret 0 0 124 _ 0 () (Nat.le_of_ble_eq_true rfl) (Nat.le_of_ble_eq_true rfl) dX6_isMet_124 (xBool_f (by have e := dG_first (ls := (kN fU_names fU_signs fU_numbers ffa hs clause)) (thr := 100) (i := t) (n := fU_tests clause) (by omega) hd (by unfold kN tN; rw [if_pos (by omega)]; omega); omega))
            refine x_aload_n F dX6_isMet_61 rfl 0 rfl ?_
            refine x_get (ci := 6) F hin6 0 rfl rfl 1 (by decide) hw4 rfl dX6_isMet_62 ?_
            refine x_iload F dX6_isMet_65 5 rfl ?_
            refine x_callSNi (As := [.ref qU_signs, .int (jI ((clause * 3) + t))]) (st := []) F (c_X9_at D kI kJ l qU_signs ((clause * 3) + t) 18 fU_signs (by omega) (by omega)) ⟨va_cnB 2 F.2.2.2.2.1 gX6_isMet_X9_at_n37 rfl rfl rfl (nM16 F.2.2.2.2.2.2.2) (F.2.2.2.2.1 _ hw1) (by decide +kernel) ⟨Nat.le_of_ble_eq_true rfl, Nat.le_of_ble_eq_true rfl⟩, F.2.2.2.2.1 _ hw2, trivial⟩ [2] [0, 1, 3, 4, 5] [0, 1, 5, 2, 3, 4] rfl rfl (by decide) (by decide) (by decide) (fun _ => rfl) (by decide) rfl (Nat.le_of_ble_eq_true rfl) dX6_isMet_67 ⟨Nat.le_of_ble_eq_true rfl, Nat.le_of_ble_eq_true rfl⟩ (fun z67 u67 h67 => ?_)
            try dsimp only at h67
            refine x_ws [(qU, .inr (6, [.ref qU_names, .ref qU_signs, .ref qU_numbers, .ref qU_tests, .ref qU_acts, .int (jI vU_clauses)])), aI kI qU_names 18 fU_names, aI kI qU_signs 18 fU_signs, aI kI qU_numbers 18 fU_numbers, aI kI qU_tests 6 fU_tests, aI kI qfa 7 ffa] rfl ?_
            have he67 := h67
            have he67 := he67.symm
            subst he67
            refine x_bipush F dX6_isMet_70 (by decide) ?_
            refine x_icmp_ne (tgt := 97) F dX6_isMet_72 (by decide) (by omega) (fun c72 => ?_) (fun c72 => ?_)
            · -- 72 t
              refine x_iload F dX6_isMet_97 7 rfl ?_
              refine x_aload_n F dX6_isMet_99 rfl 0 rfl ?_
              refine x_get (ci := 6) F hin6 0 rfl rfl 2 (by decide) hw5 rfl dX6_isMet_100 ?_
              refine x_iload F dX6_isMet_103 5 rfl ?_
              refine x_callSNi (As := [.ref qU_numbers, .int (jI ((clause * 3) + t))]) (st := [.int (jI (ffa (fU_names ((clause * 3) + t))))]) F (c_X9_at D kI kJ l qU_numbers ((clause * 3) + t) 18 fU_numbers (by omega) (by omega)) ⟨va_cnB 2 F.2.2.2.2.1 gX6_isMet_X9_at_n37 rfl rfl rfl (nM16 F.2.2.2.2.2.2.2) (F.2.2.2.2.1 _ hw1) (by decide +kernel) ⟨Nat.le_of_ble_eq_true rfl, Nat.le_of_ble_eq_true rfl⟩, F.2.2.2.2.1 _ hw2, trivial⟩ [3] [0, 1, 2, 4, 5] [0, 1, 2, 5, 3, 4] rfl rfl (by decide) (by decide) (by decide) (fun _ => rfl) (by decide) rfl (Nat.le_of_ble_eq_true rfl) dX6_isMet_105 ⟨Nat.le_of_ble_eq_true rfl, Nat.le_of_ble_eq_true rfl⟩ (fun z105 u105 h105 => ?_)
              try dsimp only at h105
              refine x_ws [(qU, .inr (6, [.ref qU_names, .ref qU_signs, .ref qU_numbers, .ref qU_tests, .ref qU_acts, .int (jI vU_clauses)])), aI kI qU_names 18 fU_names, aI kI qU_signs 18 fU_signs, aI kI qU_numbers 18 fU_numbers, aI kI qU_tests 6 fU_tests, aI kI qfa 7 ffa] rfl ?_
              have he105 := h105
              have he105 := he105.symm
              subst he105
              refine x_icmp_le (tgt := 115) F dX6_isMet_108 (by decide) (by omega) (fun c108 => ?_) (fun c108 => ?_)
              · -- 108 t
                refine x_iconst F dX6_isMet_115 ?_
                exact jn116 0 (by first | exact xBool_t (by omega) | exact xBool_f (by omega))
              · -- 108 f
                refine x_iconst F dX6_isMet_111 ?_
                refine x_goto (tgt := 116) F dX6_isMet_112 (by decide) ?_
                exact jn116 1 (by first | exact xBool_t (by omega) | exact xBool_f (by omega))
            · -- 72 f
              refine x_iload F dX6_isMet_75 7 rfl ?_
              refine x_aload_n F dX6_isMet_77 rfl 0 rfl ?_
              refine x_get (ci := 6) F hin6 0 rfl rfl 2 (by decide) hw5 rfl dX6_isMet_78 ?_
              refine x_iload F dX6_isMet_81 5 rfl ?_
              refine x_callSNi (As := [.ref qU_numbers, .int (jI ((clause * 3) + t))]) (st := [.int (jI (ffa (fU_names ((clause * 3) + t))))]) F (c_X9_at D kI kJ l qU_numbers ((clause * 3) + t) 18 fU_numbers (by omega) (by omega)) ⟨va_cnB 2 F.2.2.2.2.1 gX6_isMet_X9_at_n37 rfl rfl rfl (nM16 F.2.2.2.2.2.2.2) (F.2.2.2.2.1 _ hw1) (by decide +kernel) ⟨Nat.le_of_ble_eq_true rfl, Nat.le_of_ble_eq_true rfl⟩, F.2.2.2.2.1 _ hw2, trivial⟩ [3] [0, 1, 2, 4, 5] [0, 1, 2, 5, 3, 4] rfl rfl (by decide) (by decide) (by decide) (fun _ => rfl) (by decide) rfl (Nat.le_of_ble_eq_true rfl) dX6_isMet_83 ⟨Nat.le_of_ble_eq_true rfl, Nat.le_of_ble_eq_true rfl⟩ (fun z83 u83 h83 => ?_)
              try dsimp only at h83
              refine x_ws [(qU, .inr (6, [.ref qU_names, .ref qU_signs, .ref qU_numbers, .ref qU_tests, .ref qU_acts, .int (jI vU_clauses)])), aI kI qU_names 18 fU_names, aI kI qU_signs 18 fU_signs, aI kI qU_numbers 18 fU_numbers, aI kI qU_tests 6 fU_tests, aI kI qfa 7 ffa] rfl ?_
              have he83 := h83
              have he83 := he83.symm
              subst he83
              refine x_icmp_ge (tgt := 93) F dX6_isMet_86 (by decide) (by omega) (fun c86 => ?_) (fun c86 => ?_)
              · -- 86 t
                refine x_iconst F dX6_isMet_93 ?_
                refine x_goto (tgt := 116) F dX6_isMet_94 (by decide) ?_
                exact jn116 0 (by first | exact xBool_t (by omega) | exact xBool_f (by omega))
              · -- 86 f
                refine x_iconst F dX6_isMet_89 ?_
                refine x_goto (tgt := 116) F dX6_isMet_90 (by decide) ?_
                exact jn116 1 (by first | exact xBool_t (by omega) | exact xBool_f (by omega))
          · -- 44 f
            refine x_iload_n F dX6_isMet_47 rfl 3 rfl ?_
            refine x_if_ne (tgt := 53) F dX6_isMet_48 (by decide) (by omega) (fun c48 => ?_) (fun c48 => ?_)
            · -- 48 t
              refine x_aload_n F dX6_isMet_53 rfl 2 rfl ?_
              refine x_iload F dX6_isMet_54 6 rfl ?_
              refine x_callSNi (As := [.ref qfa, .int (jI (fU_names ((clause * 3) + t)))]) (st := []) F (c_X9_at D kI kJ l qfa (fU_names ((clause * 3) + t)) 7 ffa (by omega) (by omega)) ⟨va_cnB 2 F.2.2.2.2.1 gX6_isMet_X9_at_n37 rfl rfl rfl (nM16 F.2.2.2.2.2.2.2) (F.2.2.2.2.1 _ hw1) (by decide +kernel) ⟨Nat.le_of_ble_eq_true rfl, Nat.le_of_ble_eq_true rfl⟩, F.2.2.2.2.1 _ hw2, trivial⟩ [5] [0, 1, 2, 3, 4] [0, 1, 2, 3, 4, 5] rfl rfl (by decide) (by decide) (by decide) (fun _ => rfl) (by decide) rfl (Nat.le_of_ble_eq_true rfl) dX6_isMet_56 ⟨Nat.le_of_ble_eq_true rfl, Nat.le_of_ble_eq_true rfl⟩ (fun z56 u56 h56 => ?_)
              try dsimp only at h56
              refine x_ws [(qU, .inr (6, [.ref qU_names, .ref qU_signs, .ref qU_numbers, .ref qU_tests, .ref qU_acts, .int (jI vU_clauses)])), aI kI qU_names 18 fU_names, aI kI qU_signs 18 fU_signs, aI kI qU_numbers 18 fU_numbers, aI kI qU_tests 6 fU_tests, aI kI qfa 7 ffa] rfl ?_
              have he56 := h56
              have he56 := he56.symm
              subst he56
              refine x_istore (lv' := [(0, .ref qU), (1, .int (jI clause)), (2, .ref qfa), (3, .int (jI hs)), (4, .int (jI t)), (5, .int (jI ((clause * 3) + t))), (6, .int (jI (fU_names ((clause * 3) + t)))), (7, .int (jI (ffa (fU_names ((clause * 3) + t)))))]) F dX6_isMet_59 (by decide) [1, 2, 3, 4, 5, 6, 7, 0] rfl ?_
              have jn116 : ∀ (zm : Int) (hzm : xBool zm ((fU_signs (clause * 3 + t) = 60 ∧ ffa (fU_names (clause * 3 + t)) < fU_numbers (clause * 3 + t)) ∨ (¬ fU_signs (clause * 3 + t) = 60 ∧ fU_numbers (clause * 3 + t) < ffa (fU_names (clause * 3 + t))))), xG D p l e (xRm 2 53 0 0) s m args below meth c 9 A Q 0 0 [(qU, .inr (6, [.ref qU_names, .ref qU_signs, .ref qU_numbers, .ref qU_tests, .ref qU_acts, .int (jI vU_clauses)])), aI kI qU_names 18 fU_names, aI kI qU_signs 18 fU_signs, aI kI qU_numbers 18 fU_numbers, aI kI qU_tests 6 fU_tests, aI kI qfa 7 ffa] [(0, .ref qU), (1, .int (jI clause)), (2, .ref qfa), (3, .int (jI hs)), (4, .int (jI t)), (5, .int (jI ((clause * 3) + t))), (6, .int (jI (fU_names ((clause * 3) + t)))), (7, .int (jI (ffa (fU_names ((clause * 3) + t)))))] 116 [.int (jI zm)] := by
                intro zm hzm
                refine x_istore (lv' := [(0, .ref qU), (1, .int (jI clause)), (2, .ref qfa), (3, .int (jI hs)), (4, .int (jI t)), (5, .int (jI ((clause * 3) + t))), (6, .int (jI (fU_names ((clause * 3) + t)))), (7, .int (jI (ffa (fU_names ((clause * 3) + t))))), (8, .int (jI zm))]) F dX6_isMet_116 (by decide) [1, 2, 3, 4, 5, 6, 7, 8, 0] rfl ?_
                refine x_iload F dX6_isMet_118 8 rfl ?_
                refine x_bne (tgt := 125) F dX6_isMet_120 (by decide) hzm (fun c120 => ?_) (fun c120 => ?_)
                · -- 120 t
                  refine x_iinc (lv' := [(0, .ref qU), (1, .int (jI clause)), (2, .ref qfa), (3, .int (jI hs)), (4, .int (jI (t + 1))), (5, .int (jI ((clause * 3) + t))), (6, .int (jI (fU_names ((clause * 3) + t)))), (7, .int (jI (ffa (fU_names ((clause * 3) + t))))), (8, .int (jI zm))]) (k := 4) F dX6_isMet_125 rfl (by decide) [1, 2, 3, 4, 0, 5, 6, 7, 8] rfl ?_
                  refine x_goto (tgt := 3) F dX6_isMet_128 (by decide) ?_
                  refine x_lv (lv' := [(0, .ref qU), (1, .int (jI clause)), (2, .ref qfa), (3, .int (jI hs)), (4, .int (jI (t + 1)))]) [0, 1, 2, 3, 4] rfl ?_
                  exact ih3 (t + 1) (by omega) (by rw [dG_s ht.1, if_neg (by unfold kN tN; rw [if_neg (by omega)]; omega)]; exact hd) (by omega)
                · -- 120 f
                  refine x_iconst F dX6_isMet_123 ?_
                  exact hret 0 0 124 _ 0 () (Nat.le_of_ble_eq_true rfl) (Nat.le_of_ble_eq_true rfl) dX6_isMet_124 (xBool_f (by have e := dG_first (ls := (kN fU_names fU_signs fU_numbers ffa hs clause)) (thr := 100) (i := t) (n := fU_tests clause) (by omega) hd (by unfold kN tN; rw [if_pos (by omega)]; omega); omega))
              refine x_aload_n F dX6_isMet_61 rfl 0 rfl ?_
              refine x_get (ci := 6) F hin6 0 rfl rfl 1 (by decide) hw4 rfl dX6_isMet_62 ?_
              refine x_iload F dX6_isMet_65 5 rfl ?_
              refine x_callSNi (As := [.ref qU_signs, .int (jI ((clause * 3) + t))]) (st := []) F (c_X9_at D kI kJ l qU_signs ((clause * 3) + t) 18 fU_signs (by omega) (by omega)) ⟨va_cnB 2 F.2.2.2.2.1 gX6_isMet_X9_at_n37 rfl rfl rfl (nM16 F.2.2.2.2.2.2.2) (F.2.2.2.2.1 _ hw1) (by decide +kernel) ⟨Nat.le_of_ble_eq_true rfl, Nat.le_of_ble_eq_true rfl⟩, F.2.2.2.2.1 _ hw2, trivial⟩ [2] [0, 1, 3, 4, 5] [0, 1, 5, 2, 3, 4] rfl rfl (by decide) (by decide) (by decide) (fun _ => rfl) (by decide) rfl (Nat.le_of_ble_eq_true rfl) dX6_isMet_67 ⟨Nat.le_of_ble_eq_true rfl, Nat.le_of_ble_eq_true rfl⟩ (fun z67 u67 h67 => ?_)
              try dsimp only at h67
              refine x_ws [(qU, .inr (6, [.ref qU_names, .ref qU_signs, .ref qU_numbers, .ref qU_tests, .ref qU_acts, .int (jI vU_clauses)])), aI kI qU_names 18 fU_names, aI kI qU_signs 18 fU_signs, aI kI qU_numbers 18 fU_numbers, aI kI qU_tests 6 fU_tests, aI kI qfa 7 ffa] rfl ?_
              have he67 := h67
              have he67 := he67.symm
              subst he67
              refine x_bipush F dX6_isMet_70 (by decide) ?_
              refine x_icmp_ne (tgt := 97) F dX6_isMet_72 (by decide) (by omega) (fun c72 => ?_) (fun c72 => ?_)
              · -- 72 t
                refine x_iload F dX6_isMet_97 7 rfl ?_
                refine x_aload_n F dX6_isMet_99 rfl 0 rfl ?_
                refine x_get (ci := 6) F hin6 0 rfl rfl 2 (by decide) hw5 rfl dX6_isMet_100 ?_
                refine x_iload F dX6_isMet_103 5 rfl ?_
                refine x_callSNi (As := [.ref qU_numbers, .int (jI ((clause * 3) + t))]) (st := [.int (jI (ffa (fU_names ((clause * 3) + t))))]) F (c_X9_at D kI kJ l qU_numbers ((clause * 3) + t) 18 fU_numbers (by omega) (by omega)) ⟨va_cnB 2 F.2.2.2.2.1 gX6_isMet_X9_at_n37 rfl rfl rfl (nM16 F.2.2.2.2.2.2.2) (F.2.2.2.2.1 _ hw1) (by decide +kernel) ⟨Nat.le_of_ble_eq_true rfl, Nat.le_of_ble_eq_true rfl⟩, F.2.2.2.2.1 _ hw2, trivial⟩ [3] [0, 1, 2, 4, 5] [0, 1, 2, 5, 3, 4] rfl rfl (by decide) (by decide) (by decide) (fun _ => rfl) (by decide) rfl (Nat.le_of_ble_eq_true rfl) dX6_isMet_105 ⟨Nat.le_of_ble_eq_true rfl, Nat.le_of_ble_eq_true rfl⟩ (fun z105 u105 h105 => ?_)
                try dsimp only at h105
                refine x_ws [(qU, .inr (6, [.ref qU_names, .ref qU_signs, .ref qU_numbers, .ref qU_tests, .ref qU_acts, .int (jI vU_clauses)])), aI kI qU_names 18 fU_names, aI kI qU_signs 18 fU_signs, aI kI qU_numbers 18 fU_numbers, aI kI qU_tests 6 fU_tests, aI kI qfa 7 ffa] rfl ?_
                have he105 := h105
                have he105 := he105.symm
                subst he105
                refine x_icmp_le (tgt := 115) F dX6_isMet_108 (by decide) (by omega) (fun c108 => ?_) (fun c108 => ?_)
                · -- 108 t
                  refine x_iconst F dX6_isMet_115 ?_
                  exact jn116 0 (by first | exact xBool_t (by omega) | exact xBool_f (by omega))
                · -- 108 f
                  refine x_iconst F dX6_isMet_111 ?_
                  refine x_goto (tgt := 116) F dX6_isMet_112 (by decide) ?_
                  exact jn116 1 (by first | exact xBool_t (by omega) | exact xBool_f (by omega))
              · -- 72 f
                refine x_iload F dX6_isMet_75 7 rfl ?_
                refine x_aload_n F dX6_isMet_77 rfl 0 rfl ?_
                refine x_get (ci := 6) F hin6 0 rfl rfl 2 (by decide) hw5 rfl dX6_isMet_78 ?_
                refine x_iload F dX6_isMet_81 5 rfl ?_
                refine x_callSNi (As := [.ref qU_numbers, .int (jI ((clause * 3) + t))]) (st := [.int (jI (ffa (fU_names ((clause * 3) + t))))]) F (c_X9_at D kI kJ l qU_numbers ((clause * 3) + t) 18 fU_numbers (by omega) (by omega)) ⟨va_cnB 2 F.2.2.2.2.1 gX6_isMet_X9_at_n37 rfl rfl rfl (nM16 F.2.2.2.2.2.2.2) (F.2.2.2.2.1 _ hw1) (by decide +kernel) ⟨Nat.le_of_ble_eq_true rfl, Nat.le_of_ble_eq_true rfl⟩, F.2.2.2.2.1 _ hw2, trivial⟩ [3] [0, 1, 2, 4, 5] [0, 1, 2, 5, 3, 4] rfl rfl (by decide) (by decide) (by decide) (fun _ => rfl) (by decide) rfl (Nat.le_of_ble_eq_true rfl) dX6_isMet_83 ⟨Nat.le_of_ble_eq_true rfl, Nat.le_of_ble_eq_true rfl⟩ (fun z83 u83 h83 => ?_)
                try dsimp only at h83
                refine x_ws [(qU, .inr (6, [.ref qU_names, .ref qU_signs, .ref qU_numbers, .ref qU_tests, .ref qU_acts, .int (jI vU_clauses)])), aI kI qU_names 18 fU_names, aI kI qU_signs 18 fU_signs, aI kI qU_numbers 18 fU_numbers, aI kI qU_tests 6 fU_tests, aI kI qfa 7 ffa] rfl ?_
                have he83 := h83
                have he83 := he83.symm
                subst he83
                refine x_icmp_ge (tgt := 93) F dX6_isMet_86 (by decide) (by omega) (fun c86 => ?_) (fun c86 => ?_)
                · -- 86 t
                  refine x_iconst F dX6_isMet_93 ?_
                  refine x_goto (tgt := 116) F dX6_isMet_94 (by decide) ?_
                  exact jn116 0 (by first | exact xBool_t (by omega) | exact xBool_f (by omega))
                · -- 86 f
                  refine x_iconst F dX6_isMet_89 ?_
                  refine x_goto (tgt := 116) F dX6_isMet_90 (by decide) ?_
                  exact jn116 1 (by first | exact xBool_t (by omega) | exact xBool_f (by omega))
            · -- 48 f
              refine x_iconst F dX6_isMet_51 ?_
              exact hret 0 0 52 _ 0 () (Nat.le_of_ble_eq_true rfl) (Nat.le_of_ble_eq_true rfl) dX6_isMet_52 (xBool_f (by have e := dG_first (ls := (kN fU_names fU_signs fU_numbers ffa hs clause)) (thr := 100) (i := t) (n := fU_tests clause) (by omega) hd (by unfold kN tN; rw [if_pos (by omega)]; omega); omega))
  exact lp3 (Int.toNat (4 - 0) + 1) 0 (by omega) (by rw [dG_0]; omega) (by omega)
set_option maxHeartbeats 4000000 in
set_option maxRecDepth 100000 in
theorem c_X6_decide (D : va_G) (kI kJ : Nat) (l : Launch) (qU : Nat) (qfa : Nat) (hs : Int) (qU_names : Nat) (qU_signs : Nat) (qU_numbers : Nat) (qU_tests : Nat) (qU_acts : Nat) (vU_clauses : Int) (fU_names : (Int → Int)) (fU_signs : (Int → Int)) (fU_numbers : (Int → Int)) (fU_tests : (Int → Int)) (fU_acts : (Int → Int)) (ffa : (Int → Int)) (hUc : 0 ≤ vU_clauses ∧ vU_clauses ≤ 6) (hUt : Rg fU_tests 6 0 3) (hUn : Rg fU_names 18 0 6) (hUs : Rg fU_signs 18 (-2147483648) 2147483647) (hUu : Rg fU_numbers 18 0 999) (hUa : Rg fU_acts 6 0 2) (hfa : Rg ffa 7 (-10000000) 10000000) (hhs : hs = 0 ∨ hs = 1) : xMi D kI kJ l yX6_decide wsX6_decide 3 81 0 0 [.ref qU, .ref qfa, .int (jI hs)] [(qU, .inr (6, [.ref qU_names, .ref qU_signs, .ref qU_numbers, .ref qU_tests, .ref qU_acts, .int (jI vU_clauses)])), aI kI qU_names 18 fU_names, aI kI qU_signs 18 fU_signs, aI kI qU_numbers 18 fU_numbers, aI kI qU_tests 6 fU_tests, aI kI qU_acts 6 fU_acts, aI kI qfa 7 ffa] (fun (z : Int) (u : Unit) => z = decd (kC fU_names fU_signs fU_numbers fU_tests ffa hs) fU_acts vU_clauses) (fun (u : Unit) => [(qU, .inr (6, [.ref qU_names, .ref qU_signs, .ref qU_numbers, .ref qU_tests, .ref qU_acts, .int (jI vU_clauses)])), aI kI qU_names 18 fU_names, aI kI qU_signs 18 fU_signs, aI kI qU_numbers 18 fU_numbers, aI kI qU_tests 6 fU_tests, aI kI qU_acts 6 fU_acts, aI kI qfa 7 ffa]) := by
  refine xMi_of (cc := cX6_decide) (maxL := 4) (rt := .int) (by decide) rfl (Nat.le_of_ble_eq_true rfl) (fun _ _ _ => rfl) ?_
  intro p e s m args below meth c A Q F hin2 hret
  have hin6 : ∀ w ∈ wsX60, w ∈ wsX6_decide := by decide +kernel
  have hw0 : Cond.fieldLink RX6 27 (TX6 5).1 (TX6 5).2.1 (TX6 5).2.2.1 ∈ wsX6_decide := by decide +kernel
  have hw1 : Cond.fieldLink RX6 24 (TX6 4).1 (TX6 4).2.1 (TX6 4).2.2.1 ∈ wsX6_decide := by decide +kernel
  refine x_lveq (lv' := [(0, .ref qU), (1, .ref qfa), (2, .int (jI hs))]) rfl ?_
  refine x_iconst F dX6_decide_0 ?_
  refine x_istore_n (lv' := [(0, .ref qU), (1, .ref qfa), (2, .int (jI hs)), (3, .int (jI 0))]) F dX6_decide_1 rfl (by decide) [1, 2, 3, 0] rfl ?_
  have lp2 : ∀ (fu : Nat) (ci : Int) (hc : 0 ≤ ci ∧ ci ≤ vU_clauses) (hd : dG (kC fU_names fU_signs fU_numbers fU_tests ffa hs) 100 ci < 0) (hm : 7 - ci < (fu : Int)), xG D p l e (xRm 3 81 0 0) s m args below meth c 4 A Q 0 0 [(qU, .inr (6, [.ref qU_names, .ref qU_signs, .ref qU_numbers, .ref qU_tests, .ref qU_acts, .int (jI vU_clauses)])), aI kI qU_names 18 fU_names, aI kI qU_signs 18 fU_signs, aI kI qU_numbers 18 fU_numbers, aI kI qU_tests 6 fU_tests, aI kI qU_acts 6 fU_acts, aI kI qfa 7 ffa] [(0, .ref qU), (1, .ref qfa), (2, .int (jI hs)), (3, .int (jI ci))] 2 [] := by
    intro fu
    induction fu with
    | zero =>
      intro ci hc hd hm
      exact absurd hm (by omega)
    | succ fu ih2 =>
      intro ci hc hd hm
      refine x_iload_n F dX6_decide_2 rfl 3 rfl ?_
      refine x_aload_n F dX6_decide_3 rfl 0 rfl ?_
      refine x_get (ci := 6) F hin6 0 rfl rfl 5 (by decide) hw0 rfl dX6_decide_4 ?_
      refine x_icmp_ge (tgt := 39) F dX6_decide_7 (by decide) (by omega) (fun c7 => ?_) (fun c7 => ?_)
      · -- 7 t
        refine x_iconst F dX6_decide_39 ?_
        exact hret 0 0 40 _ 0 () (Nat.le_of_ble_eq_true rfl) (Nat.le_of_ble_eq_true rfl) dX6_decide_40 (by unfold decd; rw [show vU_clauses = ci by omega, if_pos hd])
      · -- 7 f
        refine x_iload_n F dX6_decide_10 rfl 3 rfl ?_
        refine x_bipush F dX6_decide_11 (by decide) ?_
        refine x_icmp_ge (tgt := 39) F dX6_decide_13 (by decide) (by omega) (fun c13 => ?_) (fun c13 => ?_)
        · exact absurd c13 (by omega)
        · -- 13 f
          refine x_aload_n F dX6_decide_16 rfl 0 rfl ?_
          refine x_iload_n F dX6_decide_17 rfl 3 rfl ?_
          refine x_aload_n F dX6_decide_18 rfl 1 rfl ?_
          refine x_iload_n F dX6_decide_19 rfl 2 rfl ?_
          refine x_callVi (ci := 6) (q0 := 0) (As := [.int (jI ci), .ref qfa, .int (jI hs)]) (st := []) F (c_X6_isMet D kI kJ l qU ci qfa hs qU_names qU_signs qU_numbers qU_tests qU_acts vU_clauses fU_names fU_signs fU_numbers fU_tests ffa (by omega) hUt hUn hUs hUu hfa hhs) (cwV 3 F.2.2.2.2.1 gX6_decide_X6_isMet rfl rfl rfl (by decide +kernel) ⟨Nat.le_of_ble_eq_true rfl, Nat.le_of_ble_eq_true rfl⟩) rfl rfl [0, 1, 2, 3, 4, 6] [5] [1, 2, 3, 4, 5, 0, 6] rfl rfl (by decide) (by decide) (by decide) (fun _ => rfl) (by decide) rfl (Nat.le_of_ble_eq_true rfl) dX6_decide_20 ⟨Nat.le_of_ble_eq_true rfl, Nat.le_of_ble_eq_true rfl⟩ (fun z20 u20 h20 => ?_)
          try dsimp only at h20
          refine x_ws [(qU, .inr (6, [.ref qU_names, .ref qU_signs, .ref qU_numbers, .ref qU_tests, .ref qU_acts, .int (jI vU_clauses)])), aI kI qU_names 18 fU_names, aI kI qU_signs 18 fU_signs, aI kI qU_numbers 18 fU_numbers, aI kI qU_tests 6 fU_tests, aI kI qU_acts 6 fU_acts, aI kI qfa 7 ffa] rfl ?_
          have hb20 := h20
          refine x_beq (tgt := 33) F dX6_decide_23 (by decide) hb20 (fun c23 => ?_) (fun c23 => ?_)
          · -- 23 t
            refine x_iinc (lv' := [(0, .ref qU), (1, .ref qfa), (2, .int (jI hs)), (3, .int (jI (ci + 1)))]) (k := 3) F dX6_decide_33 rfl (by decide) [1, 2, 3, 0] rfl ?_
            refine x_goto (tgt := 2) F dX6_decide_36 (by decide) ?_
            exact ih2 (ci + 1) (by omega) (by rw [dG_s hc.1, if_neg (by unfold kC; rw [if_neg c23]; omega)]; exact hd) (by omega)
          · -- 23 f
            refine x_aload_n F dX6_decide_26 rfl 0 rfl ?_
            refine x_get (ci := 6) F hin6 0 rfl rfl 4 (by decide) hw1 rfl dX6_decide_27 ?_
            refine x_iload_n F dX6_decide_30 rfl 3 rfl ?_
            refine x_iald F 5 rfl (by decide) (by omega) dX6_decide_31 ?_
            have hr31 := Rg.at hUa ci (by omega)
            exact hret 0 0 32 _ (fU_acts ci) () (Nat.le_of_ble_eq_true rfl) (Nat.le_of_ble_eq_true rfl) dX6_decide_32 (by have e := dG_first (ls := (kC fU_names fU_signs fU_numbers fU_tests ffa hs)) (thr := 100) (i := ci) (n := vU_clauses) (by omega) hd (by unfold kC; rw [if_pos c23]; omega); unfold decd; rw [e, if_neg (by omega)])
  exact lp2 (Int.toNat (7 - 0) + 1) 0 (by omega) (by rw [dG_0]; omega) (by omega)
