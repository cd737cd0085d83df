set_option maxHeartbeats 4000000 in
set_option maxRecDepth 100000 in
theorem c_X6_clear (D : va_G) (kI kJ : Nat) (l : Launch) (qU : Nat) (qU_names : Nat) (qU_signs : Nat) (qU_numbers : Nat) (qU_tests : Nat) (qU_acts : Nat) (vU_clauses : Int) (fU_tests : (Int → Int))  : xMv D kI kJ l yX6_clear wsX6_clear 2 55 0 0 [.ref qU] [(qU, .inr (6, [.ref qU_names, .ref qU_signs, .ref qU_numbers, .ref qU_tests, .ref qU_acts, .int (jI vU_clauses)])), aI kI qU_tests 6 fU_tests] (fun (u : (Int → Int)) => (∀ k : Int, 0 ≤ k → k < 6 → u k = 0)) (fun (u : (Int → Int)) => [(qU, .inr (6, [.ref qU_names, .ref qU_signs, .ref qU_numbers, .ref qU_tests, .ref qU_acts, .int (jI 0)])), aI kI qU_tests 6 u]) := by
  refine xMv_of (cc := cX6_clear) (maxL := 1) (by decide) rfl (Nat.le_of_ble_eq_true rfl) ?_
  intro p e s m args below meth c A Q F hin2 hret
  have hin6 : ∀ w ∈ wsX60, w ∈ wsX6_clear := by decide +kernel
  have hw0 : Cond.fieldLink RX6 27 (TX6 5).1 (TX6 5).2.1 (TX6 5).2.2.1 ∈ wsX6_clear := by decide +kernel
  have hw1 : Cond.fieldLink RX6 21 (TX6 3).1 (TX6 3).2.1 (TX6 3).2.2.1 ∈ wsX6_clear := by decide +kernel
  refine x_lveq (lv' := [(0, .ref qU)]) rfl ?_
  refine x_aload_n F dX6_clear_0 rfl 0 rfl ?_
  refine x_iconst F dX6_clear_1 ?_
  refine x_put (ci := 6) F hin6 tyX6_ok nmX6 0 rfl rfl 5 (by decide) hw0 rfl rfl rfl (show 5 + 1 ≤ _ from Nat.le_of_ble_eq_true rfl) dX6_clear_2 [(qU, .inr (6, [.ref qU_names, .ref qU_signs, .ref qU_numbers, .ref qU_tests, .ref qU_acts, .int (jI 0)])), aI kI qU_tests 6 fU_tests] rfl ?_
  refine x_aload_n F dX6_clear_5 rfl 0 rfl ?_
  refine x_get (ci := 6) F hin6 0 rfl rfl 3 (by decide) hw1 rfl dX6_clear_6 ?_
  refine x_iconst F dX6_clear_9 ?_
  refine x_callSv (As := [.ref qU_tests, .int (jI 0)]) (st := []) F (c_J7_fill_53178 D kI kJ l qU_tests 0 6 fU_tests (by omega)) (va_cwS 2 F.2.2.2.2.1 gX6_clear_J7_fill_53178 rfl rfl rfl (by decide +kernel) ⟨Nat.le_of_ble_eq_true rfl, Nat.le_of_ble_eq_true rfl⟩) [1] [0] [0, 1] rfl rfl (by decide) (by decide) (by decide) (fun _ => rfl) (by decide) rfl (Nat.le_of_ble_eq_true rfl) dX6_clear_10 ⟨Nat.le_of_ble_eq_true rfl, Nat.le_of_ble_eq_true rfl⟩ (fun u10 h10 => ?_)
  obtain ⟨f2_10, rfl⟩ : ∃ z, z = u10 := ⟨_, rfl⟩
  try dsimp only at h10
  refine x_ws [(qU, .inr (6, [.ref qU_names, .ref qU_signs, .ref qU_numbers, .ref qU_tests, .ref qU_acts, .int (jI 0)])), aI kI qU_tests 6 f2_10] rfl ?_
  have hf_10 := h10
  exact hret 0 0 13 _ f2_10 (Nat.le_of_ble_eq_true rfl) (Nat.le_of_ble_eq_true rfl) dX6_clear_13 (hf_10)
set_option maxHeartbeats 4000000 in
set_option maxRecDepth 100000 in
theorem c_X6_addTest (D : va_G) (kI kJ : Nat) (l : Launch) (qU : Nat) (name : Int) (sign : Int) (number : Int) (qU_names : Nat) (qU_signs : Nat) (qU_numbers : Nat) (qU_tests : Nat) (qU_acts : Nat) (vU_clauses : Int) (fU_names : (Int → Int)) (fU_signs : (Int → Int)) (fU_numbers : (Int → Int)) (fU_tests : (Int → Int)) (hc : 0 ≤ vU_clauses ∧ vU_clauses < 6) (ht : 0 ≤ fU_tests vU_clauses ∧ fU_tests vU_clauses < 3) : xMv D kI kJ l yX6_addTest wsX6_addTest 1 32 0 0 [.ref qU, .int (jI name), .int (jI sign), .int (jI number)] [(qU, .inr (6, [.ref qU_names, .ref qU_signs, .ref qU_numbers, .ref qU_tests, .ref qU_acts, .int (jI vU_clauses)])), aI kI qU_names 18 fU_names, aI kI qU_signs 18 fU_signs, aI kI qU_numbers 18 fU_numbers, aI kI qU_tests 6 fU_tests] (fun (u : Unit) => True) (fun (u : Unit) => [(qU, .inr (6, [.ref qU_names, .ref qU_signs, .ref qU_numbers, .ref qU_tests, .ref qU_acts, .int (jI vU_clauses)])), aI kI qU_names 18 (iU fU_names (vU_clauses * 3 + fU_tests vU_clauses) name), aI kI qU_signs 18 (iU fU_signs (vU_clauses * 3 + fU_tests vU_clauses) sign), aI kI qU_numbers 18 (iU fU_numbers (vU_clauses * 3 + fU_tests vU_clauses) number), aI kI qU_tests 6 (iU fU_tests vU_clauses (fU_tests vU_clauses + 1))]) := by
  refine xMv_of (cc := cX6_addTest) (maxL := 5) (by decide) rfl (Nat.le_of_ble_eq_true rfl) ?_
  intro p e s m args below meth c A Q F hin2 hret
  have hin6 : ∀ w ∈ wsX60, w ∈ wsX6_addTest := by decide +kernel
  have hw0 : Cond.fieldLink RX6 27 (TX6 5).1 (TX6 5).2.1 (TX6 5).2.2.1 ∈ wsX6_addTest := by decide +kernel
  have hw1 : Cond.fieldLink RX6 21 (TX6 3).1 (TX6 3).2.1 (TX6 3).2.2.1 ∈ wsX6_addTest := by decide +kernel
  have hw2 : Cond.fieldLink RX6 9 (TX6 0).1 (TX6 0).2.1 (TX6 0).2.2.1 ∈ wsX6_addTest := by decide +kernel
  have hw3 : Cond.fieldLink RX6 15 (TX6 1).1 (TX6 1).2.1 (TX6 1).2.2.1 ∈ wsX6_addTest := by decide +kernel
  have hw4 : Cond.fieldLink RX6 18 (TX6 2).1 (TX6 2).2.1 (TX6 2).2.2.1 ∈ wsX6_addTest := by decide +kernel
  refine x_lveq (lv' := [(0, .ref qU), (1, .int (jI name)), (2, .int (jI sign)), (3, .int (jI number))]) rfl ?_
  refine x_aload_n F dX6_addTest_0 rfl 0 rfl ?_
  refine x_get (ci := 6) F hin6 0 rfl rfl 5 (by decide) hw0 rfl dX6_addTest_1 ?_
  refine x_bipush F dX6_addTest_4 (by decide) ?_
  refine x_icmp_ge (tgt := 77) F dX6_addTest_6 (by decide) (by omega) (fun c6 => ?_) (fun c6 => ?_)
  · exact absurd c6 (by omega)
  · -- 6 f
    refine x_aload_n F dX6_addTest_9 rfl 0 rfl ?_
    refine x_get (ci := 6) F hin6 0 rfl rfl 3 (by decide) hw1 rfl dX6_addTest_10 ?_
    refine x_aload_n F dX6_addTest_13 rfl 0 rfl ?_
    refine x_get (ci := 6) F hin6 0 rfl rfl 5 (by decide) hw0 rfl dX6_addTest_14 ?_
    refine x_iald F 4 rfl (by decide) (by omega) dX6_addTest_17 ?_
    refine x_iconst F dX6_addTest_18 ?_
    refine x_icmp_ge (tgt := 77) F dX6_addTest_19 (by decide) (by omega) (fun c19 => ?_) (fun c19 => ?_)
    · exact absurd c19 (by omega)
    · -- 19 f
      refine x_aload_n F dX6_addTest_22 rfl 0 rfl ?_
      refine x_get (ci := 6) F hin6 0 rfl rfl 5 (by decide) hw0 rfl dX6_addTest_23 ?_
      refine x_iconst F dX6_addTest_26 ?_
      refine x_imul F dX6_addTest_27 ?_
      refine x_aload_n F dX6_addTest_28 rfl 0 rfl ?_
      refine x_get (ci := 6) F hin6 0 rfl rfl 3 (by decide) hw1 rfl dX6_addTest_29 ?_
      refine x_aload_n F dX6_addTest_32 rfl 0 rfl ?_
      refine x_get (ci := 6) F hin6 0 rfl rfl 5 (by decide) hw0 rfl dX6_addTest_33 ?_
      refine x_iald F 4 rfl (by decide) (by omega) dX6_addTest_36 ?_
      refine x_iadd F dX6_addTest_37 ?_
      refine x_istore (lv' := [(0, .ref qU), (1, .int (jI name)), (2, .int (jI sign)), (3, .int (jI number)), (4, .int (jI ((vU_clauses * 3) + (fU_tests vU_clauses))))]) F dX6_addTest_38 (by decide) [1, 2, 3, 4, 0] rfl ?_
      refine x_aload_n F dX6_addTest_40 rfl 0 rfl ?_
      refine x_get (ci := 6) F hin6 0 rfl rfl 0 (by decide) hw2 rfl dX6_addTest_41 ?_
      refine x_iload F dX6_addTest_44 4 rfl ?_
      refine x_iload_n F dX6_addTest_46 rfl 1 rfl ?_
      refine x_iast F 1 rfl (by decide) (by omega) dX6_addTest_47 [(qU, .inr (6, [.ref qU_names, .ref qU_signs, .ref qU_numbers, .ref qU_tests, .ref qU_acts, .int (jI vU_clauses)])), aI kI qU_names 18 (iU fU_names ((vU_clauses * 3) + (fU_tests vU_clauses)) name), aI kI qU_signs 18 fU_signs, aI kI qU_numbers 18 fU_numbers, aI kI qU_tests 6 fU_tests] rfl ?_
      refine x_aload_n F dX6_addTest_48 rfl 0 rfl ?_
      refine x_get (ci := 6) F hin6 0 rfl rfl 1 (by decide) hw3 rfl dX6_addTest_49 ?_
      refine x_iload F dX6_addTest_52 4 rfl ?_
      refine x_iload_n F dX6_addTest_54 rfl 2 rfl ?_
      refine x_iast F 2 rfl (by decide) (by omega) dX6_addTest_55 [(qU, .inr (6, [.ref qU_names, .ref qU_signs, .ref qU_numbers, .ref qU_tests, .ref qU_acts, .int (jI vU_clauses)])), aI kI qU_names 18 (iU fU_names ((vU_clauses * 3) + (fU_tests vU_clauses)) name), aI kI qU_signs 18 (iU fU_signs ((vU_clauses * 3) + (fU_tests vU_clauses)) sign), aI kI qU_numbers 18 fU_numbers, aI kI qU_tests 6 fU_tests] rfl ?_
      refine x_aload_n F dX6_addTest_56 rfl 0 rfl ?_
      refine x_get (ci := 6) F hin6 0 rfl rfl 2 (by decide) hw4 rfl dX6_addTest_57 ?_
      refine x_iload F dX6_addTest_60 4 rfl ?_
      refine x_iload_n F dX6_addTest_62 rfl 3 rfl ?_
      refine x_iast F 3 rfl (by decide) (by omega) dX6_addTest_63 [(qU, .inr (6, [.ref qU_names, .ref qU_signs, .ref qU_numbers, .ref qU_tests, .ref qU_acts, .int (jI vU_clauses)])), aI kI qU_names 18 (iU fU_names ((vU_clauses * 3) + (fU_tests vU_clauses)) name), aI kI qU_signs 18 (iU fU_signs ((vU_clauses * 3) + (fU_tests vU_clauses)) sign), aI kI qU_numbers 18 (iU fU_numbers ((vU_clauses * 3) + (fU_tests vU_clauses)) number), aI kI qU_tests 6 fU_tests] rfl ?_
      refine x_aload_n F dX6_addTest_64 rfl 0 rfl ?_
      refine x_get (ci := 6) F hin6 0 rfl rfl 3 (by decide) hw1 rfl dX6_addTest_65 ?_
      refine x_aload_n F dX6_addTest_68 rfl 0 rfl ?_
      refine x_get (ci := 6) F hin6 0 rfl rfl 5 (by decide) hw0 rfl dX6_addTest_69 ?_
      refine x_dup2 F dX6_addTest_72 rfl rfl ?_
      refine x_iald F 4 rfl (by decide) (by omega) dX6_addTest_73 ?_
      refine x_iconst F dX6_addTest_74 ?_
      refine x_iadd F dX6_addTest_75 ?_
      refine x_iast F 4 rfl (by decide) (by omega) dX6_addTest_76 [(qU, .inr (6, [.ref qU_names, .ref qU_signs, .ref qU_numbers, .ref qU_tests, .ref qU_acts, .int (jI vU_clauses)])), aI kI qU_names 18 (iU fU_names ((vU_clauses * 3) + (fU_tests vU_clauses)) name), aI kI qU_signs 18 (iU fU_signs ((vU_clauses * 3) + (fU_tests vU_clauses)) sign), aI kI qU_numbers 18 (iU fU_numbers ((vU_clauses * 3) + (fU_tests vU_clauses)) number), aI kI qU_tests 6 (iU fU_tests vU_clauses ((fU_tests vU_clauses) + 1))] rfl ?_
      exact hret 0 0 77 _ () (Nat.le_of_ble_eq_true rfl) (Nat.le_of_ble_eq_true rfl) dX6_addTest_77 (trivial)
set_option maxHeartbeats 4000000 in
set_option maxRecDepth 100000 in
theorem c_X6_endClause (D : va_G) (kI kJ : Nat) (l : Launch) (qU : Nat) (act : Int) (qU_names : Nat) (qU_signs : Nat) (qU_numbers : Nat) (qU_tests : Nat) (qU_acts : Nat) (vU_clauses : Int) (fU_acts : (Int → Int)) (hc : 0 ≤ vU_clauses ∧ vU_clauses < 6) : xMv D kI kJ l yX6_endClause wsX6_endClause 1 32 0 0 [.ref qU, .int (jI act)] [(qU, .inr (6, [.ref qU_names, .ref qU_signs, .ref qU_numbers, .ref qU_tests, .ref qU_acts, .int (jI vU_clauses)])), aI kI qU_acts 6 fU_acts] (fun (u : Unit) => True) (fun (u : Unit) => [(qU, .inr (6, [.ref qU_names, .ref qU_signs, .ref qU_numbers, .ref qU_tests, .ref qU_acts, .int (jI (vU_clauses + 1))])), aI kI qU_acts 6 (iU fU_acts vU_clauses act)]) := by
  refine xMv_of (cc := cX6_endClause) (maxL := 2) (by decide) rfl (Nat.le_of_ble_eq_true rfl) ?_
  intro p e s m args below meth c A Q F hin2 hret
  have hin6 : ∀ w ∈ wsX60, w ∈ wsX6_endClause := by decide +kernel
  have hw0 : Cond.fieldLink RX6 27 (TX6 5).1 (TX6 5).2.1 (TX6 5).2.2.1 ∈ wsX6_endClause := by decide +kernel
  have hw1 : Cond.fieldLink RX6 24 (TX6 4).1 (TX6 4).2.1 (TX6 4).2.2.1 ∈ wsX6_endClause := by decide +kernel
  refine x_lveq (lv' := [(0, .ref qU), (1, .int (jI act))]) rfl ?_
  refine x_aload_n F dX6_endClause_0 rfl 0 rfl ?_
  refine x_get (ci := 6) F hin6 0 rfl rfl 5 (by decide) hw0 rfl dX6_endClause_1 ?_
  refine x_bipush F dX6_endClause_4 (by decide) ?_
  refine x_icmp_ge (tgt := 29) F dX6_endClause_6 (by decide) (by omega) (fun c6 => ?_) (fun c6 => ?_)
  · exact absurd c6 (by omega)
  · -- 6 f
    refine x_aload_n F dX6_endClause_9 rfl 0 rfl ?_
    refine x_get (ci := 6) F hin6 0 rfl rfl 4 (by decide) hw1 rfl dX6_endClause_10 ?_
    refine x_aload_n F dX6_endClause_13 rfl 0 rfl ?_
    refine x_get (ci := 6) F hin6 0 rfl rfl 5 (by decide) hw0 rfl dX6_endClause_14 ?_
    refine x_iload_n F dX6_endClause_17 rfl 1 rfl ?_
    refine x_iast F 1 rfl (by decide) (by omega) dX6_endClause_18 [(qU, .inr (6, [.ref qU_names, .ref qU_signs, .ref qU_numbers, .ref qU_tests, .ref qU_acts, .int (jI vU_clauses)])), aI kI qU_acts 6 (iU fU_acts vU_clauses act)] rfl ?_
    refine x_aload_n F dX6_endClause_19 rfl 0 rfl ?_
    refine x_dup F dX6_endClause_20 rfl ?_
    refine x_get (ci := 6) F hin6 0 rfl rfl 5 (by decide) hw0 rfl dX6_endClause_21 ?_
    refine x_iconst F dX6_endClause_24 ?_
    refine x_iadd F dX6_endClause_25 ?_
    refine x_put (ci := 6) F hin6 tyX6_ok nmX6 0 rfl rfl 5 (by decide) hw0 rfl rfl rfl (show 5 + 1 ≤ _ from Nat.le_of_ble_eq_true rfl) dX6_endClause_26 [(qU, .inr (6, [.ref qU_names, .ref qU_signs, .ref qU_numbers, .ref qU_tests, .ref qU_acts, .int (jI (vU_clauses + 1))])), aI kI qU_acts 6 (iU fU_acts vU_clauses act)] rfl ?_
    exact hret 0 0 29 _ () (Nat.le_of_ble_eq_true rfl) (Nat.le_of_ble_eq_true rfl) dX6_endClause_29 (trivial)
set_option maxHeartbeats 4000000 in
set_option maxRecDepth 100000 in
theorem c_X6_isMet (D : va_G) (kI kJ : Nat) (l : Launch) (qU : Nat) (clause : Int) (qfa : Nat) (hs : Int) (qU_names : Nat) (qU_signs : Nat) (qU_numbers : Nat) (qU_tests : Nat) (qU_acts : Nat) (vU_clauses : Int) (fU_names : (Int → Int)) (fU_signs : (Int → Int)) (fU_numbers : (Int → Int)) (fU_tests : (Int → Int)) (ffa : (Int → Int)) (hcl : 0 ≤ clause ∧ clause < 6) (hUt : Rg fU_tests 6 0 3) (hUn : Rg fU_names 18 0 6) (hUs : Rg fU_signs 18 (-2147483648) 2147483647) (hUu : Rg fU_numbers 18 0 999) (hfa : Rg ffa 7 (-10000000) 10000000) (hhs : hs = 0 ∨ hs = 1) : xMi D kI kJ l yX6_isMet wsX6_isMet 2 53 0 0 [.ref qU, .int (jI clause), .ref qfa, .int (jI hs)] [(qU, .inr (6, [.ref qU_names, .ref qU_signs, .ref qU_numbers, .ref qU_tests, .ref qU_acts, .int (jI vU_clauses)])), aI kI qU_names 18 fU_names, aI kI qU_signs 18 fU_signs, aI kI qU_numbers 18 fU_numbers, aI kI qU_tests 6 fU_tests, aI kI qfa 7 ffa] (fun (z : Int) (u : Unit) => xBool z (dG (kN fU_names fU_signs fU_numbers ffa hs clause) 100 (fU_tests clause) < 0)) (fun (u : Unit) => [(qU, .inr (6, [.ref qU_names, .ref qU_signs, .ref qU_numbers, .ref qU_tests, .ref qU_acts, .int (jI vU_clauses)])), aI kI qU_names 18 fU_names, aI kI qU_signs 18 fU_signs, aI kI qU_numbers 18 fU_numbers, aI kI qU_tests 6 fU_tests, aI kI qfa 7 ffa]) := by
  refine xMi_of (cc := cX6_isMet) (maxL := 9) (rt := .boolean) (by decide) rfl (Nat.le_of_ble_eq_true rfl) (fun z u hp => xBool_nar hp) ?_
  intro p e s m args below meth c A Q F hin2 hret
  have hin6 : ∀ w ∈ wsX60, w ∈ wsX6_isMet := by decide +kernel
  have hw0 : Cond.fieldLink RX6 21 (TX6 3).1 (TX6 3).2.1 (TX6 3).2.2.1 ∈ wsX6_isMet := by decide +kernel
  have hw1 : Cond.initialized yX9_at.cls ∈ wsX6_isMet := by decide +kernel
  have hw2 : Cond.static yX9_at ∈ wsX6_isMet := by decide +kernel
  have hw3 : Cond.fieldLink RX6 9 (TX6 0).1 (TX6 0).2.1 (TX6 0).2.2.1 ∈ wsX6_isMet := by decide +kernel
  have hw4 : Cond.fieldLink RX6 15 (TX6 1).1 (TX6 1).2.1 (TX6 1).2.2.1 ∈ wsX6_isMet := by decide +kernel
  have hw5 : Cond.fieldLink RX6 18 (TX6 2).1 (TX6 2).2.1 (TX6 2).2.2.1 ∈ wsX6_isMet := by decide +kernel
  refine x_lveq (lv' := [(0, .ref qU), (1, .int (jI clause)), (2, .ref qfa), (3, .int (jI hs))]) rfl ?_
  have htc := Rg.at hUt clause hcl
  refine x_iconst F dX6_isMet_0 ?_
  refine x_istore (lv' := [(0, .ref qU), (1, .int (jI clause)), (2, .ref qfa), (3, .int (jI hs)), (4, .int (jI 0))]) F dX6_isMet_1 (by decide) [1, 2, 3, 4, 0] rfl ?_
  have lp3 : ∀ (fu : Nat) (t : Int) (ht : 0 ≤ t ∧ t ≤ fU_tests clause) (hd : dG (kN fU_names fU_signs fU_numbers ffa hs clause) 100 t < 0) (hm : 4 - t < (fu : Int)), xG D p l e (xRm 2 53 0 0) s m args below meth c 9 A Q 0 0 [(qU, .inr (6, [.ref qU_names, .ref qU_signs, .ref qU_numbers, .ref qU_tests, .ref qU_acts, .int (jI vU_clauses)])), aI kI qU_names 18 fU_names, aI kI qU_signs 18 fU_signs, aI kI qU_numbers 18 fU_numbers, aI kI qU_tests 6 fU_tests, aI kI qfa 7 ffa] [(0, .ref qU), (1, .int (jI clause)), (2, .ref qfa), (3, .int (jI hs)), (4, .int (jI t))] 3 [] := by
    intro fu
    induction fu with
    | zero =>
      intro t ht hd hm
      exact absurd hm (by omega)
    | succ fu ih3 =>
      intro t ht hd hm
      refine x_iload F dX6_isMet_3 4 rfl ?_
      refine x_aload_n F dX6_isMet_5 rfl 0 rfl ?_
      refine x_get (ci := 6) F hin6 0 rfl rfl 3 (by decide) hw0 rfl dX6_isMet_6 ?_
      refine x_iload_n F dX6_isMet_9 rfl 1 rfl ?_
      refine x_callSNi (As := [.ref qU_tests, .int (jI clause)]) (st := [.int (jI t)]) F (c_X9_at D kI kJ l qU_tests clause 6 fU_tests (by omega) (by omega)) ⟨va_cnB 2 F.2.2.2.2.1 gX6_isMet_X9_at_n41 rfl rfl rfl (nM15 F.2.2.2.2.2.2.2) (F.2.2.2.2.1 _ hw1) (by decide +kernel) ⟨Nat.le_of_ble_eq_true rfl, Nat.le_of_ble_eq_true rfl⟩, F.2.2.2.2.1 _ hw2, trivial⟩ [4] [0, 1, 2, 3, 5] [0, 1, 2, 3, 5, 4] rfl rfl (by decide) (by decide) (by decide) (fun _ => rfl) (by decide) rfl (Nat.le_of_ble_eq_true rfl) dX6_isMet_10 ⟨Nat.le_of_ble_eq_true rfl, Nat.le_of_ble_eq_true rfl⟩ (fun z10 u10 h10 => ?_)
      try dsimp only at h10
      refine x_ws [(qU, .inr (6, [.ref qU_names, .ref qU_signs, .ref qU_numbers, .ref qU_tests, .ref qU_acts, .int (jI vU_clauses)])), aI kI qU_names 18 fU_names, aI kI qU_signs 18 fU_signs, aI kI qU_numbers 18 fU_numbers, aI kI qU_tests 6 fU_tests, aI kI qfa 7 ffa] rfl ?_
      have he10 := h10
      have he10 := he10.symm
      subst he10
      refine x_icmp_ge (tgt := 125) F dX6_isMet_13 (by decide) (by omega) (fun c13 => ?_) (fun c13 => ?_)
      · -- 13 t
        refine x_iconst F dX6_isMet_125 ?_
        exact hret 0 0 126 _ 1 () (Nat.le_of_ble_eq_true rfl) (Nat.le_of_ble_eq_true rfl) dX6_isMet_126 (xBool_t (by rw [show fU_tests clause = t by omega]; exact hd))
      · -- 13 f
        have r1 := Rg.at hUn (clause * 3 + t) (by omega)
        have r2 := Rg.at hUs (clause * 3 + t) (by omega)
        have r3 := Rg.at hUu (clause * 3 + t) (by omega)
        have r4 := Rg.at hfa (fU_names (clause * 3 + t)) (by omega)
        have eif : (if fU_signs (clause * 3 + t) = 60 then (1 : Int) else 0) = 1 ↔ fU_signs (clause * 3 + t) = 60 := by split <;> omega
        refine x_iload_n F dX6_isMet_16 rfl 1 rfl ?_
        refine x_iconst F dX6_isMet_17 ?_
        refine x_imul F dX6_isMet_18 ?_
        refine x_iload F dX6_isMet_19 4 rfl ?_
        refine x_iadd F dX6_isMet_21 ?_
        refine x_istore (lv' := [(0, .ref qU), (1, .int (jI clause)), (2, .ref qfa), (3, .int (jI hs)), (4, .int (jI t)), (5, .int (jI ((clause * 3) + t)))]) F dX6_isMet_22 (by decide) [1, 2, 3, 4, 5, 0] rfl ?_
        refine x_aload_n F dX6_isMet_24 rfl 0 rfl ?_
        refine x_get (ci := 6) F hin6 0 rfl rfl 0 (by decide) hw3 rfl dX6_isMet_25 ?_
        refine x_iload F dX6_isMet_28 5 rfl ?_
        refine x_callSNi (As := [.ref qU_names, .int (jI ((clause * 3) + t))]) (st := []) F (c_X9_at D kI kJ l qU_names ((clause * 3) + t) 18 fU_names (by omega) (by omega)) ⟨va_cnB 2 F.2.2.2.2.1 gX6_isMet_X9_at_n41 rfl rfl rfl (nM15 F.2.2.2.2.2.2.2) (F.2.2.2.2.1 _ hw1) (by decide +kernel) ⟨Nat.le_of_ble_eq_true rfl, Nat.le_of_ble_eq_true rfl⟩, F.2.2.2.2.1 _ hw2, trivial⟩ [1] [0, 2, 3, 4, 5] [0, 5, 1, 2, 3, 4] rfl rfl (by decide) (by decide) (by decide) (fun _ => rfl) (by decide) rfl (Nat.le_of_ble_eq_true rfl) dX6_isMet_30 ⟨Nat.le_of_ble_eq_true rfl, Nat.le_of_ble_eq_true rfl⟩ (fun z30 u30 h30 => ?_)
        try dsimp only at h30
        refine x_ws [(qU, .inr (6, [.ref qU_names, .ref qU_signs, .ref qU_numbers, .ref qU_tests, .ref qU_acts, .int (jI vU_clauses)])), aI kI qU_names 18 fU_names, aI kI qU_signs 18 fU_signs, aI kI qU_numbers 18 fU_numbers, aI kI qU_tests 6 fU_tests, aI kI qfa 7 ffa] rfl ?_
        have he30 := h30
        have he30 := he30.symm
        subst he30
        refine x_istore (lv' := [(0, .ref qU), (1, .int (jI clause)), (2, .ref qfa), (3, .int (jI hs)), (4, .int (jI t)), (5, .int (jI ((clause * 3) + t))), (6, .int (jI (fU_names ((clause * 3) + t))))]) F dX6_isMet_33 (by decide) [1, 2, 3, 4, 5, 6, 0] rfl ?_
        refine x_iload F dX6_isMet_35 6 rfl ?_
        refine x_iconst F dX6_isMet_37 ?_
        refine x_icmp_ne (tgt := 47) F dX6_isMet_38 (by decide) (by omega) (fun c38 => ?_) (fun c38 => ?_)
        · -- 38 t
          refine x_aload_n F dX6_isMet_47 rfl 2 rfl ?_
          refine x_iload F dX6_isMet_48 6 rfl ?_
          refine x_callSNi (As := [.ref qfa, .int (jI (fU_names ((clause * 3) + t)))]) (st := []) F (c_X9_at D kI kJ l qfa (fU_names ((clause * 3) + t)) 7 ffa (by omega) (by omega)) ⟨va_cnB 2 F.2.2.2.2.1 gX6_isMet_X9_at_n41 rfl rfl rfl (nM15 F.2.2.2.2.2.2.2) (F.2.2.2.2.1 _ hw1) (by decide +kernel) ⟨Nat.le_of_ble_eq_true rfl, Nat.le_of_ble_eq_true rfl⟩, F.2.2.2.2.1 _ hw2, trivial⟩ [5] [0, 1, 2, 3, 4] [0, 1, 2, 3, 4, 5] rfl rfl (by decide) (by decide) (by decide) (fun _ => rfl) (by decide) rfl (Nat.le_of_ble_eq_true rfl) dX6_isMet_50 ⟨Nat.le_of_ble_eq_true rfl, Nat.le_of_ble_eq_true rfl⟩ (fun z50 u50 h50 => ?_)
          try dsimp only at h50
          refine x_ws [(qU, .inr (6, [.ref qU_names, .ref qU_signs, .ref qU_numbers, .ref qU_tests, .ref qU_acts, .int (jI vU_clauses)])), aI kI qU_names 18 fU_names, aI kI qU_signs 18 fU_signs, aI kI qU_numbers 18 fU_numbers, aI kI qU_tests 6 fU_tests, aI kI qfa 7 ffa] rfl ?_
          have he50 := h50
          have he50 := he50.symm
          subst he50
          refine x_istore (lv' := [(0, .ref qU), (1, .int (jI clause)), (2, .ref qfa), (3, .int (jI hs)), (4, .int (jI t)), (5, .int (jI ((clause * 3) + t))), (6, .int (jI (fU_names ((clause * 3) + t)))), (7, .int (jI (ffa (fU_names ((clause * 3) + t)))))]) F dX6_isMet_53 (by decide) [1, 2, 3, 4, 5, 6, 7, 0] rfl ?_
          have jn110 : ∀ (zm : Int) (hzm : xBool zm ((fU_signs (clause * 3 + t) = 60 ∧ ffa (fU_names (clause * 3 + t)) < fU_numbers (clause * 3 + t)) ∨ (¬ fU_signs (clause * 3 + t) = 60 ∧ fU_numbers (clause * 3 + t) < ffa (fU_names (clause * 3 + t))))), xG D p l e (xRm 2 53 0 0) s m args below meth c 9 A Q 0 0 [(qU, .inr (6, [.ref qU_names, .ref qU_signs, .ref qU_numbers, .ref qU_tests, .ref qU_acts, .int (jI vU_clauses)])), aI kI qU_names 18 fU_names, aI kI qU_signs 18 fU_signs, aI kI qU_numbers 18 fU_numbers, aI kI qU_tests 6 fU_tests, aI kI qfa 7 ffa] [(0, .ref qU), (1, .int (jI clause)), (2, .ref qfa), (3, .int (jI hs)), (4, .int (jI t)), (5, .int (jI ((clause * 3) + t))), (6, .int (jI (fU_names ((clause * 3) + t)))), (7, .int (jI (ffa (fU_names ((clause * 3) + t)))))] 110 [.int (jI zm)] := by
            intro zm hzm
            refine x_istore (lv' := [(0, .ref qU), (1, .int (jI clause)), (2, .ref qfa), (3, .int (jI hs)), (4, .int (jI t)), (5, .int (jI ((clause * 3) + t))), (6, .int (jI (fU_names ((clause * 3) + t)))), (7, .int (jI (ffa (fU_names ((clause * 3) + t))))), (8, .int (jI zm))]) F dX6_isMet_110 (by decide) [1, 2, 3, 4, 5, 6, 7, 8, 0] rfl ?_
            refine x_iload F dX6_isMet_112 8 rfl ?_
            refine x_bne (tgt := 119) F dX6_isMet_114 (by decide) hzm (fun c114 => ?_) (fun c114 => ?_)
            · -- 114 t
              refine x_iinc (lv' := [(0, .ref qU), (1, .int (jI clause)), (2, .ref qfa), (3, .int (jI hs)), (4, .int (jI (t + 1))), (5, .int (jI ((clause * 3) + t))), (6, .int (jI (fU_names ((clause * 3) + t)))), (7, .int (jI (ffa (fU_names ((clause * 3) + t))))), (8, .int (jI zm))]) (k := 4) F dX6_isMet_119 rfl (by decide) [1, 2, 3, 4, 0, 5, 6, 7, 8] rfl ?_
              refine x_goto (tgt := 3) F dX6_isMet_122 (by decide) ?_
              refine x_lv (lv' := [(0, .ref qU), (1, .int (jI clause)), (2, .ref qfa), (3, .int (jI hs)), (4, .int (jI (t + 1)))]) [0, 1, 2, 3, 4] rfl ?_
              exact ih3 (t + 1) (by omega) (by rw [dG_s ht.1, if_neg (by unfold kN tN; rw [if_neg (by omega)]; omega)]; exact hd) (by omega)
            · -- 114 f
              refine x_iconst F dX6_isMet_117 ?_
              exact hret 0 0 118 _ 0 () (Nat.le_of_ble_eq_true rfl) (Nat.le_of_ble_eq_true rfl) dX6_isMet_118 (xBool_f (by have e := dG_first (ls := (kN fU_names fU_signs fU_numbers ffa hs clause)) (thr := 100) (i := t) (n := fU_tests clause) (by omega) hd (by unfold kN tN; rw [if_pos (by omega)]; omega); omega))
          refine x_aload_n F dX6_isMet_55 rfl 0 rfl ?_
          refine x_get (ci := 6) F hin6 0 rfl rfl 1 (by decide) hw4 rfl dX6_isMet_56 ?_
          refine x_iload F dX6_isMet_59 5 rfl ?_
          refine x_callSNi (As := [.ref qU_signs, .int (jI ((clause * 3) + t))]) (st := []) F (c_X9_at D kI kJ l qU_signs ((clause * 3) + t) 18 fU_signs (by omega) (by omega)) ⟨va_cnB 2 F.2.2.2.2.1 gX6_isMet_X9_at_n41 rfl rfl rfl (nM15 F.2.2.2.2.2.2.2) (F.2.2.2.2.1 _ hw1) (by decide +kernel) ⟨Nat.le_of_ble_eq_true rfl, Nat.le_of_ble_eq_true rfl⟩, F.2.2.2.2.1 _ hw2, trivial⟩ [2] [0, 1, 3, 4, 5] [0, 1, 5, 2, 3, 4] rfl rfl (by decide) (by decide) (by decide) (fun _ => rfl) (by decide) rfl (Nat.le_of_ble_eq_true rfl) dX6_isMet_61 ⟨Nat.le_of_ble_eq_true rfl, Nat.le_of_ble_eq_true rfl⟩ (fun z61 u61 h61 => ?_)
          try dsimp only at h61
          refine x_ws [(qU, .inr (6, [.ref qU_names, .ref qU_signs, .ref qU_numbers, .ref qU_tests, .ref qU_acts, .int (jI vU_clauses)])), aI kI qU_names 18 fU_names, aI kI qU_signs 18 fU_signs, aI kI qU_numbers 18 fU_numbers, aI kI qU_tests 6 fU_tests, aI kI qfa 7 ffa] rfl ?_
          have he61 := h61
          have he61 := he61.symm
          subst he61
          refine x_bipush F dX6_isMet_64 (by decide) ?_
          refine x_icmp_ne (tgt := 91) F dX6_isMet_66 (by decide) (by omega) (fun c66 => ?_) (fun c66 => ?_)
          · -- 66 t
            refine x_iload F dX6_isMet_91 7 rfl ?_
            refine x_aload_n F dX6_isMet_93 rfl 0 rfl ?_
            refine x_get (ci := 6) F hin6 0 rfl rfl 2 (by decide) hw5 rfl dX6_isMet_94 ?_
            refine x_iload F dX6_isMet_97 5 rfl ?_
            refine x_callSNi (As := [.ref qU_numbers, .int (jI ((clause * 3) + t))]) (st := [.int (jI (ffa (fU_names ((clause * 3) + t))))]) F (c_X9_at D kI kJ l qU_numbers ((clause * 3) + t) 18 fU_numbers (by omega) (by omega)) ⟨va_cnB 2 F.2.2.2.2.1 gX6_isMet_X9_at_n41 rfl rfl rfl (nM15 F.2.2.2.2.2.2.2) (F.2.2.2.2.1 _ hw1) (by decide +kernel) ⟨Nat.le_of_ble_eq_true rfl, Nat.le_of_ble_eq_true rfl⟩, F.2.2.2.2.1 _ hw2, trivial⟩ [3] [0, 1, 2, 4, 5] [0, 1, 2, 5, 3, 4] rfl rfl (by decide) (by decide) (by decide) (fun _ => rfl) (by decide) rfl (Nat.le_of_ble_eq_true rfl) dX6_isMet_99 ⟨Nat.le_of_ble_eq_true rfl, Nat.le_of_ble_eq_true rfl⟩ (fun z99 u99 h99 => ?_)
            try dsimp only at h99
            refine x_ws [(qU, .inr (6, [.ref qU_names, .ref qU_signs, .ref qU_numbers, .ref qU_tests, .ref qU_acts, .int (jI vU_clauses)])), aI kI qU_names 18 fU_names, aI kI qU_signs 18 fU_signs, aI kI qU_numbers 18 fU_numbers, aI kI qU_tests 6 fU_tests, aI kI qfa 7 ffa] rfl ?_
            have he99 := h99
            have he99 := he99.symm
            subst he99
            refine x_icmp_le (tgt := 109) F dX6_isMet_102 (by decide) (by omega) (fun c102 => ?_) (fun c102 => ?_)
            · -- 102 t
              refine x_iconst F dX6_isMet_109 ?_
              exact jn110 0 (by first | exact xBool_t (by omega) | exact xBool_f (by omega))
            · -- 102 f
              refine x_iconst F dX6_isMet_105 ?_
              refine x_goto (tgt := 110) F dX6_isMet_106 (by decide) ?_
              exact jn110 1 (by first | exact xBool_t (by omega) | exact xBool_f (by omega))
          · -- 66 f
            refine x_iload F dX6_isMet_69 7 rfl ?_
            refine x_aload_n F dX6_isMet_71 rfl 0 rfl ?_
            refine x_get (ci := 6) F hin6 0 rfl rfl 2 (by decide) hw5 rfl dX6_isMet_72 ?_
            refine x_iload F dX6_isMet_75 5 rfl ?_
            refine x_callSNi (As := [.ref qU_numbers, .int (jI ((clause * 3) + t))]) (st := [.int (jI (ffa (fU_names ((clause * 3) + t))))]) F (c_X9_at D kI kJ l qU_numbers ((clause * 3) + t) 18 fU_numbers (by omega) (by omega)) ⟨va_cnB 2 F.2.2.2.2.1 gX6_isMet_X9_at_n41 rfl rfl rfl (nM15 F.2.2.2.2.2.2.2) (F.2.2.2.2.1 _ hw1) (by decide +kernel) ⟨Nat.le_of_ble_eq_true rfl, Nat.le_of_ble_eq_true rfl⟩, F.2.2.2.2.1 _ hw2, trivial⟩ [3] [0, 1, 2, 4, 5] [0, 1, 2, 5, 3, 4] rfl rfl (by decide) (by decide) (by decide) (fun _ => rfl) (by decide) rfl (Nat.le_of_ble_eq_true rfl) dX6_isMet_77 ⟨Nat.le_of_ble_eq_true rfl, Nat.le_of_ble_eq_true rfl⟩ (fun z77 u77 h77 => ?_)
            try dsimp only at h77
            refine x_ws [(qU, .inr (6, [.ref qU_names, .ref qU_signs, .ref qU_numbers, .ref qU_tests, .ref qU_acts, .int (jI vU_clauses)])), aI kI qU_names 18 fU_names, aI kI qU_signs 18 fU_signs, aI kI qU_numbers 18 fU_numbers, aI kI qU_tests 6 fU_tests, aI kI qfa 7 ffa] rfl ?_
            have he77 := h77
            have he77 := he77.symm
            subst he77
            refine x_icmp_ge (tgt := 87) F dX6_isMet_80 (by decide) (by omega) (fun c80 => ?_) (fun c80 => ?_)
            · -- 80 t
              refine x_iconst F dX6_isMet_87 ?_
              refine x_goto (tgt := 110) F dX6_isMet_88 (by decide) ?_
              exact jn110 0 (by first | exact xBool_t (by omega) | exact xBool_f (by omega))
            · -- 80 f
              refine x_iconst F dX6_isMet_83 ?_
              refine x_goto (tgt := 110) F dX6_isMet_84 (by decide) ?_
              exact jn110 1 (by first | exact xBool_t (by omega) | exact xBool_f (by omega))
        · -- 38 f
          refine x_iload_n F dX6_isMet_41 rfl 3 rfl ?_
          refine x_if_ne (tgt := 47) F dX6_isMet_42 (by decide) (by omega) (fun c42 => ?_) (fun c42 => ?_)
          · -- 42 t
            refine x_aload_n F dX6_isMet_47 rfl 2 rfl ?_
            refine x_iload F dX6_isMet_48 6 rfl ?_
            refine x_callSNi (As := [.ref qfa, .int (jI (fU_names ((clause * 3) + t)))]) (st := []) F (c_X9_at D kI kJ l qfa (fU_names ((clause * 3) + t)) 7 ffa (by omega) (by omega)) ⟨va_cnB 2 F.2.2.2.2.1 gX6_isMet_X9_at_n41 rfl rfl rfl (nM15 F.2.2.2.2.2.2.2) (F.2.2.2.2.1 _ hw1) (by decide +kernel) ⟨Nat.le_of_ble_eq_true rfl, Nat.le_of_ble_eq_true rfl⟩, F.2.2.2.2.1 _ hw2, trivial⟩ [5] [0, 1, 2, 3, 4] [0, 1, 2, 3, 4, 5] rfl rfl (by decide) (by decide) (by decide) (fun _ => rfl) (by decide) rfl (Nat.le_of_ble_eq_true rfl) dX6_isMet_50 ⟨Nat.le_of_ble_eq_true rfl, Nat.le_of_ble_eq_true rfl⟩ (fun z50 u50 h50 => ?_)
            try dsimp only at h50
            refine x_ws [(qU, .inr (6, [.ref qU_names, .ref qU_signs, .ref qU_numbers, .ref qU_tests, .ref qU_acts, .int (jI vU_clauses)])), aI kI qU_names 18 fU_names, aI kI qU_signs 18 fU_signs, aI kI qU_numbers 18 fU_numbers, aI kI qU_tests 6 fU_tests, aI kI qfa 7 ffa] rfl ?_
            have he50 := h50
            have he50 := he50.symm
            subst he50
            refine x_istore (lv' := [(0, .ref qU), (1, .int (jI clause)), (2, .ref qfa), (3, .int (jI hs)), (4, .int (jI t)), (5, .int (jI ((clause * 3) + t))), (6, .int (jI (fU_names ((clause * 3) + t)))), (7, .int (jI (ffa (fU_names ((clause * 3) + t)))))]) F dX6_isMet_53 (by decide) [1, 2, 3, 4, 5, 6, 7, 0] rfl ?_
            have jn110 : ∀ (zm : Int) (hzm : xBool zm ((fU_signs (clause * 3 + t) = 60 ∧ ffa (fU_names (clause * 3 + t)) < fU_numbers (clause * 3 + t)) ∨ (¬ fU_signs (clause * 3 + t) = 60 ∧ fU_numbers (clause * 3 + t) < ffa (fU_names (clause * 3 + t))))), xG D p l e (xRm 2 53 0 0) s m args below meth c 9 A Q 0 0 [(qU, .inr (6, [.ref qU_names, .ref qU_signs, .ref qU_numbers, .ref qU_tests, .ref qU_acts, .int (jI vU_clauses)])), aI kI qU_names 18 fU_names, aI kI qU_signs 18 fU_signs, aI kI qU_numbers 18 fU_numbers, aI kI qU_tests 6 fU_tests, aI kI qfa 7 ffa] [(0, .ref qU), (1, .int (jI clause)), (2, .ref qfa), (3, .int (jI hs)), (4, .int (jI t)), (5, .int (jI ((clause * 3) + t))), (6, .int (jI (fU_names ((clause * 3) + t)))), (7, .int (jI (ffa (fU_names ((clause * 3) + t)))))] 110 [.int (jI zm)] := by
              intro zm hzm
              refine x_istore (lv' := [(0, .ref qU), (1, .int (jI clause)), (2, .ref qfa), (3, .int (jI hs)), (4, .int (jI t)), (5, .int (jI ((clause * 3) + t))), (6, .int (jI (fU_names ((clause * 3) + t)))), (7, .int (jI (ffa (fU_names ((clause * 3) + t))))), (8, .int (jI zm))]) F dX6_isMet_110 (by decide) [1, 2, 3, 4, 5, 6, 7, 8, 0] rfl ?_
              refine x_iload F dX6_isMet_112 8 rfl ?_
              refine x_bne (tgt := 119) F dX6_isMet_114 (by decide) hzm (fun c114 => ?_) (fun c114 => ?_)
              · -- 114 t
                refine x_iinc (lv' := [(0, .ref qU), (1, .int (jI clause)), (2, .ref qfa), (3, .int (jI hs)), (4, .int (jI (t + 1))), (5, .int (jI ((clause * 3) + t))), (6, .int (jI (fU_names ((clause * 3) + t)))), (7, .int (jI (ffa (fU_names ((clause * 3) + t))))), (8, .int (jI zm))]) (k := 4) F dX6_isMet_119 rfl (by decide) [1, 2, 3, 4, 0, 5, 6, 7, 8] rfl ?_
                refine x_goto (tgt := 3) F dX6_isMet_122 (by decide) ?_
                refine x_lv (lv' := [(0, .ref qU), (1, .int (jI clause)), (2, .ref qfa), (3, .int (jI hs)), (4, .int (jI (t + 1)))]) [0, 1, 2, 3, 4] rfl ?_
                exact ih3 (t + 1) (by omega) (by rw [dG_s ht.1, if_neg (by unfold kN tN; rw [if_neg (by omega)]; omega)]; exact hd) (by omega)
              · -- 114 f
                refine x_iconst F dX6_isMet_117 ?_
                exact hret 0 0 118 _ 0 () (Nat.le_of_ble_eq_true rfl) (Nat.le_of_ble_eq_true rfl) dX6_isMet_118 (xBool_f (by have e := dG_first (ls := (kN fU_names fU_signs fU_numbers ffa hs clause)) (thr := 100) (i := t) (n := fU_tests clause) (by omega) hd (by unfold kN tN; rw [if_pos (by omega)]; omega); omega))
            refine x_aload_n F dX6_isMet_55 rfl 0 rfl ?_
            refine x_get (ci := 6) F hin6 0 rfl rfl 1 (by decide) hw4 rfl dX6_isMet_56 ?_
            refine x_iload F dX6_isMet_59 5 rfl ?_
            refine x_callSNi (As := [.ref qU_signs, .int (jI ((clause * 3) + t))]) (st := []) F (c_X9_at D kI kJ l qU_signs ((clause * 3) + t) 18 fU_signs (by omega) (by omega)) ⟨va_cnB 2 F.2.2.2.2.1 gX6_isMet_X9_at_n41 rfl rfl rfl (nM15 F.2.2.2.2.2.2.2) (F.2.2.2.2.1 _ hw1) (by decide +kernel) ⟨Nat.le_of_ble_eq_true rfl, Nat.le_of_ble_eq_true rfl⟩, F.2.2.2.2.1 _ hw2, trivial⟩ [2] [0, 1, 3, 4, 5] [0, 1, 5, 2, 3, 4] rfl rfl (by decide) (by decide) (by decide) (fun _ => rfl) (by decide) rfl (Nat.le_of_ble_eq_true rfl) dX6_isMet_61 ⟨Nat.le_of_ble_eq_true rfl, Nat.le_of_ble_eq_true rfl⟩ (fun z61 u61 h61 => ?_)
            try dsimp only at h61
            refine x_ws [(qU, .inr (6, [.ref qU_names, .ref qU_signs, .ref qU_numbers, .ref qU_tests, .ref qU_acts, .int (jI vU_clauses)])), aI kI qU_names 18 fU_names, aI kI qU_signs 18 fU_signs, aI kI qU_numbers 18 fU_numbers, aI kI qU_tests 6 fU_tests, aI kI qfa 7 ffa] rfl ?_
            have he61 := h61
            have he61 := he61.symm
            subst he61
            refine x_bipush F dX6_isMet_64 (by decide) ?_
            refine x_icmp_ne (tgt := 91) F dX6_isMet_66 (by decide) (by omega) (fun c66 => ?_) (fun c66 => ?_)
            · -- 66 t
              refine x_iload F dX6_isMet_91 7 rfl ?_
              refine x_aload_n F dX6_isMet_93 rfl 0 rfl ?_
              refine x_get (ci := 6) F hin6 0 rfl rfl 2 (by decide) hw5 rfl dX6_isMet_94 ?_
              refine x_iload F dX6_isMet_97 5 rfl ?_
              refine x_callSNi (As := [.ref qU_numbers, .int (jI ((clause * 3) + t))]) (st := [.int (jI (ffa (fU_names ((clause * 3) + t))))]) F (c_X9_at D kI kJ l qU_numbers ((clause * 3) + t) 18 fU_numbers (by omega) (by omega)) ⟨va_cnB 2 F.2.2.2.2.1 gX6_isMet_X9_at_n41 rfl rfl rfl (nM15 F.2.2.2.2.2.2.2) (F.2.2.2.2.1 _ hw1) (by decide +kernel) ⟨Nat.le_of_ble_eq_true rfl, Nat.le_of_ble_eq_true rfl⟩, F.2.2.2.2.1 _ hw2, trivial⟩ [3] [0, 1, 2, 4, 5] [0, 1, 2, 5, 3, 4] rfl rfl (by decide) (by decide) (by decide) (fun _ => rfl) (by decide) rfl (Nat.le_of_ble_eq_true rfl) dX6_isMet_99 ⟨Nat.le_of_ble_eq_true rfl, Nat.le_of_ble_eq_true rfl⟩ (fun z99 u99 h99 => ?_)
              try dsimp only at h99
              refine x_ws [(qU, .inr (6, [.ref qU_names, .ref qU_signs, .ref qU_numbers, .ref qU_tests, .ref qU_acts, .int (jI vU_clauses)])), aI kI qU_names 18 fU_names, aI kI qU_signs 18 fU_signs, aI kI qU_numbers 18 fU_numbers, aI kI qU_tests 6 fU_tests, aI kI qfa 7 ffa] rfl ?_
              have he99 := h99
              have he99 := he99.symm
              subst he99
              refine x_icmp_le (tgt := 109) F dX6_isMet_102 (by decide) (by omega) (fun c102 => ?_) (fun c102 => ?_)
              · -- 102 t
                refine x_iconst F dX6_isMet_109 ?_
                exact jn110 0 (by first | exact xBool_t (by omega) | exact xBool_f (by omega))
              · -- 102 f
                refine x_iconst F dX6_isMet_105 ?_
                refine x_goto (tgt := 110) F dX6_isMet_106 (by decide) ?_
                exact jn110 1 (by first | exact xBool_t (by omega) | exact xBool_f (by omega))
            · -- 66 f
              refine x_iload F dX6_isMet_69 7 rfl ?_
              refine x_aload_n F dX6_isMet_71 rfl 0 rfl ?_
              refine x_get (ci := 6) F hin6 0 rfl rfl 2 (by decide) hw5 rfl dX6_isMet_72 ?_
              refine x_iload F dX6_isMet_75 5 rfl ?_
              refine x_callSNi (As := [.ref qU_numbers, .int (jI ((clause * 3) + t))]) (st := [.int (jI (ffa (fU_names ((clause * 3) + t))))]) F (c_X9_at D kI kJ l qU_numbers ((clause * 3) + t) 18 fU_numbers (by omega) (by omega)) ⟨va_cnB 2 F.2.2.2.2.1 gX6_isMet_X9_at_n41 rfl rfl rfl (nM15 F.2.2.2.2.2.2.2) (F.2.2.2.2.1 _ hw1) (by decide +kernel) ⟨Nat.le_of_ble_eq_true rfl, Nat.le_of_ble_eq_true rfl⟩, F.2.2.2.2.1 _ hw2, trivial⟩ [3] [0, 1, 2, 4, 5] [0, 1, 2, 5, 3, 4] rfl rfl (by decide) (by decide) (by decide) (fun _ => rfl) (by decide) rfl (Nat.le_of_ble_eq_true rfl) dX6_isMet_77 ⟨Nat.le_of_ble_eq_true rfl, Nat.le_of_ble_eq_true rfl⟩ (fun z77 u77 h77 => ?_)
              try dsimp only at h77
              refine x_ws [(qU, .inr (6, [.ref qU_names, .ref qU_signs, .ref qU_numbers, .ref qU_tests, .ref qU_acts, .int (jI vU_clauses)])), aI kI qU_names 18 fU_names, aI kI qU_signs 18 fU_signs, aI kI qU_numbers 18 fU_numbers, aI kI qU_tests 6 fU_tests, aI kI qfa 7 ffa] rfl ?_
              have he77 := h77
              have he77 := he77.symm
              subst he77
              refine x_icmp_ge (tgt := 87) F dX6_isMet_80 (by decide) (by omega) (fun c80 => ?_) (fun c80 => ?_)
              · -- 80 t
                refine x_iconst F dX6_isMet_87 ?_
                refine x_goto (tgt := 110) F dX6_isMet_88 (by decide) ?_
                exact jn110 0 (by first | exact xBool_t (by omega) | exact xBool_f (by omega))
              · -- 80 f
                refine x_iconst F dX6_isMet_83 ?_
                refine x_goto (tgt := 110) F dX6_isMet_84 (by decide) ?_
                exact jn110 1 (by first | exact xBool_t (by omega) | exact xBool_f (by omega))
          · -- 42 f
            refine x_iconst F dX6_isMet_45 ?_
            exact hret 0 0 46 _ 0 () (Nat.le_of_ble_eq_true rfl) (Nat.le_of_ble_eq_true rfl) dX6_isMet_46 (xBool_f (by have e := dG_first (ls := (kN fU_names fU_signs fU_numbers ffa hs clause)) (thr := 100) (i := t) (n := fU_tests clause) (by omega) hd (by unfold kN tN; rw [if_pos (by omega)]; omega); omega))
  exact lp3 (Int.toNat (4 - 0) + 1) 0 (by omega) (by rw [dG_0]; omega) (by omega)
set_option maxHeartbeats 4000000 in
set_option maxRecDepth 100000 in
theorem c_X6_decide (D : va_G) (kI kJ : Nat) (l : Launch) (qU : Nat) (qfa : Nat) (hs : Int) (qU_names : Nat) (qU_signs : Nat) (qU_numbers : Nat) (qU_tests : Nat) (qU_acts : Nat) (vU_clauses : Int) (fU_names : (Int → Int)) (fU_signs : (Int → Int)) (fU_numbers : (Int → Int)) (fU_tests : (Int → Int)) (fU_acts : (Int → Int)) (ffa : (Int → Int)) (hUc : 0 ≤ vU_clauses ∧ vU_clauses ≤ 6) (hUt : Rg fU_tests 6 0 3) (hUn : Rg fU_names 18 0 6) (hUs : Rg fU_signs 18 (-2147483648) 2147483647) (hUu : Rg fU_numbers 18 0 999) (hUa : Rg fU_acts 6 0 2) (hfa : Rg ffa 7 (-10000000) 10000000) (hhs : hs = 0 ∨ hs = 1) : xMi D kI kJ l yX6_decide wsX6_decide 3 81 0 0 [.ref qU, .ref qfa, .int (jI hs)] [(qU, .inr (6, [.ref qU_names, .ref qU_signs, .ref qU_numbers, .ref qU_tests, .ref qU_acts, .int (jI vU_clauses)])), aI kI qU_names 18 fU_names, aI kI qU_signs 18 fU_signs, aI kI qU_numbers 18 fU_numbers, aI kI qU_tests 6 fU_tests, aI kI qU_acts 6 fU_acts, aI kI qfa 7 ffa] (fun (z : Int) (u : Unit) => z = decd (kC fU_names fU_signs fU_numbers fU_tests ffa hs) fU_acts vU_clauses) (fun (u : Unit) => [(qU, .inr (6, [.ref qU_names, .ref qU_signs, .ref qU_numbers, .ref qU_tests, .ref qU_acts, .int (jI vU_clauses)])), aI kI qU_names 18 fU_names, aI kI qU_signs 18 fU_signs, aI kI qU_numbers 18 fU_numbers, aI kI qU_tests 6 fU_tests, aI kI qU_acts 6 fU_acts, aI kI qfa 7 ffa]) := by
  refine xMi_of (cc := cX6_decide) (maxL := 4) (rt := .int) (by decide) rfl (Nat.le_of_ble_eq_true rfl) (fun _ _ _ => rfl) ?_
  intro p e s m args below meth c A Q F hin2 hret
  have hin6 : ∀ w ∈ wsX60, w ∈ wsX6_decide := by decide +kernel
  have hw0 : Cond.fieldLink RX6 27 (TX6 5).1 (TX6 5).2.1 (TX6 5).2.2.1 ∈ wsX6_decide := by decide +kernel
  have hw1 : Cond.fieldLink RX6 24 (TX6 4).1 (TX6 4).2.1 (TX6 4).2.2.1 ∈ wsX6_decide := by decide +kernel
  refine x_lveq (lv' := [(0, .ref qU), (1, .ref qfa), (2, .int (jI hs))]) rfl ?_
  refine x_iconst F dX6_decide_0 ?_
  refine x_istore_n (lv' := [(0, .ref qU), (1, .ref qfa), (2, .int (jI hs)), (3, .int (jI 0))]) F dX6_decide_1 rfl (by decide) [1, 2, 3, 0] rfl ?_
  have lp2 : ∀ (fu : Nat) (ci : Int) (hc : 0 ≤ ci ∧ ci ≤ vU_clauses) (hd : dG (kC fU_names fU_signs fU_numbers fU_tests ffa hs) 100 ci < 0) (hm : 7 - ci < (fu : Int)), xG D p l e (xRm 3 81 0 0) s m args below meth c 4 A Q 0 0 [(qU, .inr (6, [.ref qU_names, .ref qU_signs, .ref qU_numbers, .ref qU_tests, .ref qU_acts, .int (jI vU_clauses)])), aI kI qU_names 18 fU_names, aI kI qU_signs 18 fU_signs, aI kI qU_numbers 18 fU_numbers, aI kI qU_tests 6 fU_tests, aI kI qU_acts 6 fU_acts, aI kI qfa 7 ffa] [(0, .ref qU), (1, .ref qfa), (2, .int (jI hs)), (3, .int (jI ci))] 2 [] := by
    intro fu
    induction fu with
    | zero =>
      intro ci hc hd hm
      exact absurd hm (by omega)
    | succ fu ih2 =>
      intro ci hc hd hm
      refine x_iload_n F dX6_decide_2 rfl 3 rfl ?_
      refine x_aload_n F dX6_decide_3 rfl 0 rfl ?_
      refine x_get (ci := 6) F hin6 0 rfl rfl 5 (by decide) hw0 rfl dX6_decide_4 ?_
      refine x_icmp_ge (tgt := 39) F dX6_decide_7 (by decide) (by omega) (fun c7 => ?_) (fun c7 => ?_)
      · -- 7 t
        refine x_iconst F dX6_decide_39 ?_
        exact hret 0 0 40 _ 0 () (Nat.le_of_ble_eq_true rfl) (Nat.le_of_ble_eq_true rfl) dX6_decide_40 (by unfold decd; rw [show vU_clauses = ci by omega, if_pos hd])
      · -- 7 f
        refine x_iload_n F dX6_decide_10 rfl 3 rfl ?_
        refine x_bipush F dX6_decide_11 (by decide) ?_
        refine x_icmp_ge (tgt := 39) F dX6_decide_13 (by decide) (by omega) (fun c13 => ?_) (fun c13 => ?_)
        · exact absurd c13 (by omega)
        · -- 13 f
          refine x_aload_n F dX6_decide_16 rfl 0 rfl ?_
          refine x_iload_n F dX6_decide_17 rfl 3 rfl ?_
          refine x_aload_n F dX6_decide_18 rfl 1 rfl ?_
          refine x_iload_n F dX6_decide_19 rfl 2 rfl ?_
          refine x_callVi (ci := 6) (q0 := 0) (As := [.int (jI ci), .ref qfa, .int (jI hs)]) (st := []) F (c_X6_isMet D kI kJ l qU ci qfa hs qU_names qU_signs qU_numbers qU_tests qU_acts vU_clauses fU_names fU_signs fU_numbers fU_tests ffa (by omega) hUt hUn hUs hUu hfa hhs) (cwV 3 F.2.2.2.2.1 gX6_decide_X6_isMet rfl rfl rfl (by decide +kernel) ⟨Nat.le_of_ble_eq_true rfl, Nat.le_of_ble_eq_true rfl⟩) rfl rfl [0, 1, 2, 3, 4, 6] [5] [1, 2, 3, 4, 5, 0, 6] rfl rfl (by decide) (by decide) (by decide) (fun _ => rfl) (by decide) rfl (Nat.le_of_ble_eq_true rfl) dX6_decide_20 ⟨Nat.le_of_ble_eq_true rfl, Nat.le_of_ble_eq_true rfl⟩ (fun z20 u20 h20 => ?_)
          try dsimp only at h20
          refine x_ws [(qU, .inr (6, [.ref qU_names, .ref qU_signs, .ref qU_numbers, .ref qU_tests, .ref qU_acts, .int (jI vU_clauses)])), aI kI qU_names 18 fU_names, aI kI qU_signs 18 fU_signs, aI kI qU_numbers 18 fU_numbers, aI kI qU_tests 6 fU_tests, aI kI qU_acts 6 fU_acts, aI kI qfa 7 ffa] rfl ?_
          have hb20 := h20
          refine x_beq (tgt := 33) F dX6_decide_23 (by decide) hb20 (fun c23 => ?_) (fun c23 => ?_)
          · -- 23 t
            refine x_iinc (lv' := [(0, .ref qU), (1, .ref qfa), (2, .int (jI hs)), (3, .int (jI (ci + 1)))]) (k := 3) F dX6_decide_33 rfl (by decide) [1, 2, 3, 0] rfl ?_
            refine x_goto (tgt := 2) F dX6_decide_36 (by decide) ?_
            exact ih2 (ci + 1) (by omega) (by rw [dG_s hc.1, if_neg (by unfold kC; rw [if_neg c23]; omega)]; exact hd) (by omega)
          · -- 23 f
            refine x_aload_n F dX6_decide_26 rfl 0 rfl ?_
            refine x_get (ci := 6) F hin6 0 rfl rfl 4 (by decide) hw1 rfl dX6_decide_27 ?_
            refine x_iload_n F dX6_decide_30 rfl 3 rfl ?_
            refine x_iald F 5 rfl (by decide) (by omega) dX6_decide_31 ?_
            have hr31 := Rg.at hUa ci (by omega)
            exact hret 0 0 32 _ (fU_acts ci) () (Nat.le_of_ble_eq_true rfl) (Nat.le_of_ble_eq_true rfl) dX6_decide_32 (by have e := dG_first (ls := (kC fU_names fU_signs fU_numbers fU_tests ffa hs)) (thr := 100) (i := ci) (n := vU_clauses) (by omega) hd (by unfold kC; rw [if_pos c23]; omega); unfold decd; rw [e, if_neg (by omega)])
  exact lp2 (Int.toNat (7 - 0) + 1) 0 (by omega) (by rw [dG_0]; omega) (by omega)
