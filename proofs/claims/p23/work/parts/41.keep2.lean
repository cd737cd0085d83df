set_option maxHeartbeats 4000000 in
set_option maxRecDepth 100000 in
theorem c_X9_count (D : va_G) (kI kJ : Nat) (l : Launch) (qK : Nat) (what : Int) (qM : Nat) (qC : Nat) (qL : Nat) (qFr : Nat) (qE : Nat) (qK_facts : Nat) (qN : Nat) (qS : Nat) (qM_stones : Nat) (qM_laid : Nat) (qM_deeps : Nat) (qM_rates : Nat) (qP : Nat) (qT : Nat) (qM_dangers : Nat) (qM_losses : Nat) (vM_size : Int) (vM_limit : Int) (qP_blocks : Nat) (qP_years : Nat) (qP_values : Nat) (qP_since : Nat) (vP_size : Int) (qT_blocks : Nat) (qT_years : Nat) (qT_values : Nat) (qT_since : Nat) (vT_size : Int) (qL_blocks : Nat) (qL_hands : Nat) (qL_years : Nat) (qL_grades : Nat) (qL_sums : Nat) (qL_pairs : Nat) (qL_seen : Nat) (vL_size : Int) (vL_doubles : Int) (vL_learned : Int) (fL_blocks : (Int → Int)) (fL_hands : (Int → Int)) (fL_years : (Int → Int)) (fL_grades : (Int → Int)) (fL_sums : (Int → Int)) (fL_pairs : (Int → Int)) (qE_text : Nat) (vE_size : Int) (vE_next : Int) (vE_fault : Int) (vE_faultAt : Int) (qU : Nat) (qV : Nat) (qU_names : Nat) (qU_signs : Nat) (qU_numbers : Nat) (qU_tests : Nat) (qU_acts : Nat) (vU_clauses : Int) (qS_stones : Nat) (qS_strengths : Nat) (qS_pores : Nat) (qS_colours : Nat) (qS_pieces : Nat) (vS_size : Int) (fS_pieces : (Int → Int)) (hr_what : -2147483648 ≤ what ∧ what < 2147483648) (hLs : 0 ≤ vL_size ∧ vL_size ≤ 80) (hLb : Rg fL_blocks 80 0 29) (hLh : Rg fL_hands 80 0 3) (hLy : Rg fL_years 80 0 400) (hLg : Rg fL_grades 80 0 99) (hLl : 0 ≤ vL_learned ∧ vL_learned ≤ vL_size) (hLS : ∀ k : Int, 0 ≤ k → k < 4 → fL_sums k = hS fL_blocks fL_years fL_hands fL_grades vL_learned k) (hLP : ∀ k : Int, 0 ≤ k → k < 4 → fL_pairs k = hN fL_blocks fL_years fL_hands vL_learned k) (hLD : vL_doubles = dnS fL_blocks fL_years fL_hands vL_learned) (hSs : 0 ≤ vS_size ∧ vS_size ≤ 20) (hS5 : Rg fS_pieces 20 0 99) : xMi D kI kJ l yX9_count wsX9_count 5 119 0 0 [.ref qK, .int (jI what)] [(qK, .inr (9, [.ref qM, .ref qC, .ref qL, .ref qFr, .ref qE, .ref qK_facts, .ref qN, .ref qS])), (qM, .inr (3, [.ref qM_stones, .ref qM_laid, .ref qM_deeps, .ref qM_rates, .ref qP, .ref qT, .ref qM_dangers, .ref qM_losses, .int (jI vM_size), .int (jI vM_limit)])), (qP, .inr (7, [.ref qP_blocks, .ref qP_years, .ref qP_values, .ref qP_since, .int (jI vP_size)])), (qT, .inr (7, [.ref qT_blocks, .ref qT_years, .ref qT_values, .ref qT_since, .int (jI vT_size)])), (qL, .inr (2, [.ref qL_blocks, .ref qL_hands, .ref qL_years, .ref qL_grades, .ref qL_sums, .ref qL_pairs, .ref qL_seen, .int (jI vL_size), .int (jI vL_doubles), .int (jI vL_learned)])), aI kI qL_blocks 80 fL_blocks, aI kI qL_hands 80 fL_hands, aI kI qL_years 80 fL_years, aI kI qL_grades 80 fL_grades, aI kI qL_sums 4 fL_sums, aI kI qL_pairs 4 fL_pairs, (qE, .inr (5, [.ref qE_text, .int (jI vE_size), .int (jI vE_next), .int (jI vE_fault), .int (jI vE_faultAt), .ref qU, .ref qV])), (qU, .inr (6, [.ref qU_names, .ref qU_signs, .ref qU_numbers, .ref qU_tests, .ref qU_acts, .int (jI vU_clauses)])), (qS, .inr (8, [.ref qS_stones, .ref qS_strengths, .ref qS_pores, .ref qS_colours, .ref qS_pieces, .int (jI vS_size)])), aI kI qS_pieces 20 fS_pieces] (fun (z : Int) (u : (Int → Int) × (Int → Int) × Int × Int) => z = (if what = 0 then vM_size else if what = 1 then vP_size else if what = 2 then vT_size else if what = 3 then vL_size else if what = 4 then dnS fL_blocks fL_years fL_hands vL_size else if what = 5 then vU_clauses else if what = 6 then vE_size else if what = 7 then vS_size else if what = 8 then sm fS_pieces vS_size else -1002) ∧ (0 ≤ u.2.2.2 ∧ u.2.2.2 ≤ vL_size) ∧ (∀ k : Int, 0 ≤ k → k < 4 → u.1 k = hS fL_blocks fL_years fL_hands fL_grades u.2.2.2 k) ∧ (∀ k : Int, 0 ≤ k → k < 4 → u.2.1 k = hN fL_blocks fL_years fL_hands u.2.2.2 k) ∧ (u.2.2.1 = dnS fL_blocks fL_years fL_hands u.2.2.2)) (fun (u : (Int → Int) × (Int → Int) × Int × Int) => [(qK, .inr (9, [.ref qM, .ref qC, .ref qL, .ref qFr, .ref qE, .ref qK_facts, .ref qN, .ref qS])), (qM, .inr (3, [.ref qM_stones, .ref qM_laid, .ref qM_deeps, .ref qM_rates, .ref qP, .ref qT, .ref qM_dangers, .ref qM_losses, .int (jI vM_size), .int (jI vM_limit)])), (qP, .inr (7, [.ref qP_blocks, .ref qP_years, .ref qP_values, .ref qP_since, .int (jI vP_size)])), (qT, .inr (7, [.ref qT_blocks, .ref qT_years, .ref qT_values, .ref qT_since, .int (jI vT_size)])), (qL, .inr (2, [.ref qL_blocks, .ref qL_hands, .ref qL_years, .ref qL_grades, .ref qL_sums, .ref qL_pairs, .ref qL_seen, .int (jI vL_size), .int (jI u.2.2.1), .int (jI u.2.2.2)])), aI kI qL_blocks 80 fL_blocks, aI kI qL_hands 80 fL_hands, aI kI qL_years 80 fL_years, aI kI qL_grades 80 fL_grades, aI kI qL_sums 4 u.1, aI kI qL_pairs 4 u.2.1, (qE, .inr (5, [.ref qE_text, .int (jI vE_size), .int (jI vE_next), .int (jI vE_fault), .int (jI vE_faultAt), .ref qU, .ref qV])), (qU, .inr (6, [.ref qU_names, .ref qU_signs, .ref qU_numbers, .ref qU_tests, .ref qU_acts, .int (jI vU_clauses)])), (qS, .inr (8, [.ref qS_stones, .ref qS_strengths, .ref qS_pores, .ref qS_colours, .ref qS_pieces, .int (jI vS_size)])), aI kI qS_pieces 20 fS_pieces]) := by
  refine xMi_of (cc := cX9_count) (maxL := 2) (rt := .int) (by decide) rfl (Nat.le_of_ble_eq_true rfl) (fun _ _ _ => rfl) ?_
  intro p e s m args below meth c A Q F hin2 hret
  have hin2 : ∀ w ∈ wsX20, w ∈ wsX9_count := by decide +kernel
  have hin3 : ∀ w ∈ wsX30, w ∈ wsX9_count := by decide +kernel
  have hin5 : ∀ w ∈ wsX50, w ∈ wsX9_count := by decide +kernel
  have hin6 : ∀ w ∈ wsX60, w ∈ wsX9_count := by decide +kernel
  have hin7 : ∀ w ∈ wsX70, w ∈ wsX9_count := by decide +kernel
  have hin8 : ∀ w ∈ wsX80, w ∈ wsX9_count := by decide +kernel
  have hin9 : ∀ w ∈ wsX90, w ∈ wsX9_count := by decide +kernel
  have hw0 : Cond.fieldLink RX9 12 (TX9 0).1 (TX9 0).2.1 (TX9 0).2.2.1 ∈ wsX9_count := by decide +kernel
  have hw1 : Cond.fieldLink RX9 26 (TX9 2).1 (TX9 2).2.1 (TX9 2).2.2.1 ∈ wsX9_count := by decide +kernel
  have hw2 : Cond.fieldLink RX9 40 (TX9 4).1 (TX9 4).2.1 (TX9 4).2.2.1 ∈ wsX9_count := by decide +kernel
  have hw3 : Cond.fieldLink RX9 58 (TX9 7).1 (TX9 7).2.1 (TX9 7).2.2.1 ∈ wsX9_count := by decide +kernel
  refine x_lveq (lv' := [(0, .ref qK), (1, .int (jI what))]) rfl ?_
  refine x_iload_n F dX9_count_0 rfl 1 rfl ?_
  by_cases c1_0 : what = 0
  · -- 1 case 0
    refine x_tabIn (tgt := 52) F 0 dX9_count_1 (by decide) c1_0 (by decide) rfl (by decide) ?_
    refine x_aload_n F dX9_count_52 rfl 0 rfl ?_
    refine x_get (ci := 9) F hin9 0 rfl rfl 0 (by decide) hw0 rfl dX9_count_53 ?_
    refine x_getN (ci := 3) F hin3 1 rfl rfl 8 (by decide) (nF5 F.2.2.2.2.2.2.2) rfl dX9_count_56 ?_
    exact hret 0 0 59 _ vM_size (fL_sums, fL_pairs, vL_doubles, vL_learned) (Nat.le_of_ble_eq_true rfl) (Nat.le_of_ble_eq_true rfl) dX9_count_59 (by (try dsimp only); exact (⟨by (repeat' split) <;> omega, hLl, hLS, hLP, hLD⟩))
  by_cases c1_1 : what = 1
  · -- 1 case 1
    refine x_tabIn (tgt := 60) F 1 dX9_count_1 (by decide) c1_1 (by decide) rfl (by decide) ?_
    refine x_aload_n F dX9_count_60 rfl 0 rfl ?_
    refine x_get (ci := 9) F hin9 0 rfl rfl 0 (by decide) hw0 rfl dX9_count_61 ?_
    refine x_getN (ci := 3) F hin3 1 rfl rfl 4 (by decide) (nF2 F.2.2.2.2.2.2.2) rfl dX9_count_64 ?_
    refine x_getN (ci := 7) F hin7 2 rfl rfl 4 (by decide) (nF0 F.2.2.2.2.2.2.2) rfl dX9_count_67 ?_
    exact hret 0 0 70 _ vP_size (fL_sums, fL_pairs, vL_doubles, vL_learned) (Nat.le_of_ble_eq_true rfl) (Nat.le_of_ble_eq_true rfl) dX9_count_70 (by (try dsimp only); exact (⟨by (repeat' split) <;> omega, hLl, hLS, hLP, hLD⟩))
  by_cases c1_2 : what = 2
  · -- 1 case 2
    refine x_tabIn (tgt := 71) F 2 dX9_count_1 (by decide) c1_2 (by decide) rfl (by decide) ?_
    refine x_aload_n F dX9_count_71 rfl 0 rfl ?_
    refine x_get (ci := 9) F hin9 0 rfl rfl 0 (by decide) hw0 rfl dX9_count_72 ?_
    refine x_getN (ci := 3) F hin3 1 rfl rfl 5 (by decide) (nF4 F.2.2.2.2.2.2.2) rfl dX9_count_75 ?_
    refine x_getN (ci := 7) F hin7 3 rfl rfl 4 (by decide) (nF0 F.2.2.2.2.2.2.2) rfl dX9_count_78 ?_
    exact hret 0 0 81 _ vT_size (fL_sums, fL_pairs, vL_doubles, vL_learned) (Nat.le_of_ble_eq_true rfl) (Nat.le_of_ble_eq_true rfl) dX9_count_81 (by (try dsimp only); exact (⟨by (repeat' split) <;> omega, hLl, hLS, hLP, hLD⟩))
  by_cases c1_3 : what = 3
  · -- 1 case 3
    refine x_tabIn (tgt := 82) F 3 dX9_count_1 (by decide) c1_3 (by decide) rfl (by decide) ?_
    refine x_aload_n F dX9_count_82 rfl 0 rfl ?_
    refine x_get (ci := 9) F hin9 0 rfl rfl 2 (by decide) hw1 rfl dX9_count_83 ?_
    refine x_getN (ci := 2) F hin2 4 rfl rfl 7 (by decide) (nF7 F.2.2.2.2.2.2.2) rfl dX9_count_86 ?_
    exact hret 0 0 89 _ vL_size (fL_sums, fL_pairs, vL_doubles, vL_learned) (Nat.le_of_ble_eq_true rfl) (Nat.le_of_ble_eq_true rfl) dX9_count_89 (by (try dsimp only); exact (⟨by (repeat' split) <;> omega, hLl, hLS, hLP, hLD⟩))
  by_cases c1_4 : what = 4
  · -- 1 case 4
    refine x_tabIn (tgt := 90) F 4 dX9_count_1 (by decide) c1_4 (by decide) rfl (by decide) ?_
    refine x_aload_n F dX9_count_90 rfl 0 rfl ?_
    refine x_get (ci := 9) F hin9 0 rfl rfl 2 (by decide) hw1 rfl dX9_count_91 ?_
    refine x_callVi (ci := 2) (q0 := 4) (As := []) (st := []) F (c_X2_countDoubles D kI kJ l qL qL_blocks qL_hands qL_years qL_grades qL_sums qL_pairs qL_seen vL_size vL_doubles vL_learned fL_blocks fL_hands fL_years fL_grades fL_sums fL_pairs hLs hLb hLh hLy hLg hLl hLS hLP hLD) (cwV 0 F.2.2.2.2.1 gX9_count_X2_countDoubles rfl rfl rfl (by decide +kernel) ⟨Nat.le_of_ble_eq_true rfl, Nat.le_of_ble_eq_true rfl⟩) rfl rfl [4, 5, 6, 7, 8, 9, 10] [0, 1, 2, 3, 11, 12, 13, 14] [0, 1, 2, 3, 8, 9, 10, 11, 12, 13, 14, 4, 5, 6, 7] rfl rfl (by decide) (by decide) (by decide) (fun _ => rfl) (by decide) rfl (Nat.le_of_ble_eq_true rfl) dX9_count_94 ⟨Nat.le_of_ble_eq_true rfl, Nat.le_of_ble_eq_true rfl⟩ (fun z94 u94 h94 => ?_)
    obtain ⟨s2_94, p2_94, d2_94⟩ := u94
    try dsimp only at h94
    refine x_ws [(qK, .inr (9, [.ref qM, .ref qC, .ref qL, .ref qFr, .ref qE, .ref qK_facts, .ref qN, .ref qS])), (qM, .inr (3, [.ref qM_stones, .ref qM_laid, .ref qM_deeps, .ref qM_rates, .ref qP, .ref qT, .ref qM_dangers, .ref qM_losses, .int (jI vM_size), .int (jI vM_limit)])), (qP, .inr (7, [.ref qP_blocks, .ref qP_years, .ref qP_values, .ref qP_since, .int (jI vP_size)])), (qT, .inr (7, [.ref qT_blocks, .ref qT_years, .ref qT_values, .ref qT_since, .int (jI vT_size)])), (qL, .inr (2, [.ref qL_blocks, .ref qL_hands, .ref qL_years, .ref qL_grades, .ref qL_sums, .ref qL_pairs, .ref qL_seen, .int (jI vL_size), .int (jI d2_94), .int (jI vL_size)])), aI kI qL_blocks 80 fL_blocks, aI kI qL_hands 80 fL_hands, aI kI qL_years 80 fL_years, aI kI qL_grades 80 fL_grades, aI kI qL_sums 4 s2_94, aI kI qL_pairs 4 p2_94, (qE, .inr (5, [.ref qE_text, .int (jI vE_size), .int (jI vE_next), .int (jI vE_fault), .int (jI vE_faultAt), .ref qU, .ref qV])), (qU, .inr (6, [.ref qU_names, .ref qU_signs, .ref qU_numbers, .ref qU_tests, .ref qU_acts, .int (jI vU_clauses)])), (qS, .inr (8, [.ref qS_stones, .ref qS_strengths, .ref qS_pores, .ref qS_colours, .ref qS_pieces, .int (jI vS_size)])), aI kI qS_pieces 20 fS_pieces] rfl ?_
    obtain ⟨he94, hs_94, hp_94, hd_94⟩ := h94
    have he94 := he94.symm
    subst he94
    exact hret 0 0 97 _ (dnS fL_blocks fL_years fL_hands vL_size) (s2_94, p2_94, d2_94, vL_size) (Nat.le_of_ble_eq_true rfl) (Nat.le_of_ble_eq_true rfl) dX9_count_97 (by (try dsimp only); exact (⟨by (repeat' split) <;> omega, ⟨hLs.1, Int.le_refl _⟩, hs_94, hp_94, hd_94⟩))
  by_cases c1_5 : what = 5
  · -- 1 case 5
    refine x_tabIn (tgt := 98) F 5 dX9_count_1 (by decide) c1_5 (by decide) rfl (by decide) ?_
    refine x_aload_n F dX9_count_98 rfl 0 rfl ?_
    refine x_get (ci := 9) F hin9 0 rfl rfl 4 (by decide) hw2 rfl dX9_count_99 ?_
    refine x_getN (ci := 5) F hin5 11 rfl rfl 5 (by decide) (nF10 F.2.2.2.2.2.2.2) rfl dX9_count_102 ?_
    refine x_getN (ci := 6) F hin6 12 rfl rfl 5 (by decide) (nF8 F.2.2.2.2.2.2.2) rfl dX9_count_105 ?_
    exact hret 0 0 108 _ vU_clauses (fL_sums, fL_pairs, vL_doubles, vL_learned) (Nat.le_of_ble_eq_true rfl) (Nat.le_of_ble_eq_true rfl) dX9_count_108 (by (try dsimp only); exact (⟨by (repeat' split) <;> omega, hLl, hLS, hLP, hLD⟩))
  by_cases c1_6 : what = 6
  · -- 1 case 6
    refine x_tabIn (tgt := 109) F 6 dX9_count_1 (by decide) c1_6 (by decide) rfl (by decide) ?_
    refine x_aload_n F dX9_count_109 rfl 0 rfl ?_
    refine x_get (ci := 9) F hin9 0 rfl rfl 4 (by decide) hw2 rfl dX9_count_110 ?_
    refine x_getN (ci := 5) F hin5 11 rfl rfl 1 (by decide) (nF9 F.2.2.2.2.2.2.2) rfl dX9_count_113 ?_
    exact hret 0 0 116 _ vE_size (fL_sums, fL_pairs, vL_doubles, vL_learned) (Nat.le_of_ble_eq_true rfl) (Nat.le_of_ble_eq_true rfl) dX9_count_116 (by (try dsimp only); exact (⟨by (repeat' split) <;> omega, hLl, hLS, hLP, hLD⟩))
  by_cases c1_7 : what = 7
  · -- 1 case 7
    refine x_tabIn (tgt := 117) F 7 dX9_count_1 (by decide) c1_7 (by decide) rfl (by decide) ?_
    refine x_aload_n F dX9_count_117 rfl 0 rfl ?_
    refine x_get (ci := 9) F hin9 0 rfl rfl 7 (by decide) hw3 rfl dX9_count_118 ?_
    refine x_getN (ci := 8) F hin8 13 rfl rfl 5 (by decide) (nF11 F.2.2.2.2.2.2.2) rfl dX9_count_121 ?_
    exact hret 0 0 124 _ vS_size (fL_sums, fL_pairs, vL_doubles, vL_learned) (Nat.le_of_ble_eq_true rfl) (Nat.le_of_ble_eq_true rfl) dX9_count_124 (by (try dsimp only); exact (⟨by (repeat' split) <;> omega, hLl, hLS, hLP, hLD⟩))
  by_cases c1_8 : what = 8
  · -- 1 case 8
    refine x_tabIn (tgt := 125) F 8 dX9_count_1 (by decide) c1_8 (by decide) rfl (by decide) ?_
    refine x_aload_n F dX9_count_125 rfl 0 rfl ?_
    refine x_get (ci := 9) F hin9 0 rfl rfl 7 (by decide) hw3 rfl dX9_count_126 ?_
    refine x_callVi (ci := 8) (q0 := 13) (As := []) (st := []) F (c_X8_countPieces D kI kJ l qS qS_stones qS_strengths qS_pores qS_colours qS_pieces vS_size fS_pieces hSs hS5) (cwV 0 F.2.2.2.2.1 gX9_count_X8_countPieces rfl rfl rfl (by decide +kernel) ⟨Nat.le_of_ble_eq_true rfl, Nat.le_of_ble_eq_true rfl⟩) rfl rfl [13, 14] [0, 1, 2, 3, 4, 5, 6, 7, 8, 9, 10, 11, 12] [0, 1, 2, 3, 4, 5, 6, 7, 8, 9, 10, 11, 12, 13, 14] rfl rfl (by decide) (by decide) (by decide) (fun _ => rfl) (by decide) rfl (Nat.le_of_ble_eq_true rfl) dX9_count_129 ⟨Nat.le_of_ble_eq_true rfl, Nat.le_of_ble_eq_true rfl⟩ (fun z129 u129 h129 => ?_)
    try dsimp only at h129
    refine x_ws [(qK, .inr (9, [.ref qM, .ref qC, .ref qL, .ref qFr, .ref qE, .ref qK_facts, .ref qN, .ref qS])), (qM, .inr (3, [.ref qM_stones, .ref qM_laid, .ref qM_deeps, .ref qM_rates, .ref qP, .ref qT, .ref qM_dangers, .ref qM_losses, .int (jI vM_size), .int (jI vM_limit)])), (qP, .inr (7, [.ref qP_blocks, .ref qP_years, .ref qP_values, .ref qP_since, .int (jI vP_size)])), (qT, .inr (7, [.ref qT_blocks, .ref qT_years, .ref qT_values, .ref qT_since, .int (jI vT_size)])), (qL, .inr (2, [.ref qL_blocks, .ref qL_hands, .ref qL_years, .ref qL_grades, .ref qL_sums, .ref qL_pairs, .ref qL_seen, .int (jI vL_size), .int (jI vL_doubles), .int (jI vL_learned)])), aI kI qL_blocks 80 fL_blocks, aI kI qL_hands 80 fL_hands, aI kI qL_years 80 fL_years, aI kI qL_grades 80 fL_grades, aI kI qL_sums 4 fL_sums, aI kI qL_pairs 4 fL_pairs, (qE, .inr (5, [.ref qE_text, .int (jI vE_size), .int (jI vE_next), .int (jI vE_fault), .int (jI vE_faultAt), .ref qU, .ref qV])), (qU, .inr (6, [.ref qU_names, .ref qU_signs, .ref qU_numbers, .ref qU_tests, .ref qU_acts, .int (jI vU_clauses)])), (qS, .inr (8, [.ref qS_stones, .ref qS_strengths, .ref qS_pores, .ref qS_colours, .ref qS_pieces, .int (jI vS_size)])), aI kI qS_pieces 20 fS_pieces] rfl ?_
    have he129 := h129
    have he129 := he129.symm
    subst he129
    exact hret 0 0 132 _ (sm fS_pieces vS_size) (fL_sums, fL_pairs, vL_doubles, vL_learned) (Nat.le_of_ble_eq_true rfl) (Nat.le_of_ble_eq_true rfl) dX9_count_132 (by (try dsimp only); exact (⟨by (repeat' split) <;> omega, hLl, hLS, hLP, hLD⟩))
  refine x_tabOut (tgt := 133) F dX9_count_1 (by omega) (by omega) (by decide) ?_
  refine x_sipush F dX9_count_133 (by decide) ?_
  exact hret 0 0 136 _ (-1002) (fL_sums, fL_pairs, vL_doubles, vL_learned) (Nat.le_of_ble_eq_true rfl) (Nat.le_of_ble_eq_true rfl) dX9_count_136 (by (try dsimp only); exact (⟨by (repeat' split) <;> omega, hLl, hLS, hLP, hLD⟩))
