set_option maxHeartbeats 4000000 in
set_option maxRecDepth 100000 in
theorem c_X9_count (D : va_G) (kI kJ : Nat) (l : Launch) (qK : Nat) (what : Int) (qM : Nat) (qC : Nat) (qL : Nat) (qFr : Nat) (qE : Nat) (qK_facts : Nat) (qN : Nat) (qS : Nat) (qM_stones : Nat) (qM_laid : Nat) (qM_deeps : Nat) (qM_rates : Nat) (qP : Nat) (qT : Nat) (qM_dangers : Nat) (qM_losses : Nat) (vM_size : Int) (vM_limit : Int) (qP_blocks : Nat) (qP_years : Nat) (qP_values : Nat) (qP_since : Nat) (vP_size : Int) (qT_blocks : Nat) (qT_years : Nat) (qT_values : Nat) (qT_since : Nat) (vT_size : Int) (qL_blocks : Nat) (qL_hands : Nat) (qL_years : Nat) (qL_grades : Nat) (qL_sums : Nat) (qL_pairs : Nat) (qL_seen : Nat) (vL_size : Int) (vL_doubles : Int) (vL_learned : Int) (fL_blocks : (Int → Int)) (fL_hands : (Int → Int)) (fL_years : (Int → Int)) (fL_grades : (Int → Int)) (fL_sums : (Int → Int)) (fL_pairs : (Int → Int)) (qE_text : Nat) (vE_size : Int) (vE_next : Int) (vE_fault : Int) (vE_faultAt : Int) (qU : Nat) (qV : Nat) (qU_names : Nat) (qU_signs : Nat) (qU_numbers : Nat) (qU_tests : Nat) (qU_acts : Nat) (vU_clauses : Int) (qS_stones : Nat) (qS_strengths : Nat) (qS_pores : Nat) (qS_colours : Nat) (qS_pieces : Nat) (vS_size : Int) (fS_pieces : (Int → Int)) (hr_what : -2147483648 ≤ what ∧ what < 2147483648) (hLs : 0 ≤ vL_size ∧ vL_size ≤ 80) (hLb : Rg fL_blocks 80 0 29) (hLh : Rg fL_hands 80 0 3) (hLy : Rg fL_years 80 0 400) (hLg : Rg fL_grades 80 0 99) (hLl : 0 ≤ vL_learned ∧ vL_learned ≤ vL_size) (hLS : ∀ k : Int, 0 ≤ k → k < 4 → fL_sums k = hS fL_blocks fL_years fL_hands fL_grades vL_learned k) (hLP : ∀ k : Int, 0 ≤ k → k < 4 → fL_pairs k = hN fL_blocks fL_years fL_hands vL_learned k) (hLD : vL_doubles = dnS fL_blocks fL_years fL_hands vL_learned) (hSs : 0 ≤ vS_size ∧ vS_size ≤ 20) (hS5 : Rg fS_pieces 20 0 99) : xMi D kI kJ l yX9_count wsX9_count 5 119 0 0 [.ref qK, .int (jI what)] [(qK, .inr (9, [.ref qM, .ref qC, .ref qL, .ref qFr, .ref qE, .ref qK_facts, .ref qN, .ref qS])), (qM, .inr (3, [.ref qM_stones, .ref qM_laid, .ref qM_deeps, .ref qM_rates, .ref qP, .ref qT, .ref qM_dangers, .ref qM_losses, .int (jI vM_size), .int (jI vM_limit)])), (qP, .inr (7, [.ref qP_blocks, .ref qP_years, .ref qP_values, .ref qP_since, .int (jI vP_size)])), (qT, .inr (7, [.ref qT_blocks, .ref qT_years, .ref qT_values, .ref qT_since, .int (jI vT_size)])), (qL, .inr (2, [.ref qL_blocks, .ref qL_hands, .ref qL_years, .ref qL_grades, .ref qL_sums, .ref qL_pairs, .ref qL_seen, .int (jI vL_size), .int (jI vL_doubles), .int (jI vL_learned)])), aI kI qL_blocks 80 fL_blocks, aI kI qL_hands 80 fL_hands, aI kI qL_years 80 fL_years, aI kI qL_grades 80 fL_grades, aI kI qL_sums 4 fL_sums, aI kI qL_pairs 4 fL_pairs, (qE, .inr (5, [.ref qE_text, .int (jI vE_size), .int (jI vE_next), .int (jI vE_fault), .int (jI vE_faultAt), .ref qU, .ref qV])), (qU, .inr (6, [.ref qU_names, .ref qU_signs, .ref qU_numbers, .ref qU_tests, .ref qU_acts, .int (jI vU_clauses)])), (qS, .inr (8, [.ref qS_stones, .ref qS_strengths, .ref qS_pores, .ref qS_colours, .ref qS_pieces, .int (jI vS_size)])), aI kI qS_pieces 20 fS_pieces] (fun (z : Int) (u : (Int → Int) × (Int → Int) × Int × Int) => z = (if what = 0 then vM_size else if what = 1 then vP_size else if what = 2 then vT_size else if what = 3 then vL_size else if what = 4 then dnS fL_blocks fL_years fL_hands vL_size else if what = 5 then vU_clauses else if what = 6 then vE_size else if what = 7 then vS_size else if what = 8 then sm fS_pieces vS_size else -1002) ∧ (0 ≤ u.2.2.2 ∧ u.2.2.2 ≤ vL_size) ∧ (∀ k : Int, 0 ≤ k → k < 4 → u.1 k = hS fL_blocks fL_years fL_hands fL_grades u.2.2.2 k) ∧ (∀ k : Int, 0 ≤ k → k < 4 → u.2.1 k = hN fL_blocks fL_years fL_hands u.2.2.2 k) ∧ (u.2.2.1 = dnS fL_blocks fL_years fL_hands u.2.2.2)) (fun (u : (Int → Int) × (Int → Int) × Int × Int) => [(qK, .inr (9, [.ref qM, .ref qC, .ref qL, .ref qFr, .ref qE, .ref qK_facts, .ref qN, .ref qS])), (qM, .inr (3, [.ref qM_stones, .ref qM_laid, .ref qM_deeps, .ref qM_rates, .ref qP, .ref qT, .ref qM_dangers, .ref qM_losses, .int (jI vM_size), .int (jI vM_limit)])), (qP, .inr (7, [.ref qP_blocks, .ref qP_years, .ref qP_values, .ref qP_since, .int (jI vP_size)])), (qT, .inr (7, [.ref qT_blocks, .ref qT_years, .ref qT_values, .ref qT_since, .int (jI vT_size)])), (qL, .inr (2, [.ref qL_blocks, .ref qL_hands, .ref qL_years, .ref qL_grades, .ref qL_sums, .ref qL_pairs, .ref qL_seen, .int (jI vL_size), .int (jI u.2.2.1), .int (jI u.2.2.2)])), aI kI qL_blocks 80 fL_blocks, aI kI qL_hands 80 fL_hands, aI kI qL_years 80 fL_years, aI kI qL_grades 80 fL_grades, aI kI qL_sums 4 u.1, aI kI qL_pairs 4 u.2.1, (qE, .inr (5, [.ref qE_text, .int (jI vE_size), .int (jI vE_next), .int (jI vE_fault), .int (jI vE_faultAt), .ref qU, .ref qV])), (qU, .inr (6, [.ref qU_names, .ref qU_signs, .ref qU_numbers, .ref qU_tests, .ref qU_acts, .int (jI vU_clauses)])), (qS, .inr (8, [.ref qS_stones, .ref qS_strengths, .ref qS_pores, .ref qS_colours, .ref qS_pieces, .int (jI vS_size)])), aI kI qS_pieces 20 fS_pieces]) := by
  refine xMi_of (cc := cX9_count) (maxL := 2) (rt := .int) (by decide) rfl (Nat.le_of_ble_eq_true rfl) (fun _ _ _ => rfl) ?_
  intro p e s m args below meth c A Q F hin2 hret
  have hin2 : ∀ w ∈ wsX20, w ∈ wsX9_count := by decide +kernel
  have hin3 : ∀ w ∈ wsX30, w ∈ wsX9_count := by decide +kernel
  have hin5 : ∀ w ∈ wsX50, w ∈ wsX9_count := by decide +kernel
  have hin6 : ∀ w ∈ wsX60, w ∈ wsX9_count := by decide +kernel
  have hin7 : ∀ w ∈ wsX70, w ∈ wsX9_count := by decide +kernel
  have hin8 : ∀ w ∈ wsX80, w ∈ wsX9_count := by decide +kernel
  have hin9 : ∀ w ∈ wsX90, w ∈ wsX9_count := by decide +kernel
  have hw0 : Cond.fieldLink RX9 12 (TX9 0).1 (TX9 0).2.1 (TX9 0).2.2.1 ∈ wsX9_count := by decide +kernel
  have hw1 : Cond.fieldLink RX9 26 (TX9 2).1 (TX9 2).2.1 (TX9 2).2.2.1 ∈ wsX9_count := by decide +kernel
  have hw2 : Cond.fieldLink RX9 40 (TX9 4).1 (TX9 4).2.1 (TX9 4).2.2.1 ∈ wsX9_count := by decide +kernel
  have hw3 : Cond.fieldLink RX9 58 (TX9 7).1 (TX9 7).2.1 (TX9 7).2.2.1 ∈ wsX9_count := by decide +kernel
  refine x_lveq (lv' := [(0, .ref qK), (1, .int (jI what))]) rfl ?_
  refine x_iload_n F dX9_count_0 rfl 1 rfl ?_
  by_cases c1_0 : what = 0
  · -- 1 case 0
    refine x_tabIn (tgt := 52) F 0 dX9_count_1 (by decide) c1_0 (by decide) rfl (by decide) ?_
    refine x_aload_n F dX9_count_52 rfl 0 rfl ?_
    refine x_get (ci := 9) F hin9 0 rfl rfl 0 (by decide) hw0 rfl dX9_count_53 ?_
    refine x_getN (ci := 3) F hin3 1 rfl rfl 8 (by decide) (nF5 F.2.2.2.2.2.2.2) rfl dX9_count_56 ?_
    exact hret 0 0 59 _ vM_size (fL_sums, fL_pairs, vL_doubles, vL_learned) (Nat.le_of_ble_eq_true rfl) (Nat.le_of_ble_eq_true rfl) dX9_count_59 (by (try dsimp only); exact (⟨by (repeat' split) <;> omega, hLl, hLS, hLP, hLD⟩))
  by_cases c1_1 : what = 1
  · -- 1 case 1
    refine x_tabIn (tgt := 60) F 1 dX9_count_1 (by decide) c1_1 (by decide) rfl (by decide) ?_
    refine x_aload_n F dX9_count_60 rfl 0 rfl ?_
    refine x_get (ci := 9) F hin9 0 rfl rfl 0 (by decide) hw0 rfl dX9_count_61 ?_
    refine x_getN (ci := 3) F hin3 1 rfl rfl 4 (by decide) (nF2 F.2.2.2.2.2.2.2) rfl dX9_count_64 ?_
    refine x_getN (ci := 7) F hin7 2 rfl rfl 4 (by decide) (nF0 F.2.2.2.2.2.2.2) rfl dX9_count_67 ?_
    exact hret 0 0 70 _ vP_size (fL_sums, fL_pairs, vL_doubles, vL_learned) (Nat.le_of_ble_eq_true rfl) (Nat.le_of_ble_eq_true rfl) dX9_count_70 (by (try dsimp only); exact (⟨by (repeat' split) <;> omega, hLl, hLS, hLP, hLD⟩))
  by_cases c1_2 : what = 2
  · -- 1 case 2
    refine x_tabIn (tgt := 71) F 2 dX9_count_1 (by decide) c1_2 (by decide) rfl (by decide) ?_
    refine x_aload_n F dX9_count_71 rfl 0 rfl ?_
    refine x_get (ci := 9) F hin9 0 rfl rfl 0 (by decide) hw0 rfl dX9_count_72 ?_
    refine x_getN (ci := 3) F hin3 1 rfl rfl 5 (by decide) (nF4 F.2.2.2.2.2.2.2) rfl dX9_count_75 ?_
    refine x_getN (ci := 7) F hin7 3 rfl rfl 4 (by decide) (nF0 F.2.2.2.2.2.2.2) rfl dX9_count_78 ?_
    exact hret 0 0 81 _ vT_size (fL_sums, fL_pairs, vL_doubles, vL_learned) (Nat.le_of_ble_eq_true rfl) (Nat.le_of_ble_eq_true rfl) dX9_count_81 (by (try dsimp only); exact (⟨by (repeat' split) <;> omega, hLl, hLS, hLP, hLD⟩))
  by_cases c1_3 : what = 3
  · -- 1 case 3
    refine x_tabIn (tgt := 82) F 3 dX9_count_1 (by decide) c1_3 (by decide) rfl (by decide) ?_
    refine x_aload_n F dX9_count_82 rfl 0 rfl ?_
    refine x_get (ci := 9) F hin9 0 rfl rfl 2 (by decide) hw1 rfl dX9_count_83 ?_
    refine x_getN (ci := 2) F hin2 4 rfl rfl 7 (by decide) (nF8 F.2.2.2.2.2.2.2) rfl dX9_count_86 ?_
    exact hret 0 0 89 _ vL_size (fL_sums, fL_pairs, vL_doubles, vL_learned) (Nat.le_of_ble_eq_true rfl) (Nat.le_of_ble_eq_true rfl) dX9_count_89 (by (try dsimp only); exact (⟨by (repeat' split) <;> omega, hLl, hLS, hLP, hLD⟩))
  by_cases c1_4 : what = 4
  · -- 1 case 4
    refine x_tabIn (tgt := 90) F 4 dX9_count_1 (by decide) c1_4 (by decide) rfl (by decide) ?_
    refine x_aload_n F dX9_count_90 rfl 0 rfl ?_
    refine x_get (ci := 9) F hin9 0 rfl rfl 2 (by decide) hw1 rfl dX9_count_91 ?_
    refine x_callVi (ci := 2) (q0 := 4) (As := []) (st := []) F (c_X2_countDoubles D kI kJ l qL qL_blocks qL_hands qL_years qL_grades qL_sums qL_pairs qL_seen vL_size vL_doubles vL_learned fL_blocks fL_hands fL_years fL_grades fL_sums fL_pairs hLs hLb hLh hLy hLg hLl hLS hLP hLD) (cwV 0 F.2.2.2.2.1 gX9_count_X2_countDoubles rfl rfl rfl (by decide +kernel) ⟨Nat.le_of_ble_eq_true rfl, Nat.le_of_ble_eq_true rfl⟩) rfl rfl [4, 5, 6, 7, 8, 9, 10] [0, 1, 2, 3, 11, 12, 13, 14] [0, 1, 2, 3, 8, 9, 10, 11, 12, 13, 14, 4, 5, 6, 7] rfl rfl (by decide) (by decide) (by decide) (fun _ => rfl) (by decide) rfl (Nat.le_of_ble_eq_true rfl) dX9_count_94 ⟨Nat.le_of_ble_eq_true rfl, Nat.le_of_ble_eq_true rfl⟩ (fun z94 u94 h94 => ?_)
    obtain ⟨s2_94, p2_94, d2_94⟩ := u94
    try dsimp only at h94
    refine x_ws [(qK, .inr (9, [.ref qM, .ref qC, .ref qL, .ref qFr, .ref qE, .ref qK_facts, .ref qN, .ref qS])), (qM, .inr (3, [.ref qM_stones, .ref qM_laid, .ref qM_deeps, .ref qM_rates, .ref qP, .ref qT, .ref qM_dangers, .ref qM_losses, .int (jI vM_size), .int (jI vM_limit)])), (qP, .inr (7, [.ref qP_blocks, .ref qP_years, .ref qP_values, .ref qP_since, .int (jI vP_size)])), (qT, .inr (7, [.ref qT_blocks, .ref qT_years, .ref qT_values, .ref qT_since, .int (jI vT_size)])), (qL, .inr (2, [.ref qL_blocks, .ref qL_hands, .ref qL_years, .ref qL_grades, .ref qL_sums, .ref qL_pairs, .ref qL_seen, .int (jI vL_size), .int (jI d2_94), .int (jI vL_size)])), aI kI qL_blocks 80 fL_blocks, aI kI qL_hands 80 fL_hands, aI kI qL_years 80 fL_years, aI kI qL_grades 80 fL_grades, aI kI qL_sums 4 s2_94, aI kI qL_pairs 4 p2_94, (qE, .inr (5, [.ref qE_text, .int (jI vE_size), .int (jI vE_next), .int (jI vE_fault), .int (jI vE_faultAt), .ref qU, .ref qV])), (qU, .inr (6, [.ref qU_names, .ref qU_signs, .ref qU_numbers, .ref qU_tests, .ref qU_acts, .int (jI vU_clauses)])), (qS, .inr (8, [.ref qS_stones, .ref qS_strengths, .ref qS_pores, .ref qS_colours, .ref qS_pieces, .int (jI vS_size)])), aI kI qS_pieces 20 fS_pieces] rfl ?_
    obtain ⟨he94, hs_94, hp_94, hd_94⟩ := h94
    have he94 := he94.symm
    subst he94
    exact hret 0 0 97 _ (dnS fL_blocks fL_years fL_hands vL_size) (s2_94, p2_94, d2_94, vL_size) (Nat.le_of_ble_eq_true rfl) (Nat.le_of_ble_eq_true rfl) dX9_count_97 (by (try dsimp only); exact (⟨by (repeat' split) <;> omega, ⟨hLs.1, Int.le_refl _⟩, hs_94, hp_94, hd_94⟩))
  by_cases c1_5 : what = 5
  · -- 1 case 5
    refine x_tabIn (tgt := 98) F 5 dX9_count_1 (by decide) c1_5 (by decide) rfl (by decide) ?_
    refine x_aload_n F dX9_count_98 rfl 0 rfl ?_
    refine x_get (ci := 9) F hin9 0 rfl rfl 4 (by decide) hw2 rfl dX9_count_99 ?_
    refine x_getN (ci := 5) F hin5 11 rfl rfl 5 (by decide) (nF13 F.2.2.2.2.2.2.2) rfl dX9_count_102 ?_
    refine x_getN (ci := 6) F hin6 12 rfl rfl 5 (by decide) (nF10 F.2.2.2.2.2.2.2) rfl dX9_count_105 ?_
    exact hret 0 0 108 _ vU_clauses (fL_sums, fL_pairs, vL_doubles, vL_learned) (Nat.le_of_ble_eq_true rfl) (Nat.le_of_ble_eq_true rfl) dX9_count_108 (by (try dsimp only); exact (⟨by (repeat' split) <;> omega, hLl, hLS, hLP, hLD⟩))
  by_cases c1_6 : what = 6
  · -- 1 case 6
    refine x_tabIn (tgt := 109) F 6 dX9_count_1 (by decide) c1_6 (by decide) rfl (by decide) ?_
    refine x_aload_n F dX9_count_109 rfl 0 rfl ?_
    refine x_get (ci := 9) F hin9 0 rfl rfl 4 (by decide) hw2 rfl dX9_count_110 ?_
    refine x_getN (ci := 5) F hin5 11 rfl rfl 1 (by decide) (nF11 F.2.2.2.2.2.2.2) rfl dX9_count_113 ?_
    exact hret 0 0 116 _ vE_size (fL_sums, fL_pairs, vL_doubles, vL_learned) (Nat.le_of_ble_eq_true rfl) (Nat.le_of_ble_eq_true rfl) dX9_count_116 (by (try dsimp only); exact (⟨by (repeat' split) <;> omega, hLl, hLS, hLP, hLD⟩))
  by_cases c1_7 : what = 7
  · -- 1 case 7
    refine x_tabIn (tgt := 117) F 7 dX9_count_1 (by decide) c1_7 (by decide) rfl (by decide) ?_
    refine x_aload_n F dX9_count_117 rfl 0 rfl ?_
    refine x_get (ci := 9) F hin9 0 rfl rfl 7 (by decide) hw3 rfl dX9_count_118 ?_
    refine x_getN (ci := 8) F hin8 13 rfl rfl 5 (by decide) (nF15 F.2.2.2.2.2.2.2) rfl dX9_count_121 ?_
    exact hret 0 0 124 _ vS_size (fL_sums, fL_pairs, vL_doubles, vL_learned) (Nat.le_of_ble_eq_true rfl) (Nat.le_of_ble_eq_true rfl) dX9_count_124 (by (try dsimp only); exact (⟨by (repeat' split) <;> omega, hLl, hLS, hLP, hLD⟩))
  by_cases c1_8 : what = 8
  · -- 1 case 8
    refine x_tabIn (tgt := 125) F 8 dX9_count_1 (by decide) c1_8 (by decide) rfl (by decide) ?_
    refine x_aload_n F dX9_count_125 rfl 0 rfl ?_
    refine x_get (ci := 9) F hin9 0 rfl rfl 7 (by decide) hw3 rfl dX9_count_126 ?_
    refine x_callVi (ci := 8) (q0 := 13) (As := []) (st := []) F (c_X8_countPieces D kI kJ l qS qS_stones qS_strengths qS_pores qS_colours qS_pieces vS_size fS_pieces hSs hS5) (cwV 0 F.2.2.2.2.1 gX9_count_X8_countPieces rfl rfl rfl (by decide +kernel) ⟨Nat.le_of_ble_eq_true rfl, Nat.le_of_ble_eq_true rfl⟩) rfl rfl [13, 14] [0, 1, 2, 3, 4, 5, 6, 7, 8, 9, 10, 11, 12] [0, 1, 2, 3, 4, 5, 6, 7, 8, 9, 10, 11, 12, 13, 14] rfl rfl (by decide) (by decide) (by decide) (fun _ => rfl) (by decide) rfl (Nat.le_of_ble_eq_true rfl) dX9_count_129 ⟨Nat.le_of_ble_eq_true rfl, Nat.le_of_ble_eq_true rfl⟩ (fun z129 u129 h129 => ?_)
    try dsimp only at h129
    refine x_ws [(qK, .inr (9, [.ref qM, .ref qC, .ref qL, .ref qFr, .ref qE, .ref qK_facts, .ref qN, .ref qS])), (qM, .inr (3, [.ref qM_stones, .ref qM_laid, .ref qM_deeps, .ref qM_rates, .ref qP, .ref qT, .ref qM_dangers, .ref qM_losses, .int (jI vM_size), .int (jI vM_limit)])), (qP, .inr (7, [.ref qP_blocks, .ref qP_years, .ref qP_values, .ref qP_since, .int (jI vP_size)])), (qT, .inr (7, [.ref qT_blocks, .ref qT_years, .ref qT_values, .ref qT_since, .int (jI vT_size)])), (qL, .inr (2, [.ref qL_blocks, .ref qL_hands, .ref qL_years, .ref qL_grades, .ref qL_sums, .ref qL_pairs, .ref qL_seen, .int (jI vL_size), .int (jI vL_doubles), .int (jI vL_learned)])), aI kI qL_blocks 80 fL_blocks, aI kI qL_hands 80 fL_hands, aI kI qL_years 80 fL_years, aI kI qL_grades 80 fL_grades, aI kI qL_sums 4 fL_sums, aI kI qL_pairs 4 fL_pairs, (qE, .inr (5, [.ref qE_text, .int (jI vE_size), .int (jI vE_next), .int (jI vE_fault), .int (jI vE_faultAt), .ref qU, .ref qV])), (qU, .inr (6, [.ref qU_names, .ref qU_signs, .ref qU_numbers, .ref qU_tests, .ref qU_acts, .int (jI vU_clauses)])), (qS, .inr (8, [.ref qS_stones, .ref qS_strengths, .ref qS_pores, .ref qS_colours, .ref qS_pieces, .int (jI vS_size)])), aI kI qS_pieces 20 fS_pieces] rfl ?_
    have he129 := h129
    have he129 := he129.symm
    subst he129
    exact hret 0 0 132 _ (sm fS_pieces vS_size) (fL_sums, fL_pairs, vL_doubles, vL_learned) (Nat.le_of_ble_eq_true rfl) (Nat.le_of_ble_eq_true rfl) dX9_count_132 (by (try dsimp only); exact (⟨by (repeat' split) <;> omega, hLl, hLS, hLP, hLD⟩))
  refine x_tabOut (tgt := 133) F dX9_count_1 (by omega) (by omega) (by decide) ?_
  refine x_sipush F dX9_count_133 (by decide) ?_
  exact hret 0 0 136 _ (-1002) (fL_sums, fL_pairs, vL_doubles, vL_learned) (Nat.le_of_ble_eq_true rfl) (Nat.le_of_ble_eq_true rfl) dX9_count_136 (by (try dsimp only); exact (⟨by (repeat' split) <;> omega, hLl, hLS, hLP, hLD⟩))
set_option maxHeartbeats 4000000 in
set_option maxRecDepth 100000 in
theorem c_X9_look (D : va_G) (kI kJ : Nat) (l : Launch) (qK : Nat) (b : Int) (hand : Int) (year : Int) (grade : Int) (qM : Nat) (qC : Nat) (qL : Nat) (qFr : Nat) (qE : Nat) (qK_facts : Nat) (qN : Nat) (qS : Nat) (qM_stones : Nat) (qM_laid : Nat) (qM_deeps : Nat) (qM_rates : Nat) (qP : Nat) (qT : Nat) (qM_dangers : Nat) (qM_losses : Nat) (vM_size : Int) (vM_limit : Int) (qL_blocks : Nat) (qL_hands : Nat) (qL_years : Nat) (qL_grades : Nat) (qL_sums : Nat) (qL_pairs : Nat) (qL_seen : Nat) (vL_size : Int) (vL_doubles : Int) (vL_learned : Int) (fL_blocks : (Int → Int)) (fL_hands : (Int → Int)) (fL_years : (Int → Int)) (fL_grades : (Int → Int)) (hr_b : -2147483648 ≤ b ∧ b < 2147483648) (hr_hand : -2147483648 ≤ hand ∧ hand < 2147483648) (hr_year : -2147483648 ≤ year ∧ year < 2147483648) (hr_grade : -2147483648 ≤ grade ∧ grade < 2147483648) (hMs : 0 ≤ vM_size ∧ vM_size ≤ 30) (hLs : 0 ≤ vL_size ∧ vL_size ≤ 80) : xMi D kI kJ l yX9_look wsX9_look 3 77 0 0 [.ref qK, .int (jI b), .int (jI hand), .int (jI year), .int (jI grade)] [(qK, .inr (9, [.ref qM, .ref qC, .ref qL, .ref qFr, .ref qE, .ref qK_facts, .ref qN, .ref qS])), (qM, .inr (3, [.ref qM_stones, .ref qM_laid, .ref qM_deeps, .ref qM_rates, .ref qP, .ref qT, .ref qM_dangers, .ref qM_losses, .int (jI vM_size), .int (jI vM_limit)])), (qL, .inr (2, [.ref qL_blocks, .ref qL_hands, .ref qL_years, .ref qL_grades, .ref qL_sums, .ref qL_pairs, .ref qL_seen, .int (jI vL_size), .int (jI vL_doubles), .int (jI vL_learned)])), aI kI qL_blocks 80 fL_blocks, aI kI qL_hands 80 fL_hands, aI kI qL_years 80 fL_years, aI kI qL_grades 80 fL_grades] (fun (z : Int) (u : Int × (Int → Int) × (Int → Int) × (Int → Int) × (Int → Int)) => (((¬ (0 ≤ b ∧ b < vM_size)) ∧ z = -1001 ∧ u.1 = vL_size ∧ u.2.1 = fL_blocks ∧ u.2.2.1 = fL_hands ∧ u.2.2.2.1 = fL_years ∧ u.2.2.2.2 = fL_grades) ∨ (((0 ≤ b ∧ b < vM_size) ∧ ¬ ((0 ≤ hand ∧ hand ≤ 3) ∧ (0 ≤ year ∧ year ≤ 400) ∧ 0 ≤ grade ∧ grade ≤ 99)) ∧ z = -1002 ∧ u.1 = vL_size ∧ u.2.1 = fL_blocks ∧ u.2.2.1 = fL_hands ∧ u.2.2.2.1 = fL_years ∧ u.2.2.2.2 = fL_grades) ∨ (((0 ≤ b ∧ b < vM_size) ∧ ((0 ≤ hand ∧ hand ≤ 3) ∧ (0 ≤ year ∧ year ≤ 400) ∧ 0 ≤ grade ∧ grade ≤ 99) ∧ vL_size = 80) ∧ z = -1004 ∧ u.1 = vL_size ∧ u.2.1 = fL_blocks ∧ u.2.2.1 = fL_hands ∧ u.2.2.2.1 = fL_years ∧ u.2.2.2.2 = fL_grades) ∨ (((0 ≤ b ∧ b < vM_size) ∧ ((0 ≤ hand ∧ hand ≤ 3) ∧ (0 ≤ year ∧ year ≤ 400) ∧ 0 ≤ grade ∧ grade ≤ 99) ∧ vL_size < 80) ∧ z = vL_size ∧ u.1 = vL_size + 1 ∧ u.2.1 = iU fL_blocks vL_size b ∧ u.2.2.1 = iU fL_hands vL_size hand ∧ u.2.2.2.1 = iU fL_years vL_size year ∧ u.2.2.2.2 = iU fL_grades vL_size grade))) (fun (u : Int × (Int → Int) × (Int → Int) × (Int → Int) × (Int → Int)) => [(qK, .inr (9, [.ref qM, .ref qC, .ref qL, .ref qFr, .ref qE, .ref qK_facts, .ref qN, .ref qS])), (qM, .inr (3, [.ref qM_stones, .ref qM_laid, .ref qM_deeps, .ref qM_rates, .ref qP, .ref qT, .ref qM_dangers, .ref qM_losses, .int (jI vM_size), .int (jI vM_limit)])), (qL, .inr (2, [.ref qL_blocks, .ref qL_hands, .ref qL_years, .ref qL_grades, .ref qL_sums, .ref qL_pairs, .ref qL_seen, .int (jI u.1), .int (jI vL_doubles), .int (jI vL_learned)])), aI kI qL_blocks 80 u.2.1, aI kI qL_hands 80 u.2.2.1, aI kI qL_years 80 u.2.2.2.1, aI kI qL_grades 80 u.2.2.2.2]) := by
  refine xMi_of (cc := cX9_look) (maxL := 5) (rt := .int) (by decide) rfl (Nat.le_of_ble_eq_true rfl) (fun _ _ _ => rfl) ?_
  intro p e s m args below meth c A Q F hin2 hret
  have hin9 : ∀ w ∈ wsX90, w ∈ wsX9_look := by decide +kernel
  have hw0 : Cond.fieldLink RX9 12 (TX9 0).1 (TX9 0).2.1 (TX9 0).2.2.1 ∈ wsX9_look := by decide +kernel
  have hw1 : Cond.fieldLink RX9 26 (TX9 2).1 (TX9 2).2.1 (TX9 2).2.2.1 ∈ wsX9_look := by decide +kernel
  refine x_lveq (lv' := [(0, .ref qK), (1, .int (jI b)), (2, .int (jI hand)), (3, .int (jI year)), (4, .int (jI grade))]) rfl ?_
  refine x_aload_n F dX9_look_0 rfl 0 rfl ?_
  refine x_get (ci := 9) F hin9 0 rfl rfl 0 (by decide) hw0 rfl dX9_look_1 ?_
  refine x_iload_n F dX9_look_4 rfl 1 rfl ?_
  refine x_callVi (ci := 3) (q0 := 1) (As := [.int (jI b)]) (st := []) F (c_X3_hasBlock D kI kJ l qM b qM_stones qM_laid qM_deeps qM_rates qP qT qM_dangers qM_losses vM_size vM_limit hr_b hMs) (cwV 1 F.2.2.2.2.1 gX9_look_X3_hasBlock rfl rfl rfl (by decide +kernel) ⟨Nat.le_of_ble_eq_true rfl, Nat.le_of_ble_eq_true rfl⟩) rfl rfl [1] [0, 2, 3, 4, 5, 6] [0, 6, 1, 2, 3, 4, 5] rfl rfl (by decide) (by decide) (by decide) (fun _ => rfl) (by decide) rfl (Nat.le_of_ble_eq_true rfl) dX9_look_5 ⟨Nat.le_of_ble_eq_true rfl, Nat.le_of_ble_eq_true rfl⟩ (fun z5 u5 h5 => ?_)
  try dsimp only at h5
  refine x_ws [(qK, .inr (9, [.ref qM, .ref qC, .ref qL, .ref qFr, .ref qE, .ref qK_facts, .ref qN, .ref qS])), (qM, .inr (3, [.ref qM_stones, .ref qM_laid, .ref qM_deeps, .ref qM_rates, .ref qP, .ref qT, .ref qM_dangers, .ref qM_losses, .int (jI vM_size), .int (jI vM_limit)])), (qL, .inr (2, [.ref qL_blocks, .ref qL_hands, .ref qL_years, .ref qL_grades, .ref qL_sums, .ref qL_pairs, .ref qL_seen, .int (jI vL_size), .int (jI vL_doubles), .int (jI vL_learned)])), aI kI qL_blocks 80 fL_blocks, aI kI qL_hands 80 fL_hands, aI kI qL_years 80 fL_years, aI kI qL_grades 80 fL_grades] rfl ?_
  have hb5 := h5
  refine x_bne (tgt := 15) F dX9_look_8 (by decide) hb5 (fun c8 => ?_) (fun c8 => ?_)
  · -- 8 t
    refine x_iload_n F dX9_look_15 rfl 2 rfl ?_
    refine x_iconst F dX9_look_16 ?_
    refine x_callSi (As := [.int (jI hand), .int (jI 4)]) (st := []) F (c_X9_isBelow D kI kJ l hand 4 (by omega) (by omega)) (va_cwS 2 F.2.2.2.2.1 gX9_look_X9_isBelow rfl rfl rfl (by decide +kernel) ⟨Nat.le_of_ble_eq_true rfl, Nat.le_of_ble_eq_true rfl⟩) [] [0, 1, 2, 3, 4, 5, 6] [0, 1, 2, 3, 4, 5, 6] rfl rfl (by decide) (by decide) (by decide) (fun _ => rfl) (by decide) rfl (Nat.le_of_ble_eq_true rfl) dX9_look_17 ⟨Nat.le_of_ble_eq_true rfl, Nat.le_of_ble_eq_true rfl⟩ (fun z17 u17 h17 => ?_)
    try dsimp only at h17
    refine x_ws [(qK, .inr (9, [.ref qM, .ref qC, .ref qL, .ref qFr, .ref qE, .ref qK_facts, .ref qN, .ref qS])), (qM, .inr (3, [.ref qM_stones, .ref qM_laid, .ref qM_deeps, .ref qM_rates, .ref qP, .ref qT, .ref qM_dangers, .ref qM_losses, .int (jI vM_size), .int (jI vM_limit)])), (qL, .inr (2, [.ref qL_blocks, .ref qL_hands, .ref qL_years, .ref qL_grades, .ref qL_sums, .ref qL_pairs, .ref qL_seen, .int (jI vL_size), .int (jI vL_doubles), .int (jI vL_learned)])), aI kI qL_blocks 80 fL_blocks, aI kI qL_hands 80 fL_hands, aI kI qL_years 80 fL_years, aI kI qL_grades 80 fL_grades] rfl ?_
    have hb17 := h17
    refine x_beq (tgt := 45) F dX9_look_20 (by decide) hb17 (fun c20 => ?_) (fun c20 => ?_)
    · -- 20 t
      refine x_sipush F dX9_look_45 (by decide) ?_
      exact hret 0 0 48 _ (-1002) (vL_size, fL_blocks, fL_hands, fL_years, fL_grades) (Nat.le_of_ble_eq_true rfl) (Nat.le_of_ble_eq_true rfl) dX9_look_48 (by (try dsimp only); exact (by first | exact Or.inl (⟨by omega, (by first | rfl | omega), (by first | rfl | omega), (by first | rfl | omega), (by first | rfl | omega), (by first | rfl | omega), (by first | rfl | omega)⟩) | exact Or.inr (Or.inl (⟨by omega, (by first | rfl | omega), (by first | rfl | omega), (by first | rfl | omega), (by first | rfl | omega), (by first | rfl | omega), (by first | rfl | omega)⟩)) | exact Or.inr (Or.inr (Or.inl (⟨by omega, (by first | rfl | omega), (by first | rfl | omega), (by first | rfl | omega), (by first | rfl | omega), (by first | rfl | omega), (by first | rfl | omega)⟩))) | exact Or.inr (Or.inr (Or.inr (⟨by omega, (by first | rfl | omega), (by first | rfl | omega), (by first | rfl | omega), (by first | rfl | omega), (by first | rfl | omega), (by first | rfl | omega)⟩)))))
    · -- 20 f
      refine x_iload_n F dX9_look_23 rfl 3 rfl ?_
      refine x_sipush F dX9_look_24 (by decide) ?_
      refine x_callSi (As := [.int (jI year), .int (jI 401)]) (st := []) F (c_X9_isBelow D kI kJ l year 401 (by omega) (by omega)) (va_cwS 2 F.2.2.2.2.1 gX9_look_X9_isBelow rfl rfl rfl (by decide +kernel) ⟨Nat.le_of_ble_eq_true rfl, Nat.le_of_ble_eq_true rfl⟩) [] [0, 1, 2, 3, 4, 5, 6] [0, 1, 2, 3, 4, 5, 6] rfl rfl (by decide) (by decide) (by decide) (fun _ => rfl) (by decide) rfl (Nat.le_of_ble_eq_true rfl) dX9_look_27 ⟨Nat.le_of_ble_eq_true rfl, Nat.le_of_ble_eq_true rfl⟩ (fun z27 u27 h27 => ?_)
      try dsimp only at h27
      refine x_ws [(qK, .inr (9, [.ref qM, .ref qC, .ref qL, .ref qFr, .ref qE, .ref qK_facts, .ref qN, .ref qS])), (qM, .inr (3, [.ref qM_stones, .ref qM_laid, .ref qM_deeps, .ref qM_rates, .ref qP, .ref qT, .ref qM_dangers, .ref qM_losses, .int (jI vM_size), .int (jI vM_limit)])), (qL, .inr (2, [.ref qL_blocks, .ref qL_hands, .ref qL_years, .ref qL_grades, .ref qL_sums, .ref qL_pairs, .ref qL_seen, .int (jI vL_size), .int (jI vL_doubles), .int (jI vL_learned)])), aI kI qL_blocks 80 fL_blocks, aI kI qL_hands 80 fL_hands, aI kI qL_years 80 fL_years, aI kI qL_grades 80 fL_grades] rfl ?_
      have hb27 := h27
      refine x_beq (tgt := 45) F dX9_look_30 (by decide) hb27 (fun c30 => ?_) (fun c30 => ?_)
      · -- 30 t
        refine x_sipush F dX9_look_45 (by decide) ?_
        exact hret 0 0 48 _ (-1002) (vL_size, fL_blocks, fL_hands, fL_years, fL_grades) (Nat.le_of_ble_eq_true rfl) (Nat.le_of_ble_eq_true rfl) dX9_look_48 (by (try dsimp only); exact (by first | exact Or.inl (⟨by omega, (by first | rfl | omega), (by first | rfl | omega), (by first | rfl | omega), (by first | rfl | omega), (by first | rfl | omega), (by first | rfl | omega)⟩) | exact Or.inr (Or.inl (⟨by omega, (by first | rfl | omega), (by first | rfl | omega), (by first | rfl | omega), (by first | rfl | omega), (by first | rfl | omega), (by first | rfl | omega)⟩)) | exact Or.inr (Or.inr (Or.inl (⟨by omega, (by first | rfl | omega), (by first | rfl | omega), (by first | rfl | omega), (by first | rfl | omega), (by first | rfl | omega), (by first | rfl | omega)⟩))) | exact Or.inr (Or.inr (Or.inr (⟨by omega, (by first | rfl | omega), (by first | rfl | omega), (by first | rfl | omega), (by first | rfl | omega), (by first | rfl | omega), (by first | rfl | omega)⟩)))))
      · -- 30 f
        refine x_iload F dX9_look_33 4 rfl ?_
        refine x_if_lt (tgt := 45) F dX9_look_35 (by decide) (by omega) (fun c35 => ?_) (fun c35 => ?_)
        · -- 35 t
          refine x_sipush F dX9_look_45 (by decide) ?_
          exact hret 0 0 48 _ (-1002) (vL_size, fL_blocks, fL_hands, fL_years, fL_grades) (Nat.le_of_ble_eq_true rfl) (Nat.le_of_ble_eq_true rfl) dX9_look_48 (by (try dsimp only); exact (by first | exact Or.inl (⟨by omega, (by first | rfl | omega), (by first | rfl | omega), (by first | rfl | omega), (by first | rfl | omega), (by first | rfl | omega), (by first | rfl | omega)⟩) | exact Or.inr (Or.inl (⟨by omega, (by first | rfl | omega), (by first | rfl | omega), (by first | rfl | omega), (by first | rfl | omega), (by first | rfl | omega), (by first | rfl | omega)⟩)) | exact Or.inr (Or.inr (Or.inl (⟨by omega, (by first | rfl | omega), (by first | rfl | omega), (by first | rfl | omega), (by first | rfl | omega), (by first | rfl | omega), (by first | rfl | omega)⟩))) | exact Or.inr (Or.inr (Or.inr (⟨by omega, (by first | rfl | omega), (by first | rfl | omega), (by first | rfl | omega), (by first | rfl | omega), (by first | rfl | omega), (by first | rfl | omega)⟩)))))
        · -- 35 f
          refine x_iload F dX9_look_38 4 rfl ?_
          refine x_bipush F dX9_look_40 (by decide) ?_
          refine x_icmp_le (tgt := 49) F dX9_look_42 (by decide) (by omega) (fun c42 => ?_) (fun c42 => ?_)
          · -- 42 t
            refine x_aload_n F dX9_look_49 rfl 0 rfl ?_
            refine x_get (ci := 9) F hin9 0 rfl rfl 2 (by decide) hw1 rfl dX9_look_50 ?_
            refine x_iload_n F dX9_look_53 rfl 1 rfl ?_
            refine x_iload_n F dX9_look_54 rfl 2 rfl ?_
            refine x_iload_n F dX9_look_55 rfl 3 rfl ?_
            refine x_iload F dX9_look_56 4 rfl ?_
            by_cases hf58 : vL_size < 80
            · -- fork 58 t
              refine x_callVi (ci := 2) (q0 := 2) (As := [.int (jI b), .int (jI hand), .int (jI year), .int (jI grade)]) (st := []) F (c_X2_add_ok D kI kJ l qL b hand year grade qL_blocks qL_hands qL_years qL_grades qL_sums qL_pairs qL_seen vL_size vL_doubles vL_learned fL_blocks fL_hands fL_years fL_grades hr_b hr_hand hr_year hr_grade (by omega)) (cwV 4 F.2.2.2.2.1 gX9_look_X2_add rfl rfl rfl (by decide +kernel) ⟨Nat.le_of_ble_eq_true rfl, Nat.le_of_ble_eq_true rfl⟩) rfl rfl [2, 3, 4, 5, 6] [0, 1] [0, 1, 2, 3, 4, 5, 6] rfl rfl (by decide) (by decide) (by decide) (fun _ => rfl) (by decide) rfl (Nat.le_of_ble_eq_true rfl) dX9_look_58 ⟨Nat.le_of_ble_eq_true rfl, Nat.le_of_ble_eq_true rfl⟩ (fun z58 u58 h58 => ?_)
              try dsimp only at h58
              refine x_ws [(qK, .inr (9, [.ref qM, .ref qC, .ref qL, .ref qFr, .ref qE, .ref qK_facts, .ref qN, .ref qS])), (qM, .inr (3, [.ref qM_stones, .ref qM_laid, .ref qM_deeps, .ref qM_rates, .ref qP, .ref qT, .ref qM_dangers, .ref qM_losses, .int (jI vM_size), .int (jI vM_limit)])), (qL, .inr (2, [.ref qL_blocks, .ref qL_hands, .ref qL_years, .ref qL_grades, .ref qL_sums, .ref qL_pairs, .ref qL_seen, .int (jI (vL_size + 1)), .int (jI vL_doubles), .int (jI vL_learned)])), aI kI qL_blocks 80 (iU fL_blocks vL_size b), aI kI qL_hands 80 (iU fL_hands vL_size hand), aI kI qL_years 80 (iU fL_years vL_size year), aI kI qL_grades 80 (iU fL_grades vL_size grade)] rfl ?_
              have he58 := h58
              have he58 := he58.symm
              subst he58
              exact hret 0 0 61 _ vL_size ((vL_size + 1), (iU fL_blocks vL_size b), (iU fL_hands vL_size hand), (iU fL_years vL_size year), (iU fL_grades vL_size grade)) (Nat.le_of_ble_eq_true rfl) (Nat.le_of_ble_eq_true rfl) dX9_look_61 (by (try dsimp only); exact (by first | exact Or.inl (⟨by omega, (by first | rfl | omega), (by first | rfl | omega), (by first | rfl | omega), (by first | rfl | omega), (by first | rfl | omega), (by first | rfl | omega)⟩) | exact Or.inr (Or.inl (⟨by omega, (by first | rfl | omega), (by first | rfl | omega), (by first | rfl | omega), (by first | rfl | omega), (by first | rfl | omega), (by first | rfl | omega)⟩)) | exact Or.inr (Or.inr (Or.inl (⟨by omega, (by first | rfl | omega), (by first | rfl | omega), (by first | rfl | omega), (by first | rfl | omega), (by first | rfl | omega), (by first | rfl | omega)⟩))) | exact Or.inr (Or.inr (Or.inr (⟨by omega, (by first | rfl | omega), (by first | rfl | omega), (by first | rfl | omega), (by first | rfl | omega), (by first | rfl | omega), (by first | rfl | omega)⟩)))))
            · -- fork 58 f
              refine x_callVi (ci := 2) (q0 := 2) (As := [.int (jI b), .int (jI hand), .int (jI year), .int (jI grade)]) (st := []) F (c_X2_add_full D kI kJ l qL b hand year grade qL_blocks qL_hands qL_years qL_grades qL_sums qL_pairs qL_seen vL_size vL_doubles vL_learned fL_blocks fL_hands fL_years fL_grades hr_b hr_hand hr_year hr_grade (by omega)) (cwV 4 F.2.2.2.2.1 gX9_look_X2_add rfl rfl rfl (by decide +kernel) ⟨Nat.le_of_ble_eq_true rfl, Nat.le_of_ble_eq_true rfl⟩) rfl rfl [2, 3, 4, 5, 6] [0, 1] [0, 1, 2, 3, 4, 5, 6] rfl rfl (by decide) (by decide) (by decide) (fun _ => rfl) (by decide) rfl (Nat.le_of_ble_eq_true rfl) dX9_look_58 ⟨Nat.le_of_ble_eq_true rfl, Nat.le_of_ble_eq_true rfl⟩ (fun z58 u58 h58 => ?_)
              try dsimp only at h58
              refine x_ws [(qK, .inr (9, [.ref qM, .ref qC, .ref qL, .ref qFr, .ref qE, .ref qK_facts, .ref qN, .ref qS])), (qM, .inr (3, [.ref qM_stones, .ref qM_laid, .ref qM_deeps, .ref qM_rates, .ref qP, .ref qT, .ref qM_dangers, .ref qM_losses, .int (jI vM_size), .int (jI vM_limit)])), (qL, .inr (2, [.ref qL_blocks, .ref qL_hands, .ref qL_years, .ref qL_grades, .ref qL_sums, .ref qL_pairs, .ref qL_seen, .int (jI vL_size), .int (jI vL_doubles), .int (jI vL_learned)])), aI kI qL_blocks 80 fL_blocks, aI kI qL_hands 80 fL_hands, aI kI qL_years 80 fL_years, aI kI qL_grades 80 fL_grades] rfl ?_
              have he58 := h58
              have he58 := he58.symm
              subst he58
              exact hret 0 0 61 _ (-1004) (vL_size, fL_blocks, fL_hands, fL_years, fL_grades) (Nat.le_of_ble_eq_true rfl) (Nat.le_of_ble_eq_true rfl) dX9_look_61 (by (try dsimp only); exact (by first | exact Or.inl (⟨by omega, (by first | rfl | omega), (by first | rfl | omega), (by first | rfl | omega), (by first | rfl | omega), (by first | rfl | omega), (by first | rfl | omega)⟩) | exact Or.inr (Or.inl (⟨by omega, (by first | rfl | omega), (by first | rfl | omega), (by first | rfl | omega), (by first | rfl | omega), (by first | rfl | omega), (by first | rfl | omega)⟩)) | exact Or.inr (Or.inr (Or.inl (⟨by omega, (by first | rfl | omega), (by first | rfl | omega), (by first | rfl | omega), (by first | rfl | omega), (by first | rfl | omega), (by first | rfl | omega)⟩))) | exact Or.inr (Or.inr (Or.inr (⟨by omega, (by first | rfl | omega), (by first | rfl | omega), (by first | rfl | omega), (by first | rfl | omega), (by first | rfl | omega), (by first | rfl | omega)⟩)))))
          · -- 42 f
            refine x_sipush F dX9_look_45 (by decide) ?_
            exact hret 0 0 48 _ (-1002) (vL_size, fL_blocks, fL_hands, fL_years, fL_grades) (Nat.le_of_ble_eq_true rfl) (Nat.le_of_ble_eq_true rfl) dX9_look_48 (by (try dsimp only); exact (by first | exact Or.inl (⟨by omega, (by first | rfl | omega), (by first | rfl | omega), (by first | rfl | omega), (by first | rfl | omega), (by first | rfl | omega), (by first | rfl | omega)⟩) | exact Or.inr (Or.inl (⟨by omega, (by first | rfl | omega), (by first | rfl | omega), (by first | rfl | omega), (by first | rfl | omega), (by first | rfl | omega), (by first | rfl | omega)⟩)) | exact Or.inr (Or.inr (Or.inl (⟨by omega, (by first | rfl | omega), (by first | rfl | omega), (by first | rfl | omega), (by first | rfl | omega), (by first | rfl | omega), (by first | rfl | omega)⟩))) | exact Or.inr (Or.inr (Or.inr (⟨by omega, (by first | rfl | omega), (by first | rfl | omega), (by first | rfl | omega), (by first | rfl | omega), (by first | rfl | omega), (by first | rfl | omega)⟩)))))
  · -- 8 f
    refine x_sipush F dX9_look_11 (by decide) ?_
    exact hret 0 0 14 _ (-1001) (vL_size, fL_blocks, fL_hands, fL_years, fL_grades) (Nat.le_of_ble_eq_true rfl) (Nat.le_of_ble_eq_true rfl) dX9_look_14 (by (try dsimp only); exact (by first | exact Or.inl (⟨by omega, (by first | rfl | omega), (by first | rfl | omega), (by first | rfl | omega), (by first | rfl | omega), (by first | rfl | omega), (by first | rfl | omega)⟩) | exact Or.inr (Or.inl (⟨by omega, (by first | rfl | omega), (by first | rfl | omega), (by first | rfl | omega), (by first | rfl | omega), (by first | rfl | omega), (by first | rfl | omega)⟩)) | exact Or.inr (Or.inr (Or.inl (⟨by omega, (by first | rfl | omega), (by first | rfl | omega), (by first | rfl | omega), (by first | rfl | omega), (by first | rfl | omega), (by first | rfl | omega)⟩))) | exact Or.inr (Or.inr (Or.inr (⟨by omega, (by first | rfl | omega), (by first | rfl | omega), (by first | rfl | omega), (by first | rfl | omega), (by first | rfl | omega), (by first | rfl | omega)⟩)))))
set_option maxHeartbeats 4000000 in
set_option maxRecDepth 100000 in
theorem c_X9_habit (D : va_G) (kI kJ : Nat) (l : Launch) (qK : Nat) (hand : Int) (k : Int) (what : Int) (qM : Nat) (qC : Nat) (qL : Nat) (qFr : Nat) (qE : Nat) (qK_facts : Nat) (qN : Nat) (qS : Nat) (qL_blocks : Nat) (qL_hands : Nat) (qL_years : Nat) (qL_grades : Nat) (qL_sums : Nat) (qL_pairs : Nat) (qL_seen : Nat) (vL_size : Int) (vL_doubles : Int) (vL_learned : Int) (fL_blocks : (Int → Int)) (fL_hands : (Int → Int)) (fL_years : (Int → Int)) (fL_grades : (Int → Int)) (fL_sums : (Int → Int)) (fL_pairs : (Int → Int)) (vFr_upper : Int) (vFr_lower : Int) (hr_hand : -2147483648 ≤ hand ∧ hand < 2147483648) (hr_k : -2147483648 ≤ k ∧ k < 2147483648) (hr_what : -2147483648 ≤ what ∧ what < 2147483648) (hLs : 0 ≤ vL_size ∧ vL_size ≤ 80) (hLb : Rg fL_blocks 80 0 29) (hLh : Rg fL_hands 80 0 3) (hLy : Rg fL_years 80 0 400) (hLg : Rg fL_grades 80 0 99) (hLl : 0 ≤ vL_learned ∧ vL_learned ≤ vL_size) (hLS : ∀ k : Int, 0 ≤ k → k < 4 → fL_sums k = hS fL_blocks fL_years fL_hands fL_grades vL_learned k) (hLP : ∀ k : Int, 0 ≤ k → k < 4 → fL_pairs k = hN fL_blocks fL_years fL_hands vL_learned k) (hLD : vL_doubles = dnS fL_blocks fL_years fL_hands vL_learned) : xMi D kI kJ l yX9_habit wsX9_habit 5 138 0 0 [.ref qK, .int (jI hand), .int (jI k), .int (jI what)] [(qK, .inr (9, [.ref qM, .ref qC, .ref qL, .ref qFr, .ref qE, .ref qK_facts, .ref qN, .ref qS])), (qL, .inr (2, [.ref qL_blocks, .ref qL_hands, .ref qL_years, .ref qL_grades, .ref qL_sums, .ref qL_pairs, .ref qL_seen, .int (jI vL_size), .int (jI vL_doubles), .int (jI vL_learned)])), aI kI qL_blocks 80 fL_blocks, aI kI qL_hands 80 fL_hands, aI kI qL_years 80 fL_years, aI kI qL_grades 80 fL_grades, aI kI qL_sums 4 fL_sums, aI kI qL_pairs 4 fL_pairs, (qFr, .inr (1, [.long (jL vFr_upper), .long (jL vFr_lower)]))] (fun (z : Int) (u : (Int → Int) × (Int → Int) × Int × Int × Int × Int) => z = (if ¬ ((0 ≤ hand ∧ hand ≤ 3) ∧ (-1 ≤ k ∧ k ≤ vL_size) ∧ 0 ≤ what ∧ what ≤ 1) then -1002 else if what = 0 then nU (hS fL_blocks fL_years fL_hands fL_grades (if k = -1 then vL_size else k) hand) (hD fL_blocks fL_years fL_hands (if k = -1 then vL_size else k) hand) else nL (hS fL_blocks fL_years fL_hands fL_grades (if k = -1 then vL_size else k) hand) (hD fL_blocks fL_years fL_hands (if k = -1 then vL_size else k) hand)) ∧ (0 ≤ u.2.2.2.1 ∧ u.2.2.2.1 ≤ vL_size) ∧ (∀ k : Int, 0 ≤ k → k < 4 → u.1 k = hS fL_blocks fL_years fL_hands fL_grades u.2.2.2.1 k) ∧ (∀ k : Int, 0 ≤ k → k < 4 → u.2.1 k = hN fL_blocks fL_years fL_hands u.2.2.2.1 k) ∧ (u.2.2.1 = dnS fL_blocks fL_years fL_hands u.2.2.2.1)) (fun (u : (Int → Int) × (Int → Int) × Int × Int × Int × Int) => [(qK, .inr (9, [.ref qM, .ref qC, .ref qL, .ref qFr, .ref qE, .ref qK_facts, .ref qN, .ref qS])), (qL, .inr (2, [.ref qL_blocks, .ref qL_hands, .ref qL_years, .ref qL_grades, .ref qL_sums, .ref qL_pairs, .ref qL_seen, .int (jI vL_size), .int (jI u.2.2.1), .int (jI u.2.2.2.1)])), aI kI qL_blocks 80 fL_blocks, aI kI qL_hands 80 fL_hands, aI kI qL_years 80 fL_years, aI kI qL_grades 80 fL_grades, aI kI qL_sums 4 u.1, aI kI qL_pairs 4 u.2.1, (qFr, .inr (1, [.long (jL u.2.2.2.2.1), .long (jL u.2.2.2.2.2)]))]) := by
  refine xMi_of (cc := cX9_habit) (maxL := 4) (rt := .int) (by decide) rfl (Nat.le_of_ble_eq_true rfl) (fun _ _ _ => rfl) ?_
  intro p e s m args below meth c A Q F hin2 hret
  have hin9 : ∀ w ∈ wsX90, w ∈ wsX9_habit := by decide +kernel
  have hw0 : Cond.fieldLink RX9 26 (TX9 2).1 (TX9 2).2.1 (TX9 2).2.2.1 ∈ wsX9_habit := by decide +kernel
  have hw1 : Cond.fieldLink RX9 33 (TX9 3).1 (TX9 3).2.1 (TX9 3).2.2.1 ∈ wsX9_habit := by decide +kernel
  refine x_lveq (lv' := [(0, .ref qK), (1, .int (jI hand)), (2, .int (jI k)), (3, .int (jI what))]) rfl ?_
  refine x_iload_n F dX9_habit_0 rfl 1 rfl ?_
  refine x_iconst F dX9_habit_1 ?_
  refine x_callSi (As := [.int (jI hand), .int (jI 4)]) (st := []) F (c_X9_isBelow D kI kJ l hand 4 (by omega) (by omega)) (va_cwS 2 F.2.2.2.2.1 gX9_habit_X9_isBelow rfl rfl rfl (by decide +kernel) ⟨Nat.le_of_ble_eq_true rfl, Nat.le_of_ble_eq_true rfl⟩) [] [0, 1, 2, 3, 4, 5, 6, 7, 8] [0, 1, 2, 3, 4, 5, 6, 7, 8] rfl rfl (by decide) (by decide) (by decide) (fun _ => rfl) (by decide) rfl (Nat.le_of_ble_eq_true rfl) dX9_habit_2 ⟨Nat.le_of_ble_eq_true rfl, Nat.le_of_ble_eq_true rfl⟩ (fun z2 u2 h2 => ?_)
  try dsimp only at h2
  refine x_ws [(qK, .inr (9, [.ref qM, .ref qC, .ref qL, .ref qFr, .ref qE, .ref qK_facts, .ref qN, .ref qS])), (qL, .inr (2, [.ref qL_blocks, .ref qL_hands, .ref qL_years, .ref qL_grades, .ref qL_sums, .ref qL_pairs, .ref qL_seen, .int (jI vL_size), .int (jI vL_doubles), .int (jI vL_learned)])), aI kI qL_blocks 80 fL_blocks, aI kI qL_hands 80 fL_hands, aI kI qL_years 80 fL_years, aI kI qL_grades 80 fL_grades, aI kI qL_sums 4 fL_sums, aI kI qL_pairs 4 fL_pairs, (qFr, .inr (1, [.long (jL vFr_upper), .long (jL vFr_lower)]))] rfl ?_
  have hb2 := h2
  refine x_beq (tgt := 27) F dX9_habit_5 (by decide) hb2 (fun c5 => ?_) (fun c5 => ?_)
  · -- 5 t
    refine x_sipush F dX9_habit_27 (by decide) ?_
    exact hret 0 0 30 _ (-1002) (fL_sums, fL_pairs, vL_doubles, vL_learned, vFr_upper, vFr_lower) (Nat.le_of_ble_eq_true rfl) (Nat.le_of_ble_eq_true rfl) dX9_habit_30 (by (try dsimp only); exact (⟨by rw [if_pos (by omega)], hLl, hLS, hLP, hLD⟩))
  · -- 5 f
    refine x_aload_n F dX9_habit_8 rfl 0 rfl ?_
    refine x_get (ci := 9) F hin9 0 rfl rfl 2 (by decide) hw0 rfl dX9_habit_9 ?_
    refine x_iload_n F dX9_habit_12 rfl 2 rfl ?_
    refine x_callVi (ci := 2) (q0 := 1) (As := [.int (jI k)]) (st := []) F (c_X2_canBeKnown D kI kJ l qL k qL_blocks qL_hands qL_years qL_grades qL_sums qL_pairs qL_seen vL_size vL_doubles vL_learned hr_k hLs) (cwV 1 F.2.2.2.2.1 gX9_habit_X2_canBeKnown rfl rfl rfl (by decide +kernel) ⟨Nat.le_of_ble_eq_true rfl, Nat.le_of_ble_eq_true rfl⟩) rfl rfl [1] [0, 2, 3, 4, 5, 6, 7, 8] [0, 8, 1, 2, 3, 4, 5, 6, 7] rfl rfl (by decide) (by decide) (by decide) (fun _ => rfl) (by decide) rfl (Nat.le_of_ble_eq_true rfl) dX9_habit_13 ⟨Nat.le_of_ble_eq_true rfl, Nat.le_of_ble_eq_true rfl⟩ (fun z13 u13 h13 => ?_)
    try dsimp only at h13
    refine x_ws [(qK, .inr (9, [.ref qM, .ref qC, .ref qL, .ref qFr, .ref qE, .ref qK_facts, .ref qN, .ref qS])), (qL, .inr (2, [.ref qL_blocks, .ref qL_hands, .ref qL_years, .ref qL_grades, .ref qL_sums, .ref qL_pairs, .ref qL_seen, .int (jI vL_size), .int (jI vL_doubles), .int (jI vL_learned)])), aI kI qL_blocks 80 fL_blocks, aI kI qL_hands 80 fL_hands, aI kI qL_years 80 fL_years, aI kI qL_grades 80 fL_grades, aI kI qL_sums 4 fL_sums, aI kI qL_pairs 4 fL_pairs, (qFr, .inr (1, [.long (jL vFr_upper), .long (jL vFr_lower)]))] rfl ?_
    have hb13 := h13
    refine x_beq (tgt := 27) F dX9_habit_16 (by decide) hb13 (fun c16 => ?_) (fun c16 => ?_)
    · -- 16 t
      refine x_sipush F dX9_habit_27 (by decide) ?_
      exact hret 0 0 30 _ (-1002) (fL_sums, fL_pairs, vL_doubles, vL_learned, vFr_upper, vFr_lower) (Nat.le_of_ble_eq_true rfl) (Nat.le_of_ble_eq_true rfl) dX9_habit_30 (by (try dsimp only); exact (⟨by rw [if_pos (by omega)], hLl, hLS, hLP, hLD⟩))
    · -- 16 f
      refine x_iload_n F dX9_habit_19 rfl 3 rfl ?_
      refine x_iconst F dX9_habit_20 ?_
      refine x_callSi (As := [.int (jI what), .int (jI 2)]) (st := []) F (c_X9_isBelow D kI kJ l what 2 (by omega) (by omega)) (va_cwS 2 F.2.2.2.2.1 gX9_habit_X9_isBelow rfl rfl rfl (by decide +kernel) ⟨Nat.le_of_ble_eq_true rfl, Nat.le_of_ble_eq_true rfl⟩) [] [0, 1, 2, 3, 4, 5, 6, 7, 8] [0, 1, 2, 3, 4, 5, 6, 7, 8] rfl rfl (by decide) (by decide) (by decide) (fun _ => rfl) (by decide) rfl (Nat.le_of_ble_eq_true rfl) dX9_habit_21 ⟨Nat.le_of_ble_eq_true rfl, Nat.le_of_ble_eq_true rfl⟩ (fun z21 u21 h21 => ?_)
      try dsimp only at h21
      refine x_ws [(qK, .inr (9, [.ref qM, .ref qC, .ref qL, .ref qFr, .ref qE, .ref qK_facts, .ref qN, .ref qS])), (qL, .inr (2, [.ref qL_blocks, .ref qL_hands, .ref qL_years, .ref qL_grades, .ref qL_sums, .ref qL_pairs, .ref qL_seen, .int (jI vL_size), .int (jI vL_doubles), .int (jI vL_learned)])), aI kI qL_blocks 80 fL_blocks, aI kI qL_hands 80 fL_hands, aI kI qL_years 80 fL_years, aI kI qL_grades 80 fL_grades, aI kI qL_sums 4 fL_sums, aI kI qL_pairs 4 fL_pairs, (qFr, .inr (1, [.long (jL vFr_upper), .long (jL vFr_lower)]))] rfl ?_
      have hb21 := h21
      refine x_bne (tgt := 31) F dX9_habit_24 (by decide) hb21 (fun c24 => ?_) (fun c24 => ?_)
      · -- 24 t
        refine x_aload_n F dX9_habit_31 rfl 0 rfl ?_
        refine x_get (ci := 9) F hin9 0 rfl rfl 2 (by decide) hw0 rfl dX9_habit_32 ?_
        refine x_iload_n F dX9_habit_35 rfl 1 rfl ?_
        refine x_aload_n F dX9_habit_36 rfl 0 rfl ?_
        refine x_get (ci := 9) F hin9 0 rfl rfl 2 (by decide) hw0 rfl dX9_habit_37 ?_
        refine x_iload_n F dX9_habit_40 rfl 2 rfl ?_
        refine x_callVi (ci := 2) (q0 := 1) (As := [.int (jI k)]) (st := [.int (jI hand), .ref qL]) F (c_X2_knownBy D kI kJ l qL k qL_blocks qL_hands qL_years qL_grades qL_sums qL_pairs qL_seen vL_size vL_doubles vL_learned hr_k hLs (by omega)) (cwV 1 F.2.2.2.2.1 gX9_habit_X2_knownBy rfl rfl rfl (by decide +kernel) ⟨Nat.le_of_ble_eq_true rfl, Nat.le_of_ble_eq_true rfl⟩) rfl rfl [1] [0, 2, 3, 4, 5, 6, 7, 8] [0, 8, 1, 2, 3, 4, 5, 6, 7] rfl rfl (by decide) (by decide) (by decide) (fun _ => rfl) (by decide) rfl (Nat.le_of_ble_eq_true rfl) dX9_habit_41 ⟨Nat.le_of_ble_eq_true rfl, Nat.le_of_ble_eq_true rfl⟩ (fun z41 u41 h41 => ?_)
        try dsimp only at h41
        refine x_ws [(qK, .inr (9, [.ref qM, .ref qC, .ref qL, .ref qFr, .ref qE, .ref qK_facts, .ref qN, .ref qS])), (qL, .inr (2, [.ref qL_blocks, .ref qL_hands, .ref qL_years, .ref qL_grades, .ref qL_sums, .ref qL_pairs, .ref qL_seen, .int (jI vL_size), .int (jI vL_doubles), .int (jI vL_learned)])), aI kI qL_blocks 80 fL_blocks, aI kI qL_hands 80 fL_hands, aI kI qL_years 80 fL_years, aI kI qL_grades 80 fL_grades, aI kI qL_sums 4 fL_sums, aI kI qL_pairs 4 fL_pairs, (qFr, .inr (1, [.long (jL vFr_upper), .long (jL vFr_lower)]))] rfl ?_
        have he41 := h41
        have he41 := he41.symm
        subst he41
        refine x_aload_n F dX9_habit_44 rfl 0 rfl ?_
        refine x_get (ci := 9) F hin9 0 rfl rfl 3 (by decide) hw1 rfl dX9_habit_45 ?_
        have hkr : 0 ≤ (if k = -1 then vL_size else k) ∧ (if k = -1 then vL_size else k) ≤ vL_size := by split <;> omega
        refine x_callVv (ci := 2) (q0 := 1) (As := [.int (jI hand), .int (jI (if k = -1 then vL_size else k)), .ref qFr]) (st := []) F (c_X2_findHabit D kI kJ l qL hand (if k = -1 then vL_size else k) qFr qL_blocks qL_hands qL_years qL_grades qL_sums qL_pairs qL_seen vL_size vL_doubles vL_learned fL_blocks fL_hands fL_years fL_grades fL_sums fL_pairs vFr_upper vFr_lower (by omega) (by omega) hLs hLb hLh hLy hLg hLl hLS hLP hLD) (cwV 3 F.2.2.2.2.1 gX9_habit_X2_findHabit rfl rfl rfl (by decide +kernel) ⟨Nat.le_of_ble_eq_true rfl, Nat.le_of_ble_eq_true rfl⟩) rfl rfl [1, 2, 3, 4, 5, 6, 7, 8] [0] [0, 1, 2, 3, 4, 5, 6, 7, 8] rfl rfl (by decide) (by decide) (by decide) (fun _ => rfl) (by decide) rfl (Nat.le_of_ble_eq_true rfl) dX9_habit_48 ⟨Nat.le_of_ble_eq_true rfl, Nat.le_of_ble_eq_true rfl⟩ (fun u48 h48 => ?_)
        obtain ⟨s2_48, p2_48, d2_48, u2_48, l2_48⟩ := u48
        try dsimp only at h48
        refine x_ws [(qK, .inr (9, [.ref qM, .ref qC, .ref qL, .ref qFr, .ref qE, .ref qK_facts, .ref qN, .ref qS])), (qL, .inr (2, [.ref qL_blocks, .ref qL_hands, .ref qL_years, .ref qL_grades, .ref qL_sums, .ref qL_pairs, .ref qL_seen, .int (jI vL_size), .int (jI d2_48), .int (jI (if k = -1 then vL_size else k))])), aI kI qL_blocks 80 fL_blocks, aI kI qL_hands 80 fL_hands, aI kI qL_years 80 fL_years, aI kI qL_grades 80 fL_grades, aI kI qL_sums 4 s2_48, aI kI qL_pairs 4 p2_48, (qFr, .inr (1, [.long (jL u2_48), .long (jL l2_48)]))] rfl ?_
        obtain ⟨hs_48, hp_48, hd_48, hu_48⟩ := h48
        have hb1 := hD_rng (b := fL_blocks) (y := fL_years) (h := fL_hands) (n := (if k = -1 then vL_size else k)) (hd := hand) (by omega)
        have hb2 := hS_D (b := fL_blocks) (y := fL_years) (h := fL_hands) (g := fL_grades) (n := (if k = -1 then vL_size else k)) (hd := hand) (by omega) (fun k k0 k1 => hLg k k0 (by omega))
        have q1 := nL_pos (u := hS fL_blocks fL_years fL_hands fL_grades (if k = -1 then vL_size else k) hand) (l := hD fL_blocks fL_years fL_hands (if k = -1 then vL_size else k) hand) (by omega)
        have q2 := nL_le (u := hS fL_blocks fL_years fL_hands fL_grades (if k = -1 then vL_size else k) hand) (l := hD fL_blocks fL_years fL_hands (if k = -1 then vL_size else k) hand) (by omega)
        have q3 := nU_bd (u := hS fL_blocks fL_years fL_hands fL_grades (if k = -1 then vL_size else k) hand) (l := hD fL_blocks fL_years fL_hands (if k = -1 then vL_size else k) hand) (K := 50) (by omega) (by omega)
        rw [← hu_48.2] at q1 q2 q3
        rw [← hu_48.1] at q3
        refine x_aload_n F dX9_habit_51 rfl 0 rfl ?_
        refine x_get (ci := 9) F hin9 0 rfl rfl 3 (by decide) hw1 rfl dX9_habit_52 ?_
        refine x_iload_n F dX9_habit_55 rfl 3 rfl ?_
        refine x_callVl (ci := 1) (q0 := 8) (As := [.int (jI what)]) (st := []) F (c_X1_part D kI kJ l qFr what u2_48 l2_48 hr_what) (cwV 1 F.2.2.2.2.1 gX9_habit_X1_part rfl rfl rfl (by decide +kernel) ⟨Nat.le_of_ble_eq_true rfl, Nat.le_of_ble_eq_true rfl⟩) rfl rfl [8] [0, 1, 2, 3, 4, 5, 6, 7] [0, 1, 2, 3, 4, 5, 6, 7, 8] rfl rfl (by decide) (by decide) (by decide) (fun _ => rfl) (by decide) rfl (Nat.le_of_ble_eq_true rfl) dX9_habit_56 ⟨Nat.le_of_ble_eq_true rfl, Nat.le_of_ble_eq_true rfl⟩ (fun z56 u56 h56 => ?_)
        try dsimp only at h56
        refine x_ws [(qK, .inr (9, [.ref qM, .ref qC, .ref qL, .ref qFr, .ref qE, .ref qK_facts, .ref qN, .ref qS])), (qL, .inr (2, [.ref qL_blocks, .ref qL_hands, .ref qL_years, .ref qL_grades, .ref qL_sums, .ref qL_pairs, .ref qL_seen, .int (jI vL_size), .int (jI d2_48), .int (jI (if k = -1 then vL_size else k))])), aI kI qL_blocks 80 fL_blocks, aI kI qL_hands 80 fL_hands, aI kI qL_years 80 fL_years, aI kI qL_grades 80 fL_grades, aI kI qL_sums 4 s2_48, aI kI qL_pairs 4 p2_48, (qFr, .inr (1, [.long (jL u2_48), .long (jL l2_48)]))] rfl ?_
        have he56 := h56
        have he56 := he56.symm
        subst he56
        refine x_l2i F dX9_habit_59 (by split <;> omega) ?_
        exact hret 0 0 60 _ (if what = 0 then u2_48 else l2_48) (s2_48, p2_48, d2_48, (if k = -1 then vL_size else k), u2_48, l2_48) (Nat.le_of_ble_eq_true rfl) (Nat.le_of_ble_eq_true rfl) dX9_habit_60 (by (try dsimp only); exact (⟨by rw [hu_48.1, hu_48.2]; exact (if_neg (by omega)).symm, by omega, hs_48, hp_48, hd_48⟩))
      · -- 24 f
        refine x_sipush F dX9_habit_27 (by decide) ?_
        exact hret 0 0 30 _ (-1002) (fL_sums, fL_pairs, vL_doubles, vL_learned, vFr_upper, vFr_lower) (Nat.le_of_ble_eq_true rfl) (Nat.le_of_ble_eq_true rfl) dX9_habit_30 (by (try dsimp only); exact (⟨by rw [if_pos (by omega)], hLl, hLS, hLP, hLD⟩))
set_option maxHeartbeats 4000000 in
set_option maxRecDepth 100000 in
theorem c_X9_state (D : va_G) (kI kJ : Nat) (l : Launch) (qK : Nat) (b : Int) (year : Int) (k : Int) (what : Int) (qM : Nat) (qC : Nat) (qL : Nat) (qFr : Nat) (qE : Nat) (qK_facts : Nat) (qN : Nat) (qS : Nat) (qM_stones : Nat) (qM_laid : Nat) (qM_deeps : Nat) (qM_rates : Nat) (qP : Nat) (qT : Nat) (qM_dangers : Nat) (qM_losses : Nat) (vM_size : Int) (vM_limit : Int) (qL_blocks : Nat) (qL_hands : Nat) (qL_years : Nat) (qL_grades : Nat) (qL_sums : Nat) (qL_pairs : Nat) (qL_seen : Nat) (vL_size : Int) (vL_doubles : Int) (vL_learned : Int) (fL_blocks : (Int → Int)) (fL_hands : (Int → Int)) (fL_years : (Int → Int)) (fL_grades : (Int → Int)) (fL_sums : (Int → Int)) (fL_pairs : (Int → Int)) (fL_seen : (Int → Int)) (vFr_upper : Int) (vFr_lower : Int) (hr_b : -2147483648 ≤ b ∧ b < 2147483648) (hr_year : -2147483648 ≤ year ∧ year < 2147483648) (hr_k : -2147483648 ≤ k ∧ k < 2147483648) (hr_what : -2147483648 ≤ what ∧ what < 2147483648) (hMs : 0 ≤ vM_size ∧ vM_size ≤ 30) (hLs : 0 ≤ vL_size ∧ vL_size ≤ 80) (hLb : Rg fL_blocks 80 0 29) (hLh : Rg fL_hands 80 0 3) (hLy : Rg fL_years 80 0 400) (hLg : Rg fL_grades 80 0 99) (hLl : 0 ≤ vL_learned ∧ vL_learned ≤ vL_size) (hLS : ∀ k : Int, 0 ≤ k → k < 4 → fL_sums k = hS fL_blocks fL_years fL_hands fL_grades vL_learned k) (hLP : ∀ k : Int, 0 ≤ k → k < 4 → fL_pairs k = hN fL_blocks fL_years fL_hands vL_learned k) (hLD : vL_doubles = dnS fL_blocks fL_years fL_hands vL_learned) : xMl D kI kJ l yX9_state wsX9_state 5 167 0 0 [.ref qK, .int (jI b), .int (jI year), .int (jI k), .int (jI what)] [(qK, .inr (9, [.ref qM, .ref qC, .ref qL, .ref qFr, .ref qE, .ref qK_facts, .ref qN, .ref qS])), (qM, .inr (3, [.ref qM_stones, .ref qM_laid, .ref qM_deeps, .ref qM_rates, .ref qP, .ref qT, .ref qM_dangers, .ref qM_losses, .int (jI vM_size), .int (jI vM_limit)])), (qL, .inr (2, [.ref qL_blocks, .ref qL_hands, .ref qL_years, .ref qL_grades, .ref qL_sums, .ref qL_pairs, .ref qL_seen, .int (jI vL_size), .int (jI vL_doubles), .int (jI vL_learned)])), aI kI qL_blocks 80 fL_blocks, aI kI qL_hands 80 fL_hands, aI kI qL_years 80 fL_years, aI kI qL_grades 80 fL_grades, aI kI qL_sums 4 fL_sums, aI kI qL_pairs 4 fL_pairs, aI kI qL_seen 4 fL_seen, (qFr, .inr (1, [.long (jL vFr_upper), .long (jL vFr_lower)]))] (fun (z : Int) (u : (Int → Int) × (Int → Int) × Int × Int × (Int → Int) × Int × Int) => z = (if ¬ (0 ≤ b ∧ b < vM_size) then -1001 else if ¬ ((0 ≤ year ∧ year ≤ 400) ∧ (-1 ≤ k ∧ k ≤ vL_size) ∧ 0 ≤ what ∧ what ≤ 1) then -1002 else if laI fL_blocks fL_years b year (if k = -1 then vL_size else k) = -1 then -1003 else if what = 0 then stU fL_blocks fL_years fL_hands fL_grades b year (if k = -1 then vL_size else k) else stL fL_blocks fL_years fL_hands fL_grades b year (if k = -1 then vL_size else k)) ∧ (0 ≤ u.2.2.2.1 ∧ u.2.2.2.1 ≤ vL_size) ∧ (∀ k : Int, 0 ≤ k → k < 4 → u.1 k = hS fL_blocks fL_years fL_hands fL_grades u.2.2.2.1 k) ∧ (∀ k : Int, 0 ≤ k → k < 4 → u.2.1 k = hN fL_blocks fL_years fL_hands u.2.2.2.1 k) ∧ (u.2.2.1 = dnS fL_blocks fL_years fL_hands u.2.2.2.1)) (fun (u : (Int → Int) × (Int → Int) × Int × Int × (Int → Int) × Int × Int) => [(qK, .inr (9, [.ref qM, .ref qC, .ref qL, .ref qFr, .ref qE, .ref qK_facts, .ref qN, .ref qS])), (qM, .inr (3, [.ref qM_stones, .ref qM_laid, .ref qM_deeps, .ref qM_rates, .ref qP, .ref qT, .ref qM_dangers, .ref qM_losses, .int (jI vM_size), .int (jI vM_limit)])), (qL, .inr (2, [.ref qL_blocks, .ref qL_hands, .ref qL_years, .ref qL_grades, .ref qL_sums, .ref qL_pairs, .ref qL_seen, .int (jI vL_size), .int (jI u.2.2.1), .int (jI u.2.2.2.1)])), aI kI qL_blocks 80 fL_blocks, aI kI qL_hands 80 fL_hands, aI kI qL_years 80 fL_years, aI kI qL_grades 80 fL_grades, aI kI qL_sums 4 u.1, aI kI qL_pairs 4 u.2.1, aI kI qL_seen 4 u.2.2.2.2.1, (qFr, .inr (1, [.long (jL u.2.2.2.2.2.1), .long (jL u.2.2.2.2.2.2)]))]) := by
  refine xMl_of (cc := cX9_state) (maxL := 5) (by decide) rfl (Nat.le_of_ble_eq_true rfl) ?_
  intro p e s m args below meth c A Q F hin2 hret
  have hin9 : ∀ w ∈ wsX90, w ∈ wsX9_state := by decide +kernel
  have hw0 : Cond.fieldLink RX9 12 (TX9 0).1 (TX9 0).2.1 (TX9 0).2.2.1 ∈ wsX9_state := by decide +kernel
  have hw1 : Cond.constantLong RX9 178 (-1002) ∈ wsX9_state := by decide +kernel
  have hw2 : Cond.fieldLink RX9 26 (TX9 2).1 (TX9 2).2.1 (TX9 2).2.2.1 ∈ wsX9_state := by decide +kernel
  have hw3 : Cond.fieldLink RX9 33 (TX9 3).1 (TX9 3).2.1 (TX9 3).2.2.1 ∈ wsX9_state := by decide +kernel
  have hw4 : Cond.constantLong RX9 184 (-1003) ∈ wsX9_state := by decide +kernel
  have hw5 : Cond.constantLong RX9 176 (-1001) ∈ wsX9_state := by decide +kernel
  refine x_lveq (lv' := [(0, .ref qK), (1, .int (jI b)), (2, .int (jI year)), (3, .int (jI k)), (4, .int (jI what))]) rfl ?_
  refine x_aload_n F dX9_state_0 rfl 0 rfl ?_
  refine x_get (ci := 9) F hin9 0 rfl rfl 0 (by decide) hw0 rfl dX9_state_1 ?_
  refine x_iload_n F dX9_state_4 rfl 1 rfl ?_
  refine x_callVi (ci := 3) (q0 := 1) (As := [.int (jI b)]) (st := []) F (c_X3_hasBlock D kI kJ l qM b qM_stones qM_laid qM_deeps qM_rates qP qT qM_dangers qM_losses vM_size vM_limit hr_b hMs) (cwV 1 F.2.2.2.2.1 gX9_state_X3_hasBlock rfl rfl rfl (by decide +kernel) ⟨Nat.le_of_ble_eq_true rfl, Nat.le_of_ble_eq_true rfl⟩) rfl rfl [1] [0, 2, 3, 4, 5, 6, 7, 8, 9, 10] [0, 10, 1, 2, 3, 4, 5, 6, 7, 8, 9] rfl rfl (by decide) (by decide) (by decide) (fun _ => rfl) (by decide) rfl (Nat.le_of_ble_eq_true rfl) dX9_state_5 ⟨Nat.le_of_ble_eq_true rfl, Nat.le_of_ble_eq_true rfl⟩ (fun z5 u5 h5 => ?_)
  try dsimp only at h5
  refine x_ws [(qK, .inr (9, [.ref qM, .ref qC, .ref qL, .ref qFr, .ref qE, .ref qK_facts, .ref qN, .ref qS])), (qM, .inr (3, [.ref qM_stones, .ref qM_laid, .ref qM_deeps, .ref qM_rates, .ref qP, .ref qT, .ref qM_dangers, .ref qM_losses, .int (jI vM_size), .int (jI vM_limit)])), (qL, .inr (2, [.ref qL_blocks, .ref qL_hands, .ref qL_years, .ref qL_grades, .ref qL_sums, .ref qL_pairs, .ref qL_seen, .int (jI vL_size), .int (jI vL_doubles), .int (jI vL_learned)])), aI kI qL_blocks 80 fL_blocks, aI kI qL_hands 80 fL_hands, aI kI qL_years 80 fL_years, aI kI qL_grades 80 fL_grades, aI kI qL_sums 4 fL_sums, aI kI qL_pairs 4 fL_pairs, aI kI qL_seen 4 fL_seen, (qFr, .inr (1, [.long (jL vFr_upper), .long (jL vFr_lower)]))] rfl ?_
  have hb5 := h5
  refine x_bne (tgt := 15) F dX9_state_8 (by decide) hb5 (fun c8 => ?_) (fun c8 => ?_)
  · -- 8 t
    refine x_iload_n F dX9_state_15 rfl 2 rfl ?_
    refine x_sipush F dX9_state_16 (by decide) ?_
    refine x_callSi (As := [.int (jI year), .int (jI 401)]) (st := []) F (c_X9_isBelow D kI kJ l year 401 (by omega) (by omega)) (va_cwS 2 F.2.2.2.2.1 gX9_state_X9_isBelow rfl rfl rfl (by decide +kernel) ⟨Nat.le_of_ble_eq_true rfl, Nat.le_of_ble_eq_true rfl⟩) [] [0, 1, 2, 3, 4, 5, 6, 7, 8, 9, 10] [0, 1, 2, 3, 4, 5, 6, 7, 8, 9, 10] rfl rfl (by decide) (by decide) (by decide) (fun _ => rfl) (by decide) rfl (Nat.le_of_ble_eq_true rfl) dX9_state_19 ⟨Nat.le_of_ble_eq_true rfl, Nat.le_of_ble_eq_true rfl⟩ (fun z19 u19 h19 => ?_)
    try dsimp only at h19
    refine x_ws [(qK, .inr (9, [.ref qM, .ref qC, .ref qL, .ref qFr, .ref qE, .ref qK_facts, .ref qN, .ref qS])), (qM, .inr (3, [.ref qM_stones, .ref qM_laid, .ref qM_deeps, .ref qM_rates, .ref qP, .ref qT, .ref qM_dangers, .ref qM_losses, .int (jI vM_size), .int (jI vM_limit)])), (qL, .inr (2, [.ref qL_blocks, .ref qL_hands, .ref qL_years, .ref qL_grades, .ref qL_sums, .ref qL_pairs, .ref qL_seen, .int (jI vL_size), .int (jI vL_doubles), .int (jI vL_learned)])), aI kI qL_blocks 80 fL_blocks, aI kI qL_hands 80 fL_hands, aI kI qL_years 80 fL_years, aI kI qL_grades 80 fL_grades, aI kI qL_sums 4 fL_sums, aI kI qL_pairs 4 fL_pairs, aI kI qL_seen 4 fL_seen, (qFr, .inr (1, [.long (jL vFr_upper), .long (jL vFr_lower)]))] rfl ?_
    have hb19 := h19
    refine x_beq (tgt := 45) F dX9_state_22 (by decide) hb19 (fun c22 => ?_) (fun c22 => ?_)
    · -- 22 t
      refine x_ldc2 F (-1002) hw1 (by decide) dX9_state_45 ?_
      exact hret 0 0 48 _ (-1002) (fL_sums, fL_pairs, vL_doubles, vL_learned, fL_seen, vFr_upper, vFr_lower) (Nat.le_of_ble_eq_true rfl) (Nat.le_of_ble_eq_true rfl) dX9_state_48 (by (try dsimp only); exact (⟨by rw [if_neg (by omega), if_pos (by omega)], hLl, hLS, hLP, hLD⟩))
    · -- 22 f
      refine x_aload_n F dX9_state_25 rfl 0 rfl ?_
      refine x_get (ci := 9) F hin9 0 rfl rfl 2 (by decide) hw2 rfl dX9_state_26 ?_
      refine x_iload_n F dX9_state_29 rfl 3 rfl ?_
      refine x_callVi (ci := 2) (q0 := 2) (As := [.int (jI k)]) (st := []) F (c_X2_canBeKnown D kI kJ l qL k qL_blocks qL_hands qL_years qL_grades qL_sums qL_pairs qL_seen vL_size vL_doubles vL_learned hr_k hLs) (cwV 1 F.2.2.2.2.1 gX9_state_X2_canBeKnown rfl rfl rfl (by decide +kernel) ⟨Nat.le_of_ble_eq_true rfl, Nat.le_of_ble_eq_true rfl⟩) rfl rfl [2] [0, 1, 3, 4, 5, 6, 7, 8, 9, 10] [0, 1, 10, 2, 3, 4, 5, 6, 7, 8, 9] rfl rfl (by decide) (by decide) (by decide) (fun _ => rfl) (by decide) rfl (Nat.le_of_ble_eq_true rfl) dX9_state_30 ⟨Nat.le_of_ble_eq_true rfl, Nat.le_of_ble_eq_true rfl⟩ (fun z30 u30 h30 => ?_)
      try dsimp only at h30
      refine x_ws [(qK, .inr (9, [.ref qM, .ref qC, .ref qL, .ref qFr, .ref qE, .ref qK_facts, .ref qN, .ref qS])), (qM, .inr (3, [.ref qM_stones, .ref qM_laid, .ref qM_deeps, .ref qM_rates, .ref qP, .ref qT, .ref qM_dangers, .ref qM_losses, .int (jI vM_size), .int (jI vM_limit)])), (qL, .inr (2, [.ref qL_blocks, .ref qL_hands, .ref qL_years, .ref qL_grades, .ref qL_sums, .ref qL_pairs, .ref qL_seen, .int (jI vL_size), .int (jI vL_doubles), .int (jI vL_learned)])), aI kI qL_blocks 80 fL_blocks, aI kI qL_hands 80 fL_hands, aI kI qL_years 80 fL_years, aI kI qL_grades 80 fL_grades, aI kI qL_sums 4 fL_sums, aI kI qL_pairs 4 fL_pairs, aI kI qL_seen 4 fL_seen, (qFr, .inr (1, [.long (jL vFr_upper), .long (jL vFr_lower)]))] rfl ?_
      have hb30 := h30
      refine x_beq (tgt := 45) F dX9_state_33 (by decide) hb30 (fun c33 => ?_) (fun c33 => ?_)
      · -- 33 t
        refine x_ldc2 F (-1002) hw1 (by decide) dX9_state_45 ?_
        exact hret 0 0 48 _ (-1002) (fL_sums, fL_pairs, vL_doubles, vL_learned, fL_seen, vFr_upper, vFr_lower) (Nat.le_of_ble_eq_true rfl) (Nat.le_of_ble_eq_true rfl) dX9_state_48 (by (try dsimp only); exact (⟨by rw [if_neg (by omega), if_pos (by omega)], hLl, hLS, hLP, hLD⟩))
      · -- 33 f
        refine x_iload F dX9_state_36 4 rfl ?_
        refine x_iconst F dX9_state_38 ?_
        refine x_callSi (As := [.int (jI what), .int (jI 2)]) (st := []) F (c_X9_isBelow D kI kJ l what 2 (by omega) (by omega)) (va_cwS 2 F.2.2.2.2.1 gX9_state_X9_isBelow rfl rfl rfl (by decide +kernel) ⟨Nat.le_of_ble_eq_true rfl, Nat.le_of_ble_eq_true rfl⟩) [] [0, 1, 2, 3, 4, 5, 6, 7, 8, 9, 10] [0, 1, 2, 3, 4, 5, 6, 7, 8, 9, 10] rfl rfl (by decide) (by decide) (by decide) (fun _ => rfl) (by decide) rfl (Nat.le_of_ble_eq_true rfl) dX9_state_39 ⟨Nat.le_of_ble_eq_true rfl, Nat.le_of_ble_eq_true rfl⟩ (fun z39 u39 h39 => ?_)
        try dsimp only at h39
        refine x_ws [(qK, .inr (9, [.ref qM, .ref qC, .ref qL, .ref qFr, .ref qE, .ref qK_facts, .ref qN, .ref qS])), (qM, .inr (3, [.ref qM_stones, .ref qM_laid, .ref qM_deeps, .ref qM_rates, .ref qP, .ref qT, .ref qM_dangers, .ref qM_losses, .int (jI vM_size), .int (jI vM_limit)])), (qL, .inr (2, [.ref qL_blocks, .ref qL_hands, .ref qL_years, .ref qL_grades, .ref qL_sums, .ref qL_pairs, .ref qL_seen, .int (jI vL_size), .int (jI vL_doubles), .int (jI vL_learned)])), aI kI qL_blocks 80 fL_blocks, aI kI qL_hands 80 fL_hands, aI kI qL_years 80 fL_years, aI kI qL_grades 80 fL_grades, aI kI qL_sums 4 fL_sums, aI kI qL_pairs 4 fL_pairs, aI kI qL_seen 4 fL_seen, (qFr, .inr (1, [.long (jL vFr_upper), .long (jL vFr_lower)]))] rfl ?_
        have hb39 := h39
        refine x_bne (tgt := 49) F dX9_state_42 (by decide) hb39 (fun c42 => ?_) (fun c42 => ?_)
        · -- 42 t
          refine x_aload_n F dX9_state_49 rfl 0 rfl ?_
          refine x_get (ci := 9) F hin9 0 rfl rfl 2 (by decide) hw2 rfl dX9_state_50 ?_
          refine x_iload_n F dX9_state_53 rfl 1 rfl ?_
          refine x_iload_n F dX9_state_54 rfl 2 rfl ?_
          refine x_aload_n F dX9_state_55 rfl 0 rfl ?_
          refine x_get (ci := 9) F hin9 0 rfl rfl 2 (by decide) hw2 rfl dX9_state_56 ?_
          refine x_iload_n F dX9_state_59 rfl 3 rfl ?_
          refine x_callVi (ci := 2) (q0 := 2) (As := [.int (jI k)]) (st := [.int (jI year), .int (jI b), .ref qL]) F (c_X2_knownBy D kI kJ l qL k qL_blocks qL_hands qL_years qL_grades qL_sums qL_pairs qL_seen vL_size vL_doubles vL_learned hr_k hLs (by omega)) (cwV 1 F.2.2.2.2.1 gX9_state_X2_knownBy rfl rfl rfl (by decide +kernel) ⟨Nat.le_of_ble_eq_true rfl, Nat.le_of_ble_eq_true rfl⟩) rfl rfl [2] [0, 1, 3, 4, 5, 6, 7, 8, 9, 10] [0, 1, 10, 2, 3, 4, 5, 6, 7, 8, 9] rfl rfl (by decide) (by decide) (by decide) (fun _ => rfl) (by decide) rfl (Nat.le_of_ble_eq_true rfl) dX9_state_60 ⟨Nat.le_of_ble_eq_true rfl, Nat.le_of_ble_eq_true rfl⟩ (fun z60 u60 h60 => ?_)
          try dsimp only at h60
          refine x_ws [(qK, .inr (9, [.ref qM, .ref qC, .ref qL, .ref qFr, .ref qE, .ref qK_facts, .ref qN, .ref qS])), (qM, .inr (3, [.ref qM_stones, .ref qM_laid, .ref qM_deeps, .ref qM_rates, .ref qP, .ref qT, .ref qM_dangers, .ref qM_losses, .int (jI vM_size), .int (jI vM_limit)])), (qL, .inr (2, [.ref qL_blocks, .ref qL_hands, .ref qL_years, .ref qL_grades, .ref qL_sums, .ref qL_pairs, .ref qL_seen, .int (jI vL_size), .int (jI vL_doubles), .int (jI vL_learned)])), aI kI qL_blocks 80 fL_blocks, aI kI qL_hands 80 fL_hands, aI kI qL_years 80 fL_years, aI kI qL_grades 80 fL_grades, aI kI qL_sums 4 fL_sums, aI kI qL_pairs 4 fL_pairs, aI kI qL_seen 4 fL_seen, (qFr, .inr (1, [.long (jL vFr_upper), .long (jL vFr_lower)]))] rfl ?_
          have he60 := h60
          have he60 := he60.symm
          subst he60
          refine x_aload_n F dX9_state_63 rfl 0 rfl ?_
          refine x_get (ci := 9) F hin9 0 rfl rfl 3 (by decide) hw3 rfl dX9_state_64 ?_
          have hkr : 0 ≤ (if k = -1 then vL_size else k) ∧ (if k = -1 then vL_size else k) ≤ vL_size := by split <;> omega
          refine x_callVi (ci := 2) (q0 := 2) (As := [.int (jI b), .int (jI year), .int (jI (if k = -1 then vL_size else k)), .ref qFr]) (st := []) F (c_X2_findState D kI kJ l qL b year (if k = -1 then vL_size else k) qFr qL_blocks qL_hands qL_years qL_grades qL_sums qL_pairs qL_seen vL_size vL_doubles vL_learned fL_blocks fL_hands fL_years fL_grades fL_sums fL_pairs fL_seen vFr_upper vFr_lower hr_b hr_year (by omega) hLs hLb hLh hLy hLg hLl hLS hLP hLD) (cwV 4 F.2.2.2.2.1 gX9_state_X2_findState rfl rfl rfl (by decide +kernel) ⟨Nat.le_of_ble_eq_true rfl, Nat.le_of_ble_eq_true rfl⟩) rfl rfl [2, 3, 4, 5, 6, 7, 8, 9, 10] [0, 1] [0, 1, 2, 3, 4, 5, 6, 7, 8, 9, 10] rfl rfl (by decide) (by decide) (by decide) (fun _ => rfl) (by decide) rfl (Nat.le_of_ble_eq_true rfl) dX9_state_67 ⟨Nat.le_of_ble_eq_true rfl, Nat.le_of_ble_eq_true rfl⟩ (fun z67 u67 h67 => ?_)
          obtain ⟨s2_67, p2_67, e2_67, d2_67, g2_67, u2_67, l2_67⟩ := u67
          try dsimp only at h67
          refine x_ws [(qK, .inr (9, [.ref qM, .ref qC, .ref qL, .ref qFr, .ref qE, .ref qK_facts, .ref qN, .ref qS])), (qM, .inr (3, [.ref qM_stones, .ref qM_laid, .ref qM_deeps, .ref qM_rates, .ref qP, .ref qT, .ref qM_dangers, .ref qM_losses, .int (jI vM_size), .int (jI vM_limit)])), (qL, .inr (2, [.ref qL_blocks, .ref qL_hands, .ref qL_years, .ref qL_grades, .ref qL_sums, .ref qL_pairs, .ref qL_seen, .int (jI vL_size), .int (jI d2_67), .int (jI g2_67)])), aI kI qL_blocks 80 fL_blocks, aI kI qL_hands 80 fL_hands, aI kI qL_years 80 fL_years, aI kI qL_grades 80 fL_grades, aI kI qL_sums 4 s2_67, aI kI qL_pairs 4 p2_67, aI kI qL_seen 4 e2_67, (qFr, .inr (1, [.long (jL u2_67), .long (jL l2_67)]))] rfl ?_
          obtain ⟨hb67, hg2_67, hs_67, hp_67, hd_67, hst_67, hno_67⟩ := h67
          refine x_bne (tgt := 77) F dX9_state_70 (by decide) hb67 (fun c70 => ?_) (fun c70 => ?_)
          · -- 70 t
            refine x_aload_n F dX9_state_77 rfl 0 rfl ?_
            refine x_get (ci := 9) F hin9 0 rfl rfl 3 (by decide) hw3 rfl dX9_state_78 ?_
            refine x_iload F dX9_state_81 4 rfl ?_
            refine x_callVl (ci := 1) (q0 := 10) (As := [.int (jI what)]) (st := []) F (c_X1_part D kI kJ l qFr what u2_67 l2_67 hr_what) (cwV 1 F.2.2.2.2.1 gX9_state_X1_part rfl rfl rfl (by decide +kernel) ⟨Nat.le_of_ble_eq_true rfl, Nat.le_of_ble_eq_true rfl⟩) rfl rfl [10] [0, 1, 2, 3, 4, 5, 6, 7, 8, 9] [0, 1, 2, 3, 4, 5, 6, 7, 8, 9, 10] rfl rfl (by decide) (by decide) (by decide) (fun _ => rfl) (by decide) rfl (Nat.le_of_ble_eq_true rfl) dX9_state_83 ⟨Nat.le_of_ble_eq_true rfl, Nat.le_of_ble_eq_true rfl⟩ (fun z83 u83 h83 => ?_)
            try dsimp only at h83
            refine x_ws [(qK, .inr (9, [.ref qM, .ref qC, .ref qL, .ref qFr, .ref qE, .ref qK_facts, .ref qN, .ref qS])), (qM, .inr (3, [.ref qM_stones, .ref qM_laid, .ref qM_deeps, .ref qM_rates, .ref qP, .ref qT, .ref qM_dangers, .ref qM_losses, .int (jI vM_size), .int (jI vM_limit)])), (qL, .inr (2, [.ref qL_blocks, .ref qL_hands, .ref qL_years, .ref qL_grades, .ref qL_sums, .ref qL_pairs, .ref qL_seen, .int (jI vL_size), .int (jI d2_67), .int (jI g2_67)])), aI kI qL_blocks 80 fL_blocks, aI kI qL_hands 80 fL_hands, aI kI qL_years 80 fL_years, aI kI qL_grades 80 fL_grades, aI kI qL_sums 4 s2_67, aI kI qL_pairs 4 p2_67, aI kI qL_seen 4 e2_67, (qFr, .inr (1, [.long (jL u2_67), .long (jL l2_67)]))] rfl ?_
            have he83 := h83
            have he83 := he83.symm
            subst he83
            exact hret 0 0 86 _ (if what = 0 then u2_67 else l2_67) (s2_67, p2_67, d2_67, g2_67, e2_67, u2_67, l2_67) (Nat.le_of_ble_eq_true rfl) (Nat.le_of_ble_eq_true rfl) dX9_state_86 (by (try dsimp only); exact (⟨by rw [(hst_67 c70).1, (hst_67 c70).2]; exact ((if_neg (by omega)).trans ((if_neg (by omega)).trans (if_neg c70))).symm, hg2_67, hs_67, hp_67, hd_67⟩))
          · -- 70 f
            refine x_ldc2 F (-1003) hw4 (by decide) dX9_state_73 ?_
            exact hret 0 0 76 _ (-1003) (s2_67, p2_67, d2_67, g2_67, e2_67, u2_67, l2_67) (Nat.le_of_ble_eq_true rfl) (Nat.le_of_ble_eq_true rfl) dX9_state_76 (by (try dsimp only); exact (⟨by rw [if_neg (by omega), if_neg (by omega), if_pos (by omega)], hg2_67, hs_67, hp_67, hd_67⟩))
        · -- 42 f
          refine x_ldc2 F (-1002) hw1 (by decide) dX9_state_45 ?_
          exact hret 0 0 48 _ (-1002) (fL_sums, fL_pairs, vL_doubles, vL_learned, fL_seen, vFr_upper, vFr_lower) (Nat.le_of_ble_eq_true rfl) (Nat.le_of_ble_eq_true rfl) dX9_state_48 (by (try dsimp only); exact (⟨by rw [if_neg (by omega), if_pos (by omega)], hLl, hLS, hLP, hLD⟩))
  · -- 8 f
    refine x_ldc2 F (-1001) hw5 (by decide) dX9_state_11 ?_
    exact hret 0 0 14 _ (-1001) (fL_sums, fL_pairs, vL_doubles, vL_learned, fL_seen, vFr_upper, vFr_lower) (Nat.le_of_ble_eq_true rfl) (Nat.le_of_ble_eq_true rfl) dX9_state_14 (by (try dsimp only); exact (⟨by rw [if_pos (by omega)], hLl, hLS, hLP, hLD⟩))
