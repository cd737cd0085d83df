set_option maxHeartbeats 4000000 in
set_option maxRecDepth 100000 in
theorem c_X10_look (D : va_G) (kI kJ : Nat) (l : Launch) (qO : Nat) (b : Int) (hand : Int) (year : Int) (grade : Int) (vO_blocks : Int) (qO_stones : Nat) (qO_laid : Nat) (qO_deep : Nat) (vO_placings : Int) (qO_placed : Nat) (vO_mortars : Int) (qO_put : Nat) (qO_rates : Nat) (vO_limit : Int) (vO_looks : Int) (qO_seen : Nat) (qO_text : Nat) (vO_texted : Int) (vO_faultPlace : Int) (vO_clauses : Int) (qO_rule : Nat) (qO_fresh : Nat) (vO_lots : Int) (qO_stocks : Nat) (qO_row : Nat) (qO_dangers : Nat) (qO_losses : Nat) (vO_upper : Int) (vO_lower : Int) (qO_habitUpper : Nat) (qO_habitLower : Nat) (vO_at : Int) (vO_word : Int) (vO_wordEnd : Int) (qO_chosen : Nat) (qO_lost : Nat) (qO_zones : Nat) (qO_way : Nat) (qO_spent : Nat) (qO_scaffolds : Nat) (fO_seen : (Int → Int)) (hr_b : -2147483648 ≤ b ∧ b < 2147483648) (hr_hand : -2147483648 ≤ hand ∧ hand < 2147483648) (hr_year : -2147483648 ≤ year ∧ year < 2147483648) (hr_grade : -2147483648 ≤ grade ∧ grade < 2147483648) (hOb : 0 ≤ vO_blocks ∧ vO_blocks ≤ 30) (hOl : 0 ≤ vO_looks ∧ vO_looks ≤ 80) : xMi D kI kJ l yX10_look wsX10_look 3 78 0 0 [.ref qO, .int (jI b), .int (jI hand), .int (jI year), .int (jI grade)] [(qO, .inr (10, [.int (jI vO_blocks), .ref qO_stones, .ref qO_laid, .ref qO_deep, .int (jI vO_placings), .ref qO_placed, .int (jI vO_mortars), .ref qO_put, .ref qO_rates, .int (jI vO_limit), .int (jI vO_looks), .ref qO_seen, .ref qO_text, .int (jI vO_texted), .int (jI vO_faultPlace), .int (jI vO_clauses), .ref qO_rule, .ref qO_fresh, .int (jI vO_lots), .ref qO_stocks, .ref qO_row, .ref qO_dangers, .ref qO_losses, .long (jL vO_upper), .long (jL vO_lower), .ref qO_habitUpper, .ref qO_habitLower, .int (jI vO_at), .long (jL vO_word), .int (jI vO_wordEnd), .ref qO_chosen, .ref qO_lost, .ref qO_zones, .ref qO_way, .ref qO_spent, .ref qO_scaffolds])), aI kI qO_seen 320 fO_seen] (fun (z : Int) (u : Int × (Int → Int)) => (((¬ (0 ≤ b ∧ b < vO_blocks)) ∧ z = -1001 ∧ u.1 = vO_looks ∧ u.2 = fO_seen) ∨ (((0 ≤ b ∧ b < vO_blocks) ∧ ¬ ((0 ≤ hand ∧ hand ≤ 3) ∧ (0 ≤ year ∧ year ≤ 400) ∧ 0 ≤ grade ∧ grade ≤ 99)) ∧ z = -1002 ∧ u.1 = vO_looks ∧ u.2 = fO_seen) ∨ (((0 ≤ b ∧ b < vO_blocks) ∧ ((0 ≤ hand ∧ hand ≤ 3) ∧ (0 ≤ year ∧ year ≤ 400) ∧ 0 ≤ grade ∧ grade ≤ 99) ∧ vO_looks = 80) ∧ z = -1004 ∧ u.1 = vO_looks ∧ u.2 = fO_seen) ∨ (((0 ≤ b ∧ b < vO_blocks) ∧ ((0 ≤ hand ∧ hand ≤ 3) ∧ (0 ≤ year ∧ year ≤ 400) ∧ 0 ≤ grade ∧ grade ≤ 99) ∧ vO_looks < 80) ∧ z = vO_looks ∧ u.1 = vO_looks + 1 ∧ u.2 = iU (iU (iU (iU fO_seen (4 * vO_looks) b) (4 * vO_looks + 1) hand) (4 * vO_looks + 2) year) (4 * vO_looks + 3) grade))) (fun (u : Int × (Int → Int)) => [(qO, .inr (10, [.int (jI vO_blocks), .ref qO_stones, .ref qO_laid, .ref qO_deep, .int (jI vO_placings), .ref qO_placed, .int (jI vO_mortars), .ref qO_put, .ref qO_rates, .int (jI vO_limit), .int (jI u.1), .ref qO_seen, .ref qO_text, .int (jI vO_texted), .int (jI vO_faultPlace), .int (jI vO_clauses), .ref qO_rule, .ref qO_fresh, .int (jI vO_lots), .ref qO_stocks, .ref qO_row, .ref qO_dangers, .ref qO_losses, .long (jL vO_upper), .long (jL vO_lower), .ref qO_habitUpper, .ref qO_habitLower, .int (jI vO_at), .long (jL vO_word), .int (jI vO_wordEnd), .ref qO_chosen, .ref qO_lost, .ref qO_zones, .ref qO_way, .ref qO_spent, .ref qO_scaffolds])), aI kI qO_seen 320 u.2]) := by
  refine xMi_of (cc := cX10_look) (maxL := 5) (rt := .int) (by decide) rfl (Nat.le_of_ble_eq_true rfl) (fun _ _ _ => rfl) ?_
  intro p e s m args below meth c A Q F hin2 hret
  have hin10 : ∀ w ∈ wsX100, w ∈ wsX10_look := by decide +kernel
  have hw0 : Cond.constantLong RX10 93 3 ∈ wsX10_look := by decide +kernel
  have hw1 : Cond.constantLong RX10 157 99 ∈ wsX10_look := by decide +kernel
  have hw2 : Cond.fieldLink RX10 141 (TX10 10).1 (TX10 10).2.1 (TX10 10).2.2.1 ∈ wsX10_look := by decide +kernel
  have hw3 : Cond.fieldLink RX10 32 (TX10 11).1 (TX10 11).2.1 (TX10 11).2.2.1 ∈ wsX10_look := by decide +kernel
  refine x_lveq (lv' := [(0, .ref qO), (1, .int (jI b)), (2, .int (jI hand)), (3, .int (jI year)), (4, .int (jI grade))]) rfl ?_
  refine x_aload_n F dX10_look_0 rfl 0 rfl ?_
  refine x_iload_n F dX10_look_1 rfl 1 rfl ?_
  refine x_callVi (ci := 10) (q0 := 0) (As := [.int (jI b)]) (st := []) F (c_X10_isBlock D kI kJ l qO b vO_blocks qO_stones qO_laid qO_deep vO_placings qO_placed vO_mortars qO_put qO_rates vO_limit vO_looks qO_seen qO_text vO_texted vO_faultPlace vO_clauses qO_rule qO_fresh vO_lots qO_stocks qO_row qO_dangers qO_losses vO_upper vO_lower qO_habitUpper qO_habitLower vO_at vO_word vO_wordEnd qO_chosen qO_lost qO_zones qO_way qO_spent qO_scaffolds hr_b hOb) (cwV 1 F.2.2.2.2.1 gX10_look_X10_isBlock rfl rfl rfl (by decide +kernel) ⟨Nat.le_of_ble_eq_true rfl, Nat.le_of_ble_eq_true rfl⟩) rfl rfl [0] [1] [1, 0] rfl rfl (by decide) (by decide) (by decide) (fun _ => rfl) (by decide) rfl (Nat.le_of_ble_eq_true rfl) dX10_look_2 ⟨Nat.le_of_ble_eq_true rfl, Nat.le_of_ble_eq_true rfl⟩ (fun z2 u2 h2 => ?_)
  try dsimp only at h2
  refine x_ws [(qO, .inr (10, [.int (jI vO_blocks), .ref qO_stones, .ref qO_laid, .ref qO_deep, .int (jI vO_placings), .ref qO_placed, .int (jI vO_mortars), .ref qO_put, .ref qO_rates, .int (jI vO_limit), .int (jI vO_looks), .ref qO_seen, .ref qO_text, .int (jI vO_texted), .int (jI vO_faultPlace), .int (jI vO_clauses), .ref qO_rule, .ref qO_fresh, .int (jI vO_lots), .ref qO_stocks, .ref qO_row, .ref qO_dangers, .ref qO_losses, .long (jL vO_upper), .long (jL vO_lower), .ref qO_habitUpper, .ref qO_habitLower, .int (jI vO_at), .long (jL vO_word), .int (jI vO_wordEnd), .ref qO_chosen, .ref qO_lost, .ref qO_zones, .ref qO_way, .ref qO_spent, .ref qO_scaffolds])), aI kI qO_seen 320 fO_seen] rfl ?_
  have hb2 := h2
  refine x_bne (tgt := 12) F dX10_look_5 (by decide) hb2 (fun c5 => ?_) (fun c5 => ?_)
  · -- 5 t
    refine x_iload_n F dX10_look_12 rfl 2 rfl ?_
    refine x_i2l F dX10_look_13 (by omega) ?_
    refine x_lconst F 0 dX10_look_14 (by decide) ?_
    refine x_ldc2 F 3 hw0 (by decide) dX10_look_15 ?_
    refine x_callSi (As := [.long (jL hand), .long (jL 0), .long (jL 3)]) (st := []) F (c_X10_in D kI kJ l hand 0 3 (by omega) (by omega) (by omega)) (va_cwS 3 F.2.2.2.2.1 gX10_look_X10_in rfl rfl rfl (by decide +kernel) ⟨Nat.le_of_ble_eq_true rfl, Nat.le_of_ble_eq_true rfl⟩) [] [0, 1] [0, 1] rfl rfl (by decide) (by decide) (by decide) (fun _ => rfl) (by decide) rfl (Nat.le_of_ble_eq_true rfl) dX10_look_18 ⟨Nat.le_of_ble_eq_true rfl, Nat.le_of_ble_eq_true rfl⟩ (fun z18 u18 h18 => ?_)
    try dsimp only at h18
    refine x_ws [(qO, .inr (10, [.int (jI vO_blocks), .ref qO_stones, .ref qO_laid, .ref qO_deep, .int (jI vO_placings), .ref qO_placed, .int (jI vO_mortars), .ref qO_put, .ref qO_rates, .int (jI vO_limit), .int (jI vO_looks), .ref qO_seen, .ref qO_text, .int (jI vO_texted), .int (jI vO_faultPlace), .int (jI vO_clauses), .ref qO_rule, .ref qO_fresh, .int (jI vO_lots), .ref qO_stocks, .ref qO_row, .ref qO_dangers, .ref qO_losses, .long (jL vO_upper), .long (jL vO_lower), .ref qO_habitUpper, .ref qO_habitLower, .int (jI vO_at), .long (jL vO_word), .int (jI vO_wordEnd), .ref qO_chosen, .ref qO_lost, .ref qO_zones, .ref qO_way, .ref qO_spent, .ref qO_scaffolds])), aI kI qO_seen 320 fO_seen] rfl ?_
    have hb18 := h18
    refine x_beq (tgt := 44) F dX10_look_21 (by decide) hb18 (fun c21 => ?_) (fun c21 => ?_)
    · -- 21 t
      refine x_sipush F dX10_look_44 (by decide) ?_
      exact hret 0 0 47 _ (-1002) (vO_looks, fO_seen) (Nat.le_of_ble_eq_true rfl) (Nat.le_of_ble_eq_true rfl) dX10_look_47 (by (try dsimp only); exact (by first | exact Or.inl (⟨by omega, (by first | rfl | omega), (by first | rfl | omega), (by first | rfl | omega)⟩) | exact Or.inr (Or.inl (⟨by omega, (by first | rfl | omega), (by first | rfl | omega), (by first | rfl | omega)⟩)) | exact Or.inr (Or.inr (Or.inl (⟨by omega, (by first | rfl | omega), (by first | rfl | omega), (by first | rfl | omega)⟩))) | exact Or.inr (Or.inr (Or.inr (⟨by omega, (by first | rfl | omega), (by first | rfl | omega), (by first | rfl | omega)⟩)))))
    · -- 21 f
      refine x_iload_n F dX10_look_24 rfl 3 rfl ?_
      refine x_callSi (As := [.int (jI year)]) (st := []) F (c_X10_isYear D kI kJ l year (by omega)) (va_cwS 1 F.2.2.2.2.1 gX10_look_X10_isYear rfl rfl rfl (by decide +kernel) ⟨Nat.le_of_ble_eq_true rfl, Nat.le_of_ble_eq_true rfl⟩) [] [0, 1] [0, 1] rfl rfl (by decide) (by decide) (by decide) (fun _ => rfl) (by decide) rfl (Nat.le_of_ble_eq_true rfl) dX10_look_25 ⟨Nat.le_of_ble_eq_true rfl, Nat.le_of_ble_eq_true rfl⟩ (fun z25 u25 h25 => ?_)
      try dsimp only at h25
      refine x_ws [(qO, .inr (10, [.int (jI vO_blocks), .ref qO_stones, .ref qO_laid, .ref qO_deep, .int (jI vO_placings), .ref qO_placed, .int (jI vO_mortars), .ref qO_put, .ref qO_rates, .int (jI vO_limit), .int (jI vO_looks), .ref qO_seen, .ref qO_text, .int (jI vO_texted), .int (jI vO_faultPlace), .int (jI vO_clauses), .ref qO_rule, .ref qO_fresh, .int (jI vO_lots), .ref qO_stocks, .ref qO_row, .ref qO_dangers, .ref qO_losses, .long (jL vO_upper), .long (jL vO_lower), .ref qO_habitUpper, .ref qO_habitLower, .int (jI vO_at), .long (jL vO_word), .int (jI vO_wordEnd), .ref qO_chosen, .ref qO_lost, .ref qO_zones, .ref qO_way, .ref qO_spent, .ref qO_scaffolds])), aI kI qO_seen 320 fO_seen] rfl ?_
      have hb25 := h25
      refine x_beq (tgt := 44) F dX10_look_28 (by decide) hb25 (fun c28 => ?_) (fun c28 => ?_)
      · -- 28 t
        refine x_sipush F dX10_look_44 (by decide) ?_
        exact hret 0 0 47 _ (-1002) (vO_looks, fO_seen) (Nat.le_of_ble_eq_true rfl) (Nat.le_of_ble_eq_true rfl) dX10_look_47 (by (try dsimp only); exact (by first | exact Or.inl (⟨by omega, (by first | rfl | omega), (by first | rfl | omega), (by first | rfl | omega)⟩) | exact Or.inr (Or.inl (⟨by omega, (by first | rfl | omega), (by first | rfl | omega), (by first | rfl | omega)⟩)) | exact Or.inr (Or.inr (Or.inl (⟨by omega, (by first | rfl | omega), (by first | rfl | omega), (by first | rfl | omega)⟩))) | exact Or.inr (Or.inr (Or.inr (⟨by omega, (by first | rfl | omega), (by first | rfl | omega), (by first | rfl | omega)⟩)))))
      · -- 28 f
        refine x_iload F dX10_look_31 4 rfl ?_
        refine x_i2l F dX10_look_33 (by omega) ?_
        refine x_lconst F 0 dX10_look_34 (by decide) ?_
        refine x_ldc2 F 99 hw1 (by decide) dX10_look_35 ?_
        refine x_callSi (As := [.long (jL grade), .long (jL 0), .long (jL 99)]) (st := []) F (c_X10_in D kI kJ l grade 0 99 (by omega) (by omega) (by omega)) (va_cwS 3 F.2.2.2.2.1 gX10_look_X10_in rfl rfl rfl (by decide +kernel) ⟨Nat.le_of_ble_eq_true rfl, Nat.le_of_ble_eq_true rfl⟩) [] [0, 1] [0, 1] rfl rfl (by decide) (by decide) (by decide) (fun _ => rfl) (by decide) rfl (Nat.le_of_ble_eq_true rfl) dX10_look_38 ⟨Nat.le_of_ble_eq_true rfl, Nat.le_of_ble_eq_true rfl⟩ (fun z38 u38 h38 => ?_)
        try dsimp only at h38
        refine x_ws [(qO, .inr (10, [.int (jI vO_blocks), .ref qO_stones, .ref qO_laid, .ref qO_deep, .int (jI vO_placings), .ref qO_placed, .int (jI vO_mortars), .ref qO_put, .ref qO_rates, .int (jI vO_limit), .int (jI vO_looks), .ref qO_seen, .ref qO_text, .int (jI vO_texted), .int (jI vO_faultPlace), .int (jI vO_clauses), .ref qO_rule, .ref qO_fresh, .int (jI vO_lots), .ref qO_stocks, .ref qO_row, .ref qO_dangers, .ref qO_losses, .long (jL vO_upper), .long (jL vO_lower), .ref qO_habitUpper, .ref qO_habitLower, .int (jI vO_at), .long (jL vO_word), .int (jI vO_wordEnd), .ref qO_chosen, .ref qO_lost, .ref qO_zones, .ref qO_way, .ref qO_spent, .ref qO_scaffolds])), aI kI qO_seen 320 fO_seen] rfl ?_
        have hb38 := h38
        refine x_bne (tgt := 48) F dX10_look_41 (by decide) hb38 (fun c41 => ?_) (fun c41 => ?_)
        · -- 41 t
          refine x_aload_n F dX10_look_48 rfl 0 rfl ?_
          refine x_get (ci := 10) F hin10 0 rfl rfl 10 (by decide) hw2 rfl dX10_look_49 ?_
          refine x_bipush F dX10_look_52 (by decide) ?_
          refine x_icmp_ne (tgt := 61) F dX10_look_54 (by decide) (by omega) (fun c54 => ?_) (fun c54 => ?_)
          · -- 54 t
            refine x_aload_n F dX10_look_61 rfl 0 rfl ?_
            refine x_get (ci := 10) F hin10 0 rfl rfl 11 (by decide) hw3 rfl dX10_look_62 ?_
            refine x_iconst F dX10_look_65 ?_
            refine x_aload_n F dX10_look_66 rfl 0 rfl ?_
            refine x_get (ci := 10) F hin10 0 rfl rfl 10 (by decide) hw2 rfl dX10_look_67 ?_
            refine x_imul F dX10_look_70 ?_
            refine x_iload_n F dX10_look_71 rfl 1 rfl ?_
            refine x_iast F 1 rfl (by decide) (by omega) dX10_look_72 [(qO, .inr (10, [.int (jI vO_blocks), .ref qO_stones, .ref qO_laid, .ref qO_deep, .int (jI vO_placings), .ref qO_placed, .int (jI vO_mortars), .ref qO_put, .ref qO_rates, .int (jI vO_limit), .int (jI vO_looks), .ref qO_seen, .ref qO_text, .int (jI vO_texted), .int (jI vO_faultPlace), .int (jI vO_clauses), .ref qO_rule, .ref qO_fresh, .int (jI vO_lots), .ref qO_stocks, .ref qO_row, .ref qO_dangers, .ref qO_losses, .long (jL vO_upper), .long (jL vO_lower), .ref qO_habitUpper, .ref qO_habitLower, .int (jI vO_at), .long (jL vO_word), .int (jI vO_wordEnd), .ref qO_chosen, .ref qO_lost, .ref qO_zones, .ref qO_way, .ref qO_spent, .ref qO_scaffolds])), aI kI qO_seen 320 (iU fO_seen (4 * vO_looks) b)] rfl ?_
            refine x_aload_n F dX10_look_73 rfl 0 rfl ?_
            refine x_get (ci := 10) F hin10 0 rfl rfl 11 (by decide) hw3 rfl dX10_look_74 ?_
            refine x_iconst F dX10_look_77 ?_
            refine x_aload_n F dX10_look_78 rfl 0 rfl ?_
            refine x_get (ci := 10) F hin10 0 rfl rfl 10 (by decide) hw2 rfl dX10_look_79 ?_
            refine x_imul F dX10_look_82 ?_
            refine x_iconst F dX10_look_83 ?_
            refine x_iadd F dX10_look_84 ?_
            refine x_iload_n F dX10_look_85 rfl 2 rfl ?_
            refine x_iast F 1 rfl (by decide) (by omega) dX10_look_86 [(qO, .inr (10, [.int (jI vO_blocks), .ref qO_stones, .ref qO_laid, .ref qO_deep, .int (jI vO_placings), .ref qO_placed, .int (jI vO_mortars), .ref qO_put, .ref qO_rates, .int (jI vO_limit), .int (jI vO_looks), .ref qO_seen, .ref qO_text, .int (jI vO_texted), .int (jI vO_faultPlace), .int (jI vO_clauses), .ref qO_rule, .ref qO_fresh, .int (jI vO_lots), .ref qO_stocks, .ref qO_row, .ref qO_dangers, .ref qO_losses, .long (jL vO_upper), .long (jL vO_lower), .ref qO_habitUpper, .ref qO_habitLower, .int (jI vO_at), .long (jL vO_word), .int (jI vO_wordEnd), .ref qO_chosen, .ref qO_lost, .ref qO_zones, .ref qO_way, .ref qO_spent, .ref qO_scaffolds])), aI kI qO_seen 320 (iU (iU fO_seen (4 * vO_looks) b) ((4 * vO_looks) + 1) hand)] rfl ?_
            refine x_aload_n F dX10_look_87 rfl 0 rfl ?_
            refine x_get (ci := 10) F hin10 0 rfl rfl 11 (by decide) hw3 rfl dX10_look_88 ?_
            refine x_iconst F dX10_look_91 ?_
            refine x_aload_n F dX10_look_92 rfl 0 rfl ?_
            refine x_get (ci := 10) F hin10 0 rfl rfl 10 (by decide) hw2 rfl dX10_look_93 ?_
            refine x_imul F dX10_look_96 ?_
            refine x_iconst F dX10_look_97 ?_
            refine x_iadd F dX10_look_98 ?_
            refine x_iload_n F dX10_look_99 rfl 3 rfl ?_
            refine x_iast F 1 rfl (by decide) (by omega) dX10_look_100 [(qO, .inr (10, [.int (jI vO_blocks), .ref qO_stones, .ref qO_laid, .ref qO_deep, .int (jI vO_placings), .ref qO_placed, .int (jI vO_mortars), .ref qO_put, .ref qO_rates, .int (jI vO_limit), .int (jI vO_looks), .ref qO_seen, .ref qO_text, .int (jI vO_texted), .int (jI vO_faultPlace), .int (jI vO_clauses), .ref qO_rule, .ref qO_fresh, .int (jI vO_lots), .ref qO_stocks, .ref qO_row, .ref qO_dangers, .ref qO_losses, .long (jL vO_upper), .long (jL vO_lower), .ref qO_habitUpper, .ref qO_habitLower, .int (jI vO_at), .long (jL vO_word), .int (jI vO_wordEnd), .ref qO_chosen, .ref qO_lost, .ref qO_zones, .ref qO_way, .ref qO_spent, .ref qO_scaffolds])), aI kI qO_seen 320 (iU (iU (iU fO_seen (4 * vO_looks) b) ((4 * vO_looks) + 1) hand) ((4 * vO_looks) + 2) year)] rfl ?_
            refine x_aload_n F dX10_look_101 rfl 0 rfl ?_
            refine x_get (ci := 10) F hin10 0 rfl rfl 11 (by decide) hw3 rfl dX10_look_102 ?_
            refine x_iconst F dX10_look_105 ?_
            refine x_aload_n F dX10_look_106 rfl 0 rfl ?_
            refine x_get (ci := 10) F hin10 0 rfl rfl 10 (by decide) hw2 rfl dX10_look_107 ?_
            refine x_imul F dX10_look_110 ?_
            refine x_iconst F dX10_look_111 ?_
            refine x_iadd F dX10_look_112 ?_
            refine x_iload F dX10_look_113 4 rfl ?_
            refine x_iast F 1 rfl (by decide) (by omega) dX10_look_115 [(qO, .inr (10, [.int (jI vO_blocks), .ref qO_stones, .ref qO_laid, .ref qO_deep, .int (jI vO_placings), .ref qO_placed, .int (jI vO_mortars), .ref qO_put, .ref qO_rates, .int (jI vO_limit), .int (jI vO_looks), .ref qO_seen, .ref qO_text, .int (jI vO_texted), .int (jI vO_faultPlace), .int (jI vO_clauses), .ref qO_rule, .ref qO_fresh, .int (jI vO_lots), .ref qO_stocks, .ref qO_row, .ref qO_dangers, .ref qO_losses, .long (jL vO_upper), .long (jL vO_lower), .ref qO_habitUpper, .ref qO_habitLower, .int (jI vO_at), .long (jL vO_word), .int (jI vO_wordEnd), .ref qO_chosen, .ref qO_lost, .ref qO_zones, .ref qO_way, .ref qO_spent, .ref qO_scaffolds])), aI kI qO_seen 320 (iU (iU (iU (iU fO_seen (4 * vO_looks) b) ((4 * vO_looks) + 1) hand) ((4 * vO_looks) + 2) year) ((4 * vO_looks) + 3) grade)] rfl ?_
            refine x_aload_n F dX10_look_116 rfl 0 rfl ?_
            refine x_dup F dX10_look_117 rfl ?_
            refine x_get (ci := 10) F hin10 0 rfl rfl 10 (by decide) hw2 rfl dX10_look_118 ?_
            refine x_iconst F dX10_look_121 ?_
            refine x_iadd F dX10_look_122 ?_
            refine x_put (ci := 10) F hin10 tyX10_ok nmX10 0 rfl rfl 10 (by decide) hw2 rfl rfl rfl (show 10 + 1 ≤ _ from Nat.le_of_ble_eq_true rfl) dX10_look_123 [(qO, .inr (10, [.int (jI vO_blocks), .ref qO_stones, .ref qO_laid, .ref qO_deep, .int (jI vO_placings), .ref qO_placed, .int (jI vO_mortars), .ref qO_put, .ref qO_rates, .int (jI vO_limit), .int (jI (vO_looks + 1)), .ref qO_seen, .ref qO_text, .int (jI vO_texted), .int (jI vO_faultPlace), .int (jI vO_clauses), .ref qO_rule, .ref qO_fresh, .int (jI vO_lots), .ref qO_stocks, .ref qO_row, .ref qO_dangers, .ref qO_losses, .long (jL vO_upper), .long (jL vO_lower), .ref qO_habitUpper, .ref qO_habitLower, .int (jI vO_at), .long (jL vO_word), .int (jI vO_wordEnd), .ref qO_chosen, .ref qO_lost, .ref qO_zones, .ref qO_way, .ref qO_spent, .ref qO_scaffolds])), aI kI qO_seen 320 (iU (iU (iU (iU fO_seen (4 * vO_looks) b) ((4 * vO_looks) + 1) hand) ((4 * vO_looks) + 2) year) ((4 * vO_looks) + 3) grade)] rfl ?_
            refine x_aload_n F dX10_look_126 rfl 0 rfl ?_
            refine x_get (ci := 10) F hin10 0 rfl rfl 10 (by decide) hw2 rfl dX10_look_127 ?_
            refine x_iconst F dX10_look_130 ?_
            refine x_isub F dX10_look_131 ?_
            exact hret 0 0 132 _ ((vO_looks + 1) - 1) ((vO_looks + 1), iU (iU (iU (iU fO_seen (4 * vO_looks) b) ((4 * vO_looks) + 1) hand) ((4 * vO_looks) + 2) year) ((4 * vO_looks) + 3) grade) (Nat.le_of_ble_eq_true rfl) (Nat.le_of_ble_eq_true rfl) dX10_look_132 (by (try dsimp only); exact (by first | exact Or.inl (⟨by omega, (by first | rfl | omega), (by first | rfl | omega), (by first | rfl | omega)⟩) | exact Or.inr (Or.inl (⟨by omega, (by first | rfl | omega), (by first | rfl | omega), (by first | rfl | omega)⟩)) | exact Or.inr (Or.inr (Or.inl (⟨by omega, (by first | rfl | omega), (by first | rfl | omega), (by first | rfl | omega)⟩))) | exact Or.inr (Or.inr (Or.inr (⟨by omega, (by first | rfl | omega), (by first | rfl | omega), (by first | rfl | omega)⟩)))))
          · -- 54 f
            refine x_sipush F dX10_look_57 (by decide) ?_
            exact hret 0 0 60 _ (-1004) (vO_looks, fO_seen) (Nat.le_of_ble_eq_true rfl) (Nat.le_of_ble_eq_true rfl) dX10_look_60 (by (try dsimp only); exact (by first | exact Or.inl (⟨by omega, (by first | rfl | omega), (by first | rfl | omega), (by first | rfl | omega)⟩) | exact Or.inr (Or.inl (⟨by omega, (by first | rfl | omega), (by first | rfl | omega), (by first | rfl | omega)⟩)) | exact Or.inr (Or.inr (Or.inl (⟨by omega, (by first | rfl | omega), (by first | rfl | omega), (by first | rfl | omega)⟩))) | exact Or.inr (Or.inr (Or.inr (⟨by omega, (by first | rfl | omega), (by first | rfl | omega), (by first | rfl | omega)⟩)))))
        · -- 41 f
          refine x_sipush F dX10_look_44 (by decide) ?_
          exact hret 0 0 47 _ (-1002) (vO_looks, fO_seen) (Nat.le_of_ble_eq_true rfl) (Nat.le_of_ble_eq_true rfl) dX10_look_47 (by (try dsimp only); exact (by first | exact Or.inl (⟨by omega, (by first | rfl | omega), (by first | rfl | omega), (by first | rfl | omega)⟩) | exact Or.inr (Or.inl (⟨by omega, (by first | rfl | omega), (by first | rfl | omega), (by first | rfl | omega)⟩)) | exact Or.inr (Or.inr (Or.inl (⟨by omega, (by first | rfl | omega), (by first | rfl | omega), (by first | rfl | omega)⟩))) | exact Or.inr (Or.inr (Or.inr (⟨by omega, (by first | rfl | omega), (by first | rfl | omega), (by first | rfl | omega)⟩)))))
  · -- 5 f
    refine x_sipush F dX10_look_8 (by decide) ?_
    exact hret 0 0 11 _ (-1001) (vO_looks, fO_seen) (Nat.le_of_ble_eq_true rfl) (Nat.le_of_ble_eq_true rfl) dX10_look_11 (by (try dsimp only); exact (by first | exact Or.inl (⟨by omega, (by first | rfl | omega), (by first | rfl | omega), (by first | rfl | omega)⟩) | exact Or.inr (Or.inl (⟨by omega, (by first | rfl | omega), (by first | rfl | omega), (by first | rfl | omega)⟩)) | exact Or.inr (Or.inr (Or.inl (⟨by omega, (by first | rfl | omega), (by first | rfl | omega), (by first | rfl | omega)⟩))) | exact Or.inr (Or.inr (Or.inr (⟨by omega, (by first | rfl | omega), (by first | rfl | omega), (by first | rfl | omega)⟩)))))
set_option maxHeartbeats 4000000 in
set_option maxRecDepth 100000 in
theorem c_X10_lot (D : va_G) (kI kJ : Nat) (l : Launch) (qO : Nat) (stone : Int) (strength : Int) (pores : Int) (colour : Int) (pieces : Int) (vO_blocks : Int) (qO_stones : Nat) (qO_laid : Nat) (qO_deep : Nat) (vO_placings : Int) (qO_placed : Nat) (vO_mortars : Int) (qO_put : Nat) (qO_rates : Nat) (vO_limit : Int) (vO_looks : Int) (qO_seen : Nat) (qO_text : Nat) (vO_texted : Int) (vO_faultPlace : Int) (vO_clauses : Int) (qO_rule : Nat) (qO_fresh : Nat) (vO_lots : Int) (qO_stocks : Nat) (qO_row : Nat) (qO_dangers : Nat) (qO_losses : Nat) (vO_upper : Int) (vO_lower : Int) (qO_habitUpper : Nat) (qO_habitLower : Nat) (vO_at : Int) (vO_word : Int) (vO_wordEnd : Int) (qO_chosen : Nat) (qO_lost : Nat) (qO_zones : Nat) (qO_way : Nat) (qO_spent : Nat) (qO_scaffolds : Nat) (fO_stocks : (Int → Int)) (hr_stone : -2147483648 ≤ stone ∧ stone < 2147483648) (hr_strength : -2147483648 ≤ strength ∧ strength < 2147483648) (hr_pores : -2147483648 ≤ pores ∧ pores < 2147483648) (hr_colour : -2147483648 ≤ colour ∧ colour < 2147483648) (hr_pieces : -2147483648 ≤ pieces ∧ pieces < 2147483648) (hOlo : 0 ≤ vO_lots ∧ vO_lots ≤ 20) : xMi D kI kJ l yX10_lot wsX10_lot 2 57 0 0 [.ref qO, .int (jI stone), .int (jI strength), .int (jI pores), .int (jI colour), .int (jI pieces)] [(qO, .inr (10, [.int (jI vO_blocks), .ref qO_stones, .ref qO_laid, .ref qO_deep, .int (jI vO_placings), .ref qO_placed, .int (jI vO_mortars), .ref qO_put, .ref qO_rates, .int (jI vO_limit), .int (jI vO_looks), .ref qO_seen, .ref qO_text, .int (jI vO_texted), .int (jI vO_faultPlace), .int (jI vO_clauses), .ref qO_rule, .ref qO_fresh, .int (jI vO_lots), .ref qO_stocks, .ref qO_row, .ref qO_dangers, .ref qO_losses, .long (jL vO_upper), .long (jL vO_lower), .ref qO_habitUpper, .ref qO_habitLower, .int (jI vO_at), .long (jL vO_word), .int (jI vO_wordEnd), .ref qO_chosen, .ref qO_lost, .ref qO_zones, .ref qO_way, .ref qO_spent, .ref qO_scaffolds])), aI kI qO_stocks 100 fO_stocks] (fun (z : Int) (u : Int × (Int → Int)) => (((¬ ((0 ≤ stone ∧ stone ≤ 3) ∧ (0 ≤ strength ∧ strength ≤ 99) ∧ (0 ≤ pores ∧ pores ≤ 99) ∧ (0 ≤ colour ∧ colour ≤ 99) ∧ 0 ≤ pieces ∧ pieces ≤ 99)) ∧ z = -1002 ∧ u.1 = vO_lots ∧ u.2 = fO_stocks) ∨ ((((0 ≤ stone ∧ stone ≤ 3) ∧ (0 ≤ strength ∧ strength ≤ 99) ∧ (0 ≤ pores ∧ pores ≤ 99) ∧ (0 ≤ colour ∧ colour ≤ 99) ∧ 0 ≤ pieces ∧ pieces ≤ 99) ∧ vO_lots = 20) ∧ z = -1004 ∧ u.1 = vO_lots ∧ u.2 = fO_stocks) ∨ ((((0 ≤ stone ∧ stone ≤ 3) ∧ (0 ≤ strength ∧ strength ≤ 99) ∧ (0 ≤ pores ∧ pores ≤ 99) ∧ (0 ≤ colour ∧ colour ≤ 99) ∧ 0 ≤ pieces ∧ pieces ≤ 99) ∧ vO_lots < 20) ∧ z = vO_lots ∧ u.1 = vO_lots + 1 ∧ u.2 = iU (iU (iU (iU (iU fO_stocks (5 * vO_lots) stone) (5 * vO_lots + 1) strength) (5 * vO_lots + 2) pores) (5 * vO_lots + 3) colour) (5 * vO_lots + 4) pieces))) (fun (u : Int × (Int → Int)) => [(qO, .inr (10, [.int (jI vO_blocks), .ref qO_stones, .ref qO_laid, .ref qO_deep, .int (jI vO_placings), .ref qO_placed, .int (jI vO_mortars), .ref qO_put, .ref qO_rates, .int (jI vO_limit), .int (jI vO_looks), .ref qO_seen, .ref qO_text, .int (jI vO_texted), .int (jI vO_faultPlace), .int (jI vO_clauses), .ref qO_rule, .ref qO_fresh, .int (jI u.1), .ref qO_stocks, .ref qO_row, .ref qO_dangers, .ref qO_losses, .long (jL vO_upper), .long (jL vO_lower), .ref qO_habitUpper, .ref qO_habitLower, .int (jI vO_at), .long (jL vO_word), .int (jI vO_wordEnd), .ref qO_chosen, .ref qO_lost, .ref qO_zones, .ref qO_way, .ref qO_spent, .ref qO_scaffolds])), aI kI qO_stocks 100 u.2]) := by
  refine xMi_of (cc := cX10_lot) (maxL := 7) (rt := .int) (by decide) rfl (Nat.le_of_ble_eq_true rfl) (fun _ _ _ => rfl) ?_
  intro p e s m args below meth c A Q F hin2 hret
  have hin10 : ∀ w ∈ wsX100, w ∈ wsX10_lot := by decide +kernel
  have hw0 : Cond.constantLong RX10 93 3 ∈ wsX10_lot := by decide +kernel
  have hw1 : Cond.constantLong RX10 157 99 ∈ wsX10_lot := by decide +kernel
  have hw2 : Cond.fieldLink RX10 138 (TX10 18).1 (TX10 18).2.1 (TX10 18).2.2.1 ∈ wsX10_lot := by decide +kernel
  have hw3 : Cond.fieldLink RX10 47 (TX10 19).1 (TX10 19).2.1 (TX10 19).2.2.1 ∈ wsX10_lot := by decide +kernel
  refine x_lveq (lv' := [(0, .ref qO), (1, .int (jI stone)), (2, .int (jI strength)), (3, .int (jI pores)), (4, .int (jI colour)), (5, .int (jI pieces))]) rfl ?_
  refine x_iload_n F dX10_lot_0 rfl 1 rfl ?_
  refine x_i2l F dX10_lot_1 (by omega) ?_
  refine x_lconst F 0 dX10_lot_2 (by decide) ?_
  refine x_ldc2 F 3 hw0 (by decide) dX10_lot_3 ?_
  refine x_callSi (As := [.long (jL stone), .long (jL 0), .long (jL 3)]) (st := []) F (c_X10_in D kI kJ l stone 0 3 (by omega) (by omega) (by omega)) (va_cwS 3 F.2.2.2.2.1 gX10_lot_X10_in rfl rfl rfl (by decide +kernel) ⟨Nat.le_of_ble_eq_true rfl, Nat.le_of_ble_eq_true rfl⟩) [] [0, 1] [0, 1] rfl rfl (by decide) (by decide) (by decide) (fun _ => rfl) (by decide) rfl (Nat.le_of_ble_eq_true rfl) dX10_lot_6 ⟨Nat.le_of_ble_eq_true rfl, Nat.le_of_ble_eq_true rfl⟩ (fun z6 u6 h6 => ?_)
  try dsimp only at h6
  refine x_ws [(qO, .inr (10, [.int (jI vO_blocks), .ref qO_stones, .ref qO_laid, .ref qO_deep, .int (jI vO_placings), .ref qO_placed, .int (jI vO_mortars), .ref qO_put, .ref qO_rates, .int (jI vO_limit), .int (jI vO_looks), .ref qO_seen, .ref qO_text, .int (jI vO_texted), .int (jI vO_faultPlace), .int (jI vO_clauses), .ref qO_rule, .ref qO_fresh, .int (jI vO_lots), .ref qO_stocks, .ref qO_row, .ref qO_dangers, .ref qO_losses, .long (jL vO_upper), .long (jL vO_lower), .ref qO_habitUpper, .ref qO_habitLower, .int (jI vO_at), .long (jL vO_word), .int (jI vO_wordEnd), .ref qO_chosen, .ref qO_lost, .ref qO_zones, .ref qO_way, .ref qO_spent, .ref qO_scaffolds])), aI kI qO_stocks 100 fO_stocks] rfl ?_
  have hb6 := h6
  refine x_beq (tgt := 62) F dX10_lot_9 (by decide) hb6 (fun c9 => ?_) (fun c9 => ?_)
  · -- 9 t
    refine x_sipush F dX10_lot_62 (by decide) ?_
    exact hret 0 0 65 _ (-1002) (vO_lots, fO_stocks) (Nat.le_of_ble_eq_true rfl) (Nat.le_of_ble_eq_true rfl) dX10_lot_65 (by (try dsimp only); exact (by first | exact Or.inl (⟨by omega, (by first | rfl | omega), (by first | rfl | omega), (by first | rfl | omega)⟩) | exact Or.inr (Or.inl (⟨by omega, (by first | rfl | omega), (by first | rfl | omega), (by first | rfl | omega)⟩)) | exact Or.inr (Or.inr (⟨by omega, (by first | rfl | omega), (by first | rfl | omega), (by first | rfl | omega)⟩))))
  · -- 9 f
    refine x_iload_n F dX10_lot_12 rfl 2 rfl ?_
    refine x_i2l F dX10_lot_13 (by omega) ?_
    refine x_lconst F 0 dX10_lot_14 (by decide) ?_
    refine x_ldc2 F 99 hw1 (by decide) dX10_lot_15 ?_
    refine x_callSi (As := [.long (jL strength), .long (jL 0), .long (jL 99)]) (st := []) F (c_X10_in D kI kJ l strength 0 99 (by omega) (by omega) (by omega)) (va_cwS 3 F.2.2.2.2.1 gX10_lot_X10_in rfl rfl rfl (by decide +kernel) ⟨Nat.le_of_ble_eq_true rfl, Nat.le_of_ble_eq_true rfl⟩) [] [0, 1] [0, 1] rfl rfl (by decide) (by decide) (by decide) (fun _ => rfl) (by decide) rfl (Nat.le_of_ble_eq_true rfl) dX10_lot_18 ⟨Nat.le_of_ble_eq_true rfl, Nat.le_of_ble_eq_true rfl⟩ (fun z18 u18 h18 => ?_)
    try dsimp only at h18
    refine x_ws [(qO, .inr (10, [.int (jI vO_blocks), .ref qO_stones, .ref qO_laid, .ref qO_deep, .int (jI vO_placings), .ref qO_placed, .int (jI vO_mortars), .ref qO_put, .ref qO_rates, .int (jI vO_limit), .int (jI vO_looks), .ref qO_seen, .ref qO_text, .int (jI vO_texted), .int (jI vO_faultPlace), .int (jI vO_clauses), .ref qO_rule, .ref qO_fresh, .int (jI vO_lots), .ref qO_stocks, .ref qO_row, .ref qO_dangers, .ref qO_losses, .long (jL vO_upper), .long (jL vO_lower), .ref qO_habitUpper, .ref qO_habitLower, .int (jI vO_at), .long (jL vO_word), .int (jI vO_wordEnd), .ref qO_chosen, .ref qO_lost, .ref qO_zones, .ref qO_way, .ref qO_spent, .ref qO_scaffolds])), aI kI qO_stocks 100 fO_stocks] rfl ?_
    have hb18 := h18
    refine x_beq (tgt := 62) F dX10_lot_21 (by decide) hb18 (fun c21 => ?_) (fun c21 => ?_)
    · -- 21 t
      refine x_sipush F dX10_lot_62 (by decide) ?_
      exact hret 0 0 65 _ (-1002) (vO_lots, fO_stocks) (Nat.le_of_ble_eq_true rfl) (Nat.le_of_ble_eq_true rfl) dX10_lot_65 (by (try dsimp only); exact (by first | exact Or.inl (⟨by omega, (by first | rfl | omega), (by first | rfl | omega), (by first | rfl | omega)⟩) | exact Or.inr (Or.inl (⟨by omega, (by first | rfl | omega), (by first | rfl | omega), (by first | rfl | omega)⟩)) | exact Or.inr (Or.inr (⟨by omega, (by first | rfl | omega), (by first | rfl | omega), (by first | rfl | omega)⟩))))
    · -- 21 f
      refine x_iload_n F dX10_lot_24 rfl 3 rfl ?_
      refine x_i2l F dX10_lot_25 (by omega) ?_
      refine x_lconst F 0 dX10_lot_26 (by decide) ?_
      refine x_ldc2 F 99 hw1 (by decide) dX10_lot_27 ?_
      refine x_callSi (As := [.long (jL pores), .long (jL 0), .long (jL 99)]) (st := []) F (c_X10_in D kI kJ l pores 0 99 (by omega) (by omega) (by omega)) (va_cwS 3 F.2.2.2.2.1 gX10_lot_X10_in rfl rfl rfl (by decide +kernel) ⟨Nat.le_of_ble_eq_true rfl, Nat.le_of_ble_eq_true rfl⟩) [] [0, 1] [0, 1] rfl rfl (by decide) (by decide) (by decide) (fun _ => rfl) (by decide) rfl (Nat.le_of_ble_eq_true rfl) dX10_lot_30 ⟨Nat.le_of_ble_eq_true rfl, Nat.le_of_ble_eq_true rfl⟩ (fun z30 u30 h30 => ?_)
      try dsimp only at h30
      refine x_ws [(qO, .inr (10, [.int (jI vO_blocks), .ref qO_stones, .ref qO_laid, .ref qO_deep, .int (jI vO_placings), .ref qO_placed, .int (jI vO_mortars), .ref qO_put, .ref qO_rates, .int (jI vO_limit), .int (jI vO_looks), .ref qO_seen, .ref qO_text, .int (jI vO_texted), .int (jI vO_faultPlace), .int (jI vO_clauses), .ref qO_rule, .ref qO_fresh, .int (jI vO_lots), .ref qO_stocks, .ref qO_row, .ref qO_dangers, .ref qO_losses, .long (jL vO_upper), .long (jL vO_lower), .ref qO_habitUpper, .ref qO_habitLower, .int (jI vO_at), .long (jL vO_word), .int (jI vO_wordEnd), .ref qO_chosen, .ref qO_lost, .ref qO_zones, .ref qO_way, .ref qO_spent, .ref qO_scaffolds])), aI kI qO_stocks 100 fO_stocks] rfl ?_
      have hb30 := h30
      refine x_beq (tgt := 62) F dX10_lot_33 (by decide) hb30 (fun c33 => ?_) (fun c33 => ?_)
      · -- 33 t
        refine x_sipush F dX10_lot_62 (by decide) ?_
        exact hret 0 0 65 _ (-1002) (vO_lots, fO_stocks) (Nat.le_of_ble_eq_true rfl) (Nat.le_of_ble_eq_true rfl) dX10_lot_65 (by (try dsimp only); exact (by first | exact Or.inl (⟨by omega, (by first | rfl | omega), (by first | rfl | omega), (by first | rfl | omega)⟩) | exact Or.inr (Or.inl (⟨by omega, (by first | rfl | omega), (by first | rfl | omega), (by first | rfl | omega)⟩)) | exact Or.inr (Or.inr (⟨by omega, (by first | rfl | omega), (by first | rfl | omega), (by first | rfl | omega)⟩))))
      · -- 33 f
        refine x_iload F dX10_lot_36 4 rfl ?_
        refine x_i2l F dX10_lot_38 (by omega) ?_
        refine x_lconst F 0 dX10_lot_39 (by decide) ?_
        refine x_ldc2 F 99 hw1 (by decide) dX10_lot_40 ?_
        refine x_callSi (As := [.long (jL colour), .long (jL 0), .long (jL 99)]) (st := []) F (c_X10_in D kI kJ l colour 0 99 (by omega) (by omega) (by omega)) (va_cwS 3 F.2.2.2.2.1 gX10_lot_X10_in rfl rfl rfl (by decide +kernel) ⟨Nat.le_of_ble_eq_true rfl, Nat.le_of_ble_eq_true rfl⟩) [] [0, 1] [0, 1] rfl rfl (by decide) (by decide) (by decide) (fun _ => rfl) (by decide) rfl (Nat.le_of_ble_eq_true rfl) dX10_lot_43 ⟨Nat.le_of_ble_eq_true rfl, Nat.le_of_ble_eq_true rfl⟩ (fun z43 u43 h43 => ?_)
        try dsimp only at h43
        refine x_ws [(qO, .inr (10, [.int (jI vO_blocks), .ref qO_stones, .ref qO_laid, .ref qO_deep, .int (jI vO_placings), .ref qO_placed, .int (jI vO_mortars), .ref qO_put, .ref qO_rates, .int (jI vO_limit), .int (jI vO_looks), .ref qO_seen, .ref qO_text, .int (jI vO_texted), .int (jI vO_faultPlace), .int (jI vO_clauses), .ref qO_rule, .ref qO_fresh, .int (jI vO_lots), .ref qO_stocks, .ref qO_row, .ref qO_dangers, .ref qO_losses, .long (jL vO_upper), .long (jL vO_lower), .ref qO_habitUpper, .ref qO_habitLower, .int (jI vO_at), .long (jL vO_word), .int (jI vO_wordEnd), .ref qO_chosen, .ref qO_lost, .ref qO_zones, .ref qO_way, .ref qO_spent, .ref qO_scaffolds])), aI kI qO_stocks 100 fO_stocks] rfl ?_
        have hb43 := h43
        refine x_beq (tgt := 62) F dX10_lot_46 (by decide) hb43 (fun c46 => ?_) (fun c46 => ?_)
        · -- 46 t
          refine x_sipush F dX10_lot_62 (by decide) ?_
          exact hret 0 0 65 _ (-1002) (vO_lots, fO_stocks) (Nat.le_of_ble_eq_true rfl) (Nat.le_of_ble_eq_true rfl) dX10_lot_65 (by (try dsimp only); exact (by first | exact Or.inl (⟨by omega, (by first | rfl | omega), (by first | rfl | omega), (by first | rfl | omega)⟩) | exact Or.inr (Or.inl (⟨by omega, (by first | rfl | omega), (by first | rfl | omega), (by first | rfl | omega)⟩)) | exact Or.inr (Or.inr (⟨by omega, (by first | rfl | omega), (by first | rfl | omega), (by first | rfl | omega)⟩))))
        · -- 46 f
          refine x_iload F dX10_lot_49 5 rfl ?_
          refine x_i2l F dX10_lot_51 (by omega) ?_
          refine x_lconst F 0 dX10_lot_52 (by decide) ?_
          refine x_ldc2 F 99 hw1 (by decide) dX10_lot_53 ?_
          refine x_callSi (As := [.long (jL pieces), .long (jL 0), .long (jL 99)]) (st := []) F (c_X10_in D kI kJ l pieces 0 99 (by omega) (by omega) (by omega)) (va_cwS 3 F.2.2.2.2.1 gX10_lot_X10_in rfl rfl rfl (by decide +kernel) ⟨Nat.le_of_ble_eq_true rfl, Nat.le_of_ble_eq_true rfl⟩) [] [0, 1] [0, 1] rfl rfl (by decide) (by decide) (by decide) (fun _ => rfl) (by decide) rfl (Nat.le_of_ble_eq_true rfl) dX10_lot_56 ⟨Nat.le_of_ble_eq_true rfl, Nat.le_of_ble_eq_true rfl⟩ (fun z56 u56 h56 => ?_)
          try dsimp only at h56
          refine x_ws [(qO, .inr (10, [.int (jI vO_blocks), .ref qO_stones, .ref qO_laid, .ref qO_deep, .int (jI vO_placings), .ref qO_placed, .int (jI vO_mortars), .ref qO_put, .ref qO_rates, .int (jI vO_limit), .int (jI vO_looks), .ref qO_seen, .ref qO_text, .int (jI vO_texted), .int (jI vO_faultPlace), .int (jI vO_clauses), .ref qO_rule, .ref qO_fresh, .int (jI vO_lots), .ref qO_stocks, .ref qO_row, .ref qO_dangers, .ref qO_losses, .long (jL vO_upper), .long (jL vO_lower), .ref qO_habitUpper, .ref qO_habitLower, .int (jI vO_at), .long (jL vO_word), .int (jI vO_wordEnd), .ref qO_chosen, .ref qO_lost, .ref qO_zones, .ref qO_way, .ref qO_spent, .ref qO_scaffolds])), aI kI qO_stocks 100 fO_stocks] rfl ?_
          have hb56 := h56
          refine x_bne (tgt := 66) F dX10_lot_59 (by decide) hb56 (fun c59 => ?_) (fun c59 => ?_)
          · -- 59 t
            refine x_aload_n F dX10_lot_66 rfl 0 rfl ?_
            refine x_get (ci := 10) F hin10 0 rfl rfl 18 (by decide) hw2 rfl dX10_lot_67 ?_
            refine x_bipush F dX10_lot_70 (by decide) ?_
            refine x_icmp_ne (tgt := 79) F dX10_lot_72 (by decide) (by omega) (fun c72 => ?_) (fun c72 => ?_)
            · -- 72 t
              refine x_iconst F dX10_lot_79 ?_
              refine x_aload_n F dX10_lot_80 rfl 0 rfl ?_
              refine x_get (ci := 10) F hin10 0 rfl rfl 18 (by decide) hw2 rfl dX10_lot_81 ?_
              refine x_imul F dX10_lot_84 ?_
              refine x_istore (lv' := [(0, .ref qO), (1, .int (jI stone)), (2, .int (jI strength)), (3, .int (jI pores)), (4, .int (jI colour)), (5, .int (jI pieces)), (6, .int (jI (5 * vO_lots)))]) F dX10_lot_85 (by decide) [1, 2, 3, 4, 5, 6, 0] rfl ?_
              refine x_aload_n F dX10_lot_87 rfl 0 rfl ?_
              refine x_get (ci := 10) F hin10 0 rfl rfl 19 (by decide) hw3 rfl dX10_lot_88 ?_
              refine x_iload F dX10_lot_91 6 rfl ?_
              refine x_iload_n F dX10_lot_93 rfl 1 rfl ?_
              refine x_iast F 1 rfl (by decide) (by omega) dX10_lot_94 [(qO, .inr (10, [.int (jI vO_blocks), .ref qO_stones, .ref qO_laid, .ref qO_deep, .int (jI vO_placings), .ref qO_placed, .int (jI vO_mortars), .ref qO_put, .ref qO_rates, .int (jI vO_limit), .int (jI vO_looks), .ref qO_seen, .ref qO_text, .int (jI vO_texted), .int (jI vO_faultPlace), .int (jI vO_clauses), .ref qO_rule, .ref qO_fresh, .int (jI vO_lots), .ref qO_stocks, .ref qO_row, .ref qO_dangers, .ref qO_losses, .long (jL vO_upper), .long (jL vO_lower), .ref qO_habitUpper, .ref qO_habitLower, .int (jI vO_at), .long (jL vO_word), .int (jI vO_wordEnd), .ref qO_chosen, .ref qO_lost, .ref qO_zones, .ref qO_way, .ref qO_spent, .ref qO_scaffolds])), aI kI qO_stocks 100 (iU fO_stocks (5 * vO_lots) stone)] rfl ?_
              refine x_aload_n F dX10_lot_95 rfl 0 rfl ?_
              refine x_get (ci := 10) F hin10 0 rfl rfl 19 (by decide) hw3 rfl dX10_lot_96 ?_
              refine x_iload F dX10_lot_99 6 rfl ?_
              refine x_iconst F dX10_lot_101 ?_
              refine x_iadd F dX10_lot_102 ?_
              refine x_iload_n F dX10_lot_103 rfl 2 rfl ?_
              refine x_iast F 1 rfl (by decide) (by omega) dX10_lot_104 [(qO, .inr (10, [.int (jI vO_blocks), .ref qO_stones, .ref qO_laid, .ref qO_deep, .int (jI vO_placings), .ref qO_placed, .int (jI vO_mortars), .ref qO_put, .ref qO_rates, .int (jI vO_limit), .int (jI vO_looks), .ref qO_seen, .ref qO_text, .int (jI vO_texted), .int (jI vO_faultPlace), .int (jI vO_clauses), .ref qO_rule, .ref qO_fresh, .int (jI vO_lots), .ref qO_stocks, .ref qO_row, .ref qO_dangers, .ref qO_losses, .long (jL vO_upper), .long (jL vO_lower), .ref qO_habitUpper, .ref qO_habitLower, .int (jI vO_at), .long (jL vO_word), .int (jI vO_wordEnd), .ref qO_chosen, .ref qO_lost, .ref qO_zones, .ref qO_way, .ref qO_spent, .ref qO_scaffolds])), aI kI qO_stocks 100 (iU (iU fO_stocks (5 * vO_lots) stone) ((5 * vO_lots) + 1) strength)] rfl ?_
              refine x_aload_n F dX10_lot_105 rfl 0 rfl ?_
              refine x_get (ci := 10) F hin10 0 rfl rfl 19 (by decide) hw3 rfl dX10_lot_106 ?_
              refine x_iload F dX10_lot_109 6 rfl ?_
              refine x_iconst F dX10_lot_111 ?_
              refine x_iadd F dX10_lot_112 ?_
              refine x_iload_n F dX10_lot_113 rfl 3 rfl ?_
              refine x_iast F 1 rfl (by decide) (by omega) dX10_lot_114 [(qO, .inr (10, [.int (jI vO_blocks), .ref qO_stones, .ref qO_laid, .ref qO_deep, .int (jI vO_placings), .ref qO_placed, .int (jI vO_mortars), .ref qO_put, .ref qO_rates, .int (jI vO_limit), .int (jI vO_looks), .ref qO_seen, .ref qO_text, .int (jI vO_texted), .int (jI vO_faultPlace), .int (jI vO_clauses), .ref qO_rule, .ref qO_fresh, .int (jI vO_lots), .ref qO_stocks, .ref qO_row, .ref qO_dangers, .ref qO_losses, .long (jL vO_upper), .long (jL vO_lower), .ref qO_habitUpper, .ref qO_habitLower, .int (jI vO_at), .long (jL vO_word), .int (jI vO_wordEnd), .ref qO_chosen, .ref qO_lost, .ref qO_zones, .ref qO_way, .ref qO_spent, .ref qO_scaffolds])), aI kI qO_stocks 100 (iU (iU (iU fO_stocks (5 * vO_lots) stone) ((5 * vO_lots) + 1) strength) ((5 * vO_lots) + 2) pores)] rfl ?_
              refine x_aload_n F dX10_lot_115 rfl 0 rfl ?_
              refine x_get (ci := 10) F hin10 0 rfl rfl 19 (by decide) hw3 rfl dX10_lot_116 ?_
              refine x_iload F dX10_lot_119 6 rfl ?_
              refine x_iconst F dX10_lot_121 ?_
              refine x_iadd F dX10_lot_122 ?_
              refine x_iload F dX10_lot_123 4 rfl ?_
              refine x_iast F 1 rfl (by decide) (by omega) dX10_lot_125 [(qO, .inr (10, [.int (jI vO_blocks), .ref qO_stones, .ref qO_laid, .ref qO_deep, .int (jI vO_placings), .ref qO_placed, .int (jI vO_mortars), .ref qO_put, .ref qO_rates, .int (jI vO_limit), .int (jI vO_looks), .ref qO_seen, .ref qO_text, .int (jI vO_texted), .int (jI vO_faultPlace), .int (jI vO_clauses), .ref qO_rule, .ref qO_fresh, .int (jI vO_lots), .ref qO_stocks, .ref qO_row, .ref qO_dangers, .ref qO_losses, .long (jL vO_upper), .long (jL vO_lower), .ref qO_habitUpper, .ref qO_habitLower, .int (jI vO_at), .long (jL vO_word), .int (jI vO_wordEnd), .ref qO_chosen, .ref qO_lost, .ref qO_zones, .ref qO_way, .ref qO_spent, .ref qO_scaffolds])), aI kI qO_stocks 100 (iU (iU (iU (iU fO_stocks (5 * vO_lots) stone) ((5 * vO_lots) + 1) strength) ((5 * vO_lots) + 2) pores) ((5 * vO_lots) + 3) colour)] rfl ?_
              refine x_aload_n F dX10_lot_126 rfl 0 rfl ?_
              refine x_get (ci := 10) F hin10 0 rfl rfl 19 (by decide) hw3 rfl dX10_lot_127 ?_
              refine x_iload F dX10_lot_130 6 rfl ?_
              refine x_iconst F dX10_lot_132 ?_
              refine x_iadd F dX10_lot_133 ?_
              refine x_iload F dX10_lot_134 5 rfl ?_
              refine x_iast F 1 rfl (by decide) (by omega) dX10_lot_136 [(qO, .inr (10, [.int (jI vO_blocks), .ref qO_stones, .ref qO_laid, .ref qO_deep, .int (jI vO_placings), .ref qO_placed, .int (jI vO_mortars), .ref qO_put, .ref qO_rates, .int (jI vO_limit), .int (jI vO_looks), .ref qO_seen, .ref qO_text, .int (jI vO_texted), .int (jI vO_faultPlace), .int (jI vO_clauses), .ref qO_rule, .ref qO_fresh, .int (jI vO_lots), .ref qO_stocks, .ref qO_row, .ref qO_dangers, .ref qO_losses, .long (jL vO_upper), .long (jL vO_lower), .ref qO_habitUpper, .ref qO_habitLower, .int (jI vO_at), .long (jL vO_word), .int (jI vO_wordEnd), .ref qO_chosen, .ref qO_lost, .ref qO_zones, .ref qO_way, .ref qO_spent, .ref qO_scaffolds])), aI kI qO_stocks 100 (iU (iU (iU (iU (iU fO_stocks (5 * vO_lots) stone) ((5 * vO_lots) + 1) strength) ((5 * vO_lots) + 2) pores) ((5 * vO_lots) + 3) colour) ((5 * vO_lots) + 4) pieces)] rfl ?_
              refine x_aload_n F dX10_lot_137 rfl 0 rfl ?_
              refine x_dup F dX10_lot_138 rfl ?_
              refine x_get (ci := 10) F hin10 0 rfl rfl 18 (by decide) hw2 rfl dX10_lot_139 ?_
              refine x_iconst F dX10_lot_142 ?_
              refine x_iadd F dX10_lot_143 ?_
              refine x_put (ci := 10) F hin10 tyX10_ok nmX10 0 rfl rfl 18 (by decide) hw2 rfl rfl rfl (show 18 + 1 ≤ _ from Nat.le_of_ble_eq_true rfl) dX10_lot_144 [(qO, .inr (10, [.int (jI vO_blocks), .ref qO_stones, .ref qO_laid, .ref qO_deep, .int (jI vO_placings), .ref qO_placed, .int (jI vO_mortars), .ref qO_put, .ref qO_rates, .int (jI vO_limit), .int (jI vO_looks), .ref qO_seen, .ref qO_text, .int (jI vO_texted), .int (jI vO_faultPlace), .int (jI vO_clauses), .ref qO_rule, .ref qO_fresh, .int (jI (vO_lots + 1)), .ref qO_stocks, .ref qO_row, .ref qO_dangers, .ref qO_losses, .long (jL vO_upper), .long (jL vO_lower), .ref qO_habitUpper, .ref qO_habitLower, .int (jI vO_at), .long (jL vO_word), .int (jI vO_wordEnd), .ref qO_chosen, .ref qO_lost, .ref qO_zones, .ref qO_way, .ref qO_spent, .ref qO_scaffolds])), aI kI qO_stocks 100 (iU (iU (iU (iU (iU fO_stocks (5 * vO_lots) stone) ((5 * vO_lots) + 1) strength) ((5 * vO_lots) + 2) pores) ((5 * vO_lots) + 3) colour) ((5 * vO_lots) + 4) pieces)] rfl ?_
              refine x_aload_n F dX10_lot_147 rfl 0 rfl ?_
              refine x_get (ci := 10) F hin10 0 rfl rfl 18 (by decide) hw2 rfl dX10_lot_148 ?_
              refine x_iconst F dX10_lot_151 ?_
              refine x_isub F dX10_lot_152 ?_
              exact hret 0 0 153 _ ((vO_lots + 1) - 1) ((vO_lots + 1), iU (iU (iU (iU (iU fO_stocks (5 * vO_lots) stone) ((5 * vO_lots) + 1) strength) ((5 * vO_lots) + 2) pores) ((5 * vO_lots) + 3) colour) ((5 * vO_lots) + 4) pieces) (Nat.le_of_ble_eq_true rfl) (Nat.le_of_ble_eq_true rfl) dX10_lot_153 (by (try dsimp only); exact (by first | exact Or.inl (⟨by omega, (by first | rfl | omega), (by first | rfl | omega), (by first | rfl | omega)⟩) | exact Or.inr (Or.inl (⟨by omega, (by first | rfl | omega), (by first | rfl | omega), (by first | rfl | omega)⟩)) | exact Or.inr (Or.inr (⟨by omega, (by first | rfl | omega), (by first | rfl | omega), (by first | rfl | omega)⟩))))
            · -- 72 f
              refine x_sipush F dX10_lot_75 (by decide) ?_
              exact hret 0 0 78 _ (-1004) (vO_lots, fO_stocks) (Nat.le_of_ble_eq_true rfl) (Nat.le_of_ble_eq_true rfl) dX10_lot_78 (by (try dsimp only); exact (by first | exact Or.inl (⟨by omega, (by first | rfl | omega), (by first | rfl | omega), (by first | rfl | omega)⟩) | exact Or.inr (Or.inl (⟨by omega, (by first | rfl | omega), (by first | rfl | omega), (by first | rfl | omega)⟩)) | exact Or.inr (Or.inr (⟨by omega, (by first | rfl | omega), (by first | rfl | omega), (by first | rfl | omega)⟩))))
          · -- 59 f
            refine x_sipush F dX10_lot_62 (by decide) ?_
            exact hret 0 0 65 _ (-1002) (vO_lots, fO_stocks) (Nat.le_of_ble_eq_true rfl) (Nat.le_of_ble_eq_true rfl) dX10_lot_65 (by (try dsimp only); exact (by first | exact Or.inl (⟨by omega, (by first | rfl | omega), (by first | rfl | omega), (by first | rfl | omega)⟩) | exact Or.inr (Or.inl (⟨by omega, (by first | rfl | omega), (by first | rfl | omega), (by first | rfl | omega)⟩)) | exact Or.inr (Or.inr (⟨by omega, (by first | rfl | omega), (by first | rfl | omega), (by first | rfl | omega)⟩))))
set_option maxHeartbeats 4000000 in
set_option maxRecDepth 100000 in
theorem c_X10_size (D : va_G) (kI kJ : Nat) (l : Launch) (v : Int) (hr_v : -2147483648 ≤ v ∧ v < 2147483648) : xMi D kI kJ l yX10_size wsX10_size 1 32 0 0 [.int (jI v)] [] (fun (z : Int) (u : Unit) => z = (if v < 0 then -v else v)) (fun (u : Unit) => []) := by
  refine xMi_of (cc := cX10_size) (maxL := 1) (rt := .int) (by decide) rfl (Nat.le_of_ble_eq_true rfl) (fun _ _ _ => rfl) ?_
  intro p e s m args below meth c A Q F hin2 hret
  refine x_lveq (lv' := [(0, .int (jI v))]) rfl ?_
  refine x_iload_n F dX10_size_0 rfl 0 rfl ?_
  refine x_if_ge (tgt := 9) F dX10_size_1 (by decide) (by omega) (fun c1 => ?_) (fun c1 => ?_)
  · -- 1 t
    refine x_iload_n F dX10_size_9 rfl 0 rfl ?_
    exact hret 0 0 10 _ v () (Nat.le_of_ble_eq_true rfl) (Nat.le_of_ble_eq_true rfl) dX10_size_10 (by split <;> omega)
  · -- 1 f
    refine x_iload_n F dX10_size_4 rfl 0 rfl ?_
    refine x_ineg F dX10_size_5 ?_
    refine x_goto (tgt := 10) F dX10_size_6 (by decide) ?_
    exact hret 0 0 10 _ (-v) () (Nat.le_of_ble_eq_true rfl) (Nat.le_of_ble_eq_true rfl) dX10_size_10 (by split <;> omega)
set_option maxHeartbeats 4000000 in
set_option maxRecDepth 100000 in
theorem c_X10_match (D : va_G) (kI kJ : Nat) (l : Launch) (qO : Nat) (stone : Int) (strength : Int) (pores : Int) (colour : Int) (span : Int) (vO_blocks : Int) (qO_stones : Nat) (qO_laid : Nat) (qO_deep : Nat) (vO_placings : Int) (qO_placed : Nat) (vO_mortars : Int) (qO_put : Nat) (qO_rates : Nat) (vO_limit : Int) (vO_looks : Int) (qO_seen : Nat) (qO_text : Nat) (vO_texted : Int) (vO_faultPlace : Int) (vO_clauses : Int) (qO_rule : Nat) (qO_fresh : Nat) (vO_lots : Int) (qO_stocks : Nat) (qO_row : Nat) (qO_dangers : Nat) (qO_losses : Nat) (vO_upper : Int) (vO_lower : Int) (qO_habitUpper : Nat) (qO_habitLower : Nat) (vO_at : Int) (vO_word : Int) (vO_wordEnd : Int) (qO_chosen : Nat) (qO_lost : Nat) (qO_zones : Nat) (qO_way : Nat) (qO_spent : Nat) (qO_scaffolds : Nat) (fO_stocks : (Int → Int)) (hr_stone : -2147483648 ≤ stone ∧ stone < 2147483648) (hr_strength : -2147483648 ≤ strength ∧ strength < 2147483648) (hr_pores : -2147483648 ≤ pores ∧ pores < 2147483648) (hr_colour : -2147483648 ≤ colour ∧ colour < 2147483648) (hr_span : -2147483648 ≤ span ∧ span < 2147483648) (hOlo : 0 ≤ vO_lots ∧ vO_lots ≤ 20) (hOsk : Rg fO_stocks 100 0 99) : xMi D kI kJ l yX10_match wsX10_match 2 57 0 0 [.ref qO, .int (jI stone), .int (jI strength), .int (jI pores), .int (jI colour), .int (jI span)] [(qO, .inr (10, [.int (jI vO_blocks), .ref qO_stones, .ref qO_laid, .ref qO_deep, .int (jI vO_placings), .ref qO_placed, .int (jI vO_mortars), .ref qO_put, .ref qO_rates, .int (jI vO_limit), .int (jI vO_looks), .ref qO_seen, .ref qO_text, .int (jI vO_texted), .int (jI vO_faultPlace), .int (jI vO_clauses), .ref qO_rule, .ref qO_fresh, .int (jI vO_lots), .ref qO_stocks, .ref qO_row, .ref qO_dangers, .ref qO_losses, .long (jL vO_upper), .long (jL vO_lower), .ref qO_habitUpper, .ref qO_habitLower, .int (jI vO_at), .long (jL vO_word), .int (jI vO_wordEnd), .ref qO_chosen, .ref qO_lost, .ref qO_zones, .ref qO_way, .ref qO_spent, .ref qO_scaffolds])), aI kI qO_stocks 100 fO_stocks] (fun (z : Int) (u : Unit) => z = if ¬ ((-1 ≤ stone ∧ stone ≤ 3) ∧ (0 ≤ strength ∧ strength ≤ 99) ∧ (0 ≤ pores ∧ pores ≤ 99) ∧ (0 ≤ colour ∧ colour ≤ 99) ∧ 0 ≤ span ∧ span ≤ 99) then -1002 else mnI (lotOff (fun k => fO_stocks (5 * k)) (fun k => fO_stocks (5 * k + 1)) (fun k => fO_stocks (5 * k + 2)) (fun k => fO_stocks (5 * k + 3)) (fun k => fO_stocks (5 * k + 4)) stone strength pores colour span) vO_lots) (fun (u : Unit) => [(qO, .inr (10, [.int (jI vO_blocks), .ref qO_stones, .ref qO_laid, .ref qO_deep, .int (jI vO_placings), .ref qO_placed, .int (jI vO_mortars), .ref qO_put, .ref qO_rates, .int (jI vO_limit), .int (jI vO_looks), .ref qO_seen, .ref qO_text, .int (jI vO_texted), .int (jI vO_faultPlace), .int (jI vO_clauses), .ref qO_rule, .ref qO_fresh, .int (jI vO_lots), .ref qO_stocks, .ref qO_row, .ref qO_dangers, .ref qO_losses, .long (jL vO_upper), .long (jL vO_lower), .ref qO_habitUpper, .ref qO_habitLower, .int (jI vO_at), .long (jL vO_word), .int (jI vO_wordEnd), .ref qO_chosen, .ref qO_lost, .ref qO_zones, .ref qO_way, .ref qO_spent, .ref qO_scaffolds])), aI kI qO_stocks 100 fO_stocks]) := by
  refine xMi_of (cc := cX10_match) (maxL := 13) (rt := .int) (by decide) rfl (Nat.le_of_ble_eq_true rfl) (fun _ _ _ => rfl) ?_
  intro p e s m args below meth c A Q F hin2 hret
  have hin10 : ∀ w ∈ wsX100, w ∈ wsX10_match := by decide +kernel
  have hw0 : Cond.constantLong RX10 175 (-1) ∈ wsX10_match := by decide +kernel
  have hw1 : Cond.constantLong RX10 93 3 ∈ wsX10_match := by decide +kernel
  have hw2 : Cond.constantLong RX10 157 99 ∈ wsX10_match := by decide +kernel
  have hw3 : Cond.constant RX10 264 1000000000 ∈ wsX10_match := by decide +kernel
  have hw4 : Cond.fieldLink RX10 138 (TX10 18).1 (TX10 18).2.1 (TX10 18).2.2.1 ∈ wsX10_match := by decide +kernel
  have hw5 : Cond.fieldLink RX10 47 (TX10 19).1 (TX10 19).2.1 (TX10 19).2.2.1 ∈ wsX10_match := by decide +kernel
  refine x_lveq (lv' := [(0, .ref qO), (1, .int (jI stone)), (2, .int (jI strength)), (3, .int (jI pores)), (4, .int (jI colour)), (5, .int (jI span))]) rfl ?_
  refine x_iload_n F dX10_match_0 rfl 1 rfl ?_
  refine x_i2l F dX10_match_1 (by omega) ?_
  refine x_ldc2 F (-1) hw0 (by decide) dX10_match_2 ?_
  refine x_ldc2 F 3 hw1 (by decide) dX10_match_5 ?_
  refine x_callSi (As := [.long (jL stone), .long (jL (-1)), .long (jL 3)]) (st := []) F (c_X10_in D kI kJ l stone (-1) 3 (by omega) (by omega) (by omega)) (va_cwS 3 F.2.2.2.2.1 gX10_match_X10_in rfl rfl rfl (by decide +kernel) ⟨Nat.le_of_ble_eq_true rfl, Nat.le_of_ble_eq_true rfl⟩) [] [0, 1] [0, 1] rfl rfl (by decide) (by decide) (by decide) (fun _ => rfl) (by decide) rfl (Nat.le_of_ble_eq_true rfl) dX10_match_8 ⟨Nat.le_of_ble_eq_true rfl, Nat.le_of_ble_eq_true rfl⟩ (fun z8 u8 h8 => ?_)
  try dsimp only at h8
  refine x_ws [(qO, .inr (10, [.int (jI vO_blocks), .ref qO_stones, .ref qO_laid, .ref qO_deep, .int (jI vO_placings), .ref qO_placed, .int (jI vO_mortars), .ref qO_put, .ref qO_rates, .int (jI vO_limit), .int (jI vO_looks), .ref qO_seen, .ref qO_text, .int (jI vO_texted), .int (jI vO_faultPlace), .int (jI vO_clauses), .ref qO_rule, .ref qO_fresh, .int (jI vO_lots), .ref qO_stocks, .ref qO_row, .ref qO_dangers, .ref qO_losses, .long (jL vO_upper), .long (jL vO_lower), .ref qO_habitUpper, .ref qO_habitLower, .int (jI vO_at), .long (jL vO_word), .int (jI vO_wordEnd), .ref qO_chosen, .ref qO_lost, .ref qO_zones, .ref qO_way, .ref qO_spent, .ref qO_scaffolds])), aI kI qO_stocks 100 fO_stocks] rfl ?_
  have hb8 := h8
  refine x_beq (tgt := 64) F dX10_match_11 (by decide) hb8 (fun c11 => ?_) (fun c11 => ?_)
  · -- 11 t
    refine x_sipush F dX10_match_64 (by decide) ?_
    exact hret 0 0 67 _ (-1002) () (Nat.le_of_ble_eq_true rfl) (Nat.le_of_ble_eq_true rfl) dX10_match_67 (by rw [if_pos (by omega)])
  · -- 11 f
    refine x_iload_n F dX10_match_14 rfl 2 rfl ?_
    refine x_i2l F dX10_match_15 (by omega) ?_
    refine x_lconst F 0 dX10_match_16 (by decide) ?_
    refine x_ldc2 F 99 hw2 (by decide) dX10_match_17 ?_
    refine x_callSi (As := [.long (jL strength), .long (jL 0), .long (jL 99)]) (st := []) F (c_X10_in D kI kJ l strength 0 99 (by omega) (by omega) (by omega)) (va_cwS 3 F.2.2.2.2.1 gX10_match_X10_in rfl rfl rfl (by decide +kernel) ⟨Nat.le_of_ble_eq_true rfl, Nat.le_of_ble_eq_true rfl⟩) [] [0, 1] [0, 1] rfl rfl (by decide) (by decide) (by decide) (fun _ => rfl) (by decide) rfl (Nat.le_of_ble_eq_true rfl) dX10_match_20 ⟨Nat.le_of_ble_eq_true rfl, Nat.le_of_ble_eq_true rfl⟩ (fun z20 u20 h20 => ?_)
    try dsimp only at h20
    refine x_ws [(qO, .inr (10, [.int (jI vO_blocks), .ref qO_stones, .ref qO_laid, .ref qO_deep, .int (jI vO_placings), .ref qO_placed, .int (jI vO_mortars), .ref qO_put, .ref qO_rates, .int (jI vO_limit), .int (jI vO_looks), .ref qO_seen, .ref qO_text, .int (jI vO_texted), .int (jI vO_faultPlace), .int (jI vO_clauses), .ref qO_rule, .ref qO_fresh, .int (jI vO_lots), .ref qO_stocks, .ref qO_row, .ref qO_dangers, .ref qO_losses, .long (jL vO_upper), .long (jL vO_lower), .ref qO_habitUpper, .ref qO_habitLower, .int (jI vO_at), .long (jL vO_word), .int (jI vO_wordEnd), .ref qO_chosen, .ref qO_lost, .ref qO_zones, .ref qO_way, .ref qO_spent, .ref qO_scaffolds])), aI kI qO_stocks 100 fO_stocks] rfl ?_
    have hb20 := h20
    refine x_beq (tgt := 64) F dX10_match_23 (by decide) hb20 (fun c23 => ?_) (fun c23 => ?_)
    · -- 23 t
      refine x_sipush F dX10_match_64 (by decide) ?_
      exact hret 0 0 67 _ (-1002) () (Nat.le_of_ble_eq_true rfl) (Nat.le_of_ble_eq_true rfl) dX10_match_67 (by rw [if_pos (by omega)])
    · -- 23 f
      refine x_iload_n F dX10_match_26 rfl 3 rfl ?_
      refine x_i2l F dX10_match_27 (by omega) ?_
      refine x_lconst F 0 dX10_match_28 (by decide) ?_
      refine x_ldc2 F 99 hw2 (by decide) dX10_match_29 ?_
      refine x_callSi (As := [.long (jL pores), .long (jL 0), .long (jL 99)]) (st := []) F (c_X10_in D kI kJ l pores 0 99 (by omega) (by omega) (by omega)) (va_cwS 3 F.2.2.2.2.1 gX10_match_X10_in rfl rfl rfl (by decide +kernel) ⟨Nat.le_of_ble_eq_true rfl, Nat.le_of_ble_eq_true rfl⟩) [] [0, 1] [0, 1] rfl rfl (by decide) (by decide) (by decide) (fun _ => rfl) (by decide) rfl (Nat.le_of_ble_eq_true rfl) dX10_match_32 ⟨Nat.le_of_ble_eq_true rfl, Nat.le_of_ble_eq_true rfl⟩ (fun z32 u32 h32 => ?_)
      try dsimp only at h32
      refine x_ws [(qO, .inr (10, [.int (jI vO_blocks), .ref qO_stones, .ref qO_laid, .ref qO_deep, .int (jI vO_placings), .ref qO_placed, .int (jI vO_mortars), .ref qO_put, .ref qO_rates, .int (jI vO_limit), .int (jI vO_looks), .ref qO_seen, .ref qO_text, .int (jI vO_texted), .int (jI vO_faultPlace), .int (jI vO_clauses), .ref qO_rule, .ref qO_fresh, .int (jI vO_lots), .ref qO_stocks, .ref qO_row, .ref qO_dangers, .ref qO_losses, .long (jL vO_upper), .long (jL vO_lower), .ref qO_habitUpper, .ref qO_habitLower, .int (jI vO_at), .long (jL vO_word), .int (jI vO_wordEnd), .ref qO_chosen, .ref qO_lost, .ref qO_zones, .ref qO_way, .ref qO_spent, .ref qO_scaffolds])), aI kI qO_stocks 100 fO_stocks] rfl ?_
      have hb32 := h32
      refine x_beq (tgt := 64) F dX10_match_35 (by decide) hb32 (fun c35 => ?_) (fun c35 => ?_)
      · -- 35 t
        refine x_sipush F dX10_match_64 (by decide) ?_
        exact hret 0 0 67 _ (-1002) () (Nat.le_of_ble_eq_true rfl) (Nat.le_of_ble_eq_true rfl) dX10_match_67 (by rw [if_pos (by omega)])
      · -- 35 f
        refine x_iload F dX10_match_38 4 rfl ?_
        refine x_i2l F dX10_match_40 (by omega) ?_
        refine x_lconst F 0 dX10_match_41 (by decide) ?_
        refine x_ldc2 F 99 hw2 (by decide) dX10_match_42 ?_
        refine x_callSi (As := [.long (jL colour), .long (jL 0), .long (jL 99)]) (st := []) F (c_X10_in D kI kJ l colour 0 99 (by omega) (by omega) (by omega)) (va_cwS 3 F.2.2.2.2.1 gX10_match_X10_in rfl rfl rfl (by decide +kernel) ⟨Nat.le_of_ble_eq_true rfl, Nat.le_of_ble_eq_true rfl⟩) [] [0, 1] [0, 1] rfl rfl (by decide) (by decide) (by decide) (fun _ => rfl) (by decide) rfl (Nat.le_of_ble_eq_true rfl) dX10_match_45 ⟨Nat.le_of_ble_eq_true rfl, Nat.le_of_ble_eq_true rfl⟩ (fun z45 u45 h45 => ?_)
        try dsimp only at h45
        refine x_ws [(qO, .inr (10, [.int (jI vO_blocks), .ref qO_stones, .ref qO_laid, .ref qO_deep, .int (jI vO_placings), .ref qO_placed, .int (jI vO_mortars), .ref qO_put, .ref qO_rates, .int (jI vO_limit), .int (jI vO_looks), .ref qO_seen, .ref qO_text, .int (jI vO_texted), .int (jI vO_faultPlace), .int (jI vO_clauses), .ref qO_rule, .ref qO_fresh, .int (jI vO_lots), .ref qO_stocks, .ref qO_row, .ref qO_dangers, .ref qO_losses, .long (jL vO_upper), .long (jL vO_lower), .ref qO_habitUpper, .ref qO_habitLower, .int (jI vO_at), .long (jL vO_word), .int (jI vO_wordEnd), .ref qO_chosen, .ref qO_lost, .ref qO_zones, .ref qO_way, .ref qO_spent, .ref qO_scaffolds])), aI kI qO_stocks 100 fO_stocks] rfl ?_
        have hb45 := h45
        refine x_beq (tgt := 64) F dX10_match_48 (by decide) hb45 (fun c48 => ?_) (fun c48 => ?_)
        · -- 48 t
          refine x_sipush F dX10_match_64 (by decide) ?_
          exact hret 0 0 67 _ (-1002) () (Nat.le_of_ble_eq_true rfl) (Nat.le_of_ble_eq_true rfl) dX10_match_67 (by rw [if_pos (by omega)])
        · -- 48 f
          refine x_iload F dX10_match_51 5 rfl ?_
          refine x_i2l F dX10_match_53 (by omega) ?_
          refine x_lconst F 0 dX10_match_54 (by decide) ?_
          refine x_ldc2 F 99 hw2 (by decide) dX10_match_55 ?_
          refine x_callSi (As := [.long (jL span), .long (jL 0), .long (jL 99)]) (st := []) F (c_X10_in D kI kJ l span 0 99 (by omega) (by omega) (by omega)) (va_cwS 3 F.2.2.2.2.1 gX10_match_X10_in rfl rfl rfl (by decide +kernel) ⟨Nat.le_of_ble_eq_true rfl, Nat.le_of_ble_eq_true rfl⟩) [] [0, 1] [0, 1] rfl rfl (by decide) (by decide) (by decide) (fun _ => rfl) (by decide) rfl (Nat.le_of_ble_eq_true rfl) dX10_match_58 ⟨Nat.le_of_ble_eq_true rfl, Nat.le_of_ble_eq_true rfl⟩ (fun z58 u58 h58 => ?_)
          try dsimp only at h58
          refine x_ws [(qO, .inr (10, [.int (jI vO_blocks), .ref qO_stones, .ref qO_laid, .ref qO_deep, .int (jI vO_placings), .ref qO_placed, .int (jI vO_mortars), .ref qO_put, .ref qO_rates, .int (jI vO_limit), .int (jI vO_looks), .ref qO_seen, .ref qO_text, .int (jI vO_texted), .int (jI vO_faultPlace), .int (jI vO_clauses), .ref qO_rule, .ref qO_fresh, .int (jI vO_lots), .ref qO_stocks, .ref qO_row, .ref qO_dangers, .ref qO_losses, .long (jL vO_upper), .long (jL vO_lower), .ref qO_habitUpper, .ref qO_habitLower, .int (jI vO_at), .long (jL vO_word), .int (jI vO_wordEnd), .ref qO_chosen, .ref qO_lost, .ref qO_zones, .ref qO_way, .ref qO_spent, .ref qO_scaffolds])), aI kI qO_stocks 100 fO_stocks] rfl ?_
          have hb58 := h58
          refine x_bne (tgt := 68) F dX10_match_61 (by decide) hb58 (fun c61 => ?_) (fun c61 => ?_)
          · -- 61 t
            refine x_iconst F dX10_match_68 ?_
            refine x_istore (lv' := [(0, .ref qO), (1, .int (jI stone)), (2, .int (jI strength)), (3, .int (jI pores)), (4, .int (jI colour)), (5, .int (jI span)), (6, .int (jI (-1)))]) F dX10_match_69 (by decide) [1, 2, 3, 4, 5, 6, 0] rfl ?_
            refine x_ldcw F 1000000000 hw3 (by decide) dX10_match_71 ?_
            refine x_istore (lv' := [(0, .ref qO), (1, .int (jI stone)), (2, .int (jI strength)), (3, .int (jI pores)), (4, .int (jI colour)), (5, .int (jI span)), (6, .int (jI (-1))), (7, .int (jI 1000000000))]) F dX10_match_74 (by decide) [1, 2, 3, 4, 5, 6, 7, 0] rfl ?_
            refine x_iconst F dX10_match_76 ?_
            refine x_istore (lv' := [(0, .ref qO), (1, .int (jI stone)), (2, .int (jI strength)), (3, .int (jI pores)), (4, .int (jI colour)), (5, .int (jI span)), (6, .int (jI (-1))), (7, .int (jI 1000000000)), (8, .int (jI 0))]) F dX10_match_77 (by decide) [1, 2, 3, 4, 5, 6, 7, 8, 0] rfl ?_
            have lp79 : ∀ (fu : Nat) (found : Int) (least : Int) (i : Int) (hi : 0 ≤ i ∧ i ≤ vO_lots) (hf : found = mnI (lotOff (fun k => fO_stocks (5 * k)) (fun k => fO_stocks (5 * k + 1)) (fun k => fO_stocks (5 * k + 2)) (fun k => fO_stocks (5 * k + 3)) (fun k => fO_stocks (5 * k + 4)) stone strength pores colour span) i) (hl : (found < 0 ∧ least = 1000000000) ∨ (0 ≤ found ∧ least = (lotOff (fun k => fO_stocks (5 * k)) (fun k => fO_stocks (5 * k + 1)) (fun k => fO_stocks (5 * k + 2)) (fun k => fO_stocks (5 * k + 3)) (fun k => fO_stocks (5 * k + 4)) stone strength pores colour span) found ∧ 0 ≤ least ∧ least ≤ 297)) (hm : vO_lots - i < (fu : Int)), xG D p l e (xRm 2 57 0 0) s m args below meth c 13 A Q 0 0 [(qO, .inr (10, [.int (jI vO_blocks), .ref qO_stones, .ref qO_laid, .ref qO_deep, .int (jI vO_placings), .ref qO_placed, .int (jI vO_mortars), .ref qO_put, .ref qO_rates, .int (jI vO_limit), .int (jI vO_looks), .ref qO_seen, .ref qO_text, .int (jI vO_texted), .int (jI vO_faultPlace), .int (jI vO_clauses), .ref qO_rule, .ref qO_fresh, .int (jI vO_lots), .ref qO_stocks, .ref qO_row, .ref qO_dangers, .ref qO_losses, .long (jL vO_upper), .long (jL vO_lower), .ref qO_habitUpper, .ref qO_habitLower, .int (jI vO_at), .long (jL vO_word), .int (jI vO_wordEnd), .ref qO_chosen, .ref qO_lost, .ref qO_zones, .ref qO_way, .ref qO_spent, .ref qO_scaffolds])), aI kI qO_stocks 100 fO_stocks] [(0, .ref qO), (1, .int (jI stone)), (2, .int (jI strength)), (3, .int (jI pores)), (4, .int (jI colour)), (5, .int (jI span)), (6, .int (jI found)), (7, .int (jI least)), (8, .int (jI i))] 79 [] := by
              intro fu
              induction fu with
              | zero =>
                intro found least i hi hf hl hm
                exact absurd hm (by omega)
              | succ fu ih79 =>
                intro found least i hi hf hl hm
                refine x_iload F dX10_match_79 8 rfl ?_
                refine x_aload_n F dX10_match_81 rfl 0 rfl ?_
                refine x_get (ci := 10) F hin10 0 rfl rfl 18 (by decide) hw4 rfl dX10_match_82 ?_
                refine x_icmp_ge (tgt := 241) F dX10_match_85 (by decide) (by omega) (fun c85 => ?_) (fun c85 => ?_)
                · -- 85 t
                  refine x_iload F dX10_match_241 6 rfl ?_
                  exact hret 0 0 243 _ found () (Nat.le_of_ble_eq_true rfl) (Nat.le_of_ble_eq_true rfl) dX10_match_243 (by rw [if_neg (by omega), hf, show i = vO_lots by omega])
                · -- 85 f
                  refine x_aload_n F dX10_match_88 rfl 0 rfl ?_
                  refine x_get (ci := 10) F hin10 0 rfl rfl 19 (by decide) hw5 rfl dX10_match_89 ?_
                  refine x_iconst F dX10_match_92 ?_
                  refine x_iload F dX10_match_93 8 rfl ?_
                  refine x_imul F dX10_match_95 ?_
                  refine x_iconst F dX10_match_96 ?_
                  refine x_iadd F dX10_match_97 ?_
                  refine x_iald F 1 rfl (by decide) (by omega) dX10_match_98 ?_
                  have hr98 := Rg.at hOsk ((5 * i) + 1) (by omega)
                  refine x_iload_n F dX10_match_99 rfl 2 rfl ?_
                  refine x_isub F dX10_match_100 ?_
                  refine x_callSi (As := [.int (jI ((fO_stocks ((5 * i) + 1)) - strength))]) (st := []) F (c_X10_size D kI kJ l ((fO_stocks ((5 * i) + 1)) - strength) (by omega)) (va_cwS 1 F.2.2.2.2.1 gX10_match_X10_size rfl rfl rfl (by decide +kernel) ⟨Nat.le_of_ble_eq_true rfl, Nat.le_of_ble_eq_true rfl⟩) [] [0, 1] [0, 1] rfl rfl (by decide) (by decide) (by decide) (fun _ => rfl) (by decide) rfl (Nat.le_of_ble_eq_true rfl) dX10_match_101 ⟨Nat.le_of_ble_eq_true rfl, Nat.le_of_ble_eq_true rfl⟩ (fun z101 u101 h101 => ?_)
                  try dsimp only at h101
                  refine x_ws [(qO, .inr (10, [.int (jI vO_blocks), .ref qO_stones, .ref qO_laid, .ref qO_deep, .int (jI vO_placings), .ref qO_placed, .int (jI vO_mortars), .ref qO_put, .ref qO_rates, .int (jI vO_limit), .int (jI vO_looks), .ref qO_seen, .ref qO_text, .int (jI vO_texted), .int (jI vO_faultPlace), .int (jI vO_clauses), .ref qO_rule, .ref qO_fresh, .int (jI vO_lots), .ref qO_stocks, .ref qO_row, .ref qO_dangers, .ref qO_losses, .long (jL vO_upper), .long (jL vO_lower), .ref qO_habitUpper, .ref qO_habitLower, .int (jI vO_at), .long (jL vO_word), .int (jI vO_wordEnd), .ref qO_chosen, .ref qO_lost, .ref qO_zones, .ref qO_way, .ref qO_spent, .ref qO_scaffolds])), aI kI qO_stocks 100 fO_stocks] rfl ?_
                  subst h101
                  refine x_istore (lv' := [(0, .ref qO), (1, .int (jI stone)), (2, .int (jI strength)), (3, .int (jI pores)), (4, .int (jI colour)), (5, .int (jI span)), (6, .int (jI found)), (7, .int (jI least)), (8, .int (jI i)), (9, .int (jI (if ((fO_stocks ((5 * i) + 1)) - strength) < 0 then -((fO_stocks ((5 * i) + 1)) - strength) else ((fO_stocks ((5 * i) + 1)) - strength))))]) F dX10_match_104 (by decide) [1, 2, 3, 4, 5, 6, 7, 8, 9, 0] rfl ?_
                  refine x_aload_n F dX10_match_106 rfl 0 rfl ?_
                  refine x_get (ci := 10) F hin10 0 rfl rfl 19 (by decide) hw5 rfl dX10_match_107 ?_
                  refine x_iconst F dX10_match_110 ?_
                  refine x_iload F dX10_match_111 8 rfl ?_
                  refine x_imul F dX10_match_113 ?_
                  refine x_iconst F dX10_match_114 ?_
                  refine x_iadd F dX10_match_115 ?_
                  refine x_iald F 1 rfl (by decide) (by omega) dX10_match_116 ?_
                  have hr116 := Rg.at hOsk ((5 * i) + 2) (by omega)
                  refine x_iload_n F dX10_match_117 rfl 3 rfl ?_
                  refine x_isub F dX10_match_118 ?_
                  refine x_callSi (As := [.int (jI ((fO_stocks ((5 * i) + 2)) - pores))]) (st := []) F (c_X10_size D kI kJ l ((fO_stocks ((5 * i) + 2)) - pores) (by omega)) (va_cwS 1 F.2.2.2.2.1 gX10_match_X10_size rfl rfl rfl (by decide +kernel) ⟨Nat.le_of_ble_eq_true rfl, Nat.le_of_ble_eq_true rfl⟩) [] [0, 1] [0, 1] rfl rfl (by decide) (by decide) (by decide) (fun _ => rfl) (by decide) rfl (Nat.le_of_ble_eq_true rfl) dX10_match_119 ⟨Nat.le_of_ble_eq_true rfl, Nat.le_of_ble_eq_true rfl⟩ (fun z119 u119 h119 => ?_)
                  try dsimp only at h119
                  refine x_ws [(qO, .inr (10, [.int (jI vO_blocks), .ref qO_stones, .ref qO_laid, .ref qO_deep, .int (jI vO_placings), .ref qO_placed, .int (jI vO_mortars), .ref qO_put, .ref qO_rates, .int (jI vO_limit), .int (jI vO_looks), .ref qO_seen, .ref qO_text, .int (jI vO_texted), .int (jI vO_faultPlace), .int (jI vO_clauses), .ref qO_rule, .ref qO_fresh, .int (jI vO_lots), .ref qO_stocks, .ref qO_row, .ref qO_dangers, .ref qO_losses, .long (jL vO_upper), .long (jL vO_lower), .ref qO_habitUpper, .ref qO_habitLower, .int (jI vO_at), .long (jL vO_word), .int (jI vO_wordEnd), .ref qO_chosen, .ref qO_lost, .ref qO_zones, .ref qO_way, .ref qO_spent, .ref qO_scaffolds])), aI kI qO_stocks 100 fO_stocks] rfl ?_
                  subst h119
                  refine x_istore (lv' := [(0, .ref qO), (1, .int (jI stone)), (2, .int (jI strength)), (3, .int (jI pores)), (4, .int (jI colour)), (5, .int (jI span)), (6, .int (jI found)), (7, .int (jI least)), (8, .int (jI i)), (9, .int (jI (if ((fO_stocks ((5 * i) + 1)) - strength) < 0 then -((fO_stocks ((5 * i) + 1)) - strength) else ((fO_stocks ((5 * i) + 1)) - strength)))), (10, .int (jI (if ((fO_stocks ((5 * i) + 2)) - pores) < 0 then -((fO_stocks ((5 * i) + 2)) - pores) else ((fO_stocks ((5 * i) + 2)) - pores))))]) F dX10_match_122 (by decide) [1, 2, 3, 4, 5, 6, 7, 8, 9, 10, 0] rfl ?_
                  refine x_aload_n F dX10_match_124 rfl 0 rfl ?_
                  refine x_get (ci := 10) F hin10 0 rfl rfl 19 (by decide) hw5 rfl dX10_match_125 ?_
                  refine x_iconst F dX10_match_128 ?_
                  refine x_iload F dX10_match_129 8 rfl ?_
                  refine x_imul F dX10_match_131 ?_
                  refine x_iconst F dX10_match_132 ?_
                  refine x_iadd F dX10_match_133 ?_
                  refine x_iald F 1 rfl (by decide) (by omega) dX10_match_134 ?_
                  have hr134 := Rg.at hOsk ((5 * i) + 3) (by omega)
                  refine x_iload F dX10_match_135 4 rfl ?_
                  refine x_isub F dX10_match_137 ?_
                  refine x_callSi (As := [.int (jI ((fO_stocks ((5 * i) + 3)) - colour))]) (st := []) F (c_X10_size D kI kJ l ((fO_stocks ((5 * i) + 3)) - colour) (by omega)) (va_cwS 1 F.2.2.2.2.1 gX10_match_X10_size rfl rfl rfl (by decide +kernel) ⟨Nat.le_of_ble_eq_true rfl, Nat.le_of_ble_eq_true rfl⟩) [] [0, 1] [0, 1] rfl rfl (by decide) (by decide) (by decide) (fun _ => rfl) (by decide) rfl (Nat.le_of_ble_eq_true rfl) dX10_match_138 ⟨Nat.le_of_ble_eq_true rfl, Nat.le_of_ble_eq_true rfl⟩ (fun z138 u138 h138 => ?_)
                  try dsimp only at h138
                  refine x_ws [(qO, .inr (10, [.int (jI vO_blocks), .ref qO_stones, .ref qO_laid, .ref qO_deep, .int (jI vO_placings), .ref qO_placed, .int (jI vO_mortars), .ref qO_put, .ref qO_rates, .int (jI vO_limit), .int (jI vO_looks), .ref qO_seen, .ref qO_text, .int (jI vO_texted), .int (jI vO_faultPlace), .int (jI vO_clauses), .ref qO_rule, .ref qO_fresh, .int (jI vO_lots), .ref qO_stocks, .ref qO_row, .ref qO_dangers, .ref qO_losses, .long (jL vO_upper), .long (jL vO_lower), .ref qO_habitUpper, .ref qO_habitLower, .int (jI vO_at), .long (jL vO_word), .int (jI vO_wordEnd), .ref qO_chosen, .ref qO_lost, .ref qO_zones, .ref qO_way, .ref qO_spent, .ref qO_scaffolds])), aI kI qO_stocks 100 fO_stocks] rfl ?_
                  subst h138
                  refine x_istore (lv' := [(0, .ref qO), (1, .int (jI stone)), (2, .int (jI strength)), (3, .int (jI pores)), (4, .int (jI colour)), (5, .int (jI span)), (6, .int (jI found)), (7, .int (jI least)), (8, .int (jI i)), (9, .int (jI (if ((fO_stocks ((5 * i) + 1)) - strength) < 0 then -((fO_stocks ((5 * i) + 1)) - strength) else ((fO_stocks ((5 * i) + 1)) - strength)))), (10, .int (jI (if ((fO_stocks ((5 * i) + 2)) - pores) < 0 then -((fO_stocks ((5 * i) + 2)) - pores) else ((fO_stocks ((5 * i) + 2)) - pores)))), (11, .int (jI (if ((fO_stocks ((5 * i) + 3)) - colour) < 0 then -((fO_stocks ((5 * i) + 3)) - colour) else ((fO_stocks ((5 * i) + 3)) - colour))))]) F dX10_match_141 (by decide) [1, 2, 3, 4, 5, 6, 7, 8, 9, 10, 11, 0] rfl ?_
                  have jn235 : ∀ (f2 : Int) (l2 : Int) (hf2 : f2 = mnI (lotOff (fun k => fO_stocks (5 * k)) (fun k => fO_stocks (5 * k + 1)) (fun k => fO_stocks (5 * k + 2)) (fun k => fO_stocks (5 * k + 3)) (fun k => fO_stocks (5 * k + 4)) stone strength pores colour span) (i + 1)) (hl2 : (f2 < 0 ∧ l2 = 1000000000) ∨ (0 ≤ f2 ∧ l2 = (lotOff (fun k => fO_stocks (5 * k)) (fun k => fO_stocks (5 * k + 1)) (fun k => fO_stocks (5 * k + 2)) (fun k => fO_stocks (5 * k + 3)) (fun k => fO_stocks (5 * k + 4)) stone strength pores colour span) f2 ∧ 0 ≤ l2 ∧ l2 ≤ 297)), xG D p l e (xRm 2 57 0 0) s m args below meth c 13 A Q 0 0 [(qO, .inr (10, [.int (jI vO_blocks), .ref qO_stones, .ref qO_laid, .ref qO_deep, .int (jI vO_placings), .ref qO_placed, .int (jI vO_mortars), .ref qO_put, .ref qO_rates, .int (jI vO_limit), .int (jI vO_looks), .ref qO_seen, .ref qO_text, .int (jI vO_texted), .int (jI vO_faultPlace), .int (jI vO_clauses), .ref qO_rule, .ref qO_fresh, .int (jI vO_lots), .ref qO_stocks, .ref qO_row, .ref qO_dangers, .ref qO_losses, .long (jL vO_upper), .long (jL vO_lower), .ref qO_habitUpper, .ref qO_habitLower, .int (jI vO_at), .long (jL vO_word), .int (jI vO_wordEnd), .ref qO_chosen, .ref qO_lost, .ref qO_zones, .ref qO_way, .ref qO_spent, .ref qO_scaffolds])), aI kI qO_stocks 100 fO_stocks] [(0, .ref qO), (1, .int (jI stone)), (2, .int (jI strength)), (3, .int (jI pores)), (4, .int (jI colour)), (5, .int (jI span)), (6, .int (jI f2)), (7, .int (jI l2)), (8, .int (jI i))] 235 [] := by
                    intro f2 l2 hf2 hl2
                    refine x_iinc (lv' := [(0, .ref qO), (1, .int (jI stone)), (2, .int (jI strength)), (3, .int (jI pores)), (4, .int (jI colour)), (5, .int (jI span)), (6, .int (jI f2)), (7, .int (jI l2)), (8, .int (jI (i + 1)))]) (k := 8) F dX10_match_235 rfl (by decide) [1, 2, 3, 4, 5, 6, 7, 8, 0] rfl ?_
                    refine x_goto (tgt := 79) F dX10_match_238 (by decide) ?_
                    exact ih79 f2 l2 (i + 1) (by omega) hf2 hl2 (by omega)
                  have jn201 : ∀ (z1 : Int) (hz1 : xBool z1 (((stone = -1 ∨ fO_stocks (5 * i) = stone) ∧ 0 < fO_stocks (5 * i + 4)) ∧ (if ((fO_stocks ((5 * i) + 1)) - strength) < 0 then -((fO_stocks ((5 * i) + 1)) - strength) else ((fO_stocks ((5 * i) + 1)) - strength)) ≤ span ∧ (if ((fO_stocks ((5 * i) + 2)) - pores) < 0 then -((fO_stocks ((5 * i) + 2)) - pores) else ((fO_stocks ((5 * i) + 2)) - pores)) ≤ span ∧ (if ((fO_stocks ((5 * i) + 3)) - colour) < 0 then -((fO_stocks ((5 * i) + 3)) - colour) else ((fO_stocks ((5 * i) + 3)) - colour)) ≤ span)), xG D p l e (xRm 2 57 0 0) s m args below meth c 13 A Q 0 0 [(qO, .inr (10, [.int (jI vO_blocks), .ref qO_stones, .ref qO_laid, .ref qO_deep, .int (jI vO_placings), .ref qO_placed, .int (jI vO_mortars), .ref qO_put, .ref qO_rates, .int (jI vO_limit), .int (jI vO_looks), .ref qO_seen, .ref qO_text, .int (jI vO_texted), .int (jI vO_faultPlace), .int (jI vO_clauses), .ref qO_rule, .ref qO_fresh, .int (jI vO_lots), .ref qO_stocks, .ref qO_row, .ref qO_dangers, .ref qO_losses, .long (jL vO_upper), .long (jL vO_lower), .ref qO_habitUpper, .ref qO_habitLower, .int (jI vO_at), .long (jL vO_word), .int (jI vO_wordEnd), .ref qO_chosen, .ref qO_lost, .ref qO_zones, .ref qO_way, .ref qO_spent, .ref qO_scaffolds])), aI kI qO_stocks 100 fO_stocks] [(0, .ref qO), (1, .int (jI stone)), (2, .int (jI strength)), (3, .int (jI pores)), (4, .int (jI colour)), (5, .int (jI span)), (6, .int (jI found)), (7, .int (jI least)), (8, .int (jI i)), (9, .int (jI (if ((fO_stocks ((5 * i) + 1)) - strength) < 0 then -((fO_stocks ((5 * i) + 1)) - strength) else ((fO_stocks ((5 * i) + 1)) - strength)))), (10, .int (jI (if ((fO_stocks ((5 * i) + 2)) - pores) < 0 then -((fO_stocks ((5 * i) + 2)) - pores) else ((fO_stocks ((5 * i) + 2)) - pores)))), (11, .int (jI (if ((fO_stocks ((5 * i) + 3)) - colour) < 0 then -((fO_stocks ((5 * i) + 3)) - colour) else ((fO_stocks ((5 * i) + 3)) - colour))))] 201 [.int (jI z1)] := by
                    intro z1 hz1
                    refine x_istore (lv' := [(0, .ref qO), (1, .int (jI stone)), (2, .int (jI strength)), (3, .int (jI pores)), (4, .int (jI colour)), (5, .int (jI span)), (6, .int (jI found)), (7, .int (jI least)), (8, .int (jI i)), (9, .int (jI (if ((fO_stocks ((5 * i) + 1)) - strength) < 0 then -((fO_stocks ((5 * i) + 1)) - strength) else ((fO_stocks ((5 * i) + 1)) - strength)))), (10, .int (jI (if ((fO_stocks ((5 * i) + 2)) - pores) < 0 then -((fO_stocks ((5 * i) + 2)) - pores) else ((fO_stocks ((5 * i) + 2)) - pores)))), (11, .int (jI (if ((fO_stocks ((5 * i) + 3)) - colour) < 0 then -((fO_stocks ((5 * i) + 3)) - colour) else ((fO_stocks ((5 * i) + 3)) - colour)))), (12, .int (jI z1))]) F dX10_match_201 (by decide) [1, 2, 3, 4, 5, 6, 7, 8, 9, 10, 11, 12, 0] rfl ?_
                    refine x_iload F dX10_match_203 12 rfl ?_
                    refine x_beq (tgt := 235) F dX10_match_205 (by decide) hz1 (fun c205 => ?_) (fun c205 => ?_)
                    · -- 205 t
                      refine x_lv (lv' := [(0, .ref qO), (1, .int (jI stone)), (2, .int (jI strength)), (3, .int (jI pores)), (4, .int (jI colour)), (5, .int (jI span)), (6, .int (jI found)), (7, .int (jI least)), (8, .int (jI i))]) [0, 1, 2, 3, 4, 5, 6, 7, 8] rfl ?_
                      exact jn235 found least (by rw [mnI_s hi.1, ← hf]; unfold lotOff at *; dsimp only at *; first | (rw [if_pos (by omega)]) | (rw [if_neg (by omega)])) (by unfold lotOff at *; dsimp only at *; omega)
                    · -- 205 f
                      refine x_iload F dX10_match_208 9 rfl ?_
                      refine x_iload F dX10_match_210 10 rfl ?_
                      refine x_iadd F dX10_match_212 ?_
                      refine x_iload F dX10_match_213 11 rfl ?_
                      refine x_iadd F dX10_match_215 ?_
                      refine x_iload F dX10_match_216 7 rfl ?_
                      refine x_icmp_ge (tgt := 235) F dX10_match_218 (by decide) (by omega) (fun c218 => ?_) (fun c218 => ?_)
                      · -- 218 t
                        refine x_lv (lv' := [(0, .ref qO), (1, .int (jI stone)), (2, .int (jI strength)), (3, .int (jI pores)), (4, .int (jI colour)), (5, .int (jI span)), (6, .int (jI found)), (7, .int (jI least)), (8, .int (jI i))]) [0, 1, 2, 3, 4, 5, 6, 7, 8] rfl ?_
                        exact jn235 found least (by rw [mnI_s hi.1, ← hf]; unfold lotOff at *; dsimp only at *; first | (rw [if_pos (by omega)]) | (rw [if_neg (by omega)])) (by unfold lotOff at *; dsimp only at *; omega)
                      · -- 218 f
                        refine x_iload F dX10_match_221 8 rfl ?_
                        refine x_istore (lv' := [(0, .ref qO), (1, .int (jI stone)), (2, .int (jI strength)), (3, .int (jI pores)), (4, .int (jI colour)), (5, .int (jI span)), (6, .int (jI i)), (7, .int (jI least)), (8, .int (jI i)), (9, .int (jI (if ((fO_stocks ((5 * i) + 1)) - strength) < 0 then -((fO_stocks ((5 * i) + 1)) - strength) else ((fO_stocks ((5 * i) + 1)) - strength)))), (10, .int (jI (if ((fO_stocks ((5 * i) + 2)) - pores) < 0 then -((fO_stocks ((5 * i) + 2)) - pores) else ((fO_stocks ((5 * i) + 2)) - pores)))), (11, .int (jI (if ((fO_stocks ((5 * i) + 3)) - colour) < 0 then -((fO_stocks ((5 * i) + 3)) - colour) else ((fO_stocks ((5 * i) + 3)) - colour)))), (12, .int (jI z1))]) F dX10_match_223 (by decide) [1, 2, 3, 4, 5, 6, 0, 7, 8, 9, 10, 11, 12] rfl ?_
                        refine x_iload F dX10_match_225 9 rfl ?_
                        refine x_iload F dX10_match_227 10 rfl ?_
                        refine x_iadd F dX10_match_229 ?_
                        refine x_iload F dX10_match_230 11 rfl ?_
                        refine x_iadd F dX10_match_232 ?_
                        refine x_istore (lv' := [(0, .ref qO), (1, .int (jI stone)), (2, .int (jI strength)), (3, .int (jI pores)), (4, .int (jI colour)), (5, .int (jI span)), (6, .int (jI i)), (7, .int (jI (((if ((fO_stocks ((5 * i) + 1)) - strength) < 0 then -((fO_stocks ((5 * i) + 1)) - strength) else ((fO_stocks ((5 * i) + 1)) - strength)) + (if ((fO_stocks ((5 * i) + 2)) - pores) < 0 then -((fO_stocks ((5 * i) + 2)) - pores) else ((fO_stocks ((5 * i) + 2)) - pores))) + (if ((fO_stocks ((5 * i) + 3)) - colour) < 0 then -((fO_stocks ((5 * i) + 3)) - colour) else ((fO_stocks ((5 * i) + 3)) - colour))))), (8, .int (jI i)), (9, .int (jI (if ((fO_stocks ((5 * i) + 1)) - strength) < 0 then -((fO_stocks ((5 * i) + 1)) - strength) else ((fO_stocks ((5 * i) + 1)) - strength)))), (10, .int (jI (if ((fO_stocks ((5 * i) + 2)) - pores) < 0 then -((fO_stocks ((5 * i) + 2)) - pores) else ((fO_stocks ((5 * i) + 2)) - pores)))), (11, .int (jI (if ((fO_stocks ((5 * i) + 3)) - colour) < 0 then -((fO_stocks ((5 * i) + 3)) - colour) else ((fO_stocks ((5 * i) + 3)) - colour)))), (12, .int (jI z1))]) F dX10_match_233 (by decide) [1, 2, 3, 4, 5, 6, 7, 0, 8, 9, 10, 11, 12] rfl ?_
                        refine x_lv (lv' := [(0, .ref qO), (1, .int (jI stone)), (2, .int (jI strength)), (3, .int (jI pores)), (4, .int (jI colour)), (5, .int (jI span)), (6, .int (jI i)), (7, .int (jI (((if ((fO_stocks ((5 * i) + 1)) - strength) < 0 then -((fO_stocks ((5 * i) + 1)) - strength) else ((fO_stocks ((5 * i) + 1)) - strength)) + (if ((fO_stocks ((5 * i) + 2)) - pores) < 0 then -((fO_stocks ((5 * i) + 2)) - pores) else ((fO_stocks ((5 * i) + 2)) - pores))) + (if ((fO_stocks ((5 * i) + 3)) - colour) < 0 then -((fO_stocks ((5 * i) + 3)) - colour) else ((fO_stocks ((5 * i) + 3)) - colour))))), (8, .int (jI i))]) [0, 1, 2, 3, 4, 5, 6, 7, 8] rfl ?_
                        exact jn235 i (((if ((fO_stocks ((5 * i) + 1)) - strength) < 0 then -((fO_stocks ((5 * i) + 1)) - strength) else ((fO_stocks ((5 * i) + 1)) - strength)) + (if ((fO_stocks ((5 * i) + 2)) - pores) < 0 then -((fO_stocks ((5 * i) + 2)) - pores) else ((fO_stocks ((5 * i) + 2)) - pores))) + (if ((fO_stocks ((5 * i) + 3)) - colour) < 0 then -((fO_stocks ((5 * i) + 3)) - colour) else ((fO_stocks ((5 * i) + 3)) - colour))) (by rw [mnI_s hi.1, ← hf]; unfold lotOff at *; dsimp only at *; first | (rw [if_pos (by omega)]) | (rw [if_neg (by omega)])) (by unfold lotOff at *; dsimp only at *; omega)
                  refine x_iload_n F dX10_match_143 rfl 1 rfl ?_
                  refine x_iconst F dX10_match_144 ?_
                  refine x_icmp_eq (tgt := 161) F dX10_match_145 (by decide) (by omega) (fun c145 => ?_) (fun c145 => ?_)
                  · -- 145 t
                    refine x_aload_n F dX10_match_161 rfl 0 rfl ?_
                    refine x_get (ci := 10) F hin10 0 rfl rfl 19 (by decide) hw5 rfl dX10_match_162 ?_
                    refine x_iconst F dX10_match_165 ?_
                    refine x_iload F dX10_match_166 8 rfl ?_
                    refine x_imul F dX10_match_168 ?_
                    refine x_iconst F dX10_match_169 ?_
                    refine x_iadd F dX10_match_170 ?_
                    refine x_iald F 1 rfl (by decide) (by omega) dX10_match_171 ?_
                    have hr171 := Rg.at hOsk ((5 * i) + 4) (by omega)
                    refine x_if_le (tgt := 200) F dX10_match_172 (by decide) (by omega) (fun c172 => ?_) (fun c172 => ?_)
                    · -- 172 t
                      refine x_iconst F dX10_match_200 ?_
                      exact jn201 0 (by first | exact xBool_t (by omega) | exact xBool_f (by omega))
                    · -- 172 f
                      refine x_iload F dX10_match_175 9 rfl ?_
                      refine x_iload F dX10_match_177 5 rfl ?_
                      refine x_icmp_gt (tgt := 200) F dX10_match_179 (by decide) (by omega) (fun c179 => ?_) (fun c179 => ?_)
                      · -- 179 t
                        refine x_iconst F dX10_match_200 ?_
                        exact jn201 0 (by first | exact xBool_t (by omega) | exact xBool_f (by omega))
                      · -- 179 f
                        refine x_iload F dX10_match_182 10 rfl ?_
                        refine x_iload F dX10_match_184 5 rfl ?_
                        refine x_icmp_gt (tgt := 200) F dX10_match_186 (by decide) (by omega) (fun c186 => ?_) (fun c186 => ?_)
                        · -- 186 t
                          refine x_iconst F dX10_match_200 ?_
                          exact jn201 0 (by first | exact xBool_t (by omega) | exact xBool_f (by omega))
                        · -- 186 f
                          refine x_iload F dX10_match_189 11 rfl ?_
                          refine x_iload F dX10_match_191 5 rfl ?_
                          refine x_icmp_gt (tgt := 200) F dX10_match_193 (by decide) (by omega) (fun c193 => ?_) (fun c193 => ?_)
                          · -- 193 t
                            refine x_iconst F dX10_match_200 ?_
                            exact jn201 0 (by first | exact xBool_t (by omega) | exact xBool_f (by omega))
                          · -- 193 f
                            refine x_iconst F dX10_match_196 ?_
                            refine x_goto (tgt := 201) F dX10_match_197 (by decide) ?_
                            exact jn201 1 (by first | exact xBool_t (by omega) | exact xBool_f (by omega))
                  · -- 145 f
                    refine x_aload_n F dX10_match_148 rfl 0 rfl ?_
                    refine x_get (ci := 10) F hin10 0 rfl rfl 19 (by decide) hw5 rfl dX10_match_149 ?_
                    refine x_iconst F dX10_match_152 ?_
                    refine x_iload F dX10_match_153 8 rfl ?_
                    refine x_imul F dX10_match_155 ?_
                    refine x_iald F 1 rfl (by decide) (by omega) dX10_match_156 ?_
                    have hr156 := Rg.at hOsk (5 * i) (by omega)
                    refine x_iload_n F dX10_match_157 rfl 1 rfl ?_
                    refine x_icmp_ne (tgt := 200) F dX10_match_158 (by decide) (by omega) (fun c158 => ?_) (fun c158 => ?_)
                    · -- 158 t
                      refine x_iconst F dX10_match_200 ?_
                      exact jn201 0 (by first | exact xBool_t (by omega) | exact xBool_f (by omega))
                    · -- 158 f
                      refine x_aload_n F dX10_match_161 rfl 0 rfl ?_
                      refine x_get (ci := 10) F hin10 0 rfl rfl 19 (by decide) hw5 rfl dX10_match_162 ?_
                      refine x_iconst F dX10_match_165 ?_
                      refine x_iload F dX10_match_166 8 rfl ?_
                      refine x_imul F dX10_match_168 ?_
                      refine x_iconst F dX10_match_169 ?_
                      refine x_iadd F dX10_match_170 ?_
                      refine x_iald F 1 rfl (by decide) (by omega) dX10_match_171 ?_
                      have hr171 := Rg.at hOsk ((5 * i) + 4) (by omega)
                      refine x_if_le (tgt := 200) F dX10_match_172 (by decide) (by omega) (fun c172 => ?_) (fun c172 => ?_)
                      · -- 172 t
                        refine x_iconst F dX10_match_200 ?_
                        exact jn201 0 (by first | exact xBool_t (by omega) | exact xBool_f (by omega))
                      · -- 172 f
                        refine x_iload F dX10_match_175 9 rfl ?_
                        refine x_iload F dX10_match_177 5 rfl ?_
                        refine x_icmp_gt (tgt := 200) F dX10_match_179 (by decide) (by omega) (fun c179 => ?_) (fun c179 => ?_)
                        · -- 179 t
                          refine x_iconst F dX10_match_200 ?_
                          exact jn201 0 (by first | exact xBool_t (by omega) | exact xBool_f (by omega))
                        · -- 179 f
                          refine x_iload F dX10_match_182 10 rfl ?_
                          refine x_iload F dX10_match_184 5 rfl ?_
                          refine x_icmp_gt (tgt := 200) F dX10_match_186 (by decide) (by omega) (fun c186 => ?_) (fun c186 => ?_)
                          · -- 186 t
                            refine x_iconst F dX10_match_200 ?_
                            exact jn201 0 (by first | exact xBool_t (by omega) | exact xBool_f (by omega))
                          · -- 186 f
                            refine x_iload F dX10_match_189 11 rfl ?_
                            refine x_iload F dX10_match_191 5 rfl ?_
                            refine x_icmp_gt (tgt := 200) F dX10_match_193 (by decide) (by omega) (fun c193 => ?_) (fun c193 => ?_)
                            · -- 193 t
                              refine x_iconst F dX10_match_200 ?_
                              exact jn201 0 (by first | exact xBool_t (by omega) | exact xBool_f (by omega))
                            · -- 193 f
                              refine x_iconst F dX10_match_196 ?_
                              refine x_goto (tgt := 201) F dX10_match_197 (by decide) ?_
                              exact jn201 1 (by first | exact xBool_t (by omega) | exact xBool_f (by omega))
            exact lp79 (Int.toNat (vO_lots - 0) + 1) (-1) 1000000000 0 (by omega) rfl (by omega) (by omega)
          · -- 61 f
            refine x_sipush F dX10_match_64 (by decide) ?_
            exact hret 0 0 67 _ (-1002) () (Nat.le_of_ble_eq_true rfl) (Nat.le_of_ble_eq_true rfl) dX10_match_67 (by rw [if_pos (by omega)])
set_option maxHeartbeats 4000000 in
set_option maxRecDepth 100000 in
theorem c_X10_take (D : va_G) (kI kJ : Nat) (l : Launch) (qO : Nat) (lot : Int) (vO_blocks : Int) (qO_stones : Nat) (qO_laid : Nat) (qO_deep : Nat) (vO_placings : Int) (qO_placed : Nat) (vO_mortars : Int) (qO_put : Nat) (qO_rates : Nat) (vO_limit : Int) (vO_looks : Int) (qO_seen : Nat) (qO_text : Nat) (vO_texted : Int) (vO_faultPlace : Int) (vO_clauses : Int) (qO_rule : Nat) (qO_fresh : Nat) (vO_lots : Int) (qO_stocks : Nat) (qO_row : Nat) (qO_dangers : Nat) (qO_losses : Nat) (vO_upper : Int) (vO_lower : Int) (qO_habitUpper : Nat) (qO_habitLower : Nat) (vO_at : Int) (vO_word : Int) (vO_wordEnd : Int) (qO_chosen : Nat) (qO_lost : Nat) (qO_zones : Nat) (qO_way : Nat) (qO_spent : Nat) (qO_scaffolds : Nat) (fO_stocks : (Int → Int)) (hr_lot : -2147483648 ≤ lot ∧ lot < 2147483648) (hOlo : 0 ≤ vO_lots ∧ vO_lots ≤ 20) (hOsk : Rg fO_stocks 100 0 99) : xMi D kI kJ l yX10_take wsX10_take 2 57 0 0 [.ref qO, .int (jI lot)] [(qO, .inr (10, [.int (jI vO_blocks), .ref qO_stones, .ref qO_laid, .ref qO_deep, .int (jI vO_placings), .ref qO_placed, .int (jI vO_mortars), .ref qO_put, .ref qO_rates, .int (jI vO_limit), .int (jI vO_looks), .ref qO_seen, .ref qO_text, .int (jI vO_texted), .int (jI vO_faultPlace), .int (jI vO_clauses), .ref qO_rule, .ref qO_fresh, .int (jI vO_lots), .ref qO_stocks, .ref qO_row, .ref qO_dangers, .ref qO_losses, .long (jL vO_upper), .long (jL vO_lower), .ref qO_habitUpper, .ref qO_habitLower, .int (jI vO_at), .long (jL vO_word), .int (jI vO_wordEnd), .ref qO_chosen, .ref qO_lost, .ref qO_zones, .ref qO_way, .ref qO_spent, .ref qO_scaffolds])), aI kI qO_stocks 100 fO_stocks] (fun (z : Int) (u : (Int → Int)) => (((¬ (0 ≤ lot ∧ lot < vO_lots)) ∧ z = -1001 ∧ u = fO_stocks) ∨ (((0 ≤ lot ∧ lot < vO_lots) ∧ fO_stocks (5 * lot + 4) = 0) ∧ z = -1003 ∧ u = fO_stocks) ∨ (((0 ≤ lot ∧ lot < vO_lots) ∧ ¬ fO_stocks (5 * lot + 4) = 0) ∧ z = fO_stocks (5 * lot + 4) - 1 ∧ u = iU fO_stocks (5 * lot + 4) (fO_stocks (5 * lot + 4) - 1)))) (fun (u : (Int → Int)) => [(qO, .inr (10, [.int (jI vO_blocks), .ref qO_stones, .ref qO_laid, .ref qO_deep, .int (jI vO_placings), .ref qO_placed, .int (jI vO_mortars), .ref qO_put, .ref qO_rates, .int (jI vO_limit), .int (jI vO_looks), .ref qO_seen, .ref qO_text, .int (jI vO_texted), .int (jI vO_faultPlace), .int (jI vO_clauses), .ref qO_rule, .ref qO_fresh, .int (jI vO_lots), .ref qO_stocks, .ref qO_row, .ref qO_dangers, .ref qO_losses, .long (jL vO_upper), .long (jL vO_lower), .ref qO_habitUpper, .ref qO_habitLower, .int (jI vO_at), .long (jL vO_word), .int (jI vO_wordEnd), .ref qO_chosen, .ref qO_lost, .ref qO_zones, .ref qO_way, .ref qO_spent, .ref qO_scaffolds])), aI kI qO_stocks 100 u]) := by
  refine xMi_of (cc := cX10_take) (maxL := 2) (rt := .int) (by decide) rfl (Nat.le_of_ble_eq_true rfl) (fun _ _ _ => rfl) ?_
  intro p e s m args below meth c A Q F hin2 hret
  have hin10 : ∀ w ∈ wsX100, w ∈ wsX10_take := by decide +kernel
  have hw0 : Cond.fieldLink RX10 138 (TX10 18).1 (TX10 18).2.1 (TX10 18).2.2.1 ∈ wsX10_take := by decide +kernel
  have hw1 : Cond.fieldLink RX10 47 (TX10 19).1 (TX10 19).2.1 (TX10 19).2.2.1 ∈ wsX10_take := by decide +kernel
  refine x_lveq (lv' := [(0, .ref qO), (1, .int (jI lot))]) rfl ?_
  refine x_iload_n F dX10_take_0 rfl 1 rfl ?_
  refine x_i2l F dX10_take_1 (by omega) ?_
  refine x_lconst F 0 dX10_take_2 (by decide) ?_
  refine x_aload_n F dX10_take_3 rfl 0 rfl ?_
  refine x_get (ci := 10) F hin10 0 rfl rfl 18 (by decide) hw0 rfl dX10_take_4 ?_
  refine x_iconst F dX10_take_7 ?_
  refine x_isub F dX10_take_8 ?_
  refine x_i2l F dX10_take_9 (by omega) ?_
  refine x_callSi (As := [.long (jL lot), .long (jL 0), .long (jL (vO_lots - 1))]) (st := []) F (c_X10_in D kI kJ l lot 0 (vO_lots - 1) (by omega) (by omega) (by omega)) (va_cwS 3 F.2.2.2.2.1 gX10_take_X10_in rfl rfl rfl (by decide +kernel) ⟨Nat.le_of_ble_eq_true rfl, Nat.le_of_ble_eq_true rfl⟩) [] [0, 1] [0, 1] rfl rfl (by decide) (by decide) (by decide) (fun _ => rfl) (by decide) rfl (Nat.le_of_ble_eq_true rfl) dX10_take_10 ⟨Nat.le_of_ble_eq_true rfl, Nat.le_of_ble_eq_true rfl⟩ (fun z10 u10 h10 => ?_)
  try dsimp only at h10
  refine x_ws [(qO, .inr (10, [.int (jI vO_blocks), .ref qO_stones, .ref qO_laid, .ref qO_deep, .int (jI vO_placings), .ref qO_placed, .int (jI vO_mortars), .ref qO_put, .ref qO_rates, .int (jI vO_limit), .int (jI vO_looks), .ref qO_seen, .ref qO_text, .int (jI vO_texted), .int (jI vO_faultPlace), .int (jI vO_clauses), .ref qO_rule, .ref qO_fresh, .int (jI vO_lots), .ref qO_stocks, .ref qO_row, .ref qO_dangers, .ref qO_losses, .long (jL vO_upper), .long (jL vO_lower), .ref qO_habitUpper, .ref qO_habitLower, .int (jI vO_at), .long (jL vO_word), .int (jI vO_wordEnd), .ref qO_chosen, .ref qO_lost, .ref qO_zones, .ref qO_way, .ref qO_spent, .ref qO_scaffolds])), aI kI qO_stocks 100 fO_stocks] rfl ?_
  have hb10 := h10
  refine x_bne (tgt := 20) F dX10_take_13 (by decide) hb10 (fun c13 => ?_) (fun c13 => ?_)
  · -- 13 t
    refine x_aload_n F dX10_take_20 rfl 0 rfl ?_
    refine x_get (ci := 10) F hin10 0 rfl rfl 19 (by decide) hw1 rfl dX10_take_21 ?_
    refine x_iconst F dX10_take_24 ?_
    refine x_iload_n F dX10_take_25 rfl 1 rfl ?_
    refine x_imul F dX10_take_26 ?_
    refine x_iconst F dX10_take_27 ?_
    refine x_iadd F dX10_take_28 ?_
    refine x_iald F 1 rfl (by decide) (by omega) dX10_take_29 ?_
    have hr29 := Rg.at hOsk ((5 * lot) + 4) (by omega)
    refine x_if_ne (tgt := 37) F dX10_take_30 (by decide) (by omega) (fun c30 => ?_) (fun c30 => ?_)
    · -- 30 t
      refine x_aload_n F dX10_take_37 rfl 0 rfl ?_
      refine x_get (ci := 10) F hin10 0 rfl rfl 19 (by decide) hw1 rfl dX10_take_38 ?_
      refine x_iconst F dX10_take_41 ?_
      refine x_iload_n F dX10_take_42 rfl 1 rfl ?_
      refine x_imul F dX10_take_43 ?_
      refine x_iconst F dX10_take_44 ?_
      refine x_iadd F dX10_take_45 ?_
      refine x_dup2 F dX10_take_46 rfl rfl ?_
      refine x_iald F 1 rfl (by decide) (by omega) dX10_take_47 ?_
      have hr47 := Rg.at hOsk ((5 * lot) + 4) (by omega)
      refine x_iconst F dX10_take_48 ?_
      refine x_isub F dX10_take_49 ?_
      refine x_iast F 1 rfl (by decide) (by omega) dX10_take_50 [(qO, .inr (10, [.int (jI vO_blocks), .ref qO_stones, .ref qO_laid, .ref qO_deep, .int (jI vO_placings), .ref qO_placed, .int (jI vO_mortars), .ref qO_put, .ref qO_rates, .int (jI vO_limit), .int (jI vO_looks), .ref qO_seen, .ref qO_text, .int (jI vO_texted), .int (jI vO_faultPlace), .int (jI vO_clauses), .ref qO_rule, .ref qO_fresh, .int (jI vO_lots), .ref qO_stocks, .ref qO_row, .ref qO_dangers, .ref qO_losses, .long (jL vO_upper), .long (jL vO_lower), .ref qO_habitUpper, .ref qO_habitLower, .int (jI vO_at), .long (jL vO_word), .int (jI vO_wordEnd), .ref qO_chosen, .ref qO_lost, .ref qO_zones, .ref qO_way, .ref qO_spent, .ref qO_scaffolds])), aI kI qO_stocks 100 (iU fO_stocks ((5 * lot) + 4) ((fO_stocks ((5 * lot) + 4)) - 1))] rfl ?_
      have hg50 := Rg.up hOsk ((5 * lot) + 4) ((fO_stocks ((5 * lot) + 4)) - 1) (by omega)
      refine x_aload_n F dX10_take_51 rfl 0 rfl ?_
      refine x_get (ci := 10) F hin10 0 rfl rfl 19 (by decide) hw1 rfl dX10_take_52 ?_
      refine x_iconst F dX10_take_55 ?_
      refine x_iload_n F dX10_take_56 rfl 1 rfl ?_
      refine x_imul F dX10_take_57 ?_
      refine x_iconst F dX10_take_58 ?_
      refine x_iadd F dX10_take_59 ?_
      refine x_iald F 1 rfl (by decide) (by omega) dX10_take_60 ?_
      have hr60 := Rg.at hg50 ((5 * lot) + 4) (by omega)
      exact hret 0 0 61 _ ((iU fO_stocks ((5 * lot) + 4) ((fO_stocks ((5 * lot) + 4)) - 1)) ((5 * lot) + 4)) (iU fO_stocks ((5 * lot) + 4) ((fO_stocks ((5 * lot) + 4)) - 1)) (Nat.le_of_ble_eq_true rfl) (Nat.le_of_ble_eq_true rfl) dX10_take_61 (by first | exact Or.inl (⟨by omega, (by first | rfl | exact iU_s _ _ _ | omega), (by first | rfl | exact iU_s _ _ _ | omega)⟩) | exact Or.inr (Or.inl (⟨by omega, (by first | rfl | exact iU_s _ _ _ | omega), (by first | rfl | exact iU_s _ _ _ | omega)⟩)) | exact Or.inr (Or.inr (⟨by omega, (by first | rfl | exact iU_s _ _ _ | omega), (by first | rfl | exact iU_s _ _ _ | omega)⟩)))
    · -- 30 f
      refine x_sipush F dX10_take_33 (by decide) ?_
      exact hret 0 0 36 _ (-1003) fO_stocks (Nat.le_of_ble_eq_true rfl) (Nat.le_of_ble_eq_true rfl) dX10_take_36 (by first | exact Or.inl (⟨by omega, (by first | rfl | exact iU_s _ _ _ | omega), (by first | rfl | exact iU_s _ _ _ | omega)⟩) | exact Or.inr (Or.inl (⟨by omega, (by first | rfl | exact iU_s _ _ _ | omega), (by first | rfl | exact iU_s _ _ _ | omega)⟩)) | exact Or.inr (Or.inr (⟨by omega, (by first | rfl | exact iU_s _ _ _ | omega), (by first | rfl | exact iU_s _ _ _ | omega)⟩)))
  · -- 13 f
    refine x_sipush F dX10_take_16 (by decide) ?_
    exact hret 0 0 19 _ (-1001) fO_stocks (Nat.le_of_ble_eq_true rfl) (Nat.le_of_ble_eq_true rfl) dX10_take_19 (by first | exact Or.inl (⟨by omega, (by first | rfl | exact iU_s _ _ _ | omega), (by first | rfl | exact iU_s _ _ _ | omega)⟩) | exact Or.inr (Or.inl (⟨by omega, (by first | rfl | exact iU_s _ _ _ | omega), (by first | rfl | exact iU_s _ _ _ | omega)⟩)) | exact Or.inr (Or.inr (⟨by omega, (by first | rfl | exact iU_s _ _ _ | omega), (by first | rfl | exact iU_s _ _ _ | omega)⟩)))
set_option maxHeartbeats 4000000 in
set_option maxRecDepth 100000 in
theorem c_X10_fault (D : va_G) (kI kJ : Nat) (l : Launch) (qO : Nat) (vO_blocks : Int) (qO_stones : Nat) (qO_laid : Nat) (qO_deep : Nat) (vO_placings : Int) (qO_placed : Nat) (vO_mortars : Int) (qO_put : Nat) (qO_rates : Nat) (vO_limit : Int) (vO_looks : Int) (qO_seen : Nat) (qO_text : Nat) (vO_texted : Int) (vO_faultPlace : Int) (vO_clauses : Int) (qO_rule : Nat) (qO_fresh : Nat) (vO_lots : Int) (qO_stocks : Nat) (qO_row : Nat) (qO_dangers : Nat) (qO_losses : Nat) (vO_upper : Int) (vO_lower : Int) (qO_habitUpper : Nat) (qO_habitLower : Nat) (vO_at : Int) (vO_word : Int) (vO_wordEnd : Int) (qO_chosen : Nat) (qO_lost : Nat) (qO_zones : Nat) (qO_way : Nat) (qO_spent : Nat) (qO_scaffolds : Nat)  : xMi D kI kJ l yX10_fault wsX10_fault 1 32 0 0 [.ref qO] [(qO, .inr (10, [.int (jI vO_blocks), .ref qO_stones, .ref qO_laid, .ref qO_deep, .int (jI vO_placings), .ref qO_placed, .int (jI vO_mortars), .ref qO_put, .ref qO_rates, .int (jI vO_limit), .int (jI vO_looks), .ref qO_seen, .ref qO_text, .int (jI vO_texted), .int (jI vO_faultPlace), .int (jI vO_clauses), .ref qO_rule, .ref qO_fresh, .int (jI vO_lots), .ref qO_stocks, .ref qO_row, .ref qO_dangers, .ref qO_losses, .long (jL vO_upper), .long (jL vO_lower), .ref qO_habitUpper, .ref qO_habitLower, .int (jI vO_at), .long (jL vO_word), .int (jI vO_wordEnd), .ref qO_chosen, .ref qO_lost, .ref qO_zones, .ref qO_way, .ref qO_spent, .ref qO_scaffolds]))] (fun (z : Int) (u : Unit) => z = vO_faultPlace) (fun (u : Unit) => [(qO, .inr (10, [.int (jI vO_blocks), .ref qO_stones, .ref qO_laid, .ref qO_deep, .int (jI vO_placings), .ref qO_placed, .int (jI vO_mortars), .ref qO_put, .ref qO_rates, .int (jI vO_limit), .int (jI vO_looks), .ref qO_seen, .ref qO_text, .int (jI vO_texted), .int (jI vO_faultPlace), .int (jI vO_clauses), .ref qO_rule, .ref qO_fresh, .int (jI vO_lots), .ref qO_stocks, .ref qO_row, .ref qO_dangers, .ref qO_losses, .long (jL vO_upper), .long (jL vO_lower), .ref qO_habitUpper, .ref qO_habitLower, .int (jI vO_at), .long (jL vO_word), .int (jI vO_wordEnd), .ref qO_chosen, .ref qO_lost, .ref qO_zones, .ref qO_way, .ref qO_spent, .ref qO_scaffolds]))]) := by
  refine xMi_of (cc := cX10_fault) (maxL := 1) (rt := .int) (by decide) rfl (Nat.le_of_ble_eq_true rfl) (fun _ _ _ => rfl) ?_
  intro p e s m args below meth c A Q F hin2 hret
  have hin10 : ∀ w ∈ wsX100, w ∈ wsX10_fault := by decide +kernel
  have hw0 : Cond.fieldLink RX10 38 (TX10 14).1 (TX10 14).2.1 (TX10 14).2.2.1 ∈ wsX10_fault := by decide +kernel
  refine x_lveq (lv' := [(0, .ref qO)]) rfl ?_
  refine x_aload_n F dX10_fault_0 rfl 0 rfl ?_
  refine x_get (ci := 10) F hin10 0 rfl rfl 14 (by decide) hw0 rfl dX10_fault_1 ?_
  exact hret 0 0 4 _ vO_faultPlace () (Nat.le_of_ble_eq_true rfl) (Nat.le_of_ble_eq_true rfl) dX10_fault_4 (rfl)
