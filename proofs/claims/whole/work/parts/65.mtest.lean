set_option maxHeartbeats 4000000 in
set_option maxRecDepth 100000 in
theorem c_X10_readTest (D : va_G) (kI kJ : Nat) (l : Launch) (qO : Nat) (to : Int) (vO_blocks : Int) (qO_stones : Nat) (qO_laid : Nat) (qO_deep : Nat) (vO_placings : Int) (qO_placed : Nat) (vO_mortars : Int) (qO_put : Nat) (qO_rates : Nat) (vO_limit : Int) (vO_looks : Int) (qO_seen : Nat) (qO_text : Nat) (vO_texted : Int) (vO_faultPlace : Int) (vO_clauses : Int) (qO_rule : Nat) (qO_fresh : Nat) (vO_lots : Int) (qO_stocks : Nat) (qO_row : Nat) (qO_dangers : Nat) (qO_losses : Nat) (vO_upper : Int) (vO_lower : Int) (qO_habitUpper : Nat) (qO_habitLower : Nat) (vO_at : Int) (vO_word : Int) (vO_wordEnd : Int) (qO_chosen : Nat) (qO_lost : Nat) (qO_zones : Nat) (qO_way : Nat) (qO_spent : Nat) (qO_scaffolds : Nat) (fO_text : (Int → Int)) (fO_fresh : (Int → Int)) (hOs : 0 ≤ vO_texted ∧ vO_texted ≤ 120) (hOt : Rg fO_text 120 0 255) (hat : 0 ≤ vO_at ∧ vO_at ≤ vO_texted) (hwd : 0 ≤ vO_word ∧ vO_word ≤ 27000000026) (hOf : Rg fO_fresh 66 (-1) 999) (hto : 0 ≤ to ∧ to + 2 < 66) (hend : vO_wordEnd = wde fO_text vO_texted vO_at) (hword : vO_word = wrd fO_text vO_at vO_wordEnd) : xMi D kI kJ l yX10_readTest wsX10_readTest 3 81 0 0 [.ref qO, .int (jI to)] [(qO, .inr (10, [.int (jI vO_blocks), .ref qO_stones, .ref qO_laid, .ref qO_deep, .int (jI vO_placings), .ref qO_placed, .int (jI vO_mortars), .ref qO_put, .ref qO_rates, .int (jI vO_limit), .int (jI vO_looks), .ref qO_seen, .ref qO_text, .int (jI vO_texted), .int (jI vO_faultPlace), .int (jI vO_clauses), .ref qO_rule, .ref qO_fresh, .int (jI vO_lots), .ref qO_stocks, .ref qO_row, .ref qO_dangers, .ref qO_losses, .long (jL vO_upper), .long (jL vO_lower), .ref qO_habitUpper, .ref qO_habitLower, .int (jI vO_at), .long (jL vO_word), .int (jI vO_wordEnd), .ref qO_chosen, .ref qO_lost, .ref qO_zones, .ref qO_way, .ref qO_spent, .ref qO_scaffolds])), aI kI qO_text 120 fO_text, aI kI qO_fresh 66 fO_fresh] (fun (z : Int) (u : Int × Int × (Int → Int)) => z = (tsG fO_text vO_texted vO_at) ∧ (tsG fO_text vO_texted vO_at = 0 → u.1 = vO_faultPlace ∧ u.2.1 = tsE fO_text vO_texted vO_at ∧ u.2.2 to = tsN fO_text vO_texted vO_at ∧ u.2.2 (to + 1) = (if tsS fO_text vO_texted vO_at = 60 then 0 else 1) ∧ u.2.2 (to + 2) = tsV fO_text vO_texted vO_at) ∧ (¬ tsG fO_text vO_texted vO_at = 0 → u.1 = tsH fO_text vO_texted vO_at) ∧ (∀ k : Int, (k < to ∨ to + 2 < k) → u.2.2 k = fO_fresh k) ∧ (0 ≤ u.2.1 ∧ u.2.1 ≤ vO_texted) ∧ (Rg u.2.2 66 (-1) 999)) (fun (u : Int × Int × (Int → Int)) => [(qO, .inr (10, [.int (jI vO_blocks), .ref qO_stones, .ref qO_laid, .ref qO_deep, .int (jI vO_placings), .ref qO_placed, .int (jI vO_mortars), .ref qO_put, .ref qO_rates, .int (jI vO_limit), .int (jI vO_looks), .ref qO_seen, .ref qO_text, .int (jI vO_texted), .int (jI u.1), .int (jI vO_clauses), .ref qO_rule, .ref qO_fresh, .int (jI vO_lots), .ref qO_stocks, .ref qO_row, .ref qO_dangers, .ref qO_losses, .long (jL vO_upper), .long (jL vO_lower), .ref qO_habitUpper, .ref qO_habitLower, .int (jI u.2.1), .long (jL vO_word), .int (jI vO_wordEnd), .ref qO_chosen, .ref qO_lost, .ref qO_zones, .ref qO_way, .ref qO_spent, .ref qO_scaffolds])), aI kI qO_text 120 fO_text, aI kI qO_fresh 66 u.2.2]) := by
  refine xMi_of (cc := cX10_readTest) (maxL := 5) (rt := .int) (by decide) rfl (Nat.le_of_ble_eq_true rfl) (fun _ _ _ => rfl) ?_
  intro p e s m args below meth c A Q F hin2 hret
  have hin10 : ∀ w ∈ wsX100, w ∈ wsX10_readTest := by decide +kernel
  have hw0 : Cond.fieldLink RX10 44 (TX10 17).1 (TX10 17).2.1 (TX10 17).2.2.1 ∈ wsX10_readTest := by decide +kernel
  have hw1 : Cond.fieldLink RX10 212 (TX10 29).1 (TX10 29).2.1 (TX10 29).2.2.1 ∈ wsX10_readTest := by decide +kernel
  have hw2 : Cond.fieldLink RX10 202 (TX10 27).1 (TX10 27).2.1 (TX10 27).2.2.1 ∈ wsX10_readTest := by decide +kernel
  have hw3 : Cond.constantLong RX10 235 48 ∈ wsX10_readTest := by decide +kernel
  have hw4 : Cond.constantLong RX10 237 57 ∈ wsX10_readTest := by decide +kernel
  have hw5 : Cond.fieldLink RX10 151 (TX10 13).1 (TX10 13).2.1 (TX10 13).2.2.1 ∈ wsX10_readTest := by decide +kernel
  have hw6 : Cond.fieldLink RX10 35 (TX10 12).1 (TX10 12).2.1 (TX10 12).2.2.1 ∈ wsX10_readTest := by decide +kernel
  refine x_lveq (lv' := [(0, .ref qO), (1, .int (jI to))]) rfl ?_
  have hwr9 := wde_rng (tx := fO_text) (sz := vO_texted) hat
  rw [← hend] at hwr9
  refine x_aload_n F dX10_readTest_0 rfl 0 rfl ?_
  refine x_get (ci := 10) F hin10 0 rfl rfl 17 (by decide) hw0 rfl dX10_readTest_1 ?_
  refine x_iload_n F dX10_readTest_4 rfl 1 rfl ?_
  refine x_aload_n F dX10_readTest_5 rfl 0 rfl ?_
  refine x_callVi (ci := 10) (q0 := 0) (As := []) (st := [.int (jI to), .ref qO_fresh]) F (c_X10_nameOf D kI kJ l qO vO_blocks qO_stones qO_laid qO_deep vO_placings qO_placed vO_mortars qO_put qO_rates vO_limit vO_looks qO_seen qO_text vO_texted vO_faultPlace vO_clauses qO_rule qO_fresh vO_lots qO_stocks qO_row qO_dangers qO_losses vO_upper vO_lower qO_habitUpper qO_habitLower vO_at vO_word vO_wordEnd qO_chosen qO_lost qO_zones qO_way qO_spent qO_scaffolds hwd) (cwV 0 F.2.2.2.2.1 gX10_readTest_X10_nameOf rfl rfl rfl (by decide +kernel) ⟨Nat.le_of_ble_eq_true rfl, Nat.le_of_ble_eq_true rfl⟩) rfl rfl [0] [1, 2] [2, 0, 1] rfl rfl (by decide) (by decide) (by decide) (fun _ => rfl) (by decide) rfl (Nat.le_of_ble_eq_true rfl) dX10_readTest_6 ⟨Nat.le_of_ble_eq_true rfl, Nat.le_of_ble_eq_true rfl⟩ (fun z6 u6 h6 => ?_)
  try dsimp only at h6
  refine x_ws [(qO, .inr (10, [.int (jI vO_blocks), .ref qO_stones, .ref qO_laid, .ref qO_deep, .int (jI vO_placings), .ref qO_placed, .int (jI vO_mortars), .ref qO_put, .ref qO_rates, .int (jI vO_limit), .int (jI vO_looks), .ref qO_seen, .ref qO_text, .int (jI vO_texted), .int (jI vO_faultPlace), .int (jI vO_clauses), .ref qO_rule, .ref qO_fresh, .int (jI vO_lots), .ref qO_stocks, .ref qO_row, .ref qO_dangers, .ref qO_losses, .long (jL vO_upper), .long (jL vO_lower), .ref qO_habitUpper, .ref qO_habitLower, .int (jI vO_at), .long (jL vO_word), .int (jI vO_wordEnd), .ref qO_chosen, .ref qO_lost, .ref qO_zones, .ref qO_way, .ref qO_spent, .ref qO_scaffolds])), aI kI qO_text 120 fO_text, aI kI qO_fresh 66 fO_fresh] rfl ?_
  have he6 := h6
  have he6 := he6.symm
  subst he6
  have hnr := nmW_rng vO_word
  have hnm := nmW_at hend hword
  refine x_iast F 2 rfl (by decide) (by omega) dX10_readTest_9 [(qO, .inr (10, [.int (jI vO_blocks), .ref qO_stones, .ref qO_laid, .ref qO_deep, .int (jI vO_placings), .ref qO_placed, .int (jI vO_mortars), .ref qO_put, .ref qO_rates, .int (jI vO_limit), .int (jI vO_looks), .ref qO_seen, .ref qO_text, .int (jI vO_texted), .int (jI vO_faultPlace), .int (jI vO_clauses), .ref qO_rule, .ref qO_fresh, .int (jI vO_lots), .ref qO_stocks, .ref qO_row, .ref qO_dangers, .ref qO_losses, .long (jL vO_upper), .long (jL vO_lower), .ref qO_habitUpper, .ref qO_habitLower, .int (jI vO_at), .long (jL vO_word), .int (jI vO_wordEnd), .ref qO_chosen, .ref qO_lost, .ref qO_zones, .ref qO_way, .ref qO_spent, .ref qO_scaffolds])), aI kI qO_text 120 fO_text, aI kI qO_fresh 66 (iU fO_fresh to (nmW vO_word))] rfl ?_
  have hg9 := Rg.up hOf to (nmW vO_word) (by omega)
  refine x_aload_n F dX10_readTest_10 rfl 0 rfl ?_
  refine x_aload_n F dX10_readTest_11 rfl 0 rfl ?_
  refine x_get (ci := 10) F hin10 0 rfl rfl 29 (by decide) hw1 rfl dX10_readTest_12 ?_
  refine x_put (ci := 10) F hin10 tyX10_ok nmX10 0 rfl rfl 27 (by decide) hw2 rfl rfl rfl (show 27 + 1 ≤ _ from Nat.le_of_ble_eq_true rfl) dX10_readTest_15 [(qO, .inr (10, [.int (jI vO_blocks), .ref qO_stones, .ref qO_laid, .ref qO_deep, .int (jI vO_placings), .ref qO_placed, .int (jI vO_mortars), .ref qO_put, .ref qO_rates, .int (jI vO_limit), .int (jI vO_looks), .ref qO_seen, .ref qO_text, .int (jI vO_texted), .int (jI vO_faultPlace), .int (jI vO_clauses), .ref qO_rule, .ref qO_fresh, .int (jI vO_lots), .ref qO_stocks, .ref qO_row, .ref qO_dangers, .ref qO_losses, .long (jL vO_upper), .long (jL vO_lower), .ref qO_habitUpper, .ref qO_habitLower, .int (jI vO_wordEnd), .long (jL vO_word), .int (jI vO_wordEnd), .ref qO_chosen, .ref qO_lost, .ref qO_zones, .ref qO_way, .ref qO_spent, .ref qO_scaffolds])), aI kI qO_text 120 fO_text, aI kI qO_fresh 66 (iU fO_fresh to (nmW vO_word))] rfl ?_
  refine x_aload_n F dX10_readTest_18 rfl 0 rfl ?_
  refine x_callVi (ci := 10) (q0 := 0) (As := []) (st := []) F (c_X10_here D kI kJ l qO vO_blocks qO_stones qO_laid qO_deep vO_placings qO_placed vO_mortars qO_put qO_rates vO_limit vO_looks qO_seen qO_text vO_texted vO_faultPlace vO_clauses qO_rule qO_fresh vO_lots qO_stocks qO_row qO_dangers qO_losses vO_upper vO_lower qO_habitUpper qO_habitLower vO_wordEnd vO_word vO_wordEnd qO_chosen qO_lost qO_zones qO_way qO_spent qO_scaffolds fO_text hOs hOt (by omega)) (cwV 0 F.2.2.2.2.1 gX10_readTest_X10_here rfl rfl rfl (by decide +kernel) ⟨Nat.le_of_ble_eq_true rfl, Nat.le_of_ble_eq_true rfl⟩) rfl rfl [0, 1] [2] [1, 2, 0] rfl rfl (by decide) (by decide) (by decide) (fun _ => rfl) (by decide) rfl (Nat.le_of_ble_eq_true rfl) dX10_readTest_19 ⟨Nat.le_of_ble_eq_true rfl, Nat.le_of_ble_eq_true rfl⟩ (fun z19 u19 h19 => ?_)
  obtain ⟨a2_19, rfl⟩ : ∃ z, z = u19 := ⟨_, rfl⟩
  try dsimp only at h19
  refine x_ws [(qO, .inr (10, [.int (jI vO_blocks), .ref qO_stones, .ref qO_laid, .ref qO_deep, .int (jI vO_placings), .ref qO_placed, .int (jI vO_mortars), .ref qO_put, .ref qO_rates, .int (jI vO_limit), .int (jI vO_looks), .ref qO_seen, .ref qO_text, .int (jI vO_texted), .int (jI vO_faultPlace), .int (jI vO_clauses), .ref qO_rule, .ref qO_fresh, .int (jI vO_lots), .ref qO_stocks, .ref qO_row, .ref qO_dangers, .ref qO_losses, .long (jL vO_upper), .long (jL vO_lower), .ref qO_habitUpper, .ref qO_habitLower, .int (jI a2_19), .long (jL vO_word), .int (jI vO_wordEnd), .ref qO_chosen, .ref qO_lost, .ref qO_zones, .ref qO_way, .ref qO_spent, .ref qO_scaffolds])), aI kI qO_text 120 fO_text, aI kI qO_fresh 66 (iU fO_fresh to (nmW vO_word))] rfl ?_
  obtain ⟨he19, ha_19⟩ := h19
  have he19 := he19.symm
  subst he19
  have hsr := skp_rng (tx := fO_text) (sz := vO_texted) (i := vO_wordEnd) (by omega)
  rw [← ha_19] at hsr
  have hcr := cha_rng (i := a2_19) hOt hOs.2 (by omega)
  have hQ : tsQ fO_text vO_texted vO_at = a2_19 := by unfold tsQ; rw [← hend]; exact ha_19.symm
  have hS : tsS fO_text vO_texted vO_at = cha fO_text vO_texted a2_19 := by unfold tsS; rw [hQ]
  refine x_istore_n (lv' := [(0, .ref qO), (1, .int (jI to)), (2, .int (jI (cha fO_text vO_texted a2_19)))]) F dX10_readTest_22 rfl (by decide) [1, 2, 0] rfl ?_
  have jn45 : ∀  (hsg : cha fO_text vO_texted a2_19 = 60 ∨ cha fO_text vO_texted a2_19 = 62), xG D p l e (xRm 3 81 0 0) s m args below meth c 5 A Q 0 0 [(qO, .inr (10, [.int (jI vO_blocks), .ref qO_stones, .ref qO_laid, .ref qO_deep, .int (jI vO_placings), .ref qO_placed, .int (jI vO_mortars), .ref qO_put, .ref qO_rates, .int (jI vO_limit), .int (jI vO_looks), .ref qO_seen, .ref qO_text, .int (jI vO_texted), .int (jI vO_faultPlace), .int (jI vO_clauses), .ref qO_rule, .ref qO_fresh, .int (jI vO_lots), .ref qO_stocks, .ref qO_row, .ref qO_dangers, .ref qO_losses, .long (jL vO_upper), .long (jL vO_lower), .ref qO_habitUpper, .ref qO_habitLower, .int (jI a2_19), .long (jL vO_word), .int (jI vO_wordEnd), .ref qO_chosen, .ref qO_lost, .ref qO_zones, .ref qO_way, .ref qO_spent, .ref qO_scaffolds])), aI kI qO_text 120 fO_text, aI kI qO_fresh 66 (iU fO_fresh to (nmW vO_word))] [(0, .ref qO), (1, .int (jI to)), (2, .int (jI (cha fO_text vO_texted a2_19)))] 45 [] := by
    intro hsg
    have hsl : a2_19 < vO_texted := by
      by_cases q : a2_19 < vO_texted
      · exact q
      · have : cha fO_text vO_texted a2_19 = -1 := by unfold cha; rw [if_neg q]
        omega
    refine x_aload_n F dX10_readTest_45 rfl 0 rfl ?_
    refine x_get (ci := 10) F hin10 0 rfl rfl 17 (by decide) hw0 rfl dX10_readTest_46 ?_
    refine x_iload_n F dX10_readTest_49 rfl 1 rfl ?_
    refine x_iconst F dX10_readTest_50 ?_
    refine x_iadd F dX10_readTest_51 ?_
    refine x_iload_n F dX10_readTest_52 rfl 2 rfl ?_
    have jn63 : ∀ (s8 : Int) (hs8 : s8 = if cha fO_text vO_texted a2_19 = 60 then 0 else 1), xG D p l e (xRm 3 81 0 0) s m args below meth c 5 A Q 0 0 [(qO, .inr (10, [.int (jI vO_blocks), .ref qO_stones, .ref qO_laid, .ref qO_deep, .int (jI vO_placings), .ref qO_placed, .int (jI vO_mortars), .ref qO_put, .ref qO_rates, .int (jI vO_limit), .int (jI vO_looks), .ref qO_seen, .ref qO_text, .int (jI vO_texted), .int (jI vO_faultPlace), .int (jI vO_clauses), .ref qO_rule, .ref qO_fresh, .int (jI vO_lots), .ref qO_stocks, .ref qO_row, .ref qO_dangers, .ref qO_losses, .long (jL vO_upper), .long (jL vO_lower), .ref qO_habitUpper, .ref qO_habitLower, .int (jI a2_19), .long (jL vO_word), .int (jI vO_wordEnd), .ref qO_chosen, .ref qO_lost, .ref qO_zones, .ref qO_way, .ref qO_spent, .ref qO_scaffolds])), aI kI qO_text 120 fO_text, aI kI qO_fresh 66 (iU fO_fresh to (nmW vO_word))] [(0, .ref qO), (1, .int (jI to)), (2, .int (jI (cha fO_text vO_texted a2_19)))] 63 [.int (jI s8), .int (jI (to + 1)), .ref qO_fresh] := by
      intro s8 hs8
      have hs9 : s8 = 0 ∨ s8 = 1 := by rw [hs8]; split <;> omega
      refine x_iast F 2 rfl (by decide) (by omega) dX10_readTest_63 [(qO, .inr (10, [.int (jI vO_blocks), .ref qO_stones, .ref qO_laid, .ref qO_deep, .int (jI vO_placings), .ref qO_placed, .int (jI vO_mortars), .ref qO_put, .ref qO_rates, .int (jI vO_limit), .int (jI vO_looks), .ref qO_seen, .ref qO_text, .int (jI vO_texted), .int (jI vO_faultPlace), .int (jI vO_clauses), .ref qO_rule, .ref qO_fresh, .int (jI vO_lots), .ref qO_stocks, .ref qO_row, .ref qO_dangers, .ref qO_losses, .long (jL vO_upper), .long (jL vO_lower), .ref qO_habitUpper, .ref qO_habitLower, .int (jI a2_19), .long (jL vO_word), .int (jI vO_wordEnd), .ref qO_chosen, .ref qO_lost, .ref qO_zones, .ref qO_way, .ref qO_spent, .ref qO_scaffolds])), aI kI qO_text 120 fO_text, aI kI qO_fresh 66 (iU (iU fO_fresh to (nmW vO_word)) (to + 1) s8)] rfl ?_
      have hg63 := Rg.up hg9 (to + 1) s8 (by omega)
      refine x_aload_n F dX10_readTest_64 rfl 0 rfl ?_
      refine x_dup F dX10_readTest_65 rfl ?_
      refine x_get (ci := 10) F hin10 0 rfl rfl 27 (by decide) hw2 rfl dX10_readTest_66 ?_
      refine x_iconst F dX10_readTest_69 ?_
      refine x_iadd F dX10_readTest_70 ?_
      refine x_put (ci := 10) F hin10 tyX10_ok nmX10 0 rfl rfl 27 (by decide) hw2 rfl rfl rfl (show 27 + 1 ≤ _ from Nat.le_of_ble_eq_true rfl) dX10_readTest_71 [(qO, .inr (10, [.int (jI vO_blocks), .ref qO_stones, .ref qO_laid, .ref qO_deep, .int (jI vO_placings), .ref qO_placed, .int (jI vO_mortars), .ref qO_put, .ref qO_rates, .int (jI vO_limit), .int (jI vO_looks), .ref qO_seen, .ref qO_text, .int (jI vO_texted), .int (jI vO_faultPlace), .int (jI vO_clauses), .ref qO_rule, .ref qO_fresh, .int (jI vO_lots), .ref qO_stocks, .ref qO_row, .ref qO_dangers, .ref qO_losses, .long (jL vO_upper), .long (jL vO_lower), .ref qO_habitUpper, .ref qO_habitLower, .int (jI (a2_19 + 1)), .long (jL vO_word), .int (jI vO_wordEnd), .ref qO_chosen, .ref qO_lost, .ref qO_zones, .ref qO_way, .ref qO_spent, .ref qO_scaffolds])), aI kI qO_text 120 fO_text, aI kI qO_fresh 66 (iU (iU fO_fresh to (nmW vO_word)) (to + 1) s8)] rfl ?_
      refine x_aload_n F dX10_readTest_74 rfl 0 rfl ?_
      refine x_callVi (ci := 10) (q0 := 0) (As := []) (st := []) F (c_X10_here D kI kJ l qO vO_blocks qO_stones qO_laid qO_deep vO_placings qO_placed vO_mortars qO_put qO_rates vO_limit vO_looks qO_seen qO_text vO_texted vO_faultPlace vO_clauses qO_rule qO_fresh vO_lots qO_stocks qO_row qO_dangers qO_losses vO_upper vO_lower qO_habitUpper qO_habitLower (a2_19 + 1) vO_word vO_wordEnd qO_chosen qO_lost qO_zones qO_way qO_spent qO_scaffolds fO_text hOs hOt (by omega)) (cwV 0 F.2.2.2.2.1 gX10_readTest_X10_here rfl rfl rfl (by decide +kernel) ⟨Nat.le_of_ble_eq_true rfl, Nat.le_of_ble_eq_true rfl⟩) rfl rfl [0, 1] [2] [1, 2, 0] rfl rfl (by decide) (by decide) (by decide) (fun _ => rfl) (by decide) rfl (Nat.le_of_ble_eq_true rfl) dX10_readTest_75 ⟨Nat.le_of_ble_eq_true rfl, Nat.le_of_ble_eq_true rfl⟩ (fun z75 u75 h75 => ?_)
      obtain ⟨a2_75, rfl⟩ : ∃ z, z = u75 := ⟨_, rfl⟩
      try dsimp only at h75
      refine x_ws [(qO, .inr (10, [.int (jI vO_blocks), .ref qO_stones, .ref qO_laid, .ref qO_deep, .int (jI vO_placings), .ref qO_placed, .int (jI vO_mortars), .ref qO_put, .ref qO_rates, .int (jI vO_limit), .int (jI vO_looks), .ref qO_seen, .ref qO_text, .int (jI vO_texted), .int (jI vO_faultPlace), .int (jI vO_clauses), .ref qO_rule, .ref qO_fresh, .int (jI vO_lots), .ref qO_stocks, .ref qO_row, .ref qO_dangers, .ref qO_losses, .long (jL vO_upper), .long (jL vO_lower), .ref qO_habitUpper, .ref qO_habitLower, .int (jI a2_75), .long (jL vO_word), .int (jI vO_wordEnd), .ref qO_chosen, .ref qO_lost, .ref qO_zones, .ref qO_way, .ref qO_spent, .ref qO_scaffolds])), aI kI qO_text 120 fO_text, aI kI qO_fresh 66 (iU (iU fO_fresh to (nmW vO_word)) (to + 1) s8)] rfl ?_
      obtain ⟨he75, ha_75⟩ := h75
      have he75 := he75.symm
      subst he75
      have hsr2 := skp_rng (tx := fO_text) (sz := vO_texted) (i := a2_19 + 1) (by omega)
      rw [← ha_75] at hsr2
      have hcr2 := cha_rng (i := a2_75) hOt hOs.2 (by omega)
      have hR : tsR fO_text vO_texted vO_at = a2_75 := by unfold tsR; rw [hQ]; exact ha_75.symm
      have hE : tsE fO_text vO_texted vO_at = dge fO_text vO_texted a2_75 := by unfold tsE; rw [hR]
      have hct : a2_75 < vO_texted → cha fO_text vO_texted a2_75 = fO_text a2_75 := fun q => by unfold cha; rw [if_pos q]
      have hcn : ¬ a2_75 < vO_texted → cha fO_text vO_texted a2_75 = -1 := fun q => by unfold cha; rw [if_neg q]
      refine x_i2l F dX10_readTest_78 (by omega) ?_
      refine x_ldc2 F 48 hw3 (by decide) dX10_readTest_79 ?_
      refine x_ldc2 F 57 hw4 (by decide) dX10_readTest_82 ?_
      refine x_callSi (As := [.long (jL (cha fO_text vO_texted a2_75)), .long (jL 48), .long (jL 57)]) (st := []) F (c_X10_in D kI kJ l (cha fO_text vO_texted a2_75) 48 57 (by omega) (by omega) (by omega)) (va_cwS 3 F.2.2.2.2.1 gX10_readTest_X10_in rfl rfl rfl (by decide +kernel) ⟨Nat.le_of_ble_eq_true rfl, Nat.le_of_ble_eq_true rfl⟩) [] [0, 1, 2] [0, 1, 2] rfl rfl (by decide) (by decide) (by decide) (fun _ => rfl) (by decide) rfl (Nat.le_of_ble_eq_true rfl) dX10_readTest_85 ⟨Nat.le_of_ble_eq_true rfl, Nat.le_of_ble_eq_true rfl⟩ (fun z85 u85 h85 => ?_)
      try dsimp only at h85
      refine x_ws [(qO, .inr (10, [.int (jI vO_blocks), .ref qO_stones, .ref qO_laid, .ref qO_deep, .int (jI vO_placings), .ref qO_placed, .int (jI vO_mortars), .ref qO_put, .ref qO_rates, .int (jI vO_limit), .int (jI vO_looks), .ref qO_seen, .ref qO_text, .int (jI vO_texted), .int (jI vO_faultPlace), .int (jI vO_clauses), .ref qO_rule, .ref qO_fresh, .int (jI vO_lots), .ref qO_stocks, .ref qO_row, .ref qO_dangers, .ref qO_losses, .long (jL vO_upper), .long (jL vO_lower), .ref qO_habitUpper, .ref qO_habitLower, .int (jI a2_75), .long (jL vO_word), .int (jI vO_wordEnd), .ref qO_chosen, .ref qO_lost, .ref qO_zones, .ref qO_way, .ref qO_spent, .ref qO_scaffolds])), aI kI qO_text 120 fO_text, aI kI qO_fresh 66 (iU (iU fO_fresh to (nmW vO_word)) (to + 1) s8)] rfl ?_
      have hb85 := h85
      refine x_bne (tgt := 101) F dX10_readTest_88 (by decide) hb85 (fun c88 => ?_) (fun c88 => ?_)
      · -- 88 t
        have hdn : 0 ≤ dge fO_text vO_texted a2_75 - a2_75 - 1 := by
          have e := sc_go (tx := fO_text) (lo := 48) (hi := 57) (sz := vO_texted) (i := a2_75) (by omega)
          have e2 := sc_rng fO_text 48 57 vO_texted (a2_75 + 1)
          unfold dge
          omega
        refine x_aload_n F dX10_readTest_101 rfl 0 rfl ?_
        refine x_get (ci := 10) F hin10 0 rfl rfl 27 (by decide) hw2 rfl dX10_readTest_102 ?_
        refine x_istore_n (lv' := [(0, .ref qO), (1, .int (jI to)), (2, .int (jI (cha fO_text vO_texted a2_19))), (3, .int (jI a2_75))]) F dX10_readTest_105 rfl (by decide) [1, 2, 3, 0] rfl ?_
        refine x_iconst F dX10_readTest_106 ?_
        refine x_istore (lv' := [(0, .ref qO), (1, .int (jI to)), (2, .int (jI (cha fO_text vO_texted a2_19))), (3, .int (jI a2_75)), (4, .int (jI 0))]) F dX10_readTest_107 (by decide) [1, 2, 3, 4, 0] rfl ?_
        have lp109 : ∀ (fu : Nat) (a9 : Int) (v9 : Int) (ha9 : a2_75 ≤ a9 ∧ a9 ≤ vO_texted) (hde : dge fO_text vO_texted a9 = dge fO_text vO_texted a2_75) (hv : a9 - a2_75 ≤ 3 → v9 = nuV fO_text a2_75 a9) (hvr : 0 ≤ v9 ∧ v9 ≤ 999) (hdg : ∀ k : Int, a2_75 ≤ k → k < a9 → 48 ≤ fO_text k ∧ fO_text k ≤ 57) (hm : vO_texted - a9 < (fu : Int)), xG D p l e (xRm 3 81 0 0) s m args below meth c 5 A Q 0 0 [(qO, .inr (10, [.int (jI vO_blocks), .ref qO_stones, .ref qO_laid, .ref qO_deep, .int (jI vO_placings), .ref qO_placed, .int (jI vO_mortars), .ref qO_put, .ref qO_rates, .int (jI vO_limit), .int (jI vO_looks), .ref qO_seen, .ref qO_text, .int (jI vO_texted), .int (jI vO_faultPlace), .int (jI vO_clauses), .ref qO_rule, .ref qO_fresh, .int (jI vO_lots), .ref qO_stocks, .ref qO_row, .ref qO_dangers, .ref qO_losses, .long (jL vO_upper), .long (jL vO_lower), .ref qO_habitUpper, .ref qO_habitLower, .int (jI a9), .long (jL vO_word), .int (jI vO_wordEnd), .ref qO_chosen, .ref qO_lost, .ref qO_zones, .ref qO_way, .ref qO_spent, .ref qO_scaffolds])), aI kI qO_text 120 fO_text, aI kI qO_fresh 66 (iU (iU fO_fresh to (nmW vO_word)) (to + 1) s8)] [(0, .ref qO), (1, .int (jI to)), (2, .int (jI (cha fO_text vO_texted a2_19))), (3, .int (jI a2_75)), (4, .int (jI v9))] 109 [] := by
          intro fu
          induction fu with
          | zero =>
            intro a9 v9 ha9 hde hv hvr hdg hm
            exact absurd hm (by omega)
          | succ fu ih109 =>
            intro a9 v9 ha9 hde hv hvr hdg hm
            refine x_aload_n F dX10_readTest_109 rfl 0 rfl ?_
            refine x_get (ci := 10) F hin10 0 rfl rfl 27 (by decide) hw2 rfl dX10_readTest_110 ?_
            refine x_aload_n F dX10_readTest_113 rfl 0 rfl ?_
            refine x_get (ci := 10) F hin10 0 rfl rfl 13 (by decide) hw5 rfl dX10_readTest_114 ?_
            refine x_icmp_ge (tgt := 190) F dX10_readTest_117 (by decide) (by omega) (fun c117 => ?_) (fun c117 => ?_)
            · -- 117 t
              refine x_aload_n F dX10_readTest_190 rfl 0 rfl ?_
              refine x_get (ci := 10) F hin10 0 rfl rfl 27 (by decide) hw2 rfl dX10_readTest_191 ?_
              refine x_iload_n F dX10_readTest_194 rfl 3 rfl ?_
              refine x_isub F dX10_readTest_195 ?_
              refine x_iconst F dX10_readTest_196 ?_
              refine x_icmp_le (tgt := 207) F dX10_readTest_197 (by decide) (by omega) (fun c197 => ?_) (fun c197 => ?_)
              · -- 197 t
                refine x_aload_n F dX10_readTest_207 rfl 0 rfl ?_
                refine x_get (ci := 10) F hin10 0 rfl rfl 17 (by decide) hw0 rfl dX10_readTest_208 ?_
                refine x_iload_n F dX10_readTest_211 rfl 1 rfl ?_
                refine x_iconst F dX10_readTest_212 ?_
                refine x_iadd F dX10_readTest_213 ?_
                refine x_iload F dX10_readTest_214 4 rfl ?_
                refine x_iast F 2 rfl (by decide) (by omega) dX10_readTest_216 [(qO, .inr (10, [.int (jI vO_blocks), .ref qO_stones, .ref qO_laid, .ref qO_deep, .int (jI vO_placings), .ref qO_placed, .int (jI vO_mortars), .ref qO_put, .ref qO_rates, .int (jI vO_limit), .int (jI vO_looks), .ref qO_seen, .ref qO_text, .int (jI vO_texted), .int (jI vO_faultPlace), .int (jI vO_clauses), .ref qO_rule, .ref qO_fresh, .int (jI vO_lots), .ref qO_stocks, .ref qO_row, .ref qO_dangers, .ref qO_losses, .long (jL vO_upper), .long (jL vO_lower), .ref qO_habitUpper, .ref qO_habitLower, .int (jI a9), .long (jL vO_word), .int (jI vO_wordEnd), .ref qO_chosen, .ref qO_lost, .ref qO_zones, .ref qO_way, .ref qO_spent, .ref qO_scaffolds])), aI kI qO_text 120 fO_text, aI kI qO_fresh 66 (iU (iU (iU fO_fresh to (nmW vO_word)) (to + 1) s8) (to + 2) v9)] rfl ?_
                have hg216 := Rg.up hg63 (to + 2) v9 (by omega)
                refine x_iconst F dX10_readTest_217 ?_
                have hdz : dge fO_text vO_texted a2_75 = a9 := by rw [← hde]; exact sc_stop (by omega)
                have hG : tsG fO_text vO_texted vO_at = 0 := by unfold tsG; rw [hS, hE, hR, hdz, if_neg (by omega), if_neg (by omega)]; exact if_neg (by omega)
                have hV : tsV fO_text vO_texted vO_at = v9 := by unfold tsV; rw [hR, hE, hdz]; exact (hv (by omega)).symm
                exact hret 0 0 218 _ 0 (vO_faultPlace, a9, iU (iU (iU fO_fresh to (nmW vO_word)) (to + 1) s8) (to + 2) v9) (Nat.le_of_ble_eq_true rfl) (Nat.le_of_ble_eq_true rfl) dX10_readTest_218 (by (try dsimp only); exact (⟨hG.symm, fun _ => ⟨rfl, by rw [hE, hdz], by rw [iU_n (by omega), iU_n (by omega), iU_s]; exact hnm, by rw [iU_n (by omega), iU_s, hS]; exact hs8, by rw [iU_s]; exact hV.symm⟩, fun q => absurd hG q, fun k q => by repeat rw [iU_n (by omega)], by omega, hg216⟩))
              · -- 197 f
                refine x_aload_n F dX10_readTest_200 rfl 0 rfl ?_
                refine x_iconst F dX10_readTest_201 ?_
                refine x_iload_n F dX10_readTest_202 rfl 3 rfl ?_
                refine x_callVi (ci := 10) (q0 := 0) (As := [.int (jI 2), .int (jI a2_75)]) (st := []) F (c_X10_fails D kI kJ l qO 2 a2_75 vO_blocks qO_stones qO_laid qO_deep vO_placings qO_placed vO_mortars qO_put qO_rates vO_limit vO_looks qO_seen qO_text vO_texted vO_faultPlace vO_clauses qO_rule qO_fresh vO_lots qO_stocks qO_row qO_dangers qO_losses vO_upper vO_lower qO_habitUpper qO_habitLower a9 vO_word vO_wordEnd qO_chosen qO_lost qO_zones qO_way qO_spent qO_scaffolds ) (cwV 2 F.2.2.2.2.1 gX10_readTest_X10_fails rfl rfl rfl (by decide +kernel) ⟨Nat.le_of_ble_eq_true rfl, Nat.le_of_ble_eq_true rfl⟩) rfl rfl [0] [1, 2] [2, 0, 1] rfl rfl (by decide) (by decide) (by decide) (fun _ => rfl) (by decide) rfl (Nat.le_of_ble_eq_true rfl) dX10_readTest_203 ⟨Nat.le_of_ble_eq_true rfl, Nat.le_of_ble_eq_true rfl⟩ (fun z203 u203 h203 => ?_)
                try dsimp only at h203
                refine x_ws [(qO, .inr (10, [.int (jI vO_blocks), .ref qO_stones, .ref qO_laid, .ref qO_deep, .int (jI vO_placings), .ref qO_placed, .int (jI vO_mortars), .ref qO_put, .ref qO_rates, .int (jI vO_limit), .int (jI vO_looks), .ref qO_seen, .ref qO_text, .int (jI vO_texted), .int (jI a2_75), .int (jI vO_clauses), .ref qO_rule, .ref qO_fresh, .int (jI vO_lots), .ref qO_stocks, .ref qO_row, .ref qO_dangers, .ref qO_losses, .long (jL vO_upper), .long (jL vO_lower), .ref qO_habitUpper, .ref qO_habitLower, .int (jI a9), .long (jL vO_word), .int (jI vO_wordEnd), .ref qO_chosen, .ref qO_lost, .ref qO_zones, .ref qO_way, .ref qO_spent, .ref qO_scaffolds])), aI kI qO_text 120 fO_text, aI kI qO_fresh 66 (iU (iU fO_fresh to (nmW vO_word)) (to + 1) s8)] rfl ?_
                have he203 := h203
                have he203 := he203.symm
                subst he203
                have hdz : dge fO_text vO_texted a2_75 = a9 := by rw [← hde]; exact sc_stop (by omega)
                have hG : tsG fO_text vO_texted vO_at = 2 := by unfold tsG; rw [hS, hE, hR, hdz, if_neg (by omega), if_neg (by omega)]; exact if_pos (by omega)
                have hH : tsH fO_text vO_texted vO_at = a2_75 := by unfold tsH; rw [hS, hR]; exact if_neg (by omega)
                exact hret 0 0 206 _ 2 (a2_75, a9, iU (iU fO_fresh to (nmW vO_word)) (to + 1) s8) (Nat.le_of_ble_eq_true rfl) (Nat.le_of_ble_eq_true rfl) dX10_readTest_206 (by (try dsimp only); exact (⟨hG.symm, fun q => absurd q (by omega), fun _ => hH.symm, fun k q => by repeat rw [iU_n (by omega)], by omega, hg63⟩))
            · -- 117 f
              refine x_aload_n F dX10_readTest_120 rfl 0 rfl ?_
              refine x_get (ci := 10) F hin10 0 rfl rfl 12 (by decide) hw6 rfl dX10_readTest_121 ?_
              refine x_aload_n F dX10_readTest_124 rfl 0 rfl ?_
              refine x_get (ci := 10) F hin10 0 rfl rfl 27 (by decide) hw2 rfl dX10_readTest_125 ?_
              refine x_iald F 1 rfl (by decide) (by omega) dX10_readTest_128 ?_
              have hr128 := Rg.at hOt a9 (by omega)
              refine x_i2l F dX10_readTest_129 (by omega) ?_
              refine x_ldc2 F 48 hw3 (by decide) dX10_readTest_130 ?_
              refine x_ldc2 F 57 hw4 (by decide) dX10_readTest_133 ?_
              refine x_callSi (As := [.long (jL (fO_text a9)), .long (jL 48), .long (jL 57)]) (st := []) F (c_X10_in D kI kJ l (fO_text a9) 48 57 (by omega) (by omega) (by omega)) (va_cwS 3 F.2.2.2.2.1 gX10_readTest_X10_in rfl rfl rfl (by decide +kernel) ⟨Nat.le_of_ble_eq_true rfl, Nat.le_of_ble_eq_true rfl⟩) [] [0, 1, 2] [0, 1, 2] rfl rfl (by decide) (by decide) (by decide) (fun _ => rfl) (by decide) rfl (Nat.le_of_ble_eq_true rfl) dX10_readTest_136 ⟨Nat.le_of_ble_eq_true rfl, Nat.le_of_ble_eq_true rfl⟩ (fun z136 u136 h136 => ?_)
              try dsimp only at h136
              refine x_ws [(qO, .inr (10, [.int (jI vO_blocks), .ref qO_stones, .ref qO_laid, .ref qO_deep, .int (jI vO_placings), .ref qO_placed, .int (jI vO_mortars), .ref qO_put, .ref qO_rates, .int (jI vO_limit), .int (jI vO_looks), .ref qO_seen, .ref qO_text, .int (jI vO_texted), .int (jI vO_faultPlace), .int (jI vO_clauses), .ref qO_rule, .ref qO_fresh, .int (jI vO_lots), .ref qO_stocks, .ref qO_row, .ref qO_dangers, .ref qO_losses, .long (jL vO_upper), .long (jL vO_lower), .ref qO_habitUpper, .ref qO_habitLower, .int (jI a9), .long (jL vO_word), .int (jI vO_wordEnd), .ref qO_chosen, .ref qO_lost, .ref qO_zones, .ref qO_way, .ref qO_spent, .ref qO_scaffolds])), aI kI qO_text 120 fO_text, aI kI qO_fresh 66 (iU (iU fO_fresh to (nmW vO_word)) (to + 1) s8)] rfl ?_
              have hb136 := h136
              refine x_beq (tgt := 190) F dX10_readTest_139 (by decide) hb136 (fun c139 => ?_) (fun c139 => ?_)
              · -- 139 t
                refine x_aload_n F dX10_readTest_190 rfl 0 rfl ?_
                refine x_get (ci := 10) F hin10 0 rfl rfl 27 (by decide) hw2 rfl dX10_readTest_191 ?_
                refine x_iload_n F dX10_readTest_194 rfl 3 rfl ?_
                refine x_isub F dX10_readTest_195 ?_
                refine x_iconst F dX10_readTest_196 ?_
                refine x_icmp_le (tgt := 207) F dX10_readTest_197 (by decide) (by omega) (fun c197 => ?_) (fun c197 => ?_)
                · -- 197 t
                  refine x_aload_n F dX10_readTest_207 rfl 0 rfl ?_
                  refine x_get (ci := 10) F hin10 0 rfl rfl 17 (by decide) hw0 rfl dX10_readTest_208 ?_
                  refine x_iload_n F dX10_readTest_211 rfl 1 rfl ?_
                  refine x_iconst F dX10_readTest_212 ?_
                  refine x_iadd F dX10_readTest_213 ?_
                  refine x_iload F dX10_readTest_214 4 rfl ?_
                  refine x_iast F 2 rfl (by decide) (by omega) dX10_readTest_216 [(qO, .inr (10, [.int (jI vO_blocks), .ref qO_stones, .ref qO_laid, .ref qO_deep, .int (jI vO_placings), .ref qO_placed, .int (jI vO_mortars), .ref qO_put, .ref qO_rates, .int (jI vO_limit), .int (jI vO_looks), .ref qO_seen, .ref qO_text, .int (jI vO_texted), .int (jI vO_faultPlace), .int (jI vO_clauses), .ref qO_rule, .ref qO_fresh, .int (jI vO_lots), .ref qO_stocks, .ref qO_row, .ref qO_dangers, .ref qO_losses, .long (jL vO_upper), .long (jL vO_lower), .ref qO_habitUpper, .ref qO_habitLower, .int (jI a9), .long (jL vO_word), .int (jI vO_wordEnd), .ref qO_chosen, .ref qO_lost, .ref qO_zones, .ref qO_way, .ref qO_spent, .ref qO_scaffolds])), aI kI qO_text 120 fO_text, aI kI qO_fresh 66 (iU (iU (iU fO_fresh to (nmW vO_word)) (to + 1) s8) (to + 2) v9)] rfl ?_
                  have hg216 := Rg.up hg63 (to + 2) v9 (by omega)
                  refine x_iconst F dX10_readTest_217 ?_
                  have hdz : dge fO_text vO_texted a2_75 = a9 := by rw [← hde]; exact sc_stop (by omega)
                  have hG : tsG fO_text vO_texted vO_at = 0 := by unfold tsG; rw [hS, hE, hR, hdz, if_neg (by omega), if_neg (by omega)]; exact if_neg (by omega)
                  have hV : tsV fO_text vO_texted vO_at = v9 := by unfold tsV; rw [hR, hE, hdz]; exact (hv (by omega)).symm
                  exact hret 0 0 218 _ 0 (vO_faultPlace, a9, iU (iU (iU fO_fresh to (nmW vO_word)) (to + 1) s8) (to + 2) v9) (Nat.le_of_ble_eq_true rfl) (Nat.le_of_ble_eq_true rfl) dX10_readTest_218 (by (try dsimp only); exact (⟨hG.symm, fun _ => ⟨rfl, by rw [hE, hdz], by rw [iU_n (by omega), iU_n (by omega), iU_s]; exact hnm, by rw [iU_n (by omega), iU_s, hS]; exact hs8, by rw [iU_s]; exact hV.symm⟩, fun q => absurd hG q, fun k q => by repeat rw [iU_n (by omega)], by omega, hg216⟩))
                · -- 197 f
                  refine x_aload_n F dX10_readTest_200 rfl 0 rfl ?_
                  refine x_iconst F dX10_readTest_201 ?_
                  refine x_iload_n F dX10_readTest_202 rfl 3 rfl ?_
                  refine x_callVi (ci := 10) (q0 := 0) (As := [.int (jI 2), .int (jI a2_75)]) (st := []) F (c_X10_fails D kI kJ l qO 2 a2_75 vO_blocks qO_stones qO_laid qO_deep vO_placings qO_placed vO_mortars qO_put qO_rates vO_limit vO_looks qO_seen qO_text vO_texted vO_faultPlace vO_clauses qO_rule qO_fresh vO_lots qO_stocks qO_row qO_dangers qO_losses vO_upper vO_lower qO_habitUpper qO_habitLower a9 vO_word vO_wordEnd qO_chosen qO_lost qO_zones qO_way qO_spent qO_scaffolds ) (cwV 2 F.2.2.2.2.1 gX10_readTest_X10_fails rfl rfl rfl (by decide +kernel) ⟨Nat.le_of_ble_eq_true rfl, Nat.le_of_ble_eq_true rfl⟩) rfl rfl [0] [1, 2] [2, 0, 1] rfl rfl (by decide) (by decide) (by decide) (fun _ => rfl) (by decide) rfl (Nat.le_of_ble_eq_true rfl) dX10_readTest_203 ⟨Nat.le_of_ble_eq_true rfl, Nat.le_of_ble_eq_true rfl⟩ (fun z203 u203 h203 => ?_)
                  try dsimp only at h203
                  refine x_ws [(qO, .inr (10, [.int (jI vO_blocks), .ref qO_stones, .ref qO_laid, .ref qO_deep, .int (jI vO_placings), .ref qO_placed, .int (jI vO_mortars), .ref qO_put, .ref qO_rates, .int (jI vO_limit), .int (jI vO_looks), .ref qO_seen, .ref qO_text, .int (jI vO_texted), .int (jI a2_75), .int (jI vO_clauses), .ref qO_rule, .ref qO_fresh, .int (jI vO_lots), .ref qO_stocks, .ref qO_row, .ref qO_dangers, .ref qO_losses, .long (jL vO_upper), .long (jL vO_lower), .ref qO_habitUpper, .ref qO_habitLower, .int (jI a9), .long (jL vO_word), .int (jI vO_wordEnd), .ref qO_chosen, .ref qO_lost, .ref qO_zones, .ref qO_way, .ref qO_spent, .ref qO_scaffolds])), aI kI qO_text 120 fO_text, aI kI qO_fresh 66 (iU (iU fO_fresh to (nmW vO_word)) (to + 1) s8)] rfl ?_
                  have he203 := h203
                  have he203 := he203.symm
                  subst he203
                  have hdz : dge fO_text vO_texted a2_75 = a9 := by rw [← hde]; exact sc_stop (by omega)
                  have hG : tsG fO_text vO_texted vO_at = 2 := by unfold tsG; rw [hS, hE, hR, hdz, if_neg (by omega), if_neg (by omega)]; exact if_pos (by omega)
                  have hH : tsH fO_text vO_texted vO_at = a2_75 := by unfold tsH; rw [hS, hR]; exact if_neg (by omega)
                  exact hret 0 0 206 _ 2 (a2_75, a9, iU (iU fO_fresh to (nmW vO_word)) (to + 1) s8) (Nat.le_of_ble_eq_true rfl) (Nat.le_of_ble_eq_true rfl) dX10_readTest_206 (by (try dsimp only); exact (⟨hG.symm, fun q => absurd q (by omega), fun _ => hH.symm, fun k q => by repeat rw [iU_n (by omega)], by omega, hg63⟩))
              · -- 139 f
                have jn175 : ∀ (v8 : Int) (hv8 : a9 + 1 - a2_75 ≤ 3 → v8 = nuV fO_text a2_75 (a9 + 1)) (hvr8 : 0 ≤ v8 ∧ v8 ≤ 999), xG D p l e (xRm 3 81 0 0) s m args below meth c 5 A Q 0 0 [(qO, .inr (10, [.int (jI vO_blocks), .ref qO_stones, .ref qO_laid, .ref qO_deep, .int (jI vO_placings), .ref qO_placed, .int (jI vO_mortars), .ref qO_put, .ref qO_rates, .int (jI vO_limit), .int (jI vO_looks), .ref qO_seen, .ref qO_text, .int (jI vO_texted), .int (jI vO_faultPlace), .int (jI vO_clauses), .ref qO_rule, .ref qO_fresh, .int (jI vO_lots), .ref qO_stocks, .ref qO_row, .ref qO_dangers, .ref qO_losses, .long (jL vO_upper), .long (jL vO_lower), .ref qO_habitUpper, .ref qO_habitLower, .int (jI a9), .long (jL vO_word), .int (jI vO_wordEnd), .ref qO_chosen, .ref qO_lost, .ref qO_zones, .ref qO_way, .ref qO_spent, .ref qO_scaffolds])), aI kI qO_text 120 fO_text, aI kI qO_fresh 66 (iU (iU fO_fresh to (nmW vO_word)) (to + 1) s8)] [(0, .ref qO), (1, .int (jI to)), (2, .int (jI (cha fO_text vO_texted a2_19))), (3, .int (jI a2_75)), (4, .int (jI v9))] 175 [.int (jI v8)] := by
                  intro v8 hv8 hvr8
                  refine x_istore (lv' := [(0, .ref qO), (1, .int (jI to)), (2, .int (jI (cha fO_text vO_texted a2_19))), (3, .int (jI a2_75)), (4, .int (jI v8))]) F dX10_readTest_175 (by decide) [1, 2, 3, 4, 0] rfl ?_
                  refine x_aload_n F dX10_readTest_177 rfl 0 rfl ?_
                  refine x_dup F dX10_readTest_178 rfl ?_
                  refine x_get (ci := 10) F hin10 0 rfl rfl 27 (by decide) hw2 rfl dX10_readTest_179 ?_
                  refine x_iconst F dX10_readTest_182 ?_
                  refine x_iadd F dX10_readTest_183 ?_
                  refine x_put (ci := 10) F hin10 tyX10_ok nmX10 0 rfl rfl 27 (by decide) hw2 rfl rfl rfl (show 27 + 1 ≤ _ from Nat.le_of_ble_eq_true rfl) dX10_readTest_184 [(qO, .inr (10, [.int (jI vO_blocks), .ref qO_stones, .ref qO_laid, .ref qO_deep, .int (jI vO_placings), .ref qO_placed, .int (jI vO_mortars), .ref qO_put, .ref qO_rates, .int (jI vO_limit), .int (jI vO_looks), .ref qO_seen, .ref qO_text, .int (jI vO_texted), .int (jI vO_faultPlace), .int (jI vO_clauses), .ref qO_rule, .ref qO_fresh, .int (jI vO_lots), .ref qO_stocks, .ref qO_row, .ref qO_dangers, .ref qO_losses, .long (jL vO_upper), .long (jL vO_lower), .ref qO_habitUpper, .ref qO_habitLower, .int (jI (a9 + 1)), .long (jL vO_word), .int (jI vO_wordEnd), .ref qO_chosen, .ref qO_lost, .ref qO_zones, .ref qO_way, .ref qO_spent, .ref qO_scaffolds])), aI kI qO_text 120 fO_text, aI kI qO_fresh 66 (iU (iU fO_fresh to (nmW vO_word)) (to + 1) s8)] rfl ?_
                  refine x_goto (tgt := 109) F dX10_readTest_187 (by decide) ?_
                  exact ih109 (a9 + 1) v8 (by omega) (by rw [← hde]; exact (sc_go (by omega)).symm) hv8 (by omega) (fun k k0 k1 => by by_cases e : k = a9; (rw [e]; omega); exact hdg k k0 (by omega)) (by omega)
                refine x_aload_n F dX10_readTest_142 rfl 0 rfl ?_
                refine x_get (ci := 10) F hin10 0 rfl rfl 27 (by decide) hw2 rfl dX10_readTest_143 ?_
                refine x_iload_n F dX10_readTest_146 rfl 3 rfl ?_
                refine x_isub F dX10_readTest_147 ?_
                refine x_iconst F dX10_readTest_148 ?_
                refine x_icmp_ge (tgt := 173) F dX10_readTest_149 (by decide) (by omega) (fun c149 => ?_) (fun c149 => ?_)
                · -- 149 t
                  refine x_iload F dX10_readTest_173 4 rfl ?_
                  exact jn175 v9 (by first | (intro q; rw [nuV_s (by omega), ← hv (by omega)]; omega) | (intro q; omega)) (by omega)
                · -- 149 f
                  have h3 := nuV_3 (tx := fO_text) (i := a2_75) (e := a9 + 1) (by omega) (fun k k0 k1 => by by_cases e : k = a9; (rw [e]; omega); exact hdg k k0 (by omega))
                  rw [nuV_s (by omega), ← hv (by omega)] at h3
                  refine x_bipush F dX10_readTest_152 (by decide) ?_
                  refine x_iload F dX10_readTest_154 4 rfl ?_
                  refine x_imul F dX10_readTest_156 ?_
                  refine x_aload_n F dX10_readTest_157 rfl 0 rfl ?_
                  refine x_get (ci := 10) F hin10 0 rfl rfl 12 (by decide) hw6 rfl dX10_readTest_158 ?_
                  refine x_aload_n F dX10_readTest_161 rfl 0 rfl ?_
                  refine x_get (ci := 10) F hin10 0 rfl rfl 27 (by decide) hw2 rfl dX10_readTest_162 ?_
                  refine x_iald F 1 rfl (by decide) (by omega) dX10_readTest_165 ?_
                  have hr165 := Rg.at hOt a9 (by omega)
                  refine x_iadd F dX10_readTest_166 ?_
                  refine x_bipush F dX10_readTest_167 (by decide) ?_
                  refine x_isub F dX10_readTest_169 ?_
                  refine x_goto (tgt := 175) F dX10_readTest_170 (by decide) ?_
                  exact jn175 (((10 * v9) + (fO_text a9)) - 48) (by first | (intro q; rw [nuV_s (by omega), ← hv (by omega)]; omega) | (intro q; omega)) (by omega)
        exact lp109 (Int.toNat (vO_texted - a2_75) + 1) a2_75 0 (by omega) rfl (fun _ => (nuV_0 _ _).symm) (by omega) (fun k h1 h2 => by omega) (by omega)
      · -- 88 f
        refine x_aload_n F dX10_readTest_91 rfl 0 rfl ?_
        refine x_iconst F dX10_readTest_92 ?_
        refine x_aload_n F dX10_readTest_93 rfl 0 rfl ?_
        refine x_get (ci := 10) F hin10 0 rfl rfl 27 (by decide) hw2 rfl dX10_readTest_94 ?_
        refine x_callVi (ci := 10) (q0 := 0) (As := [.int (jI 1), .int (jI a2_75)]) (st := []) F (c_X10_fails D kI kJ l qO 1 a2_75 vO_blocks qO_stones qO_laid qO_deep vO_placings qO_placed vO_mortars qO_put qO_rates vO_limit vO_looks qO_seen qO_text vO_texted vO_faultPlace vO_clauses qO_rule qO_fresh vO_lots qO_stocks qO_row qO_dangers qO_losses vO_upper vO_lower qO_habitUpper qO_habitLower a2_75 vO_word vO_wordEnd qO_chosen qO_lost qO_zones qO_way qO_spent qO_scaffolds ) (cwV 2 F.2.2.2.2.1 gX10_readTest_X10_fails rfl rfl rfl (by decide +kernel) ⟨Nat.le_of_ble_eq_true rfl, Nat.le_of_ble_eq_true rfl⟩) rfl rfl [0] [1, 2] [2, 0, 1] rfl rfl (by decide) (by decide) (by decide) (fun _ => rfl) (by decide) rfl (Nat.le_of_ble_eq_true rfl) dX10_readTest_97 ⟨Nat.le_of_ble_eq_true rfl, Nat.le_of_ble_eq_true rfl⟩ (fun z97 u97 h97 => ?_)
        try dsimp only at h97
        refine x_ws [(qO, .inr (10, [.int (jI vO_blocks), .ref qO_stones, .ref qO_laid, .ref qO_deep, .int (jI vO_placings), .ref qO_placed, .int (jI vO_mortars), .ref qO_put, .ref qO_rates, .int (jI vO_limit), .int (jI vO_looks), .ref qO_seen, .ref qO_text, .int (jI vO_texted), .int (jI a2_75), .int (jI vO_clauses), .ref qO_rule, .ref qO_fresh, .int (jI vO_lots), .ref qO_stocks, .ref qO_row, .ref qO_dangers, .ref qO_losses, .long (jL vO_upper), .long (jL vO_lower), .ref qO_habitUpper, .ref qO_habitLower, .int (jI a2_75), .long (jL vO_word), .int (jI vO_wordEnd), .ref qO_chosen, .ref qO_lost, .ref qO_zones, .ref qO_way, .ref qO_spent, .ref qO_scaffolds])), aI kI qO_text 120 fO_text, aI kI qO_fresh 66 (iU (iU fO_fresh to (nmW vO_word)) (to + 1) s8)] rfl ?_
        have he97 := h97
        have he97 := he97.symm
        subst he97
        have hdz : dge fO_text vO_texted a2_75 = a2_75 := sc_stop (by omega)
        have hG : tsG fO_text vO_texted vO_at = 1 := by unfold tsG; rw [hS, hE, hR, if_neg (by omega)]; exact if_pos hdz
        have hH : tsH fO_text vO_texted vO_at = a2_75 := by unfold tsH; rw [hS, hR]; exact if_neg (by omega)
        exact hret 0 0 100 _ 1 (a2_75, a2_75, iU (iU fO_fresh to (nmW vO_word)) (to + 1) s8) (Nat.le_of_ble_eq_true rfl) (Nat.le_of_ble_eq_true rfl) dX10_readTest_100 (by (try dsimp only); exact (⟨hG.symm, fun q => absurd q (by omega), fun _ => hH.symm, fun k q => by repeat rw [iU_n (by omega)], by omega, hg63⟩))
    refine x_bipush F dX10_readTest_53 (by decide) ?_
    refine x_icmp_ne (tgt := 62) F dX10_readTest_55 (by decide) (by omega) (fun c55 => ?_) (fun c55 => ?_)
    · -- 55 t
      refine x_iconst F dX10_readTest_62 ?_
      exact jn63 1 (by first | exact (if_pos (by omega)).symm | exact (if_neg (by omega)).symm)
    · -- 55 f
      refine x_iconst F dX10_readTest_58 ?_
      refine x_goto (tgt := 63) F dX10_readTest_59 (by decide) ?_
      exact jn63 0 (by first | exact (if_pos (by omega)).symm | exact (if_neg (by omega)).symm)
  refine x_iload_n F dX10_readTest_23 rfl 2 rfl ?_
  refine x_bipush F dX10_readTest_24 (by decide) ?_
  refine x_icmp_eq (tgt := 45) F dX10_readTest_26 (by decide) (by omega) (fun c26 => ?_) (fun c26 => ?_)
  · -- 26 t
    exact jn45  (by omega)
  · -- 26 f
    refine x_iload_n F dX10_readTest_29 rfl 2 rfl ?_
    refine x_bipush F dX10_readTest_30 (by decide) ?_
    refine x_icmp_eq (tgt := 45) F dX10_readTest_32 (by decide) (by omega) (fun c32 => ?_) (fun c32 => ?_)
    · -- 32 t
      exact jn45  (by omega)
    · -- 32 f
      refine x_aload_n F dX10_readTest_35 rfl 0 rfl ?_
      refine x_iconst F dX10_readTest_36 ?_
      refine x_aload_n F dX10_readTest_37 rfl 0 rfl ?_
      refine x_get (ci := 10) F hin10 0 rfl rfl 27 (by decide) hw2 rfl dX10_readTest_38 ?_
      refine x_callVi (ci := 10) (q0 := 0) (As := [.int (jI 1), .int (jI a2_19)]) (st := []) F (c_X10_fails D kI kJ l qO 1 a2_19 vO_blocks qO_stones qO_laid qO_deep vO_placings qO_placed vO_mortars qO_put qO_rates vO_limit vO_looks qO_seen qO_text vO_texted vO_faultPlace vO_clauses qO_rule qO_fresh vO_lots qO_stocks qO_row qO_dangers qO_losses vO_upper vO_lower qO_habitUpper qO_habitLower a2_19 vO_word vO_wordEnd qO_chosen qO_lost qO_zones qO_way qO_spent qO_scaffolds ) (cwV 2 F.2.2.2.2.1 gX10_readTest_X10_fails rfl rfl rfl (by decide +kernel) ⟨Nat.le_of_ble_eq_true rfl, Nat.le_of_ble_eq_true rfl⟩) rfl rfl [0] [1, 2] [2, 0, 1] rfl rfl (by decide) (by decide) (by decide) (fun _ => rfl) (by decide) rfl (Nat.le_of_ble_eq_true rfl) dX10_readTest_41 ⟨Nat.le_of_ble_eq_true rfl, Nat.le_of_ble_eq_true rfl⟩ (fun z41 u41 h41 => ?_)
      try dsimp only at h41
      refine x_ws [(qO, .inr (10, [.int (jI vO_blocks), .ref qO_stones, .ref qO_laid, .ref qO_deep, .int (jI vO_placings), .ref qO_placed, .int (jI vO_mortars), .ref qO_put, .ref qO_rates, .int (jI vO_limit), .int (jI vO_looks), .ref qO_seen, .ref qO_text, .int (jI vO_texted), .int (jI a2_19), .int (jI vO_clauses), .ref qO_rule, .ref qO_fresh, .int (jI vO_lots), .ref qO_stocks, .ref qO_row, .ref qO_dangers, .ref qO_losses, .long (jL vO_upper), .long (jL vO_lower), .ref qO_habitUpper, .ref qO_habitLower, .int (jI a2_19), .long (jL vO_word), .int (jI vO_wordEnd), .ref qO_chosen, .ref qO_lost, .ref qO_zones, .ref qO_way, .ref qO_spent, .ref qO_scaffolds])), aI kI qO_text 120 fO_text, aI kI qO_fresh 66 (iU fO_fresh to (nmW vO_word))] rfl ?_
      have he41 := h41
      have he41 := he41.symm
      subst he41
      have hG : tsG fO_text vO_texted vO_at = 1 := by unfold tsG; rw [hS]; exact if_pos (by omega)
      have hH : tsH fO_text vO_texted vO_at = a2_19 := by unfold tsH; rw [hS, hQ]; exact if_pos (by omega)
      exact hret 0 0 44 _ 1 (a2_19, a2_19, iU fO_fresh to (nmW vO_word)) (Nat.le_of_ble_eq_true rfl) (Nat.le_of_ble_eq_true rfl) dX10_readTest_44 (by (try dsimp only); exact (⟨hG.symm, fun q => absurd q (by omega), fun _ => hH.symm, fun k q => by repeat rw [iU_n (by omega)], by omega, hg9⟩))
