set_option maxHeartbeats 4000000 in
set_option maxRecDepth 100000 in
theorem c_X10_readClause (D : va_G) (kI kJ : Nat) (l : Launch) (qO : Nat) (ci : Int) (vO_blocks : Int) (qO_stones : Nat) (qO_laid : Nat) (qO_deep : Nat) (vO_placings : Int) (qO_placed : Nat) (vO_mortars : Int) (qO_put : Nat) (qO_rates : Nat) (vO_limit : Int) (vO_looks : Int) (qO_seen : Nat) (qO_text : Nat) (vO_texted : Int) (vO_faultPlace : Int) (vO_clauses : Int) (qO_rule : Nat) (qO_fresh : Nat) (vO_lots : Int) (qO_stocks : Nat) (qO_row : Nat) (qO_dangers : Nat) (qO_losses : Nat) (vO_upper : Int) (vO_lower : Int) (qO_habitUpper : Nat) (qO_habitLower : Nat) (vO_at : Int) (vO_word : Int) (vO_wordEnd : Int) (qO_chosen : Nat) (qO_lost : Nat) (qO_zones : Nat) (qO_way : Nat) (qO_spent : Nat) (qO_scaffolds : Nat) (fO_text : (Int → Int)) (fO_fresh : (Int → Int)) (hOs : 0 ≤ vO_texted ∧ vO_texted ≤ 120) (hOt : Rg fO_text 120 0 255) (hat : 0 ≤ vO_at ∧ vO_at ≤ vO_texted) (hOf : Rg fO_fresh 66 (-1) 999) (hOf3 : Rg (fun c => fO_fresh (11 * c)) 6 0 3) (hOf4 : Rg (fun c => fO_fresh (11 * c + 1)) 6 0 2) (hci : 0 ≤ ci ∧ ci ≤ 6) (hps : skp fO_text vO_texted vO_at = vO_at) : xMi D kI kJ l yX10_readClause wsX10_readClause 4 105 0 0 [.ref qO, .int (jI ci)] [(qO, .inr (10, [.int (jI vO_blocks), .ref qO_stones, .ref qO_laid, .ref qO_deep, .int (jI vO_placings), .ref qO_placed, .int (jI vO_mortars), .ref qO_put, .ref qO_rates, .int (jI vO_limit), .int (jI vO_looks), .ref qO_seen, .ref qO_text, .int (jI vO_texted), .int (jI vO_faultPlace), .int (jI vO_clauses), .ref qO_rule, .ref qO_fresh, .int (jI vO_lots), .ref qO_stocks, .ref qO_row, .ref qO_dangers, .ref qO_losses, .long (jL vO_upper), .long (jL vO_lower), .ref qO_habitUpper, .ref qO_habitLower, .int (jI vO_at), .long (jL vO_word), .int (jI vO_wordEnd), .ref qO_chosen, .ref qO_lost, .ref qO_zones, .ref qO_way, .ref qO_spent, .ref qO_scaffolds])), aI kI qO_text 120 fO_text, aI kI qO_fresh 66 fO_fresh] (fun (z : Int) (u : Int × Int × Int × Int × (Int → Int)) => z = (clF fO_text vO_texted ci vO_at) ∧ (clF fO_text vO_texted ci vO_at = 0 → ((u.1 = vO_faultPlace ∧ u.2.1 = clZ fO_text vO_texted ci vO_at + 1) ∧ ci < 6 ∧ 0 ≤ clJ fO_text vO_texted ci vO_at ∧ clJ fO_text vO_texted ci vO_at ≤ 2) ∧ u.2.2.2.2 (11 * ci) = clJ fO_text vO_texted ci vO_at + 1 ∧ (u.2.2.2.2 (11 * ci + 1) = clB fO_text vO_texted ci vO_at ∧ 0 ≤ clB fO_text vO_texted ci vO_at ∧ clB fO_text vO_texted ci vO_at ≤ 2) ∧ ∀ i : Int, 0 ≤ i → i ≤ clJ fO_text vO_texted ci vO_at → u.2.2.2.2 ((11 * ci + 2) + 3 * i) = tsN fO_text vO_texted (clX fO_text vO_texted vO_at i) ∧ u.2.2.2.2 ((11 * ci + 2) + 3 * i + 1) = (if tsS fO_text vO_texted (clX fO_text vO_texted vO_at i) = 60 then 0 else 1) ∧ u.2.2.2.2 ((11 * ci + 2) + 3 * i + 2) = tsV fO_text vO_texted (clX fO_text vO_texted vO_at i)) ∧ (¬ clF fO_text vO_texted ci vO_at = 0 → u.1 = clA fO_text vO_texted ci vO_at) ∧ (∀ k : Int, k < 11 * ci → u.2.2.2.2 k = fO_fresh k) ∧ (0 ≤ u.2.1 ∧ u.2.1 ≤ vO_texted) ∧ (Rg u.2.2.2.2 66 (-1) 999) ∧ (Rg (fun c => u.2.2.2.2 (11 * c)) 6 0 3) ∧ (Rg (fun c => u.2.2.2.2 (11 * c + 1)) 6 0 2)) (fun (u : Int × Int × Int × Int × (Int → Int)) => [(qO, .inr (10, [.int (jI vO_blocks), .ref qO_stones, .ref qO_laid, .ref qO_deep, .int (jI vO_placings), .ref qO_placed, .int (jI vO_mortars), .ref qO_put, .ref qO_rates, .int (jI vO_limit), .int (jI vO_looks), .ref qO_seen, .ref qO_text, .int (jI vO_texted), .int (jI u.1), .int (jI vO_clauses), .ref qO_rule, .ref qO_fresh, .int (jI vO_lots), .ref qO_stocks, .ref qO_row, .ref qO_dangers, .ref qO_losses, .long (jL vO_upper), .long (jL vO_lower), .ref qO_habitUpper, .ref qO_habitLower, .int (jI u.2.1), .long (jL u.2.2.1), .int (jI u.2.2.2.1), .ref qO_chosen, .ref qO_lost, .ref qO_zones, .ref qO_way, .ref qO_spent, .ref qO_scaffolds])), aI kI qO_text 120 fO_text, aI kI qO_fresh 66 u.2.2.2.2]) := by
  refine xMi_of (cc := cX10_readClause) (maxL := 5) (rt := .int) (by decide) rfl (Nat.le_of_ble_eq_true rfl) (fun _ _ _ => rfl) ?_
  intro p e s m args below meth c A Q F hin2 hret
  have hin10 : ∀ w ∈ wsX100, w ∈ wsX10_readClause := by decide +kernel
  have hw0 : Cond.fieldLink RX10 202 (TX10 27).1 (TX10 27).2.1 (TX10 27).2.2.1 ∈ wsX10_readClause := by decide +kernel
  have hw1 : Cond.fieldLink RX10 212 (TX10 29).1 (TX10 29).2.1 (TX10 29).2.2.1 ∈ wsX10_readClause := by decide +kernel
  have hw2 : Cond.fieldLink RX10 44 (TX10 17).1 (TX10 17).2.1 (TX10 17).2.2.1 ∈ wsX10_readClause := by decide +kernel
  refine x_lveq (lv' := [(0, .ref qO), (1, .int (jI ci))]) rfl ?_
  refine x_iconst F dX10_readClause_0 ?_
  refine x_istore_n (lv' := [(0, .ref qO), (1, .int (jI ci)), (2, .int (jI 0))]) F dX10_readClause_1 rfl (by decide) [1, 2, 0] rfl ?_
  refine x_iconst F dX10_readClause_2 ?_
  refine x_istore_n (lv' := [(0, .ref qO), (1, .int (jI ci)), (2, .int (jI 0)), (3, .int (jI 1))]) F dX10_readClause_3 rfl (by decide) [1, 2, 3, 0] rfl ?_
  have lp4 : ∀ (fu : Nat) (j : Int) (m9 : Int) (a9 : Int) (pl : Int) (wv : Int) (ev : Int) (fr9 : (Int → Int)) (hj : 0 ≤ j ∧ j ≤ 3) (ha9 : 0 ≤ a9 ∧ a9 ≤ vO_texted) (hpl : pl = vO_faultPlace) (hm9 : (m9 = 1 ∧ skp fO_text vO_texted a9 = clX fO_text vO_texted vO_at j ∧ dG (clT fO_text vO_texted ci vO_at) 100 j < 0) ∨ (m9 = 0 ∧ 1 ≤ j ∧ clJ fO_text vO_texted ci vO_at = j - 1 ∧ tsF fO_text vO_texted ci (j - 1) (clX fO_text vO_texted vO_at (j - 1)) = 0 ∧ a9 = skp fO_text vO_texted (tsE fO_text vO_texted (clX fO_text vO_texted vO_at (j - 1))))) (hct1 : ∀ i : Int, 0 ≤ i → i < j → fr9 ((11 * ci + 2) + 3 * i) = tsN fO_text vO_texted (clX fO_text vO_texted vO_at i) ∧ fr9 ((11 * ci + 2) + 3 * i + 1) = (if tsS fO_text vO_texted (clX fO_text vO_texted vO_at i) = 60 then 0 else 1) ∧ fr9 ((11 * ci + 2) + 3 * i + 2) = tsV fO_text vO_texted (clX fO_text vO_texted vO_at i)) (hfr1 : ∀ k : Int, k < 11 * ci → fr9 k = fO_fresh k) (hfg : Rg fr9 66 (-1) 999) (hf3 : Rg (fun c => fr9 (11 * c)) 6 0 3) (hf4 : Rg (fun c => fr9 (11 * c + 1)) 6 0 2) (hm : 4 - j < (fu : Int)), xG D p l e (xRm 4 105 0 0) s m args below meth c 5 A Q 0 0 [(qO, .inr (10, [.int (jI vO_blocks), .ref qO_stones, .ref qO_laid, .ref qO_deep, .int (jI vO_placings), .ref qO_placed, .int (jI vO_mortars), .ref qO_put, .ref qO_rates, .int (jI vO_limit), .int (jI vO_looks), .ref qO_seen, .ref qO_text, .int (jI vO_texted), .int (jI pl), .int (jI vO_clauses), .ref qO_rule, .ref qO_fresh, .int (jI vO_lots), .ref qO_stocks, .ref qO_row, .ref qO_dangers, .ref qO_losses, .long (jL vO_upper), .long (jL vO_lower), .ref qO_habitUpper, .ref qO_habitLower, .int (jI a9), .long (jL wv), .int (jI ev), .ref qO_chosen, .ref qO_lost, .ref qO_zones, .ref qO_way, .ref qO_spent, .ref qO_scaffolds])), aI kI qO_text 120 fO_text, aI kI qO_fresh 66 fr9] [(0, .ref qO), (1, .int (jI ci)), (2, .int (jI j)), (3, .int (jI m9))] 4 [] := by
    intro fu
    induction fu with
    | zero =>
      intro j m9 a9 pl wv ev fr9 hj ha9 hpl hm9 hct1 hfr1 hfg hf3 hf4 hm
      exact absurd hm (by omega)
    | succ fu ih4 =>
      intro j m9 a9 pl wv ev fr9 hj ha9 hpl hm9 hct1 hfr1 hfg hf3 hf4 hm
      refine x_iload_n F dX10_readClause_4 rfl 3 rfl ?_
      refine x_if_eq (tgt := 123) F dX10_readClause_5 (by decide) (by omega) (fun c5 => ?_) (fun c5 => ?_)
      · -- 5 t
        obtain ⟨hJ1, hJ, hFl, haq⟩ : 1 ≤ j ∧ clJ fO_text vO_texted ci vO_at = j - 1 ∧ tsF fO_text vO_texted ci (j - 1) (clX fO_text vO_texted vO_at (j - 1)) = 0 ∧ a9 = skp fO_text vO_texted (tsE fO_text vO_texted (clX fO_text vO_texted vO_at (j - 1))) := by
          rcases hm9 with q | q
          · exact absurd q.1 (by omega)
          · exact q.2
        have hR := clF_rest hJ hFl
        have hc6 : ci < 6 := by
          by_cases q : ci < 6
          · exact q
          · exact absurd hFl (by unfold tsF; (repeat' split) <;> omega)
        refine x_aload_n F dX10_readClause_123 rfl 0 rfl ?_
        refine x_callVi (ci := 10) (q0 := 0) (As := []) (st := []) F (c_X10_here D kI kJ l qO vO_blocks qO_stones qO_laid qO_deep vO_placings qO_placed vO_mortars qO_put qO_rates vO_limit vO_looks qO_seen qO_text vO_texted pl vO_clauses qO_rule qO_fresh vO_lots qO_stocks qO_row qO_dangers qO_losses vO_upper vO_lower qO_habitUpper qO_habitLower a9 wv ev qO_chosen qO_lost qO_zones qO_way qO_spent qO_scaffolds fO_text hOs hOt (by omega)) (cwV 0 F.2.2.2.2.1 gX10_readClause_X10_here rfl rfl rfl (by decide +kernel) ⟨Nat.le_of_ble_eq_true rfl, Nat.le_of_ble_eq_true rfl⟩) rfl rfl [0, 1] [2] [1, 2, 0] rfl rfl (by decide) (by decide) (by decide) (fun _ => rfl) (by decide) rfl (Nat.le_of_ble_eq_true rfl) dX10_readClause_124 ⟨Nat.le_of_ble_eq_true rfl, Nat.le_of_ble_eq_true rfl⟩ (fun z124 u124 h124 => ?_)
        obtain ⟨a2_124, rfl⟩ : ∃ z, z = u124 := ⟨_, rfl⟩
        try dsimp only at h124
        refine x_ws [(qO, .inr (10, [.int (jI vO_blocks), .ref qO_stones, .ref qO_laid, .ref qO_deep, .int (jI vO_placings), .ref qO_placed, .int (jI vO_mortars), .ref qO_put, .ref qO_rates, .int (jI vO_limit), .int (jI vO_looks), .ref qO_seen, .ref qO_text, .int (jI vO_texted), .int (jI pl), .int (jI vO_clauses), .ref qO_rule, .ref qO_fresh, .int (jI vO_lots), .ref qO_stocks, .ref qO_row, .ref qO_dangers, .ref qO_losses, .long (jL vO_upper), .long (jL vO_lower), .ref qO_habitUpper, .ref qO_habitLower, .int (jI a2_124), .long (jL wv), .int (jI ev), .ref qO_chosen, .ref qO_lost, .ref qO_zones, .ref qO_way, .ref qO_spent, .ref qO_scaffolds])), aI kI qO_text 120 fO_text, aI kI qO_fresh 66 fr9] rfl ?_
        obtain ⟨he124, ha_124⟩ := h124
        have he124 := he124.symm
        subst he124
        have hq0 : a2_124 = clQ fO_text vO_texted ci vO_at := by rw [hR.1, ha_124, haq, skp_skp]
        have hsr124 := skp_rng (tx := fO_text) (sz := vO_texted) (i := a9) ha9
        rw [← ha_124] at hsr124
        have hcr124 := cha_rng (i := a2_124) hOt hOs.2 (by omega)
        have hz124 : ¬ a2_124 < vO_texted → cha fO_text vO_texted a2_124 = -1 := fun q => by unfold cha; rw [if_neg q]
        refine x_bipush F dX10_readClause_127 (by decide) ?_
        refine x_icmp_eq (tgt := 142) F dX10_readClause_129 (by decide) (by omega) (fun c129 => ?_) (fun c129 => ?_)
        · -- 129 t
          refine x_aload_n F dX10_readClause_142 rfl 0 rfl ?_
          refine x_dup F dX10_readClause_143 rfl ?_
          refine x_get (ci := 10) F hin10 0 rfl rfl 27 (by decide) hw0 rfl dX10_readClause_144 ?_
          refine x_iconst F dX10_readClause_147 ?_
          refine x_iadd F dX10_readClause_148 ?_
          refine x_put (ci := 10) F hin10 tyX10_ok nmX10 0 rfl rfl 27 (by decide) hw0 rfl rfl rfl (show 27 + 1 ≤ _ from Nat.le_of_ble_eq_true rfl) dX10_readClause_149 [(qO, .inr (10, [.int (jI vO_blocks), .ref qO_stones, .ref qO_laid, .ref qO_deep, .int (jI vO_placings), .ref qO_placed, .int (jI vO_mortars), .ref qO_put, .ref qO_rates, .int (jI vO_limit), .int (jI vO_looks), .ref qO_seen, .ref qO_text, .int (jI vO_texted), .int (jI pl), .int (jI vO_clauses), .ref qO_rule, .ref qO_fresh, .int (jI vO_lots), .ref qO_stocks, .ref qO_row, .ref qO_dangers, .ref qO_losses, .long (jL vO_upper), .long (jL vO_lower), .ref qO_habitUpper, .ref qO_habitLower, .int (jI (a2_124 + 1)), .long (jL wv), .int (jI ev), .ref qO_chosen, .ref qO_lost, .ref qO_zones, .ref qO_way, .ref qO_spent, .ref qO_scaffolds])), aI kI qO_text 120 fO_text, aI kI qO_fresh 66 fr9] rfl ?_
          refine x_aload_n F dX10_readClause_152 rfl 0 rfl ?_
          refine x_callVv (ci := 10) (q0 := 0) (As := []) (st := []) F (c_X10_readWord D kI kJ l qO vO_blocks qO_stones qO_laid qO_deep vO_placings qO_placed vO_mortars qO_put qO_rates vO_limit vO_looks qO_seen qO_text vO_texted pl vO_clauses qO_rule qO_fresh vO_lots qO_stocks qO_row qO_dangers qO_losses vO_upper vO_lower qO_habitUpper qO_habitLower (a2_124 + 1) wv ev qO_chosen qO_lost qO_zones qO_way qO_spent qO_scaffolds fO_text hOs hOt (by omega)) (cwV 0 F.2.2.2.2.1 gX10_readClause_X10_readWord rfl rfl rfl (by decide +kernel) ⟨Nat.le_of_ble_eq_true rfl, Nat.le_of_ble_eq_true rfl⟩) rfl rfl [0, 1] [2] [1, 2, 0] rfl rfl (by decide) (by decide) (by decide) (fun _ => rfl) (by decide) rfl (Nat.le_of_ble_eq_true rfl) dX10_readClause_153 ⟨Nat.le_of_ble_eq_true rfl, Nat.le_of_ble_eq_true rfl⟩ (fun u153 h153 => ?_)
          obtain ⟨w2_153, e2_153, a2_153⟩ := u153
          try dsimp only at h153
          refine x_ws [(qO, .inr (10, [.int (jI vO_blocks), .ref qO_stones, .ref qO_laid, .ref qO_deep, .int (jI vO_placings), .ref qO_placed, .int (jI vO_mortars), .ref qO_put, .ref qO_rates, .int (jI vO_limit), .int (jI vO_looks), .ref qO_seen, .ref qO_text, .int (jI vO_texted), .int (jI pl), .int (jI vO_clauses), .ref qO_rule, .ref qO_fresh, .int (jI vO_lots), .ref qO_stocks, .ref qO_row, .ref qO_dangers, .ref qO_losses, .long (jL vO_upper), .long (jL vO_lower), .ref qO_habitUpper, .ref qO_habitLower, .int (jI a2_153), .long (jL w2_153), .int (jI e2_153), .ref qO_chosen, .ref qO_lost, .ref qO_zones, .ref qO_way, .ref qO_spent, .ref qO_scaffolds])), aI kI qO_text 120 fO_text, aI kI qO_fresh 66 fr9] rfl ?_
          obtain ⟨ha_153, he_153, hw_153, hwq_153⟩ := h153
          have hww0 : a2_153 = clW fO_text vO_texted ci vO_at := by unfold clW; rw [← hq0]; exact ha_153
          have hsr153 := skp_rng (tx := fO_text) (sz := vO_texted) (i := a2_124 + 1) (by omega)
          rw [← ha_153] at hsr153
          have hwr153 := wde_rng (tx := fO_text) (sz := vO_texted) (i := a2_153) (by omega)
          rw [← he_153] at hwr153
          refine x_aload_n F dX10_readClause_156 rfl 0 rfl ?_
          refine x_callVi (ci := 10) (q0 := 0) (As := []) (st := []) F (c_X10_actOf D kI kJ l qO vO_blocks qO_stones qO_laid qO_deep vO_placings qO_placed vO_mortars qO_put qO_rates vO_limit vO_looks qO_seen qO_text vO_texted pl vO_clauses qO_rule qO_fresh vO_lots qO_stocks qO_row qO_dangers qO_losses vO_upper vO_lower qO_habitUpper qO_habitLower a2_153 w2_153 e2_153 qO_chosen qO_lost qO_zones qO_way qO_spent qO_scaffolds (by omega)) (cwV 0 F.2.2.2.2.1 gX10_readClause_X10_actOf rfl rfl rfl (by decide +kernel) ⟨Nat.le_of_ble_eq_true rfl, Nat.le_of_ble_eq_true rfl⟩) rfl rfl [0] [1, 2] [2, 0, 1] rfl rfl (by decide) (by decide) (by decide) (fun _ => rfl) (by decide) rfl (Nat.le_of_ble_eq_true rfl) dX10_readClause_157 ⟨Nat.le_of_ble_eq_true rfl, Nat.le_of_ble_eq_true rfl⟩ (fun z157 u157 h157 => ?_)
          try dsimp only at h157
          refine x_ws [(qO, .inr (10, [.int (jI vO_blocks), .ref qO_stones, .ref qO_laid, .ref qO_deep, .int (jI vO_placings), .ref qO_placed, .int (jI vO_mortars), .ref qO_put, .ref qO_rates, .int (jI vO_limit), .int (jI vO_looks), .ref qO_seen, .ref qO_text, .int (jI vO_texted), .int (jI pl), .int (jI vO_clauses), .ref qO_rule, .ref qO_fresh, .int (jI vO_lots), .ref qO_stocks, .ref qO_row, .ref qO_dangers, .ref qO_losses, .long (jL vO_upper), .long (jL vO_lower), .ref qO_habitUpper, .ref qO_habitLower, .int (jI a2_153), .long (jL w2_153), .int (jI e2_153), .ref qO_chosen, .ref qO_lost, .ref qO_zones, .ref qO_way, .ref qO_spent, .ref qO_scaffolds])), aI kI qO_text 120 fO_text, aI kI qO_fresh 66 fr9] rfl ?_
          have he157 := h157
          have he157 := he157.symm
          subst he157
          have hnr := acW_rng w2_153
          have hb0 : acW w2_153 = clB fO_text vO_texted ci vO_at := by unfold clB; rw [← hww0]; exact acW_at he_153 hw_153
          refine x_istore (lv' := [(0, .ref qO), (1, .int (jI ci)), (2, .int (jI j)), (3, .int (jI m9)), (4, .int (jI (acW w2_153)))]) F dX10_readClause_160 (by decide) [1, 2, 3, 4, 0] rfl ?_
          refine x_iload F dX10_readClause_162 4 rfl ?_
          refine x_if_ge (tgt := 177) F dX10_readClause_164 (by decide) (by omega) (fun c164 => ?_) (fun c164 => ?_)
          · -- 164 t
            refine x_aload_n F dX10_readClause_177 rfl 0 rfl ?_
            refine x_aload_n F dX10_readClause_178 rfl 0 rfl ?_
            refine x_get (ci := 10) F hin10 0 rfl rfl 29 (by decide) hw1 rfl dX10_readClause_179 ?_
            refine x_put (ci := 10) F hin10 tyX10_ok nmX10 0 rfl rfl 27 (by decide) hw0 rfl rfl rfl (show 27 + 1 ≤ _ from Nat.le_of_ble_eq_true rfl) dX10_readClause_182 [(qO, .inr (10, [.int (jI vO_blocks), .ref qO_stones, .ref qO_laid, .ref qO_deep, .int (jI vO_placings), .ref qO_placed, .int (jI vO_mortars), .ref qO_put, .ref qO_rates, .int (jI vO_limit), .int (jI vO_looks), .ref qO_seen, .ref qO_text, .int (jI vO_texted), .int (jI pl), .int (jI vO_clauses), .ref qO_rule, .ref qO_fresh, .int (jI vO_lots), .ref qO_stocks, .ref qO_row, .ref qO_dangers, .ref qO_losses, .long (jL vO_upper), .long (jL vO_lower), .ref qO_habitUpper, .ref qO_habitLower, .int (jI e2_153), .long (jL w2_153), .int (jI e2_153), .ref qO_chosen, .ref qO_lost, .ref qO_zones, .ref qO_way, .ref qO_spent, .ref qO_scaffolds])), aI kI qO_text 120 fO_text, aI kI qO_fresh 66 fr9] rfl ?_
            refine x_aload_n F dX10_readClause_185 rfl 0 rfl ?_
            refine x_callVi (ci := 10) (q0 := 0) (As := []) (st := []) F (c_X10_here D kI kJ l qO vO_blocks qO_stones qO_laid qO_deep vO_placings qO_placed vO_mortars qO_put qO_rates vO_limit vO_looks qO_seen qO_text vO_texted pl vO_clauses qO_rule qO_fresh vO_lots qO_stocks qO_row qO_dangers qO_losses vO_upper vO_lower qO_habitUpper qO_habitLower e2_153 w2_153 e2_153 qO_chosen qO_lost qO_zones qO_way qO_spent qO_scaffolds fO_text hOs hOt (by omega)) (cwV 0 F.2.2.2.2.1 gX10_readClause_X10_here rfl rfl rfl (by decide +kernel) ⟨Nat.le_of_ble_eq_true rfl, Nat.le_of_ble_eq_true rfl⟩) rfl rfl [0, 1] [2] [1, 2, 0] rfl rfl (by decide) (by decide) (by decide) (fun _ => rfl) (by decide) rfl (Nat.le_of_ble_eq_true rfl) dX10_readClause_186 ⟨Nat.le_of_ble_eq_true rfl, Nat.le_of_ble_eq_true rfl⟩ (fun z186 u186 h186 => ?_)
            obtain ⟨a2_186, rfl⟩ : ∃ z, z = u186 := ⟨_, rfl⟩
            try dsimp only at h186
            refine x_ws [(qO, .inr (10, [.int (jI vO_blocks), .ref qO_stones, .ref qO_laid, .ref qO_deep, .int (jI vO_placings), .ref qO_placed, .int (jI vO_mortars), .ref qO_put, .ref qO_rates, .int (jI vO_limit), .int (jI vO_looks), .ref qO_seen, .ref qO_text, .int (jI vO_texted), .int (jI pl), .int (jI vO_clauses), .ref qO_rule, .ref qO_fresh, .int (jI vO_lots), .ref qO_stocks, .ref qO_row, .ref qO_dangers, .ref qO_losses, .long (jL vO_upper), .long (jL vO_lower), .ref qO_habitUpper, .ref qO_habitLower, .int (jI a2_186), .long (jL w2_153), .int (jI e2_153), .ref qO_chosen, .ref qO_lost, .ref qO_zones, .ref qO_way, .ref qO_spent, .ref qO_scaffolds])), aI kI qO_text 120 fO_text, aI kI qO_fresh 66 fr9] rfl ?_
            obtain ⟨he186, ha_186⟩ := h186
            have he186 := he186.symm
            subst he186
            have hz0 : a2_186 = clZ fO_text vO_texted ci vO_at := by unfold clZ; rw [← hww0, ← he_153]; exact ha_186
            have hsr186 := skp_rng (tx := fO_text) (sz := vO_texted) (i := e2_153) (by omega)
            rw [← ha_186] at hsr186
            have hcr186 := cha_rng (i := a2_186) hOt hOs.2 (by omega)
            have hz186 : ¬ a2_186 < vO_texted → cha fO_text vO_texted a2_186 = -1 := fun q => by unfold cha; rw [if_neg q]
            refine x_bipush F dX10_readClause_189 (by decide) ?_
            refine x_icmp_eq (tgt := 204) F dX10_readClause_191 (by decide) (by omega) (fun c191 => ?_) (fun c191 => ?_)
            · -- 191 t
              refine x_aload_n F dX10_readClause_204 rfl 0 rfl ?_
              refine x_dup F dX10_readClause_205 rfl ?_
              refine x_get (ci := 10) F hin10 0 rfl rfl 27 (by decide) hw0 rfl dX10_readClause_206 ?_
              refine x_iconst F dX10_readClause_209 ?_
              refine x_iadd F dX10_readClause_210 ?_
              refine x_put (ci := 10) F hin10 tyX10_ok nmX10 0 rfl rfl 27 (by decide) hw0 rfl rfl rfl (show 27 + 1 ≤ _ from Nat.le_of_ble_eq_true rfl) dX10_readClause_211 [(qO, .inr (10, [.int (jI vO_blocks), .ref qO_stones, .ref qO_laid, .ref qO_deep, .int (jI vO_placings), .ref qO_placed, .int (jI vO_mortars), .ref qO_put, .ref qO_rates, .int (jI vO_limit), .int (jI vO_looks), .ref qO_seen, .ref qO_text, .int (jI vO_texted), .int (jI pl), .int (jI vO_clauses), .ref qO_rule, .ref qO_fresh, .int (jI vO_lots), .ref qO_stocks, .ref qO_row, .ref qO_dangers, .ref qO_losses, .long (jL vO_upper), .long (jL vO_lower), .ref qO_habitUpper, .ref qO_habitLower, .int (jI (a2_186 + 1)), .long (jL w2_153), .int (jI e2_153), .ref qO_chosen, .ref qO_lost, .ref qO_zones, .ref qO_way, .ref qO_spent, .ref qO_scaffolds])), aI kI qO_text 120 fO_text, aI kI qO_fresh 66 fr9] rfl ?_
              refine x_aload_n F dX10_readClause_214 rfl 0 rfl ?_
              refine x_get (ci := 10) F hin10 0 rfl rfl 17 (by decide) hw2 rfl dX10_readClause_215 ?_
              refine x_bipush F dX10_readClause_218 (by decide) ?_
              refine x_iload_n F dX10_readClause_220 rfl 1 rfl ?_
              refine x_imul F dX10_readClause_221 ?_
              refine x_iload_n F dX10_readClause_222 rfl 2 rfl ?_
              refine x_iast F 2 rfl (by decide) (by omega) dX10_readClause_223 [(qO, .inr (10, [.int (jI vO_blocks), .ref qO_stones, .ref qO_laid, .ref qO_deep, .int (jI vO_placings), .ref qO_placed, .int (jI vO_mortars), .ref qO_put, .ref qO_rates, .int (jI vO_limit), .int (jI vO_looks), .ref qO_seen, .ref qO_text, .int (jI vO_texted), .int (jI pl), .int (jI vO_clauses), .ref qO_rule, .ref qO_fresh, .int (jI vO_lots), .ref qO_stocks, .ref qO_row, .ref qO_dangers, .ref qO_losses, .long (jL vO_upper), .long (jL vO_lower), .ref qO_habitUpper, .ref qO_habitLower, .int (jI (a2_186 + 1)), .long (jL w2_153), .int (jI e2_153), .ref qO_chosen, .ref qO_lost, .ref qO_zones, .ref qO_way, .ref qO_spent, .ref qO_scaffolds])), aI kI qO_text 120 fO_text, aI kI qO_fresh 66 (iU fr9 (11 * ci) j)] rfl ?_
              have hg223 := Rg.up hfg (11 * ci) j (by omega)
              refine x_aload_n F dX10_readClause_224 rfl 0 rfl ?_
              refine x_get (ci := 10) F hin10 0 rfl rfl 17 (by decide) hw2 rfl dX10_readClause_225 ?_
              refine x_bipush F dX10_readClause_228 (by decide) ?_
              refine x_iload_n F dX10_readClause_230 rfl 1 rfl ?_
              refine x_imul F dX10_readClause_231 ?_
              refine x_iconst F dX10_readClause_232 ?_
              refine x_iadd F dX10_readClause_233 ?_
              refine x_iload F dX10_readClause_234 4 rfl ?_
              refine x_iast F 2 rfl (by decide) (by omega) dX10_readClause_236 [(qO, .inr (10, [.int (jI vO_blocks), .ref qO_stones, .ref qO_laid, .ref qO_deep, .int (jI vO_placings), .ref qO_placed, .int (jI vO_mortars), .ref qO_put, .ref qO_rates, .int (jI vO_limit), .int (jI vO_looks), .ref qO_seen, .ref qO_text, .int (jI vO_texted), .int (jI pl), .int (jI vO_clauses), .ref qO_rule, .ref qO_fresh, .int (jI vO_lots), .ref qO_stocks, .ref qO_row, .ref qO_dangers, .ref qO_losses, .long (jL vO_upper), .long (jL vO_lower), .ref qO_habitUpper, .ref qO_habitLower, .int (jI (a2_186 + 1)), .long (jL w2_153), .int (jI e2_153), .ref qO_chosen, .ref qO_lost, .ref qO_zones, .ref qO_way, .ref qO_spent, .ref qO_scaffolds])), aI kI qO_text 120 fO_text, aI kI qO_fresh 66 (iU (iU fr9 (11 * ci) j) ((11 * ci) + 1) (acW w2_153))] rfl ?_
              have hg236 := Rg.up hg223 ((11 * ci) + 1) (acW w2_153) (by omega)
              refine x_iconst F dX10_readClause_237 ?_
              have hF : clF fO_text vO_texted ci vO_at = 0 := hR.2.1.trans (by rw [← hq0, ← hb0, ← hz0, if_neg (by omega), if_neg (by omega)]; exact if_neg (by omega))
              have hf33 : Rg (fun c => (iU (iU fr9 (11 * ci) j) (11 * ci + 1) (acW w2_153)) (11 * c)) 6 0 3 := fun k k0 k1 => by
                show 0 ≤ (iU (iU fr9 (11 * ci) j) (11 * ci + 1) (acW w2_153)) (11 * k) ∧ (iU (iU fr9 (11 * ci) j) (11 * ci + 1) (acW w2_153)) (11 * k) ≤ 3
                rw [iU_n (by omega)]
                by_cases e9 : k = ci
                · rw [e9, iU_s]; omega
                · rw [iU_n (by omega)]; exact hf3 k k0 k1
              have hf43 : Rg (fun c => (iU (iU fr9 (11 * ci) j) (11 * ci + 1) (acW w2_153)) (11 * c + 1)) 6 0 2 := fun k k0 k1 => by
                show 0 ≤ (iU (iU fr9 (11 * ci) j) (11 * ci + 1) (acW w2_153)) (11 * k + 1) ∧ (iU (iU fr9 (11 * ci) j) (11 * ci + 1) (acW w2_153)) (11 * k + 1) ≤ 2
                by_cases e9 : k = ci
                · rw [e9, iU_s]; omega
                · rw [iU_n (by omega), iU_n (by omega)]; exact hf4 k k0 k1
              exact hret 0 0 238 _ 0 (pl, (a2_186 + 1), w2_153, e2_153, iU (iU fr9 (11 * ci) j) ((11 * ci) + 1) (acW w2_153)) (Nat.le_of_ble_eq_true rfl) (Nat.le_of_ble_eq_true rfl) dX10_readClause_238 (by (try dsimp only); exact (⟨hF.symm, fun _ => ⟨⟨⟨hpl, by rw [← hz0]⟩, hc6, by omega, by omega⟩, by rw [iU_n (by omega), iU_s]; omega, ⟨by rw [iU_s]; exact hb0, by omega, by omega⟩, fun i i0 i1 => by rw [iU_n (by omega), iU_n (by omega), iU_n (by omega), iU_n (by omega), iU_n (by omega), iU_n (by omega)]; exact hct1 i i0 (by omega)⟩, fun q => absurd hF q, fun k q => by rw [iU_n (by omega), iU_n (by omega)]; exact hfr1 k q, by omega, hg236, hf33, hf43⟩))
            · -- 191 f
              refine x_aload_n F dX10_readClause_194 rfl 0 rfl ?_
              refine x_iconst F dX10_readClause_195 ?_
              refine x_aload_n F dX10_readClause_196 rfl 0 rfl ?_
              refine x_get (ci := 10) F hin10 0 rfl rfl 27 (by decide) hw0 rfl dX10_readClause_197 ?_
              refine x_callVi (ci := 10) (q0 := 0) (As := [.int (jI 1), .int (jI a2_186)]) (st := []) F (c_X10_fails D kI kJ l qO 1 a2_186 vO_blocks qO_stones qO_laid qO_deep vO_placings qO_placed vO_mortars qO_put qO_rates vO_limit vO_looks qO_seen qO_text vO_texted pl vO_clauses qO_rule qO_fresh vO_lots qO_stocks qO_row qO_dangers qO_losses vO_upper vO_lower qO_habitUpper qO_habitLower a2_186 w2_153 e2_153 qO_chosen qO_lost qO_zones qO_way qO_spent qO_scaffolds ) (cwV 2 F.2.2.2.2.1 gX10_readClause_X10_fails rfl rfl rfl (by decide +kernel) ⟨Nat.le_of_ble_eq_true rfl, Nat.le_of_ble_eq_true rfl⟩) rfl rfl [0] [1, 2] [2, 0, 1] rfl rfl (by decide) (by decide) (by decide) (fun _ => rfl) (by decide) rfl (Nat.le_of_ble_eq_true rfl) dX10_readClause_200 ⟨Nat.le_of_ble_eq_true rfl, Nat.le_of_ble_eq_true rfl⟩ (fun z200 u200 h200 => ?_)
              try dsimp only at h200
              refine x_ws [(qO, .inr (10, [.int (jI vO_blocks), .ref qO_stones, .ref qO_laid, .ref qO_deep, .int (jI vO_placings), .ref qO_placed, .int (jI vO_mortars), .ref qO_put, .ref qO_rates, .int (jI vO_limit), .int (jI vO_looks), .ref qO_seen, .ref qO_text, .int (jI vO_texted), .int (jI a2_186), .int (jI vO_clauses), .ref qO_rule, .ref qO_fresh, .int (jI vO_lots), .ref qO_stocks, .ref qO_row, .ref qO_dangers, .ref qO_losses, .long (jL vO_upper), .long (jL vO_lower), .ref qO_habitUpper, .ref qO_habitLower, .int (jI a2_186), .long (jL w2_153), .int (jI e2_153), .ref qO_chosen, .ref qO_lost, .ref qO_zones, .ref qO_way, .ref qO_spent, .ref qO_scaffolds])), aI kI qO_text 120 fO_text, aI kI qO_fresh 66 fr9] rfl ?_
              have he200 := h200
              have he200 := he200.symm
              subst he200
              have hF : clF fO_text vO_texted ci vO_at = 1 := hR.2.1.trans (by rw [← hq0, ← hb0, ← hz0, if_neg (by omega), if_neg (by omega)]; exact if_pos (by omega))
              have hA : clA fO_text vO_texted ci vO_at = a2_186 := hR.2.2.trans (by rw [← hq0, ← hb0, ← hz0, if_neg (by omega), if_neg (by omega)])
              exact hret 0 0 203 _ 1 (a2_186, a2_186, w2_153, e2_153, fr9) (Nat.le_of_ble_eq_true rfl) (Nat.le_of_ble_eq_true rfl) dX10_readClause_203 (by (try dsimp only); exact (⟨hF.symm, fun q => absurd (hF.symm.trans q) (by omega), fun _ => hA.symm, hfr1, by omega, hfg, hf3, hf4⟩))
          · -- 164 f
            refine x_aload_n F dX10_readClause_167 rfl 0 rfl ?_
            refine x_iconst F dX10_readClause_168 ?_
            refine x_aload_n F dX10_readClause_169 rfl 0 rfl ?_
            refine x_get (ci := 10) F hin10 0 rfl rfl 27 (by decide) hw0 rfl dX10_readClause_170 ?_
            refine x_callVi (ci := 10) (q0 := 0) (As := [.int (jI 1), .int (jI a2_153)]) (st := []) F (c_X10_fails D kI kJ l qO 1 a2_153 vO_blocks qO_stones qO_laid qO_deep vO_placings qO_placed vO_mortars qO_put qO_rates vO_limit vO_looks qO_seen qO_text vO_texted pl vO_clauses qO_rule qO_fresh vO_lots qO_stocks qO_row qO_dangers qO_losses vO_upper vO_lower qO_habitUpper qO_habitLower a2_153 w2_153 e2_153 qO_chosen qO_lost qO_zones qO_way qO_spent qO_scaffolds ) (cwV 2 F.2.2.2.2.1 gX10_readClause_X10_fails rfl rfl rfl (by decide +kernel) ⟨Nat.le_of_ble_eq_true rfl, Nat.le_of_ble_eq_true rfl⟩) rfl rfl [0] [1, 2] [2, 0, 1] rfl rfl (by decide) (by decide) (by decide) (fun _ => rfl) (by decide) rfl (Nat.le_of_ble_eq_true rfl) dX10_readClause_173 ⟨Nat.le_of_ble_eq_true rfl, Nat.le_of_ble_eq_true rfl⟩ (fun z173 u173 h173 => ?_)
            try dsimp only at h173
            refine x_ws [(qO, .inr (10, [.int (jI vO_blocks), .ref qO_stones, .ref qO_laid, .ref qO_deep, .int (jI vO_placings), .ref qO_placed, .int (jI vO_mortars), .ref qO_put, .ref qO_rates, .int (jI vO_limit), .int (jI vO_looks), .ref qO_seen, .ref qO_text, .int (jI vO_texted), .int (jI a2_153), .int (jI vO_clauses), .ref qO_rule, .ref qO_fresh, .int (jI vO_lots), .ref qO_stocks, .ref qO_row, .ref qO_dangers, .ref qO_losses, .long (jL vO_upper), .long (jL vO_lower), .ref qO_habitUpper, .ref qO_habitLower, .int (jI a2_153), .long (jL w2_153), .int (jI e2_153), .ref qO_chosen, .ref qO_lost, .ref qO_zones, .ref qO_way, .ref qO_spent, .ref qO_scaffolds])), aI kI qO_text 120 fO_text, aI kI qO_fresh 66 fr9] rfl ?_
            have he173 := h173
            have he173 := he173.symm
            subst he173
            have hF : clF fO_text vO_texted ci vO_at = 1 := hR.2.1.trans (by rw [← hq0, ← hb0, if_neg (by omega)]; exact if_pos (by omega))
            have hA : clA fO_text vO_texted ci vO_at = a2_153 := hR.2.2.trans (by rw [← hq0, ← hb0, ← hww0, if_neg (by omega)]; exact if_pos (by omega))
            exact hret 0 0 176 _ 1 (a2_153, a2_153, w2_153, e2_153, fr9) (Nat.le_of_ble_eq_true rfl) (Nat.le_of_ble_eq_true rfl) dX10_readClause_176 (by (try dsimp only); exact (⟨hF.symm, fun q => absurd (hF.symm.trans q) (by omega), fun _ => hA.symm, hfr1, by omega, hfg, hf3, hf4⟩))
        · -- 129 f
          refine x_aload_n F dX10_readClause_132 rfl 0 rfl ?_
          refine x_iconst F dX10_readClause_133 ?_
          refine x_aload_n F dX10_readClause_134 rfl 0 rfl ?_
          refine x_get (ci := 10) F hin10 0 rfl rfl 27 (by decide) hw0 rfl dX10_readClause_135 ?_
          refine x_callVi (ci := 10) (q0 := 0) (As := [.int (jI 1), .int (jI a2_124)]) (st := []) F (c_X10_fails D kI kJ l qO 1 a2_124 vO_blocks qO_stones qO_laid qO_deep vO_placings qO_placed vO_mortars qO_put qO_rates vO_limit vO_looks qO_seen qO_text vO_texted pl vO_clauses qO_rule qO_fresh vO_lots qO_stocks qO_row qO_dangers qO_losses vO_upper vO_lower qO_habitUpper qO_habitLower a2_124 wv ev qO_chosen qO_lost qO_zones qO_way qO_spent qO_scaffolds ) (cwV 2 F.2.2.2.2.1 gX10_readClause_X10_fails rfl rfl rfl (by decide +kernel) ⟨Nat.le_of_ble_eq_true rfl, Nat.le_of_ble_eq_true rfl⟩) rfl rfl [0] [1, 2] [2, 0, 1] rfl rfl (by decide) (by decide) (by decide) (fun _ => rfl) (by decide) rfl (Nat.le_of_ble_eq_true rfl) dX10_readClause_138 ⟨Nat.le_of_ble_eq_true rfl, Nat.le_of_ble_eq_true rfl⟩ (fun z138 u138 h138 => ?_)
          try dsimp only at h138
          refine x_ws [(qO, .inr (10, [.int (jI vO_blocks), .ref qO_stones, .ref qO_laid, .ref qO_deep, .int (jI vO_placings), .ref qO_placed, .int (jI vO_mortars), .ref qO_put, .ref qO_rates, .int (jI vO_limit), .int (jI vO_looks), .ref qO_seen, .ref qO_text, .int (jI vO_texted), .int (jI a2_124), .int (jI vO_clauses), .ref qO_rule, .ref qO_fresh, .int (jI vO_lots), .ref qO_stocks, .ref qO_row, .ref qO_dangers, .ref qO_losses, .long (jL vO_upper), .long (jL vO_lower), .ref qO_habitUpper, .ref qO_habitLower, .int (jI a2_124), .long (jL wv), .int (jI ev), .ref qO_chosen, .ref qO_lost, .ref qO_zones, .ref qO_way, .ref qO_spent, .ref qO_scaffolds])), aI kI qO_text 120 fO_text, aI kI qO_fresh 66 fr9] rfl ?_
          have he138 := h138
          have he138 := he138.symm
          subst he138
          have hF : clF fO_text vO_texted ci vO_at = 1 := hR.2.1.trans (by rw [← hq0]; exact if_pos (by omega))
          have hA : clA fO_text vO_texted ci vO_at = a2_124 := hR.2.2.trans (by rw [← hq0]; exact if_pos (by omega))
          exact hret 0 0 141 _ 1 (a2_124, a2_124, wv, ev, fr9) (Nat.le_of_ble_eq_true rfl) (Nat.le_of_ble_eq_true rfl) dX10_readClause_141 (by (try dsimp only); exact (⟨hF.symm, fun q => absurd (hF.symm.trans q) (by omega), fun _ => hA.symm, hfr1, by omega, hfg, hf3, hf4⟩))
      · -- 5 f
        obtain ⟨hsx, hdj⟩ : skp fO_text vO_texted a9 = clX fO_text vO_texted vO_at j ∧ dG (clT fO_text vO_texted ci vO_at) 100 j < 0 := by
          rcases hm9 with q | q
          · exact q.2
          · exact absurd q.1 (by omega)
        refine x_aload_n F dX10_readClause_8 rfl 0 rfl ?_
        refine x_callVv (ci := 10) (q0 := 0) (As := []) (st := []) F (c_X10_readWord D kI kJ l qO vO_blocks qO_stones qO_laid qO_deep vO_placings qO_placed vO_mortars qO_put qO_rates vO_limit vO_looks qO_seen qO_text vO_texted pl vO_clauses qO_rule qO_fresh vO_lots qO_stocks qO_row qO_dangers qO_losses vO_upper vO_lower qO_habitUpper qO_habitLower a9 wv ev qO_chosen qO_lost qO_zones qO_way qO_spent qO_scaffolds fO_text hOs hOt (by omega)) (cwV 0 F.2.2.2.2.1 gX10_readClause_X10_readWord rfl rfl rfl (by decide +kernel) ⟨Nat.le_of_ble_eq_true rfl, Nat.le_of_ble_eq_true rfl⟩) rfl rfl [0, 1] [2] [1, 2, 0] rfl rfl (by decide) (by decide) (by decide) (fun _ => rfl) (by decide) rfl (Nat.le_of_ble_eq_true rfl) dX10_readClause_9 ⟨Nat.le_of_ble_eq_true rfl, Nat.le_of_ble_eq_true rfl⟩ (fun u9 h9 => ?_)
        obtain ⟨w2_9, e2_9, a2_9⟩ := u9
        try dsimp only at h9
        refine x_ws [(qO, .inr (10, [.int (jI vO_blocks), .ref qO_stones, .ref qO_laid, .ref qO_deep, .int (jI vO_placings), .ref qO_placed, .int (jI vO_mortars), .ref qO_put, .ref qO_rates, .int (jI vO_limit), .int (jI vO_looks), .ref qO_seen, .ref qO_text, .int (jI vO_texted), .int (jI pl), .int (jI vO_clauses), .ref qO_rule, .ref qO_fresh, .int (jI vO_lots), .ref qO_stocks, .ref qO_row, .ref qO_dangers, .ref qO_losses, .long (jL vO_upper), .long (jL vO_lower), .ref qO_habitUpper, .ref qO_habitLower, .int (jI a2_9), .long (jL w2_9), .int (jI e2_9), .ref qO_chosen, .ref qO_lost, .ref qO_zones, .ref qO_way, .ref qO_spent, .ref qO_scaffolds])), aI kI qO_text 120 fO_text, aI kI qO_fresh 66 fr9] rfl ?_
        obtain ⟨ha_9, he_9, hw_9, hwq_9⟩ := h9
        have hsr9 := skp_rng (tx := fO_text) (sz := vO_texted) (i := a9) ha9
        rw [← ha_9] at hsr9
        refine x_aload_n F dX10_readClause_12 rfl 0 rfl ?_
        refine x_callVi (ci := 10) (q0 := 0) (As := []) (st := []) F (c_X10_nameOf D kI kJ l qO vO_blocks qO_stones qO_laid qO_deep vO_placings qO_placed vO_mortars qO_put qO_rates vO_limit vO_looks qO_seen qO_text vO_texted pl vO_clauses qO_rule qO_fresh vO_lots qO_stocks qO_row qO_dangers qO_losses vO_upper vO_lower qO_habitUpper qO_habitLower a2_9 w2_9 e2_9 qO_chosen qO_lost qO_zones qO_way qO_spent qO_scaffolds (by omega)) (cwV 0 F.2.2.2.2.1 gX10_readClause_X10_nameOf rfl rfl rfl (by decide +kernel) ⟨Nat.le_of_ble_eq_true rfl, Nat.le_of_ble_eq_true rfl⟩) rfl rfl [0] [1, 2] [2, 0, 1] rfl rfl (by decide) (by decide) (by decide) (fun _ => rfl) (by decide) rfl (Nat.le_of_ble_eq_true rfl) dX10_readClause_13 ⟨Nat.le_of_ble_eq_true rfl, Nat.le_of_ble_eq_true rfl⟩ (fun z13 u13 h13 => ?_)
        try dsimp only at h13
        refine x_ws [(qO, .inr (10, [.int (jI vO_blocks), .ref qO_stones, .ref qO_laid, .ref qO_deep, .int (jI vO_placings), .ref qO_placed, .int (jI vO_mortars), .ref qO_put, .ref qO_rates, .int (jI vO_limit), .int (jI vO_looks), .ref qO_seen, .ref qO_text, .int (jI vO_texted), .int (jI pl), .int (jI vO_clauses), .ref qO_rule, .ref qO_fresh, .int (jI vO_lots), .ref qO_stocks, .ref qO_row, .ref qO_dangers, .ref qO_losses, .long (jL vO_upper), .long (jL vO_lower), .ref qO_habitUpper, .ref qO_habitLower, .int (jI a2_9), .long (jL w2_9), .int (jI e2_9), .ref qO_chosen, .ref qO_lost, .ref qO_zones, .ref qO_way, .ref qO_spent, .ref qO_scaffolds])), aI kI qO_text 120 fO_text, aI kI qO_fresh 66 fr9] rfl ?_
        have he13 := h13
        have he13 := he13.symm
        subst he13
        have hnr := nmW_rng w2_9
        have hnm := nmW_at he_9 hw_9
        refine x_if_ge (tgt := 29) F dX10_readClause_16 (by decide) (by omega) (fun c16 => ?_) (fun c16 => ?_)
        · -- 16 t
          refine x_iload_n F dX10_readClause_29 rfl 1 rfl ?_
          refine x_bipush F dX10_readClause_30 (by decide) ?_
          refine x_icmp_ne (tgt := 45) F dX10_readClause_32 (by decide) (by omega) (fun c32 => ?_) (fun c32 => ?_)
          · -- 32 t
            refine x_iload_n F dX10_readClause_45 rfl 2 rfl ?_
            refine x_iconst F dX10_readClause_46 ?_
            refine x_icmp_ne (tgt := 60) F dX10_readClause_47 (by decide) (by omega) (fun c47 => ?_) (fun c47 => ?_)
            · -- 47 t
              refine x_aload_n F dX10_readClause_60 rfl 0 rfl ?_
              refine x_bipush F dX10_readClause_61 (by decide) ?_
              refine x_iload_n F dX10_readClause_63 rfl 1 rfl ?_
              refine x_imul F dX10_readClause_64 ?_
              refine x_iconst F dX10_readClause_65 ?_
              refine x_iadd F dX10_readClause_66 ?_
              refine x_iconst F dX10_readClause_67 ?_
              refine x_iload_n F dX10_readClause_68 rfl 2 rfl ?_
              refine x_imul F dX10_readClause_69 ?_
              refine x_iadd F dX10_readClause_70 ?_
              refine x_callVi (ci := 10) (q0 := 0) (As := [.int (jI (((11 * ci) + 2) + (3 * j)))]) (st := []) F (c_X10_readTest D kI kJ l qO (((11 * ci) + 2) + (3 * j)) vO_blocks qO_stones qO_laid qO_deep vO_placings qO_placed vO_mortars qO_put qO_rates vO_limit vO_looks qO_seen qO_text vO_texted pl vO_clauses qO_rule qO_fresh vO_lots qO_stocks qO_row qO_dangers qO_losses vO_upper vO_lower qO_habitUpper qO_habitLower a2_9 w2_9 e2_9 qO_chosen qO_lost qO_zones qO_way qO_spent qO_scaffolds fO_text fr9 hOs hOt (by omega) (by omega) hfg (by omega) he_9 hw_9) (cwV 1 F.2.2.2.2.1 gX10_readClause_X10_readTest rfl rfl rfl (by decide +kernel) ⟨Nat.le_of_ble_eq_true rfl, Nat.le_of_ble_eq_true rfl⟩) rfl rfl [0, 1, 2] [] [0, 1, 2] rfl rfl (by decide) (by decide) (by decide) (fun _ => rfl) (by decide) rfl (Nat.le_of_ble_eq_true rfl) dX10_readClause_71 ⟨Nat.le_of_ble_eq_true rfl, Nat.le_of_ble_eq_true rfl⟩ (fun z71 u71 h71 => ?_)
              obtain ⟨p2_71, a2_71, f2_71⟩ := u71
              try dsimp only at h71
              refine x_ws [(qO, .inr (10, [.int (jI vO_blocks), .ref qO_stones, .ref qO_laid, .ref qO_deep, .int (jI vO_placings), .ref qO_placed, .int (jI vO_mortars), .ref qO_put, .ref qO_rates, .int (jI vO_limit), .int (jI vO_looks), .ref qO_seen, .ref qO_text, .int (jI vO_texted), .int (jI p2_71), .int (jI vO_clauses), .ref qO_rule, .ref qO_fresh, .int (jI vO_lots), .ref qO_stocks, .ref qO_row, .ref qO_dangers, .ref qO_losses, .long (jL vO_upper), .long (jL vO_lower), .ref qO_habitUpper, .ref qO_habitLower, .int (jI a2_71), .long (jL w2_9), .int (jI e2_9), .ref qO_chosen, .ref qO_lost, .ref qO_zones, .ref qO_way, .ref qO_spent, .ref qO_scaffolds])), aI kI qO_text 120 fO_text, aI kI qO_fresh 66 f2_71] rfl ?_
              obtain ⟨he71, h0_71, h1_71, hfr_71, hab_71, hfg_71⟩ := h71
              have he71 := he71.symm
              subst he71
              have hgr := tsG_rng fO_text vO_texted a2_9
              have hf32 : Rg (fun c => f2_71 (11 * c)) 6 0 3 := fun k k0 k1 => by
                show 0 ≤ f2_71 (11 * k) ∧ f2_71 (11 * k) ≤ 3
                rw [hfr_71 (11 * k) (by rcases Int.lt_trichotomy k ci with q | q | q <;> omega)]
                exact hf3 k k0 k1
              have hf42 : Rg (fun c => f2_71 (11 * c + 1)) 6 0 2 := fun k k0 k1 => by
                show 0 ≤ f2_71 (11 * k + 1) ∧ f2_71 (11 * k + 1) ≤ 2
                rw [hfr_71 (11 * k + 1) (by rcases Int.lt_trichotomy k ci with q | q | q <;> omega)]
                exact hf4 k k0 k1
              refine x_istore (lv' := [(0, .ref qO), (1, .int (jI ci)), (2, .int (jI j)), (3, .int (jI m9)), (4, .int (jI (tsG fO_text vO_texted a2_9)))]) F dX10_readClause_74 (by decide) [1, 2, 3, 4, 0] rfl ?_
              refine x_iload F dX10_readClause_76 4 rfl ?_
              refine x_if_le (tgt := 84) F dX10_readClause_78 (by decide) (by omega) (fun c78 => ?_) (fun c78 => ?_)
              · -- 78 t
                refine x_iinc (lv' := [(0, .ref qO), (1, .int (jI ci)), (2, .int (jI (j + 1))), (3, .int (jI m9)), (4, .int (jI (tsG fO_text vO_texted a2_9)))]) (k := 2) F dX10_readClause_84 rfl (by decide) [1, 2, 0, 3, 4] rfl ?_
                refine x_aload_n F dX10_readClause_87 rfl 0 rfl ?_
                refine x_callVi (ci := 10) (q0 := 0) (As := []) (st := []) F (c_X10_here D kI kJ l qO vO_blocks qO_stones qO_laid qO_deep vO_placings qO_placed vO_mortars qO_put qO_rates vO_limit vO_looks qO_seen qO_text vO_texted p2_71 vO_clauses qO_rule qO_fresh vO_lots qO_stocks qO_row qO_dangers qO_losses vO_upper vO_lower qO_habitUpper qO_habitLower a2_71 w2_9 e2_9 qO_chosen qO_lost qO_zones qO_way qO_spent qO_scaffolds fO_text hOs hOt (by omega)) (cwV 0 F.2.2.2.2.1 gX10_readClause_X10_here rfl rfl rfl (by decide +kernel) ⟨Nat.le_of_ble_eq_true rfl, Nat.le_of_ble_eq_true rfl⟩) rfl rfl [0, 1] [2] [1, 2, 0] rfl rfl (by decide) (by decide) (by decide) (fun _ => rfl) (by decide) rfl (Nat.le_of_ble_eq_true rfl) dX10_readClause_88 ⟨Nat.le_of_ble_eq_true rfl, Nat.le_of_ble_eq_true rfl⟩ (fun z88 u88 h88 => ?_)
                obtain ⟨a2_88, rfl⟩ : ∃ z, z = u88 := ⟨_, rfl⟩
                try dsimp only at h88
                refine x_ws [(qO, .inr (10, [.int (jI vO_blocks), .ref qO_stones, .ref qO_laid, .ref qO_deep, .int (jI vO_placings), .ref qO_placed, .int (jI vO_mortars), .ref qO_put, .ref qO_rates, .int (jI vO_limit), .int (jI vO_looks), .ref qO_seen, .ref qO_text, .int (jI vO_texted), .int (jI p2_71), .int (jI vO_clauses), .ref qO_rule, .ref qO_fresh, .int (jI vO_lots), .ref qO_stocks, .ref qO_row, .ref qO_dangers, .ref qO_losses, .long (jL vO_upper), .long (jL vO_lower), .ref qO_habitUpper, .ref qO_habitLower, .int (jI a2_88), .long (jL w2_9), .int (jI e2_9), .ref qO_chosen, .ref qO_lost, .ref qO_zones, .ref qO_way, .ref qO_spent, .ref qO_scaffolds])), aI kI qO_text 120 fO_text, aI kI qO_fresh 66 f2_71] rfl ?_
                obtain ⟨he88, ha_88⟩ := h88
                have he88 := he88.symm
                subst he88
                have hsr88 := skp_rng (tx := fO_text) (sz := vO_texted) (i := a2_71) hab_71
                rw [← ha_88] at hsr88
                have hcr88 := cha_rng (i := a2_88) hOt hOs.2 (by omega)
                have hz88 : ¬ a2_88 < vO_texted → cha fO_text vO_texted a2_88 = -1 := fun q => by unfold cha; rw [if_neg q]
                have hX : a2_9 = clX fO_text vO_texted vO_at j := ha_9.trans hsx
                have hF : tsF fO_text vO_texted ci j (clX fO_text vO_texted vO_at j) = 0 := by rw [← hX]; unfold tsF; rw [if_neg (by omega), if_neg (by omega), if_neg (by omega)]; omega
                have hG0 := h0_71 (by omega)
                have hS88 : a2_88 = skp fO_text vO_texted (tsE fO_text vO_texted (clX fO_text vO_texted vO_at j)) := by rw [ha_88, hG0.2.1, hX]
                have hct : ∀ i : Int, 0 ≤ i → i < j + 1 → f2_71 ((11 * ci + 2) + 3 * i) = tsN fO_text vO_texted (clX fO_text vO_texted vO_at i) ∧ f2_71 ((11 * ci + 2) + 3 * i + 1) = (if tsS fO_text vO_texted (clX fO_text vO_texted vO_at i) = 60 then 0 else 1) ∧ f2_71 ((11 * ci + 2) + 3 * i + 2) = tsV fO_text vO_texted (clX fO_text vO_texted vO_at i) := fun i i0 i1 => by
                  by_cases e : i = j
                  · rw [e, ← hX]
                    exact ⟨hG0.2.2.1, hG0.2.2.2.1, hG0.2.2.2.2⟩
                  · rw [hfr_71 _ (by omega), hfr_71 _ (by omega), hfr_71 _ (by omega)]
                    exact hct1 i i0 (by omega)
                have hfr2 : ∀ k : Int, k < 11 * ci → f2_71 k = fO_fresh k := fun k q => by rw [hfr_71 k (by omega)]; exact hfr1 k q
                refine x_bipush F dX10_readClause_91 (by decide) ?_
                refine x_icmp_ne (tgt := 100) F dX10_readClause_93 (by decide) (by omega) (fun c93 => ?_) (fun c93 => ?_)
                · -- 93 t
                  refine x_iconst F dX10_readClause_100 ?_
                  refine x_istore_n (lv' := [(0, .ref qO), (1, .int (jI ci)), (2, .int (jI (j + 1))), (3, .int (jI 0)), (4, .int (jI (tsG fO_text vO_texted a2_9)))]) F dX10_readClause_101 rfl (by decide) [1, 2, 3, 0, 4] rfl ?_
                  refine x_aload_n F dX10_readClause_102 rfl 0 rfl ?_
                  refine x_dup F dX10_readClause_103 rfl ?_
                  refine x_get (ci := 10) F hin10 0 rfl rfl 27 (by decide) hw0 rfl dX10_readClause_104 ?_
                  refine x_iload_n F dX10_readClause_107 rfl 3 rfl ?_
                  refine x_if_eq (tgt := 115) F dX10_readClause_108 (by decide) (by omega) (fun c108 => ?_) (fun c108 => ?_)
                  · -- 108 t
                    refine x_iconst F dX10_readClause_115 ?_
                    refine x_iadd F dX10_readClause_116 ?_
                    refine x_put (ci := 10) F hin10 tyX10_ok nmX10 0 rfl rfl 27 (by decide) hw0 rfl rfl rfl (show 27 + 1 ≤ _ from Nat.le_of_ble_eq_true rfl) dX10_readClause_117 [(qO, .inr (10, [.int (jI vO_blocks), .ref qO_stones, .ref qO_laid, .ref qO_deep, .int (jI vO_placings), .ref qO_placed, .int (jI vO_mortars), .ref qO_put, .ref qO_rates, .int (jI vO_limit), .int (jI vO_looks), .ref qO_seen, .ref qO_text, .int (jI vO_texted), .int (jI p2_71), .int (jI vO_clauses), .ref qO_rule, .ref qO_fresh, .int (jI vO_lots), .ref qO_stocks, .ref qO_row, .ref qO_dangers, .ref qO_losses, .long (jL vO_upper), .long (jL vO_lower), .ref qO_habitUpper, .ref qO_habitLower, .int (jI (a2_88 + 0)), .long (jL w2_9), .int (jI e2_9), .ref qO_chosen, .ref qO_lost, .ref qO_zones, .ref qO_way, .ref qO_spent, .ref qO_scaffolds])), aI kI qO_text 120 fO_text, aI kI qO_fresh 66 f2_71] rfl ?_
                    refine x_goto (tgt := 4) F dX10_readClause_120 (by decide) ?_
                    refine x_lv (lv' := [(0, .ref qO), (1, .int (jI ci)), (2, .int (jI (j + 1))), (3, .int (jI 0))]) [0, 1, 2, 3] rfl ?_
                    exact ih4 (j + 1) 0 (a2_88 + 0) p2_71 w2_9 e2_9 f2_71 (by omega) (by omega) (hG0.1.trans hpl) (Or.inr ⟨rfl, by omega, (clJ_last (by omega) hdj (by rw [← hS88]; omega)).trans (by omega), by rw [show j + 1 - 1 = j by omega]; exact hF, by rw [show j + 1 - 1 = j by omega, ← hS88]; omega⟩) hct hfr2 hfg_71 hf32 hf42 (by omega)
                  · exact absurd c108 (by omega)
                · -- 93 f
                  refine x_iconst F dX10_readClause_96 ?_
                  refine x_goto (tgt := 101) F dX10_readClause_97 (by decide) ?_
                  refine x_istore_n (lv' := [(0, .ref qO), (1, .int (jI ci)), (2, .int (jI (j + 1))), (3, .int (jI 1)), (4, .int (jI (tsG fO_text vO_texted a2_9)))]) F dX10_readClause_101 rfl (by decide) [1, 2, 3, 0, 4] rfl ?_
                  refine x_aload_n F dX10_readClause_102 rfl 0 rfl ?_
                  refine x_dup F dX10_readClause_103 rfl ?_
                  refine x_get (ci := 10) F hin10 0 rfl rfl 27 (by decide) hw0 rfl dX10_readClause_104 ?_
                  refine x_iload_n F dX10_readClause_107 rfl 3 rfl ?_
                  refine x_if_eq (tgt := 115) F dX10_readClause_108 (by decide) (by omega) (fun c108 => ?_) (fun c108 => ?_)
                  · exact absurd c108 (by omega)
                  · -- 108 f
                    refine x_iconst F dX10_readClause_111 ?_
                    refine x_goto (tgt := 116) F dX10_readClause_112 (by decide) ?_
                    refine x_iadd F dX10_readClause_116 ?_
                    refine x_put (ci := 10) F hin10 tyX10_ok nmX10 0 rfl rfl 27 (by decide) hw0 rfl rfl rfl (show 27 + 1 ≤ _ from Nat.le_of_ble_eq_true rfl) dX10_readClause_117 [(qO, .inr (10, [.int (jI vO_blocks), .ref qO_stones, .ref qO_laid, .ref qO_deep, .int (jI vO_placings), .ref qO_placed, .int (jI vO_mortars), .ref qO_put, .ref qO_rates, .int (jI vO_limit), .int (jI vO_looks), .ref qO_seen, .ref qO_text, .int (jI vO_texted), .int (jI p2_71), .int (jI vO_clauses), .ref qO_rule, .ref qO_fresh, .int (jI vO_lots), .ref qO_stocks, .ref qO_row, .ref qO_dangers, .ref qO_losses, .long (jL vO_upper), .long (jL vO_lower), .ref qO_habitUpper, .ref qO_habitLower, .int (jI (a2_88 + 1)), .long (jL w2_9), .int (jI e2_9), .ref qO_chosen, .ref qO_lost, .ref qO_zones, .ref qO_way, .ref qO_spent, .ref qO_scaffolds])), aI kI qO_text 120 fO_text, aI kI qO_fresh 66 f2_71] rfl ?_
                    refine x_goto (tgt := 4) F dX10_readClause_120 (by decide) ?_
                    refine x_lv (lv' := [(0, .ref qO), (1, .int (jI ci)), (2, .int (jI (j + 1))), (3, .int (jI 1))]) [0, 1, 2, 3] rfl ?_
                    exact ih4 (j + 1) 1 (a2_88 + 1) p2_71 w2_9 e2_9 f2_71 (by omega) (by omega) (hG0.1.trans hpl) (Or.inl ⟨rfl, by rw [clX_s hj.1, ← hS88], clT_go hj.1 hdj hF (by rw [← hS88]; omega)⟩) hct hfr2 hfg_71 hf32 hf42 (by omega)
              · -- 78 f
                refine x_iload F dX10_readClause_81 4 rfl ?_
                have hX : a2_9 = clX fO_text vO_texted vO_at j := ha_9.trans hsx
                have hF : tsF fO_text vO_texted ci j (clX fO_text vO_texted vO_at j) = tsG fO_text vO_texted a2_9 := by rw [← hX]; unfold tsF; rw [if_neg (by omega), if_neg (by omega)]; exact if_neg (by omega)
                have hC := clF_test (p := vO_at) (by omega) hdj (by rw [hF]; omega)
                have hA : clA fO_text vO_texted ci vO_at = p2_71 := by rw [h1_71 (by omega), hC.2, ← hX]; unfold tsA; exact if_neg (by omega)
                have hfr1 : ∀ k : Int, k < 11 * ci → f2_71 k = fO_fresh k := fun k q => by rw [hfr_71 k (by omega)]; exact hfr1 k q
                exact hret 0 0 83 _ (tsG fO_text vO_texted a2_9) (p2_71, a2_71, w2_9, e2_9, f2_71) (Nat.le_of_ble_eq_true rfl) (Nat.le_of_ble_eq_true rfl) dX10_readClause_83 (by (try dsimp only); exact (⟨(hC.1.trans hF).symm, fun q => absurd (hC.1.trans hF) (by omega), fun _ => hA.symm, hfr1, by omega, hfg_71, hf32, hf42⟩))
            · -- 47 f
              refine x_aload_n F dX10_readClause_50 rfl 0 rfl ?_
              refine x_iconst F dX10_readClause_51 ?_
              refine x_aload_n F dX10_readClause_52 rfl 0 rfl ?_
              refine x_get (ci := 10) F hin10 0 rfl rfl 27 (by decide) hw0 rfl dX10_readClause_53 ?_
              refine x_callVi (ci := 10) (q0 := 0) (As := [.int (jI 4), .int (jI a2_9)]) (st := []) F (c_X10_fails D kI kJ l qO 4 a2_9 vO_blocks qO_stones qO_laid qO_deep vO_placings qO_placed vO_mortars qO_put qO_rates vO_limit vO_looks qO_seen qO_text vO_texted pl vO_clauses qO_rule qO_fresh vO_lots qO_stocks qO_row qO_dangers qO_losses vO_upper vO_lower qO_habitUpper qO_habitLower a2_9 w2_9 e2_9 qO_chosen qO_lost qO_zones qO_way qO_spent qO_scaffolds ) (cwV 2 F.2.2.2.2.1 gX10_readClause_X10_fails rfl rfl rfl (by decide +kernel) ⟨Nat.le_of_ble_eq_true rfl, Nat.le_of_ble_eq_true rfl⟩) rfl rfl [0] [1, 2] [2, 0, 1] rfl rfl (by decide) (by decide) (by decide) (fun _ => rfl) (by decide) rfl (Nat.le_of_ble_eq_true rfl) dX10_readClause_56 ⟨Nat.le_of_ble_eq_true rfl, Nat.le_of_ble_eq_true rfl⟩ (fun z56 u56 h56 => ?_)
              try dsimp only at h56
              refine x_ws [(qO, .inr (10, [.int (jI vO_blocks), .ref qO_stones, .ref qO_laid, .ref qO_deep, .int (jI vO_placings), .ref qO_placed, .int (jI vO_mortars), .ref qO_put, .ref qO_rates, .int (jI vO_limit), .int (jI vO_looks), .ref qO_seen, .ref qO_text, .int (jI vO_texted), .int (jI a2_9), .int (jI vO_clauses), .ref qO_rule, .ref qO_fresh, .int (jI vO_lots), .ref qO_stocks, .ref qO_row, .ref qO_dangers, .ref qO_losses, .long (jL vO_upper), .long (jL vO_lower), .ref qO_habitUpper, .ref qO_habitLower, .int (jI a2_9), .long (jL w2_9), .int (jI e2_9), .ref qO_chosen, .ref qO_lost, .ref qO_zones, .ref qO_way, .ref qO_spent, .ref qO_scaffolds])), aI kI qO_text 120 fO_text, aI kI qO_fresh 66 fr9] rfl ?_
              have he56 := h56
              have he56 := he56.symm
              subst he56
              have hX : a2_9 = clX fO_text vO_texted vO_at j := ha_9.trans hsx
              have hF : tsF fO_text vO_texted ci j (clX fO_text vO_texted vO_at j) = 4 := by rw [← hX]; unfold tsF; rw [if_neg (by omega), if_neg (by omega)]; exact if_pos (by omega)
              have hC := clF_test (p := vO_at) (by omega) hdj (by rw [hF]; omega)
              have hA : clA fO_text vO_texted ci vO_at = a2_9 := by rw [hC.2, ← hX]; unfold tsA; exact if_pos (Or.inr (Or.inr (by omega)))
              exact hret 0 0 59 _ 4 (a2_9, a2_9, w2_9, e2_9, fr9) (Nat.le_of_ble_eq_true rfl) (Nat.le_of_ble_eq_true rfl) dX10_readClause_59 (by (try dsimp only); exact (⟨(hC.1.trans hF).symm, fun q => absurd (hC.1.trans hF) (by omega), fun _ => hA.symm, hfr1, by omega, hfg, hf3, hf4⟩))
          · -- 32 f
            refine x_aload_n F dX10_readClause_35 rfl 0 rfl ?_
            refine x_iconst F dX10_readClause_36 ?_
            refine x_aload_n F dX10_readClause_37 rfl 0 rfl ?_
            refine x_get (ci := 10) F hin10 0 rfl rfl 27 (by decide) hw0 rfl dX10_readClause_38 ?_
            refine x_callVi (ci := 10) (q0 := 0) (As := [.int (jI 3), .int (jI a2_9)]) (st := []) F (c_X10_fails D kI kJ l qO 3 a2_9 vO_blocks qO_stones qO_laid qO_deep vO_placings qO_placed vO_mortars qO_put qO_rates vO_limit vO_looks qO_seen qO_text vO_texted pl vO_clauses qO_rule qO_fresh vO_lots qO_stocks qO_row qO_dangers qO_losses vO_upper vO_lower qO_habitUpper qO_habitLower a2_9 w2_9 e2_9 qO_chosen qO_lost qO_zones qO_way qO_spent qO_scaffolds ) (cwV 2 F.2.2.2.2.1 gX10_readClause_X10_fails rfl rfl rfl (by decide +kernel) ⟨Nat.le_of_ble_eq_true rfl, Nat.le_of_ble_eq_true rfl⟩) rfl rfl [0] [1, 2] [2, 0, 1] rfl rfl (by decide) (by decide) (by decide) (fun _ => rfl) (by decide) rfl (Nat.le_of_ble_eq_true rfl) dX10_readClause_41 ⟨Nat.le_of_ble_eq_true rfl, Nat.le_of_ble_eq_true rfl⟩ (fun z41 u41 h41 => ?_)
            try dsimp only at h41
            refine x_ws [(qO, .inr (10, [.int (jI vO_blocks), .ref qO_stones, .ref qO_laid, .ref qO_deep, .int (jI vO_placings), .ref qO_placed, .int (jI vO_mortars), .ref qO_put, .ref qO_rates, .int (jI vO_limit), .int (jI vO_looks), .ref qO_seen, .ref qO_text, .int (jI vO_texted), .int (jI a2_9), .int (jI vO_clauses), .ref qO_rule, .ref qO_fresh, .int (jI vO_lots), .ref qO_stocks, .ref qO_row, .ref qO_dangers, .ref qO_losses, .long (jL vO_upper), .long (jL vO_lower), .ref qO_habitUpper, .ref qO_habitLower, .int (jI a2_9), .long (jL w2_9), .int (jI e2_9), .ref qO_chosen, .ref qO_lost, .ref qO_zones, .ref qO_way, .ref qO_spent, .ref qO_scaffolds])), aI kI qO_text 120 fO_text, aI kI qO_fresh 66 fr9] rfl ?_
            have he41 := h41
            have he41 := he41.symm
            subst he41
            have hX : a2_9 = clX fO_text vO_texted vO_at j := ha_9.trans hsx
            have hF : tsF fO_text vO_texted ci j (clX fO_text vO_texted vO_at j) = 3 := by rw [← hX]; unfold tsF; rw [if_neg (by omega)]; exact if_pos (by omega)
            have hC := clF_test (p := vO_at) (by omega) hdj (by rw [hF]; omega)
            have hA : clA fO_text vO_texted ci vO_at = a2_9 := by rw [hC.2, ← hX]; unfold tsA; exact if_pos (Or.inr (Or.inl (by omega)))
            exact hret 0 0 44 _ 3 (a2_9, a2_9, w2_9, e2_9, fr9) (Nat.le_of_ble_eq_true rfl) (Nat.le_of_ble_eq_true rfl) dX10_readClause_44 (by (try dsimp only); exact (⟨(hC.1.trans hF).symm, fun q => absurd (hC.1.trans hF) (by omega), fun _ => hA.symm, hfr1, by omega, hfg, hf3, hf4⟩))
        · -- 16 f
          refine x_aload_n F dX10_readClause_19 rfl 0 rfl ?_
          refine x_iconst F dX10_readClause_20 ?_
          refine x_aload_n F dX10_readClause_21 rfl 0 rfl ?_
          refine x_get (ci := 10) F hin10 0 rfl rfl 27 (by decide) hw0 rfl dX10_readClause_22 ?_
          refine x_callVi (ci := 10) (q0 := 0) (As := [.int (jI 1), .int (jI a2_9)]) (st := []) F (c_X10_fails D kI kJ l qO 1 a2_9 vO_blocks qO_stones qO_laid qO_deep vO_placings qO_placed vO_mortars qO_put qO_rates vO_limit vO_looks qO_seen qO_text vO_texted pl vO_clauses qO_rule qO_fresh vO_lots qO_stocks qO_row qO_dangers qO_losses vO_upper vO_lower qO_habitUpper qO_habitLower a2_9 w2_9 e2_9 qO_chosen qO_lost qO_zones qO_way qO_spent qO_scaffolds ) (cwV 2 F.2.2.2.2.1 gX10_readClause_X10_fails rfl rfl rfl (by decide +kernel) ⟨Nat.le_of_ble_eq_true rfl, Nat.le_of_ble_eq_true rfl⟩) rfl rfl [0] [1, 2] [2, 0, 1] rfl rfl (by decide) (by decide) (by decide) (fun _ => rfl) (by decide) rfl (Nat.le_of_ble_eq_true rfl) dX10_readClause_25 ⟨Nat.le_of_ble_eq_true rfl, Nat.le_of_ble_eq_true rfl⟩ (fun z25 u25 h25 => ?_)
          try dsimp only at h25
          refine x_ws [(qO, .inr (10, [.int (jI vO_blocks), .ref qO_stones, .ref qO_laid, .ref qO_deep, .int (jI vO_placings), .ref qO_placed, .int (jI vO_mortars), .ref qO_put, .ref qO_rates, .int (jI vO_limit), .int (jI vO_looks), .ref qO_seen, .ref qO_text, .int (jI vO_texted), .int (jI a2_9), .int (jI vO_clauses), .ref qO_rule, .ref qO_fresh, .int (jI vO_lots), .ref qO_stocks, .ref qO_row, .ref qO_dangers, .ref qO_losses, .long (jL vO_upper), .long (jL vO_lower), .ref qO_habitUpper, .ref qO_habitLower, .int (jI a2_9), .long (jL w2_9), .int (jI e2_9), .ref qO_chosen, .ref qO_lost, .ref qO_zones, .ref qO_way, .ref qO_spent, .ref qO_scaffolds])), aI kI qO_text 120 fO_text, aI kI qO_fresh 66 fr9] rfl ?_
          have he25 := h25
          have he25 := he25.symm
          subst he25
          have hX : a2_9 = clX fO_text vO_texted vO_at j := ha_9.trans hsx
          have hF : tsF fO_text vO_texted ci j (clX fO_text vO_texted vO_at j) = 1 := by rw [← hX]; unfold tsF; exact if_pos (by omega)
          have hC := clF_test (p := vO_at) (by omega) hdj (by rw [hF]; omega)
          have hA : clA fO_text vO_texted ci vO_at = a2_9 := by rw [hC.2, ← hX]; unfold tsA; exact if_pos (Or.inl (by omega))
          exact hret 0 0 28 _ 1 (a2_9, a2_9, w2_9, e2_9, fr9) (Nat.le_of_ble_eq_true rfl) (Nat.le_of_ble_eq_true rfl) dX10_readClause_28 (by (try dsimp only); exact (⟨(hC.1.trans hF).symm, fun q => absurd (hC.1.trans hF) (by omega), fun _ => hA.symm, hfr1, by omega, hfg, hf3, hf4⟩))
  exact lp4 (Int.toNat (4 - 0) + 1) 0 1 vO_at vO_faultPlace vO_word vO_wordEnd fO_fresh (by omega) (by omega) rfl (Or.inl ⟨rfl, hps, by rw [dG_0]; omega⟩) (fun i h1 h2 => by omega) (fun k q => rfl) hOf hOf3 hOf4 (by omega)
