set_option maxHeartbeats 4000000 in
set_option maxRecDepth 100000 in
theorem c_X10_here (D : va_G) (kI kJ : Nat) (l : Launch) (qO : Nat) (vO_blocks : Int) (qO_stones : Nat) (qO_laid : Nat) (qO_deep : Nat) (vO_placings : Int) (qO_placed : Nat) (vO_mortars : Int) (qO_put : Nat) (qO_rates : Nat) (vO_limit : Int) (vO_looks : Int) (qO_seen : Nat) (qO_text : Nat) (vO_texted : Int) (vO_faultPlace : Int) (vO_clauses : Int) (qO_rule : Nat) (qO_fresh : Nat) (vO_lots : Int) (qO_stocks : Nat) (qO_row : Nat) (qO_dangers : Nat) (qO_losses : Nat) (vO_upper : Int) (vO_lower : Int) (qO_habitUpper : Nat) (qO_habitLower : Nat) (vO_at : Int) (vO_word : Int) (vO_wordEnd : Int) (qO_chosen : Nat) (qO_lost : Nat) (qO_zones : Nat) (qO_way : Nat) (qO_spent : Nat) (qO_scaffolds : Nat) (fO_text : (Int → Int)) (hOs : 0 ≤ vO_texted ∧ vO_texted ≤ 120) (hOt : Rg fO_text 120 0 255) (hat : 0 ≤ vO_at ∧ vO_at ≤ vO_texted) : xMi D kI kJ l yX10_here wsX10_here 1 32 0 0 [.ref qO] [(qO, .inr (10, [.int (jI vO_blocks), .ref qO_stones, .ref qO_laid, .ref qO_deep, .int (jI vO_placings), .ref qO_placed, .int (jI vO_mortars), .ref qO_put, .ref qO_rates, .int (jI vO_limit), .int (jI vO_looks), .ref qO_seen, .ref qO_text, .int (jI vO_texted), .int (jI vO_faultPlace), .int (jI vO_clauses), .ref qO_rule, .ref qO_fresh, .int (jI vO_lots), .ref qO_stocks, .ref qO_row, .ref qO_dangers, .ref qO_losses, .long (jL vO_upper), .long (jL vO_lower), .ref qO_habitUpper, .ref qO_habitLower, .int (jI vO_at), .long (jL vO_word), .int (jI vO_wordEnd), .ref qO_chosen, .ref qO_lost, .ref qO_zones, .ref qO_way, .ref qO_spent, .ref qO_scaffolds])), aI kI qO_text 120 fO_text] (fun (z : Int) (u : Int) => z = (cha fO_text vO_texted u) ∧ (u = skp fO_text vO_texted vO_at)) (fun (u : Int) => [(qO, .inr (10, [.int (jI vO_blocks), .ref qO_stones, .ref qO_laid, .ref qO_deep, .int (jI vO_placings), .ref qO_placed, .int (jI vO_mortars), .ref qO_put, .ref qO_rates, .int (jI vO_limit), .int (jI vO_looks), .ref qO_seen, .ref qO_text, .int (jI vO_texted), .int (jI vO_faultPlace), .int (jI vO_clauses), .ref qO_rule, .ref qO_fresh, .int (jI vO_lots), .ref qO_stocks, .ref qO_row, .ref qO_dangers, .ref qO_losses, .long (jL vO_upper), .long (jL vO_lower), .ref qO_habitUpper, .ref qO_habitLower, .int (jI u), .long (jL vO_word), .int (jI vO_wordEnd), .ref qO_chosen, .ref qO_lost, .ref qO_zones, .ref qO_way, .ref qO_spent, .ref qO_scaffolds])), aI kI qO_text 120 fO_text]) := by
  refine xMi_of (cc := cX10_here) (maxL := 1) (rt := .int) (by decide) rfl (Nat.le_of_ble_eq_true rfl) (fun _ _ _ => rfl) ?_
  intro p e s m args below meth c A Q F hin2 hret
  have hin10 : ∀ w ∈ wsX100, w ∈ wsX10_here := by decide +kernel
  have hw0 : Cond.fieldLink RX10 202 (TX10 27).1 (TX10 27).2.1 (TX10 27).2.2.1 ∈ wsX10_here := by decide +kernel
  have hw1 : Cond.fieldLink RX10 151 (TX10 13).1 (TX10 13).2.1 (TX10 13).2.2.1 ∈ wsX10_here := by decide +kernel
  have hw2 : Cond.fieldLink RX10 35 (TX10 12).1 (TX10 12).2.1 (TX10 12).2.2.1 ∈ wsX10_here := by decide +kernel
  refine x_lveq (lv' := [(0, .ref qO)]) rfl ?_
  have lp0 : ∀ (fu : Nat) (a9 : Int) (ha9 : 0 ≤ a9 ∧ a9 ≤ vO_texted) (hsk : skp fO_text vO_texted a9 = skp fO_text vO_texted vO_at) (hm : vO_texted - a9 < (fu : Int)), xG D p l e (xRm 1 32 0 0) s m args below meth c 1 A Q 0 0 [(qO, .inr (10, [.int (jI vO_blocks), .ref qO_stones, .ref qO_laid, .ref qO_deep, .int (jI vO_placings), .ref qO_placed, .int (jI vO_mortars), .ref qO_put, .ref qO_rates, .int (jI vO_limit), .int (jI vO_looks), .ref qO_seen, .ref qO_text, .int (jI vO_texted), .int (jI vO_faultPlace), .int (jI vO_clauses), .ref qO_rule, .ref qO_fresh, .int (jI vO_lots), .ref qO_stocks, .ref qO_row, .ref qO_dangers, .ref qO_losses, .long (jL vO_upper), .long (jL vO_lower), .ref qO_habitUpper, .ref qO_habitLower, .int (jI a9), .long (jL vO_word), .int (jI vO_wordEnd), .ref qO_chosen, .ref qO_lost, .ref qO_zones, .ref qO_way, .ref qO_spent, .ref qO_scaffolds])), aI kI qO_text 120 fO_text] [(0, .ref qO)] 0 [] := by
    intro fu
    induction fu with
    | zero =>
      intro a9 ha9 hsk hm
      exact absurd hm (by omega)
    | succ fu ih0 =>
      intro a9 ha9 hsk hm
      refine x_aload_n F dX10_here_0 rfl 0 rfl ?_
      refine x_get (ci := 10) F hin10 0 rfl rfl 27 (by decide) hw0 rfl dX10_here_1 ?_
      refine x_aload_n F dX10_here_4 rfl 0 rfl ?_
      refine x_get (ci := 10) F hin10 0 rfl rfl 13 (by decide) hw1 rfl dX10_here_5 ?_
      refine x_icmp_ge (tgt := 38) F dX10_here_8 (by decide) (by omega) (fun c8 => ?_) (fun c8 => ?_)
      · -- 8 t
        refine x_aload_n F dX10_here_38 rfl 0 rfl ?_
        refine x_get (ci := 10) F hin10 0 rfl rfl 27 (by decide) hw0 rfl dX10_here_39 ?_
        refine x_aload_n F dX10_here_42 rfl 0 rfl ?_
        refine x_get (ci := 10) F hin10 0 rfl rfl 13 (by decide) hw1 rfl dX10_here_43 ?_
        refine x_icmp_ge (tgt := 61) F dX10_here_46 (by decide) (by omega) (fun c46 => ?_) (fun c46 => ?_)
        · -- 46 t
          refine x_iconst F dX10_here_61 ?_
          exact hret 0 0 62 _ (-1) a9 (Nat.le_of_ble_eq_true rfl) (Nat.le_of_ble_eq_true rfl) dX10_here_62 (⟨by unfold cha; first | exact (if_pos (by omega)).symm | exact (if_neg (by omega)).symm, by rw [← hsk]; exact (sc_stop (by omega)).symm⟩)
        · -- 46 f
          refine x_aload_n F dX10_here_49 rfl 0 rfl ?_
          refine x_get (ci := 10) F hin10 0 rfl rfl 12 (by decide) hw2 rfl dX10_here_50 ?_
          refine x_aload_n F dX10_here_53 rfl 0 rfl ?_
          refine x_get (ci := 10) F hin10 0 rfl rfl 27 (by decide) hw0 rfl dX10_here_54 ?_
          refine x_iald F 1 rfl (by decide) (by omega) dX10_here_57 ?_
          have hr57 := Rg.at hOt a9 (by omega)
          refine x_goto (tgt := 62) F dX10_here_58 (by decide) ?_
          exact hret 0 0 62 _ (fO_text a9) a9 (Nat.le_of_ble_eq_true rfl) (Nat.le_of_ble_eq_true rfl) dX10_here_62 (⟨by unfold cha; first | exact (if_pos (by omega)).symm | exact (if_neg (by omega)).symm, by rw [← hsk]; exact (sc_stop (by omega)).symm⟩)
      · -- 8 f
        refine x_aload_n F dX10_here_11 rfl 0 rfl ?_
        refine x_get (ci := 10) F hin10 0 rfl rfl 12 (by decide) hw2 rfl dX10_here_12 ?_
        refine x_aload_n F dX10_here_15 rfl 0 rfl ?_
        refine x_get (ci := 10) F hin10 0 rfl rfl 27 (by decide) hw0 rfl dX10_here_16 ?_
        refine x_iald F 1 rfl (by decide) (by omega) dX10_here_19 ?_
        have hr19 := Rg.at hOt a9 (by omega)
        refine x_bipush F dX10_here_20 (by decide) ?_
        refine x_icmp_ne (tgt := 38) F dX10_here_22 (by decide) (by omega) (fun c22 => ?_) (fun c22 => ?_)
        · -- 22 t
          refine x_aload_n F dX10_here_38 rfl 0 rfl ?_
          refine x_get (ci := 10) F hin10 0 rfl rfl 27 (by decide) hw0 rfl dX10_here_39 ?_
          refine x_aload_n F dX10_here_42 rfl 0 rfl ?_
          refine x_get (ci := 10) F hin10 0 rfl rfl 13 (by decide) hw1 rfl dX10_here_43 ?_
          refine x_icmp_ge (tgt := 61) F dX10_here_46 (by decide) (by omega) (fun c46 => ?_) (fun c46 => ?_)
          · -- 46 t
            refine x_iconst F dX10_here_61 ?_
            exact hret 0 0 62 _ (-1) a9 (Nat.le_of_ble_eq_true rfl) (Nat.le_of_ble_eq_true rfl) dX10_here_62 (⟨by unfold cha; first | exact (if_pos (by omega)).symm | exact (if_neg (by omega)).symm, by rw [← hsk]; exact (sc_stop (by omega)).symm⟩)
          · -- 46 f
            refine x_aload_n F dX10_here_49 rfl 0 rfl ?_
            refine x_get (ci := 10) F hin10 0 rfl rfl 12 (by decide) hw2 rfl dX10_here_50 ?_
            refine x_aload_n F dX10_here_53 rfl 0 rfl ?_
            refine x_get (ci := 10) F hin10 0 rfl rfl 27 (by decide) hw0 rfl dX10_here_54 ?_
            refine x_iald F 1 rfl (by decide) (by omega) dX10_here_57 ?_
            have hr57 := Rg.at hOt a9 (by omega)
            refine x_goto (tgt := 62) F dX10_here_58 (by decide) ?_
            exact hret 0 0 62 _ (fO_text a9) a9 (Nat.le_of_ble_eq_true rfl) (Nat.le_of_ble_eq_true rfl) dX10_here_62 (⟨by unfold cha; first | exact (if_pos (by omega)).symm | exact (if_neg (by omega)).symm, by rw [← hsk]; exact (sc_stop (by omega)).symm⟩)
        · -- 22 f
          refine x_aload_n F dX10_here_25 rfl 0 rfl ?_
          refine x_dup F dX10_here_26 rfl ?_
          refine x_get (ci := 10) F hin10 0 rfl rfl 27 (by decide) hw0 rfl dX10_here_27 ?_
          refine x_iconst F dX10_here_30 ?_
          refine x_iadd F dX10_here_31 ?_
          refine x_put (ci := 10) F hin10 tyX10_ok nmX10 0 rfl rfl 27 (by decide) hw0 rfl rfl rfl (show 27 + 1 ≤ _ from Nat.le_of_ble_eq_true rfl) dX10_here_32 [(qO, .inr (10, [.int (jI vO_blocks), .ref qO_stones, .ref qO_laid, .ref qO_deep, .int (jI vO_placings), .ref qO_placed, .int (jI vO_mortars), .ref qO_put, .ref qO_rates, .int (jI vO_limit), .int (jI vO_looks), .ref qO_seen, .ref qO_text, .int (jI vO_texted), .int (jI vO_faultPlace), .int (jI vO_clauses), .ref qO_rule, .ref qO_fresh, .int (jI vO_lots), .ref qO_stocks, .ref qO_row, .ref qO_dangers, .ref qO_losses, .long (jL vO_upper), .long (jL vO_lower), .ref qO_habitUpper, .ref qO_habitLower, .int (jI (a9 + 1)), .long (jL vO_word), .int (jI vO_wordEnd), .ref qO_chosen, .ref qO_lost, .ref qO_zones, .ref qO_way, .ref qO_spent, .ref qO_scaffolds])), aI kI qO_text 120 fO_text] rfl ?_
          refine x_goto (tgt := 0) F dX10_here_35 (by decide) ?_
          exact ih0 (a9 + 1) (by omega) (by rw [← hsk]; exact (sc_go (by omega)).symm) (by omega)
  exact lp0 (Int.toNat (vO_texted - vO_at) + 1) vO_at (by omega) rfl (by omega)
set_option maxHeartbeats 4000000 in
set_option maxRecDepth 100000 in
theorem c_X10_fails (D : va_G) (kI kJ : Nat) (l : Launch) (qO : Nat) (n9 : Int) (place : Int) (vO_blocks : Int) (qO_stones : Nat) (qO_laid : Nat) (qO_deep : Nat) (vO_placings : Int) (qO_placed : Nat) (vO_mortars : Int) (qO_put : Nat) (qO_rates : Nat) (vO_limit : Int) (vO_looks : Int) (qO_seen : Nat) (qO_text : Nat) (vO_texted : Int) (vO_faultPlace : Int) (vO_clauses : Int) (qO_rule : Nat) (qO_fresh : Nat) (vO_lots : Int) (qO_stocks : Nat) (qO_row : Nat) (qO_dangers : Nat) (qO_losses : Nat) (vO_upper : Int) (vO_lower : Int) (qO_habitUpper : Nat) (qO_habitLower : Nat) (vO_at : Int) (vO_word : Int) (vO_wordEnd : Int) (qO_chosen : Nat) (qO_lost : Nat) (qO_zones : Nat) (qO_way : Nat) (qO_spent : Nat) (qO_scaffolds : Nat)  : xMi D kI kJ l yX10_fails wsX10_fails 1 32 0 0 [.ref qO, .int (jI n9), .int (jI place)] [(qO, .inr (10, [.int (jI vO_blocks), .ref qO_stones, .ref qO_laid, .ref qO_deep, .int (jI vO_placings), .ref qO_placed, .int (jI vO_mortars), .ref qO_put, .ref qO_rates, .int (jI vO_limit), .int (jI vO_looks), .ref qO_seen, .ref qO_text, .int (jI vO_texted), .int (jI vO_faultPlace), .int (jI vO_clauses), .ref qO_rule, .ref qO_fresh, .int (jI vO_lots), .ref qO_stocks, .ref qO_row, .ref qO_dangers, .ref qO_losses, .long (jL vO_upper), .long (jL vO_lower), .ref qO_habitUpper, .ref qO_habitLower, .int (jI vO_at), .long (jL vO_word), .int (jI vO_wordEnd), .ref qO_chosen, .ref qO_lost, .ref qO_zones, .ref qO_way, .ref qO_spent, .ref qO_scaffolds]))] (fun (z : Int) (u : Unit) => z = n9) (fun (u : Unit) => [(qO, .inr (10, [.int (jI vO_blocks), .ref qO_stones, .ref qO_laid, .ref qO_deep, .int (jI vO_placings), .ref qO_placed, .int (jI vO_mortars), .ref qO_put, .ref qO_rates, .int (jI vO_limit), .int (jI vO_looks), .ref qO_seen, .ref qO_text, .int (jI vO_texted), .int (jI place), .int (jI vO_clauses), .ref qO_rule, .ref qO_fresh, .int (jI vO_lots), .ref qO_stocks, .ref qO_row, .ref qO_dangers, .ref qO_losses, .long (jL vO_upper), .long (jL vO_lower), .ref qO_habitUpper, .ref qO_habitLower, .int (jI vO_at), .long (jL vO_word), .int (jI vO_wordEnd), .ref qO_chosen, .ref qO_lost, .ref qO_zones, .ref qO_way, .ref qO_spent, .ref qO_scaffolds]))]) := by
  refine xMi_of (cc := cX10_fails) (maxL := 3) (rt := .int) (by decide) rfl (Nat.le_of_ble_eq_true rfl) (fun _ _ _ => rfl) ?_
  intro p e s m args below meth c A Q F hin2 hret
  have hin10 : ∀ w ∈ wsX100, w ∈ wsX10_fails := by decide +kernel
  have hw0 : Cond.fieldLink RX10 38 (TX10 14).1 (TX10 14).2.1 (TX10 14).2.2.1 ∈ wsX10_fails := by decide +kernel
  refine x_lveq (lv' := [(0, .ref qO), (1, .int (jI n9)), (2, .int (jI place))]) rfl ?_
  refine x_aload_n F dX10_fails_0 rfl 0 rfl ?_
  refine x_iload_n F dX10_fails_1 rfl 2 rfl ?_
  refine x_put (ci := 10) F hin10 tyX10_ok nmX10 0 rfl rfl 14 (by decide) hw0 rfl rfl rfl (show 14 + 1 ≤ _ from Nat.le_of_ble_eq_true rfl) dX10_fails_2 [(qO, .inr (10, [.int (jI vO_blocks), .ref qO_stones, .ref qO_laid, .ref qO_deep, .int (jI vO_placings), .ref qO_placed, .int (jI vO_mortars), .ref qO_put, .ref qO_rates, .int (jI vO_limit), .int (jI vO_looks), .ref qO_seen, .ref qO_text, .int (jI vO_texted), .int (jI place), .int (jI vO_clauses), .ref qO_rule, .ref qO_fresh, .int (jI vO_lots), .ref qO_stocks, .ref qO_row, .ref qO_dangers, .ref qO_losses, .long (jL vO_upper), .long (jL vO_lower), .ref qO_habitUpper, .ref qO_habitLower, .int (jI vO_at), .long (jL vO_word), .int (jI vO_wordEnd), .ref qO_chosen, .ref qO_lost, .ref qO_zones, .ref qO_way, .ref qO_spent, .ref qO_scaffolds]))] rfl ?_
  refine x_iload_n F dX10_fails_5 rfl 1 rfl ?_
  exact hret 0 0 6 _ n9 () (Nat.le_of_ble_eq_true rfl) (Nat.le_of_ble_eq_true rfl) dX10_fails_6 (rfl)
set_option maxHeartbeats 4000000 in
set_option maxRecDepth 100000 in
theorem c_X10_readWord (D : va_G) (kI kJ : Nat) (l : Launch) (qO : Nat) (vO_blocks : Int) (qO_stones : Nat) (qO_laid : Nat) (qO_deep : Nat) (vO_placings : Int) (qO_placed : Nat) (vO_mortars : Int) (qO_put : Nat) (qO_rates : Nat) (vO_limit : Int) (vO_looks : Int) (qO_seen : Nat) (qO_text : Nat) (vO_texted : Int) (vO_faultPlace : Int) (vO_clauses : Int) (qO_rule : Nat) (qO_fresh : Nat) (vO_lots : Int) (qO_stocks : Nat) (qO_row : Nat) (qO_dangers : Nat) (qO_losses : Nat) (vO_upper : Int) (vO_lower : Int) (qO_habitUpper : Nat) (qO_habitLower : Nat) (vO_at : Int) (vO_word : Int) (vO_wordEnd : Int) (qO_chosen : Nat) (qO_lost : Nat) (qO_zones : Nat) (qO_way : Nat) (qO_spent : Nat) (qO_scaffolds : Nat) (fO_text : (Int → Int)) (hOs : 0 ≤ vO_texted ∧ vO_texted ≤ 120) (hOt : Rg fO_text 120 0 255) (hat : 0 ≤ vO_at ∧ vO_at ≤ vO_texted) : xMv D kI kJ l yX10_readWord wsX10_readWord 2 57 0 0 [.ref qO] [(qO, .inr (10, [.int (jI vO_blocks), .ref qO_stones, .ref qO_laid, .ref qO_deep, .int (jI vO_placings), .ref qO_placed, .int (jI vO_mortars), .ref qO_put, .ref qO_rates, .int (jI vO_limit), .int (jI vO_looks), .ref qO_seen, .ref qO_text, .int (jI vO_texted), .int (jI vO_faultPlace), .int (jI vO_clauses), .ref qO_rule, .ref qO_fresh, .int (jI vO_lots), .ref qO_stocks, .ref qO_row, .ref qO_dangers, .ref qO_losses, .long (jL vO_upper), .long (jL vO_lower), .ref qO_habitUpper, .ref qO_habitLower, .int (jI vO_at), .long (jL vO_word), .int (jI vO_wordEnd), .ref qO_chosen, .ref qO_lost, .ref qO_zones, .ref qO_way, .ref qO_spent, .ref qO_scaffolds])), aI kI qO_text 120 fO_text] (fun (u : Int × Int × Int) => (u.2.2 = skp fO_text vO_texted vO_at) ∧ (u.2.1 = wde fO_text vO_texted u.2.2) ∧ (u.1 = wrd fO_text u.2.2 u.2.1) ∧ (0 ≤ u.1 ∧ u.1 ≤ 27000000026)) (fun (u : Int × Int × Int) => [(qO, .inr (10, [.int (jI vO_blocks), .ref qO_stones, .ref qO_laid, .ref qO_deep, .int (jI vO_placings), .ref qO_placed, .int (jI vO_mortars), .ref qO_put, .ref qO_rates, .int (jI vO_limit), .int (jI vO_looks), .ref qO_seen, .ref qO_text, .int (jI vO_texted), .int (jI vO_faultPlace), .int (jI vO_clauses), .ref qO_rule, .ref qO_fresh, .int (jI vO_lots), .ref qO_stocks, .ref qO_row, .ref qO_dangers, .ref qO_losses, .long (jL vO_upper), .long (jL vO_lower), .ref qO_habitUpper, .ref qO_habitLower, .int (jI u.2.2), .long (jL u.1), .int (jI u.2.1), .ref qO_chosen, .ref qO_lost, .ref qO_zones, .ref qO_way, .ref qO_spent, .ref qO_scaffolds])), aI kI qO_text 120 fO_text]) := by
  refine xMv_of (cc := cX10_readWord) (maxL := 1) (by decide) rfl (Nat.le_of_ble_eq_true rfl) ?_
  intro p e s m args below meth c A Q F hin2 hret
  have hin10 : ∀ w ∈ wsX100, w ∈ wsX10_readWord := by decide +kernel
  have hw0 : Cond.fieldLink RX10 209 (TX10 28).1 (TX10 28).2.1 (TX10 28).2.2.1 ∈ wsX10_readWord := by decide +kernel
  have hw1 : Cond.fieldLink RX10 202 (TX10 27).1 (TX10 27).2.1 (TX10 27).2.2.1 ∈ wsX10_readWord := by decide +kernel
  have hw2 : Cond.fieldLink RX10 212 (TX10 29).1 (TX10 29).2.1 (TX10 29).2.2.1 ∈ wsX10_readWord := by decide +kernel
  have hw3 : Cond.fieldLink RX10 151 (TX10 13).1 (TX10 13).2.1 (TX10 13).2.2.1 ∈ wsX10_readWord := by decide +kernel
  have hw4 : Cond.fieldLink RX10 35 (TX10 12).1 (TX10 12).2.1 (TX10 12).2.2.1 ∈ wsX10_readWord := by decide +kernel
  have hw5 : Cond.constantLong RX10 215 97 ∈ wsX10_readWord := by decide +kernel
  have hw6 : Cond.constantLong RX10 217 122 ∈ wsX10_readWord := by decide +kernel
  have hw7 : Cond.constantLong RX10 219 1000000000 ∈ wsX10_readWord := by decide +kernel
  have hw8 : Cond.constantLong RX10 221 27 ∈ wsX10_readWord := by decide +kernel
  refine x_lveq (lv' := [(0, .ref qO)]) rfl ?_
  refine x_aload_n F dX10_readWord_0 rfl 0 rfl ?_
  refine x_callVi (ci := 10) (q0 := 0) (As := []) (st := []) F (c_X10_here D kI kJ l qO vO_blocks qO_stones qO_laid qO_deep vO_placings qO_placed vO_mortars qO_put qO_rates vO_limit vO_looks qO_seen qO_text vO_texted vO_faultPlace vO_clauses qO_rule qO_fresh vO_lots qO_stocks qO_row qO_dangers qO_losses vO_upper vO_lower qO_habitUpper qO_habitLower vO_at vO_word vO_wordEnd qO_chosen qO_lost qO_zones qO_way qO_spent qO_scaffolds fO_text hOs hOt hat) (cwV 0 F.2.2.2.2.1 gX10_readWord_X10_here rfl rfl rfl (by decide +kernel) ⟨Nat.le_of_ble_eq_true rfl, Nat.le_of_ble_eq_true rfl⟩) rfl rfl [0, 1] [] [0, 1] rfl rfl (by decide) (by decide) (by decide) (fun _ => rfl) (by decide) rfl (Nat.le_of_ble_eq_true rfl) dX10_readWord_1 ⟨Nat.le_of_ble_eq_true rfl, Nat.le_of_ble_eq_true rfl⟩ (fun z1 u1 h1 => ?_)
  obtain ⟨a2_1, rfl⟩ : ∃ z, z = u1 := ⟨_, rfl⟩
  try dsimp only at h1
  refine x_ws [(qO, .inr (10, [.int (jI vO_blocks), .ref qO_stones, .ref qO_laid, .ref qO_deep, .int (jI vO_placings), .ref qO_placed, .int (jI vO_mortars), .ref qO_put, .ref qO_rates, .int (jI vO_limit), .int (jI vO_looks), .ref qO_seen, .ref qO_text, .int (jI vO_texted), .int (jI vO_faultPlace), .int (jI vO_clauses), .ref qO_rule, .ref qO_fresh, .int (jI vO_lots), .ref qO_stocks, .ref qO_row, .ref qO_dangers, .ref qO_losses, .long (jL vO_upper), .long (jL vO_lower), .ref qO_habitUpper, .ref qO_habitLower, .int (jI a2_1), .long (jL vO_word), .int (jI vO_wordEnd), .ref qO_chosen, .ref qO_lost, .ref qO_zones, .ref qO_way, .ref qO_spent, .ref qO_scaffolds])), aI kI qO_text 120 fO_text] rfl ?_
  obtain ⟨he1, ha_1⟩ := h1
  have he1 := he1.symm
  subst he1
  have hsr := skp_rng (tx := fO_text) (sz := vO_texted) hat
  refine x_pop F dX10_readWord_4 rfl ?_
  refine x_aload_n F dX10_readWord_5 rfl 0 rfl ?_
  refine x_lconst F 0 dX10_readWord_6 (by decide) ?_
  refine x_put (ci := 10) F hin10 tyX10_ok nmX10 0 rfl rfl 28 (by decide) hw0 rfl rfl rfl (show 28 + 1 ≤ _ from Nat.le_of_ble_eq_true rfl) dX10_readWord_7 [(qO, .inr (10, [.int (jI vO_blocks), .ref qO_stones, .ref qO_laid, .ref qO_deep, .int (jI vO_placings), .ref qO_placed, .int (jI vO_mortars), .ref qO_put, .ref qO_rates, .int (jI vO_limit), .int (jI vO_looks), .ref qO_seen, .ref qO_text, .int (jI vO_texted), .int (jI vO_faultPlace), .int (jI vO_clauses), .ref qO_rule, .ref qO_fresh, .int (jI vO_lots), .ref qO_stocks, .ref qO_row, .ref qO_dangers, .ref qO_losses, .long (jL vO_upper), .long (jL vO_lower), .ref qO_habitUpper, .ref qO_habitLower, .int (jI a2_1), .long (jL 0), .int (jI vO_wordEnd), .ref qO_chosen, .ref qO_lost, .ref qO_zones, .ref qO_way, .ref qO_spent, .ref qO_scaffolds])), aI kI qO_text 120 fO_text] rfl ?_
  refine x_aload_n F dX10_readWord_10 rfl 0 rfl ?_
  refine x_aload_n F dX10_readWord_11 rfl 0 rfl ?_
  refine x_get (ci := 10) F hin10 0 rfl rfl 27 (by decide) hw1 rfl dX10_readWord_12 ?_
  refine x_put (ci := 10) F hin10 tyX10_ok nmX10 0 rfl rfl 29 (by decide) hw2 rfl rfl rfl (show 29 + 1 ≤ _ from Nat.le_of_ble_eq_true rfl) dX10_readWord_15 [(qO, .inr (10, [.int (jI vO_blocks), .ref qO_stones, .ref qO_laid, .ref qO_deep, .int (jI vO_placings), .ref qO_placed, .int (jI vO_mortars), .ref qO_put, .ref qO_rates, .int (jI vO_limit), .int (jI vO_looks), .ref qO_seen, .ref qO_text, .int (jI vO_texted), .int (jI vO_faultPlace), .int (jI vO_clauses), .ref qO_rule, .ref qO_fresh, .int (jI vO_lots), .ref qO_stocks, .ref qO_row, .ref qO_dangers, .ref qO_losses, .long (jL vO_upper), .long (jL vO_lower), .ref qO_habitUpper, .ref qO_habitLower, .int (jI a2_1), .long (jL 0), .int (jI a2_1), .ref qO_chosen, .ref qO_lost, .ref qO_zones, .ref qO_way, .ref qO_spent, .ref qO_scaffolds])), aI kI qO_text 120 fO_text] rfl ?_
  have lp18 : ∀ (fu : Nat) (w9 : Int) (e9 : Int) (he9 : a2_1 ≤ e9 ∧ e9 ≤ vO_texted) (hw9 : w9 = wrd fO_text a2_1 e9) (hwe : wde fO_text vO_texted e9 = wde fO_text vO_texted a2_1) (hwr : 0 ≤ w9 ∧ w9 ≤ 27000000026) (hm : vO_texted - e9 < (fu : Int)), xG D p l e (xRm 2 57 0 0) s m args below meth c 1 A Q 0 0 [(qO, .inr (10, [.int (jI vO_blocks), .ref qO_stones, .ref qO_laid, .ref qO_deep, .int (jI vO_placings), .ref qO_placed, .int (jI vO_mortars), .ref qO_put, .ref qO_rates, .int (jI vO_limit), .int (jI vO_looks), .ref qO_seen, .ref qO_text, .int (jI vO_texted), .int (jI vO_faultPlace), .int (jI vO_clauses), .ref qO_rule, .ref qO_fresh, .int (jI vO_lots), .ref qO_stocks, .ref qO_row, .ref qO_dangers, .ref qO_losses, .long (jL vO_upper), .long (jL vO_lower), .ref qO_habitUpper, .ref qO_habitLower, .int (jI a2_1), .long (jL w9), .int (jI e9), .ref qO_chosen, .ref qO_lost, .ref qO_zones, .ref qO_way, .ref qO_spent, .ref qO_scaffolds])), aI kI qO_text 120 fO_text] [(0, .ref qO)] 18 [] := by
    intro fu
    induction fu with
    | zero =>
      intro w9 e9 he9 hw9 hwe hwr hm
      exact absurd hm (by omega)
    | succ fu ih18 =>
      intro w9 e9 he9 hw9 hwe hwr hm
      refine x_aload_n F dX10_readWord_18 rfl 0 rfl ?_
      refine x_get (ci := 10) F hin10 0 rfl rfl 29 (by decide) hw2 rfl dX10_readWord_19 ?_
      refine x_aload_n F dX10_readWord_22 rfl 0 rfl ?_
      refine x_get (ci := 10) F hin10 0 rfl rfl 13 (by decide) hw3 rfl dX10_readWord_23 ?_
      refine x_icmp_ge (tgt := 111) F dX10_readWord_26 (by decide) (by omega) (fun c26 => ?_) (fun c26 => ?_)
      · -- 26 t
        exact hret 0 0 111 _ (w9, e9, a2_1) (Nat.le_of_ble_eq_true rfl) (Nat.le_of_ble_eq_true rfl) dX10_readWord_111 (by (try dsimp only); exact (⟨ha_1, by rw [← hwe]; exact (sc_stop (by omega)).symm, hw9, hwr⟩))
      · -- 26 f
        refine x_aload_n F dX10_readWord_29 rfl 0 rfl ?_
        refine x_get (ci := 10) F hin10 0 rfl rfl 12 (by decide) hw4 rfl dX10_readWord_30 ?_
        refine x_aload_n F dX10_readWord_33 rfl 0 rfl ?_
        refine x_get (ci := 10) F hin10 0 rfl rfl 29 (by decide) hw2 rfl dX10_readWord_34 ?_
        refine x_iald F 1 rfl (by decide) (by omega) dX10_readWord_37 ?_
        have hr37 := Rg.at hOt e9 (by omega)
        refine x_i2l F dX10_readWord_38 (by omega) ?_
        refine x_ldc2 F 97 hw5 (by decide) dX10_readWord_39 ?_
        refine x_ldc2 F 122 hw6 (by decide) dX10_readWord_42 ?_
        refine x_callSi (As := [.long (jL (fO_text e9)), .long (jL 97), .long (jL 122)]) (st := []) F (c_X10_in D kI kJ l (fO_text e9) 97 122 (by omega) (by omega) (by omega)) (va_cwS 3 F.2.2.2.2.1 gX10_readWord_X10_in rfl rfl rfl (by decide +kernel) ⟨Nat.le_of_ble_eq_true rfl, Nat.le_of_ble_eq_true rfl⟩) [] [0, 1] [0, 1] rfl rfl (by decide) (by decide) (by decide) (fun _ => rfl) (by decide) rfl (Nat.le_of_ble_eq_true rfl) dX10_readWord_45 ⟨Nat.le_of_ble_eq_true rfl, Nat.le_of_ble_eq_true rfl⟩ (fun z45 u45 h45 => ?_)
        try dsimp only at h45
        refine x_ws [(qO, .inr (10, [.int (jI vO_blocks), .ref qO_stones, .ref qO_laid, .ref qO_deep, .int (jI vO_placings), .ref qO_placed, .int (jI vO_mortars), .ref qO_put, .ref qO_rates, .int (jI vO_limit), .int (jI vO_looks), .ref qO_seen, .ref qO_text, .int (jI vO_texted), .int (jI vO_faultPlace), .int (jI vO_clauses), .ref qO_rule, .ref qO_fresh, .int (jI vO_lots), .ref qO_stocks, .ref qO_row, .ref qO_dangers, .ref qO_losses, .long (jL vO_upper), .long (jL vO_lower), .ref qO_habitUpper, .ref qO_habitLower, .int (jI a2_1), .long (jL w9), .int (jI e9), .ref qO_chosen, .ref qO_lost, .ref qO_zones, .ref qO_way, .ref qO_spent, .ref qO_scaffolds])), aI kI qO_text 120 fO_text] rfl ?_
        have hb45 := h45
        refine x_beq (tgt := 111) F dX10_readWord_48 (by decide) hb45 (fun c48 => ?_) (fun c48 => ?_)
        · -- 48 t
          exact hret 0 0 111 _ (w9, e9, a2_1) (Nat.le_of_ble_eq_true rfl) (Nat.le_of_ble_eq_true rfl) dX10_readWord_111 (by (try dsimp only); exact (⟨ha_1, by rw [← hwe]; exact (sc_stop (by omega)).symm, hw9, hwr⟩))
        · -- 48 f
          have jn95 : ∀ (w8 : Int) (hwj : w8 = wrd fO_text a2_1 (e9 + 1)) (hwq : 0 ≤ w8 ∧ w8 ≤ 27000000026), xG D p l e (xRm 2 57 0 0) s m args below meth c 1 A Q 0 0 [(qO, .inr (10, [.int (jI vO_blocks), .ref qO_stones, .ref qO_laid, .ref qO_deep, .int (jI vO_placings), .ref qO_placed, .int (jI vO_mortars), .ref qO_put, .ref qO_rates, .int (jI vO_limit), .int (jI vO_looks), .ref qO_seen, .ref qO_text, .int (jI vO_texted), .int (jI vO_faultPlace), .int (jI vO_clauses), .ref qO_rule, .ref qO_fresh, .int (jI vO_lots), .ref qO_stocks, .ref qO_row, .ref qO_dangers, .ref qO_losses, .long (jL vO_upper), .long (jL vO_lower), .ref qO_habitUpper, .ref qO_habitLower, .int (jI a2_1), .long (jL w9), .int (jI e9), .ref qO_chosen, .ref qO_lost, .ref qO_zones, .ref qO_way, .ref qO_spent, .ref qO_scaffolds])), aI kI qO_text 120 fO_text] [(0, .ref qO)] 95 [.long (jL w8), .ref qO] := by
            intro w8 hwj hwq
            refine x_put (ci := 10) F hin10 tyX10_ok nmX10 0 rfl rfl 28 (by decide) hw0 rfl rfl rfl (show 28 + 1 ≤ _ from Nat.le_of_ble_eq_true rfl) dX10_readWord_95 [(qO, .inr (10, [.int (jI vO_blocks), .ref qO_stones, .ref qO_laid, .ref qO_deep, .int (jI vO_placings), .ref qO_placed, .int (jI vO_mortars), .ref qO_put, .ref qO_rates, .int (jI vO_limit), .int (jI vO_looks), .ref qO_seen, .ref qO_text, .int (jI vO_texted), .int (jI vO_faultPlace), .int (jI vO_clauses), .ref qO_rule, .ref qO_fresh, .int (jI vO_lots), .ref qO_stocks, .ref qO_row, .ref qO_dangers, .ref qO_losses, .long (jL vO_upper), .long (jL vO_lower), .ref qO_habitUpper, .ref qO_habitLower, .int (jI a2_1), .long (jL w8), .int (jI e9), .ref qO_chosen, .ref qO_lost, .ref qO_zones, .ref qO_way, .ref qO_spent, .ref qO_scaffolds])), aI kI qO_text 120 fO_text] rfl ?_
            refine x_aload_n F dX10_readWord_98 rfl 0 rfl ?_
            refine x_dup F dX10_readWord_99 rfl ?_
            refine x_get (ci := 10) F hin10 0 rfl rfl 29 (by decide) hw2 rfl dX10_readWord_100 ?_
            refine x_iconst F dX10_readWord_103 ?_
            refine x_iadd F dX10_readWord_104 ?_
            refine x_put (ci := 10) F hin10 tyX10_ok nmX10 0 rfl rfl 29 (by decide) hw2 rfl rfl rfl (show 29 + 1 ≤ _ from Nat.le_of_ble_eq_true rfl) dX10_readWord_105 [(qO, .inr (10, [.int (jI vO_blocks), .ref qO_stones, .ref qO_laid, .ref qO_deep, .int (jI vO_placings), .ref qO_placed, .int (jI vO_mortars), .ref qO_put, .ref qO_rates, .int (jI vO_limit), .int (jI vO_looks), .ref qO_seen, .ref qO_text, .int (jI vO_texted), .int (jI vO_faultPlace), .int (jI vO_clauses), .ref qO_rule, .ref qO_fresh, .int (jI vO_lots), .ref qO_stocks, .ref qO_row, .ref qO_dangers, .ref qO_losses, .long (jL vO_upper), .long (jL vO_lower), .ref qO_habitUpper, .ref qO_habitLower, .int (jI a2_1), .long (jL w8), .int (jI (e9 + 1)), .ref qO_chosen, .ref qO_lost, .ref qO_zones, .ref qO_way, .ref qO_spent, .ref qO_scaffolds])), aI kI qO_text 120 fO_text] rfl ?_
            refine x_goto (tgt := 18) F dX10_readWord_108 (by decide) ?_
            exact ih18 w8 (e9 + 1) (by omega) hwj (by rw [← hwe]; exact (sc_go (by omega)).symm) (by omega) (by omega)
          refine x_aload_n F dX10_readWord_51 rfl 0 rfl ?_
          refine x_aload_n F dX10_readWord_52 rfl 0 rfl ?_
          refine x_get (ci := 10) F hin10 0 rfl rfl 28 (by decide) hw0 rfl dX10_readWord_53 ?_
          refine x_ldc2 F 1000000000 hw7 (by decide) dX10_readWord_56 ?_
          refine x_lcmp F dX10_readWord_59 (by omega) ?_
          refine x_if_le (tgt := 70) F dX10_readWord_60 (by decide) (jC_rng _ _) (fun c60 => ?_) (fun c60 => ?_)
          · -- 60 t
            rw [jC_le] at c60
            refine x_ldc2 F 27 hw8 (by decide) dX10_readWord_70 ?_
            refine x_aload_n F dX10_readWord_73 rfl 0 rfl ?_
            refine x_get (ci := 10) F hin10 0 rfl rfl 28 (by decide) hw0 rfl dX10_readWord_74 ?_
            refine x_lmul F dX10_readWord_77 ?_
            refine x_aload_n F dX10_readWord_78 rfl 0 rfl ?_
            refine x_get (ci := 10) F hin10 0 rfl rfl 12 (by decide) hw4 rfl dX10_readWord_79 ?_
            refine x_aload_n F dX10_readWord_82 rfl 0 rfl ?_
            refine x_get (ci := 10) F hin10 0 rfl rfl 29 (by decide) hw2 rfl dX10_readWord_83 ?_
            refine x_iald F 1 rfl (by decide) (by omega) dX10_readWord_86 ?_
            have hr86 := Rg.at hOt e9 (by omega)
            refine x_i2l F dX10_readWord_87 (by omega) ?_
            refine x_ladd F dX10_readWord_88 ?_
            refine x_ldc2 F 97 hw5 (by decide) dX10_readWord_89 ?_
            refine x_lsub F dX10_readWord_92 ?_
            refine x_lconst F 1 dX10_readWord_93 (by decide) ?_
            refine x_ladd F dX10_readWord_94 ?_
            exact jn95 ((((27 * w9) + (fO_text e9)) - 97) + 1) (by rw [wrd_s (by omega), ← hw9]; first | exact (if_pos (by omega)).symm | (rw [if_neg (by omega)]; omega)) (by omega)
          · -- 60 f
            rw [jC_le] at c60
            refine x_aload_n F dX10_readWord_63 rfl 0 rfl ?_
            refine x_get (ci := 10) F hin10 0 rfl rfl 28 (by decide) hw0 rfl dX10_readWord_64 ?_
            refine x_goto (tgt := 95) F dX10_readWord_67 (by decide) ?_
            exact jn95 w9 (by rw [wrd_s (by omega), ← hw9]; first | exact (if_pos (by omega)).symm | (rw [if_neg (by omega)]; omega)) (by omega)
  exact lp18 (Int.toNat (vO_texted - a2_1) + 1) 0 a2_1 (by omega) ((wrd_0 _ _).symm) rfl (by omega) (by omega)
set_option maxHeartbeats 4000000 in
set_option maxRecDepth 100000 in
theorem c_X10_code (D : va_G) (kI kJ : Nat) (l : Launch) (x1 : Int) (x2 : Int) (x3 : Int) (x4 : Int) (x5 : Int) (x6 : Int) (hx1 : 0 ≤ x1 ∧ x1 ≤ 200) (hx2 : 0 ≤ x2 ∧ x2 ≤ 200) (hx3 : 0 ≤ x3 ∧ x3 ≤ 200) (hx4 : 0 ≤ x4 ∧ x4 ≤ 200) (hx5 : 0 ≤ x5 ∧ x5 ≤ 200) (hx6 : 0 ≤ x6 ∧ x6 ≤ 200) : xMl D kI kJ l yX10_code wsX10_code 1 32 0 0 [.int (jI x1), .int (jI x2), .int (jI x3), .int (jI x4), .int (jI x5), .int (jI x6)] [] (fun (z : Int) (u : Unit) => z = cdv x1 x2 x3 x4 x5 x6) (fun (u : Unit) => []) := by
  refine xMl_of (cc := cX10_code) (maxL := 8) (by decide) rfl (Nat.le_of_ble_eq_true rfl) ?_
  intro p e s m args below meth c A Q F hin2 hret
  have hw0 : Cond.constantLong RX10 221 27 ∈ wsX10_code := by decide +kernel
  have hw1 : Cond.constantLong RX10 223 96 ∈ wsX10_code := by decide +kernel
  refine x_lveq (lv' := [(0, .int (jI x1)), (1, .int (jI x2)), (2, .int (jI x3)), (3, .int (jI x4)), (4, .int (jI x5)), (5, .int (jI x6))]) rfl ?_
  refine x_ldc2 F 27 hw0 (by decide) dX10_code_0 ?_
  refine x_ldc2 F 27 hw0 (by decide) dX10_code_3 ?_
  refine x_iload_n F dX10_code_6 rfl 0 rfl ?_
  refine x_i2l F dX10_code_7 (by omega) ?_
  refine x_ldc2 F 96 hw1 (by decide) dX10_code_8 ?_
  refine x_lsub F dX10_code_11 ?_
  refine x_lmul F dX10_code_12 ?_
  refine x_iload_n F dX10_code_13 rfl 1 rfl ?_
  refine x_i2l F dX10_code_14 (by omega) ?_
  refine x_ladd F dX10_code_15 ?_
  refine x_ldc2 F 96 hw1 (by decide) dX10_code_16 ?_
  refine x_lsub F dX10_code_19 ?_
  refine x_lmul F dX10_code_20 ?_
  refine x_iload_n F dX10_code_21 rfl 2 rfl ?_
  refine x_i2l F dX10_code_22 (by omega) ?_
  refine x_ladd F dX10_code_23 ?_
  refine x_ldc2 F 96 hw1 (by decide) dX10_code_24 ?_
  refine x_lsub F dX10_code_27 ?_
  refine x_lstore (lv' := [(0, .int (jI x1)), (1, .int (jI x2)), (2, .int (jI x3)), (3, .int (jI x4)), (4, .int (jI x5)), (5, .int (jI x6)), (6, .long (jL (((27 * (((27 * (x1 - 96)) + x2) - 96)) + x3) - 96)))]) F dX10_code_28 (by decide) [1, 2, 3, 4, 5, 6, 0] rfl ?_
  refine x_iload_n F dX10_code_30 rfl 3 rfl ?_
  refine x_if_ne (tgt := 39) F dX10_code_31 (by decide) (by omega) (fun c31 => ?_) (fun c31 => ?_)
  · -- 31 t
    refine x_ldc2 F 27 hw0 (by decide) dX10_code_39 ?_
    refine x_lload F dX10_code_42 6 rfl ?_
    refine x_lmul F dX10_code_44 ?_
    refine x_iload_n F dX10_code_45 rfl 3 rfl ?_
    refine x_i2l F dX10_code_46 (by omega) ?_
    refine x_ladd F dX10_code_47 ?_
    refine x_ldc2 F 96 hw1 (by decide) dX10_code_48 ?_
    refine x_lsub F dX10_code_51 ?_
    refine x_lstore (lv' := [(0, .int (jI x1)), (1, .int (jI x2)), (2, .int (jI x3)), (3, .int (jI x4)), (4, .int (jI x5)), (5, .int (jI x6)), (6, .long (jL (((27 * (((27 * (((27 * (x1 - 96)) + x2) - 96)) + x3) - 96)) + x4) - 96)))]) F dX10_code_52 (by decide) [1, 2, 3, 4, 5, 6, 0] rfl ?_
    refine x_iload F dX10_code_54 4 rfl ?_
    refine x_if_ne (tgt := 64) F dX10_code_56 (by decide) (by omega) (fun c56 => ?_) (fun c56 => ?_)
    · -- 56 t
      refine x_ldc2 F 27 hw0 (by decide) dX10_code_64 ?_
      refine x_lload F dX10_code_67 6 rfl ?_
      refine x_lmul F dX10_code_69 ?_
      refine x_iload F dX10_code_70 4 rfl ?_
      refine x_i2l F dX10_code_72 (by omega) ?_
      refine x_ladd F dX10_code_73 ?_
      refine x_ldc2 F 96 hw1 (by decide) dX10_code_74 ?_
      refine x_lsub F dX10_code_77 ?_
      refine x_lstore (lv' := [(0, .int (jI x1)), (1, .int (jI x2)), (2, .int (jI x3)), (3, .int (jI x4)), (4, .int (jI x5)), (5, .int (jI x6)), (6, .long (jL (((27 * (((27 * (((27 * (((27 * (x1 - 96)) + x2) - 96)) + x3) - 96)) + x4) - 96)) + x5) - 96)))]) F dX10_code_78 (by decide) [1, 2, 3, 4, 5, 6, 0] rfl ?_
      refine x_iload F dX10_code_80 5 rfl ?_
      refine x_if_ne (tgt := 90) F dX10_code_82 (by decide) (by omega) (fun c82 => ?_) (fun c82 => ?_)
      · -- 82 t
        refine x_ldc2 F 27 hw0 (by decide) dX10_code_90 ?_
        refine x_lload F dX10_code_93 6 rfl ?_
        refine x_lmul F dX10_code_95 ?_
        refine x_iload F dX10_code_96 5 rfl ?_
        refine x_i2l F dX10_code_98 (by omega) ?_
        refine x_ladd F dX10_code_99 ?_
        refine x_ldc2 F 96 hw1 (by decide) dX10_code_100 ?_
        refine x_lsub F dX10_code_103 ?_
        exact hret 0 0 104 _ (((27 * (((27 * (((27 * (((27 * (((27 * (x1 - 96)) + x2) - 96)) + x3) - 96)) + x4) - 96)) + x5) - 96)) + x6) - 96) () (Nat.le_of_ble_eq_true rfl) (Nat.le_of_ble_eq_true rfl) dX10_code_104 (by unfold cdv cd1; (repeat' split) <;> omega)
      · -- 82 f
        refine x_lload F dX10_code_85 6 rfl ?_
        refine x_goto (tgt := 104) F dX10_code_87 (by decide) ?_
        exact hret 0 0 104 _ (((27 * (((27 * (((27 * (((27 * (x1 - 96)) + x2) - 96)) + x3) - 96)) + x4) - 96)) + x5) - 96) () (Nat.le_of_ble_eq_true rfl) (Nat.le_of_ble_eq_true rfl) dX10_code_104 (by unfold cdv cd1; (repeat' split) <;> omega)
    · -- 56 f
      refine x_lload F dX10_code_59 6 rfl ?_
      refine x_goto (tgt := 78) F dX10_code_61 (by decide) ?_
      refine x_lstore (lv' := [(0, .int (jI x1)), (1, .int (jI x2)), (2, .int (jI x3)), (3, .int (jI x4)), (4, .int (jI x5)), (5, .int (jI x6)), (6, .long (jL (((27 * (((27 * (((27 * (x1 - 96)) + x2) - 96)) + x3) - 96)) + x4) - 96)))]) F dX10_code_78 (by decide) [1, 2, 3, 4, 5, 6, 0] rfl ?_
      refine x_iload F dX10_code_80 5 rfl ?_
      refine x_if_ne (tgt := 90) F dX10_code_82 (by decide) (by omega) (fun c82 => ?_) (fun c82 => ?_)
      · -- 82 t
        refine x_ldc2 F 27 hw0 (by decide) dX10_code_90 ?_
        refine x_lload F dX10_code_93 6 rfl ?_
        refine x_lmul F dX10_code_95 ?_
        refine x_iload F dX10_code_96 5 rfl ?_
        refine x_i2l F dX10_code_98 (by omega) ?_
        refine x_ladd F dX10_code_99 ?_
        refine x_ldc2 F 96 hw1 (by decide) dX10_code_100 ?_
        refine x_lsub F dX10_code_103 ?_
        exact hret 0 0 104 _ (((27 * (((27 * (((27 * (((27 * (x1 - 96)) + x2) - 96)) + x3) - 96)) + x4) - 96)) + x6) - 96) () (Nat.le_of_ble_eq_true rfl) (Nat.le_of_ble_eq_true rfl) dX10_code_104 (by unfold cdv cd1; (repeat' split) <;> omega)
      · -- 82 f
        refine x_lload F dX10_code_85 6 rfl ?_
        refine x_goto (tgt := 104) F dX10_code_87 (by decide) ?_
        exact hret 0 0 104 _ (((27 * (((27 * (((27 * (x1 - 96)) + x2) - 96)) + x3) - 96)) + x4) - 96) () (Nat.le_of_ble_eq_true rfl) (Nat.le_of_ble_eq_true rfl) dX10_code_104 (by unfold cdv cd1; (repeat' split) <;> omega)
  · -- 31 f
    refine x_lload F dX10_code_34 6 rfl ?_
    refine x_goto (tgt := 52) F dX10_code_36 (by decide) ?_
    refine x_lstore (lv' := [(0, .int (jI x1)), (1, .int (jI x2)), (2, .int (jI x3)), (3, .int (jI x4)), (4, .int (jI x5)), (5, .int (jI x6)), (6, .long (jL (((27 * (((27 * (x1 - 96)) + x2) - 96)) + x3) - 96)))]) F dX10_code_52 (by decide) [1, 2, 3, 4, 5, 6, 0] rfl ?_
    refine x_iload F dX10_code_54 4 rfl ?_
    refine x_if_ne (tgt := 64) F dX10_code_56 (by decide) (by omega) (fun c56 => ?_) (fun c56 => ?_)
    · -- 56 t
      refine x_ldc2 F 27 hw0 (by decide) dX10_code_64 ?_
      refine x_lload F dX10_code_67 6 rfl ?_
      refine x_lmul F dX10_code_69 ?_
      refine x_iload F dX10_code_70 4 rfl ?_
      refine x_i2l F dX10_code_72 (by omega) ?_
      refine x_ladd F dX10_code_73 ?_
      refine x_ldc2 F 96 hw1 (by decide) dX10_code_74 ?_
      refine x_lsub F dX10_code_77 ?_
      refine x_lstore (lv' := [(0, .int (jI x1)), (1, .int (jI x2)), (2, .int (jI x3)), (3, .int (jI x4)), (4, .int (jI x5)), (5, .int (jI x6)), (6, .long (jL (((27 * (((27 * (((27 * (x1 - 96)) + x2) - 96)) + x3) - 96)) + x5) - 96)))]) F dX10_code_78 (by decide) [1, 2, 3, 4, 5, 6, 0] rfl ?_
      refine x_iload F dX10_code_80 5 rfl ?_
      refine x_if_ne (tgt := 90) F dX10_code_82 (by decide) (by omega) (fun c82 => ?_) (fun c82 => ?_)
      · -- 82 t
        refine x_ldc2 F 27 hw0 (by decide) dX10_code_90 ?_
        refine x_lload F dX10_code_93 6 rfl ?_
        refine x_lmul F dX10_code_95 ?_
        refine x_iload F dX10_code_96 5 rfl ?_
        refine x_i2l F dX10_code_98 (by omega) ?_
        refine x_ladd F dX10_code_99 ?_
        refine x_ldc2 F 96 hw1 (by decide) dX10_code_100 ?_
        refine x_lsub F dX10_code_103 ?_
        exact hret 0 0 104 _ (((27 * (((27 * (((27 * (((27 * (x1 - 96)) + x2) - 96)) + x3) - 96)) + x5) - 96)) + x6) - 96) () (Nat.le_of_ble_eq_true rfl) (Nat.le_of_ble_eq_true rfl) dX10_code_104 (by unfold cdv cd1; (repeat' split) <;> omega)
      · -- 82 f
        refine x_lload F dX10_code_85 6 rfl ?_
        refine x_goto (tgt := 104) F dX10_code_87 (by decide) ?_
        exact hret 0 0 104 _ (((27 * (((27 * (((27 * (x1 - 96)) + x2) - 96)) + x3) - 96)) + x5) - 96) () (Nat.le_of_ble_eq_true rfl) (Nat.le_of_ble_eq_true rfl) dX10_code_104 (by unfold cdv cd1; (repeat' split) <;> omega)
    · -- 56 f
      refine x_lload F dX10_code_59 6 rfl ?_
      refine x_goto (tgt := 78) F dX10_code_61 (by decide) ?_
      refine x_lstore (lv' := [(0, .int (jI x1)), (1, .int (jI x2)), (2, .int (jI x3)), (3, .int (jI x4)), (4, .int (jI x5)), (5, .int (jI x6)), (6, .long (jL (((27 * (((27 * (x1 - 96)) + x2) - 96)) + x3) - 96)))]) F dX10_code_78 (by decide) [1, 2, 3, 4, 5, 6, 0] rfl ?_
      refine x_iload F dX10_code_80 5 rfl ?_
      refine x_if_ne (tgt := 90) F dX10_code_82 (by decide) (by omega) (fun c82 => ?_) (fun c82 => ?_)
      · -- 82 t
        refine x_ldc2 F 27 hw0 (by decide) dX10_code_90 ?_
        refine x_lload F dX10_code_93 6 rfl ?_
        refine x_lmul F dX10_code_95 ?_
        refine x_iload F dX10_code_96 5 rfl ?_
        refine x_i2l F dX10_code_98 (by omega) ?_
        refine x_ladd F dX10_code_99 ?_
        refine x_ldc2 F 96 hw1 (by decide) dX10_code_100 ?_
        refine x_lsub F dX10_code_103 ?_
        exact hret 0 0 104 _ (((27 * (((27 * (((27 * (x1 - 96)) + x2) - 96)) + x3) - 96)) + x6) - 96) () (Nat.le_of_ble_eq_true rfl) (Nat.le_of_ble_eq_true rfl) dX10_code_104 (by unfold cdv cd1; (repeat' split) <;> omega)
      · -- 82 f
        refine x_lload F dX10_code_85 6 rfl ?_
        refine x_goto (tgt := 104) F dX10_code_87 (by decide) ?_
        exact hret 0 0 104 _ (((27 * (((27 * (x1 - 96)) + x2) - 96)) + x3) - 96) () (Nat.le_of_ble_eq_true rfl) (Nat.le_of_ble_eq_true rfl) dX10_code_104 (by unfold cdv cd1; (repeat' split) <;> omega)
set_option maxHeartbeats 4000000 in
set_option maxRecDepth 100000 in
theorem c_X10_nameOf (D : va_G) (kI kJ : Nat) (l : Launch) (qO : Nat) (vO_blocks : Int) (qO_stones : Nat) (qO_laid : Nat) (qO_deep : Nat) (vO_placings : Int) (qO_placed : Nat) (vO_mortars : Int) (qO_put : Nat) (qO_rates : Nat) (vO_limit : Int) (vO_looks : Int) (qO_seen : Nat) (qO_text : Nat) (vO_texted : Int) (vO_faultPlace : Int) (vO_clauses : Int) (qO_rule : Nat) (qO_fresh : Nat) (vO_lots : Int) (qO_stocks : Nat) (qO_row : Nat) (qO_dangers : Nat) (qO_losses : Nat) (vO_upper : Int) (vO_lower : Int) (qO_habitUpper : Nat) (qO_habitLower : Nat) (vO_at : Int) (vO_word : Int) (vO_wordEnd : Int) (qO_chosen : Nat) (qO_lost : Nat) (qO_zones : Nat) (qO_way : Nat) (qO_spent : Nat) (qO_scaffolds : Nat) (hwd : 0 ≤ vO_word ∧ vO_word ≤ 27000000026) : xMi D kI kJ l yX10_nameOf wsX10_nameOf 2 59 0 0 [.ref qO] [(qO, .inr (10, [.int (jI vO_blocks), .ref qO_stones, .ref qO_laid, .ref qO_deep, .int (jI vO_placings), .ref qO_placed, .int (jI vO_mortars), .ref qO_put, .ref qO_rates, .int (jI vO_limit), .int (jI vO_looks), .ref qO_seen, .ref qO_text, .int (jI vO_texted), .int (jI vO_faultPlace), .int (jI vO_clauses), .ref qO_rule, .ref qO_fresh, .int (jI vO_lots), .ref qO_stocks, .ref qO_row, .ref qO_dangers, .ref qO_losses, .long (jL vO_upper), .long (jL vO_lower), .ref qO_habitUpper, .ref qO_habitLower, .int (jI vO_at), .long (jL vO_word), .int (jI vO_wordEnd), .ref qO_chosen, .ref qO_lost, .ref qO_zones, .ref qO_way, .ref qO_spent, .ref qO_scaffolds]))] (fun (z : Int) (u : Unit) => z = nmW vO_word) (fun (u : Unit) => [(qO, .inr (10, [.int (jI vO_blocks), .ref qO_stones, .ref qO_laid, .ref qO_deep, .int (jI vO_placings), .ref qO_placed, .int (jI vO_mortars), .ref qO_put, .ref qO_rates, .int (jI vO_limit), .int (jI vO_looks), .ref qO_seen, .ref qO_text, .int (jI vO_texted), .int (jI vO_faultPlace), .int (jI vO_clauses), .ref qO_rule, .ref qO_fresh, .int (jI vO_lots), .ref qO_stocks, .ref qO_row, .ref qO_dangers, .ref qO_losses, .long (jL vO_upper), .long (jL vO_lower), .ref qO_habitUpper, .ref qO_habitLower, .int (jI vO_at), .long (jL vO_word), .int (jI vO_wordEnd), .ref qO_chosen, .ref qO_lost, .ref qO_zones, .ref qO_way, .ref qO_spent, .ref qO_scaffolds]))]) := by
  refine xMi_of (cc := cX10_nameOf) (maxL := 3) (rt := .int) (by decide) rfl (Nat.le_of_ble_eq_true rfl) (fun _ _ _ => rfl) ?_
  intro p e s m args below meth c A Q F hin2 hret
  have hin10 : ∀ w ∈ wsX100, w ∈ wsX10_nameOf := by decide +kernel
  have hw0 : Cond.fieldLink RX10 209 (TX10 28).1 (TX10 28).2.1 (TX10 28).2.2.1 ∈ wsX10_nameOf := by decide +kernel
  refine x_lveq (lv' := [(0, .ref qO)]) rfl ?_
  refine x_aload_n F dX10_nameOf_0 rfl 0 rfl ?_
  refine x_get (ci := 10) F hin10 0 rfl rfl 28 (by decide) hw0 rfl dX10_nameOf_1 ?_
  refine x_lstore_n (lv' := [(0, .ref qO), (1, .long (jL vO_word))]) F dX10_nameOf_4 rfl (by decide) [1, 0] rfl ?_
  refine x_lload_n F dX10_nameOf_5 rfl 1 rfl ?_
  refine x_bipush F dX10_nameOf_6 (by decide) ?_
  refine x_bipush F dX10_nameOf_8 (by decide) ?_
  refine x_bipush F dX10_nameOf_10 (by decide) ?_
  refine x_bipush F dX10_nameOf_12 (by decide) ?_
  refine x_iconst F dX10_nameOf_14 ?_
  refine x_iconst F dX10_nameOf_15 ?_
  refine x_callSl (As := [.int (jI 108), .int (jI 111), .int (jI 115), .int (jI 116), .int (jI 0), .int (jI 0)]) (st := [.long (jL vO_word)]) F (c_X10_code D kI kJ l 108 111 115 116 0 0 (by omega) (by omega) (by omega) (by omega) (by omega) (by omega)) (va_cwS 6 F.2.2.2.2.1 gX10_nameOf_X10_code rfl rfl rfl (by decide +kernel) ⟨Nat.le_of_ble_eq_true rfl, Nat.le_of_ble_eq_true rfl⟩) [] [0] [0] rfl rfl (by decide) (by decide) (by decide) (fun _ => rfl) (by decide) rfl (Nat.le_of_ble_eq_true rfl) dX10_nameOf_16 ⟨Nat.le_of_ble_eq_true rfl, Nat.le_of_ble_eq_true rfl⟩ (fun z16 u16 h16 => ?_)
  try dsimp only at h16
  refine x_ws [(qO, .inr (10, [.int (jI vO_blocks), .ref qO_stones, .ref qO_laid, .ref qO_deep, .int (jI vO_placings), .ref qO_placed, .int (jI vO_mortars), .ref qO_put, .ref qO_rates, .int (jI vO_limit), .int (jI vO_looks), .ref qO_seen, .ref qO_text, .int (jI vO_texted), .int (jI vO_faultPlace), .int (jI vO_clauses), .ref qO_rule, .ref qO_fresh, .int (jI vO_lots), .ref qO_stocks, .ref qO_row, .ref qO_dangers, .ref qO_losses, .long (jL vO_upper), .long (jL vO_lower), .ref qO_habitUpper, .ref qO_habitLower, .int (jI vO_at), .long (jL vO_word), .int (jI vO_wordEnd), .ref qO_chosen, .ref qO_lost, .ref qO_zones, .ref qO_way, .ref qO_spent, .ref qO_scaffolds]))] rfl ?_
  have he16 := h16
  have he16 := he16.symm
  subst he16
  have hk16 : cdv 108 111 115 116 0 0 = 247664 := by decide
  refine x_lcmp F dX10_nameOf_19 (by omega) ?_
  refine x_if_ne (tgt := 27) F dX10_nameOf_20 (by decide) (jC_rng _ _) (fun c20 => ?_) (fun c20 => ?_)
  · -- 20 t
    rw [jC_eq] at c20
    refine x_lload_n F dX10_nameOf_27 rfl 1 rfl ?_
    refine x_bipush F dX10_nameOf_28 (by decide) ?_
    refine x_bipush F dX10_nameOf_30 (by decide) ?_
    refine x_bipush F dX10_nameOf_32 (by decide) ?_
    refine x_bipush F dX10_nameOf_34 (by decide) ?_
    refine x_bipush F dX10_nameOf_36 (by decide) ?_
    refine x_iconst F dX10_nameOf_38 ?_
    refine x_callSl (As := [.int (jI 115), .int (jI 116), .int (jI 97), .int (jI 116), .int (jI 101), .int (jI 0)]) (st := [.long (jL vO_word)]) F (c_X10_code D kI kJ l 115 116 97 116 101 0 (by omega) (by omega) (by omega) (by omega) (by omega) (by omega)) (va_cwS 6 F.2.2.2.2.1 gX10_nameOf_X10_code rfl rfl rfl (by decide +kernel) ⟨Nat.le_of_ble_eq_true rfl, Nat.le_of_ble_eq_true rfl⟩) [] [0] [0] rfl rfl (by decide) (by decide) (by decide) (fun _ => rfl) (by decide) rfl (Nat.le_of_ble_eq_true rfl) dX10_nameOf_39 ⟨Nat.le_of_ble_eq_true rfl, Nat.le_of_ble_eq_true rfl⟩ (fun z39 u39 h39 => ?_)
    try dsimp only at h39
    refine x_ws [(qO, .inr (10, [.int (jI vO_blocks), .ref qO_stones, .ref qO_laid, .ref qO_deep, .int (jI vO_placings), .ref qO_placed, .int (jI vO_mortars), .ref qO_put, .ref qO_rates, .int (jI vO_limit), .int (jI vO_looks), .ref qO_seen, .ref qO_text, .int (jI vO_texted), .int (jI vO_faultPlace), .int (jI vO_clauses), .ref qO_rule, .ref qO_fresh, .int (jI vO_lots), .ref qO_stocks, .ref qO_row, .ref qO_dangers, .ref qO_losses, .long (jL vO_upper), .long (jL vO_lower), .ref qO_habitUpper, .ref qO_habitLower, .int (jI vO_at), .long (jL vO_word), .int (jI vO_wordEnd), .ref qO_chosen, .ref qO_lost, .ref qO_zones, .ref qO_way, .ref qO_spent, .ref qO_scaffolds]))] rfl ?_
    have he39 := h39
    have he39 := he39.symm
    subst he39
    have hk39 : cdv 115 116 97 116 101 0 = 10492313 := by decide
    refine x_lcmp F dX10_nameOf_42 (by omega) ?_
    refine x_if_ne (tgt := 50) F dX10_nameOf_43 (by decide) (jC_rng _ _) (fun c43 => ?_) (fun c43 => ?_)
    · -- 43 t
      rw [jC_eq] at c43
      refine x_lload_n F dX10_nameOf_50 rfl 1 rfl ?_
      refine x_bipush F dX10_nameOf_51 (by decide) ?_
      refine x_bipush F dX10_nameOf_53 (by decide) ?_
      refine x_bipush F dX10_nameOf_55 (by decide) ?_
      refine x_iconst F dX10_nameOf_57 ?_
      refine x_iconst F dX10_nameOf_58 ?_
      refine x_iconst F dX10_nameOf_59 ?_
      refine x_callSl (As := [.int (jI 119), .int (jI 101), .int (jI 116), .int (jI 0), .int (jI 0), .int (jI 0)]) (st := [.long (jL vO_word)]) F (c_X10_code D kI kJ l 119 101 116 0 0 0 (by omega) (by omega) (by omega) (by omega) (by omega) (by omega)) (va_cwS 6 F.2.2.2.2.1 gX10_nameOf_X10_code rfl rfl rfl (by decide +kernel) ⟨Nat.le_of_ble_eq_true rfl, Nat.le_of_ble_eq_true rfl⟩) [] [0] [0] rfl rfl (by decide) (by decide) (by decide) (fun _ => rfl) (by decide) rfl (Nat.le_of_ble_eq_true rfl) dX10_nameOf_60 ⟨Nat.le_of_ble_eq_true rfl, Nat.le_of_ble_eq_true rfl⟩ (fun z60 u60 h60 => ?_)
      try dsimp only at h60
      refine x_ws [(qO, .inr (10, [.int (jI vO_blocks), .ref qO_stones, .ref qO_laid, .ref qO_deep, .int (jI vO_placings), .ref qO_placed, .int (jI vO_mortars), .ref qO_put, .ref qO_rates, .int (jI vO_limit), .int (jI vO_looks), .ref qO_seen, .ref qO_text, .int (jI vO_texted), .int (jI vO_faultPlace), .int (jI vO_clauses), .ref qO_rule, .ref qO_fresh, .int (jI vO_lots), .ref qO_stocks, .ref qO_row, .ref qO_dangers, .ref qO_losses, .long (jL vO_upper), .long (jL vO_lower), .ref qO_habitUpper, .ref qO_habitLower, .int (jI vO_at), .long (jL vO_word), .int (jI vO_wordEnd), .ref qO_chosen, .ref qO_lost, .ref qO_zones, .ref qO_way, .ref qO_spent, .ref qO_scaffolds]))] rfl ?_
      have he60 := h60
      have he60 := he60.symm
      subst he60
      have hk60 : cdv 119 101 116 0 0 0 = 16922 := by decide
      refine x_lcmp F dX10_nameOf_63 (by omega) ?_
      refine x_if_ne (tgt := 71) F dX10_nameOf_64 (by decide) (jC_rng _ _) (fun c64 => ?_) (fun c64 => ?_)
      · -- 64 t
        rw [jC_eq] at c64
        refine x_lload_n F dX10_nameOf_71 rfl 1 rfl ?_
        refine x_bipush F dX10_nameOf_72 (by decide) ?_
        refine x_bipush F dX10_nameOf_74 (by decide) ?_
        refine x_bipush F dX10_nameOf_76 (by decide) ?_
        refine x_bipush F dX10_nameOf_78 (by decide) ?_
        refine x_iconst F dX10_nameOf_80 ?_
        refine x_iconst F dX10_nameOf_81 ?_
        refine x_callSl (As := [.int (jI 115), .int (jI 105), .int (jI 100), .int (jI 101), .int (jI 0), .int (jI 0)]) (st := [.long (jL vO_word)]) F (c_X10_code D kI kJ l 115 105 100 101 0 0 (by omega) (by omega) (by omega) (by omega) (by omega) (by omega)) (va_cwS 6 F.2.2.2.2.1 gX10_nameOf_X10_code rfl rfl rfl (by decide +kernel) ⟨Nat.le_of_ble_eq_true rfl, Nat.le_of_ble_eq_true rfl⟩) [] [0] [0] rfl rfl (by decide) (by decide) (by decide) (fun _ => rfl) (by decide) rfl (Nat.le_of_ble_eq_true rfl) dX10_nameOf_82 ⟨Nat.le_of_ble_eq_true rfl, Nat.le_of_ble_eq_true rfl⟩ (fun z82 u82 h82 => ?_)
        try dsimp only at h82
        refine x_ws [(qO, .inr (10, [.int (jI vO_blocks), .ref qO_stones, .ref qO_laid, .ref qO_deep, .int (jI vO_placings), .ref qO_placed, .int (jI vO_mortars), .ref qO_put, .ref qO_rates, .int (jI vO_limit), .int (jI vO_looks), .ref qO_seen, .ref qO_text, .int (jI vO_texted), .int (jI vO_faultPlace), .int (jI vO_clauses), .ref qO_rule, .ref qO_fresh, .int (jI vO_lots), .ref qO_stocks, .ref qO_row, .ref qO_dangers, .ref qO_losses, .long (jL vO_upper), .long (jL vO_lower), .ref qO_habitUpper, .ref qO_habitLower, .int (jI vO_at), .long (jL vO_word), .int (jI vO_wordEnd), .ref qO_chosen, .ref qO_lost, .ref qO_zones, .ref qO_way, .ref qO_spent, .ref qO_scaffolds]))] rfl ?_
        have he82 := h82
        have he82 := he82.symm
        subst he82
        have hk82 : cdv 115 105 100 101 0 0 = 380651 := by decide
        refine x_lcmp F dX10_nameOf_85 (by omega) ?_
        refine x_if_ne (tgt := 93) F dX10_nameOf_86 (by decide) (jC_rng _ _) (fun c86 => ?_) (fun c86 => ?_)
        · -- 86 t
          rw [jC_eq] at c86
          refine x_lload_n F dX10_nameOf_93 rfl 1 rfl ?_
          refine x_bipush F dX10_nameOf_94 (by decide) ?_
          refine x_bipush F dX10_nameOf_96 (by decide) ?_
          refine x_bipush F dX10_nameOf_98 (by decide) ?_
          refine x_bipush F dX10_nameOf_100 (by decide) ?_
          refine x_bipush F dX10_nameOf_102 (by decide) ?_
          refine x_iconst F dX10_nameOf_104 ?_
          refine x_callSl (As := [.int (jI 115), .int (jI 116), .int (jI 111), .int (jI 110), .int (jI 101), .int (jI 0)]) (st := [.long (jL vO_word)]) F (c_X10_code D kI kJ l 115 116 111 110 101 0 (by omega) (by omega) (by omega) (by omega) (by omega) (by omega)) (va_cwS 6 F.2.2.2.2.1 gX10_nameOf_X10_code rfl rfl rfl (by decide +kernel) ⟨Nat.le_of_ble_eq_true rfl, Nat.le_of_ble_eq_true rfl⟩) [] [0] [0] rfl rfl (by decide) (by decide) (by decide) (fun _ => rfl) (by decide) rfl (Nat.le_of_ble_eq_true rfl) dX10_nameOf_105 ⟨Nat.le_of_ble_eq_true rfl, Nat.le_of_ble_eq_true rfl⟩ (fun z105 u105 h105 => ?_)
          try dsimp only at h105
          refine x_ws [(qO, .inr (10, [.int (jI vO_blocks), .ref qO_stones, .ref qO_laid, .ref qO_deep, .int (jI vO_placings), .ref qO_placed, .int (jI vO_mortars), .ref qO_put, .ref qO_rates, .int (jI vO_limit), .int (jI vO_looks), .ref qO_seen, .ref qO_text, .int (jI vO_texted), .int (jI vO_faultPlace), .int (jI vO_clauses), .ref qO_rule, .ref qO_fresh, .int (jI vO_lots), .ref qO_stocks, .ref qO_row, .ref qO_dangers, .ref qO_losses, .long (jL vO_upper), .long (jL vO_lower), .ref qO_habitUpper, .ref qO_habitLower, .int (jI vO_at), .long (jL vO_word), .int (jI vO_wordEnd), .ref qO_chosen, .ref qO_lost, .ref qO_zones, .ref qO_way, .ref qO_spent, .ref qO_scaffolds]))] rfl ?_
          have he105 := h105
          have he105 := he105.symm
          subst he105
          have hk105 : cdv 115 116 111 110 101 0 = 10502357 := by decide
          refine x_lcmp F dX10_nameOf_108 (by omega) ?_
          refine x_if_ne (tgt := 116) F dX10_nameOf_109 (by decide) (jC_rng _ _) (fun c109 => ?_) (fun c109 => ?_)
          · -- 109 t
            rw [jC_eq] at c109
            refine x_lload_n F dX10_nameOf_116 rfl 1 rfl ?_
            refine x_bipush F dX10_nameOf_117 (by decide) ?_
            refine x_bipush F dX10_nameOf_119 (by decide) ?_
            refine x_bipush F dX10_nameOf_121 (by decide) ?_
            refine x_iconst F dX10_nameOf_123 ?_
            refine x_iconst F dX10_nameOf_124 ?_
            refine x_iconst F dX10_nameOf_125 ?_
            refine x_callSl (As := [.int (jI 97), .int (jI 103), .int (jI 101), .int (jI 0), .int (jI 0), .int (jI 0)]) (st := [.long (jL vO_word)]) F (c_X10_code D kI kJ l 97 103 101 0 0 0 (by omega) (by omega) (by omega) (by omega) (by omega) (by omega)) (va_cwS 6 F.2.2.2.2.1 gX10_nameOf_X10_code rfl rfl rfl (by decide +kernel) ⟨Nat.le_of_ble_eq_true rfl, Nat.le_of_ble_eq_true rfl⟩) [] [0] [0] rfl rfl (by decide) (by decide) (by decide) (fun _ => rfl) (by decide) rfl (Nat.le_of_ble_eq_true rfl) dX10_nameOf_126 ⟨Nat.le_of_ble_eq_true rfl, Nat.le_of_ble_eq_true rfl⟩ (fun z126 u126 h126 => ?_)
            try dsimp only at h126
            refine x_ws [(qO, .inr (10, [.int (jI vO_blocks), .ref qO_stones, .ref qO_laid, .ref qO_deep, .int (jI vO_placings), .ref qO_placed, .int (jI vO_mortars), .ref qO_put, .ref qO_rates, .int (jI vO_limit), .int (jI vO_looks), .ref qO_seen, .ref qO_text, .int (jI vO_texted), .int (jI vO_faultPlace), .int (jI vO_clauses), .ref qO_rule, .ref qO_fresh, .int (jI vO_lots), .ref qO_stocks, .ref qO_row, .ref qO_dangers, .ref qO_losses, .long (jL vO_upper), .long (jL vO_lower), .ref qO_habitUpper, .ref qO_habitLower, .int (jI vO_at), .long (jL vO_word), .int (jI vO_wordEnd), .ref qO_chosen, .ref qO_lost, .ref qO_zones, .ref qO_way, .ref qO_spent, .ref qO_scaffolds]))] rfl ?_
            have he126 := h126
            have he126 := he126.symm
            subst he126
            have hk126 : cdv 97 103 101 0 0 0 = 923 := by decide
            refine x_lcmp F dX10_nameOf_129 (by omega) ?_
            refine x_if_ne (tgt := 137) F dX10_nameOf_130 (by decide) (jC_rng _ _) (fun c130 => ?_) (fun c130 => ?_)
            · -- 130 t
              rw [jC_eq] at c130
              refine x_lload_n F dX10_nameOf_137 rfl 1 rfl ?_
              refine x_bipush F dX10_nameOf_138 (by decide) ?_
              refine x_bipush F dX10_nameOf_140 (by decide) ?_
              refine x_bipush F dX10_nameOf_142 (by decide) ?_
              refine x_bipush F dX10_nameOf_144 (by decide) ?_
              refine x_iconst F dX10_nameOf_146 ?_
              refine x_iconst F dX10_nameOf_147 ?_
              refine x_callSl (As := [.int (jI 104), .int (jI 97), .int (jI 114), .int (jI 109), .int (jI 0), .int (jI 0)]) (st := [.long (jL vO_word)]) F (c_X10_code D kI kJ l 104 97 114 109 0 0 (by omega) (by omega) (by omega) (by omega) (by omega) (by omega)) (va_cwS 6 F.2.2.2.2.1 gX10_nameOf_X10_code rfl rfl rfl (by decide +kernel) ⟨Nat.le_of_ble_eq_true rfl, Nat.le_of_ble_eq_true rfl⟩) [] [0] [0] rfl rfl (by decide) (by decide) (by decide) (fun _ => rfl) (by decide) rfl (Nat.le_of_ble_eq_true rfl) dX10_nameOf_148 ⟨Nat.le_of_ble_eq_true rfl, Nat.le_of_ble_eq_true rfl⟩ (fun z148 u148 h148 => ?_)
              try dsimp only at h148
              refine x_ws [(qO, .inr (10, [.int (jI vO_blocks), .ref qO_stones, .ref qO_laid, .ref qO_deep, .int (jI vO_placings), .ref qO_placed, .int (jI vO_mortars), .ref qO_put, .ref qO_rates, .int (jI vO_limit), .int (jI vO_looks), .ref qO_seen, .ref qO_text, .int (jI vO_texted), .int (jI vO_faultPlace), .int (jI vO_clauses), .ref qO_rule, .ref qO_fresh, .int (jI vO_lots), .ref qO_stocks, .ref qO_row, .ref qO_dangers, .ref qO_losses, .long (jL vO_upper), .long (jL vO_lower), .ref qO_habitUpper, .ref qO_habitLower, .int (jI vO_at), .long (jL vO_word), .int (jI vO_wordEnd), .ref qO_chosen, .ref qO_lost, .ref qO_zones, .ref qO_way, .ref qO_spent, .ref qO_scaffolds]))] rfl ?_
              have he148 := h148
              have he148 := he148.symm
              subst he148
              have hk148 : cdv 104 97 114 109 0 0 = 158692 := by decide
              refine x_lcmp F dX10_nameOf_151 (by omega) ?_
              refine x_if_ne (tgt := 160) F dX10_nameOf_152 (by decide) (jC_rng _ _) (fun c152 => ?_) (fun c152 => ?_)
              · -- 152 t
                rw [jC_eq] at c152
                refine x_iconst F dX10_nameOf_160 ?_
                exact hret 0 0 161 _ (-1) () (Nat.le_of_ble_eq_true rfl) (Nat.le_of_ble_eq_true rfl) dX10_nameOf_161 (by unfold nmW; (repeat' split) <;> omega)
              · -- 152 f
                rw [jC_eq] at c152
                refine x_bipush F dX10_nameOf_155 (by decide) ?_
                refine x_goto (tgt := 161) F dX10_nameOf_157 (by decide) ?_
                exact hret 0 0 161 _ 6 () (Nat.le_of_ble_eq_true rfl) (Nat.le_of_ble_eq_true rfl) dX10_nameOf_161 (by unfold nmW; (repeat' split) <;> omega)
            · -- 130 f
              rw [jC_eq] at c130
              refine x_iconst F dX10_nameOf_133 ?_
              refine x_goto (tgt := 161) F dX10_nameOf_134 (by decide) ?_
              exact hret 0 0 161 _ 5 () (Nat.le_of_ble_eq_true rfl) (Nat.le_of_ble_eq_true rfl) dX10_nameOf_161 (by unfold nmW; (repeat' split) <;> omega)
          · -- 109 f
            rw [jC_eq] at c109
            refine x_iconst F dX10_nameOf_112 ?_
            refine x_goto (tgt := 161) F dX10_nameOf_113 (by decide) ?_
            exact hret 0 0 161 _ 4 () (Nat.le_of_ble_eq_true rfl) (Nat.le_of_ble_eq_true rfl) dX10_nameOf_161 (by unfold nmW; (repeat' split) <;> omega)
        · -- 86 f
          rw [jC_eq] at c86
          refine x_iconst F dX10_nameOf_89 ?_
          refine x_goto (tgt := 161) F dX10_nameOf_90 (by decide) ?_
          exact hret 0 0 161 _ 3 () (Nat.le_of_ble_eq_true rfl) (Nat.le_of_ble_eq_true rfl) dX10_nameOf_161 (by unfold nmW; (repeat' split) <;> omega)
      · -- 64 f
        rw [jC_eq] at c64
        refine x_iconst F dX10_nameOf_67 ?_
        refine x_goto (tgt := 161) F dX10_nameOf_68 (by decide) ?_
        exact hret 0 0 161 _ 2 () (Nat.le_of_ble_eq_true rfl) (Nat.le_of_ble_eq_true rfl) dX10_nameOf_161 (by unfold nmW; (repeat' split) <;> omega)
    · -- 43 f
      rw [jC_eq] at c43
      refine x_iconst F dX10_nameOf_46 ?_
      refine x_goto (tgt := 161) F dX10_nameOf_47 (by decide) ?_
      exact hret 0 0 161 _ 1 () (Nat.le_of_ble_eq_true rfl) (Nat.le_of_ble_eq_true rfl) dX10_nameOf_161 (by unfold nmW; (repeat' split) <;> omega)
  · -- 20 f
    rw [jC_eq] at c20
    refine x_iconst F dX10_nameOf_23 ?_
    refine x_goto (tgt := 161) F dX10_nameOf_24 (by decide) ?_
    exact hret 0 0 161 _ 0 () (Nat.le_of_ble_eq_true rfl) (Nat.le_of_ble_eq_true rfl) dX10_nameOf_161 (by unfold nmW; (repeat' split) <;> omega)
set_option maxHeartbeats 4000000 in
set_option maxRecDepth 100000 in
theorem c_X10_actOf (D : va_G) (kI kJ : Nat) (l : Launch) (qO : Nat) (vO_blocks : Int) (qO_stones : Nat) (qO_laid : Nat) (qO_deep : Nat) (vO_placings : Int) (qO_placed : Nat) (vO_mortars : Int) (qO_put : Nat) (qO_rates : Nat) (vO_limit : Int) (vO_looks : Int) (qO_seen : Nat) (qO_text : Nat) (vO_texted : Int) (vO_faultPlace : Int) (vO_clauses : Int) (qO_rule : Nat) (qO_fresh : Nat) (vO_lots : Int) (qO_stocks : Nat) (qO_row : Nat) (qO_dangers : Nat) (qO_losses : Nat) (vO_upper : Int) (vO_lower : Int) (qO_habitUpper : Nat) (qO_habitLower : Nat) (vO_at : Int) (vO_word : Int) (vO_wordEnd : Int) (qO_chosen : Nat) (qO_lost : Nat) (qO_zones : Nat) (qO_way : Nat) (qO_spent : Nat) (qO_scaffolds : Nat) (hwd : 0 ≤ vO_word ∧ vO_word ≤ 27000000026) : xMi D kI kJ l yX10_actOf wsX10_actOf 2 59 0 0 [.ref qO] [(qO, .inr (10, [.int (jI vO_blocks), .ref qO_stones, .ref qO_laid, .ref qO_deep, .int (jI vO_placings), .ref qO_placed, .int (jI vO_mortars), .ref qO_put, .ref qO_rates, .int (jI vO_limit), .int (jI vO_looks), .ref qO_seen, .ref qO_text, .int (jI vO_texted), .int (jI vO_faultPlace), .int (jI vO_clauses), .ref qO_rule, .ref qO_fresh, .int (jI vO_lots), .ref qO_stocks, .ref qO_row, .ref qO_dangers, .ref qO_losses, .long (jL vO_upper), .long (jL vO_lower), .ref qO_habitUpper, .ref qO_habitLower, .int (jI vO_at), .long (jL vO_word), .int (jI vO_wordEnd), .ref qO_chosen, .ref qO_lost, .ref qO_zones, .ref qO_way, .ref qO_spent, .ref qO_scaffolds]))] (fun (z : Int) (u : Unit) => z = acW vO_word) (fun (u : Unit) => [(qO, .inr (10, [.int (jI vO_blocks), .ref qO_stones, .ref qO_laid, .ref qO_deep, .int (jI vO_placings), .ref qO_placed, .int (jI vO_mortars), .ref qO_put, .ref qO_rates, .int (jI vO_limit), .int (jI vO_looks), .ref qO_seen, .ref qO_text, .int (jI vO_texted), .int (jI vO_faultPlace), .int (jI vO_clauses), .ref qO_rule, .ref qO_fresh, .int (jI vO_lots), .ref qO_stocks, .ref qO_row, .ref qO_dangers, .ref qO_losses, .long (jL vO_upper), .long (jL vO_lower), .ref qO_habitUpper, .ref qO_habitLower, .int (jI vO_at), .long (jL vO_word), .int (jI vO_wordEnd), .ref qO_chosen, .ref qO_lost, .ref qO_zones, .ref qO_way, .ref qO_spent, .ref qO_scaffolds]))]) := by
  refine xMi_of (cc := cX10_actOf) (maxL := 1) (rt := .int) (by decide) rfl (Nat.le_of_ble_eq_true rfl) (fun _ _ _ => rfl) ?_
  intro p e s m args below meth c A Q F hin2 hret
  have hin10 : ∀ w ∈ wsX100, w ∈ wsX10_actOf := by decide +kernel
  have hw0 : Cond.fieldLink RX10 209 (TX10 28).1 (TX10 28).2.1 (TX10 28).2.2.1 ∈ wsX10_actOf := by decide +kernel
  refine x_lveq (lv' := [(0, .ref qO)]) rfl ?_
  refine x_aload_n F dX10_actOf_0 rfl 0 rfl ?_
  refine x_get (ci := 10) F hin10 0 rfl rfl 28 (by decide) hw0 rfl dX10_actOf_1 ?_
  refine x_bipush F dX10_actOf_4 (by decide) ?_
  refine x_bipush F dX10_actOf_6 (by decide) ?_
  refine x_bipush F dX10_actOf_8 (by decide) ?_
  refine x_bipush F dX10_actOf_10 (by decide) ?_
  refine x_bipush F dX10_actOf_12 (by decide) ?_
  refine x_iconst F dX10_actOf_14 ?_
  refine x_callSl (As := [.int (jI 108), .int (jI 101), .int (jI 97), .int (jI 118), .int (jI 101), .int (jI 0)]) (st := [.long (jL vO_word)]) F (c_X10_code D kI kJ l 108 101 97 118 101 0 (by omega) (by omega) (by omega) (by omega) (by omega) (by omega)) (va_cwS 6 F.2.2.2.2.1 gX10_actOf_X10_code rfl rfl rfl (by decide +kernel) ⟨Nat.le_of_ble_eq_true rfl, Nat.le_of_ble_eq_true rfl⟩) [] [0] [0] rfl rfl (by decide) (by decide) (by decide) (fun _ => rfl) (by decide) rfl (Nat.le_of_ble_eq_true rfl) dX10_actOf_15 ⟨Nat.le_of_ble_eq_true rfl, Nat.le_of_ble_eq_true rfl⟩ (fun z15 u15 h15 => ?_)
  try dsimp only at h15
  refine x_ws [(qO, .inr (10, [.int (jI vO_blocks), .ref qO_stones, .ref qO_laid, .ref qO_deep, .int (jI vO_placings), .ref qO_placed, .int (jI vO_mortars), .ref qO_put, .ref qO_rates, .int (jI vO_limit), .int (jI vO_looks), .ref qO_seen, .ref qO_text, .int (jI vO_texted), .int (jI vO_faultPlace), .int (jI vO_clauses), .ref qO_rule, .ref qO_fresh, .int (jI vO_lots), .ref qO_stocks, .ref qO_row, .ref qO_dangers, .ref qO_losses, .long (jL vO_upper), .long (jL vO_lower), .ref qO_habitUpper, .ref qO_habitLower, .int (jI vO_at), .long (jL vO_word), .int (jI vO_wordEnd), .ref qO_chosen, .ref qO_lost, .ref qO_zones, .ref qO_way, .ref qO_spent, .ref qO_scaffolds]))] rfl ?_
  have he15 := h15
  have he15 := he15.symm
  subst he15
  have hk15 : cdv 108 101 97 118 101 0 = 6477035 := by decide
  refine x_lcmp F dX10_actOf_18 (by omega) ?_
  refine x_if_ne (tgt := 26) F dX10_actOf_19 (by decide) (jC_rng _ _) (fun c19 => ?_) (fun c19 => ?_)
  · -- 19 t
    rw [jC_eq] at c19
    refine x_aload_n F dX10_actOf_26 rfl 0 rfl ?_
    refine x_get (ci := 10) F hin10 0 rfl rfl 28 (by decide) hw0 rfl dX10_actOf_27 ?_
    refine x_bipush F dX10_actOf_30 (by decide) ?_
    refine x_bipush F dX10_actOf_32 (by decide) ?_
    refine x_bipush F dX10_actOf_34 (by decide) ?_
    refine x_bipush F dX10_actOf_36 (by decide) ?_
    refine x_iconst F dX10_actOf_38 ?_
    refine x_iconst F dX10_actOf_39 ?_
    refine x_callSl (As := [.int (jI 109), .int (jI 101), .int (jI 110), .int (jI 100), .int (jI 0), .int (jI 0)]) (st := [.long (jL vO_word)]) F (c_X10_code D kI kJ l 109 101 110 100 0 0 (by omega) (by omega) (by omega) (by omega) (by omega) (by omega)) (va_cwS 6 F.2.2.2.2.1 gX10_actOf_X10_code rfl rfl rfl (by decide +kernel) ⟨Nat.le_of_ble_eq_true rfl, Nat.le_of_ble_eq_true rfl⟩) [] [0] [0] rfl rfl (by decide) (by decide) (by decide) (fun _ => rfl) (by decide) rfl (Nat.le_of_ble_eq_true rfl) dX10_actOf_40 ⟨Nat.le_of_ble_eq_true rfl, Nat.le_of_ble_eq_true rfl⟩ (fun z40 u40 h40 => ?_)
    try dsimp only at h40
    refine x_ws [(qO, .inr (10, [.int (jI vO_blocks), .ref qO_stones, .ref qO_laid, .ref qO_deep, .int (jI vO_placings), .ref qO_placed, .int (jI vO_mortars), .ref qO_put, .ref qO_rates, .int (jI vO_limit), .int (jI vO_looks), .ref qO_seen, .ref qO_text, .int (jI vO_texted), .int (jI vO_faultPlace), .int (jI vO_clauses), .ref qO_rule, .ref qO_fresh, .int (jI vO_lots), .ref qO_stocks, .ref qO_row, .ref qO_dangers, .ref qO_losses, .long (jL vO_upper), .long (jL vO_lower), .ref qO_habitUpper, .ref qO_habitLower, .int (jI vO_at), .long (jL vO_word), .int (jI vO_wordEnd), .ref qO_chosen, .ref qO_lost, .ref qO_zones, .ref qO_way, .ref qO_spent, .ref qO_scaffolds]))] rfl ?_
    have he40 := h40
    have he40 := he40.symm
    subst he40
    have hk40 : cdv 109 101 110 100 0 0 = 259906 := by decide
    refine x_lcmp F dX10_actOf_43 (by omega) ?_
    refine x_if_ne (tgt := 51) F dX10_actOf_44 (by decide) (jC_rng _ _) (fun c44 => ?_) (fun c44 => ?_)
    · -- 44 t
      rw [jC_eq] at c44
      refine x_aload_n F dX10_actOf_51 rfl 0 rfl ?_
      refine x_get (ci := 10) F hin10 0 rfl rfl 28 (by decide) hw0 rfl dX10_actOf_52 ?_
      refine x_bipush F dX10_actOf_55 (by decide) ?_
      refine x_bipush F dX10_actOf_57 (by decide) ?_
      refine x_bipush F dX10_actOf_59 (by decide) ?_
      refine x_bipush F dX10_actOf_61 (by decide) ?_
      refine x_bipush F dX10_actOf_63 (by decide) ?_
      refine x_bipush F dX10_actOf_65 (by decide) ?_
      refine x_callSl (As := [.int (jI 99), .int (jI 104), .int (jI 97), .int (jI 110), .int (jI 103), .int (jI 101)]) (st := [.long (jL vO_word)]) F (c_X10_code D kI kJ l 99 104 97 110 103 101 (by omega) (by omega) (by omega) (by omega) (by omega) (by omega)) (va_cwS 6 F.2.2.2.2.1 gX10_actOf_X10_code rfl rfl rfl (by decide +kernel) ⟨Nat.le_of_ble_eq_true rfl, Nat.le_of_ble_eq_true rfl⟩) [] [0] [0] rfl rfl (by decide) (by decide) (by decide) (fun _ => rfl) (by decide) rfl (Nat.le_of_ble_eq_true rfl) dX10_actOf_67 ⟨Nat.le_of_ble_eq_true rfl, Nat.le_of_ble_eq_true rfl⟩ (fun z67 u67 h67 => ?_)
      try dsimp only at h67
      refine x_ws [(qO, .inr (10, [.int (jI vO_blocks), .ref qO_stones, .ref qO_laid, .ref qO_deep, .int (jI vO_placings), .ref qO_placed, .int (jI vO_mortars), .ref qO_put, .ref qO_rates, .int (jI vO_limit), .int (jI vO_looks), .ref qO_seen, .ref qO_text, .int (jI vO_texted), .int (jI vO_faultPlace), .int (jI vO_clauses), .ref qO_rule, .ref qO_fresh, .int (jI vO_lots), .ref qO_stocks, .ref qO_row, .ref qO_dangers, .ref qO_losses, .long (jL vO_upper), .long (jL vO_lower), .ref qO_habitUpper, .ref qO_habitLower, .int (jI vO_at), .long (jL vO_word), .int (jI vO_wordEnd), .ref qO_chosen, .ref qO_lost, .ref qO_zones, .ref qO_way, .ref qO_spent, .ref qO_scaffolds]))] rfl ?_
      have he67 := h67
      have he67 := he67.symm
      subst he67
      have hk67 : cdv 99 104 97 110 103 101 = 47328332 := by decide
      refine x_lcmp F dX10_actOf_70 (by omega) ?_
      refine x_if_ne (tgt := 78) F dX10_actOf_71 (by decide) (jC_rng _ _) (fun c71 => ?_) (fun c71 => ?_)
      · -- 71 t
        rw [jC_eq] at c71
        refine x_iconst F dX10_actOf_78 ?_
        exact hret 0 0 79 _ (-1) () (Nat.le_of_ble_eq_true rfl) (Nat.le_of_ble_eq_true rfl) dX10_actOf_79 (by unfold acW; (repeat' split) <;> omega)
      · -- 71 f
        rw [jC_eq] at c71
        refine x_iconst F dX10_actOf_74 ?_
        refine x_goto (tgt := 79) F dX10_actOf_75 (by decide) ?_
        exact hret 0 0 79 _ 2 () (Nat.le_of_ble_eq_true rfl) (Nat.le_of_ble_eq_true rfl) dX10_actOf_79 (by unfold acW; (repeat' split) <;> omega)
    · -- 44 f
      rw [jC_eq] at c44
      refine x_iconst F dX10_actOf_47 ?_
      refine x_goto (tgt := 79) F dX10_actOf_48 (by decide) ?_
      exact hret 0 0 79 _ 1 () (Nat.le_of_ble_eq_true rfl) (Nat.le_of_ble_eq_true rfl) dX10_actOf_79 (by unfold acW; (repeat' split) <;> omega)
  · -- 19 f
    rw [jC_eq] at c19
    refine x_iconst F dX10_actOf_22 ?_
    refine x_goto (tgt := 79) F dX10_actOf_23 (by decide) ?_
    exact hret 0 0 79 _ 0 () (Nat.le_of_ble_eq_true rfl) (Nat.le_of_ble_eq_true rfl) dX10_actOf_79 (by unfold acW; (repeat' split) <;> omega)
