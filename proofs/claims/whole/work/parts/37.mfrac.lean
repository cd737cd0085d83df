set_option maxHeartbeats 4000000 in
set_option maxRecDepth 100000 in
theorem c_X10_common (D : va_G) (kI kJ : Nat) (l : Launch) (a : Int) (b : Int) (ha : -4611686018427387904 < a ∧ a < 4611686018427387904) (hb : 0 ≤ b ∧ b < 4611686018427387904) : xMl D kI kJ l yX10_common wsX10_common 1 32 0 0 [.long (jL a), .long (jL b)] [] (fun (z : Int) (u : Unit) => z = (Int.gcd a b : Int)) (fun (u : Unit) => []) := by
  refine xMl_of (cc := cX10_common) (maxL := 10) (by decide) rfl (Nat.le_of_ble_eq_true rfl) ?_
  intro p e s m args below meth c A Q F hin2 hret
  refine x_lveq (lv' := [(0, .long (jL a)), (2, .long (jL b))]) rfl ?_
  have jn12 : ∀ (x0 : Int) (hx0 : x0 = (if a < 0 then -a else a)), xG D p l e (xRm 1 32 0 0) s m args below meth c 10 A Q 0 0 [] [(0, .long (jL a)), (2, .long (jL b))] 12 [.long (jL x0)] := by
    intro x0 hx0
    refine x_lstore (lv' := [(0, .long (jL a)), (2, .long (jL b)), (4, .long (jL x0))]) F dX10_common_12 (by decide) [1, 2, 0] rfl ?_
    refine x_lload_n F dX10_common_14 rfl 1 rfl ?_
    refine x_lstore (lv' := [(0, .long (jL a)), (2, .long (jL b)), (4, .long (jL x0)), (6, .long (jL b))]) F dX10_common_15 (by decide) [1, 2, 3, 0] rfl ?_
    have lp17 : ∀ (fu : Nat) (x : Int) (y : Int) (hxy : (0 ≤ x ∧ x < 4611686018427387904) ∧ 0 ≤ y ∧ y < 4611686018427387904) (hg : (Int.gcd x y : Int) = (Int.gcd a b : Int)) (hm : y < (fu : Int)), xG D p l e (xRm 1 32 0 0) s m args below meth c 10 A Q 0 0 [] [(0, .long (jL a)), (2, .long (jL b)), (4, .long (jL x)), (6, .long (jL y))] 17 [] := by
      intro fu
      induction fu with
      | zero =>
        intro x y hxy hg hm
        exact absurd hm (by omega)
      | succ fu ih17 =>
        intro x y hxy hg hm
        refine x_lload F dX10_common_17 3 rfl ?_
        refine x_lconst F 0 dX10_common_19 (by decide) ?_
        refine x_lcmp F dX10_common_20 (by omega) ?_
        refine x_if_eq (tgt := 42) F dX10_common_21 (by decide) (jC_rng _ _) (fun c21 => ?_) (fun c21 => ?_)
        · -- 21 t
          rw [jC_eq] at c21
          refine x_lload F dX10_common_42 2 rfl ?_
          exact hret 0 0 44 _ x () (Nat.le_of_ble_eq_true rfl) (Nat.le_of_ble_eq_true rfl) dX10_common_44 (by have e := gc_end x (by omega); rw [show y = 0 by omega, e] at hg; exact hg)
        · -- 21 f
          rw [jC_eq] at c21
          refine x_lload F dX10_common_24 2 rfl ?_
          refine x_lload F dX10_common_26 3 rfl ?_
          refine x_lrem F dX10_common_28 (by omega) ?_
          refine x_lstore (lv' := [(0, .long (jL a)), (2, .long (jL b)), (4, .long (jL x)), (6, .long (jL y)), (8, .long (jL (x % y)))]) F dX10_common_29 (by decide) [1, 2, 3, 4, 0] rfl ?_
          refine x_lload F dX10_common_31 3 rfl ?_
          refine x_lstore (lv' := [(0, .long (jL a)), (2, .long (jL b)), (4, .long (jL y)), (6, .long (jL y)), (8, .long (jL (x % y)))]) F dX10_common_33 (by decide) [1, 2, 0, 3, 4] rfl ?_
          refine x_lload F dX10_common_35 4 rfl ?_
          refine x_lstore (lv' := [(0, .long (jL a)), (2, .long (jL b)), (4, .long (jL y)), (6, .long (jL (x % y))), (8, .long (jL (x % y)))]) F dX10_common_37 (by decide) [1, 2, 3, 0, 4] rfl ?_
          refine x_goto (tgt := 17) F dX10_common_39 (by decide) ?_
          refine x_lv (lv' := [(0, .long (jL a)), (2, .long (jL b)), (4, .long (jL y)), (6, .long (jL (x % y)))]) [0, 1, 2, 3] rfl ?_
          exact ih17 y (x % y) (⟨by omega, Int.emod_nonneg _ (by omega), by have := Int.emod_lt_of_pos x (show 0 < y by omega); omega⟩) (by rw [gc_step (by omega) (by omega)]; exact hg) (by have := Int.emod_lt_of_pos x (show 0 < y by omega); omega)
    exact lp17 (Int.toNat b + 1) x0 b (by refine ⟨?_, by omega⟩; rw [hx0]; split <;> omega) (by rw [hx0, gc_abs]) (by omega)
  refine x_lload_n F dX10_common_0 rfl 0 rfl ?_
  refine x_lconst F 0 dX10_common_1 (by decide) ?_
  refine x_lcmp F dX10_common_2 (by omega) ?_
  refine x_if_ge (tgt := 11) F dX10_common_3 (by decide) (jC_rng _ _) (fun c3 => ?_) (fun c3 => ?_)
  · -- 3 t
    rw [jC_ge] at c3
    refine x_lload_n F dX10_common_11 rfl 0 rfl ?_
    exact jn12 a (by split <;> omega)
  · -- 3 f
    rw [jC_ge] at c3
    refine x_lload_n F dX10_common_6 rfl 0 rfl ?_
    refine x_lneg F dX10_common_7 ?_
    refine x_goto (tgt := 12) F dX10_common_8 (by decide) ?_
    exact jn12 (-a) (by split <;> omega)
set_option maxHeartbeats 4000000 in
set_option maxRecDepth 100000 in
theorem c_X10_least (D : va_G) (kI kJ : Nat) (l : Launch) (qO : Nat) (vO_blocks : Int) (qO_stones : Nat) (qO_laid : Nat) (qO_deep : Nat) (vO_placings : Int) (qO_placed : Nat) (vO_mortars : Int) (qO_put : Nat) (qO_rates : Nat) (vO_limit : Int) (vO_looks : Int) (qO_seen : Nat) (qO_text : Nat) (vO_texted : Int) (vO_faultPlace : Int) (vO_clauses : Int) (qO_rule : Nat) (qO_fresh : Nat) (vO_lots : Int) (qO_stocks : Nat) (qO_row : Nat) (qO_dangers : Nat) (qO_losses : Nat) (vO_upper : Int) (vO_lower : Int) (qO_habitUpper : Nat) (qO_habitLower : Nat) (vO_at : Int) (vO_word : Int) (vO_wordEnd : Int) (qO_chosen : Nat) (qO_lost : Nat) (qO_zones : Nat) (qO_way : Nat) (qO_spent : Nat) (qO_scaffolds : Nat) (hOu : -4611686018427387904 < vO_upper ∧ vO_upper < 4611686018427387904) (hOlw : 0 < vO_lower ∧ vO_lower < 4611686018427387904) : xMv D kI kJ l yX10_least wsX10_least 2 61 0 0 [.ref qO] [(qO, .inr (10, [.int (jI vO_blocks), .ref qO_stones, .ref qO_laid, .ref qO_deep, .int (jI vO_placings), .ref qO_placed, .int (jI vO_mortars), .ref qO_put, .ref qO_rates, .int (jI vO_limit), .int (jI vO_looks), .ref qO_seen, .ref qO_text, .int (jI vO_texted), .int (jI vO_faultPlace), .int (jI vO_clauses), .ref qO_rule, .ref qO_fresh, .int (jI vO_lots), .ref qO_stocks, .ref qO_row, .ref qO_dangers, .ref qO_losses, .long (jL vO_upper), .long (jL vO_lower), .ref qO_habitUpper, .ref qO_habitLower, .int (jI vO_at), .long (jL vO_word), .int (jI vO_wordEnd), .ref qO_chosen, .ref qO_lost, .ref qO_zones, .ref qO_way, .ref qO_spent, .ref qO_scaffolds]))] (fun (u : Unit) => True) (fun (u : Unit) => [(qO, .inr (10, [.int (jI vO_blocks), .ref qO_stones, .ref qO_laid, .ref qO_deep, .int (jI vO_placings), .ref qO_placed, .int (jI vO_mortars), .ref qO_put, .ref qO_rates, .int (jI vO_limit), .int (jI vO_looks), .ref qO_seen, .ref qO_text, .int (jI vO_texted), .int (jI vO_faultPlace), .int (jI vO_clauses), .ref qO_rule, .ref qO_fresh, .int (jI vO_lots), .ref qO_stocks, .ref qO_row, .ref qO_dangers, .ref qO_losses, .long (jL (nU vO_upper vO_lower)), .long (jL (nL vO_upper vO_lower)), .ref qO_habitUpper, .ref qO_habitLower, .int (jI vO_at), .long (jL vO_word), .int (jI vO_wordEnd), .ref qO_chosen, .ref qO_lost, .ref qO_zones, .ref qO_way, .ref qO_spent, .ref qO_scaffolds]))]) := by
  refine xMv_of (cc := cX10_least) (maxL := 3) (by decide) rfl (Nat.le_of_ble_eq_true rfl) ?_
  intro p e s m args below meth c A Q F hin2 hret
  have hin10 : ∀ w ∈ wsX100, w ∈ wsX10_least := by decide +kernel
  have hw0 : Cond.fieldLink RX10 159 (TX10 23).1 (TX10 23).2.1 (TX10 23).2.2.1 ∈ wsX10_least := by decide +kernel
  have hw1 : Cond.fieldLink RX10 163 (TX10 24).1 (TX10 24).2.1 (TX10 24).2.2.1 ∈ wsX10_least := by decide +kernel
  refine x_lveq (lv' := [(0, .ref qO)]) rfl ?_
  have hgp := gc_pos (a := vO_upper) hOlw.1
  have hgl := gc_le (a := vO_upper) hOlw.1
  refine x_aload_n F dX10_least_0 rfl 0 rfl ?_
  refine x_get (ci := 10) F hin10 0 rfl rfl 23 (by decide) hw0 rfl dX10_least_1 ?_
  refine x_aload_n F dX10_least_4 rfl 0 rfl ?_
  refine x_get (ci := 10) F hin10 0 rfl rfl 24 (by decide) hw1 rfl dX10_least_5 ?_
  refine x_callSl (As := [.long (jL vO_upper), .long (jL vO_lower)]) (st := []) F (c_X10_common D kI kJ l vO_upper vO_lower (by omega) (by omega)) (va_cwS 2 F.2.2.2.2.1 gX10_least_X10_common rfl rfl rfl (by decide +kernel) ⟨Nat.le_of_ble_eq_true rfl, Nat.le_of_ble_eq_true rfl⟩) [] [0] [0] rfl rfl (by decide) (by decide) (by decide) (fun _ => rfl) (by decide) rfl (Nat.le_of_ble_eq_true rfl) dX10_least_8 ⟨Nat.le_of_ble_eq_true rfl, Nat.le_of_ble_eq_true rfl⟩ (fun z8 u8 h8 => ?_)
  try dsimp only at h8
  refine x_ws [(qO, .inr (10, [.int (jI vO_blocks), .ref qO_stones, .ref qO_laid, .ref qO_deep, .int (jI vO_placings), .ref qO_placed, .int (jI vO_mortars), .ref qO_put, .ref qO_rates, .int (jI vO_limit), .int (jI vO_looks), .ref qO_seen, .ref qO_text, .int (jI vO_texted), .int (jI vO_faultPlace), .int (jI vO_clauses), .ref qO_rule, .ref qO_fresh, .int (jI vO_lots), .ref qO_stocks, .ref qO_row, .ref qO_dangers, .ref qO_losses, .long (jL vO_upper), .long (jL vO_lower), .ref qO_habitUpper, .ref qO_habitLower, .int (jI vO_at), .long (jL vO_word), .int (jI vO_wordEnd), .ref qO_chosen, .ref qO_lost, .ref qO_zones, .ref qO_way, .ref qO_spent, .ref qO_scaffolds]))] rfl ?_
  subst h8
  refine x_lstore_n (lv' := [(0, .ref qO), (1, .long (jL (Int.gcd vO_upper vO_lower : Int)))]) F dX10_least_11 rfl (by decide) [1, 0] rfl ?_
  refine x_aload_n F dX10_least_12 rfl 0 rfl ?_
  refine x_dup F dX10_least_13 rfl ?_
  refine x_get (ci := 10) F hin10 0 rfl rfl 23 (by decide) hw0 rfl dX10_least_14 ?_
  refine x_lload_n F dX10_least_17 rfl 1 rfl ?_
  refine x_ldiv F dX10_least_18 (by omega) ?_
  refine x_put (ci := 10) F hin10 tyX10_ok nmX10 0 rfl rfl 23 (by decide) hw0 rfl rfl rfl (show 23 + 1 ≤ _ from Nat.le_of_ble_eq_true rfl) dX10_least_19 [(qO, .inr (10, [.int (jI vO_blocks), .ref qO_stones, .ref qO_laid, .ref qO_deep, .int (jI vO_placings), .ref qO_placed, .int (jI vO_mortars), .ref qO_put, .ref qO_rates, .int (jI vO_limit), .int (jI vO_looks), .ref qO_seen, .ref qO_text, .int (jI vO_texted), .int (jI vO_faultPlace), .int (jI vO_clauses), .ref qO_rule, .ref qO_fresh, .int (jI vO_lots), .ref qO_stocks, .ref qO_row, .ref qO_dangers, .ref qO_losses, .long (jL (Int.tdiv vO_upper (Int.gcd vO_upper vO_lower : Int))), .long (jL vO_lower), .ref qO_habitUpper, .ref qO_habitLower, .int (jI vO_at), .long (jL vO_word), .int (jI vO_wordEnd), .ref qO_chosen, .ref qO_lost, .ref qO_zones, .ref qO_way, .ref qO_spent, .ref qO_scaffolds]))] rfl ?_
  refine x_aload_n F dX10_least_22 rfl 0 rfl ?_
  refine x_dup F dX10_least_23 rfl ?_
  refine x_get (ci := 10) F hin10 0 rfl rfl 24 (by decide) hw1 rfl dX10_least_24 ?_
  refine x_lload_n F dX10_least_27 rfl 1 rfl ?_
  refine x_ldiv F dX10_least_28 (by omega) ?_
  refine x_put (ci := 10) F hin10 tyX10_ok nmX10 0 rfl rfl 24 (by decide) hw1 rfl rfl rfl (show 24 + 1 ≤ _ from Nat.le_of_ble_eq_true rfl) dX10_least_29 [(qO, .inr (10, [.int (jI vO_blocks), .ref qO_stones, .ref qO_laid, .ref qO_deep, .int (jI vO_placings), .ref qO_placed, .int (jI vO_mortars), .ref qO_put, .ref qO_rates, .int (jI vO_limit), .int (jI vO_looks), .ref qO_seen, .ref qO_text, .int (jI vO_texted), .int (jI vO_faultPlace), .int (jI vO_clauses), .ref qO_rule, .ref qO_fresh, .int (jI vO_lots), .ref qO_stocks, .ref qO_row, .ref qO_dangers, .ref qO_losses, .long (jL (Int.tdiv vO_upper (Int.gcd vO_upper vO_lower : Int))), .long (jL (Int.tdiv vO_lower (Int.gcd vO_upper vO_lower : Int))), .ref qO_habitUpper, .ref qO_habitLower, .int (jI vO_at), .long (jL vO_word), .int (jI vO_wordEnd), .ref qO_chosen, .ref qO_lost, .ref qO_zones, .ref qO_way, .ref qO_spent, .ref qO_scaffolds]))] rfl ?_
  refine x_ws [(qO, .inr (10, [.int (jI vO_blocks), .ref qO_stones, .ref qO_laid, .ref qO_deep, .int (jI vO_placings), .ref qO_placed, .int (jI vO_mortars), .ref qO_put, .ref qO_rates, .int (jI vO_limit), .int (jI vO_looks), .ref qO_seen, .ref qO_text, .int (jI vO_texted), .int (jI vO_faultPlace), .int (jI vO_clauses), .ref qO_rule, .ref qO_fresh, .int (jI vO_lots), .ref qO_stocks, .ref qO_row, .ref qO_dangers, .ref qO_losses, .long (jL (nU vO_upper vO_lower)), .long (jL (nL vO_upper vO_lower)), .ref qO_habitUpper, .ref qO_habitLower, .int (jI vO_at), .long (jL vO_word), .int (jI vO_wordEnd), .ref qO_chosen, .ref qO_lost, .ref qO_zones, .ref qO_way, .ref qO_spent, .ref qO_scaffolds]))] (by rw [td_U hOlw.1, td_L hOlw.1]) ?_
  exact hret 0 0 32 _ () (Nat.le_of_ble_eq_true rfl) (Nat.le_of_ble_eq_true rfl) dX10_least_32 (trivial)
set_option maxHeartbeats 4000000 in
set_option maxRecDepth 100000 in
theorem c_X10_takeOff (D : va_G) (kI kJ : Nat) (l : Launch) (qO : Nat) (a : Int) (b : Int) (times : Int) (vO_blocks : Int) (qO_stones : Nat) (qO_laid : Nat) (qO_deep : Nat) (vO_placings : Int) (qO_placed : Nat) (vO_mortars : Int) (qO_put : Nat) (qO_rates : Nat) (vO_limit : Int) (vO_looks : Int) (qO_seen : Nat) (qO_text : Nat) (vO_texted : Int) (vO_faultPlace : Int) (vO_clauses : Int) (qO_rule : Nat) (qO_fresh : Nat) (vO_lots : Int) (qO_stocks : Nat) (qO_row : Nat) (qO_dangers : Nat) (qO_losses : Nat) (vO_upper : Int) (vO_lower : Int) (qO_habitUpper : Nat) (qO_habitLower : Nat) (vO_at : Int) (vO_word : Int) (vO_wordEnd : Int) (qO_chosen : Nat) (qO_lost : Nat) (qO_zones : Nat) (qO_way : Nat) (qO_spent : Nat) (qO_scaffolds : Nat) (hb : 0 < b ∧ b ≤ 3200) (ht : 0 ≤ times ∧ times ≤ 80) (ha : -158400 ≤ a ∧ a ≤ 158400) (hOlw : 0 < vO_lower ∧ vO_lower ≤ 32768000000) (hOu : -(11920 * vO_lower) ≤ vO_upper ∧ vO_upper ≤ 11920 * vO_lower) : xMv D kI kJ l yX10_takeOff wsX10_takeOff 3 83 0 0 [.ref qO, .long (jL a), .long (jL b), .long (jL times)] [(qO, .inr (10, [.int (jI vO_blocks), .ref qO_stones, .ref qO_laid, .ref qO_deep, .int (jI vO_placings), .ref qO_placed, .int (jI vO_mortars), .ref qO_put, .ref qO_rates, .int (jI vO_limit), .int (jI vO_looks), .ref qO_seen, .ref qO_text, .int (jI vO_texted), .int (jI vO_faultPlace), .int (jI vO_clauses), .ref qO_rule, .ref qO_fresh, .int (jI vO_lots), .ref qO_stocks, .ref qO_row, .ref qO_dangers, .ref qO_losses, .long (jL vO_upper), .long (jL vO_lower), .ref qO_habitUpper, .ref qO_habitLower, .int (jI vO_at), .long (jL vO_word), .int (jI vO_wordEnd), .ref qO_chosen, .ref qO_lost, .ref qO_zones, .ref qO_way, .ref qO_spent, .ref qO_scaffolds]))] (fun (u : Unit) => True) (fun (u : Unit) => [(qO, .inr (10, [.int (jI vO_blocks), .ref qO_stones, .ref qO_laid, .ref qO_deep, .int (jI vO_placings), .ref qO_placed, .int (jI vO_mortars), .ref qO_put, .ref qO_rates, .int (jI vO_limit), .int (jI vO_looks), .ref qO_seen, .ref qO_text, .int (jI vO_texted), .int (jI vO_faultPlace), .int (jI vO_clauses), .ref qO_rule, .ref qO_fresh, .int (jI vO_lots), .ref qO_stocks, .ref qO_row, .ref qO_dangers, .ref qO_losses, .long (jL (nU (vO_upper * b - times * a * vO_lower) (vO_lower * b))), .long (jL (nL (vO_upper * b - times * a * vO_lower) (vO_lower * b))), .ref qO_habitUpper, .ref qO_habitLower, .int (jI vO_at), .long (jL vO_word), .int (jI vO_wordEnd), .ref qO_chosen, .ref qO_lost, .ref qO_zones, .ref qO_way, .ref qO_spent, .ref qO_scaffolds]))]) := by
  refine xMv_of (cc := cX10_takeOff) (maxL := 13) (by decide) rfl (Nat.le_of_ble_eq_true rfl) ?_
  intro p e s m args below meth c A Q F hin2 hret
  have hin10 : ∀ w ∈ wsX100, w ∈ wsX10_takeOff := by decide +kernel
  have hw0 : Cond.fieldLink RX10 163 (TX10 24).1 (TX10 24).2.1 (TX10 24).2.2.1 ∈ wsX10_takeOff := by decide +kernel
  have hw1 : Cond.fieldLink RX10 159 (TX10 23).1 (TX10 23).2.1 (TX10 23).2.2.1 ∈ wsX10_takeOff := by decide +kernel
  refine x_lveq (lv' := [(0, .ref qO), (1, .long (jL a)), (3, .long (jL b)), (5, .long (jL times))]) rfl ?_
  refine x_lload_n F dX10_takeOff_0 rfl 1 rfl ?_
  refine x_lload_n F dX10_takeOff_1 rfl 2 rfl ?_
  refine x_callSl (As := [.long (jL a), .long (jL b)]) (st := []) F (c_X10_common D kI kJ l a b (by omega) (by omega)) (va_cwS 2 F.2.2.2.2.1 gX10_takeOff_X10_common rfl rfl rfl (by decide +kernel) ⟨Nat.le_of_ble_eq_true rfl, Nat.le_of_ble_eq_true rfl⟩) [] [0] [0] rfl rfl (by decide) (by decide) (by decide) (fun _ => rfl) (by decide) rfl (Nat.le_of_ble_eq_true rfl) dX10_takeOff_2 ⟨Nat.le_of_ble_eq_true rfl, Nat.le_of_ble_eq_true rfl⟩ (fun z2 u2 h2 => ?_)
  try dsimp only at h2
  refine x_ws [(qO, .inr (10, [.int (jI vO_blocks), .ref qO_stones, .ref qO_laid, .ref qO_deep, .int (jI vO_placings), .ref qO_placed, .int (jI vO_mortars), .ref qO_put, .ref qO_rates, .int (jI vO_limit), .int (jI vO_looks), .ref qO_seen, .ref qO_text, .int (jI vO_texted), .int (jI vO_faultPlace), .int (jI vO_clauses), .ref qO_rule, .ref qO_fresh, .int (jI vO_lots), .ref qO_stocks, .ref qO_row, .ref qO_dangers, .ref qO_losses, .long (jL vO_upper), .long (jL vO_lower), .ref qO_habitUpper, .ref qO_habitLower, .int (jI vO_at), .long (jL vO_word), .int (jI vO_wordEnd), .ref qO_chosen, .ref qO_lost, .ref qO_zones, .ref qO_way, .ref qO_spent, .ref qO_scaffolds]))] rfl ?_
  subst h2
  refine x_lstore (lv' := [(0, .ref qO), (1, .long (jL a)), (3, .long (jL b)), (5, .long (jL times)), (7, .long (jL (Int.gcd a b : Int)))]) F dX10_takeOff_5 (by decide) [1, 2, 3, 4, 0] rfl ?_
  have kg := gc_le (a := a) hb.1
  obtain ⟨k0, k1, k2, k3, k4, k5, k6, k7, k8, k9, k10, k11, k12, k13, k14⟩ := fr_take (u := vO_upper) (a := a) (t := times) hOlw.1 hb.1 rfl rfl rfl
  refine x_lload_n F dX10_takeOff_7 rfl 2 rfl ?_
  refine x_lload F dX10_takeOff_8 4 rfl ?_
  refine x_ldiv F dX10_takeOff_10 (by omega) ?_
  refine x_lstore (lv' := [(0, .ref qO), (1, .long (jL a)), (3, .long (jL b)), (5, .long (jL times)), (7, .long (jL (Int.gcd a b : Int))), (9, .long (jL (Int.tdiv b (Int.gcd a b : Int))))]) F dX10_takeOff_11 (by decide) [1, 2, 3, 4, 5, 0] rfl ?_
  refine x_aload_n F dX10_takeOff_13 rfl 0 rfl ?_
  refine x_get (ci := 10) F hin10 0 rfl rfl 24 (by decide) hw0 rfl dX10_takeOff_14 ?_
  refine x_lload F dX10_takeOff_17 5 rfl ?_
  refine x_callSl (As := [.long (jL vO_lower), .long (jL (Int.tdiv b (Int.gcd a b : Int)))]) (st := []) F (c_X10_common D kI kJ l vO_lower (Int.tdiv b (Int.gcd a b : Int)) (by omega) (by omega)) (va_cwS 2 F.2.2.2.2.1 gX10_takeOff_X10_common rfl rfl rfl (by decide +kernel) ⟨Nat.le_of_ble_eq_true rfl, Nat.le_of_ble_eq_true rfl⟩) [] [0] [0] rfl rfl (by decide) (by decide) (by decide) (fun _ => rfl) (by decide) rfl (Nat.le_of_ble_eq_true rfl) dX10_takeOff_19 ⟨Nat.le_of_ble_eq_true rfl, Nat.le_of_ble_eq_true rfl⟩ (fun z19 u19 h19 => ?_)
  try dsimp only at h19
  refine x_ws [(qO, .inr (10, [.int (jI vO_blocks), .ref qO_stones, .ref qO_laid, .ref qO_deep, .int (jI vO_placings), .ref qO_placed, .int (jI vO_mortars), .ref qO_put, .ref qO_rates, .int (jI vO_limit), .int (jI vO_looks), .ref qO_seen, .ref qO_text, .int (jI vO_texted), .int (jI vO_faultPlace), .int (jI vO_clauses), .ref qO_rule, .ref qO_fresh, .int (jI vO_lots), .ref qO_stocks, .ref qO_row, .ref qO_dangers, .ref qO_losses, .long (jL vO_upper), .long (jL vO_lower), .ref qO_habitUpper, .ref qO_habitLower, .int (jI vO_at), .long (jL vO_word), .int (jI vO_wordEnd), .ref qO_chosen, .ref qO_lost, .ref qO_zones, .ref qO_way, .ref qO_spent, .ref qO_scaffolds]))] rfl ?_
  subst h19
  refine x_lstore (lv' := [(0, .ref qO), (1, .long (jL a)), (3, .long (jL b)), (5, .long (jL times)), (7, .long (jL (Int.gcd a b : Int))), (9, .long (jL (Int.tdiv b (Int.gcd a b : Int)))), (11, .long (jL (Int.gcd vO_lower (Int.tdiv b (Int.gcd a b : Int)) : Int)))]) F dX10_takeOff_22 (by decide) [1, 2, 3, 4, 5, 6, 0] rfl ?_
  have m13 := k13 11920 hOu (by omega)
  have m14 := k14 158400 ha
  have mb := Int.mul_le_mul_of_nonneg_left hb.2 (show 0 ≤ vO_lower by omega)
  have m15 : -(158400 * 80) ≤ Int.tdiv a (Int.gcd a b : Int) * times ∧ Int.tdiv a (Int.gcd a b : Int) * times ≤ 158400 * 80 := by
    have f1 := Int.mul_le_mul_of_nonneg_right m14.1 ht.1
    have f2 := Int.mul_le_mul_of_nonneg_right m14.2 ht.1
    omega
  have m16 := Int.mul_le_mul_of_nonneg_right m15.1 (show 0 ≤ Int.tdiv vO_lower (Int.gcd vO_lower (Int.tdiv b (Int.gcd a b : Int)) : Int) by omega)
  have m17 := Int.mul_le_mul_of_nonneg_right m15.2 (show 0 ≤ Int.tdiv vO_lower (Int.gcd vO_lower (Int.tdiv b (Int.gcd a b : Int)) : Int) by omega)
  refine x_aload_n F dX10_takeOff_24 rfl 0 rfl ?_
  refine x_aload_n F dX10_takeOff_25 rfl 0 rfl ?_
  refine x_get (ci := 10) F hin10 0 rfl rfl 23 (by decide) hw1 rfl dX10_takeOff_26 ?_
  refine x_lload F dX10_takeOff_29 5 rfl ?_
  refine x_lload F dX10_takeOff_31 6 rfl ?_
  refine x_ldiv F dX10_takeOff_33 (by omega) ?_
  refine x_lmul F dX10_takeOff_34 ?_
  refine x_lload_n F dX10_takeOff_35 rfl 1 rfl ?_
  refine x_lload F dX10_takeOff_36 4 rfl ?_
  refine x_ldiv F dX10_takeOff_38 (by omega) ?_
  refine x_lload F dX10_takeOff_39 3 rfl ?_
  refine x_lmul F dX10_takeOff_41 ?_
  refine x_aload_n F dX10_takeOff_42 rfl 0 rfl ?_
  refine x_get (ci := 10) F hin10 0 rfl rfl 24 (by decide) hw0 rfl dX10_takeOff_43 ?_
  refine x_lload F dX10_takeOff_46 6 rfl ?_
  refine x_ldiv F dX10_takeOff_48 (by omega) ?_
  refine x_lmul F dX10_takeOff_49 ?_
  refine x_lsub F dX10_takeOff_50 ?_
  refine x_put (ci := 10) F hin10 tyX10_ok nmX10 0 rfl rfl 23 (by decide) hw1 rfl rfl rfl (show 23 + 1 ≤ _ from Nat.le_of_ble_eq_true rfl) dX10_takeOff_51 [(qO, .inr (10, [.int (jI vO_blocks), .ref qO_stones, .ref qO_laid, .ref qO_deep, .int (jI vO_placings), .ref qO_placed, .int (jI vO_mortars), .ref qO_put, .ref qO_rates, .int (jI vO_limit), .int (jI vO_looks), .ref qO_seen, .ref qO_text, .int (jI vO_texted), .int (jI vO_faultPlace), .int (jI vO_clauses), .ref qO_rule, .ref qO_fresh, .int (jI vO_lots), .ref qO_stocks, .ref qO_row, .ref qO_dangers, .ref qO_losses, .long (jL ((vO_upper * (Int.tdiv (Int.tdiv b (Int.gcd a b : Int)) (Int.gcd vO_lower (Int.tdiv b (Int.gcd a b : Int)) : Int))) - (((Int.tdiv a (Int.gcd a b : Int)) * times) * (Int.tdiv vO_lower (Int.gcd vO_lower (Int.tdiv b (Int.gcd a b : Int)) : Int))))), .long (jL vO_lower), .ref qO_habitUpper, .ref qO_habitLower, .int (jI vO_at), .long (jL vO_word), .int (jI vO_wordEnd), .ref qO_chosen, .ref qO_lost, .ref qO_zones, .ref qO_way, .ref qO_spent, .ref qO_scaffolds]))] rfl ?_
  refine x_aload_n F dX10_takeOff_54 rfl 0 rfl ?_
  refine x_dup F dX10_takeOff_55 rfl ?_
  refine x_get (ci := 10) F hin10 0 rfl rfl 24 (by decide) hw0 rfl dX10_takeOff_56 ?_
  refine x_lload F dX10_takeOff_59 5 rfl ?_
  refine x_lload F dX10_takeOff_61 6 rfl ?_
  refine x_ldiv F dX10_takeOff_63 (by omega) ?_
  refine x_lmul F dX10_takeOff_64 ?_
  refine x_put (ci := 10) F hin10 tyX10_ok nmX10 0 rfl rfl 24 (by decide) hw0 rfl rfl rfl (show 24 + 1 ≤ _ from Nat.le_of_ble_eq_true rfl) dX10_takeOff_65 [(qO, .inr (10, [.int (jI vO_blocks), .ref qO_stones, .ref qO_laid, .ref qO_deep, .int (jI vO_placings), .ref qO_placed, .int (jI vO_mortars), .ref qO_put, .ref qO_rates, .int (jI vO_limit), .int (jI vO_looks), .ref qO_seen, .ref qO_text, .int (jI vO_texted), .int (jI vO_faultPlace), .int (jI vO_clauses), .ref qO_rule, .ref qO_fresh, .int (jI vO_lots), .ref qO_stocks, .ref qO_row, .ref qO_dangers, .ref qO_losses, .long (jL ((vO_upper * (Int.tdiv (Int.tdiv b (Int.gcd a b : Int)) (Int.gcd vO_lower (Int.tdiv b (Int.gcd a b : Int)) : Int))) - (((Int.tdiv a (Int.gcd a b : Int)) * times) * (Int.tdiv vO_lower (Int.gcd vO_lower (Int.tdiv b (Int.gcd a b : Int)) : Int))))), .long (jL (vO_lower * (Int.tdiv (Int.tdiv b (Int.gcd a b : Int)) (Int.gcd vO_lower (Int.tdiv b (Int.gcd a b : Int)) : Int)))), .ref qO_habitUpper, .ref qO_habitLower, .int (jI vO_at), .long (jL vO_word), .int (jI vO_wordEnd), .ref qO_chosen, .ref qO_lost, .ref qO_zones, .ref qO_way, .ref qO_spent, .ref qO_scaffolds]))] rfl ?_
  refine x_aload_n F dX10_takeOff_68 rfl 0 rfl ?_
  refine x_callVv (ci := 10) (q0 := 0) (As := []) (st := []) F (c_X10_least D kI kJ l qO vO_blocks qO_stones qO_laid qO_deep vO_placings qO_placed vO_mortars qO_put qO_rates vO_limit vO_looks qO_seen qO_text vO_texted vO_faultPlace vO_clauses qO_rule qO_fresh vO_lots qO_stocks qO_row qO_dangers qO_losses ((vO_upper * (Int.tdiv (Int.tdiv b (Int.gcd a b : Int)) (Int.gcd vO_lower (Int.tdiv b (Int.gcd a b : Int)) : Int))) - (((Int.tdiv a (Int.gcd a b : Int)) * times) * (Int.tdiv vO_lower (Int.gcd vO_lower (Int.tdiv b (Int.gcd a b : Int)) : Int)))) (vO_lower * (Int.tdiv (Int.tdiv b (Int.gcd a b : Int)) (Int.gcd vO_lower (Int.tdiv b (Int.gcd a b : Int)) : Int))) qO_habitUpper qO_habitLower vO_at vO_word vO_wordEnd qO_chosen qO_lost qO_zones qO_way qO_spent qO_scaffolds (by omega) (by omega)) (cwV 0 F.2.2.2.2.1 gX10_takeOff_X10_least rfl rfl rfl (by decide +kernel) ⟨Nat.le_of_ble_eq_true rfl, Nat.le_of_ble_eq_true rfl⟩) rfl rfl [0] [] [0] rfl rfl (by decide) (by decide) (by decide) (fun _ => rfl) (by decide) rfl (Nat.le_of_ble_eq_true rfl) dX10_takeOff_69 ⟨Nat.le_of_ble_eq_true rfl, Nat.le_of_ble_eq_true rfl⟩ (fun u69 h69 => ?_)
  try dsimp only at h69
  refine x_ws [(qO, .inr (10, [.int (jI vO_blocks), .ref qO_stones, .ref qO_laid, .ref qO_deep, .int (jI vO_placings), .ref qO_placed, .int (jI vO_mortars), .ref qO_put, .ref qO_rates, .int (jI vO_limit), .int (jI vO_looks), .ref qO_seen, .ref qO_text, .int (jI vO_texted), .int (jI vO_faultPlace), .int (jI vO_clauses), .ref qO_rule, .ref qO_fresh, .int (jI vO_lots), .ref qO_stocks, .ref qO_row, .ref qO_dangers, .ref qO_losses, .long (jL (nU ((vO_upper * (Int.tdiv (Int.tdiv b (Int.gcd a b : Int)) (Int.gcd vO_lower (Int.tdiv b (Int.gcd a b : Int)) : Int))) - (((Int.tdiv a (Int.gcd a b : Int)) * times) * (Int.tdiv vO_lower (Int.gcd vO_lower (Int.tdiv b (Int.gcd a b : Int)) : Int)))) (vO_lower * (Int.tdiv (Int.tdiv b (Int.gcd a b : Int)) (Int.gcd vO_lower (Int.tdiv b (Int.gcd a b : Int)) : Int))))), .long (jL (nL ((vO_upper * (Int.tdiv (Int.tdiv b (Int.gcd a b : Int)) (Int.gcd vO_lower (Int.tdiv b (Int.gcd a b : Int)) : Int))) - (((Int.tdiv a (Int.gcd a b : Int)) * times) * (Int.tdiv vO_lower (Int.gcd vO_lower (Int.tdiv b (Int.gcd a b : Int)) : Int)))) (vO_lower * (Int.tdiv (Int.tdiv b (Int.gcd a b : Int)) (Int.gcd vO_lower (Int.tdiv b (Int.gcd a b : Int)) : Int))))), .ref qO_habitUpper, .ref qO_habitLower, .int (jI vO_at), .long (jL vO_word), .int (jI vO_wordEnd), .ref qO_chosen, .ref qO_lost, .ref qO_zones, .ref qO_way, .ref qO_spent, .ref qO_scaffolds]))] rfl ?_
  refine x_ws [(qO, .inr (10, [.int (jI vO_blocks), .ref qO_stones, .ref qO_laid, .ref qO_deep, .int (jI vO_placings), .ref qO_placed, .int (jI vO_mortars), .ref qO_put, .ref qO_rates, .int (jI vO_limit), .int (jI vO_looks), .ref qO_seen, .ref qO_text, .int (jI vO_texted), .int (jI vO_faultPlace), .int (jI vO_clauses), .ref qO_rule, .ref qO_fresh, .int (jI vO_lots), .ref qO_stocks, .ref qO_row, .ref qO_dangers, .ref qO_losses, .long (jL (nU (vO_upper * b - times * a * vO_lower) (vO_lower * b))), .long (jL (nL (vO_upper * b - times * a * vO_lower) (vO_lower * b))), .ref qO_habitUpper, .ref qO_habitLower, .int (jI vO_at), .long (jL vO_word), .int (jI vO_wordEnd), .ref qO_chosen, .ref qO_lost, .ref qO_zones, .ref qO_way, .ref qO_spent, .ref qO_scaffolds]))] (by rw [k11, k12]) ?_
  exact hret 0 0 72 _ () (Nat.le_of_ble_eq_true rfl) (Nat.le_of_ble_eq_true rfl) dX10_takeOff_72 (trivial)
set_option maxHeartbeats 4000000 in
set_option maxRecDepth 100000 in
theorem c_X10_findHabits (D : va_G) (kI kJ : Nat) (l : Launch) (qO : Nat) (known : Int) (vO_blocks : Int) (qO_stones : Nat) (qO_laid : Nat) (qO_deep : Nat) (vO_placings : Int) (qO_placed : Nat) (vO_mortars : Int) (qO_put : Nat) (qO_rates : Nat) (vO_limit : Int) (vO_looks : Int) (qO_seen : Nat) (qO_text : Nat) (vO_texted : Int) (vO_faultPlace : Int) (vO_clauses : Int) (qO_rule : Nat) (qO_fresh : Nat) (vO_lots : Int) (qO_stocks : Nat) (qO_row : Nat) (qO_dangers : Nat) (qO_losses : Nat) (vO_upper : Int) (vO_lower : Int) (qO_habitUpper : Nat) (qO_habitLower : Nat) (vO_at : Int) (vO_word : Int) (vO_wordEnd : Int) (qO_chosen : Nat) (qO_lost : Nat) (qO_zones : Nat) (qO_way : Nat) (qO_spent : Nat) (qO_scaffolds : Nat) (fO_seen : (Int → Int)) (fO_habitUpper : (Int → Int)) (fO_habitLower : (Int → Int)) (hk : 0 ≤ known ∧ known ≤ 80) (hOsn : Rg fO_seen 320 0 400) (hOs1 : Rg (fun k => fO_seen (4 * k + 1)) 80 0 3) (hOs3 : Rg (fun k => fO_seen (4 * k + 3)) 80 0 99) : xMv D kI kJ l yX10_findHabits wsX10_findHabits 2 54 0 0 [.ref qO, .int (jI known)] [(qO, .inr (10, [.int (jI vO_blocks), .ref qO_stones, .ref qO_laid, .ref qO_deep, .int (jI vO_placings), .ref qO_placed, .int (jI vO_mortars), .ref qO_put, .ref qO_rates, .int (jI vO_limit), .int (jI vO_looks), .ref qO_seen, .ref qO_text, .int (jI vO_texted), .int (jI vO_faultPlace), .int (jI vO_clauses), .ref qO_rule, .ref qO_fresh, .int (jI vO_lots), .ref qO_stocks, .ref qO_row, .ref qO_dangers, .ref qO_losses, .long (jL vO_upper), .long (jL vO_lower), .ref qO_habitUpper, .ref qO_habitLower, .int (jI vO_at), .long (jL vO_word), .int (jI vO_wordEnd), .ref qO_chosen, .ref qO_lost, .ref qO_zones, .ref qO_way, .ref qO_spent, .ref qO_scaffolds])), aI kI qO_seen 320 fO_seen, aJ kJ qO_habitUpper 4 fO_habitUpper, aJ kJ qO_habitLower 4 fO_habitLower] (fun (u : (Int → Int) × (Int → Int)) => (∀ k : Int, 0 ≤ k → k < 4 → u.1 k = hS (fun k => fO_seen (4 * k)) (fun k => fO_seen (4 * k + 2)) (fun k => fO_seen (4 * k + 1)) (fun k => fO_seen (4 * k + 3)) known k) ∧ (∀ k : Int, 0 ≤ k → k < 4 → u.2 k = hD (fun k => fO_seen (4 * k)) (fun k => fO_seen (4 * k + 2)) (fun k => fO_seen (4 * k + 1)) known k)) (fun (u : (Int → Int) × (Int → Int)) => [(qO, .inr (10, [.int (jI vO_blocks), .ref qO_stones, .ref qO_laid, .ref qO_deep, .int (jI vO_placings), .ref qO_placed, .int (jI vO_mortars), .ref qO_put, .ref qO_rates, .int (jI vO_limit), .int (jI vO_looks), .ref qO_seen, .ref qO_text, .int (jI vO_texted), .int (jI vO_faultPlace), .int (jI vO_clauses), .ref qO_rule, .ref qO_fresh, .int (jI vO_lots), .ref qO_stocks, .ref qO_row, .ref qO_dangers, .ref qO_losses, .long (jL vO_upper), .long (jL vO_lower), .ref qO_habitUpper, .ref qO_habitLower, .int (jI vO_at), .long (jL vO_word), .int (jI vO_wordEnd), .ref qO_chosen, .ref qO_lost, .ref qO_zones, .ref qO_way, .ref qO_spent, .ref qO_scaffolds])), aI kI qO_seen 320 fO_seen, aJ kJ qO_habitUpper 4 u.1, aJ kJ qO_habitLower 4 u.2]) := by
  refine xMv_of (cc := cX10_findHabits) (maxL := 5) (by decide) rfl (Nat.le_of_ble_eq_true rfl) ?_
  intro p e s m args below meth c A Q F hin2 hret
  have hin10 : ∀ w ∈ wsX100, w ∈ wsX10_findHabits := by decide +kernel
  have hw0 : Cond.fieldLink RX10 63 (TX10 26).1 (TX10 26).2.1 (TX10 26).2.2.1 ∈ wsX10_findHabits := by decide +kernel
  have hw1 : Cond.fieldLink RX10 32 (TX10 11).1 (TX10 11).2.1 (TX10 11).2.2.1 ∈ wsX10_findHabits := by decide +kernel
  have hw2 : Cond.fieldLink RX10 59 (TX10 25).1 (TX10 25).2.1 (TX10 25).2.2.1 ∈ wsX10_findHabits := by decide +kernel
  have hw3 : Cond.constantLong RX10 173 2 ∈ wsX10_findHabits := by decide +kernel
  refine x_lveq (lv' := [(0, .ref qO), (1, .int (jI known))]) rfl ?_
  refine x_iconst F dX10_findHabits_0 ?_
  refine x_istore_n (lv' := [(0, .ref qO), (1, .int (jI known)), (2, .int (jI 0))]) F dX10_findHabits_1 rfl (by decide) [1, 2, 0] rfl ?_
  have lp2 : ∀ (fu : Nat) (h0 : Int) (zu : (Int → Int)) (zl : (Int → Int)) (hh0 : 0 ≤ h0 ∧ h0 ≤ 4) (hzu : ∀ k : Int, 0 ≤ k → k < h0 → zu k = 0) (hzl : ∀ k : Int, 0 ≤ k → k < h0 → zl k = 0) (hm : 4 - h0 < (fu : Int)), xG D p l e (xRm 2 54 0 0) s m args below meth c 5 A Q 0 0 [(qO, .inr (10, [.int (jI vO_blocks), .ref qO_stones, .ref qO_laid, .ref qO_deep, .int (jI vO_placings), .ref qO_placed, .int (jI vO_mortars), .ref qO_put, .ref qO_rates, .int (jI vO_limit), .int (jI vO_looks), .ref qO_seen, .ref qO_text, .int (jI vO_texted), .int (jI vO_faultPlace), .int (jI vO_clauses), .ref qO_rule, .ref qO_fresh, .int (jI vO_lots), .ref qO_stocks, .ref qO_row, .ref qO_dangers, .ref qO_losses, .long (jL vO_upper), .long (jL vO_lower), .ref qO_habitUpper, .ref qO_habitLower, .int (jI vO_at), .long (jL vO_word), .int (jI vO_wordEnd), .ref qO_chosen, .ref qO_lost, .ref qO_zones, .ref qO_way, .ref qO_spent, .ref qO_scaffolds])), aI kI qO_seen 320 fO_seen, aJ kJ qO_habitUpper 4 zu, aJ kJ qO_habitLower 4 zl] [(0, .ref qO), (1, .int (jI known)), (2, .int (jI h0))] 2 [] := by
    intro fu
    induction fu with
    | zero =>
      intro h0 zu zl hh0 hzu hzl hm
      exact absurd hm (by omega)
    | succ fu ih2 =>
      intro h0 zu zl hh0 hzu hzl hm
      refine x_iload_n F dX10_findHabits_2 rfl 2 rfl ?_
      refine x_iconst F dX10_findHabits_3 ?_
      refine x_icmp_ge (tgt := 27) F dX10_findHabits_4 (by decide) (by omega) (fun c4 => ?_) (fun c4 => ?_)
      · -- 4 t
        refine x_iconst F dX10_findHabits_27 ?_
        refine x_istore_n (lv' := [(0, .ref qO), (1, .int (jI known)), (2, .int (jI 0))]) F dX10_findHabits_28 rfl (by decide) [1, 2, 0] rfl ?_
        have lp29 : ∀ (fu : Nat) (i : Int) (ou : (Int → Int)) (ol : (Int → Int)) (hi : 0 ≤ i ∧ i ≤ known) (hou : ∀ k : Int, 0 ≤ k → k < 4 → ou k = sm (fun i9 => sm ((hvF (fun k => fO_seen (4 * k)) (fun k => fO_seen (4 * k + 2)) (fun k => fO_seen (4 * k + 1)) (fun k => fO_seen (4 * k + 3)) k) i9) known) i) (hol : ∀ k : Int, 0 ≤ k → k < 4 → ol k = 2 * sm (fun i9 => sm ((hvP (fun k => fO_seen (4 * k)) (fun k => fO_seen (4 * k + 2)) (fun k => fO_seen (4 * k + 1)) k) i9) known) i) (hm : known - i < (fu : Int)), xG D p l e (xRm 2 54 0 0) s m args below meth c 5 A Q 0 0 [(qO, .inr (10, [.int (jI vO_blocks), .ref qO_stones, .ref qO_laid, .ref qO_deep, .int (jI vO_placings), .ref qO_placed, .int (jI vO_mortars), .ref qO_put, .ref qO_rates, .int (jI vO_limit), .int (jI vO_looks), .ref qO_seen, .ref qO_text, .int (jI vO_texted), .int (jI vO_faultPlace), .int (jI vO_clauses), .ref qO_rule, .ref qO_fresh, .int (jI vO_lots), .ref qO_stocks, .ref qO_row, .ref qO_dangers, .ref qO_losses, .long (jL vO_upper), .long (jL vO_lower), .ref qO_habitUpper, .ref qO_habitLower, .int (jI vO_at), .long (jL vO_word), .int (jI vO_wordEnd), .ref qO_chosen, .ref qO_lost, .ref qO_zones, .ref qO_way, .ref qO_spent, .ref qO_scaffolds])), aI kI qO_seen 320 fO_seen, aJ kJ qO_habitUpper 4 ou, aJ kJ qO_habitLower 4 ol] [(0, .ref qO), (1, .int (jI known)), (2, .int (jI i))] 29 [] := by
          intro fu
          induction fu with
          | zero =>
            intro i ou ol hi hou hol hm
            exact absurd hm (by omega)
          | succ fu ih29 =>
            intro i ou ol hi hou hol hm
            refine x_iload_n F dX10_findHabits_29 rfl 2 rfl ?_
            refine x_iload_n F dX10_findHabits_30 rfl 1 rfl ?_
            refine x_icmp_ge (tgt := 119) F dX10_findHabits_31 (by decide) (by omega) (fun c31 => ?_) (fun c31 => ?_)
            · -- 31 t
              have hu3 : ∀ k : Int, 0 ≤ k → k < 4 → ou k = hS (fun k => fO_seen (4 * k)) (fun k => fO_seen (4 * k + 2)) (fun k => fO_seen (4 * k + 1)) (fun k => fO_seen (4 * k + 3)) known k := fun k h1 h2 => by rw [hou k h1 h2, show i = known by omega]; rfl
              refine x_iconst F dX10_findHabits_119 ?_
              refine x_istore_n (lv' := [(0, .ref qO), (1, .int (jI known)), (2, .int (jI 0))]) F dX10_findHabits_120 rfl (by decide) [1, 2, 0] rfl ?_
              have lp121 : ∀ (fu : Nat) (h3 : Int) (cl : (Int → Int)) (hh3 : 0 ≤ h3 ∧ h3 ≤ 4) (hcl : ∀ k : Int, 0 ≤ k → k < 4 → k < h3 → cl k = hD (fun k => fO_seen (4 * k)) (fun k => fO_seen (4 * k + 2)) (fun k => fO_seen (4 * k + 1)) known k) (hcr : ∀ k : Int, 0 ≤ k → k < 4 → h3 ≤ k → cl k = 2 * hN (fun k => fO_seen (4 * k)) (fun k => fO_seen (4 * k + 2)) (fun k => fO_seen (4 * k + 1)) known k) (hm : 4 - h3 < (fu : Int)), xG D p l e (xRm 2 54 0 0) s m args below meth c 5 A Q 0 0 [(qO, .inr (10, [.int (jI vO_blocks), .ref qO_stones, .ref qO_laid, .ref qO_deep, .int (jI vO_placings), .ref qO_placed, .int (jI vO_mortars), .ref qO_put, .ref qO_rates, .int (jI vO_limit), .int (jI vO_looks), .ref qO_seen, .ref qO_text, .int (jI vO_texted), .int (jI vO_faultPlace), .int (jI vO_clauses), .ref qO_rule, .ref qO_fresh, .int (jI vO_lots), .ref qO_stocks, .ref qO_row, .ref qO_dangers, .ref qO_losses, .long (jL vO_upper), .long (jL vO_lower), .ref qO_habitUpper, .ref qO_habitLower, .int (jI vO_at), .long (jL vO_word), .int (jI vO_wordEnd), .ref qO_chosen, .ref qO_lost, .ref qO_zones, .ref qO_way, .ref qO_spent, .ref qO_scaffolds])), aI kI qO_seen 320 fO_seen, aJ kJ qO_habitUpper 4 ou, aJ kJ qO_habitLower 4 cl] [(0, .ref qO), (1, .int (jI known)), (2, .int (jI h3))] 121 [] := by
                intro fu
                induction fu with
                | zero =>
                  intro h3 cl hh3 hcl hcr hm
                  exact absurd hm (by omega)
                | succ fu ih121 =>
                  intro h3 cl hh3 hcl hcr hm
                  refine x_iload_n F dX10_findHabits_121 rfl 2 rfl ?_
                  refine x_iconst F dX10_findHabits_122 ?_
                  refine x_icmp_ge (tgt := 159) F dX10_findHabits_123 (by decide) (by omega) (fun c123 => ?_) (fun c123 => ?_)
                  · -- 123 t
                    exact hret 0 0 159 _ (ou, cl) (Nat.le_of_ble_eq_true rfl) (Nat.le_of_ble_eq_true rfl) dX10_findHabits_159 (by (try dsimp only); exact (⟨hu3, fun k h1 h2 => hcl k h1 h2 (by omega)⟩))
                  · -- 123 f
                    have jn152 : ∀ (zv : Int) (hzv : zv = hD (fun k => fO_seen (4 * k)) (fun k => fO_seen (4 * k + 2)) (fun k => fO_seen (4 * k + 1)) known h3), xG D p l e (xRm 2 54 0 0) s m args below meth c 5 A Q 0 0 [(qO, .inr (10, [.int (jI vO_blocks), .ref qO_stones, .ref qO_laid, .ref qO_deep, .int (jI vO_placings), .ref qO_placed, .int (jI vO_mortars), .ref qO_put, .ref qO_rates, .int (jI vO_limit), .int (jI vO_looks), .ref qO_seen, .ref qO_text, .int (jI vO_texted), .int (jI vO_faultPlace), .int (jI vO_clauses), .ref qO_rule, .ref qO_fresh, .int (jI vO_lots), .ref qO_stocks, .ref qO_row, .ref qO_dangers, .ref qO_losses, .long (jL vO_upper), .long (jL vO_lower), .ref qO_habitUpper, .ref qO_habitLower, .int (jI vO_at), .long (jL vO_word), .int (jI vO_wordEnd), .ref qO_chosen, .ref qO_lost, .ref qO_zones, .ref qO_way, .ref qO_spent, .ref qO_scaffolds])), aI kI qO_seen 320 fO_seen, aJ kJ qO_habitUpper 4 ou, aJ kJ qO_habitLower 4 cl] [(0, .ref qO), (1, .int (jI known)), (2, .int (jI h3))] 152 [.long (jL zv), .int (jI h3), .ref qO_habitLower] := by
                      intro zv hzv
                      refine x_last F 3 rfl (by decide) (by omega) dX10_findHabits_152 [(qO, .inr (10, [.int (jI vO_blocks), .ref qO_stones, .ref qO_laid, .ref qO_deep, .int (jI vO_placings), .ref qO_placed, .int (jI vO_mortars), .ref qO_put, .ref qO_rates, .int (jI vO_limit), .int (jI vO_looks), .ref qO_seen, .ref qO_text, .int (jI vO_texted), .int (jI vO_faultPlace), .int (jI vO_clauses), .ref qO_rule, .ref qO_fresh, .int (jI vO_lots), .ref qO_stocks, .ref qO_row, .ref qO_dangers, .ref qO_losses, .long (jL vO_upper), .long (jL vO_lower), .ref qO_habitUpper, .ref qO_habitLower, .int (jI vO_at), .long (jL vO_word), .int (jI vO_wordEnd), .ref qO_chosen, .ref qO_lost, .ref qO_zones, .ref qO_way, .ref qO_spent, .ref qO_scaffolds])), aI kI qO_seen 320 fO_seen, aJ kJ qO_habitUpper 4 ou, aJ kJ qO_habitLower 4 (iU cl h3 zv)] rfl ?_
                      refine x_iinc (lv' := [(0, .ref qO), (1, .int (jI known)), (2, .int (jI (h3 + 1)))]) (k := 2) F dX10_findHabits_153 rfl (by decide) [1, 2, 0] rfl ?_
                      refine x_goto (tgt := 121) F dX10_findHabits_156 (by decide) ?_
                      exact ih121 (h3 + 1) (iU cl h3 zv) (by omega) (fun k h1 h2 h4 => if e : k = h3 then (by rw [e, iU_s]; exact hzv) else (by rw [iU_n e]; exact hcl k h1 h2 (by omega))) (fun k h1 h2 h4 => by rw [iU_n (by omega)]; exact hcr k h1 h2 (by omega)) (by omega)
                    have f9 := hcr h3 (by omega) (by omega) (Int.le_refl _)
                    have n0 := hN_0 (b := fun k => fO_seen (4 * k)) (y := fun k => fO_seen (4 * k + 2)) (h := fun k => fO_seen (4 * k + 1)) (n := known) (hd := h3) hk.1
                    have n1 := hN_le (b := fun k => fO_seen (4 * k)) (y := fun k => fO_seen (4 * k + 2)) (h := fun k => fO_seen (4 * k + 1)) (n := known) (hd := h3) hk
                    refine x_aload_n F dX10_findHabits_126 rfl 0 rfl ?_
                    refine x_get (ci := 10) F hin10 0 rfl rfl 26 (by decide) hw0 rfl dX10_findHabits_127 ?_
                    refine x_iload_n F dX10_findHabits_130 rfl 2 rfl ?_
                    refine x_aload_n F dX10_findHabits_131 rfl 0 rfl ?_
                    refine x_get (ci := 10) F hin10 0 rfl rfl 26 (by decide) hw0 rfl dX10_findHabits_132 ?_
                    refine x_iload_n F dX10_findHabits_135 rfl 2 rfl ?_
                    refine x_lald F 3 rfl (by decide) (by omega) dX10_findHabits_136 ?_
                    refine x_lconst F 0 dX10_findHabits_137 (by decide) ?_
                    refine x_lcmp F dX10_findHabits_138 (by omega) ?_
                    refine x_if_ne (tgt := 146) F dX10_findHabits_139 (by decide) (jC_rng _ _) (fun c139 => ?_) (fun c139 => ?_)
                    · -- 139 t
                      rw [jC_eq] at c139
                      refine x_aload_n F dX10_findHabits_146 rfl 0 rfl ?_
                      refine x_get (ci := 10) F hin10 0 rfl rfl 26 (by decide) hw0 rfl dX10_findHabits_147 ?_
                      refine x_iload_n F dX10_findHabits_150 rfl 2 rfl ?_
                      refine x_lald F 3 rfl (by decide) (by omega) dX10_findHabits_151 ?_
                      exact jn152 (cl h3) (by unfold hD; first | (rw [if_pos (by omega)]) | (rw [if_neg (by omega)]; omega))
                    · -- 139 f
                      rw [jC_eq] at c139
                      refine x_lconst F 1 dX10_findHabits_142 (by decide) ?_
                      refine x_goto (tgt := 152) F dX10_findHabits_143 (by decide) ?_
                      exact jn152 1 (by unfold hD; first | (rw [if_pos (by omega)]) | (rw [if_neg (by omega)]; omega))
              exact lp121 (Int.toNat (4 - 0) + 1) 0 ol (by omega) (fun k h1 h2 h3 => by omega) (fun k h1 h2 _ => by rw [hol k h1 h2, show i = known by omega]; rfl) (by omega)
            · -- 31 f
              refine x_iconst F dX10_findHabits_34 ?_
              refine x_istore_n (lv' := [(0, .ref qO), (1, .int (jI known)), (2, .int (jI i)), (3, .int (jI 0))]) F dX10_findHabits_35 rfl (by decide) [1, 2, 3, 0] rfl ?_
              have lp36 : ∀ (fu : Nat) (j : Int) (iu : (Int → Int)) (il : (Int → Int)) (hj : 0 ≤ j ∧ j ≤ known) (hiu : ∀ k : Int, 0 ≤ k → k < 4 → iu k = sm (fun i9 => sm ((hvF (fun k => fO_seen (4 * k)) (fun k => fO_seen (4 * k + 2)) (fun k => fO_seen (4 * k + 1)) (fun k => fO_seen (4 * k + 3)) k) i9) known) i + sm ((hvF (fun k => fO_seen (4 * k)) (fun k => fO_seen (4 * k + 2)) (fun k => fO_seen (4 * k + 1)) (fun k => fO_seen (4 * k + 3)) k) i) j) (hil : ∀ k : Int, 0 ≤ k → k < 4 → il k = 2 * (sm (fun i9 => sm ((hvP (fun k => fO_seen (4 * k)) (fun k => fO_seen (4 * k + 2)) (fun k => fO_seen (4 * k + 1)) k) i9) known) i + sm ((hvP (fun k => fO_seen (4 * k)) (fun k => fO_seen (4 * k + 2)) (fun k => fO_seen (4 * k + 1)) k) i) j)) (hm : known - j < (fu : Int)), xG D p l e (xRm 2 54 0 0) s m args below meth c 5 A Q 0 0 [(qO, .inr (10, [.int (jI vO_blocks), .ref qO_stones, .ref qO_laid, .ref qO_deep, .int (jI vO_placings), .ref qO_placed, .int (jI vO_mortars), .ref qO_put, .ref qO_rates, .int (jI vO_limit), .int (jI vO_looks), .ref qO_seen, .ref qO_text, .int (jI vO_texted), .int (jI vO_faultPlace), .int (jI vO_clauses), .ref qO_rule, .ref qO_fresh, .int (jI vO_lots), .ref qO_stocks, .ref qO_row, .ref qO_dangers, .ref qO_losses, .long (jL vO_upper), .long (jL vO_lower), .ref qO_habitUpper, .ref qO_habitLower, .int (jI vO_at), .long (jL vO_word), .int (jI vO_wordEnd), .ref qO_chosen, .ref qO_lost, .ref qO_zones, .ref qO_way, .ref qO_spent, .ref qO_scaffolds])), aI kI qO_seen 320 fO_seen, aJ kJ qO_habitUpper 4 iu, aJ kJ qO_habitLower 4 il] [(0, .ref qO), (1, .int (jI known)), (2, .int (jI i)), (3, .int (jI j))] 36 [] := by
                intro fu
                induction fu with
                | zero =>
                  intro j iu il hj hiu hil hm
                  exact absurd hm (by omega)
                | succ fu ih36 =>
                  intro j iu il hj hiu hil hm
                  refine x_iload_n F dX10_findHabits_36 rfl 3 rfl ?_
                  refine x_iload_n F dX10_findHabits_37 rfl 1 rfl ?_
                  refine x_icmp_ge (tgt := 113) F dX10_findHabits_38 (by decide) (by omega) (fun c38 => ?_) (fun c38 => ?_)
                  · -- 38 t
                    refine x_iinc (lv' := [(0, .ref qO), (1, .int (jI known)), (2, .int (jI (i + 1))), (3, .int (jI j))]) (k := 2) F dX10_findHabits_113 rfl (by decide) [1, 2, 0, 3] rfl ?_
                    refine x_goto (tgt := 29) F dX10_findHabits_116 (by decide) ?_
                    refine x_lv (lv' := [(0, .ref qO), (1, .int (jI known)), (2, .int (jI (i + 1)))]) [0, 1, 2] rfl ?_
                    exact ih29 (i + 1) iu il (by omega) (fun k h1 h2 => by rw [hiu k h1 h2, show j = known by omega]; exact (sm_s hi.1).symm) (fun k h1 h2 => by rw [hil k h1 h2, show j = known by omega, sm_s hi.1]) (by omega)
                  · -- 38 f
                    have jn107 : ∀ (iu2 : (Int → Int)) (il2 : (Int → Int)) (hiu2 : ∀ k : Int, 0 ≤ k → k < 4 → iu2 k = sm (fun i9 => sm ((hvF (fun k => fO_seen (4 * k)) (fun k => fO_seen (4 * k + 2)) (fun k => fO_seen (4 * k + 1)) (fun k => fO_seen (4 * k + 3)) k) i9) known) i + sm ((hvF (fun k => fO_seen (4 * k)) (fun k => fO_seen (4 * k + 2)) (fun k => fO_seen (4 * k + 1)) (fun k => fO_seen (4 * k + 3)) k) i) (j + 1)) (hil2 : ∀ k : Int, 0 ≤ k → k < 4 → il2 k = 2 * (sm (fun i9 => sm ((hvP (fun k => fO_seen (4 * k)) (fun k => fO_seen (4 * k + 2)) (fun k => fO_seen (4 * k + 1)) k) i9) known) i + sm ((hvP (fun k => fO_seen (4 * k)) (fun k => fO_seen (4 * k + 2)) (fun k => fO_seen (4 * k + 1)) k) i) (j + 1))), xG D p l e (xRm 2 54 0 0) s m args below meth c 5 A Q 0 0 [(qO, .inr (10, [.int (jI vO_blocks), .ref qO_stones, .ref qO_laid, .ref qO_deep, .int (jI vO_placings), .ref qO_placed, .int (jI vO_mortars), .ref qO_put, .ref qO_rates, .int (jI vO_limit), .int (jI vO_looks), .ref qO_seen, .ref qO_text, .int (jI vO_texted), .int (jI vO_faultPlace), .int (jI vO_clauses), .ref qO_rule, .ref qO_fresh, .int (jI vO_lots), .ref qO_stocks, .ref qO_row, .ref qO_dangers, .ref qO_losses, .long (jL vO_upper), .long (jL vO_lower), .ref qO_habitUpper, .ref qO_habitLower, .int (jI vO_at), .long (jL vO_word), .int (jI vO_wordEnd), .ref qO_chosen, .ref qO_lost, .ref qO_zones, .ref qO_way, .ref qO_spent, .ref qO_scaffolds])), aI kI qO_seen 320 fO_seen, aJ kJ qO_habitUpper 4 iu2, aJ kJ qO_habitLower 4 il2] [(0, .ref qO), (1, .int (jI known)), (2, .int (jI i)), (3, .int (jI j))] 107 [] := by
                      intro iu2 il2 hiu2 hil2
                      refine x_iinc (lv' := [(0, .ref qO), (1, .int (jI known)), (2, .int (jI i)), (3, .int (jI (j + 1)))]) (k := 3) F dX10_findHabits_107 rfl (by decide) [1, 2, 3, 0] rfl ?_
                      refine x_goto (tgt := 36) F dX10_findHabits_110 (by decide) ?_
                      exact ih36 (j + 1) iu2 il2 (by omega) hiu2 hil2 (by omega)
                    have rs1 := Rg.at hOs1 i (by omega)
                    have rs3 := Rg.at hOs3 i (by omega)
                    have rs4 := Rg.at hOs3 j (by omega)
                    refine x_aload_n F dX10_findHabits_41 rfl 0 rfl ?_
                    refine x_iload_n F dX10_findHabits_42 rfl 2 rfl ?_
                    refine x_iload_n F dX10_findHabits_43 rfl 3 rfl ?_
                    refine x_callVi (ci := 10) (q0 := 0) (As := [.int (jI i), .int (jI j)]) (st := []) F (c_X10_isDouble D kI kJ l qO i j vO_blocks qO_stones qO_laid qO_deep vO_placings qO_placed vO_mortars qO_put qO_rates vO_limit vO_looks qO_seen qO_text vO_texted vO_faultPlace vO_clauses qO_rule qO_fresh vO_lots qO_stocks qO_row qO_dangers qO_losses vO_upper vO_lower qO_habitUpper qO_habitLower vO_at vO_word vO_wordEnd qO_chosen qO_lost qO_zones qO_way qO_spent qO_scaffolds fO_seen (by omega) hOsn) (cwV 2 F.2.2.2.2.1 gX10_findHabits_X10_isDouble rfl rfl rfl (by decide +kernel) ⟨Nat.le_of_ble_eq_true rfl, Nat.le_of_ble_eq_true rfl⟩) rfl rfl [0, 1] [2, 3] [2, 3, 0, 1] rfl rfl (by decide) (by decide) (by decide) (fun _ => rfl) (by decide) rfl (Nat.le_of_ble_eq_true rfl) dX10_findHabits_44 ⟨Nat.le_of_ble_eq_true rfl, Nat.le_of_ble_eq_true rfl⟩ (fun z44 u44 h44 => ?_)
                    try dsimp only at h44
                    refine x_ws [(qO, .inr (10, [.int (jI vO_blocks), .ref qO_stones, .ref qO_laid, .ref qO_deep, .int (jI vO_placings), .ref qO_placed, .int (jI vO_mortars), .ref qO_put, .ref qO_rates, .int (jI vO_limit), .int (jI vO_looks), .ref qO_seen, .ref qO_text, .int (jI vO_texted), .int (jI vO_faultPlace), .int (jI vO_clauses), .ref qO_rule, .ref qO_fresh, .int (jI vO_lots), .ref qO_stocks, .ref qO_row, .ref qO_dangers, .ref qO_losses, .long (jL vO_upper), .long (jL vO_lower), .ref qO_habitUpper, .ref qO_habitLower, .int (jI vO_at), .long (jL vO_word), .int (jI vO_wordEnd), .ref qO_chosen, .ref qO_lost, .ref qO_zones, .ref qO_way, .ref qO_spent, .ref qO_scaffolds])), aI kI qO_seen 320 fO_seen, aJ kJ qO_habitUpper 4 iu, aJ kJ qO_habitLower 4 il] rfl ?_
                    have hb44 := h44
                    refine x_beq (tgt := 107) F dX10_findHabits_47 (by decide) hb44 (fun c47 => ?_) (fun c47 => ?_)
                    · -- 47 t
                      exact jn107 iu il (fun k h1 h2 => by rw [sm_s hj.1, ← Int.add_assoc, ← hiu k h1 h2]; unfold hvF; (try dsimp only); first | (rw [one_add]; (repeat' split) <;> omega) | ((repeat' split) <;> omega)) (fun k h1 h2 => by rw [sm_s hj.1, ← Int.add_assoc, Int.mul_add, ← hil k h1 h2]; unfold hvP; (try dsimp only); first | (rw [one_add]; (repeat' split) <;> omega) | ((repeat' split) <;> omega))
                    · -- 47 f
                      refine x_aload_n F dX10_findHabits_50 rfl 0 rfl ?_
                      refine x_get (ci := 10) F hin10 0 rfl rfl 11 (by decide) hw1 rfl dX10_findHabits_51 ?_
                      refine x_iconst F dX10_findHabits_54 ?_
                      refine x_iload_n F dX10_findHabits_55 rfl 2 rfl ?_
                      refine x_imul F dX10_findHabits_56 ?_
                      refine x_iconst F dX10_findHabits_57 ?_
                      refine x_iadd F dX10_findHabits_58 ?_
                      refine x_iald F 1 rfl (by decide) (by omega) dX10_findHabits_59 ?_
                      have hr59 := Rg.at hOsn ((4 * i) + 1) (by omega)
                      refine x_istore (lv' := [(0, .ref qO), (1, .int (jI known)), (2, .int (jI i)), (3, .int (jI j)), (4, .int (jI (fO_seen ((4 * i) + 1))))]) F dX10_findHabits_60 (by decide) [1, 2, 3, 4, 0] rfl ?_
                      refine x_aload_n F dX10_findHabits_62 rfl 0 rfl ?_
                      refine x_get (ci := 10) F hin10 0 rfl rfl 25 (by decide) hw2 rfl dX10_findHabits_63 ?_
                      refine x_iload F dX10_findHabits_66 4 rfl ?_
                      refine x_dup2 F dX10_findHabits_68 rfl rfl ?_
                      refine x_lald F 2 rfl (by decide) (by omega) dX10_findHabits_69 ?_
                      refine x_aload_n F dX10_findHabits_70 rfl 0 rfl ?_
                      refine x_get (ci := 10) F hin10 0 rfl rfl 11 (by decide) hw1 rfl dX10_findHabits_71 ?_
                      refine x_iconst F dX10_findHabits_74 ?_
                      refine x_iload_n F dX10_findHabits_75 rfl 2 rfl ?_
                      refine x_imul F dX10_findHabits_76 ?_
                      refine x_iconst F dX10_findHabits_77 ?_
                      refine x_iadd F dX10_findHabits_78 ?_
                      refine x_iald F 1 rfl (by decide) (by omega) dX10_findHabits_79 ?_
                      have hr79 := Rg.at hOsn ((4 * i) + 3) (by omega)
                      refine x_aload_n F dX10_findHabits_80 rfl 0 rfl ?_
                      refine x_get (ci := 10) F hin10 0 rfl rfl 11 (by decide) hw1 rfl dX10_findHabits_81 ?_
                      refine x_iconst F dX10_findHabits_84 ?_
                      refine x_iload_n F dX10_findHabits_85 rfl 3 rfl ?_
                      refine x_imul F dX10_findHabits_86 ?_
                      refine x_iconst F dX10_findHabits_87 ?_
                      refine x_iadd F dX10_findHabits_88 ?_
                      refine x_iald F 1 rfl (by decide) (by omega) dX10_findHabits_89 ?_
                      have hr89 := Rg.at hOsn ((4 * j) + 3) (by omega)
                      refine x_isub F dX10_findHabits_90 ?_
                      refine x_i2l F dX10_findHabits_91 (by omega) ?_
                      refine x_ladd F dX10_findHabits_92 ?_
                      refine x_last F 2 rfl (by decide) (by omega) dX10_findHabits_93 [(qO, .inr (10, [.int (jI vO_blocks), .ref qO_stones, .ref qO_laid, .ref qO_deep, .int (jI vO_placings), .ref qO_placed, .int (jI vO_mortars), .ref qO_put, .ref qO_rates, .int (jI vO_limit), .int (jI vO_looks), .ref qO_seen, .ref qO_text, .int (jI vO_texted), .int (jI vO_faultPlace), .int (jI vO_clauses), .ref qO_rule, .ref qO_fresh, .int (jI vO_lots), .ref qO_stocks, .ref qO_row, .ref qO_dangers, .ref qO_losses, .long (jL vO_upper), .long (jL vO_lower), .ref qO_habitUpper, .ref qO_habitLower, .int (jI vO_at), .long (jL vO_word), .int (jI vO_wordEnd), .ref qO_chosen, .ref qO_lost, .ref qO_zones, .ref qO_way, .ref qO_spent, .ref qO_scaffolds])), aI kI qO_seen 320 fO_seen, aJ kJ qO_habitUpper 4 (iU iu (fO_seen ((4 * i) + 1)) ((iu (fO_seen ((4 * i) + 1))) + ((fO_seen ((4 * i) + 3)) - (fO_seen ((4 * j) + 3))))), aJ kJ qO_habitLower 4 il] rfl ?_
                      refine x_aload_n F dX10_findHabits_94 rfl 0 rfl ?_
                      refine x_get (ci := 10) F hin10 0 rfl rfl 26 (by decide) hw0 rfl dX10_findHabits_95 ?_
                      refine x_iload F dX10_findHabits_98 4 rfl ?_
                      refine x_dup2 F dX10_findHabits_100 rfl rfl ?_
                      refine x_lald F 3 rfl (by decide) (by omega) dX10_findHabits_101 ?_
                      refine x_ldc2 F 2 hw3 (by decide) dX10_findHabits_102 ?_
                      refine x_ladd F dX10_findHabits_105 ?_
                      refine x_last F 3 rfl (by decide) (by omega) dX10_findHabits_106 [(qO, .inr (10, [.int (jI vO_blocks), .ref qO_stones, .ref qO_laid, .ref qO_deep, .int (jI vO_placings), .ref qO_placed, .int (jI vO_mortars), .ref qO_put, .ref qO_rates, .int (jI vO_limit), .int (jI vO_looks), .ref qO_seen, .ref qO_text, .int (jI vO_texted), .int (jI vO_faultPlace), .int (jI vO_clauses), .ref qO_rule, .ref qO_fresh, .int (jI vO_lots), .ref qO_stocks, .ref qO_row, .ref qO_dangers, .ref qO_losses, .long (jL vO_upper), .long (jL vO_lower), .ref qO_habitUpper, .ref qO_habitLower, .int (jI vO_at), .long (jL vO_word), .int (jI vO_wordEnd), .ref qO_chosen, .ref qO_lost, .ref qO_zones, .ref qO_way, .ref qO_spent, .ref qO_scaffolds])), aI kI qO_seen 320 fO_seen, aJ kJ qO_habitUpper 4 (iU iu (fO_seen ((4 * i) + 1)) ((iu (fO_seen ((4 * i) + 1))) + ((fO_seen ((4 * i) + 3)) - (fO_seen ((4 * j) + 3))))), aJ kJ qO_habitLower 4 (iU il (fO_seen ((4 * i) + 1)) ((il (fO_seen ((4 * i) + 1))) + 2))] rfl ?_
                      refine x_lv (lv' := [(0, .ref qO), (1, .int (jI known)), (2, .int (jI i)), (3, .int (jI j))]) [0, 1, 2, 3] rfl ?_
                      exact jn107 (iU iu (fO_seen ((4 * i) + 1)) ((iu (fO_seen ((4 * i) + 1))) + ((fO_seen ((4 * i) + 3)) - (fO_seen ((4 * j) + 3))))) (iU il (fO_seen ((4 * i) + 1)) ((il (fO_seen ((4 * i) + 1))) + 2)) (fun k h1 h2 => by rw [sm_s hj.1, ← Int.add_assoc, ← hiu k h1 h2]; unfold hvF; (try dsimp only); first | (rw [one_add]; (repeat' split) <;> omega) | ((repeat' split) <;> omega)) (fun k h1 h2 => by rw [sm_s hj.1, ← Int.add_assoc, Int.mul_add, ← hil k h1 h2]; unfold hvP; (try dsimp only); first | (rw [one_add]; (repeat' split) <;> omega) | ((repeat' split) <;> omega))
              exact lp36 (Int.toNat (known - 0) + 1) 0 ou ol (by omega) (fun k h1 h2 => by rw [hou k h1 h2, sm_0]; omega) (fun k h1 h2 => by rw [hol k h1 h2, sm_0]; omega) (by omega)
        exact lp29 (Int.toNat (known - 0) + 1) 0 zu zl (by omega) (fun k h1 h2 => by rw [hzu k h1 (by omega), sm_0]) (fun k h1 h2 => by rw [hzl k h1 (by omega), sm_0]; omega) (by omega)
      · -- 4 f
        refine x_aload_n F dX10_findHabits_7 rfl 0 rfl ?_
        refine x_get (ci := 10) F hin10 0 rfl rfl 25 (by decide) hw2 rfl dX10_findHabits_8 ?_
        refine x_iload_n F dX10_findHabits_11 rfl 2 rfl ?_
        refine x_lconst F 0 dX10_findHabits_12 (by decide) ?_
        refine x_last F 2 rfl (by decide) (by omega) dX10_findHabits_13 [(qO, .inr (10, [.int (jI vO_blocks), .ref qO_stones, .ref qO_laid, .ref qO_deep, .int (jI vO_placings), .ref qO_placed, .int (jI vO_mortars), .ref qO_put, .ref qO_rates, .int (jI vO_limit), .int (jI vO_looks), .ref qO_seen, .ref qO_text, .int (jI vO_texted), .int (jI vO_faultPlace), .int (jI vO_clauses), .ref qO_rule, .ref qO_fresh, .int (jI vO_lots), .ref qO_stocks, .ref qO_row, .ref qO_dangers, .ref qO_losses, .long (jL vO_upper), .long (jL vO_lower), .ref qO_habitUpper, .ref qO_habitLower, .int (jI vO_at), .long (jL vO_word), .int (jI vO_wordEnd), .ref qO_chosen, .ref qO_lost, .ref qO_zones, .ref qO_way, .ref qO_spent, .ref qO_scaffolds])), aI kI qO_seen 320 fO_seen, aJ kJ qO_habitUpper 4 (iU zu h0 0), aJ kJ qO_habitLower 4 zl] rfl ?_
        refine x_aload_n F dX10_findHabits_14 rfl 0 rfl ?_
        refine x_get (ci := 10) F hin10 0 rfl rfl 26 (by decide) hw0 rfl dX10_findHabits_15 ?_
        refine x_iload_n F dX10_findHabits_18 rfl 2 rfl ?_
        refine x_lconst F 0 dX10_findHabits_19 (by decide) ?_
        refine x_last F 3 rfl (by decide) (by omega) dX10_findHabits_20 [(qO, .inr (10, [.int (jI vO_blocks), .ref qO_stones, .ref qO_laid, .ref qO_deep, .int (jI vO_placings), .ref qO_placed, .int (jI vO_mortars), .ref qO_put, .ref qO_rates, .int (jI vO_limit), .int (jI vO_looks), .ref qO_seen, .ref qO_text, .int (jI vO_texted), .int (jI vO_faultPlace), .int (jI vO_clauses), .ref qO_rule, .ref qO_fresh, .int (jI vO_lots), .ref qO_stocks, .ref qO_row, .ref qO_dangers, .ref qO_losses, .long (jL vO_upper), .long (jL vO_lower), .ref qO_habitUpper, .ref qO_habitLower, .int (jI vO_at), .long (jL vO_word), .int (jI vO_wordEnd), .ref qO_chosen, .ref qO_lost, .ref qO_zones, .ref qO_way, .ref qO_spent, .ref qO_scaffolds])), aI kI qO_seen 320 fO_seen, aJ kJ qO_habitUpper 4 (iU zu h0 0), aJ kJ qO_habitLower 4 (iU zl h0 0)] rfl ?_
        refine x_iinc (lv' := [(0, .ref qO), (1, .int (jI known)), (2, .int (jI (h0 + 1)))]) (k := 2) F dX10_findHabits_21 rfl (by decide) [1, 2, 0] rfl ?_
        refine x_goto (tgt := 2) F dX10_findHabits_24 (by decide) ?_
        exact ih2 (h0 + 1) (iU zu h0 0) (iU zl h0 0) (by omega) (row_set (P := fun _ x => x = 0) hzu rfl) (row_set (P := fun _ x => x = 0) hzl rfl) (by omega)
  exact lp2 (Int.toNat (4 - 0) + 1) 0 fO_habitUpper fO_habitLower (by omega) (fun k h1 h2 => by omega) (fun k h1 h2 => by omega) (by omega)
set_option maxHeartbeats 4000000 in
set_option maxRecDepth 100000 in
theorem c_X10_isKnown (D : va_G) (kI kJ : Nat) (l : Launch) (qO : Nat) (k : Int) (vO_blocks : Int) (qO_stones : Nat) (qO_laid : Nat) (qO_deep : Nat) (vO_placings : Int) (qO_placed : Nat) (vO_mortars : Int) (qO_put : Nat) (qO_rates : Nat) (vO_limit : Int) (vO_looks : Int) (qO_seen : Nat) (qO_text : Nat) (vO_texted : Int) (vO_faultPlace : Int) (vO_clauses : Int) (qO_rule : Nat) (qO_fresh : Nat) (vO_lots : Int) (qO_stocks : Nat) (qO_row : Nat) (qO_dangers : Nat) (qO_losses : Nat) (vO_upper : Int) (vO_lower : Int) (qO_habitUpper : Nat) (qO_habitLower : Nat) (vO_at : Int) (vO_word : Int) (vO_wordEnd : Int) (qO_chosen : Nat) (qO_lost : Nat) (qO_zones : Nat) (qO_way : Nat) (qO_spent : Nat) (qO_scaffolds : Nat) (hr_k : -2147483648 ≤ k ∧ k < 2147483648) (hOl : 0 ≤ vO_looks ∧ vO_looks ≤ 80) : xMi D kI kJ l yX10_isKnown wsX10_isKnown 2 57 0 0 [.ref qO, .int (jI k)] [(qO, .inr (10, [.int (jI vO_blocks), .ref qO_stones, .ref qO_laid, .ref qO_deep, .int (jI vO_placings), .ref qO_placed, .int (jI vO_mortars), .ref qO_put, .ref qO_rates, .int (jI vO_limit), .int (jI vO_looks), .ref qO_seen, .ref qO_text, .int (jI vO_texted), .int (jI vO_faultPlace), .int (jI vO_clauses), .ref qO_rule, .ref qO_fresh, .int (jI vO_lots), .ref qO_stocks, .ref qO_row, .ref qO_dangers, .ref qO_losses, .long (jL vO_upper), .long (jL vO_lower), .ref qO_habitUpper, .ref qO_habitLower, .int (jI vO_at), .long (jL vO_word), .int (jI vO_wordEnd), .ref qO_chosen, .ref qO_lost, .ref qO_zones, .ref qO_way, .ref qO_spent, .ref qO_scaffolds]))] (fun (z : Int) (u : Unit) => xBool z (-1 ≤ k ∧ k ≤ vO_looks)) (fun (u : Unit) => [(qO, .inr (10, [.int (jI vO_blocks), .ref qO_stones, .ref qO_laid, .ref qO_deep, .int (jI vO_placings), .ref qO_placed, .int (jI vO_mortars), .ref qO_put, .ref qO_rates, .int (jI vO_limit), .int (jI vO_looks), .ref qO_seen, .ref qO_text, .int (jI vO_texted), .int (jI vO_faultPlace), .int (jI vO_clauses), .ref qO_rule, .ref qO_fresh, .int (jI vO_lots), .ref qO_stocks, .ref qO_row, .ref qO_dangers, .ref qO_losses, .long (jL vO_upper), .long (jL vO_lower), .ref qO_habitUpper, .ref qO_habitLower, .int (jI vO_at), .long (jL vO_word), .int (jI vO_wordEnd), .ref qO_chosen, .ref qO_lost, .ref qO_zones, .ref qO_way, .ref qO_spent, .ref qO_scaffolds]))]) := by
  refine xMi_of (cc := cX10_isKnown) (maxL := 2) (rt := .boolean) (by decide) rfl (Nat.le_of_ble_eq_true rfl) (fun z u hp => xBool_nar hp) ?_
  intro p e s m args below meth c A Q F hin2 hret
  have hin10 : ∀ w ∈ wsX100, w ∈ wsX10_isKnown := by decide +kernel
  have hw0 : Cond.constantLong RX10 175 (-1) ∈ wsX10_isKnown := by decide +kernel
  have hw1 : Cond.fieldLink RX10 141 (TX10 10).1 (TX10 10).2.1 (TX10 10).2.2.1 ∈ wsX10_isKnown := by decide +kernel
  refine x_lveq (lv' := [(0, .ref qO), (1, .int (jI k))]) rfl ?_
  refine x_iload_n F dX10_isKnown_0 rfl 1 rfl ?_
  refine x_i2l F dX10_isKnown_1 (by omega) ?_
  refine x_ldc2 F (-1) hw0 (by decide) dX10_isKnown_2 ?_
  refine x_aload_n F dX10_isKnown_5 rfl 0 rfl ?_
  refine x_get (ci := 10) F hin10 0 rfl rfl 10 (by decide) hw1 rfl dX10_isKnown_6 ?_
  refine x_i2l F dX10_isKnown_9 (by omega) ?_
  refine x_callSi (As := [.long (jL k), .long (jL (-1)), .long (jL vO_looks)]) (st := []) F (c_X10_in D kI kJ l k (-1) vO_looks (by omega) (by omega) (by omega)) (va_cwS 3 F.2.2.2.2.1 gX10_isKnown_X10_in rfl rfl rfl (by decide +kernel) ⟨Nat.le_of_ble_eq_true rfl, Nat.le_of_ble_eq_true rfl⟩) [] [0] [0] rfl rfl (by decide) (by decide) (by decide) (fun _ => rfl) (by decide) rfl (Nat.le_of_ble_eq_true rfl) dX10_isKnown_10 ⟨Nat.le_of_ble_eq_true rfl, Nat.le_of_ble_eq_true rfl⟩ (fun z10 u10 h10 => ?_)
  try dsimp only at h10
  refine x_ws [(qO, .inr (10, [.int (jI vO_blocks), .ref qO_stones, .ref qO_laid, .ref qO_deep, .int (jI vO_placings), .ref qO_placed, .int (jI vO_mortars), .ref qO_put, .ref qO_rates, .int (jI vO_limit), .int (jI vO_looks), .ref qO_seen, .ref qO_text, .int (jI vO_texted), .int (jI vO_faultPlace), .int (jI vO_clauses), .ref qO_rule, .ref qO_fresh, .int (jI vO_lots), .ref qO_stocks, .ref qO_row, .ref qO_dangers, .ref qO_losses, .long (jL vO_upper), .long (jL vO_lower), .ref qO_habitUpper, .ref qO_habitLower, .int (jI vO_at), .long (jL vO_word), .int (jI vO_wordEnd), .ref qO_chosen, .ref qO_lost, .ref qO_zones, .ref qO_way, .ref qO_spent, .ref qO_scaffolds]))] rfl ?_
  have hb10 := h10
  exact hret 0 0 13 _ z10 () (Nat.le_of_ble_eq_true rfl) (Nat.le_of_ble_eq_true rfl) dX10_isKnown_13 (hb10)
set_option maxHeartbeats 4000000 in
set_option maxRecDepth 100000 in
theorem c_X10_habit (D : va_G) (kI kJ : Nat) (l : Launch) (qO : Nat) (hand : Int) (k : Int) (what : Int) (vO_blocks : Int) (qO_stones : Nat) (qO_laid : Nat) (qO_deep : Nat) (vO_placings : Int) (qO_placed : Nat) (vO_mortars : Int) (qO_put : Nat) (qO_rates : Nat) (vO_limit : Int) (vO_looks : Int) (qO_seen : Nat) (qO_text : Nat) (vO_texted : Int) (vO_faultPlace : Int) (vO_clauses : Int) (qO_rule : Nat) (qO_fresh : Nat) (vO_lots : Int) (qO_stocks : Nat) (qO_row : Nat) (qO_dangers : Nat) (qO_losses : Nat) (vO_upper : Int) (vO_lower : Int) (qO_habitUpper : Nat) (qO_habitLower : Nat) (vO_at : Int) (vO_word : Int) (vO_wordEnd : Int) (qO_chosen : Nat) (qO_lost : Nat) (qO_zones : Nat) (qO_way : Nat) (qO_spent : Nat) (qO_scaffolds : Nat) (fO_seen : (Int → Int)) (fO_habitUpper : (Int → Int)) (fO_habitLower : (Int → Int)) (hr_hand : -2147483648 ≤ hand ∧ hand < 2147483648) (hr_k : -2147483648 ≤ k ∧ k < 2147483648) (hr_what : -2147483648 ≤ what ∧ what < 2147483648) (hOl : 0 ≤ vO_looks ∧ vO_looks ≤ 80) (hOsn : Rg fO_seen 320 0 400) (hOs1 : Rg (fun k => fO_seen (4 * k + 1)) 80 0 3) (hOs3 : Rg (fun k => fO_seen (4 * k + 3)) 80 0 99) : xMi D kI kJ l yX10_habit wsX10_habit 3 83 0 0 [.ref qO, .int (jI hand), .int (jI k), .int (jI what)] [(qO, .inr (10, [.int (jI vO_blocks), .ref qO_stones, .ref qO_laid, .ref qO_deep, .int (jI vO_placings), .ref qO_placed, .int (jI vO_mortars), .ref qO_put, .ref qO_rates, .int (jI vO_limit), .int (jI vO_looks), .ref qO_seen, .ref qO_text, .int (jI vO_texted), .int (jI vO_faultPlace), .int (jI vO_clauses), .ref qO_rule, .ref qO_fresh, .int (jI vO_lots), .ref qO_stocks, .ref qO_row, .ref qO_dangers, .ref qO_losses, .long (jL vO_upper), .long (jL vO_lower), .ref qO_habitUpper, .ref qO_habitLower, .int (jI vO_at), .long (jL vO_word), .int (jI vO_wordEnd), .ref qO_chosen, .ref qO_lost, .ref qO_zones, .ref qO_way, .ref qO_spent, .ref qO_scaffolds])), aI kI qO_seen 320 fO_seen, aJ kJ qO_habitUpper 4 fO_habitUpper, aJ kJ qO_habitLower 4 fO_habitLower] (fun (z : Int) (u : (Int → Int) × (Int → Int) × Int × Int) => z = if ¬ ((0 ≤ hand ∧ hand ≤ 3) ∧ (-1 ≤ k ∧ k ≤ vO_looks) ∧ 0 ≤ what ∧ what ≤ 1) then -1002 else if what = 0 then nU (hS (fun k => fO_seen (4 * k)) (fun k => fO_seen (4 * k + 2)) (fun k => fO_seen (4 * k + 1)) (fun k => fO_seen (4 * k + 3)) (if k < 0 then vO_looks else k) hand) (hD (fun k => fO_seen (4 * k)) (fun k => fO_seen (4 * k + 2)) (fun k => fO_seen (4 * k + 1)) (if k < 0 then vO_looks else k) hand) else nL (hS (fun k => fO_seen (4 * k)) (fun k => fO_seen (4 * k + 2)) (fun k => fO_seen (4 * k + 1)) (fun k => fO_seen (4 * k + 3)) (if k < 0 then vO_looks else k) hand) (hD (fun k => fO_seen (4 * k)) (fun k => fO_seen (4 * k + 2)) (fun k => fO_seen (4 * k + 1)) (if k < 0 then vO_looks else k) hand)) (fun (u : (Int → Int) × (Int → Int) × Int × Int) => [(qO, .inr (10, [.int (jI vO_blocks), .ref qO_stones, .ref qO_laid, .ref qO_deep, .int (jI vO_placings), .ref qO_placed, .int (jI vO_mortars), .ref qO_put, .ref qO_rates, .int (jI vO_limit), .int (jI vO_looks), .ref qO_seen, .ref qO_text, .int (jI vO_texted), .int (jI vO_faultPlace), .int (jI vO_clauses), .ref qO_rule, .ref qO_fresh, .int (jI vO_lots), .ref qO_stocks, .ref qO_row, .ref qO_dangers, .ref qO_losses, .long (jL u.2.2.1), .long (jL u.2.2.2), .ref qO_habitUpper, .ref qO_habitLower, .int (jI vO_at), .long (jL vO_word), .int (jI vO_wordEnd), .ref qO_chosen, .ref qO_lost, .ref qO_zones, .ref qO_way, .ref qO_spent, .ref qO_scaffolds])), aI kI qO_seen 320 fO_seen, aJ kJ qO_habitUpper 4 u.1, aJ kJ qO_habitLower 4 u.2.1]) := by
  refine xMi_of (cc := cX10_habit) (maxL := 4) (rt := .int) (by decide) rfl (Nat.le_of_ble_eq_true rfl) (fun _ _ _ => rfl) ?_
  intro p e s m args below meth c A Q F hin2 hret
  have hin10 : ∀ w ∈ wsX100, w ∈ wsX10_habit := by decide +kernel
  have hw0 : Cond.constantLong RX10 93 3 ∈ wsX10_habit := by decide +kernel
  have hw1 : Cond.fieldLink RX10 59 (TX10 25).1 (TX10 25).2.1 (TX10 25).2.2.1 ∈ wsX10_habit := by decide +kernel
  have hw2 : Cond.fieldLink RX10 159 (TX10 23).1 (TX10 23).2.1 (TX10 23).2.2.1 ∈ wsX10_habit := by decide +kernel
  have hw3 : Cond.fieldLink RX10 63 (TX10 26).1 (TX10 26).2.1 (TX10 26).2.2.1 ∈ wsX10_habit := by decide +kernel
  have hw4 : Cond.fieldLink RX10 163 (TX10 24).1 (TX10 24).2.1 (TX10 24).2.2.1 ∈ wsX10_habit := by decide +kernel
  have hw5 : Cond.fieldLink RX10 141 (TX10 10).1 (TX10 10).2.1 (TX10 10).2.2.1 ∈ wsX10_habit := by decide +kernel
  refine x_lveq (lv' := [(0, .ref qO), (1, .int (jI hand)), (2, .int (jI k)), (3, .int (jI what))]) rfl ?_
  refine x_iload_n F dX10_habit_0 rfl 1 rfl ?_
  refine x_i2l F dX10_habit_1 (by omega) ?_
  refine x_lconst F 0 dX10_habit_2 (by decide) ?_
  refine x_ldc2 F 3 hw0 (by decide) dX10_habit_3 ?_
  refine x_callSi (As := [.long (jL hand), .long (jL 0), .long (jL 3)]) (st := []) F (c_X10_in D kI kJ l hand 0 3 (by omega) (by omega) (by omega)) (va_cwS 3 F.2.2.2.2.1 gX10_habit_X10_in rfl rfl rfl (by decide +kernel) ⟨Nat.le_of_ble_eq_true rfl, Nat.le_of_ble_eq_true rfl⟩) [] [0, 1, 2, 3] [0, 1, 2, 3] rfl rfl (by decide) (by decide) (by decide) (fun _ => rfl) (by decide) rfl (Nat.le_of_ble_eq_true rfl) dX10_habit_6 ⟨Nat.le_of_ble_eq_true rfl, Nat.le_of_ble_eq_true rfl⟩ (fun z6 u6 h6 => ?_)
  try dsimp only at h6
  refine x_ws [(qO, .inr (10, [.int (jI vO_blocks), .ref qO_stones, .ref qO_laid, .ref qO_deep, .int (jI vO_placings), .ref qO_placed, .int (jI vO_mortars), .ref qO_put, .ref qO_rates, .int (jI vO_limit), .int (jI vO_looks), .ref qO_seen, .ref qO_text, .int (jI vO_texted), .int (jI vO_faultPlace), .int (jI vO_clauses), .ref qO_rule, .ref qO_fresh, .int (jI vO_lots), .ref qO_stocks, .ref qO_row, .ref qO_dangers, .ref qO_losses, .long (jL vO_upper), .long (jL vO_lower), .ref qO_habitUpper, .ref qO_habitLower, .int (jI vO_at), .long (jL vO_word), .int (jI vO_wordEnd), .ref qO_chosen, .ref qO_lost, .ref qO_zones, .ref qO_way, .ref qO_spent, .ref qO_scaffolds])), aI kI qO_seen 320 fO_seen, aJ kJ qO_habitUpper 4 fO_habitUpper, aJ kJ qO_habitLower 4 fO_habitLower] rfl ?_
  have hb6 := h6
  refine x_beq (tgt := 30) F dX10_habit_9 (by decide) hb6 (fun c9 => ?_) (fun c9 => ?_)
  · -- 9 t
    refine x_sipush F dX10_habit_30 (by decide) ?_
    exact hret 0 0 33 _ (-1002) (fO_habitUpper, fO_habitLower, vO_upper, vO_lower) (Nat.le_of_ble_eq_true rfl) (Nat.le_of_ble_eq_true rfl) dX10_habit_33 (by (try dsimp only); exact (by rw [if_pos (by omega)]))
  · -- 9 f
    refine x_aload_n F dX10_habit_12 rfl 0 rfl ?_
    refine x_iload_n F dX10_habit_13 rfl 2 rfl ?_
    refine x_callVi (ci := 10) (q0 := 0) (As := [.int (jI k)]) (st := []) F (c_X10_isKnown D kI kJ l qO k vO_blocks qO_stones qO_laid qO_deep vO_placings qO_placed vO_mortars qO_put qO_rates vO_limit vO_looks qO_seen qO_text vO_texted vO_faultPlace vO_clauses qO_rule qO_fresh vO_lots qO_stocks qO_row qO_dangers qO_losses vO_upper vO_lower qO_habitUpper qO_habitLower vO_at vO_word vO_wordEnd qO_chosen qO_lost qO_zones qO_way qO_spent qO_scaffolds hr_k hOl) (cwV 1 F.2.2.2.2.1 gX10_habit_X10_isKnown rfl rfl rfl (by decide +kernel) ⟨Nat.le_of_ble_eq_true rfl, Nat.le_of_ble_eq_true rfl⟩) rfl rfl [0] [1, 2, 3] [3, 0, 1, 2] rfl rfl (by decide) (by decide) (by decide) (fun _ => rfl) (by decide) rfl (Nat.le_of_ble_eq_true rfl) dX10_habit_14 ⟨Nat.le_of_ble_eq_true rfl, Nat.le_of_ble_eq_true rfl⟩ (fun z14 u14 h14 => ?_)
    try dsimp only at h14
    refine x_ws [(qO, .inr (10, [.int (jI vO_blocks), .ref qO_stones, .ref qO_laid, .ref qO_deep, .int (jI vO_placings), .ref qO_placed, .int (jI vO_mortars), .ref qO_put, .ref qO_rates, .int (jI vO_limit), .int (jI vO_looks), .ref qO_seen, .ref qO_text, .int (jI vO_texted), .int (jI vO_faultPlace), .int (jI vO_clauses), .ref qO_rule, .ref qO_fresh, .int (jI vO_lots), .ref qO_stocks, .ref qO_row, .ref qO_dangers, .ref qO_losses, .long (jL vO_upper), .long (jL vO_lower), .ref qO_habitUpper, .ref qO_habitLower, .int (jI vO_at), .long (jL vO_word), .int (jI vO_wordEnd), .ref qO_chosen, .ref qO_lost, .ref qO_zones, .ref qO_way, .ref qO_spent, .ref qO_scaffolds])), aI kI qO_seen 320 fO_seen, aJ kJ qO_habitUpper 4 fO_habitUpper, aJ kJ qO_habitLower 4 fO_habitLower] rfl ?_
    have hb14 := h14
    refine x_beq (tgt := 30) F dX10_habit_17 (by decide) hb14 (fun c17 => ?_) (fun c17 => ?_)
    · -- 17 t
      refine x_sipush F dX10_habit_30 (by decide) ?_
      exact hret 0 0 33 _ (-1002) (fO_habitUpper, fO_habitLower, vO_upper, vO_lower) (Nat.le_of_ble_eq_true rfl) (Nat.le_of_ble_eq_true rfl) dX10_habit_33 (by (try dsimp only); exact (by rw [if_pos (by omega)]))
    · -- 17 f
      refine x_iload_n F dX10_habit_20 rfl 3 rfl ?_
      refine x_i2l F dX10_habit_21 (by omega) ?_
      refine x_lconst F 0 dX10_habit_22 (by decide) ?_
      refine x_lconst F 1 dX10_habit_23 (by decide) ?_
      refine x_callSi (As := [.long (jL what), .long (jL 0), .long (jL 1)]) (st := []) F (c_X10_in D kI kJ l what 0 1 (by omega) (by omega) (by omega)) (va_cwS 3 F.2.2.2.2.1 gX10_habit_X10_in rfl rfl rfl (by decide +kernel) ⟨Nat.le_of_ble_eq_true rfl, Nat.le_of_ble_eq_true rfl⟩) [] [0, 1, 2, 3] [0, 1, 2, 3] rfl rfl (by decide) (by decide) (by decide) (fun _ => rfl) (by decide) rfl (Nat.le_of_ble_eq_true rfl) dX10_habit_24 ⟨Nat.le_of_ble_eq_true rfl, Nat.le_of_ble_eq_true rfl⟩ (fun z24 u24 h24 => ?_)
      try dsimp only at h24
      refine x_ws [(qO, .inr (10, [.int (jI vO_blocks), .ref qO_stones, .ref qO_laid, .ref qO_deep, .int (jI vO_placings), .ref qO_placed, .int (jI vO_mortars), .ref qO_put, .ref qO_rates, .int (jI vO_limit), .int (jI vO_looks), .ref qO_seen, .ref qO_text, .int (jI vO_texted), .int (jI vO_faultPlace), .int (jI vO_clauses), .ref qO_rule, .ref qO_fresh, .int (jI vO_lots), .ref qO_stocks, .ref qO_row, .ref qO_dangers, .ref qO_losses, .long (jL vO_upper), .long (jL vO_lower), .ref qO_habitUpper, .ref qO_habitLower, .int (jI vO_at), .long (jL vO_word), .int (jI vO_wordEnd), .ref qO_chosen, .ref qO_lost, .ref qO_zones, .ref qO_way, .ref qO_spent, .ref qO_scaffolds])), aI kI qO_seen 320 fO_seen, aJ kJ qO_habitUpper 4 fO_habitUpper, aJ kJ qO_habitLower 4 fO_habitLower] rfl ?_
      have hb24 := h24
      refine x_bne (tgt := 34) F dX10_habit_27 (by decide) hb24 (fun c27 => ?_) (fun c27 => ?_)
      · -- 27 t
        have jn47 : ∀ (kk : Int) (hkk : kk = (if k < 0 then vO_looks else k)), xG D p l e (xRm 3 83 0 0) s m args below meth c 4 A Q 0 0 [(qO, .inr (10, [.int (jI vO_blocks), .ref qO_stones, .ref qO_laid, .ref qO_deep, .int (jI vO_placings), .ref qO_placed, .int (jI vO_mortars), .ref qO_put, .ref qO_rates, .int (jI vO_limit), .int (jI vO_looks), .ref qO_seen, .ref qO_text, .int (jI vO_texted), .int (jI vO_faultPlace), .int (jI vO_clauses), .ref qO_rule, .ref qO_fresh, .int (jI vO_lots), .ref qO_stocks, .ref qO_row, .ref qO_dangers, .ref qO_losses, .long (jL vO_upper), .long (jL vO_lower), .ref qO_habitUpper, .ref qO_habitLower, .int (jI vO_at), .long (jL vO_word), .int (jI vO_wordEnd), .ref qO_chosen, .ref qO_lost, .ref qO_zones, .ref qO_way, .ref qO_spent, .ref qO_scaffolds])), aI kI qO_seen 320 fO_seen, aJ kJ qO_habitUpper 4 fO_habitUpper, aJ kJ qO_habitLower 4 fO_habitLower] [(0, .ref qO), (1, .int (jI hand)), (2, .int (jI k)), (3, .int (jI what))] 47 [.int (jI kk), .ref qO] := by
          intro kk hkk
          have hkr0 : 0 ≤ kk ∧ kk ≤ 80 := by rw [hkk]; split <;> omega
          refine x_callVv (ci := 10) (q0 := 0) (As := [.int (jI kk)]) (st := []) F (c_X10_findHabits D kI kJ l qO kk vO_blocks qO_stones qO_laid qO_deep vO_placings qO_placed vO_mortars qO_put qO_rates vO_limit vO_looks qO_seen qO_text vO_texted vO_faultPlace vO_clauses qO_rule qO_fresh vO_lots qO_stocks qO_row qO_dangers qO_losses vO_upper vO_lower qO_habitUpper qO_habitLower vO_at vO_word vO_wordEnd qO_chosen qO_lost qO_zones qO_way qO_spent qO_scaffolds fO_seen fO_habitUpper fO_habitLower (by omega) hOsn hOs1 hOs3) (cwV 1 F.2.2.2.2.1 gX10_habit_X10_findHabits rfl rfl rfl (by decide +kernel) ⟨Nat.le_of_ble_eq_true rfl, Nat.le_of_ble_eq_true rfl⟩) rfl rfl [0, 1, 2, 3] [] [0, 1, 2, 3] rfl rfl (by decide) (by decide) (by decide) (fun _ => rfl) (by decide) rfl (Nat.le_of_ble_eq_true rfl) dX10_habit_47 ⟨Nat.le_of_ble_eq_true rfl, Nat.le_of_ble_eq_true rfl⟩ (fun u47 h47 => ?_)
          obtain ⟨hu2_47, hl2_47⟩ := u47
          try dsimp only at h47
          refine x_ws [(qO, .inr (10, [.int (jI vO_blocks), .ref qO_stones, .ref qO_laid, .ref qO_deep, .int (jI vO_placings), .ref qO_placed, .int (jI vO_mortars), .ref qO_put, .ref qO_rates, .int (jI vO_limit), .int (jI vO_looks), .ref qO_seen, .ref qO_text, .int (jI vO_texted), .int (jI vO_faultPlace), .int (jI vO_clauses), .ref qO_rule, .ref qO_fresh, .int (jI vO_lots), .ref qO_stocks, .ref qO_row, .ref qO_dangers, .ref qO_losses, .long (jL vO_upper), .long (jL vO_lower), .ref qO_habitUpper, .ref qO_habitLower, .int (jI vO_at), .long (jL vO_word), .int (jI vO_wordEnd), .ref qO_chosen, .ref qO_lost, .ref qO_zones, .ref qO_way, .ref qO_spent, .ref qO_scaffolds])), aI kI qO_seen 320 fO_seen, aJ kJ qO_habitUpper 4 hu2_47, aJ kJ qO_habitLower 4 hl2_47] rfl ?_
          obtain ⟨hu_47, hl_47⟩ := h47
          have hkr : 0 ≤ kk ∧ kk ≤ 80 := by rw [hkk]; split <;> omega
          have hu9 := hu_47 hand (by omega) (by omega)
          have hl9 := hl_47 hand (by omega) (by omega)
          have hb1 := hD_rng (b := fun k => fO_seen (4 * k)) (y := fun k => fO_seen (4 * k + 2)) (h := fun k => fO_seen (4 * k + 1)) (n := kk) (hd := hand) hkr
          have hb2 := hS_D (b := fun k => fO_seen (4 * k)) (y := fun k => fO_seen (4 * k + 2)) (h := fun k => fO_seen (4 * k + 1)) (g := fun k => fO_seen (4 * k + 3)) (n := kk) (hd := hand) hkr (fun k k0 k1 => hOs3 k k0 (by omega))
          refine x_aload_n F dX10_habit_50 rfl 0 rfl ?_
          refine x_aload_n F dX10_habit_51 rfl 0 rfl ?_
          refine x_get (ci := 10) F hin10 0 rfl rfl 25 (by decide) hw1 rfl dX10_habit_52 ?_
          refine x_iload_n F dX10_habit_55 rfl 1 rfl ?_
          refine x_lald F 2 rfl (by decide) (by omega) dX10_habit_56 ?_
          refine x_put (ci := 10) F hin10 tyX10_ok nmX10 0 rfl rfl 23 (by decide) hw2 rfl rfl rfl (show 23 + 1 ≤ _ from Nat.le_of_ble_eq_true rfl) dX10_habit_57 [(qO, .inr (10, [.int (jI vO_blocks), .ref qO_stones, .ref qO_laid, .ref qO_deep, .int (jI vO_placings), .ref qO_placed, .int (jI vO_mortars), .ref qO_put, .ref qO_rates, .int (jI vO_limit), .int (jI vO_looks), .ref qO_seen, .ref qO_text, .int (jI vO_texted), .int (jI vO_faultPlace), .int (jI vO_clauses), .ref qO_rule, .ref qO_fresh, .int (jI vO_lots), .ref qO_stocks, .ref qO_row, .ref qO_dangers, .ref qO_losses, .long (jL (hu2_47 hand)), .long (jL vO_lower), .ref qO_habitUpper, .ref qO_habitLower, .int (jI vO_at), .long (jL vO_word), .int (jI vO_wordEnd), .ref qO_chosen, .ref qO_lost, .ref qO_zones, .ref qO_way, .ref qO_spent, .ref qO_scaffolds])), aI kI qO_seen 320 fO_seen, aJ kJ qO_habitUpper 4 hu2_47, aJ kJ qO_habitLower 4 hl2_47] rfl ?_
          refine x_aload_n F dX10_habit_60 rfl 0 rfl ?_
          refine x_aload_n F dX10_habit_61 rfl 0 rfl ?_
          refine x_get (ci := 10) F hin10 0 rfl rfl 26 (by decide) hw3 rfl dX10_habit_62 ?_
          refine x_iload_n F dX10_habit_65 rfl 1 rfl ?_
          refine x_lald F 3 rfl (by decide) (by omega) dX10_habit_66 ?_
          refine x_put (ci := 10) F hin10 tyX10_ok nmX10 0 rfl rfl 24 (by decide) hw4 rfl rfl rfl (show 24 + 1 ≤ _ from Nat.le_of_ble_eq_true rfl) dX10_habit_67 [(qO, .inr (10, [.int (jI vO_blocks), .ref qO_stones, .ref qO_laid, .ref qO_deep, .int (jI vO_placings), .ref qO_placed, .int (jI vO_mortars), .ref qO_put, .ref qO_rates, .int (jI vO_limit), .int (jI vO_looks), .ref qO_seen, .ref qO_text, .int (jI vO_texted), .int (jI vO_faultPlace), .int (jI vO_clauses), .ref qO_rule, .ref qO_fresh, .int (jI vO_lots), .ref qO_stocks, .ref qO_row, .ref qO_dangers, .ref qO_losses, .long (jL (hu2_47 hand)), .long (jL (hl2_47 hand)), .ref qO_habitUpper, .ref qO_habitLower, .int (jI vO_at), .long (jL vO_word), .int (jI vO_wordEnd), .ref qO_chosen, .ref qO_lost, .ref qO_zones, .ref qO_way, .ref qO_spent, .ref qO_scaffolds])), aI kI qO_seen 320 fO_seen, aJ kJ qO_habitUpper 4 hu2_47, aJ kJ qO_habitLower 4 hl2_47] rfl ?_
          refine x_aload_n F dX10_habit_70 rfl 0 rfl ?_
          refine x_callVv (ci := 10) (q0 := 0) (As := []) (st := []) F (c_X10_least D kI kJ l qO vO_blocks qO_stones qO_laid qO_deep vO_placings qO_placed vO_mortars qO_put qO_rates vO_limit vO_looks qO_seen qO_text vO_texted vO_faultPlace vO_clauses qO_rule qO_fresh vO_lots qO_stocks qO_row qO_dangers qO_losses (hu2_47 hand) (hl2_47 hand) qO_habitUpper qO_habitLower vO_at vO_word vO_wordEnd qO_chosen qO_lost qO_zones qO_way qO_spent qO_scaffolds (by omega) (by omega)) (cwV 0 F.2.2.2.2.1 gX10_habit_X10_least rfl rfl rfl (by decide +kernel) ⟨Nat.le_of_ble_eq_true rfl, Nat.le_of_ble_eq_true rfl⟩) rfl rfl [0] [1, 2, 3] [3, 0, 1, 2] rfl rfl (by decide) (by decide) (by decide) (fun _ => rfl) (by decide) rfl (Nat.le_of_ble_eq_true rfl) dX10_habit_71 ⟨Nat.le_of_ble_eq_true rfl, Nat.le_of_ble_eq_true rfl⟩ (fun u71 h71 => ?_)
          try dsimp only at h71
          refine x_ws [(qO, .inr (10, [.int (jI vO_blocks), .ref qO_stones, .ref qO_laid, .ref qO_deep, .int (jI vO_placings), .ref qO_placed, .int (jI vO_mortars), .ref qO_put, .ref qO_rates, .int (jI vO_limit), .int (jI vO_looks), .ref qO_seen, .ref qO_text, .int (jI vO_texted), .int (jI vO_faultPlace), .int (jI vO_clauses), .ref qO_rule, .ref qO_fresh, .int (jI vO_lots), .ref qO_stocks, .ref qO_row, .ref qO_dangers, .ref qO_losses, .long (jL (nU (hu2_47 hand) (hl2_47 hand))), .long (jL (nL (hu2_47 hand) (hl2_47 hand))), .ref qO_habitUpper, .ref qO_habitLower, .int (jI vO_at), .long (jL vO_word), .int (jI vO_wordEnd), .ref qO_chosen, .ref qO_lost, .ref qO_zones, .ref qO_way, .ref qO_spent, .ref qO_scaffolds])), aI kI qO_seen 320 fO_seen, aJ kJ qO_habitUpper 4 hu2_47, aJ kJ qO_habitLower 4 hl2_47] rfl ?_
          have q1 := nL_pos (u := hu2_47 hand) (l := hl2_47 hand) (by omega)
          have q2 := nL_le (u := hu2_47 hand) (l := hl2_47 hand) (by omega)
          have q3 := nU_bd (u := hu2_47 hand) (l := hl2_47 hand) (K := 50) (by omega) (by omega)
          refine x_iload_n F dX10_habit_74 rfl 3 rfl ?_
          refine x_if_ne (tgt := 85) F dX10_habit_75 (by decide) (by omega) (fun c75 => ?_) (fun c75 => ?_)
          · -- 75 t
            refine x_aload_n F dX10_habit_85 rfl 0 rfl ?_
            refine x_get (ci := 10) F hin10 0 rfl rfl 24 (by decide) hw4 rfl dX10_habit_86 ?_
            refine x_l2i F dX10_habit_89 (by omega) ?_
            exact hret 0 0 90 _ (nL (hu2_47 hand) (hl2_47 hand)) (hu2_47, hl2_47, (nU (hu2_47 hand) (hl2_47 hand)), (nL (hu2_47 hand) (hl2_47 hand))) (Nat.le_of_ble_eq_true rfl) (Nat.le_of_ble_eq_true rfl) dX10_habit_90 (by (try dsimp only); exact (by rw [if_neg (by omega), ← hkk, ← hu9, ← hl9]; first | (rw [if_pos (by omega)]) | (rw [if_neg (by omega)])))
          · -- 75 f
            refine x_aload_n F dX10_habit_78 rfl 0 rfl ?_
            refine x_get (ci := 10) F hin10 0 rfl rfl 23 (by decide) hw2 rfl dX10_habit_79 ?_
            refine x_goto (tgt := 89) F dX10_habit_82 (by decide) ?_
            refine x_l2i F dX10_habit_89 (by omega) ?_
            exact hret 0 0 90 _ (nU (hu2_47 hand) (hl2_47 hand)) (hu2_47, hl2_47, (nU (hu2_47 hand) (hl2_47 hand)), (nL (hu2_47 hand) (hl2_47 hand))) (Nat.le_of_ble_eq_true rfl) (Nat.le_of_ble_eq_true rfl) dX10_habit_90 (by (try dsimp only); exact (by rw [if_neg (by omega), ← hkk, ← hu9, ← hl9]; first | (rw [if_pos (by omega)]) | (rw [if_neg (by omega)])))
        refine x_aload_n F dX10_habit_34 rfl 0 rfl ?_
        refine x_iload_n F dX10_habit_35 rfl 2 rfl ?_
        refine x_if_ge (tgt := 46) F dX10_habit_36 (by decide) (by omega) (fun c36 => ?_) (fun c36 => ?_)
        · -- 36 t
          refine x_iload_n F dX10_habit_46 rfl 2 rfl ?_
          exact jn47 k (by split <;> omega)
        · -- 36 f
          refine x_aload_n F dX10_habit_39 rfl 0 rfl ?_
          refine x_get (ci := 10) F hin10 0 rfl rfl 10 (by decide) hw5 rfl dX10_habit_40 ?_
          refine x_goto (tgt := 47) F dX10_habit_43 (by decide) ?_
          exact jn47 vO_looks (by split <;> omega)
      · -- 27 f
        refine x_sipush F dX10_habit_30 (by decide) ?_
        exact hret 0 0 33 _ (-1002) (fO_habitUpper, fO_habitLower, vO_upper, vO_lower) (Nat.le_of_ble_eq_true rfl) (Nat.le_of_ble_eq_true rfl) dX10_habit_33 (by (try dsimp only); exact (by rw [if_pos (by omega)]))
