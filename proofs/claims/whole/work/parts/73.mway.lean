set_option maxHeartbeats 4000000 in
set_option maxRecDepth 100000 in
theorem c_X10_layWay (D : va_G) (kI kJ : Nat) (l : Launch) (qO : Nat) (co : Int) (many : Int) (n : Int) (vO_blocks : Int) (qO_stones : Nat) (qO_laid : Nat) (qO_deep : Nat) (vO_placings : Int) (qO_placed : Nat) (vO_mortars : Int) (qO_put : Nat) (qO_rates : Nat) (vO_limit : Int) (vO_looks : Int) (qO_seen : Nat) (qO_text : Nat) (vO_texted : Int) (vO_faultPlace : Int) (vO_clauses : Int) (qO_rule : Nat) (qO_fresh : Nat) (vO_lots : Int) (qO_stocks : Nat) (qO_row : Nat) (qO_dangers : Nat) (qO_losses : Nat) (vO_upper : Int) (vO_lower : Int) (qO_habitUpper : Nat) (qO_habitLower : Nat) (vO_at : Int) (vO_word : Int) (vO_wordEnd : Int) (qO_chosen : Nat) (qO_lost : Nat) (qO_zones : Nat) (qO_way : Nat) (qO_spent : Nat) (qO_scaffolds : Nat) (fO_way : (Int → Int)) (hco : 0 ≤ co ∧ co ≤ 1000000) (hmn : 0 ≤ many ∧ many ≤ 6) (hn4 : 1 ≤ n ∧ n ≤ 4) : xMv D kI kJ l yX10_layWay wsX10_layWay 1 32 0 0 [.ref qO, .int (jI co), .int (jI many), .int (jI n)] [(qO, .inr (10, [.int (jI vO_blocks), .ref qO_stones, .ref qO_laid, .ref qO_deep, .int (jI vO_placings), .ref qO_placed, .int (jI vO_mortars), .ref qO_put, .ref qO_rates, .int (jI vO_limit), .int (jI vO_looks), .ref qO_seen, .ref qO_text, .int (jI vO_texted), .int (jI vO_faultPlace), .int (jI vO_clauses), .ref qO_rule, .ref qO_fresh, .int (jI vO_lots), .ref qO_stocks, .ref qO_row, .ref qO_dangers, .ref qO_losses, .long (jL vO_upper), .long (jL vO_lower), .ref qO_habitUpper, .ref qO_habitLower, .int (jI vO_at), .long (jL vO_word), .int (jI vO_wordEnd), .ref qO_chosen, .ref qO_lost, .ref qO_zones, .ref qO_way, .ref qO_spent, .ref qO_scaffolds])), aI kI qO_way 6 fO_way] (fun (u : (Int → Int)) => (∀ k : Int, 0 ≤ k → k < many → u k = dgt co many n k)) (fun (u : (Int → Int)) => [(qO, .inr (10, [.int (jI vO_blocks), .ref qO_stones, .ref qO_laid, .ref qO_deep, .int (jI vO_placings), .ref qO_placed, .int (jI vO_mortars), .ref qO_put, .ref qO_rates, .int (jI vO_limit), .int (jI vO_looks), .ref qO_seen, .ref qO_text, .int (jI vO_texted), .int (jI vO_faultPlace), .int (jI vO_clauses), .ref qO_rule, .ref qO_fresh, .int (jI vO_lots), .ref qO_stocks, .ref qO_row, .ref qO_dangers, .ref qO_losses, .long (jL vO_upper), .long (jL vO_lower), .ref qO_habitUpper, .ref qO_habitLower, .int (jI vO_at), .long (jL vO_word), .int (jI vO_wordEnd), .ref qO_chosen, .ref qO_lost, .ref qO_zones, .ref qO_way, .ref qO_spent, .ref qO_scaffolds])), aI kI qO_way 6 u]) := by
  refine xMv_of (cc := cX10_layWay) (maxL := 6) (by decide) rfl (Nat.le_of_ble_eq_true rfl) ?_
  intro p e s m args below meth c A Q F hin2 hret
  have hin10 : ∀ w ∈ wsX100, w ∈ wsX10_layWay := by decide +kernel
  have hw0 : Cond.fieldLink RX10 75 (TX10 33).1 (TX10 33).2.1 (TX10 33).2.2.1 ∈ wsX10_layWay := by decide +kernel
  refine x_lveq (lv' := [(0, .ref qO), (1, .int (jI co)), (2, .int (jI many)), (3, .int (jI n))]) rfl ?_
  refine x_iload_n F dX10_layWay_0 rfl 1 rfl ?_
  refine x_istore (lv' := [(0, .ref qO), (1, .int (jI co)), (2, .int (jI many)), (3, .int (jI n)), (4, .int (jI co))]) F dX10_layWay_1 (by decide) [1, 2, 3, 4, 0] rfl ?_
  refine x_iload_n F dX10_layWay_3 rfl 2 rfl ?_
  refine x_iconst F dX10_layWay_4 ?_
  refine x_isub F dX10_layWay_5 ?_
  refine x_istore (lv' := [(0, .ref qO), (1, .int (jI co)), (2, .int (jI many)), (3, .int (jI n)), (4, .int (jI co)), (5, .int (jI (many - 1)))]) F dX10_layWay_6 (by decide) [1, 2, 3, 4, 5, 0] rfl ?_
  have lp8 : ∀ (fu : Nat) (lf : Int) (k9 : Int) (wg : (Int → Int)) (hk9 : -1 ≤ k9 ∧ k9 < many) (hlf : lf = lfN co n (many - 1 - k9)) (hlr : 0 ≤ lf ∧ lf ≤ 1000000) (hw : ∀ k : Int, k9 < k → k < many → wg k = dgt co many n k) (hm : k9 + 1 < (fu : Int)), xG D p l e (xRm 1 32 0 0) s m args below meth c 6 A Q 0 0 [(qO, .inr (10, [.int (jI vO_blocks), .ref qO_stones, .ref qO_laid, .ref qO_deep, .int (jI vO_placings), .ref qO_placed, .int (jI vO_mortars), .ref qO_put, .ref qO_rates, .int (jI vO_limit), .int (jI vO_looks), .ref qO_seen, .ref qO_text, .int (jI vO_texted), .int (jI vO_faultPlace), .int (jI vO_clauses), .ref qO_rule, .ref qO_fresh, .int (jI vO_lots), .ref qO_stocks, .ref qO_row, .ref qO_dangers, .ref qO_losses, .long (jL vO_upper), .long (jL vO_lower), .ref qO_habitUpper, .ref qO_habitLower, .int (jI vO_at), .long (jL vO_word), .int (jI vO_wordEnd), .ref qO_chosen, .ref qO_lost, .ref qO_zones, .ref qO_way, .ref qO_spent, .ref qO_scaffolds])), aI kI qO_way 6 wg] [(0, .ref qO), (1, .int (jI co)), (2, .int (jI many)), (3, .int (jI n)), (4, .int (jI lf)), (5, .int (jI k9))] 8 [] := by
    intro fu
    induction fu with
    | zero =>
      intro lf k9 wg hk9 hlf hlr hw hm
      exact absurd hm (by omega)
    | succ fu ih8 =>
      intro lf k9 wg hk9 hlf hlr hw hm
      have hq1 : 0 ≤ lf / (n + 1) := Int.ediv_nonneg hlr.1 (by omega)
      have hq2 : lf / (n + 1) ≤ lf := Int.ediv_le_self _ hlr.1
      have hq3 := Int.emod_nonneg lf (show n + 1 ≠ 0 by omega)
      have hq4 := Int.emod_lt_of_pos lf (show 0 < n + 1 by omega)
      refine x_iload F dX10_layWay_8 5 rfl ?_
      refine x_if_lt (tgt := 40) F dX10_layWay_10 (by decide) (by omega) (fun c10 => ?_) (fun c10 => ?_)
      · -- 10 t
        exact hret 0 0 40 _ wg (Nat.le_of_ble_eq_true rfl) (Nat.le_of_ble_eq_true rfl) dX10_layWay_40 (fun k k0 k1 => hw k (by omega) k1)
      · -- 10 f
        refine x_aload_n F dX10_layWay_13 rfl 0 rfl ?_
        refine x_get (ci := 10) F hin10 0 rfl rfl 33 (by decide) hw0 rfl dX10_layWay_14 ?_
        refine x_iload F dX10_layWay_17 5 rfl ?_
        refine x_iload F dX10_layWay_19 4 rfl ?_
        refine x_iload_n F dX10_layWay_21 rfl 3 rfl ?_
        refine x_iconst F dX10_layWay_22 ?_
        refine x_iadd F dX10_layWay_23 ?_
        refine x_irem F dX10_layWay_24 (by omega) ?_
        refine x_iast F 1 rfl (by decide) (by omega) dX10_layWay_25 [(qO, .inr (10, [.int (jI vO_blocks), .ref qO_stones, .ref qO_laid, .ref qO_deep, .int (jI vO_placings), .ref qO_placed, .int (jI vO_mortars), .ref qO_put, .ref qO_rates, .int (jI vO_limit), .int (jI vO_looks), .ref qO_seen, .ref qO_text, .int (jI vO_texted), .int (jI vO_faultPlace), .int (jI vO_clauses), .ref qO_rule, .ref qO_fresh, .int (jI vO_lots), .ref qO_stocks, .ref qO_row, .ref qO_dangers, .ref qO_losses, .long (jL vO_upper), .long (jL vO_lower), .ref qO_habitUpper, .ref qO_habitLower, .int (jI vO_at), .long (jL vO_word), .int (jI vO_wordEnd), .ref qO_chosen, .ref qO_lost, .ref qO_zones, .ref qO_way, .ref qO_spent, .ref qO_scaffolds])), aI kI qO_way 6 (iU wg k9 (lf % (n + 1)))] rfl ?_
        refine x_iload F dX10_layWay_26 4 rfl ?_
        refine x_iload_n F dX10_layWay_28 rfl 3 rfl ?_
        refine x_iconst F dX10_layWay_29 ?_
        refine x_iadd F dX10_layWay_30 ?_
        refine x_idiv F dX10_layWay_31 (by omega) ?_
        refine x_istore (lv' := [(0, .ref qO), (1, .int (jI co)), (2, .int (jI many)), (3, .int (jI n)), (4, .int (jI (lf / (n + 1)))), (5, .int (jI k9))]) F dX10_layWay_32 (by decide) [1, 2, 3, 4, 0, 5] rfl ?_
        refine x_iinc (lv' := [(0, .ref qO), (1, .int (jI co)), (2, .int (jI many)), (3, .int (jI n)), (4, .int (jI (lf / (n + 1)))), (5, .int (jI (k9 + (-1))))]) (k := 5) F dX10_layWay_34 rfl (by decide) [1, 2, 3, 4, 5, 0] rfl ?_
        refine x_goto (tgt := 8) F dX10_layWay_37 (by decide) ?_
        exact ih8 (lf / (n + 1)) (k9 + (-1)) (iU wg k9 (lf % (n + 1))) (by omega) (by rw [show many - 1 - (k9 + -1) = many - 1 - k9 + 1 by omega, lfN_s (by omega), ← hlf]) (by omega) (fun k h1 h2 => by by_cases e : k = k9; (rw [e, iU_s]; unfold dgt; rw [← hlf]); (rw [iU_n e]; exact hw k (by omega) h2)) (by omega)
  exact lp8 (Int.toNat ((many - 1) + 1) + 1) co (many - 1) fO_way (by omega) (by rw [show many - 1 - (many - 1) = 0 by omega]; rfl) (by omega) (fun k h1 h2 => by omega) (by omega)
