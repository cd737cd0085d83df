set_option maxHeartbeats 4000000 in
set_option maxRecDepth 100000 in
theorem c_X10_works (D : va_G) (kI kJ : Nat) (l : Launch) (qO : Nat) (set : Int) (year : Int) (n : Int) (coin : Int) (b : Int) (vO_blocks : Int) (qO_stones : Nat) (qO_laid : Nat) (qO_deep : Nat) (vO_placings : Int) (qO_placed : Nat) (vO_mortars : Int) (qO_put : Nat) (qO_rates : Nat) (vO_limit : Int) (vO_looks : Int) (qO_seen : Nat) (qO_text : Nat) (vO_texted : Int) (vO_faultPlace : Int) (vO_clauses : Int) (qO_rule : Nat) (qO_fresh : Nat) (vO_lots : Int) (qO_stocks : Nat) (qO_row : Nat) (qO_dangers : Nat) (qO_losses : Nat) (vO_upper : Int) (vO_lower : Int) (qO_habitUpper : Nat) (qO_habitLower : Nat) (vO_at : Int) (vO_word : Int) (vO_wordEnd : Int) (qO_chosen : Nat) (qO_lost : Nat) (qO_zones : Nat) (qO_way : Nat) (qO_spent : Nat) (qO_scaffolds : Nat) (fO_stones : (Int → Int)) (fO_laid : (Int → Int)) (fO_rates : (Int → Int)) (fO_placed : (Int → Int)) (fO_put : (Int → Int)) (fO_chosen : (Int → Int)) (fO_lost : (Int → Int)) (fO_zones : (Int → Int)) (fO_way : (Int → Int)) (fO_spent : (Int → Int)) (fO_scaffolds : (Int → Int)) (hr_set : -2147483648 ≤ set ∧ set < 2147483648) (hr_year : -2147483648 ≤ year ∧ year < 2147483648) (hr_n : -2147483648 ≤ n ∧ n < 2147483648) (hr_coin : -2147483648 ≤ coin ∧ coin < 2147483648) (hr_b : -2147483648 ≤ b ∧ b < 2147483648) (hOb : 0 ≤ vO_blocks ∧ vO_blocks ≤ 30) (hOst : Rg fO_stones 30 0 3) (hOla : Rg fO_laid 30 0 400) (hOra : Rg fO_rates 64 0 50) (hOp : 0 ≤ vO_placings ∧ vO_placings ≤ 60) (hOpr : Rg fO_placed 300 0 400) (hOp2 : Rg (fun k => fO_placed (5 * k + 2)) 60 0 3) (hOp3 : Rg (fun k => fO_placed (5 * k + 3)) 60 0 3) (hOp4 : Rg (fun k => fO_placed (5 * k + 4)) 60 0 7) (hOm : 0 ≤ vO_mortars ∧ vO_mortars ≤ 60) (hOmr : Rg fO_put 180 0 400) (hOm2 : Rg (fun k => fO_put (3 * k + 2)) 60 0 1) (hOlo : Rg fO_lost 30 0 40000) (hOzo : Rg fO_zones 30 0 7) : xMi D kI kJ l yX10_works wsX10_works 5 129 0 0 [.ref qO, .int (jI set), .int (jI year), .int (jI n), .int (jI coin), .int (jI b)] [(qO, .inr (10, [.int (jI vO_blocks), .ref qO_stones, .ref qO_laid, .ref qO_deep, .int (jI vO_placings), .ref qO_placed, .int (jI vO_mortars), .ref qO_put, .ref qO_rates, .int (jI vO_limit), .int (jI vO_looks), .ref qO_seen, .ref qO_text, .int (jI vO_texted), .int (jI vO_faultPlace), .int (jI vO_clauses), .ref qO_rule, .ref qO_fresh, .int (jI vO_lots), .ref qO_stocks, .ref qO_row, .ref qO_dangers, .ref qO_losses, .long (jL vO_upper), .long (jL vO_lower), .ref qO_habitUpper, .ref qO_habitLower, .int (jI vO_at), .long (jL vO_word), .int (jI vO_wordEnd), .ref qO_chosen, .ref qO_lost, .ref qO_zones, .ref qO_way, .ref qO_spent, .ref qO_scaffolds])), aI kI qO_stones 30 fO_stones, aI kI qO_laid 30 fO_laid, aI kI qO_rates 64 fO_rates, aI kI qO_placed 300 fO_placed, aI kI qO_put 180 fO_put, aI kI qO_chosen 6 fO_chosen, aI kI qO_lost 30 fO_lost, aI kI qO_zones 30 fO_zones, aI kI qO_way 6 fO_way, aI kI qO_spent 4 fO_spent, aI kI qO_scaffolds 4 fO_scaffolds] (fun (z : Int) (u : (Int → Int) × (Int → Int) × (Int → Int) × (Int → Int) × (Int → Int) × (Int → Int)) => z = (wkA set year n coin b vO_blocks (fun b9 y9 => (lS (oLoss fO_rates (fO_stones b9) fO_placed vO_placings fO_put vO_mortars b9) (fO_laid b9)) y9) (fun b9 y9 => oPl fO_placed b9 y9 vO_placings 4)) ∧ (Rg u.2.1 30 0 40000) ∧ (Rg u.2.2.1 30 0 7)) (fun (u : (Int → Int) × (Int → Int) × (Int → Int) × (Int → Int) × (Int → Int) × (Int → Int)) => [(qO, .inr (10, [.int (jI vO_blocks), .ref qO_stones, .ref qO_laid, .ref qO_deep, .int (jI vO_placings), .ref qO_placed, .int (jI vO_mortars), .ref qO_put, .ref qO_rates, .int (jI vO_limit), .int (jI vO_looks), .ref qO_seen, .ref qO_text, .int (jI vO_texted), .int (jI vO_faultPlace), .int (jI vO_clauses), .ref qO_rule, .ref qO_fresh, .int (jI vO_lots), .ref qO_stocks, .ref qO_row, .ref qO_dangers, .ref qO_losses, .long (jL vO_upper), .long (jL vO_lower), .ref qO_habitUpper, .ref qO_habitLower, .int (jI vO_at), .long (jL vO_word), .int (jI vO_wordEnd), .ref qO_chosen, .ref qO_lost, .ref qO_zones, .ref qO_way, .ref qO_spent, .ref qO_scaffolds])), aI kI qO_stones 30 fO_stones, aI kI qO_laid 30 fO_laid, aI kI qO_rates 64 fO_rates, aI kI qO_placed 300 fO_placed, aI kI qO_put 180 fO_put, aI kI qO_chosen 6 u.1, aI kI qO_lost 30 u.2.1, aI kI qO_zones 30 u.2.2.1, aI kI qO_way 6 u.2.2.2.1, aI kI qO_spent 4 u.2.2.2.2.1, aI kI qO_scaffolds 4 u.2.2.2.2.2]) := by
  refine xMi_of (cc := cX10_works) (maxL := 15) (rt := .int) (by decide) rfl (Nat.le_of_ble_eq_true rfl) (fun _ _ _ => rfl) ?_
  intro p e s m args below meth c A Q F hin2 hret
  have hin10 : ∀ w ∈ wsX100, w ∈ wsX10_works := by decide +kernel
  have hw0 : Cond.fieldLink RX10 90 (TX10 0).1 (TX10 0).2.1 (TX10 0).2.2.1 ∈ wsX10_works := by decide +kernel
  have hw1 : Cond.constant RX10 264 1000000000 ∈ wsX10_works := by decide +kernel
  have hw2 : Cond.fieldLink RX10 75 (TX10 33).1 (TX10 33).2.1 (TX10 33).2.2.1 ∈ wsX10_works := by decide +kernel
  have hw3 : Cond.fieldLink RX10 66 (TX10 30).1 (TX10 30).2.1 (TX10 30).2.2.1 ∈ wsX10_works := by decide +kernel
  have hw4 : Cond.fieldLink RX10 69 (TX10 31).1 (TX10 31).2.1 (TX10 31).2.2.1 ∈ wsX10_works := by decide +kernel
  have hw5 : Cond.fieldLink RX10 72 (TX10 32).1 (TX10 32).2.1 (TX10 32).2.2.1 ∈ wsX10_works := by decide +kernel
  have hw6 : Cond.constantLong RX10 258 396 ∈ wsX10_works := by decide +kernel
  have hw7 : Cond.constantLong RX10 260 4 ∈ wsX10_works := by decide +kernel
  have hw8 : Cond.constantLong RX10 262 1000 ∈ wsX10_works := by decide +kernel
  refine x_lveq (lv' := [(0, .ref qO), (1, .int (jI set)), (2, .int (jI year)), (3, .int (jI n)), (4, .int (jI coin)), (5, .int (jI b))]) rfl ?_
  have jn19 : ∀  (hkn9 : ¬ (¬ b = -1 ∧ ¬ (0 ≤ b ∧ b < vO_blocks))), xG D p l e (xRm 5 129 0 0) s m args below meth c 15 A Q 0 0 [(qO, .inr (10, [.int (jI vO_blocks), .ref qO_stones, .ref qO_laid, .ref qO_deep, .int (jI vO_placings), .ref qO_placed, .int (jI vO_mortars), .ref qO_put, .ref qO_rates, .int (jI vO_limit), .int (jI vO_looks), .ref qO_seen, .ref qO_text, .int (jI vO_texted), .int (jI vO_faultPlace), .int (jI vO_clauses), .ref qO_rule, .ref qO_fresh, .int (jI vO_lots), .ref qO_stocks, .ref qO_row, .ref qO_dangers, .ref qO_losses, .long (jL vO_upper), .long (jL vO_lower), .ref qO_habitUpper, .ref qO_habitLower, .int (jI vO_at), .long (jL vO_word), .int (jI vO_wordEnd), .ref qO_chosen, .ref qO_lost, .ref qO_zones, .ref qO_way, .ref qO_spent, .ref qO_scaffolds])), aI kI qO_stones 30 fO_stones, aI kI qO_laid 30 fO_laid, aI kI qO_rates 64 fO_rates, aI kI qO_placed 300 fO_placed, aI kI qO_put 180 fO_put, aI kI qO_chosen 6 fO_chosen, aI kI qO_lost 30 fO_lost, aI kI qO_zones 30 fO_zones, aI kI qO_way 6 fO_way, aI kI qO_spent 4 fO_spent, aI kI qO_scaffolds 4 fO_scaffolds] [(0, .ref qO), (1, .int (jI set)), (2, .int (jI year)), (3, .int (jI n)), (4, .int (jI coin)), (5, .int (jI b))] 19 [] := by
    intro hkn9
    refine x_iconst F dX10_works_19 ?_
    refine x_istore (lv' := [(0, .ref qO), (1, .int (jI set)), (2, .int (jI year)), (3, .int (jI n)), (4, .int (jI coin)), (5, .int (jI b)), (6, .int (jI 0))]) F dX10_works_20 (by decide) [1, 2, 3, 4, 5, 6, 0] rfl ?_
    refine x_iconst F dX10_works_22 ?_
    refine x_istore (lv' := [(0, .ref qO), (1, .int (jI set)), (2, .int (jI year)), (3, .int (jI n)), (4, .int (jI coin)), (5, .int (jI b)), (6, .int (jI 0)), (7, .int (jI 0))]) F dX10_works_23 (by decide) [1, 2, 3, 4, 5, 6, 7, 0] rfl ?_
    refine x_iconst F dX10_works_25 ?_
    refine x_istore (lv' := [(0, .ref qO), (1, .int (jI set)), (2, .int (jI year)), (3, .int (jI n)), (4, .int (jI coin)), (5, .int (jI b)), (6, .int (jI 0)), (7, .int (jI 0)), (8, .int (jI 0))]) F dX10_works_26 (by decide) [1, 2, 3, 4, 5, 6, 7, 8, 0] rfl ?_
    have lp28 : ∀ (fu : Nat) (k0 : Int) (bi : Int) (hk0 : 0 ≤ k0 ∧ k0 ≤ 30) (hbi : bi = sm (btA set) k0) (hbr : 0 ≤ bi ∧ bi ≤ k0) (hm : 30 - k0 < (fu : Int)), xG D p l e (xRm 5 129 0 0) s m args below meth c 15 A Q 0 0 [(qO, .inr (10, [.int (jI vO_blocks), .ref qO_stones, .ref qO_laid, .ref qO_deep, .int (jI vO_placings), .ref qO_placed, .int (jI vO_mortars), .ref qO_put, .ref qO_rates, .int (jI vO_limit), .int (jI vO_looks), .ref qO_seen, .ref qO_text, .int (jI vO_texted), .int (jI vO_faultPlace), .int (jI vO_clauses), .ref qO_rule, .ref qO_fresh, .int (jI vO_lots), .ref qO_stocks, .ref qO_row, .ref qO_dangers, .ref qO_losses, .long (jL vO_upper), .long (jL vO_lower), .ref qO_habitUpper, .ref qO_habitLower, .int (jI vO_at), .long (jL vO_word), .int (jI vO_wordEnd), .ref qO_chosen, .ref qO_lost, .ref qO_zones, .ref qO_way, .ref qO_spent, .ref qO_scaffolds])), aI kI qO_stones 30 fO_stones, aI kI qO_laid 30 fO_laid, aI kI qO_rates 64 fO_rates, aI kI qO_placed 300 fO_placed, aI kI qO_put 180 fO_put, aI kI qO_chosen 6 fO_chosen, aI kI qO_lost 30 fO_lost, aI kI qO_zones 30 fO_zones, aI kI qO_way 6 fO_way, aI kI qO_spent 4 fO_spent, aI kI qO_scaffolds 4 fO_scaffolds] [(0, .ref qO), (1, .int (jI set)), (2, .int (jI year)), (3, .int (jI n)), (4, .int (jI coin)), (5, .int (jI b)), (6, .int (jI 0)), (7, .int (jI bi)), (8, .int (jI k0))] 28 [] := by
      intro fu
      induction fu with
      | zero =>
        intro k0 bi hk0 hbi hbr hm
        exact absurd hm (by omega)
      | succ fu ih28 =>
        intro k0 bi hk0 hbi hbr hm
        refine x_iload F dX10_works_28 8 rfl ?_
        refine x_bipush F dX10_works_30 (by decide) ?_
        refine x_icmp_ge (tgt := 52) F dX10_works_32 (by decide) (by omega) (fun c32 => ?_) (fun c32 => ?_)
        · -- 32 t
          have jn117 : ∀ (g9 : Int) (hg : xBool g9 ((0 < set ∧ set < 2 ^ vO_blocks.toNat) ∧ sm (btA set) 30 ≤ 6 ∧ (0 ≤ year ∧ year ≤ 396) ∧ (1 ≤ n ∧ n ≤ 4) ∧ 0 ≤ coin ∧ coin ≤ 1000)), xG D p l e (xRm 5 129 0 0) s m args below meth c 15 A Q 0 0 [(qO, .inr (10, [.int (jI vO_blocks), .ref qO_stones, .ref qO_laid, .ref qO_deep, .int (jI vO_placings), .ref qO_placed, .int (jI vO_mortars), .ref qO_put, .ref qO_rates, .int (jI vO_limit), .int (jI vO_looks), .ref qO_seen, .ref qO_text, .int (jI vO_texted), .int (jI vO_faultPlace), .int (jI vO_clauses), .ref qO_rule, .ref qO_fresh, .int (jI vO_lots), .ref qO_stocks, .ref qO_row, .ref qO_dangers, .ref qO_losses, .long (jL vO_upper), .long (jL vO_lower), .ref qO_habitUpper, .ref qO_habitLower, .int (jI vO_at), .long (jL vO_word), .int (jI vO_wordEnd), .ref qO_chosen, .ref qO_lost, .ref qO_zones, .ref qO_way, .ref qO_spent, .ref qO_scaffolds])), aI kI qO_stones 30 fO_stones, aI kI qO_laid 30 fO_laid, aI kI qO_rates 64 fO_rates, aI kI qO_placed 300 fO_placed, aI kI qO_put 180 fO_put, aI kI qO_chosen 6 fO_chosen, aI kI qO_lost 30 fO_lost, aI kI qO_zones 30 fO_zones, aI kI qO_way 6 fO_way, aI kI qO_spent 4 fO_spent, aI kI qO_scaffolds 4 fO_scaffolds] [(0, .ref qO), (1, .int (jI set)), (2, .int (jI year)), (3, .int (jI n)), (4, .int (jI coin)), (5, .int (jI b)), (6, .int (jI 0)), (7, .int (jI bi))] 117 [.int (jI g9)] := by
            intro g9 hg
            refine x_istore (lv' := [(0, .ref qO), (1, .int (jI set)), (2, .int (jI year)), (3, .int (jI n)), (4, .int (jI coin)), (5, .int (jI b)), (6, .int (jI 0)), (7, .int (jI bi)), (8, .int (jI g9))]) F dX10_works_117 (by decide) [1, 2, 3, 4, 5, 6, 7, 8, 0] rfl ?_
            refine x_iload F dX10_works_119 8 rfl ?_
            refine x_beq (tgt := 138) F dX10_works_121 (by decide) hg (fun c121 => ?_) (fun c121 => ?_)
            · -- 121 t
              have hout : ¬ ((0 < set ∧ set < 2 ^ vO_blocks.toNat) ∧ sm (btA set) 30 ≤ 6 ∧ (0 ≤ year ∧ year ≤ 396) ∧ (1 ≤ n ∧ n ≤ 4) ∧ (0 ≤ coin ∧ coin ≤ 1000) ∧ ¬ (0 ≤ b ∧ btA set b = 0)) := fun q => c121 ⟨q.1, q.2.1, q.2.2.1, q.2.2.2.1, q.2.2.2.2.1⟩
              refine x_sipush F dX10_works_138 (by decide) ?_
              exact hret 0 0 141 _ (-1002) (fO_chosen, fO_lost, fO_zones, fO_way, fO_spent, fO_scaffolds) (Nat.le_of_ble_eq_true rfl) (Nat.le_of_ble_eq_true rfl) dX10_works_141 (by (try dsimp only); exact (⟨(wkA_out hkn9 hout).symm, hOlo, hOzo⟩))
            · -- 121 f
              have jn142 : ∀  (hg9 : (0 < set ∧ set < 2 ^ vO_blocks.toNat) ∧ sm (btA set) 30 ≤ 6 ∧ (0 ≤ year ∧ year ≤ 396) ∧ (1 ≤ n ∧ n ≤ 4) ∧ 0 ≤ coin ∧ coin ≤ 1000) (hbb9 : ¬ (0 ≤ b ∧ btA set b = 0)), xG D p l e (xRm 5 129 0 0) s m args below meth c 15 A Q 0 0 [(qO, .inr (10, [.int (jI vO_blocks), .ref qO_stones, .ref qO_laid, .ref qO_deep, .int (jI vO_placings), .ref qO_placed, .int (jI vO_mortars), .ref qO_put, .ref qO_rates, .int (jI vO_limit), .int (jI vO_looks), .ref qO_seen, .ref qO_text, .int (jI vO_texted), .int (jI vO_faultPlace), .int (jI vO_clauses), .ref qO_rule, .ref qO_fresh, .int (jI vO_lots), .ref qO_stocks, .ref qO_row, .ref qO_dangers, .ref qO_losses, .long (jL vO_upper), .long (jL vO_lower), .ref qO_habitUpper, .ref qO_habitLower, .int (jI vO_at), .long (jL vO_word), .int (jI vO_wordEnd), .ref qO_chosen, .ref qO_lost, .ref qO_zones, .ref qO_way, .ref qO_spent, .ref qO_scaffolds])), aI kI qO_stones 30 fO_stones, aI kI qO_laid 30 fO_laid, aI kI qO_rates 64 fO_rates, aI kI qO_placed 300 fO_placed, aI kI qO_put 180 fO_put, aI kI qO_chosen 6 fO_chosen, aI kI qO_lost 30 fO_lost, aI kI qO_zones 30 fO_zones, aI kI qO_way 6 fO_way, aI kI qO_spent 4 fO_spent, aI kI qO_scaffolds 4 fO_scaffolds] [(0, .ref qO), (1, .int (jI set)), (2, .int (jI year)), (3, .int (jI n)), (4, .int (jI coin)), (5, .int (jI b)), (6, .int (jI 0)), (7, .int (jI bi)), (8, .int (jI g9))] 142 [] := by
                intro hg9 hbb9
                have hm30 : ∀ x : Int, 0 ≤ x → x ≤ 30 → 0 ≤ sm (btA set) x ∧ sm (btA set) x ≤ 6 := fun x x0 x1 => by have h1 := sm_bt_0 (set := set) (a := x) x0; have h2 := sm_bt_le (set := set) (a := x) (b := 30) ⟨x0, x1⟩; omega
                refine x_iconst F dX10_works_142 ?_
                refine x_istore (lv' := [(0, .ref qO), (1, .int (jI set)), (2, .int (jI year)), (3, .int (jI n)), (4, .int (jI coin)), (5, .int (jI b)), (6, .int (jI 0)), (7, .int (jI bi)), (8, .int (jI g9)), (9, .int (jI (-1)))]) F dX10_works_143 (by decide) [1, 2, 3, 4, 5, 6, 7, 8, 9, 0] rfl ?_
                refine x_iconst F dX10_works_145 ?_
                refine x_istore (lv' := [(0, .ref qO), (1, .int (jI set)), (2, .int (jI year)), (3, .int (jI n)), (4, .int (jI coin)), (5, .int (jI b)), (6, .int (jI 0)), (7, .int (jI bi)), (8, .int (jI g9)), (9, .int (jI (-1))), (10, .int (jI 0))]) F dX10_works_146 (by decide) [1, 2, 3, 4, 5, 6, 7, 8, 9, 10, 0] rfl ?_
                have lp148 : ∀ (fu : Nat) (mn9 : Int) (as9 : Int) (k9 : Int) (ch9 : (Int → Int)) (lo9 : (Int → Int)) (zo9 : (Int → Int)) (hk9 : 0 ≤ k9 ∧ k9 ≤ vO_blocks) (im9 : mn9 = sm (btA set) k9) (iinv : ∀ x : Int, 0 ≤ x → x < k9 → btA set x = 1 → ∀ y : Int, 0 ≤ y → y ≤ n → lo9 (5 * sm (btA set) x + y) = (fun b9 y9 => (lS (oLoss fO_rates (fO_stones b9) fO_placed vO_placings fO_put vO_mortars b9) (fO_laid b9)) y9) x (year + y) ∧ zo9 (5 * sm (btA set) x + y) = (fun b9 y9 => oPl fO_placed b9 y9 vO_placings 4) x (year + y)) (ias : 0 ≤ b ∧ b < k9 → as9 = sm (btA set) b) (iar : -1 ≤ as9 ∧ as9 ≤ 5) (iglo : Rg lo9 30 0 40000) (igzo : Rg zo9 30 0 7) (hm : vO_blocks - k9 < (fu : Int)), xG D p l e (xRm 5 129 0 0) s m args below meth c 15 A Q 0 0 [(qO, .inr (10, [.int (jI vO_blocks), .ref qO_stones, .ref qO_laid, .ref qO_deep, .int (jI vO_placings), .ref qO_placed, .int (jI vO_mortars), .ref qO_put, .ref qO_rates, .int (jI vO_limit), .int (jI vO_looks), .ref qO_seen, .ref qO_text, .int (jI vO_texted), .int (jI vO_faultPlace), .int (jI vO_clauses), .ref qO_rule, .ref qO_fresh, .int (jI vO_lots), .ref qO_stocks, .ref qO_row, .ref qO_dangers, .ref qO_losses, .long (jL vO_upper), .long (jL vO_lower), .ref qO_habitUpper, .ref qO_habitLower, .int (jI vO_at), .long (jL vO_word), .int (jI vO_wordEnd), .ref qO_chosen, .ref qO_lost, .ref qO_zones, .ref qO_way, .ref qO_spent, .ref qO_scaffolds])), aI kI qO_stones 30 fO_stones, aI kI qO_laid 30 fO_laid, aI kI qO_rates 64 fO_rates, aI kI qO_placed 300 fO_placed, aI kI qO_put 180 fO_put, aI kI qO_chosen 6 ch9, aI kI qO_lost 30 lo9, aI kI qO_zones 30 zo9, aI kI qO_way 6 fO_way, aI kI qO_spent 4 fO_spent, aI kI qO_scaffolds 4 fO_scaffolds] [(0, .ref qO), (1, .int (jI set)), (2, .int (jI year)), (3, .int (jI n)), (4, .int (jI coin)), (5, .int (jI b)), (6, .int (jI mn9)), (9, .int (jI as9)), (10, .int (jI k9))] 148 [] := by
                  intro fu
                  induction fu with
                  | zero =>
                    intro mn9 as9 k9 ch9 lo9 zo9 hk9 im9 iinv ias iar iglo igzo hm
                    exact absurd hm (by omega)
                  | succ fu ih148 =>
                    intro mn9 as9 k9 ch9 lo9 zo9 hk9 im9 iinv ias iar iglo igzo hm
                    refine x_iload F dX10_works_148 8 rfl ?_
                    refine x_aload_n F dX10_works_150 rfl 0 rfl ?_
                    refine x_get (ci := 10) F hin10 0 rfl rfl 0 (by decide) hw0 rfl dX10_works_151 ?_
                    refine x_icmp_ge (tgt := 261) F dX10_works_154 (by decide) (by omega) (fun c154 => ?_) (fun c154 => ?_)
                    · -- 154 t
                      have hkb : k9 = vO_blocks := by omega
                      rw [hkb] at im9 iinv ias
                      have hmm := hm30 vO_blocks hOb.1 hOb.2
                      refine x_iconst F dX10_works_261 ?_
                      refine x_istore (lv' := [(0, .ref qO), (1, .int (jI set)), (2, .int (jI year)), (3, .int (jI n)), (4, .int (jI coin)), (5, .int (jI b)), (6, .int (jI mn9)), (9, .int (jI as9)), (10, .int (jI 1))]) F dX10_works_262 (by decide) [1, 2, 3, 4, 5, 6, 7, 8, 0] rfl ?_
                      refine x_iconst F dX10_works_264 ?_
                      refine x_istore (lv' := [(0, .ref qO), (1, .int (jI set)), (2, .int (jI year)), (3, .int (jI n)), (4, .int (jI coin)), (5, .int (jI b)), (6, .int (jI mn9)), (9, .int (jI as9)), (10, .int (jI 1)), (11, .int (jI 0))]) F dX10_works_265 (by decide) [1, 2, 3, 4, 5, 6, 7, 8, 9, 0] rfl ?_
                      have lp267 : ∀ (fu : Nat) (wy9 : Int) (j9 : Int) (hj9 : 0 ≤ j9 ∧ j9 ≤ mn9) (hwy : wy9 = pwI n j9.toNat) (hm : mn9 - j9 < (fu : Int)), xG D p l e (xRm 5 129 0 0) s m args below meth c 15 A Q 0 0 [(qO, .inr (10, [.int (jI vO_blocks), .ref qO_stones, .ref qO_laid, .ref qO_deep, .int (jI vO_placings), .ref qO_placed, .int (jI vO_mortars), .ref qO_put, .ref qO_rates, .int (jI vO_limit), .int (jI vO_looks), .ref qO_seen, .ref qO_text, .int (jI vO_texted), .int (jI vO_faultPlace), .int (jI vO_clauses), .ref qO_rule, .ref qO_fresh, .int (jI vO_lots), .ref qO_stocks, .ref qO_row, .ref qO_dangers, .ref qO_losses, .long (jL vO_upper), .long (jL vO_lower), .ref qO_habitUpper, .ref qO_habitLower, .int (jI vO_at), .long (jL vO_word), .int (jI vO_wordEnd), .ref qO_chosen, .ref qO_lost, .ref qO_zones, .ref qO_way, .ref qO_spent, .ref qO_scaffolds])), aI kI qO_stones 30 fO_stones, aI kI qO_laid 30 fO_laid, aI kI qO_rates 64 fO_rates, aI kI qO_placed 300 fO_placed, aI kI qO_put 180 fO_put, aI kI qO_chosen 6 ch9, aI kI qO_lost 30 lo9, aI kI qO_zones 30 zo9, aI kI qO_way 6 fO_way, aI kI qO_spent 4 fO_spent, aI kI qO_scaffolds 4 fO_scaffolds] [(0, .ref qO), (1, .int (jI set)), (2, .int (jI year)), (3, .int (jI n)), (4, .int (jI coin)), (5, .int (jI b)), (6, .int (jI mn9)), (9, .int (jI as9)), (10, .int (jI wy9)), (11, .int (jI j9))] 267 [] := by
                        intro fu
                        induction fu with
                        | zero =>
                          intro wy9 j9 hj9 hwy hm
                          exact absurd hm (by omega)
                        | succ fu ih267 =>
                          intro wy9 j9 hj9 hwy hm
                          have hpw9 := pwI_bd (n := n) (by omega) (k := j9.toNat) (by omega)
                          rw [← hwy] at hpw9
                          refine x_iload F dX10_works_267 9 rfl ?_
                          refine x_iload F dX10_works_269 6 rfl ?_
                          refine x_icmp_ge (tgt := 288) F dX10_works_271 (by decide) (by omega) (fun c271 => ?_) (fun c271 => ?_)
                          · -- 271 t
                            refine x_iconst F dX10_works_288 ?_
                            refine x_istore (lv' := [(0, .ref qO), (1, .int (jI set)), (2, .int (jI year)), (3, .int (jI n)), (4, .int (jI coin)), (5, .int (jI b)), (6, .int (jI mn9)), (9, .int (jI as9)), (10, .int (jI wy9)), (11, .int (jI (-1)))]) F dX10_works_289 (by decide) [1, 2, 3, 4, 5, 6, 7, 8, 9, 0] rfl ?_
                            refine x_ldcw F 1000000000 hw1 (by decide) dX10_works_291 ?_
                            refine x_istore (lv' := [(0, .ref qO), (1, .int (jI set)), (2, .int (jI year)), (3, .int (jI n)), (4, .int (jI coin)), (5, .int (jI b)), (6, .int (jI mn9)), (9, .int (jI as9)), (10, .int (jI wy9)), (11, .int (jI (-1))), (12, .int (jI 1000000000))]) F dX10_works_294 (by decide) [1, 2, 3, 4, 5, 6, 7, 8, 9, 10, 0] rfl ?_
                            refine x_iconst F dX10_works_296 ?_
                            refine x_istore (lv' := [(0, .ref qO), (1, .int (jI set)), (2, .int (jI year)), (3, .int (jI n)), (4, .int (jI coin)), (5, .int (jI b)), (6, .int (jI mn9)), (9, .int (jI as9)), (10, .int (jI wy9)), (11, .int (jI (-1))), (12, .int (jI 1000000000)), (13, .int (jI 0))]) F dX10_works_297 (by decide) [1, 2, 3, 4, 5, 6, 7, 8, 9, 10, 11, 0] rfl ?_
                            have lp299 : ∀ (fu : Nat) (be9 : Int) (le9 : Int) (c9 : Int) (wa9 : (Int → Int)) (sp9 : (Int → Int)) (sc9 : (Int → Int)) (hc9 : 0 ≤ c9 ∧ c9 ≤ wy9) (hbe : be9 = bsI (wV (ocs lo9) (ozn zo9) (ong lo9 n) n coin mn9) c9) (hle : le9 = lsI (wV (ocs lo9) (ozn zo9) (ong lo9 n) n coin mn9) c9) (hm : wy9 - c9 < (fu : Int)), xG D p l e (xRm 5 129 0 0) s m args below meth c 15 A Q 0 0 [(qO, .inr (10, [.int (jI vO_blocks), .ref qO_stones, .ref qO_laid, .ref qO_deep, .int (jI vO_placings), .ref qO_placed, .int (jI vO_mortars), .ref qO_put, .ref qO_rates, .int (jI vO_limit), .int (jI vO_looks), .ref qO_seen, .ref qO_text, .int (jI vO_texted), .int (jI vO_faultPlace), .int (jI vO_clauses), .ref qO_rule, .ref qO_fresh, .int (jI vO_lots), .ref qO_stocks, .ref qO_row, .ref qO_dangers, .ref qO_losses, .long (jL vO_upper), .long (jL vO_lower), .ref qO_habitUpper, .ref qO_habitLower, .int (jI vO_at), .long (jL vO_word), .int (jI vO_wordEnd), .ref qO_chosen, .ref qO_lost, .ref qO_zones, .ref qO_way, .ref qO_spent, .ref qO_scaffolds])), aI kI qO_stones 30 fO_stones, aI kI qO_laid 30 fO_laid, aI kI qO_rates 64 fO_rates, aI kI qO_placed 300 fO_placed, aI kI qO_put 180 fO_put, aI kI qO_chosen 6 ch9, aI kI qO_lost 30 lo9, aI kI qO_zones 30 zo9, aI kI qO_way 6 wa9, aI kI qO_spent 4 sp9, aI kI qO_scaffolds 4 sc9] [(0, .ref qO), (1, .int (jI set)), (2, .int (jI year)), (3, .int (jI n)), (4, .int (jI coin)), (5, .int (jI b)), (6, .int (jI mn9)), (9, .int (jI as9)), (10, .int (jI wy9)), (11, .int (jI be9)), (12, .int (jI le9)), (13, .int (jI c9))] 299 [] := by
                              intro fu
                              induction fu with
                              | zero =>
                                intro be9 le9 c9 wa9 sp9 sc9 hc9 hbe hle hm
                                exact absurd hm (by omega)
                              | succ fu ih299 =>
                                intro be9 le9 c9 wa9 sp9 sc9 hc9 hbe hle hm
                                refine x_iload F dX10_works_299 11 rfl ?_
                                refine x_iload F dX10_works_301 8 rfl ?_
                                refine x_icmp_ge (tgt := 352) F dX10_works_303 (by decide) (by omega) (fun c303 => ?_) (fun c303 => ?_)
                                · -- 303 t
                                  have hce : c9 = wy9 := by omega
                                  have hVV : (wV (ocs lo9) (ozn zo9) (ong lo9 n) n coin mn9) = (wkV set year n coin vO_blocks (fun b9 y9 => (lS (oLoss fO_rates (fO_stones b9) fO_placed vO_placings fO_put vO_mortars b9) (fO_laid b9)) y9) (fun b9 y9 => oPl fO_placed b9 y9 vO_placings 4)) := by rw [im9]; exact wkV_ref (by omega) hOb iinv
                                  rw [hce, hwy, show j9 = mn9 by omega] at hbe hle
                                  have hbs := bs_some (cs := ocs lo9) (zn := ozn zo9) (ng := ong lo9 n) (n := n) (coin := coin) (m := mn9) (by omega) (fun j t a1 a2 a3 a4 => by have := iglo (5 * j + t) (by omega) (by omega); unfold ocs; omega) (fun j a1 a2 => by have := iglo (5 * j + n) (by omega) (by omega); unfold ong; omega) (by omega)
                                  rw [← hbe] at hbs
                                  have hpb := pwI_bd (n := n) (by omega) (k := mn9.toNat) (by omega)
                                  rw [hVV] at hbe hle
                                  have hin : (0 < set ∧ set < 2 ^ vO_blocks.toNat) ∧ sm (btA set) 30 ≤ 6 ∧ (0 ≤ year ∧ year ≤ 396) ∧ (1 ≤ n ∧ n ≤ 4) ∧ (0 ≤ coin ∧ coin ≤ 1000) ∧ ¬ (0 ≤ b ∧ btA set b = 0) := ⟨hg9.1, hg9.2.1, hg9.2.2.1, hg9.2.2.2.1, hg9.2.2.2.2, hbb9⟩
                                  refine x_iload F dX10_works_352 5 rfl ?_
                                  refine x_iconst F dX10_works_354 ?_
                                  refine x_icmp_ne (tgt := 361) F dX10_works_355 (by decide) (by omega) (fun c355 => ?_) (fun c355 => ?_)
                                  · -- 355 t
                                    have hbm : (0 ≤ b ∧ b < vO_blocks) ∧ btA set b = 1 := by
                                      have h1 := btA_rng set b
                                      refine ⟨?_, ?_⟩
                                      · by_cases q : 0 ≤ b ∧ b < vO_blocks
                                        · exact q
                                        · exact absurd ⟨by omega, q⟩ hkn9
                                      · by_cases q : 0 ≤ b
                                        · have : ¬ btA set b = 0 := fun z => hbb9 ⟨q, z⟩
                                          omega
                                        · exact absurd ⟨by omega, fun z => q z.1⟩ hkn9
                                    have has := ias hbm.1
                                    have hsb := sm_s (f := btA set) hbm.1.1
                                    have hsb2 := sm_bt_le (set := set) (a := b + 1) (b := vO_blocks) (by omega)
                                    have hsb0 := sm_bt_0 (set := set) (a := b) hbm.1.1
                                    refine x_aload_n F dX10_works_361 rfl 0 rfl ?_
                                    refine x_iload F dX10_works_362 9 rfl ?_
                                    refine x_iload F dX10_works_364 6 rfl ?_
                                    refine x_iload_n F dX10_works_366 rfl 3 rfl ?_
                                    refine x_callVv (ci := 10) (q0 := 0) (As := [.int (jI be9), .int (jI mn9), .int (jI n)]) (st := []) F (c_X10_layWay D kI kJ l qO be9 mn9 n vO_blocks qO_stones qO_laid qO_deep vO_placings qO_placed vO_mortars qO_put qO_rates vO_limit vO_looks qO_seen qO_text vO_texted vO_faultPlace vO_clauses qO_rule qO_fresh vO_lots qO_stocks qO_row qO_dangers qO_losses vO_upper vO_lower qO_habitUpper qO_habitLower vO_at vO_word vO_wordEnd qO_chosen qO_lost qO_zones qO_way qO_spent qO_scaffolds wa9 (by omega) (by omega) (by omega)) (cwV 3 F.2.2.2.2.1 gX10_works_X10_layWay rfl rfl rfl (by decide +kernel) ⟨Nat.le_of_ble_eq_true rfl, Nat.le_of_ble_eq_true rfl⟩) rfl rfl [0, 9] [1, 2, 3, 4, 5, 6, 7, 8, 10, 11] [10, 0, 1, 2, 3, 4, 5, 6, 7, 11, 8, 9] rfl rfl (by decide) (by decide) (by decide) (fun _ => rfl) (by decide) rfl (Nat.le_of_ble_eq_true rfl) dX10_works_367 ⟨Nat.le_of_ble_eq_true rfl, Nat.le_of_ble_eq_true rfl⟩ (fun u367 h367 => ?_)
                                    obtain ⟨w2_367, rfl⟩ : ∃ z, z = u367 := ⟨_, rfl⟩
                                    try dsimp only at h367
                                    refine x_ws [(qO, .inr (10, [.int (jI vO_blocks), .ref qO_stones, .ref qO_laid, .ref qO_deep, .int (jI vO_placings), .ref qO_placed, .int (jI vO_mortars), .ref qO_put, .ref qO_rates, .int (jI vO_limit), .int (jI vO_looks), .ref qO_seen, .ref qO_text, .int (jI vO_texted), .int (jI vO_faultPlace), .int (jI vO_clauses), .ref qO_rule, .ref qO_fresh, .int (jI vO_lots), .ref qO_stocks, .ref qO_row, .ref qO_dangers, .ref qO_losses, .long (jL vO_upper), .long (jL vO_lower), .ref qO_habitUpper, .ref qO_habitLower, .int (jI vO_at), .long (jL vO_word), .int (jI vO_wordEnd), .ref qO_chosen, .ref qO_lost, .ref qO_zones, .ref qO_way, .ref qO_spent, .ref qO_scaffolds])), aI kI qO_stones 30 fO_stones, aI kI qO_laid 30 fO_laid, aI kI qO_rates 64 fO_rates, aI kI qO_placed 300 fO_placed, aI kI qO_put 180 fO_put, aI kI qO_chosen 6 ch9, aI kI qO_lost 30 lo9, aI kI qO_zones 30 zo9, aI kI qO_way 6 w2_367, aI kI qO_spent 4 sp9, aI kI qO_scaffolds 4 sc9] rfl ?_
                                    have hw_367 := h367
                                    have hwa := hw_367 as9 (by omega) (by omega)
                                    rw [← dg_dgt (by omega)] at hwa
                                    have hdr := dg_rng n mn9 be9 as9 (by omega)
                                    refine x_aload_n F dX10_works_370 rfl 0 rfl ?_
                                    refine x_get (ci := 10) F hin10 0 rfl rfl 33 (by decide) hw2 rfl dX10_works_371 ?_
                                    refine x_iload F dX10_works_374 7 rfl ?_
                                    refine x_iald F 9 rfl (by decide) (by omega) dX10_works_376 ?_
                                    refine x_iload_n F dX10_works_377 rfl 3 rfl ?_
                                    refine x_icmp_ne (tgt := 385) F dX10_works_378 (by decide) (by omega) (fun c378 => ?_) (fun c378 => ?_)
                                    · -- 378 t
                                      refine x_iload_n F dX10_works_385 rfl 2 rfl ?_
                                      refine x_aload_n F dX10_works_386 rfl 0 rfl ?_
                                      refine x_get (ci := 10) F hin10 0 rfl rfl 33 (by decide) hw2 rfl dX10_works_387 ?_
                                      refine x_iload F dX10_works_390 7 rfl ?_
                                      refine x_iald F 9 rfl (by decide) (by omega) dX10_works_392 ?_
                                      refine x_iadd F dX10_works_393 ?_
                                      exact hret 0 0 394 _ (year + (w2_367 as9)) (ch9, lo9, zo9, w2_367, sp9, sc9) (Nat.le_of_ble_eq_true rfl) (Nat.le_of_ble_eq_true rfl) dX10_works_394 (by (try dsimp only); exact (⟨by rw [wkA_in hkn9 hin]; unfold wkR; rw [if_neg (by omega), ← im9, ← hbe, ← has, if_neg (by rw [← hwa]; omega), hwa], iglo, igzo⟩))
                                    · -- 378 f
                                      refine x_iconst F dX10_works_381 ?_
                                      refine x_goto (tgt := 394) F dX10_works_382 (by decide) ?_
                                      exact hret 0 0 394 _ (-1) (ch9, lo9, zo9, w2_367, sp9, sc9) (Nat.le_of_ble_eq_true rfl) (Nat.le_of_ble_eq_true rfl) dX10_works_394 (by (try dsimp only); exact (⟨by rw [wkA_in hkn9 hin]; unfold wkR; rw [if_neg (by omega), ← im9, ← hbe, ← has, if_pos (by rw [← hwa]; omega)], iglo, igzo⟩))
                                  · -- 355 f
                                    refine x_iload F dX10_works_358 10 rfl ?_
                                    exact hret 0 0 360 _ le9 (ch9, lo9, zo9, wa9, sp9, sc9) (Nat.le_of_ble_eq_true rfl) (Nat.le_of_ble_eq_true rfl) dX10_works_360 (by (try dsimp only); exact (⟨by rw [wkA_in hkn9 hin]; unfold wkR; rw [if_pos (by omega), hle, ← im9], iglo, igzo⟩))
                                · -- 303 f
                                  have hst := lsI_s (vl := (wV (ocs lo9) (ozn zo9) (ong lo9 n) n coin mn9)) hc9.1
                                  have hlr8 := ls_rng (vl := (wV (ocs lo9) (ozn zo9) (ong lo9 n) n coin mn9)) c9
                                  rw [← hle] at hlr8
                                  have hvb := wV_bd (cs := ocs lo9) (zn := ozn zo9) (ng := ong lo9 n) (n := n) (coin := coin) (m := mn9) (by omega) (fun j t a1 a2 a3 a4 => by have := iglo (5 * j + t) (by omega) (by omega); unfold ocs; omega) (fun j a1 a2 => by have := iglo (5 * j + n) (by omega) (by omega); unfold ong; omega) (by omega) c9
                                  refine x_aload_n F dX10_works_306 rfl 0 rfl ?_
                                  refine x_iload F dX10_works_307 11 rfl ?_
                                  refine x_iload F dX10_works_309 6 rfl ?_
                                  refine x_iload_n F dX10_works_311 rfl 3 rfl ?_
                                  refine x_callVv (ci := 10) (q0 := 0) (As := [.int (jI c9), .int (jI mn9), .int (jI n)]) (st := []) F (c_X10_layWay D kI kJ l qO c9 mn9 n vO_blocks qO_stones qO_laid qO_deep vO_placings qO_placed vO_mortars qO_put qO_rates vO_limit vO_looks qO_seen qO_text vO_texted vO_faultPlace vO_clauses qO_rule qO_fresh vO_lots qO_stocks qO_row qO_dangers qO_losses vO_upper vO_lower qO_habitUpper qO_habitLower vO_at vO_word vO_wordEnd qO_chosen qO_lost qO_zones qO_way qO_spent qO_scaffolds wa9 (by omega) (by omega) (by omega)) (cwV 3 F.2.2.2.2.1 gX10_works_X10_layWay rfl rfl rfl (by decide +kernel) ⟨Nat.le_of_ble_eq_true rfl, Nat.le_of_ble_eq_true rfl⟩) rfl rfl [0, 9] [1, 2, 3, 4, 5, 6, 7, 8, 10, 11] [10, 0, 1, 2, 3, 4, 5, 6, 7, 11, 8, 9] rfl rfl (by decide) (by decide) (by decide) (fun _ => rfl) (by decide) rfl (Nat.le_of_ble_eq_true rfl) dX10_works_312 ⟨Nat.le_of_ble_eq_true rfl, Nat.le_of_ble_eq_true rfl⟩ (fun u312 h312 => ?_)
                                  obtain ⟨w2_312, rfl⟩ : ∃ z, z = u312 := ⟨_, rfl⟩
                                  try dsimp only at h312
                                  refine x_ws [(qO, .inr (10, [.int (jI vO_blocks), .ref qO_stones, .ref qO_laid, .ref qO_deep, .int (jI vO_placings), .ref qO_placed, .int (jI vO_mortars), .ref qO_put, .ref qO_rates, .int (jI vO_limit), .int (jI vO_looks), .ref qO_seen, .ref qO_text, .int (jI vO_texted), .int (jI vO_faultPlace), .int (jI vO_clauses), .ref qO_rule, .ref qO_fresh, .int (jI vO_lots), .ref qO_stocks, .ref qO_row, .ref qO_dangers, .ref qO_losses, .long (jL vO_upper), .long (jL vO_lower), .ref qO_habitUpper, .ref qO_habitLower, .int (jI vO_at), .long (jL vO_word), .int (jI vO_wordEnd), .ref qO_chosen, .ref qO_lost, .ref qO_zones, .ref qO_way, .ref qO_spent, .ref qO_scaffolds])), aI kI qO_stones 30 fO_stones, aI kI qO_laid 30 fO_laid, aI kI qO_rates 64 fO_rates, aI kI qO_placed 300 fO_placed, aI kI qO_put 180 fO_put, aI kI qO_chosen 6 ch9, aI kI qO_lost 30 lo9, aI kI qO_zones 30 zo9, aI kI qO_way 6 w2_312, aI kI qO_spent 4 sp9, aI kI qO_scaffolds 4 sc9] rfl ?_
                                  have hw_312 := h312
                                  refine x_aload_n F dX10_works_315 rfl 0 rfl ?_
                                  refine x_iload F dX10_works_316 6 rfl ?_
                                  refine x_iload_n F dX10_works_318 rfl 3 rfl ?_
                                  refine x_iload F dX10_works_319 4 rfl ?_
                                  refine x_callVi (ci := 10) (q0 := 0) (As := [.int (jI mn9), .int (jI n), .int (jI coin)]) (st := []) F (c_X10_sumOf D kI kJ l qO mn9 n coin vO_blocks qO_stones qO_laid qO_deep vO_placings qO_placed vO_mortars qO_put qO_rates vO_limit vO_looks qO_seen qO_text vO_texted vO_faultPlace vO_clauses qO_rule qO_fresh vO_lots qO_stocks qO_row qO_dangers qO_losses vO_upper vO_lower qO_habitUpper qO_habitLower vO_at vO_word vO_wordEnd qO_chosen qO_lost qO_zones qO_way qO_spent qO_scaffolds w2_312 lo9 zo9 sp9 sc9 c9 (by omega) (by omega) (by omega) hw_312 iglo igzo) (cwV 3 F.2.2.2.2.1 gX10_works_X10_sumOf rfl rfl rfl (by decide +kernel) ⟨Nat.le_of_ble_eq_true rfl, Nat.le_of_ble_eq_true rfl⟩) rfl rfl [0, 9, 7, 8, 10, 11] [1, 2, 3, 4, 5, 6] [6, 0, 1, 2, 3, 4, 5, 8, 9, 7, 10, 11] rfl rfl (by decide) (by decide) (by decide) (fun _ => rfl) (by decide) rfl (Nat.le_of_ble_eq_true rfl) dX10_works_321 ⟨Nat.le_of_ble_eq_true rfl, Nat.le_of_ble_eq_true rfl⟩ (fun z321 u321 h321 => ?_)
                                  obtain ⟨sp2_321, sc2_321⟩ := u321
                                  try dsimp only at h321
                                  refine x_ws [(qO, .inr (10, [.int (jI vO_blocks), .ref qO_stones, .ref qO_laid, .ref qO_deep, .int (jI vO_placings), .ref qO_placed, .int (jI vO_mortars), .ref qO_put, .ref qO_rates, .int (jI vO_limit), .int (jI vO_looks), .ref qO_seen, .ref qO_text, .int (jI vO_texted), .int (jI vO_faultPlace), .int (jI vO_clauses), .ref qO_rule, .ref qO_fresh, .int (jI vO_lots), .ref qO_stocks, .ref qO_row, .ref qO_dangers, .ref qO_losses, .long (jL vO_upper), .long (jL vO_lower), .ref qO_habitUpper, .ref qO_habitLower, .int (jI vO_at), .long (jL vO_word), .int (jI vO_wordEnd), .ref qO_chosen, .ref qO_lost, .ref qO_zones, .ref qO_way, .ref qO_spent, .ref qO_scaffolds])), aI kI qO_stones 30 fO_stones, aI kI qO_laid 30 fO_laid, aI kI qO_rates 64 fO_rates, aI kI qO_placed 300 fO_placed, aI kI qO_put 180 fO_put, aI kI qO_chosen 6 ch9, aI kI qO_lost 30 lo9, aI kI qO_zones 30 zo9, aI kI qO_way 6 w2_312, aI kI qO_spent 4 sp2_321, aI kI qO_scaffolds 4 sc2_321] rfl ?_
                                  have he321 := h321
                                  have he321 := he321.symm
                                  subst he321
                                  refine x_istore (lv' := [(0, .ref qO), (1, .int (jI set)), (2, .int (jI year)), (3, .int (jI n)), (4, .int (jI coin)), (5, .int (jI b)), (6, .int (jI mn9)), (9, .int (jI as9)), (10, .int (jI wy9)), (11, .int (jI be9)), (12, .int (jI le9)), (13, .int (jI c9)), (14, .int (jI (wV (ocs lo9) (ozn zo9) (ong lo9 n) n coin mn9 c9)))]) F dX10_works_324 (by decide) [1, 2, 3, 4, 5, 6, 7, 8, 9, 10, 11, 12, 0] rfl ?_
                                  have jn346 : ∀ (be8 : Int) (le8 : Int) (hbe8 : be8 = bsI (wV (ocs lo9) (ozn zo9) (ong lo9 n) n coin mn9) (c9 + 1)) (hle8 : le8 = lsI (wV (ocs lo9) (ozn zo9) (ong lo9 n) n coin mn9) (c9 + 1)), xG D p l e (xRm 5 129 0 0) s m args below meth c 15 A Q 0 0 [(qO, .inr (10, [.int (jI vO_blocks), .ref qO_stones, .ref qO_laid, .ref qO_deep, .int (jI vO_placings), .ref qO_placed, .int (jI vO_mortars), .ref qO_put, .ref qO_rates, .int (jI vO_limit), .int (jI vO_looks), .ref qO_seen, .ref qO_text, .int (jI vO_texted), .int (jI vO_faultPlace), .int (jI vO_clauses), .ref qO_rule, .ref qO_fresh, .int (jI vO_lots), .ref qO_stocks, .ref qO_row, .ref qO_dangers, .ref qO_losses, .long (jL vO_upper), .long (jL vO_lower), .ref qO_habitUpper, .ref qO_habitLower, .int (jI vO_at), .long (jL vO_word), .int (jI vO_wordEnd), .ref qO_chosen, .ref qO_lost, .ref qO_zones, .ref qO_way, .ref qO_spent, .ref qO_scaffolds])), aI kI qO_stones 30 fO_stones, aI kI qO_laid 30 fO_laid, aI kI qO_rates 64 fO_rates, aI kI qO_placed 300 fO_placed, aI kI qO_put 180 fO_put, aI kI qO_chosen 6 ch9, aI kI qO_lost 30 lo9, aI kI qO_zones 30 zo9, aI kI qO_way 6 w2_312, aI kI qO_spent 4 sp2_321, aI kI qO_scaffolds 4 sc2_321] [(0, .ref qO), (1, .int (jI set)), (2, .int (jI year)), (3, .int (jI n)), (4, .int (jI coin)), (5, .int (jI b)), (6, .int (jI mn9)), (9, .int (jI as9)), (10, .int (jI wy9)), (11, .int (jI be8)), (12, .int (jI le8)), (13, .int (jI c9))] 346 [] := by
                                    intro be8 le8 hbe8 hle8
                                    refine x_iinc (lv' := [(0, .ref qO), (1, .int (jI set)), (2, .int (jI year)), (3, .int (jI n)), (4, .int (jI coin)), (5, .int (jI b)), (6, .int (jI mn9)), (9, .int (jI as9)), (10, .int (jI wy9)), (11, .int (jI be8)), (12, .int (jI le8)), (13, .int (jI (c9 + 1)))]) (k := 11) F dX10_works_346 rfl (by decide) [1, 2, 3, 4, 5, 6, 7, 8, 9, 10, 11, 0] rfl ?_
                                    refine x_goto (tgt := 299) F dX10_works_349 (by decide) ?_
                                    exact ih299 be8 le8 (c9 + 1) w2_312 sp2_321 sc2_321 (by omega) hbe8 hle8 (by omega)
                                  refine x_iload F dX10_works_326 12 rfl ?_
                                  refine x_if_lt (tgt := 346) F dX10_works_328 (by decide) (by omega) (fun c328 => ?_) (fun c328 => ?_)
                                  · -- 328 t
                                    refine x_lv (lv' := [(0, .ref qO), (1, .int (jI set)), (2, .int (jI year)), (3, .int (jI n)), (4, .int (jI coin)), (5, .int (jI b)), (6, .int (jI mn9)), (9, .int (jI as9)), (10, .int (jI wy9)), (11, .int (jI be9)), (12, .int (jI le9)), (13, .int (jI c9))]) [0, 1, 2, 3, 4, 5, 6, 7, 8, 9, 10, 11] rfl ?_
                                    exact jn346 be9 le9 (by rw [hst.2]; first | (rw [if_pos (by omega)]) | (rw [if_neg (by omega)]; exact hbe)) (by rw [hst.1]; first | (rw [if_pos (by omega)]) | (rw [if_neg (by omega)]; exact hle))
                                  · -- 328 f
                                    refine x_iload F dX10_works_331 12 rfl ?_
                                    refine x_iload F dX10_works_333 10 rfl ?_
                                    refine x_icmp_ge (tgt := 346) F dX10_works_335 (by decide) (by omega) (fun c335 => ?_) (fun c335 => ?_)
                                    · -- 335 t
                                      refine x_lv (lv' := [(0, .ref qO), (1, .int (jI set)), (2, .int (jI year)), (3, .int (jI n)), (4, .int (jI coin)), (5, .int (jI b)), (6, .int (jI mn9)), (9, .int (jI as9)), (10, .int (jI wy9)), (11, .int (jI be9)), (12, .int (jI le9)), (13, .int (jI c9))]) [0, 1, 2, 3, 4, 5, 6, 7, 8, 9, 10, 11] rfl ?_
                                      exact jn346 be9 le9 (by rw [hst.2]; first | (rw [if_pos (by omega)]) | (rw [if_neg (by omega)]; exact hbe)) (by rw [hst.1]; first | (rw [if_pos (by omega)]) | (rw [if_neg (by omega)]; exact hle))
                                    · -- 335 f
                                      refine x_iload F dX10_works_338 11 rfl ?_
                                      refine x_istore (lv' := [(0, .ref qO), (1, .int (jI set)), (2, .int (jI year)), (3, .int (jI n)), (4, .int (jI coin)), (5, .int (jI b)), (6, .int (jI mn9)), (9, .int (jI as9)), (10, .int (jI wy9)), (11, .int (jI c9)), (12, .int (jI le9)), (13, .int (jI c9)), (14, .int (jI (wV (ocs lo9) (ozn zo9) (ong lo9 n) n coin mn9 c9)))]) F dX10_works_340 (by decide) [1, 2, 3, 4, 5, 6, 7, 8, 9, 0, 10, 11, 12] rfl ?_
                                      refine x_iload F dX10_works_342 12 rfl ?_
                                      refine x_istore (lv' := [(0, .ref qO), (1, .int (jI set)), (2, .int (jI year)), (3, .int (jI n)), (4, .int (jI coin)), (5, .int (jI b)), (6, .int (jI mn9)), (9, .int (jI as9)), (10, .int (jI wy9)), (11, .int (jI c9)), (12, .int (jI (wV (ocs lo9) (ozn zo9) (ong lo9 n) n coin mn9 c9))), (13, .int (jI c9)), (14, .int (jI (wV (ocs lo9) (ozn zo9) (ong lo9 n) n coin mn9 c9)))]) F dX10_works_344 (by decide) [1, 2, 3, 4, 5, 6, 7, 8, 9, 10, 0, 11, 12] rfl ?_
                                      refine x_lv (lv' := [(0, .ref qO), (1, .int (jI set)), (2, .int (jI year)), (3, .int (jI n)), (4, .int (jI coin)), (5, .int (jI b)), (6, .int (jI mn9)), (9, .int (jI as9)), (10, .int (jI wy9)), (11, .int (jI c9)), (12, .int (jI (wV (ocs lo9) (ozn zo9) (ong lo9 n) n coin mn9 c9))), (13, .int (jI c9))]) [0, 1, 2, 3, 4, 5, 6, 7, 8, 9, 10, 11] rfl ?_
                                      exact jn346 c9 (wV (ocs lo9) (ozn zo9) (ong lo9 n) n coin mn9 c9) (by rw [hst.2]; first | (rw [if_pos (by omega)]) | (rw [if_neg (by omega)]; exact hbe)) (by rw [hst.1]; first | (rw [if_pos (by omega)]) | (rw [if_neg (by omega)]; exact hle))
                            exact lp299 (Int.toNat (wy9 - 0) + 1) (-1) 1000000000 0 fO_way fO_spent fO_scaffolds (by omega) rfl rfl (by omega)
                          · -- 271 f
                            refine x_iload F dX10_works_274 8 rfl ?_
                            refine x_iload_n F dX10_works_276 rfl 3 rfl ?_
                            refine x_iconst F dX10_works_277 ?_
                            refine x_iadd F dX10_works_278 ?_
                            refine x_imul F dX10_works_279 ?_
                            refine x_istore (lv' := [(0, .ref qO), (1, .int (jI set)), (2, .int (jI year)), (3, .int (jI n)), (4, .int (jI coin)), (5, .int (jI b)), (6, .int (jI mn9)), (9, .int (jI as9)), (10, .int (jI (wy9 * (n + 1)))), (11, .int (jI j9))]) F dX10_works_280 (by decide) [1, 2, 3, 4, 5, 6, 7, 8, 0, 9] rfl ?_
                            refine x_iinc (lv' := [(0, .ref qO), (1, .int (jI set)), (2, .int (jI year)), (3, .int (jI n)), (4, .int (jI coin)), (5, .int (jI b)), (6, .int (jI mn9)), (9, .int (jI as9)), (10, .int (jI (wy9 * (n + 1)))), (11, .int (jI (j9 + 1)))]) (k := 9) F dX10_works_282 rfl (by decide) [1, 2, 3, 4, 5, 6, 7, 8, 9, 0] rfl ?_
                            refine x_goto (tgt := 267) F dX10_works_285 (by decide) ?_
                            exact ih267 (wy9 * (n + 1)) (j9 + 1) (by omega) (by rw [show (j9 + 1).toNat = j9.toNat + 1 by omega, hwy]; rfl) (by omega)
                      exact lp267 (Int.toNat (mn9 - 0) + 1) 1 0 (by omega) rfl (by omega)
                    · -- 154 f
                      have hms9 := sm_s (f := btA set) hk9.1
                      have hmk9 := hm30 k9 hk9.1 (by omega)
                      have hmk8 := hm30 (k9 + 1) (by omega) (by omega)
                      have hbr9 := btA_rng set k9
                      have hbt1 : btA set k9 = set / 2 ^ k9.toNat % 2 := rfl
                      have jn255 : ∀ (mn8 : Int) (as8 : Int) (ch8 : (Int → Int)) (lo8 : (Int → Int)) (zo8 : (Int → Int)) (im8 : mn8 = sm (btA set) (k9 + 1)) (iinv8 : ∀ x : Int, 0 ≤ x → x < (k9 + 1) → btA set x = 1 → ∀ y : Int, 0 ≤ y → y ≤ n → lo8 (5 * sm (btA set) x + y) = (fun b9 y9 => (lS (oLoss fO_rates (fO_stones b9) fO_placed vO_placings fO_put vO_mortars b9) (fO_laid b9)) y9) x (year + y) ∧ zo8 (5 * sm (btA set) x + y) = (fun b9 y9 => oPl fO_placed b9 y9 vO_placings 4) x (year + y)) (ias8 : 0 ≤ b ∧ b < k9 + 1 → as8 = sm (btA set) b) (iar8 : -1 ≤ as8 ∧ as8 ≤ 5) (iglo8 : Rg lo8 30 0 40000) (igzo8 : Rg zo8 30 0 7), xG D p l e (xRm 5 129 0 0) s m args below meth c 15 A Q 0 0 [(qO, .inr (10, [.int (jI vO_blocks), .ref qO_stones, .ref qO_laid, .ref qO_deep, .int (jI vO_placings), .ref qO_placed, .int (jI vO_mortars), .ref qO_put, .ref qO_rates, .int (jI vO_limit), .int (jI vO_looks), .ref qO_seen, .ref qO_text, .int (jI vO_texted), .int (jI vO_faultPlace), .int (jI vO_clauses), .ref qO_rule, .ref qO_fresh, .int (jI vO_lots), .ref qO_stocks, .ref qO_row, .ref qO_dangers, .ref qO_losses, .long (jL vO_upper), .long (jL vO_lower), .ref qO_habitUpper, .ref qO_habitLower, .int (jI vO_at), .long (jL vO_word), .int (jI vO_wordEnd), .ref qO_chosen, .ref qO_lost, .ref qO_zones, .ref qO_way, .ref qO_spent, .ref qO_scaffolds])), aI kI qO_stones 30 fO_stones, aI kI qO_laid 30 fO_laid, aI kI qO_rates 64 fO_rates, aI kI qO_placed 300 fO_placed, aI kI qO_put 180 fO_put, aI kI qO_chosen 6 ch8, aI kI qO_lost 30 lo8, aI kI qO_zones 30 zo8, aI kI qO_way 6 fO_way, aI kI qO_spent 4 fO_spent, aI kI qO_scaffolds 4 fO_scaffolds] [(0, .ref qO), (1, .int (jI set)), (2, .int (jI year)), (3, .int (jI n)), (4, .int (jI coin)), (5, .int (jI b)), (6, .int (jI mn8)), (9, .int (jI as8)), (10, .int (jI k9))] 255 [] := by
                        intro mn8 as8 ch8 lo8 zo8 im8 iinv8 ias8 iar8 iglo8 igzo8
                        refine x_iinc (lv' := [(0, .ref qO), (1, .int (jI set)), (2, .int (jI year)), (3, .int (jI n)), (4, .int (jI coin)), (5, .int (jI b)), (6, .int (jI mn8)), (9, .int (jI as8)), (10, .int (jI (k9 + 1)))]) (k := 8) F dX10_works_255 rfl (by decide) [1, 2, 3, 4, 5, 6, 7, 8, 0] rfl ?_
                        refine x_goto (tgt := 148) F dX10_works_258 (by decide) ?_
                        exact ih148 mn8 as8 (k9 + 1) ch8 lo8 zo8 (by omega) im8 iinv8 ias8 (by omega) iglo8 igzo8 (by omega)
                      refine x_iload_n F dX10_works_157 rfl 1 rfl ?_
                      refine x_iload F dX10_works_158 8 rfl ?_
                      refine x_ishr F ((set) / 2 ^ (k9).toNat) dX10_works_160 (sh_s (by omega) (by omega)) ?_
                      refine x_iconst F dX10_works_161 ?_
                      refine x_iand F ((((set) / 2 ^ (k9).toNat)) % 2) dX10_works_162 (an_1 _) ?_
                      refine x_iconst F dX10_works_163 ?_
                      refine x_icmp_ne (tgt := 255) F dX10_works_164 (by decide) (by omega) (fun c164 => ?_) (fun c164 => ?_)
                      · -- 164 t
                        have hb0 : ¬ btA set k9 = 1 := by omega
                        exact jn255 mn9 as9 ch9 lo9 zo9 (by omega) (fun x x0 x1 hx => iinv x x0 (by by_cases e : x = k9; (rw [e] at hx; exact absurd hx hb0); omega) hx) (fun q => by by_cases e : b = k9; (exact absurd (hbb9) (fun z => z ⟨q.1, by rw [e]; omega⟩)); (exact ias (by omega))) iar iglo igzo
                      · -- 164 f
                        have hb1 : btA set k9 = 1 := by omega
                        refine x_aload_n F dX10_works_167 rfl 0 rfl ?_
                        refine x_get (ci := 10) F hin10 0 rfl rfl 30 (by decide) hw3 rfl dX10_works_168 ?_
                        refine x_iload F dX10_works_171 6 rfl ?_
                        refine x_iload F dX10_works_173 8 rfl ?_
                        refine x_iast F 6 rfl (by decide) (by omega) dX10_works_175 [(qO, .inr (10, [.int (jI vO_blocks), .ref qO_stones, .ref qO_laid, .ref qO_deep, .int (jI vO_placings), .ref qO_placed, .int (jI vO_mortars), .ref qO_put, .ref qO_rates, .int (jI vO_limit), .int (jI vO_looks), .ref qO_seen, .ref qO_text, .int (jI vO_texted), .int (jI vO_faultPlace), .int (jI vO_clauses), .ref qO_rule, .ref qO_fresh, .int (jI vO_lots), .ref qO_stocks, .ref qO_row, .ref qO_dangers, .ref qO_losses, .long (jL vO_upper), .long (jL vO_lower), .ref qO_habitUpper, .ref qO_habitLower, .int (jI vO_at), .long (jL vO_word), .int (jI vO_wordEnd), .ref qO_chosen, .ref qO_lost, .ref qO_zones, .ref qO_way, .ref qO_spent, .ref qO_scaffolds])), aI kI qO_stones 30 fO_stones, aI kI qO_laid 30 fO_laid, aI kI qO_rates 64 fO_rates, aI kI qO_placed 300 fO_placed, aI kI qO_put 180 fO_put, aI kI qO_chosen 6 (iU ch9 mn9 k9), aI kI qO_lost 30 lo9, aI kI qO_zones 30 zo9, aI kI qO_way 6 fO_way, aI kI qO_spent 4 fO_spent, aI kI qO_scaffolds 4 fO_scaffolds] rfl ?_
                        refine x_iconst F dX10_works_176 ?_
                        refine x_istore (lv' := [(0, .ref qO), (1, .int (jI set)), (2, .int (jI year)), (3, .int (jI n)), (4, .int (jI coin)), (5, .int (jI b)), (6, .int (jI mn9)), (9, .int (jI as9)), (10, .int (jI k9)), (11, .int (jI 0))]) F dX10_works_177 (by decide) [1, 2, 3, 4, 5, 6, 7, 8, 9, 0] rfl ?_
                        have lp179 : ∀ (fu : Nat) (y9 : Int) (lo7 : (Int → Int)) (zo7 : (Int → Int)) (hy9 : 0 ≤ y9 ∧ y9 ≤ n + 1) (jin : ∀ y : Int, 0 ≤ y → y < y9 → lo7 (5 * mn9 + y) = (fun b9 y9 => (lS (oLoss fO_rates (fO_stones b9) fO_placed vO_placings fO_put vO_mortars b9) (fO_laid b9)) y9) k9 (year + y) ∧ zo7 (5 * mn9 + y) = (fun b9 y9 => oPl fO_placed b9 y9 vO_placings 4) k9 (year + y)) (jfr : ∀ x : Int, x < 5 * mn9 → lo7 x = lo9 x ∧ zo7 x = zo9 x) (jgl : Rg lo7 30 0 40000) (jgz : Rg zo7 30 0 7) (hm : n + 1 - y9 < (fu : Int)), xG D p l e (xRm 5 129 0 0) s m args below meth c 15 A Q 0 0 [(qO, .inr (10, [.int (jI vO_blocks), .ref qO_stones, .ref qO_laid, .ref qO_deep, .int (jI vO_placings), .ref qO_placed, .int (jI vO_mortars), .ref qO_put, .ref qO_rates, .int (jI vO_limit), .int (jI vO_looks), .ref qO_seen, .ref qO_text, .int (jI vO_texted), .int (jI vO_faultPlace), .int (jI vO_clauses), .ref qO_rule, .ref qO_fresh, .int (jI vO_lots), .ref qO_stocks, .ref qO_row, .ref qO_dangers, .ref qO_losses, .long (jL vO_upper), .long (jL vO_lower), .ref qO_habitUpper, .ref qO_habitLower, .int (jI vO_at), .long (jL vO_word), .int (jI vO_wordEnd), .ref qO_chosen, .ref qO_lost, .ref qO_zones, .ref qO_way, .ref qO_spent, .ref qO_scaffolds])), aI kI qO_stones 30 fO_stones, aI kI qO_laid 30 fO_laid, aI kI qO_rates 64 fO_rates, aI kI qO_placed 300 fO_placed, aI kI qO_put 180 fO_put, aI kI qO_chosen 6 (iU ch9 mn9 k9), aI kI qO_lost 30 lo7, aI kI qO_zones 30 zo7, aI kI qO_way 6 fO_way, aI kI qO_spent 4 fO_spent, aI kI qO_scaffolds 4 fO_scaffolds] [(0, .ref qO), (1, .int (jI set)), (2, .int (jI year)), (3, .int (jI n)), (4, .int (jI coin)), (5, .int (jI b)), (6, .int (jI mn9)), (9, .int (jI as9)), (10, .int (jI k9)), (11, .int (jI y9))] 179 [] := by
                          intro fu
                          induction fu with
                          | zero =>
                            intro y9 lo7 zo7 hy9 jin jfr jgl jgz hm
                            exact absurd hm (by omega)
                          | succ fu ih179 =>
                            intro y9 lo7 zo7 hy9 jin jfr jgl jgz hm
                            refine x_iload F dX10_works_179 9 rfl ?_
                            refine x_iload_n F dX10_works_181 rfl 3 rfl ?_
                            refine x_icmp_gt (tgt := 236) F dX10_works_182 (by decide) (by omega) (fun c182 => ?_) (fun c182 => ?_)
                            · -- 182 t
                              have jn250 : ∀ (a8 : Int) (ha8 : (b = k9 → a8 = mn9) ∧ (¬ b = k9 → a8 = as9)), xG D p l e (xRm 5 129 0 0) s m args below meth c 15 A Q 0 0 [(qO, .inr (10, [.int (jI vO_blocks), .ref qO_stones, .ref qO_laid, .ref qO_deep, .int (jI vO_placings), .ref qO_placed, .int (jI vO_mortars), .ref qO_put, .ref qO_rates, .int (jI vO_limit), .int (jI vO_looks), .ref qO_seen, .ref qO_text, .int (jI vO_texted), .int (jI vO_faultPlace), .int (jI vO_clauses), .ref qO_rule, .ref qO_fresh, .int (jI vO_lots), .ref qO_stocks, .ref qO_row, .ref qO_dangers, .ref qO_losses, .long (jL vO_upper), .long (jL vO_lower), .ref qO_habitUpper, .ref qO_habitLower, .int (jI vO_at), .long (jL vO_word), .int (jI vO_wordEnd), .ref qO_chosen, .ref qO_lost, .ref qO_zones, .ref qO_way, .ref qO_spent, .ref qO_scaffolds])), aI kI qO_stones 30 fO_stones, aI kI qO_laid 30 fO_laid, aI kI qO_rates 64 fO_rates, aI kI qO_placed 300 fO_placed, aI kI qO_put 180 fO_put, aI kI qO_chosen 6 (iU ch9 mn9 k9), aI kI qO_lost 30 lo7, aI kI qO_zones 30 zo7, aI kI qO_way 6 fO_way, aI kI qO_spent 4 fO_spent, aI kI qO_scaffolds 4 fO_scaffolds] [(0, .ref qO), (1, .int (jI set)), (2, .int (jI year)), (3, .int (jI n)), (4, .int (jI coin)), (5, .int (jI b)), (6, .int (jI mn9)), (9, .int (jI as9)), (10, .int (jI k9)), (11, .int (jI y9))] 250 [.int (jI a8)] := by
                                intro a8 ha8
                                have hinv8 : ∀ x : Int, 0 ≤ x → x < (k9 + 1) → btA set x = 1 → ∀ y : Int, 0 ≤ y → y ≤ n → lo7 (5 * sm (btA set) x + y) = (fun b9 y9 => (lS (oLoss fO_rates (fO_stones b9) fO_placed vO_placings fO_put vO_mortars b9) (fO_laid b9)) y9) x (year + y) ∧ zo7 (5 * sm (btA set) x + y) = (fun b9 y9 => oPl fO_placed b9 y9 vO_placings 4) x (year + y) := fun x x0 x1 hx => by
                                  by_cases e : x = k9
                                  · rw [e, ← im9]
                                    exact fun y y0 y1 => jin y y0 (by omega)
                                  · have hsx := sm_s (f := btA set) x0
                                    have hle := sm_bt_le (set := set) (a := x + 1) (b := k9) (by omega)
                                    intro y y0 y1
                                    rw [(jfr _ (by omega)).1, (jfr _ (by omega)).2]
                                    exact iinv x x0 (by omega) hx y y0 y1
                                refine x_istore (lv' := [(0, .ref qO), (1, .int (jI set)), (2, .int (jI year)), (3, .int (jI n)), (4, .int (jI coin)), (5, .int (jI b)), (6, .int (jI mn9)), (9, .int (jI a8)), (10, .int (jI k9)), (11, .int (jI y9))]) F dX10_works_250 (by decide) [1, 2, 3, 4, 5, 6, 7, 0, 8, 9] rfl ?_
                                refine x_iinc (lv' := [(0, .ref qO), (1, .int (jI set)), (2, .int (jI year)), (3, .int (jI n)), (4, .int (jI coin)), (5, .int (jI b)), (6, .int (jI (mn9 + 1))), (9, .int (jI a8)), (10, .int (jI k9)), (11, .int (jI y9))]) (k := 6) F dX10_works_252 rfl (by decide) [1, 2, 3, 4, 5, 6, 0, 7, 8, 9] rfl ?_
                                refine x_lv (lv' := [(0, .ref qO), (1, .int (jI set)), (2, .int (jI year)), (3, .int (jI n)), (4, .int (jI coin)), (5, .int (jI b)), (6, .int (jI (mn9 + 1))), (9, .int (jI a8)), (10, .int (jI k9))]) [0, 1, 2, 3, 4, 5, 6, 7, 8] rfl ?_
                                exact jn255 (mn9 + 1) a8 (iU ch9 mn9 k9) lo7 zo7 (by omega) hinv8 (fun q => by by_cases e : b = k9; (rw [ha8.1 e, im9, e]); (rw [ha8.2 e]; exact ias (by omega))) (by by_cases e : b = k9; (rw [ha8.1 e]; omega); (rw [ha8.2 e]; omega)) jgl jgz
                              refine x_iload F dX10_works_236 8 rfl ?_
                              refine x_iload F dX10_works_238 5 rfl ?_
                              refine x_icmp_ne (tgt := 248) F dX10_works_240 (by decide) (by omega) (fun c240 => ?_) (fun c240 => ?_)
                              · -- 240 t
                                refine x_iload F dX10_works_248 7 rfl ?_
                                exact jn250 as9 (by omega)
                              · -- 240 f
                                refine x_iload F dX10_works_243 6 rfl ?_
                                refine x_goto (tgt := 250) F dX10_works_245 (by decide) ?_
                                exact jn250 mn9 (by omega)
                            · -- 182 f
                              have hlr9 := lS_rng (loss := (oLoss fO_rates (fO_stones k9) fO_placed vO_placings fO_put vO_mortars k9)) (laid := fO_laid k9) (n := 401) (oLoss_rng hOra (Rg.at hOst k9 (by omega)) hOp hOm hOp2 hOp3 hOm2 401) (y := year + y9) (by omega) (by omega)
                              have hzr9 := oPl_rng (b := k9) (y := year + y9) hOp hOp4 (by omega)
                              refine x_aload_n F dX10_works_185 rfl 0 rfl ?_
                              refine x_get (ci := 10) F hin10 0 rfl rfl 31 (by decide) hw4 rfl dX10_works_186 ?_
                              refine x_iconst F dX10_works_189 ?_
                              refine x_iload F dX10_works_190 6 rfl ?_
                              refine x_imul F dX10_works_192 ?_
                              refine x_iload F dX10_works_193 9 rfl ?_
                              refine x_iadd F dX10_works_195 ?_
                              refine x_aload_n F dX10_works_196 rfl 0 rfl ?_
                              refine x_iload F dX10_works_197 8 rfl ?_
                              refine x_iload_n F dX10_works_199 rfl 2 rfl ?_
                              refine x_iload F dX10_works_200 9 rfl ?_
                              refine x_iadd F dX10_works_202 ?_
                              refine x_callVi (ci := 10) (q0 := 0) (As := [.int (jI k9), .int (jI (year + y9))]) (st := [.int (jI ((5 * mn9) + y9)), .ref qO_lost]) F (c_X10_lostAt D kI kJ l qO k9 (year + y9) vO_blocks qO_stones qO_laid qO_deep vO_placings qO_placed vO_mortars qO_put qO_rates vO_limit vO_looks qO_seen qO_text vO_texted vO_faultPlace vO_clauses qO_rule qO_fresh vO_lots qO_stocks qO_row qO_dangers qO_losses vO_upper vO_lower qO_habitUpper qO_habitLower vO_at vO_word vO_wordEnd qO_chosen qO_lost qO_zones qO_way qO_spent qO_scaffolds fO_stones fO_laid fO_rates fO_placed fO_put (by omega) (by omega) hOst hOla hOra hOp hOpr hOp2 hOp3 hOp4 hOm hOmr hOm2) (cwV 2 F.2.2.2.2.1 gX10_works_X10_lostAt rfl rfl rfl (by decide +kernel) ⟨Nat.le_of_ble_eq_true rfl, Nat.le_of_ble_eq_true rfl⟩) rfl rfl [0, 1, 2, 3, 4, 5] [6, 7, 8, 9, 10, 11] [6, 7, 8, 9, 10, 11, 0, 1, 2, 3, 4, 5] rfl rfl (by decide) (by decide) (by decide) (fun _ => rfl) (by decide) rfl (Nat.le_of_ble_eq_true rfl) dX10_works_203 ⟨Nat.le_of_ble_eq_true rfl, Nat.le_of_ble_eq_true rfl⟩ (fun z203 u203 h203 => ?_)
                              try dsimp only at h203
                              refine x_ws [(qO, .inr (10, [.int (jI vO_blocks), .ref qO_stones, .ref qO_laid, .ref qO_deep, .int (jI vO_placings), .ref qO_placed, .int (jI vO_mortars), .ref qO_put, .ref qO_rates, .int (jI vO_limit), .int (jI vO_looks), .ref qO_seen, .ref qO_text, .int (jI vO_texted), .int (jI vO_faultPlace), .int (jI vO_clauses), .ref qO_rule, .ref qO_fresh, .int (jI vO_lots), .ref qO_stocks, .ref qO_row, .ref qO_dangers, .ref qO_losses, .long (jL vO_upper), .long (jL vO_lower), .ref qO_habitUpper, .ref qO_habitLower, .int (jI vO_at), .long (jL vO_word), .int (jI vO_wordEnd), .ref qO_chosen, .ref qO_lost, .ref qO_zones, .ref qO_way, .ref qO_spent, .ref qO_scaffolds])), aI kI qO_stones 30 fO_stones, aI kI qO_laid 30 fO_laid, aI kI qO_rates 64 fO_rates, aI kI qO_placed 300 fO_placed, aI kI qO_put 180 fO_put, aI kI qO_chosen 6 (iU ch9 mn9 k9), aI kI qO_lost 30 lo7, aI kI qO_zones 30 zo7, aI kI qO_way 6 fO_way, aI kI qO_spent 4 fO_spent, aI kI qO_scaffolds 4 fO_scaffolds] rfl ?_
                              have he203 := h203
                              have he203 := he203.symm
                              subst he203
                              refine x_iast F 7 rfl (by decide) (by omega) dX10_works_206 [(qO, .inr (10, [.int (jI vO_blocks), .ref qO_stones, .ref qO_laid, .ref qO_deep, .int (jI vO_placings), .ref qO_placed, .int (jI vO_mortars), .ref qO_put, .ref qO_rates, .int (jI vO_limit), .int (jI vO_looks), .ref qO_seen, .ref qO_text, .int (jI vO_texted), .int (jI vO_faultPlace), .int (jI vO_clauses), .ref qO_rule, .ref qO_fresh, .int (jI vO_lots), .ref qO_stocks, .ref qO_row, .ref qO_dangers, .ref qO_losses, .long (jL vO_upper), .long (jL vO_lower), .ref qO_habitUpper, .ref qO_habitLower, .int (jI vO_at), .long (jL vO_word), .int (jI vO_wordEnd), .ref qO_chosen, .ref qO_lost, .ref qO_zones, .ref qO_way, .ref qO_spent, .ref qO_scaffolds])), aI kI qO_stones 30 fO_stones, aI kI qO_laid 30 fO_laid, aI kI qO_rates 64 fO_rates, aI kI qO_placed 300 fO_placed, aI kI qO_put 180 fO_put, aI kI qO_chosen 6 (iU ch9 mn9 k9), aI kI qO_lost 30 (iU lo7 ((5 * mn9) + y9) ((lS (oLoss fO_rates (fO_stones k9) fO_placed vO_placings fO_put vO_mortars k9) (fO_laid k9)) (year + y9))), aI kI qO_zones 30 zo7, aI kI qO_way 6 fO_way, aI kI qO_spent 4 fO_spent, aI kI qO_scaffolds 4 fO_scaffolds] rfl ?_
                              refine x_aload_n F dX10_works_207 rfl 0 rfl ?_
                              refine x_get (ci := 10) F hin10 0 rfl rfl 32 (by decide) hw5 rfl dX10_works_208 ?_
                              refine x_iconst F dX10_works_211 ?_
                              refine x_iload F dX10_works_212 6 rfl ?_
                              refine x_imul F dX10_works_214 ?_
                              refine x_iload F dX10_works_215 9 rfl ?_
                              refine x_iadd F dX10_works_217 ?_
                              refine x_aload_n F dX10_works_218 rfl 0 rfl ?_
                              refine x_iload F dX10_works_219 8 rfl ?_
                              refine x_iload_n F dX10_works_221 rfl 2 rfl ?_
                              refine x_iload F dX10_works_222 9 rfl ?_
                              refine x_iadd F dX10_works_224 ?_
                              refine x_iconst F dX10_works_225 ?_
                              refine x_callVi (ci := 10) (q0 := 0) (As := [.int (jI k9), .int (jI (year + y9)), .int (jI 4)]) (st := [.int (jI ((5 * mn9) + y9)), .ref qO_zones]) F (c_X10_placeOf D kI kJ l qO k9 (year + y9) 4 vO_blocks qO_stones qO_laid qO_deep vO_placings qO_placed vO_mortars qO_put qO_rates vO_limit vO_looks qO_seen qO_text vO_texted vO_faultPlace vO_clauses qO_rule qO_fresh vO_lots qO_stocks qO_row qO_dangers qO_losses vO_upper vO_lower qO_habitUpper qO_habitLower vO_at vO_word vO_wordEnd qO_chosen qO_lost qO_zones qO_way qO_spent qO_scaffolds fO_placed (by omega) (by omega) hOp hOpr (by omega)) (cwV 3 F.2.2.2.2.1 gX10_works_X10_placeOf rfl rfl rfl (by decide +kernel) ⟨Nat.le_of_ble_eq_true rfl, Nat.le_of_ble_eq_true rfl⟩) rfl rfl [0, 4] [1, 2, 3, 5, 6, 7, 8, 9, 10, 11] [10, 0, 1, 2, 11, 3, 4, 5, 6, 7, 8, 9] rfl rfl (by decide) (by decide) (by decide) (fun _ => rfl) (by decide) rfl (Nat.le_of_ble_eq_true rfl) dX10_works_226 ⟨Nat.le_of_ble_eq_true rfl, Nat.le_of_ble_eq_true rfl⟩ (fun z226 u226 h226 => ?_)
                              try dsimp only at h226
                              refine x_ws [(qO, .inr (10, [.int (jI vO_blocks), .ref qO_stones, .ref qO_laid, .ref qO_deep, .int (jI vO_placings), .ref qO_placed, .int (jI vO_mortars), .ref qO_put, .ref qO_rates, .int (jI vO_limit), .int (jI vO_looks), .ref qO_seen, .ref qO_text, .int (jI vO_texted), .int (jI vO_faultPlace), .int (jI vO_clauses), .ref qO_rule, .ref qO_fresh, .int (jI vO_lots), .ref qO_stocks, .ref qO_row, .ref qO_dangers, .ref qO_losses, .long (jL vO_upper), .long (jL vO_lower), .ref qO_habitUpper, .ref qO_habitLower, .int (jI vO_at), .long (jL vO_word), .int (jI vO_wordEnd), .ref qO_chosen, .ref qO_lost, .ref qO_zones, .ref qO_way, .ref qO_spent, .ref qO_scaffolds])), aI kI qO_stones 30 fO_stones, aI kI qO_laid 30 fO_laid, aI kI qO_rates 64 fO_rates, aI kI qO_placed 300 fO_placed, aI kI qO_put 180 fO_put, aI kI qO_chosen 6 (iU ch9 mn9 k9), aI kI qO_lost 30 (iU lo7 ((5 * mn9) + y9) ((lS (oLoss fO_rates (fO_stones k9) fO_placed vO_placings fO_put vO_mortars k9) (fO_laid k9)) (year + y9))), aI kI qO_zones 30 zo7, aI kI qO_way 6 fO_way, aI kI qO_spent 4 fO_spent, aI kI qO_scaffolds 4 fO_scaffolds] rfl ?_
                              have he226 := h226
                              have he226 := he226.symm
                              subst he226
                              refine x_iast F 8 rfl (by decide) (by omega) dX10_works_229 [(qO, .inr (10, [.int (jI vO_blocks), .ref qO_stones, .ref qO_laid, .ref qO_deep, .int (jI vO_placings), .ref qO_placed, .int (jI vO_mortars), .ref qO_put, .ref qO_rates, .int (jI vO_limit), .int (jI vO_looks), .ref qO_seen, .ref qO_text, .int (jI vO_texted), .int (jI vO_faultPlace), .int (jI vO_clauses), .ref qO_rule, .ref qO_fresh, .int (jI vO_lots), .ref qO_stocks, .ref qO_row, .ref qO_dangers, .ref qO_losses, .long (jL vO_upper), .long (jL vO_lower), .ref qO_habitUpper, .ref qO_habitLower, .int (jI vO_at), .long (jL vO_word), .int (jI vO_wordEnd), .ref qO_chosen, .ref qO_lost, .ref qO_zones, .ref qO_way, .ref qO_spent, .ref qO_scaffolds])), aI kI qO_stones 30 fO_stones, aI kI qO_laid 30 fO_laid, aI kI qO_rates 64 fO_rates, aI kI qO_placed 300 fO_placed, aI kI qO_put 180 fO_put, aI kI qO_chosen 6 (iU ch9 mn9 k9), aI kI qO_lost 30 (iU lo7 ((5 * mn9) + y9) ((lS (oLoss fO_rates (fO_stones k9) fO_placed vO_placings fO_put vO_mortars k9) (fO_laid k9)) (year + y9))), aI kI qO_zones 30 (iU zo7 ((5 * mn9) + y9) (oPl fO_placed k9 (year + y9) vO_placings 4)), aI kI qO_way 6 fO_way, aI kI qO_spent 4 fO_spent, aI kI qO_scaffolds 4 fO_scaffolds] rfl ?_
                              refine x_iinc (lv' := [(0, .ref qO), (1, .int (jI set)), (2, .int (jI year)), (3, .int (jI n)), (4, .int (jI coin)), (5, .int (jI b)), (6, .int (jI mn9)), (9, .int (jI as9)), (10, .int (jI k9)), (11, .int (jI (y9 + 1)))]) (k := 9) F dX10_works_230 rfl (by decide) [1, 2, 3, 4, 5, 6, 7, 8, 9, 0] rfl ?_
                              refine x_goto (tgt := 179) F dX10_works_233 (by decide) ?_
                              exact ih179 (y9 + 1) (iU lo7 ((5 * mn9) + y9) ((lS (oLoss fO_rates (fO_stones k9) fO_placed vO_placings fO_put vO_mortars k9) (fO_laid k9)) (year + y9))) (iU zo7 ((5 * mn9) + y9) (oPl fO_placed k9 (year + y9) vO_placings 4)) (by omega) (fun y y0 y1 => by by_cases e : y = y9; (rw [e, iU_s, iU_s]; exact ⟨rfl, rfl⟩); (rw [iU_n (by omega), iU_n (by omega)]; exact jin y y0 (by omega))) (fun x h => by rw [iU_n (by omega), iU_n (by omega)]; exact jfr x h) (Rg.up jgl _ _ (by omega)) (Rg.up jgz _ _ (by omega)) (by omega)
                        exact lp179 (Int.toNat (n + 1 - 0) + 1) 0 lo9 zo9 (by omega) (fun y y0 y1 => by omega) (fun x h => ⟨rfl, rfl⟩) iglo igzo (by omega)
                refine x_lv (lv' := [(0, .ref qO), (1, .int (jI set)), (2, .int (jI year)), (3, .int (jI n)), (4, .int (jI coin)), (5, .int (jI b)), (6, .int (jI 0)), (9, .int (jI (-1))), (10, .int (jI 0))]) [0, 1, 2, 3, 4, 5, 6, 9, 10] rfl ?_
                exact lp148 (Int.toNat (vO_blocks - 0) + 1) 0 (-1) 0 fO_chosen fO_lost fO_zones (by omega) ((sm_0 _).symm) (fun x x0 x1 => by omega) (fun q => by omega) (by omega) hOlo hOzo (by omega)
              refine x_iload F dX10_works_124 5 rfl ?_
              refine x_if_lt (tgt := 142) F dX10_works_126 (by decide) (by omega) (fun c126 => ?_) (fun c126 => ?_)
              · -- 126 t
                have hbb : ¬ (0 ≤ b ∧ btA set b = 0) := fun q => by omega
                exact jn142  c121 hbb
              · -- 126 f
                refine x_iload_n F dX10_works_129 rfl 1 rfl ?_
                refine x_iload F dX10_works_130 5 rfl ?_
                refine x_ishr F ((set) / 2 ^ (b).toNat) dX10_works_132 (sh_s (by omega) (by omega)) ?_
                refine x_iconst F dX10_works_133 ?_
                refine x_iand F ((((set) / 2 ^ (b).toNat)) % 2) dX10_works_134 (an_1 _) ?_
                refine x_if_ne (tgt := 142) F dX10_works_135 (by decide) (by omega) (fun c135 => ?_) (fun c135 => ?_)
                · -- 135 t
                  have hbb : ¬ (0 ≤ b ∧ btA set b = 0) := fun q => c135 q.2
                  exact jn142  c121 hbb
                · -- 135 f
                  have hout : ¬ ((0 < set ∧ set < 2 ^ vO_blocks.toNat) ∧ sm (btA set) 30 ≤ 6 ∧ (0 ≤ year ∧ year ≤ 396) ∧ (1 ≤ n ∧ n ≤ 4) ∧ (0 ≤ coin ∧ coin ≤ 1000) ∧ ¬ (0 ≤ b ∧ btA set b = 0)) := fun q => q.2.2.2.2.2 ⟨by omega, by show set / 2 ^ b.toNat % 2 = 0; omega⟩
                  refine x_sipush F dX10_works_138 (by decide) ?_
                  exact hret 0 0 141 _ (-1002) (fO_chosen, fO_lost, fO_zones, fO_way, fO_spent, fO_scaffolds) (Nat.le_of_ble_eq_true rfl) (Nat.le_of_ble_eq_true rfl) dX10_works_141 (by (try dsimp only); exact (⟨(wkA_out hkn9 hout).symm, hOlo, hOzo⟩))
          have hb30 : bi = sm (btA set) 30 := by rw [hbi, show k0 = 30 by omega]
          have hp30 := pw_30 hOb
          refine x_iload_n F dX10_works_52 rfl 1 rfl ?_
          refine x_if_le (tgt := 116) F dX10_works_53 (by decide) (by omega) (fun c53 => ?_) (fun c53 => ?_)
          · -- 53 t
            refine x_iconst F dX10_works_116 ?_
            refine x_lv (lv' := [(0, .ref qO), (1, .int (jI set)), (2, .int (jI year)), (3, .int (jI n)), (4, .int (jI coin)), (5, .int (jI b)), (6, .int (jI 0)), (7, .int (jI bi))]) [0, 1, 2, 3, 4, 5, 6, 7] rfl ?_
            exact jn117 0 (by first | exact xBool_t (by omega) | exact xBool_f (by omega))
          · -- 53 f
            refine x_iload_n F dX10_works_56 rfl 1 rfl ?_
            refine x_i2l F dX10_works_57 (by omega) ?_
            refine x_lconst F 1 dX10_works_58 (by decide) ?_
            refine x_aload_n F dX10_works_59 rfl 0 rfl ?_
            refine x_get (ci := 10) F hin10 0 rfl rfl 0 (by decide) hw0 rfl dX10_works_60 ?_
            refine x_lshl F (2 ^ (vO_blocks).toNat) dX10_works_63 (shlL (by omega)) ?_
            refine x_lcmp F dX10_works_64 (by omega) ?_
            refine x_if_ge (tgt := 116) F dX10_works_65 (by decide) (jC_rng _ _) (fun c65 => ?_) (fun c65 => ?_)
            · -- 65 t
              rw [jC_ge] at c65
              refine x_iconst F dX10_works_116 ?_
              refine x_lv (lv' := [(0, .ref qO), (1, .int (jI set)), (2, .int (jI year)), (3, .int (jI n)), (4, .int (jI coin)), (5, .int (jI b)), (6, .int (jI 0)), (7, .int (jI bi))]) [0, 1, 2, 3, 4, 5, 6, 7] rfl ?_
              exact jn117 0 (by first | exact xBool_t (by omega) | exact xBool_f (by omega))
            · -- 65 f
              rw [jC_ge] at c65
              refine x_iload F dX10_works_68 7 rfl ?_
              refine x_bipush F dX10_works_70 (by decide) ?_
              refine x_icmp_gt (tgt := 116) F dX10_works_72 (by decide) (by omega) (fun c72 => ?_) (fun c72 => ?_)
              · -- 72 t
                refine x_iconst F dX10_works_116 ?_
                refine x_lv (lv' := [(0, .ref qO), (1, .int (jI set)), (2, .int (jI year)), (3, .int (jI n)), (4, .int (jI coin)), (5, .int (jI b)), (6, .int (jI 0)), (7, .int (jI bi))]) [0, 1, 2, 3, 4, 5, 6, 7] rfl ?_
                exact jn117 0 (by first | exact xBool_t (by omega) | exact xBool_f (by omega))
              · -- 72 f
                refine x_iload_n F dX10_works_75 rfl 2 rfl ?_
                refine x_i2l F dX10_works_76 (by omega) ?_
                refine x_lconst F 0 dX10_works_77 (by decide) ?_
                refine x_ldc2 F 396 hw6 (by decide) dX10_works_78 ?_
                refine x_callSi (As := [.long (jL year), .long (jL 0), .long (jL 396)]) (st := []) F (c_X10_in D kI kJ l year 0 396 (by omega) (by omega) (by omega)) (va_cwS 3 F.2.2.2.2.1 gX10_works_X10_in rfl rfl rfl (by decide +kernel) ⟨Nat.le_of_ble_eq_true rfl, Nat.le_of_ble_eq_true rfl⟩) [] [0, 1, 2, 3, 4, 5, 6, 7, 8, 9, 10, 11] [0, 1, 2, 3, 4, 5, 6, 7, 8, 9, 10, 11] rfl rfl (by decide) (by decide) (by decide) (fun _ => rfl) (by decide) rfl (Nat.le_of_ble_eq_true rfl) dX10_works_81 ⟨Nat.le_of_ble_eq_true rfl, Nat.le_of_ble_eq_true rfl⟩ (fun z81 u81 h81 => ?_)
                try dsimp only at h81
                refine x_ws [(qO, .inr (10, [.int (jI vO_blocks), .ref qO_stones, .ref qO_laid, .ref qO_deep, .int (jI vO_placings), .ref qO_placed, .int (jI vO_mortars), .ref qO_put, .ref qO_rates, .int (jI vO_limit), .int (jI vO_looks), .ref qO_seen, .ref qO_text, .int (jI vO_texted), .int (jI vO_faultPlace), .int (jI vO_clauses), .ref qO_rule, .ref qO_fresh, .int (jI vO_lots), .ref qO_stocks, .ref qO_row, .ref qO_dangers, .ref qO_losses, .long (jL vO_upper), .long (jL vO_lower), .ref qO_habitUpper, .ref qO_habitLower, .int (jI vO_at), .long (jL vO_word), .int (jI vO_wordEnd), .ref qO_chosen, .ref qO_lost, .ref qO_zones, .ref qO_way, .ref qO_spent, .ref qO_scaffolds])), aI kI qO_stones 30 fO_stones, aI kI qO_laid 30 fO_laid, aI kI qO_rates 64 fO_rates, aI kI qO_placed 300 fO_placed, aI kI qO_put 180 fO_put, aI kI qO_chosen 6 fO_chosen, aI kI qO_lost 30 fO_lost, aI kI qO_zones 30 fO_zones, aI kI qO_way 6 fO_way, aI kI qO_spent 4 fO_spent, aI kI qO_scaffolds 4 fO_scaffolds] rfl ?_
                have hb81 := h81
                refine x_beq (tgt := 116) F dX10_works_84 (by decide) hb81 (fun c84 => ?_) (fun c84 => ?_)
                · -- 84 t
                  refine x_iconst F dX10_works_116 ?_
                  refine x_lv (lv' := [(0, .ref qO), (1, .int (jI set)), (2, .int (jI year)), (3, .int (jI n)), (4, .int (jI coin)), (5, .int (jI b)), (6, .int (jI 0)), (7, .int (jI bi))]) [0, 1, 2, 3, 4, 5, 6, 7] rfl ?_
                  exact jn117 0 (by first | exact xBool_t (by omega) | exact xBool_f (by omega))
                · -- 84 f
                  refine x_iload_n F dX10_works_87 rfl 3 rfl ?_
                  refine x_i2l F dX10_works_88 (by omega) ?_
                  refine x_lconst F 1 dX10_works_89 (by decide) ?_
                  refine x_ldc2 F 4 hw7 (by decide) dX10_works_90 ?_
                  refine x_callSi (As := [.long (jL n), .long (jL 1), .long (jL 4)]) (st := []) F (c_X10_in D kI kJ l n 1 4 (by omega) (by omega) (by omega)) (va_cwS 3 F.2.2.2.2.1 gX10_works_X10_in rfl rfl rfl (by decide +kernel) ⟨Nat.le_of_ble_eq_true rfl, Nat.le_of_ble_eq_true rfl⟩) [] [0, 1, 2, 3, 4, 5, 6, 7, 8, 9, 10, 11] [0, 1, 2, 3, 4, 5, 6, 7, 8, 9, 10, 11] rfl rfl (by decide) (by decide) (by decide) (fun _ => rfl) (by decide) rfl (Nat.le_of_ble_eq_true rfl) dX10_works_93 ⟨Nat.le_of_ble_eq_true rfl, Nat.le_of_ble_eq_true rfl⟩ (fun z93 u93 h93 => ?_)
                  try dsimp only at h93
                  refine x_ws [(qO, .inr (10, [.int (jI vO_blocks), .ref qO_stones, .ref qO_laid, .ref qO_deep, .int (jI vO_placings), .ref qO_placed, .int (jI vO_mortars), .ref qO_put, .ref qO_rates, .int (jI vO_limit), .int (jI vO_looks), .ref qO_seen, .ref qO_text, .int (jI vO_texted), .int (jI vO_faultPlace), .int (jI vO_clauses), .ref qO_rule, .ref qO_fresh, .int (jI vO_lots), .ref qO_stocks, .ref qO_row, .ref qO_dangers, .ref qO_losses, .long (jL vO_upper), .long (jL vO_lower), .ref qO_habitUpper, .ref qO_habitLower, .int (jI vO_at), .long (jL vO_word), .int (jI vO_wordEnd), .ref qO_chosen, .ref qO_lost, .ref qO_zones, .ref qO_way, .ref qO_spent, .ref qO_scaffolds])), aI kI qO_stones 30 fO_stones, aI kI qO_laid 30 fO_laid, aI kI qO_rates 64 fO_rates, aI kI qO_placed 300 fO_placed, aI kI qO_put 180 fO_put, aI kI qO_chosen 6 fO_chosen, aI kI qO_lost 30 fO_lost, aI kI qO_zones 30 fO_zones, aI kI qO_way 6 fO_way, aI kI qO_spent 4 fO_spent, aI kI qO_scaffolds 4 fO_scaffolds] rfl ?_
                  have hb93 := h93
                  refine x_beq (tgt := 116) F dX10_works_96 (by decide) hb93 (fun c96 => ?_) (fun c96 => ?_)
                  · -- 96 t
                    refine x_iconst F dX10_works_116 ?_
                    refine x_lv (lv' := [(0, .ref qO), (1, .int (jI set)), (2, .int (jI year)), (3, .int (jI n)), (4, .int (jI coin)), (5, .int (jI b)), (6, .int (jI 0)), (7, .int (jI bi))]) [0, 1, 2, 3, 4, 5, 6, 7] rfl ?_
                    exact jn117 0 (by first | exact xBool_t (by omega) | exact xBool_f (by omega))
                  · -- 96 f
                    refine x_iload F dX10_works_99 4 rfl ?_
                    refine x_i2l F dX10_works_101 (by omega) ?_
                    refine x_lconst F 0 dX10_works_102 (by decide) ?_
                    refine x_ldc2 F 1000 hw8 (by decide) dX10_works_103 ?_
                    refine x_callSi (As := [.long (jL coin), .long (jL 0), .long (jL 1000)]) (st := []) F (c_X10_in D kI kJ l coin 0 1000 (by omega) (by omega) (by omega)) (va_cwS 3 F.2.2.2.2.1 gX10_works_X10_in rfl rfl rfl (by decide +kernel) ⟨Nat.le_of_ble_eq_true rfl, Nat.le_of_ble_eq_true rfl⟩) [] [0, 1, 2, 3, 4, 5, 6, 7, 8, 9, 10, 11] [0, 1, 2, 3, 4, 5, 6, 7, 8, 9, 10, 11] rfl rfl (by decide) (by decide) (by decide) (fun _ => rfl) (by decide) rfl (Nat.le_of_ble_eq_true rfl) dX10_works_106 ⟨Nat.le_of_ble_eq_true rfl, Nat.le_of_ble_eq_true rfl⟩ (fun z106 u106 h106 => ?_)
                    try dsimp only at h106
                    refine x_ws [(qO, .inr (10, [.int (jI vO_blocks), .ref qO_stones, .ref qO_laid, .ref qO_deep, .int (jI vO_placings), .ref qO_placed, .int (jI vO_mortars), .ref qO_put, .ref qO_rates, .int (jI vO_limit), .int (jI vO_looks), .ref qO_seen, .ref qO_text, .int (jI vO_texted), .int (jI vO_faultPlace), .int (jI vO_clauses), .ref qO_rule, .ref qO_fresh, .int (jI vO_lots), .ref qO_stocks, .ref qO_row, .ref qO_dangers, .ref qO_losses, .long (jL vO_upper), .long (jL vO_lower), .ref qO_habitUpper, .ref qO_habitLower, .int (jI vO_at), .long (jL vO_word), .int (jI vO_wordEnd), .ref qO_chosen, .ref qO_lost, .ref qO_zones, .ref qO_way, .ref qO_spent, .ref qO_scaffolds])), aI kI qO_stones 30 fO_stones, aI kI qO_laid 30 fO_laid, aI kI qO_rates 64 fO_rates, aI kI qO_placed 300 fO_placed, aI kI qO_put 180 fO_put, aI kI qO_chosen 6 fO_chosen, aI kI qO_lost 30 fO_lost, aI kI qO_zones 30 fO_zones, aI kI qO_way 6 fO_way, aI kI qO_spent 4 fO_spent, aI kI qO_scaffolds 4 fO_scaffolds] rfl ?_
                    have hb106 := h106
                    refine x_beq (tgt := 116) F dX10_works_109 (by decide) hb106 (fun c109 => ?_) (fun c109 => ?_)
                    · -- 109 t
                      refine x_iconst F dX10_works_116 ?_
                      refine x_lv (lv' := [(0, .ref qO), (1, .int (jI set)), (2, .int (jI year)), (3, .int (jI n)), (4, .int (jI coin)), (5, .int (jI b)), (6, .int (jI 0)), (7, .int (jI bi))]) [0, 1, 2, 3, 4, 5, 6, 7] rfl ?_
                      exact jn117 0 (by first | exact xBool_t (by omega) | exact xBool_f (by omega))
                    · -- 109 f
                      refine x_iconst F dX10_works_112 ?_
                      refine x_goto (tgt := 117) F dX10_works_113 (by decide) ?_
                      refine x_lv (lv' := [(0, .ref qO), (1, .int (jI set)), (2, .int (jI year)), (3, .int (jI n)), (4, .int (jI coin)), (5, .int (jI b)), (6, .int (jI 0)), (7, .int (jI bi))]) [0, 1, 2, 3, 4, 5, 6, 7] rfl ?_
                      exact jn117 1 (by first | exact xBool_t (by omega) | exact xBool_f (by omega))
        · -- 32 f
          have hbt0 := btA_rng set k0
          have hbt1 : btA set k0 = set / 2 ^ k0.toNat % 2 := rfl
          refine x_iload F dX10_works_35 7 rfl ?_
          refine x_iload_n F dX10_works_37 rfl 1 rfl ?_
          refine x_iload F dX10_works_38 8 rfl ?_
          refine x_ishr F ((set) / 2 ^ (k0).toNat) dX10_works_40 (sh_s (by omega) (by omega)) ?_
          refine x_iconst F dX10_works_41 ?_
          refine x_iand F ((((set) / 2 ^ (k0).toNat)) % 2) dX10_works_42 (an_1 _) ?_
          refine x_iadd F dX10_works_43 ?_
          refine x_istore (lv' := [(0, .ref qO), (1, .int (jI set)), (2, .int (jI year)), (3, .int (jI n)), (4, .int (jI coin)), (5, .int (jI b)), (6, .int (jI 0)), (7, .int (jI (bi + ((((set) / 2 ^ (k0).toNat)) % 2)))), (8, .int (jI k0))]) F dX10_works_44 (by decide) [1, 2, 3, 4, 5, 6, 7, 0, 8] rfl ?_
          refine x_iinc (lv' := [(0, .ref qO), (1, .int (jI set)), (2, .int (jI year)), (3, .int (jI n)), (4, .int (jI coin)), (5, .int (jI b)), (6, .int (jI 0)), (7, .int (jI (bi + ((((set) / 2 ^ (k0).toNat)) % 2)))), (8, .int (jI (k0 + 1)))]) (k := 8) F dX10_works_46 rfl (by decide) [1, 2, 3, 4, 5, 6, 7, 8, 0] rfl ?_
          refine x_goto (tgt := 28) F dX10_works_49 (by decide) ?_
          exact ih28 (k0 + 1) (bi + ((((set) / 2 ^ (k0).toNat)) % 2)) (by omega) (by rw [sm_s hk0.1, ← hbi]; rfl) (by omega) (by omega)
    exact lp28 (Int.toNat (30 - 0) + 1) 0 0 (by omega) ((sm_0 _).symm) (by omega) (by omega)
  refine x_iload F dX10_works_0 5 rfl ?_
  refine x_iconst F dX10_works_2 ?_
  refine x_icmp_eq (tgt := 19) F dX10_works_3 (by decide) (by omega) (fun c3 => ?_) (fun c3 => ?_)
  · -- 3 t
    have hkn : ¬ (¬ b = -1 ∧ ¬ (0 ≤ b ∧ b < vO_blocks)) := fun q => q.1 c3
    exact jn19  hkn
  · -- 3 f
    refine x_aload_n F dX10_works_6 rfl 0 rfl ?_
    refine x_iload F dX10_works_7 5 rfl ?_
    refine x_callVi (ci := 10) (q0 := 0) (As := [.int (jI b)]) (st := []) F (c_X10_isBlock D kI kJ l qO b vO_blocks qO_stones qO_laid qO_deep vO_placings qO_placed vO_mortars qO_put qO_rates vO_limit vO_looks qO_seen qO_text vO_texted vO_faultPlace vO_clauses qO_rule qO_fresh vO_lots qO_stocks qO_row qO_dangers qO_losses vO_upper vO_lower qO_habitUpper qO_habitLower vO_at vO_word vO_wordEnd qO_chosen qO_lost qO_zones qO_way qO_spent qO_scaffolds hr_b hOb) (cwV 1 F.2.2.2.2.1 gX10_works_X10_isBlock rfl rfl rfl (by decide +kernel) ⟨Nat.le_of_ble_eq_true rfl, Nat.le_of_ble_eq_true rfl⟩) rfl rfl [0] [1, 2, 3, 4, 5, 6, 7, 8, 9, 10, 11] [11, 0, 1, 2, 3, 4, 5, 6, 7, 8, 9, 10] rfl rfl (by decide) (by decide) (by decide) (fun _ => rfl) (by decide) rfl (Nat.le_of_ble_eq_true rfl) dX10_works_9 ⟨Nat.le_of_ble_eq_true rfl, Nat.le_of_ble_eq_true rfl⟩ (fun z9 u9 h9 => ?_)
    try dsimp only at h9
    refine x_ws [(qO, .inr (10, [.int (jI vO_blocks), .ref qO_stones, .ref qO_laid, .ref qO_deep, .int (jI vO_placings), .ref qO_placed, .int (jI vO_mortars), .ref qO_put, .ref qO_rates, .int (jI vO_limit), .int (jI vO_looks), .ref qO_seen, .ref qO_text, .int (jI vO_texted), .int (jI vO_faultPlace), .int (jI vO_clauses), .ref qO_rule, .ref qO_fresh, .int (jI vO_lots), .ref qO_stocks, .ref qO_row, .ref qO_dangers, .ref qO_losses, .long (jL vO_upper), .long (jL vO_lower), .ref qO_habitUpper, .ref qO_habitLower, .int (jI vO_at), .long (jL vO_word), .int (jI vO_wordEnd), .ref qO_chosen, .ref qO_lost, .ref qO_zones, .ref qO_way, .ref qO_spent, .ref qO_scaffolds])), aI kI qO_stones 30 fO_stones, aI kI qO_laid 30 fO_laid, aI kI qO_rates 64 fO_rates, aI kI qO_placed 300 fO_placed, aI kI qO_put 180 fO_put, aI kI qO_chosen 6 fO_chosen, aI kI qO_lost 30 fO_lost, aI kI qO_zones 30 fO_zones, aI kI qO_way 6 fO_way, aI kI qO_spent 4 fO_spent, aI kI qO_scaffolds 4 fO_scaffolds] rfl ?_
    have hb9 := h9
    refine x_bne (tgt := 19) F dX10_works_12 (by decide) hb9 (fun c12 => ?_) (fun c12 => ?_)
    · -- 12 t
      have hkn : ¬ (¬ b = -1 ∧ ¬ (0 ≤ b ∧ b < vO_blocks)) := fun q => q.2 c12
      exact jn19  hkn
    · -- 12 f
      have hunk : ¬ b = -1 ∧ ¬ (0 ≤ b ∧ b < vO_blocks) := ⟨by omega, c12⟩
      refine x_sipush F dX10_works_15 (by decide) ?_
      exact hret 0 0 18 _ (-1001) (fO_chosen, fO_lost, fO_zones, fO_way, fO_spent, fO_scaffolds) (Nat.le_of_ble_eq_true rfl) (Nat.le_of_ble_eq_true rfl) dX10_works_18 (by (try dsimp only); exact (⟨(wkA_unk hunk).symm, hOlo, hOzo⟩))
