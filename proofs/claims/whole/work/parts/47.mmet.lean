set_option maxHeartbeats 4000000 in
set_option maxRecDepth 100000 in
theorem c_X10_isMet (D : va_G) (kI kJ : Nat) (l : Launch) (qO : Nat) (b : Int) (year : Int) (name : Int) (sign : Int) (number : Int) (vO_blocks : Int) (qO_stones : Nat) (qO_laid : Nat) (qO_deep : Nat) (vO_placings : Int) (qO_placed : Nat) (vO_mortars : Int) (qO_put : Nat) (qO_rates : Nat) (vO_limit : Int) (vO_looks : Int) (qO_seen : Nat) (qO_text : Nat) (vO_texted : Int) (vO_faultPlace : Int) (vO_clauses : Int) (qO_rule : Nat) (qO_fresh : Nat) (vO_lots : Int) (qO_stocks : Nat) (qO_row : Nat) (qO_dangers : Nat) (qO_losses : Nat) (vO_upper : Int) (vO_lower : Int) (qO_habitUpper : Nat) (qO_habitLower : Nat) (vO_at : Int) (vO_word : Int) (vO_wordEnd : Int) (qO_chosen : Nat) (qO_lost : Nat) (qO_zones : Nat) (qO_way : Nat) (qO_spent : Nat) (qO_scaffolds : Nat) (fO_stones : (Int → Int)) (fO_laid : (Int → Int)) (fO_deep : (Int → Int)) (fO_rates : (Int → Int)) (fO_placed : (Int → Int)) (fO_put : (Int → Int)) (fO_seen : (Int → Int)) (fO_habitUpper : (Int → Int)) (fO_habitLower : (Int → Int)) (hr_sign : -2147483648 ≤ sign ∧ sign < 2147483648) (hr_name : -2147483648 ≤ name ∧ name < 2147483648) (hb30 : 0 ≤ b ∧ b < 30) (hd1 : 1 ≤ fO_deep b) (hyr : 0 ≤ year ∧ year ≤ 400) (hOst : Rg fO_stones 30 0 3) (hOla : Rg fO_laid 30 0 400) (hOde : Rg fO_deep 30 0 2000) (hOli : 1 ≤ vO_limit ∧ vO_limit ≤ 100) (hOra : Rg fO_rates 64 0 50) (hOp : 0 ≤ vO_placings ∧ vO_placings ≤ 60) (hOpr : Rg fO_placed 300 0 400) (hOp2 : Rg (fun k => fO_placed (5 * k + 2)) 60 0 3) (hOp3 : Rg (fun k => fO_placed (5 * k + 3)) 60 0 3) (hOp4 : Rg (fun k => fO_placed (5 * k + 4)) 60 0 7) (hOm : 0 ≤ vO_mortars ∧ vO_mortars ≤ 60) (hOmr : Rg fO_put 180 0 400) (hOm2 : Rg (fun k => fO_put (3 * k + 2)) 60 0 1) (hOl : 0 ≤ vO_looks ∧ vO_looks ≤ 80) (hOsn : Rg fO_seen 320 0 400) (hOs1 : Rg (fun k => fO_seen (4 * k + 1)) 80 0 3) (hOs3 : Rg (fun k => fO_seen (4 * k + 3)) 80 0 99) (hnum : -1 ≤ number ∧ number ≤ 999) : xMi D kI kJ l yX10_isMet wsX10_isMet 5 148 0 0 [.ref qO, .int (jI b), .int (jI year), .int (jI name), .int (jI sign), .int (jI number)] [(qO, .inr (10, [.int (jI vO_blocks), .ref qO_stones, .ref qO_laid, .ref qO_deep, .int (jI vO_placings), .ref qO_placed, .int (jI vO_mortars), .ref qO_put, .ref qO_rates, .int (jI vO_limit), .int (jI vO_looks), .ref qO_seen, .ref qO_text, .int (jI vO_texted), .int (jI vO_faultPlace), .int (jI vO_clauses), .ref qO_rule, .ref qO_fresh, .int (jI vO_lots), .ref qO_stocks, .ref qO_row, .ref qO_dangers, .ref qO_losses, .long (jL vO_upper), .long (jL vO_lower), .ref qO_habitUpper, .ref qO_habitLower, .int (jI vO_at), .long (jL vO_word), .int (jI vO_wordEnd), .ref qO_chosen, .ref qO_lost, .ref qO_zones, .ref qO_way, .ref qO_spent, .ref qO_scaffolds])), aI kI qO_stones 30 fO_stones, aI kI qO_laid 30 fO_laid, aI kI qO_deep 30 fO_deep, aI kI qO_rates 64 fO_rates, aI kI qO_placed 300 fO_placed, aI kI qO_put 180 fO_put, aI kI qO_seen 320 fO_seen, aJ kJ qO_habitUpper 4 fO_habitUpper, aJ kJ qO_habitLower 4 fO_habitLower] (fun (z : Int) (u : (Int → Int) × (Int → Int) × Int × Int) => xBool z (tN ((factF ((lS (oLoss fO_rates (fO_stones b) fO_placed vO_placings fO_put vO_mortars b) (fO_laid b)) year * 100 / fO_deep b) (Int.tdiv (stU (fun k => fO_seen (4 * k)) (fun k => fO_seen (4 * k + 2)) (fun k => fO_seen (4 * k + 1)) (fun k => fO_seen (4 * k + 3)) b year vO_looks) (stL (fun k => fO_seen (4 * k)) (fun k => fO_seen (4 * k + 2)) (fun k => fO_seen (4 * k + 1)) (fun k => fO_seen (4 * k + 3)) b year vO_looks)) (oPl fO_placed b year vO_placings 3) (oPl fO_placed b year vO_placings 2) (fO_stones b) (year - fO_laid b) (oHm fO_put b year vO_mortars)) name) (if laI (fun k => fO_seen (4 * k)) (fun k => fO_seen (4 * k + 2)) b year vO_looks = -1 then (0 : Int) else 1) name (if sign = 0 then 1 else 0) number = 0)) (fun (u : (Int → Int) × (Int → Int) × Int × Int) => [(qO, .inr (10, [.int (jI vO_blocks), .ref qO_stones, .ref qO_laid, .ref qO_deep, .int (jI vO_placings), .ref qO_placed, .int (jI vO_mortars), .ref qO_put, .ref qO_rates, .int (jI vO_limit), .int (jI vO_looks), .ref qO_seen, .ref qO_text, .int (jI vO_texted), .int (jI vO_faultPlace), .int (jI vO_clauses), .ref qO_rule, .ref qO_fresh, .int (jI vO_lots), .ref qO_stocks, .ref qO_row, .ref qO_dangers, .ref qO_losses, .long (jL u.2.2.1), .long (jL u.2.2.2), .ref qO_habitUpper, .ref qO_habitLower, .int (jI vO_at), .long (jL vO_word), .int (jI vO_wordEnd), .ref qO_chosen, .ref qO_lost, .ref qO_zones, .ref qO_way, .ref qO_spent, .ref qO_scaffolds])), aI kI qO_stones 30 fO_stones, aI kI qO_laid 30 fO_laid, aI kI qO_deep 30 fO_deep, aI kI qO_rates 64 fO_rates, aI kI qO_placed 300 fO_placed, aI kI qO_put 180 fO_put, aI kI qO_seen 320 fO_seen, aJ kJ qO_habitUpper 4 u.1, aJ kJ qO_habitLower 4 u.2.1]) := by
  refine xMi_of (cc := cX10_isMet) (maxL := 8) (rt := .boolean) (by decide) rfl (Nat.le_of_ble_eq_true rfl) (fun z u hp => xBool_nar hp) ?_
  intro p e s m args below meth c A Q F hin2 hret
  have hin10 : ∀ w ∈ wsX100, w ∈ wsX10_isMet := by decide +kernel
  have hw0 : Cond.fieldLink RX10 13 (TX10 2).1 (TX10 2).2.1 (TX10 2).2.2.1 ∈ wsX10_isMet := by decide +kernel
  have hw1 : Cond.fieldLink RX10 7 (TX10 1).1 (TX10 1).2.1 (TX10 1).2.2.1 ∈ wsX10_isMet := by decide +kernel
  have hw2 : Cond.fieldLink RX10 16 (TX10 3).1 (TX10 3).2.1 (TX10 3).2.2.1 ∈ wsX10_isMet := by decide +kernel
  have hw3 : Cond.fieldLink RX10 141 (TX10 10).1 (TX10 10).2.1 (TX10 10).2.2.1 ∈ wsX10_isMet := by decide +kernel
  have hw4 : Cond.fieldLink RX10 159 (TX10 23).1 (TX10 23).2.1 (TX10 23).2.2.1 ∈ wsX10_isMet := by decide +kernel
  have hw5 : Cond.fieldLink RX10 163 (TX10 24).1 (TX10 24).2.1 (TX10 24).2.2.1 ∈ wsX10_isMet := by decide +kernel
  refine x_lveq (lv' := [(0, .ref qO), (1, .int (jI b)), (2, .int (jI year)), (3, .int (jI name)), (4, .int (jI sign)), (5, .int (jI number))]) rfl ?_
  have hla := Rg.at hOla b hb30
  have hst := Rg.at hOst b hb30
  have hde := Rg.at hOde b hb30
  have hq2 := oPl_rng (b := b) (y := year) hOp hOp2 (by omega)
  have hq3 := oPl_rng (b := b) (y := year) hOp hOp3 (by omega)
  have hq4 := oHm_rng (b := b) (y := year) hOm hOm2
  have hlr9 := lS_rng (loss := (oLoss fO_rates (fO_stones b) fO_placed vO_placings fO_put vO_mortars b)) (laid := fO_laid b) (n := 401) (oLoss_rng hOra hst hOp hOm hOp2 hOp3 hOm2 401) hyr.1 (by omega)
  have hdv9 : 0 ≤ ((lS (oLoss fO_rates (fO_stones b) fO_placed vO_placings fO_put vO_mortars b) (fO_laid b)) year * 100 / fO_deep b) ∧ ((lS (oLoss fO_rates (fO_stones b) fO_placed vO_placings fO_put vO_mortars b) (fO_laid b)) year * 100 / fO_deep b) ≤ 4000000 := by
    refine ⟨Int.ediv_nonneg (by omega) (by omega), ?_⟩
    refine Int.ediv_le_of_le_mul (by omega) ?_
    have := Int.mul_le_mul_of_nonneg_left (show 1 ≤ fO_deep b by omega) (show (0 : Int) ≤ 4000000 by omega)
    omega
  obtain ⟨hs9, hhs9⟩ : ∃ x : Int, x = (if laI (fun k => fO_seen (4 * k)) (fun k => fO_seen (4 * k + 2)) b year vO_looks = -1 then (0 : Int) else 1) := ⟨_, rfl⟩
  rw [← hhs9] at hret
  have eif : (if sign = 0 then (1 : Int) else 0) = 1 ↔ sign = 0 := by split <;> omega
  have jn132 : ∀ (v9 : Int) (ju : (Int → Int)) (jl : (Int → Int)) (ku : Int) (kl : Int) (hv9 : (factF ((lS (oLoss fO_rates (fO_stones b) fO_placed vO_placings fO_put vO_mortars b) (fO_laid b)) year * 100 / fO_deep b) (Int.tdiv (stU (fun k => fO_seen (4 * k)) (fun k => fO_seen (4 * k + 2)) (fun k => fO_seen (4 * k + 1)) (fun k => fO_seen (4 * k + 3)) b year vO_looks) (stL (fun k => fO_seen (4 * k)) (fun k => fO_seen (4 * k + 2)) (fun k => fO_seen (4 * k + 1)) (fun k => fO_seen (4 * k + 3)) b year vO_looks)) (oPl fO_placed b year vO_placings 3) (oPl fO_placed b year vO_placings 2) (fO_stones b) (year - fO_laid b) (oHm fO_put b year vO_mortars)) name = v9) (hn9 : name = 1 → hs9 = 1) (hvr : -10000000 ≤ v9 ∧ v9 ≤ 10000000), xG D p l e (xRm 5 148 0 0) s m args below meth c 8 A Q 0 0 [(qO, .inr (10, [.int (jI vO_blocks), .ref qO_stones, .ref qO_laid, .ref qO_deep, .int (jI vO_placings), .ref qO_placed, .int (jI vO_mortars), .ref qO_put, .ref qO_rates, .int (jI vO_limit), .int (jI vO_looks), .ref qO_seen, .ref qO_text, .int (jI vO_texted), .int (jI vO_faultPlace), .int (jI vO_clauses), .ref qO_rule, .ref qO_fresh, .int (jI vO_lots), .ref qO_stocks, .ref qO_row, .ref qO_dangers, .ref qO_losses, .long (jL ku), .long (jL kl), .ref qO_habitUpper, .ref qO_habitLower, .int (jI vO_at), .long (jL vO_word), .int (jI vO_wordEnd), .ref qO_chosen, .ref qO_lost, .ref qO_zones, .ref qO_way, .ref qO_spent, .ref qO_scaffolds])), aI kI qO_stones 30 fO_stones, aI kI qO_laid 30 fO_laid, aI kI qO_deep 30 fO_deep, aI kI qO_rates 64 fO_rates, aI kI qO_placed 300 fO_placed, aI kI qO_put 180 fO_put, aI kI qO_seen 320 fO_seen, aJ kJ qO_habitUpper 4 ju, aJ kJ qO_habitLower 4 jl] [(0, .ref qO), (1, .int (jI b)), (2, .int (jI year)), (3, .int (jI name)), (4, .int (jI sign)), (5, .int (jI number))] 132 [.long (jL v9)] := by
    intro v9 ju jl ku kl hv9 hn9 hvr
    refine x_lstore (lv' := [(0, .ref qO), (1, .int (jI b)), (2, .int (jI year)), (3, .int (jI name)), (4, .int (jI sign)), (5, .int (jI number)), (6, .long (jL v9))]) F dX10_isMet_132 (by decide) [1, 2, 3, 4, 5, 6, 0] rfl ?_
    refine x_iload F dX10_isMet_134 4 rfl ?_
    refine x_if_ne (tgt := 156) F dX10_isMet_136 (by decide) (by omega) (fun c136 => ?_) (fun c136 => ?_)
    · -- 136 t
      refine x_lload F dX10_isMet_156 6 rfl ?_
      refine x_iload F dX10_isMet_158 5 rfl ?_
      refine x_i2l F dX10_isMet_160 (by omega) ?_
      refine x_lcmp F dX10_isMet_161 (by omega) ?_
      refine x_if_le (tgt := 169) F dX10_isMet_162 (by decide) (jC_rng _ _) (fun c162 => ?_) (fun c162 => ?_)
      · -- 162 t
        rw [jC_le] at c162
        refine x_iconst F dX10_isMet_169 ?_
        exact hret 0 0 170 _ 0 (ju, jl, ku, kl) (Nat.le_of_ble_eq_true rfl) (Nat.le_of_ble_eq_true rfl) dX10_isMet_170 (by (try dsimp only); exact (by unfold tN; rw [hv9]; first | exact xBool_t (by rw [if_neg (by omega)]) | exact xBool_f (by rw [if_pos (by omega)]; omega)))
      · -- 162 f
        rw [jC_le] at c162
        refine x_iconst F dX10_isMet_165 ?_
        refine x_goto (tgt := 170) F dX10_isMet_166 (by decide) ?_
        exact hret 0 0 170 _ 1 (ju, jl, ku, kl) (Nat.le_of_ble_eq_true rfl) (Nat.le_of_ble_eq_true rfl) dX10_isMet_170 (by (try dsimp only); exact (by unfold tN; rw [hv9]; first | exact xBool_t (by rw [if_neg (by omega)]) | exact xBool_f (by rw [if_pos (by omega)]; omega)))
    · -- 136 f
      refine x_lload F dX10_isMet_139 6 rfl ?_
      refine x_iload F dX10_isMet_141 5 rfl ?_
      refine x_i2l F dX10_isMet_143 (by omega) ?_
      refine x_lcmp F dX10_isMet_144 (by omega) ?_
      refine x_if_ge (tgt := 152) F dX10_isMet_145 (by decide) (jC_rng _ _) (fun c145 => ?_) (fun c145 => ?_)
      · -- 145 t
        rw [jC_ge] at c145
        refine x_iconst F dX10_isMet_152 ?_
        refine x_goto (tgt := 170) F dX10_isMet_153 (by decide) ?_
        exact hret 0 0 170 _ 0 (ju, jl, ku, kl) (Nat.le_of_ble_eq_true rfl) (Nat.le_of_ble_eq_true rfl) dX10_isMet_170 (by (try dsimp only); exact (by unfold tN; rw [hv9]; first | exact xBool_t (by rw [if_neg (by omega)]) | exact xBool_f (by rw [if_pos (by omega)]; omega)))
      · -- 145 f
        rw [jC_ge] at c145
        refine x_iconst F dX10_isMet_148 ?_
        refine x_goto (tgt := 170) F dX10_isMet_149 (by decide) ?_
        exact hret 0 0 170 _ 1 (ju, jl, ku, kl) (Nat.le_of_ble_eq_true rfl) (Nat.le_of_ble_eq_true rfl) dX10_isMet_170 (by (try dsimp only); exact (by unfold tN; rw [hv9]; first | exact xBool_t (by rw [if_neg (by omega)]) | exact xBool_f (by rw [if_pos (by omega)]; omega)))
  refine x_iload_n F dX10_isMet_0 rfl 3 rfl ?_
  refine x_iconst F dX10_isMet_1 ?_
  refine x_icmp_ne (tgt := 20) F dX10_isMet_2 (by decide) (by omega) (fun c2 => ?_) (fun c2 => ?_)
  · -- 2 t
    refine x_iload_n F dX10_isMet_20 rfl 3 rfl ?_
    refine x_if_ne (tgt := 44) F dX10_isMet_21 (by decide) (by omega) (fun c21 => ?_) (fun c21 => ?_)
    · -- 21 t
      refine x_iload_n F dX10_isMet_44 rfl 3 rfl ?_
      refine x_iconst F dX10_isMet_45 ?_
      refine x_icmp_ne (tgt := 61) F dX10_isMet_46 (by decide) (by omega) (fun c46 => ?_) (fun c46 => ?_)
      · -- 46 t
        refine x_iload_n F dX10_isMet_61 rfl 3 rfl ?_
        refine x_iconst F dX10_isMet_62 ?_
        refine x_icmp_ne (tgt := 77) F dX10_isMet_63 (by decide) (by omega) (fun c63 => ?_) (fun c63 => ?_)
        · -- 63 t
          refine x_iload_n F dX10_isMet_77 rfl 3 rfl ?_
          refine x_iconst F dX10_isMet_78 ?_
          refine x_icmp_ne (tgt := 93) F dX10_isMet_79 (by decide) (by omega) (fun c79 => ?_) (fun c79 => ?_)
          · -- 79 t
            refine x_iload_n F dX10_isMet_93 rfl 3 rfl ?_
            refine x_iconst F dX10_isMet_94 ?_
            refine x_icmp_ne (tgt := 108) F dX10_isMet_95 (by decide) (by omega) (fun c95 => ?_) (fun c95 => ?_)
            · -- 95 t
              refine x_iload_n F dX10_isMet_108 rfl 3 rfl ?_
              refine x_iconst F dX10_isMet_109 ?_
              refine x_icmp_ne (tgt := 125) F dX10_isMet_110 (by decide) (by omega) (fun c110 => ?_) (fun c110 => ?_)
              · -- 110 t
                refine x_aload_n F dX10_isMet_125 rfl 0 rfl ?_
                refine x_iload_n F dX10_isMet_126 rfl 1 rfl ?_
                refine x_iload_n F dX10_isMet_127 rfl 2 rfl ?_
                refine x_callVi (ci := 10) (q0 := 0) (As := [.int (jI b), .int (jI year)]) (st := []) F (c_X10_harmOf D kI kJ l qO b year vO_blocks qO_stones qO_laid qO_deep vO_placings qO_placed vO_mortars qO_put qO_rates vO_limit vO_looks qO_seen qO_text vO_texted vO_faultPlace vO_clauses qO_rule qO_fresh vO_lots qO_stocks qO_row qO_dangers qO_losses vO_upper vO_lower qO_habitUpper qO_habitLower vO_at vO_word vO_wordEnd qO_chosen qO_lost qO_zones qO_way qO_spent qO_scaffolds fO_put (by omega) (by omega) hOm hOmr) (cwV 2 F.2.2.2.2.1 gX10_isMet_X10_harmOf rfl rfl rfl (by decide +kernel) ⟨Nat.le_of_ble_eq_true rfl, Nat.le_of_ble_eq_true rfl⟩) rfl rfl [0, 6] [1, 2, 3, 4, 5, 7, 8, 9] [8, 0, 1, 2, 3, 4, 9, 5, 6, 7] rfl rfl (by decide) (by decide) (by decide) (fun _ => rfl) (by decide) rfl (Nat.le_of_ble_eq_true rfl) dX10_isMet_128 ⟨Nat.le_of_ble_eq_true rfl, Nat.le_of_ble_eq_true rfl⟩ (fun z128 u128 h128 => ?_)
                try dsimp only at h128
                refine x_ws [(qO, .inr (10, [.int (jI vO_blocks), .ref qO_stones, .ref qO_laid, .ref qO_deep, .int (jI vO_placings), .ref qO_placed, .int (jI vO_mortars), .ref qO_put, .ref qO_rates, .int (jI vO_limit), .int (jI vO_looks), .ref qO_seen, .ref qO_text, .int (jI vO_texted), .int (jI vO_faultPlace), .int (jI vO_clauses), .ref qO_rule, .ref qO_fresh, .int (jI vO_lots), .ref qO_stocks, .ref qO_row, .ref qO_dangers, .ref qO_losses, .long (jL vO_upper), .long (jL vO_lower), .ref qO_habitUpper, .ref qO_habitLower, .int (jI vO_at), .long (jL vO_word), .int (jI vO_wordEnd), .ref qO_chosen, .ref qO_lost, .ref qO_zones, .ref qO_way, .ref qO_spent, .ref qO_scaffolds])), aI kI qO_stones 30 fO_stones, aI kI qO_laid 30 fO_laid, aI kI qO_deep 30 fO_deep, aI kI qO_rates 64 fO_rates, aI kI qO_placed 300 fO_placed, aI kI qO_put 180 fO_put, aI kI qO_seen 320 fO_seen, aJ kJ qO_habitUpper 4 fO_habitUpper, aJ kJ qO_habitLower 4 fO_habitLower] rfl ?_
                have he128 := h128
                have he128 := he128.symm
                subst he128
                refine x_i2l F dX10_isMet_131 (by omega) ?_
                exact jn132 (oHm fO_put b year vO_mortars) fO_habitUpper fO_habitLower vO_upper vO_lower (by first | (rw [(hst_12 c15).1, (hst_12 c15).2, show name = 1 by omega]; rfl) | (unfold factF; (repeat' split) <;> omega)) (by first | exact (fun _ => hs1) | (intro q; exact absurd q (by omega))) (by omega)
              · -- 110 f
                refine x_iload_n F dX10_isMet_113 rfl 2 rfl ?_
                refine x_aload_n F dX10_isMet_114 rfl 0 rfl ?_
                refine x_get (ci := 10) F hin10 0 rfl rfl 2 (by decide) hw0 rfl dX10_isMet_115 ?_
                refine x_iload_n F dX10_isMet_118 rfl 1 rfl ?_
                refine x_iald F 2 rfl (by decide) (by omega) dX10_isMet_119 ?_
                have hr119 := Rg.at hOla b (by omega)
                refine x_isub F dX10_isMet_120 ?_
                refine x_i2l F dX10_isMet_121 (by omega) ?_
                refine x_goto (tgt := 132) F dX10_isMet_122 (by decide) ?_
                exact jn132 (year - (fO_laid b)) fO_habitUpper fO_habitLower vO_upper vO_lower (by first | (rw [(hst_12 c15).1, (hst_12 c15).2, show name = 1 by omega]; rfl) | (unfold factF; (repeat' split) <;> omega)) (by first | exact (fun _ => hs1) | (intro q; exact absurd q (by omega))) (by omega)
            · -- 95 f
              refine x_aload_n F dX10_isMet_98 rfl 0 rfl ?_
              refine x_get (ci := 10) F hin10 0 rfl rfl 1 (by decide) hw1 rfl dX10_isMet_99 ?_
              refine x_iload_n F dX10_isMet_102 rfl 1 rfl ?_
              refine x_iald F 1 rfl (by decide) (by omega) dX10_isMet_103 ?_
              have hr103 := Rg.at hOst b (by omega)
              refine x_i2l F dX10_isMet_104 (by omega) ?_
              refine x_goto (tgt := 132) F dX10_isMet_105 (by decide) ?_
              exact jn132 (fO_stones b) fO_habitUpper fO_habitLower vO_upper vO_lower (by first | (rw [(hst_12 c15).1, (hst_12 c15).2, show name = 1 by omega]; rfl) | (unfold factF; (repeat' split) <;> omega)) (by first | exact (fun _ => hs1) | (intro q; exact absurd q (by omega))) (by omega)
          · -- 79 f
            refine x_aload_n F dX10_isMet_82 rfl 0 rfl ?_
            refine x_iload_n F dX10_isMet_83 rfl 1 rfl ?_
            refine x_iload_n F dX10_isMet_84 rfl 2 rfl ?_
            refine x_iconst F dX10_isMet_85 ?_
            refine x_callVi (ci := 10) (q0 := 0) (As := [.int (jI b), .int (jI year), .int (jI 2)]) (st := []) F (c_X10_placeOf D kI kJ l qO b year 2 vO_blocks qO_stones qO_laid qO_deep vO_placings qO_placed vO_mortars qO_put qO_rates vO_limit vO_looks qO_seen qO_text vO_texted vO_faultPlace vO_clauses qO_rule qO_fresh vO_lots qO_stocks qO_row qO_dangers qO_losses vO_upper vO_lower qO_habitUpper qO_habitLower vO_at vO_word vO_wordEnd qO_chosen qO_lost qO_zones qO_way qO_spent qO_scaffolds fO_placed (by omega) (by omega) hOp hOpr (by omega)) (cwV 3 F.2.2.2.2.1 gX10_isMet_X10_placeOf rfl rfl rfl (by decide +kernel) ⟨Nat.le_of_ble_eq_true rfl, Nat.le_of_ble_eq_true rfl⟩) rfl rfl [0, 5] [1, 2, 3, 4, 6, 7, 8, 9] [8, 0, 1, 2, 3, 9, 4, 5, 6, 7] rfl rfl (by decide) (by decide) (by decide) (fun _ => rfl) (by decide) rfl (Nat.le_of_ble_eq_true rfl) dX10_isMet_86 ⟨Nat.le_of_ble_eq_true rfl, Nat.le_of_ble_eq_true rfl⟩ (fun z86 u86 h86 => ?_)
            try dsimp only at h86
            refine x_ws [(qO, .inr (10, [.int (jI vO_blocks), .ref qO_stones, .ref qO_laid, .ref qO_deep, .int (jI vO_placings), .ref qO_placed, .int (jI vO_mortars), .ref qO_put, .ref qO_rates, .int (jI vO_limit), .int (jI vO_looks), .ref qO_seen, .ref qO_text, .int (jI vO_texted), .int (jI vO_faultPlace), .int (jI vO_clauses), .ref qO_rule, .ref qO_fresh, .int (jI vO_lots), .ref qO_stocks, .ref qO_row, .ref qO_dangers, .ref qO_losses, .long (jL vO_upper), .long (jL vO_lower), .ref qO_habitUpper, .ref qO_habitLower, .int (jI vO_at), .long (jL vO_word), .int (jI vO_wordEnd), .ref qO_chosen, .ref qO_lost, .ref qO_zones, .ref qO_way, .ref qO_spent, .ref qO_scaffolds])), aI kI qO_stones 30 fO_stones, aI kI qO_laid 30 fO_laid, aI kI qO_deep 30 fO_deep, aI kI qO_rates 64 fO_rates, aI kI qO_placed 300 fO_placed, aI kI qO_put 180 fO_put, aI kI qO_seen 320 fO_seen, aJ kJ qO_habitUpper 4 fO_habitUpper, aJ kJ qO_habitLower 4 fO_habitLower] rfl ?_
            have he86 := h86
            have he86 := he86.symm
            subst he86
            refine x_i2l F dX10_isMet_89 (by omega) ?_
            refine x_goto (tgt := 132) F dX10_isMet_90 (by decide) ?_
            exact jn132 (oPl fO_placed b year vO_placings 2) fO_habitUpper fO_habitLower vO_upper vO_lower (by first | (rw [(hst_12 c15).1, (hst_12 c15).2, show name = 1 by omega]; rfl) | (unfold factF; (repeat' split) <;> omega)) (by first | exact (fun _ => hs1) | (intro q; exact absurd q (by omega))) (by omega)
        · -- 63 f
          refine x_aload_n F dX10_isMet_66 rfl 0 rfl ?_
          refine x_iload_n F dX10_isMet_67 rfl 1 rfl ?_
          refine x_iload_n F dX10_isMet_68 rfl 2 rfl ?_
          refine x_iconst F dX10_isMet_69 ?_
          refine x_callVi (ci := 10) (q0 := 0) (As := [.int (jI b), .int (jI year), .int (jI 3)]) (st := []) F (c_X10_placeOf D kI kJ l qO b year 3 vO_blocks qO_stones qO_laid qO_deep vO_placings qO_placed vO_mortars qO_put qO_rates vO_limit vO_looks qO_seen qO_text vO_texted vO_faultPlace vO_clauses qO_rule qO_fresh vO_lots qO_stocks qO_row qO_dangers qO_losses vO_upper vO_lower qO_habitUpper qO_habitLower vO_at vO_word vO_wordEnd qO_chosen qO_lost qO_zones qO_way qO_spent qO_scaffolds fO_placed (by omega) (by omega) hOp hOpr (by omega)) (cwV 3 F.2.2.2.2.1 gX10_isMet_X10_placeOf rfl rfl rfl (by decide +kernel) ⟨Nat.le_of_ble_eq_true rfl, Nat.le_of_ble_eq_true rfl⟩) rfl rfl [0, 5] [1, 2, 3, 4, 6, 7, 8, 9] [8, 0, 1, 2, 3, 9, 4, 5, 6, 7] rfl rfl (by decide) (by decide) (by decide) (fun _ => rfl) (by decide) rfl (Nat.le_of_ble_eq_true rfl) dX10_isMet_70 ⟨Nat.le_of_ble_eq_true rfl, Nat.le_of_ble_eq_true rfl⟩ (fun z70 u70 h70 => ?_)
          try dsimp only at h70
          refine x_ws [(qO, .inr (10, [.int (jI vO_blocks), .ref qO_stones, .ref qO_laid, .ref qO_deep, .int (jI vO_placings), .ref qO_placed, .int (jI vO_mortars), .ref qO_put, .ref qO_rates, .int (jI vO_limit), .int (jI vO_looks), .ref qO_seen, .ref qO_text, .int (jI vO_texted), .int (jI vO_faultPlace), .int (jI vO_clauses), .ref qO_rule, .ref qO_fresh, .int (jI vO_lots), .ref qO_stocks, .ref qO_row, .ref qO_dangers, .ref qO_losses, .long (jL vO_upper), .long (jL vO_lower), .ref qO_habitUpper, .ref qO_habitLower, .int (jI vO_at), .long (jL vO_word), .int (jI vO_wordEnd), .ref qO_chosen, .ref qO_lost, .ref qO_zones, .ref qO_way, .ref qO_spent, .ref qO_scaffolds])), aI kI qO_stones 30 fO_stones, aI kI qO_laid 30 fO_laid, aI kI qO_deep 30 fO_deep, aI kI qO_rates 64 fO_rates, aI kI qO_placed 300 fO_placed, aI kI qO_put 180 fO_put, aI kI qO_seen 320 fO_seen, aJ kJ qO_habitUpper 4 fO_habitUpper, aJ kJ qO_habitLower 4 fO_habitLower] rfl ?_
          have he70 := h70
          have he70 := he70.symm
          subst he70
          refine x_i2l F dX10_isMet_73 (by omega) ?_
          refine x_goto (tgt := 132) F dX10_isMet_74 (by decide) ?_
          exact jn132 (oPl fO_placed b year vO_placings 3) fO_habitUpper fO_habitLower vO_upper vO_lower (by first | (rw [(hst_12 c15).1, (hst_12 c15).2, show name = 1 by omega]; rfl) | (unfold factF; (repeat' split) <;> omega)) (by first | exact (fun _ => hs1) | (intro q; exact absurd q (by omega))) (by omega)
      · exact absurd c46 (by omega)
    · -- 21 f
      refine x_aload_n F dX10_isMet_24 rfl 0 rfl ?_
      refine x_iload_n F dX10_isMet_25 rfl 1 rfl ?_
      refine x_iload_n F dX10_isMet_26 rfl 2 rfl ?_
      refine x_callVi (ci := 10) (q0 := 0) (As := [.int (jI b), .int (jI year)]) (st := []) F (c_X10_lostAt D kI kJ l qO b year vO_blocks qO_stones qO_laid qO_deep vO_placings qO_placed vO_mortars qO_put qO_rates vO_limit vO_looks qO_seen qO_text vO_texted vO_faultPlace vO_clauses qO_rule qO_fresh vO_lots qO_stocks qO_row qO_dangers qO_losses vO_upper vO_lower qO_habitUpper qO_habitLower vO_at vO_word vO_wordEnd qO_chosen qO_lost qO_zones qO_way qO_spent qO_scaffolds fO_stones fO_laid fO_rates fO_placed fO_put hb30 (by omega) hOst hOla hOra hOp hOpr hOp2 hOp3 hOp4 hOm hOmr hOm2) (cwV 2 F.2.2.2.2.1 gX10_isMet_X10_lostAt rfl rfl rfl (by decide +kernel) ⟨Nat.le_of_ble_eq_true rfl, Nat.le_of_ble_eq_true rfl⟩) rfl rfl [0, 1, 2, 4, 5, 6] [3, 7, 8, 9] [4, 5, 6, 0, 7, 8, 9, 1, 2, 3] rfl rfl (by decide) (by decide) (by decide) (fun _ => rfl) (by decide) rfl (Nat.le_of_ble_eq_true rfl) dX10_isMet_27 ⟨Nat.le_of_ble_eq_true rfl, Nat.le_of_ble_eq_true rfl⟩ (fun z27 u27 h27 => ?_)
      try dsimp only at h27
      refine x_ws [(qO, .inr (10, [.int (jI vO_blocks), .ref qO_stones, .ref qO_laid, .ref qO_deep, .int (jI vO_placings), .ref qO_placed, .int (jI vO_mortars), .ref qO_put, .ref qO_rates, .int (jI vO_limit), .int (jI vO_looks), .ref qO_seen, .ref qO_text, .int (jI vO_texted), .int (jI vO_faultPlace), .int (jI vO_clauses), .ref qO_rule, .ref qO_fresh, .int (jI vO_lots), .ref qO_stocks, .ref qO_row, .ref qO_dangers, .ref qO_losses, .long (jL vO_upper), .long (jL vO_lower), .ref qO_habitUpper, .ref qO_habitLower, .int (jI vO_at), .long (jL vO_word), .int (jI vO_wordEnd), .ref qO_chosen, .ref qO_lost, .ref qO_zones, .ref qO_way, .ref qO_spent, .ref qO_scaffolds])), aI kI qO_stones 30 fO_stones, aI kI qO_laid 30 fO_laid, aI kI qO_deep 30 fO_deep, aI kI qO_rates 64 fO_rates, aI kI qO_placed 300 fO_placed, aI kI qO_put 180 fO_put, aI kI qO_seen 320 fO_seen, aJ kJ qO_habitUpper 4 fO_habitUpper, aJ kJ qO_habitLower 4 fO_habitLower] rfl ?_
      have he27 := h27
      have he27 := he27.symm
      subst he27
      refine x_bipush F dX10_isMet_30 (by decide) ?_
      refine x_imul F dX10_isMet_32 ?_
      refine x_aload_n F dX10_isMet_33 rfl 0 rfl ?_
      refine x_get (ci := 10) F hin10 0 rfl rfl 3 (by decide) hw2 rfl dX10_isMet_34 ?_
      refine x_iload_n F dX10_isMet_37 rfl 1 rfl ?_
      refine x_iald F 3 rfl (by decide) (by omega) dX10_isMet_38 ?_
      have hr38 := Rg.at hOde b (by omega)
      refine x_idiv F dX10_isMet_39 (by omega) ?_
      refine x_i2l F dX10_isMet_40 (by omega) ?_
      refine x_goto (tgt := 132) F dX10_isMet_41 (by decide) ?_
      exact jn132 ((((lS (oLoss fO_rates (fO_stones b) fO_placed vO_placings fO_put vO_mortars b) (fO_laid b)) year) * 100) / (fO_deep b)) fO_habitUpper fO_habitLower vO_upper vO_lower (by first | (rw [(hst_12 c15).1, (hst_12 c15).2, show name = 1 by omega]; rfl) | (unfold factF; (repeat' split) <;> omega)) (by first | exact (fun _ => hs1) | (intro q; exact absurd q (by omega))) (by omega)
  · -- 2 f
    refine x_aload_n F dX10_isMet_5 rfl 0 rfl ?_
    refine x_iload_n F dX10_isMet_6 rfl 1 rfl ?_
    refine x_iload_n F dX10_isMet_7 rfl 2 rfl ?_
    refine x_aload_n F dX10_isMet_8 rfl 0 rfl ?_
    refine x_get (ci := 10) F hin10 0 rfl rfl 10 (by decide) hw3 rfl dX10_isMet_9 ?_
    refine x_callVi (ci := 10) (q0 := 0) (As := [.int (jI b), .int (jI year), .int (jI vO_looks)]) (st := []) F (c_X10_findState D kI kJ l qO b year vO_looks vO_blocks qO_stones qO_laid qO_deep vO_placings qO_placed vO_mortars qO_put qO_rates vO_limit vO_looks qO_seen qO_text vO_texted vO_faultPlace vO_clauses qO_rule qO_fresh vO_lots qO_stocks qO_row qO_dangers qO_losses vO_upper vO_lower qO_habitUpper qO_habitLower vO_at vO_word vO_wordEnd qO_chosen qO_lost qO_zones qO_way qO_spent qO_scaffolds fO_seen fO_habitUpper fO_habitLower (by omega) (by omega) (by omega) hOsn hOs1 hOs3) (cwV 3 F.2.2.2.2.1 gX10_isMet_X10_findState rfl rfl rfl (by decide +kernel) ⟨Nat.le_of_ble_eq_true rfl, Nat.le_of_ble_eq_true rfl⟩) rfl rfl [0, 7, 8, 9] [1, 2, 3, 4, 5, 6] [6, 0, 1, 2, 3, 4, 5, 7, 8, 9] rfl rfl (by decide) (by decide) (by decide) (fun _ => rfl) (by decide) rfl (Nat.le_of_ble_eq_true rfl) dX10_isMet_12 ⟨Nat.le_of_ble_eq_true rfl, Nat.le_of_ble_eq_true rfl⟩ (fun z12 u12 h12 => ?_)
    obtain ⟨hu2_12, hl2_12, u2_12, l2_12⟩ := u12
    try dsimp only at h12
    refine x_ws [(qO, .inr (10, [.int (jI vO_blocks), .ref qO_stones, .ref qO_laid, .ref qO_deep, .int (jI vO_placings), .ref qO_placed, .int (jI vO_mortars), .ref qO_put, .ref qO_rates, .int (jI vO_limit), .int (jI vO_looks), .ref qO_seen, .ref qO_text, .int (jI vO_texted), .int (jI vO_faultPlace), .int (jI vO_clauses), .ref qO_rule, .ref qO_fresh, .int (jI vO_lots), .ref qO_stocks, .ref qO_row, .ref qO_dangers, .ref qO_losses, .long (jL u2_12), .long (jL l2_12), .ref qO_habitUpper, .ref qO_habitLower, .int (jI vO_at), .long (jL vO_word), .int (jI vO_wordEnd), .ref qO_chosen, .ref qO_lost, .ref qO_zones, .ref qO_way, .ref qO_spent, .ref qO_scaffolds])), aI kI qO_stones 30 fO_stones, aI kI qO_laid 30 fO_laid, aI kI qO_deep 30 fO_deep, aI kI qO_rates 64 fO_rates, aI kI qO_placed 300 fO_placed, aI kI qO_put 180 fO_put, aI kI qO_seen 320 fO_seen, aJ kJ qO_habitUpper 4 hu2_12, aJ kJ qO_habitLower 4 hl2_12] rfl ?_
    obtain ⟨hb12, hst_12⟩ := h12
    refine x_bne (tgt := 20) F dX10_isMet_15 (by decide) hb12 (fun c15 => ?_) (fun c15 => ?_)
    · -- 15 t
      have hsb := stL_bd (b := fun k => fO_seen (4 * k)) (y := fun k => fO_seen (4 * k + 2)) (h := fun k => fO_seen (4 * k + 1)) (g := fun k => fO_seen (4 * k + 3)) (bb := b) (yr := year) (n := vO_looks) (by omega) (fun k k0 k1 => hOs3 k k0 (by omega)) (fun k k0 k1 => hOs1 k k0 (by omega)) c15
      rw [← (hst_12 c15).1, ← (hst_12 c15).2] at hsb
      have hcut9 := td_bd hsb.1.1 hsb.2.1.1 hsb.2.1.2
      have hs1 : hs9 = 1 := by rw [hhs9, if_neg c15]
      refine x_iload_n F dX10_isMet_20 rfl 3 rfl ?_
      refine x_if_ne (tgt := 44) F dX10_isMet_21 (by decide) (by omega) (fun c21 => ?_) (fun c21 => ?_)
      · -- 21 t
        refine x_iload_n F dX10_isMet_44 rfl 3 rfl ?_
        refine x_iconst F dX10_isMet_45 ?_
        refine x_icmp_ne (tgt := 61) F dX10_isMet_46 (by decide) (by omega) (fun c46 => ?_) (fun c46 => ?_)
        · exact absurd c46 (by omega)
        · -- 46 f
          refine x_aload_n F dX10_isMet_49 rfl 0 rfl ?_
          refine x_get (ci := 10) F hin10 0 rfl rfl 23 (by decide) hw4 rfl dX10_isMet_50 ?_
          refine x_aload_n F dX10_isMet_53 rfl 0 rfl ?_
          refine x_get (ci := 10) F hin10 0 rfl rfl 24 (by decide) hw5 rfl dX10_isMet_54 ?_
          refine x_ldiv F dX10_isMet_57 (by omega) ?_
          refine x_goto (tgt := 132) F dX10_isMet_58 (by decide) ?_
          exact jn132 (Int.tdiv u2_12 l2_12) hu2_12 hl2_12 u2_12 l2_12 (by first | (rw [(hst_12 c15).1, (hst_12 c15).2, show name = 1 by omega]; rfl) | (unfold factF; (repeat' split) <;> omega)) (by first | exact (fun _ => hs1) | (intro q; exact absurd q (by omega))) (by omega)
      · exact absurd c21 (by omega)
    · -- 15 f
      refine x_iconst F dX10_isMet_18 ?_
      exact hret 0 0 19 _ 0 (hu2_12, hl2_12, u2_12, l2_12) (Nat.le_of_ble_eq_true rfl) (Nat.le_of_ble_eq_true rfl) dX10_isMet_19 (by (try dsimp only); exact ((xBool_f (by unfold tN; rw [if_pos (by left; refine ⟨by omega, ?_⟩; rw [hhs9, if_pos (by omega)])]; omega))))
set_option maxHeartbeats 4000000 in
set_option maxRecDepth 100000 in
theorem c_X10_judgedOf (D : va_G) (kI kJ : Nat) (l : Launch) (qO : Nat) (b : Int) (year : Int) (vO_blocks : Int) (qO_stones : Nat) (qO_laid : Nat) (qO_deep : Nat) (vO_placings : Int) (qO_placed : Nat) (vO_mortars : Int) (qO_put : Nat) (qO_rates : Nat) (vO_limit : Int) (vO_looks : Int) (qO_seen : Nat) (qO_text : Nat) (vO_texted : Int) (vO_faultPlace : Int) (vO_clauses : Int) (qO_rule : Nat) (qO_fresh : Nat) (vO_lots : Int) (qO_stocks : Nat) (qO_row : Nat) (qO_dangers : Nat) (qO_losses : Nat) (vO_upper : Int) (vO_lower : Int) (qO_habitUpper : Nat) (qO_habitLower : Nat) (vO_at : Int) (vO_word : Int) (vO_wordEnd : Int) (qO_chosen : Nat) (qO_lost : Nat) (qO_zones : Nat) (qO_way : Nat) (qO_spent : Nat) (qO_scaffolds : Nat) (fO_stones : (Int → Int)) (fO_laid : (Int → Int)) (fO_deep : (Int → Int)) (fO_rates : (Int → Int)) (fO_placed : (Int → Int)) (fO_put : (Int → Int)) (fO_seen : (Int → Int)) (fO_rule : (Int → Int)) (fO_habitUpper : (Int → Int)) (fO_habitLower : (Int → Int)) (hb30 : 0 ≤ b ∧ b < 30) (hd1 : 1 ≤ fO_deep b) (hyr : 0 ≤ year ∧ year ≤ 400) (hOst : Rg fO_stones 30 0 3) (hOla : Rg fO_laid 30 0 400) (hOde : Rg fO_deep 30 0 2000) (hOli : 1 ≤ vO_limit ∧ vO_limit ≤ 100) (hOra : Rg fO_rates 64 0 50) (hOp : 0 ≤ vO_placings ∧ vO_placings ≤ 60) (hOpr : Rg fO_placed 300 0 400) (hOp2 : Rg (fun k => fO_placed (5 * k + 2)) 60 0 3) (hOp3 : Rg (fun k => fO_placed (5 * k + 3)) 60 0 3) (hOp4 : Rg (fun k => fO_placed (5 * k + 4)) 60 0 7) (hOm : 0 ≤ vO_mortars ∧ vO_mortars ≤ 60) (hOmr : Rg fO_put 180 0 400) (hOm2 : Rg (fun k => fO_put (3 * k + 2)) 60 0 1) (hOl : 0 ≤ vO_looks ∧ vO_looks ≤ 80) (hOsn : Rg fO_seen 320 0 400) (hOs1 : Rg (fun k => fO_seen (4 * k + 1)) 80 0 3) (hOs3 : Rg (fun k => fO_seen (4 * k + 3)) 80 0 99) (hOc : 0 ≤ vO_clauses ∧ vO_clauses ≤ 6) (hOrr : Rg fO_rule 66 (-1) 999) (hOrt : Rg (fun c => fO_rule (11 * c)) 6 0 3) : xMi D kI kJ l yX10_judgedOf wsX10_judgedOf 6 175 0 0 [.ref qO, .int (jI b), .int (jI year)] [(qO, .inr (10, [.int (jI vO_blocks), .ref qO_stones, .ref qO_laid, .ref qO_deep, .int (jI vO_placings), .ref qO_placed, .int (jI vO_mortars), .ref qO_put, .ref qO_rates, .int (jI vO_limit), .int (jI vO_looks), .ref qO_seen, .ref qO_text, .int (jI vO_texted), .int (jI vO_faultPlace), .int (jI vO_clauses), .ref qO_rule, .ref qO_fresh, .int (jI vO_lots), .ref qO_stocks, .ref qO_row, .ref qO_dangers, .ref qO_losses, .long (jL vO_upper), .long (jL vO_lower), .ref qO_habitUpper, .ref qO_habitLower, .int (jI vO_at), .long (jL vO_word), .int (jI vO_wordEnd), .ref qO_chosen, .ref qO_lost, .ref qO_zones, .ref qO_way, .ref qO_spent, .ref qO_scaffolds])), aI kI qO_stones 30 fO_stones, aI kI qO_laid 30 fO_laid, aI kI qO_deep 30 fO_deep, aI kI qO_rates 64 fO_rates, aI kI qO_placed 300 fO_placed, aI kI qO_put 180 fO_put, aI kI qO_seen 320 fO_seen, aI kI qO_rule 66 fO_rule, aJ kJ qO_habitUpper 4 fO_habitUpper, aJ kJ qO_habitLower 4 fO_habitLower] (fun (z : Int) (u : (Int → Int) × (Int → Int) × Int × Int) => z = (decd (oC fO_rule (factF ((lS (oLoss fO_rates (fO_stones b) fO_placed vO_placings fO_put vO_mortars b) (fO_laid b)) year * 100 / fO_deep b) (Int.tdiv (stU (fun k => fO_seen (4 * k)) (fun k => fO_seen (4 * k + 2)) (fun k => fO_seen (4 * k + 1)) (fun k => fO_seen (4 * k + 3)) b year vO_looks) (stL (fun k => fO_seen (4 * k)) (fun k => fO_seen (4 * k + 2)) (fun k => fO_seen (4 * k + 1)) (fun k => fO_seen (4 * k + 3)) b year vO_looks)) (oPl fO_placed b year vO_placings 3) (oPl fO_placed b year vO_placings 2) (fO_stones b) (year - fO_laid b) (oHm fO_put b year vO_mortars)) (if laI (fun k => fO_seen (4 * k)) (fun k => fO_seen (4 * k + 2)) b year vO_looks = -1 then (0 : Int) else 1)) (fun ci => fO_rule (11 * ci + 1)) vO_clauses)) (fun (u : (Int → Int) × (Int → Int) × Int × Int) => [(qO, .inr (10, [.int (jI vO_blocks), .ref qO_stones, .ref qO_laid, .ref qO_deep, .int (jI vO_placings), .ref qO_placed, .int (jI vO_mortars), .ref qO_put, .ref qO_rates, .int (jI vO_limit), .int (jI vO_looks), .ref qO_seen, .ref qO_text, .int (jI vO_texted), .int (jI vO_faultPlace), .int (jI vO_clauses), .ref qO_rule, .ref qO_fresh, .int (jI vO_lots), .ref qO_stocks, .ref qO_row, .ref qO_dangers, .ref qO_losses, .long (jL u.2.2.1), .long (jL u.2.2.2), .ref qO_habitUpper, .ref qO_habitLower, .int (jI vO_at), .long (jL vO_word), .int (jI vO_wordEnd), .ref qO_chosen, .ref qO_lost, .ref qO_zones, .ref qO_way, .ref qO_spent, .ref qO_scaffolds])), aI kI qO_stones 30 fO_stones, aI kI qO_laid 30 fO_laid, aI kI qO_deep 30 fO_deep, aI kI qO_rates 64 fO_rates, aI kI qO_placed 300 fO_placed, aI kI qO_put 180 fO_put, aI kI qO_seen 320 fO_seen, aI kI qO_rule 66 fO_rule, aJ kJ qO_habitUpper 4 u.1, aJ kJ qO_habitLower 4 u.2.1]) := by
  refine xMi_of (cc := cX10_judgedOf) (maxL := 7) (rt := .int) (by decide) rfl (Nat.le_of_ble_eq_true rfl) (fun _ _ _ => rfl) ?_
  intro p e s m args below meth c A Q F hin2 hret
  have hin10 : ∀ w ∈ wsX100, w ∈ wsX10_judgedOf := by decide +kernel
  have hw0 : Cond.fieldLink RX10 148 (TX10 15).1 (TX10 15).2.1 (TX10 15).2.2.1 ∈ wsX10_judgedOf := by decide +kernel
  have hw1 : Cond.fieldLink RX10 41 (TX10 16).1 (TX10 16).2.1 (TX10 16).2.2.1 ∈ wsX10_judgedOf := by decide +kernel
  refine x_lveq (lv' := [(0, .ref qO), (1, .int (jI b)), (2, .int (jI year))]) rfl ?_
  refine x_iconst F dX10_judgedOf_0 ?_
  refine x_istore_n (lv' := [(0, .ref qO), (1, .int (jI b)), (2, .int (jI year)), (3, .int (jI 0))]) F dX10_judgedOf_1 rfl (by decide) [1, 2, 3, 0] rfl ?_
  have lp2 : ∀ (fu : Nat) (ci : Int) (ju1 : (Int → Int)) (jl1 : (Int → Int)) (ku1 : Int) (kl1 : Int) (hc : 0 ≤ ci ∧ ci ≤ vO_clauses) (hd : dG (oC fO_rule (factF ((lS (oLoss fO_rates (fO_stones b) fO_placed vO_placings fO_put vO_mortars b) (fO_laid b)) year * 100 / fO_deep b) (Int.tdiv (stU (fun k => fO_seen (4 * k)) (fun k => fO_seen (4 * k + 2)) (fun k => fO_seen (4 * k + 1)) (fun k => fO_seen (4 * k + 3)) b year vO_looks) (stL (fun k => fO_seen (4 * k)) (fun k => fO_seen (4 * k + 2)) (fun k => fO_seen (4 * k + 1)) (fun k => fO_seen (4 * k + 3)) b year vO_looks)) (oPl fO_placed b year vO_placings 3) (oPl fO_placed b year vO_placings 2) (fO_stones b) (year - fO_laid b) (oHm fO_put b year vO_mortars)) (if laI (fun k => fO_seen (4 * k)) (fun k => fO_seen (4 * k + 2)) b year vO_looks = -1 then (0 : Int) else 1)) 100 ci < 0) (hm : 7 - ci < (fu : Int)), xG D p l e (xRm 6 175 0 0) s m args below meth c 7 A Q 0 0 [(qO, .inr (10, [.int (jI vO_blocks), .ref qO_stones, .ref qO_laid, .ref qO_deep, .int (jI vO_placings), .ref qO_placed, .int (jI vO_mortars), .ref qO_put, .ref qO_rates, .int (jI vO_limit), .int (jI vO_looks), .ref qO_seen, .ref qO_text, .int (jI vO_texted), .int (jI vO_faultPlace), .int (jI vO_clauses), .ref qO_rule, .ref qO_fresh, .int (jI vO_lots), .ref qO_stocks, .ref qO_row, .ref qO_dangers, .ref qO_losses, .long (jL ku1), .long (jL kl1), .ref qO_habitUpper, .ref qO_habitLower, .int (jI vO_at), .long (jL vO_word), .int (jI vO_wordEnd), .ref qO_chosen, .ref qO_lost, .ref qO_zones, .ref qO_way, .ref qO_spent, .ref qO_scaffolds])), aI kI qO_stones 30 fO_stones, aI kI qO_laid 30 fO_laid, aI kI qO_deep 30 fO_deep, aI kI qO_rates 64 fO_rates, aI kI qO_placed 300 fO_placed, aI kI qO_put 180 fO_put, aI kI qO_seen 320 fO_seen, aI kI qO_rule 66 fO_rule, aJ kJ qO_habitUpper 4 ju1, aJ kJ qO_habitLower 4 jl1] [(0, .ref qO), (1, .int (jI b)), (2, .int (jI year)), (3, .int (jI ci))] 2 [] := by
    intro fu
    induction fu with
    | zero =>
      intro ci ju1 jl1 ku1 kl1 hc hd hm
      exact absurd hm (by omega)
    | succ fu ih2 =>
      intro ci ju1 jl1 ku1 kl1 hc hd hm
      refine x_iload_n F dX10_judgedOf_2 rfl 3 rfl ?_
      refine x_aload_n F dX10_judgedOf_3 rfl 0 rfl ?_
      refine x_get (ci := 10) F hin10 0 rfl rfl 15 (by decide) hw0 rfl dX10_judgedOf_4 ?_
      refine x_icmp_ge (tgt := 110) F dX10_judgedOf_7 (by decide) (by omega) (fun c7 => ?_) (fun c7 => ?_)
      · -- 7 t
        refine x_iconst F dX10_judgedOf_110 ?_
        exact hret 0 0 111 _ 0 (ju1, jl1, ku1, kl1) (Nat.le_of_ble_eq_true rfl) (Nat.le_of_ble_eq_true rfl) dX10_judgedOf_111 (by (try dsimp only); exact (by unfold decd; rw [show vO_clauses = ci by omega, if_pos hd]))
      · -- 7 f
        refine x_iconst F dX10_judgedOf_10 ?_
        refine x_istore (lv' := [(0, .ref qO), (1, .int (jI b)), (2, .int (jI year)), (3, .int (jI ci)), (4, .int (jI 1))]) F dX10_judgedOf_11 (by decide) [1, 2, 3, 4, 0] rfl ?_
        have rt9 := hOrt ci (by omega) (by omega)
        (try dsimp only at rt9)
        have ra9 := Rg.at hOrr (11 * ci) (by omega)
        refine x_iconst F dX10_judgedOf_13 ?_
        refine x_istore (lv' := [(0, .ref qO), (1, .int (jI b)), (2, .int (jI year)), (3, .int (jI ci)), (4, .int (jI 1)), (5, .int (jI 0))]) F dX10_judgedOf_14 (by decide) [1, 2, 3, 4, 5, 0] rfl ?_
        have lp16 : ∀ (fu : Nat) (met : Int) (t : Int) (ju2 : (Int → Int)) (jl2 : (Int → Int)) (ku2 : Int) (kl2 : Int) (ht : 0 ≤ t ∧ t ≤ fO_rule (11 * ci)) (hm9 : (met = 1 ∧ dG (oN fO_rule (factF ((lS (oLoss fO_rates (fO_stones b) fO_placed vO_placings fO_put vO_mortars b) (fO_laid b)) year * 100 / fO_deep b) (Int.tdiv (stU (fun k => fO_seen (4 * k)) (fun k => fO_seen (4 * k + 2)) (fun k => fO_seen (4 * k + 1)) (fun k => fO_seen (4 * k + 3)) b year vO_looks) (stL (fun k => fO_seen (4 * k)) (fun k => fO_seen (4 * k + 2)) (fun k => fO_seen (4 * k + 1)) (fun k => fO_seen (4 * k + 3)) b year vO_looks)) (oPl fO_placed b year vO_placings 3) (oPl fO_placed b year vO_placings 2) (fO_stones b) (year - fO_laid b) (oHm fO_put b year vO_mortars)) (if laI (fun k => fO_seen (4 * k)) (fun k => fO_seen (4 * k + 2)) b year vO_looks = -1 then (0 : Int) else 1) ci) 100 t < 0) ∨ (met = 0 ∧ 0 ≤ dG (oN fO_rule (factF ((lS (oLoss fO_rates (fO_stones b) fO_placed vO_placings fO_put vO_mortars b) (fO_laid b)) year * 100 / fO_deep b) (Int.tdiv (stU (fun k => fO_seen (4 * k)) (fun k => fO_seen (4 * k + 2)) (fun k => fO_seen (4 * k + 1)) (fun k => fO_seen (4 * k + 3)) b year vO_looks) (stL (fun k => fO_seen (4 * k)) (fun k => fO_seen (4 * k + 2)) (fun k => fO_seen (4 * k + 1)) (fun k => fO_seen (4 * k + 3)) b year vO_looks)) (oPl fO_placed b year vO_placings 3) (oPl fO_placed b year vO_placings 2) (fO_stones b) (year - fO_laid b) (oHm fO_put b year vO_mortars)) (if laI (fun k => fO_seen (4 * k)) (fun k => fO_seen (4 * k + 2)) b year vO_looks = -1 then (0 : Int) else 1) ci) 100 (fO_rule (11 * ci)))) (hm : 4 - t < (fu : Int)), xG D p l e (xRm 6 175 0 0) s m args below meth c 7 A Q 0 0 [(qO, .inr (10, [.int (jI vO_blocks), .ref qO_stones, .ref qO_laid, .ref qO_deep, .int (jI vO_placings), .ref qO_placed, .int (jI vO_mortars), .ref qO_put, .ref qO_rates, .int (jI vO_limit), .int (jI vO_looks), .ref qO_seen, .ref qO_text, .int (jI vO_texted), .int (jI vO_faultPlace), .int (jI vO_clauses), .ref qO_rule, .ref qO_fresh, .int (jI vO_lots), .ref qO_stocks, .ref qO_row, .ref qO_dangers, .ref qO_losses, .long (jL ku2), .long (jL kl2), .ref qO_habitUpper, .ref qO_habitLower, .int (jI vO_at), .long (jL vO_word), .int (jI vO_wordEnd), .ref qO_chosen, .ref qO_lost, .ref qO_zones, .ref qO_way, .ref qO_spent, .ref qO_scaffolds])), aI kI qO_stones 30 fO_stones, aI kI qO_laid 30 fO_laid, aI kI qO_deep 30 fO_deep, aI kI qO_rates 64 fO_rates, aI kI qO_placed 300 fO_placed, aI kI qO_put 180 fO_put, aI kI qO_seen 320 fO_seen, aI kI qO_rule 66 fO_rule, aJ kJ qO_habitUpper 4 ju2, aJ kJ qO_habitLower 4 jl2] [(0, .ref qO), (1, .int (jI b)), (2, .int (jI year)), (3, .int (jI ci)), (4, .int (jI met)), (5, .int (jI t))] 16 [] := by
          intro fu
          induction fu with
          | zero =>
            intro met t ju2 jl2 ku2 kl2 ht hm9 hm
            exact absurd hm (by omega)
          | succ fu ih16 =>
            intro met t ju2 jl2 ku2 kl2 ht hm9 hm
            have jn87 : ∀ (met9 : Int) (ju3 : (Int → Int)) (jl3 : (Int → Int)) (ku3 : Int) (kl3 : Int) (hmt : (met9 = 1 → dG (oN fO_rule (factF ((lS (oLoss fO_rates (fO_stones b) fO_placed vO_placings fO_put vO_mortars b) (fO_laid b)) year * 100 / fO_deep b) (Int.tdiv (stU (fun k => fO_seen (4 * k)) (fun k => fO_seen (4 * k + 2)) (fun k => fO_seen (4 * k + 1)) (fun k => fO_seen (4 * k + 3)) b year vO_looks) (stL (fun k => fO_seen (4 * k)) (fun k => fO_seen (4 * k + 2)) (fun k => fO_seen (4 * k + 1)) (fun k => fO_seen (4 * k + 3)) b year vO_looks)) (oPl fO_placed b year vO_placings 3) (oPl fO_placed b year vO_placings 2) (fO_stones b) (year - fO_laid b) (oHm fO_put b year vO_mortars)) (if laI (fun k => fO_seen (4 * k)) (fun k => fO_seen (4 * k + 2)) b year vO_looks = -1 then (0 : Int) else 1) ci) 100 (fO_rule (11 * ci)) < 0) ∧ (met9 = 0 → 0 ≤ dG (oN fO_rule (factF ((lS (oLoss fO_rates (fO_stones b) fO_placed vO_placings fO_put vO_mortars b) (fO_laid b)) year * 100 / fO_deep b) (Int.tdiv (stU (fun k => fO_seen (4 * k)) (fun k => fO_seen (4 * k + 2)) (fun k => fO_seen (4 * k + 1)) (fun k => fO_seen (4 * k + 3)) b year vO_looks) (stL (fun k => fO_seen (4 * k)) (fun k => fO_seen (4 * k + 2)) (fun k => fO_seen (4 * k + 1)) (fun k => fO_seen (4 * k + 3)) b year vO_looks)) (oPl fO_placed b year vO_placings 3) (oPl fO_placed b year vO_placings 2) (fO_stones b) (year - fO_laid b) (oHm fO_put b year vO_mortars)) (if laI (fun k => fO_seen (4 * k)) (fun k => fO_seen (4 * k + 2)) b year vO_looks = -1 then (0 : Int) else 1) ci) 100 (fO_rule (11 * ci))) ∧ (met9 = 0 ∨ met9 = 1)), xG D p l e (xRm 6 175 0 0) s m args below meth c 7 A Q 0 0 [(qO, .inr (10, [.int (jI vO_blocks), .ref qO_stones, .ref qO_laid, .ref qO_deep, .int (jI vO_placings), .ref qO_placed, .int (jI vO_mortars), .ref qO_put, .ref qO_rates, .int (jI vO_limit), .int (jI vO_looks), .ref qO_seen, .ref qO_text, .int (jI vO_texted), .int (jI vO_faultPlace), .int (jI vO_clauses), .ref qO_rule, .ref qO_fresh, .int (jI vO_lots), .ref qO_stocks, .ref qO_row, .ref qO_dangers, .ref qO_losses, .long (jL ku3), .long (jL kl3), .ref qO_habitUpper, .ref qO_habitLower, .int (jI vO_at), .long (jL vO_word), .int (jI vO_wordEnd), .ref qO_chosen, .ref qO_lost, .ref qO_zones, .ref qO_way, .ref qO_spent, .ref qO_scaffolds])), aI kI qO_stones 30 fO_stones, aI kI qO_laid 30 fO_laid, aI kI qO_deep 30 fO_deep, aI kI qO_rates 64 fO_rates, aI kI qO_placed 300 fO_placed, aI kI qO_put 180 fO_put, aI kI qO_seen 320 fO_seen, aI kI qO_rule 66 fO_rule, aJ kJ qO_habitUpper 4 ju3, aJ kJ qO_habitLower 4 jl3] [(0, .ref qO), (1, .int (jI b)), (2, .int (jI year)), (3, .int (jI ci)), (4, .int (jI met9))] 87 [] := by
              intro met9 ju3 jl3 ku3 kl3 hmt
              refine x_iload F dX10_judgedOf_87 4 rfl ?_
              refine x_if_eq (tgt := 104) F dX10_judgedOf_89 (by decide) (by omega) (fun c89 => ?_) (fun c89 => ?_)
              · -- 89 t
                refine x_iinc (lv' := [(0, .ref qO), (1, .int (jI b)), (2, .int (jI year)), (3, .int (jI (ci + 1))), (4, .int (jI met9))]) (k := 3) F dX10_judgedOf_104 rfl (by decide) [1, 2, 3, 0, 4] rfl ?_
                refine x_goto (tgt := 2) F dX10_judgedOf_107 (by decide) ?_
                refine x_lv (lv' := [(0, .ref qO), (1, .int (jI b)), (2, .int (jI year)), (3, .int (jI (ci + 1)))]) [0, 1, 2, 3] rfl ?_
                exact ih2 (ci + 1) ju3 jl3 ku3 kl3 (by omega) (by rw [dG_s hc.1, if_neg (by rw [oC_no (hmt.2.1 c89)]; omega)]; exact hd) (by omega)
              · -- 89 f
                refine x_aload_n F dX10_judgedOf_92 rfl 0 rfl ?_
                refine x_get (ci := 10) F hin10 0 rfl rfl 16 (by decide) hw1 rfl dX10_judgedOf_93 ?_
                refine x_bipush F dX10_judgedOf_96 (by decide) ?_
                refine x_iload_n F dX10_judgedOf_98 rfl 3 rfl ?_
                refine x_imul F dX10_judgedOf_99 ?_
                refine x_iconst F dX10_judgedOf_100 ?_
                refine x_iadd F dX10_judgedOf_101 ?_
                refine x_iald F 8 rfl (by decide) (by omega) dX10_judgedOf_102 ?_
                have hr102 := Rg.at hOrr ((11 * ci) + 1) (by omega)
                exact hret 0 0 103 _ (fO_rule ((11 * ci) + 1)) (ju3, jl3, ku3, kl3) (Nat.le_of_ble_eq_true rfl) (Nat.le_of_ble_eq_true rfl) dX10_judgedOf_103 (by (try dsimp only); exact (by have e := dG_first (ls := (oC fO_rule (factF ((lS (oLoss fO_rates (fO_stones b) fO_placed vO_placings fO_put vO_mortars b) (fO_laid b)) year * 100 / fO_deep b) (Int.tdiv (stU (fun k => fO_seen (4 * k)) (fun k => fO_seen (4 * k + 2)) (fun k => fO_seen (4 * k + 1)) (fun k => fO_seen (4 * k + 3)) b year vO_looks) (stL (fun k => fO_seen (4 * k)) (fun k => fO_seen (4 * k + 2)) (fun k => fO_seen (4 * k + 1)) (fun k => fO_seen (4 * k + 3)) b year vO_looks)) (oPl fO_placed b year vO_placings 3) (oPl fO_placed b year vO_placings 2) (fO_stones b) (year - fO_laid b) (oHm fO_put b year vO_mortars)) (if laI (fun k => fO_seen (4 * k)) (fun k => fO_seen (4 * k + 2)) b year vO_looks = -1 then (0 : Int) else 1))) (thr := 100) (i := ci) (n := vO_clauses) (by omega) hd (by rw [oC_yes (hmt.1 (by omega))]; omega); unfold decd; rw [e, if_neg (by omega)]))
            refine x_iload F dX10_judgedOf_16 5 rfl ?_
            refine x_aload_n F dX10_judgedOf_18 rfl 0 rfl ?_
            refine x_get (ci := 10) F hin10 0 rfl rfl 16 (by decide) hw1 rfl dX10_judgedOf_19 ?_
            refine x_bipush F dX10_judgedOf_22 (by decide) ?_
            refine x_iload_n F dX10_judgedOf_24 rfl 3 rfl ?_
            refine x_imul F dX10_judgedOf_25 ?_
            refine x_iald F 8 rfl (by decide) (by omega) dX10_judgedOf_26 ?_
            have hr26 := Rg.at hOrr (11 * ci) (by omega)
            refine x_icmp_ge (tgt := 87) F dX10_judgedOf_27 (by decide) (by omega) (fun c27 => ?_) (fun c27 => ?_)
            · -- 27 t
              refine x_lv (lv' := [(0, .ref qO), (1, .int (jI b)), (2, .int (jI year)), (3, .int (jI ci)), (4, .int (jI met))]) [0, 1, 2, 3, 4] rfl ?_
              exact jn87 met ju2 jl2 ku2 kl2 (by rcases hm9 with ⟨e1, e2⟩ | ⟨e1, e2⟩; (first | (exact absurd c32 (by omega)) | (rw [show fO_rule (11 * ci) = t by omega]; omega)); omega)
            · -- 27 f
              refine x_iload F dX10_judgedOf_30 4 rfl ?_
              refine x_if_eq (tgt := 87) F dX10_judgedOf_32 (by decide) (by omega) (fun c32 => ?_) (fun c32 => ?_)
              · -- 32 t
                refine x_lv (lv' := [(0, .ref qO), (1, .int (jI b)), (2, .int (jI year)), (3, .int (jI ci)), (4, .int (jI met))]) [0, 1, 2, 3, 4] rfl ?_
                exact jn87 met ju2 jl2 ku2 kl2 (by rcases hm9 with ⟨e1, e2⟩ | ⟨e1, e2⟩; (first | (exact absurd c32 (by omega)) | (rw [show fO_rule (11 * ci) = t by omega]; omega)); omega)
              · -- 32 f
                have r1 := Rg.at hOrr ((11 * ci + 2) + 3 * t) (by omega)
                have r2 := Rg.at hOrr ((11 * ci + 2) + 3 * t + 1) (by omega)
                have r3 := Rg.at hOrr ((11 * ci + 2) + 3 * t + 2) (by omega)
                refine x_bipush F dX10_judgedOf_35 (by decide) ?_
                refine x_iload_n F dX10_judgedOf_37 rfl 3 rfl ?_
                refine x_imul F dX10_judgedOf_38 ?_
                refine x_iconst F dX10_judgedOf_39 ?_
                refine x_iadd F dX10_judgedOf_40 ?_
                refine x_iconst F dX10_judgedOf_41 ?_
                refine x_iload F dX10_judgedOf_42 5 rfl ?_
                refine x_imul F dX10_judgedOf_44 ?_
                refine x_iadd F dX10_judgedOf_45 ?_
                refine x_istore (lv' := [(0, .ref qO), (1, .int (jI b)), (2, .int (jI year)), (3, .int (jI ci)), (4, .int (jI met)), (5, .int (jI t)), (6, .int (jI (((11 * ci) + 2) + (3 * t))))]) F dX10_judgedOf_46 (by decide) [1, 2, 3, 4, 5, 6, 0] rfl ?_
                refine x_aload_n F dX10_judgedOf_48 rfl 0 rfl ?_
                refine x_iload_n F dX10_judgedOf_49 rfl 1 rfl ?_
                refine x_iload_n F dX10_judgedOf_50 rfl 2 rfl ?_
                refine x_aload_n F dX10_judgedOf_51 rfl 0 rfl ?_
                refine x_get (ci := 10) F hin10 0 rfl rfl 16 (by decide) hw1 rfl dX10_judgedOf_52 ?_
                refine x_iload F dX10_judgedOf_55 6 rfl ?_
                refine x_iald F 8 rfl (by decide) (by omega) dX10_judgedOf_57 ?_
                have hr57 := Rg.at hOrr (((11 * ci) + 2) + (3 * t)) (by omega)
                refine x_aload_n F dX10_judgedOf_58 rfl 0 rfl ?_
                refine x_get (ci := 10) F hin10 0 rfl rfl 16 (by decide) hw1 rfl dX10_judgedOf_59 ?_
                refine x_iload F dX10_judgedOf_62 6 rfl ?_
                refine x_iconst F dX10_judgedOf_64 ?_
                refine x_iadd F dX10_judgedOf_65 ?_
                refine x_iald F 8 rfl (by decide) (by omega) dX10_judgedOf_66 ?_
                have hr66 := Rg.at hOrr ((((11 * ci) + 2) + (3 * t)) + 1) (by omega)
                refine x_aload_n F dX10_judgedOf_67 rfl 0 rfl ?_
                refine x_get (ci := 10) F hin10 0 rfl rfl 16 (by decide) hw1 rfl dX10_judgedOf_68 ?_
                refine x_iload F dX10_judgedOf_71 6 rfl ?_
                refine x_iconst F dX10_judgedOf_73 ?_
                refine x_iadd F dX10_judgedOf_74 ?_
                refine x_iald F 8 rfl (by decide) (by omega) dX10_judgedOf_75 ?_
                have hr75 := Rg.at hOrr ((((11 * ci) + 2) + (3 * t)) + 2) (by omega)
                refine x_callVi (ci := 10) (q0 := 0) (As := [.int (jI b), .int (jI year), .int (jI (fO_rule (((11 * ci) + 2) + (3 * t)))), .int (jI (fO_rule ((((11 * ci) + 2) + (3 * t)) + 1))), .int (jI (fO_rule ((((11 * ci) + 2) + (3 * t)) + 2)))]) (st := []) F (c_X10_isMet D kI kJ l qO b year (fO_rule (((11 * ci) + 2) + (3 * t))) (fO_rule ((((11 * ci) + 2) + (3 * t)) + 1)) (fO_rule ((((11 * ci) + 2) + (3 * t)) + 2)) vO_blocks qO_stones qO_laid qO_deep vO_placings qO_placed vO_mortars qO_put qO_rates vO_limit vO_looks qO_seen qO_text vO_texted vO_faultPlace vO_clauses qO_rule qO_fresh vO_lots qO_stocks qO_row qO_dangers qO_losses ku2 kl2 qO_habitUpper qO_habitLower vO_at vO_word vO_wordEnd qO_chosen qO_lost qO_zones qO_way qO_spent qO_scaffolds fO_stones fO_laid fO_deep fO_rates fO_placed fO_put fO_seen ju2 jl2 (by omega) (by omega) hb30 hd1 hyr hOst hOla hOde hOli hOra hOp hOpr hOp2 hOp3 hOp4 hOm hOmr hOm2 hOl hOsn hOs1 hOs3 (by omega)) (cwV 5 F.2.2.2.2.1 gX10_judgedOf_X10_isMet rfl rfl rfl (by decide +kernel) ⟨Nat.le_of_ble_eq_true rfl, Nat.le_of_ble_eq_true rfl⟩) rfl rfl [0, 1, 2, 3, 4, 5, 6, 7, 9, 10] [8] [1, 2, 3, 4, 5, 6, 7, 8, 0, 9, 10] rfl rfl (by decide) (by decide) (by decide) (fun _ => rfl) (by decide) rfl (Nat.le_of_ble_eq_true rfl) dX10_judgedOf_76 ⟨Nat.le_of_ble_eq_true rfl, Nat.le_of_ble_eq_true rfl⟩ (fun z76 u76 h76 => ?_)
                obtain ⟨hu2_76, hl2_76, u2_76, l2_76⟩ := u76
                try dsimp only at h76
                refine x_ws [(qO, .inr (10, [.int (jI vO_blocks), .ref qO_stones, .ref qO_laid, .ref qO_deep, .int (jI vO_placings), .ref qO_placed, .int (jI vO_mortars), .ref qO_put, .ref qO_rates, .int (jI vO_limit), .int (jI vO_looks), .ref qO_seen, .ref qO_text, .int (jI vO_texted), .int (jI vO_faultPlace), .int (jI vO_clauses), .ref qO_rule, .ref qO_fresh, .int (jI vO_lots), .ref qO_stocks, .ref qO_row, .ref qO_dangers, .ref qO_losses, .long (jL u2_76), .long (jL l2_76), .ref qO_habitUpper, .ref qO_habitLower, .int (jI vO_at), .long (jL vO_word), .int (jI vO_wordEnd), .ref qO_chosen, .ref qO_lost, .ref qO_zones, .ref qO_way, .ref qO_spent, .ref qO_scaffolds])), aI kI qO_stones 30 fO_stones, aI kI qO_laid 30 fO_laid, aI kI qO_deep 30 fO_deep, aI kI qO_rates 64 fO_rates, aI kI qO_placed 300 fO_placed, aI kI qO_put 180 fO_put, aI kI qO_seen 320 fO_seen, aI kI qO_rule 66 fO_rule, aJ kJ qO_habitUpper 4 hu2_76, aJ kJ qO_habitLower 4 hl2_76] rfl ?_
                have hb76 := h76
                have hz9 : z76 = 1 ∨ z76 = 0 := by have := xBool_01 hb76; omega
                have hm2 : (z76 = 1 ∧ dG (oN fO_rule (factF ((lS (oLoss fO_rates (fO_stones b) fO_placed vO_placings fO_put vO_mortars b) (fO_laid b)) year * 100 / fO_deep b) (Int.tdiv (stU (fun k => fO_seen (4 * k)) (fun k => fO_seen (4 * k + 2)) (fun k => fO_seen (4 * k + 1)) (fun k => fO_seen (4 * k + 3)) b year vO_looks) (stL (fun k => fO_seen (4 * k)) (fun k => fO_seen (4 * k + 2)) (fun k => fO_seen (4 * k + 1)) (fun k => fO_seen (4 * k + 3)) b year vO_looks)) (oPl fO_placed b year vO_placings 3) (oPl fO_placed b year vO_placings 2) (fO_stones b) (year - fO_laid b) (oHm fO_put b year vO_mortars)) (if laI (fun k => fO_seen (4 * k)) (fun k => fO_seen (4 * k + 2)) b year vO_looks = -1 then (0 : Int) else 1) ci) 100 (t + 1) < 0) ∨ (z76 = 0 ∧ 0 ≤ dG (oN fO_rule (factF ((lS (oLoss fO_rates (fO_stones b) fO_placed vO_placings fO_put vO_mortars b) (fO_laid b)) year * 100 / fO_deep b) (Int.tdiv (stU (fun k => fO_seen (4 * k)) (fun k => fO_seen (4 * k + 2)) (fun k => fO_seen (4 * k + 1)) (fun k => fO_seen (4 * k + 3)) b year vO_looks) (stL (fun k => fO_seen (4 * k)) (fun k => fO_seen (4 * k + 2)) (fun k => fO_seen (4 * k + 1)) (fun k => fO_seen (4 * k + 3)) b year vO_looks)) (oPl fO_placed b year vO_placings 3) (oPl fO_placed b year vO_placings 2) (fO_stones b) (year - fO_laid b) (oHm fO_put b year vO_mortars)) (if laI (fun k => fO_seen (4 * k)) (fun k => fO_seen (4 * k + 2)) b year vO_looks = -1 then (0 : Int) else 1) ci) 100 (fO_rule (11 * ci))) := by
                  rcases hm9 with ⟨e1, e2⟩ | ⟨e1, e2⟩
                  · rcases hb76 with ⟨f1, f2⟩ | ⟨f1, f2⟩
                    · left; refine ⟨f1, ?_⟩; rw [dG_s ht.1, if_neg (by rw [oN_no f2]; omega)]; exact e2
                    · right; refine ⟨f1, ?_⟩; have e := dG_first (ls := (oN fO_rule (factF ((lS (oLoss fO_rates (fO_stones b) fO_placed vO_placings fO_put vO_mortars b) (fO_laid b)) year * 100 / fO_deep b) (Int.tdiv (stU (fun k => fO_seen (4 * k)) (fun k => fO_seen (4 * k + 2)) (fun k => fO_seen (4 * k + 1)) (fun k => fO_seen (4 * k + 3)) b year vO_looks) (stL (fun k => fO_seen (4 * k)) (fun k => fO_seen (4 * k + 2)) (fun k => fO_seen (4 * k + 1)) (fun k => fO_seen (4 * k + 3)) b year vO_looks)) (oPl fO_placed b year vO_placings 3) (oPl fO_placed b year vO_placings 2) (fO_stones b) (year - fO_laid b) (oHm fO_put b year vO_mortars)) (if laI (fun k => fO_seen (4 * k)) (fun k => fO_seen (4 * k + 2)) b year vO_looks = -1 then (0 : Int) else 1) ci)) (thr := 100) (i := t) (n := fO_rule (11 * ci)) (by omega) e2 (by rw [oN_yes f2]; omega); omega
                  · exact absurd c32 (by omega)
                refine x_istore (lv' := [(0, .ref qO), (1, .int (jI b)), (2, .int (jI year)), (3, .int (jI ci)), (4, .int (jI z76)), (5, .int (jI t)), (6, .int (jI (((11 * ci) + 2) + (3 * t))))]) F dX10_judgedOf_79 (by decide) [1, 2, 3, 4, 0, 5, 6] rfl ?_
                refine x_iinc (lv' := [(0, .ref qO), (1, .int (jI b)), (2, .int (jI year)), (3, .int (jI ci)), (4, .int (jI z76)), (5, .int (jI (t + 1))), (6, .int (jI (((11 * ci) + 2) + (3 * t))))]) (k := 5) F dX10_judgedOf_81 rfl (by decide) [1, 2, 3, 4, 5, 0, 6] rfl ?_
                refine x_goto (tgt := 16) F dX10_judgedOf_84 (by decide) ?_
                refine x_lv (lv' := [(0, .ref qO), (1, .int (jI b)), (2, .int (jI year)), (3, .int (jI ci)), (4, .int (jI z76)), (5, .int (jI (t + 1)))]) [0, 1, 2, 3, 4, 5] rfl ?_
                exact ih16 z76 (t + 1) hu2_76 hl2_76 u2_76 l2_76 (by omega) hm2 (by omega)
        exact lp16 (Int.toNat (4 - 0) + 1) 1 0 ju1 jl1 ku1 kl1 (by omega) (by left; rw [dG_0]; omega) (by omega)
  exact lp2 (Int.toNat (7 - 0) + 1) 0 fO_habitUpper fO_habitLower vO_upper vO_lower (by omega) (by rw [dG_0]; omega) (by omega)
