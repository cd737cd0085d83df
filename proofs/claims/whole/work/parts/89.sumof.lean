set_option maxHeartbeats 4000000 in
set_option maxRecDepth 100000 in
theorem c_X10_sumOf (D : va_G) (kI kJ : Nat) (l : Launch) (qO : Nat) (many : Int) (n : Int) (coin : Int) (vO_blocks : Int) (qO_stones : Nat) (qO_laid : Nat) (qO_deep : Nat) (vO_placings : Int) (qO_placed : Nat) (vO_mortars : Int) (qO_put : Nat) (qO_rates : Nat) (vO_limit : Int) (vO_looks : Int) (qO_seen : Nat) (qO_text : Nat) (vO_texted : Int) (vO_faultPlace : Int) (vO_clauses : Int) (qO_rule : Nat) (qO_fresh : Nat) (vO_lots : Int) (qO_stocks : Nat) (qO_row : Nat) (qO_dangers : Nat) (qO_losses : Nat) (vO_upper : Int) (vO_lower : Int) (qO_habitUpper : Nat) (qO_habitLower : Nat) (vO_at : Int) (vO_word : Int) (vO_wordEnd : Int) (qO_chosen : Nat) (qO_lost : Nat) (qO_zones : Nat) (qO_way : Nat) (qO_spent : Nat) (qO_scaffolds : Nat) (fO_way : (Int → Int)) (fO_lost : (Int → Int)) (fO_zones : (Int → Int)) (fO_spent : (Int → Int)) (fO_scaffolds : (Int → Int)) (co : Int) (hmn : 0 ≤ many ∧ many ≤ 6) (hn4 : 1 ≤ n ∧ n ≤ 4) (hcn : 0 ≤ coin ∧ coin ≤ 1000) (hway : ∀ k : Int, 0 ≤ k → k < many → fO_way k = dgt co many n k) (hlo : Rg fO_lost 30 0 40000) (hzo : Rg fO_zones 30 0 7) : xMi D kI kJ l yX10_sumOf wsX10_sumOf 1 32 0 0 [.ref qO, .int (jI many), .int (jI n), .int (jI coin)] [(qO, .inr (10, [.int (jI vO_blocks), .ref qO_stones, .ref qO_laid, .ref qO_deep, .int (jI vO_placings), .ref qO_placed, .int (jI vO_mortars), .ref qO_put, .ref qO_rates, .int (jI vO_limit), .int (jI vO_looks), .ref qO_seen, .ref qO_text, .int (jI vO_texted), .int (jI vO_faultPlace), .int (jI vO_clauses), .ref qO_rule, .ref qO_fresh, .int (jI vO_lots), .ref qO_stocks, .ref qO_row, .ref qO_dangers, .ref qO_losses, .long (jL vO_upper), .long (jL vO_lower), .ref qO_habitUpper, .ref qO_habitLower, .int (jI vO_at), .long (jL vO_word), .int (jI vO_wordEnd), .ref qO_chosen, .ref qO_lost, .ref qO_zones, .ref qO_way, .ref qO_spent, .ref qO_scaffolds])), aI kI qO_way 6 fO_way, aI kI qO_lost 30 fO_lost, aI kI qO_zones 30 fO_zones, aI kI qO_spent 4 fO_spent, aI kI qO_scaffolds 4 fO_scaffolds] (fun (z : Int) (u : (Int → Int) × (Int → Int)) => z = wV (ocs fO_lost) (ozn fO_zones) (ong fO_lost n) n coin many co) (fun (u : (Int → Int) × (Int → Int)) => [(qO, .inr (10, [.int (jI vO_blocks), .ref qO_stones, .ref qO_laid, .ref qO_deep, .int (jI vO_placings), .ref qO_placed, .int (jI vO_mortars), .ref qO_put, .ref qO_rates, .int (jI vO_limit), .int (jI vO_looks), .ref qO_seen, .ref qO_text, .int (jI vO_texted), .int (jI vO_faultPlace), .int (jI vO_clauses), .ref qO_rule, .ref qO_fresh, .int (jI vO_lots), .ref qO_stocks, .ref qO_row, .ref qO_dangers, .ref qO_losses, .long (jL vO_upper), .long (jL vO_lower), .ref qO_habitUpper, .ref qO_habitLower, .int (jI vO_at), .long (jL vO_word), .int (jI vO_wordEnd), .ref qO_chosen, .ref qO_lost, .ref qO_zones, .ref qO_way, .ref qO_spent, .ref qO_scaffolds])), aI kI qO_way 6 fO_way, aI kI qO_lost 30 fO_lost, aI kI qO_zones 30 fO_zones, aI kI qO_spent 4 u.1, aI kI qO_scaffolds 4 u.2]) := by
  refine xMi_of (cc := cX10_sumOf) (maxL := 7) (rt := .int) (by decide) rfl (Nat.le_of_ble_eq_true rfl) (fun _ _ _ => rfl) ?_
  intro p e s m args below meth c A Q F hin2 hret
  have hin10 : ∀ w ∈ wsX100, w ∈ wsX10_sumOf := by decide +kernel
  have hw0 : Cond.fieldLink RX10 78 (TX10 34).1 (TX10 34).2.1 (TX10 34).2.2.1 ∈ wsX10_sumOf := by decide +kernel
  have hw1 : Cond.fieldLink RX10 75 (TX10 33).1 (TX10 33).2.1 (TX10 33).2.2.1 ∈ wsX10_sumOf := by decide +kernel
  have hw2 : Cond.fieldLink RX10 69 (TX10 31).1 (TX10 31).2.1 (TX10 31).2.2.1 ∈ wsX10_sumOf := by decide +kernel
  have hw3 : Cond.fieldLink RX10 81 (TX10 35).1 (TX10 35).2.1 (TX10 35).2.2.1 ∈ wsX10_sumOf := by decide +kernel
  have hw4 : Cond.fieldLink RX10 72 (TX10 32).1 (TX10 32).2.1 (TX10 32).2.2.1 ∈ wsX10_sumOf := by decide +kernel
  refine x_lveq (lv' := [(0, .ref qO), (1, .int (jI many)), (2, .int (jI n)), (3, .int (jI coin))]) rfl ?_
  have hn9 : 0 ≤ n ∧ n ≤ 4 := by omega
  have hcs9 : ∀ j t : Int, 0 ≤ j → j < 6 → 0 ≤ t → t < n → 0 ≤ (ocs fO_lost) j t ∧ (ocs fO_lost) j t ≤ 50000 := fun j t a1 a2 a3 a4 => by have := hlo (5 * j + t) (by omega) (by omega); unfold ocs; omega
  have hng9 : ∀ j : Int, 0 ≤ j → j < 6 → 0 ≤ (ong fO_lost n) j ∧ (ong fO_lost n) j ≤ 200000 := fun j a1 a2 => by have := hlo (5 * j + n) (by omega) (by omega); unfold ong; omega
  refine x_iconst F dX10_sumOf_0 ?_
  refine x_istore (lv' := [(0, .ref qO), (1, .int (jI many)), (2, .int (jI n)), (3, .int (jI coin)), (4, .int (jI 0))]) F dX10_sumOf_1 (by decide) [1, 2, 3, 4, 0] rfl ?_
  refine x_iconst F dX10_sumOf_3 ?_
  refine x_istore (lv' := [(0, .ref qO), (1, .int (jI many)), (2, .int (jI n)), (3, .int (jI coin)), (4, .int (jI 0)), (5, .int (jI 0))]) F dX10_sumOf_4 (by decide) [1, 2, 3, 4, 5, 0] rfl ?_
  have lp6 : ∀ (fu : Nat) (k0 : Int) (sp0 : (Int → Int)) (sc0 : (Int → Int)) (hk0 : 0 ≤ k0 ∧ k0 ≤ 4) (hz0 : ∀ y : Int, 0 ≤ y → y < k0 → sp0 y = 0 ∧ sc0 y = 0) (hm : 4 - k0 < (fu : Int)), xG D p l e (xRm 1 32 0 0) s m args below meth c 7 A Q 0 0 [(qO, .inr (10, [.int (jI vO_blocks), .ref qO_stones, .ref qO_laid, .ref qO_deep, .int (jI vO_placings), .ref qO_placed, .int (jI vO_mortars), .ref qO_put, .ref qO_rates, .int (jI vO_limit), .int (jI vO_looks), .ref qO_seen, .ref qO_text, .int (jI vO_texted), .int (jI vO_faultPlace), .int (jI vO_clauses), .ref qO_rule, .ref qO_fresh, .int (jI vO_lots), .ref qO_stocks, .ref qO_row, .ref qO_dangers, .ref qO_losses, .long (jL vO_upper), .long (jL vO_lower), .ref qO_habitUpper, .ref qO_habitLower, .int (jI vO_at), .long (jL vO_word), .int (jI vO_wordEnd), .ref qO_chosen, .ref qO_lost, .ref qO_zones, .ref qO_way, .ref qO_spent, .ref qO_scaffolds])), aI kI qO_way 6 fO_way, aI kI qO_lost 30 fO_lost, aI kI qO_zones 30 fO_zones, aI kI qO_spent 4 sp0, aI kI qO_scaffolds 4 sc0] [(0, .ref qO), (1, .int (jI many)), (2, .int (jI n)), (3, .int (jI coin)), (4, .int (jI 0)), (5, .int (jI k0))] 6 [] := by
    intro fu
    induction fu with
    | zero =>
      intro k0 sp0 sc0 hk0 hz0 hm
      exact absurd hm (by omega)
    | succ fu ih6 =>
      intro k0 sp0 sc0 hk0 hz0 hm
      refine x_iload F dX10_sumOf_6 5 rfl ?_
      refine x_iconst F dX10_sumOf_8 ?_
      refine x_icmp_ge (tgt := 34) F dX10_sumOf_9 (by decide) (by omega) (fun c9 => ?_) (fun c9 => ?_)
      · -- 9 t
        refine x_iconst F dX10_sumOf_34 ?_
        refine x_istore (lv' := [(0, .ref qO), (1, .int (jI many)), (2, .int (jI n)), (3, .int (jI coin)), (4, .int (jI 0)), (5, .int (jI 0))]) F dX10_sumOf_35 (by decide) [1, 2, 3, 4, 5, 0] rfl ?_
        have lp37 : ∀ (fu : Nat) (s9 : Int) (k9 : Int) (sp9 : (Int → Int)) (sc9 : (Int → Int)) (hk9 : 0 ≤ k9 ∧ k9 ≤ many) (hs9 : s9 = wG (ong fO_lost n) n k9 (lfN co n (many - k9))) (hsp : ∀ y : Int, 0 ≤ y → y < 4 → sp9 y = wSp (ocs fO_lost) (ozn fO_zones) n k9 (lfN co n (many - k9)) y) (hsc : ∀ y : Int, 0 ≤ y → y < 4 → (0 ≤ sc9 y ∧ sc9 y < 256) ∧ ∀ z : Int, 0 ≤ z → z < 8 → btA (sc9 y) z = if wSc (ocs fO_lost) (ozn fO_zones) n k9 (lfN co n (many - k9)) (y * 8 + z) = 0 then 0 else 1) (hm : many - k9 < (fu : Int)), xG D p l e (xRm 1 32 0 0) s m args below meth c 7 A Q 0 0 [(qO, .inr (10, [.int (jI vO_blocks), .ref qO_stones, .ref qO_laid, .ref qO_deep, .int (jI vO_placings), .ref qO_placed, .int (jI vO_mortars), .ref qO_put, .ref qO_rates, .int (jI vO_limit), .int (jI vO_looks), .ref qO_seen, .ref qO_text, .int (jI vO_texted), .int (jI vO_faultPlace), .int (jI vO_clauses), .ref qO_rule, .ref qO_fresh, .int (jI vO_lots), .ref qO_stocks, .ref qO_row, .ref qO_dangers, .ref qO_losses, .long (jL vO_upper), .long (jL vO_lower), .ref qO_habitUpper, .ref qO_habitLower, .int (jI vO_at), .long (jL vO_word), .int (jI vO_wordEnd), .ref qO_chosen, .ref qO_lost, .ref qO_zones, .ref qO_way, .ref qO_spent, .ref qO_scaffolds])), aI kI qO_way 6 fO_way, aI kI qO_lost 30 fO_lost, aI kI qO_zones 30 fO_zones, aI kI qO_spent 4 sp9, aI kI qO_scaffolds 4 sc9] [(0, .ref qO), (1, .int (jI many)), (2, .int (jI n)), (3, .int (jI coin)), (4, .int (jI s9)), (5, .int (jI k9))] 37 [] := by
          intro fu
          induction fu with
          | zero =>
            intro s9 k9 sp9 sc9 hk9 hs9 hsp hsc hm
            exact absurd hm (by omega)
          | succ fu ih37 =>
            intro s9 k9 sp9 sc9 hk9 hs9 hsp hsc hm
            refine x_iload F dX10_sumOf_37 5 rfl ?_
            refine x_iload_n F dX10_sumOf_39 rfl 1 rfl ?_
            refine x_icmp_ge (tgt := 166) F dX10_sumOf_40 (by decide) (by omega) (fun c40 => ?_) (fun c40 => ?_)
            · -- 40 t
              have hm0 : many - many = 0 := by omega
              have hk8 : k9 = many := by omega
              rw [hk8] at hsp hs9
              rw [hm0, lfN_0] at hs9
              have hsp8 : ∀ y : Int, 0 ≤ y → y < 4 → sp9 y = wSp (ocs fO_lost) (ozn fO_zones) n many co y := fun y y0 y1 => by have g := hsp y y0 y1; rw [hm0, lfN_0] at g; exact g
              have hgb := wG_bd (ng := (ong fO_lost n)) hn9.1 hng9 many.toNat co (by omega)
              rw [show ((many.toNat : Nat) : Int) = many by omega, ← hs9] at hgb
              have hvs := wV_sum (zn := (ozn fO_zones)) (ng := (ong fO_lost n)) hn9 hcn.1 hcs9 hmn co
              refine x_iconst F dX10_sumOf_166 ?_
              refine x_istore (lv' := [(0, .ref qO), (1, .int (jI many)), (2, .int (jI n)), (3, .int (jI coin)), (4, .int (jI s9)), (5, .int (jI 0))]) F dX10_sumOf_167 (by decide) [1, 2, 3, 4, 5, 0] rfl ?_
              have lp169 : ∀ (fu : Nat) (s7 : Int) (y9 : Int) (hy9 : 0 ≤ y9 ∧ y9 ≤ n) (hss : s7 = s9 + sm (wSp (ocs fO_lost) (ozn fO_zones) n many co) y9) (hle : ∀ y : Int, 0 ≤ y → y < y9 → wSp (ocs fO_lost) (ozn fO_zones) n many co y ≤ coin) (hsr : 0 ≤ s7 ∧ s7 ≤ 1200000 + 1000 * y9) (hm : n - y9 < (fu : Int)), xG D p l e (xRm 1 32 0 0) s m args below meth c 7 A Q 0 0 [(qO, .inr (10, [.int (jI vO_blocks), .ref qO_stones, .ref qO_laid, .ref qO_deep, .int (jI vO_placings), .ref qO_placed, .int (jI vO_mortars), .ref qO_put, .ref qO_rates, .int (jI vO_limit), .int (jI vO_looks), .ref qO_seen, .ref qO_text, .int (jI vO_texted), .int (jI vO_faultPlace), .int (jI vO_clauses), .ref qO_rule, .ref qO_fresh, .int (jI vO_lots), .ref qO_stocks, .ref qO_row, .ref qO_dangers, .ref qO_losses, .long (jL vO_upper), .long (jL vO_lower), .ref qO_habitUpper, .ref qO_habitLower, .int (jI vO_at), .long (jL vO_word), .int (jI vO_wordEnd), .ref qO_chosen, .ref qO_lost, .ref qO_zones, .ref qO_way, .ref qO_spent, .ref qO_scaffolds])), aI kI qO_way 6 fO_way, aI kI qO_lost 30 fO_lost, aI kI qO_zones 30 fO_zones, aI kI qO_spent 4 sp9, aI kI qO_scaffolds 4 sc9] [(0, .ref qO), (1, .int (jI many)), (2, .int (jI n)), (3, .int (jI coin)), (4, .int (jI s7)), (5, .int (jI y9))] 169 [] := by
                intro fu
                induction fu with
                | zero =>
                  intro s7 y9 hy9 hss hle hsr hm
                  exact absurd hm (by omega)
                | succ fu ih169 =>
                  intro s7 y9 hy9 hss hle hsr hm
                  refine x_iload F dX10_sumOf_169 5 rfl ?_
                  refine x_iload_n F dX10_sumOf_171 rfl 2 rfl ?_
                  refine x_icmp_ge (tgt := 206) F dX10_sumOf_172 (by decide) (by omega) (fun c172 => ?_) (fun c172 => ?_)
                  · -- 172 t
                    refine x_iload F dX10_sumOf_206 4 rfl ?_
                    exact hret 0 0 208 _ s7 (sp9, sc9) (Nat.le_of_ble_eq_true rfl) (Nat.le_of_ble_eq_true rfl) dX10_sumOf_208 (by (try dsimp only); exact (by rw [hvs.1 (fun y y0 y1 => hle y y0 (by omega)), hss, show y9 = n by omega, hs9]))
                  · -- 172 f
                    have hbd8 := wSp_bd (zn := (ozn fO_zones)) hn9 hcs9 (i := many) (by omega) co y9
                    have hsy8 := hsp8 y9 (by omega) (by omega)
                    refine x_aload_n F dX10_sumOf_175 rfl 0 rfl ?_
                    refine x_get (ci := 10) F hin10 0 rfl rfl 34 (by decide) hw0 rfl dX10_sumOf_176 ?_
                    refine x_iload F dX10_sumOf_179 5 rfl ?_
                    refine x_iald F 4 rfl (by decide) (by omega) dX10_sumOf_181 ?_
                    refine x_iload_n F dX10_sumOf_182 rfl 3 rfl ?_
                    refine x_icmp_le (tgt := 188) F dX10_sumOf_183 (by decide) (by omega) (fun c183 => ?_) (fun c183 => ?_)
                    · -- 183 t
                      refine x_iload F dX10_sumOf_188 4 rfl ?_
                      refine x_aload_n F dX10_sumOf_190 rfl 0 rfl ?_
                      refine x_get (ci := 10) F hin10 0 rfl rfl 34 (by decide) hw0 rfl dX10_sumOf_191 ?_
                      refine x_iload F dX10_sumOf_194 5 rfl ?_
                      refine x_iald F 4 rfl (by decide) (by omega) dX10_sumOf_196 ?_
                      refine x_iadd F dX10_sumOf_197 ?_
                      refine x_istore (lv' := [(0, .ref qO), (1, .int (jI many)), (2, .int (jI n)), (3, .int (jI coin)), (4, .int (jI (s7 + (sp9 y9)))), (5, .int (jI y9))]) F dX10_sumOf_198 (by decide) [1, 2, 3, 4, 0, 5] rfl ?_
                      refine x_iinc (lv' := [(0, .ref qO), (1, .int (jI many)), (2, .int (jI n)), (3, .int (jI coin)), (4, .int (jI (s7 + (sp9 y9)))), (5, .int (jI (y9 + 1)))]) (k := 5) F dX10_sumOf_200 rfl (by decide) [1, 2, 3, 4, 5, 0] rfl ?_
                      refine x_goto (tgt := 169) F dX10_sumOf_203 (by decide) ?_
                      exact ih169 (s7 + (sp9 y9)) (y9 + 1) (by omega) (by rw [sm_s hy9.1, hss, hsy8]; omega) (fun y y0 y1 => by by_cases e : y = y9; (rw [e]; omega); exact hle y y0 (by omega)) (by omega) (by omega)
                    · -- 183 f
                      refine x_iconst F dX10_sumOf_186 ?_
                      exact hret 0 0 187 _ (-1) (sp9, sc9) (Nat.le_of_ble_eq_true rfl) (Nat.le_of_ble_eq_true rfl) dX10_sumOf_187 (by (try dsimp only); exact ((hvs.2 y9 ⟨by omega, by omega⟩ (by omega)).symm))
              exact lp169 (Int.toNat (n - 0) + 1) s9 0 (by omega) (by rw [sm_0]; omega) (fun y y0 y1 => by omega) (by omega) (by omega)
            · -- 40 f
              have hwy := hway k9 (by omega) (by omega)
              obtain ⟨hps, hd0, hdn⟩ := pre_s (co := co) (n := n) (many := many) (k := k9) (by omega) hn9.1
              have hgb := wG_bd (ng := (ong fO_lost n)) hn9.1 hng9 k9.toNat (lfN co n (many - k9)) (by omega)
              rw [show ((k9.toNat : Nat) : Int) = k9 by omega, ← hs9] at hgb
              have jn160 : ∀ (s8 : Int) (sp8 : (Int → Int)) (sc8 : (Int → Int)) (hs8 : s8 = wG (ong fO_lost n) n (k9 + 1) (lfN co n (many - (k9 + 1)))) (hsp8 : ∀ y : Int, 0 ≤ y → y < 4 → sp8 y = wSp (ocs fO_lost) (ozn fO_zones) n (k9 + 1) (lfN co n (many - (k9 + 1))) y) (hsc8 : ∀ y : Int, 0 ≤ y → y < 4 → (0 ≤ sc8 y ∧ sc8 y < 256) ∧ ∀ z : Int, 0 ≤ z → z < 8 → btA (sc8 y) z = if wSc (ocs fO_lost) (ozn fO_zones) n (k9 + 1) (lfN co n (many - (k9 + 1))) (y * 8 + z) = 0 then 0 else 1), xG D p l e (xRm 1 32 0 0) s m args below meth c 7 A Q 0 0 [(qO, .inr (10, [.int (jI vO_blocks), .ref qO_stones, .ref qO_laid, .ref qO_deep, .int (jI vO_placings), .ref qO_placed, .int (jI vO_mortars), .ref qO_put, .ref qO_rates, .int (jI vO_limit), .int (jI vO_looks), .ref qO_seen, .ref qO_text, .int (jI vO_texted), .int (jI vO_faultPlace), .int (jI vO_clauses), .ref qO_rule, .ref qO_fresh, .int (jI vO_lots), .ref qO_stocks, .ref qO_row, .ref qO_dangers, .ref qO_losses, .long (jL vO_upper), .long (jL vO_lower), .ref qO_habitUpper, .ref qO_habitLower, .int (jI vO_at), .long (jL vO_word), .int (jI vO_wordEnd), .ref qO_chosen, .ref qO_lost, .ref qO_zones, .ref qO_way, .ref qO_spent, .ref qO_scaffolds])), aI kI qO_way 6 fO_way, aI kI qO_lost 30 fO_lost, aI kI qO_zones 30 fO_zones, aI kI qO_spent 4 sp8, aI kI qO_scaffolds 4 sc8] [(0, .ref qO), (1, .int (jI many)), (2, .int (jI n)), (3, .int (jI coin)), (4, .int (jI s8)), (5, .int (jI k9))] 160 [] := by
                intro s8 sp8 sc8 hs8 hsp8 hsc8
                refine x_iinc (lv' := [(0, .ref qO), (1, .int (jI many)), (2, .int (jI n)), (3, .int (jI coin)), (4, .int (jI s8)), (5, .int (jI (k9 + 1)))]) (k := 5) F dX10_sumOf_160 rfl (by decide) [1, 2, 3, 4, 5, 0] rfl ?_
                refine x_goto (tgt := 37) F dX10_sumOf_163 (by decide) ?_
                exact ih37 s8 (k9 + 1) sp8 sc8 (by omega) hs8 hsp8 hsc8 (by omega)
              refine x_aload_n F dX10_sumOf_43 rfl 0 rfl ?_
              refine x_get (ci := 10) F hin10 0 rfl rfl 33 (by decide) hw1 rfl dX10_sumOf_44 ?_
              refine x_iload F dX10_sumOf_47 5 rfl ?_
              refine x_iald F 1 rfl (by decide) (by omega) dX10_sumOf_49 ?_
              refine x_istore (lv' := [(0, .ref qO), (1, .int (jI many)), (2, .int (jI n)), (3, .int (jI coin)), (4, .int (jI s9)), (5, .int (jI k9)), (6, .int (jI (fO_way k9)))]) F dX10_sumOf_50 (by decide) [1, 2, 3, 4, 5, 6, 0] rfl ?_
              refine x_iload F dX10_sumOf_52 6 rfl ?_
              refine x_iload_n F dX10_sumOf_54 rfl 2 rfl ?_
              refine x_icmp_ne (tgt := 79) F dX10_sumOf_55 (by decide) (by omega) (fun c55 => ?_) (fun c55 => ?_)
              · -- 55 t
                have c55n : ¬ (fO_way k9) = n := by omega
                have hl9 := Rg.at hlo (5 * k9 + (fO_way k9)) (by omega)
                have hz9 := Rg.at hzo (5 * k9 + (fO_way k9)) (by omega)
                have hsy := hsp (fO_way k9) (by omega) (by omega)
                have hcy := hsc (fO_way k9) (by omega) (by omega)
                have hzb := hcy.2 (fO_zones (5 * k9 + (fO_way k9))) (by omega) (by omega)
                have hbd9 := wSp_bd (zn := (ozn fO_zones)) hn9 hcs9 (i := k9) (by omega) (lfN co n (many - k9)) (fO_way k9)
                have ho9 := orI_rng (m := sc9 (fO_way k9)) (z := (fO_zones (5 * k9 + (fO_way k9)))) hcy.1 (by omega)
                refine x_aload_n F dX10_sumOf_79 rfl 0 rfl ?_
                refine x_get (ci := 10) F hin10 0 rfl rfl 34 (by decide) hw0 rfl dX10_sumOf_80 ?_
                refine x_iload F dX10_sumOf_83 6 rfl ?_
                refine x_dup2 F dX10_sumOf_85 rfl rfl ?_
                refine x_iald F 4 rfl (by decide) (by omega) dX10_sumOf_86 ?_
                refine x_bipush F dX10_sumOf_87 (by decide) ?_
                refine x_aload_n F dX10_sumOf_89 rfl 0 rfl ?_
                refine x_get (ci := 10) F hin10 0 rfl rfl 31 (by decide) hw2 rfl dX10_sumOf_90 ?_
                refine x_iconst F dX10_sumOf_93 ?_
                refine x_iload F dX10_sumOf_94 5 rfl ?_
                refine x_imul F dX10_sumOf_96 ?_
                refine x_iload F dX10_sumOf_97 6 rfl ?_
                refine x_iadd F dX10_sumOf_99 ?_
                refine x_iald F 2 rfl (by decide) (by omega) dX10_sumOf_100 ?_
                have hr100 := Rg.at hlo ((5 * k9) + (fO_way k9)) (by omega)
                refine x_iadd F dX10_sumOf_101 ?_
                refine x_aload_n F dX10_sumOf_102 rfl 0 rfl ?_
                refine x_get (ci := 10) F hin10 0 rfl rfl 35 (by decide) hw3 rfl dX10_sumOf_103 ?_
                refine x_iload F dX10_sumOf_106 6 rfl ?_
                refine x_iald F 5 rfl (by decide) (by omega) dX10_sumOf_108 ?_
                refine x_aload_n F dX10_sumOf_109 rfl 0 rfl ?_
                refine x_get (ci := 10) F hin10 0 rfl rfl 32 (by decide) hw4 rfl dX10_sumOf_110 ?_
                refine x_iconst F dX10_sumOf_113 ?_
                refine x_iload F dX10_sumOf_114 5 rfl ?_
                refine x_imul F dX10_sumOf_116 ?_
                refine x_iload F dX10_sumOf_117 6 rfl ?_
                refine x_iadd F dX10_sumOf_119 ?_
                refine x_iald F 3 rfl (by decide) (by omega) dX10_sumOf_120 ?_
                have hr120 := Rg.at hzo ((5 * k9) + (fO_way k9)) (by omega)
                refine x_ishr F (((sc9 (fO_way k9))) / 2 ^ ((fO_zones ((5 * k9) + (fO_way k9)))).toNat) dX10_sumOf_121 (sh_s (by omega) (by omega)) ?_
                refine x_iconst F dX10_sumOf_122 ?_
                refine x_iand F (((((sc9 (fO_way k9))) / 2 ^ ((fO_zones ((5 * k9) + (fO_way k9)))).toNat)) % 2) dX10_sumOf_123 (an_1 _) ?_
                have jn133 : ∀ (v9 : Int) (hv9 : v9 = if wSc (ocs fO_lost) (ozn fO_zones) n k9 (lfN co n (many - k9)) ((fO_way k9) * 8 + (fO_zones (5 * k9 + (fO_way k9)))) = 0 then 25 else 0), xG D p l e (xRm 1 32 0 0) s m args below meth c 7 A Q 0 0 [(qO, .inr (10, [.int (jI vO_blocks), .ref qO_stones, .ref qO_laid, .ref qO_deep, .int (jI vO_placings), .ref qO_placed, .int (jI vO_mortars), .ref qO_put, .ref qO_rates, .int (jI vO_limit), .int (jI vO_looks), .ref qO_seen, .ref qO_text, .int (jI vO_texted), .int (jI vO_faultPlace), .int (jI vO_clauses), .ref qO_rule, .ref qO_fresh, .int (jI vO_lots), .ref qO_stocks, .ref qO_row, .ref qO_dangers, .ref qO_losses, .long (jL vO_upper), .long (jL vO_lower), .ref qO_habitUpper, .ref qO_habitLower, .int (jI vO_at), .long (jL vO_word), .int (jI vO_wordEnd), .ref qO_chosen, .ref qO_lost, .ref qO_zones, .ref qO_way, .ref qO_spent, .ref qO_scaffolds])), aI kI qO_way 6 fO_way, aI kI qO_lost 30 fO_lost, aI kI qO_zones 30 fO_zones, aI kI qO_spent 4 sp9, aI kI qO_scaffolds 4 sc9] [(0, .ref qO), (1, .int (jI many)), (2, .int (jI n)), (3, .int (jI coin)), (4, .int (jI s9)), (5, .int (jI k9)), (6, .int (jI (fO_way k9)))] 133 [.int (jI v9), .int (jI (10 + (fO_lost (5 * k9 + (fO_way k9))))), .int (jI (sp9 (fO_way k9))), .int (jI (fO_way k9)), .ref qO_spent] := by
                  intro v9 hv9
                  have hvr : v9 = 25 ∨ v9 = 0 := by omega
                  refine x_iadd F dX10_sumOf_133 ?_
                  refine x_iadd F dX10_sumOf_134 ?_
                  refine x_iast F 4 rfl (by decide) (by omega) dX10_sumOf_135 [(qO, .inr (10, [.int (jI vO_blocks), .ref qO_stones, .ref qO_laid, .ref qO_deep, .int (jI vO_placings), .ref qO_placed, .int (jI vO_mortars), .ref qO_put, .ref qO_rates, .int (jI vO_limit), .int (jI vO_looks), .ref qO_seen, .ref qO_text, .int (jI vO_texted), .int (jI vO_faultPlace), .int (jI vO_clauses), .ref qO_rule, .ref qO_fresh, .int (jI vO_lots), .ref qO_stocks, .ref qO_row, .ref qO_dangers, .ref qO_losses, .long (jL vO_upper), .long (jL vO_lower), .ref qO_habitUpper, .ref qO_habitLower, .int (jI vO_at), .long (jL vO_word), .int (jI vO_wordEnd), .ref qO_chosen, .ref qO_lost, .ref qO_zones, .ref qO_way, .ref qO_spent, .ref qO_scaffolds])), aI kI qO_way 6 fO_way, aI kI qO_lost 30 fO_lost, aI kI qO_zones 30 fO_zones, aI kI qO_spent 4 (iU sp9 (fO_way k9) ((sp9 (fO_way k9)) + ((10 + (fO_lost (5 * k9 + (fO_way k9)))) + v9))), aI kI qO_scaffolds 4 sc9] rfl ?_
                  have hco9 : wCo (ocs fO_lost) (ozn fO_zones) n k9 (lfN co n (many - k9)) (fO_way k9) = 10 + (fO_lost (5 * k9 + (fO_way k9))) + v9 := by rw [hv9]; rfl
                  have hsp7 : ∀ y : Int, 0 ≤ y → y < 4 → iU sp9 (fO_way k9) (sp9 (fO_way k9) + ((10 + (fO_lost (5 * k9 + (fO_way k9)))) + v9)) y = wSp (ocs fO_lost) (ozn fO_zones) n (k9 + 1) (lfN co n (many - (k9 + 1))) y := fun y y0 y1 => by
                    rw [hps, ← hwy, (wS_t hk9.1 (by omega)).1, hco9]
                    by_cases e : y = (fO_way k9)
                    · rw [e, iU_s, iU_s, hsy]
                    · rw [iU_n e, iU_n e]; exact hsp y y0 y1
                  have hsc7 : ∀ y : Int, 0 ≤ y → y < 4 → (0 ≤ iU sc9 (fO_way k9) (orI (sc9 (fO_way k9)) (fO_zones (5 * k9 + (fO_way k9)))) y ∧ iU sc9 (fO_way k9) (orI (sc9 (fO_way k9)) (fO_zones (5 * k9 + (fO_way k9)))) y < 256) ∧ ∀ z : Int, 0 ≤ z → z < 8 → btA (iU sc9 (fO_way k9) (orI (sc9 (fO_way k9)) (fO_zones (5 * k9 + (fO_way k9)))) y) z = if wSc (ocs fO_lost) (ozn fO_zones) n (k9 + 1) (lfN co n (many - (k9 + 1))) (y * 8 + z) = 0 then 0 else 1 := fun y y0 y1 => by
                    rw [hps, ← hwy, (wS_t hk9.1 (by omega)).2]
                    by_cases e : y = (fO_way k9)
                    · rw [e, iU_s]
                      refine ⟨ho9, fun z z0 z1 => ?_⟩
                      rw [orI_bit hcy.1 (by omega) ⟨z0, z1⟩]
                      by_cases e2 : z = (fO_zones (5 * k9 + (fO_way k9)))
                      · have hcb := wSc_bd (zn := (ozn fO_zones)) hn9 hcs9 (i := k9) (by omega) (lfN co n (many - k9)) ((fO_way k9) * 8 + (fO_zones (5 * k9 + (fO_way k9))))
                        rw [if_pos e2, e2, show (ozn fO_zones) k9 (fO_way k9) = (fO_zones (5 * k9 + (fO_way k9))) from rfl, iU_s, if_neg (by omega)]
                      · rw [if_neg e2, show (ozn fO_zones) k9 (fO_way k9) = (fO_zones (5 * k9 + (fO_way k9))) from rfl, iU_n (by omega)]; exact hcy.2 z z0 z1
                    · refine ⟨by rw [iU_n e]; exact (hsc y y0 y1).1, fun z z0 z1 => ?_⟩
                      rw [iU_n e, show (ozn fO_zones) k9 (fO_way k9) = (fO_zones (5 * k9 + (fO_way k9))) from rfl, iU_n (by omega)]; exact (hsc y y0 y1).2 z z0 z1
                  refine x_aload_n F dX10_sumOf_136 rfl 0 rfl ?_
                  refine x_get (ci := 10) F hin10 0 rfl rfl 35 (by decide) hw3 rfl dX10_sumOf_137 ?_
                  refine x_iload F dX10_sumOf_140 6 rfl ?_
                  refine x_dup2 F dX10_sumOf_142 rfl rfl ?_
                  refine x_iald F 5 rfl (by decide) (by omega) dX10_sumOf_143 ?_
                  refine x_iconst F dX10_sumOf_144 ?_
                  refine x_aload_n F dX10_sumOf_145 rfl 0 rfl ?_
                  refine x_get (ci := 10) F hin10 0 rfl rfl 32 (by decide) hw4 rfl dX10_sumOf_146 ?_
                  refine x_iconst F dX10_sumOf_149 ?_
                  refine x_iload F dX10_sumOf_150 5 rfl ?_
                  refine x_imul F dX10_sumOf_152 ?_
                  refine x_iload F dX10_sumOf_153 6 rfl ?_
                  refine x_iadd F dX10_sumOf_155 ?_
                  refine x_iald F 3 rfl (by decide) (by omega) dX10_sumOf_156 ?_
                  have hr156 := Rg.at hzo ((5 * k9) + (fO_way k9)) (by omega)
                  refine x_ishl F ((2 ^ ((fO_zones ((5 * k9) + (fO_way k9)))).toNat : Nat) : Int) dX10_sumOf_157 (shl_at (by omega)) ?_
                  refine x_ior F (orI ((sc9 (fO_way k9))) (fO_zones (5 * k9 + (fO_way k9)))) dX10_sumOf_158 (orI_at hcy.1 (by omega)) ?_
                  refine x_iast F 5 rfl (by decide) (by omega) dX10_sumOf_159 [(qO, .inr (10, [.int (jI vO_blocks), .ref qO_stones, .ref qO_laid, .ref qO_deep, .int (jI vO_placings), .ref qO_placed, .int (jI vO_mortars), .ref qO_put, .ref qO_rates, .int (jI vO_limit), .int (jI vO_looks), .ref qO_seen, .ref qO_text, .int (jI vO_texted), .int (jI vO_faultPlace), .int (jI vO_clauses), .ref qO_rule, .ref qO_fresh, .int (jI vO_lots), .ref qO_stocks, .ref qO_row, .ref qO_dangers, .ref qO_losses, .long (jL vO_upper), .long (jL vO_lower), .ref qO_habitUpper, .ref qO_habitLower, .int (jI vO_at), .long (jL vO_word), .int (jI vO_wordEnd), .ref qO_chosen, .ref qO_lost, .ref qO_zones, .ref qO_way, .ref qO_spent, .ref qO_scaffolds])), aI kI qO_way 6 fO_way, aI kI qO_lost 30 fO_lost, aI kI qO_zones 30 fO_zones, aI kI qO_spent 4 (iU sp9 (fO_way k9) ((sp9 (fO_way k9)) + ((10 + (fO_lost (5 * k9 + (fO_way k9)))) + v9))), aI kI qO_scaffolds 4 (iU sc9 (fO_way k9) (orI ((sc9 (fO_way k9))) (fO_zones (5 * k9 + (fO_way k9)))))] rfl ?_
                  refine x_lv (lv' := [(0, .ref qO), (1, .int (jI many)), (2, .int (jI n)), (3, .int (jI coin)), (4, .int (jI s9)), (5, .int (jI k9))]) [0, 1, 2, 3, 4, 5] rfl ?_
                  exact jn160 s9 (iU sp9 (fO_way k9) ((sp9 (fO_way k9)) + ((10 + (fO_lost (5 * k9 + (fO_way k9)))) + v9))) (iU sc9 (fO_way k9) (orI ((sc9 (fO_way k9))) (fO_zones (5 * k9 + (fO_way k9))))) (by rw [hps, ← hwy, wG_t hk9.1 (by omega), ← hs9]) hsp7 hsc7
                have hb2 : 0 ≤ (sc9 (fO_way k9)) / 2 ^ ((fO_zones (5 * k9 + (fO_way k9)))).toNat % 2 ∧ (sc9 (fO_way k9)) / 2 ^ ((fO_zones (5 * k9 + (fO_way k9)))).toNat % 2 ≤ 1 := btA_rng _ _
                refine x_if_ne (tgt := 132) F dX10_sumOf_124 (by decide) (by omega) (fun c124 => ?_) (fun c124 => ?_)
                · -- 124 t
                  have hbt : btA (sc9 (fO_way k9)) (fO_zones (5 * k9 + (fO_way k9))) = (sc9 (fO_way k9)) / 2 ^ ((fO_zones (5 * k9 + (fO_way k9)))).toNat % 2 := rfl
                  refine x_iconst F dX10_sumOf_132 ?_
                  -- CAUTION 133: ('i', '(10 + (fO_lost (5 * k9 + (fO_way k9))))') against ('i', '(10 + (fO_lost ((5 * k9) + (fO_way k9))))')
                  exact jn133 0 (by omega)
                · -- 124 f
                  have hbt : btA (sc9 (fO_way k9)) (fO_zones (5 * k9 + (fO_way k9))) = (sc9 (fO_way k9)) / 2 ^ ((fO_zones (5 * k9 + (fO_way k9)))).toNat % 2 := rfl
                  refine x_bipush F dX10_sumOf_127 (by decide) ?_
                  refine x_goto (tgt := 133) F dX10_sumOf_129 (by decide) ?_
                  -- CAUTION 133: ('i', '(10 + (fO_lost (5 * k9 + (fO_way k9))))') against ('i', '(10 + (fO_lost ((5 * k9) + (fO_way k9))))')
                  exact jn133 25 (by omega)
              · -- 55 f
                have c55e : (fO_way k9) = n := by omega
                have hl9 := Rg.at hlo (5 * k9 + n) (by omega)
                refine x_iload F dX10_sumOf_58 4 rfl ?_
                refine x_iconst F dX10_sumOf_60 ?_
                refine x_aload_n F dX10_sumOf_61 rfl 0 rfl ?_
                refine x_get (ci := 10) F hin10 0 rfl rfl 31 (by decide) hw2 rfl dX10_sumOf_62 ?_
                refine x_iconst F dX10_sumOf_65 ?_
                refine x_iload F dX10_sumOf_66 5 rfl ?_
                refine x_imul F dX10_sumOf_68 ?_
                refine x_iload_n F dX10_sumOf_69 rfl 2 rfl ?_
                refine x_iadd F dX10_sumOf_70 ?_
                refine x_iald F 2 rfl (by decide) (by omega) dX10_sumOf_71 ?_
                have hr71 := Rg.at hlo ((5 * k9) + n) (by omega)
                refine x_imul F dX10_sumOf_72 ?_
                refine x_iadd F dX10_sumOf_73 ?_
                refine x_istore (lv' := [(0, .ref qO), (1, .int (jI many)), (2, .int (jI n)), (3, .int (jI coin)), (4, .int (jI (s9 + (3 * (fO_lost ((5 * k9) + n)))))), (5, .int (jI k9)), (6, .int (jI (fO_way k9)))]) F dX10_sumOf_74 (by decide) [1, 2, 3, 4, 0, 5, 6] rfl ?_
                refine x_goto (tgt := 160) F dX10_sumOf_76 (by decide) ?_
                refine x_lv (lv' := [(0, .ref qO), (1, .int (jI many)), (2, .int (jI n)), (3, .int (jI coin)), (4, .int (jI (s9 + (3 * (fO_lost ((5 * k9) + n)))))), (5, .int (jI k9))]) [0, 1, 2, 3, 4, 5] rfl ?_
                exact jn160 (s9 + (3 * (fO_lost ((5 * k9) + n)))) sp9 sc9 (by rw [hps, ← hwy, c55e, wG_n hk9.1 hn9.1, ← hs9]; rfl) (by rw [hps, ← hwy, c55e, (wS_n hk9.1 hn9.1).1]; exact hsp) (by rw [hps, ← hwy, c55e, (wS_n hk9.1 hn9.1).2]; exact hsc)
        exact lp37 (Int.toNat (many - 0) + 1) 0 0 sp0 sc0 (by omega) rfl (fun y y0 y1 => (hz0 y y0 (by omega)).1) (fun y y0 y1 => by rw [(hz0 y y0 (by omega)).2]; exact ⟨by omega, fun z z0 z1 => by show btA 0 z = if (0 : Int) = 0 then 0 else 1; rw [if_pos rfl]; unfold btA; rw [Int.zero_ediv]; rfl⟩) (by omega)
      · -- 9 f
        refine x_aload_n F dX10_sumOf_12 rfl 0 rfl ?_
        refine x_get (ci := 10) F hin10 0 rfl rfl 34 (by decide) hw0 rfl dX10_sumOf_13 ?_
        refine x_iload F dX10_sumOf_16 5 rfl ?_
        refine x_iconst F dX10_sumOf_18 ?_
        refine x_iast F 4 rfl (by decide) (by omega) dX10_sumOf_19 [(qO, .inr (10, [.int (jI vO_blocks), .ref qO_stones, .ref qO_laid, .ref qO_deep, .int (jI vO_placings), .ref qO_placed, .int (jI vO_mortars), .ref qO_put, .ref qO_rates, .int (jI vO_limit), .int (jI vO_looks), .ref qO_seen, .ref qO_text, .int (jI vO_texted), .int (jI vO_faultPlace), .int (jI vO_clauses), .ref qO_rule, .ref qO_fresh, .int (jI vO_lots), .ref qO_stocks, .ref qO_row, .ref qO_dangers, .ref qO_losses, .long (jL vO_upper), .long (jL vO_lower), .ref qO_habitUpper, .ref qO_habitLower, .int (jI vO_at), .long (jL vO_word), .int (jI vO_wordEnd), .ref qO_chosen, .ref qO_lost, .ref qO_zones, .ref qO_way, .ref qO_spent, .ref qO_scaffolds])), aI kI qO_way 6 fO_way, aI kI qO_lost 30 fO_lost, aI kI qO_zones 30 fO_zones, aI kI qO_spent 4 (iU sp0 k0 0), aI kI qO_scaffolds 4 sc0] rfl ?_
        refine x_aload_n F dX10_sumOf_20 rfl 0 rfl ?_
        refine x_get (ci := 10) F hin10 0 rfl rfl 35 (by decide) hw3 rfl dX10_sumOf_21 ?_
        refine x_iload F dX10_sumOf_24 5 rfl ?_
        refine x_iconst F dX10_sumOf_26 ?_
        refine x_iast F 5 rfl (by decide) (by omega) dX10_sumOf_27 [(qO, .inr (10, [.int (jI vO_blocks), .ref qO_stones, .ref qO_laid, .ref qO_deep, .int (jI vO_placings), .ref qO_placed, .int (jI vO_mortars), .ref qO_put, .ref qO_rates, .int (jI vO_limit), .int (jI vO_looks), .ref qO_seen, .ref qO_text, .int (jI vO_texted), .int (jI vO_faultPlace), .int (jI vO_clauses), .ref qO_rule, .ref qO_fresh, .int (jI vO_lots), .ref qO_stocks, .ref qO_row, .ref qO_dangers, .ref qO_losses, .long (jL vO_upper), .long (jL vO_lower), .ref qO_habitUpper, .ref qO_habitLower, .int (jI vO_at), .long (jL vO_word), .int (jI vO_wordEnd), .ref qO_chosen, .ref qO_lost, .ref qO_zones, .ref qO_way, .ref qO_spent, .ref qO_scaffolds])), aI kI qO_way 6 fO_way, aI kI qO_lost 30 fO_lost, aI kI qO_zones 30 fO_zones, aI kI qO_spent 4 (iU sp0 k0 0), aI kI qO_scaffolds 4 (iU sc0 k0 0)] rfl ?_
        refine x_iinc (lv' := [(0, .ref qO), (1, .int (jI many)), (2, .int (jI n)), (3, .int (jI coin)), (4, .int (jI 0)), (5, .int (jI (k0 + 1)))]) (k := 5) F dX10_sumOf_28 rfl (by decide) [1, 2, 3, 4, 5, 0] rfl ?_
        refine x_goto (tgt := 6) F dX10_sumOf_31 (by decide) ?_
        exact ih6 (k0 + 1) (iU sp0 k0 0) (iU sc0 k0 0) (by omega) (fun y y0 y1 => by by_cases e : y = k0; (rw [e, iU_s, iU_s]; exact ⟨rfl, rfl⟩); (rw [iU_n e, iU_n e]; exact hz0 y y0 (by omega))) (by omega)
  exact lp6 (Int.toNat (4 - 0) + 1) 0 fO_spent fO_scaffolds (by omega) (fun y y0 y1 => by omega) (by omega)
