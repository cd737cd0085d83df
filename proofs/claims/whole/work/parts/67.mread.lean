set_option maxHeartbeats 4000000 in
set_option maxRecDepth 100000 in
theorem c_X10_read (D : va_G) (kI kJ : Nat) (l : Launch) (qO : Nat) (vO_blocks : Int) (qO_stones : Nat) (qO_laid : Nat) (qO_deep : Nat) (vO_placings : Int) (qO_placed : Nat) (vO_mortars : Int) (qO_put : Nat) (qO_rates : Nat) (vO_limit : Int) (vO_looks : Int) (qO_seen : Nat) (qO_text : Nat) (vO_texted : Int) (vO_faultPlace : Int) (vO_clauses : Int) (qO_rule : Nat) (qO_fresh : Nat) (vO_lots : Int) (qO_stocks : Nat) (qO_row : Nat) (qO_dangers : Nat) (qO_losses : Nat) (vO_upper : Int) (vO_lower : Int) (qO_habitUpper : Nat) (qO_habitLower : Nat) (vO_at : Int) (vO_word : Int) (vO_wordEnd : Int) (qO_chosen : Nat) (qO_lost : Nat) (qO_zones : Nat) (qO_way : Nat) (qO_spent : Nat) (qO_scaffolds : Nat) (fO_text : (Int → Int)) (fO_rule : (Int → Int)) (fO_fresh : (Int → Int)) (hOs : 0 ≤ vO_texted ∧ vO_texted ≤ 120) (hOt : Rg fO_text 120 0 255) (hOf : Rg fO_fresh 66 (-1) 999) (hOf3 : Rg (fun c => fO_fresh (11 * c)) 6 0 3) (hOf4 : Rg (fun c => fO_fresh (11 * c + 1)) 6 0 2) (hOrr : Rg fO_rule 66 (-1) 999) (hOrt : Rg (fun c => fO_rule (11 * c)) 6 0 3) (hOra9 : Rg (fun c => fO_rule (11 * c + 1)) 6 0 2) : xMi D kI kJ l yX10_read wsX10_read 5 129 0 0 [.ref qO] [(qO, .inr (10, [.int (jI vO_blocks), .ref qO_stones, .ref qO_laid, .ref qO_deep, .int (jI vO_placings), .ref qO_placed, .int (jI vO_mortars), .ref qO_put, .ref qO_rates, .int (jI vO_limit), .int (jI vO_looks), .ref qO_seen, .ref qO_text, .int (jI vO_texted), .int (jI vO_faultPlace), .int (jI vO_clauses), .ref qO_rule, .ref qO_fresh, .int (jI vO_lots), .ref qO_stocks, .ref qO_row, .ref qO_dangers, .ref qO_losses, .long (jL vO_upper), .long (jL vO_lower), .ref qO_habitUpper, .ref qO_habitLower, .int (jI vO_at), .long (jL vO_word), .int (jI vO_wordEnd), .ref qO_chosen, .ref qO_lost, .ref qO_zones, .ref qO_way, .ref qO_spent, .ref qO_scaffolds])), aI kI qO_text 120 fO_text, aI kI qO_rule 66 fO_rule, aI kI qO_fresh 66 fO_fresh] (fun (z : Int) (u : Int × Int × Int × Int × Int × (Int → Int) × (Int → Int)) => z = (if rdZ fO_text vO_texted (rdC fO_text vO_texted) < vO_texted then -10 - clF fO_text vO_texted (rdC fO_text vO_texted) (rdZ fO_text vO_texted (rdC fO_text vO_texted)) else rdC fO_text vO_texted) ∧ (u.1 = if rdZ fO_text vO_texted (rdC fO_text vO_texted) < vO_texted then clA fO_text vO_texted (rdC fO_text vO_texted) (rdZ fO_text vO_texted (rdC fO_text vO_texted)) else -1) ∧ (rdZ fO_text vO_texted (rdC fO_text vO_texted) < vO_texted → u.2.2.2.2.1 = vO_clauses ∧ u.2.2.2.2.2.1 = fO_rule) ∧ (¬ rdZ fO_text vO_texted (rdC fO_text vO_texted) < vO_texted → (u.2.2.2.2.1 = rdC fO_text vO_texted ∧ 0 ≤ rdC fO_text vO_texted ∧ rdC fO_text vO_texted ≤ 6) ∧ ∀ x : Int, 0 ≤ x → x < rdC fO_text vO_texted → u.2.2.2.2.2.1 (11 * x) = clJ fO_text vO_texted x (rdZ fO_text vO_texted x) + 1 ∧ u.2.2.2.2.2.1 (11 * x + 1) = clB fO_text vO_texted x (rdZ fO_text vO_texted x) ∧ (0 ≤ clJ fO_text vO_texted x (rdZ fO_text vO_texted x) ∧ clJ fO_text vO_texted x (rdZ fO_text vO_texted x) ≤ 2) ∧ ∀ i : Int, 0 ≤ i → i ≤ clJ fO_text vO_texted x (rdZ fO_text vO_texted x) → u.2.2.2.2.2.1 ((11 * x + 2) + 3 * i) = tsN fO_text vO_texted (clX fO_text vO_texted (rdZ fO_text vO_texted x) i) ∧ u.2.2.2.2.2.1 ((11 * x + 2) + 3 * i + 1) = (if tsS fO_text vO_texted (clX fO_text vO_texted (rdZ fO_text vO_texted x) i) = 60 then 0 else 1) ∧ u.2.2.2.2.2.1 ((11 * x + 2) + 3 * i + 2) = tsV fO_text vO_texted (clX fO_text vO_texted (rdZ fO_text vO_texted x) i)) ∧ (Rg u.2.2.2.2.2.1 66 (-1) 999) ∧ (Rg (fun c => u.2.2.2.2.2.1 (11 * c)) 6 0 3) ∧ (Rg (fun c => u.2.2.2.2.2.1 (11 * c + 1)) 6 0 2) ∧ (Rg u.2.2.2.2.2.2 66 (-1) 999) ∧ (Rg (fun c => u.2.2.2.2.2.2 (11 * c)) 6 0 3) ∧ (Rg (fun c => u.2.2.2.2.2.2 (11 * c + 1)) 6 0 2)) (fun (u : Int × Int × Int × Int × Int × (Int → Int) × (Int → Int)) => [(qO, .inr (10, [.int (jI vO_blocks), .ref qO_stones, .ref qO_laid, .ref qO_deep, .int (jI vO_placings), .ref qO_placed, .int (jI vO_mortars), .ref qO_put, .ref qO_rates, .int (jI vO_limit), .int (jI vO_looks), .ref qO_seen, .ref qO_text, .int (jI 0), .int (jI u.1), .int (jI u.2.2.2.2.1), .ref qO_rule, .ref qO_fresh, .int (jI vO_lots), .ref qO_stocks, .ref qO_row, .ref qO_dangers, .ref qO_losses, .long (jL vO_upper), .long (jL vO_lower), .ref qO_habitUpper, .ref qO_habitLower, .int (jI u.2.1), .long (jL u.2.2.1), .int (jI u.2.2.2.1), .ref qO_chosen, .ref qO_lost, .ref qO_zones, .ref qO_way, .ref qO_spent, .ref qO_scaffolds])), aI kI qO_text 120 fO_text, aI kI qO_rule 66 u.2.2.2.2.2.1, aI kI qO_fresh 66 u.2.2.2.2.2.2]) := by
  refine xMi_of (cc := cX10_read) (maxL := 4) (rt := .int) (by decide) rfl (Nat.le_of_ble_eq_true rfl) (fun _ _ _ => rfl) ?_
  intro p e s m args below meth c A Q F hin2 hret
  have hin10 : ∀ w ∈ wsX100, w ∈ wsX10_read := by decide +kernel
  have hw0 : Cond.fieldLink RX10 38 (TX10 14).1 (TX10 14).2.1 (TX10 14).2.2.1 ∈ wsX10_read := by decide +kernel
  have hw1 : Cond.fieldLink RX10 202 (TX10 27).1 (TX10 27).2.1 (TX10 27).2.2.1 ∈ wsX10_read := by decide +kernel
  have hw2 : Cond.fieldLink RX10 151 (TX10 13).1 (TX10 13).2.1 (TX10 13).2.2.1 ∈ wsX10_read := by decide +kernel
  have hw3 : Cond.fieldLink RX10 148 (TX10 15).1 (TX10 15).2.1 (TX10 15).2.2.1 ∈ wsX10_read := by decide +kernel
  have hw4 : Cond.fieldLink RX10 41 (TX10 16).1 (TX10 16).2.1 (TX10 16).2.2.1 ∈ wsX10_read := by decide +kernel
  have hw5 : Cond.fieldLink RX10 44 (TX10 17).1 (TX10 17).2.1 (TX10 17).2.2.1 ∈ wsX10_read := by decide +kernel
  refine x_lveq (lv' := [(0, .ref qO)]) rfl ?_
  refine x_aload_n F dX10_read_0 rfl 0 rfl ?_
  refine x_iconst F dX10_read_1 ?_
  refine x_put (ci := 10) F hin10 tyX10_ok nmX10 0 rfl rfl 14 (by decide) hw0 rfl rfl rfl (show 14 + 1 ≤ _ from Nat.le_of_ble_eq_true rfl) dX10_read_2 [(qO, .inr (10, [.int (jI vO_blocks), .ref qO_stones, .ref qO_laid, .ref qO_deep, .int (jI vO_placings), .ref qO_placed, .int (jI vO_mortars), .ref qO_put, .ref qO_rates, .int (jI vO_limit), .int (jI vO_looks), .ref qO_seen, .ref qO_text, .int (jI vO_texted), .int (jI (-1)), .int (jI vO_clauses), .ref qO_rule, .ref qO_fresh, .int (jI vO_lots), .ref qO_stocks, .ref qO_row, .ref qO_dangers, .ref qO_losses, .long (jL vO_upper), .long (jL vO_lower), .ref qO_habitUpper, .ref qO_habitLower, .int (jI vO_at), .long (jL vO_word), .int (jI vO_wordEnd), .ref qO_chosen, .ref qO_lost, .ref qO_zones, .ref qO_way, .ref qO_spent, .ref qO_scaffolds])), aI kI qO_text 120 fO_text, aI kI qO_rule 66 fO_rule, aI kI qO_fresh 66 fO_fresh] rfl ?_
  refine x_aload_n F dX10_read_5 rfl 0 rfl ?_
  refine x_iconst F dX10_read_6 ?_
  refine x_put (ci := 10) F hin10 tyX10_ok nmX10 0 rfl rfl 27 (by decide) hw1 rfl rfl rfl (show 27 + 1 ≤ _ from Nat.le_of_ble_eq_true rfl) dX10_read_7 [(qO, .inr (10, [.int (jI vO_blocks), .ref qO_stones, .ref qO_laid, .ref qO_deep, .int (jI vO_placings), .ref qO_placed, .int (jI vO_mortars), .ref qO_put, .ref qO_rates, .int (jI vO_limit), .int (jI vO_looks), .ref qO_seen, .ref qO_text, .int (jI vO_texted), .int (jI (-1)), .int (jI vO_clauses), .ref qO_rule, .ref qO_fresh, .int (jI vO_lots), .ref qO_stocks, .ref qO_row, .ref qO_dangers, .ref qO_losses, .long (jL vO_upper), .long (jL vO_lower), .ref qO_habitUpper, .ref qO_habitLower, .int (jI 0), .long (jL vO_word), .int (jI vO_wordEnd), .ref qO_chosen, .ref qO_lost, .ref qO_zones, .ref qO_way, .ref qO_spent, .ref qO_scaffolds])), aI kI qO_text 120 fO_text, aI kI qO_rule 66 fO_rule, aI kI qO_fresh 66 fO_fresh] rfl ?_
  refine x_iconst F dX10_read_10 ?_
  refine x_istore_n (lv' := [(0, .ref qO), (1, .int (jI 0))]) F dX10_read_11 rfl (by decide) [1, 0] rfl ?_
  refine x_iconst F dX10_read_12 ?_
  refine x_istore_n (lv' := [(0, .ref qO), (1, .int (jI 0)), (2, .int (jI 0))]) F dX10_read_13 rfl (by decide) [1, 2, 0] rfl ?_
  have lp14 : ∀ (fu : Nat) (many : Int) (fz : Int) (a9 : Int) (pl : Int) (wv : Int) (ev : Int) (fr9 : (Int → Int)) (hmn : 0 ≤ many ∧ many ≤ 7) (hfr : 0 ≤ fz ∧ fz ≤ 4) (ha9 : 0 ≤ a9 ∧ a9 ≤ vO_texted) (hm9 : (fz = 0 ∧ pl = -1 ∧ skp fO_text vO_texted a9 = rdZ fO_text vO_texted many ∧ dG (rdT fO_text vO_texted) 100 many < 0 ∧ many ≤ 6) ∨ (¬ fz = 0 ∧ 1 ≤ many ∧ fz = clF fO_text vO_texted (many - 1) (rdZ fO_text vO_texted (many - 1)) ∧ pl = clA fO_text vO_texted (many - 1) (rdZ fO_text vO_texted (many - 1)) ∧ rdC fO_text vO_texted = many - 1 ∧ rdZ fO_text vO_texted (many - 1) < vO_texted)) (hct1 : fz = 0 → ∀ x : Int, 0 ≤ x → x < many → fr9 (11 * x) = clJ fO_text vO_texted x (rdZ fO_text vO_texted x) + 1 ∧ fr9 (11 * x + 1) = clB fO_text vO_texted x (rdZ fO_text vO_texted x) ∧ (0 ≤ clJ fO_text vO_texted x (rdZ fO_text vO_texted x) ∧ clJ fO_text vO_texted x (rdZ fO_text vO_texted x) ≤ 2) ∧ ∀ i : Int, 0 ≤ i → i ≤ clJ fO_text vO_texted x (rdZ fO_text vO_texted x) → fr9 ((11 * x + 2) + 3 * i) = tsN fO_text vO_texted (clX fO_text vO_texted (rdZ fO_text vO_texted x) i) ∧ fr9 ((11 * x + 2) + 3 * i + 1) = (if tsS fO_text vO_texted (clX fO_text vO_texted (rdZ fO_text vO_texted x) i) = 60 then 0 else 1) ∧ fr9 ((11 * x + 2) + 3 * i + 2) = tsV fO_text vO_texted (clX fO_text vO_texted (rdZ fO_text vO_texted x) i)) (hfg : Rg fr9 66 (-1) 999) (hf3 : Rg (fun c => fr9 (11 * c)) 6 0 3) (hf4 : Rg (fun c => fr9 (11 * c + 1)) 6 0 2) (hm : 8 - many < (fu : Int)), xG D p l e (xRm 5 129 0 0) s m args below meth c 4 A Q 0 0 [(qO, .inr (10, [.int (jI vO_blocks), .ref qO_stones, .ref qO_laid, .ref qO_deep, .int (jI vO_placings), .ref qO_placed, .int (jI vO_mortars), .ref qO_put, .ref qO_rates, .int (jI vO_limit), .int (jI vO_looks), .ref qO_seen, .ref qO_text, .int (jI vO_texted), .int (jI pl), .int (jI vO_clauses), .ref qO_rule, .ref qO_fresh, .int (jI vO_lots), .ref qO_stocks, .ref qO_row, .ref qO_dangers, .ref qO_losses, .long (jL vO_upper), .long (jL vO_lower), .ref qO_habitUpper, .ref qO_habitLower, .int (jI a9), .long (jL wv), .int (jI ev), .ref qO_chosen, .ref qO_lost, .ref qO_zones, .ref qO_way, .ref qO_spent, .ref qO_scaffolds])), aI kI qO_text 120 fO_text, aI kI qO_rule 66 fO_rule, aI kI qO_fresh 66 fr9] [(0, .ref qO), (1, .int (jI many)), (2, .int (jI fz))] 14 [] := by
    intro fu
    induction fu with
    | zero =>
      intro many fz a9 pl wv ev fr9 hmn hfr ha9 hm9 hct1 hfg hf3 hf4 hm
      exact absurd hm (by omega)
    | succ fu ih14 =>
      intro many fz a9 pl wv ev fr9 hmn hfr ha9 hm9 hct1 hfg hf3 hf4 hm
      refine x_iload_n F dX10_read_14 rfl 2 rfl ?_
      refine x_if_ne (tgt := 37) F dX10_read_15 (by decide) (by omega) (fun c15 => ?_) (fun c15 => ?_)
      · -- 15 t
        obtain ⟨hm1, hfz, hpl, hC, hzl⟩ : 1 ≤ many ∧ fz = clF fO_text vO_texted (many - 1) (rdZ fO_text vO_texted (many - 1)) ∧ pl = clA fO_text vO_texted (many - 1) (rdZ fO_text vO_texted (many - 1)) ∧ rdC fO_text vO_texted = many - 1 ∧ rdZ fO_text vO_texted (many - 1) < vO_texted := by
          rcases hm9 with q | q
          · exact absurd q.1 (by omega)
          · exact q.2
        refine x_aload_n F dX10_read_37 rfl 0 rfl ?_
        refine x_iconst F dX10_read_38 ?_
        refine x_put (ci := 10) F hin10 tyX10_ok nmX10 0 rfl rfl 13 (by decide) hw2 rfl rfl rfl (show 13 + 1 ≤ _ from Nat.le_of_ble_eq_true rfl) dX10_read_39 [(qO, .inr (10, [.int (jI vO_blocks), .ref qO_stones, .ref qO_laid, .ref qO_deep, .int (jI vO_placings), .ref qO_placed, .int (jI vO_mortars), .ref qO_put, .ref qO_rates, .int (jI vO_limit), .int (jI vO_looks), .ref qO_seen, .ref qO_text, .int (jI 0), .int (jI pl), .int (jI vO_clauses), .ref qO_rule, .ref qO_fresh, .int (jI vO_lots), .ref qO_stocks, .ref qO_row, .ref qO_dangers, .ref qO_losses, .long (jL vO_upper), .long (jL vO_lower), .ref qO_habitUpper, .ref qO_habitLower, .int (jI a9), .long (jL wv), .int (jI ev), .ref qO_chosen, .ref qO_lost, .ref qO_zones, .ref qO_way, .ref qO_spent, .ref qO_scaffolds])), aI kI qO_text 120 fO_text, aI kI qO_rule 66 fO_rule, aI kI qO_fresh 66 fr9] rfl ?_
        refine x_iload_n F dX10_read_42 rfl 2 rfl ?_
        refine x_if_le (tgt := 51) F dX10_read_43 (by decide) (by omega) (fun c43 => ?_) (fun c43 => ?_)
        · exact absurd c43 (by omega)
        · -- 43 f
          refine x_bipush F dX10_read_46 (by decide) ?_
          refine x_iload_n F dX10_read_48 rfl 2 rfl ?_
          refine x_isub F dX10_read_49 ?_
          exact hret 0 0 50 _ ((-10) - fz) (pl, a9, wv, ev, vO_clauses, fO_rule, fr9) (Nat.le_of_ble_eq_true rfl) (Nat.le_of_ble_eq_true rfl) dX10_read_50 (by (try dsimp only); exact (⟨by rw [hC, hfz]; exact (if_pos hzl).symm, by rw [hC, hpl]; exact (if_pos hzl).symm, fun _ => ⟨rfl, rfl⟩, fun q => absurd (by rw [hC]; exact hzl) q, hOrr, hOrt, hOra9, hfg, hf3, hf4⟩))
      · -- 15 f
        obtain ⟨hpl, hsx, hdm, hm6⟩ : pl = -1 ∧ skp fO_text vO_texted a9 = rdZ fO_text vO_texted many ∧ dG (rdT fO_text vO_texted) 100 many < 0 ∧ many ≤ 6 := by
          rcases hm9 with q | q
          · exact q.2
          · exact absurd q.1 (by omega)
        have hct0 := hct1 (by omega)
        refine x_aload_n F dX10_read_18 rfl 0 rfl ?_
        refine x_callVi (ci := 10) (q0 := 0) (As := []) (st := []) F (c_X10_here D kI kJ l qO vO_blocks qO_stones qO_laid qO_deep vO_placings qO_placed vO_mortars qO_put qO_rates vO_limit vO_looks qO_seen qO_text vO_texted pl vO_clauses qO_rule qO_fresh vO_lots qO_stocks qO_row qO_dangers qO_losses vO_upper vO_lower qO_habitUpper qO_habitLower a9 wv ev qO_chosen qO_lost qO_zones qO_way qO_spent qO_scaffolds fO_text hOs hOt (by omega)) (cwV 0 F.2.2.2.2.1 gX10_read_X10_here rfl rfl rfl (by decide +kernel) ⟨Nat.le_of_ble_eq_true rfl, Nat.le_of_ble_eq_true rfl⟩) rfl rfl [0, 1] [2, 3] [2, 3, 0, 1] rfl rfl (by decide) (by decide) (by decide) (fun _ => rfl) (by decide) rfl (Nat.le_of_ble_eq_true rfl) dX10_read_19 ⟨Nat.le_of_ble_eq_true rfl, Nat.le_of_ble_eq_true rfl⟩ (fun z19 u19 h19 => ?_)
        obtain ⟨a2_19, rfl⟩ : ∃ z, z = u19 := ⟨_, rfl⟩
        try dsimp only at h19
        refine x_ws [(qO, .inr (10, [.int (jI vO_blocks), .ref qO_stones, .ref qO_laid, .ref qO_deep, .int (jI vO_placings), .ref qO_placed, .int (jI vO_mortars), .ref qO_put, .ref qO_rates, .int (jI vO_limit), .int (jI vO_looks), .ref qO_seen, .ref qO_text, .int (jI vO_texted), .int (jI pl), .int (jI vO_clauses), .ref qO_rule, .ref qO_fresh, .int (jI vO_lots), .ref qO_stocks, .ref qO_row, .ref qO_dangers, .ref qO_losses, .long (jL vO_upper), .long (jL vO_lower), .ref qO_habitUpper, .ref qO_habitLower, .int (jI a2_19), .long (jL wv), .int (jI ev), .ref qO_chosen, .ref qO_lost, .ref qO_zones, .ref qO_way, .ref qO_spent, .ref qO_scaffolds])), aI kI qO_text 120 fO_text, aI kI qO_rule 66 fO_rule, aI kI qO_fresh 66 fr9] rfl ?_
        obtain ⟨he19, ha_19⟩ := h19
        have he19 := he19.symm
        subst he19
        have hsr := skp_rng (tx := fO_text) (sz := vO_texted) (i := a9) ha9
        rw [← ha_19] at hsr
        have hcr := cha_rng (i := a2_19) hOt hOs.2 (by omega)
        have hX := ha_19.trans hsx
        have hz1 : a2_19 < vO_texted → cha fO_text vO_texted a2_19 = fO_text a2_19 ∧ 0 ≤ fO_text a2_19 := fun q => ⟨by unfold cha; rw [if_pos q], (hOt a2_19 (by omega) (by omega)).1⟩
        have hz0 : ¬ a2_19 < vO_texted → cha fO_text vO_texted a2_19 = -1 := fun q => by unfold cha; rw [if_neg q]
        refine x_if_lt (tgt := 37) F dX10_read_22 (by decide) (by omega) (fun c22 => ?_) (fun c22 => ?_)
        · -- 22 t
          refine x_aload_n F dX10_read_37 rfl 0 rfl ?_
          refine x_iconst F dX10_read_38 ?_
          refine x_put (ci := 10) F hin10 tyX10_ok nmX10 0 rfl rfl 13 (by decide) hw2 rfl rfl rfl (show 13 + 1 ≤ _ from Nat.le_of_ble_eq_true rfl) dX10_read_39 [(qO, .inr (10, [.int (jI vO_blocks), .ref qO_stones, .ref qO_laid, .ref qO_deep, .int (jI vO_placings), .ref qO_placed, .int (jI vO_mortars), .ref qO_put, .ref qO_rates, .int (jI vO_limit), .int (jI vO_looks), .ref qO_seen, .ref qO_text, .int (jI 0), .int (jI pl), .int (jI vO_clauses), .ref qO_rule, .ref qO_fresh, .int (jI vO_lots), .ref qO_stocks, .ref qO_row, .ref qO_dangers, .ref qO_losses, .long (jL vO_upper), .long (jL vO_lower), .ref qO_habitUpper, .ref qO_habitLower, .int (jI a2_19), .long (jL wv), .int (jI ev), .ref qO_chosen, .ref qO_lost, .ref qO_zones, .ref qO_way, .ref qO_spent, .ref qO_scaffolds])), aI kI qO_text 120 fO_text, aI kI qO_rule 66 fO_rule, aI kI qO_fresh 66 fr9] rfl ?_
          refine x_iload_n F dX10_read_42 rfl 2 rfl ?_
          refine x_if_le (tgt := 51) F dX10_read_43 (by decide) (by omega) (fun c43 => ?_) (fun c43 => ?_)
          · -- 43 t
            refine x_aload_n F dX10_read_51 rfl 0 rfl ?_
            refine x_iload_n F dX10_read_52 rfl 1 rfl ?_
            refine x_put (ci := 10) F hin10 tyX10_ok nmX10 0 rfl rfl 15 (by decide) hw3 rfl rfl rfl (show 15 + 1 ≤ _ from Nat.le_of_ble_eq_true rfl) dX10_read_53 [(qO, .inr (10, [.int (jI vO_blocks), .ref qO_stones, .ref qO_laid, .ref qO_deep, .int (jI vO_placings), .ref qO_placed, .int (jI vO_mortars), .ref qO_put, .ref qO_rates, .int (jI vO_limit), .int (jI vO_looks), .ref qO_seen, .ref qO_text, .int (jI 0), .int (jI pl), .int (jI many), .ref qO_rule, .ref qO_fresh, .int (jI vO_lots), .ref qO_stocks, .ref qO_row, .ref qO_dangers, .ref qO_losses, .long (jL vO_upper), .long (jL vO_lower), .ref qO_habitUpper, .ref qO_habitLower, .int (jI a2_19), .long (jL wv), .int (jI ev), .ref qO_chosen, .ref qO_lost, .ref qO_zones, .ref qO_way, .ref qO_spent, .ref qO_scaffolds])), aI kI qO_text 120 fO_text, aI kI qO_rule 66 fO_rule, aI kI qO_fresh 66 fr9] rfl ?_
            refine x_iconst F dX10_read_56 ?_
            refine x_istore_n (lv' := [(0, .ref qO), (1, .int (jI many)), (2, .int (jI fz)), (3, .int (jI 0))]) F dX10_read_57 rfl (by decide) [1, 2, 3, 0] rfl ?_
            have lp58 : ∀ (fu : Nat) (i9 : Int) (rl : (Int → Int)) (hi9 : 0 ≤ i9 ∧ i9 ≤ 66) (hcopy : ∀ k : Int, 0 ≤ k → k < i9 → rl k = fr9 k) (hm : 66 - i9 < (fu : Int)), xG D p l e (xRm 5 129 0 0) s m args below meth c 4 A Q 0 0 [(qO, .inr (10, [.int (jI vO_blocks), .ref qO_stones, .ref qO_laid, .ref qO_deep, .int (jI vO_placings), .ref qO_placed, .int (jI vO_mortars), .ref qO_put, .ref qO_rates, .int (jI vO_limit), .int (jI vO_looks), .ref qO_seen, .ref qO_text, .int (jI 0), .int (jI pl), .int (jI many), .ref qO_rule, .ref qO_fresh, .int (jI vO_lots), .ref qO_stocks, .ref qO_row, .ref qO_dangers, .ref qO_losses, .long (jL vO_upper), .long (jL vO_lower), .ref qO_habitUpper, .ref qO_habitLower, .int (jI a2_19), .long (jL wv), .int (jI ev), .ref qO_chosen, .ref qO_lost, .ref qO_zones, .ref qO_way, .ref qO_spent, .ref qO_scaffolds])), aI kI qO_text 120 fO_text, aI kI qO_rule 66 rl, aI kI qO_fresh 66 fr9] [(0, .ref qO), (1, .int (jI many)), (2, .int (jI fz)), (3, .int (jI i9))] 58 [] := by
              intro fu
              induction fu with
              | zero =>
                intro i9 rl hi9 hcopy hm
                exact absurd hm (by omega)
              | succ fu ih58 =>
                intro i9 rl hi9 hcopy hm
                refine x_iload_n F dX10_read_58 rfl 3 rfl ?_
                refine x_bipush F dX10_read_59 (by decide) ?_
                refine x_icmp_ge (tgt := 82) F dX10_read_61 (by decide) (by omega) (fun c61 => ?_) (fun c61 => ?_)
                · -- 61 t
                  refine x_aload_n F dX10_read_82 rfl 0 rfl ?_
                  refine x_get (ci := 10) F hin10 0 rfl rfl 15 (by decide) hw3 rfl dX10_read_83 ?_
                  have hCm : rdC fO_text vO_texted = many := rdC_at (by omega) hdm (Or.inl (by omega))
                  have hn9 : ¬ rdZ fO_text vO_texted (rdC fO_text vO_texted) < vO_texted := by rw [hCm]; omega
                  have hcp : ∀ k : Int, 0 ≤ k → k < 66 → rl k = fr9 k := fun k k0 k1 => hcopy k k0 (by omega)
                  exact hret 0 0 86 _ many (pl, a2_19, wv, ev, many, rl, fr9) (Nat.le_of_ble_eq_true rfl) (Nat.le_of_ble_eq_true rfl) dX10_read_86 (by (try dsimp only); exact (⟨by rw [if_neg hn9]; exact hCm.symm, by rw [if_neg hn9]; exact hpl, fun q => absurd q hn9, fun _ => ⟨⟨hCm.symm, by omega, by omega⟩, fun x x0 x1 => by have r := hct0 x x0 (by omega); refine ⟨by rw [hcp _ (by omega) (by omega)]; exact r.1, by rw [hcp _ (by omega) (by omega)]; exact r.2.1, r.2.2.1, fun i i0 i1 => ?_⟩; have r1 := r.2.2.1; rw [hcp _ (by omega) (by omega), hcp _ (by omega) (by omega), hcp _ (by omega) (by omega)]; exact r.2.2.2 i i0 i1⟩, fun k k0 k1 => by rw [hcp k k0 k1]; exact hfg k k0 k1, fun k k0 k1 => by have r := hf3 k k0 k1; (try dsimp only at r); show 0 ≤ rl (11 * k) ∧ rl (11 * k) ≤ 3; rw [hcp _ (by omega) (by omega)]; exact r, fun k k0 k1 => by have r := hf4 k k0 k1; (try dsimp only at r); show 0 ≤ rl (11 * k + 1) ∧ rl (11 * k + 1) ≤ 2; rw [hcp _ (by omega) (by omega)]; exact r, hfg, hf3, hf4⟩))
                · -- 61 f
                  refine x_aload_n F dX10_read_64 rfl 0 rfl ?_
                  refine x_get (ci := 10) F hin10 0 rfl rfl 16 (by decide) hw4 rfl dX10_read_65 ?_
                  refine x_iload_n F dX10_read_68 rfl 3 rfl ?_
                  refine x_aload_n F dX10_read_69 rfl 0 rfl ?_
                  refine x_get (ci := 10) F hin10 0 rfl rfl 17 (by decide) hw5 rfl dX10_read_70 ?_
                  refine x_iload_n F dX10_read_73 rfl 3 rfl ?_
                  refine x_iald F 3 rfl (by decide) (by omega) dX10_read_74 ?_
                  have hr74 := Rg.at hfg i9 (by omega)
                  refine x_iast F 2 rfl (by decide) (by omega) dX10_read_75 [(qO, .inr (10, [.int (jI vO_blocks), .ref qO_stones, .ref qO_laid, .ref qO_deep, .int (jI vO_placings), .ref qO_placed, .int (jI vO_mortars), .ref qO_put, .ref qO_rates, .int (jI vO_limit), .int (jI vO_looks), .ref qO_seen, .ref qO_text, .int (jI 0), .int (jI pl), .int (jI many), .ref qO_rule, .ref qO_fresh, .int (jI vO_lots), .ref qO_stocks, .ref qO_row, .ref qO_dangers, .ref qO_losses, .long (jL vO_upper), .long (jL vO_lower), .ref qO_habitUpper, .ref qO_habitLower, .int (jI a2_19), .long (jL wv), .int (jI ev), .ref qO_chosen, .ref qO_lost, .ref qO_zones, .ref qO_way, .ref qO_spent, .ref qO_scaffolds])), aI kI qO_text 120 fO_text, aI kI qO_rule 66 (iU rl i9 (fr9 i9)), aI kI qO_fresh 66 fr9] rfl ?_
                  refine x_iinc (lv' := [(0, .ref qO), (1, .int (jI many)), (2, .int (jI fz)), (3, .int (jI (i9 + 1)))]) (k := 3) F dX10_read_76 rfl (by decide) [1, 2, 3, 0] rfl ?_
                  refine x_goto (tgt := 58) F dX10_read_79 (by decide) ?_
                  exact ih58 (i9 + 1) (iU rl i9 (fr9 i9)) (by omega) (fun k h1 h2 => by by_cases e : k = i9; (rw [e, iU_s]); (rw [iU_n e]; exact hcopy k h1 (by omega))) (by omega)
            exact lp58 (Int.toNat (66 - 0) + 1) 0 fO_rule (by omega) (fun k h1 h2 => by omega) (by omega)
          · exact absurd c43 (by omega)
        · -- 22 f
          refine x_aload_n F dX10_read_25 rfl 0 rfl ?_
          refine x_iload_n F dX10_read_26 rfl 1 rfl ?_
          refine x_callVi (ci := 10) (q0 := 0) (As := [.int (jI many)]) (st := []) F (c_X10_readClause D kI kJ l qO many vO_blocks qO_stones qO_laid qO_deep vO_placings qO_placed vO_mortars qO_put qO_rates vO_limit vO_looks qO_seen qO_text vO_texted pl vO_clauses qO_rule qO_fresh vO_lots qO_stocks qO_row qO_dangers qO_losses vO_upper vO_lower qO_habitUpper qO_habitLower a2_19 wv ev qO_chosen qO_lost qO_zones qO_way qO_spent qO_scaffolds fO_text fr9 hOs hOt (by omega) hfg hf3 hf4 (by omega) (by rw [ha_19]; exact skp_skp _ _ _)) (cwV 1 F.2.2.2.2.1 gX10_read_X10_readClause rfl rfl rfl (by decide +kernel) ⟨Nat.le_of_ble_eq_true rfl, Nat.le_of_ble_eq_true rfl⟩) rfl rfl [0, 1, 3] [2] [1, 2, 0, 3] rfl rfl (by decide) (by decide) (by decide) (fun _ => rfl) (by decide) rfl (Nat.le_of_ble_eq_true rfl) dX10_read_27 ⟨Nat.le_of_ble_eq_true rfl, Nat.le_of_ble_eq_true rfl⟩ (fun z27 u27 h27 => ?_)
          obtain ⟨p2_27, a2_27, w2_27, e2_27, f2_27⟩ := u27
          try dsimp only at h27
          refine x_ws [(qO, .inr (10, [.int (jI vO_blocks), .ref qO_stones, .ref qO_laid, .ref qO_deep, .int (jI vO_placings), .ref qO_placed, .int (jI vO_mortars), .ref qO_put, .ref qO_rates, .int (jI vO_limit), .int (jI vO_looks), .ref qO_seen, .ref qO_text, .int (jI vO_texted), .int (jI p2_27), .int (jI vO_clauses), .ref qO_rule, .ref qO_fresh, .int (jI vO_lots), .ref qO_stocks, .ref qO_row, .ref qO_dangers, .ref qO_losses, .long (jL vO_upper), .long (jL vO_lower), .ref qO_habitUpper, .ref qO_habitLower, .int (jI a2_27), .long (jL w2_27), .int (jI e2_27), .ref qO_chosen, .ref qO_lost, .ref qO_zones, .ref qO_way, .ref qO_spent, .ref qO_scaffolds])), aI kI qO_text 120 fO_text, aI kI qO_rule 66 fO_rule, aI kI qO_fresh 66 f2_27] rfl ?_
          obtain ⟨he27, h0_27, h1_27, hfr_27, hab_27, hfg_27, hf3_27, hf4_27⟩ := h27
          have he27 := he27.symm
          subst he27
          have hcf := clF_rng fO_text vO_texted many a2_19
          have hmj : (clF fO_text vO_texted many a2_19 = 0 ∧ p2_27 = -1 ∧ skp fO_text vO_texted a2_27 = rdZ fO_text vO_texted (many + 1) ∧ dG (rdT fO_text vO_texted) 100 (many + 1) < 0 ∧ many + 1 ≤ 6) ∨ (¬ clF fO_text vO_texted many a2_19 = 0 ∧ 1 ≤ many + 1 ∧ clF fO_text vO_texted many a2_19 = clF fO_text vO_texted (many + 1 - 1) (rdZ fO_text vO_texted (many + 1 - 1)) ∧ p2_27 = clA fO_text vO_texted (many + 1 - 1) (rdZ fO_text vO_texted (many + 1 - 1)) ∧ rdC fO_text vO_texted = many + 1 - 1 ∧ rdZ fO_text vO_texted (many + 1 - 1) < vO_texted) := by
            by_cases q : clF fO_text vO_texted many a2_19 = 0
            · have g := h0_27 q
              exact Or.inl ⟨q, g.1.1.1.trans hpl, by rw [g.1.1.2, rdZ_s hmn.1, ← hX], rdT_go hmn.1 hdm (by omega) (by rw [← hX]; exact q), by omega⟩
            · rw [show many + 1 - 1 = many by omega, ← hX]
              exact Or.inr ⟨q, by omega, rfl, h1_27 q, rdC_at (by omega) hdm (Or.inr (by rw [← hX]; exact q)), by omega⟩
          have hct2 : clF fO_text vO_texted many a2_19 = 0 → ∀ x : Int, 0 ≤ x → x < many + 1 → f2_27 (11 * x) = clJ fO_text vO_texted x (rdZ fO_text vO_texted x) + 1 ∧ f2_27 (11 * x + 1) = clB fO_text vO_texted x (rdZ fO_text vO_texted x) ∧ (0 ≤ clJ fO_text vO_texted x (rdZ fO_text vO_texted x) ∧ clJ fO_text vO_texted x (rdZ fO_text vO_texted x) ≤ 2) ∧ ∀ i : Int, 0 ≤ i → i ≤ clJ fO_text vO_texted x (rdZ fO_text vO_texted x) → f2_27 ((11 * x + 2) + 3 * i) = tsN fO_text vO_texted (clX fO_text vO_texted (rdZ fO_text vO_texted x) i) ∧ f2_27 ((11 * x + 2) + 3 * i + 1) = (if tsS fO_text vO_texted (clX fO_text vO_texted (rdZ fO_text vO_texted x) i) = 60 then 0 else 1) ∧ f2_27 ((11 * x + 2) + 3 * i + 2) = tsV fO_text vO_texted (clX fO_text vO_texted (rdZ fO_text vO_texted x) i) := fun q x x0 x1 => by
            have g := h0_27 q
            by_cases e : x = many
            · rw [e, ← hX]
              exact ⟨g.2.1, g.2.2.1.1, g.1.2.2, g.2.2.2⟩
            · have r := hct0 x x0 (by omega)
              refine ⟨by rw [hfr_27 _ (by omega)]; exact r.1, by rw [hfr_27 _ (by omega)]; exact r.2.1, r.2.2.1, fun i i0 i1 => ?_⟩
              have r1 := r.2.2.1
              rw [hfr_27 _ (by omega), hfr_27 _ (by omega), hfr_27 _ (by omega)]
              exact r.2.2.2 i i0 i1
          refine x_istore_n (lv' := [(0, .ref qO), (1, .int (jI many)), (2, .int (jI (clF fO_text vO_texted many a2_19)))]) F dX10_read_30 rfl (by decide) [1, 2, 0] rfl ?_
          refine x_iinc (lv' := [(0, .ref qO), (1, .int (jI (many + 1))), (2, .int (jI (clF fO_text vO_texted many a2_19)))]) (k := 1) F dX10_read_31 rfl (by decide) [1, 0, 2] rfl ?_
          refine x_goto (tgt := 14) F dX10_read_34 (by decide) ?_
          exact ih14 (many + 1) (clF fO_text vO_texted many a2_19) a2_27 p2_27 w2_27 e2_27 f2_27 (by omega) (by omega) (by omega) hmj hct2 hfg_27 hf3_27 hf4_27 (by omega)
  exact lp14 (Int.toNat (8 - 0) + 1) 0 0 0 (-1) vO_word vO_wordEnd fO_fresh (by omega) (by omega) (by omega) (Or.inl ⟨rfl, rfl, rfl, by rw [dG_0]; omega, by omega⟩) (fun _ x h1 h2 => by omega) hOf hOf3 hOf4 (by omega)
