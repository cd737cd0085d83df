set_option maxHeartbeats 4000000 in
set_option maxRecDepth 100000 in
theorem c_X10_findState (D : va_G) (kI kJ : Nat) (l : Launch) (qO : Nat) (b : Int) (year : Int) (known : Int) (vO_blocks : Int) (qO_stones : Nat) (qO_laid : Nat) (qO_deep : Nat) (vO_placings : Int) (qO_placed : Nat) (vO_mortars : Int) (qO_put : Nat) (qO_rates : Nat) (vO_limit : Int) (vO_looks : Int) (qO_seen : Nat) (qO_text : Nat) (vO_texted : Int) (vO_faultPlace : Int) (vO_clauses : Int) (qO_rule : Nat) (qO_fresh : Nat) (vO_lots : Int) (qO_stocks : Nat) (qO_row : Nat) (qO_dangers : Nat) (qO_losses : Nat) (vO_upper : Int) (vO_lower : Int) (qO_habitUpper : Nat) (qO_habitLower : Nat) (vO_at : Int) (vO_word : Int) (vO_wordEnd : Int) (qO_chosen : Nat) (qO_lost : Nat) (qO_zones : Nat) (qO_way : Nat) (qO_spent : Nat) (qO_scaffolds : Nat) (fO_seen : (Int → Int)) (fO_habitUpper : (Int → Int)) (fO_habitLower : (Int → Int)) (hr_b : -2147483648 ≤ b ∧ b < 2147483648) (hr_year : -2147483648 ≤ year ∧ year < 2147483648) (hk : 0 ≤ known ∧ known ≤ 80) (hOsn : Rg fO_seen 320 0 400) (hOs1 : Rg (fun k => fO_seen (4 * k + 1)) 80 0 3) (hOs3 : Rg (fun k => fO_seen (4 * k + 3)) 80 0 99) : xMi D kI kJ l yX10_findState wsX10_findState 4 115 0 0 [.ref qO, .int (jI b), .int (jI year), .int (jI known)] [(qO, .inr (10, [.int (jI vO_blocks), .ref qO_stones, .ref qO_laid, .ref qO_deep, .int (jI vO_placings), .ref qO_placed, .int (jI vO_mortars), .ref qO_put, .ref qO_rates, .int (jI vO_limit), .int (jI vO_looks), .ref qO_seen, .ref qO_text, .int (jI vO_texted), .int (jI vO_faultPlace), .int (jI vO_clauses), .ref qO_rule, .ref qO_fresh, .int (jI vO_lots), .ref qO_stocks, .ref qO_row, .ref qO_dangers, .ref qO_losses, .long (jL vO_upper), .long (jL vO_lower), .ref qO_habitUpper, .ref qO_habitLower, .int (jI vO_at), .long (jL vO_word), .int (jI vO_wordEnd), .ref qO_chosen, .ref qO_lost, .ref qO_zones, .ref qO_way, .ref qO_spent, .ref qO_scaffolds])), aI kI qO_seen 320 fO_seen, aJ kJ qO_habitUpper 4 fO_habitUpper, aJ kJ qO_habitLower 4 fO_habitLower] (fun (z : Int) (u : (Int → Int) × (Int → Int) × Int × Int) => xBool z (¬ (laI (fun k => fO_seen (4 * k)) (fun k => fO_seen (4 * k + 2)) b year known) = -1) ∧ (¬ (laI (fun k => fO_seen (4 * k)) (fun k => fO_seen (4 * k + 2)) b year known) = -1 → u.2.2.1 = stU (fun k => fO_seen (4 * k)) (fun k => fO_seen (4 * k + 2)) (fun k => fO_seen (4 * k + 1)) (fun k => fO_seen (4 * k + 3)) b year known ∧ u.2.2.2 = stL (fun k => fO_seen (4 * k)) (fun k => fO_seen (4 * k + 2)) (fun k => fO_seen (4 * k + 1)) (fun k => fO_seen (4 * k + 3)) b year known)) (fun (u : (Int → Int) × (Int → Int) × Int × Int) => [(qO, .inr (10, [.int (jI vO_blocks), .ref qO_stones, .ref qO_laid, .ref qO_deep, .int (jI vO_placings), .ref qO_placed, .int (jI vO_mortars), .ref qO_put, .ref qO_rates, .int (jI vO_limit), .int (jI vO_looks), .ref qO_seen, .ref qO_text, .int (jI vO_texted), .int (jI vO_faultPlace), .int (jI vO_clauses), .ref qO_rule, .ref qO_fresh, .int (jI vO_lots), .ref qO_stocks, .ref qO_row, .ref qO_dangers, .ref qO_losses, .long (jL u.2.2.1), .long (jL u.2.2.2), .ref qO_habitUpper, .ref qO_habitLower, .int (jI vO_at), .long (jL vO_word), .int (jI vO_wordEnd), .ref qO_chosen, .ref qO_lost, .ref qO_zones, .ref qO_way, .ref qO_spent, .ref qO_scaffolds])), aI kI qO_seen 320 fO_seen, aJ kJ qO_habitUpper 4 u.1, aJ kJ qO_habitLower 4 u.2.1]) := by
  refine xMi_of (cc := cX10_findState) (maxL := 14) (rt := .boolean) (by decide) rfl (Nat.le_of_ble_eq_true rfl) (fun z u hp => xBool_nar hp.1) ?_
  intro p e s m args below meth c A Q F hin2 hret
  have hin10 : ∀ w ∈ wsX100, w ∈ wsX10_findState := by decide +kernel
  have hw0 : Cond.fieldLink RX10 159 (TX10 23).1 (TX10 23).2.1 (TX10 23).2.2.1 ∈ wsX10_findState := by decide +kernel
  have hw1 : Cond.fieldLink RX10 163 (TX10 24).1 (TX10 24).2.1 (TX10 24).2.2.1 ∈ wsX10_findState := by decide +kernel
  have hw2 : Cond.fieldLink RX10 59 (TX10 25).1 (TX10 25).2.1 (TX10 25).2.2.1 ∈ wsX10_findState := by decide +kernel
  have hw3 : Cond.fieldLink RX10 63 (TX10 26).1 (TX10 26).2.1 (TX10 26).2.2.1 ∈ wsX10_findState := by decide +kernel
  have hw4 : Cond.fieldLink RX10 32 (TX10 11).1 (TX10 11).2.1 (TX10 11).2.2.1 ∈ wsX10_findState := by decide +kernel
  refine x_lveq (lv' := [(0, .ref qO), (1, .int (jI b)), (2, .int (jI year)), (3, .int (jI known))]) rfl ?_
  have hyk : Rg (fun k => fO_seen (4 * k + 2)) 80 0 400 := fun k k0 k1 => hOsn _ (by omega) (by omega)
  have hgk : ∀ k : Int, 0 ≤ k → k < known → 0 ≤ (fun k => fO_seen (4 * k + 3)) k ∧ (fun k => fO_seen (4 * k + 3)) k ≤ 99 := fun k k0 k1 => hOs3 k k0 (by omega)
  have hhk : ∀ k : Int, 0 ≤ k → k < known → 0 ≤ (fun k => fO_seen (4 * k + 1)) k ∧ (fun k => fO_seen (4 * k + 1)) k ≤ 3 := fun k k0 k1 => hOs1 k k0 (by omega)
  refine x_iconst F dX10_findState_0 ?_
  refine x_istore (lv' := [(0, .ref qO), (1, .int (jI b)), (2, .int (jI year)), (3, .int (jI known)), (4, .int (jI (-1)))]) F dX10_findState_1 (by decide) [1, 2, 3, 4, 0] rfl ?_
  refine x_iconst F dX10_findState_3 ?_
  refine x_istore (lv' := [(0, .ref qO), (1, .int (jI b)), (2, .int (jI year)), (3, .int (jI known)), (4, .int (jI (-1))), (5, .int (jI 0))]) F dX10_findState_4 (by decide) [1, 2, 3, 4, 5, 0] rfl ?_
  have lp6 : ∀ (fu : Nat) (la : Int) (i : Int) (hi : 0 ≤ i ∧ i ≤ known) (hla : la = laI (fun k => fO_seen (4 * k)) (fun k => fO_seen (4 * k + 2)) b year i) (hm : known - i < (fu : Int)), xG D p l e (xRm 4 115 0 0) s m args below meth c 14 A Q 0 0 [(qO, .inr (10, [.int (jI vO_blocks), .ref qO_stones, .ref qO_laid, .ref qO_deep, .int (jI vO_placings), .ref qO_placed, .int (jI vO_mortars), .ref qO_put, .ref qO_rates, .int (jI vO_limit), .int (jI vO_looks), .ref qO_seen, .ref qO_text, .int (jI vO_texted), .int (jI vO_faultPlace), .int (jI vO_clauses), .ref qO_rule, .ref qO_fresh, .int (jI vO_lots), .ref qO_stocks, .ref qO_row, .ref qO_dangers, .ref qO_losses, .long (jL vO_upper), .long (jL vO_lower), .ref qO_habitUpper, .ref qO_habitLower, .int (jI vO_at), .long (jL vO_word), .int (jI vO_wordEnd), .ref qO_chosen, .ref qO_lost, .ref qO_zones, .ref qO_way, .ref qO_spent, .ref qO_scaffolds])), aI kI qO_seen 320 fO_seen, aJ kJ qO_habitUpper 4 fO_habitUpper, aJ kJ qO_habitLower 4 fO_habitLower] [(0, .ref qO), (1, .int (jI b)), (2, .int (jI year)), (3, .int (jI known)), (4, .int (jI la)), (5, .int (jI i))] 6 [] := by
    intro fu
    induction fu with
    | zero =>
      intro la i hi hla hm
      exact absurd hm (by omega)
    | succ fu ih6 =>
      intro la i hi hla hm
      have hlr : -1 ≤ la ∧ la ≤ 400 := by rw [hla]; exact laI_rng hyk hi.1 (by omega)
      refine x_iload F dX10_findState_6 5 rfl ?_
      refine x_iload_n F dX10_findState_8 rfl 3 rfl ?_
      refine x_icmp_ge (tgt := 80) F dX10_findState_9 (by decide) (by omega) (fun c9 => ?_) (fun c9 => ?_)
      · -- 9 t
        have hla9 : la = (laI (fun k => fO_seen (4 * k)) (fun k => fO_seen (4 * k + 2)) b year known) := by rw [hla, show i = known by omega]
        refine x_iload F dX10_findState_80 4 rfl ?_
        refine x_if_ge (tgt := 87) F dX10_findState_82 (by decide) (by omega) (fun c82 => ?_) (fun c82 => ?_)
        · -- 82 t
          have htp := tF_pos (b := fun k => fO_seen (4 * k)) (y := fun k => fO_seen (4 * k + 2)) (bb := b) (yr := year) (n := known) hk.1 (by rw [← hla9]; omega)
          rw [← hla9] at htp
          have hdr : ∀ k : Int, 1 ≤ hD (fun k => fO_seen (4 * k)) (fun k => fO_seen (4 * k + 2)) (fun k => fO_seen (4 * k + 1)) known k ∧ hD (fun k => fO_seen (4 * k)) (fun k => fO_seen (4 * k + 2)) (fun k => fO_seen (4 * k + 1)) known k ≤ 3200 := fun k => hD_rng hk
          have hsr : ∀ k : Int, -(99 * hN (fun k => fO_seen (4 * k)) (fun k => fO_seen (4 * k + 2)) (fun k => fO_seen (4 * k + 1)) known k) ≤ hS (fun k => fO_seen (4 * k)) (fun k => fO_seen (4 * k + 2)) (fun k => fO_seen (4 * k + 1)) (fun k => fO_seen (4 * k + 3)) known k ∧ hS (fun k => fO_seen (4 * k)) (fun k => fO_seen (4 * k + 2)) (fun k => fO_seen (4 * k + 1)) (fun k => fO_seen (4 * k + 3)) known k ≤ 99 * hN (fun k => fO_seen (4 * k)) (fun k => fO_seen (4 * k + 2)) (fun k => fO_seen (4 * k + 1)) known k := fun k => hS_bd hk.1 hgk
          have hnr : ∀ k : Int, 0 ≤ hN (fun k => fO_seen (4 * k)) (fun k => fO_seen (4 * k + 2)) (fun k => fO_seen (4 * k + 1)) known k ∧ hN (fun k => fO_seen (4 * k)) (fun k => fO_seen (4 * k + 2)) (fun k => fO_seen (4 * k + 1)) known k ≤ 1600 := fun k => ⟨hN_0 hk.1, hN_le hk⟩
          refine x_aload_n F dX10_findState_87 rfl 0 rfl ?_
          refine x_iload_n F dX10_findState_88 rfl 3 rfl ?_
          refine x_callVv (ci := 10) (q0 := 0) (As := [.int (jI known)]) (st := []) F (c_X10_findHabits D kI kJ l qO known vO_blocks qO_stones qO_laid qO_deep vO_placings qO_placed vO_mortars qO_put qO_rates vO_limit vO_looks qO_seen qO_text vO_texted vO_faultPlace vO_clauses qO_rule qO_fresh vO_lots qO_stocks qO_row qO_dangers qO_losses vO_upper vO_lower qO_habitUpper qO_habitLower vO_at vO_word vO_wordEnd qO_chosen qO_lost qO_zones qO_way qO_spent qO_scaffolds fO_seen fO_habitUpper fO_habitLower hk hOsn hOs1 hOs3) (cwV 1 F.2.2.2.2.1 gX10_findState_X10_findHabits rfl rfl rfl (by decide +kernel) ⟨Nat.le_of_ble_eq_true rfl, Nat.le_of_ble_eq_true rfl⟩) rfl rfl [0, 1, 2, 3] [] [0, 1, 2, 3] rfl rfl (by decide) (by decide) (by decide) (fun _ => rfl) (by decide) rfl (Nat.le_of_ble_eq_true rfl) dX10_findState_89 ⟨Nat.le_of_ble_eq_true rfl, Nat.le_of_ble_eq_true rfl⟩ (fun u89 h89 => ?_)
          obtain ⟨hu2_89, hl2_89⟩ := u89
          try dsimp only at h89
          refine x_ws [(qO, .inr (10, [.int (jI vO_blocks), .ref qO_stones, .ref qO_laid, .ref qO_deep, .int (jI vO_placings), .ref qO_placed, .int (jI vO_mortars), .ref qO_put, .ref qO_rates, .int (jI vO_limit), .int (jI vO_looks), .ref qO_seen, .ref qO_text, .int (jI vO_texted), .int (jI vO_faultPlace), .int (jI vO_clauses), .ref qO_rule, .ref qO_fresh, .int (jI vO_lots), .ref qO_stocks, .ref qO_row, .ref qO_dangers, .ref qO_losses, .long (jL vO_upper), .long (jL vO_lower), .ref qO_habitUpper, .ref qO_habitLower, .int (jI vO_at), .long (jL vO_word), .int (jI vO_wordEnd), .ref qO_chosen, .ref qO_lost, .ref qO_zones, .ref qO_way, .ref qO_spent, .ref qO_scaffolds])), aI kI qO_seen 320 fO_seen, aJ kJ qO_habitUpper 4 hu2_89, aJ kJ qO_habitLower 4 hl2_89] rfl ?_
          obtain ⟨hu_89, hl_89⟩ := h89
          refine x_aload_n F dX10_findState_92 rfl 0 rfl ?_
          refine x_lconst F 0 dX10_findState_93 (by decide) ?_
          refine x_put (ci := 10) F hin10 tyX10_ok nmX10 0 rfl rfl 23 (by decide) hw0 rfl rfl rfl (show 23 + 1 ≤ _ from Nat.le_of_ble_eq_true rfl) dX10_findState_94 [(qO, .inr (10, [.int (jI vO_blocks), .ref qO_stones, .ref qO_laid, .ref qO_deep, .int (jI vO_placings), .ref qO_placed, .int (jI vO_mortars), .ref qO_put, .ref qO_rates, .int (jI vO_limit), .int (jI vO_looks), .ref qO_seen, .ref qO_text, .int (jI vO_texted), .int (jI vO_faultPlace), .int (jI vO_clauses), .ref qO_rule, .ref qO_fresh, .int (jI vO_lots), .ref qO_stocks, .ref qO_row, .ref qO_dangers, .ref qO_losses, .long (jL 0), .long (jL vO_lower), .ref qO_habitUpper, .ref qO_habitLower, .int (jI vO_at), .long (jL vO_word), .int (jI vO_wordEnd), .ref qO_chosen, .ref qO_lost, .ref qO_zones, .ref qO_way, .ref qO_spent, .ref qO_scaffolds])), aI kI qO_seen 320 fO_seen, aJ kJ qO_habitUpper 4 hu2_89, aJ kJ qO_habitLower 4 hl2_89] rfl ?_
          refine x_aload_n F dX10_findState_97 rfl 0 rfl ?_
          refine x_lconst F 1 dX10_findState_98 (by decide) ?_
          refine x_put (ci := 10) F hin10 tyX10_ok nmX10 0 rfl rfl 24 (by decide) hw1 rfl rfl rfl (show 24 + 1 ≤ _ from Nat.le_of_ble_eq_true rfl) dX10_findState_99 [(qO, .inr (10, [.int (jI vO_blocks), .ref qO_stones, .ref qO_laid, .ref qO_deep, .int (jI vO_placings), .ref qO_placed, .int (jI vO_mortars), .ref qO_put, .ref qO_rates, .int (jI vO_limit), .int (jI vO_looks), .ref qO_seen, .ref qO_text, .int (jI vO_texted), .int (jI vO_faultPlace), .int (jI vO_clauses), .ref qO_rule, .ref qO_fresh, .int (jI vO_lots), .ref qO_stocks, .ref qO_row, .ref qO_dangers, .ref qO_losses, .long (jL 0), .long (jL 1), .ref qO_habitUpper, .ref qO_habitLower, .int (jI vO_at), .long (jL vO_word), .int (jI vO_wordEnd), .ref qO_chosen, .ref qO_lost, .ref qO_zones, .ref qO_way, .ref qO_spent, .ref qO_scaffolds])), aI kI qO_seen 320 fO_seen, aJ kJ qO_habitUpper 4 hu2_89, aJ kJ qO_habitLower 4 hl2_89] rfl ?_
          refine x_lconst F 0 dX10_findState_102 (by decide) ?_
          refine x_lstore (lv' := [(0, .ref qO), (1, .int (jI b)), (2, .int (jI year)), (3, .int (jI known)), (4, .int (jI la)), (5, .long (jL 0))]) F dX10_findState_103 (by decide) [1, 2, 3, 4, 5, 0] rfl ?_
          refine x_iconst F dX10_findState_105 ?_
          refine x_istore (lv' := [(0, .ref qO), (1, .int (jI b)), (2, .int (jI year)), (3, .int (jI known)), (4, .int (jI la)), (5, .long (jL 0)), (7, .int (jI 0))]) F dX10_findState_106 (by decide) [1, 2, 3, 4, 5, 6, 0] rfl ?_
          have lp108 : ∀ (fu : Nat) (many : Int) (hand : Int) (uu : Int) (ll : Int) (hh : 0 ≤ hand ∧ hand ≤ 4) (hmany : many = sm (sT (fun k => fO_seen (4 * k)) (fun k => fO_seen (4 * k + 2)) (fun k => fO_seen (4 * k + 1)) b la known) hand) (hfr : uu = nU (stM (fun k => fO_seen (4 * k)) (fun k => fO_seen (4 * k + 2)) (fun k => fO_seen (4 * k + 1)) (fun k => fO_seen (4 * k + 3)) b la known hand) (frD (hD (fun k => fO_seen (4 * k)) (fun k => fO_seen (4 * k + 2)) (fun k => fO_seen (4 * k + 1)) known) hand) ∧ ll = nL (stM (fun k => fO_seen (4 * k)) (fun k => fO_seen (4 * k + 2)) (fun k => fO_seen (4 * k + 1)) (fun k => fO_seen (4 * k + 3)) b la known hand) (frD (hD (fun k => fO_seen (4 * k)) (fun k => fO_seen (4 * k + 2)) (fun k => fO_seen (4 * k + 1)) known) hand)) (hm : 4 - hand < (fu : Int)), xG D p l e (xRm 4 115 0 0) s m args below meth c 14 A Q 0 0 [(qO, .inr (10, [.int (jI vO_blocks), .ref qO_stones, .ref qO_laid, .ref qO_deep, .int (jI vO_placings), .ref qO_placed, .int (jI vO_mortars), .ref qO_put, .ref qO_rates, .int (jI vO_limit), .int (jI vO_looks), .ref qO_seen, .ref qO_text, .int (jI vO_texted), .int (jI vO_faultPlace), .int (jI vO_clauses), .ref qO_rule, .ref qO_fresh, .int (jI vO_lots), .ref qO_stocks, .ref qO_row, .ref qO_dangers, .ref qO_losses, .long (jL uu), .long (jL ll), .ref qO_habitUpper, .ref qO_habitLower, .int (jI vO_at), .long (jL vO_word), .int (jI vO_wordEnd), .ref qO_chosen, .ref qO_lost, .ref qO_zones, .ref qO_way, .ref qO_spent, .ref qO_scaffolds])), aI kI qO_seen 320 fO_seen, aJ kJ qO_habitUpper 4 hu2_89, aJ kJ qO_habitLower 4 hl2_89] [(0, .ref qO), (1, .int (jI b)), (2, .int (jI year)), (3, .int (jI known)), (4, .int (jI la)), (5, .long (jL many)), (7, .int (jI hand))] 108 [] := by
            intro fu
            induction fu with
            | zero =>
              intro many hand uu ll hh hmany hfr hm
              exact absurd hm (by omega)
            | succ fu ih108 =>
              intro many hand uu ll hh hmany hfr hm
              refine x_iload F dX10_findState_108 6 rfl ?_
              refine x_iconst F dX10_findState_110 ?_
              refine x_icmp_ge (tgt := 277) F dX10_findState_111 (by decide) (by omega) (fun c111 => ?_) (fun c111 => ?_)
              · -- 111 t
                have hm9 : many = sm (tF (fun k => fO_seen (4 * k)) (fun k => fO_seen (4 * k + 2)) b la) known := by rw [hmany, show hand = 4 by omega]; exact sT_sum hk.1 hhk
                have hmr := tF_rng (b := fun k => fO_seen (4 * k)) (y := fun k => fO_seen (4 * k + 2)) (bb := b) (lt := la) (n := known) hk.1
                rw [show hand = 4 by omega, stM_4 hk.1 hhk] at hfr
                have hbd := stN_bd (b := fun k => fO_seen (4 * k)) (y := fun k => fO_seen (4 * k + 2)) (h := fun k => fO_seen (4 * k + 1)) (g := fun k => fO_seen (4 * k + 3)) (bb := b) (lt := la) (n := known) (i := 4) hk hgk hhk (by omega)
                have hgb := nU_bd hbd.1 hbd.2
                have hlp := nL_pos (u := stN (fun k => fO_seen (4 * k)) (fun k => fO_seen (4 * k + 2)) (fun k => fO_seen (4 * k + 1)) (fun k => fO_seen (4 * k + 3)) b la known 4) hbd.1
                have hle := nL_le (u := stN (fun k => fO_seen (4 * k)) (fun k => fO_seen (4 * k + 2)) (fun k => fO_seen (4 * k + 1)) (fun k => fO_seen (4 * k + 3)) b la known 4) hbd.1
                rw [← hfr.2] at hgb hlp hle
                rw [← hfr.1] at hgb
                have hd4 := frD_le4 (dd := hD (fun k => fO_seen (4 * k)) (fun k => fO_seen (4 * k + 2)) (fun k => fO_seen (4 * k + 1)) known) (fun k _ _ => hdr k)
                have m4 := mul_bd (a := ll) (b := many) (A := 104857600000000) (B := 80) (by omega) (by omega)
                have m5 := Int.mul_pos (a := ll) (b := many) (by omega) (by omega)
                have hst9 : nU uu (ll * many) = stU (fun k => fO_seen (4 * k)) (fun k => fO_seen (4 * k + 2)) (fun k => fO_seen (4 * k + 1)) (fun k => fO_seen (4 * k + 3)) b year known ∧ nL uu (ll * many) = stL (fun k => fO_seen (4 * k)) (fun k => fO_seen (4 * k + 2)) (fun k => fO_seen (4 * k + 1)) (fun k => fO_seen (4 * k + 3)) b year known := by
                  unfold stU stL
                  rw [hfr.1, hfr.2, hm9, ← hla9]
                  exact fr_div hbd.1 htp
                refine x_aload_n F dX10_findState_277 rfl 0 rfl ?_
                refine x_dup F dX10_findState_278 rfl ?_
                refine x_get (ci := 10) F hin10 0 rfl rfl 24 (by decide) hw1 rfl dX10_findState_279 ?_
                refine x_lload F dX10_findState_282 5 rfl ?_
                refine x_lmul F dX10_findState_284 ?_
                refine x_put (ci := 10) F hin10 tyX10_ok nmX10 0 rfl rfl 24 (by decide) hw1 rfl rfl rfl (show 24 + 1 ≤ _ from Nat.le_of_ble_eq_true rfl) dX10_findState_285 [(qO, .inr (10, [.int (jI vO_blocks), .ref qO_stones, .ref qO_laid, .ref qO_deep, .int (jI vO_placings), .ref qO_placed, .int (jI vO_mortars), .ref qO_put, .ref qO_rates, .int (jI vO_limit), .int (jI vO_looks), .ref qO_seen, .ref qO_text, .int (jI vO_texted), .int (jI vO_faultPlace), .int (jI vO_clauses), .ref qO_rule, .ref qO_fresh, .int (jI vO_lots), .ref qO_stocks, .ref qO_row, .ref qO_dangers, .ref qO_losses, .long (jL uu), .long (jL (ll * many)), .ref qO_habitUpper, .ref qO_habitLower, .int (jI vO_at), .long (jL vO_word), .int (jI vO_wordEnd), .ref qO_chosen, .ref qO_lost, .ref qO_zones, .ref qO_way, .ref qO_spent, .ref qO_scaffolds])), aI kI qO_seen 320 fO_seen, aJ kJ qO_habitUpper 4 hu2_89, aJ kJ qO_habitLower 4 hl2_89] rfl ?_
                refine x_aload_n F dX10_findState_288 rfl 0 rfl ?_
                refine x_callVv (ci := 10) (q0 := 0) (As := []) (st := []) F (c_X10_least D kI kJ l qO vO_blocks qO_stones qO_laid qO_deep vO_placings qO_placed vO_mortars qO_put qO_rates vO_limit vO_looks qO_seen qO_text vO_texted vO_faultPlace vO_clauses qO_rule qO_fresh vO_lots qO_stocks qO_row qO_dangers qO_losses uu (ll * many) qO_habitUpper qO_habitLower vO_at vO_word vO_wordEnd qO_chosen qO_lost qO_zones qO_way qO_spent qO_scaffolds (by omega) (by omega)) (cwV 0 F.2.2.2.2.1 gX10_findState_X10_least rfl rfl rfl (by decide +kernel) ⟨Nat.le_of_ble_eq_true rfl, Nat.le_of_ble_eq_true rfl⟩) rfl rfl [0] [1, 2, 3] [3, 0, 1, 2] rfl rfl (by decide) (by decide) (by decide) (fun _ => rfl) (by decide) rfl (Nat.le_of_ble_eq_true rfl) dX10_findState_289 ⟨Nat.le_of_ble_eq_true rfl, Nat.le_of_ble_eq_true rfl⟩ (fun u289 h289 => ?_)
                try dsimp only at h289
                refine x_ws [(qO, .inr (10, [.int (jI vO_blocks), .ref qO_stones, .ref qO_laid, .ref qO_deep, .int (jI vO_placings), .ref qO_placed, .int (jI vO_mortars), .ref qO_put, .ref qO_rates, .int (jI vO_limit), .int (jI vO_looks), .ref qO_seen, .ref qO_text, .int (jI vO_texted), .int (jI vO_faultPlace), .int (jI vO_clauses), .ref qO_rule, .ref qO_fresh, .int (jI vO_lots), .ref qO_stocks, .ref qO_row, .ref qO_dangers, .ref qO_losses, .long (jL (nU uu (ll * many))), .long (jL (nL uu (ll * many))), .ref qO_habitUpper, .ref qO_habitLower, .int (jI vO_at), .long (jL vO_word), .int (jI vO_wordEnd), .ref qO_chosen, .ref qO_lost, .ref qO_zones, .ref qO_way, .ref qO_spent, .ref qO_scaffolds])), aI kI qO_seen 320 fO_seen, aJ kJ qO_habitUpper 4 hu2_89, aJ kJ qO_habitLower 4 hl2_89] rfl ?_
                refine x_iconst F dX10_findState_292 ?_
                exact hret 0 0 293 _ 1 (hu2_89, hl2_89, (nU uu (ll * many)), (nL uu (ll * many))) (Nat.le_of_ble_eq_true rfl) (Nat.le_of_ble_eq_true rfl) dX10_findState_293 (by (try dsimp only); exact (⟨xBool_t (by omega), fun _ => hst9⟩))
              · -- 111 f
                refine x_lconst F 0 dX10_findState_114 (by decide) ?_
                refine x_lstore (lv' := [(0, .ref qO), (1, .int (jI b)), (2, .int (jI year)), (3, .int (jI known)), (4, .int (jI la)), (5, .long (jL many)), (7, .int (jI hand)), (8, .long (jL 0))]) F dX10_findState_115 (by decide) [1, 2, 3, 4, 5, 6, 7, 0] rfl ?_
                refine x_lconst F 0 dX10_findState_117 (by decide) ?_
                refine x_lstore (lv' := [(0, .ref qO), (1, .int (jI b)), (2, .int (jI year)), (3, .int (jI known)), (4, .int (jI la)), (5, .long (jL many)), (7, .int (jI hand)), (8, .long (jL 0)), (10, .long (jL 0))]) F dX10_findState_118 (by decide) [1, 2, 3, 4, 5, 6, 7, 8, 0] rfl ?_
                refine x_iconst F dX10_findState_120 ?_
                refine x_istore (lv' := [(0, .ref qO), (1, .int (jI b)), (2, .int (jI year)), (3, .int (jI known)), (4, .int (jI la)), (5, .long (jL many)), (7, .int (jI hand)), (8, .long (jL 0)), (10, .long (jL 0)), (12, .int (jI 0))]) F dX10_findState_121 (by decide) [1, 2, 3, 4, 5, 6, 7, 8, 9, 0] rfl ?_
                have lp123 : ∀ (fu : Nat) (tm : Int) (gr : Int) (j : Int) (hj : 0 ≤ j ∧ j ≤ known) (htj : tm = sT (fun k => fO_seen (4 * k)) (fun k => fO_seen (4 * k + 2)) (fun k => fO_seen (4 * k + 1)) b la j hand) (hgj : gr = sK (fun k => fO_seen (4 * k)) (fun k => fO_seen (4 * k + 2)) (fun k => fO_seen (4 * k + 1)) (fun k => fO_seen (4 * k + 3)) b la j hand) (hm : known - j < (fu : Int)), xG D p l e (xRm 4 115 0 0) s m args below meth c 14 A Q 0 0 [(qO, .inr (10, [.int (jI vO_blocks), .ref qO_stones, .ref qO_laid, .ref qO_deep, .int (jI vO_placings), .ref qO_placed, .int (jI vO_mortars), .ref qO_put, .ref qO_rates, .int (jI vO_limit), .int (jI vO_looks), .ref qO_seen, .ref qO_text, .int (jI vO_texted), .int (jI vO_faultPlace), .int (jI vO_clauses), .ref qO_rule, .ref qO_fresh, .int (jI vO_lots), .ref qO_stocks, .ref qO_row, .ref qO_dangers, .ref qO_losses, .long (jL uu), .long (jL ll), .ref qO_habitUpper, .ref qO_habitLower, .int (jI vO_at), .long (jL vO_word), .int (jI vO_wordEnd), .ref qO_chosen, .ref qO_lost, .ref qO_zones, .ref qO_way, .ref qO_spent, .ref qO_scaffolds])), aI kI qO_seen 320 fO_seen, aJ kJ qO_habitUpper 4 hu2_89, aJ kJ qO_habitLower 4 hl2_89] [(0, .ref qO), (1, .int (jI b)), (2, .int (jI year)), (3, .int (jI known)), (4, .int (jI la)), (5, .long (jL many)), (7, .int (jI hand)), (8, .long (jL tm)), (10, .long (jL gr)), (12, .int (jI j))] 123 [] := by
                  intro fu
                  induction fu with
                  | zero =>
                    intro tm gr j hj htj hgj hm
                    exact absurd hm (by omega)
                  | succ fu ih123 =>
                    intro tm gr j hj htj hgj hm
                    refine x_iload F dX10_findState_123 9 rfl ?_
                    refine x_iload_n F dX10_findState_125 rfl 3 rfl ?_
                    refine x_icmp_ge (tgt := 228) F dX10_findState_126 (by decide) (by omega) (fun c126 => ?_) (fun c126 => ?_)
                    · -- 126 t
                      have htm : tm = sT (fun k => fO_seen (4 * k)) (fun k => fO_seen (4 * k + 2)) (fun k => fO_seen (4 * k + 1)) b la known hand := by rw [htj, show j = known by omega]
                      have hgm : gr = sK (fun k => fO_seen (4 * k)) (fun k => fO_seen (4 * k + 2)) (fun k => fO_seen (4 * k + 1)) (fun k => fO_seen (4 * k + 3)) b la known hand := by rw [hgj, show j = known by omega]
                      have hbd := stM_bd (b := fun k => fO_seen (4 * k)) (y := fun k => fO_seen (4 * k + 2)) (h := fun k => fO_seen (4 * k + 1)) (g := fun k => fO_seen (4 * k + 3)) (bb := b) (lt := la) (n := known) (i := hand) hk hgk hhk (by omega)
                      rw [← hgm] at hbd
                      have hgb := fr_gradeB hbd.1 hfr hbd.2
                      have hlp := nL_pos (u := stM (fun k => fO_seen (4 * k)) (fun k => fO_seen (4 * k + 2)) (fun k => fO_seen (4 * k + 1)) (fun k => fO_seen (4 * k + 3)) b la known hand) hbd.1
                      have hle := nL_le (u := stM (fun k => fO_seen (4 * k)) (fun k => fO_seen (4 * k + 2)) (fun k => fO_seen (4 * k + 1)) (fun k => fO_seen (4 * k + 3)) b la known hand) hbd.1
                      rw [← hfr.2] at hlp hle
                      have hd3 := frD_le3 (dd := hD (fun k => fO_seen (4 * k)) (fun k => fO_seen (4 * k + 2)) (fun k => fO_seen (4 * k + 1)) known) (fun k _ _ => hdr k) (i := hand) (by omega)
                      have htr := sT_rng (b := fun k => fO_seen (4 * k)) (y := fun k => fO_seen (4 * k + 2)) (h := fun k => fO_seen (4 * k + 1)) (bb := b) (lt := la) (n := known) (hd := hand) hk.1
                      have hu9 := hu_89 hand (by omega) (by omega)
                      have hl9 := hl_89 hand (by omega) (by omega)
                      have d9 := hdr hand
                      have s9 := hsr hand
                      have n9 := hnr hand
                      have hstep : nU ((uu + (gr * ll)) * hl2_89 hand - tm * hu2_89 hand * ll) (ll * hl2_89 hand) = nU (stM (fun k => fO_seen (4 * k)) (fun k => fO_seen (4 * k + 2)) (fun k => fO_seen (4 * k + 1)) (fun k => fO_seen (4 * k + 3)) b la known (hand + 1)) (frD (hD (fun k => fO_seen (4 * k)) (fun k => fO_seen (4 * k + 2)) (fun k => fO_seen (4 * k + 1)) known) (hand + 1)) ∧ nL ((uu + (gr * ll)) * hl2_89 hand - tm * hu2_89 hand * ll) (ll * hl2_89 hand) = nL (stM (fun k => fO_seen (4 * k)) (fun k => fO_seen (4 * k + 2)) (fun k => fO_seen (4 * k + 1)) (fun k => fO_seen (4 * k + 3)) b la known (hand + 1)) (frD (hD (fun k => fO_seen (4 * k)) (fun k => fO_seen (4 * k + 2)) (fun k => fO_seen (4 * k + 1)) known) (hand + 1)) := by
                        rw [stM_s hh.1, frD_s hh.1, ← htm, ← hgm, ← hu9, ← hl9]
                        exact fr_gradeT hbd.1 (by omega) hfr
                      refine x_aload_n F dX10_findState_228 rfl 0 rfl ?_
                      refine x_dup F dX10_findState_229 rfl ?_
                      refine x_get (ci := 10) F hin10 0 rfl rfl 23 (by decide) hw0 rfl dX10_findState_230 ?_
                      refine x_lload F dX10_findState_233 8 rfl ?_
                      refine x_aload_n F dX10_findState_235 rfl 0 rfl ?_
                      refine x_get (ci := 10) F hin10 0 rfl rfl 24 (by decide) hw1 rfl dX10_findState_236 ?_
                      refine x_lmul F dX10_findState_239 ?_
                      refine x_ladd F dX10_findState_240 ?_
                      refine x_put (ci := 10) F hin10 tyX10_ok nmX10 0 rfl rfl 23 (by decide) hw0 rfl rfl rfl (show 23 + 1 ≤ _ from Nat.le_of_ble_eq_true rfl) dX10_findState_241 [(qO, .inr (10, [.int (jI vO_blocks), .ref qO_stones, .ref qO_laid, .ref qO_deep, .int (jI vO_placings), .ref qO_placed, .int (jI vO_mortars), .ref qO_put, .ref qO_rates, .int (jI vO_limit), .int (jI vO_looks), .ref qO_seen, .ref qO_text, .int (jI vO_texted), .int (jI vO_faultPlace), .int (jI vO_clauses), .ref qO_rule, .ref qO_fresh, .int (jI vO_lots), .ref qO_stocks, .ref qO_row, .ref qO_dangers, .ref qO_losses, .long (jL (uu + (gr * ll))), .long (jL ll), .ref qO_habitUpper, .ref qO_habitLower, .int (jI vO_at), .long (jL vO_word), .int (jI vO_wordEnd), .ref qO_chosen, .ref qO_lost, .ref qO_zones, .ref qO_way, .ref qO_spent, .ref qO_scaffolds])), aI kI qO_seen 320 fO_seen, aJ kJ qO_habitUpper 4 hu2_89, aJ kJ qO_habitLower 4 hl2_89] rfl ?_
                      refine x_aload_n F dX10_findState_244 rfl 0 rfl ?_
                      refine x_aload_n F dX10_findState_245 rfl 0 rfl ?_
                      refine x_get (ci := 10) F hin10 0 rfl rfl 25 (by decide) hw2 rfl dX10_findState_246 ?_
                      refine x_iload F dX10_findState_249 6 rfl ?_
                      refine x_lald F 2 rfl (by decide) (by omega) dX10_findState_251 ?_
                      refine x_aload_n F dX10_findState_252 rfl 0 rfl ?_
                      refine x_get (ci := 10) F hin10 0 rfl rfl 26 (by decide) hw3 rfl dX10_findState_253 ?_
                      refine x_iload F dX10_findState_256 6 rfl ?_
                      refine x_lald F 3 rfl (by decide) (by omega) dX10_findState_258 ?_
                      refine x_lload F dX10_findState_259 7 rfl ?_
                      refine x_callVv (ci := 10) (q0 := 0) (As := [.long (jL (hu2_89 hand)), .long (jL (hl2_89 hand)), .long (jL tm)]) (st := []) F (c_X10_takeOff D kI kJ l qO (hu2_89 hand) (hl2_89 hand) tm vO_blocks qO_stones qO_laid qO_deep vO_placings qO_placed vO_mortars qO_put qO_rates vO_limit vO_looks qO_seen qO_text vO_texted vO_faultPlace vO_clauses qO_rule qO_fresh vO_lots qO_stocks qO_row qO_dangers qO_losses (uu + (gr * ll)) ll qO_habitUpper qO_habitLower vO_at vO_word vO_wordEnd qO_chosen qO_lost qO_zones qO_way qO_spent qO_scaffolds (by omega) (by omega) (by omega) (by omega) (by omega)) (cwV 3 F.2.2.2.2.1 gX10_findState_X10_takeOff rfl rfl rfl (by decide +kernel) ⟨Nat.le_of_ble_eq_true rfl, Nat.le_of_ble_eq_true rfl⟩) rfl rfl [0] [1, 2, 3] [3, 0, 1, 2] rfl rfl (by decide) (by decide) (by decide) (fun _ => rfl) (by decide) rfl (Nat.le_of_ble_eq_true rfl) dX10_findState_261 ⟨Nat.le_of_ble_eq_true rfl, Nat.le_of_ble_eq_true rfl⟩ (fun u261 h261 => ?_)
                      try dsimp only at h261
                      refine x_ws [(qO, .inr (10, [.int (jI vO_blocks), .ref qO_stones, .ref qO_laid, .ref qO_deep, .int (jI vO_placings), .ref qO_placed, .int (jI vO_mortars), .ref qO_put, .ref qO_rates, .int (jI vO_limit), .int (jI vO_looks), .ref qO_seen, .ref qO_text, .int (jI vO_texted), .int (jI vO_faultPlace), .int (jI vO_clauses), .ref qO_rule, .ref qO_fresh, .int (jI vO_lots), .ref qO_stocks, .ref qO_row, .ref qO_dangers, .ref qO_losses, .long (jL (nU ((uu + (gr * ll)) * (hl2_89 hand) - tm * (hu2_89 hand) * ll) (ll * (hl2_89 hand)))), .long (jL (nL ((uu + (gr * ll)) * (hl2_89 hand) - tm * (hu2_89 hand) * ll) (ll * (hl2_89 hand)))), .ref qO_habitUpper, .ref qO_habitLower, .int (jI vO_at), .long (jL vO_word), .int (jI vO_wordEnd), .ref qO_chosen, .ref qO_lost, .ref qO_zones, .ref qO_way, .ref qO_spent, .ref qO_scaffolds])), aI kI qO_seen 320 fO_seen, aJ kJ qO_habitUpper 4 hu2_89, aJ kJ qO_habitLower 4 hl2_89] rfl ?_
                      refine x_lload F dX10_findState_264 5 rfl ?_
                      refine x_lload F dX10_findState_266 7 rfl ?_
                      refine x_ladd F dX10_findState_268 ?_
                      refine x_lstore (lv' := [(0, .ref qO), (1, .int (jI b)), (2, .int (jI year)), (3, .int (jI known)), (4, .int (jI la)), (5, .long (jL (many + tm))), (7, .int (jI hand)), (8, .long (jL tm)), (10, .long (jL gr)), (12, .int (jI j))]) F dX10_findState_269 (by decide) [1, 2, 3, 4, 5, 0, 6, 7, 8, 9] rfl ?_
                      refine x_iinc (lv' := [(0, .ref qO), (1, .int (jI b)), (2, .int (jI year)), (3, .int (jI known)), (4, .int (jI la)), (5, .long (jL (many + tm))), (7, .int (jI (hand + 1))), (8, .long (jL tm)), (10, .long (jL gr)), (12, .int (jI j))]) (k := 6) F dX10_findState_271 rfl (by decide) [1, 2, 3, 4, 5, 6, 0, 7, 8, 9] rfl ?_
                      refine x_goto (tgt := 108) F dX10_findState_274 (by decide) ?_
                      refine x_lv (lv' := [(0, .ref qO), (1, .int (jI b)), (2, .int (jI year)), (3, .int (jI known)), (4, .int (jI la)), (5, .long (jL (many + tm))), (7, .int (jI (hand + 1)))]) [0, 1, 2, 3, 4, 5, 6] rfl ?_
                      exact ih108 (many + tm) (hand + 1) (nU ((uu + (gr * ll)) * (hl2_89 hand) - tm * (hu2_89 hand) * ll) (ll * (hl2_89 hand))) (nL ((uu + (gr * ll)) * (hl2_89 hand) - tm * (hu2_89 hand) * ll) (ll * (hl2_89 hand))) (by omega) (by rw [sm_s hh.1, hmany, ← htm]) hstep (by omega)
                    · -- 126 f
                      have jn179 : ∀ (zi : Int) (hzi : xBool zi ((fO_seen (4 * j) = b ∧ fO_seen (4 * j + 2) = la) ∧ fO_seen (4 * j + 1) = hand)), xG D p l e (xRm 4 115 0 0) s m args below meth c 14 A Q 0 0 [(qO, .inr (10, [.int (jI vO_blocks), .ref qO_stones, .ref qO_laid, .ref qO_deep, .int (jI vO_placings), .ref qO_placed, .int (jI vO_mortars), .ref qO_put, .ref qO_rates, .int (jI vO_limit), .int (jI vO_looks), .ref qO_seen, .ref qO_text, .int (jI vO_texted), .int (jI vO_faultPlace), .int (jI vO_clauses), .ref qO_rule, .ref qO_fresh, .int (jI vO_lots), .ref qO_stocks, .ref qO_row, .ref qO_dangers, .ref qO_losses, .long (jL uu), .long (jL ll), .ref qO_habitUpper, .ref qO_habitLower, .int (jI vO_at), .long (jL vO_word), .int (jI vO_wordEnd), .ref qO_chosen, .ref qO_lost, .ref qO_zones, .ref qO_way, .ref qO_spent, .ref qO_scaffolds])), aI kI qO_seen 320 fO_seen, aJ kJ qO_habitUpper 4 hu2_89, aJ kJ qO_habitLower 4 hl2_89] [(0, .ref qO), (1, .int (jI b)), (2, .int (jI year)), (3, .int (jI known)), (4, .int (jI la)), (5, .long (jL many)), (7, .int (jI hand)), (8, .long (jL tm)), (10, .long (jL gr)), (12, .int (jI j))] 179 [.int (jI zi)] := by
                        intro zi hzi
                        refine x_istore (lv' := [(0, .ref qO), (1, .int (jI b)), (2, .int (jI year)), (3, .int (jI known)), (4, .int (jI la)), (5, .long (jL many)), (7, .int (jI hand)), (8, .long (jL tm)), (10, .long (jL gr)), (12, .int (jI j)), (13, .int (jI zi))]) F dX10_findState_179 (by decide) [1, 2, 3, 4, 5, 6, 7, 8, 9, 10, 0] rfl ?_
                        have jn193 : ∀ (z2 : Int) (hz2 : z2 = tH (fun k => fO_seen (4 * k)) (fun k => fO_seen (4 * k + 2)) (fun k => fO_seen (4 * k + 1)) b la hand j), xG D p l e (xRm 4 115 0 0) s m args below meth c 14 A Q 0 0 [(qO, .inr (10, [.int (jI vO_blocks), .ref qO_stones, .ref qO_laid, .ref qO_deep, .int (jI vO_placings), .ref qO_placed, .int (jI vO_mortars), .ref qO_put, .ref qO_rates, .int (jI vO_limit), .int (jI vO_looks), .ref qO_seen, .ref qO_text, .int (jI vO_texted), .int (jI vO_faultPlace), .int (jI vO_clauses), .ref qO_rule, .ref qO_fresh, .int (jI vO_lots), .ref qO_stocks, .ref qO_row, .ref qO_dangers, .ref qO_losses, .long (jL uu), .long (jL ll), .ref qO_habitUpper, .ref qO_habitLower, .int (jI vO_at), .long (jL vO_word), .int (jI vO_wordEnd), .ref qO_chosen, .ref qO_lost, .ref qO_zones, .ref qO_way, .ref qO_spent, .ref qO_scaffolds])), aI kI qO_seen 320 fO_seen, aJ kJ qO_habitUpper 4 hu2_89, aJ kJ qO_habitLower 4 hl2_89] [(0, .ref qO), (1, .int (jI b)), (2, .int (jI year)), (3, .int (jI known)), (4, .int (jI la)), (5, .long (jL many)), (7, .int (jI hand)), (8, .long (jL tm)), (10, .long (jL gr)), (12, .int (jI j)), (13, .int (jI zi))] 193 [.long (jL z2), .long (jL tm)] := by
                          intro z2 hz2
                          refine x_ladd F dX10_findState_193 ?_
                          refine x_lstore (lv' := [(0, .ref qO), (1, .int (jI b)), (2, .int (jI year)), (3, .int (jI known)), (4, .int (jI la)), (5, .long (jL many)), (7, .int (jI hand)), (8, .long (jL (tm + z2))), (10, .long (jL gr)), (12, .int (jI j)), (13, .int (jI zi))]) F dX10_findState_194 (by decide) [1, 2, 3, 4, 5, 6, 7, 0, 8, 9, 10] rfl ?_
                          have jn219 : ∀ (z3 : Int) (hz3 : z3 = tK (fun k => fO_seen (4 * k)) (fun k => fO_seen (4 * k + 2)) (fun k => fO_seen (4 * k + 1)) (fun k => fO_seen (4 * k + 3)) b la hand j), xG D p l e (xRm 4 115 0 0) s m args below meth c 14 A Q 0 0 [(qO, .inr (10, [.int (jI vO_blocks), .ref qO_stones, .ref qO_laid, .ref qO_deep, .int (jI vO_placings), .ref qO_placed, .int (jI vO_mortars), .ref qO_put, .ref qO_rates, .int (jI vO_limit), .int (jI vO_looks), .ref qO_seen, .ref qO_text, .int (jI vO_texted), .int (jI vO_faultPlace), .int (jI vO_clauses), .ref qO_rule, .ref qO_fresh, .int (jI vO_lots), .ref qO_stocks, .ref qO_row, .ref qO_dangers, .ref qO_losses, .long (jL uu), .long (jL ll), .ref qO_habitUpper, .ref qO_habitLower, .int (jI vO_at), .long (jL vO_word), .int (jI vO_wordEnd), .ref qO_chosen, .ref qO_lost, .ref qO_zones, .ref qO_way, .ref qO_spent, .ref qO_scaffolds])), aI kI qO_seen 320 fO_seen, aJ kJ qO_habitUpper 4 hu2_89, aJ kJ qO_habitLower 4 hl2_89] [(0, .ref qO), (1, .int (jI b)), (2, .int (jI year)), (3, .int (jI known)), (4, .int (jI la)), (5, .long (jL many)), (7, .int (jI hand)), (8, .long (jL (tm + z2))), (10, .long (jL gr)), (12, .int (jI j)), (13, .int (jI zi))] 219 [.long (jL z3), .long (jL gr)] := by
                            intro z3 hz3
                            refine x_ladd F dX10_findState_219 ?_
                            refine x_lstore (lv' := [(0, .ref qO), (1, .int (jI b)), (2, .int (jI year)), (3, .int (jI known)), (4, .int (jI la)), (5, .long (jL many)), (7, .int (jI hand)), (8, .long (jL (tm + z2))), (10, .long (jL (gr + z3))), (12, .int (jI j)), (13, .int (jI zi))]) F dX10_findState_220 (by decide) [1, 2, 3, 4, 5, 6, 7, 8, 0, 9, 10] rfl ?_
                            refine x_iinc (lv' := [(0, .ref qO), (1, .int (jI b)), (2, .int (jI year)), (3, .int (jI known)), (4, .int (jI la)), (5, .long (jL many)), (7, .int (jI hand)), (8, .long (jL (tm + z2))), (10, .long (jL (gr + z3))), (12, .int (jI (j + 1))), (13, .int (jI zi))]) (k := 9) F dX10_findState_222 rfl (by decide) [1, 2, 3, 4, 5, 6, 7, 8, 9, 0, 10] rfl ?_
                            refine x_goto (tgt := 123) F dX10_findState_225 (by decide) ?_
                            refine x_lv (lv' := [(0, .ref qO), (1, .int (jI b)), (2, .int (jI year)), (3, .int (jI known)), (4, .int (jI la)), (5, .long (jL many)), (7, .int (jI hand)), (8, .long (jL (tm + z2))), (10, .long (jL (gr + z3))), (12, .int (jI (j + 1)))]) [0, 1, 2, 3, 4, 5, 6, 7, 8, 9] rfl ?_
                            exact ih123 (tm + z2) (gr + z3) (j + 1) (by omega) (by unfold sT at *; rw [sm_s hj.1, ← htj, hz2]) (by unfold sK at *; rw [sm_s hj.1, ← hgj, hz3]) (by omega)
                          refine x_lload F dX10_findState_196 8 rfl ?_
                          refine x_iload F dX10_findState_198 10 rfl ?_
                          refine x_beq (tgt := 218) F dX10_findState_200 (by decide) hzi (fun c200 => ?_) (fun c200 => ?_)
                          · -- 200 t
                            refine x_lconst F 0 dX10_findState_218 (by decide) ?_
                            exact jn219 0 (by unfold tK; (try dsimp only); first | (rw [if_pos (by omega)]) | (rw [if_neg (by omega)]))
                          · -- 200 f
                            refine x_aload_n F dX10_findState_203 rfl 0 rfl ?_
                            refine x_get (ci := 10) F hin10 0 rfl rfl 11 (by decide) hw4 rfl dX10_findState_204 ?_
                            refine x_iconst F dX10_findState_207 ?_
                            refine x_iload F dX10_findState_208 9 rfl ?_
                            refine x_imul F dX10_findState_210 ?_
                            refine x_iconst F dX10_findState_211 ?_
                            refine x_iadd F dX10_findState_212 ?_
                            refine x_iald F 1 rfl (by decide) (by omega) dX10_findState_213 ?_
                            have hr213 := Rg.at hOsn ((4 * j) + 3) (by omega)
                            refine x_i2l F dX10_findState_214 (by omega) ?_
                            refine x_goto (tgt := 219) F dX10_findState_215 (by decide) ?_
                            exact jn219 (fO_seen ((4 * j) + 3)) (by unfold tK; (try dsimp only); first | (rw [if_pos (by omega)]) | (rw [if_neg (by omega)]))
                        refine x_lload F dX10_findState_181 7 rfl ?_
                        refine x_iload F dX10_findState_183 10 rfl ?_
                        refine x_beq (tgt := 192) F dX10_findState_185 (by decide) hzi (fun c185 => ?_) (fun c185 => ?_)
                        · -- 185 t
                          refine x_lconst F 0 dX10_findState_192 (by decide) ?_
                          exact jn193 0 (by unfold tH; (try dsimp only); first | (rw [if_pos (by omega)]) | (rw [if_neg (by omega)]))
                        · -- 185 f
                          refine x_lconst F 1 dX10_findState_188 (by decide) ?_
                          refine x_goto (tgt := 193) F dX10_findState_189 (by decide) ?_
                          exact jn193 1 (by unfold tH; (try dsimp only); first | (rw [if_pos (by omega)]) | (rw [if_neg (by omega)]))
                      have q1 := hOsn (4 * j) (by omega) (by omega)
                      have q2 := hOsn (4 * j + 2) (by omega) (by omega)
                      have q3 := hOs1 j (by omega) (by omega)
                      have q4 := hOs3 j (by omega) (by omega)
                      refine x_aload_n F dX10_findState_129 rfl 0 rfl ?_
                      refine x_get (ci := 10) F hin10 0 rfl rfl 11 (by decide) hw4 rfl dX10_findState_130 ?_
                      refine x_iconst F dX10_findState_133 ?_
                      refine x_iload F dX10_findState_134 9 rfl ?_
                      refine x_imul F dX10_findState_136 ?_
                      refine x_iald F 1 rfl (by decide) (by omega) dX10_findState_137 ?_
                      have hr137 := Rg.at hOsn (4 * j) (by omega)
                      refine x_iload_n F dX10_findState_138 rfl 1 rfl ?_
                      refine x_icmp_ne (tgt := 178) F dX10_findState_139 (by decide) (by omega) (fun c139 => ?_) (fun c139 => ?_)
                      · -- 139 t
                        refine x_iconst F dX10_findState_178 ?_
                        exact jn179 0 (by first | exact xBool_t (by omega) | exact xBool_f (by omega))
                      · -- 139 f
                        refine x_aload_n F dX10_findState_142 rfl 0 rfl ?_
                        refine x_get (ci := 10) F hin10 0 rfl rfl 11 (by decide) hw4 rfl dX10_findState_143 ?_
                        refine x_iconst F dX10_findState_146 ?_
                        refine x_iload F dX10_findState_147 9 rfl ?_
                        refine x_imul F dX10_findState_149 ?_
                        refine x_iconst F dX10_findState_150 ?_
                        refine x_iadd F dX10_findState_151 ?_
                        refine x_iald F 1 rfl (by decide) (by omega) dX10_findState_152 ?_
                        have hr152 := Rg.at hOsn ((4 * j) + 2) (by omega)
                        refine x_iload F dX10_findState_153 4 rfl ?_
                        refine x_icmp_ne (tgt := 178) F dX10_findState_155 (by decide) (by omega) (fun c155 => ?_) (fun c155 => ?_)
                        · -- 155 t
                          refine x_iconst F dX10_findState_178 ?_
                          exact jn179 0 (by first | exact xBool_t (by omega) | exact xBool_f (by omega))
                        · -- 155 f
                          refine x_aload_n F dX10_findState_158 rfl 0 rfl ?_
                          refine x_get (ci := 10) F hin10 0 rfl rfl 11 (by decide) hw4 rfl dX10_findState_159 ?_
                          refine x_iconst F dX10_findState_162 ?_
                          refine x_iload F dX10_findState_163 9 rfl ?_
                          refine x_imul F dX10_findState_165 ?_
                          refine x_iconst F dX10_findState_166 ?_
                          refine x_iadd F dX10_findState_167 ?_
                          refine x_iald F 1 rfl (by decide) (by omega) dX10_findState_168 ?_
                          have hr168 := Rg.at hOsn ((4 * j) + 1) (by omega)
                          refine x_iload F dX10_findState_169 6 rfl ?_
                          refine x_icmp_ne (tgt := 178) F dX10_findState_171 (by decide) (by omega) (fun c171 => ?_) (fun c171 => ?_)
                          · -- 171 t
                            refine x_iconst F dX10_findState_178 ?_
                            exact jn179 0 (by first | exact xBool_t (by omega) | exact xBool_f (by omega))
                          · -- 171 f
                            refine x_iconst F dX10_findState_174 ?_
                            refine x_goto (tgt := 179) F dX10_findState_175 (by decide) ?_
                            exact jn179 1 (by first | exact xBool_t (by omega) | exact xBool_f (by omega))
                exact lp123 (Int.toNat (known - 0) + 1) 0 0 0 (by omega) rfl rfl (by omega)
          exact lp108 (Int.toNat (4 - 0) + 1) 0 0 0 1 (by omega) rfl (by rw [stM_0, frD_0]; decide) (by omega)
        · -- 82 f
          refine x_iconst F dX10_findState_85 ?_
          exact hret 0 0 86 _ 0 (fO_habitUpper, fO_habitLower, vO_upper, vO_lower) (Nat.le_of_ble_eq_true rfl) (Nat.le_of_ble_eq_true rfl) dX10_findState_86 (by (try dsimp only); exact (⟨xBool_f (by omega), fun q => absurd (show (laI (fun k => fO_seen (4 * k)) (fun k => fO_seen (4 * k + 2)) b year known) = -1 by omega) q⟩))
      · -- 9 f
        refine x_aload_n F dX10_findState_12 rfl 0 rfl ?_
        refine x_get (ci := 10) F hin10 0 rfl rfl 11 (by decide) hw4 rfl dX10_findState_13 ?_
        refine x_iconst F dX10_findState_16 ?_
        refine x_iload F dX10_findState_17 5 rfl ?_
        refine x_imul F dX10_findState_19 ?_
        refine x_iald F 1 rfl (by decide) (by omega) dX10_findState_20 ?_
        have hr20 := Rg.at hOsn (4 * i) (by omega)
        refine x_iload_n F dX10_findState_21 rfl 1 rfl ?_
        refine x_icmp_ne (tgt := 70) F dX10_findState_22 (by decide) (by omega) (fun c22 => ?_) (fun c22 => ?_)
        · -- 22 t
          refine x_iload F dX10_findState_70 4 rfl ?_
          refine x_istore (lv' := [(0, .ref qO), (1, .int (jI b)), (2, .int (jI year)), (3, .int (jI known)), (4, .int (jI la)), (5, .int (jI i))]) F dX10_findState_72 (by decide) [1, 2, 3, 4, 0, 5] rfl ?_
          refine x_iinc (lv' := [(0, .ref qO), (1, .int (jI b)), (2, .int (jI year)), (3, .int (jI known)), (4, .int (jI la)), (5, .int (jI (i + 1)))]) (k := 5) F dX10_findState_74 rfl (by decide) [1, 2, 3, 4, 5, 0] rfl ?_
          refine x_goto (tgt := 6) F dX10_findState_77 (by decide) ?_
          exact ih6 la (i + 1) (by omega) (by rw [laI_s hi.1, ← hla]; (try dsimp only); first | (rw [if_pos (by omega)]) | (rw [if_neg (by omega)])) (by omega)
        · -- 22 f
          refine x_aload_n F dX10_findState_25 rfl 0 rfl ?_
          refine x_get (ci := 10) F hin10 0 rfl rfl 11 (by decide) hw4 rfl dX10_findState_26 ?_
          refine x_iconst F dX10_findState_29 ?_
          refine x_iload F dX10_findState_30 5 rfl ?_
          refine x_imul F dX10_findState_32 ?_
          refine x_iconst F dX10_findState_33 ?_
          refine x_iadd F dX10_findState_34 ?_
          refine x_iald F 1 rfl (by decide) (by omega) dX10_findState_35 ?_
          have hr35 := Rg.at hOsn ((4 * i) + 2) (by omega)
          refine x_iload_n F dX10_findState_36 rfl 2 rfl ?_
          refine x_icmp_gt (tgt := 70) F dX10_findState_37 (by decide) (by omega) (fun c37 => ?_) (fun c37 => ?_)
          · -- 37 t
            refine x_iload F dX10_findState_70 4 rfl ?_
            refine x_istore (lv' := [(0, .ref qO), (1, .int (jI b)), (2, .int (jI year)), (3, .int (jI known)), (4, .int (jI la)), (5, .int (jI i))]) F dX10_findState_72 (by decide) [1, 2, 3, 4, 0, 5] rfl ?_
            refine x_iinc (lv' := [(0, .ref qO), (1, .int (jI b)), (2, .int (jI year)), (3, .int (jI known)), (4, .int (jI la)), (5, .int (jI (i + 1)))]) (k := 5) F dX10_findState_74 rfl (by decide) [1, 2, 3, 4, 5, 0] rfl ?_
            refine x_goto (tgt := 6) F dX10_findState_77 (by decide) ?_
            exact ih6 la (i + 1) (by omega) (by rw [laI_s hi.1, ← hla]; (try dsimp only); first | (rw [if_pos (by omega)]) | (rw [if_neg (by omega)])) (by omega)
          · -- 37 f
            refine x_aload_n F dX10_findState_40 rfl 0 rfl ?_
            refine x_get (ci := 10) F hin10 0 rfl rfl 11 (by decide) hw4 rfl dX10_findState_41 ?_
            refine x_iconst F dX10_findState_44 ?_
            refine x_iload F dX10_findState_45 5 rfl ?_
            refine x_imul F dX10_findState_47 ?_
            refine x_iconst F dX10_findState_48 ?_
            refine x_iadd F dX10_findState_49 ?_
            refine x_iald F 1 rfl (by decide) (by omega) dX10_findState_50 ?_
            have hr50 := Rg.at hOsn ((4 * i) + 2) (by omega)
            refine x_iload F dX10_findState_51 4 rfl ?_
            refine x_icmp_le (tgt := 70) F dX10_findState_53 (by decide) (by omega) (fun c53 => ?_) (fun c53 => ?_)
            · -- 53 t
              refine x_iload F dX10_findState_70 4 rfl ?_
              refine x_istore (lv' := [(0, .ref qO), (1, .int (jI b)), (2, .int (jI year)), (3, .int (jI known)), (4, .int (jI la)), (5, .int (jI i))]) F dX10_findState_72 (by decide) [1, 2, 3, 4, 0, 5] rfl ?_
              refine x_iinc (lv' := [(0, .ref qO), (1, .int (jI b)), (2, .int (jI year)), (3, .int (jI known)), (4, .int (jI la)), (5, .int (jI (i + 1)))]) (k := 5) F dX10_findState_74 rfl (by decide) [1, 2, 3, 4, 5, 0] rfl ?_
              refine x_goto (tgt := 6) F dX10_findState_77 (by decide) ?_
              exact ih6 la (i + 1) (by omega) (by rw [laI_s hi.1, ← hla]; (try dsimp only); first | (rw [if_pos (by omega)]) | (rw [if_neg (by omega)])) (by omega)
            · -- 53 f
              refine x_aload_n F dX10_findState_56 rfl 0 rfl ?_
              refine x_get (ci := 10) F hin10 0 rfl rfl 11 (by decide) hw4 rfl dX10_findState_57 ?_
              refine x_iconst F dX10_findState_60 ?_
              refine x_iload F dX10_findState_61 5 rfl ?_
              refine x_imul F dX10_findState_63 ?_
              refine x_iconst F dX10_findState_64 ?_
              refine x_iadd F dX10_findState_65 ?_
              refine x_iald F 1 rfl (by decide) (by omega) dX10_findState_66 ?_
              have hr66 := Rg.at hOsn ((4 * i) + 2) (by omega)
              refine x_goto (tgt := 72) F dX10_findState_67 (by decide) ?_
              refine x_istore (lv' := [(0, .ref qO), (1, .int (jI b)), (2, .int (jI year)), (3, .int (jI known)), (4, .int (jI (fO_seen ((4 * i) + 2)))), (5, .int (jI i))]) F dX10_findState_72 (by decide) [1, 2, 3, 4, 0, 5] rfl ?_
              refine x_iinc (lv' := [(0, .ref qO), (1, .int (jI b)), (2, .int (jI year)), (3, .int (jI known)), (4, .int (jI (fO_seen ((4 * i) + 2)))), (5, .int (jI (i + 1)))]) (k := 5) F dX10_findState_74 rfl (by decide) [1, 2, 3, 4, 5, 0] rfl ?_
              refine x_goto (tgt := 6) F dX10_findState_77 (by decide) ?_
              exact ih6 (fO_seen ((4 * i) + 2)) (i + 1) (by omega) (by rw [laI_s hi.1, ← hla]; (try dsimp only); first | (rw [if_pos (by omega)]) | (rw [if_neg (by omega)])) (by omega)
  exact lp6 (Int.toNat (known - 0) + 1) (-1) 0 (by omega) rfl (by omega)
set_option maxHeartbeats 4000000 in
set_option maxRecDepth 100000 in
theorem c_X10_state (D : va_G) (kI kJ : Nat) (l : Launch) (qO : Nat) (b : Int) (year : Int) (k : Int) (what : Int) (vO_blocks : Int) (qO_stones : Nat) (qO_laid : Nat) (qO_deep : Nat) (vO_placings : Int) (qO_placed : Nat) (vO_mortars : Int) (qO_put : Nat) (qO_rates : Nat) (vO_limit : Int) (vO_looks : Int) (qO_seen : Nat) (qO_text : Nat) (vO_texted : Int) (vO_faultPlace : Int) (vO_clauses : Int) (qO_rule : Nat) (qO_fresh : Nat) (vO_lots : Int) (qO_stocks : Nat) (qO_row : Nat) (qO_dangers : Nat) (qO_losses : Nat) (vO_upper : Int) (vO_lower : Int) (qO_habitUpper : Nat) (qO_habitLower : Nat) (vO_at : Int) (vO_word : Int) (vO_wordEnd : Int) (qO_chosen : Nat) (qO_lost : Nat) (qO_zones : Nat) (qO_way : Nat) (qO_spent : Nat) (qO_scaffolds : Nat) (fO_seen : (Int → Int)) (fO_habitUpper : (Int → Int)) (fO_habitLower : (Int → Int)) (hr_b : -2147483648 ≤ b ∧ b < 2147483648) (hr_year : -2147483648 ≤ year ∧ year < 2147483648) (hr_k : -2147483648 ≤ k ∧ k < 2147483648) (hr_what : -2147483648 ≤ what ∧ what < 2147483648) (hOb : 0 ≤ vO_blocks ∧ vO_blocks ≤ 30) (hOl : 0 ≤ vO_looks ∧ vO_looks ≤ 80) (hOsn : Rg fO_seen 320 0 400) (hOs1 : Rg (fun k => fO_seen (4 * k + 1)) 80 0 3) (hOs3 : Rg (fun k => fO_seen (4 * k + 3)) 80 0 99) : xMl D kI kJ l yX10_state wsX10_state 5 148 0 0 [.ref qO, .int (jI b), .int (jI year), .int (jI k), .int (jI what)] [(qO, .inr (10, [.int (jI vO_blocks), .ref qO_stones, .ref qO_laid, .ref qO_deep, .int (jI vO_placings), .ref qO_placed, .int (jI vO_mortars), .ref qO_put, .ref qO_rates, .int (jI vO_limit), .int (jI vO_looks), .ref qO_seen, .ref qO_text, .int (jI vO_texted), .int (jI vO_faultPlace), .int (jI vO_clauses), .ref qO_rule, .ref qO_fresh, .int (jI vO_lots), .ref qO_stocks, .ref qO_row, .ref qO_dangers, .ref qO_losses, .long (jL vO_upper), .long (jL vO_lower), .ref qO_habitUpper, .ref qO_habitLower, .int (jI vO_at), .long (jL vO_word), .int (jI vO_wordEnd), .ref qO_chosen, .ref qO_lost, .ref qO_zones, .ref qO_way, .ref qO_spent, .ref qO_scaffolds])), aI kI qO_seen 320 fO_seen, aJ kJ qO_habitUpper 4 fO_habitUpper, aJ kJ qO_habitLower 4 fO_habitLower] (fun (z : Int) (u : (Int → Int) × (Int → Int) × Int × Int) => z = if ¬ (0 ≤ b ∧ b < vO_blocks) then -1001 else if ¬ ((0 ≤ year ∧ year ≤ 400) ∧ (-1 ≤ k ∧ k ≤ vO_looks) ∧ 0 ≤ what ∧ what ≤ 1) then -1002 else if laI (fun k => fO_seen (4 * k)) (fun k => fO_seen (4 * k + 2)) b year (if k < 0 then vO_looks else k) = -1 then -1003 else if what = 0 then stU (fun k => fO_seen (4 * k)) (fun k => fO_seen (4 * k + 2)) (fun k => fO_seen (4 * k + 1)) (fun k => fO_seen (4 * k + 3)) b year (if k < 0 then vO_looks else k) else stL (fun k => fO_seen (4 * k)) (fun k => fO_seen (4 * k + 2)) (fun k => fO_seen (4 * k + 1)) (fun k => fO_seen (4 * k + 3)) b year (if k < 0 then vO_looks else k)) (fun (u : (Int → Int) × (Int → Int) × Int × Int) => [(qO, .inr (10, [.int (jI vO_blocks), .ref qO_stones, .ref qO_laid, .ref qO_deep, .int (jI vO_placings), .ref qO_placed, .int (jI vO_mortars), .ref qO_put, .ref qO_rates, .int (jI vO_limit), .int (jI vO_looks), .ref qO_seen, .ref qO_text, .int (jI vO_texted), .int (jI vO_faultPlace), .int (jI vO_clauses), .ref qO_rule, .ref qO_fresh, .int (jI vO_lots), .ref qO_stocks, .ref qO_row, .ref qO_dangers, .ref qO_losses, .long (jL u.2.2.1), .long (jL u.2.2.2), .ref qO_habitUpper, .ref qO_habitLower, .int (jI vO_at), .long (jL vO_word), .int (jI vO_wordEnd), .ref qO_chosen, .ref qO_lost, .ref qO_zones, .ref qO_way, .ref qO_spent, .ref qO_scaffolds])), aI kI qO_seen 320 fO_seen, aJ kJ qO_habitUpper 4 u.1, aJ kJ qO_habitLower 4 u.2.1]) := by
  refine xMl_of (cc := cX10_state) (maxL := 5) (by decide) rfl (Nat.le_of_ble_eq_true rfl) ?_
  intro p e s m args below meth c A Q F hin2 hret
  have hin10 : ∀ w ∈ wsX100, w ∈ wsX10_state := by decide +kernel
  have hw0 : Cond.constantLong RX10 190 (-1002) ∈ wsX10_state := by decide +kernel
  have hw1 : Cond.fieldLink RX10 163 (TX10 24).1 (TX10 24).2.1 (TX10 24).2.2.1 ∈ wsX10_state := by decide +kernel
  have hw2 : Cond.fieldLink RX10 159 (TX10 23).1 (TX10 23).2.1 (TX10 23).2.2.1 ∈ wsX10_state := by decide +kernel
  have hw3 : Cond.constantLong RX10 196 (-1003) ∈ wsX10_state := by decide +kernel
  have hw4 : Cond.fieldLink RX10 141 (TX10 10).1 (TX10 10).2.1 (TX10 10).2.2.1 ∈ wsX10_state := by decide +kernel
  have hw5 : Cond.constantLong RX10 188 (-1001) ∈ wsX10_state := by decide +kernel
  refine x_lveq (lv' := [(0, .ref qO), (1, .int (jI b)), (2, .int (jI year)), (3, .int (jI k)), (4, .int (jI what))]) rfl ?_
  refine x_aload_n F dX10_state_0 rfl 0 rfl ?_
  refine x_iload_n F dX10_state_1 rfl 1 rfl ?_
  refine x_callVi (ci := 10) (q0 := 0) (As := [.int (jI b)]) (st := []) F (c_X10_isBlock D kI kJ l qO b vO_blocks qO_stones qO_laid qO_deep vO_placings qO_placed vO_mortars qO_put qO_rates vO_limit vO_looks qO_seen qO_text vO_texted vO_faultPlace vO_clauses qO_rule qO_fresh vO_lots qO_stocks qO_row qO_dangers qO_losses vO_upper vO_lower qO_habitUpper qO_habitLower vO_at vO_word vO_wordEnd qO_chosen qO_lost qO_zones qO_way qO_spent qO_scaffolds hr_b hOb) (cwV 1 F.2.2.2.2.1 gX10_state_X10_isBlock rfl rfl rfl (by decide +kernel) ⟨Nat.le_of_ble_eq_true rfl, Nat.le_of_ble_eq_true rfl⟩) rfl rfl [0] [1, 2, 3] [3, 0, 1, 2] rfl rfl (by decide) (by decide) (by decide) (fun _ => rfl) (by decide) rfl (Nat.le_of_ble_eq_true rfl) dX10_state_2 ⟨Nat.le_of_ble_eq_true rfl, Nat.le_of_ble_eq_true rfl⟩ (fun z2 u2 h2 => ?_)
  try dsimp only at h2
  refine x_ws [(qO, .inr (10, [.int (jI vO_blocks), .ref qO_stones, .ref qO_laid, .ref qO_deep, .int (jI vO_placings), .ref qO_placed, .int (jI vO_mortars), .ref qO_put, .ref qO_rates, .int (jI vO_limit), .int (jI vO_looks), .ref qO_seen, .ref qO_text, .int (jI vO_texted), .int (jI vO_faultPlace), .int (jI vO_clauses), .ref qO_rule, .ref qO_fresh, .int (jI vO_lots), .ref qO_stocks, .ref qO_row, .ref qO_dangers, .ref qO_losses, .long (jL vO_upper), .long (jL vO_lower), .ref qO_habitUpper, .ref qO_habitLower, .int (jI vO_at), .long (jL vO_word), .int (jI vO_wordEnd), .ref qO_chosen, .ref qO_lost, .ref qO_zones, .ref qO_way, .ref qO_spent, .ref qO_scaffolds])), aI kI qO_seen 320 fO_seen, aJ kJ qO_habitUpper 4 fO_habitUpper, aJ kJ qO_habitLower 4 fO_habitLower] rfl ?_
  have hb2 := h2
  refine x_bne (tgt := 12) F dX10_state_5 (by decide) hb2 (fun c5 => ?_) (fun c5 => ?_)
  · -- 5 t
    refine x_iload_n F dX10_state_12 rfl 2 rfl ?_
    refine x_callSi (As := [.int (jI year)]) (st := []) F (c_X10_isYear D kI kJ l year (by omega)) (va_cwS 1 F.2.2.2.2.1 gX10_state_X10_isYear rfl rfl rfl (by decide +kernel) ⟨Nat.le_of_ble_eq_true rfl, Nat.le_of_ble_eq_true rfl⟩) [] [0, 1, 2, 3] [0, 1, 2, 3] rfl rfl (by decide) (by decide) (by decide) (fun _ => rfl) (by decide) rfl (Nat.le_of_ble_eq_true rfl) dX10_state_13 ⟨Nat.le_of_ble_eq_true rfl, Nat.le_of_ble_eq_true rfl⟩ (fun z13 u13 h13 => ?_)
    try dsimp only at h13
    refine x_ws [(qO, .inr (10, [.int (jI vO_blocks), .ref qO_stones, .ref qO_laid, .ref qO_deep, .int (jI vO_placings), .ref qO_placed, .int (jI vO_mortars), .ref qO_put, .ref qO_rates, .int (jI vO_limit), .int (jI vO_looks), .ref qO_seen, .ref qO_text, .int (jI vO_texted), .int (jI vO_faultPlace), .int (jI vO_clauses), .ref qO_rule, .ref qO_fresh, .int (jI vO_lots), .ref qO_stocks, .ref qO_row, .ref qO_dangers, .ref qO_losses, .long (jL vO_upper), .long (jL vO_lower), .ref qO_habitUpper, .ref qO_habitLower, .int (jI vO_at), .long (jL vO_word), .int (jI vO_wordEnd), .ref qO_chosen, .ref qO_lost, .ref qO_zones, .ref qO_way, .ref qO_spent, .ref qO_scaffolds])), aI kI qO_seen 320 fO_seen, aJ kJ qO_habitUpper 4 fO_habitUpper, aJ kJ qO_habitLower 4 fO_habitLower] rfl ?_
    have hb13 := h13
    refine x_beq (tgt := 38) F dX10_state_16 (by decide) hb13 (fun c16 => ?_) (fun c16 => ?_)
    · -- 16 t
      refine x_ldc2 F (-1002) hw0 (by decide) dX10_state_38 ?_
      exact hret 0 0 41 _ (-1002) (fO_habitUpper, fO_habitLower, vO_upper, vO_lower) (Nat.le_of_ble_eq_true rfl) (Nat.le_of_ble_eq_true rfl) dX10_state_41 (by (try dsimp only); exact (by rw [if_neg (by omega), if_pos (by omega)]))
    · -- 16 f
      refine x_aload_n F dX10_state_19 rfl 0 rfl ?_
      refine x_iload_n F dX10_state_20 rfl 3 rfl ?_
      refine x_callVi (ci := 10) (q0 := 0) (As := [.int (jI k)]) (st := []) F (c_X10_isKnown D kI kJ l qO k vO_blocks qO_stones qO_laid qO_deep vO_placings qO_placed vO_mortars qO_put qO_rates vO_limit vO_looks qO_seen qO_text vO_texted vO_faultPlace vO_clauses qO_rule qO_fresh vO_lots qO_stocks qO_row qO_dangers qO_losses vO_upper vO_lower qO_habitUpper qO_habitLower vO_at vO_word vO_wordEnd qO_chosen qO_lost qO_zones qO_way qO_spent qO_scaffolds hr_k hOl) (cwV 1 F.2.2.2.2.1 gX10_state_X10_isKnown rfl rfl rfl (by decide +kernel) ⟨Nat.le_of_ble_eq_true rfl, Nat.le_of_ble_eq_true rfl⟩) rfl rfl [0] [1, 2, 3] [3, 0, 1, 2] rfl rfl (by decide) (by decide) (by decide) (fun _ => rfl) (by decide) rfl (Nat.le_of_ble_eq_true rfl) dX10_state_21 ⟨Nat.le_of_ble_eq_true rfl, Nat.le_of_ble_eq_true rfl⟩ (fun z21 u21 h21 => ?_)
      try dsimp only at h21
      refine x_ws [(qO, .inr (10, [.int (jI vO_blocks), .ref qO_stones, .ref qO_laid, .ref qO_deep, .int (jI vO_placings), .ref qO_placed, .int (jI vO_mortars), .ref qO_put, .ref qO_rates, .int (jI vO_limit), .int (jI vO_looks), .ref qO_seen, .ref qO_text, .int (jI vO_texted), .int (jI vO_faultPlace), .int (jI vO_clauses), .ref qO_rule, .ref qO_fresh, .int (jI vO_lots), .ref qO_stocks, .ref qO_row, .ref qO_dangers, .ref qO_losses, .long (jL vO_upper), .long (jL vO_lower), .ref qO_habitUpper, .ref qO_habitLower, .int (jI vO_at), .long (jL vO_word), .int (jI vO_wordEnd), .ref qO_chosen, .ref qO_lost, .ref qO_zones, .ref qO_way, .ref qO_spent, .ref qO_scaffolds])), aI kI qO_seen 320 fO_seen, aJ kJ qO_habitUpper 4 fO_habitUpper, aJ kJ qO_habitLower 4 fO_habitLower] rfl ?_
      have hb21 := h21
      refine x_beq (tgt := 38) F dX10_state_24 (by decide) hb21 (fun c24 => ?_) (fun c24 => ?_)
      · -- 24 t
        refine x_ldc2 F (-1002) hw0 (by decide) dX10_state_38 ?_
        exact hret 0 0 41 _ (-1002) (fO_habitUpper, fO_habitLower, vO_upper, vO_lower) (Nat.le_of_ble_eq_true rfl) (Nat.le_of_ble_eq_true rfl) dX10_state_41 (by (try dsimp only); exact (by rw [if_neg (by omega), if_pos (by omega)]))
      · -- 24 f
        refine x_iload F dX10_state_27 4 rfl ?_
        refine x_i2l F dX10_state_29 (by omega) ?_
        refine x_lconst F 0 dX10_state_30 (by decide) ?_
        refine x_lconst F 1 dX10_state_31 (by decide) ?_
        refine x_callSi (As := [.long (jL what), .long (jL 0), .long (jL 1)]) (st := []) F (c_X10_in D kI kJ l what 0 1 (by omega) (by omega) (by omega)) (va_cwS 3 F.2.2.2.2.1 gX10_state_X10_in rfl rfl rfl (by decide +kernel) ⟨Nat.le_of_ble_eq_true rfl, Nat.le_of_ble_eq_true rfl⟩) [] [0, 1, 2, 3] [0, 1, 2, 3] rfl rfl (by decide) (by decide) (by decide) (fun _ => rfl) (by decide) rfl (Nat.le_of_ble_eq_true rfl) dX10_state_32 ⟨Nat.le_of_ble_eq_true rfl, Nat.le_of_ble_eq_true rfl⟩ (fun z32 u32 h32 => ?_)
        try dsimp only at h32
        refine x_ws [(qO, .inr (10, [.int (jI vO_blocks), .ref qO_stones, .ref qO_laid, .ref qO_deep, .int (jI vO_placings), .ref qO_placed, .int (jI vO_mortars), .ref qO_put, .ref qO_rates, .int (jI vO_limit), .int (jI vO_looks), .ref qO_seen, .ref qO_text, .int (jI vO_texted), .int (jI vO_faultPlace), .int (jI vO_clauses), .ref qO_rule, .ref qO_fresh, .int (jI vO_lots), .ref qO_stocks, .ref qO_row, .ref qO_dangers, .ref qO_losses, .long (jL vO_upper), .long (jL vO_lower), .ref qO_habitUpper, .ref qO_habitLower, .int (jI vO_at), .long (jL vO_word), .int (jI vO_wordEnd), .ref qO_chosen, .ref qO_lost, .ref qO_zones, .ref qO_way, .ref qO_spent, .ref qO_scaffolds])), aI kI qO_seen 320 fO_seen, aJ kJ qO_habitUpper 4 fO_habitUpper, aJ kJ qO_habitLower 4 fO_habitLower] rfl ?_
        have hb32 := h32
        refine x_bne (tgt := 42) F dX10_state_35 (by decide) hb32 (fun c35 => ?_) (fun c35 => ?_)
        · -- 35 t
          have jn57 : ∀ (kk : Int) (hkk : kk = (if k < 0 then vO_looks else k)), xG D p l e (xRm 5 148 0 0) s m args below meth c 5 A Q 0 0 [(qO, .inr (10, [.int (jI vO_blocks), .ref qO_stones, .ref qO_laid, .ref qO_deep, .int (jI vO_placings), .ref qO_placed, .int (jI vO_mortars), .ref qO_put, .ref qO_rates, .int (jI vO_limit), .int (jI vO_looks), .ref qO_seen, .ref qO_text, .int (jI vO_texted), .int (jI vO_faultPlace), .int (jI vO_clauses), .ref qO_rule, .ref qO_fresh, .int (jI vO_lots), .ref qO_stocks, .ref qO_row, .ref qO_dangers, .ref qO_losses, .long (jL vO_upper), .long (jL vO_lower), .ref qO_habitUpper, .ref qO_habitLower, .int (jI vO_at), .long (jL vO_word), .int (jI vO_wordEnd), .ref qO_chosen, .ref qO_lost, .ref qO_zones, .ref qO_way, .ref qO_spent, .ref qO_scaffolds])), aI kI qO_seen 320 fO_seen, aJ kJ qO_habitUpper 4 fO_habitUpper, aJ kJ qO_habitLower 4 fO_habitLower] [(0, .ref qO), (1, .int (jI b)), (2, .int (jI year)), (3, .int (jI k)), (4, .int (jI what))] 57 [.int (jI kk), .int (jI year), .int (jI b), .ref qO] := by
            intro kk hkk
            have hkr0 : 0 ≤ kk ∧ kk ≤ 80 := by rw [hkk]; split <;> omega
            refine x_callVi (ci := 10) (q0 := 0) (As := [.int (jI b), .int (jI year), .int (jI kk)]) (st := []) F (c_X10_findState D kI kJ l qO b year kk vO_blocks qO_stones qO_laid qO_deep vO_placings qO_placed vO_mortars qO_put qO_rates vO_limit vO_looks qO_seen qO_text vO_texted vO_faultPlace vO_clauses qO_rule qO_fresh vO_lots qO_stocks qO_row qO_dangers qO_losses vO_upper vO_lower qO_habitUpper qO_habitLower vO_at vO_word vO_wordEnd qO_chosen qO_lost qO_zones qO_way qO_spent qO_scaffolds fO_seen fO_habitUpper fO_habitLower hr_b hr_year (by omega) hOsn hOs1 hOs3) (cwV 3 F.2.2.2.2.1 gX10_state_X10_findState rfl rfl rfl (by decide +kernel) ⟨Nat.le_of_ble_eq_true rfl, Nat.le_of_ble_eq_true rfl⟩) rfl rfl [0, 1, 2, 3] [] [0, 1, 2, 3] rfl rfl (by decide) (by decide) (by decide) (fun _ => rfl) (by decide) rfl (Nat.le_of_ble_eq_true rfl) dX10_state_57 ⟨Nat.le_of_ble_eq_true rfl, Nat.le_of_ble_eq_true rfl⟩ (fun z57 u57 h57 => ?_)
            obtain ⟨hu2_57, hl2_57, u2_57, l2_57⟩ := u57
            try dsimp only at h57
            refine x_ws [(qO, .inr (10, [.int (jI vO_blocks), .ref qO_stones, .ref qO_laid, .ref qO_deep, .int (jI vO_placings), .ref qO_placed, .int (jI vO_mortars), .ref qO_put, .ref qO_rates, .int (jI vO_limit), .int (jI vO_looks), .ref qO_seen, .ref qO_text, .int (jI vO_texted), .int (jI vO_faultPlace), .int (jI vO_clauses), .ref qO_rule, .ref qO_fresh, .int (jI vO_lots), .ref qO_stocks, .ref qO_row, .ref qO_dangers, .ref qO_losses, .long (jL u2_57), .long (jL l2_57), .ref qO_habitUpper, .ref qO_habitLower, .int (jI vO_at), .long (jL vO_word), .int (jI vO_wordEnd), .ref qO_chosen, .ref qO_lost, .ref qO_zones, .ref qO_way, .ref qO_spent, .ref qO_scaffolds])), aI kI qO_seen 320 fO_seen, aJ kJ qO_habitUpper 4 hu2_57, aJ kJ qO_habitLower 4 hl2_57] rfl ?_
            obtain ⟨hb57, hst_57⟩ := h57
            refine x_bne (tgt := 67) F dX10_state_60 (by decide) hb57 (fun c60 => ?_) (fun c60 => ?_)
            · -- 60 t
              refine x_iload F dX10_state_67 4 rfl ?_
              refine x_if_ne (tgt := 79) F dX10_state_69 (by decide) (by omega) (fun c69 => ?_) (fun c69 => ?_)
              · -- 69 t
                refine x_aload_n F dX10_state_79 rfl 0 rfl ?_
                refine x_get (ci := 10) F hin10 0 rfl rfl 24 (by decide) hw1 rfl dX10_state_80 ?_
                exact hret 0 0 83 _ l2_57 (hu2_57, hl2_57, u2_57, l2_57) (Nat.le_of_ble_eq_true rfl) (Nat.le_of_ble_eq_true rfl) dX10_state_83 (by (try dsimp only); exact (by rw [if_neg (by omega), if_neg (by omega), ← hkk, if_neg c60, ← (hst_57 c60).1, ← (hst_57 c60).2]; first | (rw [if_pos (by omega)]) | (rw [if_neg (by omega)])))
              · -- 69 f
                refine x_aload_n F dX10_state_72 rfl 0 rfl ?_
                refine x_get (ci := 10) F hin10 0 rfl rfl 23 (by decide) hw2 rfl dX10_state_73 ?_
                refine x_goto (tgt := 83) F dX10_state_76 (by decide) ?_
                exact hret 0 0 83 _ u2_57 (hu2_57, hl2_57, u2_57, l2_57) (Nat.le_of_ble_eq_true rfl) (Nat.le_of_ble_eq_true rfl) dX10_state_83 (by (try dsimp only); exact (by rw [if_neg (by omega), if_neg (by omega), ← hkk, if_neg c60, ← (hst_57 c60).1, ← (hst_57 c60).2]; first | (rw [if_pos (by omega)]) | (rw [if_neg (by omega)])))
            · -- 60 f
              refine x_ldc2 F (-1003) hw3 (by decide) dX10_state_63 ?_
              exact hret 0 0 66 _ (-1003) (hu2_57, hl2_57, u2_57, l2_57) (Nat.le_of_ble_eq_true rfl) (Nat.le_of_ble_eq_true rfl) dX10_state_66 (by (try dsimp only); exact (by rw [if_neg (by omega), if_neg (by omega), ← hkk, if_pos (by omega)]))
          refine x_aload_n F dX10_state_42 rfl 0 rfl ?_
          refine x_iload_n F dX10_state_43 rfl 1 rfl ?_
          refine x_iload_n F dX10_state_44 rfl 2 rfl ?_
          refine x_iload_n F dX10_state_45 rfl 3 rfl ?_
          refine x_if_ge (tgt := 56) F dX10_state_46 (by decide) (by omega) (fun c46 => ?_) (fun c46 => ?_)
          · -- 46 t
            refine x_iload_n F dX10_state_56 rfl 3 rfl ?_
            exact jn57 k (by split <;> omega)
          · -- 46 f
            refine x_aload_n F dX10_state_49 rfl 0 rfl ?_
            refine x_get (ci := 10) F hin10 0 rfl rfl 10 (by decide) hw4 rfl dX10_state_50 ?_
            refine x_goto (tgt := 57) F dX10_state_53 (by decide) ?_
            exact jn57 vO_looks (by split <;> omega)
        · -- 35 f
          refine x_ldc2 F (-1002) hw0 (by decide) dX10_state_38 ?_
          exact hret 0 0 41 _ (-1002) (fO_habitUpper, fO_habitLower, vO_upper, vO_lower) (Nat.le_of_ble_eq_true rfl) (Nat.le_of_ble_eq_true rfl) dX10_state_41 (by (try dsimp only); exact (by rw [if_neg (by omega), if_pos (by omega)]))
  · -- 5 f
    refine x_ldc2 F (-1001) hw5 (by decide) dX10_state_8 ?_
    exact hret 0 0 11 _ (-1001) (fO_habitUpper, fO_habitLower, vO_upper, vO_lower) (Nat.le_of_ble_eq_true rfl) (Nat.le_of_ble_eq_true rfl) dX10_state_11 (by (try dsimp only); exact (by rw [if_pos (by omega)]))
