set_option maxHeartbeats 4000000 in
set_option maxRecDepth 100000 in
theorem c_X5_append (D : va_G) (kI kJ : Nat) (l : Launch) (qE : Nat) (n : Int) (bytes : Int) (qE_text : Nat) (vE_size : Int) (vE_next : Int) (vE_fault : Int) (vE_faultAt : Int) (qU : Nat) (qV : Nat) (fE_text : (Int → Int)) (hr_n : -2147483648 ≤ n ∧ n < 2147483648) (hEs : 0 ≤ vE_size ∧ vE_size ≤ 120) (hEt : Rg fE_text 120 0 255) (hn : 1 ≤ n ∧ n ≤ 8) : xMi D kI kJ l yX5_append wsX5_append 2 53 0 0 [.ref qE, .int (jI n), .long (jL bytes)] [(qE, .inr (5, [.ref qE_text, .int (jI vE_size), .int (jI vE_next), .int (jI vE_fault), .int (jI vE_faultAt), .ref qU, .ref qV])), aI kI qE_text 120 fE_text] (fun (z : Int) (u : Int × (Int → Int)) => ((vE_size + n ≤ 120 ∧ z = vE_size + n ∧ u.1 = vE_size + n) ∨ (120 < vE_size + n ∧ z = -1004 ∧ u.1 = vE_size)) ∧ (∀ k : Int, (k < vE_size ∨ u.1 ≤ k) → u.2 k = fE_text k) ∧ (u.1 = vE_size + n → ∀ j : Int, 0 ≤ j → j < n → u.2 (vE_size + j) = (byU (jL bytes) (jI (8 * (n - 1 - j))))) ∧ (Rg u.2 120 0 255)) (fun (u : Int × (Int → Int)) => [(qE, .inr (5, [.ref qE_text, .int (jI u.1), .int (jI vE_next), .int (jI vE_fault), .int (jI vE_faultAt), .ref qU, .ref qV])), aI kI qE_text 120 u.2]) := by
  refine xMi_of (cc := cX5_append) (maxL := 5) (rt := .int) (by decide) rfl (Nat.le_of_ble_eq_true rfl) (fun _ _ _ => rfl) ?_
  intro p e s m args below meth c A Q F hin2 hret
  have hin5 : ∀ w ∈ wsX50, w ∈ wsX5_append := by decide +kernel
  have hw0 : Cond.fieldLink RX5 29 (TX5 1).1 (TX5 1).2.1 (TX5 1).2.2.1 ∈ wsX5_append := by decide +kernel
  have hw1 : Cond.initialized yX9_isBelow.cls ∈ wsX5_append := by decide +kernel
  have hw2 : Cond.static yX9_isBelow ∈ wsX5_append := by decide +kernel
  have hw3 : Cond.fieldLink RX5 9 (TX5 0).1 (TX5 0).2.1 (TX5 0).2.2.1 ∈ wsX5_append := by decide +kernel
  have hw4 : Cond.constantLong RX5 36 255 ∈ wsX5_append := by decide +kernel
  refine x_lveq (lv' := [(0, .ref qE), (1, .int (jI n)), (2, .long (jL bytes))]) rfl ?_
  refine x_aload_n F dX5_append_0 rfl 0 rfl ?_
  refine x_get (ci := 5) F hin5 0 rfl rfl 1 (by decide) hw0 rfl dX5_append_1 ?_
  refine x_iload_n F dX5_append_4 rfl 1 rfl ?_
  refine x_iadd F dX5_append_5 ?_
  refine x_bipush F dX5_append_6 (by decide) ?_
  refine x_icmp_le (tgt := 15) F dX5_append_8 (by decide) (by omega) (fun c8 => ?_) (fun c8 => ?_)
  · -- 8 t
    refine x_iload_n F dX5_append_15 rfl 1 rfl ?_
    refine x_iconst F dX5_append_16 ?_
    refine x_isub F dX5_append_17 ?_
    refine x_istore (lv' := [(0, .ref qE), (1, .int (jI n)), (2, .long (jL bytes)), (4, .int (jI (n - 1)))]) F dX5_append_18 (by decide) [1, 2, 3, 0] rfl ?_
    have lp20 : ∀ (fu : Nat) (i : Int) (sz : Int) (g : (Int → Int)) (hi : -1 ≤ i ∧ i ≤ n - 1) (hs : sz = vE_size + (n - 1 - i)) (hold : ∀ k : Int, (k < vE_size ∨ sz ≤ k) → g k = fE_text k) (hnew : ∀ j : Int, 0 ≤ j → j < n - 1 - i → g (vE_size + j) = (byU (jL bytes) (jI (8 * (n - 1 - j))))) (hg : Rg g 120 0 255) (hm : i + 1 < (fu : Int)), xG D p l e (xRm 2 53 0 0) s m args below meth c 5 A Q 0 0 [(qE, .inr (5, [.ref qE_text, .int (jI sz), .int (jI vE_next), .int (jI vE_fault), .int (jI vE_faultAt), .ref qU, .ref qV])), aI kI qE_text 120 g] [(0, .ref qE), (1, .int (jI n)), (2, .long (jL bytes)), (4, .int (jI i))] 20 [] := by
      intro fu
      induction fu with
      | zero =>
        intro i sz g hi hs hold hnew hg hm
        exact absurd hm (by omega)
      | succ fu ih20 =>
        intro i sz g hi hs hold hnew hg hm
        refine x_iload F dX5_append_20 3 rfl ?_
        refine x_if_lt (tgt := 74) F dX5_append_22 (by decide) (by omega) (fun c22 => ?_) (fun c22 => ?_)
        · -- 22 t
          refine x_aload_n F dX5_append_74 rfl 0 rfl ?_
          refine x_get (ci := 5) F hin5 0 rfl rfl 1 (by decide) hw0 rfl dX5_append_75 ?_
          exact hret 0 0 78 _ sz (sz, g) (Nat.le_of_ble_eq_true rfl) (Nat.le_of_ble_eq_true rfl) dX5_append_78 (by (try dsimp only); exact (⟨by omega, hold, fun _ j h1 h2 => hnew j h1 (by omega), hg⟩))
        · -- 22 f
          refine x_aload_n F dX5_append_25 rfl 0 rfl ?_
          refine x_get (ci := 5) F hin5 0 rfl rfl 1 (by decide) hw0 rfl dX5_append_26 ?_
          refine x_bipush F dX5_append_29 (by decide) ?_
          refine x_callSNi (As := [.int (jI sz), .int (jI 120)]) (st := []) F (c_X9_isBelow D kI kJ l sz 120 (by omega) (by omega)) ⟨va_cnB 2 F.2.2.2.2.1 gX5_append_X9_isBelow_n32 rfl rfl rfl (nM14 F.2.2.2.2.2.2.2) (F.2.2.2.2.1 _ hw1) (by decide +kernel) ⟨Nat.le_of_ble_eq_true rfl, Nat.le_of_ble_eq_true rfl⟩, F.2.2.2.2.1 _ hw2, trivial⟩ [] [0, 1] [0, 1] rfl rfl (by decide) (by decide) (by decide) (fun _ => rfl) (by decide) rfl (Nat.le_of_ble_eq_true rfl) dX5_append_31 ⟨Nat.le_of_ble_eq_true rfl, Nat.le_of_ble_eq_true rfl⟩ (fun z31 u31 h31 => ?_)
          try dsimp only at h31
          refine x_ws [(qE, .inr (5, [.ref qE_text, .int (jI sz), .int (jI vE_next), .int (jI vE_fault), .int (jI vE_faultAt), .ref qU, .ref qV])), aI kI qE_text 120 g] rfl ?_
          have hb31 := h31
          refine x_beq (tgt := 74) F dX5_append_34 (by decide) hb31 (fun c34 => ?_) (fun c34 => ?_)
          · exact absurd c34 (by omega)
          · -- 34 f
            refine x_aload_n F dX5_append_37 rfl 0 rfl ?_
            refine x_get (ci := 5) F hin5 0 rfl rfl 0 (by decide) hw3 rfl dX5_append_38 ?_
            refine x_aload_n F dX5_append_41 rfl 0 rfl ?_
            refine x_get (ci := 5) F hin5 0 rfl rfl 1 (by decide) hw0 rfl dX5_append_42 ?_
            refine x_lload_n F dX5_append_45 rfl 2 rfl ?_
            refine x_bipush F dX5_append_46 (by decide) ?_
            refine x_iload F dX5_append_48 3 rfl ?_
            refine x_imul F dX5_append_50 ?_
            refine x_lushr F ((((jL bytes).toUInt64 >>> ((jI (8 * i)).toInt64.toUInt64 &&& Int64.toUInt64 63)).toInt64).toInt) dX5_append_51 ((jL_int _).symm) ?_
            refine x_ldc2 F 255 hw4 (by decide) dX5_append_52 ?_
            refine x_land F (byU (jL bytes) (jI (8 * i))) dX5_append_55 (byU_at _ _) ?_
            have hby := byU_rng (jL bytes) (jI (8 * i))
            refine x_l2i F dX5_append_56 (by omega) ?_
            refine x_iast F 1 rfl (by decide) (by omega) dX5_append_57 [(qE, .inr (5, [.ref qE_text, .int (jI sz), .int (jI vE_next), .int (jI vE_fault), .int (jI vE_faultAt), .ref qU, .ref qV])), aI kI qE_text 120 (iU g sz (byU (jL bytes) (jI (8 * i))))] rfl ?_
            have hg57 := Rg.up hg sz (byU (jL bytes) (jI (8 * i))) (by omega)
            refine x_aload_n F dX5_append_58 rfl 0 rfl ?_
            refine x_dup F dX5_append_59 rfl ?_
            refine x_get (ci := 5) F hin5 0 rfl rfl 1 (by decide) hw0 rfl dX5_append_60 ?_
            refine x_iconst F dX5_append_63 ?_
            refine x_iadd F dX5_append_64 ?_
            refine x_put (ci := 5) F hin5 tyX5_ok nmX5 0 rfl rfl 1 (by decide) hw0 rfl rfl rfl (show 1 + 1 ≤ _ from Nat.le_of_ble_eq_true rfl) dX5_append_65 [(qE, .inr (5, [.ref qE_text, .int (jI (sz + 1)), .int (jI vE_next), .int (jI vE_fault), .int (jI vE_faultAt), .ref qU, .ref qV])), aI kI qE_text 120 (iU g sz (byU (jL bytes) (jI (8 * i))))] rfl ?_
            refine x_iinc (lv' := [(0, .ref qE), (1, .int (jI n)), (2, .long (jL bytes)), (4, .int (jI (i + (-1))))]) (k := 3) F dX5_append_68 rfl (by decide) [1, 2, 3, 0] rfl ?_
            refine x_goto (tgt := 20) F dX5_append_71 (by decide) ?_
            exact ih20 (i + (-1)) (sz + 1) (iU g sz (byU (jL bytes) (jI (8 * i)))) (by omega) (by omega) (fun k h1 => by rw [iU_n (by omega)]; exact hold k (by omega)) (fun j h1 h2 => by by_cases e : j = n - 1 - i; (rw [e, show vE_size + (n - 1 - i) = sz by omega, iU_s, show n - 1 - (n - 1 - i) = i by omega]); (rw [iU_n (by omega)]; exact hnew j h1 (by omega))) hg57 (by omega)
    exact lp20 (Int.toNat ((n - 1) + 1) + 1) (n - 1) vE_size fE_text (by omega) (by omega) (fun k h1 => rfl) (fun j h1 h2 => by omega) hEt (by omega)
  · -- 8 f
    refine x_sipush F dX5_append_11 (by decide) ?_
    exact hret 0 0 14 _ (-1004) (vE_size, fE_text) (Nat.le_of_ble_eq_true rfl) (Nat.le_of_ble_eq_true rfl) dX5_append_14 (by (try dsimp only); exact (⟨by omega, fun k h1 => rfl, fun q => absurd q (by omega), hEt⟩))
set_option maxHeartbeats 4000000 in
set_option maxRecDepth 100000 in
theorem c_X9_feed (D : va_G) (kI kJ : Nat) (l : Launch) (qK : Nat) (n : Int) (bytes : Int) (qM : Nat) (qC : Nat) (qL : Nat) (qFr : Nat) (qE : Nat) (qK_facts : Nat) (qN : Nat) (qS : Nat) (qE_text : Nat) (vE_size : Int) (vE_next : Int) (vE_fault : Int) (vE_faultAt : Int) (qU : Nat) (qV : Nat) (fE_text : (Int → Int)) (hr_n : -2147483648 ≤ n ∧ n < 2147483648) (hEs : 0 ≤ vE_size ∧ vE_size ≤ 120) (hEt : Rg fE_text 120 0 255) : xMi D kI kJ l yX9_feed wsX9_feed 3 77 0 0 [.ref qK, .int (jI n), .long (jL bytes)] [(qK, .inr (9, [.ref qM, .ref qC, .ref qL, .ref qFr, .ref qE, .ref qK_facts, .ref qN, .ref qS])), (qE, .inr (5, [.ref qE_text, .int (jI vE_size), .int (jI vE_next), .int (jI vE_fault), .int (jI vE_faultAt), .ref qU, .ref qV])), aI kI qE_text 120 fE_text] (fun (z : Int) (u : Int × (Int → Int)) => ((¬ (1 ≤ n ∧ n ≤ 8) ∧ z = -1002 ∧ u.1 = vE_size) ∨ ((1 ≤ n ∧ n ≤ 8) ∧ vE_size + n ≤ 120 ∧ z = vE_size + n ∧ u.1 = vE_size + n) ∨ ((1 ≤ n ∧ n ≤ 8) ∧ 120 < vE_size + n ∧ z = -1004 ∧ u.1 = vE_size)) ∧ (∀ k : Int, (k < vE_size ∨ u.1 ≤ k) → u.2 k = fE_text k) ∧ (u.1 = vE_size + n → ∀ j : Int, 0 ≤ j → j < n → u.2 (vE_size + j) = (byU (jL bytes) (jI (8 * (n - 1 - j))))) ∧ (Rg u.2 120 0 255)) (fun (u : Int × (Int → Int)) => [(qK, .inr (9, [.ref qM, .ref qC, .ref qL, .ref qFr, .ref qE, .ref qK_facts, .ref qN, .ref qS])), (qE, .inr (5, [.ref qE_text, .int (jI u.1), .int (jI vE_next), .int (jI vE_fault), .int (jI vE_faultAt), .ref qU, .ref qV])), aI kI qE_text 120 u.2]) := by
  refine xMi_of (cc := cX9_feed) (maxL := 4) (rt := .int) (by decide) rfl (Nat.le_of_ble_eq_true rfl) (fun _ _ _ => rfl) ?_
  intro p e s m args below meth c A Q F hin2 hret
  have hin9 : ∀ w ∈ wsX90, w ∈ wsX9_feed := by decide +kernel
  have hw0 : Cond.fieldLink RX9 40 (TX9 4).1 (TX9 4).2.1 (TX9 4).2.2.1 ∈ wsX9_feed := by decide +kernel
  refine x_lveq (lv' := [(0, .ref qK), (1, .int (jI n)), (2, .long (jL bytes))]) rfl ?_
  refine x_iload_n F dX9_feed_0 rfl 1 rfl ?_
  refine x_iconst F dX9_feed_1 ?_
  refine x_icmp_lt (tgt := 11) F dX9_feed_2 (by decide) (by omega) (fun c2 => ?_) (fun c2 => ?_)
  · -- 2 t
    refine x_sipush F dX9_feed_11 (by decide) ?_
    exact hret 0 0 14 _ (-1002) (vE_size, fE_text) (Nat.le_of_ble_eq_true rfl) (Nat.le_of_ble_eq_true rfl) dX9_feed_14 (by (try dsimp only); exact (⟨by omega, fun k h1 => rfl, fun q j h1 h2 => absurd q (by omega), hEt⟩))
  · -- 2 f
    refine x_iload_n F dX9_feed_5 rfl 1 rfl ?_
    refine x_bipush F dX9_feed_6 (by decide) ?_
    refine x_icmp_le (tgt := 15) F dX9_feed_8 (by decide) (by omega) (fun c8 => ?_) (fun c8 => ?_)
    · -- 8 t
      refine x_aload_n F dX9_feed_15 rfl 0 rfl ?_
      refine x_get (ci := 9) F hin9 0 rfl rfl 4 (by decide) hw0 rfl dX9_feed_16 ?_
      refine x_iload_n F dX9_feed_19 rfl 1 rfl ?_
      refine x_lload_n F dX9_feed_20 rfl 2 rfl ?_
      refine x_callVi (ci := 5) (q0 := 1) (As := [.int (jI n), .long (jL bytes)]) (st := []) F (c_X5_append D kI kJ l qE n bytes qE_text vE_size vE_next vE_fault vE_faultAt qU qV fE_text hr_n hEs hEt (by omega)) (cwV 2 F.2.2.2.2.1 gX9_feed_X5_append rfl rfl rfl (by decide +kernel) ⟨Nat.le_of_ble_eq_true rfl, Nat.le_of_ble_eq_true rfl⟩) rfl rfl [1, 2] [0] [0, 1, 2] rfl rfl (by decide) (by decide) (by decide) (fun _ => rfl) (by decide) rfl (Nat.le_of_ble_eq_true rfl) dX9_feed_21 ⟨Nat.le_of_ble_eq_true rfl, Nat.le_of_ble_eq_true rfl⟩ (fun z21 u21 h21 => ?_)
      obtain ⟨n2_21, t2_21⟩ := u21
      try dsimp only at h21
      refine x_ws [(qK, .inr (9, [.ref qM, .ref qC, .ref qL, .ref qFr, .ref qE, .ref qK_facts, .ref qN, .ref qS])), (qE, .inr (5, [.ref qE_text, .int (jI n2_21), .int (jI vE_next), .int (jI vE_fault), .int (jI vE_faultAt), .ref qU, .ref qV])), aI kI qE_text 120 t2_21] rfl ?_
      obtain ⟨hz21, ho_21, hw_21, hg_21⟩ := h21
      exact hret 0 0 24 _ z21 (n2_21, t2_21) (Nat.le_of_ble_eq_true rfl) (Nat.le_of_ble_eq_true rfl) dX9_feed_24 (by (try dsimp only); exact (⟨by omega, ho_21, hw_21, hg_21⟩))
    · -- 8 f
      refine x_sipush F dX9_feed_11 (by decide) ?_
      exact hret 0 0 14 _ (-1002) (vE_size, fE_text) (Nat.le_of_ble_eq_true rfl) (Nat.le_of_ble_eq_true rfl) dX9_feed_14 (by (try dsimp only); exact (⟨by omega, fun k h1 => rfl, fun q j h1 h2 => absurd q (by omega), hEt⟩))
set_option maxHeartbeats 4000000 in
set_option maxRecDepth 100000 in
theorem c_X10_feed (D : va_G) (kI kJ : Nat) (l : Launch) (qO : Nat) (n : Int) (bytes : Int) (vO_blocks : Int) (qO_stones : Nat) (qO_laid : Nat) (qO_deep : Nat) (vO_placings : Int) (qO_placed : Nat) (vO_mortars : Int) (qO_put : Nat) (qO_rates : Nat) (vO_limit : Int) (vO_looks : Int) (qO_seen : Nat) (qO_text : Nat) (vO_texted : Int) (vO_faultPlace : Int) (vO_clauses : Int) (qO_rule : Nat) (qO_fresh : Nat) (vO_lots : Int) (qO_stocks : Nat) (qO_row : Nat) (qO_dangers : Nat) (qO_losses : Nat) (vO_upper : Int) (vO_lower : Int) (qO_habitUpper : Nat) (qO_habitLower : Nat) (vO_at : Int) (vO_word : Int) (vO_wordEnd : Int) (qO_chosen : Nat) (qO_lost : Nat) (qO_zones : Nat) (qO_way : Nat) (qO_spent : Nat) (qO_scaffolds : Nat) (fO_text : (Int → Int)) (hr_n : -2147483648 ≤ n ∧ n < 2147483648) (hOs : 0 ≤ vO_texted ∧ vO_texted ≤ 120) (hOt : Rg fO_text 120 0 255) : xMi D kI kJ l yX10_feed wsX10_feed 2 57 0 0 [.ref qO, .int (jI n), .long (jL bytes)] [(qO, .inr (10, [.int (jI vO_blocks), .ref qO_stones, .ref qO_laid, .ref qO_deep, .int (jI vO_placings), .ref qO_placed, .int (jI vO_mortars), .ref qO_put, .ref qO_rates, .int (jI vO_limit), .int (jI vO_looks), .ref qO_seen, .ref qO_text, .int (jI vO_texted), .int (jI vO_faultPlace), .int (jI vO_clauses), .ref qO_rule, .ref qO_fresh, .int (jI vO_lots), .ref qO_stocks, .ref qO_row, .ref qO_dangers, .ref qO_losses, .long (jL vO_upper), .long (jL vO_lower), .ref qO_habitUpper, .ref qO_habitLower, .int (jI vO_at), .long (jL vO_word), .int (jI vO_wordEnd), .ref qO_chosen, .ref qO_lost, .ref qO_zones, .ref qO_way, .ref qO_spent, .ref qO_scaffolds])), aI kI qO_text 120 fO_text] (fun (z : Int) (u : (Int → Int) × Int) => ((¬ (1 ≤ n ∧ n ≤ 8) ∧ z = -1002 ∧ u.2 = vO_texted) ∨ ((1 ≤ n ∧ n ≤ 8) ∧ vO_texted + n ≤ 120 ∧ z = vO_texted + n ∧ u.2 = vO_texted + n) ∨ ((1 ≤ n ∧ n ≤ 8) ∧ 120 < vO_texted + n ∧ z = -1004 ∧ u.2 = vO_texted)) ∧ (∀ k : Int, (k < vO_texted ∨ u.2 ≤ k) → u.1 k = fO_text k) ∧ (u.2 = vO_texted + n → ∀ j : Int, 0 ≤ j → j < n → u.1 (vO_texted + j) = (byU (jL bytes) (jI (8 * (n - 1 - j))))) ∧ (Rg u.1 120 0 255)) (fun (u : (Int → Int) × Int) => [(qO, .inr (10, [.int (jI vO_blocks), .ref qO_stones, .ref qO_laid, .ref qO_deep, .int (jI vO_placings), .ref qO_placed, .int (jI vO_mortars), .ref qO_put, .ref qO_rates, .int (jI vO_limit), .int (jI vO_looks), .ref qO_seen, .ref qO_text, .int (jI u.2), .int (jI vO_faultPlace), .int (jI vO_clauses), .ref qO_rule, .ref qO_fresh, .int (jI vO_lots), .ref qO_stocks, .ref qO_row, .ref qO_dangers, .ref qO_losses, .long (jL vO_upper), .long (jL vO_lower), .ref qO_habitUpper, .ref qO_habitLower, .int (jI vO_at), .long (jL vO_word), .int (jI vO_wordEnd), .ref qO_chosen, .ref qO_lost, .ref qO_zones, .ref qO_way, .ref qO_spent, .ref qO_scaffolds])), aI kI qO_text 120 u.1]) := by
  refine xMi_of (cc := cX10_feed) (maxL := 5) (rt := .int) (by decide) rfl (Nat.le_of_ble_eq_true rfl) (fun _ _ _ => rfl) ?_
  intro p e s m args below meth c A Q F hin2 hret
  have hin10 : ∀ w ∈ wsX100, w ∈ wsX10_feed := by decide +kernel
  have hw0 : Cond.constantLong RX10 198 8 ∈ wsX10_feed := by decide +kernel
  have hw1 : Cond.fieldLink RX10 151 (TX10 13).1 (TX10 13).2.1 (TX10 13).2.2.1 ∈ wsX10_feed := by decide +kernel
  have hw2 : Cond.fieldLink RX10 35 (TX10 12).1 (TX10 12).2.1 (TX10 12).2.2.1 ∈ wsX10_feed := by decide +kernel
  have hw3 : Cond.constantLong RX10 200 255 ∈ wsX10_feed := by decide +kernel
  refine x_lveq (lv' := [(0, .ref qO), (1, .int (jI n)), (2, .long (jL bytes))]) rfl ?_
  refine x_iload_n F dX10_feed_0 rfl 1 rfl ?_
  refine x_i2l F dX10_feed_1 (by omega) ?_
  refine x_lconst F 1 dX10_feed_2 (by decide) ?_
  refine x_ldc2 F 8 hw0 (by decide) dX10_feed_3 ?_
  refine x_callSi (As := [.long (jL n), .long (jL 1), .long (jL 8)]) (st := []) F (c_X10_in D kI kJ l n 1 8 (by omega) (by omega) (by omega)) (va_cwS 3 F.2.2.2.2.1 gX10_feed_X10_in rfl rfl rfl (by decide +kernel) ⟨Nat.le_of_ble_eq_true rfl, Nat.le_of_ble_eq_true rfl⟩) [] [0, 1] [0, 1] rfl rfl (by decide) (by decide) (by decide) (fun _ => rfl) (by decide) rfl (Nat.le_of_ble_eq_true rfl) dX10_feed_6 ⟨Nat.le_of_ble_eq_true rfl, Nat.le_of_ble_eq_true rfl⟩ (fun z6 u6 h6 => ?_)
  try dsimp only at h6
  refine x_ws [(qO, .inr (10, [.int (jI vO_blocks), .ref qO_stones, .ref qO_laid, .ref qO_deep, .int (jI vO_placings), .ref qO_placed, .int (jI vO_mortars), .ref qO_put, .ref qO_rates, .int (jI vO_limit), .int (jI vO_looks), .ref qO_seen, .ref qO_text, .int (jI vO_texted), .int (jI vO_faultPlace), .int (jI vO_clauses), .ref qO_rule, .ref qO_fresh, .int (jI vO_lots), .ref qO_stocks, .ref qO_row, .ref qO_dangers, .ref qO_losses, .long (jL vO_upper), .long (jL vO_lower), .ref qO_habitUpper, .ref qO_habitLower, .int (jI vO_at), .long (jL vO_word), .int (jI vO_wordEnd), .ref qO_chosen, .ref qO_lost, .ref qO_zones, .ref qO_way, .ref qO_spent, .ref qO_scaffolds])), aI kI qO_text 120 fO_text] rfl ?_
  have hb6 := h6
  refine x_bne (tgt := 16) F dX10_feed_9 (by decide) hb6 (fun c9 => ?_) (fun c9 => ?_)
  · -- 9 t
    refine x_aload_n F dX10_feed_16 rfl 0 rfl ?_
    refine x_get (ci := 10) F hin10 0 rfl rfl 13 (by decide) hw1 rfl dX10_feed_17 ?_
    refine x_iload_n F dX10_feed_20 rfl 1 rfl ?_
    refine x_iadd F dX10_feed_21 ?_
    refine x_bipush F dX10_feed_22 (by decide) ?_
    refine x_icmp_le (tgt := 31) F dX10_feed_24 (by decide) (by omega) (fun c24 => ?_) (fun c24 => ?_)
    · -- 24 t
      refine x_iload_n F dX10_feed_31 rfl 1 rfl ?_
      refine x_iconst F dX10_feed_32 ?_
      refine x_isub F dX10_feed_33 ?_
      refine x_istore (lv' := [(0, .ref qO), (1, .int (jI n)), (2, .long (jL bytes)), (4, .int (jI (n - 1)))]) F dX10_feed_34 (by decide) [1, 2, 3, 0] rfl ?_
      have lp36 : ∀ (fu : Nat) (i : Int) (sz : Int) (g : (Int → Int)) (hi : -1 ≤ i ∧ i ≤ n - 1) (hs : sz = vO_texted + (n - 1 - i)) (hold : ∀ k : Int, (k < vO_texted ∨ sz ≤ k) → g k = fO_text k) (hnew : ∀ j : Int, 0 ≤ j → j < n - 1 - i → g (vO_texted + j) = (byU (jL bytes) (jI (8 * (n - 1 - j))))) (hg : Rg g 120 0 255) (hm : i + 1 < (fu : Int)), xG D p l e (xRm 2 57 0 0) s m args below meth c 5 A Q 0 0 [(qO, .inr (10, [.int (jI vO_blocks), .ref qO_stones, .ref qO_laid, .ref qO_deep, .int (jI vO_placings), .ref qO_placed, .int (jI vO_mortars), .ref qO_put, .ref qO_rates, .int (jI vO_limit), .int (jI vO_looks), .ref qO_seen, .ref qO_text, .int (jI sz), .int (jI vO_faultPlace), .int (jI vO_clauses), .ref qO_rule, .ref qO_fresh, .int (jI vO_lots), .ref qO_stocks, .ref qO_row, .ref qO_dangers, .ref qO_losses, .long (jL vO_upper), .long (jL vO_lower), .ref qO_habitUpper, .ref qO_habitLower, .int (jI vO_at), .long (jL vO_word), .int (jI vO_wordEnd), .ref qO_chosen, .ref qO_lost, .ref qO_zones, .ref qO_way, .ref qO_spent, .ref qO_scaffolds])), aI kI qO_text 120 g] [(0, .ref qO), (1, .int (jI n)), (2, .long (jL bytes)), (4, .int (jI i))] 36 [] := by
        intro fu
        induction fu with
        | zero =>
          intro i sz g hi hs hold hnew hg hm
          exact absurd hm (by omega)
        | succ fu ih36 =>
          intro i sz g hi hs hold hnew hg hm
          refine x_iload F dX10_feed_36 3 rfl ?_
          refine x_if_lt (tgt := 78) F dX10_feed_38 (by decide) (by omega) (fun c38 => ?_) (fun c38 => ?_)
          · -- 38 t
            refine x_aload_n F dX10_feed_78 rfl 0 rfl ?_
            refine x_get (ci := 10) F hin10 0 rfl rfl 13 (by decide) hw1 rfl dX10_feed_79 ?_
            exact hret 0 0 82 _ sz (g, sz) (Nat.le_of_ble_eq_true rfl) (Nat.le_of_ble_eq_true rfl) dX10_feed_82 (by (try dsimp only); exact (⟨by omega, hold, fun _ j h1 h2 => hnew j h1 (by omega), hg⟩))
          · -- 38 f
            refine x_aload_n F dX10_feed_41 rfl 0 rfl ?_
            refine x_get (ci := 10) F hin10 0 rfl rfl 12 (by decide) hw2 rfl dX10_feed_42 ?_
            refine x_aload_n F dX10_feed_45 rfl 0 rfl ?_
            refine x_get (ci := 10) F hin10 0 rfl rfl 13 (by decide) hw1 rfl dX10_feed_46 ?_
            refine x_lload_n F dX10_feed_49 rfl 2 rfl ?_
            refine x_bipush F dX10_feed_50 (by decide) ?_
            refine x_iload F dX10_feed_52 3 rfl ?_
            refine x_imul F dX10_feed_54 ?_
            refine x_lshr F (((jL bytes) >>> ((jI (8 * i)).toInt64 &&& 63)).toInt) dX10_feed_55 ((jL_int _).symm) ?_
            refine x_ldc2 F 255 hw3 (by decide) dX10_feed_56 ?_
            refine x_land F (byS (jL bytes) (jI (8 * i))) dX10_feed_59 (byS_at _ _) ?_
            have hby := byU_rng (jL bytes) (jI (8 * i))
            have hbe := byU_S (jL bytes) (k := i) (by omega)
            rw [hbe] at hby
            refine x_l2i F dX10_feed_60 (by omega) ?_
            refine x_iast F 1 rfl (by decide) (by omega) dX10_feed_61 [(qO, .inr (10, [.int (jI vO_blocks), .ref qO_stones, .ref qO_laid, .ref qO_deep, .int (jI vO_placings), .ref qO_placed, .int (jI vO_mortars), .ref qO_put, .ref qO_rates, .int (jI vO_limit), .int (jI vO_looks), .ref qO_seen, .ref qO_text, .int (jI sz), .int (jI vO_faultPlace), .int (jI vO_clauses), .ref qO_rule, .ref qO_fresh, .int (jI vO_lots), .ref qO_stocks, .ref qO_row, .ref qO_dangers, .ref qO_losses, .long (jL vO_upper), .long (jL vO_lower), .ref qO_habitUpper, .ref qO_habitLower, .int (jI vO_at), .long (jL vO_word), .int (jI vO_wordEnd), .ref qO_chosen, .ref qO_lost, .ref qO_zones, .ref qO_way, .ref qO_spent, .ref qO_scaffolds])), aI kI qO_text 120 (iU g sz (byS (jL bytes) (jI (8 * i))))] rfl ?_
            have hg61 := Rg.up hg sz (byS (jL bytes) (jI (8 * i))) (by omega)
            refine x_aload_n F dX10_feed_62 rfl 0 rfl ?_
            refine x_dup F dX10_feed_63 rfl ?_
            refine x_get (ci := 10) F hin10 0 rfl rfl 13 (by decide) hw1 rfl dX10_feed_64 ?_
            refine x_iconst F dX10_feed_67 ?_
            refine x_iadd F dX10_feed_68 ?_
            refine x_put (ci := 10) F hin10 tyX10_ok nmX10 0 rfl rfl 13 (by decide) hw1 rfl rfl rfl (show 13 + 1 ≤ _ from Nat.le_of_ble_eq_true rfl) dX10_feed_69 [(qO, .inr (10, [.int (jI vO_blocks), .ref qO_stones, .ref qO_laid, .ref qO_deep, .int (jI vO_placings), .ref qO_placed, .int (jI vO_mortars), .ref qO_put, .ref qO_rates, .int (jI vO_limit), .int (jI vO_looks), .ref qO_seen, .ref qO_text, .int (jI (sz + 1)), .int (jI vO_faultPlace), .int (jI vO_clauses), .ref qO_rule, .ref qO_fresh, .int (jI vO_lots), .ref qO_stocks, .ref qO_row, .ref qO_dangers, .ref qO_losses, .long (jL vO_upper), .long (jL vO_lower), .ref qO_habitUpper, .ref qO_habitLower, .int (jI vO_at), .long (jL vO_word), .int (jI vO_wordEnd), .ref qO_chosen, .ref qO_lost, .ref qO_zones, .ref qO_way, .ref qO_spent, .ref qO_scaffolds])), aI kI qO_text 120 (iU g sz (byS (jL bytes) (jI (8 * i))))] rfl ?_
            refine x_iinc (lv' := [(0, .ref qO), (1, .int (jI n)), (2, .long (jL bytes)), (4, .int (jI (i + (-1))))]) (k := 3) F dX10_feed_72 rfl (by decide) [1, 2, 3, 0] rfl ?_
            refine x_goto (tgt := 36) F dX10_feed_75 (by decide) ?_
            exact ih36 (i + (-1)) (sz + 1) (iU g sz (byS (jL bytes) (jI (8 * i)))) (by omega) (by omega) (fun k h1 => by rw [iU_n (by omega)]; exact hold k (by omega)) (fun j h1 h2 => by by_cases e : j = n - 1 - i; (rw [e, show vO_texted + (n - 1 - i) = sz by omega, iU_s, show n - 1 - (n - 1 - i) = i by omega]; exact hbe.symm); (rw [iU_n (by omega)]; exact hnew j h1 (by omega))) hg61 (by omega)
      exact lp36 (Int.toNat ((n - 1) + 1) + 1) (n - 1) vO_texted fO_text (by omega) (by omega) (fun k h1 => rfl) (fun j h1 h2 => by omega) hOt (by omega)
    · -- 24 f
      refine x_sipush F dX10_feed_27 (by decide) ?_
      exact hret 0 0 30 _ (-1004) (fO_text, vO_texted) (Nat.le_of_ble_eq_true rfl) (Nat.le_of_ble_eq_true rfl) dX10_feed_30 (by (try dsimp only); exact (⟨by omega, fun k h1 => rfl, fun q => absurd q (by omega), hOt⟩))
  · -- 9 f
    refine x_sipush F dX10_feed_12 (by decide) ?_
    exact hret 0 0 15 _ (-1002) (fO_text, vO_texted) (Nat.le_of_ble_eq_true rfl) (Nat.le_of_ble_eq_true rfl) dX10_feed_15 (by (try dsimp only); exact (⟨by omega, fun k h1 => rfl, fun q j h1 h2 => absurd q (by omega), hOt⟩))
