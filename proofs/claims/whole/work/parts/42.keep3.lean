set_option maxHeartbeats 4000000 in
set_option maxRecDepth 100000 in
theorem c_X9_lot (D : va_G) (kI kJ : Nat) (l : Launch) (qK : Nat) (stone : Int) (strength : Int) (pores : Int) (colour : Int) (pieces : Int) (qM : Nat) (qC : Nat) (qL : Nat) (qFr : Nat) (qE : Nat) (qK_facts : Nat) (qN : Nat) (qS : Nat) (qS_stones : Nat) (qS_strengths : Nat) (qS_pores : Nat) (qS_colours : Nat) (qS_pieces : Nat) (vS_size : Int) (fS_stones : (Int → Int)) (fS_strengths : (Int → Int)) (fS_pores : (Int → Int)) (fS_colours : (Int → Int)) (fS_pieces : (Int → Int)) (hr_stone : -2147483648 ≤ stone ∧ stone < 2147483648) (hr_strength : -2147483648 ≤ strength ∧ strength < 2147483648) (hr_pores : -2147483648 ≤ pores ∧ pores < 2147483648) (hr_colour : -2147483648 ≤ colour ∧ colour < 2147483648) (hr_pieces : -2147483648 ≤ pieces ∧ pieces < 2147483648) (hSs : 0 ≤ vS_size ∧ vS_size ≤ 20) : xMi D kI kJ l yX9_lot wsX9_lot 3 78 0 0 [.ref qK, .int (jI stone), .int (jI strength), .int (jI pores), .int (jI colour), .int (jI pieces)] [(qK, .inr (9, [.ref qM, .ref qC, .ref qL, .ref qFr, .ref qE, .ref qK_facts, .ref qN, .ref qS])), (qS, .inr (8, [.ref qS_stones, .ref qS_strengths, .ref qS_pores, .ref qS_colours, .ref qS_pieces, .int (jI vS_size)])), aI kI qS_stones 20 fS_stones, aI kI qS_strengths 20 fS_strengths, aI kI qS_pores 20 fS_pores, aI kI qS_colours 20 fS_colours, aI kI qS_pieces 20 fS_pieces] (fun (z : Int) (u : Int × (Int → Int) × (Int → Int) × (Int → Int) × (Int → Int) × (Int → Int)) => (((¬ ((0 ≤ stone ∧ stone ≤ 3) ∧ (0 ≤ strength ∧ strength ≤ 99) ∧ (0 ≤ pores ∧ pores ≤ 99) ∧ (0 ≤ colour ∧ colour ≤ 99) ∧ 0 ≤ pieces ∧ pieces ≤ 99)) ∧ z = -1002 ∧ u.1 = vS_size ∧ u.2.1 = fS_stones ∧ u.2.2.1 = fS_strengths ∧ u.2.2.2.1 = fS_pores ∧ u.2.2.2.2.1 = fS_colours ∧ u.2.2.2.2.2 = fS_pieces) ∨ ((((0 ≤ stone ∧ stone ≤ 3) ∧ (0 ≤ strength ∧ strength ≤ 99) ∧ (0 ≤ pores ∧ pores ≤ 99) ∧ (0 ≤ colour ∧ colour ≤ 99) ∧ 0 ≤ pieces ∧ pieces ≤ 99) ∧ vS_size = 20) ∧ z = -1004 ∧ u.1 = vS_size ∧ u.2.1 = fS_stones ∧ u.2.2.1 = fS_strengths ∧ u.2.2.2.1 = fS_pores ∧ u.2.2.2.2.1 = fS_colours ∧ u.2.2.2.2.2 = fS_pieces) ∨ ((((0 ≤ stone ∧ stone ≤ 3) ∧ (0 ≤ strength ∧ strength ≤ 99) ∧ (0 ≤ pores ∧ pores ≤ 99) ∧ (0 ≤ colour ∧ colour ≤ 99) ∧ 0 ≤ pieces ∧ pieces ≤ 99) ∧ vS_size < 20) ∧ z = vS_size ∧ u.1 = vS_size + 1 ∧ u.2.1 = iU fS_stones vS_size stone ∧ u.2.2.1 = iU fS_strengths vS_size strength ∧ u.2.2.2.1 = iU fS_pores vS_size pores ∧ u.2.2.2.2.1 = iU fS_colours vS_size colour ∧ u.2.2.2.2.2 = iU fS_pieces vS_size pieces))) (fun (u : Int × (Int → Int) × (Int → Int) × (Int → Int) × (Int → Int) × (Int → Int)) => [(qK, .inr (9, [.ref qM, .ref qC, .ref qL, .ref qFr, .ref qE, .ref qK_facts, .ref qN, .ref qS])), (qS, .inr (8, [.ref qS_stones, .ref qS_strengths, .ref qS_pores, .ref qS_colours, .ref qS_pieces, .int (jI u.1)])), aI kI qS_stones 20 u.2.1, aI kI qS_strengths 20 u.2.2.1, aI kI qS_pores 20 u.2.2.2.1, aI kI qS_colours 20 u.2.2.2.2.1, aI kI qS_pieces 20 u.2.2.2.2.2]) := by
  refine xMi_of (cc := cX9_lot) (maxL := 6) (rt := .int) (by decide) rfl (Nat.le_of_ble_eq_true rfl) (fun _ _ _ => rfl) ?_
  intro p e s m args below meth c A Q F hin2 hret
  have hin9 : ∀ w ∈ wsX90, w ∈ wsX9_lot := by decide +kernel
  have hw0 : Cond.fieldLink RX9 58 (TX9 7).1 (TX9 7).2.1 (TX9 7).2.2.1 ∈ wsX9_lot := by decide +kernel
  refine x_lveq (lv' := [(0, .ref qK), (1, .int (jI stone)), (2, .int (jI strength)), (3, .int (jI pores)), (4, .int (jI colour)), (5, .int (jI pieces))]) rfl ?_
  refine x_iload_n F dX9_lot_0 rfl 1 rfl ?_
  refine x_iconst F dX9_lot_1 ?_
  refine x_callSi (As := [.int (jI stone), .int (jI 4)]) (st := []) F (c_X9_isBelow D kI kJ l stone 4 (by omega) (by omega)) (va_cwS 2 F.2.2.2.2.1 gX9_lot_X9_isBelow rfl rfl rfl (by decide +kernel) ⟨Nat.le_of_ble_eq_true rfl, Nat.le_of_ble_eq_true rfl⟩) [] [0, 1, 2, 3, 4, 5, 6] [0, 1, 2, 3, 4, 5, 6] rfl rfl (by decide) (by decide) (by decide) (fun _ => rfl) (by decide) rfl (Nat.le_of_ble_eq_true rfl) dX9_lot_2 ⟨Nat.le_of_ble_eq_true rfl, Nat.le_of_ble_eq_true rfl⟩ (fun z2 u2 h2 => ?_)
  try dsimp only at h2
  refine x_ws [(qK, .inr (9, [.ref qM, .ref qC, .ref qL, .ref qFr, .ref qE, .ref qK_facts, .ref qN, .ref qS])), (qS, .inr (8, [.ref qS_stones, .ref qS_strengths, .ref qS_pores, .ref qS_colours, .ref qS_pieces, .int (jI vS_size)])), aI kI qS_stones 20 fS_stones, aI kI qS_strengths 20 fS_strengths, aI kI qS_pores 20 fS_pores, aI kI qS_colours 20 fS_colours, aI kI qS_pieces 20 fS_pieces] rfl ?_
  have hb2 := h2
  refine x_beq (tgt := 38) F dX9_lot_5 (by decide) hb2 (fun c5 => ?_) (fun c5 => ?_)
  · -- 5 t
    refine x_sipush F dX9_lot_38 (by decide) ?_
    exact hret 0 0 41 _ (-1002) (vS_size, fS_stones, fS_strengths, fS_pores, fS_colours, fS_pieces) (Nat.le_of_ble_eq_true rfl) (Nat.le_of_ble_eq_true rfl) dX9_lot_41 (by (try dsimp only); exact (by first | exact Or.inl (⟨by omega, (by first | rfl | omega), (by first | rfl | omega), (by first | rfl | omega), (by first | rfl | omega), (by first | rfl | omega), (by first | rfl | omega), (by first | rfl | omega)⟩) | exact Or.inr (Or.inl (⟨by omega, (by first | rfl | omega), (by first | rfl | omega), (by first | rfl | omega), (by first | rfl | omega), (by first | rfl | omega), (by first | rfl | omega), (by first | rfl | omega)⟩)) | exact Or.inr (Or.inr (⟨by omega, (by first | rfl | omega), (by first | rfl | omega), (by first | rfl | omega), (by first | rfl | omega), (by first | rfl | omega), (by first | rfl | omega), (by first | rfl | omega)⟩))))
  · -- 5 f
    refine x_iload_n F dX9_lot_8 rfl 2 rfl ?_
    refine x_callSi (As := [.int (jI strength)]) (st := []) F (c_X9_isQuality D kI kJ l strength (by omega)) (va_cwS 1 F.2.2.2.2.1 gX9_lot_X9_isQuality rfl rfl rfl (by decide +kernel) ⟨Nat.le_of_ble_eq_true rfl, Nat.le_of_ble_eq_true rfl⟩) [] [0, 1, 2, 3, 4, 5, 6] [0, 1, 2, 3, 4, 5, 6] rfl rfl (by decide) (by decide) (by decide) (fun _ => rfl) (by decide) rfl (Nat.le_of_ble_eq_true rfl) dX9_lot_9 ⟨Nat.le_of_ble_eq_true rfl, Nat.le_of_ble_eq_true rfl⟩ (fun z9 u9 h9 => ?_)
    try dsimp only at h9
    refine x_ws [(qK, .inr (9, [.ref qM, .ref qC, .ref qL, .ref qFr, .ref qE, .ref qK_facts, .ref qN, .ref qS])), (qS, .inr (8, [.ref qS_stones, .ref qS_strengths, .ref qS_pores, .ref qS_colours, .ref qS_pieces, .int (jI vS_size)])), aI kI qS_stones 20 fS_stones, aI kI qS_strengths 20 fS_strengths, aI kI qS_pores 20 fS_pores, aI kI qS_colours 20 fS_colours, aI kI qS_pieces 20 fS_pieces] rfl ?_
    have hb9 := h9
    refine x_beq (tgt := 38) F dX9_lot_12 (by decide) hb9 (fun c12 => ?_) (fun c12 => ?_)
    · -- 12 t
      refine x_sipush F dX9_lot_38 (by decide) ?_
      exact hret 0 0 41 _ (-1002) (vS_size, fS_stones, fS_strengths, fS_pores, fS_colours, fS_pieces) (Nat.le_of_ble_eq_true rfl) (Nat.le_of_ble_eq_true rfl) dX9_lot_41 (by (try dsimp only); exact (by first | exact Or.inl (⟨by omega, (by first | rfl | omega), (by first | rfl | omega), (by first | rfl | omega), (by first | rfl | omega), (by first | rfl | omega), (by first | rfl | omega), (by first | rfl | omega)⟩) | exact Or.inr (Or.inl (⟨by omega, (by first | rfl | omega), (by first | rfl | omega), (by first | rfl | omega), (by first | rfl | omega), (by first | rfl | omega), (by first | rfl | omega), (by first | rfl | omega)⟩)) | exact Or.inr (Or.inr (⟨by omega, (by first | rfl | omega), (by first | rfl | omega), (by first | rfl | omega), (by first | rfl | omega), (by first | rfl | omega), (by first | rfl | omega), (by first | rfl | omega)⟩))))
    · -- 12 f
      refine x_iload_n F dX9_lot_15 rfl 3 rfl ?_
      refine x_callSi (As := [.int (jI pores)]) (st := []) F (c_X9_isQuality D kI kJ l pores (by omega)) (va_cwS 1 F.2.2.2.2.1 gX9_lot_X9_isQuality rfl rfl rfl (by decide +kernel) ⟨Nat.le_of_ble_eq_true rfl, Nat.le_of_ble_eq_true rfl⟩) [] [0, 1, 2, 3, 4, 5, 6] [0, 1, 2, 3, 4, 5, 6] rfl rfl (by decide) (by decide) (by decide) (fun _ => rfl) (by decide) rfl (Nat.le_of_ble_eq_true rfl) dX9_lot_16 ⟨Nat.le_of_ble_eq_true rfl, Nat.le_of_ble_eq_true rfl⟩ (fun z16 u16 h16 => ?_)
      try dsimp only at h16
      refine x_ws [(qK, .inr (9, [.ref qM, .ref qC, .ref qL, .ref qFr, .ref qE, .ref qK_facts, .ref qN, .ref qS])), (qS, .inr (8, [.ref qS_stones, .ref qS_strengths, .ref qS_pores, .ref qS_colours, .ref qS_pieces, .int (jI vS_size)])), aI kI qS_stones 20 fS_stones, aI kI qS_strengths 20 fS_strengths, aI kI qS_pores 20 fS_pores, aI kI qS_colours 20 fS_colours, aI kI qS_pieces 20 fS_pieces] rfl ?_
      have hb16 := h16
      refine x_beq (tgt := 38) F dX9_lot_19 (by decide) hb16 (fun c19 => ?_) (fun c19 => ?_)
      · -- 19 t
        refine x_sipush F dX9_lot_38 (by decide) ?_
        exact hret 0 0 41 _ (-1002) (vS_size, fS_stones, fS_strengths, fS_pores, fS_colours, fS_pieces) (Nat.le_of_ble_eq_true rfl) (Nat.le_of_ble_eq_true rfl) dX9_lot_41 (by (try dsimp only); exact (by first | exact Or.inl (⟨by omega, (by first | rfl | omega), (by first | rfl | omega), (by first | rfl | omega), (by first | rfl | omega), (by first | rfl | omega), (by first | rfl | omega), (by first | rfl | omega)⟩) | exact Or.inr (Or.inl (⟨by omega, (by first | rfl | omega), (by first | rfl | omega), (by first | rfl | omega), (by first | rfl | omega), (by first | rfl | omega), (by first | rfl | omega), (by first | rfl | omega)⟩)) | exact Or.inr (Or.inr (⟨by omega, (by first | rfl | omega), (by first | rfl | omega), (by first | rfl | omega), (by first | rfl | omega), (by first | rfl | omega), (by first | rfl | omega), (by first | rfl | omega)⟩))))
      · -- 19 f
        refine x_iload F dX9_lot_22 4 rfl ?_
        refine x_callSi (As := [.int (jI colour)]) (st := []) F (c_X9_isQuality D kI kJ l colour (by omega)) (va_cwS 1 F.2.2.2.2.1 gX9_lot_X9_isQuality rfl rfl rfl (by decide +kernel) ⟨Nat.le_of_ble_eq_true rfl, Nat.le_of_ble_eq_true rfl⟩) [] [0, 1, 2, 3, 4, 5, 6] [0, 1, 2, 3, 4, 5, 6] rfl rfl (by decide) (by decide) (by decide) (fun _ => rfl) (by decide) rfl (Nat.le_of_ble_eq_true rfl) dX9_lot_24 ⟨Nat.le_of_ble_eq_true rfl, Nat.le_of_ble_eq_true rfl⟩ (fun z24 u24 h24 => ?_)
        try dsimp only at h24
        refine x_ws [(qK, .inr (9, [.ref qM, .ref qC, .ref qL, .ref qFr, .ref qE, .ref qK_facts, .ref qN, .ref qS])), (qS, .inr (8, [.ref qS_stones, .ref qS_strengths, .ref qS_pores, .ref qS_colours, .ref qS_pieces, .int (jI vS_size)])), aI kI qS_stones 20 fS_stones, aI kI qS_strengths 20 fS_strengths, aI kI qS_pores 20 fS_pores, aI kI qS_colours 20 fS_colours, aI kI qS_pieces 20 fS_pieces] rfl ?_
        have hb24 := h24
        refine x_beq (tgt := 38) F dX9_lot_27 (by decide) hb24 (fun c27 => ?_) (fun c27 => ?_)
        · -- 27 t
          refine x_sipush F dX9_lot_38 (by decide) ?_
          exact hret 0 0 41 _ (-1002) (vS_size, fS_stones, fS_strengths, fS_pores, fS_colours, fS_pieces) (Nat.le_of_ble_eq_true rfl) (Nat.le_of_ble_eq_true rfl) dX9_lot_41 (by (try dsimp only); exact (by first | exact Or.inl (⟨by omega, (by first | rfl | omega), (by first | rfl | omega), (by first | rfl | omega), (by first | rfl | omega), (by first | rfl | omega), (by first | rfl | omega), (by first | rfl | omega)⟩) | exact Or.inr (Or.inl (⟨by omega, (by first | rfl | omega), (by first | rfl | omega), (by first | rfl | omega), (by first | rfl | omega), (by first | rfl | omega), (by first | rfl | omega), (by first | rfl | omega)⟩)) | exact Or.inr (Or.inr (⟨by omega, (by first | rfl | omega), (by first | rfl | omega), (by first | rfl | omega), (by first | rfl | omega), (by first | rfl | omega), (by first | rfl | omega), (by first | rfl | omega)⟩))))
        · -- 27 f
          refine x_iload F dX9_lot_30 5 rfl ?_
          refine x_callSi (As := [.int (jI pieces)]) (st := []) F (c_X9_isQuality D kI kJ l pieces (by omega)) (va_cwS 1 F.2.2.2.2.1 gX9_lot_X9_isQuality rfl rfl rfl (by decide +kernel) ⟨Nat.le_of_ble_eq_true rfl, Nat.le_of_ble_eq_true rfl⟩) [] [0, 1, 2, 3, 4, 5, 6] [0, 1, 2, 3, 4, 5, 6] rfl rfl (by decide) (by decide) (by decide) (fun _ => rfl) (by decide) rfl (Nat.le_of_ble_eq_true rfl) dX9_lot_32 ⟨Nat.le_of_ble_eq_true rfl, Nat.le_of_ble_eq_true rfl⟩ (fun z32 u32 h32 => ?_)
          try dsimp only at h32
          refine x_ws [(qK, .inr (9, [.ref qM, .ref qC, .ref qL, .ref qFr, .ref qE, .ref qK_facts, .ref qN, .ref qS])), (qS, .inr (8, [.ref qS_stones, .ref qS_strengths, .ref qS_pores, .ref qS_colours, .ref qS_pieces, .int (jI vS_size)])), aI kI qS_stones 20 fS_stones, aI kI qS_strengths 20 fS_strengths, aI kI qS_pores 20 fS_pores, aI kI qS_colours 20 fS_colours, aI kI qS_pieces 20 fS_pieces] rfl ?_
          have hb32 := h32
          refine x_bne (tgt := 42) F dX9_lot_35 (by decide) hb32 (fun c35 => ?_) (fun c35 => ?_)
          · -- 35 t
            refine x_aload_n F dX9_lot_42 rfl 0 rfl ?_
            refine x_get (ci := 9) F hin9 0 rfl rfl 7 (by decide) hw0 rfl dX9_lot_43 ?_
            refine x_iload_n F dX9_lot_46 rfl 1 rfl ?_
            refine x_iload_n F dX9_lot_47 rfl 2 rfl ?_
            refine x_iload_n F dX9_lot_48 rfl 3 rfl ?_
            refine x_iload F dX9_lot_49 4 rfl ?_
            refine x_iload F dX9_lot_51 5 rfl ?_
            by_cases hf53 : vS_size < 20
            · -- fork 53 t
              refine x_callVi (ci := 8) (q0 := 1) (As := [.int (jI stone), .int (jI strength), .int (jI pores), .int (jI colour), .int (jI pieces)]) (st := []) F (c_X8_add_ok D kI kJ l qS stone strength pores colour pieces qS_stones qS_strengths qS_pores qS_colours qS_pieces vS_size fS_stones fS_strengths fS_pores fS_colours fS_pieces hr_stone hr_strength (by omega) hr_colour (by omega) (by omega)) (cwV 5 F.2.2.2.2.1 gX9_lot_X8_add rfl rfl rfl (by decide +kernel) ⟨Nat.le_of_ble_eq_true rfl, Nat.le_of_ble_eq_true rfl⟩) rfl rfl [1, 2, 3, 4, 5, 6] [0] [0, 1, 2, 3, 4, 5, 6] rfl rfl (by decide) (by decide) (by decide) (fun _ => rfl) (by decide) rfl (Nat.le_of_ble_eq_true rfl) dX9_lot_53 ⟨Nat.le_of_ble_eq_true rfl, Nat.le_of_ble_eq_true rfl⟩ (fun z53 u53 h53 => ?_)
              try dsimp only at h53
              refine x_ws [(qK, .inr (9, [.ref qM, .ref qC, .ref qL, .ref qFr, .ref qE, .ref qK_facts, .ref qN, .ref qS])), (qS, .inr (8, [.ref qS_stones, .ref qS_strengths, .ref qS_pores, .ref qS_colours, .ref qS_pieces, .int (jI (vS_size + 1))])), aI kI qS_stones 20 (iU fS_stones vS_size stone), aI kI qS_strengths 20 (iU fS_strengths vS_size strength), aI kI qS_pores 20 (iU fS_pores vS_size pores), aI kI qS_colours 20 (iU fS_colours vS_size colour), aI kI qS_pieces 20 (iU fS_pieces vS_size pieces)] rfl ?_
              have he53 := h53
              have he53 := he53.symm
              subst he53
              exact hret 0 0 56 _ vS_size ((vS_size + 1), (iU fS_stones vS_size stone), (iU fS_strengths vS_size strength), (iU fS_pores vS_size pores), (iU fS_colours vS_size colour), (iU fS_pieces vS_size pieces)) (Nat.le_of_ble_eq_true rfl) (Nat.le_of_ble_eq_true rfl) dX9_lot_56 (by (try dsimp only); exact (by first | exact Or.inl (⟨by omega, (by first | rfl | omega), (by first | rfl | omega), (by first | rfl | omega), (by first | rfl | omega), (by first | rfl | omega), (by first | rfl | omega), (by first | rfl | omega)⟩) | exact Or.inr (Or.inl (⟨by omega, (by first | rfl | omega), (by first | rfl | omega), (by first | rfl | omega), (by first | rfl | omega), (by first | rfl | omega), (by first | rfl | omega), (by first | rfl | omega)⟩)) | exact Or.inr (Or.inr (⟨by omega, (by first | rfl | omega), (by first | rfl | omega), (by first | rfl | omega), (by first | rfl | omega), (by first | rfl | omega), (by first | rfl | omega), (by first | rfl | omega)⟩))))
            · -- fork 53 f
              refine x_callVi (ci := 8) (q0 := 1) (As := [.int (jI stone), .int (jI strength), .int (jI pores), .int (jI colour), .int (jI pieces)]) (st := []) F (c_X8_add_full D kI kJ l qS stone strength pores colour pieces qS_stones qS_strengths qS_pores qS_colours qS_pieces vS_size fS_stones fS_strengths fS_pores fS_colours fS_pieces hr_stone hr_strength (by omega) hr_colour (by omega) (by omega)) (cwV 5 F.2.2.2.2.1 gX9_lot_X8_add rfl rfl rfl (by decide +kernel) ⟨Nat.le_of_ble_eq_true rfl, Nat.le_of_ble_eq_true rfl⟩) rfl rfl [1, 2, 3, 4, 5, 6] [0] [0, 1, 2, 3, 4, 5, 6] rfl rfl (by decide) (by decide) (by decide) (fun _ => rfl) (by decide) rfl (Nat.le_of_ble_eq_true rfl) dX9_lot_53 ⟨Nat.le_of_ble_eq_true rfl, Nat.le_of_ble_eq_true rfl⟩ (fun z53 u53 h53 => ?_)
              try dsimp only at h53
              refine x_ws [(qK, .inr (9, [.ref qM, .ref qC, .ref qL, .ref qFr, .ref qE, .ref qK_facts, .ref qN, .ref qS])), (qS, .inr (8, [.ref qS_stones, .ref qS_strengths, .ref qS_pores, .ref qS_colours, .ref qS_pieces, .int (jI vS_size)])), aI kI qS_stones 20 fS_stones, aI kI qS_strengths 20 fS_strengths, aI kI qS_pores 20 fS_pores, aI kI qS_colours 20 fS_colours, aI kI qS_pieces 20 fS_pieces] rfl ?_
              have he53 := h53
              have he53 := he53.symm
              subst he53
              exact hret 0 0 56 _ (-1004) (vS_size, fS_stones, fS_strengths, fS_pores, fS_colours, fS_pieces) (Nat.le_of_ble_eq_true rfl) (Nat.le_of_ble_eq_true rfl) dX9_lot_56 (by (try dsimp only); exact (by first | exact Or.inl (⟨by omega, (by first | rfl | omega), (by first | rfl | omega), (by first | rfl | omega), (by first | rfl | omega), (by first | rfl | omega), (by first | rfl | omega), (by first | rfl | omega)⟩) | exact Or.inr (Or.inl (⟨by omega, (by first | rfl | omega), (by first | rfl | omega), (by first | rfl | omega), (by first | rfl | omega), (by first | rfl | omega), (by first | rfl | omega), (by first | rfl | omega)⟩)) | exact Or.inr (Or.inr (⟨by omega, (by first | rfl | omega), (by first | rfl | omega), (by first | rfl | omega), (by first | rfl | omega), (by first | rfl | omega), (by first | rfl | omega), (by first | rfl | omega)⟩))))
          · -- 35 f
            refine x_sipush F dX9_lot_38 (by decide) ?_
            exact hret 0 0 41 _ (-1002) (vS_size, fS_stones, fS_strengths, fS_pores, fS_colours, fS_pieces) (Nat.le_of_ble_eq_true rfl) (Nat.le_of_ble_eq_true rfl) dX9_lot_41 (by (try dsimp only); exact (by first | exact Or.inl (⟨by omega, (by first | rfl | omega), (by first | rfl | omega), (by first | rfl | omega), (by first | rfl | omega), (by first | rfl | omega), (by first | rfl | omega), (by first | rfl | omega)⟩) | exact Or.inr (Or.inl (⟨by omega, (by first | rfl | omega), (by first | rfl | omega), (by first | rfl | omega), (by first | rfl | omega), (by first | rfl | omega), (by first | rfl | omega), (by first | rfl | omega)⟩)) | exact Or.inr (Or.inr (⟨by omega, (by first | rfl | omega), (by first | rfl | omega), (by first | rfl | omega), (by first | rfl | omega), (by first | rfl | omega), (by first | rfl | omega), (by first | rfl | omega)⟩))))
set_option maxHeartbeats 4000000 in
set_option maxRecDepth 100000 in
theorem c_X9_match (D : va_G) (kI kJ : Nat) (l : Launch) (qK : Nat) (stone : Int) (strength : Int) (pores : Int) (colour : Int) (span : Int) (qM : Nat) (qC : Nat) (qL : Nat) (qFr : Nat) (qE : Nat) (qK_facts : Nat) (qN : Nat) (qS : Nat) (qS_stones : Nat) (qS_strengths : Nat) (qS_pores : Nat) (qS_colours : Nat) (qS_pieces : Nat) (vS_size : Int) (fS_stones : (Int → Int)) (fS_strengths : (Int → Int)) (fS_pores : (Int → Int)) (fS_colours : (Int → Int)) (fS_pieces : (Int → Int)) (hr_stone : -2147483648 ≤ stone ∧ stone < 2147483648) (hr_strength : -2147483648 ≤ strength ∧ strength < 2147483648) (hr_pores : -2147483648 ≤ pores ∧ pores < 2147483648) (hr_colour : -2147483648 ≤ colour ∧ colour < 2147483648) (hr_span : -2147483648 ≤ span ∧ span < 2147483648) (hSs : 0 ≤ vS_size ∧ vS_size ≤ 20) (hS1 : Rg fS_stones 20 0 3) (hS2 : Rg fS_strengths 20 0 99) (hS3 : Rg fS_pores 20 0 99) (hS4 : Rg fS_colours 20 0 99) (hS5 : Rg fS_pieces 20 0 99) : xMi D kI kJ l yX9_match wsX9_match 2 98 0 0 [.ref qK, .int (jI stone), .int (jI strength), .int (jI pores), .int (jI colour), .int (jI span)] [(qK, .inr (9, [.ref qM, .ref qC, .ref qL, .ref qFr, .ref qE, .ref qK_facts, .ref qN, .ref qS])), (qS, .inr (8, [.ref qS_stones, .ref qS_strengths, .ref qS_pores, .ref qS_colours, .ref qS_pieces, .int (jI vS_size)])), aI kI qS_stones 20 fS_stones, aI kI qS_strengths 20 fS_strengths, aI kI qS_pores 20 fS_pores, aI kI qS_colours 20 fS_colours, aI kI qS_pieces 20 fS_pieces] (fun (z : Int) (u : Unit) => z = if ¬ ((-1 ≤ stone ∧ stone ≤ 3) ∧ (0 ≤ strength ∧ strength ≤ 99) ∧ (0 ≤ pores ∧ pores ≤ 99) ∧ (0 ≤ colour ∧ colour ≤ 99) ∧ 0 ≤ span ∧ span ≤ 99) then -1002 else mnI (lotOff fS_stones fS_strengths fS_pores fS_colours fS_pieces stone strength pores colour span) vS_size) (fun (u : Unit) => [(qK, .inr (9, [.ref qM, .ref qC, .ref qL, .ref qFr, .ref qE, .ref qK_facts, .ref qN, .ref qS])), (qS, .inr (8, [.ref qS_stones, .ref qS_strengths, .ref qS_pores, .ref qS_colours, .ref qS_pieces, .int (jI vS_size)])), aI kI qS_stones 20 fS_stones, aI kI qS_strengths 20 fS_strengths, aI kI qS_pores 20 fS_pores, aI kI qS_colours 20 fS_colours, aI kI qS_pieces 20 fS_pieces]) := by
  refine xMi_of (cc := cX9_match) (maxL := 6) (rt := .int) (by decide) rfl (Nat.le_of_ble_eq_true rfl) (fun _ _ _ => rfl) ?_
  intro p e s m args below meth c A Q F hin2 hret
  have hin9 : ∀ w ∈ wsX90, w ∈ wsX9_match := by decide +kernel
  have hw0 : Cond.fieldLink RX9 58 (TX9 7).1 (TX9 7).2.1 (TX9 7).2.2.1 ∈ wsX9_match := by decide +kernel
  refine x_lveq (lv' := [(0, .ref qK), (1, .int (jI stone)), (2, .int (jI strength)), (3, .int (jI pores)), (4, .int (jI colour)), (5, .int (jI span))]) rfl ?_
  refine x_iload_n F dX9_match_0 rfl 1 rfl ?_
  refine x_iconst F dX9_match_1 ?_
  refine x_icmp_eq (tgt := 13) F dX9_match_2 (by decide) (by omega) (fun c2 => ?_) (fun c2 => ?_)
  · -- 2 t
    refine x_iload_n F dX9_match_13 rfl 2 rfl ?_
    refine x_callSi (As := [.int (jI strength)]) (st := []) F (c_X9_isQuality D kI kJ l strength (by omega)) (va_cwS 1 F.2.2.2.2.1 gX9_match_X9_isQuality rfl rfl rfl (by decide +kernel) ⟨Nat.le_of_ble_eq_true rfl, Nat.le_of_ble_eq_true rfl⟩) [] [0, 1, 2, 3, 4, 5, 6] [0, 1, 2, 3, 4, 5, 6] rfl rfl (by decide) (by decide) (by decide) (fun _ => rfl) (by decide) rfl (Nat.le_of_ble_eq_true rfl) dX9_match_14 ⟨Nat.le_of_ble_eq_true rfl, Nat.le_of_ble_eq_true rfl⟩ (fun z14 u14 h14 => ?_)
    try dsimp only at h14
    refine x_ws [(qK, .inr (9, [.ref qM, .ref qC, .ref qL, .ref qFr, .ref qE, .ref qK_facts, .ref qN, .ref qS])), (qS, .inr (8, [.ref qS_stones, .ref qS_strengths, .ref qS_pores, .ref qS_colours, .ref qS_pieces, .int (jI vS_size)])), aI kI qS_stones 20 fS_stones, aI kI qS_strengths 20 fS_strengths, aI kI qS_pores 20 fS_pores, aI kI qS_colours 20 fS_colours, aI kI qS_pieces 20 fS_pieces] rfl ?_
    have hb14 := h14
    refine x_beq (tgt := 43) F dX9_match_17 (by decide) hb14 (fun c17 => ?_) (fun c17 => ?_)
    · -- 17 t
      refine x_sipush F dX9_match_43 (by decide) ?_
      exact hret 0 0 46 _ (-1002) () (Nat.le_of_ble_eq_true rfl) (Nat.le_of_ble_eq_true rfl) dX9_match_46 (by rw [if_pos (by omega)])
    · -- 17 f
      refine x_iload_n F dX9_match_20 rfl 3 rfl ?_
      refine x_callSi (As := [.int (jI pores)]) (st := []) F (c_X9_isQuality D kI kJ l pores (by omega)) (va_cwS 1 F.2.2.2.2.1 gX9_match_X9_isQuality rfl rfl rfl (by decide +kernel) ⟨Nat.le_of_ble_eq_true rfl, Nat.le_of_ble_eq_true rfl⟩) [] [0, 1, 2, 3, 4, 5, 6] [0, 1, 2, 3, 4, 5, 6] rfl rfl (by decide) (by decide) (by decide) (fun _ => rfl) (by decide) rfl (Nat.le_of_ble_eq_true rfl) dX9_match_21 ⟨Nat.le_of_ble_eq_true rfl, Nat.le_of_ble_eq_true rfl⟩ (fun z21 u21 h21 => ?_)
      try dsimp only at h21
      refine x_ws [(qK, .inr (9, [.ref qM, .ref qC, .ref qL, .ref qFr, .ref qE, .ref qK_facts, .ref qN, .ref qS])), (qS, .inr (8, [.ref qS_stones, .ref qS_strengths, .ref qS_pores, .ref qS_colours, .ref qS_pieces, .int (jI vS_size)])), aI kI qS_stones 20 fS_stones, aI kI qS_strengths 20 fS_strengths, aI kI qS_pores 20 fS_pores, aI kI qS_colours 20 fS_colours, aI kI qS_pieces 20 fS_pieces] rfl ?_
      have hb21 := h21
      refine x_beq (tgt := 43) F dX9_match_24 (by decide) hb21 (fun c24 => ?_) (fun c24 => ?_)
      · -- 24 t
        refine x_sipush F dX9_match_43 (by decide) ?_
        exact hret 0 0 46 _ (-1002) () (Nat.le_of_ble_eq_true rfl) (Nat.le_of_ble_eq_true rfl) dX9_match_46 (by rw [if_pos (by omega)])
      · -- 24 f
        refine x_iload F dX9_match_27 4 rfl ?_
        refine x_callSi (As := [.int (jI colour)]) (st := []) F (c_X9_isQuality D kI kJ l colour (by omega)) (va_cwS 1 F.2.2.2.2.1 gX9_match_X9_isQuality rfl rfl rfl (by decide +kernel) ⟨Nat.le_of_ble_eq_true rfl, Nat.le_of_ble_eq_true rfl⟩) [] [0, 1, 2, 3, 4, 5, 6] [0, 1, 2, 3, 4, 5, 6] rfl rfl (by decide) (by decide) (by decide) (fun _ => rfl) (by decide) rfl (Nat.le_of_ble_eq_true rfl) dX9_match_29 ⟨Nat.le_of_ble_eq_true rfl, Nat.le_of_ble_eq_true rfl⟩ (fun z29 u29 h29 => ?_)
        try dsimp only at h29
        refine x_ws [(qK, .inr (9, [.ref qM, .ref qC, .ref qL, .ref qFr, .ref qE, .ref qK_facts, .ref qN, .ref qS])), (qS, .inr (8, [.ref qS_stones, .ref qS_strengths, .ref qS_pores, .ref qS_colours, .ref qS_pieces, .int (jI vS_size)])), aI kI qS_stones 20 fS_stones, aI kI qS_strengths 20 fS_strengths, aI kI qS_pores 20 fS_pores, aI kI qS_colours 20 fS_colours, aI kI qS_pieces 20 fS_pieces] rfl ?_
        have hb29 := h29
        refine x_beq (tgt := 43) F dX9_match_32 (by decide) hb29 (fun c32 => ?_) (fun c32 => ?_)
        · -- 32 t
          refine x_sipush F dX9_match_43 (by decide) ?_
          exact hret 0 0 46 _ (-1002) () (Nat.le_of_ble_eq_true rfl) (Nat.le_of_ble_eq_true rfl) dX9_match_46 (by rw [if_pos (by omega)])
        · -- 32 f
          refine x_iload F dX9_match_35 5 rfl ?_
          refine x_callSi (As := [.int (jI span)]) (st := []) F (c_X9_isQuality D kI kJ l span (by omega)) (va_cwS 1 F.2.2.2.2.1 gX9_match_X9_isQuality rfl rfl rfl (by decide +kernel) ⟨Nat.le_of_ble_eq_true rfl, Nat.le_of_ble_eq_true rfl⟩) [] [0, 1, 2, 3, 4, 5, 6] [0, 1, 2, 3, 4, 5, 6] rfl rfl (by decide) (by decide) (by decide) (fun _ => rfl) (by decide) rfl (Nat.le_of_ble_eq_true rfl) dX9_match_37 ⟨Nat.le_of_ble_eq_true rfl, Nat.le_of_ble_eq_true rfl⟩ (fun z37 u37 h37 => ?_)
          try dsimp only at h37
          refine x_ws [(qK, .inr (9, [.ref qM, .ref qC, .ref qL, .ref qFr, .ref qE, .ref qK_facts, .ref qN, .ref qS])), (qS, .inr (8, [.ref qS_stones, .ref qS_strengths, .ref qS_pores, .ref qS_colours, .ref qS_pieces, .int (jI vS_size)])), aI kI qS_stones 20 fS_stones, aI kI qS_strengths 20 fS_strengths, aI kI qS_pores 20 fS_pores, aI kI qS_colours 20 fS_colours, aI kI qS_pieces 20 fS_pieces] rfl ?_
          have hb37 := h37
          refine x_bne (tgt := 47) F dX9_match_40 (by decide) hb37 (fun c40 => ?_) (fun c40 => ?_)
          · -- 40 t
            refine x_aload_n F dX9_match_47 rfl 0 rfl ?_
            refine x_get (ci := 9) F hin9 0 rfl rfl 7 (by decide) hw0 rfl dX9_match_48 ?_
            refine x_iload_n F dX9_match_51 rfl 1 rfl ?_
            refine x_iload_n F dX9_match_52 rfl 2 rfl ?_
            refine x_iload_n F dX9_match_53 rfl 3 rfl ?_
            refine x_iload F dX9_match_54 4 rfl ?_
            refine x_iload F dX9_match_56 5 rfl ?_
            refine x_callVi (ci := 8) (q0 := 1) (As := [.int (jI stone), .int (jI strength), .int (jI pores), .int (jI colour), .int (jI span)]) (st := []) F (c_X8_findMatch D kI kJ l qS stone strength pores colour span qS_stones qS_strengths qS_pores qS_colours qS_pieces vS_size fS_stones fS_strengths fS_pores fS_colours fS_pieces hr_stone hSs hS1 hS2 hS3 hS4 hS5 (by omega)) (cwV 5 F.2.2.2.2.1 gX9_match_X8_findMatch rfl rfl rfl (by decide +kernel) ⟨Nat.le_of_ble_eq_true rfl, Nat.le_of_ble_eq_true rfl⟩) rfl rfl [1, 2, 3, 4, 5, 6] [0] [0, 1, 2, 3, 4, 5, 6] rfl rfl (by decide) (by decide) (by decide) (fun _ => rfl) (by decide) rfl (Nat.le_of_ble_eq_true rfl) dX9_match_58 ⟨Nat.le_of_ble_eq_true rfl, Nat.le_of_ble_eq_true rfl⟩ (fun z58 u58 h58 => ?_)
            try dsimp only at h58
            refine x_ws [(qK, .inr (9, [.ref qM, .ref qC, .ref qL, .ref qFr, .ref qE, .ref qK_facts, .ref qN, .ref qS])), (qS, .inr (8, [.ref qS_stones, .ref qS_strengths, .ref qS_pores, .ref qS_colours, .ref qS_pieces, .int (jI vS_size)])), aI kI qS_stones 20 fS_stones, aI kI qS_strengths 20 fS_strengths, aI kI qS_pores 20 fS_pores, aI kI qS_colours 20 fS_colours, aI kI qS_pieces 20 fS_pieces] rfl ?_
            have he58 := h58
            have he58 := he58.symm
            subst he58
            exact hret 0 0 61 _ (mnI (lotOff fS_stones fS_strengths fS_pores fS_colours fS_pieces stone strength pores colour span) vS_size) () (Nat.le_of_ble_eq_true rfl) (Nat.le_of_ble_eq_true rfl) dX9_match_61 (by rw [if_neg (by omega)])
          · -- 40 f
            refine x_sipush F dX9_match_43 (by decide) ?_
            exact hret 0 0 46 _ (-1002) () (Nat.le_of_ble_eq_true rfl) (Nat.le_of_ble_eq_true rfl) dX9_match_46 (by rw [if_pos (by omega)])
  · -- 2 f
    refine x_iload_n F dX9_match_5 rfl 1 rfl ?_
    refine x_iconst F dX9_match_6 ?_
    refine x_callSi (As := [.int (jI stone), .int (jI 4)]) (st := []) F (c_X9_isBelow D kI kJ l stone 4 (by omega) (by omega)) (va_cwS 2 F.2.2.2.2.1 gX9_match_X9_isBelow rfl rfl rfl (by decide +kernel) ⟨Nat.le_of_ble_eq_true rfl, Nat.le_of_ble_eq_true rfl⟩) [] [0, 1, 2, 3, 4, 5, 6] [0, 1, 2, 3, 4, 5, 6] rfl rfl (by decide) (by decide) (by decide) (fun _ => rfl) (by decide) rfl (Nat.le_of_ble_eq_true rfl) dX9_match_7 ⟨Nat.le_of_ble_eq_true rfl, Nat.le_of_ble_eq_true rfl⟩ (fun z7 u7 h7 => ?_)
    try dsimp only at h7
    refine x_ws [(qK, .inr (9, [.ref qM, .ref qC, .ref qL, .ref qFr, .ref qE, .ref qK_facts, .ref qN, .ref qS])), (qS, .inr (8, [.ref qS_stones, .ref qS_strengths, .ref qS_pores, .ref qS_colours, .ref qS_pieces, .int (jI vS_size)])), aI kI qS_stones 20 fS_stones, aI kI qS_strengths 20 fS_strengths, aI kI qS_pores 20 fS_pores, aI kI qS_colours 20 fS_colours, aI kI qS_pieces 20 fS_pieces] rfl ?_
    have hb7 := h7
    refine x_beq (tgt := 43) F dX9_match_10 (by decide) hb7 (fun c10 => ?_) (fun c10 => ?_)
    · -- 10 t
      refine x_sipush F dX9_match_43 (by decide) ?_
      exact hret 0 0 46 _ (-1002) () (Nat.le_of_ble_eq_true rfl) (Nat.le_of_ble_eq_true rfl) dX9_match_46 (by rw [if_pos (by omega)])
    · -- 10 f
      refine x_iload_n F dX9_match_13 rfl 2 rfl ?_
      refine x_callSi (As := [.int (jI strength)]) (st := []) F (c_X9_isQuality D kI kJ l strength (by omega)) (va_cwS 1 F.2.2.2.2.1 gX9_match_X9_isQuality rfl rfl rfl (by decide +kernel) ⟨Nat.le_of_ble_eq_true rfl, Nat.le_of_ble_eq_true rfl⟩) [] [0, 1, 2, 3, 4, 5, 6] [0, 1, 2, 3, 4, 5, 6] rfl rfl (by decide) (by decide) (by decide) (fun _ => rfl) (by decide) rfl (Nat.le_of_ble_eq_true rfl) dX9_match_14 ⟨Nat.le_of_ble_eq_true rfl, Nat.le_of_ble_eq_true rfl⟩ (fun z14 u14 h14 => ?_)
      try dsimp only at h14
      refine x_ws [(qK, .inr (9, [.ref qM, .ref qC, .ref qL, .ref qFr, .ref qE, .ref qK_facts, .ref qN, .ref qS])), (qS, .inr (8, [.ref qS_stones, .ref qS_strengths, .ref qS_pores, .ref qS_colours, .ref qS_pieces, .int (jI vS_size)])), aI kI qS_stones 20 fS_stones, aI kI qS_strengths 20 fS_strengths, aI kI qS_pores 20 fS_pores, aI kI qS_colours 20 fS_colours, aI kI qS_pieces 20 fS_pieces] rfl ?_
      have hb14 := h14
      refine x_beq (tgt := 43) F dX9_match_17 (by decide) hb14 (fun c17 => ?_) (fun c17 => ?_)
      · -- 17 t
        refine x_sipush F dX9_match_43 (by decide) ?_
        exact hret 0 0 46 _ (-1002) () (Nat.le_of_ble_eq_true rfl) (Nat.le_of_ble_eq_true rfl) dX9_match_46 (by rw [if_pos (by omega)])
      · -- 17 f
        refine x_iload_n F dX9_match_20 rfl 3 rfl ?_
        refine x_callSi (As := [.int (jI pores)]) (st := []) F (c_X9_isQuality D kI kJ l pores (by omega)) (va_cwS 1 F.2.2.2.2.1 gX9_match_X9_isQuality rfl rfl rfl (by decide +kernel) ⟨Nat.le_of_ble_eq_true rfl, Nat.le_of_ble_eq_true rfl⟩) [] [0, 1, 2, 3, 4, 5, 6] [0, 1, 2, 3, 4, 5, 6] rfl rfl (by decide) (by decide) (by decide) (fun _ => rfl) (by decide) rfl (Nat.le_of_ble_eq_true rfl) dX9_match_21 ⟨Nat.le_of_ble_eq_true rfl, Nat.le_of_ble_eq_true rfl⟩ (fun z21 u21 h21 => ?_)
        try dsimp only at h21
        refine x_ws [(qK, .inr (9, [.ref qM, .ref qC, .ref qL, .ref qFr, .ref qE, .ref qK_facts, .ref qN, .ref qS])), (qS, .inr (8, [.ref qS_stones, .ref qS_strengths, .ref qS_pores, .ref qS_colours, .ref qS_pieces, .int (jI vS_size)])), aI kI qS_stones 20 fS_stones, aI kI qS_strengths 20 fS_strengths, aI kI qS_pores 20 fS_pores, aI kI qS_colours 20 fS_colours, aI kI qS_pieces 20 fS_pieces] rfl ?_
        have hb21 := h21
        refine x_beq (tgt := 43) F dX9_match_24 (by decide) hb21 (fun c24 => ?_) (fun c24 => ?_)
        · -- 24 t
          refine x_sipush F dX9_match_43 (by decide) ?_
          exact hret 0 0 46 _ (-1002) () (Nat.le_of_ble_eq_true rfl) (Nat.le_of_ble_eq_true rfl) dX9_match_46 (by rw [if_pos (by omega)])
        · -- 24 f
          refine x_iload F dX9_match_27 4 rfl ?_
          refine x_callSi (As := [.int (jI colour)]) (st := []) F (c_X9_isQuality D kI kJ l colour (by omega)) (va_cwS 1 F.2.2.2.2.1 gX9_match_X9_isQuality rfl rfl rfl (by decide +kernel) ⟨Nat.le_of_ble_eq_true rfl, Nat.le_of_ble_eq_true rfl⟩) [] [0, 1, 2, 3, 4, 5, 6] [0, 1, 2, 3, 4, 5, 6] rfl rfl (by decide) (by decide) (by decide) (fun _ => rfl) (by decide) rfl (Nat.le_of_ble_eq_true rfl) dX9_match_29 ⟨Nat.le_of_ble_eq_true rfl, Nat.le_of_ble_eq_true rfl⟩ (fun z29 u29 h29 => ?_)
          try dsimp only at h29
          refine x_ws [(qK, .inr (9, [.ref qM, .ref qC, .ref qL, .ref qFr, .ref qE, .ref qK_facts, .ref qN, .ref qS])), (qS, .inr (8, [.ref qS_stones, .ref qS_strengths, .ref qS_pores, .ref qS_colours, .ref qS_pieces, .int (jI vS_size)])), aI kI qS_stones 20 fS_stones, aI kI qS_strengths 20 fS_strengths, aI kI qS_pores 20 fS_pores, aI kI qS_colours 20 fS_colours, aI kI qS_pieces 20 fS_pieces] rfl ?_
          have hb29 := h29
          refine x_beq (tgt := 43) F dX9_match_32 (by decide) hb29 (fun c32 => ?_) (fun c32 => ?_)
          · -- 32 t
            refine x_sipush F dX9_match_43 (by decide) ?_
            exact hret 0 0 46 _ (-1002) () (Nat.le_of_ble_eq_true rfl) (Nat.le_of_ble_eq_true rfl) dX9_match_46 (by rw [if_pos (by omega)])
          · -- 32 f
            refine x_iload F dX9_match_35 5 rfl ?_
            refine x_callSi (As := [.int (jI span)]) (st := []) F (c_X9_isQuality D kI kJ l span (by omega)) (va_cwS 1 F.2.2.2.2.1 gX9_match_X9_isQuality rfl rfl rfl (by decide +kernel) ⟨Nat.le_of_ble_eq_true rfl, Nat.le_of_ble_eq_true rfl⟩) [] [0, 1, 2, 3, 4, 5, 6] [0, 1, 2, 3, 4, 5, 6] rfl rfl (by decide) (by decide) (by decide) (fun _ => rfl) (by decide) rfl (Nat.le_of_ble_eq_true rfl) dX9_match_37 ⟨Nat.le_of_ble_eq_true rfl, Nat.le_of_ble_eq_true rfl⟩ (fun z37 u37 h37 => ?_)
            try dsimp only at h37
            refine x_ws [(qK, .inr (9, [.ref qM, .ref qC, .ref qL, .ref qFr, .ref qE, .ref qK_facts, .ref qN, .ref qS])), (qS, .inr (8, [.ref qS_stones, .ref qS_strengths, .ref qS_pores, .ref qS_colours, .ref qS_pieces, .int (jI vS_size)])), aI kI qS_stones 20 fS_stones, aI kI qS_strengths 20 fS_strengths, aI kI qS_pores 20 fS_pores, aI kI qS_colours 20 fS_colours, aI kI qS_pieces 20 fS_pieces] rfl ?_
            have hb37 := h37
            refine x_bne (tgt := 47) F dX9_match_40 (by decide) hb37 (fun c40 => ?_) (fun c40 => ?_)
            · -- 40 t
              refine x_aload_n F dX9_match_47 rfl 0 rfl ?_
              refine x_get (ci := 9) F hin9 0 rfl rfl 7 (by decide) hw0 rfl dX9_match_48 ?_
              refine x_iload_n F dX9_match_51 rfl 1 rfl ?_
              refine x_iload_n F dX9_match_52 rfl 2 rfl ?_
              refine x_iload_n F dX9_match_53 rfl 3 rfl ?_
              refine x_iload F dX9_match_54 4 rfl ?_
              refine x_iload F dX9_match_56 5 rfl ?_
              refine x_callVi (ci := 8) (q0 := 1) (As := [.int (jI stone), .int (jI strength), .int (jI pores), .int (jI colour), .int (jI span)]) (st := []) F (c_X8_findMatch D kI kJ l qS stone strength pores colour span qS_stones qS_strengths qS_pores qS_colours qS_pieces vS_size fS_stones fS_strengths fS_pores fS_colours fS_pieces hr_stone hSs hS1 hS2 hS3 hS4 hS5 (by omega)) (cwV 5 F.2.2.2.2.1 gX9_match_X8_findMatch rfl rfl rfl (by decide +kernel) ⟨Nat.le_of_ble_eq_true rfl, Nat.le_of_ble_eq_true rfl⟩) rfl rfl [1, 2, 3, 4, 5, 6] [0] [0, 1, 2, 3, 4, 5, 6] rfl rfl (by decide) (by decide) (by decide) (fun _ => rfl) (by decide) rfl (Nat.le_of_ble_eq_true rfl) dX9_match_58 ⟨Nat.le_of_ble_eq_true rfl, Nat.le_of_ble_eq_true rfl⟩ (fun z58 u58 h58 => ?_)
              try dsimp only at h58
              refine x_ws [(qK, .inr (9, [.ref qM, .ref qC, .ref qL, .ref qFr, .ref qE, .ref qK_facts, .ref qN, .ref qS])), (qS, .inr (8, [.ref qS_stones, .ref qS_strengths, .ref qS_pores, .ref qS_colours, .ref qS_pieces, .int (jI vS_size)])), aI kI qS_stones 20 fS_stones, aI kI qS_strengths 20 fS_strengths, aI kI qS_pores 20 fS_pores, aI kI qS_colours 20 fS_colours, aI kI qS_pieces 20 fS_pieces] rfl ?_
              have he58 := h58
              have he58 := he58.symm
              subst he58
              exact hret 0 0 61 _ (mnI (lotOff fS_stones fS_strengths fS_pores fS_colours fS_pieces stone strength pores colour span) vS_size) () (Nat.le_of_ble_eq_true rfl) (Nat.le_of_ble_eq_true rfl) dX9_match_61 (by rw [if_neg (by omega)])
            · -- 40 f
              refine x_sipush F dX9_match_43 (by decide) ?_
              exact hret 0 0 46 _ (-1002) () (Nat.le_of_ble_eq_true rfl) (Nat.le_of_ble_eq_true rfl) dX9_match_46 (by rw [if_pos (by omega)])
set_option maxHeartbeats 4000000 in
set_option maxRecDepth 100000 in
theorem c_X9_take (D : va_G) (kI kJ : Nat) (l : Launch) (qK : Nat) (lot : Int) (qM : Nat) (qC : Nat) (qL : Nat) (qFr : Nat) (qE : Nat) (qK_facts : Nat) (qN : Nat) (qS : Nat) (qS_stones : Nat) (qS_strengths : Nat) (qS_pores : Nat) (qS_colours : Nat) (qS_pieces : Nat) (vS_size : Int) (fS_pieces : (Int → Int)) (hr_lot : -2147483648 ≤ lot ∧ lot < 2147483648) (hSs : 0 ≤ vS_size ∧ vS_size ≤ 20) (hS5 : Rg fS_pieces 20 0 99) : xMi D kI kJ l yX9_take wsX9_take 3 74 0 0 [.ref qK, .int (jI lot)] [(qK, .inr (9, [.ref qM, .ref qC, .ref qL, .ref qFr, .ref qE, .ref qK_facts, .ref qN, .ref qS])), (qS, .inr (8, [.ref qS_stones, .ref qS_strengths, .ref qS_pores, .ref qS_colours, .ref qS_pieces, .int (jI vS_size)])), aI kI qS_pieces 20 fS_pieces] (fun (z : Int) (u : (Int → Int)) => (((¬ (0 ≤ lot ∧ lot < vS_size)) ∧ z = -1001 ∧ u = fS_pieces) ∨ (((0 ≤ lot ∧ lot < vS_size) ∧ fS_pieces lot = 0) ∧ z = -1003 ∧ u = fS_pieces) ∨ (((0 ≤ lot ∧ lot < vS_size) ∧ ¬ fS_pieces lot = 0) ∧ z = fS_pieces lot - 1 ∧ u = iU fS_pieces lot (fS_pieces lot - 1)))) (fun (u : (Int → Int)) => [(qK, .inr (9, [.ref qM, .ref qC, .ref qL, .ref qFr, .ref qE, .ref qK_facts, .ref qN, .ref qS])), (qS, .inr (8, [.ref qS_stones, .ref qS_strengths, .ref qS_pores, .ref qS_colours, .ref qS_pieces, .int (jI vS_size)])), aI kI qS_pieces 20 u]) := by
  refine xMi_of (cc := cX9_take) (maxL := 2) (rt := .int) (by decide) rfl (Nat.le_of_ble_eq_true rfl) (fun _ _ _ => rfl) ?_
  intro p e s m args below meth c A Q F hin2 hret
  have hin8 : ∀ w ∈ wsX80, w ∈ wsX9_take := by decide +kernel
  have hin9 : ∀ w ∈ wsX90, w ∈ wsX9_take := by decide +kernel
  have hw0 : Cond.fieldLink RX9 58 (TX9 7).1 (TX9 7).2.1 (TX9 7).2.2.1 ∈ wsX9_take := by decide +kernel
  refine x_lveq (lv' := [(0, .ref qK), (1, .int (jI lot))]) rfl ?_
  refine x_iload_n F dX9_take_0 rfl 1 rfl ?_
  refine x_aload_n F dX9_take_1 rfl 0 rfl ?_
  refine x_get (ci := 9) F hin9 0 rfl rfl 7 (by decide) hw0 rfl dX9_take_2 ?_
  refine x_getN (ci := 8) F hin8 1 rfl rfl 5 (by decide) (nF15 F.2.2.2.2.2.2.2) rfl dX9_take_5 ?_
  refine x_callSi (As := [.int (jI lot), .int (jI vS_size)]) (st := []) F (c_X9_isBelow D kI kJ l lot vS_size (by omega) (by omega)) (va_cwS 2 F.2.2.2.2.1 gX9_take_X9_isBelow rfl rfl rfl (by decide +kernel) ⟨Nat.le_of_ble_eq_true rfl, Nat.le_of_ble_eq_true rfl⟩) [] [0, 1, 2] [0, 1, 2] rfl rfl (by decide) (by decide) (by decide) (fun _ => rfl) (by decide) rfl (Nat.le_of_ble_eq_true rfl) dX9_take_8 ⟨Nat.le_of_ble_eq_true rfl, Nat.le_of_ble_eq_true rfl⟩ (fun z8 u8 h8 => ?_)
  try dsimp only at h8
  refine x_ws [(qK, .inr (9, [.ref qM, .ref qC, .ref qL, .ref qFr, .ref qE, .ref qK_facts, .ref qN, .ref qS])), (qS, .inr (8, [.ref qS_stones, .ref qS_strengths, .ref qS_pores, .ref qS_colours, .ref qS_pieces, .int (jI vS_size)])), aI kI qS_pieces 20 fS_pieces] rfl ?_
  have hb8 := h8
  refine x_bne (tgt := 18) F dX9_take_11 (by decide) hb8 (fun c11 => ?_) (fun c11 => ?_)
  · -- 11 t
    have hpl := Rg.at hS5 lot (by omega)
    refine x_aload_n F dX9_take_18 rfl 0 rfl ?_
    refine x_get (ci := 9) F hin9 0 rfl rfl 7 (by decide) hw0 rfl dX9_take_19 ?_
    refine x_iload_n F dX9_take_22 rfl 1 rfl ?_
    by_cases hf23 : fS_pieces lot = 0
    · -- fork 23 t
      refine x_callVi (ci := 8) (q0 := 1) (As := [.int (jI lot)]) (st := []) F (c_X8_takePiece_none D kI kJ l qS lot qS_stones qS_strengths qS_pores qS_colours qS_pieces vS_size fS_pieces (by omega) (by omega)) (cwV 1 F.2.2.2.2.1 gX9_take_X8_takePiece rfl rfl rfl (by decide +kernel) ⟨Nat.le_of_ble_eq_true rfl, Nat.le_of_ble_eq_true rfl⟩) rfl rfl [1, 2] [0] [0, 1, 2] rfl rfl (by decide) (by decide) (by decide) (fun _ => rfl) (by decide) rfl (Nat.le_of_ble_eq_true rfl) dX9_take_23 ⟨Nat.le_of_ble_eq_true rfl, Nat.le_of_ble_eq_true rfl⟩ (fun z23 u23 h23 => ?_)
      try dsimp only at h23
      refine x_ws [(qK, .inr (9, [.ref qM, .ref qC, .ref qL, .ref qFr, .ref qE, .ref qK_facts, .ref qN, .ref qS])), (qS, .inr (8, [.ref qS_stones, .ref qS_strengths, .ref qS_pores, .ref qS_colours, .ref qS_pieces, .int (jI vS_size)])), aI kI qS_pieces 20 fS_pieces] rfl ?_
      have he23 := h23
      have he23 := he23.symm
      subst he23
      exact hret 0 0 26 _ (-1003) fS_pieces (Nat.le_of_ble_eq_true rfl) (Nat.le_of_ble_eq_true rfl) dX9_take_26 (by first | exact Or.inl (⟨by omega, (by first | rfl | omega), (by first | rfl | omega)⟩) | exact Or.inr (Or.inl (⟨by omega, (by first | rfl | omega), (by first | rfl | omega)⟩)) | exact Or.inr (Or.inr (⟨by omega, (by first | rfl | omega), (by first | rfl | omega)⟩)))
    · -- fork 23 f
      refine x_callVi (ci := 8) (q0 := 1) (As := [.int (jI lot)]) (st := []) F (c_X8_takePiece_ok D kI kJ l qS lot qS_stones qS_strengths qS_pores qS_colours qS_pieces vS_size fS_pieces (by omega) (by omega)) (cwV 1 F.2.2.2.2.1 gX9_take_X8_takePiece rfl rfl rfl (by decide +kernel) ⟨Nat.le_of_ble_eq_true rfl, Nat.le_of_ble_eq_true rfl⟩) rfl rfl [1, 2] [0] [0, 1, 2] rfl rfl (by decide) (by decide) (by decide) (fun _ => rfl) (by decide) rfl (Nat.le_of_ble_eq_true rfl) dX9_take_23 ⟨Nat.le_of_ble_eq_true rfl, Nat.le_of_ble_eq_true rfl⟩ (fun z23 u23 h23 => ?_)
      try dsimp only at h23
      refine x_ws [(qK, .inr (9, [.ref qM, .ref qC, .ref qL, .ref qFr, .ref qE, .ref qK_facts, .ref qN, .ref qS])), (qS, .inr (8, [.ref qS_stones, .ref qS_strengths, .ref qS_pores, .ref qS_colours, .ref qS_pieces, .int (jI vS_size)])), aI kI qS_pieces 20 (iU fS_pieces lot (fS_pieces lot - 1))] rfl ?_
      have he23 := h23
      have he23 := he23.symm
      subst he23
      exact hret 0 0 26 _ (fS_pieces lot - 1) (iU fS_pieces lot (fS_pieces lot - 1)) (Nat.le_of_ble_eq_true rfl) (Nat.le_of_ble_eq_true rfl) dX9_take_26 (by first | exact Or.inl (⟨by omega, (by first | rfl | omega), (by first | rfl | omega)⟩) | exact Or.inr (Or.inl (⟨by omega, (by first | rfl | omega), (by first | rfl | omega)⟩)) | exact Or.inr (Or.inr (⟨by omega, (by first | rfl | omega), (by first | rfl | omega)⟩)))
  · -- 11 f
    refine x_sipush F dX9_take_14 (by decide) ?_
    exact hret 0 0 17 _ (-1001) fS_pieces (Nat.le_of_ble_eq_true rfl) (Nat.le_of_ble_eq_true rfl) dX9_take_17 (by first | exact Or.inl (⟨by omega, (by first | rfl | omega), (by first | rfl | omega)⟩) | exact Or.inr (Or.inl (⟨by omega, (by first | rfl | omega), (by first | rfl | omega)⟩)) | exact Or.inr (Or.inr (⟨by omega, (by first | rfl | omega), (by first | rfl | omega)⟩)))
set_option maxHeartbeats 4000000 in
set_option maxRecDepth 100000 in
theorem c_X9_fault (D : va_G) (kI kJ : Nat) (l : Launch) (qK : Nat) (qM : Nat) (qC : Nat) (qL : Nat) (qFr : Nat) (qE : Nat) (qK_facts : Nat) (qN : Nat) (qS : Nat) (qE_text : Nat) (vE_size : Int) (vE_next : Int) (vE_fault : Int) (vE_faultAt : Int) (qU : Nat) (qV : Nat)  : xMi D kI kJ l yX9_fault wsX9_fault 1 32 0 0 [.ref qK] [(qK, .inr (9, [.ref qM, .ref qC, .ref qL, .ref qFr, .ref qE, .ref qK_facts, .ref qN, .ref qS])), (qE, .inr (5, [.ref qE_text, .int (jI vE_size), .int (jI vE_next), .int (jI vE_fault), .int (jI vE_faultAt), .ref qU, .ref qV]))] (fun (z : Int) (u : Unit) => z = vE_faultAt) (fun (u : Unit) => [(qK, .inr (9, [.ref qM, .ref qC, .ref qL, .ref qFr, .ref qE, .ref qK_facts, .ref qN, .ref qS])), (qE, .inr (5, [.ref qE_text, .int (jI vE_size), .int (jI vE_next), .int (jI vE_fault), .int (jI vE_faultAt), .ref qU, .ref qV]))]) := by
  refine xMi_of (cc := cX9_fault) (maxL := 1) (rt := .int) (by decide) rfl (Nat.le_of_ble_eq_true rfl) (fun _ _ _ => rfl) ?_
  intro p e s m args below meth c A Q F hin2 hret
  have hin5 : ∀ w ∈ wsX50, w ∈ wsX9_fault := by decide +kernel
  have hin9 : ∀ w ∈ wsX90, w ∈ wsX9_fault := by decide +kernel
  have hw0 : Cond.fieldLink RX9 40 (TX9 4).1 (TX9 4).2.1 (TX9 4).2.2.1 ∈ wsX9_fault := by decide +kernel
  refine x_lveq (lv' := [(0, .ref qK)]) rfl ?_
  refine x_aload_n F dX9_fault_0 rfl 0 rfl ?_
  refine x_get (ci := 9) F hin9 0 rfl rfl 4 (by decide) hw0 rfl dX9_fault_1 ?_
  refine x_getN (ci := 5) F hin5 1 rfl rfl 4 (by decide) (nF12 F.2.2.2.2.2.2.2) rfl dX9_fault_4 ?_
  exact hret 0 0 7 _ vE_faultAt () (Nat.le_of_ble_eq_true rfl) (Nat.le_of_ble_eq_true rfl) dX9_fault_7 (rfl)
