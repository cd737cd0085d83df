set_option maxHeartbeats 4000000 in
set_option maxRecDepth 100000 in
theorem c_X8_add_ok (D : va_G) (kI kJ : Nat) (l : Launch) (qS : Nat) (stone : Int) (strength : Int) (pore : Int) (colour : Int) (piece : Int) (qS_stones : Nat) (qS_strengths : Nat) (qS_pores : Nat) (qS_colours : Nat) (qS_pieces : Nat) (vS_size : Int) (fS_stones : (Int → Int)) (fS_strengths : (Int → Int)) (fS_pores : (Int → Int)) (fS_colours : (Int → Int)) (fS_pieces : (Int → Int)) (hr_stone : -2147483648 ≤ stone ∧ stone < 2147483648) (hr_strength : -2147483648 ≤ strength ∧ strength < 2147483648) (hr_pore : -2147483648 ≤ pore ∧ pore < 2147483648) (hr_colour : -2147483648 ≤ colour ∧ colour < 2147483648) (hr_piece : -2147483648 ≤ piece ∧ piece < 2147483648) (hSs : 0 ≤ vS_size ∧ vS_size < 20) : xMi D kI kJ l yX8_add wsX8_add 2 53 0 0 [.ref qS, .int (jI stone), .int (jI strength), .int (jI pore), .int (jI colour), .int (jI piece)] [(qS, .inr (8, [.ref qS_stones, .ref qS_strengths, .ref qS_pores, .ref qS_colours, .ref qS_pieces, .int (jI vS_size)])), aI kI qS_stones 20 fS_stones, aI kI qS_strengths 20 fS_strengths, aI kI qS_pores 20 fS_pores, aI kI qS_colours 20 fS_colours, aI kI qS_pieces 20 fS_pieces] (fun (z : Int) (u : Unit) => z = vS_size) (fun (u : Unit) => [(qS, .inr (8, [.ref qS_stones, .ref qS_strengths, .ref qS_pores, .ref qS_colours, .ref qS_pieces, .int (jI (vS_size + 1))])), aI kI qS_stones 20 (iU fS_stones vS_size stone), aI kI qS_strengths 20 (iU fS_strengths vS_size strength), aI kI qS_pores 20 (iU fS_pores vS_size pore), aI kI qS_colours 20 (iU fS_colours vS_size colour), aI kI qS_pieces 20 (iU fS_pieces vS_size piece)]) := by
  refine xMi_of (cc := cX8_add) (maxL := 6) (rt := .int) (by decide) rfl (Nat.le_of_ble_eq_true rfl) (fun _ _ _ => rfl) ?_
  intro p e s m args below meth c A Q F hin2 hret
  have hin8 : ∀ w ∈ wsX80, w ∈ wsX8_add := by decide +kernel
  have hw0 : Cond.fieldLink RX8 27 (TX8 5).1 (TX8 5).2.1 (TX8 5).2.2.1 ∈ wsX8_add := by decide +kernel
  have hw1 : Cond.initialized yX9_isBelow.cls ∈ wsX8_add := by decide +kernel
  have hw2 : Cond.static yX9_isBelow ∈ wsX8_add := by decide +kernel
  have hw3 : Cond.fieldLink RX8 9 (TX8 0).1 (TX8 0).2.1 (TX8 0).2.2.1 ∈ wsX8_add := by decide +kernel
  have hw4 : Cond.fieldLink RX8 15 (TX8 1).1 (TX8 1).2.1 (TX8 1).2.2.1 ∈ wsX8_add := by decide +kernel
  have hw5 : Cond.fieldLink RX8 18 (TX8 2).1 (TX8 2).2.1 (TX8 2).2.2.1 ∈ wsX8_add := by decide +kernel
  have hw6 : Cond.fieldLink RX8 21 (TX8 3).1 (TX8 3).2.1 (TX8 3).2.2.1 ∈ wsX8_add := by decide +kernel
  have hw7 : Cond.fieldLink RX8 24 (TX8 4).1 (TX8 4).2.1 (TX8 4).2.2.1 ∈ wsX8_add := by decide +kernel
  refine x_lveq (lv' := [(0, .ref qS), (1, .int (jI stone)), (2, .int (jI strength)), (3, .int (jI pore)), (4, .int (jI colour)), (5, .int (jI piece))]) rfl ?_
  refine x_aload_n F dX8_add_0 rfl 0 rfl ?_
  refine x_get (ci := 8) F hin8 0 rfl rfl 5 (by decide) hw0 rfl dX8_add_1 ?_
  refine x_bipush F dX8_add_4 (by decide) ?_
  refine x_callSNi (As := [.int (jI vS_size), .int (jI 20)]) (st := []) F (c_X9_isBelow D kI kJ l vS_size 20 (by omega) (by omega)) ⟨va_cnB 2 F.2.2.2.2.1 gX8_add_X9_isBelow_n31 rfl rfl rfl (nM21 F.2.2.2.2.2.2.2) (F.2.2.2.2.1 _ hw1) (by decide +kernel) ⟨Nat.le_of_ble_eq_true rfl, Nat.le_of_ble_eq_true rfl⟩, F.2.2.2.2.1 _ hw2, trivial⟩ [] [0, 1, 2, 3, 4, 5] [0, 1, 2, 3, 4, 5] rfl rfl (by decide) (by decide) (by decide) (fun _ => rfl) (by decide) rfl (Nat.le_of_ble_eq_true rfl) dX8_add_6 ⟨Nat.le_of_ble_eq_true rfl, Nat.le_of_ble_eq_true rfl⟩ (fun z6 u6 h6 => ?_)
  try dsimp only at h6
  refine x_ws [(qS, .inr (8, [.ref qS_stones, .ref qS_strengths, .ref qS_pores, .ref qS_colours, .ref qS_pieces, .int (jI vS_size)])), aI kI qS_stones 20 fS_stones, aI kI qS_strengths 20 fS_strengths, aI kI qS_pores 20 fS_pores, aI kI qS_colours 20 fS_colours, aI kI qS_pieces 20 fS_pieces] rfl ?_
  have hb6 := h6
  refine x_bne (tgt := 16) F dX8_add_9 (by decide) hb6 (fun c9 => ?_) (fun c9 => ?_)
  · -- 9 t
    refine x_aload_n F dX8_add_16 rfl 0 rfl ?_
    refine x_get (ci := 8) F hin8 0 rfl rfl 0 (by decide) hw3 rfl dX8_add_17 ?_
    refine x_aload_n F dX8_add_20 rfl 0 rfl ?_
    refine x_get (ci := 8) F hin8 0 rfl rfl 5 (by decide) hw0 rfl dX8_add_21 ?_
    refine x_iload_n F dX8_add_24 rfl 1 rfl ?_
    refine x_iast F 1 rfl (by decide) (by omega) dX8_add_25 [(qS, .inr (8, [.ref qS_stones, .ref qS_strengths, .ref qS_pores, .ref qS_colours, .ref qS_pieces, .int (jI vS_size)])), aI kI qS_stones 20 (iU fS_stones vS_size stone), aI kI qS_strengths 20 fS_strengths, aI kI qS_pores 20 fS_pores, aI kI qS_colours 20 fS_colours, aI kI qS_pieces 20 fS_pieces] rfl ?_
    refine x_aload_n F dX8_add_26 rfl 0 rfl ?_
    refine x_get (ci := 8) F hin8 0 rfl rfl 1 (by decide) hw4 rfl dX8_add_27 ?_
    refine x_aload_n F dX8_add_30 rfl 0 rfl ?_
    refine x_get (ci := 8) F hin8 0 rfl rfl 5 (by decide) hw0 rfl dX8_add_31 ?_
    refine x_iload_n F dX8_add_34 rfl 2 rfl ?_
    refine x_iast F 2 rfl (by decide) (by omega) dX8_add_35 [(qS, .inr (8, [.ref qS_stones, .ref qS_strengths, .ref qS_pores, .ref qS_colours, .ref qS_pieces, .int (jI vS_size)])), aI kI qS_stones 20 (iU fS_stones vS_size stone), aI kI qS_strengths 20 (iU fS_strengths vS_size strength), aI kI qS_pores 20 fS_pores, aI kI qS_colours 20 fS_colours, aI kI qS_pieces 20 fS_pieces] rfl ?_
    refine x_aload_n F dX8_add_36 rfl 0 rfl ?_
    refine x_get (ci := 8) F hin8 0 rfl rfl 2 (by decide) hw5 rfl dX8_add_37 ?_
    refine x_aload_n F dX8_add_40 rfl 0 rfl ?_
    refine x_get (ci := 8) F hin8 0 rfl rfl 5 (by decide) hw0 rfl dX8_add_41 ?_
    refine x_iload_n F dX8_add_44 rfl 3 rfl ?_
    refine x_iast F 3 rfl (by decide) (by omega) dX8_add_45 [(qS, .inr (8, [.ref qS_stones, .ref qS_strengths, .ref qS_pores, .ref qS_colours, .ref qS_pieces, .int (jI vS_size)])), aI kI qS_stones 20 (iU fS_stones vS_size stone), aI kI qS_strengths 20 (iU fS_strengths vS_size strength), aI kI qS_pores 20 (iU fS_pores vS_size pore), aI kI qS_colours 20 fS_colours, aI kI qS_pieces 20 fS_pieces] rfl ?_
    refine x_aload_n F dX8_add_46 rfl 0 rfl ?_
    refine x_get (ci := 8) F hin8 0 rfl rfl 3 (by decide) hw6 rfl dX8_add_47 ?_
    refine x_aload_n F dX8_add_50 rfl 0 rfl ?_
    refine x_get (ci := 8) F hin8 0 rfl rfl 5 (by decide) hw0 rfl dX8_add_51 ?_
    refine x_iload F dX8_add_54 4 rfl ?_
    refine x_iast F 4 rfl (by decide) (by omega) dX8_add_56 [(qS, .inr (8, [.ref qS_stones, .ref qS_strengths, .ref qS_pores, .ref qS_colours, .ref qS_pieces, .int (jI vS_size)])), aI kI qS_stones 20 (iU fS_stones vS_size stone), aI kI qS_strengths 20 (iU fS_strengths vS_size strength), aI kI qS_pores 20 (iU fS_pores vS_size pore), aI kI qS_colours 20 (iU fS_colours vS_size colour), aI kI qS_pieces 20 fS_pieces] rfl ?_
    refine x_aload_n F dX8_add_57 rfl 0 rfl ?_
    refine x_get (ci := 8) F hin8 0 rfl rfl 4 (by decide) hw7 rfl dX8_add_58 ?_
    refine x_aload_n F dX8_add_61 rfl 0 rfl ?_
    refine x_get (ci := 8) F hin8 0 rfl rfl 5 (by decide) hw0 rfl dX8_add_62 ?_
    refine x_iload F dX8_add_65 5 rfl ?_
    refine x_iast F 5 rfl (by decide) (by omega) dX8_add_67 [(qS, .inr (8, [.ref qS_stones, .ref qS_strengths, .ref qS_pores, .ref qS_colours, .ref qS_pieces, .int (jI vS_size)])), aI kI qS_stones 20 (iU fS_stones vS_size stone), aI kI qS_strengths 20 (iU fS_strengths vS_size strength), aI kI qS_pores 20 (iU fS_pores vS_size pore), aI kI qS_colours 20 (iU fS_colours vS_size colour), aI kI qS_pieces 20 (iU fS_pieces vS_size piece)] rfl ?_
    refine x_aload_n F dX8_add_68 rfl 0 rfl ?_
    refine x_dup F dX8_add_69 rfl ?_
    refine x_get (ci := 8) F hin8 0 rfl rfl 5 (by decide) hw0 rfl dX8_add_70 ?_
    refine x_iconst F dX8_add_73 ?_
    refine x_iadd F dX8_add_74 ?_
    refine x_put (ci := 8) F hin8 tyX8_ok nmX8 0 rfl rfl 5 (by decide) hw0 rfl rfl rfl (show 5 + 1 ≤ _ from Nat.le_of_ble_eq_true rfl) dX8_add_75 [(qS, .inr (8, [.ref qS_stones, .ref qS_strengths, .ref qS_pores, .ref qS_colours, .ref qS_pieces, .int (jI (vS_size + 1))])), aI kI qS_stones 20 (iU fS_stones vS_size stone), aI kI qS_strengths 20 (iU fS_strengths vS_size strength), aI kI qS_pores 20 (iU fS_pores vS_size pore), aI kI qS_colours 20 (iU fS_colours vS_size colour), aI kI qS_pieces 20 (iU fS_pieces vS_size piece)] rfl ?_
    refine x_aload_n F dX8_add_78 rfl 0 rfl ?_
    refine x_get (ci := 8) F hin8 0 rfl rfl 5 (by decide) hw0 rfl dX8_add_79 ?_
    refine x_iconst F dX8_add_82 ?_
    refine x_isub F dX8_add_83 ?_
    exact hret 0 0 84 _ ((vS_size + 1) - 1) () (Nat.le_of_ble_eq_true rfl) (Nat.le_of_ble_eq_true rfl) dX8_add_84 (by omega)
  · exact absurd c9 (by omega)
set_option maxHeartbeats 4000000 in
set_option maxRecDepth 100000 in
theorem c_X8_add_full (D : va_G) (kI kJ : Nat) (l : Launch) (qS : Nat) (stone : Int) (strength : Int) (pore : Int) (colour : Int) (piece : Int) (qS_stones : Nat) (qS_strengths : Nat) (qS_pores : Nat) (qS_colours : Nat) (qS_pieces : Nat) (vS_size : Int) (fS_stones : (Int → Int)) (fS_strengths : (Int → Int)) (fS_pores : (Int → Int)) (fS_colours : (Int → Int)) (fS_pieces : (Int → Int)) (hr_stone : -2147483648 ≤ stone ∧ stone < 2147483648) (hr_strength : -2147483648 ≤ strength ∧ strength < 2147483648) (hr_pore : -2147483648 ≤ pore ∧ pore < 2147483648) (hr_colour : -2147483648 ≤ colour ∧ colour < 2147483648) (hr_piece : -2147483648 ≤ piece ∧ piece < 2147483648) (hSs : vS_size = 20) : xMi D kI kJ l yX8_add wsX8_add 2 53 0 0 [.ref qS, .int (jI stone), .int (jI strength), .int (jI pore), .int (jI colour), .int (jI piece)] [(qS, .inr (8, [.ref qS_stones, .ref qS_strengths, .ref qS_pores, .ref qS_colours, .ref qS_pieces, .int (jI vS_size)])), aI kI qS_stones 20 fS_stones, aI kI qS_strengths 20 fS_strengths, aI kI qS_pores 20 fS_pores, aI kI qS_colours 20 fS_colours, aI kI qS_pieces 20 fS_pieces] (fun (z : Int) (u : Unit) => z = (-1004)) (fun (u : Unit) => [(qS, .inr (8, [.ref qS_stones, .ref qS_strengths, .ref qS_pores, .ref qS_colours, .ref qS_pieces, .int (jI vS_size)])), aI kI qS_stones 20 fS_stones, aI kI qS_strengths 20 fS_strengths, aI kI qS_pores 20 fS_pores, aI kI qS_colours 20 fS_colours, aI kI qS_pieces 20 fS_pieces]) := by
  refine xMi_of (cc := cX8_add) (maxL := 6) (rt := .int) (by decide) rfl (Nat.le_of_ble_eq_true rfl) (fun _ _ _ => rfl) ?_
  intro p e s m args below meth c A Q F hin2 hret
  have hin8 : ∀ w ∈ wsX80, w ∈ wsX8_add := by decide +kernel
  have hw0 : Cond.fieldLink RX8 27 (TX8 5).1 (TX8 5).2.1 (TX8 5).2.2.1 ∈ wsX8_add := by decide +kernel
  have hw1 : Cond.initialized yX9_isBelow.cls ∈ wsX8_add := by decide +kernel
  have hw2 : Cond.static yX9_isBelow ∈ wsX8_add := by decide +kernel
  refine x_lveq (lv' := [(0, .ref qS), (1, .int (jI stone)), (2, .int (jI strength)), (3, .int (jI pore)), (4, .int (jI colour)), (5, .int (jI piece))]) rfl ?_
  refine x_aload_n F dX8_add_0 rfl 0 rfl ?_
  refine x_get (ci := 8) F hin8 0 rfl rfl 5 (by decide) hw0 rfl dX8_add_1 ?_
  refine x_bipush F dX8_add_4 (by decide) ?_
  refine x_callSNi (As := [.int (jI vS_size), .int (jI 20)]) (st := []) F (c_X9_isBelow D kI kJ l vS_size 20 (by omega) (by omega)) ⟨va_cnB 2 F.2.2.2.2.1 gX8_add_X9_isBelow_n31 rfl rfl rfl (nM21 F.2.2.2.2.2.2.2) (F.2.2.2.2.1 _ hw1) (by decide +kernel) ⟨Nat.le_of_ble_eq_true rfl, Nat.le_of_ble_eq_true rfl⟩, F.2.2.2.2.1 _ hw2, trivial⟩ [] [0, 1, 2, 3, 4, 5] [0, 1, 2, 3, 4, 5] rfl rfl (by decide) (by decide) (by decide) (fun _ => rfl) (by decide) rfl (Nat.le_of_ble_eq_true rfl) dX8_add_6 ⟨Nat.le_of_ble_eq_true rfl, Nat.le_of_ble_eq_true rfl⟩ (fun z6 u6 h6 => ?_)
  try dsimp only at h6
  refine x_ws [(qS, .inr (8, [.ref qS_stones, .ref qS_strengths, .ref qS_pores, .ref qS_colours, .ref qS_pieces, .int (jI vS_size)])), aI kI qS_stones 20 fS_stones, aI kI qS_strengths 20 fS_strengths, aI kI qS_pores 20 fS_pores, aI kI qS_colours 20 fS_colours, aI kI qS_pieces 20 fS_pieces] rfl ?_
  have hb6 := h6
  refine x_bne (tgt := 16) F dX8_add_9 (by decide) hb6 (fun c9 => ?_) (fun c9 => ?_)
  · exact absurd c9 (by omega)
  · -- 9 f
    refine x_sipush F dX8_add_12 (by decide) ?_
    exact hret 0 0 15 _ (-1004) () (Nat.le_of_ble_eq_true rfl) (Nat.le_of_ble_eq_true rfl) dX8_add_15 (rfl)
set_option maxHeartbeats 4000000 in
set_option maxRecDepth 100000 in
theorem c_X8_countPieces (D : va_G) (kI kJ : Nat) (l : Launch) (qS : Nat) (qS_stones : Nat) (qS_strengths : Nat) (qS_pores : Nat) (qS_colours : Nat) (qS_pieces : Nat) (vS_size : Int) (fS_pieces : (Int → Int)) (hSs : 0 ≤ vS_size ∧ vS_size ≤ 20) (hS5 : Rg fS_pieces 20 0 99) : xMi D kI kJ l yX8_countPieces wsX8_countPieces 1 32 0 0 [.ref qS] [(qS, .inr (8, [.ref qS_stones, .ref qS_strengths, .ref qS_pores, .ref qS_colours, .ref qS_pieces, .int (jI vS_size)])), aI kI qS_pieces 20 fS_pieces] (fun (z : Int) (u : Unit) => z = sm fS_pieces vS_size) (fun (u : Unit) => [(qS, .inr (8, [.ref qS_stones, .ref qS_strengths, .ref qS_pores, .ref qS_colours, .ref qS_pieces, .int (jI vS_size)])), aI kI qS_pieces 20 fS_pieces]) := by
  refine xMi_of (cc := cX8_countPieces) (maxL := 3) (rt := .int) (by decide) rfl (Nat.le_of_ble_eq_true rfl) (fun _ _ _ => rfl) ?_
  intro p e s m args below meth c A Q F hin2 hret
  have hin8 : ∀ w ∈ wsX80, w ∈ wsX8_countPieces := by decide +kernel
  have hw0 : Cond.fieldLink RX8 27 (TX8 5).1 (TX8 5).2.1 (TX8 5).2.2.1 ∈ wsX8_countPieces := by decide +kernel
  have hw1 : Cond.fieldLink RX8 24 (TX8 4).1 (TX8 4).2.1 (TX8 4).2.2.1 ∈ wsX8_countPieces := by decide +kernel
  refine x_lveq (lv' := [(0, .ref qS)]) rfl ?_
  refine x_iconst F dX8_countPieces_0 ?_
  refine x_istore_n (lv' := [(0, .ref qS), (1, .int (jI 0))]) F dX8_countPieces_1 rfl (by decide) [1, 0] rfl ?_
  refine x_iconst F dX8_countPieces_2 ?_
  refine x_istore_n (lv' := [(0, .ref qS), (1, .int (jI 0)), (2, .int (jI 0))]) F dX8_countPieces_3 rfl (by decide) [1, 2, 0] rfl ?_
  have lp4 : ∀ (fu : Nat) (i : Int) (all : Int) (hi : 0 ≤ i ∧ i ≤ vS_size) (hs : all = sm fS_pieces i) (hm : vS_size - i < (fu : Int)), xG D p l e (xRm 1 32 0 0) s m args below meth c 3 A Q 0 0 [(qS, .inr (8, [.ref qS_stones, .ref qS_strengths, .ref qS_pores, .ref qS_colours, .ref qS_pieces, .int (jI vS_size)])), aI kI qS_pieces 20 fS_pieces] [(0, .ref qS), (1, .int (jI all)), (2, .int (jI i))] 4 [] := by
    intro fu
    induction fu with
    | zero =>
      intro i all hi hs hm
      exact absurd hm (by omega)
    | succ fu ih4 =>
      intro i all hi hs hm
      refine x_iload_n F dX8_countPieces_4 rfl 2 rfl ?_
      refine x_aload_n F dX8_countPieces_5 rfl 0 rfl ?_
      refine x_get (ci := 8) F hin8 0 rfl rfl 5 (by decide) hw0 rfl dX8_countPieces_6 ?_
      refine x_icmp_ge (tgt := 33) F dX8_countPieces_9 (by decide) (by omega) (fun c9 => ?_) (fun c9 => ?_)
      · -- 9 t
        refine x_iload_n F dX8_countPieces_33 rfl 1 rfl ?_
        exact hret 0 0 34 _ all () (Nat.le_of_ble_eq_true rfl) (Nat.le_of_ble_eq_true rfl) dX8_countPieces_34 (by rw [hs, show i = vS_size by omega])
      · -- 9 f
        refine x_iload_n F dX8_countPieces_12 rfl 2 rfl ?_
        refine x_bipush F dX8_countPieces_13 (by decide) ?_
        refine x_icmp_ge (tgt := 33) F dX8_countPieces_15 (by decide) (by omega) (fun c15 => ?_) (fun c15 => ?_)
        · exact absurd c15 (by omega)
        · -- 15 f
          refine x_iload_n F dX8_countPieces_18 rfl 1 rfl ?_
          refine x_aload_n F dX8_countPieces_19 rfl 0 rfl ?_
          refine x_get (ci := 8) F hin8 0 rfl rfl 4 (by decide) hw1 rfl dX8_countPieces_20 ?_
          refine x_iload_n F dX8_countPieces_23 rfl 2 rfl ?_
          refine x_iald F 1 rfl (by decide) (by omega) dX8_countPieces_24 ?_
          have hr24 := Rg.at hS5 i (by omega)
          refine x_iadd F dX8_countPieces_25 ?_
          refine x_istore_n (lv' := [(0, .ref qS), (1, .int (jI (all + (fS_pieces i)))), (2, .int (jI i))]) F dX8_countPieces_26 rfl (by decide) [1, 0, 2] rfl ?_
          refine x_iinc (lv' := [(0, .ref qS), (1, .int (jI (all + (fS_pieces i)))), (2, .int (jI (i + 1)))]) (k := 2) F dX8_countPieces_27 rfl (by decide) [1, 2, 0] rfl ?_
          refine x_goto (tgt := 4) F dX8_countPieces_30 (by decide) ?_
          exact ih4 (i + 1) (all + (fS_pieces i)) (by omega) (by rw [sm_s hi.1, hs]) (by omega)
  exact lp4 (Int.toNat (vS_size - 0) + 1) 0 0 (by omega) rfl (by omega)
set_option maxHeartbeats 4000000 in
set_option maxRecDepth 100000 in
theorem c_X8_findMatch (D : va_G) (kI kJ : Nat) (l : Launch) (qS : Nat) (stone : Int) (strength : Int) (pore : Int) (colour : Int) (span : Int) (qS_stones : Nat) (qS_strengths : Nat) (qS_pores : Nat) (qS_colours : Nat) (qS_pieces : Nat) (vS_size : Int) (fS_stones : (Int → Int)) (fS_strengths : (Int → Int)) (fS_pores : (Int → Int)) (fS_colours : (Int → Int)) (fS_pieces : (Int → Int)) (hr_stone : -2147483648 ≤ stone ∧ stone < 2147483648) (hSs : 0 ≤ vS_size ∧ vS_size ≤ 20) (hS1 : Rg fS_stones 20 0 3) (hS2 : Rg fS_strengths 20 0 99) (hS3 : Rg fS_pores 20 0 99) (hS4 : Rg fS_colours 20 0 99) (hS5 : Rg fS_pieces 20 0 99) (hw : (0 ≤ strength ∧ strength ≤ 99) ∧ (0 ≤ pore ∧ pore ≤ 99) ∧ (0 ≤ colour ∧ colour ≤ 99) ∧ 0 ≤ span ∧ span ≤ 99) : xMi D kI kJ l yX8_findMatch wsX8_findMatch 1 64 0 0 [.ref qS, .int (jI stone), .int (jI strength), .int (jI pore), .int (jI colour), .int (jI span)] [(qS, .inr (8, [.ref qS_stones, .ref qS_strengths, .ref qS_pores, .ref qS_colours, .ref qS_pieces, .int (jI vS_size)])), aI kI qS_stones 20 fS_stones, aI kI qS_strengths 20 fS_strengths, aI kI qS_pores 20 fS_pores, aI kI qS_colours 20 fS_colours, aI kI qS_pieces 20 fS_pieces] (fun (z : Int) (u : Unit) => z = mnI (lotOff fS_stones fS_strengths fS_pores fS_colours fS_pieces stone strength pore colour span) vS_size) (fun (u : Unit) => [(qS, .inr (8, [.ref qS_stones, .ref qS_strengths, .ref qS_pores, .ref qS_colours, .ref qS_pieces, .int (jI vS_size)])), aI kI qS_stones 20 fS_stones, aI kI qS_strengths 20 fS_strengths, aI kI qS_pores 20 fS_pores, aI kI qS_colours 20 fS_colours, aI kI qS_pieces 20 fS_pieces]) := by
  refine xMi_of (cc := cX8_findMatch) (maxL := 15) (rt := .int) (by decide) rfl (Nat.le_of_ble_eq_true rfl) (fun _ _ _ => rfl) ?_
  intro p e s m args below meth c A Q F hin2 hret
  have hin8 : ∀ w ∈ wsX80, w ∈ wsX8_findMatch := by decide +kernel
  have hw0 : Cond.constant RX8 35 1000000000 ∈ wsX8_findMatch := by decide +kernel
  have hw1 : Cond.fieldLink RX8 27 (TX8 5).1 (TX8 5).2.1 (TX8 5).2.2.1 ∈ wsX8_findMatch := by decide +kernel
  have hw2 : Cond.fieldLink RX8 15 (TX8 1).1 (TX8 1).2.1 (TX8 1).2.2.1 ∈ wsX8_findMatch := by decide +kernel
  have hw3 : Cond.methodLink RX8 36 Lib.Math.abs.name ∈ wsX8_findMatch := by decide +kernel
  have hw4 : Cond.static Lib.Math.abs.name ∈ wsX8_findMatch := by decide +kernel
  have hw5 : Cond.initialized "java/lang/Math" ∈ wsX8_findMatch := by decide +kernel
  have hw6 : Cond.code Lib.Math.abs.name Lib.Math.abs.code 1 (some .int) ∈ wsX8_findMatch := by decide +kernel
  have hw7 : Cond.fieldLink RX8 18 (TX8 2).1 (TX8 2).2.1 (TX8 2).2.2.1 ∈ wsX8_findMatch := by decide +kernel
  have hw8 : Cond.fieldLink RX8 21 (TX8 3).1 (TX8 3).2.1 (TX8 3).2.2.1 ∈ wsX8_findMatch := by decide +kernel
  have hw9 : Cond.fieldLink RX8 24 (TX8 4).1 (TX8 4).2.1 (TX8 4).2.2.1 ∈ wsX8_findMatch := by decide +kernel
  have hw10 : Cond.fieldLink RX8 9 (TX8 0).1 (TX8 0).2.1 (TX8 0).2.2.1 ∈ wsX8_findMatch := by decide +kernel
  refine x_lveq (lv' := [(0, .ref qS), (1, .int (jI stone)), (2, .int (jI strength)), (3, .int (jI pore)), (4, .int (jI colour)), (5, .int (jI span))]) rfl ?_
  refine x_iconst F dX8_findMatch_0 ?_
  refine x_istore (lv' := [(0, .ref qS), (1, .int (jI stone)), (2, .int (jI strength)), (3, .int (jI pore)), (4, .int (jI colour)), (5, .int (jI span)), (6, .int (jI (-1)))]) F dX8_findMatch_1 (by decide) [1, 2, 3, 4, 5, 6, 0] rfl ?_
  refine x_ldc F 1000000000 hw0 (by decide) dX8_findMatch_3 ?_
  refine x_istore (lv' := [(0, .ref qS), (1, .int (jI stone)), (2, .int (jI strength)), (3, .int (jI pore)), (4, .int (jI colour)), (5, .int (jI span)), (6, .int (jI (-1))), (7, .int (jI 1000000000))]) F dX8_findMatch_5 (by decide) [1, 2, 3, 4, 5, 6, 7, 0] rfl ?_
  refine x_iconst F dX8_findMatch_7 ?_
  refine x_istore (lv' := [(0, .ref qS), (1, .int (jI stone)), (2, .int (jI strength)), (3, .int (jI pore)), (4, .int (jI colour)), (5, .int (jI span)), (6, .int (jI (-1))), (7, .int (jI 1000000000)), (8, .int (jI 0))]) F dX8_findMatch_8 (by decide) [1, 2, 3, 4, 5, 6, 7, 8, 0] rfl ?_
  have lp10 : ∀ (fu : Nat) (i : Int) (found : Int) (least : Int) (hi : 0 ≤ i ∧ i ≤ vS_size) (hf : found = mnI (lotOff fS_stones fS_strengths fS_pores fS_colours fS_pieces stone strength pore colour span) i) (hl : (found < 0 ∧ least = 1000000000) ∨ (0 ≤ found ∧ least = (lotOff fS_stones fS_strengths fS_pores fS_colours fS_pieces stone strength pore colour span) found ∧ 0 ≤ least ∧ least ≤ 297)) (hm : vS_size - i < (fu : Int)), xG D p l e (xRm 1 64 0 0) s m args below meth c 15 A Q 0 0 [(qS, .inr (8, [.ref qS_stones, .ref qS_strengths, .ref qS_pores, .ref qS_colours, .ref qS_pieces, .int (jI vS_size)])), aI kI qS_stones 20 fS_stones, aI kI qS_strengths 20 fS_strengths, aI kI qS_pores 20 fS_pores, aI kI qS_colours 20 fS_colours, aI kI qS_pieces 20 fS_pieces] [(0, .ref qS), (1, .int (jI stone)), (2, .int (jI strength)), (3, .int (jI pore)), (4, .int (jI colour)), (5, .int (jI span)), (6, .int (jI found)), (7, .int (jI least)), (8, .int (jI i))] 10 [] := by
    intro fu
    induction fu with
    | zero =>
      intro i found least hi hf hl hm
      exact absurd hm (by omega)
    | succ fu ih10 =>
      intro i found least hi hf hl hm
      refine x_iload F dX8_findMatch_10 8 rfl ?_
      refine x_aload_n F dX8_findMatch_12 rfl 0 rfl ?_
      refine x_get (ci := 8) F hin8 0 rfl rfl 5 (by decide) hw1 rfl dX8_findMatch_13 ?_
      refine x_icmp_ge (tgt := 171) F dX8_findMatch_16 (by decide) (by omega) (fun c16 => ?_) (fun c16 => ?_)
      · -- 16 t
        refine x_iload F dX8_findMatch_171 6 rfl ?_
        exact hret 0 0 173 _ found () (Nat.le_of_ble_eq_true rfl) (Nat.le_of_ble_eq_true rfl) dX8_findMatch_173 (by rw [hf, show i = vS_size by omega])
      · -- 16 f
        refine x_iload F dX8_findMatch_19 8 rfl ?_
        refine x_bipush F dX8_findMatch_21 (by decide) ?_
        refine x_icmp_ge (tgt := 171) F dX8_findMatch_23 (by decide) (by omega) (fun c23 => ?_) (fun c23 => ?_)
        · exact absurd c23 (by omega)
        · -- 23 f
          refine x_aload_n F dX8_findMatch_26 rfl 0 rfl ?_
          refine x_get (ci := 8) F hin8 0 rfl rfl 1 (by decide) hw2 rfl dX8_findMatch_27 ?_
          refine x_iload F dX8_findMatch_30 8 rfl ?_
          refine x_iald F 2 rfl (by decide) (by omega) dX8_findMatch_32 ?_
          have hr32 := Rg.at hS2 i (by omega)
          refine x_iload_n F dX8_findMatch_33 rfl 2 rfl ?_
          refine x_isub F dX8_findMatch_34 ?_
          refine x_abs F hw3 hw4 hw5 hw6 (Nat.le_of_ble_eq_true rfl) (Nat.le_of_ble_eq_true rfl) (Nat.le_of_ble_eq_true rfl) (Nat.le_of_ble_eq_true rfl) (by omega) dX8_findMatch_35 ?_
          refine x_istore (lv' := [(0, .ref qS), (1, .int (jI stone)), (2, .int (jI strength)), (3, .int (jI pore)), (4, .int (jI colour)), (5, .int (jI span)), (6, .int (jI found)), (7, .int (jI least)), (8, .int (jI i)), (9, .int (jI (if 0 ≤ ((fS_strengths i) - strength) then ((fS_strengths i) - strength) else -((fS_strengths i) - strength))))]) F dX8_findMatch_38 (by decide) [1, 2, 3, 4, 5, 6, 7, 8, 9, 0] rfl ?_
          refine x_aload_n F dX8_findMatch_40 rfl 0 rfl ?_
          refine x_get (ci := 8) F hin8 0 rfl rfl 2 (by decide) hw7 rfl dX8_findMatch_41 ?_
          refine x_iload F dX8_findMatch_44 8 rfl ?_
          refine x_iald F 3 rfl (by decide) (by omega) dX8_findMatch_46 ?_
          have hr46 := Rg.at hS3 i (by omega)
          refine x_iload_n F dX8_findMatch_47 rfl 3 rfl ?_
          refine x_isub F dX8_findMatch_48 ?_
          refine x_abs F hw3 hw4 hw5 hw6 (Nat.le_of_ble_eq_true rfl) (Nat.le_of_ble_eq_true rfl) (Nat.le_of_ble_eq_true rfl) (Nat.le_of_ble_eq_true rfl) (by omega) dX8_findMatch_49 ?_
          refine x_istore (lv' := [(0, .ref qS), (1, .int (jI stone)), (2, .int (jI strength)), (3, .int (jI pore)), (4, .int (jI colour)), (5, .int (jI span)), (6, .int (jI found)), (7, .int (jI least)), (8, .int (jI i)), (9, .int (jI (if 0 ≤ ((fS_strengths i) - strength) then ((fS_strengths i) - strength) else -((fS_strengths i) - strength)))), (10, .int (jI (if 0 ≤ ((fS_pores i) - pore) then ((fS_pores i) - pore) else -((fS_pores i) - pore))))]) F dX8_findMatch_52 (by decide) [1, 2, 3, 4, 5, 6, 7, 8, 9, 10, 0] rfl ?_
          refine x_aload_n F dX8_findMatch_54 rfl 0 rfl ?_
          refine x_get (ci := 8) F hin8 0 rfl rfl 3 (by decide) hw8 rfl dX8_findMatch_55 ?_
          refine x_iload F dX8_findMatch_58 8 rfl ?_
          refine x_iald F 4 rfl (by decide) (by omega) dX8_findMatch_60 ?_
          have hr60 := Rg.at hS4 i (by omega)
          refine x_iload F dX8_findMatch_61 4 rfl ?_
          refine x_isub F dX8_findMatch_63 ?_
          refine x_abs F hw3 hw4 hw5 hw6 (Nat.le_of_ble_eq_true rfl) (Nat.le_of_ble_eq_true rfl) (Nat.le_of_ble_eq_true rfl) (Nat.le_of_ble_eq_true rfl) (by omega) dX8_findMatch_64 ?_
          refine x_istore (lv' := [(0, .ref qS), (1, .int (jI stone)), (2, .int (jI strength)), (3, .int (jI pore)), (4, .int (jI colour)), (5, .int (jI span)), (6, .int (jI found)), (7, .int (jI least)), (8, .int (jI i)), (9, .int (jI (if 0 ≤ ((fS_strengths i) - strength) then ((fS_strengths i) - strength) else -((fS_strengths i) - strength)))), (10, .int (jI (if 0 ≤ ((fS_pores i) - pore) then ((fS_pores i) - pore) else -((fS_pores i) - pore)))), (11, .int (jI (if 0 ≤ ((fS_colours i) - colour) then ((fS_colours i) - colour) else -((fS_colours i) - colour))))]) F dX8_findMatch_67 (by decide) [1, 2, 3, 4, 5, 6, 7, 8, 9, 10, 11, 0] rfl ?_
          refine x_iload F dX8_findMatch_69 9 rfl ?_
          refine x_iload F dX8_findMatch_71 10 rfl ?_
          refine x_iadd F dX8_findMatch_73 ?_
          refine x_iload F dX8_findMatch_74 11 rfl ?_
          refine x_iadd F dX8_findMatch_76 ?_
          refine x_istore (lv' := [(0, .ref qS), (1, .int (jI stone)), (2, .int (jI strength)), (3, .int (jI pore)), (4, .int (jI colour)), (5, .int (jI span)), (6, .int (jI found)), (7, .int (jI least)), (8, .int (jI i)), (9, .int (jI (if 0 ≤ ((fS_strengths i) - strength) then ((fS_strengths i) - strength) else -((fS_strengths i) - strength)))), (10, .int (jI (if 0 ≤ ((fS_pores i) - pore) then ((fS_pores i) - pore) else -((fS_pores i) - pore)))), (11, .int (jI (if 0 ≤ ((fS_colours i) - colour) then ((fS_colours i) - colour) else -((fS_colours i) - colour)))), (12, .int (jI (((if 0 ≤ ((fS_strengths i) - strength) then ((fS_strengths i) - strength) else -((fS_strengths i) - strength)) + (if 0 ≤ ((fS_pores i) - pore) then ((fS_pores i) - pore) else -((fS_pores i) - pore))) + (if 0 ≤ ((fS_colours i) - colour) then ((fS_colours i) - colour) else -((fS_colours i) - colour)))))]) F dX8_findMatch_77 (by decide) [1, 2, 3, 4, 5, 6, 7, 8, 9, 10, 11, 12, 0] rfl ?_
          have jn165 : ∀ (f2 : Int) (l2 : Int) (hf2 : f2 = mnI (lotOff fS_stones fS_strengths fS_pores fS_colours fS_pieces stone strength pore colour span) (i + 1)) (hl2 : (f2 < 0 ∧ l2 = 1000000000) ∨ (0 ≤ f2 ∧ l2 = (lotOff fS_stones fS_strengths fS_pores fS_colours fS_pieces stone strength pore colour span) f2 ∧ 0 ≤ l2 ∧ l2 ≤ 297)), xG D p l e (xRm 1 64 0 0) s m args below meth c 15 A Q 0 0 [(qS, .inr (8, [.ref qS_stones, .ref qS_strengths, .ref qS_pores, .ref qS_colours, .ref qS_pieces, .int (jI vS_size)])), aI kI qS_stones 20 fS_stones, aI kI qS_strengths 20 fS_strengths, aI kI qS_pores 20 fS_pores, aI kI qS_colours 20 fS_colours, aI kI qS_pieces 20 fS_pieces] [(0, .ref qS), (1, .int (jI stone)), (2, .int (jI strength)), (3, .int (jI pore)), (4, .int (jI colour)), (5, .int (jI span)), (6, .int (jI f2)), (7, .int (jI l2)), (8, .int (jI i)), (9, .int (jI (if 0 ≤ ((fS_strengths i) - strength) then ((fS_strengths i) - strength) else -((fS_strengths i) - strength)))), (10, .int (jI (if 0 ≤ ((fS_pores i) - pore) then ((fS_pores i) - pore) else -((fS_pores i) - pore)))), (11, .int (jI (if 0 ≤ ((fS_colours i) - colour) then ((fS_colours i) - colour) else -((fS_colours i) - colour)))), (12, .int (jI (((if 0 ≤ ((fS_strengths i) - strength) then ((fS_strengths i) - strength) else -((fS_strengths i) - strength)) + (if 0 ≤ ((fS_pores i) - pore) then ((fS_pores i) - pore) else -((fS_pores i) - pore))) + (if 0 ≤ ((fS_colours i) - colour) then ((fS_colours i) - colour) else -((fS_colours i) - colour)))))] 165 [] := by
            intro f2 l2 hf2 hl2
            refine x_iinc (lv' := [(0, .ref qS), (1, .int (jI stone)), (2, .int (jI strength)), (3, .int (jI pore)), (4, .int (jI colour)), (5, .int (jI span)), (6, .int (jI f2)), (7, .int (jI l2)), (8, .int (jI (i + 1))), (9, .int (jI (if 0 ≤ ((fS_strengths i) - strength) then ((fS_strengths i) - strength) else -((fS_strengths i) - strength)))), (10, .int (jI (if 0 ≤ ((fS_pores i) - pore) then ((fS_pores i) - pore) else -((fS_pores i) - pore)))), (11, .int (jI (if 0 ≤ ((fS_colours i) - colour) then ((fS_colours i) - colour) else -((fS_colours i) - colour)))), (12, .int (jI (((if 0 ≤ ((fS_strengths i) - strength) then ((fS_strengths i) - strength) else -((fS_strengths i) - strength)) + (if 0 ≤ ((fS_pores i) - pore) then ((fS_pores i) - pore) else -((fS_pores i) - pore))) + (if 0 ≤ ((fS_colours i) - colour) then ((fS_colours i) - colour) else -((fS_colours i) - colour)))))]) (k := 8) F dX8_findMatch_165 rfl (by decide) [1, 2, 3, 4, 5, 6, 7, 8, 0, 9, 10, 11, 12] rfl ?_
            refine x_goto (tgt := 10) F dX8_findMatch_168 (by decide) ?_
            refine x_lv (lv' := [(0, .ref qS), (1, .int (jI stone)), (2, .int (jI strength)), (3, .int (jI pore)), (4, .int (jI colour)), (5, .int (jI span)), (6, .int (jI f2)), (7, .int (jI l2)), (8, .int (jI (i + 1)))]) [0, 1, 2, 3, 4, 5, 6, 7, 8] rfl ?_
            exact ih10 (i + 1) f2 l2 (by omega) hf2 hl2 (by omega)
          have jn138 : ∀ (z1 : Int) (z2 : Int) (hz1 : xBool z1 ((stone = -1 ∨ fS_stones i = stone) ∧ 0 < fS_pieces i)) (hz2 : xBool z2 ((if 0 ≤ ((fS_strengths i) - strength) then ((fS_strengths i) - strength) else -((fS_strengths i) - strength)) ≤ span ∧ (if 0 ≤ ((fS_pores i) - pore) then ((fS_pores i) - pore) else -((fS_pores i) - pore)) ≤ span ∧ (if 0 ≤ ((fS_colours i) - colour) then ((fS_colours i) - colour) else -((fS_colours i) - colour)) ≤ span)), xG D p l e (xRm 1 64 0 0) s m args below meth c 15 A Q 0 0 [(qS, .inr (8, [.ref qS_stones, .ref qS_strengths, .ref qS_pores, .ref qS_colours, .ref qS_pieces, .int (jI vS_size)])), aI kI qS_stones 20 fS_stones, aI kI qS_strengths 20 fS_strengths, aI kI qS_pores 20 fS_pores, aI kI qS_colours 20 fS_colours, aI kI qS_pieces 20 fS_pieces] [(0, .ref qS), (1, .int (jI stone)), (2, .int (jI strength)), (3, .int (jI pore)), (4, .int (jI colour)), (5, .int (jI span)), (6, .int (jI found)), (7, .int (jI least)), (8, .int (jI i)), (9, .int (jI (if 0 ≤ ((fS_strengths i) - strength) then ((fS_strengths i) - strength) else -((fS_strengths i) - strength)))), (10, .int (jI (if 0 ≤ ((fS_pores i) - pore) then ((fS_pores i) - pore) else -((fS_pores i) - pore)))), (11, .int (jI (if 0 ≤ ((fS_colours i) - colour) then ((fS_colours i) - colour) else -((fS_colours i) - colour)))), (12, .int (jI (((if 0 ≤ ((fS_strengths i) - strength) then ((fS_strengths i) - strength) else -((fS_strengths i) - strength)) + (if 0 ≤ ((fS_pores i) - pore) then ((fS_pores i) - pore) else -((fS_pores i) - pore))) + (if 0 ≤ ((fS_colours i) - colour) then ((fS_colours i) - colour) else -((fS_colours i) - colour))))), (13, .int (jI z1))] 138 [.int (jI z2)] := by
            intro z1 z2 hz1 hz2
            refine x_istore (lv' := [(0, .ref qS), (1, .int (jI stone)), (2, .int (jI strength)), (3, .int (jI pore)), (4, .int (jI colour)), (5, .int (jI span)), (6, .int (jI found)), (7, .int (jI least)), (8, .int (jI i)), (9, .int (jI (if 0 ≤ ((fS_strengths i) - strength) then ((fS_strengths i) - strength) else -((fS_strengths i) - strength)))), (10, .int (jI (if 0 ≤ ((fS_pores i) - pore) then ((fS_pores i) - pore) else -((fS_pores i) - pore)))), (11, .int (jI (if 0 ≤ ((fS_colours i) - colour) then ((fS_colours i) - colour) else -((fS_colours i) - colour)))), (12, .int (jI (((if 0 ≤ ((fS_strengths i) - strength) then ((fS_strengths i) - strength) else -((fS_strengths i) - strength)) + (if 0 ≤ ((fS_pores i) - pore) then ((fS_pores i) - pore) else -((fS_pores i) - pore))) + (if 0 ≤ ((fS_colours i) - colour) then ((fS_colours i) - colour) else -((fS_colours i) - colour))))), (13, .int (jI z1)), (14, .int (jI z2))]) F dX8_findMatch_138 (by decide) [1, 2, 3, 4, 5, 6, 7, 8, 9, 10, 11, 12, 13, 14, 0] rfl ?_
            refine x_iload F dX8_findMatch_140 13 rfl ?_
            refine x_beq (tgt := 165) F dX8_findMatch_142 (by decide) hz1 (fun c142 => ?_) (fun c142 => ?_)
            · -- 142 t
              refine x_lv (lv' := [(0, .ref qS), (1, .int (jI stone)), (2, .int (jI strength)), (3, .int (jI pore)), (4, .int (jI colour)), (5, .int (jI span)), (6, .int (jI found)), (7, .int (jI least)), (8, .int (jI i)), (9, .int (jI (if 0 ≤ ((fS_strengths i) - strength) then ((fS_strengths i) - strength) else -((fS_strengths i) - strength)))), (10, .int (jI (if 0 ≤ ((fS_pores i) - pore) then ((fS_pores i) - pore) else -((fS_pores i) - pore)))), (11, .int (jI (if 0 ≤ ((fS_colours i) - colour) then ((fS_colours i) - colour) else -((fS_colours i) - colour)))), (12, .int (jI (((if 0 ≤ ((fS_strengths i) - strength) then ((fS_strengths i) - strength) else -((fS_strengths i) - strength)) + (if 0 ≤ ((fS_pores i) - pore) then ((fS_pores i) - pore) else -((fS_pores i) - pore))) + (if 0 ≤ ((fS_colours i) - colour) then ((fS_colours i) - colour) else -((fS_colours i) - colour)))))]) [0, 1, 2, 3, 4, 5, 6, 7, 8, 9, 10, 11, 12] rfl ?_
              exact jn165 found least (by rw [mnI_s hi.1, ← hf]; unfold lotOff at *; first | (rw [if_pos (by omega)]) | (rw [if_neg (by omega)])) (by unfold lotOff at *; omega)
            · -- 142 f
              refine x_iload F dX8_findMatch_145 14 rfl ?_
              refine x_beq (tgt := 165) F dX8_findMatch_147 (by decide) hz2 (fun c147 => ?_) (fun c147 => ?_)
              · -- 147 t
                refine x_lv (lv' := [(0, .ref qS), (1, .int (jI stone)), (2, .int (jI strength)), (3, .int (jI pore)), (4, .int (jI colour)), (5, .int (jI span)), (6, .int (jI found)), (7, .int (jI least)), (8, .int (jI i)), (9, .int (jI (if 0 ≤ ((fS_strengths i) - strength) then ((fS_strengths i) - strength) else -((fS_strengths i) - strength)))), (10, .int (jI (if 0 ≤ ((fS_pores i) - pore) then ((fS_pores i) - pore) else -((fS_pores i) - pore)))), (11, .int (jI (if 0 ≤ ((fS_colours i) - colour) then ((fS_colours i) - colour) else -((fS_colours i) - colour)))), (12, .int (jI (((if 0 ≤ ((fS_strengths i) - strength) then ((fS_strengths i) - strength) else -((fS_strengths i) - strength)) + (if 0 ≤ ((fS_pores i) - pore) then ((fS_pores i) - pore) else -((fS_pores i) - pore))) + (if 0 ≤ ((fS_colours i) - colour) then ((fS_colours i) - colour) else -((fS_colours i) - colour)))))]) [0, 1, 2, 3, 4, 5, 6, 7, 8, 9, 10, 11, 12] rfl ?_
                exact jn165 found least (by rw [mnI_s hi.1, ← hf]; unfold lotOff at *; first | (rw [if_pos (by omega)]) | (rw [if_neg (by omega)])) (by unfold lotOff at *; omega)
              · -- 147 f
                refine x_iload F dX8_findMatch_150 12 rfl ?_
                refine x_iload F dX8_findMatch_152 7 rfl ?_
                refine x_icmp_ge (tgt := 165) F dX8_findMatch_154 (by decide) (by omega) (fun c154 => ?_) (fun c154 => ?_)
                · -- 154 t
                  refine x_lv (lv' := [(0, .ref qS), (1, .int (jI stone)), (2, .int (jI strength)), (3, .int (jI pore)), (4, .int (jI colour)), (5, .int (jI span)), (6, .int (jI found)), (7, .int (jI least)), (8, .int (jI i)), (9, .int (jI (if 0 ≤ ((fS_strengths i) - strength) then ((fS_strengths i) - strength) else -((fS_strengths i) - strength)))), (10, .int (jI (if 0 ≤ ((fS_pores i) - pore) then ((fS_pores i) - pore) else -((fS_pores i) - pore)))), (11, .int (jI (if 0 ≤ ((fS_colours i) - colour) then ((fS_colours i) - colour) else -((fS_colours i) - colour)))), (12, .int (jI (((if 0 ≤ ((fS_strengths i) - strength) then ((fS_strengths i) - strength) else -((fS_strengths i) - strength)) + (if 0 ≤ ((fS_pores i) - pore) then ((fS_pores i) - pore) else -((fS_pores i) - pore))) + (if 0 ≤ ((fS_colours i) - colour) then ((fS_colours i) - colour) else -((fS_colours i) - colour)))))]) [0, 1, 2, 3, 4, 5, 6, 7, 8, 9, 10, 11, 12] rfl ?_
                  exact jn165 found least (by rw [mnI_s hi.1, ← hf]; unfold lotOff at *; first | (rw [if_pos (by omega)]) | (rw [if_neg (by omega)])) (by unfold lotOff at *; omega)
                · -- 154 f
                  refine x_iload F dX8_findMatch_157 8 rfl ?_
                  refine x_istore (lv' := [(0, .ref qS), (1, .int (jI stone)), (2, .int (jI strength)), (3, .int (jI pore)), (4, .int (jI colour)), (5, .int (jI span)), (6, .int (jI i)), (7, .int (jI least)), (8, .int (jI i)), (9, .int (jI (if 0 ≤ ((fS_strengths i) - strength) then ((fS_strengths i) - strength) else -((fS_strengths i) - strength)))), (10, .int (jI (if 0 ≤ ((fS_pores i) - pore) then ((fS_pores i) - pore) else -((fS_pores i) - pore)))), (11, .int (jI (if 0 ≤ ((fS_colours i) - colour) then ((fS_colours i) - colour) else -((fS_colours i) - colour)))), (12, .int (jI (((if 0 ≤ ((fS_strengths i) - strength) then ((fS_strengths i) - strength) else -((fS_strengths i) - strength)) + (if 0 ≤ ((fS_pores i) - pore) then ((fS_pores i) - pore) else -((fS_pores i) - pore))) + (if 0 ≤ ((fS_colours i) - colour) then ((fS_colours i) - colour) else -((fS_colours i) - colour))))), (13, .int (jI z1)), (14, .int (jI z2))]) F dX8_findMatch_159 (by decide) [1, 2, 3, 4, 5, 6, 0, 7, 8, 9, 10, 11, 12, 13, 14] rfl ?_
                  refine x_iload F dX8_findMatch_161 12 rfl ?_
                  refine x_istore (lv' := [(0, .ref qS), (1, .int (jI stone)), (2, .int (jI strength)), (3, .int (jI pore)), (4, .int (jI colour)), (5, .int (jI span)), (6, .int (jI i)), (7, .int (jI (((if 0 ≤ ((fS_strengths i) - strength) then ((fS_strengths i) - strength) else -((fS_strengths i) - strength)) + (if 0 ≤ ((fS_pores i) - pore) then ((fS_pores i) - pore) else -((fS_pores i) - pore))) + (if 0 ≤ ((fS_colours i) - colour) then ((fS_colours i) - colour) else -((fS_colours i) - colour))))), (8, .int (jI i)), (9, .int (jI (if 0 ≤ ((fS_strengths i) - strength) then ((fS_strengths i) - strength) else -((fS_strengths i) - strength)))), (10, .int (jI (if 0 ≤ ((fS_pores i) - pore) then ((fS_pores i) - pore) else -((fS_pores i) - pore)))), (11, .int (jI (if 0 ≤ ((fS_colours i) - colour) then ((fS_colours i) - colour) else -((fS_colours i) - colour)))), (12, .int (jI (((if 0 ≤ ((fS_strengths i) - strength) then ((fS_strengths i) - strength) else -((fS_strengths i) - strength)) + (if 0 ≤ ((fS_pores i) - pore) then ((fS_pores i) - pore) else -((fS_pores i) - pore))) + (if 0 ≤ ((fS_colours i) - colour) then ((fS_colours i) - colour) else -((fS_colours i) - colour))))), (13, .int (jI z1)), (14, .int (jI z2))]) F dX8_findMatch_163 (by decide) [1, 2, 3, 4, 5, 6, 7, 0, 8, 9, 10, 11, 12, 13, 14] rfl ?_
                  refine x_lv (lv' := [(0, .ref qS), (1, .int (jI stone)), (2, .int (jI strength)), (3, .int (jI pore)), (4, .int (jI colour)), (5, .int (jI span)), (6, .int (jI i)), (7, .int (jI (((if 0 ≤ ((fS_strengths i) - strength) then ((fS_strengths i) - strength) else -((fS_strengths i) - strength)) + (if 0 ≤ ((fS_pores i) - pore) then ((fS_pores i) - pore) else -((fS_pores i) - pore))) + (if 0 ≤ ((fS_colours i) - colour) then ((fS_colours i) - colour) else -((fS_colours i) - colour))))), (8, .int (jI i)), (9, .int (jI (if 0 ≤ ((fS_strengths i) - strength) then ((fS_strengths i) - strength) else -((fS_strengths i) - strength)))), (10, .int (jI (if 0 ≤ ((fS_pores i) - pore) then ((fS_pores i) - pore) else -((fS_pores i) - pore)))), (11, .int (jI (if 0 ≤ ((fS_colours i) - colour) then ((fS_colours i) - colour) else -((fS_colours i) - colour)))), (12, .int (jI (((if 0 ≤ ((fS_strengths i) - strength) then ((fS_strengths i) - strength) else -((fS_strengths i) - strength)) + (if 0 ≤ ((fS_pores i) - pore) then ((fS_pores i) - pore) else -((fS_pores i) - pore))) + (if 0 ≤ ((fS_colours i) - colour) then ((fS_colours i) - colour) else -((fS_colours i) - colour)))))]) [0, 1, 2, 3, 4, 5, 6, 7, 8, 9, 10, 11, 12] rfl ?_
                  exact jn165 i (((if 0 ≤ ((fS_strengths i) - strength) then ((fS_strengths i) - strength) else -((fS_strengths i) - strength)) + (if 0 ≤ ((fS_pores i) - pore) then ((fS_pores i) - pore) else -((fS_pores i) - pore))) + (if 0 ≤ ((fS_colours i) - colour) then ((fS_colours i) - colour) else -((fS_colours i) - colour))) (by rw [mnI_s hi.1, ← hf]; unfold lotOff at *; first | (rw [if_pos (by omega)]) | (rw [if_neg (by omega)])) (by unfold lotOff at *; omega)
          have jn110 : ∀ (z1 : Int) (hz1 : xBool z1 ((stone = -1 ∨ fS_stones i = stone) ∧ 0 < fS_pieces i)), xG D p l e (xRm 1 64 0 0) s m args below meth c 15 A Q 0 0 [(qS, .inr (8, [.ref qS_stones, .ref qS_strengths, .ref qS_pores, .ref qS_colours, .ref qS_pieces, .int (jI vS_size)])), aI kI qS_stones 20 fS_stones, aI kI qS_strengths 20 fS_strengths, aI kI qS_pores 20 fS_pores, aI kI qS_colours 20 fS_colours, aI kI qS_pieces 20 fS_pieces] [(0, .ref qS), (1, .int (jI stone)), (2, .int (jI strength)), (3, .int (jI pore)), (4, .int (jI colour)), (5, .int (jI span)), (6, .int (jI found)), (7, .int (jI least)), (8, .int (jI i)), (9, .int (jI (if 0 ≤ ((fS_strengths i) - strength) then ((fS_strengths i) - strength) else -((fS_strengths i) - strength)))), (10, .int (jI (if 0 ≤ ((fS_pores i) - pore) then ((fS_pores i) - pore) else -((fS_pores i) - pore)))), (11, .int (jI (if 0 ≤ ((fS_colours i) - colour) then ((fS_colours i) - colour) else -((fS_colours i) - colour)))), (12, .int (jI (((if 0 ≤ ((fS_strengths i) - strength) then ((fS_strengths i) - strength) else -((fS_strengths i) - strength)) + (if 0 ≤ ((fS_pores i) - pore) then ((fS_pores i) - pore) else -((fS_pores i) - pore))) + (if 0 ≤ ((fS_colours i) - colour) then ((fS_colours i) - colour) else -((fS_colours i) - colour)))))] 110 [.int (jI z1)] := by
            intro z1 hz1
            refine x_istore (lv' := [(0, .ref qS), (1, .int (jI stone)), (2, .int (jI strength)), (3, .int (jI pore)), (4, .int (jI colour)), (5, .int (jI span)), (6, .int (jI found)), (7, .int (jI least)), (8, .int (jI i)), (9, .int (jI (if 0 ≤ ((fS_strengths i) - strength) then ((fS_strengths i) - strength) else -((fS_strengths i) - strength)))), (10, .int (jI (if 0 ≤ ((fS_pores i) - pore) then ((fS_pores i) - pore) else -((fS_pores i) - pore)))), (11, .int (jI (if 0 ≤ ((fS_colours i) - colour) then ((fS_colours i) - colour) else -((fS_colours i) - colour)))), (12, .int (jI (((if 0 ≤ ((fS_strengths i) - strength) then ((fS_strengths i) - strength) else -((fS_strengths i) - strength)) + (if 0 ≤ ((fS_pores i) - pore) then ((fS_pores i) - pore) else -((fS_pores i) - pore))) + (if 0 ≤ ((fS_colours i) - colour) then ((fS_colours i) - colour) else -((fS_colours i) - colour))))), (13, .int (jI z1))]) F dX8_findMatch_110 (by decide) [1, 2, 3, 4, 5, 6, 7, 8, 9, 10, 11, 12, 13, 0] rfl ?_
            refine x_iload F dX8_findMatch_112 9 rfl ?_
            refine x_iload F dX8_findMatch_114 5 rfl ?_
            refine x_icmp_gt (tgt := 137) F dX8_findMatch_116 (by decide) (by omega) (fun c116 => ?_) (fun c116 => ?_)
            · -- 116 t
              refine x_iconst F dX8_findMatch_137 ?_
              exact jn138 z1 0 hz1 (by first | exact xBool_t (by omega) | exact xBool_f (by omega))
            · -- 116 f
              refine x_iload F dX8_findMatch_119 10 rfl ?_
              refine x_iload F dX8_findMatch_121 5 rfl ?_
              refine x_icmp_gt (tgt := 137) F dX8_findMatch_123 (by decide) (by omega) (fun c123 => ?_) (fun c123 => ?_)
              · -- 123 t
                refine x_iconst F dX8_findMatch_137 ?_
                exact jn138 z1 0 hz1 (by first | exact xBool_t (by omega) | exact xBool_f (by omega))
              · -- 123 f
                refine x_iload F dX8_findMatch_126 11 rfl ?_
                refine x_iload F dX8_findMatch_128 5 rfl ?_
                refine x_icmp_gt (tgt := 137) F dX8_findMatch_130 (by decide) (by omega) (fun c130 => ?_) (fun c130 => ?_)
                · -- 130 t
                  refine x_iconst F dX8_findMatch_137 ?_
                  exact jn138 z1 0 hz1 (by first | exact xBool_t (by omega) | exact xBool_f (by omega))
                · -- 130 f
                  refine x_iconst F dX8_findMatch_133 ?_
                  refine x_goto (tgt := 138) F dX8_findMatch_134 (by decide) ?_
                  exact jn138 z1 1 hz1 (by first | exact xBool_t (by omega) | exact xBool_f (by omega))
          have ha := Rg.at hS2 i (by omega)
          have hb := Rg.at hS3 i (by omega)
          have hc := Rg.at hS4 i (by omega)
          refine x_aload_n F dX8_findMatch_79 rfl 0 rfl ?_
          refine x_get (ci := 8) F hin8 0 rfl rfl 4 (by decide) hw9 rfl dX8_findMatch_80 ?_
          refine x_iload F dX8_findMatch_83 8 rfl ?_
          refine x_iald F 5 rfl (by decide) (by omega) dX8_findMatch_85 ?_
          have hr85 := Rg.at hS5 i (by omega)
          refine x_if_le (tgt := 109) F dX8_findMatch_86 (by decide) (by omega) (fun c86 => ?_) (fun c86 => ?_)
          · -- 86 t
            refine x_iconst F dX8_findMatch_109 ?_
            exact jn110 0 (by first | exact xBool_t (by omega) | exact xBool_f (by omega))
          · -- 86 f
            refine x_iload_n F dX8_findMatch_89 rfl 1 rfl ?_
            refine x_iconst F dX8_findMatch_90 ?_
            refine x_icmp_eq (tgt := 105) F dX8_findMatch_91 (by decide) (by omega) (fun c91 => ?_) (fun c91 => ?_)
            · -- 91 t
              refine x_iconst F dX8_findMatch_105 ?_
              refine x_goto (tgt := 110) F dX8_findMatch_106 (by decide) ?_
              exact jn110 1 (by first | exact xBool_t (by omega) | exact xBool_f (by omega))
            · -- 91 f
              refine x_aload_n F dX8_findMatch_94 rfl 0 rfl ?_
              refine x_get (ci := 8) F hin8 0 rfl rfl 0 (by decide) hw10 rfl dX8_findMatch_95 ?_
              refine x_iload F dX8_findMatch_98 8 rfl ?_
              refine x_iald F 1 rfl (by decide) (by omega) dX8_findMatch_100 ?_
              have hr100 := Rg.at hS1 i (by omega)
              refine x_iload_n F dX8_findMatch_101 rfl 1 rfl ?_
              refine x_icmp_ne (tgt := 109) F dX8_findMatch_102 (by decide) (by omega) (fun c102 => ?_) (fun c102 => ?_)
              · -- 102 t
                refine x_iconst F dX8_findMatch_109 ?_
                exact jn110 0 (by first | exact xBool_t (by omega) | exact xBool_f (by omega))
              · -- 102 f
                refine x_iconst F dX8_findMatch_105 ?_
                refine x_goto (tgt := 110) F dX8_findMatch_106 (by decide) ?_
                exact jn110 1 (by first | exact xBool_t (by omega) | exact xBool_f (by omega))
  exact lp10 (Int.toNat (vS_size - 0) + 1) 0 (-1) 1000000000 (by omega) rfl (by omega) (by omega)
set_option maxHeartbeats 4000000 in
set_option maxRecDepth 100000 in
theorem c_X8_takePiece_ok (D : va_G) (kI kJ : Nat) (l : Launch) (qS : Nat) (lot : Int) (qS_stones : Nat) (qS_strengths : Nat) (qS_pores : Nat) (qS_colours : Nat) (qS_pieces : Nat) (vS_size : Int) (fS_pieces : (Int → Int)) (hl : 0 ≤ lot ∧ lot < 20) (hp : 0 < fS_pieces lot ∧ fS_pieces lot ≤ 99) : xMi D kI kJ l yX8_takePiece wsX8_takePiece 2 53 0 0 [.ref qS, .int (jI lot)] [(qS, .inr (8, [.ref qS_stones, .ref qS_strengths, .ref qS_pores, .ref qS_colours, .ref qS_pieces, .int (jI vS_size)])), aI kI qS_pieces 20 fS_pieces] (fun (z : Int) (u : Unit) => z = (fS_pieces lot - 1)) (fun (u : Unit) => [(qS, .inr (8, [.ref qS_stones, .ref qS_strengths, .ref qS_pores, .ref qS_colours, .ref qS_pieces, .int (jI vS_size)])), aI kI qS_pieces 20 (iU fS_pieces lot (fS_pieces lot - 1))]) := by
  refine xMi_of (cc := cX8_takePiece) (maxL := 2) (rt := .int) (by decide) rfl (Nat.le_of_ble_eq_true rfl) (fun _ _ _ => rfl) ?_
  intro p e s m args below meth c A Q F hin2 hret
  have hin8 : ∀ w ∈ wsX80, w ∈ wsX8_takePiece := by decide +kernel
  have hw0 : Cond.fieldLink RX8 24 (TX8 4).1 (TX8 4).2.1 (TX8 4).2.2.1 ∈ wsX8_takePiece := by decide +kernel
  have hw1 : Cond.initialized yX9_at.cls ∈ wsX8_takePiece := by decide +kernel
  have hw2 : Cond.static yX9_at ∈ wsX8_takePiece := by decide +kernel
  have hw3 : Cond.initialized yX9_isBelow.cls ∈ wsX8_takePiece := by decide +kernel
  have hw4 : Cond.static yX9_isBelow ∈ wsX8_takePiece := by decide +kernel
  refine x_lveq (lv' := [(0, .ref qS), (1, .int (jI lot))]) rfl ?_
  refine x_aload_n F dX8_takePiece_0 rfl 0 rfl ?_
  refine x_get (ci := 8) F hin8 0 rfl rfl 4 (by decide) hw0 rfl dX8_takePiece_1 ?_
  refine x_iload_n F dX8_takePiece_4 rfl 1 rfl ?_
  refine x_callSNi (As := [.ref qS_pieces, .int (jI lot)]) (st := []) F (c_X9_at D kI kJ l qS_pieces lot 20 fS_pieces (by omega) (by omega)) ⟨va_cnB 2 F.2.2.2.2.1 gX8_takePiece_X9_at_n42 rfl rfl rfl (nM22 F.2.2.2.2.2.2.2) (F.2.2.2.2.1 _ hw1) (by decide +kernel) ⟨Nat.le_of_ble_eq_true rfl, Nat.le_of_ble_eq_true rfl⟩, F.2.2.2.2.1 _ hw2, trivial⟩ [1] [0] [0, 1] rfl rfl (by decide) (by decide) (by decide) (fun _ => rfl) (by decide) rfl (Nat.le_of_ble_eq_true rfl) dX8_takePiece_5 ⟨Nat.le_of_ble_eq_true rfl, Nat.le_of_ble_eq_true rfl⟩ (fun z5 u5 h5 => ?_)
  try dsimp only at h5
  refine x_ws [(qS, .inr (8, [.ref qS_stones, .ref qS_strengths, .ref qS_pores, .ref qS_colours, .ref qS_pieces, .int (jI vS_size)])), aI kI qS_pieces 20 fS_pieces] rfl ?_
  have he5 := h5
  have he5 := he5.symm
  subst he5
  refine x_iconst F dX8_takePiece_8 ?_
  refine x_icmp_ge (tgt := 16) F dX8_takePiece_9 (by decide) (by omega) (fun c9 => ?_) (fun c9 => ?_)
  · -- 9 t
    refine x_iload_n F dX8_takePiece_16 rfl 1 rfl ?_
    refine x_aload_n F dX8_takePiece_17 rfl 0 rfl ?_
    refine x_get (ci := 8) F hin8 0 rfl rfl 4 (by decide) hw0 rfl dX8_takePiece_18 ?_
    refine x_alen F 1 20 rfl (by decide) dX8_takePiece_21 ?_
    refine x_callSNi (As := [.int (jI lot), .int (jI 20)]) (st := []) F (c_X9_isBelow D kI kJ l lot 20 (by omega) (by omega)) ⟨va_cnB 2 F.2.2.2.2.1 gX8_takePiece_X9_isBelow_n31 rfl rfl rfl (nM21 F.2.2.2.2.2.2.2) (F.2.2.2.2.1 _ hw3) (by decide +kernel) ⟨Nat.le_of_ble_eq_true rfl, Nat.le_of_ble_eq_true rfl⟩, F.2.2.2.2.1 _ hw4, trivial⟩ [] [0, 1] [0, 1] rfl rfl (by decide) (by decide) (by decide) (fun _ => rfl) (by decide) rfl (Nat.le_of_ble_eq_true rfl) dX8_takePiece_22 ⟨Nat.le_of_ble_eq_true rfl, Nat.le_of_ble_eq_true rfl⟩ (fun z22 u22 h22 => ?_)
    try dsimp only at h22
    refine x_ws [(qS, .inr (8, [.ref qS_stones, .ref qS_strengths, .ref qS_pores, .ref qS_colours, .ref qS_pieces, .int (jI vS_size)])), aI kI qS_pieces 20 fS_pieces] rfl ?_
    have hb22 := h22
    refine x_beq (tgt := 38) F dX8_takePiece_25 (by decide) hb22 (fun c25 => ?_) (fun c25 => ?_)
    · exact absurd c25 (by omega)
    · -- 25 f
      refine x_aload_n F dX8_takePiece_28 rfl 0 rfl ?_
      refine x_get (ci := 8) F hin8 0 rfl rfl 4 (by decide) hw0 rfl dX8_takePiece_29 ?_
      refine x_iload_n F dX8_takePiece_32 rfl 1 rfl ?_
      refine x_dup2 F dX8_takePiece_33 rfl rfl ?_
      refine x_iald F 1 rfl (by decide) (by omega) dX8_takePiece_34 ?_
      refine x_iconst F dX8_takePiece_35 ?_
      refine x_isub F dX8_takePiece_36 ?_
      refine x_iast F 1 rfl (by decide) (by omega) dX8_takePiece_37 [(qS, .inr (8, [.ref qS_stones, .ref qS_strengths, .ref qS_pores, .ref qS_colours, .ref qS_pieces, .int (jI vS_size)])), aI kI qS_pieces 20 (iU fS_pieces lot ((fS_pieces lot) - 1))] rfl ?_
      refine x_aload_n F dX8_takePiece_38 rfl 0 rfl ?_
      refine x_get (ci := 8) F hin8 0 rfl rfl 4 (by decide) hw0 rfl dX8_takePiece_39 ?_
      refine x_iload_n F dX8_takePiece_42 rfl 1 rfl ?_
      refine x_callSNi (As := [.ref qS_pieces, .int (jI lot)]) (st := []) F (c_X9_at D kI kJ l qS_pieces lot 20 (iU fS_pieces lot ((fS_pieces lot) - 1)) (by omega) (by omega)) ⟨va_cnB 2 F.2.2.2.2.1 gX8_takePiece_X9_at_n42 rfl rfl rfl (nM22 F.2.2.2.2.2.2.2) (F.2.2.2.2.1 _ hw1) (by decide +kernel) ⟨Nat.le_of_ble_eq_true rfl, Nat.le_of_ble_eq_true rfl⟩, F.2.2.2.2.1 _ hw2, trivial⟩ [1] [0] [0, 1] rfl rfl (by decide) (by decide) (by decide) (fun _ => rfl) (by decide) rfl (Nat.le_of_ble_eq_true rfl) dX8_takePiece_43 ⟨Nat.le_of_ble_eq_true rfl, Nat.le_of_ble_eq_true rfl⟩ (fun z43 u43 h43 => ?_)
      try dsimp only at h43
      refine x_ws [(qS, .inr (8, [.ref qS_stones, .ref qS_strengths, .ref qS_pores, .ref qS_colours, .ref qS_pieces, .int (jI vS_size)])), aI kI qS_pieces 20 (iU fS_pieces lot ((fS_pieces lot) - 1))] rfl ?_
      have he43 := h43
      have he43 := he43.symm
      subst he43
      exact hret 0 0 46 _ ((iU fS_pieces lot ((fS_pieces lot) - 1)) lot) () (Nat.le_of_ble_eq_true rfl) (Nat.le_of_ble_eq_true rfl) dX8_takePiece_46 (iU_s _ _ _)
  · exact absurd c9 (by omega)
set_option maxHeartbeats 4000000 in
set_option maxRecDepth 100000 in
theorem c_X8_takePiece_none (D : va_G) (kI kJ : Nat) (l : Launch) (qS : Nat) (lot : Int) (qS_stones : Nat) (qS_strengths : Nat) (qS_pores : Nat) (qS_colours : Nat) (qS_pieces : Nat) (vS_size : Int) (fS_pieces : (Int → Int)) (hl : 0 ≤ lot ∧ lot < 20) (hp : fS_pieces lot = 0) : xMi D kI kJ l yX8_takePiece wsX8_takePiece 2 53 0 0 [.ref qS, .int (jI lot)] [(qS, .inr (8, [.ref qS_stones, .ref qS_strengths, .ref qS_pores, .ref qS_colours, .ref qS_pieces, .int (jI vS_size)])), aI kI qS_pieces 20 fS_pieces] (fun (z : Int) (u : Unit) => z = (-1003)) (fun (u : Unit) => [(qS, .inr (8, [.ref qS_stones, .ref qS_strengths, .ref qS_pores, .ref qS_colours, .ref qS_pieces, .int (jI vS_size)])), aI kI qS_pieces 20 fS_pieces]) := by
  refine xMi_of (cc := cX8_takePiece) (maxL := 2) (rt := .int) (by decide) rfl (Nat.le_of_ble_eq_true rfl) (fun _ _ _ => rfl) ?_
  intro p e s m args below meth c A Q F hin2 hret
  have hin8 : ∀ w ∈ wsX80, w ∈ wsX8_takePiece := by decide +kernel
  have hw0 : Cond.fieldLink RX8 24 (TX8 4).1 (TX8 4).2.1 (TX8 4).2.2.1 ∈ wsX8_takePiece := by decide +kernel
  have hw1 : Cond.initialized yX9_at.cls ∈ wsX8_takePiece := by decide +kernel
  have hw2 : Cond.static yX9_at ∈ wsX8_takePiece := by decide +kernel
  refine x_lveq (lv' := [(0, .ref qS), (1, .int (jI lot))]) rfl ?_
  refine x_aload_n F dX8_takePiece_0 rfl 0 rfl ?_
  refine x_get (ci := 8) F hin8 0 rfl rfl 4 (by decide) hw0 rfl dX8_takePiece_1 ?_
  refine x_iload_n F dX8_takePiece_4 rfl 1 rfl ?_
  refine x_callSNi (As := [.ref qS_pieces, .int (jI lot)]) (st := []) F (c_X9_at D kI kJ l qS_pieces lot 20 fS_pieces (by omega) (by omega)) ⟨va_cnB 2 F.2.2.2.2.1 gX8_takePiece_X9_at_n42 rfl rfl rfl (nM22 F.2.2.2.2.2.2.2) (F.2.2.2.2.1 _ hw1) (by decide +kernel) ⟨Nat.le_of_ble_eq_true rfl, Nat.le_of_ble_eq_true rfl⟩, F.2.2.2.2.1 _ hw2, trivial⟩ [1] [0] [0, 1] rfl rfl (by decide) (by decide) (by decide) (fun _ => rfl) (by decide) rfl (Nat.le_of_ble_eq_true rfl) dX8_takePiece_5 ⟨Nat.le_of_ble_eq_true rfl, Nat.le_of_ble_eq_true rfl⟩ (fun z5 u5 h5 => ?_)
  try dsimp only at h5
  refine x_ws [(qS, .inr (8, [.ref qS_stones, .ref qS_strengths, .ref qS_pores, .ref qS_colours, .ref qS_pieces, .int (jI vS_size)])), aI kI qS_pieces 20 fS_pieces] rfl ?_
  have he5 := h5
  have he5 := he5.symm
  subst he5
  refine x_iconst F dX8_takePiece_8 ?_
  refine x_icmp_ge (tgt := 16) F dX8_takePiece_9 (by decide) (by omega) (fun c9 => ?_) (fun c9 => ?_)
  · exact absurd c9 (by omega)
  · -- 9 f
    refine x_sipush F dX8_takePiece_12 (by decide) ?_
    exact hret 0 0 15 _ (-1003) () (Nat.le_of_ble_eq_true rfl) (Nat.le_of_ble_eq_true rfl) dX8_takePiece_15 (rfl)
