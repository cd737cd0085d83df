set_option maxHeartbeats 4000000 in
set_option maxRecDepth 100000 in
theorem c_X8_countPieces (D : va_G) (kI kJ : Nat) (l : Launch) (qS : Nat) (qS_stones : Nat) (qS_strengths : Nat) (qS_pores : Nat) (qS_colours : Nat) (qS_pieces : Nat) (vS_size : Int) (fS_pieces : (Int → Int)) (hSs : 0 ≤ vS_size ∧ vS_size ≤ 20) (hS5 : Rg fS_pieces 20 0 99) : xMi D kI kJ l yX8_countPieces wsX8_countPieces 1 32 0 0 [.ref qS] [(qS, .inr (8, [.ref qS_stones, .ref qS_strengths, .ref qS_pores, .ref qS_colours, .ref qS_pieces, .int (jI vS_size)])), aI kI qS_pieces 20 fS_pieces] (fun (z : Int) (u : Unit) => z = sm fS_pieces vS_size) (fun (u : Unit) => [(qS, .inr (8, [.ref qS_stones, .ref qS_strengths, .ref qS_pores, .ref qS_colours, .ref qS_pieces, .int (jI vS_size)])), aI kI qS_pieces 20 fS_pieces]) := by
  refine xMi_of (cc := cX8_countPieces) (maxL := 3) (rt := .int) (by decide) rfl (Nat.le_of_ble_eq_true rfl) (fun _ _ _ => rfl) ?_
  intro p e s m args below meth c A Q F hin2 hret
  have hin8 : ∀ w ∈ wsX80, w ∈ wsX8_countPieces := by decide +kernel
  have hw0 : Cond.fieldLink RX8 27 (TX8 5).1 (TX8 5).2.1 (TX8 5).2.2.1 ∈ wsX8_countPieces := by decide +kernel
  have hw1 : Cond.fieldLink RX8 24 (TX8 4).1 (TX8 4).2.1 (TX8 4).2.2.1 ∈ wsX8_countPieces := by decide +kernel
  refine x_lveq (lv' := [(0, .ref qS)]) rfl ?_
  refine x_iconst F dX8_countPieces_0 ?_
  refine x_istore_n (lv' := [(0, .ref qS), (1, .int (jI 0))]) F dX8_countPieces_1 rfl (by decide) [1, 0] rfl ?_
  refine x_iconst F dX8_countPieces_2 ?_
  refine x_istore_n (lv' := [(0, .ref qS), (1, .int (jI 0)), (2, .int (jI 0))]) F dX8_countPieces_3 rfl (by decide) [1, 2, 0] rfl ?_
  have lp4 : ∀ (fu : Nat) (i : Int) (all : Int) (hi : 0 ≤ i ∧ i ≤ vS_size) (hs : all = sm fS_pieces i) (hm : vS_size - i < (fu : Int)), xG D p l e (xRm 1 32 0 0) s m args below meth c 3 A Q 0 0 [(qS, .inr (8, [.ref qS_stones, .ref qS_strengths, .ref qS_pores, .ref qS_colours, .ref qS_pieces, .int (jI vS_size)])), aI kI qS_pieces 20 fS_pieces] [(0, .ref qS), (1, .int (jI all)), (2, .int (jI i))] 4 [] := by
    intro fu
    induction fu with
    | zero =>
      intro i all hi hs hm
      exact absurd hm (by omega)
    | succ fu ih4 =>
      intro i all hi hs hm
      refine x_iload_n F dX8_countPieces_4 rfl 2 rfl ?_
      refine x_aload_n F dX8_countPieces_5 rfl 0 rfl ?_
      refine x_get (ci := 8) F hin8 0 rfl rfl 5 (by decide) hw0 rfl dX8_countPieces_6 ?_
      refine x_icmp_ge (tgt := 33) F dX8_countPieces_9 (by decide) (by omega) (fun c9 => ?_) (fun c9 => ?_)
      · -- 9 t
        refine x_iload_n F dX8_countPieces_33 rfl 1 rfl ?_
        exact hret 0 0 34 _ all () (Nat.le_of_ble_eq_true rfl) (Nat.le_of_ble_eq_true rfl) dX8_countPieces_34 (by rw [hs, show i = vS_size by omega])
      · -- 9 f
        refine x_iload_n F dX8_countPieces_12 rfl 2 rfl ?_
        refine x_bipush F dX8_countPieces_13 (by decide) ?_
        refine x_icmp_ge (tgt := 33) F dX8_countPieces_15 (by decide) (by omega) (fun c15 => ?_) (fun c15 => ?_)
        · exact absurd c15 (by omega)
        · -- 15 f
          refine x_iload_n F dX8_countPieces_18 rfl 1 rfl ?_
          refine x_aload_n F dX8_countPieces_19 rfl 0 rfl ?_
          refine x_get (ci := 8) F hin8 0 rfl rfl 4 (by decide) hw1 rfl dX8_countPieces_20 ?_
          refine x_iload_n F dX8_countPieces_23 rfl 2 rfl ?_
          refine x_iald F 1 rfl (by decide) (by omega) dX8_countPieces_24 ?_
          have hr24 := Rg.at hS5 i (by omega)
          refine x_iadd F dX8_countPieces_25 ?_
          refine x_istore_n (lv' := [(0, .ref qS), (1, .int (jI (all + (fS_pieces i)))), (2, .int (jI i))]) F dX8_countPieces_26 rfl (by decide) [1, 0, 2] rfl ?_
          refine x_iinc (lv' := [(0, .ref qS), (1, .int (jI (all + (fS_pieces i)))), (2, .int (jI (i + 1)))]) (k := 2) F dX8_countPieces_27 rfl (by decide) [1, 2, 0] rfl ?_
          refine x_goto (tgt := 4) F dX8_countPieces_30 (by decide) ?_
          exact ih4 (i + 1) (all + (fS_pieces i)) (by omega) (by rw [sm_s hi.1, hs]) (by omega)
  exact lp4 (Int.toNat (vS_size - 0) + 1) 0 0 (by omega) rfl (by omega)
