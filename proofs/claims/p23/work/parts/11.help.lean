set_option maxHeartbeats 4000000 in
set_option maxRecDepth 100000 in
theorem c_J7_fill_53178 (D : va_G) (kI kJ : Nat) (l : Launch) (qa : Nat) (v : Int) (n : Nat) (f : (Int → Int)) (hn : n < 2147483648) : xMv D kI kJ l yJ7_fill_53178 wsJ7_fill_53178 1 32 0 0 [.ref qa, .int (jI v)] [aI kI qa n f] (fun (u : (Int → Int)) => (∀ k : Int, 0 ≤ k → k < (n : Int) → u k = v)) (fun (u : (Int → Int)) => [aI kI qa n u]) := by
  refine xMv_of (cc := cJ7_fill_53178) (maxL := 4) (by decide) rfl (Nat.le_of_ble_eq_true rfl) ?_
  intro p e s m args below meth c A Q F hin2 hret
  refine x_lveq (lv' := [(0, .ref qa), (1, .int (jI v))]) rfl ?_
  refine x_iconst F dJ7_fill_53178_0 ?_
  refine x_istore_n (lv' := [(0, .ref qa), (1, .int (jI v)), (2, .int (jI 0))]) F dJ7_fill_53178_1 rfl (by decide) [1, 2, 0] rfl ?_
  refine x_aload_n F dJ7_fill_53178_2 rfl 0 rfl ?_
  refine x_alen F 0 (n : Int) rfl (jI_nat n) dJ7_fill_53178_3 ?_
  refine x_istore_n (lv' := [(0, .ref qa), (1, .int (jI v)), (2, .int (jI 0)), (3, .int (jI (n : Int)))]) F dJ7_fill_53178_4 rfl (by decide) [1, 2, 3, 0] rfl ?_
  have lp5 : ∀ (fu : Nat) (i : Int) (g : (Int → Int)) (hi : 0 ≤ i ∧ i ≤ (n : Int)) (hg : ∀ k : Int, 0 ≤ k → k < i → g k = v) (hm : (n : Int) - i < (fu : Int)), xG D p l e (xRm 1 32 0 0) s m args below meth c 4 A Q 0 0 [aI kI qa n g] [(0, .ref qa), (1, .int (jI v)), (2, .int (jI i)), (3, .int (jI (n : Int)))] 5 [] := by
    intro fu
    induction fu with
    | zero =>
      intro i g hi hg hm
      exact absurd hm (by omega)
    | succ fu ih5 =>
      intro i g hi hg hm
      refine x_iload_n F dJ7_fill_53178_5 rfl 2 rfl ?_
      refine x_iload_n F dJ7_fill_53178_6 rfl 3 rfl ?_
      refine x_icmp_ge (tgt := 20) F dJ7_fill_53178_7 (by decide) (by omega) (fun c7 => ?_) (fun c7 => ?_)
      · -- 7 t
        exact hret 0 0 20 _ g (Nat.le_of_ble_eq_true rfl) (Nat.le_of_ble_eq_true rfl) dJ7_fill_53178_20 (fun k h1 h2 => hg k h1 (by omega))
      · -- 7 f
        refine x_aload_n F dJ7_fill_53178_10 rfl 0 rfl ?_
        refine x_iload_n F dJ7_fill_53178_11 rfl 2 rfl ?_
        refine x_iload_n F dJ7_fill_53178_12 rfl 1 rfl ?_
        refine x_iast F 0 rfl hn (by omega) dJ7_fill_53178_13 [aI kI qa n (iU g i v)] rfl ?_
        refine x_iinc (lv' := [(0, .ref qa), (1, .int (jI v)), (2, .int (jI (i + 1))), (3, .int (jI (n : Int)))]) (k := 2) F dJ7_fill_53178_14 rfl (by decide) [1, 2, 0, 3] rfl ?_
        refine x_goto (tgt := 5) F dJ7_fill_53178_17 (by decide) ?_
        exact ih5 (i + 1) (iU g i v) (by omega) (row_set (P := fun _ x => x = v) hg rfl) (by omega)
  exact lp5 (Int.toNat ((n : Int) - 0) + 1) 0 f (by omega) (fun k h1 h2 => by omega) (by omega)
set_option maxHeartbeats 4000000 in
set_option maxRecDepth 100000 in
/-- isBelow -/
theorem c_X9_isBelow (D : va_G) (kI kJ : Nat) (l : Launch) (v : Int) (bound : Int) (hr_v : -2147483648 ≤ v ∧ v < 2147483648) (hr_bound : -2147483648 ≤ bound ∧ bound < 2147483648) : xMi D kI kJ l yX9_isBelow wsX9_isBelow 1 32 0 0 [.int (jI v), .int (jI bound)] [] (fun (z : Int) (u : Unit) => xBool z (0 ≤ v ∧ v < bound)) (fun (u : Unit) => []) := by
  refine xMi_of (cc := cX9_isBelow) (maxL := 2) (rt := .boolean) (by decide) rfl (Nat.le_of_ble_eq_true rfl) (fun z u hp => xBool_nar hp) ?_
  intro p e s m args below meth c A Q F hin2 hret
  refine x_lveq (lv' := [(0, .int (jI v)), (1, .int (jI bound))]) rfl ?_
  refine x_iload_n F dX9_isBelow_0 rfl 0 rfl ?_
  refine x_if_lt (tgt := 13) F dX9_isBelow_1 (by decide) (by omega) (fun c1 => ?_) (fun c1 => ?_)
  · -- 1 t
    refine x_iconst F dX9_isBelow_13 ?_
    exact hret 0 0 14 _ 0 () (Nat.le_of_ble_eq_true rfl) (Nat.le_of_ble_eq_true rfl) dX9_isBelow_14 (by first | exact xBool_t (by omega) | exact xBool_f (by omega))
  · -- 1 f
    refine x_iload_n F dX9_isBelow_4 rfl 0 rfl ?_
    refine x_iload_n F dX9_isBelow_5 rfl 1 rfl ?_
    refine x_icmp_ge (tgt := 13) F dX9_isBelow_6 (by decide) (by omega) (fun c6 => ?_) (fun c6 => ?_)
    · -- 6 t
      refine x_iconst F dX9_isBelow_13 ?_
      exact hret 0 0 14 _ 0 () (Nat.le_of_ble_eq_true rfl) (Nat.le_of_ble_eq_true rfl) dX9_isBelow_14 (by first | exact xBool_t (by omega) | exact xBool_f (by omega))
    · -- 6 f
      refine x_iconst F dX9_isBelow_9 ?_
      refine x_goto (tgt := 14) F dX9_isBelow_10 (by decide) ?_
      exact hret 0 0 14 _ 1 () (Nat.le_of_ble_eq_true rfl) (Nat.le_of_ble_eq_true rfl) dX9_isBelow_14 (by first | exact xBool_t (by omega) | exact xBool_f (by omega))
set_option maxHeartbeats 4000000 in
set_option maxRecDepth 100000 in
theorem c_X9_isSpot (D : va_G) (kI kJ : Nat) (l : Launch) (side : Int) (wet : Int) (hr_side : -2147483648 ≤ side ∧ side < 2147483648) (hr_wet : -2147483648 ≤ wet ∧ wet < 2147483648) : xMi D kI kJ l yX9_isSpot wsX9_isSpot 2 53 0 0 [.int (jI side), .int (jI wet)] [] (fun (z : Int) (u : Unit) => xBool z ((0 ≤ side ∧ side < 4) ∧ 0 ≤ wet ∧ wet < 4)) (fun (u : Unit) => []) := by
  refine xMi_of (cc := cX9_isSpot) (maxL := 2) (rt := .boolean) (by decide) rfl (Nat.le_of_ble_eq_true rfl) (fun z u hp => xBool_nar hp) ?_
  intro p e s m args below meth c A Q F hin2 hret
  refine x_lveq (lv' := [(0, .int (jI side)), (1, .int (jI wet))]) rfl ?_
  refine x_iload_n F dX9_isSpot_0 rfl 0 rfl ?_
  refine x_iconst F dX9_isSpot_1 ?_
  refine x_callSi (As := [.int (jI side), .int (jI 4)]) (st := []) F (c_X9_isBelow D kI kJ l side 4 (by omega) (by omega)) (va_cwS 2 F.2.2.2.2.1 gX9_isSpot_X9_isBelow rfl rfl rfl (by decide +kernel) ⟨Nat.le_of_ble_eq_true rfl, Nat.le_of_ble_eq_true rfl⟩) [] [] [] rfl rfl (by decide) (by decide) (by decide) (fun _ => rfl) (by decide) rfl (Nat.le_of_ble_eq_true rfl) dX9_isSpot_2 ⟨Nat.le_of_ble_eq_true rfl, Nat.le_of_ble_eq_true rfl⟩ (fun z2 u2 h2 => ?_)
  try dsimp only at h2
  refine x_ws [] rfl ?_
  have hb2 := h2
  refine x_beq (tgt := 20) F dX9_isSpot_5 (by decide) hb2 (fun c5 => ?_) (fun c5 => ?_)
  · -- 5 t
    refine x_iconst F dX9_isSpot_20 ?_
    exact hret 0 0 21 _ 0 () (Nat.le_of_ble_eq_true rfl) (Nat.le_of_ble_eq_true rfl) dX9_isSpot_21 (by first | exact xBool_t (by omega) | exact xBool_f (by omega))
  · -- 5 f
    refine x_iload_n F dX9_isSpot_8 rfl 1 rfl ?_
    refine x_iconst F dX9_isSpot_9 ?_
    refine x_callSi (As := [.int (jI wet), .int (jI 4)]) (st := []) F (c_X9_isBelow D kI kJ l wet 4 (by omega) (by omega)) (va_cwS 2 F.2.2.2.2.1 gX9_isSpot_X9_isBelow rfl rfl rfl (by decide +kernel) ⟨Nat.le_of_ble_eq_true rfl, Nat.le_of_ble_eq_true rfl⟩) [] [] [] rfl rfl (by decide) (by decide) (by decide) (fun _ => rfl) (by decide) rfl (Nat.le_of_ble_eq_true rfl) dX9_isSpot_10 ⟨Nat.le_of_ble_eq_true rfl, Nat.le_of_ble_eq_true rfl⟩ (fun z10 u10 h10 => ?_)
    try dsimp only at h10
    refine x_ws [] rfl ?_
    have hb10 := h10
    refine x_beq (tgt := 20) F dX9_isSpot_13 (by decide) hb10 (fun c13 => ?_) (fun c13 => ?_)
    · -- 13 t
      refine x_iconst F dX9_isSpot_20 ?_
      exact hret 0 0 21 _ 0 () (Nat.le_of_ble_eq_true rfl) (Nat.le_of_ble_eq_true rfl) dX9_isSpot_21 (by first | exact xBool_t (by omega) | exact xBool_f (by omega))
    · -- 13 f
      refine x_iconst F dX9_isSpot_16 ?_
      refine x_goto (tgt := 21) F dX9_isSpot_17 (by decide) ?_
      exact hret 0 0 21 _ 1 () (Nat.le_of_ble_eq_true rfl) (Nat.le_of_ble_eq_true rfl) dX9_isSpot_21 (by first | exact xBool_t (by omega) | exact xBool_f (by omega))
set_option maxHeartbeats 4000000 in
set_option maxRecDepth 100000 in
theorem c_X9_spot (D : va_G) (kI kJ : Nat) (l : Launch) (side : Int) (wet : Int) (hr_side : -2147483648 ≤ side ∧ side < 2147483648) (hr_wet : -2147483648 ≤ wet ∧ wet < 2147483648) : xMi D kI kJ l yX9_spot wsX9_spot 1 32 0 0 [.int (jI side), .int (jI wet)] [] (fun (z : Int) (u : Unit) => z = side * 4 + wet) (fun (u : Unit) => []) := by
  refine xMi_of (cc := cX9_spot) (maxL := 2) (rt := .int) (by decide) rfl (Nat.le_of_ble_eq_true rfl) (fun _ _ _ => rfl) ?_
  intro p e s m args below meth c A Q F hin2 hret
  refine x_lveq (lv' := [(0, .int (jI side)), (1, .int (jI wet))]) rfl ?_
  refine x_iload_n F dX9_spot_0 rfl 0 rfl ?_
  refine x_iconst F dX9_spot_1 ?_
  refine x_imul F dX9_spot_2 ?_
  refine x_iload_n F dX9_spot_3 rfl 1 rfl ?_
  refine x_iadd F dX9_spot_4 ?_
  exact hret 0 0 5 _ ((side * 4) + wet) () (Nat.le_of_ble_eq_true rfl) (Nat.le_of_ble_eq_true rfl) dX9_spot_5 (rfl)
set_option maxHeartbeats 4000000 in
set_option maxRecDepth 100000 in
theorem c_X9_at (D : va_G) (kI kJ : Nat) (l : Launch) (qr : Nat) (i : Int) (n : Nat) (f : (Int → Int)) (hi : 0 ≤ i ∧ i < (n : Int)) (hn : n < 2147483648) : xMi D kI kJ l yX9_at wsX9_at 1 32 0 0 [.ref qr, .int (jI i)] [aI kI qr n f] (fun (z : Int) (u : Unit) => z = f i) (fun (u : Unit) => [aI kI qr n f]) := by
  refine xMi_of (cc := cX9_at) (maxL := 2) (rt := .int) (by decide) rfl (Nat.le_of_ble_eq_true rfl) (fun _ _ _ => rfl) ?_
  intro p e s m args below meth c A Q F hin2 hret
  refine x_lveq (lv' := [(0, .ref qr), (1, .int (jI i))]) rfl ?_
  refine x_iload_n F dX9_at_0 rfl 1 rfl ?_
  refine x_if_lt (tgt := 16) F dX9_at_1 (by decide) (by omega) (fun c1 => ?_) (fun c1 => ?_)
  · exact absurd c1 (by omega)
  · -- 1 f
    refine x_iload_n F dX9_at_4 rfl 1 rfl ?_
    refine x_aload_n F dX9_at_5 rfl 0 rfl ?_
    refine x_alen F 0 (n : Int) rfl (jI_nat n) dX9_at_6 ?_
    refine x_icmp_ge (tgt := 16) F dX9_at_7 (by decide) (by omega) (fun c7 => ?_) (fun c7 => ?_)
    · exact absurd c7 (by omega)
    · -- 7 f
      refine x_aload_n F dX9_at_10 rfl 0 rfl ?_
      refine x_iload_n F dX9_at_11 rfl 1 rfl ?_
      refine x_iald F 0 rfl hn (by omega) dX9_at_12 ?_
      refine x_goto (tgt := 17) F dX9_at_13 (by decide) ?_
      exact hret 0 0 17 _ (f i) () (Nat.le_of_ble_eq_true rfl) (Nat.le_of_ble_eq_true rfl) dX9_at_17 (rfl)
