set_option maxHeartbeats 4000000 in
set_option maxRecDepth 100000 in
theorem c_J6_bitCount_0f7a4 (D : va_G) (kI kJ : Nat) (l : Launch) (x : Int) (n : Nat) (hx : x = (n : Int)) (hn : n < 2147483648) : xMi D kI kJ l yJ6_bitCount_0f7a4 wsJ6_bitCount_0f7a4 1 32 0 0 [.int (jI x)] [] (fun (z : Int) (u : Unit) => z = ((pS n % 64 : Nat) : Int)) (fun (u : Unit) => []) := by
  refine xMi_of (cc := cJ6_bitCount_0f7a4) (maxL := 1) (rt := .int) (by decide) rfl (Nat.le_of_ble_eq_true rfl) (fun _ _ _ => rfl) ?_
  intro p e s m args below meth c A Q F hin2 hret
  have hw0 : Cond.constant RJ6 265 1431655765 ∈ wsJ6_bitCount_0f7a4 := by decide +kernel
  have hw1 : Cond.constant RJ6 266 858993459 ∈ wsJ6_bitCount_0f7a4 := by decide +kernel
  have hw2 : Cond.constant RJ6 267 252645135 ∈ wsJ6_bitCount_0f7a4 := by decide +kernel
  refine x_lveq (lv' := [(0, .int (jI x))]) rfl ?_
  have hb := p_bd hn
  have hv : x - ((pA n : Nat) : Int) = ((pV n : Nat) : Int) := by rw [hx]; unfold pV; omega
  have hqw : ((pV n &&& 858993459 : Nat) : Int) + ((pV n / 4 &&& 858993459 : Nat) : Int) = ((pW n : Nat) : Int) := (Int.natCast_add _ _).symm
  have hqx : ((pW n : Nat) : Int) + ((pW n / 16 : Nat) : Int) = ((pW n + pW n / 16 : Nat) : Int) := (Int.natCast_add _ _).symm
  have ht : ((pU n : Nat) : Int) + ((pU n / 256 : Nat) : Int) = ((pT n : Nat) : Int) := (Int.natCast_add _ _).symm
  have hs : ((pT n : Nat) : Int) + ((pT n / 65536 : Nat) : Int) = ((pS n : Nat) : Int) := (Int.natCast_add _ _).symm
  have ht2 : pT n = pU n + pU n / 256 := rfl
  have hs2 : pS n = pT n + pT n / 65536 := rfl
  refine x_iload_n F dJ6_bitCount_0f7a4_0 rfl 0 rfl ?_
  refine x_iload_n F dJ6_bitCount_0f7a4_1 rfl 0 rfl ?_
  refine x_iconst F dJ6_bitCount_0f7a4_2 ?_
  refine x_iushr F ((n / 2 : Nat) : Int) dJ6_bitCount_0f7a4_3 (by rw [hx]; exact sh_u2 (by omega) (k := 1) (by omega)) ?_
  refine x_ldcw F 1431655765 hw0 (by decide) dJ6_bitCount_0f7a4_4 ?_
  refine x_iand F ((pA n : Nat) : Int) dJ6_bitCount_0f7a4_7 (an_N (a := n / 2) (b := 1431655765) (by omega) (by omega)) ?_
  refine x_isub F dJ6_bitCount_0f7a4_8 ?_
  refine x_istore_n (lv' := [(0, .int (jI (x - ((pA n : Nat) : Int))))]) F dJ6_bitCount_0f7a4_9 rfl (by decide) [0] rfl ?_
  refine x_iload_n F dJ6_bitCount_0f7a4_10 rfl 0 rfl ?_
  refine x_ldcw F 858993459 hw1 (by decide) dJ6_bitCount_0f7a4_11 ?_
  refine x_iand F ((pV n &&& 858993459 : Nat) : Int) dJ6_bitCount_0f7a4_14 (by rw [hv]; exact an_N (b := 858993459) (by omega) (by omega)) ?_
  refine x_iload_n F dJ6_bitCount_0f7a4_15 rfl 0 rfl ?_
  refine x_iconst F dJ6_bitCount_0f7a4_16 ?_
  refine x_iushr F ((pV n / 4 : Nat) : Int) dJ6_bitCount_0f7a4_17 (by rw [hv]; exact sh_u2 (by omega) (k := 2) (by omega)) ?_
  refine x_ldcw F 858993459 hw1 (by decide) dJ6_bitCount_0f7a4_18 ?_
  refine x_iand F ((pV n / 4 &&& 858993459 : Nat) : Int) dJ6_bitCount_0f7a4_21 (an_N (a := pV n / 4) (b := 858993459) (by omega) (by omega)) ?_
  refine x_iadd F dJ6_bitCount_0f7a4_22 ?_
  refine x_istore_n (lv' := [(0, .int (jI (((pV n &&& 858993459 : Nat) : Int) + ((pV n / 4 &&& 858993459 : Nat) : Int))))]) F dJ6_bitCount_0f7a4_23 rfl (by decide) [0] rfl ?_
  refine x_iload_n F dJ6_bitCount_0f7a4_24 rfl 0 rfl ?_
  refine x_iload_n F dJ6_bitCount_0f7a4_25 rfl 0 rfl ?_
  refine x_iconst F dJ6_bitCount_0f7a4_26 ?_
  refine x_iushr F ((pW n / 16 : Nat) : Int) dJ6_bitCount_0f7a4_27 (by rw [hqw]; exact sh_u2 (by omega) (k := 4) (by omega)) ?_
  refine x_iadd F dJ6_bitCount_0f7a4_28 ?_
  refine x_ldcw F 252645135 hw2 (by decide) dJ6_bitCount_0f7a4_29 ?_
  refine x_iand F ((pU n : Nat) : Int) dJ6_bitCount_0f7a4_32 (by rw [hqw, hqx]; exact an_N (b := 252645135) (by omega) (by omega)) ?_
  refine x_istore_n (lv' := [(0, .int (jI ((pU n : Nat) : Int)))]) F dJ6_bitCount_0f7a4_33 rfl (by decide) [0] rfl ?_
  refine x_iload_n F dJ6_bitCount_0f7a4_34 rfl 0 rfl ?_
  refine x_iload_n F dJ6_bitCount_0f7a4_35 rfl 0 rfl ?_
  refine x_bipush F dJ6_bitCount_0f7a4_36 (by decide) ?_
  refine x_iushr F ((pU n / 256 : Nat) : Int) dJ6_bitCount_0f7a4_38 (sh_u2 (a := pU n) (by omega) (k := 8) (by omega)) ?_
  refine x_iadd F dJ6_bitCount_0f7a4_39 ?_
  refine x_istore_n (lv' := [(0, .int (jI (((pU n : Nat) : Int) + ((pU n / 256 : Nat) : Int))))]) F dJ6_bitCount_0f7a4_40 rfl (by decide) [0] rfl ?_
  refine x_iload_n F dJ6_bitCount_0f7a4_41 rfl 0 rfl ?_
  refine x_iload_n F dJ6_bitCount_0f7a4_42 rfl 0 rfl ?_
  refine x_bipush F dJ6_bitCount_0f7a4_43 (by decide) ?_
  refine x_iushr F ((pT n / 65536 : Nat) : Int) dJ6_bitCount_0f7a4_45 (by rw [ht]; exact sh_u2 (by omega) (k := 16) (by omega)) ?_
  refine x_iadd F dJ6_bitCount_0f7a4_46 ?_
  refine x_istore_n (lv' := [(0, .int (jI ((((pU n : Nat) : Int) + ((pU n / 256 : Nat) : Int)) + ((pT n / 65536 : Nat) : Int))))]) F dJ6_bitCount_0f7a4_47 rfl (by decide) [0] rfl ?_
  refine x_iload_n F dJ6_bitCount_0f7a4_48 rfl 0 rfl ?_
  refine x_bipush F dJ6_bitCount_0f7a4_49 (by decide) ?_
  refine x_iand F ((pS n % 64 : Nat) : Int) dJ6_bitCount_0f7a4_51 (by rw [ht, hs]; exact an_63 (by omega)) ?_
  exact hret 0 0 52 _ ((pS n % 64 : Nat) : Int) () (Nat.le_of_ble_eq_true rfl) (Nat.le_of_ble_eq_true rfl) dJ6_bitCount_0f7a4_52 (rfl)
