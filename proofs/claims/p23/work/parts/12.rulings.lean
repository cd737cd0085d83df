set_option maxHeartbeats 4000000 in
set_option maxRecDepth 100000 in
theorem c_X7_add_ok (D : va_G) (kI kJ : Nat) (l : Launch) (qP : Nat) (b : Int) (year : Int) (value : Int) (qP_blocks : Nat) (qP_years : Nat) (qP_values : Nat) (qP_since : Nat) (vP_size : Int) (fP_blocks : (Int → Int)) (fP_years : (Int → Int)) (fP_values : (Int → Int)) (hr_b : -2147483648 ≤ b ∧ b < 2147483648) (hr_year : -2147483648 ≤ year ∧ year < 2147483648) (hr_value : -2147483648 ≤ value ∧ value < 2147483648) (hsz : 0 ≤ vP_size ∧ vP_size < 60) : xMi D kI kJ l yX7_add wsX7_add 2 53 0 0 [.ref qP, .int (jI b), .int (jI year), .int (jI value)] [(qP, .inr (7, [.ref qP_blocks, .ref qP_years, .ref qP_values, .ref qP_since, .int (jI vP_size)])), aI kI qP_blocks 60 fP_blocks, aI kI qP_years 60 fP_years, aI kI qP_values 60 fP_values] (fun (z : Int) (u : Unit) => z = (vP_size + 1)) (fun (u : Unit) => [(qP, .inr (7, [.ref qP_blocks, .ref qP_years, .ref qP_values, .ref qP_since, .int (jI (vP_size + 1))])), aI kI qP_blocks 60 (iU fP_blocks vP_size b), aI kI qP_years 60 (iU fP_years vP_size year), aI kI qP_values 60 (iU fP_values vP_size value)]) := by
  refine xMi_of (cc := cX7_add) (maxL := 4) (rt := .int) (by decide) rfl (Nat.le_of_ble_eq_true rfl) (fun _ _ _ => rfl) ?_
  intro p e s m args below meth c A Q F hin2 hret
  have hin7 : ∀ w ∈ wsX70, w ∈ wsX7_add := by decide +kernel
  have hw0 : Cond.fieldLink RX7 24 (TX7 4).1 (TX7 4).2.1 (TX7 4).2.2.1 ∈ wsX7_add := by decide +kernel
  have hw1 : Cond.initialized yX9_isBelow.cls ∈ wsX7_add := by decide +kernel
  have hw2 : Cond.static yX9_isBelow ∈ wsX7_add := by decide +kernel
  have hw3 : Cond.fieldLink RX7 9 (TX7 0).1 (TX7 0).2.1 (TX7 0).2.2.1 ∈ wsX7_add := by decide +kernel
  have hw4 : Cond.fieldLink RX7 15 (TX7 1).1 (TX7 1).2.1 (TX7 1).2.2.1 ∈ wsX7_add := by decide +kernel
  have hw5 : Cond.fieldLink RX7 18 (TX7 2).1 (TX7 2).2.1 (TX7 2).2.2.1 ∈ wsX7_add := by decide +kernel
  refine x_lveq (lv' := [(0, .ref qP), (1, .int (jI b)), (2, .int (jI year)), (3, .int (jI value))]) rfl ?_
  refine x_aload_n F dX7_add_0 rfl 0 rfl ?_
  refine x_get (ci := 7) F hin7 0 rfl rfl 4 (by decide) hw0 rfl dX7_add_1 ?_
  refine x_bipush F dX7_add_4 (by decide) ?_
  refine x_callSNi (As := [.int (jI vP_size), .int (jI 60)]) (st := []) F (c_X9_isBelow D kI kJ l vP_size 60 (by omega) (by omega)) ⟨va_cnB 2 F.2.2.2.2.1 gX7_add_X9_isBelow_n28 rfl rfl rfl (nM13 F.2.2.2.2.2.2.2) (F.2.2.2.2.1 _ hw1) (by decide +kernel) ⟨Nat.le_of_ble_eq_true rfl, Nat.le_of_ble_eq_true rfl⟩, F.2.2.2.2.1 _ hw2, trivial⟩ [] [0, 1, 2, 3] [0, 1, 2, 3] rfl rfl (by decide) (by decide) (by decide) (fun _ => rfl) (by decide) rfl (Nat.le_of_ble_eq_true rfl) dX7_add_6 ⟨Nat.le_of_ble_eq_true rfl, Nat.le_of_ble_eq_true rfl⟩ (fun z6 u6 h6 => ?_)
  try dsimp only at h6
  refine x_ws [(qP, .inr (7, [.ref qP_blocks, .ref qP_years, .ref qP_values, .ref qP_since, .int (jI vP_size)])), aI kI qP_blocks 60 fP_blocks, aI kI qP_years 60 fP_years, aI kI qP_values 60 fP_values] rfl ?_
  have hb6 := h6
  refine x_bne (tgt := 16) F dX7_add_9 (by decide) hb6 (fun c9 => ?_) (fun c9 => ?_)
  · -- 9 t
    refine x_aload_n F dX7_add_16 rfl 0 rfl ?_
    refine x_get (ci := 7) F hin7 0 rfl rfl 0 (by decide) hw3 rfl dX7_add_17 ?_
    refine x_aload_n F dX7_add_20 rfl 0 rfl ?_
    refine x_get (ci := 7) F hin7 0 rfl rfl 4 (by decide) hw0 rfl dX7_add_21 ?_
    refine x_iload_n F dX7_add_24 rfl 1 rfl ?_
    refine x_iast F 1 rfl (by decide) (by omega) dX7_add_25 [(qP, .inr (7, [.ref qP_blocks, .ref qP_years, .ref qP_values, .ref qP_since, .int (jI vP_size)])), aI kI qP_blocks 60 (iU fP_blocks vP_size b), aI kI qP_years 60 fP_years, aI kI qP_values 60 fP_values] rfl ?_
    refine x_aload_n F dX7_add_26 rfl 0 rfl ?_
    refine x_get (ci := 7) F hin7 0 rfl rfl 1 (by decide) hw4 rfl dX7_add_27 ?_
    refine x_aload_n F dX7_add_30 rfl 0 rfl ?_
    refine x_get (ci := 7) F hin7 0 rfl rfl 4 (by decide) hw0 rfl dX7_add_31 ?_
    refine x_iload_n F dX7_add_34 rfl 2 rfl ?_
    refine x_iast F 2 rfl (by decide) (by omega) dX7_add_35 [(qP, .inr (7, [.ref qP_blocks, .ref qP_years, .ref qP_values, .ref qP_since, .int (jI vP_size)])), aI kI qP_blocks 60 (iU fP_blocks vP_size b), aI kI qP_years 60 (iU fP_years vP_size year), aI kI qP_values 60 fP_values] rfl ?_
    refine x_aload_n F dX7_add_36 rfl 0 rfl ?_
    refine x_get (ci := 7) F hin7 0 rfl rfl 2 (by decide) hw5 rfl dX7_add_37 ?_
    refine x_aload_n F dX7_add_40 rfl 0 rfl ?_
    refine x_get (ci := 7) F hin7 0 rfl rfl 4 (by decide) hw0 rfl dX7_add_41 ?_
    refine x_iload_n F dX7_add_44 rfl 3 rfl ?_
    refine x_iast F 3 rfl (by decide) (by omega) dX7_add_45 [(qP, .inr (7, [.ref qP_blocks, .ref qP_years, .ref qP_values, .ref qP_since, .int (jI vP_size)])), aI kI qP_blocks 60 (iU fP_blocks vP_size b), aI kI qP_years 60 (iU fP_years vP_size year), aI kI qP_values 60 (iU fP_values vP_size value)] rfl ?_
    refine x_aload_n F dX7_add_46 rfl 0 rfl ?_
    refine x_dup F dX7_add_47 rfl ?_
    refine x_get (ci := 7) F hin7 0 rfl rfl 4 (by decide) hw0 rfl dX7_add_48 ?_
    refine x_iconst F dX7_add_51 ?_
    refine x_iadd F dX7_add_52 ?_
    refine x_put (ci := 7) F hin7 tyX7_ok nmX7 0 rfl rfl 4 (by decide) hw0 rfl rfl rfl (show 4 + 1 ≤ _ from Nat.le_of_ble_eq_true rfl) dX7_add_53 [(qP, .inr (7, [.ref qP_blocks, .ref qP_years, .ref qP_values, .ref qP_since, .int (jI (vP_size + 1))])), aI kI qP_blocks 60 (iU fP_blocks vP_size b), aI kI qP_years 60 (iU fP_years vP_size year), aI kI qP_values 60 (iU fP_values vP_size value)] rfl ?_
    refine x_aload_n F dX7_add_56 rfl 0 rfl ?_
    refine x_get (ci := 7) F hin7 0 rfl rfl 4 (by decide) hw0 rfl dX7_add_57 ?_
    exact hret 0 0 60 _ (vP_size + 1) () (Nat.le_of_ble_eq_true rfl) (Nat.le_of_ble_eq_true rfl) dX7_add_60 (rfl)
  · exact absurd c9 (by omega)
set_option maxHeartbeats 4000000 in
set_option maxRecDepth 100000 in
theorem c_X7_add_full (D : va_G) (kI kJ : Nat) (l : Launch) (qP : Nat) (b : Int) (year : Int) (value : Int) (qP_blocks : Nat) (qP_years : Nat) (qP_values : Nat) (qP_since : Nat) (vP_size : Int) (fP_blocks : (Int → Int)) (fP_years : (Int → Int)) (fP_values : (Int → Int)) (hr_b : -2147483648 ≤ b ∧ b < 2147483648) (hr_year : -2147483648 ≤ year ∧ year < 2147483648) (hr_value : -2147483648 ≤ value ∧ value < 2147483648) (hsz : vP_size = 60) : xMi D kI kJ l yX7_add wsX7_add 2 53 0 0 [.ref qP, .int (jI b), .int (jI year), .int (jI value)] [(qP, .inr (7, [.ref qP_blocks, .ref qP_years, .ref qP_values, .ref qP_since, .int (jI vP_size)])), aI kI qP_blocks 60 fP_blocks, aI kI qP_years 60 fP_years, aI kI qP_values 60 fP_values] (fun (z : Int) (u : Unit) => z = (-1004)) (fun (u : Unit) => [(qP, .inr (7, [.ref qP_blocks, .ref qP_years, .ref qP_values, .ref qP_since, .int (jI vP_size)])), aI kI qP_blocks 60 fP_blocks, aI kI qP_years 60 fP_years, aI kI qP_values 60 fP_values]) := by
  refine xMi_of (cc := cX7_add) (maxL := 4) (rt := .int) (by decide) rfl (Nat.le_of_ble_eq_true rfl) (fun _ _ _ => rfl) ?_
  intro p e s m args below meth c A Q F hin2 hret
  have hin7 : ∀ w ∈ wsX70, w ∈ wsX7_add := by decide +kernel
  have hw0 : Cond.fieldLink RX7 24 (TX7 4).1 (TX7 4).2.1 (TX7 4).2.2.1 ∈ wsX7_add := by decide +kernel
  have hw1 : Cond.initialized yX9_isBelow.cls ∈ wsX7_add := by decide +kernel
  have hw2 : Cond.static yX9_isBelow ∈ wsX7_add := by decide +kernel
  refine x_lveq (lv' := [(0, .ref qP), (1, .int (jI b)), (2, .int (jI year)), (3, .int (jI value))]) rfl ?_
  refine x_aload_n F dX7_add_0 rfl 0 rfl ?_
  refine x_get (ci := 7) F hin7 0 rfl rfl 4 (by decide) hw0 rfl dX7_add_1 ?_
  refine x_bipush F dX7_add_4 (by decide) ?_
  refine x_callSNi (As := [.int (jI vP_size), .int (jI 60)]) (st := []) F (c_X9_isBelow D kI kJ l vP_size 60 (by omega) (by omega)) ⟨va_cnB 2 F.2.2.2.2.1 gX7_add_X9_isBelow_n28 rfl rfl rfl (nM13 F.2.2.2.2.2.2.2) (F.2.2.2.2.1 _ hw1) (by decide +kernel) ⟨Nat.le_of_ble_eq_true rfl, Nat.le_of_ble_eq_true rfl⟩, F.2.2.2.2.1 _ hw2, trivial⟩ [] [0, 1, 2, 3] [0, 1, 2, 3] rfl rfl (by decide) (by decide) (by decide) (fun _ => rfl) (by decide) rfl (Nat.le_of_ble_eq_true rfl) dX7_add_6 ⟨Nat.le_of_ble_eq_true rfl, Nat.le_of_ble_eq_true rfl⟩ (fun z6 u6 h6 => ?_)
  try dsimp only at h6
  refine x_ws [(qP, .inr (7, [.ref qP_blocks, .ref qP_years, .ref qP_values, .ref qP_since, .int (jI vP_size)])), aI kI qP_blocks 60 fP_blocks, aI kI qP_years 60 fP_years, aI kI qP_values 60 fP_values] rfl ?_
  have hb6 := h6
  refine x_bne (tgt := 16) F dX7_add_9 (by decide) hb6 (fun c9 => ?_) (fun c9 => ?_)
  · exact absurd c9 (by omega)
  · -- 9 f
    refine x_sipush F dX7_add_12 (by decide) ?_
    exact hret 0 0 15 _ (-1004) () (Nat.le_of_ble_eq_true rfl) (Nat.le_of_ble_eq_true rfl) dX7_add_15 (rfl)
set_option maxHeartbeats 4000000 in
set_option maxRecDepth 100000 in
theorem c_X7_spreadFrom (D : va_G) (kI kJ : Nat) (l : Launch) (qP : Nat) (year : Int) (value : Int) (qi : Nat) (qP_blocks : Nat) (qP_years : Nat) (qP_values : Nat) (qP_since : Nat) (vP_size : Int) (fP_since : (Int → Int)) (fi : (Int → Int)) (hr_value : -2147483648 ≤ value ∧ value < 2147483648) (hy : 0 ≤ year ∧ year ≤ 400) (hgs : Rg fP_since 401 (-1) 400) : xMv D kI kJ l yX7_spreadFrom wsX7_spreadFrom 1 64 0 0 [.ref qP, .int (jI year), .int (jI value), .ref qi] [(qP, .inr (7, [.ref qP_blocks, .ref qP_years, .ref qP_values, .ref qP_since, .int (jI vP_size)])), aI kI qP_since 401 fP_since, aI kI qi 401 fi] (fun (u : (Int → Int) × (Int → Int)) => (∀ k : Int, 0 ≤ k → k < 401 → u.1 k = if year ≤ k ∧ fP_since k ≤ year then year else fP_since k) ∧ (∀ k : Int, 0 ≤ k → k < 401 → u.2 k = if year ≤ k ∧ fP_since k ≤ year then value else fi k) ∧ (Rg u.1 401 (-1) 400)) (fun (u : (Int → Int) × (Int → Int)) => [(qP, .inr (7, [.ref qP_blocks, .ref qP_years, .ref qP_values, .ref qP_since, .int (jI vP_size)])), aI kI qP_since 401 u.1, aI kI qi 401 u.2]) := by
  refine xMv_of (cc := cX7_spreadFrom) (maxL := 5) (by decide) rfl (Nat.le_of_ble_eq_true rfl) ?_
  intro p e s m args below meth c A Q F hin2 hret
  have hin7 : ∀ w ∈ wsX70, w ∈ wsX7_spreadFrom := by decide +kernel
  have hw0 : Cond.methodLink RX7 42 Lib.Math.max.name ∈ wsX7_spreadFrom := by decide +kernel
  have hw1 : Cond.static Lib.Math.max.name ∈ wsX7_spreadFrom := by decide +kernel
  have hw2 : Cond.initialized "java/lang/Math" ∈ wsX7_spreadFrom := by decide +kernel
  have hw3 : Cond.code Lib.Math.max.name Lib.Math.max.code 2 (some .int) ∈ wsX7_spreadFrom := by decide +kernel
  have hw4 : Cond.fieldLink RX7 21 (TX7 3).1 (TX7 3).2.1 (TX7 3).2.2.1 ∈ wsX7_spreadFrom := by decide +kernel
  refine x_lveq (lv' := [(0, .ref qP), (1, .int (jI year)), (2, .int (jI value)), (3, .ref qi)]) rfl ?_
  refine x_iload_n F dX7_spreadFrom_0 rfl 1 rfl ?_
  refine x_iconst F dX7_spreadFrom_1 ?_
  refine x_max F hw0 hw1 hw2 hw3 (Nat.le_of_ble_eq_true rfl) (Nat.le_of_ble_eq_true rfl) (Nat.le_of_ble_eq_true rfl) (Nat.le_of_ble_eq_true rfl) (by omega) dX7_spreadFrom_2 ?_
  refine x_istore (lv' := [(0, .ref qP), (1, .int (jI year)), (2, .int (jI value)), (3, .ref qi), (4, .int (jI (max year 0)))]) F dX7_spreadFrom_5 (by decide) [1, 2, 3, 4, 0] rfl ?_
  have lp7 : ∀ (fu : Nat) (y : Int) (gs : (Int → Int)) (gi : (Int → Int)) (hyy : year ≤ y ∧ y ≤ 401) (hgg : Rg gs 401 (-1) 400) (hs : ∀ k : Int, 0 ≤ k → k < 401 → gs k = if (year ≤ k ∧ k < y) ∧ fP_since k ≤ year then year else fP_since k) (hv : ∀ k : Int, 0 ≤ k → k < 401 → gi k = if (year ≤ k ∧ k < y) ∧ fP_since k ≤ year then value else fi k) (hm : 401 - y < (fu : Int)), xG D p l e (xRm 1 64 0 0) s m args below meth c 5 A Q 0 0 [(qP, .inr (7, [.ref qP_blocks, .ref qP_years, .ref qP_values, .ref qP_since, .int (jI vP_size)])), aI kI qP_since 401 gs, aI kI qi 401 gi] [(0, .ref qP), (1, .int (jI year)), (2, .int (jI value)), (3, .ref qi), (4, .int (jI y))] 7 [] := by
    intro fu
    induction fu with
    | zero =>
      intro y gs gi hyy hgg hs hv hm
      exact absurd hm (by omega)
    | succ fu ih7 =>
      intro y gs gi hyy hgg hs hv hm
      refine x_iload F dX7_spreadFrom_7 4 rfl ?_
      refine x_sipush F dX7_spreadFrom_9 (by decide) ?_
      refine x_icmp_ge (tgt := 52) F dX7_spreadFrom_12 (by decide) (by omega) (fun c12 => ?_) (fun c12 => ?_)
      · -- 12 t
        exact hret 0 0 52 _ (gs, gi) (Nat.le_of_ble_eq_true rfl) (Nat.le_of_ble_eq_true rfl) dX7_spreadFrom_52 (by (try dsimp only); exact (⟨fun k h1 h2 => by rw [hs k h1 h2]; (repeat' split) <;> omega, fun k h1 h2 => by rw [hv k h1 h2]; (repeat' split) <;> omega, hgg⟩))
      · -- 12 f
        refine x_iload F dX7_spreadFrom_15 4 rfl ?_
        refine x_aload_n F dX7_spreadFrom_17 rfl 3 rfl ?_
        refine x_alen F 2 401 rfl (by decide) dX7_spreadFrom_18 ?_
        refine x_icmp_ge (tgt := 52) F dX7_spreadFrom_19 (by decide) (by omega) (fun c19 => ?_) (fun c19 => ?_)
        · exact absurd c19 (by omega)
        · -- 19 f
          refine x_aload_n F dX7_spreadFrom_22 rfl 0 rfl ?_
          refine x_get (ci := 7) F hin7 0 rfl rfl 3 (by decide) hw4 rfl dX7_spreadFrom_23 ?_
          refine x_iload F dX7_spreadFrom_26 4 rfl ?_
          refine x_iald F 1 rfl (by decide) (by omega) dX7_spreadFrom_28 ?_
          have hr28 := Rg.at hgg y (by omega)
          refine x_iload_n F dX7_spreadFrom_29 rfl 1 rfl ?_
          refine x_icmp_gt (tgt := 46) F dX7_spreadFrom_30 (by decide) (by omega) (fun c30 => ?_) (fun c30 => ?_)
          · -- 30 t
            refine x_iinc (lv' := [(0, .ref qP), (1, .int (jI year)), (2, .int (jI value)), (3, .ref qi), (4, .int (jI (y + 1)))]) (k := 4) F dX7_spreadFrom_46 rfl (by decide) [1, 2, 3, 4, 0] rfl ?_
            refine x_goto (tgt := 7) F dX7_spreadFrom_49 (by decide) ?_
            exact ih7 (y + 1) gs gi (by omega) hgg (by intro k h1 h2; have e1 := hs k h1 h2; have e2 := hs y (by omega) (by omega); (try unfold iU); by_cases e : k = y <;> (try subst e) <;> (repeat' split at *) <;> omega) (by intro k h1 h2; have e1 := hv k h1 h2; have e2 := hs y (by omega) (by omega); have e3 := hs k h1 h2; (try unfold iU); by_cases e : k = y <;> (try subst e) <;> (repeat' split at *) <;> omega) (by omega)
          · -- 30 f
            refine x_aload_n F dX7_spreadFrom_33 rfl 0 rfl ?_
            refine x_get (ci := 7) F hin7 0 rfl rfl 3 (by decide) hw4 rfl dX7_spreadFrom_34 ?_
            refine x_iload F dX7_spreadFrom_37 4 rfl ?_
            refine x_iload_n F dX7_spreadFrom_39 rfl 1 rfl ?_
            refine x_iast F 1 rfl (by decide) (by omega) dX7_spreadFrom_40 [(qP, .inr (7, [.ref qP_blocks, .ref qP_years, .ref qP_values, .ref qP_since, .int (jI vP_size)])), aI kI qP_since 401 (iU gs y year), aI kI qi 401 gi] rfl ?_
            have hg40 := Rg.up hgg y year (by omega)
            refine x_aload_n F dX7_spreadFrom_41 rfl 3 rfl ?_
            refine x_iload F dX7_spreadFrom_42 4 rfl ?_
            refine x_iload_n F dX7_spreadFrom_44 rfl 2 rfl ?_
            refine x_iast F 2 rfl (by decide) (by omega) dX7_spreadFrom_45 [(qP, .inr (7, [.ref qP_blocks, .ref qP_years, .ref qP_values, .ref qP_since, .int (jI vP_size)])), aI kI qP_since 401 (iU gs y year), aI kI qi 401 (iU gi y value)] rfl ?_
            refine x_iinc (lv' := [(0, .ref qP), (1, .int (jI year)), (2, .int (jI value)), (3, .ref qi), (4, .int (jI (y + 1)))]) (k := 4) F dX7_spreadFrom_46 rfl (by decide) [1, 2, 3, 4, 0] rfl ?_
            refine x_goto (tgt := 7) F dX7_spreadFrom_49 (by decide) ?_
            exact ih7 (y + 1) (iU gs y year) (iU gi y value) (by omega) hg40 (by intro k h1 h2; have e1 := hs k h1 h2; have e2 := hs y (by omega) (by omega); (try unfold iU); by_cases e : k = y <;> (try subst e) <;> (repeat' split at *) <;> omega) (by intro k h1 h2; have e1 := hv k h1 h2; have e2 := hs y (by omega) (by omega); have e3 := hs k h1 h2; (try unfold iU); by_cases e : k = y <;> (try subst e) <;> (repeat' split at *) <;> omega) (by omega)
  exact lp7 (Int.toNat (401 - (max year 0)) + 1) (max year 0) fP_since fi (by omega) hgs (fun k h1 h2 => by rw [if_neg (by omega)]) (fun k h1 h2 => by rw [if_neg (by omega)]) (by omega)
set_option maxHeartbeats 4000000 in
set_option maxRecDepth 100000 in
theorem c_X7_spread (D : va_G) (kI kJ : Nat) (l : Launch) (qP : Nat) (b : Int) (qi : Nat) (qP_blocks : Nat) (qP_years : Nat) (qP_values : Nat) (qP_since : Nat) (vP_size : Int) (fP_blocks : (Int → Int)) (fP_years : (Int → Int)) (fP_values : (Int → Int)) (fP_since : (Int → Int)) (fi : (Int → Int)) (hr_b : -2147483648 ≤ b ∧ b < 2147483648) (hPs : 0 ≤ vP_size ∧ vP_size ≤ 60) (hPb : Rg fP_blocks 60 0 29) (hPy : Rg fP_years 60 0 400) (hPv : Rg fP_values 60 0 127) : xMv D kI kJ l yX7_spread wsX7_spread 2 88 0 0 [.ref qP, .int (jI b), .ref qi] [(qP, .inr (7, [.ref qP_blocks, .ref qP_years, .ref qP_values, .ref qP_since, .int (jI vP_size)])), aI kI qP_blocks 60 fP_blocks, aI kI qP_years 60 fP_years, aI kI qP_values 60 fP_values, aI kI qP_since 401 fP_since, aI kI qi 401 fi] (fun (u : (Int → Int) × (Int → Int)) => (∀ k : Int, 0 ≤ k → k < 401 → u.2 k = rV fP_blocks fP_years fP_values b k vP_size)) (fun (u : (Int → Int) × (Int → Int)) => [(qP, .inr (7, [.ref qP_blocks, .ref qP_years, .ref qP_values, .ref qP_since, .int (jI vP_size)])), aI kI qP_blocks 60 fP_blocks, aI kI qP_years 60 fP_years, aI kI qP_values 60 fP_values, aI kI qP_since 401 u.1, aI kI qi 401 u.2]) := by
  refine xMv_of (cc := cX7_spread) (maxL := 4) (by decide) rfl (Nat.le_of_ble_eq_true rfl) ?_
  intro p e s m args below meth c A Q F hin2 hret
  have hin7 : ∀ w ∈ wsX70, w ∈ wsX7_spread := by decide +kernel
  have hw0 : Cond.fieldLink RX7 21 (TX7 3).1 (TX7 3).2.1 (TX7 3).2.2.1 ∈ wsX7_spread := by decide +kernel
  have hw1 : Cond.fieldLink RX7 24 (TX7 4).1 (TX7 4).2.1 (TX7 4).2.2.1 ∈ wsX7_spread := by decide +kernel
  have hw2 : Cond.fieldLink RX7 9 (TX7 0).1 (TX7 0).2.1 (TX7 0).2.2.1 ∈ wsX7_spread := by decide +kernel
  have hw3 : Cond.fieldLink RX7 15 (TX7 1).1 (TX7 1).2.1 (TX7 1).2.2.1 ∈ wsX7_spread := by decide +kernel
  have hw4 : Cond.fieldLink RX7 18 (TX7 2).1 (TX7 2).2.1 (TX7 2).2.2.1 ∈ wsX7_spread := by decide +kernel
  refine x_lveq (lv' := [(0, .ref qP), (1, .int (jI b)), (2, .ref qi)]) rfl ?_
  refine x_aload_n F dX7_spread_0 rfl 2 rfl ?_
  refine x_iconst F dX7_spread_1 ?_
  refine x_callSv (As := [.ref qi, .int (jI 0)]) (st := []) F (c_J7_fill_53178 D kI kJ l qi 0 401 fi (by omega)) (va_cwS 2 F.2.2.2.2.1 gX7_spread_J7_fill_53178 rfl rfl rfl (by decide +kernel) ⟨Nat.le_of_ble_eq_true rfl, Nat.le_of_ble_eq_true rfl⟩) [5] [0, 1, 2, 3, 4] [0, 1, 2, 3, 4, 5] rfl rfl (by decide) (by decide) (by decide) (fun _ => rfl) (by decide) rfl (Nat.le_of_ble_eq_true rfl) dX7_spread_2 ⟨Nat.le_of_ble_eq_true rfl, Nat.le_of_ble_eq_true rfl⟩ (fun u2 h2 => ?_)
  obtain ⟨f2_2, rfl⟩ : ∃ z, z = u2 := ⟨_, rfl⟩
  try dsimp only at h2
  refine x_ws [(qP, .inr (7, [.ref qP_blocks, .ref qP_years, .ref qP_values, .ref qP_since, .int (jI vP_size)])), aI kI qP_blocks 60 fP_blocks, aI kI qP_years 60 fP_years, aI kI qP_values 60 fP_values, aI kI qP_since 401 fP_since, aI kI qi 401 f2_2] rfl ?_
  have hf_2 := h2
  refine x_aload_n F dX7_spread_5 rfl 0 rfl ?_
  refine x_get (ci := 7) F hin7 0 rfl rfl 3 (by decide) hw0 rfl dX7_spread_6 ?_
  refine x_iconst F dX7_spread_9 ?_
  refine x_callSv (As := [.ref qP_since, .int (jI (-1))]) (st := []) F (c_J7_fill_53178 D kI kJ l qP_since (-1) 401 fP_since (by omega)) (va_cwS 2 F.2.2.2.2.1 gX7_spread_J7_fill_53178 rfl rfl rfl (by decide +kernel) ⟨Nat.le_of_ble_eq_true rfl, Nat.le_of_ble_eq_true rfl⟩) [4] [0, 1, 2, 3, 5] [0, 1, 2, 3, 5, 4] rfl rfl (by decide) (by decide) (by decide) (fun _ => rfl) (by decide) rfl (Nat.le_of_ble_eq_true rfl) dX7_spread_10 ⟨Nat.le_of_ble_eq_true rfl, Nat.le_of_ble_eq_true rfl⟩ (fun u10 h10 => ?_)
  obtain ⟨f2_10, rfl⟩ : ∃ z, z = u10 := ⟨_, rfl⟩
  try dsimp only at h10
  refine x_ws [(qP, .inr (7, [.ref qP_blocks, .ref qP_years, .ref qP_values, .ref qP_since, .int (jI vP_size)])), aI kI qP_blocks 60 fP_blocks, aI kI qP_years 60 fP_years, aI kI qP_values 60 fP_values, aI kI qP_since 401 f2_10, aI kI qi 401 f2_2] rfl ?_
  have hf_10 := h10
  refine x_iconst F dX7_spread_13 ?_
  refine x_istore_n (lv' := [(0, .ref qP), (1, .int (jI b)), (2, .ref qi), (3, .int (jI 0))]) F dX7_spread_14 rfl (by decide) [1, 2, 3, 0] rfl ?_
  have lp15 : ∀ (fu : Nat) (i : Int) (gs : (Int → Int)) (gi : (Int → Int)) (hi : 0 ≤ i ∧ i ≤ vP_size) (hgg : Rg gs 401 (-1) 400) (hs : ∀ k : Int, 0 ≤ k → k < 401 → gs k = rS fP_blocks fP_years b k i) (hv : ∀ k : Int, 0 ≤ k → k < 401 → gi k = rV fP_blocks fP_years fP_values b k i) (hm : vP_size - i < (fu : Int)), xG D p l e (xRm 2 88 0 0) s m args below meth c 4 A Q 0 0 [(qP, .inr (7, [.ref qP_blocks, .ref qP_years, .ref qP_values, .ref qP_since, .int (jI vP_size)])), aI kI qP_blocks 60 fP_blocks, aI kI qP_years 60 fP_years, aI kI qP_values 60 fP_values, aI kI qP_since 401 gs, aI kI qi 401 gi] [(0, .ref qP), (1, .int (jI b)), (2, .ref qi), (3, .int (jI i))] 15 [] := by
    intro fu
    induction fu with
    | zero =>
      intro i gs gi hi hgg hs hv hm
      exact absurd hm (by omega)
    | succ fu ih15 =>
      intro i gs gi hi hgg hs hv hm
      refine x_iload_n F dX7_spread_15 rfl 3 rfl ?_
      refine x_aload_n F dX7_spread_16 rfl 0 rfl ?_
      refine x_get (ci := 7) F hin7 0 rfl rfl 4 (by decide) hw1 rfl dX7_spread_17 ?_
      refine x_icmp_ge (tgt := 62) F dX7_spread_20 (by decide) (by omega) (fun c20 => ?_) (fun c20 => ?_)
      · -- 20 t
        exact hret 0 0 62 _ (gs, gi) (Nat.le_of_ble_eq_true rfl) (Nat.le_of_ble_eq_true rfl) dX7_spread_62 (by (try dsimp only); exact (fun k h1 h2 => by rw [hv k h1 h2, show i = vP_size by omega]))
      · -- 20 f
        refine x_iload_n F dX7_spread_23 rfl 3 rfl ?_
        refine x_bipush F dX7_spread_24 (by decide) ?_
        refine x_icmp_ge (tgt := 62) F dX7_spread_26 (by decide) (by omega) (fun c26 => ?_) (fun c26 => ?_)
        · exact absurd c26 (by omega)
        · -- 26 f
          refine x_aload_n F dX7_spread_29 rfl 0 rfl ?_
          refine x_get (ci := 7) F hin7 0 rfl rfl 0 (by decide) hw2 rfl dX7_spread_30 ?_
          refine x_iload_n F dX7_spread_33 rfl 3 rfl ?_
          refine x_iald F 1 rfl (by decide) (by omega) dX7_spread_34 ?_
          have hr34 := Rg.at hPb i (by omega)
          refine x_iload_n F dX7_spread_35 rfl 1 rfl ?_
          refine x_icmp_ne (tgt := 56) F dX7_spread_36 (by decide) (by omega) (fun c36 => ?_) (fun c36 => ?_)
          · -- 36 t
            refine x_iinc (lv' := [(0, .ref qP), (1, .int (jI b)), (2, .ref qi), (3, .int (jI (i + 1)))]) (k := 3) F dX7_spread_56 rfl (by decide) [1, 2, 3, 0] rfl ?_
            refine x_goto (tgt := 15) F dX7_spread_59 (by decide) ?_
            exact ih15 (i + 1) gs gi (by omega) hgg (by intro k h1 h2; have hy0 := Rg.at hPy i (by omega); rw [rS_step hi.1 hy0.1, ← hs k h1 h2]; first | (rw [hs_53 k h1 h2]; (repeat' split) <;> omega) | (rw [if_neg (by omega)])) (by intro k h1 h2; have hy0 := Rg.at hPy i (by omega); rw [rV_step hi.1 hy0.1, ← hs k h1 h2, ← hv k h1 h2]; first | (rw [hi_53 k h1 h2]; (repeat' split) <;> omega) | (rw [if_neg (by omega)])) (by omega)
          · -- 36 f
            refine x_aload_n F dX7_spread_39 rfl 0 rfl ?_
            refine x_aload_n F dX7_spread_40 rfl 0 rfl ?_
            refine x_get (ci := 7) F hin7 0 rfl rfl 1 (by decide) hw3 rfl dX7_spread_41 ?_
            refine x_iload_n F dX7_spread_44 rfl 3 rfl ?_
            refine x_iald F 2 rfl (by decide) (by omega) dX7_spread_45 ?_
            have hr45 := Rg.at hPy i (by omega)
            refine x_aload_n F dX7_spread_46 rfl 0 rfl ?_
            refine x_get (ci := 7) F hin7 0 rfl rfl 2 (by decide) hw4 rfl dX7_spread_47 ?_
            refine x_iload_n F dX7_spread_50 rfl 3 rfl ?_
            refine x_iald F 3 rfl (by decide) (by omega) dX7_spread_51 ?_
            have hr51 := Rg.at hPv i (by omega)
            refine x_aload_n F dX7_spread_52 rfl 2 rfl ?_
            refine x_callVv (ci := 7) (q0 := 0) (As := [.int (jI (fP_years i)), .int (jI (fP_values i)), .ref qi]) (st := []) F (c_X7_spreadFrom D kI kJ l qP (fP_years i) (fP_values i) qi qP_blocks qP_years qP_values qP_since vP_size gs gi (by omega) (by omega) hgg) (cwV 3 F.2.2.2.2.1 gX7_spread_X7_spreadFrom rfl rfl rfl (by decide +kernel) ⟨Nat.le_of_ble_eq_true rfl, Nat.le_of_ble_eq_true rfl⟩) rfl rfl [0, 4, 5] [1, 2, 3] [3, 0, 1, 2, 4, 5] rfl rfl (by decide) (by decide) (by decide) (fun _ => rfl) (by decide) rfl (Nat.le_of_ble_eq_true rfl) dX7_spread_53 ⟨Nat.le_of_ble_eq_true rfl, Nat.le_of_ble_eq_true rfl⟩ (fun u53 h53 => ?_)
            obtain ⟨s2_53, i2_53⟩ := u53
            try dsimp only at h53
            refine x_ws [(qP, .inr (7, [.ref qP_blocks, .ref qP_years, .ref qP_values, .ref qP_since, .int (jI vP_size)])), aI kI qP_blocks 60 fP_blocks, aI kI qP_years 60 fP_years, aI kI qP_values 60 fP_values, aI kI qP_since 401 s2_53, aI kI qi 401 i2_53] rfl ?_
            obtain ⟨hs_53, hi_53, hg_53⟩ := h53
            refine x_iinc (lv' := [(0, .ref qP), (1, .int (jI b)), (2, .ref qi), (3, .int (jI (i + 1)))]) (k := 3) F dX7_spread_56 rfl (by decide) [1, 2, 3, 0] rfl ?_
            refine x_goto (tgt := 15) F dX7_spread_59 (by decide) ?_
            exact ih15 (i + 1) s2_53 i2_53 (by omega) hg_53 (by intro k h1 h2; have hy0 := Rg.at hPy i (by omega); rw [rS_step hi.1 hy0.1, ← hs k h1 h2]; first | (rw [hs_53 k h1 h2]; (repeat' split) <;> omega) | (rw [if_neg (by omega)])) (by intro k h1 h2; have hy0 := Rg.at hPy i (by omega); rw [rV_step hi.1 hy0.1, ← hs k h1 h2, ← hv k h1 h2]; first | (rw [hi_53 k h1 h2]; (repeat' split) <;> omega) | (rw [if_neg (by omega)])) (by omega)
  exact lp15 (Int.toNat (vP_size - 0) + 1) 0 f2_10 f2_2 (by omega) (fun k h1 h2 => by rw [hf_10 k h1 h2]; omega) (fun k h1 h2 => by rw [hf_10 k h1 h2, rS_0]) (fun k h1 h2 => by rw [hf_2 k h1 h2, rV_0]) (by omega)
