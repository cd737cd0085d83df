set_option maxHeartbeats 4000000 in
set_option maxRecDepth 100000 in
theorem c_X4_begin (D : va_G) (kI kJ : Nat) (l : Launch) (qN : Nat) (year : Int) (n : Int) (most : Int) (qN_blocks : Nat) (qN_costs : Nat) (qN_zones : Nat) (qN_neglects : Nat) (qN_chosen : Nat) (qN_best : Nat) (qN_spent : Nat) (qN_scaffolds : Nat) (vN_size : Int) (vN_start : Int) (vN_span : Int) (vN_coin : Int) (vN_least : Int) (fN_spent : (Int → Int)) (fN_scaffolds : (Int → Int)) (hr_year : -2147483648 ≤ year ∧ year < 2147483648) (hr_n : -2147483648 ≤ n ∧ n < 2147483648) (hr_most : -2147483648 ≤ most ∧ most < 2147483648) (hn4 : 1 ≤ n ∧ n ≤ 4) : xMv D kI kJ l yX4_begin wsX4_begin 2 64 0 0 [.ref qN, .int (jI year), .int (jI n), .int (jI most)] [(qN, .inr (4, [.ref qN_blocks, .ref qN_costs, .ref qN_zones, .ref qN_neglects, .ref qN_chosen, .ref qN_best, .ref qN_spent, .ref qN_scaffolds, .int (jI vN_size), .int (jI vN_start), .int (jI vN_span), .int (jI vN_coin), .int (jI vN_least)])), aI kI qN_spent 4 fN_spent, aI kI qN_scaffolds 32 fN_scaffolds] (fun (u : Int × (Int → Int) × (Int → Int)) => (u.1 = n) ∧ (∀ k : Int, 0 ≤ k → k < 4 → u.2.1 k = 0) ∧ (∀ k : Int, 0 ≤ k → k < 32 → u.2.2 k = 0)) (fun (u : Int × (Int → Int) × (Int → Int)) => [(qN, .inr (4, [.ref qN_blocks, .ref qN_costs, .ref qN_zones, .ref qN_neglects, .ref qN_chosen, .ref qN_best, .ref qN_spent, .ref qN_scaffolds, .int (jI 0), .int (jI year), .int (jI u.1), .int (jI most), .int (jI 1000000000)])), aI kI qN_spent 4 u.2.1, aI kI qN_scaffolds 32 u.2.2]) := by
  refine xMv_of (cc := cX4_begin) (maxL := 4) (by decide) rfl (Nat.le_of_ble_eq_true rfl) ?_
  intro p e s m args below meth c A Q F hin2 hret
  have hin4 : ∀ w ∈ wsX40, w ∈ wsX4_begin := by decide +kernel
  have hw0 : Cond.fieldLink RX4 36 (TX4 8).1 (TX4 8).2.1 (TX4 8).2.2.1 ∈ wsX4_begin := by decide +kernel
  have hw1 : Cond.fieldLink RX4 40 (TX4 9).1 (TX4 9).2.1 (TX4 9).2.2.1 ∈ wsX4_begin := by decide +kernel
  have hw2 : Cond.methodLink RX4 43 Lib.Math.min.name ∈ wsX4_begin := by decide +kernel
  have hw3 : Cond.static Lib.Math.min.name ∈ wsX4_begin := by decide +kernel
  have hw4 : Cond.initialized "java/lang/Math" ∈ wsX4_begin := by decide +kernel
  have hw5 : Cond.code Lib.Math.min.name Lib.Math.min.code 2 (some .int) ∈ wsX4_begin := by decide +kernel
  have hw6 : Cond.fieldLink RX4 49 (TX4 10).1 (TX4 10).2.1 (TX4 10).2.2.1 ∈ wsX4_begin := by decide +kernel
  have hw7 : Cond.fieldLink RX4 52 (TX4 11).1 (TX4 11).2.1 (TX4 11).2.2.1 ∈ wsX4_begin := by decide +kernel
  have hw8 : Cond.constant RX4 55 1000000000 ∈ wsX4_begin := by decide +kernel
  have hw9 : Cond.fieldLink RX4 56 (TX4 12).1 (TX4 12).2.1 (TX4 12).2.2.1 ∈ wsX4_begin := by decide +kernel
  have hw10 : Cond.fieldLink RX4 30 (TX4 6).1 (TX4 6).2.1 (TX4 6).2.2.1 ∈ wsX4_begin := by decide +kernel
  have hw11 : Cond.fieldLink RX4 33 (TX4 7).1 (TX4 7).2.1 (TX4 7).2.2.1 ∈ wsX4_begin := by decide +kernel
  refine x_lveq (lv' := [(0, .ref qN), (1, .int (jI year)), (2, .int (jI n)), (3, .int (jI most))]) rfl ?_
  refine x_aload_n F dX4_begin_0 rfl 0 rfl ?_
  refine x_iconst F dX4_begin_1 ?_
  refine x_put (ci := 4) F hin4 tyX4_ok nmX4 0 rfl rfl 8 (by decide) hw0 rfl rfl rfl (show 8 + 1 ≤ _ from Nat.le_of_ble_eq_true rfl) dX4_begin_2 [(qN, .inr (4, [.ref qN_blocks, .ref qN_costs, .ref qN_zones, .ref qN_neglects, .ref qN_chosen, .ref qN_best, .ref qN_spent, .ref qN_scaffolds, .int (jI 0), .int (jI vN_start), .int (jI vN_span), .int (jI vN_coin), .int (jI vN_least)])), aI kI qN_spent 4 fN_spent, aI kI qN_scaffolds 32 fN_scaffolds] rfl ?_
  refine x_aload_n F dX4_begin_5 rfl 0 rfl ?_
  refine x_iload_n F dX4_begin_6 rfl 1 rfl ?_
  refine x_put (ci := 4) F hin4 tyX4_ok nmX4 0 rfl rfl 9 (by decide) hw1 rfl rfl rfl (show 9 + 1 ≤ _ from Nat.le_of_ble_eq_true rfl) dX4_begin_7 [(qN, .inr (4, [.ref qN_blocks, .ref qN_costs, .ref qN_zones, .ref qN_neglects, .ref qN_chosen, .ref qN_best, .ref qN_spent, .ref qN_scaffolds, .int (jI 0), .int (jI year), .int (jI vN_span), .int (jI vN_coin), .int (jI vN_least)])), aI kI qN_spent 4 fN_spent, aI kI qN_scaffolds 32 fN_scaffolds] rfl ?_
  refine x_aload_n F dX4_begin_10 rfl 0 rfl ?_
  refine x_iload_n F dX4_begin_11 rfl 2 rfl ?_
  refine x_iconst F dX4_begin_12 ?_
  refine x_min F hw2 hw3 hw4 hw5 (Nat.le_of_ble_eq_true rfl) (Nat.le_of_ble_eq_true rfl) (Nat.le_of_ble_eq_true rfl) (Nat.le_of_ble_eq_true rfl) (by omega) dX4_begin_13 ?_
  refine x_put (ci := 4) F hin4 tyX4_ok nmX4 0 rfl rfl 10 (by decide) hw6 rfl rfl rfl (show 10 + 1 ≤ _ from Nat.le_of_ble_eq_true rfl) dX4_begin_16 [(qN, .inr (4, [.ref qN_blocks, .ref qN_costs, .ref qN_zones, .ref qN_neglects, .ref qN_chosen, .ref qN_best, .ref qN_spent, .ref qN_scaffolds, .int (jI 0), .int (jI year), .int (jI (min n 4)), .int (jI vN_coin), .int (jI vN_least)])), aI kI qN_spent 4 fN_spent, aI kI qN_scaffolds 32 fN_scaffolds] rfl ?_
  refine x_aload_n F dX4_begin_19 rfl 0 rfl ?_
  refine x_iload_n F dX4_begin_20 rfl 3 rfl ?_
  refine x_put (ci := 4) F hin4 tyX4_ok nmX4 0 rfl rfl 11 (by decide) hw7 rfl rfl rfl (show 11 + 1 ≤ _ from Nat.le_of_ble_eq_true rfl) dX4_begin_21 [(qN, .inr (4, [.ref qN_blocks, .ref qN_costs, .ref qN_zones, .ref qN_neglects, .ref qN_chosen, .ref qN_best, .ref qN_spent, .ref qN_scaffolds, .int (jI 0), .int (jI year), .int (jI (min n 4)), .int (jI most), .int (jI vN_least)])), aI kI qN_spent 4 fN_spent, aI kI qN_scaffolds 32 fN_scaffolds] rfl ?_
  refine x_aload_n F dX4_begin_24 rfl 0 rfl ?_
  refine x_ldc F 1000000000 hw8 (by decide) dX4_begin_25 ?_
  refine x_put (ci := 4) F hin4 tyX4_ok nmX4 0 rfl rfl 12 (by decide) hw9 rfl rfl rfl (show 12 + 1 ≤ _ from Nat.le_of_ble_eq_true rfl) dX4_begin_27 [(qN, .inr (4, [.ref qN_blocks, .ref qN_costs, .ref qN_zones, .ref qN_neglects, .ref qN_chosen, .ref qN_best, .ref qN_spent, .ref qN_scaffolds, .int (jI 0), .int (jI year), .int (jI (min n 4)), .int (jI most), .int (jI 1000000000)])), aI kI qN_spent 4 fN_spent, aI kI qN_scaffolds 32 fN_scaffolds] rfl ?_
  refine x_aload_n F dX4_begin_30 rfl 0 rfl ?_
  refine x_get (ci := 4) F hin4 0 rfl rfl 6 (by decide) hw10 rfl dX4_begin_31 ?_
  refine x_iconst F dX4_begin_34 ?_
  refine x_callSv (As := [.ref qN_spent, .int (jI 0)]) (st := []) F (c_J7_fill_53178 D kI kJ l qN_spent 0 4 fN_spent (by omega)) (va_cwS 2 F.2.2.2.2.1 gX4_begin_J7_fill_53178 rfl rfl rfl (by decide +kernel) ⟨Nat.le_of_ble_eq_true rfl, Nat.le_of_ble_eq_true rfl⟩) [1] [0, 2] [0, 2, 1] rfl rfl (by decide) (by decide) (by decide) (fun _ => rfl) (by decide) rfl (Nat.le_of_ble_eq_true rfl) dX4_begin_35 ⟨Nat.le_of_ble_eq_true rfl, Nat.le_of_ble_eq_true rfl⟩ (fun u35 h35 => ?_)
  obtain ⟨f2_35, rfl⟩ : ∃ z, z = u35 := ⟨_, rfl⟩
  try dsimp only at h35
  refine x_ws [(qN, .inr (4, [.ref qN_blocks, .ref qN_costs, .ref qN_zones, .ref qN_neglects, .ref qN_chosen, .ref qN_best, .ref qN_spent, .ref qN_scaffolds, .int (jI 0), .int (jI year), .int (jI (min n 4)), .int (jI most), .int (jI 1000000000)])), aI kI qN_spent 4 f2_35, aI kI qN_scaffolds 32 fN_scaffolds] rfl ?_
  have hf_35 := h35
  refine x_aload_n F dX4_begin_38 rfl 0 rfl ?_
  refine x_get (ci := 4) F hin4 0 rfl rfl 7 (by decide) hw11 rfl dX4_begin_39 ?_
  refine x_iconst F dX4_begin_42 ?_
  refine x_callSv (As := [.ref qN_scaffolds, .int (jI 0)]) (st := []) F (c_J7_fill_53178 D kI kJ l qN_scaffolds 0 32 fN_scaffolds (by omega)) (va_cwS 2 F.2.2.2.2.1 gX4_begin_J7_fill_53178 rfl rfl rfl (by decide +kernel) ⟨Nat.le_of_ble_eq_true rfl, Nat.le_of_ble_eq_true rfl⟩) [2] [0, 1] [0, 1, 2] rfl rfl (by decide) (by decide) (by decide) (fun _ => rfl) (by decide) rfl (Nat.le_of_ble_eq_true rfl) dX4_begin_43 ⟨Nat.le_of_ble_eq_true rfl, Nat.le_of_ble_eq_true rfl⟩ (fun u43 h43 => ?_)
  obtain ⟨f2_43, rfl⟩ : ∃ z, z = u43 := ⟨_, rfl⟩
  try dsimp only at h43
  refine x_ws [(qN, .inr (4, [.ref qN_blocks, .ref qN_costs, .ref qN_zones, .ref qN_neglects, .ref qN_chosen, .ref qN_best, .ref qN_spent, .ref qN_scaffolds, .int (jI 0), .int (jI year), .int (jI (min n 4)), .int (jI most), .int (jI 1000000000)])), aI kI qN_spent 4 f2_35, aI kI qN_scaffolds 32 f2_43] rfl ?_
  have hf_43 := h43
  exact hret 0 0 46 _ ((min n 4), f2_35, f2_43) (Nat.le_of_ble_eq_true rfl) (Nat.le_of_ble_eq_true rfl) dX4_begin_46 (by (try dsimp only); exact (⟨by omega, hf_35, hf_43⟩))
set_option maxHeartbeats 4000000 in
set_option maxRecDepth 100000 in
theorem c_X4_change (D : va_G) (kI kJ : Nat) (l : Launch) (qr : Nat) (i : Int) (more : Int) (nn : Nat) (fr : (Int → Int)) (hi : 0 ≤ i ∧ i < (nn : Int)) (hn : nn < 2147483648) : xMv D kI kJ l yX4_change wsX4_change 2 53 0 0 [.ref qr, .int (jI i), .int (jI more)] [aI kI qr nn fr] (fun (u : Unit) => True) (fun (u : Unit) => [aI kI qr nn (iU fr i (fr i + more))]) := by
  refine xMv_of (cc := cX4_change) (maxL := 3) (by decide) rfl (Nat.le_of_ble_eq_true rfl) ?_
  intro p e s m args below meth c A Q F hin2 hret
  have hw0 : Cond.initialized yX9_isBelow.cls ∈ wsX4_change := by decide +kernel
  have hw1 : Cond.static yX9_isBelow ∈ wsX4_change := by decide +kernel
  refine x_lveq (lv' := [(0, .ref qr), (1, .int (jI i)), (2, .int (jI more))]) rfl ?_
  refine x_iload_n F dX4_change_0 rfl 1 rfl ?_
  refine x_aload_n F dX4_change_1 rfl 0 rfl ?_
  refine x_alen F 0 (nn : Int) rfl (jI_nat nn) dX4_change_2 ?_
  refine x_callSNi (As := [.int (jI i), .int (jI (nn : Int))]) (st := []) F (c_X9_isBelow D kI kJ l i (nn : Int) (by omega) (by omega)) ⟨va_cnB 2 F.2.2.2.2.1 gX4_change_X9_isBelow_n65 rfl rfl rfl (nM18 F.2.2.2.2.2.2.2) (F.2.2.2.2.1 _ hw0) (by decide +kernel) ⟨Nat.le_of_ble_eq_true rfl, Nat.le_of_ble_eq_true rfl⟩, F.2.2.2.2.1 _ hw1, trivial⟩ [] [0] [0] rfl rfl (by decide) (by decide) (by decide) (fun _ => rfl) (by decide) rfl (Nat.le_of_ble_eq_true rfl) dX4_change_3 ⟨Nat.le_of_ble_eq_true rfl, Nat.le_of_ble_eq_true rfl⟩ (fun z3 u3 h3 => ?_)
  try dsimp only at h3
  refine x_ws [aI kI qr nn fr] rfl ?_
  have hb3 := h3
  refine x_beq (tgt := 16) F dX4_change_6 (by decide) hb3 (fun c6 => ?_) (fun c6 => ?_)
  · exact absurd hi c6
  · -- 6 f
    refine x_aload_n F dX4_change_9 rfl 0 rfl ?_
    refine x_iload_n F dX4_change_10 rfl 1 rfl ?_
    refine x_dup2 F dX4_change_11 rfl rfl ?_
    refine x_iald F 0 rfl hn (by omega) dX4_change_12 ?_
    refine x_iload_n F dX4_change_13 rfl 2 rfl ?_
    refine x_iadd F dX4_change_14 ?_
    refine x_iast F 0 rfl hn (by omega) dX4_change_15 [aI kI qr nn (iU fr i ((fr i) + more))] rfl ?_
    exact hret 0 0 16 _ () (Nat.le_of_ble_eq_true rfl) (Nat.le_of_ble_eq_true rfl) dX4_change_16 (trivial)
set_option maxHeartbeats 4000000 in
set_option maxRecDepth 100000 in
theorem c_X4_yearOf (D : va_G) (kI kJ : Nat) (l : Launch) (qN : Nat) (b : Int) (qN_blocks : Nat) (qN_costs : Nat) (qN_zones : Nat) (qN_neglects : Nat) (qN_chosen : Nat) (qN_best : Nat) (qN_spent : Nat) (qN_scaffolds : Nat) (vN_size : Int) (vN_start : Int) (vN_span : Int) (vN_coin : Int) (vN_least : Int) (fN_blocks : (Int → Int)) (fN_best : (Int → Int)) (hr_b : -2147483648 ≤ b ∧ b < 2147483648) (hNs : 0 ≤ vN_size ∧ vN_size ≤ 6) (hNb : Rg fN_best 6 (-1) 3) (hNk : Rg fN_blocks 6 0 29) (hNy : 0 ≤ vN_start ∧ vN_start ≤ 396) : xMi D kI kJ l yX4_yearOf wsX4_yearOf 1 32 0 0 [.ref qN, .int (jI b)] [(qN, .inr (4, [.ref qN_blocks, .ref qN_costs, .ref qN_zones, .ref qN_neglects, .ref qN_chosen, .ref qN_best, .ref qN_spent, .ref qN_scaffolds, .int (jI vN_size), .int (jI vN_start), .int (jI vN_span), .int (jI vN_coin), .int (jI vN_least)])), aI kI qN_blocks 6 fN_blocks, aI kI qN_best 6 fN_best] (fun (z : Int) (u : Unit) => z = if dG (yoS fN_blocks fN_best b) 100 vN_size < 0 then -1 else vN_start + fN_best (dG (yoS fN_blocks fN_best b) 100 vN_size)) (fun (u : Unit) => [(qN, .inr (4, [.ref qN_blocks, .ref qN_costs, .ref qN_zones, .ref qN_neglects, .ref qN_chosen, .ref qN_best, .ref qN_spent, .ref qN_scaffolds, .int (jI vN_size), .int (jI vN_start), .int (jI vN_span), .int (jI vN_coin), .int (jI vN_least)])), aI kI qN_blocks 6 fN_blocks, aI kI qN_best 6 fN_best]) := by
  refine xMi_of (cc := cX4_yearOf) (maxL := 3) (rt := .int) (by decide) rfl (Nat.le_of_ble_eq_true rfl) (fun _ _ _ => rfl) ?_
  intro p e s m args below meth c A Q F hin2 hret
  have hin4 : ∀ w ∈ wsX40, w ∈ wsX4_yearOf := by decide +kernel
  have hw0 : Cond.fieldLink RX4 36 (TX4 8).1 (TX4 8).2.1 (TX4 8).2.2.1 ∈ wsX4_yearOf := by decide +kernel
  have hw1 : Cond.fieldLink RX4 9 (TX4 0).1 (TX4 0).2.1 (TX4 0).2.2.1 ∈ wsX4_yearOf := by decide +kernel
  have hw2 : Cond.fieldLink RX4 27 (TX4 5).1 (TX4 5).2.1 (TX4 5).2.2.1 ∈ wsX4_yearOf := by decide +kernel
  have hw3 : Cond.fieldLink RX4 40 (TX4 9).1 (TX4 9).2.1 (TX4 9).2.2.1 ∈ wsX4_yearOf := by decide +kernel
  refine x_lveq (lv' := [(0, .ref qN), (1, .int (jI b))]) rfl ?_
  refine x_iconst F dX4_yearOf_0 ?_
  refine x_istore_n (lv' := [(0, .ref qN), (1, .int (jI b)), (2, .int (jI 0))]) F dX4_yearOf_1 rfl (by decide) [1, 2, 0] rfl ?_
  have lp2 : ∀ (fu : Nat) (i9 : Int) (hi9 : 0 ≤ i9 ∧ i9 ≤ vN_size) (hd : dG (yoS fN_blocks fN_best b) 100 i9 < 0) (hm : vN_size - i9 < (fu : Int)), xG D p l e (xRm 1 32 0 0) s m args below meth c 3 A Q 0 0 [(qN, .inr (4, [.ref qN_blocks, .ref qN_costs, .ref qN_zones, .ref qN_neglects, .ref qN_chosen, .ref qN_best, .ref qN_spent, .ref qN_scaffolds, .int (jI vN_size), .int (jI vN_start), .int (jI vN_span), .int (jI vN_coin), .int (jI vN_least)])), aI kI qN_blocks 6 fN_blocks, aI kI qN_best 6 fN_best] [(0, .ref qN), (1, .int (jI b)), (2, .int (jI i9))] 2 [] := by
    intro fu
    induction fu with
    | zero =>
      intro i9 hi9 hd hm
      exact absurd hm (by omega)
    | succ fu ih2 =>
      intro i9 hi9 hd hm
      refine x_iload_n F dX4_yearOf_2 rfl 2 rfl ?_
      refine x_aload_n F dX4_yearOf_3 rfl 0 rfl ?_
      refine x_get (ci := 4) F hin4 0 rfl rfl 8 (by decide) hw0 rfl dX4_yearOf_4 ?_
      refine x_icmp_ge (tgt := 54) F dX4_yearOf_7 (by decide) (by omega) (fun c7 => ?_) (fun c7 => ?_)
      · -- 7 t
        refine x_iconst F dX4_yearOf_54 ?_
        exact hret 0 0 55 _ (-1) () (Nat.le_of_ble_eq_true rfl) (Nat.le_of_ble_eq_true rfl) dX4_yearOf_55 (by rw [show vN_size = i9 by omega, if_pos hd])
      · -- 7 f
        refine x_iload_n F dX4_yearOf_10 rfl 2 rfl ?_
        refine x_bipush F dX4_yearOf_11 (by decide) ?_
        refine x_icmp_ge (tgt := 54) F dX4_yearOf_13 (by decide) (by omega) (fun c13 => ?_) (fun c13 => ?_)
        · exact absurd c13 (by omega)
        · -- 13 f
          have jn48 : ∀  (hno : ¬ (fN_blocks i9 = b ∧ ¬ fN_best i9 = -1)), xG D p l e (xRm 1 32 0 0) s m args below meth c 3 A Q 0 0 [(qN, .inr (4, [.ref qN_blocks, .ref qN_costs, .ref qN_zones, .ref qN_neglects, .ref qN_chosen, .ref qN_best, .ref qN_spent, .ref qN_scaffolds, .int (jI vN_size), .int (jI vN_start), .int (jI vN_span), .int (jI vN_coin), .int (jI vN_least)])), aI kI qN_blocks 6 fN_blocks, aI kI qN_best 6 fN_best] [(0, .ref qN), (1, .int (jI b)), (2, .int (jI i9))] 48 [] := by
            intro hno
            refine x_iinc (lv' := [(0, .ref qN), (1, .int (jI b)), (2, .int (jI (i9 + 1)))]) (k := 2) F dX4_yearOf_48 rfl (by decide) [1, 2, 0] rfl ?_
            refine x_goto (tgt := 2) F dX4_yearOf_51 (by decide) ?_
            exact ih2 (i9 + 1) (by omega) (by rw [dG_s hi9.1, if_neg (by unfold yoS; rw [if_neg hno]; omega)]; exact hd) (by omega)
          refine x_aload_n F dX4_yearOf_16 rfl 0 rfl ?_
          refine x_get (ci := 4) F hin4 0 rfl rfl 0 (by decide) hw1 rfl dX4_yearOf_17 ?_
          refine x_iload_n F dX4_yearOf_20 rfl 2 rfl ?_
          refine x_iald F 1 rfl (by decide) (by omega) dX4_yearOf_21 ?_
          have hr21 := Rg.at hNk i9 (by omega)
          refine x_iload_n F dX4_yearOf_22 rfl 1 rfl ?_
          refine x_icmp_ne (tgt := 48) F dX4_yearOf_23 (by decide) (by omega) (fun c23 => ?_) (fun c23 => ?_)
          · -- 23 t
            exact jn48  (by omega)
          · -- 23 f
            refine x_aload_n F dX4_yearOf_26 rfl 0 rfl ?_
            refine x_get (ci := 4) F hin4 0 rfl rfl 5 (by decide) hw2 rfl dX4_yearOf_27 ?_
            refine x_iload_n F dX4_yearOf_30 rfl 2 rfl ?_
            refine x_iald F 2 rfl (by decide) (by omega) dX4_yearOf_31 ?_
            have hr31 := Rg.at hNb i9 (by omega)
            refine x_iconst F dX4_yearOf_32 ?_
            refine x_icmp_eq (tgt := 48) F dX4_yearOf_33 (by decide) (by omega) (fun c33 => ?_) (fun c33 => ?_)
            · -- 33 t
              exact jn48  (by omega)
            · -- 33 f
              refine x_aload_n F dX4_yearOf_36 rfl 0 rfl ?_
              refine x_get (ci := 4) F hin4 0 rfl rfl 9 (by decide) hw3 rfl dX4_yearOf_37 ?_
              refine x_aload_n F dX4_yearOf_40 rfl 0 rfl ?_
              refine x_get (ci := 4) F hin4 0 rfl rfl 5 (by decide) hw2 rfl dX4_yearOf_41 ?_
              refine x_iload_n F dX4_yearOf_44 rfl 2 rfl ?_
              refine x_iald F 2 rfl (by decide) (by omega) dX4_yearOf_45 ?_
              have hr45 := Rg.at hNb i9 (by omega)
              refine x_iadd F dX4_yearOf_46 ?_
              exact hret 0 0 47 _ (vN_start + (fN_best i9)) () (Nat.le_of_ble_eq_true rfl) (Nat.le_of_ble_eq_true rfl) dX4_yearOf_47 (by have e := dG_first (ls := (yoS fN_blocks fN_best b)) (thr := 100) (i := i9) (n := vN_size) (by omega) hd (by unfold yoS; rw [if_pos (by omega)]; omega); rw [e, if_neg (by omega)])
  exact lp2 (Int.toNat (vN_size - 0) + 1) 0 (by omega) (by rw [dG_0]; omega) (by omega)
set_option maxHeartbeats 4000000 in
set_option maxRecDepth 100000 in
theorem c_X4_doWork (D : va_G) (kI kJ : Nat) (l : Launch) (qN : Nat) (i : Int) (t : Int) (qN_blocks : Nat) (qN_costs : Nat) (qN_zones : Nat) (qN_neglects : Nat) (qN_chosen : Nat) (qN_best : Nat) (qN_spent : Nat) (qN_scaffolds : Nat) (vN_size : Int) (vN_start : Int) (vN_span : Int) (vN_coin : Int) (vN_least : Int) (fN_costs : (Int → Int)) (fN_zones : (Int → Int)) (fN_spent : (Int → Int)) (fN_scaffolds : (Int → Int)) (fN_chosen : (Int → Int)) (hit : (0 ≤ i ∧ i < 6) ∧ 0 ≤ t ∧ t < 4) (hNc : Rg fN_costs 24 0 50000) (hNz : Rg fN_zones 24 0 7) (hNf : Rg fN_scaffolds 32 0 6) (hNp : Rg fN_spent 4 0 400000) : xMi D kI kJ l yX4_doWork wsX4_doWork 3 75 0 0 [.ref qN, .int (jI i), .int (jI t)] [(qN, .inr (4, [.ref qN_blocks, .ref qN_costs, .ref qN_zones, .ref qN_neglects, .ref qN_chosen, .ref qN_best, .ref qN_spent, .ref qN_scaffolds, .int (jI vN_size), .int (jI vN_start), .int (jI vN_span), .int (jI vN_coin), .int (jI vN_least)])), aI kI qN_costs 24 fN_costs, aI kI qN_zones 24 fN_zones, aI kI qN_spent 4 fN_spent, aI kI qN_scaffolds 32 fN_scaffolds, aI kI qN_chosen 6 fN_chosen] (fun (z : Int) (u : (Int → Int)) => z = ((fN_costs (i * 4 + t) + (if fN_scaffolds (t * 8 + fN_zones (i * 4 + t)) = 0 then 25 else 0))) ∧ (u = iU fN_spent t (fN_spent t + (fN_costs (i * 4 + t) + (if fN_scaffolds (t * 8 + fN_zones (i * 4 + t)) = 0 then 25 else 0))))) (fun (u : (Int → Int)) => [(qN, .inr (4, [.ref qN_blocks, .ref qN_costs, .ref qN_zones, .ref qN_neglects, .ref qN_chosen, .ref qN_best, .ref qN_spent, .ref qN_scaffolds, .int (jI vN_size), .int (jI vN_start), .int (jI vN_span), .int (jI vN_coin), .int (jI vN_least)])), aI kI qN_costs 24 fN_costs, aI kI qN_zones 24 fN_zones, aI kI qN_spent 4 u, aI kI qN_scaffolds 32 (iU fN_scaffolds (t * 8 + fN_zones (i * 4 + t)) (fN_scaffolds (t * 8 + fN_zones (i * 4 + t)) + 1)), aI kI qN_chosen 6 (iU fN_chosen i t)]) := by
  refine xMi_of (cc := cX4_doWork) (maxL := 6) (rt := .int) (by decide) rfl (Nat.le_of_ble_eq_true rfl) (fun _ _ _ => rfl) ?_
  intro p e s m args below meth c A Q F hin2 hret
  have hin4 : ∀ w ∈ wsX40, w ∈ wsX4_doWork := by decide +kernel
  have hw0 : Cond.fieldLink RX4 18 (TX4 2).1 (TX4 2).2.1 (TX4 2).2.2.1 ∈ wsX4_doWork := by decide +kernel
  have hw1 : Cond.initialized yX9_at.cls ∈ wsX4_doWork := by decide +kernel
  have hw2 : Cond.static yX9_at ∈ wsX4_doWork := by decide +kernel
  have hw3 : Cond.fieldLink RX4 15 (TX4 1).1 (TX4 1).2.1 (TX4 1).2.2.1 ∈ wsX4_doWork := by decide +kernel
  have hw4 : Cond.fieldLink RX4 33 (TX4 7).1 (TX4 7).2.1 (TX4 7).2.2.1 ∈ wsX4_doWork := by decide +kernel
  have hw5 : Cond.fieldLink RX4 30 (TX4 6).1 (TX4 6).2.1 (TX4 6).2.2.1 ∈ wsX4_doWork := by decide +kernel
  have hw6 : Cond.initialized yX9_isBelow.cls ∈ wsX4_doWork := by decide +kernel
  have hw7 : Cond.static yX9_isBelow ∈ wsX4_doWork := by decide +kernel
  have hw8 : Cond.fieldLink RX4 24 (TX4 4).1 (TX4 4).2.1 (TX4 4).2.2.1 ∈ wsX4_doWork := by decide +kernel
  refine x_lveq (lv' := [(0, .ref qN), (1, .int (jI i)), (2, .int (jI t))]) rfl ?_
  have hz := Rg.at hNz (i * 4 + t) (by omega)
  have hc9 := Rg.at hNc (i * 4 + t) (by omega)
  have hf9 := Rg.at hNf (t * 8 + fN_zones (i * 4 + t)) (by omega)
  refine x_iload_n F dX4_doWork_0 rfl 1 rfl ?_
  refine x_iconst F dX4_doWork_1 ?_
  refine x_imul F dX4_doWork_2 ?_
  refine x_iload_n F dX4_doWork_3 rfl 2 rfl ?_
  refine x_iadd F dX4_doWork_4 ?_
  refine x_istore_n (lv' := [(0, .ref qN), (1, .int (jI i)), (2, .int (jI t)), (3, .int (jI ((i * 4) + t)))]) F dX4_doWork_5 rfl (by decide) [1, 2, 3, 0] rfl ?_
  refine x_iload_n F dX4_doWork_6 rfl 2 rfl ?_
  refine x_bipush F dX4_doWork_7 (by decide) ?_
  refine x_imul F dX4_doWork_9 ?_
  refine x_aload_n F dX4_doWork_10 rfl 0 rfl ?_
  refine x_get (ci := 4) F hin4 0 rfl rfl 2 (by decide) hw0 rfl dX4_doWork_11 ?_
  refine x_iload_n F dX4_doWork_14 rfl 3 rfl ?_
  refine x_callSNi (As := [.ref qN_zones, .int (jI ((i * 4) + t))]) (st := [.int (jI (t * 8))]) F (c_X9_at D kI kJ l qN_zones ((i * 4) + t) 24 fN_zones (by omega) (by omega)) ⟨va_cnB 2 F.2.2.2.2.1 gX4_doWork_X9_at_n85 rfl rfl rfl (nM20 F.2.2.2.2.2.2.2) (F.2.2.2.2.1 _ hw1) (by decide +kernel) ⟨Nat.le_of_ble_eq_true rfl, Nat.le_of_ble_eq_true rfl⟩, F.2.2.2.2.1 _ hw2, trivial⟩ [2] [0, 1, 3, 4, 5] [0, 1, 5, 2, 3, 4] rfl rfl (by decide) (by decide) (by decide) (fun _ => rfl) (by decide) rfl (Nat.le_of_ble_eq_true rfl) dX4_doWork_15 ⟨Nat.le_of_ble_eq_true rfl, Nat.le_of_ble_eq_true rfl⟩ (fun z15 u15 h15 => ?_)
  try dsimp only at h15
  refine x_ws [(qN, .inr (4, [.ref qN_blocks, .ref qN_costs, .ref qN_zones, .ref qN_neglects, .ref qN_chosen, .ref qN_best, .ref qN_spent, .ref qN_scaffolds, .int (jI vN_size), .int (jI vN_start), .int (jI vN_span), .int (jI vN_coin), .int (jI vN_least)])), aI kI qN_costs 24 fN_costs, aI kI qN_zones 24 fN_zones, aI kI qN_spent 4 fN_spent, aI kI qN_scaffolds 32 fN_scaffolds, aI kI qN_chosen 6 fN_chosen] rfl ?_
  have he15 := h15
  have he15 := he15.symm
  subst he15
  refine x_iadd F dX4_doWork_18 ?_
  refine x_istore (lv' := [(0, .ref qN), (1, .int (jI i)), (2, .int (jI t)), (3, .int (jI ((i * 4) + t))), (4, .int (jI ((t * 8) + (fN_zones ((i * 4) + t)))))]) F dX4_doWork_19 (by decide) [1, 2, 3, 4, 0] rfl ?_
  refine x_aload_n F dX4_doWork_21 rfl 0 rfl ?_
  refine x_get (ci := 4) F hin4 0 rfl rfl 1 (by decide) hw3 rfl dX4_doWork_22 ?_
  refine x_iload_n F dX4_doWork_25 rfl 3 rfl ?_
  refine x_callSNi (As := [.ref qN_costs, .int (jI ((i * 4) + t))]) (st := []) F (c_X9_at D kI kJ l qN_costs ((i * 4) + t) 24 fN_costs (by omega) (by omega)) ⟨va_cnB 2 F.2.2.2.2.1 gX4_doWork_X9_at_n85 rfl rfl rfl (nM20 F.2.2.2.2.2.2.2) (F.2.2.2.2.1 _ hw1) (by decide +kernel) ⟨Nat.le_of_ble_eq_true rfl, Nat.le_of_ble_eq_true rfl⟩, F.2.2.2.2.1 _ hw2, trivial⟩ [1] [0, 2, 3, 4, 5] [0, 5, 1, 2, 3, 4] rfl rfl (by decide) (by decide) (by decide) (fun _ => rfl) (by decide) rfl (Nat.le_of_ble_eq_true rfl) dX4_doWork_26 ⟨Nat.le_of_ble_eq_true rfl, Nat.le_of_ble_eq_true rfl⟩ (fun z26 u26 h26 => ?_)
  try dsimp only at h26
  refine x_ws [(qN, .inr (4, [.ref qN_blocks, .ref qN_costs, .ref qN_zones, .ref qN_neglects, .ref qN_chosen, .ref qN_best, .ref qN_spent, .ref qN_scaffolds, .int (jI vN_size), .int (jI vN_start), .int (jI vN_span), .int (jI vN_coin), .int (jI vN_least)])), aI kI qN_costs 24 fN_costs, aI kI qN_zones 24 fN_zones, aI kI qN_spent 4 fN_spent, aI kI qN_scaffolds 32 fN_scaffolds, aI kI qN_chosen 6 fN_chosen] rfl ?_
  have he26 := h26
  have he26 := he26.symm
  subst he26
  have jn47 : ∀ (v9 : Int) (hv9 : v9 = (if fN_scaffolds (t * 8 + fN_zones (i * 4 + t)) = 0 then 25 else 0)), xG D p l e (xRm 3 75 0 0) s m args below meth c 6 A Q 0 0 [(qN, .inr (4, [.ref qN_blocks, .ref qN_costs, .ref qN_zones, .ref qN_neglects, .ref qN_chosen, .ref qN_best, .ref qN_spent, .ref qN_scaffolds, .int (jI vN_size), .int (jI vN_start), .int (jI vN_span), .int (jI vN_coin), .int (jI vN_least)])), aI kI qN_costs 24 fN_costs, aI kI qN_zones 24 fN_zones, aI kI qN_spent 4 fN_spent, aI kI qN_scaffolds 32 fN_scaffolds, aI kI qN_chosen 6 fN_chosen] [(0, .ref qN), (1, .int (jI i)), (2, .int (jI t)), (3, .int (jI ((i * 4) + t))), (4, .int (jI ((t * 8) + (fN_zones ((i * 4) + t)))))] 47 [.int (jI v9), .int (jI (fN_costs (i * 4 + t)))] := by
    intro v9 hv9
    refine x_iadd F dX4_doWork_47 ?_
    refine x_istore (lv' := [(0, .ref qN), (1, .int (jI i)), (2, .int (jI t)), (3, .int (jI ((i * 4) + t))), (4, .int (jI ((t * 8) + (fN_zones ((i * 4) + t))))), (5, .int (jI ((fN_costs (i * 4 + t)) + v9)))]) F dX4_doWork_48 (by decide) [1, 2, 3, 4, 5, 0] rfl ?_
    refine x_aload_n F dX4_doWork_50 rfl 0 rfl ?_
    refine x_get (ci := 4) F hin4 0 rfl rfl 7 (by decide) hw4 rfl dX4_doWork_51 ?_
    refine x_iload F dX4_doWork_54 4 rfl ?_
    refine x_iconst F dX4_doWork_56 ?_
    refine x_callSv (As := [.ref qN_scaffolds, .int (jI ((t * 8) + (fN_zones ((i * 4) + t)))), .int (jI 1)]) (st := []) F (c_X4_change D kI kJ l qN_scaffolds ((t * 8) + (fN_zones ((i * 4) + t))) 1 32 fN_scaffolds (by omega) (by omega)) (va_cwS 3 F.2.2.2.2.1 gX4_doWork_X4_change rfl rfl rfl (by decide +kernel) ⟨Nat.le_of_ble_eq_true rfl, Nat.le_of_ble_eq_true rfl⟩) [4] [0, 1, 2, 3, 5] [0, 1, 2, 3, 5, 4] rfl rfl (by decide) (by decide) (by decide) (fun _ => rfl) (by decide) rfl (Nat.le_of_ble_eq_true rfl) dX4_doWork_57 ⟨Nat.le_of_ble_eq_true rfl, Nat.le_of_ble_eq_true rfl⟩ (fun u57 h57 => ?_)
    try dsimp only at h57
    refine x_ws [(qN, .inr (4, [.ref qN_blocks, .ref qN_costs, .ref qN_zones, .ref qN_neglects, .ref qN_chosen, .ref qN_best, .ref qN_spent, .ref qN_scaffolds, .int (jI vN_size), .int (jI vN_start), .int (jI vN_span), .int (jI vN_coin), .int (jI vN_least)])), aI kI qN_costs 24 fN_costs, aI kI qN_zones 24 fN_zones, aI kI qN_spent 4 fN_spent, aI kI qN_scaffolds 32 (iU fN_scaffolds ((t * 8) + (fN_zones ((i * 4) + t))) (fN_scaffolds ((t * 8) + (fN_zones ((i * 4) + t))) + 1)), aI kI qN_chosen 6 fN_chosen] rfl ?_
    refine x_aload_n F dX4_doWork_60 rfl 0 rfl ?_
    refine x_get (ci := 4) F hin4 0 rfl rfl 6 (by decide) hw5 rfl dX4_doWork_61 ?_
    refine x_iload_n F dX4_doWork_64 rfl 2 rfl ?_
    refine x_iload F dX4_doWork_65 5 rfl ?_
    refine x_callSv (As := [.ref qN_spent, .int (jI t), .int (jI ((fN_costs (i * 4 + t)) + v9))]) (st := []) F (c_X4_change D kI kJ l qN_spent t ((fN_costs (i * 4 + t)) + v9) 4 fN_spent (by omega) (by omega)) (va_cwS 3 F.2.2.2.2.1 gX4_doWork_X4_change rfl rfl rfl (by decide +kernel) ⟨Nat.le_of_ble_eq_true rfl, Nat.le_of_ble_eq_true rfl⟩) [3] [0, 1, 2, 4, 5] [0, 1, 2, 5, 3, 4] rfl rfl (by decide) (by decide) (by decide) (fun _ => rfl) (by decide) rfl (Nat.le_of_ble_eq_true rfl) dX4_doWork_67 ⟨Nat.le_of_ble_eq_true rfl, Nat.le_of_ble_eq_true rfl⟩ (fun u67 h67 => ?_)
    try dsimp only at h67
    refine x_ws [(qN, .inr (4, [.ref qN_blocks, .ref qN_costs, .ref qN_zones, .ref qN_neglects, .ref qN_chosen, .ref qN_best, .ref qN_spent, .ref qN_scaffolds, .int (jI vN_size), .int (jI vN_start), .int (jI vN_span), .int (jI vN_coin), .int (jI vN_least)])), aI kI qN_costs 24 fN_costs, aI kI qN_zones 24 fN_zones, aI kI qN_spent 4 (iU fN_spent t (fN_spent t + ((fN_costs (i * 4 + t)) + v9))), aI kI qN_scaffolds 32 (iU fN_scaffolds ((t * 8) + (fN_zones ((i * 4) + t))) (fN_scaffolds ((t * 8) + (fN_zones ((i * 4) + t))) + 1)), aI kI qN_chosen 6 fN_chosen] rfl ?_
    refine x_iload_n F dX4_doWork_70 rfl 1 rfl ?_
    refine x_bipush F dX4_doWork_71 (by decide) ?_
    refine x_callSNi (As := [.int (jI i), .int (jI 6)]) (st := []) F (c_X9_isBelow D kI kJ l i 6 (by omega) (by omega)) ⟨va_cnB 2 F.2.2.2.2.1 gX4_doWork_X9_isBelow_n65 rfl rfl rfl (nM18 F.2.2.2.2.2.2.2) (F.2.2.2.2.1 _ hw6) (by decide +kernel) ⟨Nat.le_of_ble_eq_true rfl, Nat.le_of_ble_eq_true rfl⟩, F.2.2.2.2.1 _ hw7, trivial⟩ [] [0, 1, 2, 3, 4, 5] [0, 1, 2, 3, 4, 5] rfl rfl (by decide) (by decide) (by decide) (fun _ => rfl) (by decide) rfl (Nat.le_of_ble_eq_true rfl) dX4_doWork_73 ⟨Nat.le_of_ble_eq_true rfl, Nat.le_of_ble_eq_true rfl⟩ (fun z73 u73 h73 => ?_)
    try dsimp only at h73
    refine x_ws [(qN, .inr (4, [.ref qN_blocks, .ref qN_costs, .ref qN_zones, .ref qN_neglects, .ref qN_chosen, .ref qN_best, .ref qN_spent, .ref qN_scaffolds, .int (jI vN_size), .int (jI vN_start), .int (jI vN_span), .int (jI vN_coin), .int (jI vN_least)])), aI kI qN_costs 24 fN_costs, aI kI qN_zones 24 fN_zones, aI kI qN_spent 4 (iU fN_spent t (fN_spent t + ((fN_costs (i * 4 + t)) + v9))), aI kI qN_scaffolds 32 (iU fN_scaffolds ((t * 8) + (fN_zones ((i * 4) + t))) (fN_scaffolds ((t * 8) + (fN_zones ((i * 4) + t))) + 1)), aI kI qN_chosen 6 fN_chosen] rfl ?_
    have hb73 := h73
    refine x_beq (tgt := 86) F dX4_doWork_76 (by decide) hb73 (fun c76 => ?_) (fun c76 => ?_)
    · exact absurd c76 (by omega)
    · -- 76 f
      refine x_aload_n F dX4_doWork_79 rfl 0 rfl ?_
      refine x_get (ci := 4) F hin4 0 rfl rfl 4 (by decide) hw8 rfl dX4_doWork_80 ?_
      refine x_iload_n F dX4_doWork_83 rfl 1 rfl ?_
      refine x_iload_n F dX4_doWork_84 rfl 2 rfl ?_
      refine x_iast F 5 rfl (by decide) (by omega) dX4_doWork_85 [(qN, .inr (4, [.ref qN_blocks, .ref qN_costs, .ref qN_zones, .ref qN_neglects, .ref qN_chosen, .ref qN_best, .ref qN_spent, .ref qN_scaffolds, .int (jI vN_size), .int (jI vN_start), .int (jI vN_span), .int (jI vN_coin), .int (jI vN_least)])), aI kI qN_costs 24 fN_costs, aI kI qN_zones 24 fN_zones, aI kI qN_spent 4 (iU fN_spent t (fN_spent t + ((fN_costs (i * 4 + t)) + v9))), aI kI qN_scaffolds 32 (iU fN_scaffolds ((t * 8) + (fN_zones ((i * 4) + t))) (fN_scaffolds ((t * 8) + (fN_zones ((i * 4) + t))) + 1)), aI kI qN_chosen 6 (iU fN_chosen i t)] rfl ?_
      refine x_iload F dX4_doWork_86 5 rfl ?_
      exact hret 0 0 88 _ ((fN_costs (i * 4 + t)) + v9) (iU fN_spent t (fN_spent t + ((fN_costs (i * 4 + t)) + v9))) (Nat.le_of_ble_eq_true rfl) (Nat.le_of_ble_eq_true rfl) dX4_doWork_88 (⟨by rw [hv9], by rw [hv9]⟩)
  refine x_aload_n F dX4_doWork_29 rfl 0 rfl ?_
  refine x_get (ci := 4) F hin4 0 rfl rfl 7 (by decide) hw4 rfl dX4_doWork_30 ?_
  refine x_iload F dX4_doWork_33 4 rfl ?_
  refine x_callSNi (As := [.ref qN_scaffolds, .int (jI ((t * 8) + (fN_zones ((i * 4) + t))))]) (st := [.int (jI (fN_costs ((i * 4) + t)))]) F (c_X9_at D kI kJ l qN_scaffolds ((t * 8) + (fN_zones ((i * 4) + t))) 32 fN_scaffolds (by omega) (by omega)) ⟨va_cnB 2 F.2.2.2.2.1 gX4_doWork_X9_at_n85 rfl rfl rfl (nM20 F.2.2.2.2.2.2.2) (F.2.2.2.2.1 _ hw1) (by decide +kernel) ⟨Nat.le_of_ble_eq_true rfl, Nat.le_of_ble_eq_true rfl⟩, F.2.2.2.2.1 _ hw2, trivial⟩ [4] [0, 1, 2, 3, 5] [0, 1, 2, 3, 5, 4] rfl rfl (by decide) (by decide) (by decide) (fun _ => rfl) (by decide) rfl (Nat.le_of_ble_eq_true rfl) dX4_doWork_35 ⟨Nat.le_of_ble_eq_true rfl, Nat.le_of_ble_eq_true rfl⟩ (fun z35 u35 h35 => ?_)
  try dsimp only at h35
  refine x_ws [(qN, .inr (4, [.ref qN_blocks, .ref qN_costs, .ref qN_zones, .ref qN_neglects, .ref qN_chosen, .ref qN_best, .ref qN_spent, .ref qN_scaffolds, .int (jI vN_size), .int (jI vN_start), .int (jI vN_span), .int (jI vN_coin), .int (jI vN_least)])), aI kI qN_costs 24 fN_costs, aI kI qN_zones 24 fN_zones, aI kI qN_spent 4 fN_spent, aI kI qN_scaffolds 32 fN_scaffolds, aI kI qN_chosen 6 fN_chosen] rfl ?_
  have he35 := h35
  have he35 := he35.symm
  subst he35
  refine x_if_ne (tgt := 46) F dX4_doWork_38 (by decide) (by omega) (fun c38 => ?_) (fun c38 => ?_)
  · -- 38 t
    refine x_iconst F dX4_doWork_46 ?_
    -- CAUTION 47: ('i', '(fN_costs (i * 4 + t))') against ('i', 'fN_costs ((i * 4) + t)')
    exact jn47 0 (by first | exact (if_pos (by omega)).symm | exact (if_neg (by omega)).symm)
  · -- 38 f
    refine x_bipush F dX4_doWork_41 (by decide) ?_
    refine x_goto (tgt := 47) F dX4_doWork_43 (by decide) ?_
    -- CAUTION 47: ('i', '(fN_costs (i * 4 + t))') against ('i', 'fN_costs ((i * 4) + t)')
    exact jn47 25 (by first | exact (if_pos (by omega)).symm | exact (if_neg (by omega)).symm)
set_option maxHeartbeats 4000000 in
set_option maxRecDepth 100000 in
theorem c_X4_undoWork (D : va_G) (kI kJ : Nat) (l : Launch) (qN : Nat) (i : Int) (t : Int) (cost : Int) (qN_blocks : Nat) (qN_costs : Nat) (qN_zones : Nat) (qN_neglects : Nat) (qN_chosen : Nat) (qN_best : Nat) (qN_spent : Nat) (qN_scaffolds : Nat) (vN_size : Int) (vN_start : Int) (vN_span : Int) (vN_coin : Int) (vN_least : Int) (fN_zones : (Int → Int)) (fN_spent : (Int → Int)) (fN_scaffolds : (Int → Int)) (hit : (0 ≤ i ∧ i < 6) ∧ 0 ≤ t ∧ t < 4) (hNz : Rg fN_zones 24 0 7) : xMv D kI kJ l yX4_undoWork wsX4_undoWork 3 75 0 0 [.ref qN, .int (jI i), .int (jI t), .int (jI cost)] [(qN, .inr (4, [.ref qN_blocks, .ref qN_costs, .ref qN_zones, .ref qN_neglects, .ref qN_chosen, .ref qN_best, .ref qN_spent, .ref qN_scaffolds, .int (jI vN_size), .int (jI vN_start), .int (jI vN_span), .int (jI vN_coin), .int (jI vN_least)])), aI kI qN_zones 24 fN_zones, aI kI qN_spent 4 fN_spent, aI kI qN_scaffolds 32 fN_scaffolds] (fun (u : Unit) => True) (fun (u : Unit) => [(qN, .inr (4, [.ref qN_blocks, .ref qN_costs, .ref qN_zones, .ref qN_neglects, .ref qN_chosen, .ref qN_best, .ref qN_spent, .ref qN_scaffolds, .int (jI vN_size), .int (jI vN_start), .int (jI vN_span), .int (jI vN_coin), .int (jI vN_least)])), aI kI qN_zones 24 fN_zones, aI kI qN_spent 4 (iU fN_spent t (fN_spent t + -cost)), aI kI qN_scaffolds 32 (iU fN_scaffolds (t * 8 + fN_zones (i * 4 + t)) (fN_scaffolds (t * 8 + fN_zones (i * 4 + t)) + -1))]) := by
  refine xMv_of (cc := cX4_undoWork) (maxL := 4) (by decide) rfl (Nat.le_of_ble_eq_true rfl) ?_
  intro p e s m args below meth c A Q F hin2 hret
  have hin4 : ∀ w ∈ wsX40, w ∈ wsX4_undoWork := by decide +kernel
  have hw0 : Cond.fieldLink RX4 33 (TX4 7).1 (TX4 7).2.1 (TX4 7).2.2.1 ∈ wsX4_undoWork := by decide +kernel
  have hw1 : Cond.fieldLink RX4 18 (TX4 2).1 (TX4 2).2.1 (TX4 2).2.2.1 ∈ wsX4_undoWork := by decide +kernel
  have hw2 : Cond.initialized yX9_at.cls ∈ wsX4_undoWork := by decide +kernel
  have hw3 : Cond.static yX9_at ∈ wsX4_undoWork := by decide +kernel
  have hw4 : Cond.fieldLink RX4 30 (TX4 6).1 (TX4 6).2.1 (TX4 6).2.2.1 ∈ wsX4_undoWork := by decide +kernel
  refine x_lveq (lv' := [(0, .ref qN), (1, .int (jI i)), (2, .int (jI t)), (3, .int (jI cost))]) rfl ?_
  have hz := Rg.at hNz (i * 4 + t) (by omega)
  refine x_aload_n F dX4_undoWork_0 rfl 0 rfl ?_
  refine x_get (ci := 4) F hin4 0 rfl rfl 7 (by decide) hw0 rfl dX4_undoWork_1 ?_
  refine x_iload_n F dX4_undoWork_4 rfl 2 rfl ?_
  refine x_bipush F dX4_undoWork_5 (by decide) ?_
  refine x_imul F dX4_undoWork_7 ?_
  refine x_aload_n F dX4_undoWork_8 rfl 0 rfl ?_
  refine x_get (ci := 4) F hin4 0 rfl rfl 2 (by decide) hw1 rfl dX4_undoWork_9 ?_
  refine x_iload_n F dX4_undoWork_12 rfl 1 rfl ?_
  refine x_iconst F dX4_undoWork_13 ?_
  refine x_imul F dX4_undoWork_14 ?_
  refine x_iload_n F dX4_undoWork_15 rfl 2 rfl ?_
  refine x_iadd F dX4_undoWork_16 ?_
  refine x_callSNi (As := [.ref qN_zones, .int (jI ((i * 4) + t))]) (st := [.int (jI (t * 8)), .ref qN_scaffolds]) F (c_X9_at D kI kJ l qN_zones ((i * 4) + t) 24 fN_zones (by omega) (by omega)) ⟨va_cnB 2 F.2.2.2.2.1 gX4_undoWork_X9_at_n85 rfl rfl rfl (nM20 F.2.2.2.2.2.2.2) (F.2.2.2.2.1 _ hw2) (by decide +kernel) ⟨Nat.le_of_ble_eq_true rfl, Nat.le_of_ble_eq_true rfl⟩, F.2.2.2.2.1 _ hw3, trivial⟩ [1] [0, 2, 3] [0, 3, 1, 2] rfl rfl (by decide) (by decide) (by decide) (fun _ => rfl) (by decide) rfl (Nat.le_of_ble_eq_true rfl) dX4_undoWork_17 ⟨Nat.le_of_ble_eq_true rfl, Nat.le_of_ble_eq_true rfl⟩ (fun z17 u17 h17 => ?_)
  try dsimp only at h17
  refine x_ws [(qN, .inr (4, [.ref qN_blocks, .ref qN_costs, .ref qN_zones, .ref qN_neglects, .ref qN_chosen, .ref qN_best, .ref qN_spent, .ref qN_scaffolds, .int (jI vN_size), .int (jI vN_start), .int (jI vN_span), .int (jI vN_coin), .int (jI vN_least)])), aI kI qN_zones 24 fN_zones, aI kI qN_spent 4 fN_spent, aI kI qN_scaffolds 32 fN_scaffolds] rfl ?_
  have he17 := h17
  have he17 := he17.symm
  subst he17
  refine x_iadd F dX4_undoWork_20 ?_
  refine x_iconst F dX4_undoWork_21 ?_
  refine x_callSv (As := [.ref qN_scaffolds, .int (jI ((t * 8) + (fN_zones ((i * 4) + t)))), .int (jI (-1))]) (st := []) F (c_X4_change D kI kJ l qN_scaffolds ((t * 8) + (fN_zones ((i * 4) + t))) (-1) 32 fN_scaffolds (by omega) (by omega)) (va_cwS 3 F.2.2.2.2.1 gX4_undoWork_X4_change rfl rfl rfl (by decide +kernel) ⟨Nat.le_of_ble_eq_true rfl, Nat.le_of_ble_eq_true rfl⟩) [3] [0, 1, 2] [0, 1, 2, 3] rfl rfl (by decide) (by decide) (by decide) (fun _ => rfl) (by decide) rfl (Nat.le_of_ble_eq_true rfl) dX4_undoWork_22 ⟨Nat.le_of_ble_eq_true rfl, Nat.le_of_ble_eq_true rfl⟩ (fun u22 h22 => ?_)
  try dsimp only at h22
  refine x_ws [(qN, .inr (4, [.ref qN_blocks, .ref qN_costs, .ref qN_zones, .ref qN_neglects, .ref qN_chosen, .ref qN_best, .ref qN_spent, .ref qN_scaffolds, .int (jI vN_size), .int (jI vN_start), .int (jI vN_span), .int (jI vN_coin), .int (jI vN_least)])), aI kI qN_zones 24 fN_zones, aI kI qN_spent 4 fN_spent, aI kI qN_scaffolds 32 (iU fN_scaffolds ((t * 8) + (fN_zones ((i * 4) + t))) (fN_scaffolds ((t * 8) + (fN_zones ((i * 4) + t))) + (-1)))] rfl ?_
  refine x_aload_n F dX4_undoWork_25 rfl 0 rfl ?_
  refine x_get (ci := 4) F hin4 0 rfl rfl 6 (by decide) hw4 rfl dX4_undoWork_26 ?_
  refine x_iload_n F dX4_undoWork_29 rfl 2 rfl ?_
  refine x_iload_n F dX4_undoWork_30 rfl 3 rfl ?_
  refine x_ineg F dX4_undoWork_31 ?_
  refine x_callSv (As := [.ref qN_spent, .int (jI t), .int (jI (-cost))]) (st := []) F (c_X4_change D kI kJ l qN_spent t (-cost) 4 fN_spent (by omega) (by omega)) (va_cwS 3 F.2.2.2.2.1 gX4_undoWork_X4_change rfl rfl rfl (by decide +kernel) ⟨Nat.le_of_ble_eq_true rfl, Nat.le_of_ble_eq_true rfl⟩) [2] [0, 1, 3] [0, 1, 3, 2] rfl rfl (by decide) (by decide) (by decide) (fun _ => rfl) (by decide) rfl (Nat.le_of_ble_eq_true rfl) dX4_undoWork_32 ⟨Nat.le_of_ble_eq_true rfl, Nat.le_of_ble_eq_true rfl⟩ (fun u32 h32 => ?_)
  try dsimp only at h32
  refine x_ws [(qN, .inr (4, [.ref qN_blocks, .ref qN_costs, .ref qN_zones, .ref qN_neglects, .ref qN_chosen, .ref qN_best, .ref qN_spent, .ref qN_scaffolds, .int (jI vN_size), .int (jI vN_start), .int (jI vN_span), .int (jI vN_coin), .int (jI vN_least)])), aI kI qN_zones 24 fN_zones, aI kI qN_spent 4 (iU fN_spent t (fN_spent t + (-cost))), aI kI qN_scaffolds 32 (iU fN_scaffolds ((t * 8) + (fN_zones ((i * 4) + t))) (fN_scaffolds ((t * 8) + (fN_zones ((i * 4) + t))) + (-1)))] rfl ?_
  exact hret 0 0 35 _ () (Nat.le_of_ble_eq_true rfl) (Nat.le_of_ble_eq_true rfl) dX4_undoWork_35 (trivial)
