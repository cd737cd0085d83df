set_option maxHeartbeats 4000000 in
set_option maxRecDepth 100000 in
theorem c_X7_init (D : va_G) (kI kJ : Nat) (l : Launch) (qP : Nat)  : xMv D kI kJ l yX7_init wsX7_init 1 64 4 581 [.ref qP] [(qP, .inr (7, [.null, .null, .null, .null, .int (jI 0)]))] (fun (u : Nat × Nat × Nat × Nat) => True) (fun (u : Nat × Nat × Nat × Nat) => [(qP, .inr (7, [.ref u.1, .ref u.2.1, .ref u.2.2.1, .ref u.2.2.2, .int (jI 0)])), aI kI u.1 60 (fun _ => 0), aI kI u.2.1 60 (fun _ => 0), aI kI u.2.2.1 60 (fun _ => 0), aI kI u.2.2.2 401 (fun _ => 0)]) := by
  refine xMv_of (cc := cX7_init) (maxL := 1) (by decide) rfl (Nat.le_of_ble_eq_true rfl) ?_
  intro p e s m args below meth c A Q F hctr hret
  have hin7 : ∀ w ∈ wsX70, w ∈ wsX7_init := by decide +kernel
  have hw0 : Cond.methodLink RX7 3 objectInit ∈ wsX7_init := by decide +kernel
  have hw1 : Cond.instanceMethod objectInit ∈ wsX7_init := by decide +kernel
  have hw2 : Cond.code objectInit ⟨#[0xb1]⟩ 1 none ∈ wsX7_init := by decide +kernel
  have hw3 : Cond.arrayClass .int ∈ wsX7_init := by decide +kernel
  have hw4 : Cond.fieldLink RX7 9 (TX7 0).1 (TX7 0).2.1 (TX7 0).2.2.1 ∈ wsX7_init := by decide +kernel
  have hw5 : Cond.fieldLink RX7 15 (TX7 1).1 (TX7 1).2.1 (TX7 1).2.2.1 ∈ wsX7_init := by decide +kernel
  have hw6 : Cond.fieldLink RX7 18 (TX7 2).1 (TX7 2).2.1 (TX7 2).2.2.1 ∈ wsX7_init := by decide +kernel
  have hw7 : Cond.fieldLink RX7 21 (TX7 3).1 (TX7 3).2.1 (TX7 3).2.2.1 ∈ wsX7_init := by decide +kernel
  refine x_lveq (lv' := [(0, .ref qP)]) rfl ?_
  refine x_aload_n F dX7_init_0 rfl 0 rfl ?_
  refine x_objInit F hw0 hw1 hw2 dX7_init_1 (Nat.le_of_ble_eq_true rfl) (Nat.le_of_ble_eq_true rfl) ?_
  refine x_aload_n F dX7_init_4 rfl 0 rfl ?_
  refine x_bipush F dX7_init_5 (by decide) ?_
  refine x_newaI F 60 hw3 (by decide) (by decide) (by decide) (Nat.le_of_ble_eq_true rfl) (Nat.le_of_ble_eq_true rfl) dX7_init_7 (fun q7 => ?_)
  refine x_ws [(qP, .inr (7, [.null, .null, .null, .null, .int (jI 0)])), aI kI q7 60 (fun _ => 0)] rfl ?_
  refine x_widen 1 60 (Nat.le_of_ble_eq_true rfl) (Nat.le_of_ble_eq_true rfl) ?_
  refine x_putF (ci := 7) F hctr hin7 tyX7_ok nmX7 0 rfl rfl 0 (by decide) hw4 rfl rfl rfl rfl (show 0 + 1 ≤ _ from Nat.le_of_ble_eq_true rfl) dX7_init_9 [(qP, .inr (7, [.ref q7, .null, .null, .null, .int (jI 0)])), aI kI q7 60 (fun _ => 0)] rfl ?_
  refine x_aload_n F dX7_init_12 rfl 0 rfl ?_
  refine x_bipush F dX7_init_13 (by decide) ?_
  refine x_newaI F 60 hw3 (by decide) (by decide) (by decide) (Nat.le_of_ble_eq_true rfl) (Nat.le_of_ble_eq_true rfl) dX7_init_15 (fun q15 => ?_)
  refine x_ws [(qP, .inr (7, [.ref q7, .null, .null, .null, .int (jI 0)])), aI kI q7 60 (fun _ => 0), aI kI q15 60 (fun _ => 0)] rfl ?_
  refine x_widen 2 120 (Nat.le_of_ble_eq_true rfl) (Nat.le_of_ble_eq_true rfl) ?_
  refine x_putF (ci := 7) F hctr hin7 tyX7_ok nmX7 0 rfl rfl 1 (by decide) hw5 rfl rfl rfl rfl (show 1 + 1 ≤ _ from Nat.le_of_ble_eq_true rfl) dX7_init_17 [(qP, .inr (7, [.ref q7, .ref q15, .null, .null, .int (jI 0)])), aI kI q7 60 (fun _ => 0), aI kI q15 60 (fun _ => 0)] rfl ?_
  refine x_aload_n F dX7_init_20 rfl 0 rfl ?_
  refine x_bipush F dX7_init_21 (by decide) ?_
  refine x_newaI F 60 hw3 (by decide) (by decide) (by decide) (Nat.le_of_ble_eq_true rfl) (Nat.le_of_ble_eq_true rfl) dX7_init_23 (fun q23 => ?_)
  refine x_ws [(qP, .inr (7, [.ref q7, .ref q15, .null, .null, .int (jI 0)])), aI kI q7 60 (fun _ => 0), aI kI q15 60 (fun _ => 0), aI kI q23 60 (fun _ => 0)] rfl ?_
  refine x_widen 3 180 (Nat.le_of_ble_eq_true rfl) (Nat.le_of_ble_eq_true rfl) ?_
  refine x_putF (ci := 7) F hctr hin7 tyX7_ok nmX7 0 rfl rfl 2 (by decide) hw6 rfl rfl rfl rfl (show 2 + 1 ≤ _ from Nat.le_of_ble_eq_true rfl) dX7_init_25 [(qP, .inr (7, [.ref q7, .ref q15, .ref q23, .null, .int (jI 0)])), aI kI q7 60 (fun _ => 0), aI kI q15 60 (fun _ => 0), aI kI q23 60 (fun _ => 0)] rfl ?_
  refine x_aload_n F dX7_init_28 rfl 0 rfl ?_
  refine x_sipush F dX7_init_29 (by decide) ?_
  refine x_newaI F 401 hw3 (by decide) (by decide) (by decide) (Nat.le_of_ble_eq_true rfl) (Nat.le_of_ble_eq_true rfl) dX7_init_32 (fun q32 => ?_)
  refine x_ws [(qP, .inr (7, [.ref q7, .ref q15, .ref q23, .null, .int (jI 0)])), aI kI q7 60 (fun _ => 0), aI kI q15 60 (fun _ => 0), aI kI q23 60 (fun _ => 0), aI kI q32 401 (fun _ => 0)] rfl ?_
  refine x_widen 4 581 (Nat.le_of_ble_eq_true rfl) (Nat.le_of_ble_eq_true rfl) ?_
  refine x_putF (ci := 7) F hctr hin7 tyX7_ok nmX7 0 rfl rfl 3 (by decide) hw7 rfl rfl rfl rfl (show 3 + 1 ≤ _ from Nat.le_of_ble_eq_true rfl) dX7_init_34 [(qP, .inr (7, [.ref q7, .ref q15, .ref q23, .ref q32, .int (jI 0)])), aI kI q7 60 (fun _ => 0), aI kI q15 60 (fun _ => 0), aI kI q23 60 (fun _ => 0), aI kI q32 401 (fun _ => 0)] rfl ?_
  exact hret 4 581 37 _ (q7, q15, q23, q32) (Nat.le_of_ble_eq_true rfl) (Nat.le_of_ble_eq_true rfl) dX7_init_37 (trivial)
set_option maxHeartbeats 4000000 in
set_option maxRecDepth 100000 in
theorem c_X0_init (D : va_G) (kI kJ : Nat) (l : Launch) (qC : Nat)  : xMv D kI kJ l yX0_init wsX0_init 1 64 3 1203 [.ref qC] [(qC, .inr (0, [.null, .null, .null, .int (jI 0)]))] (fun (u : Nat × Nat × Nat) => True) (fun (u : Nat × Nat × Nat) => [(qC, .inr (0, [.ref u.1, .ref u.2.1, .ref u.2.2, .int (jI (-1))])), aI kI u.1 401 (fun _ => 0), aI kI u.2.1 401 (fun _ => 0), aI kI u.2.2 401 (fun _ => 0)]) := by
  refine xMv_of (cc := cX0_init) (maxL := 1) (by decide) rfl (Nat.le_of_ble_eq_true rfl) ?_
  intro p e s m args below meth c A Q F hctr hret
  have hin0 : ∀ w ∈ wsX00, w ∈ wsX0_init := by decide +kernel
  have hw0 : Cond.methodLink RX0 3 objectInit ∈ wsX0_init := by decide +kernel
  have hw1 : Cond.instanceMethod objectInit ∈ wsX0_init := by decide +kernel
  have hw2 : Cond.code objectInit ⟨#[0xb1]⟩ 1 none ∈ wsX0_init := by decide +kernel
  have hw3 : Cond.arrayClass .int ∈ wsX0_init := by decide +kernel
  have hw4 : Cond.fieldLink RX0 9 (TX0 0).1 (TX0 0).2.1 (TX0 0).2.2.1 ∈ wsX0_init := by decide +kernel
  have hw5 : Cond.fieldLink RX0 15 (TX0 1).1 (TX0 1).2.1 (TX0 1).2.2.1 ∈ wsX0_init := by decide +kernel
  have hw6 : Cond.fieldLink RX0 18 (TX0 2).1 (TX0 2).2.1 (TX0 2).2.2.1 ∈ wsX0_init := by decide +kernel
  have hw7 : Cond.fieldLink RX0 21 (TX0 3).1 (TX0 3).2.1 (TX0 3).2.2.1 ∈ wsX0_init := by decide +kernel
  refine x_lveq (lv' := [(0, .ref qC)]) rfl ?_
  refine x_aload_n F dX0_init_0 rfl 0 rfl ?_
  refine x_objInit F hw0 hw1 hw2 dX0_init_1 (Nat.le_of_ble_eq_true rfl) (Nat.le_of_ble_eq_true rfl) ?_
  refine x_aload_n F dX0_init_4 rfl 0 rfl ?_
  refine x_sipush F dX0_init_5 (by decide) ?_
  refine x_newaI F 401 hw3 (by decide) (by decide) (by decide) (Nat.le_of_ble_eq_true rfl) (Nat.le_of_ble_eq_true rfl) dX0_init_8 (fun q8 => ?_)
  refine x_ws [(qC, .inr (0, [.null, .null, .null, .int (jI 0)])), aI kI q8 401 (fun _ => 0)] rfl ?_
  refine x_widen 1 401 (Nat.le_of_ble_eq_true rfl) (Nat.le_of_ble_eq_true rfl) ?_
  refine x_putF (ci := 0) F hctr hin0 tyX0_ok nmX0 0 rfl rfl 0 (by decide) hw4 rfl rfl rfl rfl (show 0 + 1 ≤ _ from Nat.le_of_ble_eq_true rfl) dX0_init_10 [(qC, .inr (0, [.ref q8, .null, .null, .int (jI 0)])), aI kI q8 401 (fun _ => 0)] rfl ?_
  refine x_aload_n F dX0_init_13 rfl 0 rfl ?_
  refine x_sipush F dX0_init_14 (by decide) ?_
  refine x_newaI F 401 hw3 (by decide) (by decide) (by decide) (Nat.le_of_ble_eq_true rfl) (Nat.le_of_ble_eq_true rfl) dX0_init_17 (fun q17 => ?_)
  refine x_ws [(qC, .inr (0, [.ref q8, .null, .null, .int (jI 0)])), aI kI q8 401 (fun _ => 0), aI kI q17 401 (fun _ => 0)] rfl ?_
  refine x_widen 2 802 (Nat.le_of_ble_eq_true rfl) (Nat.le_of_ble_eq_true rfl) ?_
  refine x_putF (ci := 0) F hctr hin0 tyX0_ok nmX0 0 rfl rfl 1 (by decide) hw5 rfl rfl rfl rfl (show 1 + 1 ≤ _ from Nat.le_of_ble_eq_true rfl) dX0_init_19 [(qC, .inr (0, [.ref q8, .ref q17, .null, .int (jI 0)])), aI kI q8 401 (fun _ => 0), aI kI q17 401 (fun _ => 0)] rfl ?_
  refine x_aload_n F dX0_init_22 rfl 0 rfl ?_
  refine x_sipush F dX0_init_23 (by decide) ?_
  refine x_newaI F 401 hw3 (by decide) (by decide) (by decide) (Nat.le_of_ble_eq_true rfl) (Nat.le_of_ble_eq_true rfl) dX0_init_26 (fun q26 => ?_)
  refine x_ws [(qC, .inr (0, [.ref q8, .ref q17, .null, .int (jI 0)])), aI kI q8 401 (fun _ => 0), aI kI q17 401 (fun _ => 0), aI kI q26 401 (fun _ => 0)] rfl ?_
  refine x_widen 3 1203 (Nat.le_of_ble_eq_true rfl) (Nat.le_of_ble_eq_true rfl) ?_
  refine x_putF (ci := 0) F hctr hin0 tyX0_ok nmX0 0 rfl rfl 2 (by decide) hw6 rfl rfl rfl rfl (show 2 + 1 ≤ _ from Nat.le_of_ble_eq_true rfl) dX0_init_28 [(qC, .inr (0, [.ref q8, .ref q17, .ref q26, .int (jI 0)])), aI kI q8 401 (fun _ => 0), aI kI q17 401 (fun _ => 0), aI kI q26 401 (fun _ => 0)] rfl ?_
  refine x_aload_n F dX0_init_31 rfl 0 rfl ?_
  refine x_iconst F dX0_init_32 ?_
  refine x_put (ci := 0) F hin0 tyX0_ok nmX0 0 rfl rfl 3 (by decide) hw7 rfl rfl rfl (show 3 + 1 ≤ _ from Nat.le_of_ble_eq_true rfl) dX0_init_33 [(qC, .inr (0, [.ref q8, .ref q17, .ref q26, .int (jI (-1))])), aI kI q8 401 (fun _ => 0), aI kI q17 401 (fun _ => 0), aI kI q26 401 (fun _ => 0)] rfl ?_
  exact hret 3 1203 36 _ (q8, q17, q26) (Nat.le_of_ble_eq_true rfl) (Nat.le_of_ble_eq_true rfl) dX0_init_36 (trivial)
set_option maxHeartbeats 4000000 in
set_option maxRecDepth 100000 in
theorem c_X1_init (D : va_G) (kI kJ : Nat) (l : Launch) (qFr : Nat)  : xMv D kI kJ l yX1_init wsX1_init 1 64 0 0 [.ref qFr] [(qFr, .inr (1, [.long (jL 0), .long (jL 0)]))] (fun (u : Unit) => True) (fun (u : Unit) => [(qFr, .inr (1, [.long (jL 0), .long (jL 1)]))]) := by
  refine xMv_of (cc := cX1_init) (maxL := 1) (by decide) rfl (Nat.le_of_ble_eq_true rfl) ?_
  intro p e s m args below meth c A Q F hctr hret
  have hin1 : ∀ w ∈ wsX10, w ∈ wsX1_init := by decide +kernel
  have hw0 : Cond.methodLink RX1 1 objectInit ∈ wsX1_init := by decide +kernel
  have hw1 : Cond.instanceMethod objectInit ∈ wsX1_init := by decide +kernel
  have hw2 : Cond.code objectInit ⟨#[0xb1]⟩ 1 none ∈ wsX1_init := by decide +kernel
  have hw3 : Cond.fieldLink RX1 7 (TX1 1).1 (TX1 1).2.1 (TX1 1).2.2.1 ∈ wsX1_init := by decide +kernel
  refine x_lveq (lv' := [(0, .ref qFr)]) rfl ?_
  refine x_aload_n F dX1_init_0 rfl 0 rfl ?_
  refine x_objInit F hw0 hw1 hw2 dX1_init_1 (Nat.le_of_ble_eq_true rfl) (Nat.le_of_ble_eq_true rfl) ?_
  refine x_aload_n F dX1_init_4 rfl 0 rfl ?_
  refine x_lconst F 1 dX1_init_5 (by decide) ?_
  refine x_put (ci := 1) F hin1 tyX1_ok nmX1 0 rfl rfl 1 (by decide) hw3 rfl rfl rfl (show 1 + 1 ≤ _ from Nat.le_of_ble_eq_true rfl) dX1_init_6 [(qFr, .inr (1, [.long (jL 0), .long (jL 1)]))] rfl ?_
  exact hret 0 0 9 _ () (Nat.le_of_ble_eq_true rfl) (Nat.le_of_ble_eq_true rfl) dX1_init_9 (trivial)
set_option maxHeartbeats 4000000 in
set_option maxRecDepth 100000 in
theorem c_X2_init (D : va_G) (kI kJ : Nat) (l : Launch) (qL : Nat)  : xMv D kI kJ l yX2_init wsX2_init 1 64 7 332 [.ref qL] [(qL, .inr (2, [.null, .null, .null, .null, .null, .null, .null, .int (jI 0), .int (jI 0), .int (jI 0)]))] (fun (u : Nat × Nat × Nat × Nat × Nat × Nat × Nat) => True) (fun (u : Nat × Nat × Nat × Nat × Nat × Nat × Nat) => [(qL, .inr (2, [.ref u.1, .ref u.2.1, .ref u.2.2.1, .ref u.2.2.2.1, .ref u.2.2.2.2.1, .ref u.2.2.2.2.2.1, .ref u.2.2.2.2.2.2, .int (jI 0), .int (jI 0), .int (jI 0)])), aI kI u.1 80 (fun _ => 0), aI kI u.2.1 80 (fun _ => 0), aI kI u.2.2.1 80 (fun _ => 0), aI kI u.2.2.2.1 80 (fun _ => 0), aI kI u.2.2.2.2.1 4 (fun _ => 0), aI kI u.2.2.2.2.2.1 4 (fun _ => 0), aI kI u.2.2.2.2.2.2 4 (fun _ => 0)]) := by
  refine xMv_of (cc := cX2_init) (maxL := 1) (by decide) rfl (Nat.le_of_ble_eq_true rfl) ?_
  intro p e s m args below meth c A Q F hctr hret
  have hin2 : ∀ w ∈ wsX20, w ∈ wsX2_init := by decide +kernel
  have hw0 : Cond.methodLink RX2 3 objectInit ∈ wsX2_init := by decide +kernel
  have hw1 : Cond.instanceMethod objectInit ∈ wsX2_init := by decide +kernel
  have hw2 : Cond.code objectInit ⟨#[0xb1]⟩ 1 none ∈ wsX2_init := by decide +kernel
  have hw3 : Cond.arrayClass .int ∈ wsX2_init := by decide +kernel
  have hw4 : Cond.fieldLink RX2 9 (TX2 0).1 (TX2 0).2.1 (TX2 0).2.2.1 ∈ wsX2_init := by decide +kernel
  have hw5 : Cond.fieldLink RX2 15 (TX2 1).1 (TX2 1).2.1 (TX2 1).2.2.1 ∈ wsX2_init := by decide +kernel
  have hw6 : Cond.fieldLink RX2 18 (TX2 2).1 (TX2 2).2.1 (TX2 2).2.2.1 ∈ wsX2_init := by decide +kernel
  have hw7 : Cond.fieldLink RX2 21 (TX2 3).1 (TX2 3).2.1 (TX2 3).2.2.1 ∈ wsX2_init := by decide +kernel
  have hw8 : Cond.fieldLink RX2 24 (TX2 4).1 (TX2 4).2.1 (TX2 4).2.2.1 ∈ wsX2_init := by decide +kernel
  have hw9 : Cond.fieldLink RX2 27 (TX2 5).1 (TX2 5).2.1 (TX2 5).2.2.1 ∈ wsX2_init := by decide +kernel
  have hw10 : Cond.fieldLink RX2 30 (TX2 6).1 (TX2 6).2.1 (TX2 6).2.2.1 ∈ wsX2_init := by decide +kernel
  refine x_lveq (lv' := [(0, .ref qL)]) rfl ?_
  refine x_aload_n F dX2_init_0 rfl 0 rfl ?_
  refine x_objInit F hw0 hw1 hw2 dX2_init_1 (Nat.le_of_ble_eq_true rfl) (Nat.le_of_ble_eq_true rfl) ?_
  refine x_aload_n F dX2_init_4 rfl 0 rfl ?_
  refine x_bipush F dX2_init_5 (by decide) ?_
  refine x_newaI F 80 hw3 (by decide) (by decide) (by decide) (Nat.le_of_ble_eq_true rfl) (Nat.le_of_ble_eq_true rfl) dX2_init_7 (fun q7 => ?_)
  refine x_ws [(qL, .inr (2, [.null, .null, .null, .null, .null, .null, .null, .int (jI 0), .int (jI 0), .int (jI 0)])), aI kI q7 80 (fun _ => 0)] rfl ?_
  refine x_widen 1 80 (Nat.le_of_ble_eq_true rfl) (Nat.le_of_ble_eq_true rfl) ?_
  refine x_putF (ci := 2) F hctr hin2 tyX2_ok nmX2 0 rfl rfl 0 (by decide) hw4 rfl rfl rfl rfl (show 0 + 1 ≤ _ from Nat.le_of_ble_eq_true rfl) dX2_init_9 [(qL, .inr (2, [.ref q7, .null, .null, .null, .null, .null, .null, .int (jI 0), .int (jI 0), .int (jI 0)])), aI kI q7 80 (fun _ => 0)] rfl ?_
  refine x_aload_n F dX2_init_12 rfl 0 rfl ?_
  refine x_bipush F dX2_init_13 (by decide) ?_
  refine x_newaI F 80 hw3 (by decide) (by decide) (by decide) (Nat.le_of_ble_eq_true rfl) (Nat.le_of_ble_eq_true rfl) dX2_init_15 (fun q15 => ?_)
  refine x_ws [(qL, .inr (2, [.ref q7, .null, .null, .null, .null, .null, .null, .int (jI 0), .int (jI 0), .int (jI 0)])), aI kI q7 80 (fun _ => 0), aI kI q15 80 (fun _ => 0)] rfl ?_
  refine x_widen 2 160 (Nat.le_of_ble_eq_true rfl) (Nat.le_of_ble_eq_true rfl) ?_
  refine x_putF (ci := 2) F hctr hin2 tyX2_ok nmX2 0 rfl rfl 1 (by decide) hw5 rfl rfl rfl rfl (show 1 + 1 ≤ _ from Nat.le_of_ble_eq_true rfl) dX2_init_17 [(qL, .inr (2, [.ref q7, .ref q15, .null, .null, .null, .null, .null, .int (jI 0), .int (jI 0), .int (jI 0)])), aI kI q7 80 (fun _ => 0), aI kI q15 80 (fun _ => 0)] rfl ?_
  refine x_aload_n F dX2_init_20 rfl 0 rfl ?_
  refine x_bipush F dX2_init_21 (by decide) ?_
  refine x_newaI F 80 hw3 (by decide) (by decide) (by decide) (Nat.le_of_ble_eq_true rfl) (Nat.le_of_ble_eq_true rfl) dX2_init_23 (fun q23 => ?_)
  refine x_ws [(qL, .inr (2, [.ref q7, .ref q15, .null, .null, .null, .null, .null, .int (jI 0), .int (jI 0), .int (jI 0)])), aI kI q7 80 (fun _ => 0), aI kI q15 80 (fun _ => 0), aI kI q23 80 (fun _ => 0)] rfl ?_
  refine x_widen 3 240 (Nat.le_of_ble_eq_true rfl) (Nat.le_of_ble_eq_true rfl) ?_
  refine x_putF (ci := 2) F hctr hin2 tyX2_ok nmX2 0 rfl rfl 2 (by decide) hw6 rfl rfl rfl rfl (show 2 + 1 ≤ _ from Nat.le_of_ble_eq_true rfl) dX2_init_25 [(qL, .inr (2, [.ref q7, .ref q15, .ref q23, .null, .null, .null, .null, .int (jI 0), .int (jI 0), .int (jI 0)])), aI kI q7 80 (fun _ => 0), aI kI q15 80 (fun _ => 0), aI kI q23 80 (fun _ => 0)] rfl ?_
  refine x_aload_n F dX2_init_28 rfl 0 rfl ?_
  refine x_bipush F dX2_init_29 (by decide) ?_
  refine x_newaI F 80 hw3 (by decide) (by decide) (by decide) (Nat.le_of_ble_eq_true rfl) (Nat.le_of_ble_eq_true rfl) dX2_init_31 (fun q31 => ?_)
  refine x_ws [(qL, .inr (2, [.ref q7, .ref q15, .ref q23, .null, .null, .null, .null, .int (jI 0), .int (jI 0), .int (jI 0)])), aI kI q7 80 (fun _ => 0), aI kI q15 80 (fun _ => 0), aI kI q23 80 (fun _ => 0), aI kI q31 80 (fun _ => 0)] rfl ?_
  refine x_widen 4 320 (Nat.le_of_ble_eq_true rfl) (Nat.le_of_ble_eq_true rfl) ?_
  refine x_putF (ci := 2) F hctr hin2 tyX2_ok nmX2 0 rfl rfl 3 (by decide) hw7 rfl rfl rfl rfl (show 3 + 1 ≤ _ from Nat.le_of_ble_eq_true rfl) dX2_init_33 [(qL, .inr (2, [.ref q7, .ref q15, .ref q23, .ref q31, .null, .null, .null, .int (jI 0), .int (jI 0), .int (jI 0)])), aI kI q7 80 (fun _ => 0), aI kI q15 80 (fun _ => 0), aI kI q23 80 (fun _ => 0), aI kI q31 80 (fun _ => 0)] rfl ?_
  refine x_aload_n F dX2_init_36 rfl 0 rfl ?_
  refine x_iconst F dX2_init_37 ?_
  refine x_newaI F 4 hw3 (by decide) (by decide) (by decide) (Nat.le_of_ble_eq_true rfl) (Nat.le_of_ble_eq_true rfl) dX2_init_38 (fun q38 => ?_)
  refine x_ws [(qL, .inr (2, [.ref q7, .ref q15, .ref q23, .ref q31, .null, .null, .null, .int (jI 0), .int (jI 0), .int (jI 0)])), aI kI q7 80 (fun _ => 0), aI kI q15 80 (fun _ => 0), aI kI q23 80 (fun _ => 0), aI kI q31 80 (fun _ => 0), aI kI q38 4 (fun _ => 0)] rfl ?_
  refine x_widen 5 324 (Nat.le_of_ble_eq_true rfl) (Nat.le_of_ble_eq_true rfl) ?_
  refine x_putF (ci := 2) F hctr hin2 tyX2_ok nmX2 0 rfl rfl 4 (by decide) hw8 rfl rfl rfl rfl (show 4 + 1 ≤ _ from Nat.le_of_ble_eq_true rfl) dX2_init_40 [(qL, .inr (2, [.ref q7, .ref q15, .ref q23, .ref q31, .ref q38, .null, .null, .int (jI 0), .int (jI 0), .int (jI 0)])), aI kI q7 80 (fun _ => 0), aI kI q15 80 (fun _ => 0), aI kI q23 80 (fun _ => 0), aI kI q31 80 (fun _ => 0), aI kI q38 4 (fun _ => 0)] rfl ?_
  refine x_aload_n F dX2_init_43 rfl 0 rfl ?_
  refine x_iconst F dX2_init_44 ?_
  refine x_newaI F 4 hw3 (by decide) (by decide) (by decide) (Nat.le_of_ble_eq_true rfl) (Nat.le_of_ble_eq_true rfl) dX2_init_45 (fun q45 => ?_)
  refine x_ws [(qL, .inr (2, [.ref q7, .ref q15, .ref q23, .ref q31, .ref q38, .null, .null, .int (jI 0), .int (jI 0), .int (jI 0)])), aI kI q7 80 (fun _ => 0), aI kI q15 80 (fun _ => 0), aI kI q23 80 (fun _ => 0), aI kI q31 80 (fun _ => 0), aI kI q38 4 (fun _ => 0), aI kI q45 4 (fun _ => 0)] rfl ?_
  refine x_widen 6 328 (Nat.le_of_ble_eq_true rfl) (Nat.le_of_ble_eq_true rfl) ?_
  refine x_putF (ci := 2) F hctr hin2 tyX2_ok nmX2 0 rfl rfl 5 (by decide) hw9 rfl rfl rfl rfl (show 5 + 1 ≤ _ from Nat.le_of_ble_eq_true rfl) dX2_init_47 [(qL, .inr (2, [.ref q7, .ref q15, .ref q23, .ref q31, .ref q38, .ref q45, .null, .int (jI 0), .int (jI 0), .int (jI 0)])), aI kI q7 80 (fun _ => 0), aI kI q15 80 (fun _ => 0), aI kI q23 80 (fun _ => 0), aI kI q31 80 (fun _ => 0), aI kI q38 4 (fun _ => 0), aI kI q45 4 (fun _ => 0)] rfl ?_
  refine x_aload_n F dX2_init_50 rfl 0 rfl ?_
  refine x_iconst F dX2_init_51 ?_
  refine x_newaI F 4 hw3 (by decide) (by decide) (by decide) (Nat.le_of_ble_eq_true rfl) (Nat.le_of_ble_eq_true rfl) dX2_init_52 (fun q52 => ?_)
  refine x_ws [(qL, .inr (2, [.ref q7, .ref q15, .ref q23, .ref q31, .ref q38, .ref q45, .null, .int (jI 0), .int (jI 0), .int (jI 0)])), aI kI q7 80 (fun _ => 0), aI kI q15 80 (fun _ => 0), aI kI q23 80 (fun _ => 0), aI kI q31 80 (fun _ => 0), aI kI q38 4 (fun _ => 0), aI kI q45 4 (fun _ => 0), aI kI q52 4 (fun _ => 0)] rfl ?_
  refine x_widen 7 332 (Nat.le_of_ble_eq_true rfl) (Nat.le_of_ble_eq_true rfl) ?_
  refine x_putF (ci := 2) F hctr hin2 tyX2_ok nmX2 0 rfl rfl 6 (by decide) hw10 rfl rfl rfl rfl (show 6 + 1 ≤ _ from Nat.le_of_ble_eq_true rfl) dX2_init_54 [(qL, .inr (2, [.ref q7, .ref q15, .ref q23, .ref q31, .ref q38, .ref q45, .ref q52, .int (jI 0), .int (jI 0), .int (jI 0)])), aI kI q7 80 (fun _ => 0), aI kI q15 80 (fun _ => 0), aI kI q23 80 (fun _ => 0), aI kI q31 80 (fun _ => 0), aI kI q38 4 (fun _ => 0), aI kI q45 4 (fun _ => 0), aI kI q52 4 (fun _ => 0)] rfl ?_
  exact hret 7 332 57 _ (q7, q15, q23, q31, q38, q45, q52) (Nat.le_of_ble_eq_true rfl) (Nat.le_of_ble_eq_true rfl) dX2_init_57 (trivial)
set_option maxHeartbeats 4000000 in
set_option maxRecDepth 100000 in
theorem c_X4_init (D : va_G) (kI kJ : Nat) (l : Launch) (qN : Nat)  : xMv D kI kJ l yX4_init wsX4_init 1 64 8 108 [.ref qN] [(qN, .inr (4, [.null, .null, .null, .null, .null, .null, .null, .null, .int (jI 0), .int (jI 0), .int (jI 0), .int (jI 0), .int (jI 0)]))] (fun (u : Nat × Nat × Nat × Nat × Nat × Nat × Nat × Nat) => True) (fun (u : Nat × Nat × Nat × Nat × Nat × Nat × Nat × Nat) => [(qN, .inr (4, [.ref u.1, .ref u.2.1, .ref u.2.2.1, .ref u.2.2.2.1, .ref u.2.2.2.2.1, .ref u.2.2.2.2.2.1, .ref u.2.2.2.2.2.2.1, .ref u.2.2.2.2.2.2.2, .int (jI 0), .int (jI 0), .int (jI 0), .int (jI 0), .int (jI 0)])), aI kI u.1 6 (fun _ => 0), aI kI u.2.1 24 (fun _ => 0), aI kI u.2.2.1 24 (fun _ => 0), aI kI u.2.2.2.1 6 (fun _ => 0), aI kI u.2.2.2.2.1 6 (fun _ => 0), aI kI u.2.2.2.2.2.1 6 (fun _ => 0), aI kI u.2.2.2.2.2.2.1 4 (fun _ => 0), aI kI u.2.2.2.2.2.2.2 32 (fun _ => 0)]) := by
  refine xMv_of (cc := cX4_init) (maxL := 1) (by decide) rfl (Nat.le_of_ble_eq_true rfl) ?_
  intro p e s m args below meth c A Q F hctr hret
  have hin4 : ∀ w ∈ wsX40, w ∈ wsX4_init := by decide +kernel
  have hw0 : Cond.methodLink RX4 3 objectInit ∈ wsX4_init := by decide +kernel
  have hw1 : Cond.instanceMethod objectInit ∈ wsX4_init := by decide +kernel
  have hw2 : Cond.code objectInit ⟨#[0xb1]⟩ 1 none ∈ wsX4_init := by decide +kernel
  have hw3 : Cond.arrayClass .int ∈ wsX4_init := by decide +kernel
  have hw4 : Cond.fieldLink RX4 9 (TX4 0).1 (TX4 0).2.1 (TX4 0).2.2.1 ∈ wsX4_init := by decide +kernel
  have hw5 : Cond.fieldLink RX4 15 (TX4 1).1 (TX4 1).2.1 (TX4 1).2.2.1 ∈ wsX4_init := by decide +kernel
  have hw6 : Cond.fieldLink RX4 18 (TX4 2).1 (TX4 2).2.1 (TX4 2).2.2.1 ∈ wsX4_init := by decide +kernel
  have hw7 : Cond.fieldLink RX4 21 (TX4 3).1 (TX4 3).2.1 (TX4 3).2.2.1 ∈ wsX4_init := by decide +kernel
  have hw8 : Cond.fieldLink RX4 24 (TX4 4).1 (TX4 4).2.1 (TX4 4).2.2.1 ∈ wsX4_init := by decide +kernel
  have hw9 : Cond.fieldLink RX4 27 (TX4 5).1 (TX4 5).2.1 (TX4 5).2.2.1 ∈ wsX4_init := by decide +kernel
  have hw10 : Cond.fieldLink RX4 30 (TX4 6).1 (TX4 6).2.1 (TX4 6).2.2.1 ∈ wsX4_init := by decide +kernel
  have hw11 : Cond.fieldLink RX4 33 (TX4 7).1 (TX4 7).2.1 (TX4 7).2.2.1 ∈ wsX4_init := by decide +kernel
  refine x_lveq (lv' := [(0, .ref qN)]) rfl ?_
  refine x_aload_n F dX4_init_0 rfl 0 rfl ?_
  refine x_objInit F hw0 hw1 hw2 dX4_init_1 (Nat.le_of_ble_eq_true rfl) (Nat.le_of_ble_eq_true rfl) ?_
  refine x_aload_n F dX4_init_4 rfl 0 rfl ?_
  refine x_bipush F dX4_init_5 (by decide) ?_
  refine x_newaI F 6 hw3 (by decide) (by decide) (by decide) (Nat.le_of_ble_eq_true rfl) (Nat.le_of_ble_eq_true rfl) dX4_init_7 (fun q7 => ?_)
  refine x_ws [(qN, .inr (4, [.null, .null, .null, .null, .null, .null, .null, .null, .int (jI 0), .int (jI 0), .int (jI 0), .int (jI 0), .int (jI 0)])), aI kI q7 6 (fun _ => 0)] rfl ?_
  refine x_widen 1 6 (Nat.le_of_ble_eq_true rfl) (Nat.le_of_ble_eq_true rfl) ?_
  refine x_putF (ci := 4) F hctr hin4 tyX4_ok nmX4 0 rfl rfl 0 (by decide) hw4 rfl rfl rfl rfl (show 0 + 1 ≤ _ from Nat.le_of_ble_eq_true rfl) dX4_init_9 [(qN, .inr (4, [.ref q7, .null, .null, .null, .null, .null, .null, .null, .int (jI 0), .int (jI 0), .int (jI 0), .int (jI 0), .int (jI 0)])), aI kI q7 6 (fun _ => 0)] rfl ?_
  refine x_aload_n F dX4_init_12 rfl 0 rfl ?_
  refine x_bipush F dX4_init_13 (by decide) ?_
  refine x_newaI F 24 hw3 (by decide) (by decide) (by decide) (Nat.le_of_ble_eq_true rfl) (Nat.le_of_ble_eq_true rfl) dX4_init_15 (fun q15 => ?_)
  refine x_ws [(qN, .inr (4, [.ref q7, .null, .null, .null, .null, .null, .null, .null, .int (jI 0), .int (jI 0), .int (jI 0), .int (jI 0), .int (jI 0)])), aI kI q7 6 (fun _ => 0), aI kI q15 24 (fun _ => 0)] rfl ?_
  refine x_widen 2 30 (Nat.le_of_ble_eq_true rfl) (Nat.le_of_ble_eq_true rfl) ?_
  refine x_putF (ci := 4) F hctr hin4 tyX4_ok nmX4 0 rfl rfl 1 (by decide) hw5 rfl rfl rfl rfl (show 1 + 1 ≤ _ from Nat.le_of_ble_eq_true rfl) dX4_init_17 [(qN, .inr (4, [.ref q7, .ref q15, .null, .null, .null, .null, .null, .null, .int (jI 0), .int (jI 0), .int (jI 0), .int (jI 0), .int (jI 0)])), aI kI q7 6 (fun _ => 0), aI kI q15 24 (fun _ => 0)] rfl ?_
  refine x_aload_n F dX4_init_20 rfl 0 rfl ?_
  refine x_bipush F dX4_init_21 (by decide) ?_
  refine x_newaI F 24 hw3 (by decide) (by decide) (by decide) (Nat.le_of_ble_eq_true rfl) (Nat.le_of_ble_eq_true rfl) dX4_init_23 (fun q23 => ?_)
  refine x_ws [(qN, .inr (4, [.ref q7, .ref q15, .null, .null, .null, .null, .null, .null, .int (jI 0), .int (jI 0), .int (jI 0), .int (jI 0), .int (jI 0)])), aI kI q7 6 (fun _ => 0), aI kI q15 24 (fun _ => 0), aI kI q23 24 (fun _ => 0)] rfl ?_
  refine x_widen 3 54 (Nat.le_of_ble_eq_true rfl) (Nat.le_of_ble_eq_true rfl) ?_
  refine x_putF (ci := 4) F hctr hin4 tyX4_ok nmX4 0 rfl rfl 2 (by decide) hw6 rfl rfl rfl rfl (show 2 + 1 ≤ _ from Nat.le_of_ble_eq_true rfl) dX4_init_25 [(qN, .inr (4, [.ref q7, .ref q15, .ref q23, .null, .null, .null, .null, .null, .int (jI 0), .int (jI 0), .int (jI 0), .int (jI 0), .int (jI 0)])), aI kI q7 6 (fun _ => 0), aI kI q15 24 (fun _ => 0), aI kI q23 24 (fun _ => 0)] rfl ?_
  refine x_aload_n F dX4_init_28 rfl 0 rfl ?_
  refine x_bipush F dX4_init_29 (by decide) ?_
  refine x_newaI F 6 hw3 (by decide) (by decide) (by decide) (Nat.le_of_ble_eq_true rfl) (Nat.le_of_ble_eq_true rfl) dX4_init_31 (fun q31 => ?_)
  refine x_ws [(qN, .inr (4, [.ref q7, .ref q15, .ref q23, .null, .null, .null, .null, .null, .int (jI 0), .int (jI 0), .int (jI 0), .int (jI 0), .int (jI 0)])), aI kI q7 6 (fun _ => 0), aI kI q15 24 (fun _ => 0), aI kI q23 24 (fun _ => 0), aI kI q31 6 (fun _ => 0)] rfl ?_
  refine x_widen 4 60 (Nat.le_of_ble_eq_true rfl) (Nat.le_of_ble_eq_true rfl) ?_
  refine x_putF (ci := 4) F hctr hin4 tyX4_ok nmX4 0 rfl rfl 3 (by decide) hw7 rfl rfl rfl rfl (show 3 + 1 ≤ _ from Nat.le_of_ble_eq_true rfl) dX4_init_33 [(qN, .inr (4, [.ref q7, .ref q15, .ref q23, .ref q31, .null, .null, .null, .null, .int (jI 0), .int (jI 0), .int (jI 0), .int (jI 0), .int (jI 0)])), aI kI q7 6 (fun _ => 0), aI kI q15 24 (fun _ => 0), aI kI q23 24 (fun _ => 0), aI kI q31 6 (fun _ => 0)] rfl ?_
  refine x_aload_n F dX4_init_36 rfl 0 rfl ?_
  refine x_bipush F dX4_init_37 (by decide) ?_
  refine x_newaI F 6 hw3 (by decide) (by decide) (by decide) (Nat.le_of_ble_eq_true rfl) (Nat.le_of_ble_eq_true rfl) dX4_init_39 (fun q39 => ?_)
  refine x_ws [(qN, .inr (4, [.ref q7, .ref q15, .ref q23, .ref q31, .null, .null, .null, .null, .int (jI 0), .int (jI 0), .int (jI 0), .int (jI 0), .int (jI 0)])), aI kI q7 6 (fun _ => 0), aI kI q15 24 (fun _ => 0), aI kI q23 24 (fun _ => 0), aI kI q31 6 (fun _ => 0), aI kI q39 6 (fun _ => 0)] rfl ?_
  refine x_widen 5 66 (Nat.le_of_ble_eq_true rfl) (Nat.le_of_ble_eq_true rfl) ?_
  refine x_putF (ci := 4) F hctr hin4 tyX4_ok nmX4 0 rfl rfl 4 (by decide) hw8 rfl rfl rfl rfl (show 4 + 1 ≤ _ from Nat.le_of_ble_eq_true rfl) dX4_init_41 [(qN, .inr (4, [.ref q7, .ref q15, .ref q23, .ref q31, .ref q39, .null, .null, .null, .int (jI 0), .int (jI 0), .int (jI 0), .int (jI 0), .int (jI 0)])), aI kI q7 6 (fun _ => 0), aI kI q15 24 (fun _ => 0), aI kI q23 24 (fun _ => 0), aI kI q31 6 (fun _ => 0), aI kI q39 6 (fun _ => 0)] rfl ?_
  refine x_aload_n F dX4_init_44 rfl 0 rfl ?_
  refine x_bipush F dX4_init_45 (by decide) ?_
  refine x_newaI F 6 hw3 (by decide) (by decide) (by decide) (Nat.le_of_ble_eq_true rfl) (Nat.le_of_ble_eq_true rfl) dX4_init_47 (fun q47 => ?_)
  refine x_ws [(qN, .inr (4, [.ref q7, .ref q15, .ref q23, .ref q31, .ref q39, .null, .null, .null, .int (jI 0), .int (jI 0), .int (jI 0), .int (jI 0), .int (jI 0)])), aI kI q7 6 (fun _ => 0), aI kI q15 24 (fun _ => 0), aI kI q23 24 (fun _ => 0), aI kI q31 6 (fun _ => 0), aI kI q39 6 (fun _ => 0), aI kI q47 6 (fun _ => 0)] rfl ?_
  refine x_widen 6 72 (Nat.le_of_ble_eq_true rfl) (Nat.le_of_ble_eq_true rfl) ?_
  refine x_putF (ci := 4) F hctr hin4 tyX4_ok nmX4 0 rfl rfl 5 (by decide) hw9 rfl rfl rfl rfl (show 5 + 1 ≤ _ from Nat.le_of_ble_eq_true rfl) dX4_init_49 [(qN, .inr (4, [.ref q7, .ref q15, .ref q23, .ref q31, .ref q39, .ref q47, .null, .null, .int (jI 0), .int (jI 0), .int (jI 0), .int (jI 0), .int (jI 0)])), aI kI q7 6 (fun _ => 0), aI kI q15 24 (fun _ => 0), aI kI q23 24 (fun _ => 0), aI kI q31 6 (fun _ => 0), aI kI q39 6 (fun _ => 0), aI kI q47 6 (fun _ => 0)] rfl ?_
  refine x_aload_n F dX4_init_52 rfl 0 rfl ?_
  refine x_iconst F dX4_init_53 ?_
  refine x_newaI F 4 hw3 (by decide) (by decide) (by decide) (Nat.le_of_ble_eq_true rfl) (Nat.le_of_ble_eq_true rfl) dX4_init_54 (fun q54 => ?_)
  refine x_ws [(qN, .inr (4, [.ref q7, .ref q15, .ref q23, .ref q31, .ref q39, .ref q47, .null, .null, .int (jI 0), .int (jI 0), .int (jI 0), .int (jI 0), .int (jI 0)])), aI kI q7 6 (fun _ => 0), aI kI q15 24 (fun _ => 0), aI kI q23 24 (fun _ => 0), aI kI q31 6 (fun _ => 0), aI kI q39 6 (fun _ => 0), aI kI q47 6 (fun _ => 0), aI kI q54 4 (fun _ => 0)] rfl ?_
  refine x_widen 7 76 (Nat.le_of_ble_eq_true rfl) (Nat.le_of_ble_eq_true rfl) ?_
  refine x_putF (ci := 4) F hctr hin4 tyX4_ok nmX4 0 rfl rfl 6 (by decide) hw10 rfl rfl rfl rfl (show 6 + 1 ≤ _ from Nat.le_of_ble_eq_true rfl) dX4_init_56 [(qN, .inr (4, [.ref q7, .ref q15, .ref q23, .ref q31, .ref q39, .ref q47, .ref q54, .null, .int (jI 0), .int (jI 0), .int (jI 0), .int (jI 0), .int (jI 0)])), aI kI q7 6 (fun _ => 0), aI kI q15 24 (fun _ => 0), aI kI q23 24 (fun _ => 0), aI kI q31 6 (fun _ => 0), aI kI q39 6 (fun _ => 0), aI kI q47 6 (fun _ => 0), aI kI q54 4 (fun _ => 0)] rfl ?_
  refine x_aload_n F dX4_init_59 rfl 0 rfl ?_
  refine x_bipush F dX4_init_60 (by decide) ?_
  refine x_newaI F 32 hw3 (by decide) (by decide) (by decide) (Nat.le_of_ble_eq_true rfl) (Nat.le_of_ble_eq_true rfl) dX4_init_62 (fun q62 => ?_)
  refine x_ws [(qN, .inr (4, [.ref q7, .ref q15, .ref q23, .ref q31, .ref q39, .ref q47, .ref q54, .null, .int (jI 0), .int (jI 0), .int (jI 0), .int (jI 0), .int (jI 0)])), aI kI q7 6 (fun _ => 0), aI kI q15 24 (fun _ => 0), aI kI q23 24 (fun _ => 0), aI kI q31 6 (fun _ => 0), aI kI q39 6 (fun _ => 0), aI kI q47 6 (fun _ => 0), aI kI q54 4 (fun _ => 0), aI kI q62 32 (fun _ => 0)] rfl ?_
  refine x_widen 8 108 (Nat.le_of_ble_eq_true rfl) (Nat.le_of_ble_eq_true rfl) ?_
  refine x_putF (ci := 4) F hctr hin4 tyX4_ok nmX4 0 rfl rfl 7 (by decide) hw11 rfl rfl rfl rfl (show 7 + 1 ≤ _ from Nat.le_of_ble_eq_true rfl) dX4_init_64 [(qN, .inr (4, [.ref q7, .ref q15, .ref q23, .ref q31, .ref q39, .ref q47, .ref q54, .ref q62, .int (jI 0), .int (jI 0), .int (jI 0), .int (jI 0), .int (jI 0)])), aI kI q7 6 (fun _ => 0), aI kI q15 24 (fun _ => 0), aI kI q23 24 (fun _ => 0), aI kI q31 6 (fun _ => 0), aI kI q39 6 (fun _ => 0), aI kI q47 6 (fun _ => 0), aI kI q54 4 (fun _ => 0), aI kI q62 32 (fun _ => 0)] rfl ?_
  exact hret 8 108 67 _ (q7, q15, q23, q31, q39, q47, q54, q62) (Nat.le_of_ble_eq_true rfl) (Nat.le_of_ble_eq_true rfl) dX4_init_67 (trivial)
set_option maxHeartbeats 4000000 in
set_option maxRecDepth 100000 in
theorem c_X6_init (D : va_G) (kI kJ : Nat) (l : Launch) (qU : Nat)  : xMv D kI kJ l yX6_init wsX6_init 1 64 5 66 [.ref qU] [(qU, .inr (6, [.null, .null, .null, .null, .null, .int (jI 0)]))] (fun (u : Nat × Nat × Nat × Nat × Nat) => True) (fun (u : Nat × Nat × Nat × Nat × Nat) => [(qU, .inr (6, [.ref u.1, .ref u.2.1, .ref u.2.2.1, .ref u.2.2.2.1, .ref u.2.2.2.2, .int (jI 0)])), aI kI u.1 18 (fun _ => 0), aI kI u.2.1 18 (fun _ => 0), aI kI u.2.2.1 18 (fun _ => 0), aI kI u.2.2.2.1 6 (fun _ => 0), aI kI u.2.2.2.2 6 (fun _ => 0)]) := by
  refine xMv_of (cc := cX6_init) (maxL := 1) (by decide) rfl (Nat.le_of_ble_eq_true rfl) ?_
  intro p e s m args below meth c A Q F hctr hret
  have hin6 : ∀ w ∈ wsX60, w ∈ wsX6_init := by decide +kernel
  have hw0 : Cond.methodLink RX6 3 objectInit ∈ wsX6_init := by decide +kernel
  have hw1 : Cond.instanceMethod objectInit ∈ wsX6_init := by decide +kernel
  have hw2 : Cond.code objectInit ⟨#[0xb1]⟩ 1 none ∈ wsX6_init := by decide +kernel
  have hw3 : Cond.arrayClass .int ∈ wsX6_init := by decide +kernel
  have hw4 : Cond.fieldLink RX6 9 (TX6 0).1 (TX6 0).2.1 (TX6 0).2.2.1 ∈ wsX6_init := by decide +kernel
  have hw5 : Cond.fieldLink RX6 15 (TX6 1).1 (TX6 1).2.1 (TX6 1).2.2.1 ∈ wsX6_init := by decide +kernel
  have hw6 : Cond.fieldLink RX6 18 (TX6 2).1 (TX6 2).2.1 (TX6 2).2.2.1 ∈ wsX6_init := by decide +kernel
  have hw7 : Cond.fieldLink RX6 21 (TX6 3).1 (TX6 3).2.1 (TX6 3).2.2.1 ∈ wsX6_init := by decide +kernel
  have hw8 : Cond.fieldLink RX6 24 (TX6 4).1 (TX6 4).2.1 (TX6 4).2.2.1 ∈ wsX6_init := by decide +kernel
  refine x_lveq (lv' := [(0, .ref qU)]) rfl ?_
  refine x_aload_n F dX6_init_0 rfl 0 rfl ?_
  refine x_objInit F hw0 hw1 hw2 dX6_init_1 (Nat.le_of_ble_eq_true rfl) (Nat.le_of_ble_eq_true rfl) ?_
  refine x_aload_n F dX6_init_4 rfl 0 rfl ?_
  refine x_bipush F dX6_init_5 (by decide) ?_
  refine x_newaI F 18 hw3 (by decide) (by decide) (by decide) (Nat.le_of_ble_eq_true rfl) (Nat.le_of_ble_eq_true rfl) dX6_init_7 (fun q7 => ?_)
  refine x_ws [(qU, .inr (6, [.null, .null, .null, .null, .null, .int (jI 0)])), aI kI q7 18 (fun _ => 0)] rfl ?_
  refine x_widen 1 18 (Nat.le_of_ble_eq_true rfl) (Nat.le_of_ble_eq_true rfl) ?_
  refine x_putF (ci := 6) F hctr hin6 tyX6_ok nmX6 0 rfl rfl 0 (by decide) hw4 rfl rfl rfl rfl (show 0 + 1 ≤ _ from Nat.le_of_ble_eq_true rfl) dX6_init_9 [(qU, .inr (6, [.ref q7, .null, .null, .null, .null, .int (jI 0)])), aI kI q7 18 (fun _ => 0)] rfl ?_
  refine x_aload_n F dX6_init_12 rfl 0 rfl ?_
  refine x_bipush F dX6_init_13 (by decide) ?_
  refine x_newaI F 18 hw3 (by decide) (by decide) (by decide) (Nat.le_of_ble_eq_true rfl) (Nat.le_of_ble_eq_true rfl) dX6_init_15 (fun q15 => ?_)
  refine x_ws [(qU, .inr (6, [.ref q7, .null, .null, .null, .null, .int (jI 0)])), aI kI q7 18 (fun _ => 0), aI kI q15 18 (fun _ => 0)] rfl ?_
  refine x_widen 2 36 (Nat.le_of_ble_eq_true rfl) (Nat.le_of_ble_eq_true rfl) ?_
  refine x_putF (ci := 6) F hctr hin6 tyX6_ok nmX6 0 rfl rfl 1 (by decide) hw5 rfl rfl rfl rfl (show 1 + 1 ≤ _ from Nat.le_of_ble_eq_true rfl) dX6_init_17 [(qU, .inr (6, [.ref q7, .ref q15, .null, .null, .null, .int (jI 0)])), aI kI q7 18 (fun _ => 0), aI kI q15 18 (fun _ => 0)] rfl ?_
  refine x_aload_n F dX6_init_20 rfl 0 rfl ?_
  refine x_bipush F dX6_init_21 (by decide) ?_
  refine x_newaI F 18 hw3 (by decide) (by decide) (by decide) (Nat.le_of_ble_eq_true rfl) (Nat.le_of_ble_eq_true rfl) dX6_init_23 (fun q23 => ?_)
  refine x_ws [(qU, .inr (6, [.ref q7, .ref q15, .null, .null, .null, .int (jI 0)])), aI kI q7 18 (fun _ => 0), aI kI q15 18 (fun _ => 0), aI kI q23 18 (fun _ => 0)] rfl ?_
  refine x_widen 3 54 (Nat.le_of_ble_eq_true rfl) (Nat.le_of_ble_eq_true rfl) ?_
  refine x_putF (ci := 6) F hctr hin6 tyX6_ok nmX6 0 rfl rfl 2 (by decide) hw6 rfl rfl rfl rfl (show 2 + 1 ≤ _ from Nat.le_of_ble_eq_true rfl) dX6_init_25 [(qU, .inr (6, [.ref q7, .ref q15, .ref q23, .null, .null, .int (jI 0)])), aI kI q7 18 (fun _ => 0), aI kI q15 18 (fun _ => 0), aI kI q23 18 (fun _ => 0)] rfl ?_
  refine x_aload_n F dX6_init_28 rfl 0 rfl ?_
  refine x_bipush F dX6_init_29 (by decide) ?_
  refine x_newaI F 6 hw3 (by decide) (by decide) (by decide) (Nat.le_of_ble_eq_true rfl) (Nat.le_of_ble_eq_true rfl) dX6_init_31 (fun q31 => ?_)
  refine x_ws [(qU, .inr (6, [.ref q7, .ref q15, .ref q23, .null, .null, .int (jI 0)])), aI kI q7 18 (fun _ => 0), aI kI q15 18 (fun _ => 0), aI kI q23 18 (fun _ => 0), aI kI q31 6 (fun _ => 0)] rfl ?_
  refine x_widen 4 60 (Nat.le_of_ble_eq_true rfl) (Nat.le_of_ble_eq_true rfl) ?_
  refine x_putF (ci := 6) F hctr hin6 tyX6_ok nmX6 0 rfl rfl 3 (by decide) hw7 rfl rfl rfl rfl (show 3 + 1 ≤ _ from Nat.le_of_ble_eq_true rfl) dX6_init_33 [(qU, .inr (6, [.ref q7, .ref q15, .ref q23, .ref q31, .null, .int (jI 0)])), aI kI q7 18 (fun _ => 0), aI kI q15 18 (fun _ => 0), aI kI q23 18 (fun _ => 0), aI kI q31 6 (fun _ => 0)] rfl ?_
  refine x_aload_n F dX6_init_36 rfl 0 rfl ?_
  refine x_bipush F dX6_init_37 (by decide) ?_
  refine x_newaI F 6 hw3 (by decide) (by decide) (by decide) (Nat.le_of_ble_eq_true rfl) (Nat.le_of_ble_eq_true rfl) dX6_init_39 (fun q39 => ?_)
  refine x_ws [(qU, .inr (6, [.ref q7, .ref q15, .ref q23, .ref q31, .null, .int (jI 0)])), aI kI q7 18 (fun _ => 0), aI kI q15 18 (fun _ => 0), aI kI q23 18 (fun _ => 0), aI kI q31 6 (fun _ => 0), aI kI q39 6 (fun _ => 0)] rfl ?_
  refine x_widen 5 66 (Nat.le_of_ble_eq_true rfl) (Nat.le_of_ble_eq_true rfl) ?_
  refine x_putF (ci := 6) F hctr hin6 tyX6_ok nmX6 0 rfl rfl 4 (by decide) hw8 rfl rfl rfl rfl (show 4 + 1 ≤ _ from Nat.le_of_ble_eq_true rfl) dX6_init_41 [(qU, .inr (6, [.ref q7, .ref q15, .ref q23, .ref q31, .ref q39, .int (jI 0)])), aI kI q7 18 (fun _ => 0), aI kI q15 18 (fun _ => 0), aI kI q23 18 (fun _ => 0), aI kI q31 6 (fun _ => 0), aI kI q39 6 (fun _ => 0)] rfl ?_
  exact hret 5 66 44 _ (q7, q15, q23, q31, q39) (Nat.le_of_ble_eq_true rfl) (Nat.le_of_ble_eq_true rfl) dX6_init_44 (trivial)
set_option maxHeartbeats 4000000 in
set_option maxRecDepth 100000 in
theorem c_X8_init (D : va_G) (kI kJ : Nat) (l : Launch) (qS : Nat)  : xMv D kI kJ l yX8_init wsX8_init 1 64 5 100 [.ref qS] [(qS, .inr (8, [.null, .null, .null, .null, .null, .int (jI 0)]))] (fun (u : Nat × Nat × Nat × Nat × Nat) => True) (fun (u : Nat × Nat × Nat × Nat × Nat) => [(qS, .inr (8, [.ref u.1, .ref u.2.1, .ref u.2.2.1, .ref u.2.2.2.1, .ref u.2.2.2.2, .int (jI 0)])), aI kI u.1 20 (fun _ => 0), aI kI u.2.1 20 (fun _ => 0), aI kI u.2.2.1 20 (fun _ => 0), aI kI u.2.2.2.1 20 (fun _ => 0), aI kI u.2.2.2.2 20 (fun _ => 0)]) := by
  refine xMv_of (cc := cX8_init) (maxL := 1) (by decide) rfl (Nat.le_of_ble_eq_true rfl) ?_
  intro p e s m args below meth c A Q F hctr hret
  have hin8 : ∀ w ∈ wsX80, w ∈ wsX8_init := by decide +kernel
  have hw0 : Cond.methodLink RX8 3 objectInit ∈ wsX8_init := by decide +kernel
  have hw1 : Cond.instanceMethod objectInit ∈ wsX8_init := by decide +kernel
  have hw2 : Cond.code objectInit ⟨#[0xb1]⟩ 1 none ∈ wsX8_init := by decide +kernel
  have hw3 : Cond.arrayClass .int ∈ wsX8_init := by decide +kernel
  have hw4 : Cond.fieldLink RX8 9 (TX8 0).1 (TX8 0).2.1 (TX8 0).2.2.1 ∈ wsX8_init := by decide +kernel
  have hw5 : Cond.fieldLink RX8 15 (TX8 1).1 (TX8 1).2.1 (TX8 1).2.2.1 ∈ wsX8_init := by decide +kernel
  have hw6 : Cond.fieldLink RX8 18 (TX8 2).1 (TX8 2).2.1 (TX8 2).2.2.1 ∈ wsX8_init := by decide +kernel
  have hw7 : Cond.fieldLink RX8 21 (TX8 3).1 (TX8 3).2.1 (TX8 3).2.2.1 ∈ wsX8_init := by decide +kernel
  have hw8 : Cond.fieldLink RX8 24 (TX8 4).1 (TX8 4).2.1 (TX8 4).2.2.1 ∈ wsX8_init := by decide +kernel
  refine x_lveq (lv' := [(0, .ref qS)]) rfl ?_
  refine x_aload_n F dX8_init_0 rfl 0 rfl ?_
  refine x_objInit F hw0 hw1 hw2 dX8_init_1 (Nat.le_of_ble_eq_true rfl) (Nat.le_of_ble_eq_true rfl) ?_
  refine x_aload_n F dX8_init_4 rfl 0 rfl ?_
  refine x_bipush F dX8_init_5 (by decide) ?_
  refine x_newaI F 20 hw3 (by decide) (by decide) (by decide) (Nat.le_of_ble_eq_true rfl) (Nat.le_of_ble_eq_true rfl) dX8_init_7 (fun q7 => ?_)
  refine x_ws [(qS, .inr (8, [.null, .null, .null, .null, .null, .int (jI 0)])), aI kI q7 20 (fun _ => 0)] rfl ?_
  refine x_widen 1 20 (Nat.le_of_ble_eq_true rfl) (Nat.le_of_ble_eq_true rfl) ?_
  refine x_putF (ci := 8) F hctr hin8 tyX8_ok nmX8 0 rfl rfl 0 (by decide) hw4 rfl rfl rfl rfl (show 0 + 1 ≤ _ from Nat.le_of_ble_eq_true rfl) dX8_init_9 [(qS, .inr (8, [.ref q7, .null, .null, .null, .null, .int (jI 0)])), aI kI q7 20 (fun _ => 0)] rfl ?_
  refine x_aload_n F dX8_init_12 rfl 0 rfl ?_
  refine x_bipush F dX8_init_13 (by decide) ?_
  refine x_newaI F 20 hw3 (by decide) (by decide) (by decide) (Nat.le_of_ble_eq_true rfl) (Nat.le_of_ble_eq_true rfl) dX8_init_15 (fun q15 => ?_)
  refine x_ws [(qS, .inr (8, [.ref q7, .null, .null, .null, .null, .int (jI 0)])), aI kI q7 20 (fun _ => 0), aI kI q15 20 (fun _ => 0)] rfl ?_
  refine x_widen 2 40 (Nat.le_of_ble_eq_true rfl) (Nat.le_of_ble_eq_true rfl) ?_
  refine x_putF (ci := 8) F hctr hin8 tyX8_ok nmX8 0 rfl rfl 1 (by decide) hw5 rfl rfl rfl rfl (show 1 + 1 ≤ _ from Nat.le_of_ble_eq_true rfl) dX8_init_17 [(qS, .inr (8, [.ref q7, .ref q15, .null, .null, .null, .int (jI 0)])), aI kI q7 20 (fun _ => 0), aI kI q15 20 (fun _ => 0)] rfl ?_
  refine x_aload_n F dX8_init_20 rfl 0 rfl ?_
  refine x_bipush F dX8_init_21 (by decide) ?_
  refine x_newaI F 20 hw3 (by decide) (by decide) (by decide) (Nat.le_of_ble_eq_true rfl) (Nat.le_of_ble_eq_true rfl) dX8_init_23 (fun q23 => ?_)
  refine x_ws [(qS, .inr (8, [.ref q7, .ref q15, .null, .null, .null, .int (jI 0)])), aI kI q7 20 (fun _ => 0), aI kI q15 20 (fun _ => 0), aI kI q23 20 (fun _ => 0)] rfl ?_
  refine x_widen 3 60 (Nat.le_of_ble_eq_true rfl) (Nat.le_of_ble_eq_true rfl) ?_
  refine x_putF (ci := 8) F hctr hin8 tyX8_ok nmX8 0 rfl rfl 2 (by decide) hw6 rfl rfl rfl rfl (show 2 + 1 ≤ _ from Nat.le_of_ble_eq_true rfl) dX8_init_25 [(qS, .inr (8, [.ref q7, .ref q15, .ref q23, .null, .null, .int (jI 0)])), aI kI q7 20 (fun _ => 0), aI kI q15 20 (fun _ => 0), aI kI q23 20 (fun _ => 0)] rfl ?_
  refine x_aload_n F dX8_init_28 rfl 0 rfl ?_
  refine x_bipush F dX8_init_29 (by decide) ?_
  refine x_newaI F 20 hw3 (by decide) (by decide) (by decide) (Nat.le_of_ble_eq_true rfl) (Nat.le_of_ble_eq_true rfl) dX8_init_31 (fun q31 => ?_)
  refine x_ws [(qS, .inr (8, [.ref q7, .ref q15, .ref q23, .null, .null, .int (jI 0)])), aI kI q7 20 (fun _ => 0), aI kI q15 20 (fun _ => 0), aI kI q23 20 (fun _ => 0), aI kI q31 20 (fun _ => 0)] rfl ?_
  refine x_widen 4 80 (Nat.le_of_ble_eq_true rfl) (Nat.le_of_ble_eq_true rfl) ?_
  refine x_putF (ci := 8) F hctr hin8 tyX8_ok nmX8 0 rfl rfl 3 (by decide) hw7 rfl rfl rfl rfl (show 3 + 1 ≤ _ from Nat.le_of_ble_eq_true rfl) dX8_init_33 [(qS, .inr (8, [.ref q7, .ref q15, .ref q23, .ref q31, .null, .int (jI 0)])), aI kI q7 20 (fun _ => 0), aI kI q15 20 (fun _ => 0), aI kI q23 20 (fun _ => 0), aI kI q31 20 (fun _ => 0)] rfl ?_
  refine x_aload_n F dX8_init_36 rfl 0 rfl ?_
  refine x_bipush F dX8_init_37 (by decide) ?_
  refine x_newaI F 20 hw3 (by decide) (by decide) (by decide) (Nat.le_of_ble_eq_true rfl) (Nat.le_of_ble_eq_true rfl) dX8_init_39 (fun q39 => ?_)
  refine x_ws [(qS, .inr (8, [.ref q7, .ref q15, .ref q23, .ref q31, .null, .int (jI 0)])), aI kI q7 20 (fun _ => 0), aI kI q15 20 (fun _ => 0), aI kI q23 20 (fun _ => 0), aI kI q31 20 (fun _ => 0), aI kI q39 20 (fun _ => 0)] rfl ?_
  refine x_widen 5 100 (Nat.le_of_ble_eq_true rfl) (Nat.le_of_ble_eq_true rfl) ?_
  refine x_putF (ci := 8) F hctr hin8 tyX8_ok nmX8 0 rfl rfl 4 (by decide) hw8 rfl rfl rfl rfl (show 4 + 1 ≤ _ from Nat.le_of_ble_eq_true rfl) dX8_init_41 [(qS, .inr (8, [.ref q7, .ref q15, .ref q23, .ref q31, .ref q39, .int (jI 0)])), aI kI q7 20 (fun _ => 0), aI kI q15 20 (fun _ => 0), aI kI q23 20 (fun _ => 0), aI kI q31 20 (fun _ => 0), aI kI q39 20 (fun _ => 0)] rfl ?_
  exact hret 5 100 44 _ (q7, q15, q23, q31, q39) (Nat.le_of_ble_eq_true rfl) (Nat.le_of_ble_eq_true rfl) dX8_init_44 (trivial)
set_option maxHeartbeats 4000000 in
set_option maxRecDepth 100000 in
theorem c_X5_init (D : va_G) (kI kJ : Nat) (l : Launch) (qE : Nat)  : xMv D kI kJ l yX5_init wsX5_init 2 84 13 264 [.ref qE] [(qE, .inr (5, [.null, .int (jI 0), .int (jI 0), .int (jI 0), .int (jI 0), .null, .null]))] (fun (u : Nat × Nat × Nat × Nat × Nat × Nat × Nat × Nat × Nat × Nat × Nat × Nat × Nat) => True) (fun (u : Nat × Nat × Nat × Nat × Nat × Nat × Nat × Nat × Nat × Nat × Nat × Nat × Nat) => [(qE, .inr (5, [.ref u.1, .int (jI 0), .int (jI 0), .int (jI 0), .int (jI (-1)), .ref u.2.1, .ref u.2.2.2.2.2.2.2.1])), aI kI u.1 120 (fun _ => 0), (u.2.1, .inr (6, [.ref u.2.2.1, .ref u.2.2.2.1, .ref u.2.2.2.2.1, .ref u.2.2.2.2.2.1, .ref u.2.2.2.2.2.2.1, .int (jI 0)])), aI kI u.2.2.1 18 (fun _ => 0), aI kI u.2.2.2.1 18 (fun _ => 0), aI kI u.2.2.2.2.1 18 (fun _ => 0), aI kI u.2.2.2.2.2.1 6 (fun _ => 0), aI kI u.2.2.2.2.2.2.1 6 (fun _ => 0), (u.2.2.2.2.2.2.2.1, .inr (6, [.ref u.2.2.2.2.2.2.2.2.1, .ref u.2.2.2.2.2.2.2.2.2.1, .ref u.2.2.2.2.2.2.2.2.2.2.1, .ref u.2.2.2.2.2.2.2.2.2.2.2.1, .ref u.2.2.2.2.2.2.2.2.2.2.2.2, .int (jI 0)])), aI kI u.2.2.2.2.2.2.2.2.1 18 (fun _ => 0), aI kI u.2.2.2.2.2.2.2.2.2.1 18 (fun _ => 0), aI kI u.2.2.2.2.2.2.2.2.2.2.1 18 (fun _ => 0), aI kI u.2.2.2.2.2.2.2.2.2.2.2.1 6 (fun _ => 0), aI kI u.2.2.2.2.2.2.2.2.2.2.2.2 6 (fun _ => 0)]) := by
  refine xMv_of (cc := cX5_init) (maxL := 1) (by decide) rfl (Nat.le_of_ble_eq_true rfl) ?_
  intro p e s m args below meth c A Q F hctr hret
  have hin5 : ∀ w ∈ wsX50, w ∈ wsX5_init := by decide +kernel
  have hin6 : ∀ w ∈ wsX60, w ∈ wsX5_init := by decide +kernel
  have hw0 : Cond.methodLink RX5 3 objectInit ∈ wsX5_init := by decide +kernel
  have hw1 : Cond.instanceMethod objectInit ∈ wsX5_init := by decide +kernel
  have hw2 : Cond.code objectInit ⟨#[0xb1]⟩ 1 none ∈ wsX5_init := by decide +kernel
  have hw3 : Cond.arrayClass .int ∈ wsX5_init := by decide +kernel
  have hw4 : Cond.fieldLink RX5 9 (TX5 0).1 (TX5 0).2.1 (TX5 0).2.2.1 ∈ wsX5_init := by decide +kernel
  have hw5 : Cond.fieldLink RX5 15 (TX5 4).1 (TX5 4).2.1 (TX5 4).2.2.1 ∈ wsX5_init := by decide +kernel
  have hw6 : Cond.classLink RX5 19 RX6 ∈ wsX5_init := by decide +kernel
  have hw7 : Cond.instantiable RX6 6 ∈ wsX5_init := by decide +kernel
  have hw8 : Cond.initialized RX6 ∈ wsX5_init := by decide +kernel
  have hw9 : Cond.initialized yX6_init.cls ∈ wsX5_init := by decide +kernel
  have hw10 : Cond.instanceMethod yX6_init ∈ wsX5_init := by decide +kernel
  have hw11 : Cond.fieldLink RX5 22 (TX5 5).1 (TX5 5).2.1 (TX5 5).2.2.1 ∈ wsX5_init := by decide +kernel
  have hw12 : Cond.fieldLink RX5 26 (TX5 6).1 (TX5 6).2.1 (TX5 6).2.2.1 ∈ wsX5_init := by decide +kernel
  refine x_lveq (lv' := [(0, .ref qE)]) rfl ?_
  refine x_aload_n F dX5_init_0 rfl 0 rfl ?_
  refine x_objInit F hw0 hw1 hw2 dX5_init_1 (Nat.le_of_ble_eq_true rfl) (Nat.le_of_ble_eq_true rfl) ?_
  refine x_aload_n F dX5_init_4 rfl 0 rfl ?_
  refine x_bipush F dX5_init_5 (by decide) ?_
  refine x_newaI F 120 hw3 (by decide) (by decide) (by decide) (Nat.le_of_ble_eq_true rfl) (Nat.le_of_ble_eq_true rfl) dX5_init_7 (fun q7 => ?_)
  refine x_ws [(qE, .inr (5, [.null, .int (jI 0), .int (jI 0), .int (jI 0), .int (jI 0), .null, .null])), aI kI q7 120 (fun _ => 0)] rfl ?_
  refine x_widen 1 120 (Nat.le_of_ble_eq_true rfl) (Nat.le_of_ble_eq_true rfl) ?_
  refine x_putF (ci := 5) F hctr hin5 tyX5_ok nmX5 0 rfl rfl 0 (by decide) hw4 rfl rfl rfl rfl (show 0 + 1 ≤ _ from Nat.le_of_ble_eq_true rfl) dX5_init_9 [(qE, .inr (5, [.ref q7, .int (jI 0), .int (jI 0), .int (jI 0), .int (jI 0), .null, .null])), aI kI q7 120 (fun _ => 0)] rfl ?_
  refine x_aload_n F dX5_init_12 rfl 0 rfl ?_
  refine x_iconst F dX5_init_13 ?_
  refine x_put (ci := 5) F hin5 tyX5_ok nmX5 0 rfl rfl 4 (by decide) hw5 rfl rfl rfl (show 4 + 1 ≤ _ from Nat.le_of_ble_eq_true rfl) dX5_init_14 [(qE, .inr (5, [.ref q7, .int (jI 0), .int (jI 0), .int (jI 0), .int (jI (-1)), .null, .null])), aI kI q7 120 (fun _ => 0)] rfl ?_
  refine x_aload_n F dX5_init_17 rfl 0 rfl ?_
  refine x_new (ci := 6) F hin6 tyX6_ok hw6 hw7 hw8 rfl [.null, .null, .null, .null, .null, .int (jI 0)] (fun j hj => by rcases (show j = 0 ∨ j = 1 ∨ j = 2 ∨ j = 3 ∨ j = 4 ∨ j = 5 by omega) with rfl | rfl | rfl | rfl | rfl | rfl <;> rfl) (Nat.le_of_ble_eq_true rfl) (Nat.le_of_ble_eq_true rfl) dX5_init_18 (fun q18 => ?_)
  refine x_ws [(qE, .inr (5, [.ref q7, .int (jI 0), .int (jI 0), .int (jI 0), .int (jI (-1)), .null, .null])), aI kI q7 120 (fun _ => 0), (q18, .inr (6, [.null, .null, .null, .null, .null, .int (jI 0)]))] rfl ?_
  refine x_widen 2 126 (Nat.le_of_ble_eq_true rfl) (Nat.le_of_ble_eq_true rfl) ?_
  refine x_dup F dX5_init_21 rfl ?_
  refine x_callINv (As := []) (st := [.ref q18, .ref qE]) F (c_X6_init D kI kJ l q18 ) ⟨va_cnB 0 F.2.2.2.2.1 gX5_init_X6_init_n21 rfl rfl rfl (nM5 F.2.2.2.2.2.2.2) (F.2.2.2.2.1 _ hw9) (by decide +kernel) ⟨Nat.le_of_ble_eq_true rfl, Nat.le_of_ble_eq_true rfl⟩, rfl, F.2.2.2.2.1 _ hw10⟩ [2] [0, 1] [0, 1, 2, 3, 4, 5, 6, 7] rfl rfl (by decide) (by decide) (by decide) (fun _ => rfl) (by decide) rfl (Nat.le_of_ble_eq_true rfl) dX5_init_22 ⟨Nat.le_of_ble_eq_true rfl, Nat.le_of_ble_eq_true rfl⟩ (fun u22 h22 => ?_)
  obtain ⟨qU_names_22, qU_signs_22, qU_numbers_22, qU_tests_22, qU_acts_22⟩ := u22
  try dsimp only at h22
  refine x_ws [(qE, .inr (5, [.ref q7, .int (jI 0), .int (jI 0), .int (jI 0), .int (jI (-1)), .null, .null])), aI kI q7 120 (fun _ => 0), (q18, .inr (6, [.ref qU_names_22, .ref qU_signs_22, .ref qU_numbers_22, .ref qU_tests_22, .ref qU_acts_22, .int (jI 0)])), aI kI qU_names_22 18 (fun _ => 0), aI kI qU_signs_22 18 (fun _ => 0), aI kI qU_numbers_22 18 (fun _ => 0), aI kI qU_tests_22 6 (fun _ => 0), aI kI qU_acts_22 6 (fun _ => 0)] rfl ?_
  refine x_widen 7 192 (Nat.le_of_ble_eq_true rfl) (Nat.le_of_ble_eq_true rfl) ?_
  refine x_put (ci := 5) F hin5 tyX5_ok nmX5 0 rfl rfl 5 (by decide) hw11 rfl rfl rfl (show 5 + 1 ≤ _ from Nat.le_of_ble_eq_true rfl) dX5_init_25 [(qE, .inr (5, [.ref q7, .int (jI 0), .int (jI 0), .int (jI 0), .int (jI (-1)), .ref q18, .null])), aI kI q7 120 (fun _ => 0), (q18, .inr (6, [.ref qU_names_22, .ref qU_signs_22, .ref qU_numbers_22, .ref qU_tests_22, .ref qU_acts_22, .int (jI 0)])), aI kI qU_names_22 18 (fun _ => 0), aI kI qU_signs_22 18 (fun _ => 0), aI kI qU_numbers_22 18 (fun _ => 0), aI kI qU_tests_22 6 (fun _ => 0), aI kI qU_acts_22 6 (fun _ => 0)] rfl ?_
  refine x_aload_n F dX5_init_28 rfl 0 rfl ?_
  refine x_new (ci := 6) F hin6 tyX6_ok hw6 hw7 hw8 rfl [.null, .null, .null, .null, .null, .int (jI 0)] (fun j hj => by rcases (show j = 0 ∨ j = 1 ∨ j = 2 ∨ j = 3 ∨ j = 4 ∨ j = 5 by omega) with rfl | rfl | rfl | rfl | rfl | rfl <;> rfl) (Nat.le_of_ble_eq_true rfl) (Nat.le_of_ble_eq_true rfl) dX5_init_29 (fun q29 => ?_)
  refine x_ws [(qE, .inr (5, [.ref q7, .int (jI 0), .int (jI 0), .int (jI 0), .int (jI (-1)), .ref q18, .null])), aI kI q7 120 (fun _ => 0), (q18, .inr (6, [.ref qU_names_22, .ref qU_signs_22, .ref qU_numbers_22, .ref qU_tests_22, .ref qU_acts_22, .int (jI 0)])), aI kI qU_names_22 18 (fun _ => 0), aI kI qU_signs_22 18 (fun _ => 0), aI kI qU_numbers_22 18 (fun _ => 0), aI kI qU_tests_22 6 (fun _ => 0), aI kI qU_acts_22 6 (fun _ => 0), (q29, .inr (6, [.null, .null, .null, .null, .null, .int (jI 0)]))] rfl ?_
  refine x_widen 8 198 (Nat.le_of_ble_eq_true rfl) (Nat.le_of_ble_eq_true rfl) ?_
  refine x_dup F dX5_init_32 rfl ?_
  refine x_callINv (As := []) (st := [.ref q29, .ref qE]) F (c_X6_init D kI kJ l q29 ) ⟨va_cnB 0 F.2.2.2.2.1 gX5_init_X6_init_n21 rfl rfl rfl (nM5 F.2.2.2.2.2.2.2) (F.2.2.2.2.1 _ hw9) (by decide +kernel) ⟨Nat.le_of_ble_eq_true rfl, Nat.le_of_ble_eq_true rfl⟩, rfl, F.2.2.2.2.1 _ hw10⟩ [8] [0, 1, 2, 3, 4, 5, 6, 7] [0, 1, 2, 3, 4, 5, 6, 7, 8, 9, 10, 11, 12, 13] rfl rfl (by decide) (by decide) (by decide) (fun _ => rfl) (by decide) rfl (Nat.le_of_ble_eq_true rfl) dX5_init_33 ⟨Nat.le_of_ble_eq_true rfl, Nat.le_of_ble_eq_true rfl⟩ (fun u33 h33 => ?_)
  obtain ⟨qU_names_33, qU_signs_33, qU_numbers_33, qU_tests_33, qU_acts_33⟩ := u33
  try dsimp only at h33
  refine x_ws [(qE, .inr (5, [.ref q7, .int (jI 0), .int (jI 0), .int (jI 0), .int (jI (-1)), .ref q18, .null])), aI kI q7 120 (fun _ => 0), (q18, .inr (6, [.ref qU_names_22, .ref qU_signs_22, .ref qU_numbers_22, .ref qU_tests_22, .ref qU_acts_22, .int (jI 0)])), aI kI qU_names_22 18 (fun _ => 0), aI kI qU_signs_22 18 (fun _ => 0), aI kI qU_numbers_22 18 (fun _ => 0), aI kI qU_tests_22 6 (fun _ => 0), aI kI qU_acts_22 6 (fun _ => 0), (q29, .inr (6, [.ref qU_names_33, .ref qU_signs_33, .ref qU_numbers_33, .ref qU_tests_33, .ref qU_acts_33, .int (jI 0)])), aI kI qU_names_33 18 (fun _ => 0), aI kI qU_signs_33 18 (fun _ => 0), aI kI qU_numbers_33 18 (fun _ => 0), aI kI qU_tests_33 6 (fun _ => 0), aI kI qU_acts_33 6 (fun _ => 0)] rfl ?_
  refine x_widen 13 264 (Nat.le_of_ble_eq_true rfl) (Nat.le_of_ble_eq_true rfl) ?_
  refine x_put (ci := 5) F hin5 tyX5_ok nmX5 0 rfl rfl 6 (by decide) hw12 rfl rfl rfl (show 6 + 1 ≤ _ from Nat.le_of_ble_eq_true rfl) dX5_init_36 [(qE, .inr (5, [.ref q7, .int (jI 0), .int (jI 0), .int (jI 0), .int (jI (-1)), .ref q18, .ref q29])), aI kI q7 120 (fun _ => 0), (q18, .inr (6, [.ref qU_names_22, .ref qU_signs_22, .ref qU_numbers_22, .ref qU_tests_22, .ref qU_acts_22, .int (jI 0)])), aI kI qU_names_22 18 (fun _ => 0), aI kI qU_signs_22 18 (fun _ => 0), aI kI qU_numbers_22 18 (fun _ => 0), aI kI qU_tests_22 6 (fun _ => 0), aI kI qU_acts_22 6 (fun _ => 0), (q29, .inr (6, [.ref qU_names_33, .ref qU_signs_33, .ref qU_numbers_33, .ref qU_tests_33, .ref qU_acts_33, .int (jI 0)])), aI kI qU_names_33 18 (fun _ => 0), aI kI qU_signs_33 18 (fun _ => 0), aI kI qU_numbers_33 18 (fun _ => 0), aI kI qU_tests_33 6 (fun _ => 0), aI kI qU_acts_33 6 (fun _ => 0)] rfl ?_
  exact hret 13 264 39 _ (q7, q18, qU_names_22, qU_signs_22, qU_numbers_22, qU_tests_22, qU_acts_22, q29, qU_names_33, qU_signs_33, qU_numbers_33, qU_tests_33, qU_acts_33) (Nat.le_of_ble_eq_true rfl) (Nat.le_of_ble_eq_true rfl) dX5_init_39 (trivial)
