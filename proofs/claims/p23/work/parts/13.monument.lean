set_option maxHeartbeats 4000000 in
set_option maxRecDepth 100000 in
theorem c_X3_stoneOf (D : va_G) (kI kJ : Nat) (l : Launch) (qM : Nat) (b : Int) (qM_stones : Nat) (qM_laid : Nat) (qM_deeps : Nat) (qM_rates : Nat) (qP : Nat) (qT : Nat) (qM_dangers : Nat) (qM_losses : Nat) (vM_size : Int) (vM_limit : Int) (fM_stones : (Int → Int)) (hb : 0 ≤ b ∧ b < 30) : xMi D kI kJ l yX3_stoneOf wsX3_stoneOf 2 53 0 0 [.ref qM, .int (jI b)] [(qM, .inr (3, [.ref qM_stones, .ref qM_laid, .ref qM_deeps, .ref qM_rates, .ref qP, .ref qT, .ref qM_dangers, .ref qM_losses, .int (jI vM_size), .int (jI vM_limit)])), aI kI qM_stones 30 fM_stones] (fun (z : Int) (u : Unit) => z = fM_stones b) (fun (u : Unit) => [(qM, .inr (3, [.ref qM_stones, .ref qM_laid, .ref qM_deeps, .ref qM_rates, .ref qP, .ref qT, .ref qM_dangers, .ref qM_losses, .int (jI vM_size), .int (jI vM_limit)])), aI kI qM_stones 30 fM_stones]) := by
  refine xMi_of (cc := cX3_stoneOf) (maxL := 2) (rt := .int) (by decide) rfl (Nat.le_of_ble_eq_true rfl) (fun _ _ _ => rfl) ?_
  intro p e s m args below meth c A Q F hin2 hret
  have hin3 : ∀ w ∈ wsX30, w ∈ wsX3_stoneOf := by decide +kernel
  have hw0 : Cond.fieldLink RX3 9 (TX3 0).1 (TX3 0).2.1 (TX3 0).2.2.1 ∈ wsX3_stoneOf := by decide +kernel
  have hw1 : Cond.initialized yX9_at.cls ∈ wsX3_stoneOf := by decide +kernel
  have hw2 : Cond.static yX9_at ∈ wsX3_stoneOf := by decide +kernel
  refine x_lveq (lv' := [(0, .ref qM), (1, .int (jI b))]) rfl ?_
  refine x_aload_n F dX3_stoneOf_0 rfl 0 rfl ?_
  refine x_get (ci := 3) F hin3 0 rfl rfl 0 (by decide) hw0 rfl dX3_stoneOf_1 ?_
  refine x_iload_n F dX3_stoneOf_4 rfl 1 rfl ?_
  refine x_callSNi (As := [.ref qM_stones, .int (jI b)]) (st := []) F (c_X9_at D kI kJ l qM_stones b 30 fM_stones (by omega) (by omega)) ⟨va_cnB 2 F.2.2.2.2.1 gX3_stoneOf_X9_at_n57 rfl rfl rfl (nM9 F.2.2.2.2.2.2.2) (F.2.2.2.2.1 _ hw1) (by decide +kernel) ⟨Nat.le_of_ble_eq_true rfl, Nat.le_of_ble_eq_true rfl⟩, F.2.2.2.2.1 _ hw2, trivial⟩ [1] [0] [0, 1] rfl rfl (by decide) (by decide) (by decide) (fun _ => rfl) (by decide) rfl (Nat.le_of_ble_eq_true rfl) dX3_stoneOf_5 ⟨Nat.le_of_ble_eq_true rfl, Nat.le_of_ble_eq_true rfl⟩ (fun z5 u5 h5 => ?_)
  try dsimp only at h5
  refine x_ws [(qM, .inr (3, [.ref qM_stones, .ref qM_laid, .ref qM_deeps, .ref qM_rates, .ref qP, .ref qT, .ref qM_dangers, .ref qM_losses, .int (jI vM_size), .int (jI vM_limit)])), aI kI qM_stones 30 fM_stones] rfl ?_
  have he5 := h5
  have he5 := he5.symm
  subst he5
  exact hret 0 0 8 _ (fM_stones b) () (Nat.le_of_ble_eq_true rfl) (Nat.le_of_ble_eq_true rfl) dX3_stoneOf_8 (rfl)
set_option maxHeartbeats 4000000 in
set_option maxRecDepth 100000 in
theorem c_X3_laidOf (D : va_G) (kI kJ : Nat) (l : Launch) (qM : Nat) (b : Int) (qM_stones : Nat) (qM_laid : Nat) (qM_deeps : Nat) (qM_rates : Nat) (qP : Nat) (qT : Nat) (qM_dangers : Nat) (qM_losses : Nat) (vM_size : Int) (vM_limit : Int) (fM_laid : (Int → Int)) (hb : 0 ≤ b ∧ b < 30) : xMi D kI kJ l yX3_laidOf wsX3_laidOf 2 53 0 0 [.ref qM, .int (jI b)] [(qM, .inr (3, [.ref qM_stones, .ref qM_laid, .ref qM_deeps, .ref qM_rates, .ref qP, .ref qT, .ref qM_dangers, .ref qM_losses, .int (jI vM_size), .int (jI vM_limit)])), aI kI qM_laid 30 fM_laid] (fun (z : Int) (u : Unit) => z = fM_laid b) (fun (u : Unit) => [(qM, .inr (3, [.ref qM_stones, .ref qM_laid, .ref qM_deeps, .ref qM_rates, .ref qP, .ref qT, .ref qM_dangers, .ref qM_losses, .int (jI vM_size), .int (jI vM_limit)])), aI kI qM_laid 30 fM_laid]) := by
  refine xMi_of (cc := cX3_laidOf) (maxL := 2) (rt := .int) (by decide) rfl (Nat.le_of_ble_eq_true rfl) (fun _ _ _ => rfl) ?_
  intro p e s m args below meth c A Q F hin2 hret
  have hin3 : ∀ w ∈ wsX30, w ∈ wsX3_laidOf := by decide +kernel
  have hw0 : Cond.fieldLink RX3 15 (TX3 1).1 (TX3 1).2.1 (TX3 1).2.2.1 ∈ wsX3_laidOf := by decide +kernel
  have hw1 : Cond.initialized yX9_at.cls ∈ wsX3_laidOf := by decide +kernel
  have hw2 : Cond.static yX9_at ∈ wsX3_laidOf := by decide +kernel
  refine x_lveq (lv' := [(0, .ref qM), (1, .int (jI b))]) rfl ?_
  refine x_aload_n F dX3_laidOf_0 rfl 0 rfl ?_
  refine x_get (ci := 3) F hin3 0 rfl rfl 1 (by decide) hw0 rfl dX3_laidOf_1 ?_
  refine x_iload_n F dX3_laidOf_4 rfl 1 rfl ?_
  refine x_callSNi (As := [.ref qM_laid, .int (jI b)]) (st := []) F (c_X9_at D kI kJ l qM_laid b 30 fM_laid (by omega) (by omega)) ⟨va_cnB 2 F.2.2.2.2.1 gX3_laidOf_X9_at_n57 rfl rfl rfl (nM9 F.2.2.2.2.2.2.2) (F.2.2.2.2.1 _ hw1) (by decide +kernel) ⟨Nat.le_of_ble_eq_true rfl, Nat.le_of_ble_eq_true rfl⟩, F.2.2.2.2.1 _ hw2, trivial⟩ [1] [0] [0, 1] rfl rfl (by decide) (by decide) (by decide) (fun _ => rfl) (by decide) rfl (Nat.le_of_ble_eq_true rfl) dX3_laidOf_5 ⟨Nat.le_of_ble_eq_true rfl, Nat.le_of_ble_eq_true rfl⟩ (fun z5 u5 h5 => ?_)
  try dsimp only at h5
  refine x_ws [(qM, .inr (3, [.ref qM_stones, .ref qM_laid, .ref qM_deeps, .ref qM_rates, .ref qP, .ref qT, .ref qM_dangers, .ref qM_losses, .int (jI vM_size), .int (jI vM_limit)])), aI kI qM_laid 30 fM_laid] rfl ?_
  have he5 := h5
  have he5 := he5.symm
  subst he5
  exact hret 0 0 8 _ (fM_laid b) () (Nat.le_of_ble_eq_true rfl) (Nat.le_of_ble_eq_true rfl) dX3_laidOf_8 (rfl)
set_option maxHeartbeats 4000000 in
set_option maxRecDepth 100000 in
theorem c_X3_deepOf (D : va_G) (kI kJ : Nat) (l : Launch) (qM : Nat) (b : Int) (qM_stones : Nat) (qM_laid : Nat) (qM_deeps : Nat) (qM_rates : Nat) (qP : Nat) (qT : Nat) (qM_dangers : Nat) (qM_losses : Nat) (vM_size : Int) (vM_limit : Int) (fM_deeps : (Int → Int)) (hb : 0 ≤ b ∧ b < 30) : xMi D kI kJ l yX3_deepOf wsX3_deepOf 2 53 0 0 [.ref qM, .int (jI b)] [(qM, .inr (3, [.ref qM_stones, .ref qM_laid, .ref qM_deeps, .ref qM_rates, .ref qP, .ref qT, .ref qM_dangers, .ref qM_losses, .int (jI vM_size), .int (jI vM_limit)])), aI kI qM_deeps 30 fM_deeps] (fun (z : Int) (u : Unit) => z = fM_deeps b) (fun (u : Unit) => [(qM, .inr (3, [.ref qM_stones, .ref qM_laid, .ref qM_deeps, .ref qM_rates, .ref qP, .ref qT, .ref qM_dangers, .ref qM_losses, .int (jI vM_size), .int (jI vM_limit)])), aI kI qM_deeps 30 fM_deeps]) := by
  refine xMi_of (cc := cX3_deepOf) (maxL := 2) (rt := .int) (by decide) rfl (Nat.le_of_ble_eq_true rfl) (fun _ _ _ => rfl) ?_
  intro p e s m args below meth c A Q F hin2 hret
  have hin3 : ∀ w ∈ wsX30, w ∈ wsX3_deepOf := by decide +kernel
  have hw0 : Cond.fieldLink RX3 18 (TX3 2).1 (TX3 2).2.1 (TX3 2).2.2.1 ∈ wsX3_deepOf := by decide +kernel
  have hw1 : Cond.initialized yX9_at.cls ∈ wsX3_deepOf := by decide +kernel
  have hw2 : Cond.static yX9_at ∈ wsX3_deepOf := by decide +kernel
  refine x_lveq (lv' := [(0, .ref qM), (1, .int (jI b))]) rfl ?_
  refine x_aload_n F dX3_deepOf_0 rfl 0 rfl ?_
  refine x_get (ci := 3) F hin3 0 rfl rfl 2 (by decide) hw0 rfl dX3_deepOf_1 ?_
  refine x_iload_n F dX3_deepOf_4 rfl 1 rfl ?_
  refine x_callSNi (As := [.ref qM_deeps, .int (jI b)]) (st := []) F (c_X9_at D kI kJ l qM_deeps b 30 fM_deeps (by omega) (by omega)) ⟨va_cnB 2 F.2.2.2.2.1 gX3_deepOf_X9_at_n57 rfl rfl rfl (nM9 F.2.2.2.2.2.2.2) (F.2.2.2.2.1 _ hw1) (by decide +kernel) ⟨Nat.le_of_ble_eq_true rfl, Nat.le_of_ble_eq_true rfl⟩, F.2.2.2.2.1 _ hw2, trivial⟩ [1] [0] [0, 1] rfl rfl (by decide) (by decide) (by decide) (fun _ => rfl) (by decide) rfl (Nat.le_of_ble_eq_true rfl) dX3_deepOf_5 ⟨Nat.le_of_ble_eq_true rfl, Nat.le_of_ble_eq_true rfl⟩ (fun z5 u5 h5 => ?_)
  try dsimp only at h5
  refine x_ws [(qM, .inr (3, [.ref qM_stones, .ref qM_laid, .ref qM_deeps, .ref qM_rates, .ref qP, .ref qT, .ref qM_dangers, .ref qM_losses, .int (jI vM_size), .int (jI vM_limit)])), aI kI qM_deeps 30 fM_deeps] rfl ?_
  have he5 := h5
  have he5 := he5.symm
  subst he5
  exact hret 0 0 8 _ (fM_deeps b) () (Nat.le_of_ble_eq_true rfl) (Nat.le_of_ble_eq_true rfl) dX3_deepOf_8 (rfl)
set_option maxHeartbeats 4000000 in
set_option maxRecDepth 100000 in
theorem c_X3_rateOf (D : va_G) (kI kJ : Nat) (l : Launch) (qM : Nat) (stone : Int) (spot : Int) (qM_stones : Nat) (qM_laid : Nat) (qM_deeps : Nat) (qM_rates : Nat) (qP : Nat) (qT : Nat) (qM_dangers : Nat) (qM_losses : Nat) (vM_size : Int) (vM_limit : Int) (fM_rates : (Int → Int)) (hb : (0 ≤ stone ∧ stone ≤ 3) ∧ 0 ≤ spot ∧ spot < 16) : xMi D kI kJ l yX3_rateOf wsX3_rateOf 2 53 0 0 [.ref qM, .int (jI stone), .int (jI spot)] [(qM, .inr (3, [.ref qM_stones, .ref qM_laid, .ref qM_deeps, .ref qM_rates, .ref qP, .ref qT, .ref qM_dangers, .ref qM_losses, .int (jI vM_size), .int (jI vM_limit)])), aI kI qM_rates 64 fM_rates] (fun (z : Int) (u : Unit) => z = fM_rates (stone * 16 + spot)) (fun (u : Unit) => [(qM, .inr (3, [.ref qM_stones, .ref qM_laid, .ref qM_deeps, .ref qM_rates, .ref qP, .ref qT, .ref qM_dangers, .ref qM_losses, .int (jI vM_size), .int (jI vM_limit)])), aI kI qM_rates 64 fM_rates]) := by
  refine xMi_of (cc := cX3_rateOf) (maxL := 3) (rt := .int) (by decide) rfl (Nat.le_of_ble_eq_true rfl) (fun _ _ _ => rfl) ?_
  intro p e s m args below meth c A Q F hin2 hret
  have hin3 : ∀ w ∈ wsX30, w ∈ wsX3_rateOf := by decide +kernel
  have hw0 : Cond.fieldLink RX3 21 (TX3 3).1 (TX3 3).2.1 (TX3 3).2.2.1 ∈ wsX3_rateOf := by decide +kernel
  have hw1 : Cond.initialized yX9_at.cls ∈ wsX3_rateOf := by decide +kernel
  have hw2 : Cond.static yX9_at ∈ wsX3_rateOf := by decide +kernel
  refine x_lveq (lv' := [(0, .ref qM), (1, .int (jI stone)), (2, .int (jI spot))]) rfl ?_
  refine x_aload_n F dX3_rateOf_0 rfl 0 rfl ?_
  refine x_get (ci := 3) F hin3 0 rfl rfl 3 (by decide) hw0 rfl dX3_rateOf_1 ?_
  refine x_iload_n F dX3_rateOf_4 rfl 1 rfl ?_
  refine x_bipush F dX3_rateOf_5 (by decide) ?_
  refine x_imul F dX3_rateOf_7 ?_
  refine x_iload_n F dX3_rateOf_8 rfl 2 rfl ?_
  refine x_iadd F dX3_rateOf_9 ?_
  refine x_callSNi (As := [.ref qM_rates, .int (jI ((stone * 16) + spot))]) (st := []) F (c_X9_at D kI kJ l qM_rates ((stone * 16) + spot) 64 fM_rates (by omega) (by omega)) ⟨va_cnB 2 F.2.2.2.2.1 gX3_rateOf_X9_at_n57 rfl rfl rfl (nM9 F.2.2.2.2.2.2.2) (F.2.2.2.2.1 _ hw1) (by decide +kernel) ⟨Nat.le_of_ble_eq_true rfl, Nat.le_of_ble_eq_true rfl⟩, F.2.2.2.2.1 _ hw2, trivial⟩ [1] [0] [0, 1] rfl rfl (by decide) (by decide) (by decide) (fun _ => rfl) (by decide) rfl (Nat.le_of_ble_eq_true rfl) dX3_rateOf_10 ⟨Nat.le_of_ble_eq_true rfl, Nat.le_of_ble_eq_true rfl⟩ (fun z10 u10 h10 => ?_)
  try dsimp only at h10
  refine x_ws [(qM, .inr (3, [.ref qM_stones, .ref qM_laid, .ref qM_deeps, .ref qM_rates, .ref qP, .ref qT, .ref qM_dangers, .ref qM_losses, .int (jI vM_size), .int (jI vM_limit)])), aI kI qM_rates 64 fM_rates] rfl ?_
  have he10 := h10
  have he10 := he10.symm
  subst he10
  exact hret 0 0 13 _ (fM_rates ((stone * 16) + spot)) () (Nat.le_of_ble_eq_true rfl) (Nat.le_of_ble_eq_true rfl) dX3_rateOf_13 (rfl)
set_option maxHeartbeats 4000000 in
set_option maxRecDepth 100000 in
theorem c_X3_hasBlock (D : va_G) (kI kJ : Nat) (l : Launch) (qM : Nat) (b : Int) (qM_stones : Nat) (qM_laid : Nat) (qM_deeps : Nat) (qM_rates : Nat) (qP : Nat) (qT : Nat) (qM_dangers : Nat) (qM_losses : Nat) (vM_size : Int) (vM_limit : Int) (hr_b : -2147483648 ≤ b ∧ b < 2147483648) (hMs : 0 ≤ vM_size ∧ vM_size ≤ 30) : xMi D kI kJ l yX3_hasBlock wsX3_hasBlock 2 53 0 0 [.ref qM, .int (jI b)] [(qM, .inr (3, [.ref qM_stones, .ref qM_laid, .ref qM_deeps, .ref qM_rates, .ref qP, .ref qT, .ref qM_dangers, .ref qM_losses, .int (jI vM_size), .int (jI vM_limit)]))] (fun (z : Int) (u : Unit) => xBool z (0 ≤ b ∧ b < vM_size)) (fun (u : Unit) => [(qM, .inr (3, [.ref qM_stones, .ref qM_laid, .ref qM_deeps, .ref qM_rates, .ref qP, .ref qT, .ref qM_dangers, .ref qM_losses, .int (jI vM_size), .int (jI vM_limit)]))]) := by
  refine xMi_of (cc := cX3_hasBlock) (maxL := 2) (rt := .boolean) (by decide) rfl (Nat.le_of_ble_eq_true rfl) (fun z u hp => xBool_nar hp) ?_
  intro p e s m args below meth c A Q F hin2 hret
  have hin3 : ∀ w ∈ wsX30, w ∈ wsX3_hasBlock := by decide +kernel
  have hw0 : Cond.fieldLink RX3 50 (TX3 8).1 (TX3 8).2.1 (TX3 8).2.2.1 ∈ wsX3_hasBlock := by decide +kernel
  have hw1 : Cond.initialized yX9_isBelow.cls ∈ wsX3_hasBlock := by decide +kernel
  have hw2 : Cond.static yX9_isBelow ∈ wsX3_hasBlock := by decide +kernel
  refine x_lveq (lv' := [(0, .ref qM), (1, .int (jI b))]) rfl ?_
  refine x_iload_n F dX3_hasBlock_0 rfl 1 rfl ?_
  refine x_aload_n F dX3_hasBlock_1 rfl 0 rfl ?_
  refine x_get (ci := 3) F hin3 0 rfl rfl 8 (by decide) hw0 rfl dX3_hasBlock_2 ?_
  refine x_callSNi (As := [.int (jI b), .int (jI vM_size)]) (st := []) F (c_X9_isBelow D kI kJ l b vM_size (by omega) (by omega)) ⟨va_cnB 2 F.2.2.2.2.1 gX3_hasBlock_X9_isBelow_n53 rfl rfl rfl (nM8 F.2.2.2.2.2.2.2) (F.2.2.2.2.1 _ hw1) (by decide +kernel) ⟨Nat.le_of_ble_eq_true rfl, Nat.le_of_ble_eq_true rfl⟩, F.2.2.2.2.1 _ hw2, trivial⟩ [] [0] [0] rfl rfl (by decide) (by decide) (by decide) (fun _ => rfl) (by decide) rfl (Nat.le_of_ble_eq_true rfl) dX3_hasBlock_5 ⟨Nat.le_of_ble_eq_true rfl, Nat.le_of_ble_eq_true rfl⟩ (fun z5 u5 h5 => ?_)
  try dsimp only at h5
  refine x_ws [(qM, .inr (3, [.ref qM_stones, .ref qM_laid, .ref qM_deeps, .ref qM_rates, .ref qP, .ref qT, .ref qM_dangers, .ref qM_losses, .int (jI vM_size), .int (jI vM_limit)]))] rfl ?_
  have hb5 := h5
  exact hret 0 0 8 _ z5 () (Nat.le_of_ble_eq_true rfl) (Nat.le_of_ble_eq_true rfl) dX3_hasBlock_8 (hb5)
set_option maxHeartbeats 4000000 in
set_option maxRecDepth 100000 in
theorem c_X3_addBlock_ok (D : va_G) (kI kJ : Nat) (l : Launch) (qM : Nat) (stone : Int) (year : Int) (deep : Int) (qM_stones : Nat) (qM_laid : Nat) (qM_deeps : Nat) (qM_rates : Nat) (qP : Nat) (qT : Nat) (qM_dangers : Nat) (qM_losses : Nat) (vM_size : Int) (vM_limit : Int) (fM_stones : (Int → Int)) (fM_laid : (Int → Int)) (fM_deeps : (Int → Int)) (hr_stone : -2147483648 ≤ stone ∧ stone < 2147483648) (hr_year : -2147483648 ≤ year ∧ year < 2147483648) (hr_deep : -2147483648 ≤ deep ∧ deep < 2147483648) (hMs : 0 ≤ vM_size ∧ vM_size < 30) : xMi D kI kJ l yX3_addBlock wsX3_addBlock 2 53 0 0 [.ref qM, .int (jI stone), .int (jI year), .int (jI deep)] [(qM, .inr (3, [.ref qM_stones, .ref qM_laid, .ref qM_deeps, .ref qM_rates, .ref qP, .ref qT, .ref qM_dangers, .ref qM_losses, .int (jI vM_size), .int (jI vM_limit)])), aI kI qM_stones 30 fM_stones, aI kI qM_laid 30 fM_laid, aI kI qM_deeps 30 fM_deeps] (fun (z : Int) (u : Unit) => z = vM_size) (fun (u : Unit) => [(qM, .inr (3, [.ref qM_stones, .ref qM_laid, .ref qM_deeps, .ref qM_rates, .ref qP, .ref qT, .ref qM_dangers, .ref qM_losses, .int (jI (vM_size + 1)), .int (jI vM_limit)])), aI kI qM_stones 30 (iU fM_stones vM_size stone), aI kI qM_laid 30 (iU fM_laid vM_size year), aI kI qM_deeps 30 (iU fM_deeps vM_size deep)]) := by
  refine xMi_of (cc := cX3_addBlock) (maxL := 4) (rt := .int) (by decide) rfl (Nat.le_of_ble_eq_true rfl) (fun _ _ _ => rfl) ?_
  intro p e s m args below meth c A Q F hin2 hret
  have hin3 : ∀ w ∈ wsX30, w ∈ wsX3_addBlock := by decide +kernel
  have hw0 : Cond.fieldLink RX3 50 (TX3 8).1 (TX3 8).2.1 (TX3 8).2.2.1 ∈ wsX3_addBlock := by decide +kernel
  have hw1 : Cond.initialized yX9_isBelow.cls ∈ wsX3_addBlock := by decide +kernel
  have hw2 : Cond.static yX9_isBelow ∈ wsX3_addBlock := by decide +kernel
  have hw3 : Cond.fieldLink RX3 9 (TX3 0).1 (TX3 0).2.1 (TX3 0).2.2.1 ∈ wsX3_addBlock := by decide +kernel
  have hw4 : Cond.fieldLink RX3 15 (TX3 1).1 (TX3 1).2.1 (TX3 1).2.2.1 ∈ wsX3_addBlock := by decide +kernel
  have hw5 : Cond.fieldLink RX3 18 (TX3 2).1 (TX3 2).2.1 (TX3 2).2.2.1 ∈ wsX3_addBlock := by decide +kernel
  refine x_lveq (lv' := [(0, .ref qM), (1, .int (jI stone)), (2, .int (jI year)), (3, .int (jI deep))]) rfl ?_
  refine x_aload_n F dX3_addBlock_0 rfl 0 rfl ?_
  refine x_get (ci := 3) F hin3 0 rfl rfl 8 (by decide) hw0 rfl dX3_addBlock_1 ?_
  refine x_bipush F dX3_addBlock_4 (by decide) ?_
  refine x_callSNi (As := [.int (jI vM_size), .int (jI 30)]) (st := []) F (c_X9_isBelow D kI kJ l vM_size 30 (by omega) (by omega)) ⟨va_cnB 2 F.2.2.2.2.1 gX3_addBlock_X9_isBelow_n53 rfl rfl rfl (nM8 F.2.2.2.2.2.2.2) (F.2.2.2.2.1 _ hw1) (by decide +kernel) ⟨Nat.le_of_ble_eq_true rfl, Nat.le_of_ble_eq_true rfl⟩, F.2.2.2.2.1 _ hw2, trivial⟩ [] [0, 1, 2, 3] [0, 1, 2, 3] rfl rfl (by decide) (by decide) (by decide) (fun _ => rfl) (by decide) rfl (Nat.le_of_ble_eq_true rfl) dX3_addBlock_6 ⟨Nat.le_of_ble_eq_true rfl, Nat.le_of_ble_eq_true rfl⟩ (fun z6 u6 h6 => ?_)
  try dsimp only at h6
  refine x_ws [(qM, .inr (3, [.ref qM_stones, .ref qM_laid, .ref qM_deeps, .ref qM_rates, .ref qP, .ref qT, .ref qM_dangers, .ref qM_losses, .int (jI vM_size), .int (jI vM_limit)])), aI kI qM_stones 30 fM_stones, aI kI qM_laid 30 fM_laid, aI kI qM_deeps 30 fM_deeps] rfl ?_
  have hb6 := h6
  refine x_bne (tgt := 16) F dX3_addBlock_9 (by decide) hb6 (fun c9 => ?_) (fun c9 => ?_)
  · -- 9 t
    refine x_aload_n F dX3_addBlock_16 rfl 0 rfl ?_
    refine x_get (ci := 3) F hin3 0 rfl rfl 0 (by decide) hw3 rfl dX3_addBlock_17 ?_
    refine x_aload_n F dX3_addBlock_20 rfl 0 rfl ?_
    refine x_get (ci := 3) F hin3 0 rfl rfl 8 (by decide) hw0 rfl dX3_addBlock_21 ?_
    refine x_iload_n F dX3_addBlock_24 rfl 1 rfl ?_
    refine x_iast F 1 rfl (by decide) (by omega) dX3_addBlock_25 [(qM, .inr (3, [.ref qM_stones, .ref qM_laid, .ref qM_deeps, .ref qM_rates, .ref qP, .ref qT, .ref qM_dangers, .ref qM_losses, .int (jI vM_size), .int (jI vM_limit)])), aI kI qM_stones 30 (iU fM_stones vM_size stone), aI kI qM_laid 30 fM_laid, aI kI qM_deeps 30 fM_deeps] rfl ?_
    refine x_aload_n F dX3_addBlock_26 rfl 0 rfl ?_
    refine x_get (ci := 3) F hin3 0 rfl rfl 1 (by decide) hw4 rfl dX3_addBlock_27 ?_
    refine x_aload_n F dX3_addBlock_30 rfl 0 rfl ?_
    refine x_get (ci := 3) F hin3 0 rfl rfl 8 (by decide) hw0 rfl dX3_addBlock_31 ?_
    refine x_iload_n F dX3_addBlock_34 rfl 2 rfl ?_
    refine x_iast F 2 rfl (by decide) (by omega) dX3_addBlock_35 [(qM, .inr (3, [.ref qM_stones, .ref qM_laid, .ref qM_deeps, .ref qM_rates, .ref qP, .ref qT, .ref qM_dangers, .ref qM_losses, .int (jI vM_size), .int (jI vM_limit)])), aI kI qM_stones 30 (iU fM_stones vM_size stone), aI kI qM_laid 30 (iU fM_laid vM_size year), aI kI qM_deeps 30 fM_deeps] rfl ?_
    refine x_aload_n F dX3_addBlock_36 rfl 0 rfl ?_
    refine x_get (ci := 3) F hin3 0 rfl rfl 2 (by decide) hw5 rfl dX3_addBlock_37 ?_
    refine x_aload_n F dX3_addBlock_40 rfl 0 rfl ?_
    refine x_get (ci := 3) F hin3 0 rfl rfl 8 (by decide) hw0 rfl dX3_addBlock_41 ?_
    refine x_iload_n F dX3_addBlock_44 rfl 3 rfl ?_
    refine x_iast F 3 rfl (by decide) (by omega) dX3_addBlock_45 [(qM, .inr (3, [.ref qM_stones, .ref qM_laid, .ref qM_deeps, .ref qM_rates, .ref qP, .ref qT, .ref qM_dangers, .ref qM_losses, .int (jI vM_size), .int (jI vM_limit)])), aI kI qM_stones 30 (iU fM_stones vM_size stone), aI kI qM_laid 30 (iU fM_laid vM_size year), aI kI qM_deeps 30 (iU fM_deeps vM_size deep)] rfl ?_
    refine x_aload_n F dX3_addBlock_46 rfl 0 rfl ?_
    refine x_dup F dX3_addBlock_47 rfl ?_
    refine x_get (ci := 3) F hin3 0 rfl rfl 8 (by decide) hw0 rfl dX3_addBlock_48 ?_
    refine x_iconst F dX3_addBlock_51 ?_
    refine x_iadd F dX3_addBlock_52 ?_
    refine x_put (ci := 3) F hin3 tyX3_ok nmX3 0 rfl rfl 8 (by decide) hw0 rfl rfl rfl (show 8 + 1 ≤ _ from Nat.le_of_ble_eq_true rfl) dX3_addBlock_53 [(qM, .inr (3, [.ref qM_stones, .ref qM_laid, .ref qM_deeps, .ref qM_rates, .ref qP, .ref qT, .ref qM_dangers, .ref qM_losses, .int (jI (vM_size + 1)), .int (jI vM_limit)])), aI kI qM_stones 30 (iU fM_stones vM_size stone), aI kI qM_laid 30 (iU fM_laid vM_size year), aI kI qM_deeps 30 (iU fM_deeps vM_size deep)] rfl ?_
    refine x_aload_n F dX3_addBlock_56 rfl 0 rfl ?_
    refine x_get (ci := 3) F hin3 0 rfl rfl 8 (by decide) hw0 rfl dX3_addBlock_57 ?_
    refine x_iconst F dX3_addBlock_60 ?_
    refine x_isub F dX3_addBlock_61 ?_
    exact hret 0 0 62 _ ((vM_size + 1) - 1) () (Nat.le_of_ble_eq_true rfl) (Nat.le_of_ble_eq_true rfl) dX3_addBlock_62 (by omega)
  · exact absurd c9 (by omega)
set_option maxHeartbeats 4000000 in
set_option maxRecDepth 100000 in
theorem c_X3_addBlock_full (D : va_G) (kI kJ : Nat) (l : Launch) (qM : Nat) (stone : Int) (year : Int) (deep : Int) (qM_stones : Nat) (qM_laid : Nat) (qM_deeps : Nat) (qM_rates : Nat) (qP : Nat) (qT : Nat) (qM_dangers : Nat) (qM_losses : Nat) (vM_size : Int) (vM_limit : Int) (fM_stones : (Int → Int)) (fM_laid : (Int → Int)) (fM_deeps : (Int → Int)) (hr_stone : -2147483648 ≤ stone ∧ stone < 2147483648) (hr_year : -2147483648 ≤ year ∧ year < 2147483648) (hr_deep : -2147483648 ≤ deep ∧ deep < 2147483648) (hMs : vM_size = 30) : xMi D kI kJ l yX3_addBlock wsX3_addBlock 2 53 0 0 [.ref qM, .int (jI stone), .int (jI year), .int (jI deep)] [(qM, .inr (3, [.ref qM_stones, .ref qM_laid, .ref qM_deeps, .ref qM_rates, .ref qP, .ref qT, .ref qM_dangers, .ref qM_losses, .int (jI vM_size), .int (jI vM_limit)])), aI kI qM_stones 30 fM_stones, aI kI qM_laid 30 fM_laid, aI kI qM_deeps 30 fM_deeps] (fun (z : Int) (u : Unit) => z = (-1004)) (fun (u : Unit) => [(qM, .inr (3, [.ref qM_stones, .ref qM_laid, .ref qM_deeps, .ref qM_rates, .ref qP, .ref qT, .ref qM_dangers, .ref qM_losses, .int (jI vM_size), .int (jI vM_limit)])), aI kI qM_stones 30 fM_stones, aI kI qM_laid 30 fM_laid, aI kI qM_deeps 30 fM_deeps]) := by
  refine xMi_of (cc := cX3_addBlock) (maxL := 4) (rt := .int) (by decide) rfl (Nat.le_of_ble_eq_true rfl) (fun _ _ _ => rfl) ?_
  intro p e s m args below meth c A Q F hin2 hret
  have hin3 : ∀ w ∈ wsX30, w ∈ wsX3_addBlock := by decide +kernel
  have hw0 : Cond.fieldLink RX3 50 (TX3 8).1 (TX3 8).2.1 (TX3 8).2.2.1 ∈ wsX3_addBlock := by decide +kernel
  have hw1 : Cond.initialized yX9_isBelow.cls ∈ wsX3_addBlock := by decide +kernel
  have hw2 : Cond.static yX9_isBelow ∈ wsX3_addBlock := by decide +kernel
  refine x_lveq (lv' := [(0, .ref qM), (1, .int (jI stone)), (2, .int (jI year)), (3, .int (jI deep))]) rfl ?_
  refine x_aload_n F dX3_addBlock_0 rfl 0 rfl ?_
  refine x_get (ci := 3) F hin3 0 rfl rfl 8 (by decide) hw0 rfl dX3_addBlock_1 ?_
  refine x_bipush F dX3_addBlock_4 (by decide) ?_
  refine x_callSNi (As := [.int (jI vM_size), .int (jI 30)]) (st := []) F (c_X9_isBelow D kI kJ l vM_size 30 (by omega) (by omega)) ⟨va_cnB 2 F.2.2.2.2.1 gX3_addBlock_X9_isBelow_n53 rfl rfl rfl (nM8 F.2.2.2.2.2.2.2) (F.2.2.2.2.1 _ hw1) (by decide +kernel) ⟨Nat.le_of_ble_eq_true rfl, Nat.le_of_ble_eq_true rfl⟩, F.2.2.2.2.1 _ hw2, trivial⟩ [] [0, 1, 2, 3] [0, 1, 2, 3] rfl rfl (by decide) (by decide) (by decide) (fun _ => rfl) (by decide) rfl (Nat.le_of_ble_eq_true rfl) dX3_addBlock_6 ⟨Nat.le_of_ble_eq_true rfl, Nat.le_of_ble_eq_true rfl⟩ (fun z6 u6 h6 => ?_)
  try dsimp only at h6
  refine x_ws [(qM, .inr (3, [.ref qM_stones, .ref qM_laid, .ref qM_deeps, .ref qM_rates, .ref qP, .ref qT, .ref qM_dangers, .ref qM_losses, .int (jI vM_size), .int (jI vM_limit)])), aI kI qM_stones 30 fM_stones, aI kI qM_laid 30 fM_laid, aI kI qM_deeps 30 fM_deeps] rfl ?_
  have hb6 := h6
  refine x_bne (tgt := 16) F dX3_addBlock_9 (by decide) hb6 (fun c9 => ?_) (fun c9 => ?_)
  · exact absurd c9 (by omega)
  · -- 9 f
    refine x_sipush F dX3_addBlock_12 (by decide) ?_
    exact hret 0 0 15 _ (-1004) () (Nat.le_of_ble_eq_true rfl) (Nat.le_of_ble_eq_true rfl) dX3_addBlock_15 (rfl)
set_option maxHeartbeats 4000000 in
set_option maxRecDepth 100000 in
theorem c_X3_changeRate (D : va_G) (kI kJ : Nat) (l : Launch) (qM : Nat) (stone : Int) (spot : Int) (v : Int) (qM_stones : Nat) (qM_laid : Nat) (qM_deeps : Nat) (qM_rates : Nat) (qP : Nat) (qT : Nat) (qM_dangers : Nat) (qM_losses : Nat) (vM_size : Int) (vM_limit : Int) (fM_rates : (Int → Int)) (hr_v : -2147483648 ≤ v ∧ v < 2147483648) (hb : (0 ≤ stone ∧ stone ≤ 3) ∧ 0 ≤ spot ∧ spot < 16) : xMi D kI kJ l yX3_changeRate wsX3_changeRate 2 53 0 0 [.ref qM, .int (jI stone), .int (jI spot), .int (jI v)] [(qM, .inr (3, [.ref qM_stones, .ref qM_laid, .ref qM_deeps, .ref qM_rates, .ref qP, .ref qT, .ref qM_dangers, .ref qM_losses, .int (jI vM_size), .int (jI vM_limit)])), aI kI qM_rates 64 fM_rates] (fun (z : Int) (u : Unit) => z = fM_rates (stone * 16 + spot)) (fun (u : Unit) => [(qM, .inr (3, [.ref qM_stones, .ref qM_laid, .ref qM_deeps, .ref qM_rates, .ref qP, .ref qT, .ref qM_dangers, .ref qM_losses, .int (jI vM_size), .int (jI vM_limit)])), aI kI qM_rates 64 (iU fM_rates (stone * 16 + spot) v)]) := by
  refine xMi_of (cc := cX3_changeRate) (maxL := 6) (rt := .int) (by decide) rfl (Nat.le_of_ble_eq_true rfl) (fun _ _ _ => rfl) ?_
  intro p e s m args below meth c A Q F hin2 hret
  have hin3 : ∀ w ∈ wsX30, w ∈ wsX3_changeRate := by decide +kernel
  have hw0 : Cond.fieldLink RX3 21 (TX3 3).1 (TX3 3).2.1 (TX3 3).2.2.1 ∈ wsX3_changeRate := by decide +kernel
  have hw1 : Cond.initialized yX9_at.cls ∈ wsX3_changeRate := by decide +kernel
  have hw2 : Cond.static yX9_at ∈ wsX3_changeRate := by decide +kernel
  have hw3 : Cond.initialized yX9_isBelow.cls ∈ wsX3_changeRate := by decide +kernel
  have hw4 : Cond.static yX9_isBelow ∈ wsX3_changeRate := by decide +kernel
  refine x_lveq (lv' := [(0, .ref qM), (1, .int (jI stone)), (2, .int (jI spot)), (3, .int (jI v))]) rfl ?_
  refine x_iload_n F dX3_changeRate_0 rfl 1 rfl ?_
  refine x_bipush F dX3_changeRate_1 (by decide) ?_
  refine x_imul F dX3_changeRate_3 ?_
  refine x_iload_n F dX3_changeRate_4 rfl 2 rfl ?_
  refine x_iadd F dX3_changeRate_5 ?_
  refine x_istore (lv' := [(0, .ref qM), (1, .int (jI stone)), (2, .int (jI spot)), (3, .int (jI v)), (4, .int (jI ((stone * 16) + spot)))]) F dX3_changeRate_6 (by decide) [1, 2, 3, 4, 0] rfl ?_
  refine x_aload_n F dX3_changeRate_8 rfl 0 rfl ?_
  refine x_get (ci := 3) F hin3 0 rfl rfl 3 (by decide) hw0 rfl dX3_changeRate_9 ?_
  refine x_iload F dX3_changeRate_12 4 rfl ?_
  refine x_callSNi (As := [.ref qM_rates, .int (jI ((stone * 16) + spot))]) (st := []) F (c_X9_at D kI kJ l qM_rates ((stone * 16) + spot) 64 fM_rates (by omega) (by omega)) ⟨va_cnB 2 F.2.2.2.2.1 gX3_changeRate_X9_at_n57 rfl rfl rfl (nM9 F.2.2.2.2.2.2.2) (F.2.2.2.2.1 _ hw1) (by decide +kernel) ⟨Nat.le_of_ble_eq_true rfl, Nat.le_of_ble_eq_true rfl⟩, F.2.2.2.2.1 _ hw2, trivial⟩ [1] [0] [0, 1] rfl rfl (by decide) (by decide) (by decide) (fun _ => rfl) (by decide) rfl (Nat.le_of_ble_eq_true rfl) dX3_changeRate_14 ⟨Nat.le_of_ble_eq_true rfl, Nat.le_of_ble_eq_true rfl⟩ (fun z14 u14 h14 => ?_)
  try dsimp only at h14
  refine x_ws [(qM, .inr (3, [.ref qM_stones, .ref qM_laid, .ref qM_deeps, .ref qM_rates, .ref qP, .ref qT, .ref qM_dangers, .ref qM_losses, .int (jI vM_size), .int (jI vM_limit)])), aI kI qM_rates 64 fM_rates] rfl ?_
  have he14 := h14
  have he14 := he14.symm
  subst he14
  refine x_istore (lv' := [(0, .ref qM), (1, .int (jI stone)), (2, .int (jI spot)), (3, .int (jI v)), (4, .int (jI ((stone * 16) + spot))), (5, .int (jI (fM_rates ((stone * 16) + spot))))]) F dX3_changeRate_17 (by decide) [1, 2, 3, 4, 5, 0] rfl ?_
  refine x_iload F dX3_changeRate_19 4 rfl ?_
  refine x_aload_n F dX3_changeRate_21 rfl 0 rfl ?_
  refine x_get (ci := 3) F hin3 0 rfl rfl 3 (by decide) hw0 rfl dX3_changeRate_22 ?_
  refine x_alen F 1 64 rfl (by decide) dX3_changeRate_25 ?_
  refine x_callSNi (As := [.int (jI ((stone * 16) + spot)), .int (jI 64)]) (st := []) F (c_X9_isBelow D kI kJ l ((stone * 16) + spot) 64 (by omega) (by omega)) ⟨va_cnB 2 F.2.2.2.2.1 gX3_changeRate_X9_isBelow_n53 rfl rfl rfl (nM8 F.2.2.2.2.2.2.2) (F.2.2.2.2.1 _ hw3) (by decide +kernel) ⟨Nat.le_of_ble_eq_true rfl, Nat.le_of_ble_eq_true rfl⟩, F.2.2.2.2.1 _ hw4, trivial⟩ [] [0, 1] [0, 1] rfl rfl (by decide) (by decide) (by decide) (fun _ => rfl) (by decide) rfl (Nat.le_of_ble_eq_true rfl) dX3_changeRate_26 ⟨Nat.le_of_ble_eq_true rfl, Nat.le_of_ble_eq_true rfl⟩ (fun z26 u26 h26 => ?_)
  try dsimp only at h26
  refine x_ws [(qM, .inr (3, [.ref qM_stones, .ref qM_laid, .ref qM_deeps, .ref qM_rates, .ref qP, .ref qT, .ref qM_dangers, .ref qM_losses, .int (jI vM_size), .int (jI vM_limit)])), aI kI qM_rates 64 fM_rates] rfl ?_
  have hb26 := h26
  refine x_beq (tgt := 40) F dX3_changeRate_29 (by decide) hb26 (fun c29 => ?_) (fun c29 => ?_)
  · exact absurd c29 (by omega)
  · -- 29 f
    refine x_aload_n F dX3_changeRate_32 rfl 0 rfl ?_
    refine x_get (ci := 3) F hin3 0 rfl rfl 3 (by decide) hw0 rfl dX3_changeRate_33 ?_
    refine x_iload F dX3_changeRate_36 4 rfl ?_
    refine x_iload_n F dX3_changeRate_38 rfl 3 rfl ?_
    refine x_iast F 1 rfl (by decide) (by omega) dX3_changeRate_39 [(qM, .inr (3, [.ref qM_stones, .ref qM_laid, .ref qM_deeps, .ref qM_rates, .ref qP, .ref qT, .ref qM_dangers, .ref qM_losses, .int (jI vM_size), .int (jI vM_limit)])), aI kI qM_rates 64 (iU fM_rates ((stone * 16) + spot) v)] rfl ?_
    refine x_iload F dX3_changeRate_40 5 rfl ?_
    exact hret 0 0 42 _ (fM_rates ((stone * 16) + spot)) () (Nat.le_of_ble_eq_true rfl) (Nat.le_of_ble_eq_true rfl) dX3_changeRate_42 (rfl)
set_option maxHeartbeats 4000000 in
set_option maxRecDepth 100000 in
theorem c_X3_changeLimit (D : va_G) (kI kJ : Nat) (l : Launch) (qM : Nat) (v : Int) (qM_stones : Nat) (qM_laid : Nat) (qM_deeps : Nat) (qM_rates : Nat) (qP : Nat) (qT : Nat) (qM_dangers : Nat) (qM_losses : Nat) (vM_size : Int) (vM_limit : Int) (hr_v : -2147483648 ≤ v ∧ v < 2147483648) : xMi D kI kJ l yX3_changeLimit wsX3_changeLimit 1 32 0 0 [.ref qM, .int (jI v)] [(qM, .inr (3, [.ref qM_stones, .ref qM_laid, .ref qM_deeps, .ref qM_rates, .ref qP, .ref qT, .ref qM_dangers, .ref qM_losses, .int (jI vM_size), .int (jI vM_limit)]))] (fun (z : Int) (u : Unit) => z = vM_limit) (fun (u : Unit) => [(qM, .inr (3, [.ref qM_stones, .ref qM_laid, .ref qM_deeps, .ref qM_rates, .ref qP, .ref qT, .ref qM_dangers, .ref qM_losses, .int (jI vM_size), .int (jI v)]))]) := by
  refine xMi_of (cc := cX3_changeLimit) (maxL := 3) (rt := .int) (by decide) rfl (Nat.le_of_ble_eq_true rfl) (fun _ _ _ => rfl) ?_
  intro p e s m args below meth c A Q F hin2 hret
  have hin3 : ∀ w ∈ wsX30, w ∈ wsX3_changeLimit := by decide +kernel
  have hw0 : Cond.fieldLink RX3 40 (TX3 9).1 (TX3 9).2.1 (TX3 9).2.2.1 ∈ wsX3_changeLimit := by decide +kernel
  refine x_lveq (lv' := [(0, .ref qM), (1, .int (jI v))]) rfl ?_
  refine x_aload_n F dX3_changeLimit_0 rfl 0 rfl ?_
  refine x_get (ci := 3) F hin3 0 rfl rfl 9 (by decide) hw0 rfl dX3_changeLimit_1 ?_
  refine x_istore_n (lv' := [(0, .ref qM), (1, .int (jI v)), (2, .int (jI vM_limit))]) F dX3_changeLimit_4 rfl (by decide) [1, 2, 0] rfl ?_
  refine x_aload_n F dX3_changeLimit_5 rfl 0 rfl ?_
  refine x_iload_n F dX3_changeLimit_6 rfl 1 rfl ?_
  refine x_put (ci := 3) F hin3 tyX3_ok nmX3 0 rfl rfl 9 (by decide) hw0 rfl rfl rfl (show 9 + 1 ≤ _ from Nat.le_of_ble_eq_true rfl) dX3_changeLimit_7 [(qM, .inr (3, [.ref qM_stones, .ref qM_laid, .ref qM_deeps, .ref qM_rates, .ref qP, .ref qT, .ref qM_dangers, .ref qM_losses, .int (jI vM_size), .int (jI v)]))] rfl ?_
  refine x_iload_n F dX3_changeLimit_10 rfl 2 rfl ?_
  exact hret 0 0 11 _ vM_limit () (Nat.le_of_ble_eq_true rfl) (Nat.le_of_ble_eq_true rfl) dX3_changeLimit_11 (rfl)
set_option maxHeartbeats 4000000 in
set_option maxRecDepth 100000 in
theorem c_X3_isDanger (D : va_G) (kI kJ : Nat) (l : Launch) (qM : Nat) (b : Int) (lost : Int) (qM_stones : Nat) (qM_laid : Nat) (qM_deeps : Nat) (qM_rates : Nat) (qP : Nat) (qT : Nat) (qM_dangers : Nat) (qM_losses : Nat) (vM_size : Int) (vM_limit : Int) (fM_deeps : (Int → Int)) (hb : 0 ≤ b ∧ b < 30) (hl : 0 ≤ lost ∧ lost ≤ 40100) (hMd : Rg fM_deeps 30 0 2000) (hMl : 1 ≤ vM_limit ∧ vM_limit ≤ 100) : xMi D kI kJ l yX3_isDanger wsX3_isDanger 3 74 0 0 [.ref qM, .int (jI b), .int (jI lost)] [(qM, .inr (3, [.ref qM_stones, .ref qM_laid, .ref qM_deeps, .ref qM_rates, .ref qP, .ref qT, .ref qM_dangers, .ref qM_losses, .int (jI vM_size), .int (jI vM_limit)])), aI kI qM_deeps 30 fM_deeps] (fun (z : Int) (u : Unit) => xBool z (fM_deeps b * vM_limit ≤ lost * 100)) (fun (u : Unit) => [(qM, .inr (3, [.ref qM_stones, .ref qM_laid, .ref qM_deeps, .ref qM_rates, .ref qP, .ref qT, .ref qM_dangers, .ref qM_losses, .int (jI vM_size), .int (jI vM_limit)])), aI kI qM_deeps 30 fM_deeps]) := by
  refine xMi_of (cc := cX3_isDanger) (maxL := 3) (rt := .boolean) (by decide) rfl (Nat.le_of_ble_eq_true rfl) (fun z u hp => xBool_nar hp) ?_
  intro p e s m args below meth c A Q F hin2 hret
  have hin3 : ∀ w ∈ wsX30, w ∈ wsX3_isDanger := by decide +kernel
  have hw0 : Cond.fieldLink RX3 40 (TX3 9).1 (TX3 9).2.1 (TX3 9).2.2.1 ∈ wsX3_isDanger := by decide +kernel
  refine x_lveq (lv' := [(0, .ref qM), (1, .int (jI b)), (2, .int (jI lost))]) rfl ?_
  have hdb := Rg.at hMd b (by omega)
  have hmb := mul_bd (A := 2000) (B := 100) hdb (show 0 ≤ vM_limit ∧ vM_limit ≤ 100 by omega)
  refine x_iload_n F dX3_isDanger_0 rfl 2 rfl ?_
  refine x_bipush F dX3_isDanger_1 (by decide) ?_
  refine x_imul F dX3_isDanger_3 ?_
  refine x_aload_n F dX3_isDanger_4 rfl 0 rfl ?_
  refine x_iload_n F dX3_isDanger_5 rfl 1 rfl ?_
  refine x_callVi (ci := 3) (q0 := 0) (As := [.int (jI b)]) (st := [.int (jI (lost * 100))]) F (c_X3_deepOf D kI kJ l qM b qM_stones qM_laid qM_deeps qM_rates qP qT qM_dangers qM_losses vM_size vM_limit fM_deeps hb) (cwV 1 F.2.2.2.2.1 gX3_isDanger_X3_deepOf rfl rfl rfl (by decide +kernel) ⟨Nat.le_of_ble_eq_true rfl, Nat.le_of_ble_eq_true rfl⟩) rfl rfl [0, 1] [] [0, 1] rfl rfl (by decide) (by decide) (by decide) (fun _ => rfl) (by decide) rfl (Nat.le_of_ble_eq_true rfl) dX3_isDanger_6 ⟨Nat.le_of_ble_eq_true rfl, Nat.le_of_ble_eq_true rfl⟩ (fun z6 u6 h6 => ?_)
  try dsimp only at h6
  refine x_ws [(qM, .inr (3, [.ref qM_stones, .ref qM_laid, .ref qM_deeps, .ref qM_rates, .ref qP, .ref qT, .ref qM_dangers, .ref qM_losses, .int (jI vM_size), .int (jI vM_limit)])), aI kI qM_deeps 30 fM_deeps] rfl ?_
  have he6 := h6
  have he6 := he6.symm
  subst he6
  refine x_aload_n F dX3_isDanger_9 rfl 0 rfl ?_
  refine x_get (ci := 3) F hin3 0 rfl rfl 9 (by decide) hw0 rfl dX3_isDanger_10 ?_
  refine x_imul F dX3_isDanger_13 ?_
  refine x_icmp_lt (tgt := 21) F dX3_isDanger_14 (by decide) (by omega) (fun c14 => ?_) (fun c14 => ?_)
  · -- 14 t
    refine x_iconst F dX3_isDanger_21 ?_
    exact hret 0 0 22 _ 0 () (Nat.le_of_ble_eq_true rfl) (Nat.le_of_ble_eq_true rfl) dX3_isDanger_22 (by first | exact xBool_t (by omega) | exact xBool_f (by omega))
  · -- 14 f
    refine x_iconst F dX3_isDanger_17 ?_
    refine x_goto (tgt := 22) F dX3_isDanger_18 (by decide) ?_
    exact hret 0 0 22 _ 1 () (Nat.le_of_ble_eq_true rfl) (Nat.le_of_ble_eq_true rfl) dX3_isDanger_22 (by first | exact xBool_t (by omega) | exact xBool_f (by omega))
