set_option maxHeartbeats 4000000 in
set_option maxRecDepth 100000 in
theorem c_X0_follow (D : va_G) (kI kJ : Nat) (l : Launch) (qC : Nat) (qM : Nat) (b : Int) (qC_placed : Nat) (qC_wrong : Nat) (qC_lost : Nat) (vC_danger : Int) (fC_placed : (Int → Int)) (fC_wrong : (Int → Int)) (fC_lost : (Int → Int)) (qM_stones : Nat) (qM_laid : Nat) (qM_deeps : Nat) (qM_rates : Nat) (qP : Nat) (qT : Nat) (qM_dangers : Nat) (qM_losses : Nat) (vM_size : Int) (vM_limit : Int) (fM_stones : (Int → Int)) (fM_laid : (Int → Int)) (fM_deeps : (Int → Int)) (fM_rates : (Int → Int)) (qP_blocks : Nat) (qP_years : Nat) (qP_values : Nat) (qP_since : Nat) (vP_size : Int) (fP_blocks : (Int → Int)) (fP_years : (Int → Int)) (fP_values : (Int → Int)) (fP_since : (Int → Int)) (qT_blocks : Nat) (qT_years : Nat) (qT_values : Nat) (qT_since : Nat) (vT_size : Int) (fT_blocks : (Int → Int)) (fT_years : (Int → Int)) (fT_values : (Int → Int)) (fT_since : (Int → Int)) (hb : 0 ≤ b ∧ b < 30) (hMr : Rg fM_rates 64 0 50) (hMst : Rg fM_stones 30 0 3) (hMla : Rg fM_laid 30 0 400) (hMd : Rg fM_deeps 30 0 2000) (hMl : 1 ≤ vM_limit ∧ vM_limit ≤ 100) (hPs : 0 ≤ vP_size ∧ vP_size ≤ 60) (hPb : Rg fP_blocks 60 0 29) (hPy : Rg fP_years 60 0 400) (hPv : Rg fP_values 60 0 127) (hTs : 0 ≤ vT_size ∧ vT_size ≤ 60) (hTb : Rg fT_blocks 60 0 29) (hTy : Rg fT_years 60 0 400) (hTv : Rg fT_values 60 0 1) : xMv D kI kJ l yX0_follow wsX0_follow 4 111 0 0 [.ref qC, .ref qM, .int (jI b)] [(qC, .inr (0, [.ref qC_placed, .ref qC_wrong, .ref qC_lost, .int (jI vC_danger)])), aI kI qC_placed 401 fC_placed, aI kI qC_wrong 401 fC_wrong, aI kI qC_lost 401 fC_lost, (qM, .inr (3, [.ref qM_stones, .ref qM_laid, .ref qM_deeps, .ref qM_rates, .ref qP, .ref qT, .ref qM_dangers, .ref qM_losses, .int (jI vM_size), .int (jI vM_limit)])), aI kI qM_stones 30 fM_stones, aI kI qM_laid 30 fM_laid, aI kI qM_deeps 30 fM_deeps, aI kI qM_rates 64 fM_rates, (qP, .inr (7, [.ref qP_blocks, .ref qP_years, .ref qP_values, .ref qP_since, .int (jI vP_size)])), aI kI qP_blocks 60 fP_blocks, aI kI qP_years 60 fP_years, aI kI qP_values 60 fP_values, aI kI qP_since 401 fP_since, (qT, .inr (7, [.ref qT_blocks, .ref qT_years, .ref qT_values, .ref qT_since, .int (jI vT_size)])), aI kI qT_blocks 60 fT_blocks, aI kI qT_years 60 fT_years, aI kI qT_values 60 fT_values, aI kI qT_since 401 fT_since] (fun (u : (Int → Int) × (Int → Int) × (Int → Int) × Int × (Int → Int) × (Int → Int)) => (∀ k : Int, 0 ≤ k → k < 401 → u.1 k = rV fP_blocks fP_years fP_values b k vP_size) ∧ (∀ k : Int, 0 ≤ k → k < 401 → u.2.1 k = rV fT_blocks fT_years fT_values b k vT_size) ∧ (∀ k : Int, 0 ≤ k → k < 401 → u.2.2.1 k = (lS (kLoss fM_rates (fM_stones b) fP_blocks fP_years fP_values vP_size fT_blocks fT_years fT_values vT_size b) (fM_laid b)) k) ∧ (u.2.2.2.1 = dG (lS (kLoss fM_rates (fM_stones b) fP_blocks fP_years fP_values vP_size fT_blocks fT_years fT_values vT_size b) (fM_laid b)) (fM_deeps b * vM_limit) 401)) (fun (u : (Int → Int) × (Int → Int) × (Int → Int) × Int × (Int → Int) × (Int → Int)) => [(qC, .inr (0, [.ref qC_placed, .ref qC_wrong, .ref qC_lost, .int (jI u.2.2.2.1)])), aI kI qC_placed 401 u.1, aI kI qC_wrong 401 u.2.1, aI kI qC_lost 401 u.2.2.1, (qM, .inr (3, [.ref qM_stones, .ref qM_laid, .ref qM_deeps, .ref qM_rates, .ref qP, .ref qT, .ref qM_dangers, .ref qM_losses, .int (jI vM_size), .int (jI vM_limit)])), aI kI qM_stones 30 fM_stones, aI kI qM_laid 30 fM_laid, aI kI qM_deeps 30 fM_deeps, aI kI qM_rates 64 fM_rates, (qP, .inr (7, [.ref qP_blocks, .ref qP_years, .ref qP_values, .ref qP_since, .int (jI vP_size)])), aI kI qP_blocks 60 fP_blocks, aI kI qP_years 60 fP_years, aI kI qP_values 60 fP_values, aI kI qP_since 401 u.2.2.2.2.1, (qT, .inr (7, [.ref qT_blocks, .ref qT_years, .ref qT_values, .ref qT_since, .int (jI vT_size)])), aI kI qT_blocks 60 fT_blocks, aI kI qT_years 60 fT_years, aI kI qT_values 60 fT_values, aI kI qT_since 401 u.2.2.2.2.2]) := by
  refine xMv_of (cc := cX0_follow) (maxL := 7) (by decide) rfl (Nat.le_of_ble_eq_true rfl) ?_
  intro p e s m args below meth c A Q F hin2 hret
  have hin0 : ∀ w ∈ wsX00, w ∈ wsX0_follow := by decide +kernel
  have hin3 : ∀ w ∈ wsX30, w ∈ wsX0_follow := by decide +kernel
  have hw0 : Cond.fieldLink RX0 9 (TX0 0).1 (TX0 0).2.1 (TX0 0).2.2.1 ∈ wsX0_follow := by decide +kernel
  have hw1 : Cond.fieldLink RX0 15 (TX0 1).1 (TX0 1).2.1 (TX0 1).2.2.1 ∈ wsX0_follow := by decide +kernel
  have hw2 : Cond.fieldLink RX0 21 (TX0 3).1 (TX0 3).2.1 (TX0 3).2.2.1 ∈ wsX0_follow := by decide +kernel
  have hw3 : Cond.fieldLink RX0 18 (TX0 2).1 (TX0 2).2.1 (TX0 2).2.2.1 ∈ wsX0_follow := by decide +kernel
  refine x_lveq (lv' := [(0, .ref qC), (1, .ref qM), (2, .int (jI b))]) rfl ?_
  have hst := Rg.at hMst b (by omega)
  have hla := Rg.at hMla b (by omega)
  have hlr : Rg (kLoss fM_rates (fM_stones b) fP_blocks fP_years fP_values vP_size fT_blocks fT_years fT_values vT_size b) 401 0 100 := kLoss_rng hMr hst hPs hTs hPv hTv 401
  refine x_aload_n F dX0_follow_0 rfl 1 rfl ?_
  refine x_getN (ci := 3) F hin3 4 rfl rfl 4 (by decide) (nF1 F.2.2.2.2.2.2.2) rfl dX0_follow_1 ?_
  refine x_iload_n F dX0_follow_4 rfl 2 rfl ?_
  refine x_aload_n F dX0_follow_5 rfl 0 rfl ?_
  refine x_get (ci := 0) F hin0 0 rfl rfl 0 (by decide) hw0 rfl dX0_follow_6 ?_
  refine x_callVv (ci := 7) (q0 := 9) (As := [.int (jI b), .ref qC_placed]) (st := []) F (c_X7_spread D kI kJ l qP b qC_placed qP_blocks qP_years qP_values qP_since vP_size fP_blocks fP_years fP_values fP_since fC_placed (by omega) hPs hPb hPy hPv) (cwV 2 F.2.2.2.2.1 gX0_follow_X7_spread rfl rfl rfl (by decide +kernel) ⟨Nat.le_of_ble_eq_true rfl, Nat.le_of_ble_eq_true rfl⟩) rfl rfl [9, 10, 11, 12, 13, 1] [0, 2, 3, 4, 5, 6, 7, 8, 14, 15, 16, 17, 18] [0, 18, 1, 2, 3, 4, 5, 6, 7, 13, 14, 15, 16, 17, 8, 9, 10, 11, 12] rfl rfl (by decide) (by decide) (by decide) (fun _ => rfl) (by decide) rfl (Nat.le_of_ble_eq_true rfl) dX0_follow_9 ⟨Nat.le_of_ble_eq_true rfl, Nat.le_of_ble_eq_true rfl⟩ (fun u9 h9 => ?_)
  obtain ⟨s2_9, i2_9⟩ := u9
  try dsimp only at h9
  refine x_ws [(qC, .inr (0, [.ref qC_placed, .ref qC_wrong, .ref qC_lost, .int (jI vC_danger)])), aI kI qC_placed 401 i2_9, aI kI qC_wrong 401 fC_wrong, aI kI qC_lost 401 fC_lost, (qM, .inr (3, [.ref qM_stones, .ref qM_laid, .ref qM_deeps, .ref qM_rates, .ref qP, .ref qT, .ref qM_dangers, .ref qM_losses, .int (jI vM_size), .int (jI vM_limit)])), aI kI qM_stones 30 fM_stones, aI kI qM_laid 30 fM_laid, aI kI qM_deeps 30 fM_deeps, aI kI qM_rates 64 fM_rates, (qP, .inr (7, [.ref qP_blocks, .ref qP_years, .ref qP_values, .ref qP_since, .int (jI vP_size)])), aI kI qP_blocks 60 fP_blocks, aI kI qP_years 60 fP_years, aI kI qP_values 60 fP_values, aI kI qP_since 401 s2_9, (qT, .inr (7, [.ref qT_blocks, .ref qT_years, .ref qT_values, .ref qT_since, .int (jI vT_size)])), aI kI qT_blocks 60 fT_blocks, aI kI qT_years 60 fT_years, aI kI qT_values 60 fT_values, aI kI qT_since 401 fT_since] rfl ?_
  have hi_9 := h9
  have hgp : Rg i2_9 401 0 127 := fun k h1 h2 => by rw [hi_9 k h1 h2]; exact rV_rng hPs hPv (by omega)
  refine x_aload_n F dX0_follow_12 rfl 1 rfl ?_
  refine x_getN (ci := 3) F hin3 4 rfl rfl 5 (by decide) (nF3 F.2.2.2.2.2.2.2) rfl dX0_follow_13 ?_
  refine x_iload_n F dX0_follow_16 rfl 2 rfl ?_
  refine x_aload_n F dX0_follow_17 rfl 0 rfl ?_
  refine x_get (ci := 0) F hin0 0 rfl rfl 1 (by decide) hw1 rfl dX0_follow_18 ?_
  refine x_callVv (ci := 7) (q0 := 14) (As := [.int (jI b), .ref qC_wrong]) (st := []) F (c_X7_spread D kI kJ l qT b qC_wrong qT_blocks qT_years qT_values qT_since vT_size fT_blocks fT_years fT_values fT_since fC_wrong (by omega) hTs hTb hTy (Rg.mono hTv (by omega))) (cwV 2 F.2.2.2.2.1 gX0_follow_X7_spread rfl rfl rfl (by decide +kernel) ⟨Nat.le_of_ble_eq_true rfl, Nat.le_of_ble_eq_true rfl⟩) rfl rfl [14, 15, 16, 17, 18, 2] [0, 1, 3, 4, 5, 6, 7, 8, 9, 10, 11, 12, 13] [0, 1, 18, 2, 3, 4, 5, 6, 7, 8, 9, 10, 11, 12, 13, 14, 15, 16, 17] rfl rfl (by decide) (by decide) (by decide) (fun _ => rfl) (by decide) rfl (Nat.le_of_ble_eq_true rfl) dX0_follow_21 ⟨Nat.le_of_ble_eq_true rfl, Nat.le_of_ble_eq_true rfl⟩ (fun u21 h21 => ?_)
  obtain ⟨s2_21, i2_21⟩ := u21
  try dsimp only at h21
  refine x_ws [(qC, .inr (0, [.ref qC_placed, .ref qC_wrong, .ref qC_lost, .int (jI vC_danger)])), aI kI qC_placed 401 i2_9, aI kI qC_wrong 401 i2_21, aI kI qC_lost 401 fC_lost, (qM, .inr (3, [.ref qM_stones, .ref qM_laid, .ref qM_deeps, .ref qM_rates, .ref qP, .ref qT, .ref qM_dangers, .ref qM_losses, .int (jI vM_size), .int (jI vM_limit)])), aI kI qM_stones 30 fM_stones, aI kI qM_laid 30 fM_laid, aI kI qM_deeps 30 fM_deeps, aI kI qM_rates 64 fM_rates, (qP, .inr (7, [.ref qP_blocks, .ref qP_years, .ref qP_values, .ref qP_since, .int (jI vP_size)])), aI kI qP_blocks 60 fP_blocks, aI kI qP_years 60 fP_years, aI kI qP_values 60 fP_values, aI kI qP_since 401 s2_9, (qT, .inr (7, [.ref qT_blocks, .ref qT_years, .ref qT_values, .ref qT_since, .int (jI vT_size)])), aI kI qT_blocks 60 fT_blocks, aI kI qT_years 60 fT_years, aI kI qT_values 60 fT_values, aI kI qT_since 401 s2_21] rfl ?_
  have hi_21 := h21
  have hgw : Rg i2_21 401 0 1 := fun k h1 h2 => by rw [hi_21 k h1 h2]; exact rV_rng hTs hTv (by omega)
  refine x_aload_n F dX0_follow_24 rfl 1 rfl ?_
  refine x_iload_n F dX0_follow_25 rfl 2 rfl ?_
  refine x_callVi (ci := 3) (q0 := 4) (As := [.int (jI b)]) (st := []) F (c_X3_stoneOf D kI kJ l qM b qM_stones qM_laid qM_deeps qM_rates qP qT qM_dangers qM_losses vM_size vM_limit fM_stones hb) (cwV 1 F.2.2.2.2.1 gX0_follow_X3_stoneOf rfl rfl rfl (by decide +kernel) ⟨Nat.le_of_ble_eq_true rfl, Nat.le_of_ble_eq_true rfl⟩) rfl rfl [4, 5] [0, 1, 2, 3, 6, 7, 8, 9, 10, 11, 12, 13, 14, 15, 16, 17, 18] [0, 1, 2, 3, 17, 18, 4, 5, 6, 7, 8, 9, 10, 11, 12, 13, 14, 15, 16] rfl rfl (by decide) (by decide) (by decide) (fun _ => rfl) (by decide) rfl (Nat.le_of_ble_eq_true rfl) dX0_follow_26 ⟨Nat.le_of_ble_eq_true rfl, Nat.le_of_ble_eq_true rfl⟩ (fun z26 u26 h26 => ?_)
  try dsimp only at h26
  refine x_ws [(qC, .inr (0, [.ref qC_placed, .ref qC_wrong, .ref qC_lost, .int (jI vC_danger)])), aI kI qC_placed 401 i2_9, aI kI qC_wrong 401 i2_21, aI kI qC_lost 401 fC_lost, (qM, .inr (3, [.ref qM_stones, .ref qM_laid, .ref qM_deeps, .ref qM_rates, .ref qP, .ref qT, .ref qM_dangers, .ref qM_losses, .int (jI vM_size), .int (jI vM_limit)])), aI kI qM_stones 30 fM_stones, aI kI qM_laid 30 fM_laid, aI kI qM_deeps 30 fM_deeps, aI kI qM_rates 64 fM_rates, (qP, .inr (7, [.ref qP_blocks, .ref qP_years, .ref qP_values, .ref qP_since, .int (jI vP_size)])), aI kI qP_blocks 60 fP_blocks, aI kI qP_years 60 fP_years, aI kI qP_values 60 fP_values, aI kI qP_since 401 s2_9, (qT, .inr (7, [.ref qT_blocks, .ref qT_years, .ref qT_values, .ref qT_since, .int (jI vT_size)])), aI kI qT_blocks 60 fT_blocks, aI kI qT_years 60 fT_years, aI kI qT_values 60 fT_values, aI kI qT_since 401 s2_21] rfl ?_
  have he26 := h26
  have he26 := he26.symm
  subst he26
  refine x_istore_n (lv' := [(0, .ref qC), (1, .ref qM), (2, .int (jI b)), (3, .int (jI (fM_stones b)))]) F dX0_follow_29 rfl (by decide) [1, 2, 3, 0] rfl ?_
  refine x_aload_n F dX0_follow_30 rfl 1 rfl ?_
  refine x_iload_n F dX0_follow_31 rfl 2 rfl ?_
  refine x_callVi (ci := 3) (q0 := 4) (As := [.int (jI b)]) (st := []) F (c_X3_laidOf D kI kJ l qM b qM_stones qM_laid qM_deeps qM_rates qP qT qM_dangers qM_losses vM_size vM_limit fM_laid hb) (cwV 1 F.2.2.2.2.1 gX0_follow_X3_laidOf rfl rfl rfl (by decide +kernel) ⟨Nat.le_of_ble_eq_true rfl, Nat.le_of_ble_eq_true rfl⟩) rfl rfl [4, 6] [0, 1, 2, 3, 5, 7, 8, 9, 10, 11, 12, 13, 14, 15, 16, 17, 18] [0, 1, 2, 3, 17, 4, 18, 5, 6, 7, 8, 9, 10, 11, 12, 13, 14, 15, 16] rfl rfl (by decide) (by decide) (by decide) (fun _ => rfl) (by decide) rfl (Nat.le_of_ble_eq_true rfl) dX0_follow_32 ⟨Nat.le_of_ble_eq_true rfl, Nat.le_of_ble_eq_true rfl⟩ (fun z32 u32 h32 => ?_)
  try dsimp only at h32
  refine x_ws [(qC, .inr (0, [.ref qC_placed, .ref qC_wrong, .ref qC_lost, .int (jI vC_danger)])), aI kI qC_placed 401 i2_9, aI kI qC_wrong 401 i2_21, aI kI qC_lost 401 fC_lost, (qM, .inr (3, [.ref qM_stones, .ref qM_laid, .ref qM_deeps, .ref qM_rates, .ref qP, .ref qT, .ref qM_dangers, .ref qM_losses, .int (jI vM_size), .int (jI vM_limit)])), aI kI qM_stones 30 fM_stones, aI kI qM_laid 30 fM_laid, aI kI qM_deeps 30 fM_deeps, aI kI qM_rates 64 fM_rates, (qP, .inr (7, [.ref qP_blocks, .ref qP_years, .ref qP_values, .ref qP_since, .int (jI vP_size)])), aI kI qP_blocks 60 fP_blocks, aI kI qP_years 60 fP_years, aI kI qP_values 60 fP_values, aI kI qP_since 401 s2_9, (qT, .inr (7, [.ref qT_blocks, .ref qT_years, .ref qT_values, .ref qT_since, .int (jI vT_size)])), aI kI qT_blocks 60 fT_blocks, aI kI qT_years 60 fT_years, aI kI qT_values 60 fT_values, aI kI qT_since 401 s2_21] rfl ?_
  have he32 := h32
  have he32 := he32.symm
  subst he32
  refine x_istore (lv' := [(0, .ref qC), (1, .ref qM), (2, .int (jI b)), (3, .int (jI (fM_stones b))), (4, .int (jI (fM_laid b)))]) F dX0_follow_35 (by decide) [1, 2, 3, 4, 0] rfl ?_
  refine x_iconst F dX0_follow_37 ?_
  refine x_istore (lv' := [(0, .ref qC), (1, .ref qM), (2, .int (jI b)), (3, .int (jI (fM_stones b))), (4, .int (jI (fM_laid b))), (5, .int (jI 0))]) F dX0_follow_38 (by decide) [1, 2, 3, 4, 5, 0] rfl ?_
  refine x_aload_n F dX0_follow_40 rfl 0 rfl ?_
  refine x_iconst F dX0_follow_41 ?_
  refine x_put (ci := 0) F hin0 tyX0_ok nmX0 0 rfl rfl 3 (by decide) hw2 rfl rfl rfl (show 3 + 1 ≤ _ from Nat.le_of_ble_eq_true rfl) dX0_follow_42 [(qC, .inr (0, [.ref qC_placed, .ref qC_wrong, .ref qC_lost, .int (jI (-1))])), aI kI qC_placed 401 i2_9, aI kI qC_wrong 401 i2_21, aI kI qC_lost 401 fC_lost, (qM, .inr (3, [.ref qM_stones, .ref qM_laid, .ref qM_deeps, .ref qM_rates, .ref qP, .ref qT, .ref qM_dangers, .ref qM_losses, .int (jI vM_size), .int (jI vM_limit)])), aI kI qM_stones 30 fM_stones, aI kI qM_laid 30 fM_laid, aI kI qM_deeps 30 fM_deeps, aI kI qM_rates 64 fM_rates, (qP, .inr (7, [.ref qP_blocks, .ref qP_years, .ref qP_values, .ref qP_since, .int (jI vP_size)])), aI kI qP_blocks 60 fP_blocks, aI kI qP_years 60 fP_years, aI kI qP_values 60 fP_values, aI kI qP_since 401 s2_9, (qT, .inr (7, [.ref qT_blocks, .ref qT_years, .ref qT_values, .ref qT_since, .int (jI vT_size)])), aI kI qT_blocks 60 fT_blocks, aI kI qT_years 60 fT_years, aI kI qT_values 60 fT_values, aI kI qT_since 401 s2_21] rfl ?_
  refine x_iconst F dX0_follow_45 ?_
  refine x_istore (lv' := [(0, .ref qC), (1, .ref qM), (2, .int (jI b)), (3, .int (jI (fM_stones b))), (4, .int (jI (fM_laid b))), (5, .int (jI 0)), (6, .int (jI 0))]) F dX0_follow_46 (by decide) [1, 2, 3, 4, 5, 6, 0] rfl ?_
  have lp48 : ∀ (fu : Nat) (y : Int) (sum : Int) (dd : Int) (gl : (Int → Int)) (hy : 0 ≤ y ∧ y ≤ 401) (hsum : sum = (lS (kLoss fM_rates (fM_stones b) fP_blocks fP_years fP_values vP_size fT_blocks fT_years fT_values vT_size b) (fM_laid b)) y) (hd : dd = dG (lS (kLoss fM_rates (fM_stones b) fP_blocks fP_years fP_values vP_size fT_blocks fT_years fT_values vT_size b) (fM_laid b)) (fM_deeps b * vM_limit) y) (hl : ∀ k : Int, 0 ≤ k → k < y → gl k = (lS (kLoss fM_rates (fM_stones b) fP_blocks fP_years fP_values vP_size fT_blocks fT_years fT_values vT_size b) (fM_laid b)) k) (hm : 401 - y < (fu : Int)), xG D p l e (xRm 4 111 0 0) s m args below meth c 7 A Q 0 0 [(qC, .inr (0, [.ref qC_placed, .ref qC_wrong, .ref qC_lost, .int (jI dd)])), aI kI qC_placed 401 i2_9, aI kI qC_wrong 401 i2_21, aI kI qC_lost 401 gl, (qM, .inr (3, [.ref qM_stones, .ref qM_laid, .ref qM_deeps, .ref qM_rates, .ref qP, .ref qT, .ref qM_dangers, .ref qM_losses, .int (jI vM_size), .int (jI vM_limit)])), aI kI qM_stones 30 fM_stones, aI kI qM_laid 30 fM_laid, aI kI qM_deeps 30 fM_deeps, aI kI qM_rates 64 fM_rates, (qP, .inr (7, [.ref qP_blocks, .ref qP_years, .ref qP_values, .ref qP_since, .int (jI vP_size)])), aI kI qP_blocks 60 fP_blocks, aI kI qP_years 60 fP_years, aI kI qP_values 60 fP_values, aI kI qP_since 401 s2_9, (qT, .inr (7, [.ref qT_blocks, .ref qT_years, .ref qT_values, .ref qT_since, .int (jI vT_size)])), aI kI qT_blocks 60 fT_blocks, aI kI qT_years 60 fT_years, aI kI qT_values 60 fT_values, aI kI qT_since 401 s2_21] [(0, .ref qC), (1, .ref qM), (2, .int (jI b)), (3, .int (jI (fM_stones b))), (4, .int (jI (fM_laid b))), (5, .int (jI sum)), (6, .int (jI y))] 48 [] := by
    intro fu
    induction fu with
    | zero =>
      intro y sum dd gl hy hsum hd hl hm
      exact absurd hm (by omega)
    | succ fu ih48 =>
      intro y sum dd gl hy hsum hd hl hm
      have hsr : 0 ≤ sum ∧ sum ≤ 100 * y := by rw [hsum]; exact lS_rng hlr hy.1 hy.2
      have hdr : -1 ≤ dd ∧ dd < max y 1 := by rw [hd]; exact dG_rng hy.1
      refine x_iload F dX0_follow_48 6 rfl ?_
      refine x_sipush F dX0_follow_50 (by decide) ?_
      refine x_icmp_ge (tgt := 132) F dX0_follow_53 (by decide) (by omega) (fun c53 => ?_) (fun c53 => ?_)
      · -- 53 t
        exact hret 0 0 132 _ (i2_9, i2_21, gl, dd, s2_9, s2_21) (Nat.le_of_ble_eq_true rfl) (Nat.le_of_ble_eq_true rfl) dX0_follow_132 (by (try dsimp only); exact (⟨hi_9, hi_21, fun k h1 h2 => hl k h1 (by omega), by rw [hd, show y = 401 by omega]⟩))
      · -- 53 f
        refine x_aload_n F dX0_follow_56 rfl 0 rfl ?_
        refine x_get (ci := 0) F hin0 0 rfl rfl 2 (by decide) hw3 rfl dX0_follow_57 ?_
        refine x_iload F dX0_follow_60 6 rfl ?_
        refine x_iload F dX0_follow_62 5 rfl ?_
        refine x_iast F 3 rfl (by decide) (by omega) dX0_follow_64 [(qC, .inr (0, [.ref qC_placed, .ref qC_wrong, .ref qC_lost, .int (jI dd)])), aI kI qC_placed 401 i2_9, aI kI qC_wrong 401 i2_21, aI kI qC_lost 401 (iU gl y sum), (qM, .inr (3, [.ref qM_stones, .ref qM_laid, .ref qM_deeps, .ref qM_rates, .ref qP, .ref qT, .ref qM_dangers, .ref qM_losses, .int (jI vM_size), .int (jI vM_limit)])), aI kI qM_stones 30 fM_stones, aI kI qM_laid 30 fM_laid, aI kI qM_deeps 30 fM_deeps, aI kI qM_rates 64 fM_rates, (qP, .inr (7, [.ref qP_blocks, .ref qP_years, .ref qP_values, .ref qP_since, .int (jI vP_size)])), aI kI qP_blocks 60 fP_blocks, aI kI qP_years 60 fP_years, aI kI qP_values 60 fP_values, aI kI qP_since 401 s2_9, (qT, .inr (7, [.ref qT_blocks, .ref qT_years, .ref qT_values, .ref qT_since, .int (jI vT_size)])), aI kI qT_blocks 60 fT_blocks, aI kI qT_years 60 fT_years, aI kI qT_values 60 fT_values, aI kI qT_since 401 s2_21] rfl ?_
        have jn89 : ∀ (e2 : Int) (hd2 : e2 = dG (lS (kLoss fM_rates (fM_stones b) fP_blocks fP_years fP_values vP_size fT_blocks fT_years fT_values vT_size b) (fM_laid b)) (fM_deeps b * vM_limit) (y + 1)), xG D p l e (xRm 4 111 0 0) s m args below meth c 7 A Q 0 0 [(qC, .inr (0, [.ref qC_placed, .ref qC_wrong, .ref qC_lost, .int (jI e2)])), aI kI qC_placed 401 i2_9, aI kI qC_wrong 401 i2_21, aI kI qC_lost 401 (iU gl y sum), (qM, .inr (3, [.ref qM_stones, .ref qM_laid, .ref qM_deeps, .ref qM_rates, .ref qP, .ref qT, .ref qM_dangers, .ref qM_losses, .int (jI vM_size), .int (jI vM_limit)])), aI kI qM_stones 30 fM_stones, aI kI qM_laid 30 fM_laid, aI kI qM_deeps 30 fM_deeps, aI kI qM_rates 64 fM_rates, (qP, .inr (7, [.ref qP_blocks, .ref qP_years, .ref qP_values, .ref qP_since, .int (jI vP_size)])), aI kI qP_blocks 60 fP_blocks, aI kI qP_years 60 fP_years, aI kI qP_values 60 fP_values, aI kI qP_since 401 s2_9, (qT, .inr (7, [.ref qT_blocks, .ref qT_years, .ref qT_values, .ref qT_since, .int (jI vT_size)])), aI kI qT_blocks 60 fT_blocks, aI kI qT_years 60 fT_years, aI kI qT_values 60 fT_values, aI kI qT_since 401 s2_21] [(0, .ref qC), (1, .ref qM), (2, .int (jI b)), (3, .int (jI (fM_stones b))), (4, .int (jI (fM_laid b))), (5, .int (jI sum)), (6, .int (jI y))] 89 [] := by
          intro e2 hd2
          refine x_iload F dX0_follow_89 6 rfl ?_
          refine x_iload F dX0_follow_91 4 rfl ?_
          refine x_icmp_lt (tgt := 126) F dX0_follow_93 (by decide) (by omega) (fun c93 => ?_) (fun c93 => ?_)
          · -- 93 t
            refine x_iinc (lv' := [(0, .ref qC), (1, .ref qM), (2, .int (jI b)), (3, .int (jI (fM_stones b))), (4, .int (jI (fM_laid b))), (5, .int (jI sum)), (6, .int (jI (y + 1)))]) (k := 6) F dX0_follow_126 rfl (by decide) [1, 2, 3, 4, 5, 6, 0] rfl ?_
            refine x_goto (tgt := 48) F dX0_follow_129 (by decide) ?_
            exact ih48 (y + 1) sum e2 (iU gl y sum) (by omega) (by first | (rw [lS_s hy.1, if_neg (by omega), ← hsum]; omega) | (rw [lS_s hy.1, if_pos (by omega), hsum, hi_9 y (by omega) (by omega), hi_21 y (by omega) (by omega)]; rfl)) hd2 (row_set (P := fun k x => x = (lS (kLoss fM_rates (fM_stones b) fP_blocks fP_years fP_values vP_size fT_blocks fT_years fT_values vT_size b) (fM_laid b)) k) hl hsum) (by omega)
          · -- 93 f
            refine x_iload F dX0_follow_96 5 rfl ?_
            refine x_aload_n F dX0_follow_98 rfl 1 rfl ?_
            refine x_iload_n F dX0_follow_99 rfl 3 rfl ?_
            refine x_aload_n F dX0_follow_100 rfl 0 rfl ?_
            refine x_get (ci := 0) F hin0 0 rfl rfl 0 (by decide) hw0 rfl dX0_follow_101 ?_
            refine x_iload F dX0_follow_104 6 rfl ?_
            refine x_iald F 1 rfl (by decide) (by omega) dX0_follow_106 ?_
            have hr106 := Rg.at hgp y (by omega)
            refine x_bipush F dX0_follow_107 (by decide) ?_
            refine x_irem F dX0_follow_109 (by omega) ?_
            refine x_callVi (ci := 3) (q0 := 4) (As := [.int (jI (fM_stones b)), .int (jI ((i2_9 y) % 16))]) (st := [.int (jI sum)]) F (c_X3_rateOf D kI kJ l qM (fM_stones b) ((i2_9 y) % 16) qM_stones qM_laid qM_deeps qM_rates qP qT qM_dangers qM_losses vM_size vM_limit fM_rates (by omega)) (cwV 2 F.2.2.2.2.1 gX0_follow_X3_rateOf rfl rfl rfl (by decide +kernel) ⟨Nat.le_of_ble_eq_true rfl, Nat.le_of_ble_eq_true rfl⟩) rfl rfl [4, 8] [0, 1, 2, 3, 5, 6, 7, 9, 10, 11, 12, 13, 14, 15, 16, 17, 18] [0, 1, 2, 3, 17, 4, 5, 6, 18, 7, 8, 9, 10, 11, 12, 13, 14, 15, 16] rfl rfl (by decide) (by decide) (by decide) (fun _ => rfl) (by decide) rfl (Nat.le_of_ble_eq_true rfl) dX0_follow_110 ⟨Nat.le_of_ble_eq_true rfl, Nat.le_of_ble_eq_true rfl⟩ (fun z110 u110 h110 => ?_)
            try dsimp only at h110
            refine x_ws [(qC, .inr (0, [.ref qC_placed, .ref qC_wrong, .ref qC_lost, .int (jI e2)])), aI kI qC_placed 401 i2_9, aI kI qC_wrong 401 i2_21, aI kI qC_lost 401 (iU gl y sum), (qM, .inr (3, [.ref qM_stones, .ref qM_laid, .ref qM_deeps, .ref qM_rates, .ref qP, .ref qT, .ref qM_dangers, .ref qM_losses, .int (jI vM_size), .int (jI vM_limit)])), aI kI qM_stones 30 fM_stones, aI kI qM_laid 30 fM_laid, aI kI qM_deeps 30 fM_deeps, aI kI qM_rates 64 fM_rates, (qP, .inr (7, [.ref qP_blocks, .ref qP_years, .ref qP_values, .ref qP_since, .int (jI vP_size)])), aI kI qP_blocks 60 fP_blocks, aI kI qP_years 60 fP_years, aI kI qP_values 60 fP_values, aI kI qP_since 401 s2_9, (qT, .inr (7, [.ref qT_blocks, .ref qT_years, .ref qT_values, .ref qT_since, .int (jI vT_size)])), aI kI qT_blocks 60 fT_blocks, aI kI qT_years 60 fT_years, aI kI qT_values 60 fT_values, aI kI qT_since 401 s2_21] rfl ?_
            have he110 := h110
            have he110 := he110.symm
            subst he110
            refine x_iconst F dX0_follow_113 ?_
            refine x_aload_n F dX0_follow_114 rfl 0 rfl ?_
            refine x_get (ci := 0) F hin0 0 rfl rfl 1 (by decide) hw1 rfl dX0_follow_115 ?_
            refine x_iload F dX0_follow_118 6 rfl ?_
            refine x_iald F 2 rfl (by decide) (by omega) dX0_follow_120 ?_
            have hr120 := Rg.at hgw y (by omega)
            refine x_iadd F dX0_follow_121 ?_
            refine x_imul F dX0_follow_122 ?_
            refine x_iadd F dX0_follow_123 ?_
            refine x_istore (lv' := [(0, .ref qC), (1, .ref qM), (2, .int (jI b)), (3, .int (jI (fM_stones b))), (4, .int (jI (fM_laid b))), (5, .int (jI (sum + ((fM_rates ((fM_stones b) * 16 + ((i2_9 y) % 16))) * (1 + (i2_21 y)))))), (6, .int (jI y))]) F dX0_follow_124 (by decide) [1, 2, 3, 4, 5, 0, 6] rfl ?_
            refine x_iinc (lv' := [(0, .ref qC), (1, .ref qM), (2, .int (jI b)), (3, .int (jI (fM_stones b))), (4, .int (jI (fM_laid b))), (5, .int (jI (sum + ((fM_rates ((fM_stones b) * 16 + ((i2_9 y) % 16))) * (1 + (i2_21 y)))))), (6, .int (jI (y + 1)))]) (k := 6) F dX0_follow_126 rfl (by decide) [1, 2, 3, 4, 5, 6, 0] rfl ?_
            refine x_goto (tgt := 48) F dX0_follow_129 (by decide) ?_
            exact ih48 (y + 1) (sum + ((fM_rates ((fM_stones b) * 16 + ((i2_9 y) % 16))) * (1 + (i2_21 y)))) e2 (iU gl y sum) (by omega) (by first | (rw [lS_s hy.1, if_neg (by omega), ← hsum]; omega) | (rw [lS_s hy.1, if_pos (by omega), hsum, hi_9 y (by omega) (by omega), hi_21 y (by omega) (by omega)]; rfl)) hd2 (row_set (P := fun k x => x = (lS (kLoss fM_rates (fM_stones b) fP_blocks fP_years fP_values vP_size fT_blocks fT_years fT_values vT_size b) (fM_laid b)) k) hl hsum) (by omega)
        refine x_aload_n F dX0_follow_65 rfl 0 rfl ?_
        refine x_get (ci := 0) F hin0 0 rfl rfl 3 (by decide) hw2 rfl dX0_follow_66 ?_
        refine x_iconst F dX0_follow_69 ?_
        refine x_icmp_ne (tgt := 89) F dX0_follow_70 (by decide) (by omega) (fun c70 => ?_) (fun c70 => ?_)
        · -- 70 t
          exact jn89 dd (by rw [dG_s hy.1, ← hd, ← hsum]; first | (rw [if_neg (by omega)]) | (rw [if_pos (by omega)]))
        · -- 70 f
          refine x_aload_n F dX0_follow_73 rfl 1 rfl ?_
          refine x_iload_n F dX0_follow_74 rfl 2 rfl ?_
          refine x_iload F dX0_follow_75 5 rfl ?_
          refine x_callVi (ci := 3) (q0 := 4) (As := [.int (jI b), .int (jI sum)]) (st := []) F (c_X3_isDanger D kI kJ l qM b sum qM_stones qM_laid qM_deeps qM_rates qP qT qM_dangers qM_losses vM_size vM_limit fM_deeps hb (by omega) hMd hMl) (cwV 2 F.2.2.2.2.1 gX0_follow_X3_isDanger rfl rfl rfl (by decide +kernel) ⟨Nat.le_of_ble_eq_true rfl, Nat.le_of_ble_eq_true rfl⟩) rfl rfl [4, 7] [0, 1, 2, 3, 5, 6, 8, 9, 10, 11, 12, 13, 14, 15, 16, 17, 18] [0, 1, 2, 3, 17, 4, 5, 18, 6, 7, 8, 9, 10, 11, 12, 13, 14, 15, 16] rfl rfl (by decide) (by decide) (by decide) (fun _ => rfl) (by decide) rfl (Nat.le_of_ble_eq_true rfl) dX0_follow_77 ⟨Nat.le_of_ble_eq_true rfl, Nat.le_of_ble_eq_true rfl⟩ (fun z77 u77 h77 => ?_)
          try dsimp only at h77
          refine x_ws [(qC, .inr (0, [.ref qC_placed, .ref qC_wrong, .ref qC_lost, .int (jI dd)])), aI kI qC_placed 401 i2_9, aI kI qC_wrong 401 i2_21, aI kI qC_lost 401 (iU gl y sum), (qM, .inr (3, [.ref qM_stones, .ref qM_laid, .ref qM_deeps, .ref qM_rates, .ref qP, .ref qT, .ref qM_dangers, .ref qM_losses, .int (jI vM_size), .int (jI vM_limit)])), aI kI qM_stones 30 fM_stones, aI kI qM_laid 30 fM_laid, aI kI qM_deeps 30 fM_deeps, aI kI qM_rates 64 fM_rates, (qP, .inr (7, [.ref qP_blocks, .ref qP_years, .ref qP_values, .ref qP_since, .int (jI vP_size)])), aI kI qP_blocks 60 fP_blocks, aI kI qP_years 60 fP_years, aI kI qP_values 60 fP_values, aI kI qP_since 401 s2_9, (qT, .inr (7, [.ref qT_blocks, .ref qT_years, .ref qT_values, .ref qT_since, .int (jI vT_size)])), aI kI qT_blocks 60 fT_blocks, aI kI qT_years 60 fT_years, aI kI qT_values 60 fT_values, aI kI qT_since 401 s2_21] rfl ?_
          have hb77 := h77
          refine x_beq (tgt := 89) F dX0_follow_80 (by decide) hb77 (fun c80 => ?_) (fun c80 => ?_)
          · -- 80 t
            exact jn89 dd (by rw [dG_s hy.1, ← hd, ← hsum]; first | (rw [if_neg (by omega)]) | (rw [if_pos (by omega)]))
          · -- 80 f
            refine x_aload_n F dX0_follow_83 rfl 0 rfl ?_
            refine x_iload F dX0_follow_84 6 rfl ?_
            refine x_put (ci := 0) F hin0 tyX0_ok nmX0 0 rfl rfl 3 (by decide) hw2 rfl rfl rfl (show 3 + 1 ≤ _ from Nat.le_of_ble_eq_true rfl) dX0_follow_86 [(qC, .inr (0, [.ref qC_placed, .ref qC_wrong, .ref qC_lost, .int (jI y)])), aI kI qC_placed 401 i2_9, aI kI qC_wrong 401 i2_21, aI kI qC_lost 401 (iU gl y sum), (qM, .inr (3, [.ref qM_stones, .ref qM_laid, .ref qM_deeps, .ref qM_rates, .ref qP, .ref qT, .ref qM_dangers, .ref qM_losses, .int (jI vM_size), .int (jI vM_limit)])), aI kI qM_stones 30 fM_stones, aI kI qM_laid 30 fM_laid, aI kI qM_deeps 30 fM_deeps, aI kI qM_rates 64 fM_rates, (qP, .inr (7, [.ref qP_blocks, .ref qP_years, .ref qP_values, .ref qP_since, .int (jI vP_size)])), aI kI qP_blocks 60 fP_blocks, aI kI qP_years 60 fP_years, aI kI qP_values 60 fP_values, aI kI qP_since 401 s2_9, (qT, .inr (7, [.ref qT_blocks, .ref qT_years, .ref qT_values, .ref qT_since, .int (jI vT_size)])), aI kI qT_blocks 60 fT_blocks, aI kI qT_years 60 fT_years, aI kI qT_values 60 fT_values, aI kI qT_since 401 s2_21] rfl ?_
            exact jn89 y (by rw [dG_s hy.1, ← hd, ← hsum]; first | (rw [if_neg (by omega)]) | (rw [if_pos (by omega)]))
  exact lp48 (Int.toNat (401 - 0) + 1) 0 0 (-1) fC_lost (by omega) ((lS_0 _ _).symm) ((dG_0 _ _).symm) (fun k h1 h2 => by omega) (by omega)
set_option maxHeartbeats 4000000 in
set_option maxRecDepth 100000 in
theorem c_X0_sideAt (D : va_G) (kI kJ : Nat) (l : Launch) (qC : Nat) (year : Int) (qC_placed : Nat) (qC_wrong : Nat) (qC_lost : Nat) (vC_danger : Int) (fC_placed : (Int → Int)) (hy : 0 ≤ year ∧ year < 401) (hgp : Rg fC_placed 401 0 127) : xMi D kI kJ l yX0_sideAt wsX0_sideAt 2 53 0 0 [.ref qC, .int (jI year)] [(qC, .inr (0, [.ref qC_placed, .ref qC_wrong, .ref qC_lost, .int (jI vC_danger)])), aI kI qC_placed 401 fC_placed] (fun (z : Int) (u : Unit) => z = fC_placed year % 16 / 4) (fun (u : Unit) => [(qC, .inr (0, [.ref qC_placed, .ref qC_wrong, .ref qC_lost, .int (jI vC_danger)])), aI kI qC_placed 401 fC_placed]) := by
  refine xMi_of (cc := cX0_sideAt) (maxL := 2) (rt := .int) (by decide) rfl (Nat.le_of_ble_eq_true rfl) (fun _ _ _ => rfl) ?_
  intro p e s m args below meth c A Q F hin2 hret
  have hin0 : ∀ w ∈ wsX00, w ∈ wsX0_sideAt := by decide +kernel
  have hw0 : Cond.fieldLink RX0 9 (TX0 0).1 (TX0 0).2.1 (TX0 0).2.2.1 ∈ wsX0_sideAt := by decide +kernel
  have hw1 : Cond.initialized yX9_at.cls ∈ wsX0_sideAt := by decide +kernel
  have hw2 : Cond.static yX9_at ∈ wsX0_sideAt := by decide +kernel
  refine x_lveq (lv' := [(0, .ref qC), (1, .int (jI year))]) rfl ?_
  have hpp := Rg.at hgp year hy
  refine x_aload_n F dX0_sideAt_0 rfl 0 rfl ?_
  refine x_get (ci := 0) F hin0 0 rfl rfl 0 (by decide) hw0 rfl dX0_sideAt_1 ?_
  refine x_iload_n F dX0_sideAt_4 rfl 1 rfl ?_
  refine x_callSNi (As := [.ref qC_placed, .int (jI year)]) (st := []) F (c_X9_at D kI kJ l qC_placed year 401 fC_placed (by omega) (by omega)) ⟨va_cnB 2 F.2.2.2.2.1 gX0_sideAt_X9_at_n55 rfl rfl rfl (nM10 F.2.2.2.2.2.2.2) (F.2.2.2.2.1 _ hw1) (by decide +kernel) ⟨Nat.le_of_ble_eq_true rfl, Nat.le_of_ble_eq_true rfl⟩, F.2.2.2.2.1 _ hw2, trivial⟩ [1] [0] [0, 1] rfl rfl (by decide) (by decide) (by decide) (fun _ => rfl) (by decide) rfl (Nat.le_of_ble_eq_true rfl) dX0_sideAt_5 ⟨Nat.le_of_ble_eq_true rfl, Nat.le_of_ble_eq_true rfl⟩ (fun z5 u5 h5 => ?_)
  try dsimp only at h5
  refine x_ws [(qC, .inr (0, [.ref qC_placed, .ref qC_wrong, .ref qC_lost, .int (jI vC_danger)])), aI kI qC_placed 401 fC_placed] rfl ?_
  have he5 := h5
  have he5 := he5.symm
  subst he5
  refine x_bipush F dX0_sideAt_8 (by decide) ?_
  refine x_irem F dX0_sideAt_10 (by omega) ?_
  refine x_iconst F dX0_sideAt_11 ?_
  refine x_idiv F dX0_sideAt_12 (by omega) ?_
  exact hret 0 0 13 _ (((fC_placed year) % 16) / 4) () (Nat.le_of_ble_eq_true rfl) (Nat.le_of_ble_eq_true rfl) dX0_sideAt_13 (rfl)
set_option maxHeartbeats 4000000 in
set_option maxRecDepth 100000 in
theorem c_X0_wetAt (D : va_G) (kI kJ : Nat) (l : Launch) (qC : Nat) (year : Int) (qC_placed : Nat) (qC_wrong : Nat) (qC_lost : Nat) (vC_danger : Int) (fC_placed : (Int → Int)) (hy : 0 ≤ year ∧ year < 401) (hgp : Rg fC_placed 401 0 127) : xMi D kI kJ l yX0_wetAt wsX0_wetAt 2 53 0 0 [.ref qC, .int (jI year)] [(qC, .inr (0, [.ref qC_placed, .ref qC_wrong, .ref qC_lost, .int (jI vC_danger)])), aI kI qC_placed 401 fC_placed] (fun (z : Int) (u : Unit) => z = fC_placed year % 4) (fun (u : Unit) => [(qC, .inr (0, [.ref qC_placed, .ref qC_wrong, .ref qC_lost, .int (jI vC_danger)])), aI kI qC_placed 401 fC_placed]) := by
  refine xMi_of (cc := cX0_wetAt) (maxL := 2) (rt := .int) (by decide) rfl (Nat.le_of_ble_eq_true rfl) (fun _ _ _ => rfl) ?_
  intro p e s m args below meth c A Q F hin2 hret
  have hin0 : ∀ w ∈ wsX00, w ∈ wsX0_wetAt := by decide +kernel
  have hw0 : Cond.fieldLink RX0 9 (TX0 0).1 (TX0 0).2.1 (TX0 0).2.2.1 ∈ wsX0_wetAt := by decide +kernel
  have hw1 : Cond.initialized yX9_at.cls ∈ wsX0_wetAt := by decide +kernel
  have hw2 : Cond.static yX9_at ∈ wsX0_wetAt := by decide +kernel
  refine x_lveq (lv' := [(0, .ref qC), (1, .int (jI year))]) rfl ?_
  have hpp := Rg.at hgp year hy
  refine x_aload_n F dX0_wetAt_0 rfl 0 rfl ?_
  refine x_get (ci := 0) F hin0 0 rfl rfl 0 (by decide) hw0 rfl dX0_wetAt_1 ?_
  refine x_iload_n F dX0_wetAt_4 rfl 1 rfl ?_
  refine x_callSNi (As := [.ref qC_placed, .int (jI year)]) (st := []) F (c_X9_at D kI kJ l qC_placed year 401 fC_placed (by omega) (by omega)) ⟨va_cnB 2 F.2.2.2.2.1 gX0_wetAt_X9_at_n55 rfl rfl rfl (nM10 F.2.2.2.2.2.2.2) (F.2.2.2.2.1 _ hw1) (by decide +kernel) ⟨Nat.le_of_ble_eq_true rfl, Nat.le_of_ble_eq_true rfl⟩, F.2.2.2.2.1 _ hw2, trivial⟩ [1] [0] [0, 1] rfl rfl (by decide) (by decide) (by decide) (fun _ => rfl) (by decide) rfl (Nat.le_of_ble_eq_true rfl) dX0_wetAt_5 ⟨Nat.le_of_ble_eq_true rfl, Nat.le_of_ble_eq_true rfl⟩ (fun z5 u5 h5 => ?_)
  try dsimp only at h5
  refine x_ws [(qC, .inr (0, [.ref qC_placed, .ref qC_wrong, .ref qC_lost, .int (jI vC_danger)])), aI kI qC_placed 401 fC_placed] rfl ?_
  have he5 := h5
  have he5 := he5.symm
  subst he5
  refine x_iconst F dX0_wetAt_8 ?_
  refine x_irem F dX0_wetAt_9 (by omega) ?_
  exact hret 0 0 10 _ ((fC_placed year) % 4) () (Nat.le_of_ble_eq_true rfl) (Nat.le_of_ble_eq_true rfl) dX0_wetAt_10 (rfl)
set_option maxHeartbeats 4000000 in
set_option maxRecDepth 100000 in
theorem c_X0_zoneAt (D : va_G) (kI kJ : Nat) (l : Launch) (qC : Nat) (year : Int) (qC_placed : Nat) (qC_wrong : Nat) (qC_lost : Nat) (vC_danger : Int) (fC_placed : (Int → Int)) (hy : 0 ≤ year ∧ year < 401) (hgp : Rg fC_placed 401 0 127) : xMi D kI kJ l yX0_zoneAt wsX0_zoneAt 2 53 0 0 [.ref qC, .int (jI year)] [(qC, .inr (0, [.ref qC_placed, .ref qC_wrong, .ref qC_lost, .int (jI vC_danger)])), aI kI qC_placed 401 fC_placed] (fun (z : Int) (u : Unit) => z = fC_placed year / 16) (fun (u : Unit) => [(qC, .inr (0, [.ref qC_placed, .ref qC_wrong, .ref qC_lost, .int (jI vC_danger)])), aI kI qC_placed 401 fC_placed]) := by
  refine xMi_of (cc := cX0_zoneAt) (maxL := 2) (rt := .int) (by decide) rfl (Nat.le_of_ble_eq_true rfl) (fun _ _ _ => rfl) ?_
  intro p e s m args below meth c A Q F hin2 hret
  have hin0 : ∀ w ∈ wsX00, w ∈ wsX0_zoneAt := by decide +kernel
  have hw0 : Cond.fieldLink RX0 9 (TX0 0).1 (TX0 0).2.1 (TX0 0).2.2.1 ∈ wsX0_zoneAt := by decide +kernel
  have hw1 : Cond.initialized yX9_at.cls ∈ wsX0_zoneAt := by decide +kernel
  have hw2 : Cond.static yX9_at ∈ wsX0_zoneAt := by decide +kernel
  refine x_lveq (lv' := [(0, .ref qC), (1, .int (jI year))]) rfl ?_
  have hpp := Rg.at hgp year hy
  refine x_aload_n F dX0_zoneAt_0 rfl 0 rfl ?_
  refine x_get (ci := 0) F hin0 0 rfl rfl 0 (by decide) hw0 rfl dX0_zoneAt_1 ?_
  refine x_iload_n F dX0_zoneAt_4 rfl 1 rfl ?_
  refine x_callSNi (As := [.ref qC_placed, .int (jI year)]) (st := []) F (c_X9_at D kI kJ l qC_placed year 401 fC_placed (by omega) (by omega)) ⟨va_cnB 2 F.2.2.2.2.1 gX0_zoneAt_X9_at_n55 rfl rfl rfl (nM10 F.2.2.2.2.2.2.2) (F.2.2.2.2.1 _ hw1) (by decide +kernel) ⟨Nat.le_of_ble_eq_true rfl, Nat.le_of_ble_eq_true rfl⟩, F.2.2.2.2.1 _ hw2, trivial⟩ [1] [0] [0, 1] rfl rfl (by decide) (by decide) (by decide) (fun _ => rfl) (by decide) rfl (Nat.le_of_ble_eq_true rfl) dX0_zoneAt_5 ⟨Nat.le_of_ble_eq_true rfl, Nat.le_of_ble_eq_true rfl⟩ (fun z5 u5 h5 => ?_)
  try dsimp only at h5
  refine x_ws [(qC, .inr (0, [.ref qC_placed, .ref qC_wrong, .ref qC_lost, .int (jI vC_danger)])), aI kI qC_placed 401 fC_placed] rfl ?_
  have he5 := h5
  have he5 := he5.symm
  subst he5
  refine x_bipush F dX0_zoneAt_8 (by decide) ?_
  refine x_idiv F dX0_zoneAt_10 (by omega) ?_
  exact hret 0 0 11 _ ((fC_placed year) / 16) () (Nat.le_of_ble_eq_true rfl) (Nat.le_of_ble_eq_true rfl) dX0_zoneAt_11 (rfl)
set_option maxHeartbeats 4000000 in
set_option maxRecDepth 100000 in
theorem c_X0_harmAt (D : va_G) (kI kJ : Nat) (l : Launch) (qC : Nat) (year : Int) (qC_placed : Nat) (qC_wrong : Nat) (qC_lost : Nat) (vC_danger : Int) (fC_wrong : (Int → Int)) (hy : 0 ≤ year ∧ year < 401) : xMi D kI kJ l yX0_harmAt wsX0_harmAt 2 53 0 0 [.ref qC, .int (jI year)] [(qC, .inr (0, [.ref qC_placed, .ref qC_wrong, .ref qC_lost, .int (jI vC_danger)])), aI kI qC_wrong 401 fC_wrong] (fun (z : Int) (u : Unit) => z = fC_wrong year) (fun (u : Unit) => [(qC, .inr (0, [.ref qC_placed, .ref qC_wrong, .ref qC_lost, .int (jI vC_danger)])), aI kI qC_wrong 401 fC_wrong]) := by
  refine xMi_of (cc := cX0_harmAt) (maxL := 2) (rt := .int) (by decide) rfl (Nat.le_of_ble_eq_true rfl) (fun _ _ _ => rfl) ?_
  intro p e s m args below meth c A Q F hin2 hret
  have hin0 : ∀ w ∈ wsX00, w ∈ wsX0_harmAt := by decide +kernel
  have hw0 : Cond.fieldLink RX0 15 (TX0 1).1 (TX0 1).2.1 (TX0 1).2.2.1 ∈ wsX0_harmAt := by decide +kernel
  have hw1 : Cond.initialized yX9_at.cls ∈ wsX0_harmAt := by decide +kernel
  have hw2 : Cond.static yX9_at ∈ wsX0_harmAt := by decide +kernel
  refine x_lveq (lv' := [(0, .ref qC), (1, .int (jI year))]) rfl ?_
  refine x_aload_n F dX0_harmAt_0 rfl 0 rfl ?_
  refine x_get (ci := 0) F hin0 0 rfl rfl 1 (by decide) hw0 rfl dX0_harmAt_1 ?_
  refine x_iload_n F dX0_harmAt_4 rfl 1 rfl ?_
  refine x_callSNi (As := [.ref qC_wrong, .int (jI year)]) (st := []) F (c_X9_at D kI kJ l qC_wrong year 401 fC_wrong (by omega) (by omega)) ⟨va_cnB 2 F.2.2.2.2.1 gX0_harmAt_X9_at_n55 rfl rfl rfl (nM10 F.2.2.2.2.2.2.2) (F.2.2.2.2.1 _ hw1) (by decide +kernel) ⟨Nat.le_of_ble_eq_true rfl, Nat.le_of_ble_eq_true rfl⟩, F.2.2.2.2.1 _ hw2, trivial⟩ [1] [0] [0, 1] rfl rfl (by decide) (by decide) (by decide) (fun _ => rfl) (by decide) rfl (Nat.le_of_ble_eq_true rfl) dX0_harmAt_5 ⟨Nat.le_of_ble_eq_true rfl, Nat.le_of_ble_eq_true rfl⟩ (fun z5 u5 h5 => ?_)
  try dsimp only at h5
  refine x_ws [(qC, .inr (0, [.ref qC_placed, .ref qC_wrong, .ref qC_lost, .int (jI vC_danger)])), aI kI qC_wrong 401 fC_wrong] rfl ?_
  have he5 := h5
  have he5 := he5.symm
  subst he5
  exact hret 0 0 8 _ (fC_wrong year) () (Nat.le_of_ble_eq_true rfl) (Nat.le_of_ble_eq_true rfl) dX0_harmAt_8 (rfl)
set_option maxHeartbeats 4000000 in
set_option maxRecDepth 100000 in
theorem c_X0_lostAt (D : va_G) (kI kJ : Nat) (l : Launch) (qC : Nat) (year : Int) (qC_placed : Nat) (qC_wrong : Nat) (qC_lost : Nat) (vC_danger : Int) (fC_lost : (Int → Int)) (hy : 0 ≤ year ∧ year < 401) : xMi D kI kJ l yX0_lostAt wsX0_lostAt 2 53 0 0 [.ref qC, .int (jI year)] [(qC, .inr (0, [.ref qC_placed, .ref qC_wrong, .ref qC_lost, .int (jI vC_danger)])), aI kI qC_lost 401 fC_lost] (fun (z : Int) (u : Unit) => z = fC_lost year) (fun (u : Unit) => [(qC, .inr (0, [.ref qC_placed, .ref qC_wrong, .ref qC_lost, .int (jI vC_danger)])), aI kI qC_lost 401 fC_lost]) := by
  refine xMi_of (cc := cX0_lostAt) (maxL := 2) (rt := .int) (by decide) rfl (Nat.le_of_ble_eq_true rfl) (fun _ _ _ => rfl) ?_
  intro p e s m args below meth c A Q F hin2 hret
  have hin0 : ∀ w ∈ wsX00, w ∈ wsX0_lostAt := by decide +kernel
  have hw0 : Cond.fieldLink RX0 18 (TX0 2).1 (TX0 2).2.1 (TX0 2).2.2.1 ∈ wsX0_lostAt := by decide +kernel
  have hw1 : Cond.initialized yX9_at.cls ∈ wsX0_lostAt := by decide +kernel
  have hw2 : Cond.static yX9_at ∈ wsX0_lostAt := by decide +kernel
  refine x_lveq (lv' := [(0, .ref qC), (1, .int (jI year))]) rfl ?_
  refine x_aload_n F dX0_lostAt_0 rfl 0 rfl ?_
  refine x_get (ci := 0) F hin0 0 rfl rfl 2 (by decide) hw0 rfl dX0_lostAt_1 ?_
  refine x_iload_n F dX0_lostAt_4 rfl 1 rfl ?_
  refine x_callSNi (As := [.ref qC_lost, .int (jI year)]) (st := []) F (c_X9_at D kI kJ l qC_lost year 401 fC_lost (by omega) (by omega)) ⟨va_cnB 2 F.2.2.2.2.1 gX0_lostAt_X9_at_n55 rfl rfl rfl (nM10 F.2.2.2.2.2.2.2) (F.2.2.2.2.1 _ hw1) (by decide +kernel) ⟨Nat.le_of_ble_eq_true rfl, Nat.le_of_ble_eq_true rfl⟩, F.2.2.2.2.1 _ hw2, trivial⟩ [1] [0] [0, 1] rfl rfl (by decide) (by decide) (by decide) (fun _ => rfl) (by decide) rfl (Nat.le_of_ble_eq_true rfl) dX0_lostAt_5 ⟨Nat.le_of_ble_eq_true rfl, Nat.le_of_ble_eq_true rfl⟩ (fun z5 u5 h5 => ?_)
  try dsimp only at h5
  refine x_ws [(qC, .inr (0, [.ref qC_placed, .ref qC_wrong, .ref qC_lost, .int (jI vC_danger)])), aI kI qC_lost 401 fC_lost] rfl ?_
  have he5 := h5
  have he5 := he5.symm
  subst he5
  exact hret 0 0 8 _ (fC_lost year) () (Nat.le_of_ble_eq_true rfl) (Nat.le_of_ble_eq_true rfl) dX0_lostAt_8 (rfl)
