set_option maxHeartbeats 4000000 in
set_option maxRecDepth 100000 in
theorem c_X3_isWorse (D : va_G) (kI kJ : Nat) (l : Launch) (qM : Nat) (i1 : Int) (i2 : Int) (qM_stones : Nat) (qM_laid : Nat) (qM_deeps : Nat) (qM_rates : Nat) (qP : Nat) (qT : Nat) (qM_dangers : Nat) (qM_losses : Nat) (vM_size : Int) (vM_limit : Int) (fM_dangers : (Int → Int)) (fM_losses : (Int → Int)) (hi12 : (0 ≤ i1 ∧ i1 < 30) ∧ 0 ≤ i2 ∧ i2 < 30) (hMda : Rg fM_dangers 30 (-1) 400) (hMlo : Rg fM_losses 30 0 40100) : xMi D kI kJ l yX3_isWorse wsX3_isWorse 2 53 0 0 [.ref qM, .int (jI i1), .int (jI i2)] [(qM, .inr (3, [.ref qM_stones, .ref qM_laid, .ref qM_deeps, .ref qM_rates, .ref qP, .ref qT, .ref qM_dangers, .ref qM_losses, .int (jI vM_size), .int (jI vM_limit)])), aI kI qM_dangers 30 fM_dangers, aI kI qM_losses 30 fM_losses] (fun (z : Int) (u : Unit) => xBool z (fM_dangers i1 < fM_dangers i2 ∨ (fM_dangers i1 = fM_dangers i2 ∧ (fM_losses i2 < fM_losses i1 ∨ (fM_losses i1 = fM_losses i2 ∧ i1 < i2))))) (fun (u : Unit) => [(qM, .inr (3, [.ref qM_stones, .ref qM_laid, .ref qM_deeps, .ref qM_rates, .ref qP, .ref qT, .ref qM_dangers, .ref qM_losses, .int (jI vM_size), .int (jI vM_limit)])), aI kI qM_dangers 30 fM_dangers, aI kI qM_losses 30 fM_losses]) := by
  refine xMi_of (cc := cX3_isWorse) (maxL := 3) (rt := .boolean) (by decide) rfl (Nat.le_of_ble_eq_true rfl) (fun z u hp => xBool_nar hp) ?_
  intro p e s m args below meth c A Q F hin2 hret
  have hin3 : ∀ w ∈ wsX30, w ∈ wsX3_isWorse := by decide +kernel
  have hw0 : Cond.fieldLink RX3 34 (TX3 6).1 (TX3 6).2.1 (TX3 6).2.2.1 ∈ wsX3_isWorse := by decide +kernel
  have hw1 : Cond.initialized yX9_at.cls ∈ wsX3_isWorse := by decide +kernel
  have hw2 : Cond.static yX9_at ∈ wsX3_isWorse := by decide +kernel
  have hw3 : Cond.fieldLink RX3 37 (TX3 7).1 (TX3 7).2.1 (TX3 7).2.2.1 ∈ wsX3_isWorse := by decide +kernel
  refine x_lveq (lv' := [(0, .ref qM), (1, .int (jI i1)), (2, .int (jI i2))]) rfl ?_
  have hx1 := Rg.at hMda i1 (by omega)
  have hx2 := Rg.at hMda i2 (by omega)
  have hx3 := Rg.at hMlo i1 (by omega)
  have hx4 := Rg.at hMlo i2 (by omega)
  refine x_aload_n F dX3_isWorse_0 rfl 0 rfl ?_
  refine x_get (ci := 3) F hin3 0 rfl rfl 6 (by decide) hw0 rfl dX3_isWorse_1 ?_
  refine x_iload_n F dX3_isWorse_4 rfl 1 rfl ?_
  refine x_callSNi (As := [.ref qM_dangers, .int (jI i1)]) (st := []) F (c_X9_at D kI kJ l qM_dangers i1 30 fM_dangers (by omega) (by omega)) ⟨va_cnB 2 F.2.2.2.2.1 gX3_isWorse_X9_at_n57 rfl rfl rfl (nM10 F.2.2.2.2.2.2.2) (F.2.2.2.2.1 _ hw1) (by decide +kernel) ⟨Nat.le_of_ble_eq_true rfl, Nat.le_of_ble_eq_true rfl⟩, F.2.2.2.2.1 _ hw2, trivial⟩ [1] [0, 2] [0, 2, 1] rfl rfl (by decide) (by decide) (by decide) (fun _ => rfl) (by decide) rfl (Nat.le_of_ble_eq_true rfl) dX3_isWorse_5 ⟨Nat.le_of_ble_eq_true rfl, Nat.le_of_ble_eq_true rfl⟩ (fun z5 u5 h5 => ?_)
  try dsimp only at h5
  refine x_ws [(qM, .inr (3, [.ref qM_stones, .ref qM_laid, .ref qM_deeps, .ref qM_rates, .ref qP, .ref qT, .ref qM_dangers, .ref qM_losses, .int (jI vM_size), .int (jI vM_limit)])), aI kI qM_dangers 30 fM_dangers, aI kI qM_losses 30 fM_losses] rfl ?_
  have he5 := h5
  have he5 := he5.symm
  subst he5
  refine x_aload_n F dX3_isWorse_8 rfl 0 rfl ?_
  refine x_get (ci := 3) F hin3 0 rfl rfl 6 (by decide) hw0 rfl dX3_isWorse_9 ?_
  refine x_iload_n F dX3_isWorse_12 rfl 2 rfl ?_
  refine x_callSNi (As := [.ref qM_dangers, .int (jI i2)]) (st := [.int (jI (fM_dangers i1))]) F (c_X9_at D kI kJ l qM_dangers i2 30 fM_dangers (by omega) (by omega)) ⟨va_cnB 2 F.2.2.2.2.1 gX3_isWorse_X9_at_n57 rfl rfl rfl (nM10 F.2.2.2.2.2.2.2) (F.2.2.2.2.1 _ hw1) (by decide +kernel) ⟨Nat.le_of_ble_eq_true rfl, Nat.le_of_ble_eq_true rfl⟩, F.2.2.2.2.1 _ hw2, trivial⟩ [1] [0, 2] [0, 2, 1] rfl rfl (by decide) (by decide) (by decide) (fun _ => rfl) (by decide) rfl (Nat.le_of_ble_eq_true rfl) dX3_isWorse_13 ⟨Nat.le_of_ble_eq_true rfl, Nat.le_of_ble_eq_true rfl⟩ (fun z13 u13 h13 => ?_)
  try dsimp only at h13
  refine x_ws [(qM, .inr (3, [.ref qM_stones, .ref qM_laid, .ref qM_deeps, .ref qM_rates, .ref qP, .ref qT, .ref qM_dangers, .ref qM_losses, .int (jI vM_size), .int (jI vM_limit)])), aI kI qM_dangers 30 fM_dangers, aI kI qM_losses 30 fM_losses] rfl ?_
  have he13 := h13
  have he13 := he13.symm
  subst he13
  refine x_icmp_eq (tgt := 44) F dX3_isWorse_16 (by decide) (by omega) (fun c16 => ?_) (fun c16 => ?_)
  · -- 16 t
    refine x_aload_n F dX3_isWorse_44 rfl 0 rfl ?_
    refine x_get (ci := 3) F hin3 0 rfl rfl 7 (by decide) hw3 rfl dX3_isWorse_45 ?_
    refine x_iload_n F dX3_isWorse_48 rfl 1 rfl ?_
    refine x_callSNi (As := [.ref qM_losses, .int (jI i1)]) (st := []) F (c_X9_at D kI kJ l qM_losses i1 30 fM_losses (by omega) (by omega)) ⟨va_cnB 2 F.2.2.2.2.1 gX3_isWorse_X9_at_n57 rfl rfl rfl (nM10 F.2.2.2.2.2.2.2) (F.2.2.2.2.1 _ hw1) (by decide +kernel) ⟨Nat.le_of_ble_eq_true rfl, Nat.le_of_ble_eq_true rfl⟩, F.2.2.2.2.1 _ hw2, trivial⟩ [2] [0, 1] [0, 1, 2] rfl rfl (by decide) (by decide) (by decide) (fun _ => rfl) (by decide) rfl (Nat.le_of_ble_eq_true rfl) dX3_isWorse_49 ⟨Nat.le_of_ble_eq_true rfl, Nat.le_of_ble_eq_true rfl⟩ (fun z49 u49 h49 => ?_)
    try dsimp only at h49
    refine x_ws [(qM, .inr (3, [.ref qM_stones, .ref qM_laid, .ref qM_deeps, .ref qM_rates, .ref qP, .ref qT, .ref qM_dangers, .ref qM_losses, .int (jI vM_size), .int (jI vM_limit)])), aI kI qM_dangers 30 fM_dangers, aI kI qM_losses 30 fM_losses] rfl ?_
    have he49 := h49
    have he49 := he49.symm
    subst he49
    refine x_aload_n F dX3_isWorse_52 rfl 0 rfl ?_
    refine x_get (ci := 3) F hin3 0 rfl rfl 7 (by decide) hw3 rfl dX3_isWorse_53 ?_
    refine x_iload_n F dX3_isWorse_56 rfl 2 rfl ?_
    refine x_callSNi (As := [.ref qM_losses, .int (jI i2)]) (st := [.int (jI (fM_losses i1))]) F (c_X9_at D kI kJ l qM_losses i2 30 fM_losses (by omega) (by omega)) ⟨va_cnB 2 F.2.2.2.2.1 gX3_isWorse_X9_at_n57 rfl rfl rfl (nM10 F.2.2.2.2.2.2.2) (F.2.2.2.2.1 _ hw1) (by decide +kernel) ⟨Nat.le_of_ble_eq_true rfl, Nat.le_of_ble_eq_true rfl⟩, F.2.2.2.2.1 _ hw2, trivial⟩ [2] [0, 1] [0, 1, 2] rfl rfl (by decide) (by decide) (by decide) (fun _ => rfl) (by decide) rfl (Nat.le_of_ble_eq_true rfl) dX3_isWorse_57 ⟨Nat.le_of_ble_eq_true rfl, Nat.le_of_ble_eq_true rfl⟩ (fun z57 u57 h57 => ?_)
    try dsimp only at h57
    refine x_ws [(qM, .inr (3, [.ref qM_stones, .ref qM_laid, .ref qM_deeps, .ref qM_rates, .ref qP, .ref qT, .ref qM_dangers, .ref qM_losses, .int (jI vM_size), .int (jI vM_limit)])), aI kI qM_dangers 30 fM_dangers, aI kI qM_losses 30 fM_losses] rfl ?_
    have he57 := h57
    have he57 := he57.symm
    subst he57
    refine x_icmp_eq (tgt := 88) F dX3_isWorse_60 (by decide) (by omega) (fun c60 => ?_) (fun c60 => ?_)
    · -- 60 t
      refine x_iload_n F dX3_isWorse_88 rfl 1 rfl ?_
      refine x_iload_n F dX3_isWorse_89 rfl 2 rfl ?_
      refine x_icmp_ge (tgt := 97) F dX3_isWorse_90 (by decide) (by omega) (fun c90 => ?_) (fun c90 => ?_)
      · -- 90 t
        refine x_iconst F dX3_isWorse_97 ?_
        exact hret 0 0 98 _ 0 () (Nat.le_of_ble_eq_true rfl) (Nat.le_of_ble_eq_true rfl) dX3_isWorse_98 (by first | exact xBool_t (by omega) | exact xBool_f (by omega))
      · -- 90 f
        refine x_iconst F dX3_isWorse_93 ?_
        refine x_goto (tgt := 98) F dX3_isWorse_94 (by decide) ?_
        exact hret 0 0 98 _ 1 () (Nat.le_of_ble_eq_true rfl) (Nat.le_of_ble_eq_true rfl) dX3_isWorse_98 (by first | exact xBool_t (by omega) | exact xBool_f (by omega))
    · -- 60 f
      refine x_aload_n F dX3_isWorse_63 rfl 0 rfl ?_
      refine x_get (ci := 3) F hin3 0 rfl rfl 7 (by decide) hw3 rfl dX3_isWorse_64 ?_
      refine x_iload_n F dX3_isWorse_67 rfl 1 rfl ?_
      refine x_callSNi (As := [.ref qM_losses, .int (jI i1)]) (st := []) F (c_X9_at D kI kJ l qM_losses i1 30 fM_losses (by omega) (by omega)) ⟨va_cnB 2 F.2.2.2.2.1 gX3_isWorse_X9_at_n57 rfl rfl rfl (nM10 F.2.2.2.2.2.2.2) (F.2.2.2.2.1 _ hw1) (by decide +kernel) ⟨Nat.le_of_ble_eq_true rfl, Nat.le_of_ble_eq_true rfl⟩, F.2.2.2.2.1 _ hw2, trivial⟩ [2] [0, 1] [0, 1, 2] rfl rfl (by decide) (by decide) (by decide) (fun _ => rfl) (by decide) rfl (Nat.le_of_ble_eq_true rfl) dX3_isWorse_68 ⟨Nat.le_of_ble_eq_true rfl, Nat.le_of_ble_eq_true rfl⟩ (fun z68 u68 h68 => ?_)
      try dsimp only at h68
      refine x_ws [(qM, .inr (3, [.ref qM_stones, .ref qM_laid, .ref qM_deeps, .ref qM_rates, .ref qP, .ref qT, .ref qM_dangers, .ref qM_losses, .int (jI vM_size), .int (jI vM_limit)])), aI kI qM_dangers 30 fM_dangers, aI kI qM_losses 30 fM_losses] rfl ?_
      have he68 := h68
      have he68 := he68.symm
      subst he68
      refine x_aload_n F dX3_isWorse_71 rfl 0 rfl ?_
      refine x_get (ci := 3) F hin3 0 rfl rfl 7 (by decide) hw3 rfl dX3_isWorse_72 ?_
      refine x_iload_n F dX3_isWorse_75 rfl 2 rfl ?_
      refine x_callSNi (As := [.ref qM_losses, .int (jI i2)]) (st := [.int (jI (fM_losses i1))]) F (c_X9_at D kI kJ l qM_losses i2 30 fM_losses (by omega) (by omega)) ⟨va_cnB 2 F.2.2.2.2.1 gX3_isWorse_X9_at_n57 rfl rfl rfl (nM10 F.2.2.2.2.2.2.2) (F.2.2.2.2.1 _ hw1) (by decide +kernel) ⟨Nat.le_of_ble_eq_true rfl, Nat.le_of_ble_eq_true rfl⟩, F.2.2.2.2.1 _ hw2, trivial⟩ [2] [0, 1] [0, 1, 2] rfl rfl (by decide) (by decide) (by decide) (fun _ => rfl) (by decide) rfl (Nat.le_of_ble_eq_true rfl) dX3_isWorse_76 ⟨Nat.le_of_ble_eq_true rfl, Nat.le_of_ble_eq_true rfl⟩ (fun z76 u76 h76 => ?_)
      try dsimp only at h76
      refine x_ws [(qM, .inr (3, [.ref qM_stones, .ref qM_laid, .ref qM_deeps, .ref qM_rates, .ref qP, .ref qT, .ref qM_dangers, .ref qM_losses, .int (jI vM_size), .int (jI vM_limit)])), aI kI qM_dangers 30 fM_dangers, aI kI qM_losses 30 fM_losses] rfl ?_
      have he76 := h76
      have he76 := he76.symm
      subst he76
      refine x_icmp_le (tgt := 86) F dX3_isWorse_79 (by decide) (by omega) (fun c79 => ?_) (fun c79 => ?_)
      · -- 79 t
        refine x_iconst F dX3_isWorse_86 ?_
        exact hret 0 0 87 _ 0 () (Nat.le_of_ble_eq_true rfl) (Nat.le_of_ble_eq_true rfl) dX3_isWorse_87 (by first | exact xBool_t (by omega) | exact xBool_f (by omega))
      · -- 79 f
        refine x_iconst F dX3_isWorse_82 ?_
        refine x_goto (tgt := 87) F dX3_isWorse_83 (by decide) ?_
        exact hret 0 0 87 _ 1 () (Nat.le_of_ble_eq_true rfl) (Nat.le_of_ble_eq_true rfl) dX3_isWorse_87 (by first | exact xBool_t (by omega) | exact xBool_f (by omega))
  · -- 16 f
    refine x_aload_n F dX3_isWorse_19 rfl 0 rfl ?_
    refine x_get (ci := 3) F hin3 0 rfl rfl 6 (by decide) hw0 rfl dX3_isWorse_20 ?_
    refine x_iload_n F dX3_isWorse_23 rfl 1 rfl ?_
    refine x_callSNi (As := [.ref qM_dangers, .int (jI i1)]) (st := []) F (c_X9_at D kI kJ l qM_dangers i1 30 fM_dangers (by omega) (by omega)) ⟨va_cnB 2 F.2.2.2.2.1 gX3_isWorse_X9_at_n57 rfl rfl rfl (nM10 F.2.2.2.2.2.2.2) (F.2.2.2.2.1 _ hw1) (by decide +kernel) ⟨Nat.le_of_ble_eq_true rfl, Nat.le_of_ble_eq_true rfl⟩, F.2.2.2.2.1 _ hw2, trivial⟩ [1] [0, 2] [0, 2, 1] rfl rfl (by decide) (by decide) (by decide) (fun _ => rfl) (by decide) rfl (Nat.le_of_ble_eq_true rfl) dX3_isWorse_24 ⟨Nat.le_of_ble_eq_true rfl, Nat.le_of_ble_eq_true rfl⟩ (fun z24 u24 h24 => ?_)
    try dsimp only at h24
    refine x_ws [(qM, .inr (3, [.ref qM_stones, .ref qM_laid, .ref qM_deeps, .ref qM_rates, .ref qP, .ref qT, .ref qM_dangers, .ref qM_losses, .int (jI vM_size), .int (jI vM_limit)])), aI kI qM_dangers 30 fM_dangers, aI kI qM_losses 30 fM_losses] rfl ?_
    have he24 := h24
    have he24 := he24.symm
    subst he24
    refine x_aload_n F dX3_isWorse_27 rfl 0 rfl ?_
    refine x_get (ci := 3) F hin3 0 rfl rfl 6 (by decide) hw0 rfl dX3_isWorse_28 ?_
    refine x_iload_n F dX3_isWorse_31 rfl 2 rfl ?_
    refine x_callSNi (As := [.ref qM_dangers, .int (jI i2)]) (st := [.int (jI (fM_dangers i1))]) F (c_X9_at D kI kJ l qM_dangers i2 30 fM_dangers (by omega) (by omega)) ⟨va_cnB 2 F.2.2.2.2.1 gX3_isWorse_X9_at_n57 rfl rfl rfl (nM10 F.2.2.2.2.2.2.2) (F.2.2.2.2.1 _ hw1) (by decide +kernel) ⟨Nat.le_of_ble_eq_true rfl, Nat.le_of_ble_eq_true rfl⟩, F.2.2.2.2.1 _ hw2, trivial⟩ [1] [0, 2] [0, 2, 1] rfl rfl (by decide) (by decide) (by decide) (fun _ => rfl) (by decide) rfl (Nat.le_of_ble_eq_true rfl) dX3_isWorse_32 ⟨Nat.le_of_ble_eq_true rfl, Nat.le_of_ble_eq_true rfl⟩ (fun z32 u32 h32 => ?_)
    try dsimp only at h32
    refine x_ws [(qM, .inr (3, [.ref qM_stones, .ref qM_laid, .ref qM_deeps, .ref qM_rates, .ref qP, .ref qT, .ref qM_dangers, .ref qM_losses, .int (jI vM_size), .int (jI vM_limit)])), aI kI qM_dangers 30 fM_dangers, aI kI qM_losses 30 fM_losses] rfl ?_
    have he32 := h32
    have he32 := he32.symm
    subst he32
    refine x_icmp_ge (tgt := 42) F dX3_isWorse_35 (by decide) (by omega) (fun c35 => ?_) (fun c35 => ?_)
    · -- 35 t
      refine x_iconst F dX3_isWorse_42 ?_
      exact hret 0 0 43 _ 0 () (Nat.le_of_ble_eq_true rfl) (Nat.le_of_ble_eq_true rfl) dX3_isWorse_43 (by first | exact xBool_t (by omega) | exact xBool_f (by omega))
    · -- 35 f
      refine x_iconst F dX3_isWorse_38 ?_
      refine x_goto (tgt := 43) F dX3_isWorse_39 (by decide) ?_
      exact hret 0 0 43 _ 1 () (Nat.le_of_ble_eq_true rfl) (Nat.le_of_ble_eq_true rfl) dX3_isWorse_43 (by first | exact xBool_t (by omega) | exact xBool_f (by omega))
set_option maxHeartbeats 4000000 in
set_option maxRecDepth 100000 in
theorem c_X3_countWorseThan (D : va_G) (kI kJ : Nat) (l : Launch) (qM : Nat) (b : Int) (qM_stones : Nat) (qM_laid : Nat) (qM_deeps : Nat) (qM_rates : Nat) (qP : Nat) (qT : Nat) (qM_dangers : Nat) (qM_losses : Nat) (vM_size : Int) (vM_limit : Int) (fM_dangers : (Int → Int)) (fM_losses : (Int → Int)) (hb : 0 ≤ b ∧ b < 30) (hMs : 0 ≤ vM_size ∧ vM_size ≤ 30) (hMda : Rg fM_dangers 30 (-1) 400) (hMlo : Rg fM_losses 30 0 40100) : xMi D kI kJ l yX3_countWorseThan wsX3_countWorseThan 3 75 0 0 [.ref qM, .int (jI b)] [(qM, .inr (3, [.ref qM_stones, .ref qM_laid, .ref qM_deeps, .ref qM_rates, .ref qP, .ref qT, .ref qM_dangers, .ref qM_losses, .int (jI vM_size), .int (jI vM_limit)])), aI kI qM_dangers 30 fM_dangers, aI kI qM_losses 30 fM_losses] (fun (z : Int) (u : Unit) => z = cW fM_dangers fM_losses vM_size b) (fun (u : Unit) => [(qM, .inr (3, [.ref qM_stones, .ref qM_laid, .ref qM_deeps, .ref qM_rates, .ref qP, .ref qT, .ref qM_dangers, .ref qM_losses, .int (jI vM_size), .int (jI vM_limit)])), aI kI qM_dangers 30 fM_dangers, aI kI qM_losses 30 fM_losses]) := by
  refine xMi_of (cc := cX3_countWorseThan) (maxL := 4) (rt := .int) (by decide) rfl (Nat.le_of_ble_eq_true rfl) (fun _ _ _ => rfl) ?_
  intro p e s m args below meth c A Q F hin2 hret
  have hin3 : ∀ w ∈ wsX30, w ∈ wsX3_countWorseThan := by decide +kernel
  have hw0 : Cond.fieldLink RX3 50 (TX3 8).1 (TX3 8).2.1 (TX3 8).2.2.1 ∈ wsX3_countWorseThan := by decide +kernel
  have hw1 : Cond.fieldLink RX3 34 (TX3 6).1 (TX3 6).2.1 (TX3 6).2.2.1 ∈ wsX3_countWorseThan := by decide +kernel
  refine x_lveq (lv' := [(0, .ref qM), (1, .int (jI b))]) rfl ?_
  refine x_iconst F dX3_countWorseThan_0 ?_
  refine x_istore_n (lv' := [(0, .ref qM), (1, .int (jI b)), (2, .int (jI 0))]) F dX3_countWorseThan_1 rfl (by decide) [1, 2, 0] rfl ?_
  refine x_iconst F dX3_countWorseThan_2 ?_
  refine x_istore_n (lv' := [(0, .ref qM), (1, .int (jI b)), (2, .int (jI 0)), (3, .int (jI 0))]) F dX3_countWorseThan_3 rfl (by decide) [1, 2, 3, 0] rfl ?_
  have lp4 : ∀ (fu : Nat) (w9 : Int) (o9 : Int) (ho : 0 ≤ o9 ∧ o9 ≤ vM_size) (hf : w9 = sm (cWf fM_dangers fM_losses b) o9) (hm : vM_size - o9 < (fu : Int)), xG D p l e (xRm 3 75 0 0) s m args below meth c 4 A Q 0 0 [(qM, .inr (3, [.ref qM_stones, .ref qM_laid, .ref qM_deeps, .ref qM_rates, .ref qP, .ref qT, .ref qM_dangers, .ref qM_losses, .int (jI vM_size), .int (jI vM_limit)])), aI kI qM_dangers 30 fM_dangers, aI kI qM_losses 30 fM_losses] [(0, .ref qM), (1, .int (jI b)), (2, .int (jI w9)), (3, .int (jI o9))] 4 [] := by
    intro fu
    induction fu with
    | zero =>
      intro w9 o9 ho hf hm
      exact absurd hm (by omega)
    | succ fu ih4 =>
      intro w9 o9 ho hf hm
      have hfr := sm_rng (f := cWf fM_dangers fM_losses b) (n := o9) (c := 1) (fun k _ _ => by unfold cWf; split <;> omega) ho.1 (Int.le_refl _)
      have hx1 : o9 < vM_size → -1 ≤ fM_dangers o9 ∧ fM_dangers o9 ≤ 400 := fun q => Rg.at hMda o9 (by omega)
      refine x_iload_n F dX3_countWorseThan_4 rfl 3 rfl ?_
      refine x_aload_n F dX3_countWorseThan_5 rfl 0 rfl ?_
      refine x_get (ci := 3) F hin3 0 rfl rfl 8 (by decide) hw0 rfl dX3_countWorseThan_6 ?_
      refine x_icmp_ge (tgt := 46) F dX3_countWorseThan_9 (by decide) (by omega) (fun c9 => ?_) (fun c9 => ?_)
      · -- 9 t
        refine x_iload_n F dX3_countWorseThan_46 rfl 2 rfl ?_
        exact hret 0 0 47 _ w9 () (Nat.le_of_ble_eq_true rfl) (Nat.le_of_ble_eq_true rfl) dX3_countWorseThan_47 (by unfold cW; rw [hf, show o9 = vM_size by omega])
      · -- 9 f
        refine x_iload_n F dX3_countWorseThan_12 rfl 3 rfl ?_
        refine x_bipush F dX3_countWorseThan_13 (by decide) ?_
        refine x_icmp_ge (tgt := 46) F dX3_countWorseThan_15 (by decide) (by omega) (fun c15 => ?_) (fun c15 => ?_)
        · exact absurd c15 (by omega)
        · -- 15 f
          have jn40 : ∀ (w8 : Int) (hf2 : w8 = sm (cWf fM_dangers fM_losses b) (o9 + 1)), xG D p l e (xRm 3 75 0 0) s m args below meth c 4 A Q 0 0 [(qM, .inr (3, [.ref qM_stones, .ref qM_laid, .ref qM_deeps, .ref qM_rates, .ref qP, .ref qT, .ref qM_dangers, .ref qM_losses, .int (jI vM_size), .int (jI vM_limit)])), aI kI qM_dangers 30 fM_dangers, aI kI qM_losses 30 fM_losses] [(0, .ref qM), (1, .int (jI b)), (2, .int (jI w8)), (3, .int (jI o9))] 40 [] := by
            intro w8 hf2
            refine x_iinc (lv' := [(0, .ref qM), (1, .int (jI b)), (2, .int (jI w8)), (3, .int (jI (o9 + 1)))]) (k := 3) F dX3_countWorseThan_40 rfl (by decide) [1, 2, 3, 0] rfl ?_
            refine x_goto (tgt := 4) F dX3_countWorseThan_43 (by decide) ?_
            exact ih4 w8 (o9 + 1) (by omega) hf2 (by omega)
          refine x_aload_n F dX3_countWorseThan_18 rfl 0 rfl ?_
          refine x_get (ci := 3) F hin3 0 rfl rfl 6 (by decide) hw1 rfl dX3_countWorseThan_19 ?_
          refine x_iload_n F dX3_countWorseThan_22 rfl 3 rfl ?_
          refine x_iald F 1 rfl (by decide) (by omega) dX3_countWorseThan_23 ?_
          have hr23 := Rg.at hMda o9 (by omega)
          refine x_iconst F dX3_countWorseThan_24 ?_
          refine x_icmp_eq (tgt := 40) F dX3_countWorseThan_25 (by decide) (by omega) (fun c25 => ?_) (fun c25 => ?_)
          · -- 25 t
            exact jn40 w9 (by rw [sm_s ho.1, ← hf]; unfold cWf; split <;> omega)
          · -- 25 f
            refine x_aload_n F dX3_countWorseThan_28 rfl 0 rfl ?_
            refine x_iload_n F dX3_countWorseThan_29 rfl 3 rfl ?_
            refine x_iload_n F dX3_countWorseThan_30 rfl 1 rfl ?_
            refine x_callVi (ci := 3) (q0 := 0) (As := [.int (jI o9), .int (jI b)]) (st := []) F (c_X3_isWorse D kI kJ l qM o9 b qM_stones qM_laid qM_deeps qM_rates qP qT qM_dangers qM_losses vM_size vM_limit fM_dangers fM_losses (by omega) hMda hMlo) (cwV 2 F.2.2.2.2.1 gX3_countWorseThan_X3_isWorse rfl rfl rfl (by decide +kernel) ⟨Nat.le_of_ble_eq_true rfl, Nat.le_of_ble_eq_true rfl⟩) rfl rfl [0, 1, 2] [] [0, 1, 2] rfl rfl (by decide) (by decide) (by decide) (fun _ => rfl) (by decide) rfl (Nat.le_of_ble_eq_true rfl) dX3_countWorseThan_31 ⟨Nat.le_of_ble_eq_true rfl, Nat.le_of_ble_eq_true rfl⟩ (fun z31 u31 h31 => ?_)
            try dsimp only at h31
            refine x_ws [(qM, .inr (3, [.ref qM_stones, .ref qM_laid, .ref qM_deeps, .ref qM_rates, .ref qP, .ref qT, .ref qM_dangers, .ref qM_losses, .int (jI vM_size), .int (jI vM_limit)])), aI kI qM_dangers 30 fM_dangers, aI kI qM_losses 30 fM_losses] rfl ?_
            have hb31 := h31
            refine x_beq (tgt := 40) F dX3_countWorseThan_34 (by decide) hb31 (fun c34 => ?_) (fun c34 => ?_)
            · -- 34 t
              exact jn40 w9 (by rw [sm_s ho.1, ← hf]; unfold cWf; split <;> omega)
            · -- 34 f
              refine x_iinc (lv' := [(0, .ref qM), (1, .int (jI b)), (2, .int (jI (w9 + 1))), (3, .int (jI o9))]) (k := 2) F dX3_countWorseThan_37 rfl (by decide) [1, 2, 0, 3] rfl ?_
              exact jn40 (w9 + 1) (by rw [sm_s ho.1, ← hf]; unfold cWf; split <;> omega)
  exact lp4 (Int.toNat (vM_size - 0) + 1) 0 0 (by omega) rfl (by omega)
set_option maxHeartbeats 4000000 in
set_option maxRecDepth 100000 in
theorem c_X3_findWorst (D : va_G) (kI kJ : Nat) (l : Launch) (qM : Nat) (qC : Nat) (year : Int) (i : Int) (qC_placed : Nat) (qC_wrong : Nat) (qC_lost : Nat) (vC_danger : Int) (fC_placed : (Int → Int)) (fC_wrong : (Int → Int)) (fC_lost : (Int → Int)) (qM_stones : Nat) (qM_laid : Nat) (qM_deeps : Nat) (qM_rates : Nat) (qP : Nat) (qT : Nat) (qM_dangers : Nat) (qM_losses : Nat) (vM_size : Int) (vM_limit : Int) (fM_stones : (Int → Int)) (fM_laid : (Int → Int)) (fM_deeps : (Int → Int)) (fM_rates : (Int → Int)) (qP_blocks : Nat) (qP_years : Nat) (qP_values : Nat) (qP_since : Nat) (vP_size : Int) (fP_blocks : (Int → Int)) (fP_years : (Int → Int)) (fP_values : (Int → Int)) (fP_since : (Int → Int)) (qT_blocks : Nat) (qT_years : Nat) (qT_values : Nat) (qT_since : Nat) (vT_size : Int) (fT_blocks : (Int → Int)) (fT_years : (Int → Int)) (fT_values : (Int → Int)) (fT_since : (Int → Int)) (fM_dangers : (Int → Int)) (fM_losses : (Int → Int)) (hr_i : -2147483648 ≤ i ∧ i < 2147483648) (hMs : 0 ≤ vM_size ∧ vM_size ≤ 30) (hy : 0 ≤ year ∧ year ≤ 400) (hMr : Rg fM_rates 64 0 50) (hMst : Rg fM_stones 30 0 3) (hMla : Rg fM_laid 30 0 400) (hMd : Rg fM_deeps 30 0 2000) (hMl : 1 ≤ vM_limit ∧ vM_limit ≤ 100) (hPs : 0 ≤ vP_size ∧ vP_size ≤ 60) (hPb : Rg fP_blocks 60 0 29) (hPy : Rg fP_years 60 0 400) (hPv : Rg fP_values 60 0 127) (hTs : 0 ≤ vT_size ∧ vT_size ≤ 60) (hTb : Rg fT_blocks 60 0 29) (hTy : Rg fT_years 60 0 400) (hTv : Rg fT_values 60 0 1) (hMda : Rg fM_dangers 30 (-1) 400) (hMlo : Rg fM_losses 30 0 40100) : xMi D kI kJ l yX3_findWorst wsX3_findWorst 5 137 0 0 [.ref qM, .ref qC, .int (jI year), .int (jI i)] [(qC, .inr (0, [.ref qC_placed, .ref qC_wrong, .ref qC_lost, .int (jI vC_danger)])), aI kI qC_placed 401 fC_placed, aI kI qC_wrong 401 fC_wrong, aI kI qC_lost 401 fC_lost, (qM, .inr (3, [.ref qM_stones, .ref qM_laid, .ref qM_deeps, .ref qM_rates, .ref qP, .ref qT, .ref qM_dangers, .ref qM_losses, .int (jI vM_size), .int (jI vM_limit)])), aI kI qM_stones 30 fM_stones, aI kI qM_laid 30 fM_laid, aI kI qM_deeps 30 fM_deeps, aI kI qM_rates 64 fM_rates, (qP, .inr (7, [.ref qP_blocks, .ref qP_years, .ref qP_values, .ref qP_since, .int (jI vP_size)])), aI kI qP_blocks 60 fP_blocks, aI kI qP_years 60 fP_years, aI kI qP_values 60 fP_values, aI kI qP_since 401 fP_since, (qT, .inr (7, [.ref qT_blocks, .ref qT_years, .ref qT_values, .ref qT_since, .int (jI vT_size)])), aI kI qT_blocks 60 fT_blocks, aI kI qT_years 60 fT_years, aI kI qT_values 60 fT_values, aI kI qT_since 401 fT_since, aI kI qM_dangers 30 fM_dangers, aI kI qM_losses 30 fM_losses] (fun (z : Int) (u : (Int → Int) × (Int → Int) × (Int → Int) × Int × (Int → Int) × (Int → Int) × (Int → Int) × (Int → Int)) => z = (wst (fun b => dG (lS (kLoss fM_rates (fM_stones b) fP_blocks fP_years fP_values vP_size fT_blocks fT_years fT_values vT_size b) (fM_laid b)) (fM_deeps b * vM_limit) 401) (fun b => (lS (kLoss fM_rates (fM_stones b) fP_blocks fP_years fP_values vP_size fT_blocks fT_years fT_values vT_size b) (fM_laid b)) year) vM_size i) ∧ (Rg u.2.2.2.2.2.2.1 30 (-1) 400) ∧ (Rg u.2.2.2.2.2.2.2 30 0 40100)) (fun (u : (Int → Int) × (Int → Int) × (Int → Int) × Int × (Int → Int) × (Int → Int) × (Int → Int) × (Int → Int)) => [(qC, .inr (0, [.ref qC_placed, .ref qC_wrong, .ref qC_lost, .int (jI u.2.2.2.1)])), aI kI qC_placed 401 u.1, aI kI qC_wrong 401 u.2.1, aI kI qC_lost 401 u.2.2.1, (qM, .inr (3, [.ref qM_stones, .ref qM_laid, .ref qM_deeps, .ref qM_rates, .ref qP, .ref qT, .ref qM_dangers, .ref qM_losses, .int (jI vM_size), .int (jI vM_limit)])), aI kI qM_stones 30 fM_stones, aI kI qM_laid 30 fM_laid, aI kI qM_deeps 30 fM_deeps, aI kI qM_rates 64 fM_rates, (qP, .inr (7, [.ref qP_blocks, .ref qP_years, .ref qP_values, .ref qP_since, .int (jI vP_size)])), aI kI qP_blocks 60 fP_blocks, aI kI qP_years 60 fP_years, aI kI qP_values 60 fP_values, aI kI qP_since 401 u.2.2.2.2.1, (qT, .inr (7, [.ref qT_blocks, .ref qT_years, .ref qT_values, .ref qT_since, .int (jI vT_size)])), aI kI qT_blocks 60 fT_blocks, aI kI qT_years 60 fT_years, aI kI qT_values 60 fT_values, aI kI qT_since 401 u.2.2.2.2.2.1, aI kI qM_dangers 30 u.2.2.2.2.2.2.1, aI kI qM_losses 30 u.2.2.2.2.2.2.2]) := by
  refine xMi_of (cc := cX3_findWorst) (maxL := 5) (rt := .int) (by decide) rfl (Nat.le_of_ble_eq_true rfl) (fun _ _ _ => rfl) ?_
  intro p e s m args below meth c A Q F hin2 hret
  have hin0 : ∀ w ∈ wsX00, w ∈ wsX3_findWorst := by decide +kernel
  have hin3 : ∀ w ∈ wsX30, w ∈ wsX3_findWorst := by decide +kernel
  have hw0 : Cond.fieldLink RX3 50 (TX3 8).1 (TX3 8).2.1 (TX3 8).2.2.1 ∈ wsX3_findWorst := by decide +kernel
  have hw1 : Cond.fieldLink RX3 34 (TX3 6).1 (TX3 6).2.1 (TX3 6).2.2.1 ∈ wsX3_findWorst := by decide +kernel
  have hw2 : Cond.fieldLink RX3 37 (TX3 7).1 (TX3 7).2.1 (TX3 7).2.2.1 ∈ wsX3_findWorst := by decide +kernel
  refine x_lveq (lv' := [(0, .ref qM), (1, .ref qC), (2, .int (jI year)), (3, .int (jI i))]) rfl ?_
  obtain ⟨dgf, hdgf⟩ : ∃ f : Int → Int, f = (fun b => dG (lS (kLoss fM_rates (fM_stones b) fP_blocks fP_years fP_values vP_size fT_blocks fT_years fT_values vT_size b) (fM_laid b)) (fM_deeps b * vM_limit) 401) := ⟨_, rfl⟩
  obtain ⟨lsf, hlsf⟩ : ∃ f : Int → Int, f = (fun b => (lS (kLoss fM_rates (fM_stones b) fP_blocks fP_years fP_values vP_size fT_blocks fT_years fT_values vT_size b) (fM_laid b)) year) := ⟨_, rfl⟩
  rw [← hdgf, ← hlsf] at hret
  refine x_iconst F dX3_findWorst_0 ?_
  refine x_istore (lv' := [(0, .ref qM), (1, .ref qC), (2, .int (jI year)), (3, .int (jI i)), (4, .int (jI 0))]) F dX3_findWorst_1 (by decide) [1, 2, 3, 4, 0] rfl ?_
  have lp3 : ∀ (fu : Nat) (bb : Int) (dv : (Int → Int)) (lv9 : (Int → Int)) (p2_ : (Int → Int)) (w2_ : (Int → Int)) (l2_ : (Int → Int)) (d2_ : Int) (s2_ : (Int → Int)) (r2_ : (Int → Int)) (hbb : 0 ≤ bb ∧ bb ≤ vM_size) (hda : Rg dv 30 (-1) 400) (hlo : Rg lv9 30 0 40100) (hdg : ∀ k : Int, 0 ≤ k → k < bb → dv k = dgf k) (hls : ∀ k : Int, 0 ≤ k → k < bb → lv9 k = lsf k) (hm : vM_size - bb < (fu : Int)), xG D p l e (xRm 5 137 0 0) s m args below meth c 5 A Q 0 0 [(qC, .inr (0, [.ref qC_placed, .ref qC_wrong, .ref qC_lost, .int (jI d2_)])), aI kI qC_placed 401 p2_, aI kI qC_wrong 401 w2_, aI kI qC_lost 401 l2_, (qM, .inr (3, [.ref qM_stones, .ref qM_laid, .ref qM_deeps, .ref qM_rates, .ref qP, .ref qT, .ref qM_dangers, .ref qM_losses, .int (jI vM_size), .int (jI vM_limit)])), aI kI qM_stones 30 fM_stones, aI kI qM_laid 30 fM_laid, aI kI qM_deeps 30 fM_deeps, aI kI qM_rates 64 fM_rates, (qP, .inr (7, [.ref qP_blocks, .ref qP_years, .ref qP_values, .ref qP_since, .int (jI vP_size)])), aI kI qP_blocks 60 fP_blocks, aI kI qP_years 60 fP_years, aI kI qP_values 60 fP_values, aI kI qP_since 401 s2_, (qT, .inr (7, [.ref qT_blocks, .ref qT_years, .ref qT_values, .ref qT_since, .int (jI vT_size)])), aI kI qT_blocks 60 fT_blocks, aI kI qT_years 60 fT_years, aI kI qT_values 60 fT_values, aI kI qT_since 401 r2_, aI kI qM_dangers 30 dv, aI kI qM_losses 30 lv9] [(0, .ref qM), (1, .ref qC), (2, .int (jI year)), (3, .int (jI i)), (4, .int (jI bb))] 3 [] := by
    intro fu
    induction fu with
    | zero =>
      intro bb dv lv9 p2_ w2_ l2_ d2_ s2_ r2_ hbb hda hlo hdg hls hm
      exact absurd hm (by omega)
    | succ fu ih3 =>
      intro bb dv lv9 p2_ w2_ l2_ d2_ s2_ r2_ hbb hda hlo hdg hls hm
      refine x_iload F dX3_findWorst_3 4 rfl ?_
      refine x_aload_n F dX3_findWorst_5 rfl 0 rfl ?_
      refine x_get (ci := 3) F hin3 4 rfl rfl 8 (by decide) hw0 rfl dX3_findWorst_6 ?_
      refine x_icmp_ge (tgt := 55) F dX3_findWorst_9 (by decide) (by omega) (fun c9 => ?_) (fun c9 => ?_)
      · -- 9 t
        rw [show bb = vM_size by omega] at hdg hls
        refine x_iconst F dX3_findWorst_55 ?_
        refine x_istore (lv' := [(0, .ref qM), (1, .ref qC), (2, .int (jI year)), (3, .int (jI i)), (4, .int (jI 0))]) F dX3_findWorst_56 (by decide) [1, 2, 3, 4, 0] rfl ?_
        have lp58 : ∀ (fu : Nat) (bc : Int) (hbc : 0 ≤ bc ∧ bc ≤ vM_size) (hw : dG (wsf dgf lsf vM_size i) 100 bc < 0) (hm : vM_size - bc < (fu : Int)), xG D p l e (xRm 5 137 0 0) s m args below meth c 5 A Q 0 0 [(qC, .inr (0, [.ref qC_placed, .ref qC_wrong, .ref qC_lost, .int (jI d2_)])), aI kI qC_placed 401 p2_, aI kI qC_wrong 401 w2_, aI kI qC_lost 401 l2_, (qM, .inr (3, [.ref qM_stones, .ref qM_laid, .ref qM_deeps, .ref qM_rates, .ref qP, .ref qT, .ref qM_dangers, .ref qM_losses, .int (jI vM_size), .int (jI vM_limit)])), aI kI qM_stones 30 fM_stones, aI kI qM_laid 30 fM_laid, aI kI qM_deeps 30 fM_deeps, aI kI qM_rates 64 fM_rates, (qP, .inr (7, [.ref qP_blocks, .ref qP_years, .ref qP_values, .ref qP_since, .int (jI vP_size)])), aI kI qP_blocks 60 fP_blocks, aI kI qP_years 60 fP_years, aI kI qP_values 60 fP_values, aI kI qP_since 401 s2_, (qT, .inr (7, [.ref qT_blocks, .ref qT_years, .ref qT_values, .ref qT_since, .int (jI vT_size)])), aI kI qT_blocks 60 fT_blocks, aI kI qT_years 60 fT_years, aI kI qT_values 60 fT_values, aI kI qT_since 401 r2_, aI kI qM_dangers 30 dv, aI kI qM_losses 30 lv9] [(0, .ref qM), (1, .ref qC), (2, .int (jI year)), (3, .int (jI i)), (4, .int (jI bc))] 58 [] := by
          intro fu
          induction fu with
          | zero =>
            intro bc hbc hw hm
            exact absurd hm (by omega)
          | succ fu ih58 =>
            intro bc hbc hw hm
            have hx1 : bc < vM_size → dv bc = dgf bc := fun q => hdg bc hbc.1 q
            refine x_iload F dX3_findWorst_58 4 rfl ?_
            refine x_aload_n F dX3_findWorst_60 rfl 0 rfl ?_
            refine x_get (ci := 3) F hin3 4 rfl rfl 8 (by decide) hw0 rfl dX3_findWorst_61 ?_
            refine x_icmp_ge (tgt := 104) F dX3_findWorst_64 (by decide) (by omega) (fun c64 => ?_) (fun c64 => ?_)
            · -- 64 t
              refine x_iconst F dX3_findWorst_104 ?_
              exact hret 0 0 105 _ (-1) (p2_, w2_, l2_, d2_, s2_, r2_, dv, lv9) (Nat.le_of_ble_eq_true rfl) (Nat.le_of_ble_eq_true rfl) dX3_findWorst_105 (by (try dsimp only); exact (⟨by have := (dG_rng (ls := wsf dgf lsf vM_size i) (thr := 100) (i := bc) (by omega)).1; rw [show bc = vM_size by omega] at this hw; unfold wst; omega, hda, hlo⟩))
            · -- 64 f
              refine x_iload F dX3_findWorst_67 4 rfl ?_
              refine x_bipush F dX3_findWorst_69 (by decide) ?_
              refine x_icmp_ge (tgt := 104) F dX3_findWorst_71 (by decide) (by omega) (fun c71 => ?_) (fun c71 => ?_)
              · exact absurd c71 (by omega)
              · -- 71 f
                have jn98 : ∀  (hno : ¬ (0 ≤ dgf bc ∧ cW dgf lsf vM_size bc = i)), xG D p l e (xRm 5 137 0 0) s m args below meth c 5 A Q 0 0 [(qC, .inr (0, [.ref qC_placed, .ref qC_wrong, .ref qC_lost, .int (jI d2_)])), aI kI qC_placed 401 p2_, aI kI qC_wrong 401 w2_, aI kI qC_lost 401 l2_, (qM, .inr (3, [.ref qM_stones, .ref qM_laid, .ref qM_deeps, .ref qM_rates, .ref qP, .ref qT, .ref qM_dangers, .ref qM_losses, .int (jI vM_size), .int (jI vM_limit)])), aI kI qM_stones 30 fM_stones, aI kI qM_laid 30 fM_laid, aI kI qM_deeps 30 fM_deeps, aI kI qM_rates 64 fM_rates, (qP, .inr (7, [.ref qP_blocks, .ref qP_years, .ref qP_values, .ref qP_since, .int (jI vP_size)])), aI kI qP_blocks 60 fP_blocks, aI kI qP_years 60 fP_years, aI kI qP_values 60 fP_values, aI kI qP_since 401 s2_, (qT, .inr (7, [.ref qT_blocks, .ref qT_years, .ref qT_values, .ref qT_since, .int (jI vT_size)])), aI kI qT_blocks 60 fT_blocks, aI kI qT_years 60 fT_years, aI kI qT_values 60 fT_values, aI kI qT_since 401 r2_, aI kI qM_dangers 30 dv, aI kI qM_losses 30 lv9] [(0, .ref qM), (1, .ref qC), (2, .int (jI year)), (3, .int (jI i)), (4, .int (jI bc))] 98 [] := by
                  intro hno
                  refine x_iinc (lv' := [(0, .ref qM), (1, .ref qC), (2, .int (jI year)), (3, .int (jI i)), (4, .int (jI (bc + 1)))]) (k := 4) F dX3_findWorst_98 rfl (by decide) [1, 2, 3, 4, 0] rfl ?_
                  refine x_goto (tgt := 58) F dX3_findWorst_101 (by decide) ?_
                  exact ih58 (bc + 1) (by omega) (by rw [dG_s hbc.1, if_neg (by unfold wsf; rw [if_neg hno]; omega)]; exact hw) (by omega)
                refine x_aload_n F dX3_findWorst_74 rfl 0 rfl ?_
                refine x_get (ci := 3) F hin3 4 rfl rfl 6 (by decide) hw1 rfl dX3_findWorst_75 ?_
                refine x_iload F dX3_findWorst_78 4 rfl ?_
                refine x_iald F 19 rfl (by decide) (by omega) dX3_findWorst_80 ?_
                have hr80 := Rg.at hda bc (by omega)
                refine x_iconst F dX3_findWorst_81 ?_
                refine x_icmp_eq (tgt := 98) F dX3_findWorst_82 (by decide) (by omega) (fun c82 => ?_) (fun c82 => ?_)
                · -- 82 t
                  exact jn98  (by omega)
                · -- 82 f
                  refine x_aload_n F dX3_findWorst_85 rfl 0 rfl ?_
                  refine x_iload F dX3_findWorst_86 4 rfl ?_
                  refine x_callVi (ci := 3) (q0 := 4) (As := [.int (jI bc)]) (st := []) F (c_X3_countWorseThan D kI kJ l qM bc qM_stones qM_laid qM_deeps qM_rates qP qT qM_dangers qM_losses vM_size vM_limit dv lv9 (by omega) hMs hda hlo) (cwV 1 F.2.2.2.2.1 gX3_findWorst_X3_countWorseThan rfl rfl rfl (by decide +kernel) ⟨Nat.le_of_ble_eq_true rfl, Nat.le_of_ble_eq_true rfl⟩) rfl rfl [4, 19, 20] [0, 1, 2, 3, 5, 6, 7, 8, 9, 10, 11, 12, 13, 14, 15, 16, 17, 18] [0, 1, 2, 3, 18, 4, 5, 6, 7, 8, 9, 10, 11, 12, 13, 14, 15, 16, 17, 19, 20] rfl rfl (by decide) (by decide) (by decide) (fun _ => rfl) (by decide) rfl (Nat.le_of_ble_eq_true rfl) dX3_findWorst_88 ⟨Nat.le_of_ble_eq_true rfl, Nat.le_of_ble_eq_true rfl⟩ (fun z88 u88 h88 => ?_)
                  try dsimp only at h88
                  refine x_ws [(qC, .inr (0, [.ref qC_placed, .ref qC_wrong, .ref qC_lost, .int (jI d2_)])), aI kI qC_placed 401 p2_, aI kI qC_wrong 401 w2_, aI kI qC_lost 401 l2_, (qM, .inr (3, [.ref qM_stones, .ref qM_laid, .ref qM_deeps, .ref qM_rates, .ref qP, .ref qT, .ref qM_dangers, .ref qM_losses, .int (jI vM_size), .int (jI vM_limit)])), aI kI qM_stones 30 fM_stones, aI kI qM_laid 30 fM_laid, aI kI qM_deeps 30 fM_deeps, aI kI qM_rates 64 fM_rates, (qP, .inr (7, [.ref qP_blocks, .ref qP_years, .ref qP_values, .ref qP_since, .int (jI vP_size)])), aI kI qP_blocks 60 fP_blocks, aI kI qP_years 60 fP_years, aI kI qP_values 60 fP_values, aI kI qP_since 401 s2_, (qT, .inr (7, [.ref qT_blocks, .ref qT_years, .ref qT_values, .ref qT_since, .int (jI vT_size)])), aI kI qT_blocks 60 fT_blocks, aI kI qT_years 60 fT_years, aI kI qT_values 60 fT_values, aI kI qT_since 401 r2_, aI kI qM_dangers 30 dv, aI kI qM_losses 30 lv9] rfl ?_
                  have he88 := h88
                  have he88 := he88.symm
                  subst he88
                  have hx2 : dgf bc = dv bc := (hdg bc hbc.1 (by omega)).symm
                  have hx3 := cW_congr (n := vM_size) (b := bc) hbc.1 (by omega) hdg hls
                  have hx4 := cW_rng dv lv9 (n := vM_size) bc (by omega)
                  refine x_iload_n F dX3_findWorst_91 rfl 3 rfl ?_
                  refine x_icmp_ne (tgt := 98) F dX3_findWorst_92 (by decide) (by omega) (fun c92 => ?_) (fun c92 => ?_)
                  · -- 92 t
                    exact jn98  (by omega)
                  · -- 92 f
                    refine x_iload F dX3_findWorst_95 4 rfl ?_
                    exact hret 0 0 97 _ bc (p2_, w2_, l2_, d2_, s2_, r2_, dv, lv9) (Nat.le_of_ble_eq_true rfl) (Nat.le_of_ble_eq_true rfl) dX3_findWorst_97 (by (try dsimp only); exact (⟨(dG_first (ls := wsf dgf lsf vM_size i) (thr := 100) (i := bc) (n := vM_size) (by omega) hw (by unfold wsf; rw [if_pos ⟨by omega, by omega⟩]; omega)).symm, hda, hlo⟩))
        exact lp58 (Int.toNat (vM_size - 0) + 1) 0 (by omega) (by rw [dG_0]; omega) (by omega)
      · -- 9 f
        refine x_iload F dX3_findWorst_12 4 rfl ?_
        refine x_bipush F dX3_findWorst_14 (by decide) ?_
        refine x_icmp_ge (tgt := 55) F dX3_findWorst_16 (by decide) (by omega) (fun c16 => ?_) (fun c16 => ?_)
        · exact absurd c16 (by omega)
        · -- 16 f
          refine x_aload_n F dX3_findWorst_19 rfl 1 rfl ?_
          refine x_aload_n F dX3_findWorst_20 rfl 0 rfl ?_
          refine x_iload F dX3_findWorst_21 4 rfl ?_
          refine x_callVv (ci := 0) (q0 := 0) (As := [.ref qM, .int (jI bb)]) (st := []) F (c_X0_follow D kI kJ l qC qM bb qC_placed qC_wrong qC_lost d2_ p2_ w2_ l2_ qM_stones qM_laid qM_deeps qM_rates qP qT qM_dangers qM_losses vM_size vM_limit fM_stones fM_laid fM_deeps fM_rates qP_blocks qP_years qP_values qP_since vP_size fP_blocks fP_years fP_values s2_ qT_blocks qT_years qT_values qT_since vT_size fT_blocks fT_years fT_values r2_ (by omega) hMr hMst hMla hMd hMl hPs hPb hPy hPv hTs hTb hTy hTv) (cwV 2 F.2.2.2.2.1 gX3_findWorst_X0_follow rfl rfl rfl (by decide +kernel) ⟨Nat.le_of_ble_eq_true rfl, Nat.le_of_ble_eq_true rfl⟩) rfl rfl [0, 1, 2, 3, 4, 5, 6, 7, 8, 9, 10, 11, 12, 13, 14, 15, 16, 17, 18] [19, 20] [2, 3, 4, 5, 6, 7, 8, 9, 10, 11, 12, 13, 14, 15, 16, 17, 18, 19, 20, 0, 1] rfl rfl (by decide) (by decide) (by decide) (fun _ => rfl) (by decide) rfl (Nat.le_of_ble_eq_true rfl) dX3_findWorst_23 ⟨Nat.le_of_ble_eq_true rfl, Nat.le_of_ble_eq_true rfl⟩ (fun u23 h23 => ?_)
          obtain ⟨p2_23, w2_23, l2_23, d2_23, s2_23, r2_23⟩ := u23
          try dsimp only at h23
          refine x_ws [(qC, .inr (0, [.ref qC_placed, .ref qC_wrong, .ref qC_lost, .int (jI d2_23)])), aI kI qC_placed 401 p2_23, aI kI qC_wrong 401 w2_23, aI kI qC_lost 401 l2_23, (qM, .inr (3, [.ref qM_stones, .ref qM_laid, .ref qM_deeps, .ref qM_rates, .ref qP, .ref qT, .ref qM_dangers, .ref qM_losses, .int (jI vM_size), .int (jI vM_limit)])), aI kI qM_stones 30 fM_stones, aI kI qM_laid 30 fM_laid, aI kI qM_deeps 30 fM_deeps, aI kI qM_rates 64 fM_rates, (qP, .inr (7, [.ref qP_blocks, .ref qP_years, .ref qP_values, .ref qP_since, .int (jI vP_size)])), aI kI qP_blocks 60 fP_blocks, aI kI qP_years 60 fP_years, aI kI qP_values 60 fP_values, aI kI qP_since 401 s2_23, (qT, .inr (7, [.ref qT_blocks, .ref qT_years, .ref qT_values, .ref qT_since, .int (jI vT_size)])), aI kI qT_blocks 60 fT_blocks, aI kI qT_years 60 fT_years, aI kI qT_values 60 fT_values, aI kI qT_since 401 r2_23, aI kI qM_dangers 30 dv, aI kI qM_losses 30 lv9] rfl ?_
          obtain ⟨hp_23, hw_23, hl_23, hd_23⟩ := h23
          have hlr9 := lS_rng (loss := (kLoss fM_rates (fM_stones bb) fP_blocks fP_years fP_values vP_size fT_blocks fT_years fT_values vT_size bb)) (laid := fM_laid bb) (kLoss_rng (b := bb) hMr (Rg.at hMst bb (by omega)) hPs hTs hPv hTv 401) (show 0 ≤ year by omega) (show year ≤ 401 by omega)
          have hl9 := hl_23 year (by omega) (by omega)
          have hd9 := (dG_rng (ls := (lS (kLoss fM_rates (fM_stones bb) fP_blocks fP_years fP_values vP_size fT_blocks fT_years fT_values vT_size bb) (fM_laid bb))) (thr := (fM_deeps bb * vM_limit)) (i := 401) (by omega))
          have hdd : ∀ k : Int, 0 ≤ k → k < bb + 1 → (iU dv bb d2_23) k = dgf k := fun k h1 h2 => by
            by_cases e : k = bb
            · rw [e, iU_s, hd_23, hdgf]
            · rw [iU_n e]; exact hdg k h1 (by omega)
          have hll : ∀ k : Int, 0 ≤ k → k < bb + 1 → (iU lv9 bb (l2_23 year)) k = lsf k := fun k h1 h2 => by
            by_cases e : k = bb
            · rw [e, iU_s, hl9, hlsf]
            · rw [iU_n e]; exact hls k h1 (by omega)
          refine x_aload_n F dX3_findWorst_26 rfl 0 rfl ?_
          refine x_get (ci := 3) F hin3 4 rfl rfl 6 (by decide) hw1 rfl dX3_findWorst_27 ?_
          refine x_iload F dX3_findWorst_30 4 rfl ?_
          refine x_aload_n F dX3_findWorst_32 rfl 1 rfl ?_
          refine x_getN (ci := 0) F hin0 0 rfl rfl 3 (by decide) (nF7 F.2.2.2.2.2.2.2) rfl dX3_findWorst_33 ?_
          refine x_iast F 19 rfl (by decide) (by omega) dX3_findWorst_36 [(qC, .inr (0, [.ref qC_placed, .ref qC_wrong, .ref qC_lost, .int (jI d2_23)])), aI kI qC_placed 401 p2_23, aI kI qC_wrong 401 w2_23, aI kI qC_lost 401 l2_23, (qM, .inr (3, [.ref qM_stones, .ref qM_laid, .ref qM_deeps, .ref qM_rates, .ref qP, .ref qT, .ref qM_dangers, .ref qM_losses, .int (jI vM_size), .int (jI vM_limit)])), aI kI qM_stones 30 fM_stones, aI kI qM_laid 30 fM_laid, aI kI qM_deeps 30 fM_deeps, aI kI qM_rates 64 fM_rates, (qP, .inr (7, [.ref qP_blocks, .ref qP_years, .ref qP_values, .ref qP_since, .int (jI vP_size)])), aI kI qP_blocks 60 fP_blocks, aI kI qP_years 60 fP_years, aI kI qP_values 60 fP_values, aI kI qP_since 401 s2_23, (qT, .inr (7, [.ref qT_blocks, .ref qT_years, .ref qT_values, .ref qT_since, .int (jI vT_size)])), aI kI qT_blocks 60 fT_blocks, aI kI qT_years 60 fT_years, aI kI qT_values 60 fT_values, aI kI qT_since 401 r2_23, aI kI qM_dangers 30 (iU dv bb d2_23), aI kI qM_losses 30 lv9] rfl ?_
          have hg36 := Rg.up hda bb d2_23 (by omega)
          refine x_aload_n F dX3_findWorst_37 rfl 0 rfl ?_
          refine x_get (ci := 3) F hin3 4 rfl rfl 7 (by decide) hw2 rfl dX3_findWorst_38 ?_
          refine x_iload F dX3_findWorst_41 4 rfl ?_
          refine x_aload_n F dX3_findWorst_43 rfl 1 rfl ?_
          refine x_iload_n F dX3_findWorst_44 rfl 2 rfl ?_
          refine x_callVi (ci := 0) (q0 := 0) (As := [.int (jI year)]) (st := [.int (jI bb), .ref qM_losses]) F (c_X0_lostAt D kI kJ l qC year qC_placed qC_wrong qC_lost d2_23 l2_23 (by omega)) (cwV 1 F.2.2.2.2.1 gX3_findWorst_X0_lostAt rfl rfl rfl (by decide +kernel) ⟨Nat.le_of_ble_eq_true rfl, Nat.le_of_ble_eq_true rfl⟩) rfl rfl [0, 3] [1, 2, 4, 5, 6, 7, 8, 9, 10, 11, 12, 13, 14, 15, 16, 17, 18, 19, 20] [19, 0, 1, 20, 2, 3, 4, 5, 6, 7, 8, 9, 10, 11, 12, 13, 14, 15, 16, 17, 18] rfl rfl (by decide) (by decide) (by decide) (fun _ => rfl) (by decide) rfl (Nat.le_of_ble_eq_true rfl) dX3_findWorst_45 ⟨Nat.le_of_ble_eq_true rfl, Nat.le_of_ble_eq_true rfl⟩ (fun z45 u45 h45 => ?_)
          try dsimp only at h45
          refine x_ws [(qC, .inr (0, [.ref qC_placed, .ref qC_wrong, .ref qC_lost, .int (jI d2_23)])), aI kI qC_placed 401 p2_23, aI kI qC_wrong 401 w2_23, aI kI qC_lost 401 l2_23, (qM, .inr (3, [.ref qM_stones, .ref qM_laid, .ref qM_deeps, .ref qM_rates, .ref qP, .ref qT, .ref qM_dangers, .ref qM_losses, .int (jI vM_size), .int (jI vM_limit)])), aI kI qM_stones 30 fM_stones, aI kI qM_laid 30 fM_laid, aI kI qM_deeps 30 fM_deeps, aI kI qM_rates 64 fM_rates, (qP, .inr (7, [.ref qP_blocks, .ref qP_years, .ref qP_values, .ref qP_since, .int (jI vP_size)])), aI kI qP_blocks 60 fP_blocks, aI kI qP_years 60 fP_years, aI kI qP_values 60 fP_values, aI kI qP_since 401 s2_23, (qT, .inr (7, [.ref qT_blocks, .ref qT_years, .ref qT_values, .ref qT_since, .int (jI vT_size)])), aI kI qT_blocks 60 fT_blocks, aI kI qT_years 60 fT_years, aI kI qT_values 60 fT_values, aI kI qT_since 401 r2_23, aI kI qM_dangers 30 (iU dv bb d2_23), aI kI qM_losses 30 lv9] rfl ?_
          have he45 := h45
          have he45 := he45.symm
          subst he45
          refine x_iast F 20 rfl (by decide) (by omega) dX3_findWorst_48 [(qC, .inr (0, [.ref qC_placed, .ref qC_wrong, .ref qC_lost, .int (jI d2_23)])), aI kI qC_placed 401 p2_23, aI kI qC_wrong 401 w2_23, aI kI qC_lost 401 l2_23, (qM, .inr (3, [.ref qM_stones, .ref qM_laid, .ref qM_deeps, .ref qM_rates, .ref qP, .ref qT, .ref qM_dangers, .ref qM_losses, .int (jI vM_size), .int (jI vM_limit)])), aI kI qM_stones 30 fM_stones, aI kI qM_laid 30 fM_laid, aI kI qM_deeps 30 fM_deeps, aI kI qM_rates 64 fM_rates, (qP, .inr (7, [.ref qP_blocks, .ref qP_years, .ref qP_values, .ref qP_since, .int (jI vP_size)])), aI kI qP_blocks 60 fP_blocks, aI kI qP_years 60 fP_years, aI kI qP_values 60 fP_values, aI kI qP_since 401 s2_23, (qT, .inr (7, [.ref qT_blocks, .ref qT_years, .ref qT_values, .ref qT_since, .int (jI vT_size)])), aI kI qT_blocks 60 fT_blocks, aI kI qT_years 60 fT_years, aI kI qT_values 60 fT_values, aI kI qT_since 401 r2_23, aI kI qM_dangers 30 (iU dv bb d2_23), aI kI qM_losses 30 (iU lv9 bb (l2_23 year))] rfl ?_
          have hg48 := Rg.up hlo bb (l2_23 year) (by omega)
          refine x_iinc (lv' := [(0, .ref qM), (1, .ref qC), (2, .int (jI year)), (3, .int (jI i)), (4, .int (jI (bb + 1)))]) (k := 4) F dX3_findWorst_49 rfl (by decide) [1, 2, 3, 4, 0] rfl ?_
          refine x_goto (tgt := 3) F dX3_findWorst_52 (by decide) ?_
          exact ih3 (bb + 1) (iU dv bb d2_23) (iU lv9 bb (l2_23 year)) p2_23 w2_23 l2_23 d2_23 s2_23 r2_23 (by omega) hg36 hg48 hdd hll (by omega)
  exact lp3 (Int.toNat (vM_size - 0) + 1) 0 fM_dangers fM_losses fC_placed fC_wrong fC_lost vC_danger fP_since fT_since (by omega) hMda hMlo (fun k h1 h2 => by omega) (fun k h1 h2 => by omega) (by omega)
set_option maxHeartbeats 4000000 in
set_option maxRecDepth 100000 in
theorem c_X9_worst (D : va_G) (kI kJ : Nat) (l : Launch) (qK : Nat) (year : Int) (i : Int) (qM : Nat) (qC : Nat) (qL : Nat) (qFr : Nat) (qE : Nat) (qK_facts : Nat) (qN : Nat) (qS : Nat) (qC_placed : Nat) (qC_wrong : Nat) (qC_lost : Nat) (vC_danger : Int) (fC_placed : (Int → Int)) (fC_wrong : (Int → Int)) (fC_lost : (Int → Int)) (qM_stones : Nat) (qM_laid : Nat) (qM_deeps : Nat) (qM_rates : Nat) (qP : Nat) (qT : Nat) (qM_dangers : Nat) (qM_losses : Nat) (vM_size : Int) (vM_limit : Int) (fM_stones : (Int → Int)) (fM_laid : (Int → Int)) (fM_deeps : (Int → Int)) (fM_rates : (Int → Int)) (qP_blocks : Nat) (qP_years : Nat) (qP_values : Nat) (qP_since : Nat) (vP_size : Int) (fP_blocks : (Int → Int)) (fP_years : (Int → Int)) (fP_values : (Int → Int)) (fP_since : (Int → Int)) (qT_blocks : Nat) (qT_years : Nat) (qT_values : Nat) (qT_since : Nat) (vT_size : Int) (fT_blocks : (Int → Int)) (fT_years : (Int → Int)) (fT_values : (Int → Int)) (fT_since : (Int → Int)) (fM_dangers : (Int → Int)) (fM_losses : (Int → Int)) (hr_year : -2147483648 ≤ year ∧ year < 2147483648) (hr_i : -2147483648 ≤ i ∧ i < 2147483648) (hMs : 0 ≤ vM_size ∧ vM_size ≤ 30) (hMr : Rg fM_rates 64 0 50) (hMst : Rg fM_stones 30 0 3) (hMla : Rg fM_laid 30 0 400) (hMd : Rg fM_deeps 30 0 2000) (hMl : 1 ≤ vM_limit ∧ vM_limit ≤ 100) (hPs : 0 ≤ vP_size ∧ vP_size ≤ 60) (hPb : Rg fP_blocks 60 0 29) (hPy : Rg fP_years 60 0 400) (hPv : Rg fP_values 60 0 127) (hTs : 0 ≤ vT_size ∧ vT_size ≤ 60) (hTb : Rg fT_blocks 60 0 29) (hTy : Rg fT_years 60 0 400) (hTv : Rg fT_values 60 0 1) (hMda : Rg fM_dangers 30 (-1) 400) (hMlo : Rg fM_losses 30 0 40100) : xMi D kI kJ l yX9_worst wsX9_worst 6 161 0 0 [.ref qK, .int (jI year), .int (jI i)] [(qK, .inr (9, [.ref qM, .ref qC, .ref qL, .ref qFr, .ref qE, .ref qK_facts, .ref qN, .ref qS])), (qC, .inr (0, [.ref qC_placed, .ref qC_wrong, .ref qC_lost, .int (jI vC_danger)])), aI kI qC_placed 401 fC_placed, aI kI qC_wrong 401 fC_wrong, aI kI qC_lost 401 fC_lost, (qM, .inr (3, [.ref qM_stones, .ref qM_laid, .ref qM_deeps, .ref qM_rates, .ref qP, .ref qT, .ref qM_dangers, .ref qM_losses, .int (jI vM_size), .int (jI vM_limit)])), aI kI qM_stones 30 fM_stones, aI kI qM_laid 30 fM_laid, aI kI qM_deeps 30 fM_deeps, aI kI qM_rates 64 fM_rates, (qP, .inr (7, [.ref qP_blocks, .ref qP_years, .ref qP_values, .ref qP_since, .int (jI vP_size)])), aI kI qP_blocks 60 fP_blocks, aI kI qP_years 60 fP_years, aI kI qP_values 60 fP_values, aI kI qP_since 401 fP_since, (qT, .inr (7, [.ref qT_blocks, .ref qT_years, .ref qT_values, .ref qT_since, .int (jI vT_size)])), aI kI qT_blocks 60 fT_blocks, aI kI qT_years 60 fT_years, aI kI qT_values 60 fT_values, aI kI qT_since 401 fT_since, aI kI qM_dangers 30 fM_dangers, aI kI qM_losses 30 fM_losses] (fun (z : Int) (u : (Int → Int) × (Int → Int) × (Int → Int) × Int × (Int → Int) × (Int → Int) × (Int → Int) × (Int → Int)) => z = (if ¬ (0 ≤ year ∧ year ≤ 400) then -1002 else wst (fun b => dG (lS (kLoss fM_rates (fM_stones b) fP_blocks fP_years fP_values vP_size fT_blocks fT_years fT_values vT_size b) (fM_laid b)) (fM_deeps b * vM_limit) 401) (fun b => (lS (kLoss fM_rates (fM_stones b) fP_blocks fP_years fP_values vP_size fT_blocks fT_years fT_values vT_size b) (fM_laid b)) year) vM_size i) ∧ (Rg u.2.2.2.2.2.2.1 30 (-1) 400) ∧ (Rg u.2.2.2.2.2.2.2 30 0 40100)) (fun (u : (Int → Int) × (Int → Int) × (Int → Int) × Int × (Int → Int) × (Int → Int) × (Int → Int) × (Int → Int)) => [(qK, .inr (9, [.ref qM, .ref qC, .ref qL, .ref qFr, .ref qE, .ref qK_facts, .ref qN, .ref qS])), (qC, .inr (0, [.ref qC_placed, .ref qC_wrong, .ref qC_lost, .int (jI u.2.2.2.1)])), aI kI qC_placed 401 u.1, aI kI qC_wrong 401 u.2.1, aI kI qC_lost 401 u.2.2.1, (qM, .inr (3, [.ref qM_stones, .ref qM_laid, .ref qM_deeps, .ref qM_rates, .ref qP, .ref qT, .ref qM_dangers, .ref qM_losses, .int (jI vM_size), .int (jI vM_limit)])), aI kI qM_stones 30 fM_stones, aI kI qM_laid 30 fM_laid, aI kI qM_deeps 30 fM_deeps, aI kI qM_rates 64 fM_rates, (qP, .inr (7, [.ref qP_blocks, .ref qP_years, .ref qP_values, .ref qP_since, .int (jI vP_size)])), aI kI qP_blocks 60 fP_blocks, aI kI qP_years 60 fP_years, aI kI qP_values 60 fP_values, aI kI qP_since 401 u.2.2.2.2.1, (qT, .inr (7, [.ref qT_blocks, .ref qT_years, .ref qT_values, .ref qT_since, .int (jI vT_size)])), aI kI qT_blocks 60 fT_blocks, aI kI qT_years 60 fT_years, aI kI qT_values 60 fT_values, aI kI qT_since 401 u.2.2.2.2.2.1, aI kI qM_dangers 30 u.2.2.2.2.2.2.1, aI kI qM_losses 30 u.2.2.2.2.2.2.2]) := by
  refine xMi_of (cc := cX9_worst) (maxL := 3) (rt := .int) (by decide) rfl (Nat.le_of_ble_eq_true rfl) (fun _ _ _ => rfl) ?_
  intro p e s m args below meth c A Q F hin2 hret
  have hin9 : ∀ w ∈ wsX90, w ∈ wsX9_worst := by decide +kernel
  have hw0 : Cond.fieldLink RX9 12 (TX9 0).1 (TX9 0).2.1 (TX9 0).2.2.1 ∈ wsX9_worst := by decide +kernel
  have hw1 : Cond.fieldLink RX9 19 (TX9 1).1 (TX9 1).2.1 (TX9 1).2.2.1 ∈ wsX9_worst := by decide +kernel
  refine x_lveq (lv' := [(0, .ref qK), (1, .int (jI year)), (2, .int (jI i))]) rfl ?_
  refine x_iload_n F dX9_worst_0 rfl 1 rfl ?_
  refine x_sipush F dX9_worst_1 (by decide) ?_
  refine x_callSi (As := [.int (jI year), .int (jI 401)]) (st := []) F (c_X9_isBelow D kI kJ l year 401 (by omega) (by omega)) (va_cwS 2 F.2.2.2.2.1 gX9_worst_X9_isBelow rfl rfl rfl (by decide +kernel) ⟨Nat.le_of_ble_eq_true rfl, Nat.le_of_ble_eq_true rfl⟩) [] [0, 1, 2, 3, 4, 5, 6, 7, 8, 9, 10, 11, 12, 13, 14, 15, 16, 17, 18, 19, 20, 21] [0, 1, 2, 3, 4, 5, 6, 7, 8, 9, 10, 11, 12, 13, 14, 15, 16, 17, 18, 19, 20, 21] rfl rfl (by decide) (by decide) (by decide) (fun _ => rfl) (by decide) rfl (Nat.le_of_ble_eq_true rfl) dX9_worst_4 ⟨Nat.le_of_ble_eq_true rfl, Nat.le_of_ble_eq_true rfl⟩ (fun z4 u4 h4 => ?_)
  try dsimp only at h4
  refine x_ws [(qK, .inr (9, [.ref qM, .ref qC, .ref qL, .ref qFr, .ref qE, .ref qK_facts, .ref qN, .ref qS])), (qC, .inr (0, [.ref qC_placed, .ref qC_wrong, .ref qC_lost, .int (jI vC_danger)])), aI kI qC_placed 401 fC_placed, aI kI qC_wrong 401 fC_wrong, aI kI qC_lost 401 fC_lost, (qM, .inr (3, [.ref qM_stones, .ref qM_laid, .ref qM_deeps, .ref qM_rates, .ref qP, .ref qT, .ref qM_dangers, .ref qM_losses, .int (jI vM_size), .int (jI vM_limit)])), aI kI qM_stones 30 fM_stones, aI kI qM_laid 30 fM_laid, aI kI qM_deeps 30 fM_deeps, aI kI qM_rates 64 fM_rates, (qP, .inr (7, [.ref qP_blocks, .ref qP_years, .ref qP_values, .ref qP_since, .int (jI vP_size)])), aI kI qP_blocks 60 fP_blocks, aI kI qP_years 60 fP_years, aI kI qP_values 60 fP_values, aI kI qP_since 401 fP_since, (qT, .inr (7, [.ref qT_blocks, .ref qT_years, .ref qT_values, .ref qT_since, .int (jI vT_size)])), aI kI qT_blocks 60 fT_blocks, aI kI qT_years 60 fT_years, aI kI qT_values 60 fT_values, aI kI qT_since 401 fT_since, aI kI qM_dangers 30 fM_dangers, aI kI qM_losses 30 fM_losses] rfl ?_
  have hb4 := h4
  refine x_bne (tgt := 14) F dX9_worst_7 (by decide) hb4 (fun c7 => ?_) (fun c7 => ?_)
  · -- 7 t
    refine x_aload_n F dX9_worst_14 rfl 0 rfl ?_
    refine x_get (ci := 9) F hin9 0 rfl rfl 0 (by decide) hw0 rfl dX9_worst_15 ?_
    refine x_aload_n F dX9_worst_18 rfl 0 rfl ?_
    refine x_get (ci := 9) F hin9 0 rfl rfl 1 (by decide) hw1 rfl dX9_worst_19 ?_
    refine x_iload_n F dX9_worst_22 rfl 1 rfl ?_
    refine x_iload_n F dX9_worst_23 rfl 2 rfl ?_
    refine x_callVi (ci := 3) (q0 := 5) (As := [.ref qC, .int (jI year), .int (jI i)]) (st := []) F (c_X3_findWorst D kI kJ l qM qC year i qC_placed qC_wrong qC_lost vC_danger fC_placed fC_wrong fC_lost qM_stones qM_laid qM_deeps qM_rates qP qT qM_dangers qM_losses vM_size vM_limit fM_stones fM_laid fM_deeps fM_rates qP_blocks qP_years qP_values qP_since vP_size fP_blocks fP_years fP_values fP_since qT_blocks qT_years qT_values qT_since vT_size fT_blocks fT_years fT_values fT_since fM_dangers fM_losses hr_i hMs (by omega) hMr hMst hMla hMd hMl hPs hPb hPy hPv hTs hTb hTy hTv hMda hMlo) (cwV 3 F.2.2.2.2.1 gX9_worst_X3_findWorst rfl rfl rfl (by decide +kernel) ⟨Nat.le_of_ble_eq_true rfl, Nat.le_of_ble_eq_true rfl⟩) rfl rfl [1, 2, 3, 4, 5, 6, 7, 8, 9, 10, 11, 12, 13, 14, 15, 16, 17, 18, 19, 20, 21] [0] [0, 1, 2, 3, 4, 5, 6, 7, 8, 9, 10, 11, 12, 13, 14, 15, 16, 17, 18, 19, 20, 21] rfl rfl (by decide) (by decide) (by decide) (fun _ => rfl) (by decide) rfl (Nat.le_of_ble_eq_true rfl) dX9_worst_24 ⟨Nat.le_of_ble_eq_true rfl, Nat.le_of_ble_eq_true rfl⟩ (fun z24 u24 h24 => ?_)
    obtain ⟨p2_24, w2_24, l2_24, d2_24, s2_24, r2_24, da2_24, lo2_24⟩ := u24
    try dsimp only at h24
    refine x_ws [(qK, .inr (9, [.ref qM, .ref qC, .ref qL, .ref qFr, .ref qE, .ref qK_facts, .ref qN, .ref qS])), (qC, .inr (0, [.ref qC_placed, .ref qC_wrong, .ref qC_lost, .int (jI d2_24)])), aI kI qC_placed 401 p2_24, aI kI qC_wrong 401 w2_24, aI kI qC_lost 401 l2_24, (qM, .inr (3, [.ref qM_stones, .ref qM_laid, .ref qM_deeps, .ref qM_rates, .ref qP, .ref qT, .ref qM_dangers, .ref qM_losses, .int (jI vM_size), .int (jI vM_limit)])), aI kI qM_stones 30 fM_stones, aI kI qM_laid 30 fM_laid, aI kI qM_deeps 30 fM_deeps, aI kI qM_rates 64 fM_rates, (qP, .inr (7, [.ref qP_blocks, .ref qP_years, .ref qP_values, .ref qP_since, .int (jI vP_size)])), aI kI qP_blocks 60 fP_blocks, aI kI qP_years 60 fP_years, aI kI qP_values 60 fP_values, aI kI qP_since 401 s2_24, (qT, .inr (7, [.ref qT_blocks, .ref qT_years, .ref qT_values, .ref qT_since, .int (jI vT_size)])), aI kI qT_blocks 60 fT_blocks, aI kI qT_years 60 fT_years, aI kI qT_values 60 fT_values, aI kI qT_since 401 r2_24, aI kI qM_dangers 30 da2_24, aI kI qM_losses 30 lo2_24] rfl ?_
    obtain ⟨he24, hda_24, hlo_24⟩ := h24
    have he24 := he24.symm
    subst he24
    exact hret 0 0 27 _ (wst (fun b => dG (lS (kLoss fM_rates (fM_stones b) fP_blocks fP_years fP_values vP_size fT_blocks fT_years fT_values vT_size b) (fM_laid b)) (fM_deeps b * vM_limit) 401) (fun b => (lS (kLoss fM_rates (fM_stones b) fP_blocks fP_years fP_values vP_size fT_blocks fT_years fT_values vT_size b) (fM_laid b)) year) vM_size i) (p2_24, w2_24, l2_24, d2_24, s2_24, r2_24, da2_24, lo2_24) (Nat.le_of_ble_eq_true rfl) (Nat.le_of_ble_eq_true rfl) dX9_worst_27 (by (try dsimp only); exact (⟨(if_neg (by omega)).symm, hda_24, hlo_24⟩))
  · -- 7 f
    refine x_sipush F dX9_worst_10 (by decide) ?_
    exact hret 0 0 13 _ (-1002) (fC_placed, fC_wrong, fC_lost, vC_danger, fP_since, fT_since, fM_dangers, fM_losses) (Nat.le_of_ble_eq_true rfl) (Nat.le_of_ble_eq_true rfl) dX9_worst_13 (by (try dsimp only); exact (⟨(if_pos (by omega)).symm, hMda, hMlo⟩))
