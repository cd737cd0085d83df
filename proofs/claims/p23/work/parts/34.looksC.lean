set_option maxHeartbeats 4000000 in
set_option maxRecDepth 100000 in
theorem c_X2_countFor (D : va_G) (kI kJ : Nat) (l : Launch) (qr : Nat) (hand : Int) (more : Int) (f : (Int → Int)) (hh : 0 ≤ hand ∧ hand < 4) : xMv D kI kJ l yX2_countFor wsX2_countFor 2 53 0 0 [.ref qr, .int (jI hand), .int (jI more)] [aI kI qr 4 f] (fun (u : Unit) => True) (fun (u : Unit) => [aI kI qr 4 (iU f hand (f hand + more))]) := by
  refine xMv_of (cc := cX2_countFor) (maxL := 3) (by decide) rfl (Nat.le_of_ble_eq_true rfl) ?_
  intro p e s m args below meth c A Q F hin2 hret
  have hw0 : Cond.initialized yX9_isBelow.cls ∈ wsX2_countFor := by decide +kernel
  have hw1 : Cond.static yX9_isBelow ∈ wsX2_countFor := by decide +kernel
  refine x_lveq (lv' := [(0, .ref qr), (1, .int (jI hand)), (2, .int (jI more))]) rfl ?_
  refine x_iload_n F dX2_countFor_0 rfl 1 rfl ?_
  refine x_aload_n F dX2_countFor_1 rfl 0 rfl ?_
  refine x_alen F 0 4 rfl (by decide) dX2_countFor_2 ?_
  refine x_callSNi (As := [.int (jI hand), .int (jI 4)]) (st := []) F (c_X9_isBelow D kI kJ l hand 4 (by omega) (by omega)) ⟨va_cnB 2 F.2.2.2.2.1 gX2_countFor_X9_isBelow_n37 rfl rfl rfl (nM12 F.2.2.2.2.2.2.2) (F.2.2.2.2.1 _ hw0) (by decide +kernel) ⟨Nat.le_of_ble_eq_true rfl, Nat.le_of_ble_eq_true rfl⟩, F.2.2.2.2.1 _ hw1, trivial⟩ [] [0] [0] rfl rfl (by decide) (by decide) (by decide) (fun _ => rfl) (by decide) rfl (Nat.le_of_ble_eq_true rfl) dX2_countFor_3 ⟨Nat.le_of_ble_eq_true rfl, Nat.le_of_ble_eq_true rfl⟩ (fun z3 u3 h3 => ?_)
  try dsimp only at h3
  refine x_ws [aI kI qr 4 f] rfl ?_
  have hb3 := h3
  refine x_beq (tgt := 16) F dX2_countFor_6 (by decide) hb3 (fun c6 => ?_) (fun c6 => ?_)
  · exact absurd c6 (by omega)
  · -- 6 f
    refine x_aload_n F dX2_countFor_9 rfl 0 rfl ?_
    refine x_iload_n F dX2_countFor_10 rfl 1 rfl ?_
    refine x_dup2 F dX2_countFor_11 rfl rfl ?_
    refine x_iald F 0 rfl (by decide) (by omega) dX2_countFor_12 ?_
    refine x_iload_n F dX2_countFor_13 rfl 2 rfl ?_
    refine x_iadd F dX2_countFor_14 ?_
    refine x_iast F 0 rfl (by decide) (by omega) dX2_countFor_15 [aI kI qr 4 (iU f hand ((f hand) + more))] rfl ?_
    exact hret 0 0 16 _ () (Nat.le_of_ble_eq_true rfl) (Nat.le_of_ble_eq_true rfl) dX2_countFor_16 (trivial)
set_option maxHeartbeats 4000000 in
set_option maxRecDepth 100000 in
theorem c_X2_areDouble (D : va_G) (kI kJ : Nat) (l : Launch) (qL : Nat) (i : Int) (j : Int) (qL_blocks : Nat) (qL_hands : Nat) (qL_years : Nat) (qL_grades : Nat) (qL_sums : Nat) (qL_pairs : Nat) (qL_seen : Nat) (vL_size : Int) (vL_doubles : Int) (vL_learned : Int) (fL_blocks : (Int → Int)) (fL_hands : (Int → Int)) (fL_years : (Int → Int)) (hij : (0 ≤ i ∧ i < 80) ∧ 0 ≤ j ∧ j < 80) (hLb : Rg fL_blocks 80 0 29) (hLh : Rg fL_hands 80 0 3) (hLy : Rg fL_years 80 0 400) : xMi D kI kJ l yX2_areDouble wsX2_areDouble 2 53 0 0 [.ref qL, .int (jI i), .int (jI j)] [(qL, .inr (2, [.ref qL_blocks, .ref qL_hands, .ref qL_years, .ref qL_grades, .ref qL_sums, .ref qL_pairs, .ref qL_seen, .int (jI vL_size), .int (jI vL_doubles), .int (jI vL_learned)])), aI kI qL_blocks 80 fL_blocks, aI kI qL_hands 80 fL_hands, aI kI qL_years 80 fL_years] (fun (z : Int) (u : Unit) => xBool z (fL_blocks i = fL_blocks j ∧ fL_years i = fL_years j ∧ ¬ fL_hands i = fL_hands j)) (fun (u : Unit) => [(qL, .inr (2, [.ref qL_blocks, .ref qL_hands, .ref qL_years, .ref qL_grades, .ref qL_sums, .ref qL_pairs, .ref qL_seen, .int (jI vL_size), .int (jI vL_doubles), .int (jI vL_learned)])), aI kI qL_blocks 80 fL_blocks, aI kI qL_hands 80 fL_hands, aI kI qL_years 80 fL_years]) := by
  refine xMi_of (cc := cX2_areDouble) (maxL := 3) (rt := .boolean) (by decide) rfl (Nat.le_of_ble_eq_true rfl) (fun z u hp => xBool_nar hp) ?_
  intro p e s m args below meth c A Q F hin2 hret
  have hin2 : ∀ w ∈ wsX20, w ∈ wsX2_areDouble := by decide +kernel
  have hw0 : Cond.fieldLink RX2 9 (TX2 0).1 (TX2 0).2.1 (TX2 0).2.2.1 ∈ wsX2_areDouble := by decide +kernel
  have hw1 : Cond.initialized yX9_at.cls ∈ wsX2_areDouble := by decide +kernel
  have hw2 : Cond.static yX9_at ∈ wsX2_areDouble := by decide +kernel
  have hw3 : Cond.fieldLink RX2 18 (TX2 2).1 (TX2 2).2.1 (TX2 2).2.2.1 ∈ wsX2_areDouble := by decide +kernel
  have hw4 : Cond.fieldLink RX2 15 (TX2 1).1 (TX2 1).2.1 (TX2 1).2.2.1 ∈ wsX2_areDouble := by decide +kernel
  refine x_lveq (lv' := [(0, .ref qL), (1, .int (jI i)), (2, .int (jI j))]) rfl ?_
  have r1 := Rg.at hLb i hij.1
  have r2 := Rg.at hLb j hij.2
  have r3 := Rg.at hLy i hij.1
  have r4 := Rg.at hLy j hij.2
  have r5 := Rg.at hLh i hij.1
  have r6 := Rg.at hLh j hij.2
  refine x_aload_n F dX2_areDouble_0 rfl 0 rfl ?_
  refine x_get (ci := 2) F hin2 0 rfl rfl 0 (by decide) hw0 rfl dX2_areDouble_1 ?_
  refine x_iload_n F dX2_areDouble_4 rfl 1 rfl ?_
  refine x_callSNi (As := [.ref qL_blocks, .int (jI i)]) (st := []) F (c_X9_at D kI kJ l qL_blocks i 80 fL_blocks (by omega) (by omega)) ⟨va_cnB 2 F.2.2.2.2.1 gX2_areDouble_X9_at_n57 rfl rfl rfl (nM11 F.2.2.2.2.2.2.2) (F.2.2.2.2.1 _ hw1) (by decide +kernel) ⟨Nat.le_of_ble_eq_true rfl, Nat.le_of_ble_eq_true rfl⟩, F.2.2.2.2.1 _ hw2, trivial⟩ [1] [0, 2, 3] [0, 3, 1, 2] rfl rfl (by decide) (by decide) (by decide) (fun _ => rfl) (by decide) rfl (Nat.le_of_ble_eq_true rfl) dX2_areDouble_5 ⟨Nat.le_of_ble_eq_true rfl, Nat.le_of_ble_eq_true rfl⟩ (fun z5 u5 h5 => ?_)
  try dsimp only at h5
  refine x_ws [(qL, .inr (2, [.ref qL_blocks, .ref qL_hands, .ref qL_years, .ref qL_grades, .ref qL_sums, .ref qL_pairs, .ref qL_seen, .int (jI vL_size), .int (jI vL_doubles), .int (jI vL_learned)])), aI kI qL_blocks 80 fL_blocks, aI kI qL_hands 80 fL_hands, aI kI qL_years 80 fL_years] rfl ?_
  have he5 := h5
  have he5 := he5.symm
  subst he5
  refine x_aload_n F dX2_areDouble_8 rfl 0 rfl ?_
  refine x_get (ci := 2) F hin2 0 rfl rfl 0 (by decide) hw0 rfl dX2_areDouble_9 ?_
  refine x_iload_n F dX2_areDouble_12 rfl 2 rfl ?_
  refine x_callSNi (As := [.ref qL_blocks, .int (jI j)]) (st := [.int (jI (fL_blocks i))]) F (c_X9_at D kI kJ l qL_blocks j 80 fL_blocks (by omega) (by omega)) ⟨va_cnB 2 F.2.2.2.2.1 gX2_areDouble_X9_at_n57 rfl rfl rfl (nM11 F.2.2.2.2.2.2.2) (F.2.2.2.2.1 _ hw1) (by decide +kernel) ⟨Nat.le_of_ble_eq_true rfl, Nat.le_of_ble_eq_true rfl⟩, F.2.2.2.2.1 _ hw2, trivial⟩ [1] [0, 2, 3] [0, 3, 1, 2] rfl rfl (by decide) (by decide) (by decide) (fun _ => rfl) (by decide) rfl (Nat.le_of_ble_eq_true rfl) dX2_areDouble_13 ⟨Nat.le_of_ble_eq_true rfl, Nat.le_of_ble_eq_true rfl⟩ (fun z13 u13 h13 => ?_)
  try dsimp only at h13
  refine x_ws [(qL, .inr (2, [.ref qL_blocks, .ref qL_hands, .ref qL_years, .ref qL_grades, .ref qL_sums, .ref qL_pairs, .ref qL_seen, .int (jI vL_size), .int (jI vL_doubles), .int (jI vL_learned)])), aI kI qL_blocks 80 fL_blocks, aI kI qL_hands 80 fL_hands, aI kI qL_years 80 fL_years] rfl ?_
  have he13 := h13
  have he13 := he13.symm
  subst he13
  refine x_icmp_ne (tgt := 61) F dX2_areDouble_16 (by decide) (by omega) (fun c16 => ?_) (fun c16 => ?_)
  · -- 16 t
    refine x_iconst F dX2_areDouble_61 ?_
    exact hret 0 0 62 _ 0 () (Nat.le_of_ble_eq_true rfl) (Nat.le_of_ble_eq_true rfl) dX2_areDouble_62 (by first | exact xBool_t (by omega) | exact xBool_f (by omega))
  · -- 16 f
    refine x_aload_n F dX2_areDouble_19 rfl 0 rfl ?_
    refine x_get (ci := 2) F hin2 0 rfl rfl 2 (by decide) hw3 rfl dX2_areDouble_20 ?_
    refine x_iload_n F dX2_areDouble_23 rfl 1 rfl ?_
    refine x_callSNi (As := [.ref qL_years, .int (jI i)]) (st := []) F (c_X9_at D kI kJ l qL_years i 80 fL_years (by omega) (by omega)) ⟨va_cnB 2 F.2.2.2.2.1 gX2_areDouble_X9_at_n57 rfl rfl rfl (nM11 F.2.2.2.2.2.2.2) (F.2.2.2.2.1 _ hw1) (by decide +kernel) ⟨Nat.le_of_ble_eq_true rfl, Nat.le_of_ble_eq_true rfl⟩, F.2.2.2.2.1 _ hw2, trivial⟩ [3] [0, 1, 2] [0, 1, 2, 3] rfl rfl (by decide) (by decide) (by decide) (fun _ => rfl) (by decide) rfl (Nat.le_of_ble_eq_true rfl) dX2_areDouble_24 ⟨Nat.le_of_ble_eq_true rfl, Nat.le_of_ble_eq_true rfl⟩ (fun z24 u24 h24 => ?_)
    try dsimp only at h24
    refine x_ws [(qL, .inr (2, [.ref qL_blocks, .ref qL_hands, .ref qL_years, .ref qL_grades, .ref qL_sums, .ref qL_pairs, .ref qL_seen, .int (jI vL_size), .int (jI vL_doubles), .int (jI vL_learned)])), aI kI qL_blocks 80 fL_blocks, aI kI qL_hands 80 fL_hands, aI kI qL_years 80 fL_years] rfl ?_
    have he24 := h24
    have he24 := he24.symm
    subst he24
    refine x_aload_n F dX2_areDouble_27 rfl 0 rfl ?_
    refine x_get (ci := 2) F hin2 0 rfl rfl 2 (by decide) hw3 rfl dX2_areDouble_28 ?_
    refine x_iload_n F dX2_areDouble_31 rfl 2 rfl ?_
    refine x_callSNi (As := [.ref qL_years, .int (jI j)]) (st := [.int (jI (fL_years i))]) F (c_X9_at D kI kJ l qL_years j 80 fL_years (by omega) (by omega)) ⟨va_cnB 2 F.2.2.2.2.1 gX2_areDouble_X9_at_n57 rfl rfl rfl (nM11 F.2.2.2.2.2.2.2) (F.2.2.2.2.1 _ hw1) (by decide +kernel) ⟨Nat.le_of_ble_eq_true rfl, Nat.le_of_ble_eq_true rfl⟩, F.2.2.2.2.1 _ hw2, trivial⟩ [3] [0, 1, 2] [0, 1, 2, 3] rfl rfl (by decide) (by decide) (by decide) (fun _ => rfl) (by decide) rfl (Nat.le_of_ble_eq_true rfl) dX2_areDouble_32 ⟨Nat.le_of_ble_eq_true rfl, Nat.le_of_ble_eq_true rfl⟩ (fun z32 u32 h32 => ?_)
    try dsimp only at h32
    refine x_ws [(qL, .inr (2, [.ref qL_blocks, .ref qL_hands, .ref qL_years, .ref qL_grades, .ref qL_sums, .ref qL_pairs, .ref qL_seen, .int (jI vL_size), .int (jI vL_doubles), .int (jI vL_learned)])), aI kI qL_blocks 80 fL_blocks, aI kI qL_hands 80 fL_hands, aI kI qL_years 80 fL_years] rfl ?_
    have he32 := h32
    have he32 := he32.symm
    subst he32
    refine x_icmp_ne (tgt := 61) F dX2_areDouble_35 (by decide) (by omega) (fun c35 => ?_) (fun c35 => ?_)
    · -- 35 t
      refine x_iconst F dX2_areDouble_61 ?_
      exact hret 0 0 62 _ 0 () (Nat.le_of_ble_eq_true rfl) (Nat.le_of_ble_eq_true rfl) dX2_areDouble_62 (by first | exact xBool_t (by omega) | exact xBool_f (by omega))
    · -- 35 f
      refine x_aload_n F dX2_areDouble_38 rfl 0 rfl ?_
      refine x_get (ci := 2) F hin2 0 rfl rfl 1 (by decide) hw4 rfl dX2_areDouble_39 ?_
      refine x_iload_n F dX2_areDouble_42 rfl 1 rfl ?_
      refine x_callSNi (As := [.ref qL_hands, .int (jI i)]) (st := []) F (c_X9_at D kI kJ l qL_hands i 80 fL_hands (by omega) (by omega)) ⟨va_cnB 2 F.2.2.2.2.1 gX2_areDouble_X9_at_n57 rfl rfl rfl (nM11 F.2.2.2.2.2.2.2) (F.2.2.2.2.1 _ hw1) (by decide +kernel) ⟨Nat.le_of_ble_eq_true rfl, Nat.le_of_ble_eq_true rfl⟩, F.2.2.2.2.1 _ hw2, trivial⟩ [2] [0, 1, 3] [0, 1, 3, 2] rfl rfl (by decide) (by decide) (by decide) (fun _ => rfl) (by decide) rfl (Nat.le_of_ble_eq_true rfl) dX2_areDouble_43 ⟨Nat.le_of_ble_eq_true rfl, Nat.le_of_ble_eq_true rfl⟩ (fun z43 u43 h43 => ?_)
      try dsimp only at h43
      refine x_ws [(qL, .inr (2, [.ref qL_blocks, .ref qL_hands, .ref qL_years, .ref qL_grades, .ref qL_sums, .ref qL_pairs, .ref qL_seen, .int (jI vL_size), .int (jI vL_doubles), .int (jI vL_learned)])), aI kI qL_blocks 80 fL_blocks, aI kI qL_hands 80 fL_hands, aI kI qL_years 80 fL_years] rfl ?_
      have he43 := h43
      have he43 := he43.symm
      subst he43
      refine x_aload_n F dX2_areDouble_46 rfl 0 rfl ?_
      refine x_get (ci := 2) F hin2 0 rfl rfl 1 (by decide) hw4 rfl dX2_areDouble_47 ?_
      refine x_iload_n F dX2_areDouble_50 rfl 2 rfl ?_
      refine x_callSNi (As := [.ref qL_hands, .int (jI j)]) (st := [.int (jI (fL_hands i))]) F (c_X9_at D kI kJ l qL_hands j 80 fL_hands (by omega) (by omega)) ⟨va_cnB 2 F.2.2.2.2.1 gX2_areDouble_X9_at_n57 rfl rfl rfl (nM11 F.2.2.2.2.2.2.2) (F.2.2.2.2.1 _ hw1) (by decide +kernel) ⟨Nat.le_of_ble_eq_true rfl, Nat.le_of_ble_eq_true rfl⟩, F.2.2.2.2.1 _ hw2, trivial⟩ [2] [0, 1, 3] [0, 1, 3, 2] rfl rfl (by decide) (by decide) (by decide) (fun _ => rfl) (by decide) rfl (Nat.le_of_ble_eq_true rfl) dX2_areDouble_51 ⟨Nat.le_of_ble_eq_true rfl, Nat.le_of_ble_eq_true rfl⟩ (fun z51 u51 h51 => ?_)
      try dsimp only at h51
      refine x_ws [(qL, .inr (2, [.ref qL_blocks, .ref qL_hands, .ref qL_years, .ref qL_grades, .ref qL_sums, .ref qL_pairs, .ref qL_seen, .int (jI vL_size), .int (jI vL_doubles), .int (jI vL_learned)])), aI kI qL_blocks 80 fL_blocks, aI kI qL_hands 80 fL_hands, aI kI qL_years 80 fL_years] rfl ?_
      have he51 := h51
      have he51 := he51.symm
      subst he51
      refine x_icmp_eq (tgt := 61) F dX2_areDouble_54 (by decide) (by omega) (fun c54 => ?_) (fun c54 => ?_)
      · -- 54 t
        refine x_iconst F dX2_areDouble_61 ?_
        exact hret 0 0 62 _ 0 () (Nat.le_of_ble_eq_true rfl) (Nat.le_of_ble_eq_true rfl) dX2_areDouble_62 (by first | exact xBool_t (by omega) | exact xBool_f (by omega))
      · -- 54 f
        refine x_iconst F dX2_areDouble_57 ?_
        refine x_goto (tgt := 62) F dX2_areDouble_58 (by decide) ?_
        exact hret 0 0 62 _ 1 () (Nat.le_of_ble_eq_true rfl) (Nat.le_of_ble_eq_true rfl) dX2_areDouble_62 (by first | exact xBool_t (by omega) | exact xBool_f (by omega))
set_option maxHeartbeats 4000000 in
set_option maxRecDepth 100000 in
theorem c_X2_learnHabits (D : va_G) (kI kJ : Nat) (l : Launch) (qL : Nat) (known : Int) (qL_blocks : Nat) (qL_hands : Nat) (qL_years : Nat) (qL_grades : Nat) (qL_sums : Nat) (qL_pairs : Nat) (qL_seen : Nat) (vL_size : Int) (vL_doubles : Int) (vL_learned : Int) (fL_blocks : (Int → Int)) (fL_hands : (Int → Int)) (fL_years : (Int → Int)) (fL_grades : (Int → Int)) (fL_sums : (Int → Int)) (fL_pairs : (Int → Int)) (hk : 0 ≤ known ∧ known ≤ vL_size) (hLs : 0 ≤ vL_size ∧ vL_size ≤ 80) (hLb : Rg fL_blocks 80 0 29) (hLh : Rg fL_hands 80 0 3) (hLy : Rg fL_years 80 0 400) (hLg : Rg fL_grades 80 0 99) (hLl : 0 ≤ vL_learned ∧ vL_learned ≤ vL_size) (hLS : ∀ k : Int, 0 ≤ k → k < 4 → fL_sums k = hS fL_blocks fL_years fL_hands fL_grades vL_learned k) (hLP : ∀ k : Int, 0 ≤ k → k < 4 → fL_pairs k = hN fL_blocks fL_years fL_hands vL_learned k) (hLD : vL_doubles = dnS fL_blocks fL_years fL_hands vL_learned) : xMv D kI kJ l yX2_learnHabits wsX2_learnHabits 3 75 0 0 [.ref qL, .int (jI known)] [(qL, .inr (2, [.ref qL_blocks, .ref qL_hands, .ref qL_years, .ref qL_grades, .ref qL_sums, .ref qL_pairs, .ref qL_seen, .int (jI vL_size), .int (jI vL_doubles), .int (jI vL_learned)])), aI kI qL_blocks 80 fL_blocks, aI kI qL_hands 80 fL_hands, aI kI qL_years 80 fL_years, aI kI qL_grades 80 fL_grades, aI kI qL_sums 4 fL_sums, aI kI qL_pairs 4 fL_pairs] (fun (u : (Int → Int) × (Int → Int) × Int) => (∀ k : Int, 0 ≤ k → k < 4 → u.1 k = hS fL_blocks fL_years fL_hands fL_grades known k) ∧ (∀ k : Int, 0 ≤ k → k < 4 → u.2.1 k = hN fL_blocks fL_years fL_hands known k) ∧ (u.2.2 = dnS fL_blocks fL_years fL_hands known)) (fun (u : (Int → Int) × (Int → Int) × Int) => [(qL, .inr (2, [.ref qL_blocks, .ref qL_hands, .ref qL_years, .ref qL_grades, .ref qL_sums, .ref qL_pairs, .ref qL_seen, .int (jI vL_size), .int (jI u.2.2), .int (jI known)])), aI kI qL_blocks 80 fL_blocks, aI kI qL_hands 80 fL_hands, aI kI qL_years 80 fL_years, aI kI qL_grades 80 fL_grades, aI kI qL_sums 4 u.1, aI kI qL_pairs 4 u.2.1]) := by
  refine xMv_of (cc := cX2_learnHabits) (maxL := 5) (by decide) rfl (Nat.le_of_ble_eq_true rfl) ?_
  intro p e s m args below meth c A Q F hin2 hret
  have hin2 : ∀ w ∈ wsX20, w ∈ wsX2_learnHabits := by decide +kernel
  have hw0 : Cond.fieldLink RX2 90 (TX2 9).1 (TX2 9).2.1 (TX2 9).2.2.1 ∈ wsX2_learnHabits := by decide +kernel
  have hw1 : Cond.fieldLink RX2 24 (TX2 4).1 (TX2 4).2.1 (TX2 4).2.2.1 ∈ wsX2_learnHabits := by decide +kernel
  have hw2 : Cond.fieldLink RX2 27 (TX2 5).1 (TX2 5).2.1 (TX2 5).2.2.1 ∈ wsX2_learnHabits := by decide +kernel
  have hw3 : Cond.fieldLink RX2 54 (TX2 8).1 (TX2 8).2.1 (TX2 8).2.2.1 ∈ wsX2_learnHabits := by decide +kernel
  have hw4 : Cond.fieldLink RX2 21 (TX2 3).1 (TX2 3).2.1 (TX2 3).2.2.1 ∈ wsX2_learnHabits := by decide +kernel
  have hw5 : Cond.fieldLink RX2 15 (TX2 1).1 (TX2 1).2.1 (TX2 1).2.2.1 ∈ wsX2_learnHabits := by decide +kernel
  refine x_lveq (lv' := [(0, .ref qL), (1, .int (jI known))]) rfl ?_
  refine x_iload_n F dX2_learnHabits_0 rfl 1 rfl ?_
  refine x_aload_n F dX2_learnHabits_1 rfl 0 rfl ?_
  refine x_get (ci := 2) F hin2 0 rfl rfl 9 (by decide) hw0 rfl dX2_learnHabits_2 ?_
  refine x_icmp_ne (tgt := 9) F dX2_learnHabits_5 (by decide) (by omega) (fun c5 => ?_) (fun c5 => ?_)
  · -- 5 t
    refine x_aload_n F dX2_learnHabits_9 rfl 0 rfl ?_
    refine x_iload_n F dX2_learnHabits_10 rfl 1 rfl ?_
    refine x_put (ci := 2) F hin2 tyX2_ok nmX2 0 rfl rfl 9 (by decide) hw0 rfl rfl rfl (show 9 + 1 ≤ _ from Nat.le_of_ble_eq_true rfl) dX2_learnHabits_11 [(qL, .inr (2, [.ref qL_blocks, .ref qL_hands, .ref qL_years, .ref qL_grades, .ref qL_sums, .ref qL_pairs, .ref qL_seen, .int (jI vL_size), .int (jI vL_doubles), .int (jI known)])), aI kI qL_blocks 80 fL_blocks, aI kI qL_hands 80 fL_hands, aI kI qL_years 80 fL_years, aI kI qL_grades 80 fL_grades, aI kI qL_sums 4 fL_sums, aI kI qL_pairs 4 fL_pairs] rfl ?_
    refine x_aload_n F dX2_learnHabits_14 rfl 0 rfl ?_
    refine x_get (ci := 2) F hin2 0 rfl rfl 4 (by decide) hw1 rfl dX2_learnHabits_15 ?_
    refine x_iconst F dX2_learnHabits_18 ?_
    refine x_callSv (As := [.ref qL_sums, .int (jI 0)]) (st := []) F (c_J7_fill_53178 D kI kJ l qL_sums 0 4 fL_sums (by omega)) (va_cwS 2 F.2.2.2.2.1 gX2_learnHabits_J7_fill_53178 rfl rfl rfl (by decide +kernel) ⟨Nat.le_of_ble_eq_true rfl, Nat.le_of_ble_eq_true rfl⟩) [5] [0, 1, 2, 3, 4, 6] [0, 1, 2, 3, 4, 6, 5] rfl rfl (by decide) (by decide) (by decide) (fun _ => rfl) (by decide) rfl (Nat.le_of_ble_eq_true rfl) dX2_learnHabits_19 ⟨Nat.le_of_ble_eq_true rfl, Nat.le_of_ble_eq_true rfl⟩ (fun u19 h19 => ?_)
    obtain ⟨f2_19, rfl⟩ : ∃ z, z = u19 := ⟨_, rfl⟩
    try dsimp only at h19
    refine x_ws [(qL, .inr (2, [.ref qL_blocks, .ref qL_hands, .ref qL_years, .ref qL_grades, .ref qL_sums, .ref qL_pairs, .ref qL_seen, .int (jI vL_size), .int (jI vL_doubles), .int (jI known)])), aI kI qL_blocks 80 fL_blocks, aI kI qL_hands 80 fL_hands, aI kI qL_years 80 fL_years, aI kI qL_grades 80 fL_grades, aI kI qL_sums 4 f2_19, aI kI qL_pairs 4 fL_pairs] rfl ?_
    have hf_19 := h19
    refine x_aload_n F dX2_learnHabits_22 rfl 0 rfl ?_
    refine x_get (ci := 2) F hin2 0 rfl rfl 5 (by decide) hw2 rfl dX2_learnHabits_23 ?_
    refine x_iconst F dX2_learnHabits_26 ?_
    refine x_callSv (As := [.ref qL_pairs, .int (jI 0)]) (st := []) F (c_J7_fill_53178 D kI kJ l qL_pairs 0 4 fL_pairs (by omega)) (va_cwS 2 F.2.2.2.2.1 gX2_learnHabits_J7_fill_53178 rfl rfl rfl (by decide +kernel) ⟨Nat.le_of_ble_eq_true rfl, Nat.le_of_ble_eq_true rfl⟩) [6] [0, 1, 2, 3, 4, 5] [0, 1, 2, 3, 4, 5, 6] rfl rfl (by decide) (by decide) (by decide) (fun _ => rfl) (by decide) rfl (Nat.le_of_ble_eq_true rfl) dX2_learnHabits_27 ⟨Nat.le_of_ble_eq_true rfl, Nat.le_of_ble_eq_true rfl⟩ (fun u27 h27 => ?_)
    obtain ⟨f2_27, rfl⟩ : ∃ z, z = u27 := ⟨_, rfl⟩
    try dsimp only at h27
    refine x_ws [(qL, .inr (2, [.ref qL_blocks, .ref qL_hands, .ref qL_years, .ref qL_grades, .ref qL_sums, .ref qL_pairs, .ref qL_seen, .int (jI vL_size), .int (jI vL_doubles), .int (jI known)])), aI kI qL_blocks 80 fL_blocks, aI kI qL_hands 80 fL_hands, aI kI qL_years 80 fL_years, aI kI qL_grades 80 fL_grades, aI kI qL_sums 4 f2_19, aI kI qL_pairs 4 f2_27] rfl ?_
    have hf_27 := h27
    refine x_aload_n F dX2_learnHabits_30 rfl 0 rfl ?_
    refine x_iconst F dX2_learnHabits_31 ?_
    refine x_put (ci := 2) F hin2 tyX2_ok nmX2 0 rfl rfl 8 (by decide) hw3 rfl rfl rfl (show 8 + 1 ≤ _ from Nat.le_of_ble_eq_true rfl) dX2_learnHabits_32 [(qL, .inr (2, [.ref qL_blocks, .ref qL_hands, .ref qL_years, .ref qL_grades, .ref qL_sums, .ref qL_pairs, .ref qL_seen, .int (jI vL_size), .int (jI 0), .int (jI known)])), aI kI qL_blocks 80 fL_blocks, aI kI qL_hands 80 fL_hands, aI kI qL_years 80 fL_years, aI kI qL_grades 80 fL_grades, aI kI qL_sums 4 f2_19, aI kI qL_pairs 4 f2_27] rfl ?_
    refine x_iconst F dX2_learnHabits_35 ?_
    refine x_istore_n (lv' := [(0, .ref qL), (1, .int (jI known)), (2, .int (jI 0))]) F dX2_learnHabits_36 rfl (by decide) [1, 2, 0] rfl ?_
    have lp37 : ∀ (fu : Nat) (jj : Int) (gs : (Int → Int)) (gp : (Int → Int)) (gd : Int) (hj : 0 ≤ jj ∧ jj ≤ known) (hgs : ∀ k : Int, 0 ≤ k → k < 4 → gs k = tri (hvF fL_blocks fL_years fL_hands fL_grades k) jj) (hgp : ∀ k : Int, 0 ≤ k → k < 4 → gp k = tri (hvP fL_blocks fL_years fL_hands k) jj) (hgd : gd = dnS fL_blocks fL_years fL_hands jj) (hm : known - jj < (fu : Int)), xG D p l e (xRm 3 75 0 0) s m args below meth c 5 A Q 0 0 [(qL, .inr (2, [.ref qL_blocks, .ref qL_hands, .ref qL_years, .ref qL_grades, .ref qL_sums, .ref qL_pairs, .ref qL_seen, .int (jI vL_size), .int (jI gd), .int (jI known)])), aI kI qL_blocks 80 fL_blocks, aI kI qL_hands 80 fL_hands, aI kI qL_years 80 fL_years, aI kI qL_grades 80 fL_grades, aI kI qL_sums 4 gs, aI kI qL_pairs 4 gp] [(0, .ref qL), (1, .int (jI known)), (2, .int (jI jj))] 37 [] := by
      intro fu
      induction fu with
      | zero =>
        intro jj gs gp gd hj hgs hgp hgd hm
        exact absurd hm (by omega)
      | succ fu ih37 =>
        intro jj gs gp gd hj hgs hgp hgd hm
        refine x_iload_n F dX2_learnHabits_37 rfl 2 rfl ?_
        refine x_iload_n F dX2_learnHabits_38 rfl 1 rfl ?_
        refine x_icmp_ge (tgt := 160) F dX2_learnHabits_39 (by decide) (by omega) (fun c39 => ?_) (fun c39 => ?_)
        · -- 39 t
          exact hret 0 0 160 _ (gs, gp, gd) (Nat.le_of_ble_eq_true rfl) (Nat.le_of_ble_eq_true rfl) dX2_learnHabits_160 (by (try dsimp only); exact (⟨fun k h1 h2 => by rw [hgs k h1 h2, show jj = known by omega]; exact (sq_tri (hvF_ii fL_blocks fL_years fL_hands fL_grades k) hk.1).symm, fun k h1 h2 => by rw [hgp k h1 h2, show jj = known by omega]; exact (sq_tri (hvP_ii fL_blocks fL_years fL_hands k) hk.1).symm, by rw [hgd, show jj = known by omega]⟩))
        · -- 39 f
          refine x_iload_n F dX2_learnHabits_42 rfl 2 rfl ?_
          refine x_bipush F dX2_learnHabits_43 (by decide) ?_
          refine x_icmp_ge (tgt := 160) F dX2_learnHabits_45 (by decide) (by omega) (fun c45 => ?_) (fun c45 => ?_)
          · exact absurd c45 (by omega)
          · -- 45 f
            refine x_iconst F dX2_learnHabits_48 ?_
            refine x_istore_n (lv' := [(0, .ref qL), (1, .int (jI known)), (2, .int (jI jj)), (3, .int (jI 0))]) F dX2_learnHabits_49 rfl (by decide) [1, 2, 3, 0] rfl ?_
            have lp50 : ∀ (fu : Nat) (ii : Int) (is : (Int → Int)) (ip : (Int → Int)) (id : Int) (hi : 0 ≤ ii ∧ ii ≤ jj) (his : ∀ k : Int, 0 ≤ k → k < 4 → is k = tri (hvF fL_blocks fL_years fL_hands fL_grades k) jj + sm (fun i9 => (hvF fL_blocks fL_years fL_hands fL_grades k) i9 jj + (hvF fL_blocks fL_years fL_hands fL_grades k) jj i9) ii) (hip : ∀ k : Int, 0 ≤ k → k < 4 → ip k = tri (hvP fL_blocks fL_years fL_hands k) jj + sm (fun i9 => (hvP fL_blocks fL_years fL_hands k) i9 jj + (hvP fL_blocks fL_years fL_hands k) jj i9) ii) (hid : id = dnS fL_blocks fL_years fL_hands jj + sm (fun i9 => dbI fL_blocks fL_years fL_hands i9 jj) ii) (hm : jj - ii < (fu : Int)), xG D p l e (xRm 3 75 0 0) s m args below meth c 5 A Q 0 0 [(qL, .inr (2, [.ref qL_blocks, .ref qL_hands, .ref qL_years, .ref qL_grades, .ref qL_sums, .ref qL_pairs, .ref qL_seen, .int (jI vL_size), .int (jI id), .int (jI known)])), aI kI qL_blocks 80 fL_blocks, aI kI qL_hands 80 fL_hands, aI kI qL_years 80 fL_years, aI kI qL_grades 80 fL_grades, aI kI qL_sums 4 is, aI kI qL_pairs 4 ip] [(0, .ref qL), (1, .int (jI known)), (2, .int (jI jj)), (3, .int (jI ii))] 50 [] := by
              intro fu
              induction fu with
              | zero =>
                intro ii is ip id hi his hip hid hm
                exact absurd hm (by omega)
              | succ fu ih50 =>
                intro ii is ip id hi his hip hid hm
                refine x_iload_n F dX2_learnHabits_50 rfl 3 rfl ?_
                refine x_iload_n F dX2_learnHabits_51 rfl 2 rfl ?_
                refine x_icmp_ge (tgt := 154) F dX2_learnHabits_52 (by decide) (by omega) (fun c52 => ?_) (fun c52 => ?_)
                · -- 52 t
                  refine x_iinc (lv' := [(0, .ref qL), (1, .int (jI known)), (2, .int (jI (jj + 1))), (3, .int (jI ii))]) (k := 2) F dX2_learnHabits_154 rfl (by decide) [1, 2, 0, 3] rfl ?_
                  refine x_goto (tgt := 37) F dX2_learnHabits_157 (by decide) ?_
                  refine x_lv (lv' := [(0, .ref qL), (1, .int (jI known)), (2, .int (jI (jj + 1)))]) [0, 1, 2] rfl ?_
                  exact ih37 (jj + 1) is ip id (by omega) (fun k h1 h2 => by rw [his k h1 h2, show ii = jj by omega]; exact (sm_s hj.1).symm) (fun k h1 h2 => by rw [hip k h1 h2, show ii = jj by omega]; exact (sm_s hj.1).symm) (by rw [hid, show ii = jj by omega, show dnS fL_blocks fL_years fL_hands (jj + 1) = dnS fL_blocks fL_years fL_hands jj + sm (dbI fL_blocks fL_years fL_hands jj) jj from sm_s hj.1, sm_congr (f := fun i9 => dbI fL_blocks fL_years fL_hands i9 jj) (g := dbI fL_blocks fL_years fL_hands jj) hj.1 (fun k _ _ => dbI_comm fL_blocks fL_years fL_hands k jj)]) (by omega)
                · -- 52 f
                  have jn148 : ∀ (is2 : (Int → Int)) (ip2 : (Int → Int)) (id2 : Int) (his2 : ∀ k : Int, 0 ≤ k → k < 4 → is2 k = tri (hvF fL_blocks fL_years fL_hands fL_grades k) jj + sm (fun i9 => (hvF fL_blocks fL_years fL_hands fL_grades k) i9 jj + (hvF fL_blocks fL_years fL_hands fL_grades k) jj i9) (ii + 1)) (hip2 : ∀ k : Int, 0 ≤ k → k < 4 → ip2 k = tri (hvP fL_blocks fL_years fL_hands k) jj + sm (fun i9 => (hvP fL_blocks fL_years fL_hands k) i9 jj + (hvP fL_blocks fL_years fL_hands k) jj i9) (ii + 1)) (hid2 : id2 = dnS fL_blocks fL_years fL_hands jj + sm (fun i9 => dbI fL_blocks fL_years fL_hands i9 jj) (ii + 1)), xG D p l e (xRm 3 75 0 0) s m args below meth c 5 A Q 0 0 [(qL, .inr (2, [.ref qL_blocks, .ref qL_hands, .ref qL_years, .ref qL_grades, .ref qL_sums, .ref qL_pairs, .ref qL_seen, .int (jI vL_size), .int (jI id2), .int (jI known)])), aI kI qL_blocks 80 fL_blocks, aI kI qL_hands 80 fL_hands, aI kI qL_years 80 fL_years, aI kI qL_grades 80 fL_grades, aI kI qL_sums 4 is2, aI kI qL_pairs 4 ip2] [(0, .ref qL), (1, .int (jI known)), (2, .int (jI jj)), (3, .int (jI ii))] 148 [] := by
                    intro is2 ip2 id2 his2 hip2 hid2
                    refine x_iinc (lv' := [(0, .ref qL), (1, .int (jI known)), (2, .int (jI jj)), (3, .int (jI (ii + 1)))]) (k := 3) F dX2_learnHabits_148 rfl (by decide) [1, 2, 3, 0] rfl ?_
                    refine x_goto (tgt := 50) F dX2_learnHabits_151 (by decide) ?_
                    exact ih50 (ii + 1) is2 ip2 id2 (by omega) his2 hip2 hid2 (by omega)
                  have rh1 := Rg.at hLh ii (by omega)
                  have rh2 := Rg.at hLh jj (by omega)
                  have rg1 := Rg.at hLg ii (by omega)
                  have rg2 := Rg.at hLg jj (by omega)
                  refine x_aload_n F dX2_learnHabits_55 rfl 0 rfl ?_
                  refine x_iload_n F dX2_learnHabits_56 rfl 3 rfl ?_
                  refine x_iload_n F dX2_learnHabits_57 rfl 2 rfl ?_
                  refine x_callVi (ci := 2) (q0 := 0) (As := [.int (jI ii), .int (jI jj)]) (st := []) F (c_X2_areDouble D kI kJ l qL ii jj qL_blocks qL_hands qL_years qL_grades qL_sums qL_pairs qL_seen vL_size id known fL_blocks fL_hands fL_years (by omega) hLb hLh hLy) (cwV 2 F.2.2.2.2.1 gX2_learnHabits_X2_areDouble rfl rfl rfl (by decide +kernel) ⟨Nat.le_of_ble_eq_true rfl, Nat.le_of_ble_eq_true rfl⟩) rfl rfl [0, 1, 2, 3] [4, 5, 6] [3, 4, 5, 6, 0, 1, 2] rfl rfl (by decide) (by decide) (by decide) (fun _ => rfl) (by decide) rfl (Nat.le_of_ble_eq_true rfl) dX2_learnHabits_58 ⟨Nat.le_of_ble_eq_true rfl, Nat.le_of_ble_eq_true rfl⟩ (fun z58 u58 h58 => ?_)
                  try dsimp only at h58
                  refine x_ws [(qL, .inr (2, [.ref qL_blocks, .ref qL_hands, .ref qL_years, .ref qL_grades, .ref qL_sums, .ref qL_pairs, .ref qL_seen, .int (jI vL_size), .int (jI id), .int (jI known)])), aI kI qL_blocks 80 fL_blocks, aI kI qL_hands 80 fL_hands, aI kI qL_years 80 fL_years, aI kI qL_grades 80 fL_grades, aI kI qL_sums 4 is, aI kI qL_pairs 4 ip] rfl ?_
                  have hb58 := h58
                  refine x_beq (tgt := 148) F dX2_learnHabits_61 (by decide) hb58 (fun c61 => ?_) (fun c61 => ?_)
                  · -- 61 t
                    exact jn148 is ip id (fun k h1 h2 => by rw [sm_s hi.1, ← Int.add_assoc, ← his k h1 h2]; unfold hvF; first | (rw [two_add c61.2.2]; (repeat' split) <;> omega) | ((repeat' split) <;> omega)) (fun k h1 h2 => by rw [sm_s hi.1, ← Int.add_assoc, ← hip k h1 h2]; unfold hvP; first | (rw [two_add c61.2.2]; (repeat' split) <;> omega) | ((repeat' split) <;> omega)) (by rw [sm_s hi.1, ← Int.add_assoc, ← hid]; unfold dbI; (repeat' split) <;> omega)
                  · -- 61 f
                    refine x_aload_n F dX2_learnHabits_64 rfl 0 rfl ?_
                    refine x_dup F dX2_learnHabits_65 rfl ?_
                    refine x_get (ci := 2) F hin2 0 rfl rfl 8 (by decide) hw3 rfl dX2_learnHabits_66 ?_
                    refine x_iconst F dX2_learnHabits_69 ?_
                    refine x_iadd F dX2_learnHabits_70 ?_
                    refine x_put (ci := 2) F hin2 tyX2_ok nmX2 0 rfl rfl 8 (by decide) hw3 rfl rfl rfl (show 8 + 1 ≤ _ from Nat.le_of_ble_eq_true rfl) dX2_learnHabits_71 [(qL, .inr (2, [.ref qL_blocks, .ref qL_hands, .ref qL_years, .ref qL_grades, .ref qL_sums, .ref qL_pairs, .ref qL_seen, .int (jI vL_size), .int (jI (id + 1)), .int (jI known)])), aI kI qL_blocks 80 fL_blocks, aI kI qL_hands 80 fL_hands, aI kI qL_years 80 fL_years, aI kI qL_grades 80 fL_grades, aI kI qL_sums 4 is, aI kI qL_pairs 4 ip] rfl ?_
                    refine x_aload_n F dX2_learnHabits_74 rfl 0 rfl ?_
                    refine x_get (ci := 2) F hin2 0 rfl rfl 3 (by decide) hw4 rfl dX2_learnHabits_75 ?_
                    refine x_iload_n F dX2_learnHabits_78 rfl 3 rfl ?_
                    refine x_iald F 4 rfl (by decide) (by omega) dX2_learnHabits_79 ?_
                    have hr79 := Rg.at hLg ii (by omega)
                    refine x_aload_n F dX2_learnHabits_80 rfl 0 rfl ?_
                    refine x_get (ci := 2) F hin2 0 rfl rfl 3 (by decide) hw4 rfl dX2_learnHabits_81 ?_
                    refine x_iload_n F dX2_learnHabits_84 rfl 2 rfl ?_
                    refine x_iald F 4 rfl (by decide) (by omega) dX2_learnHabits_85 ?_
                    have hr85 := Rg.at hLg jj (by omega)
                    refine x_isub F dX2_learnHabits_86 ?_
                    refine x_istore (lv' := [(0, .ref qL), (1, .int (jI known)), (2, .int (jI jj)), (3, .int (jI ii)), (4, .int (jI ((fL_grades ii) - (fL_grades jj))))]) F dX2_learnHabits_87 (by decide) [1, 2, 3, 4, 0] rfl ?_
                    refine x_aload_n F dX2_learnHabits_89 rfl 0 rfl ?_
                    refine x_get (ci := 2) F hin2 0 rfl rfl 4 (by decide) hw1 rfl dX2_learnHabits_90 ?_
                    refine x_aload_n F dX2_learnHabits_93 rfl 0 rfl ?_
                    refine x_get (ci := 2) F hin2 0 rfl rfl 1 (by decide) hw5 rfl dX2_learnHabits_94 ?_
                    refine x_iload_n F dX2_learnHabits_97 rfl 3 rfl ?_
                    refine x_iald F 2 rfl (by decide) (by omega) dX2_learnHabits_98 ?_
                    have hr98 := Rg.at hLh ii (by omega)
                    refine x_iload F dX2_learnHabits_99 4 rfl ?_
                    refine x_callSv (As := [.ref qL_sums, .int (jI (fL_hands ii)), .int (jI ((fL_grades ii) - (fL_grades jj)))]) (st := []) F (c_X2_countFor D kI kJ l qL_sums (fL_hands ii) ((fL_grades ii) - (fL_grades jj)) is (by omega)) (va_cwS 3 F.2.2.2.2.1 gX2_learnHabits_X2_countFor rfl rfl rfl (by decide +kernel) ⟨Nat.le_of_ble_eq_true rfl, Nat.le_of_ble_eq_true rfl⟩) [5] [0, 1, 2, 3, 4, 6] [0, 1, 2, 3, 4, 6, 5] rfl rfl (by decide) (by decide) (by decide) (fun _ => rfl) (by decide) rfl (Nat.le_of_ble_eq_true rfl) dX2_learnHabits_101 ⟨Nat.le_of_ble_eq_true rfl, Nat.le_of_ble_eq_true rfl⟩ (fun u101 h101 => ?_)
                    try dsimp only at h101
                    refine x_ws [(qL, .inr (2, [.ref qL_blocks, .ref qL_hands, .ref qL_years, .ref qL_grades, .ref qL_sums, .ref qL_pairs, .ref qL_seen, .int (jI vL_size), .int (jI (id + 1)), .int (jI known)])), aI kI qL_blocks 80 fL_blocks, aI kI qL_hands 80 fL_hands, aI kI qL_years 80 fL_years, aI kI qL_grades 80 fL_grades, aI kI qL_sums 4 (iU is (fL_hands ii) (is (fL_hands ii) + ((fL_grades ii) - (fL_grades jj)))), aI kI qL_pairs 4 ip] rfl ?_
                    refine x_aload_n F dX2_learnHabits_104 rfl 0 rfl ?_
                    refine x_get (ci := 2) F hin2 0 rfl rfl 4 (by decide) hw1 rfl dX2_learnHabits_105 ?_
                    refine x_aload_n F dX2_learnHabits_108 rfl 0 rfl ?_
                    refine x_get (ci := 2) F hin2 0 rfl rfl 1 (by decide) hw5 rfl dX2_learnHabits_109 ?_
                    refine x_iload_n F dX2_learnHabits_112 rfl 2 rfl ?_
                    refine x_iald F 2 rfl (by decide) (by omega) dX2_learnHabits_113 ?_
                    have hr113 := Rg.at hLh jj (by omega)
                    refine x_iload F dX2_learnHabits_114 4 rfl ?_
                    refine x_ineg F dX2_learnHabits_116 ?_
                    refine x_callSv (As := [.ref qL_sums, .int (jI (fL_hands jj)), .int (jI (-((fL_grades ii) - (fL_grades jj))))]) (st := []) F (c_X2_countFor D kI kJ l qL_sums (fL_hands jj) (-((fL_grades ii) - (fL_grades jj))) (iU is (fL_hands ii) (is (fL_hands ii) + ((fL_grades ii) - (fL_grades jj)))) (by omega)) (va_cwS 3 F.2.2.2.2.1 gX2_learnHabits_X2_countFor rfl rfl rfl (by decide +kernel) ⟨Nat.le_of_ble_eq_true rfl, Nat.le_of_ble_eq_true rfl⟩) [5] [0, 1, 2, 3, 4, 6] [0, 1, 2, 3, 4, 6, 5] rfl rfl (by decide) (by decide) (by decide) (fun _ => rfl) (by decide) rfl (Nat.le_of_ble_eq_true rfl) dX2_learnHabits_117 ⟨Nat.le_of_ble_eq_true rfl, Nat.le_of_ble_eq_true rfl⟩ (fun u117 h117 => ?_)
                    try dsimp only at h117
                    refine x_ws [(qL, .inr (2, [.ref qL_blocks, .ref qL_hands, .ref qL_years, .ref qL_grades, .ref qL_sums, .ref qL_pairs, .ref qL_seen, .int (jI vL_size), .int (jI (id + 1)), .int (jI known)])), aI kI qL_blocks 80 fL_blocks, aI kI qL_hands 80 fL_hands, aI kI qL_years 80 fL_years, aI kI qL_grades 80 fL_grades, aI kI qL_sums 4 (iU (iU is (fL_hands ii) (is (fL_hands ii) + ((fL_grades ii) - (fL_grades jj)))) (fL_hands jj) ((iU is (fL_hands ii) (is (fL_hands ii) + ((fL_grades ii) - (fL_grades jj)))) (fL_hands jj) + (-((fL_grades ii) - (fL_grades jj))))), aI kI qL_pairs 4 ip] rfl ?_
                    refine x_aload_n F dX2_learnHabits_120 rfl 0 rfl ?_
                    refine x_get (ci := 2) F hin2 0 rfl rfl 5 (by decide) hw2 rfl dX2_learnHabits_121 ?_
                    refine x_aload_n F dX2_learnHabits_124 rfl 0 rfl ?_
                    refine x_get (ci := 2) F hin2 0 rfl rfl 1 (by decide) hw5 rfl dX2_learnHabits_125 ?_
                    refine x_iload_n F dX2_learnHabits_128 rfl 3 rfl ?_
                    refine x_iald F 2 rfl (by decide) (by omega) dX2_learnHabits_129 ?_
                    have hr129 := Rg.at hLh ii (by omega)
                    refine x_iconst F dX2_learnHabits_130 ?_
                    refine x_callSv (As := [.ref qL_pairs, .int (jI (fL_hands ii)), .int (jI 1)]) (st := []) F (c_X2_countFor D kI kJ l qL_pairs (fL_hands ii) 1 ip (by omega)) (va_cwS 3 F.2.2.2.2.1 gX2_learnHabits_X2_countFor rfl rfl rfl (by decide +kernel) ⟨Nat.le_of_ble_eq_true rfl, Nat.le_of_ble_eq_true rfl⟩) [6] [0, 1, 2, 3, 4, 5] [0, 1, 2, 3, 4, 5, 6] rfl rfl (by decide) (by decide) (by decide) (fun _ => rfl) (by decide) rfl (Nat.le_of_ble_eq_true rfl) dX2_learnHabits_131 ⟨Nat.le_of_ble_eq_true rfl, Nat.le_of_ble_eq_true rfl⟩ (fun u131 h131 => ?_)
                    try dsimp only at h131
                    refine x_ws [(qL, .inr (2, [.ref qL_blocks, .ref qL_hands, .ref qL_years, .ref qL_grades, .ref qL_sums, .ref qL_pairs, .ref qL_seen, .int (jI vL_size), .int (jI (id + 1)), .int (jI known)])), aI kI qL_blocks 80 fL_blocks, aI kI qL_hands 80 fL_hands, aI kI qL_years 80 fL_years, aI kI qL_grades 80 fL_grades, aI kI qL_sums 4 (iU (iU is (fL_hands ii) (is (fL_hands ii) + ((fL_grades ii) - (fL_grades jj)))) (fL_hands jj) ((iU is (fL_hands ii) (is (fL_hands ii) + ((fL_grades ii) - (fL_grades jj)))) (fL_hands jj) + (-((fL_grades ii) - (fL_grades jj))))), aI kI qL_pairs 4 (iU ip (fL_hands ii) (ip (fL_hands ii) + 1))] rfl ?_
                    refine x_aload_n F dX2_learnHabits_134 rfl 0 rfl ?_
                    refine x_get (ci := 2) F hin2 0 rfl rfl 5 (by decide) hw2 rfl dX2_learnHabits_135 ?_
                    refine x_aload_n F dX2_learnHabits_138 rfl 0 rfl ?_
                    refine x_get (ci := 2) F hin2 0 rfl rfl 1 (by decide) hw5 rfl dX2_learnHabits_139 ?_
                    refine x_iload_n F dX2_learnHabits_142 rfl 2 rfl ?_
                    refine x_iald F 2 rfl (by decide) (by omega) dX2_learnHabits_143 ?_
                    have hr143 := Rg.at hLh jj (by omega)
                    refine x_iconst F dX2_learnHabits_144 ?_
                    refine x_callSv (As := [.ref qL_pairs, .int (jI (fL_hands jj)), .int (jI 1)]) (st := []) F (c_X2_countFor D kI kJ l qL_pairs (fL_hands jj) 1 (iU ip (fL_hands ii) (ip (fL_hands ii) + 1)) (by omega)) (va_cwS 3 F.2.2.2.2.1 gX2_learnHabits_X2_countFor rfl rfl rfl (by decide +kernel) ⟨Nat.le_of_ble_eq_true rfl, Nat.le_of_ble_eq_true rfl⟩) [6] [0, 1, 2, 3, 4, 5] [0, 1, 2, 3, 4, 5, 6] rfl rfl (by decide) (by decide) (by decide) (fun _ => rfl) (by decide) rfl (Nat.le_of_ble_eq_true rfl) dX2_learnHabits_145 ⟨Nat.le_of_ble_eq_true rfl, Nat.le_of_ble_eq_true rfl⟩ (fun u145 h145 => ?_)
                    try dsimp only at h145
                    refine x_ws [(qL, .inr (2, [.ref qL_blocks, .ref qL_hands, .ref qL_years, .ref qL_grades, .ref qL_sums, .ref qL_pairs, .ref qL_seen, .int (jI vL_size), .int (jI (id + 1)), .int (jI known)])), aI kI qL_blocks 80 fL_blocks, aI kI qL_hands 80 fL_hands, aI kI qL_years 80 fL_years, aI kI qL_grades 80 fL_grades, aI kI qL_sums 4 (iU (iU is (fL_hands ii) (is (fL_hands ii) + ((fL_grades ii) - (fL_grades jj)))) (fL_hands jj) ((iU is (fL_hands ii) (is (fL_hands ii) + ((fL_grades ii) - (fL_grades jj)))) (fL_hands jj) + (-((fL_grades ii) - (fL_grades jj))))), aI kI qL_pairs 4 (iU (iU ip (fL_hands ii) (ip (fL_hands ii) + 1)) (fL_hands jj) ((iU ip (fL_hands ii) (ip (fL_hands ii) + 1)) (fL_hands jj) + 1))] rfl ?_
                    refine x_lv (lv' := [(0, .ref qL), (1, .int (jI known)), (2, .int (jI jj)), (3, .int (jI ii))]) [0, 1, 2, 3] rfl ?_
                    exact jn148 (iU (iU is (fL_hands ii) (is (fL_hands ii) + ((fL_grades ii) - (fL_grades jj)))) (fL_hands jj) ((iU is (fL_hands ii) (is (fL_hands ii) + ((fL_grades ii) - (fL_grades jj)))) (fL_hands jj) + (-((fL_grades ii) - (fL_grades jj))))) (iU (iU ip (fL_hands ii) (ip (fL_hands ii) + 1)) (fL_hands jj) ((iU ip (fL_hands ii) (ip (fL_hands ii) + 1)) (fL_hands jj) + 1)) (id + 1) (fun k h1 h2 => by rw [sm_s hi.1, ← Int.add_assoc, ← his k h1 h2]; unfold hvF; first | (rw [two_add c61.2.2]; (repeat' split) <;> omega) | ((repeat' split) <;> omega)) (fun k h1 h2 => by rw [sm_s hi.1, ← Int.add_assoc, ← hip k h1 h2]; unfold hvP; first | (rw [two_add c61.2.2]; (repeat' split) <;> omega) | ((repeat' split) <;> omega)) (by rw [sm_s hi.1, ← Int.add_assoc, ← hid]; unfold dbI; (repeat' split) <;> omega)
            exact lp50 (Int.toNat (jj - 0) + 1) 0 gs gp gd (by omega) (fun k h1 h2 => by rw [hgs k h1 h2, sm_0]; omega) (fun k h1 h2 => by rw [hgp k h1 h2, sm_0]; omega) (by rw [hgd, sm_0]; omega) (by omega)
    exact lp37 (Int.toNat (known - 0) + 1) 0 f2_19 f2_27 0 (by omega) (fun k h1 h2 => by rw [hf_19 k h1 h2]; rfl) (fun k h1 h2 => by rw [hf_27 k h1 h2]; rfl) rfl (by omega)
  · -- 5 f
    refine x_ws [(qL, .inr (2, [.ref qL_blocks, .ref qL_hands, .ref qL_years, .ref qL_grades, .ref qL_sums, .ref qL_pairs, .ref qL_seen, .int (jI vL_size), .int (jI vL_doubles), .int (jI known)])), aI kI qL_blocks 80 fL_blocks, aI kI qL_hands 80 fL_hands, aI kI qL_years 80 fL_years, aI kI qL_grades 80 fL_grades, aI kI qL_sums 4 fL_sums, aI kI qL_pairs 4 fL_pairs] (by rw [c5]) ?_
    exact hret 0 0 8 _ (fL_sums, fL_pairs, vL_doubles) (Nat.le_of_ble_eq_true rfl) (Nat.le_of_ble_eq_true rfl) dX2_learnHabits_8 (by (try dsimp only); exact (⟨fun k h1 h2 => by rw [hLS k h1 h2, ← c5], fun k h1 h2 => by rw [hLP k h1 h2, ← c5], by rw [hLD, ← c5]⟩))
set_option maxHeartbeats 4000000 in
set_option maxRecDepth 100000 in
theorem c_X2_countDoubles (D : va_G) (kI kJ : Nat) (l : Launch) (qL : Nat) (qL_blocks : Nat) (qL_hands : Nat) (qL_years : Nat) (qL_grades : Nat) (qL_sums : Nat) (qL_pairs : Nat) (qL_seen : Nat) (vL_size : Int) (vL_doubles : Int) (vL_learned : Int) (fL_blocks : (Int → Int)) (fL_hands : (Int → Int)) (fL_years : (Int → Int)) (fL_grades : (Int → Int)) (fL_sums : (Int → Int)) (fL_pairs : (Int → Int)) (hLs : 0 ≤ vL_size ∧ vL_size ≤ 80) (hLb : Rg fL_blocks 80 0 29) (hLh : Rg fL_hands 80 0 3) (hLy : Rg fL_years 80 0 400) (hLg : Rg fL_grades 80 0 99) (hLl : 0 ≤ vL_learned ∧ vL_learned ≤ vL_size) (hLS : ∀ k : Int, 0 ≤ k → k < 4 → fL_sums k = hS fL_blocks fL_years fL_hands fL_grades vL_learned k) (hLP : ∀ k : Int, 0 ≤ k → k < 4 → fL_pairs k = hN fL_blocks fL_years fL_hands vL_learned k) (hLD : vL_doubles = dnS fL_blocks fL_years fL_hands vL_learned) : xMi D kI kJ l yX2_countDoubles wsX2_countDoubles 4 99 0 0 [.ref qL] [(qL, .inr (2, [.ref qL_blocks, .ref qL_hands, .ref qL_years, .ref qL_grades, .ref qL_sums, .ref qL_pairs, .ref qL_seen, .int (jI vL_size), .int (jI vL_doubles), .int (jI vL_learned)])), aI kI qL_blocks 80 fL_blocks, aI kI qL_hands 80 fL_hands, aI kI qL_years 80 fL_years, aI kI qL_grades 80 fL_grades, aI kI qL_sums 4 fL_sums, aI kI qL_pairs 4 fL_pairs] (fun (z : Int) (u : (Int → Int) × (Int → Int) × Int) => z = (dnS fL_blocks fL_years fL_hands vL_size) ∧ (∀ k : Int, 0 ≤ k → k < 4 → u.1 k = hS fL_blocks fL_years fL_hands fL_grades vL_size k) ∧ (∀ k : Int, 0 ≤ k → k < 4 → u.2.1 k = hN fL_blocks fL_years fL_hands vL_size k) ∧ (u.2.2 = dnS fL_blocks fL_years fL_hands vL_size)) (fun (u : (Int → Int) × (Int → Int) × Int) => [(qL, .inr (2, [.ref qL_blocks, .ref qL_hands, .ref qL_years, .ref qL_grades, .ref qL_sums, .ref qL_pairs, .ref qL_seen, .int (jI vL_size), .int (jI u.2.2), .int (jI vL_size)])), aI kI qL_blocks 80 fL_blocks, aI kI qL_hands 80 fL_hands, aI kI qL_years 80 fL_years, aI kI qL_grades 80 fL_grades, aI kI qL_sums 4 u.1, aI kI qL_pairs 4 u.2.1]) := by
  refine xMi_of (cc := cX2_countDoubles) (maxL := 1) (rt := .int) (by decide) rfl (Nat.le_of_ble_eq_true rfl) (fun _ _ _ => rfl) ?_
  intro p e s m args below meth c A Q F hin2 hret
  have hin2 : ∀ w ∈ wsX20, w ∈ wsX2_countDoubles := by decide +kernel
  have hw0 : Cond.fieldLink RX2 33 (TX2 7).1 (TX2 7).2.1 (TX2 7).2.2.1 ∈ wsX2_countDoubles := by decide +kernel
  have hw1 : Cond.fieldLink RX2 54 (TX2 8).1 (TX2 8).2.1 (TX2 8).2.2.1 ∈ wsX2_countDoubles := by decide +kernel
  refine x_lveq (lv' := [(0, .ref qL)]) rfl ?_
  refine x_aload_n F dX2_countDoubles_0 rfl 0 rfl ?_
  refine x_aload_n F dX2_countDoubles_1 rfl 0 rfl ?_
  refine x_get (ci := 2) F hin2 0 rfl rfl 7 (by decide) hw0 rfl dX2_countDoubles_2 ?_
  refine x_callVv (ci := 2) (q0 := 0) (As := [.int (jI vL_size)]) (st := []) F (c_X2_learnHabits D kI kJ l qL vL_size qL_blocks qL_hands qL_years qL_grades qL_sums qL_pairs qL_seen vL_size vL_doubles vL_learned fL_blocks fL_hands fL_years fL_grades fL_sums fL_pairs (by omega) hLs hLb hLh hLy hLg hLl hLS hLP hLD) (cwV 1 F.2.2.2.2.1 gX2_countDoubles_X2_learnHabits rfl rfl rfl (by decide +kernel) ⟨Nat.le_of_ble_eq_true rfl, Nat.le_of_ble_eq_true rfl⟩) rfl rfl [0, 1, 2, 3, 4, 5, 6] [] [0, 1, 2, 3, 4, 5, 6] rfl rfl (by decide) (by decide) (by decide) (fun _ => rfl) (by decide) rfl (Nat.le_of_ble_eq_true rfl) dX2_countDoubles_5 ⟨Nat.le_of_ble_eq_true rfl, Nat.le_of_ble_eq_true rfl⟩ (fun u5 h5 => ?_)
  obtain ⟨s2_5, p2_5, d2_5⟩ := u5
  try dsimp only at h5
  refine x_ws [(qL, .inr (2, [.ref qL_blocks, .ref qL_hands, .ref qL_years, .ref qL_grades, .ref qL_sums, .ref qL_pairs, .ref qL_seen, .int (jI vL_size), .int (jI d2_5), .int (jI vL_size)])), aI kI qL_blocks 80 fL_blocks, aI kI qL_hands 80 fL_hands, aI kI qL_years 80 fL_years, aI kI qL_grades 80 fL_grades, aI kI qL_sums 4 s2_5, aI kI qL_pairs 4 p2_5] rfl ?_
  obtain ⟨hs_5, hp_5, hd_5⟩ := h5
  refine x_aload_n F dX2_countDoubles_8 rfl 0 rfl ?_
  refine x_get (ci := 2) F hin2 0 rfl rfl 8 (by decide) hw1 rfl dX2_countDoubles_9 ?_
  exact hret 0 0 12 _ d2_5 (s2_5, p2_5, d2_5) (Nat.le_of_ble_eq_true rfl) (Nat.le_of_ble_eq_true rfl) dX2_countDoubles_12 (by (try dsimp only); exact (⟨hd_5, hs_5, hp_5, hd_5⟩))
