set_option maxHeartbeats 4000000 in
set_option maxRecDepth 100000 in
theorem c_X5_readTest (D : va_G) (kI kJ : Nat) (K V : Nat → Nat) (o : Option Nat) (l : Launch) (qE : Nat) (t : Int) (qE_text : Nat) (vE_size : Int) (vE_next : Int) (vE_fault : Int) (vE_faultAt : Int) (qU : Nat) (qV : Nat) (fE_text : (Int → Int)) (qV_names : Nat) (qV_signs : Nat) (qV_numbers : Nat) (qV_tests : Nat) (qV_acts : Nat) (vV_clauses : Int) (fV_names : (Int → Int)) (fV_signs : (Int → Int)) (fV_numbers : (Int → Int)) (fV_tests : (Int → Int)) (hEs : 0 ≤ vE_size ∧ vE_size ≤ 120) (hEt : Rg fE_text 120 0 255) (hnx : 0 ≤ vE_next ∧ vE_next ≤ vE_size) (hf0 : vE_fault = 0) (hVc : 0 ≤ vV_clauses ∧ vV_clauses ≤ 6) (hVt : Rg fV_tests 6 0 3) (ht : 0 ≤ t ∧ t ≤ 3) (htc : vV_clauses < 6 → fV_tests vV_clauses = t) (ht6 : vV_clauses = 6 → t = 0) : yMv D kI kJ K V o l yX5_readTest wsX5_readTest 7 164 0 0 [.ref qE, .int (jI t)] [(qE, .inr (5, [.ref qE_text, .int (jI vE_size), .int (jI vE_next), .int (jI vE_fault), .int (jI vE_faultAt), .ref qU, .ref qV])), aI kI qE_text 120 fE_text, (qV, .inr (6, [.ref qV_names, .ref qV_signs, .ref qV_numbers, .ref qV_tests, .ref qV_acts, .int (jI vV_clauses)])), aI kI qV_names 18 fV_names, aI kI qV_signs 18 fV_signs, aI kI qV_numbers 18 fV_numbers, aI kI qV_tests 6 fV_tests] (fun (u : Int × Int × Int × (Int → Int) × (Int → Int) × (Int → Int) × (Int → Int)) => (u.2.1 = tsF fE_text vE_size vV_clauses t (skp fE_text vE_size vE_next)) ∧ (¬ u.2.1 = 0 → u.2.2.1 = tsA fE_text vE_size vV_clauses t (skp fE_text vE_size vE_next) ∧ u.2.2.2.1 = fV_names ∧ u.2.2.2.2.1 = fV_signs ∧ u.2.2.2.2.2.1 = fV_numbers ∧ u.2.2.2.2.2.2 = fV_tests) ∧ (u.2.1 = 0 → (u.2.2.1 = vE_faultAt ∧ u.1 = tsE fE_text vE_size (skp fE_text vE_size vE_next) ∧ vV_clauses < 6 ∧ t < 3) ∧ u.2.2.2.1 = iU fV_names (vV_clauses * 3 + t) (tsN fE_text vE_size (skp fE_text vE_size vE_next)) ∧ u.2.2.2.2.1 = iU fV_signs (vV_clauses * 3 + t) (tsS fE_text vE_size (skp fE_text vE_size vE_next)) ∧ u.2.2.2.2.2.1 = iU fV_numbers (vV_clauses * 3 + t) (tsV fE_text vE_size (skp fE_text vE_size vE_next)) ∧ u.2.2.2.2.2.2 = iU fV_tests vV_clauses (t + 1)) ∧ (u.2.1 = 0 → (0 ≤ tsN fE_text vE_size (skp fE_text vE_size vE_next) ∧ tsN fE_text vE_size (skp fE_text vE_size vE_next) ≤ 6) ∧ (tsS fE_text vE_size (skp fE_text vE_size vE_next) = 60 ∨ tsS fE_text vE_size (skp fE_text vE_size vE_next) = 62) ∧ 0 ≤ tsV fE_text vE_size (skp fE_text vE_size vE_next) ∧ tsV fE_text vE_size (skp fE_text vE_size vE_next) ≤ 999) ∧ (0 ≤ u.1 ∧ u.1 ≤ vE_size) ∧ (0 ≤ u.2.1 ∧ u.2.1 ≤ 4)) (fun (u : Int × Int × Int × (Int → Int) × (Int → Int) × (Int → Int) × (Int → Int)) => [(qE, .inr (5, [.ref qE_text, .int (jI vE_size), .int (jI u.1), .int (jI u.2.1), .int (jI u.2.2.1), .ref qU, .ref qV])), aI kI qE_text 120 fE_text, (qV, .inr (6, [.ref qV_names, .ref qV_signs, .ref qV_numbers, .ref qV_tests, .ref qV_acts, .int (jI vV_clauses)])), aI kI qV_names 18 u.2.2.2.1, aI kI qV_signs 18 u.2.2.2.2.1, aI kI qV_numbers 18 u.2.2.2.2.2.1, aI kI qV_tests 6 u.2.2.2.2.2.2]) := by
  refine yMv_of (cc := cX5_readTest) (maxL := 6) (by decide) rfl (Nat.le_of_ble_eq_true rfl) ?_
  intro p e s m args below meth c A Q F hY hin2 hret
  have hin5 : ∀ w ∈ wsX50, w ∈ wsX5_readTest := by decide +kernel
  have hin6 : ∀ w ∈ wsX60, w ∈ wsX5_readTest := by decide +kernel
  have hw0 : Cond.fieldLink RX5 38 (TX5 2).1 (TX5 2).2.1 (TX5 2).2.2.1 ∈ wsX5_readTest := by decide +kernel
  have hw1 : Cond.fieldLink RX5 41 (TX5 3).1 (TX5 3).2.1 (TX5 3).2.2.1 ∈ wsX5_readTest := by decide +kernel
  have hw2 : Cond.fieldLink RX5 26 (TX5 6).1 (TX5 6).2.1 (TX5 6).2.2.1 ∈ wsX5_readTest := by decide +kernel
  refine x_lveq (lv' := [(0, .ref qE), (1, .int (jI t))]) rfl ?_
  have ht69 : vV_clauses < 6 ∨ t = 0 := by by_cases q : vV_clauses = 6; (exact Or.inr (ht6 q)); (exact Or.inl (by omega))
  clear ht6
  refine x_aload_n F dX5_readTest_0 rfl 0 rfl ?_
  refine x_callVv (ci := 5) (q0 := 0) (As := []) (st := []) F (c_X5_skipBlanks D kI kJ l qE qE_text vE_size vE_next vE_fault vE_faultAt qU qV fE_text hEs hEt hnx) (cwV 0 F.2.2.2.2.1 gX5_readTest_X5_skipBlanks rfl rfl rfl (by decide +kernel) ⟨Nat.le_of_ble_eq_true rfl, Nat.le_of_ble_eq_true rfl⟩) rfl rfl [0, 1] [2, 3, 4, 5, 6] [5, 6, 0, 1, 2, 3, 4] rfl rfl (by decide) (by decide) (by decide) (fun _ => rfl) (by decide) rfl (Nat.le_of_ble_eq_true rfl) dX5_readTest_1 ⟨Nat.le_of_ble_eq_true rfl, Nat.le_of_ble_eq_true rfl⟩ (fun u1 h1 => ?_)
  obtain ⟨n2_1, rfl⟩ : ∃ z, z = u1 := ⟨_, rfl⟩
  try dsimp only at h1
  refine x_ws [(qE, .inr (5, [.ref qE_text, .int (jI vE_size), .int (jI n2_1), .int (jI vE_fault), .int (jI vE_faultAt), .ref qU, .ref qV])), aI kI qE_text 120 fE_text, (qV, .inr (6, [.ref qV_names, .ref qV_signs, .ref qV_numbers, .ref qV_tests, .ref qV_acts, .int (jI vV_clauses)])), aI kI qV_names 18 fV_names, aI kI qV_signs 18 fV_signs, aI kI qV_numbers 18 fV_numbers, aI kI qV_tests 6 fV_tests] rfl ?_
  have hn_1 := h1
  have hsr := skp_rng (tx := fE_text) (sz := vE_size) hnx
  rw [← hn_1] at hsr
  refine x_aload_n F dX5_readTest_4 rfl 0 rfl ?_
  refine x_get (ci := 5) F hin5 0 rfl rfl 2 (by decide) hw0 rfl dX5_readTest_5 ?_
  refine x_istore_n (lv' := [(0, .ref qE), (1, .int (jI t)), (2, .int (jI n2_1))]) F dX5_readTest_8 rfl (by decide) [1, 2, 0] rfl ?_
  refine x_aload_n F dX5_readTest_9 rfl 0 rfl ?_
  refine y_callVi (ci := 5) (q0 := 0) (As := []) (st := []) F hY (c_X5_readName D kI kJ K V o l qE qE_text vE_size n2_1 vE_fault vE_faultAt qU qV fE_text hEs hEt (by omega) (by omega)) (cwV 0 F.2.2.2.2.1 gX5_readTest_X5_readName rfl rfl rfl (by decide +kernel) ⟨Nat.le_of_ble_eq_true rfl, Nat.le_of_ble_eq_true rfl⟩) rfl rfl [0, 1] [2, 3, 4, 5, 6] [5, 6, 0, 1, 2, 3, 4] rfl rfl (by decide) (by decide) (by decide) (fun _ => rfl) (by decide) rfl (Nat.le_of_ble_eq_true rfl) dX5_readTest_10 ⟨Nat.le_of_ble_eq_true rfl, Nat.le_of_ble_eq_true rfl⟩ (fun z10 u10 h10 => ?_)
  obtain ⟨n2_10, f2_10, a2_10⟩ := u10
  try dsimp only at h10
  refine x_ws [(qE, .inr (5, [.ref qE_text, .int (jI vE_size), .int (jI n2_10), .int (jI f2_10), .int (jI a2_10), .ref qU, .ref qV])), aI kI qE_text 120 fE_text, (qV, .inr (6, [.ref qV_names, .ref qV_signs, .ref qV_numbers, .ref qV_tests, .ref qV_acts, .int (jI vV_clauses)])), aI kI qV_names 18 fV_names, aI kI qV_signs 18 fV_signs, aI kI qV_numbers 18 fV_numbers, aI kI qV_tests 6 fV_tests] rfl ?_
  obtain ⟨he10, hn0_10, hn1_10, hg1_10, hg0_10, hnb_10, hfb_10⟩ := h10
  have he10 := he10.symm
  subst he10
  have htn : nmI fE_text n2_1 (wde fE_text vE_size n2_1) = tsN fE_text vE_size n2_1 := rfl
  rw [htn] at hn0_10 hn1_10 hg1_10 hg0_10
  have hnr : -1 ≤ tsN fE_text vE_size n2_1 ∧ tsN fE_text vE_size n2_1 ≤ 6 := by rw [← htn]; exact nmI_rng _ _ _
  have hP : (tsN fE_text vE_size n2_1 < 0 ∧ n2_10 = n2_1 ∧ f2_10 = 1 ∧ a2_10 = n2_1) ∨ (0 ≤ tsN fE_text vE_size n2_1 ∧ n2_10 = wde fE_text vE_size n2_1 ∧ f2_10 = 0 ∧ a2_10 = vE_faultAt) := by
    by_cases q : tsN fE_text vE_size n2_1 < 0
    · have g := (hg0_10 q).1 hf0
      exact Or.inl ⟨q, hn0_10 q, g.1, g.2⟩
    · have q1 : 0 ≤ tsN fE_text vE_size n2_1 := Int.not_lt.mp q
      have g := hg1_10 q1
      exact Or.inr ⟨q1, hn1_10 q1, g.1.trans hf0, g.2⟩
  clear hn0_10 hn1_10 hg1_10 hg0_10 htn
  refine x_istore_n (lv' := [(0, .ref qE), (1, .int (jI t)), (2, .int (jI n2_1)), (3, .int (jI (nmI fE_text (n2_1) (wde fE_text vE_size (n2_1)))))]) F dX5_readTest_13 rfl (by decide) [1, 2, 3, 0] rfl ?_
  have jn46 : ∀ (f9 : Int) (a9 : Int) (hj : (tsN fE_text vE_size n2_1 < 0 ∧ n2_10 = n2_1 ∧ f9 = 1 ∧ a9 = n2_1) ∨ (0 ≤ tsN fE_text vE_size n2_1 ∧ vV_clauses = 6 ∧ f9 = 3 ∧ a9 = n2_1) ∨ (0 ≤ tsN fE_text vE_size n2_1 ∧ vV_clauses < 6 ∧ t = 3 ∧ f9 = 4 ∧ a9 = n2_1) ∨ ((0 ≤ tsN fE_text vE_size n2_1 ∧ n2_10 = wde fE_text vE_size n2_1) ∧ vV_clauses < 6 ∧ t < 3 ∧ f9 = 0 ∧ a9 = vE_faultAt)), xG D p l e (xRm 7 164 0 0) s m args below meth c 6 A Q 0 0 [(qE, .inr (5, [.ref qE_text, .int (jI vE_size), .int (jI n2_10), .int (jI f9), .int (jI a9), .ref qU, .ref qV])), aI kI qE_text 120 fE_text, (qV, .inr (6, [.ref qV_names, .ref qV_signs, .ref qV_numbers, .ref qV_tests, .ref qV_acts, .int (jI vV_clauses)])), aI kI qV_names 18 fV_names, aI kI qV_signs 18 fV_signs, aI kI qV_numbers 18 fV_numbers, aI kI qV_tests 6 fV_tests] [(0, .ref qE), (1, .int (jI t)), (2, .int (jI n2_1)), (3, .int (jI (nmI fE_text (n2_1) (wde fE_text vE_size (n2_1)))))] 46 [] := by
    intro f9 a9 hj
    have hn10 : 0 ≤ n2_10 ∧ n2_10 ≤ vE_size := hnb_10
    clear hP
    have hjr : 0 ≤ f9 ∧ f9 ≤ 4 := by omega
    refine x_aload_n F dX5_readTest_46 rfl 0 rfl ?_
    refine x_bipush F dX5_readTest_47 (by decide) ?_
    refine x_callVi (ci := 5) (q0 := 0) (As := [.int (jI 60)]) (st := []) F (c_X5_isNext D kI kJ l qE 60 qE_text vE_size n2_10 f9 a9 qU qV fE_text hEs hEt (by omega) (by omega)) (cwV 1 F.2.2.2.2.1 gX5_readTest_X5_isNext rfl rfl rfl (by decide +kernel) ⟨Nat.le_of_ble_eq_true rfl, Nat.le_of_ble_eq_true rfl⟩) rfl rfl [0, 1] [2, 3, 4, 5, 6] [5, 6, 0, 1, 2, 3, 4] rfl rfl (by decide) (by decide) (by decide) (fun _ => rfl) (by decide) rfl (Nat.le_of_ble_eq_true rfl) dX5_readTest_49 ⟨Nat.le_of_ble_eq_true rfl, Nat.le_of_ble_eq_true rfl⟩ (fun z49 u49 h49 => ?_)
    obtain ⟨n2_49, rfl⟩ : ∃ z, z = u49 := ⟨_, rfl⟩
    try dsimp only at h49
    refine x_ws [(qE, .inr (5, [.ref qE_text, .int (jI vE_size), .int (jI n2_49), .int (jI f9), .int (jI a9), .ref qU, .ref qV])), aI kI qE_text 120 fE_text, (qV, .inr (6, [.ref qV_names, .ref qV_signs, .ref qV_numbers, .ref qV_tests, .ref qV_acts, .int (jI vV_clauses)])), aI kI qV_names 18 fV_names, aI kI qV_signs 18 fV_signs, aI kI qV_numbers 18 fV_numbers, aI kI qV_tests 6 fV_tests] rfl ?_
    obtain ⟨hb49, hn_49⟩ := h49
    have hsr2 := skp_rng (tx := fE_text) (sz := vE_size) (i := n2_10) (by omega)
    rw [← hn_49] at hsr2
    have hss : skp fE_text vE_size n2_49 = n2_49 := by rw [hn_49]; exact skp_skp _ _ _
    have jn62 : ∀ (sg : Int) (hsg9 : (cha fE_text vE_size n2_49 = 60 ∧ sg = 60) ∨ (¬ cha fE_text vE_size n2_49 = 60 ∧ sg = 62)), xG D p l e (xRm 7 164 0 0) s m args below meth c 6 A Q 0 0 [(qE, .inr (5, [.ref qE_text, .int (jI vE_size), .int (jI n2_49), .int (jI f9), .int (jI a9), .ref qU, .ref qV])), aI kI qE_text 120 fE_text, (qV, .inr (6, [.ref qV_names, .ref qV_signs, .ref qV_numbers, .ref qV_tests, .ref qV_acts, .int (jI vV_clauses)])), aI kI qV_names 18 fV_names, aI kI qV_signs 18 fV_signs, aI kI qV_numbers 18 fV_numbers, aI kI qV_tests 6 fV_tests] [(0, .ref qE), (1, .int (jI t)), (2, .int (jI n2_1)), (3, .int (jI (nmI fE_text (n2_1) (wde fE_text vE_size (n2_1)))))] 62 [.int (jI sg)] := by
      intro sg hsg9
      have hsr9 : sg = 60 ∨ sg = 62 := hsg9.elim (fun q => Or.inl q.2) (fun q => Or.inr q.2)
      refine x_istore (lv' := [(0, .ref qE), (1, .int (jI t)), (2, .int (jI n2_1)), (3, .int (jI (nmI fE_text (n2_1) (wde fE_text vE_size (n2_1))))), (4, .int (jI sg))]) F dX5_readTest_62 (by decide) [1, 2, 3, 4, 0] rfl ?_
      refine x_aload_n F dX5_readTest_64 rfl 0 rfl ?_
      refine x_iload F dX5_readTest_65 4 rfl ?_
      refine x_callVv (ci := 5) (q0 := 0) (As := [.int (jI sg)]) (st := []) F (c_X5_readSign D kI kJ l qE sg qE_text vE_size n2_49 f9 a9 qU qV fE_text hEs hEt (by omega) (by omega) (by omega)) (cwV 1 F.2.2.2.2.1 gX5_readTest_X5_readSign rfl rfl rfl (by decide +kernel) ⟨Nat.le_of_ble_eq_true rfl, Nat.le_of_ble_eq_true rfl⟩) rfl rfl [0, 1] [2, 3, 4, 5, 6] [5, 6, 0, 1, 2, 3, 4] rfl rfl (by decide) (by decide) (by decide) (fun _ => rfl) (by decide) rfl (Nat.le_of_ble_eq_true rfl) dX5_readTest_67 ⟨Nat.le_of_ble_eq_true rfl, Nat.le_of_ble_eq_true rfl⟩ (fun u67 h67 => ?_)
      obtain ⟨n2_67, f2_67, a2_67⟩ := u67
      try dsimp only at h67
      refine x_ws [(qE, .inr (5, [.ref qE_text, .int (jI vE_size), .int (jI n2_67), .int (jI f2_67), .int (jI a2_67), .ref qU, .ref qV])), aI kI qE_text 120 fE_text, (qV, .inr (6, [.ref qV_names, .ref qV_signs, .ref qV_numbers, .ref qV_tests, .ref qV_acts, .int (jI vV_clauses)])), aI kI qV_names 18 fV_names, aI kI qV_signs 18 fV_signs, aI kI qV_numbers 18 fV_numbers, aI kI qV_tests 6 fV_tests] rfl ?_
      obtain ⟨hs1_67, hs0_67, hnb_67, hfb_67⟩ := h67
      rw [hss] at hs1_67 hs0_67
      have hS9 : (cha fE_text vE_size n2_49 = sg ∧ n2_67 = n2_49 + 1 ∧ f2_67 = f9 ∧ a2_67 = a9) ∨ (¬ cha fE_text vE_size n2_49 = sg ∧ ((f9 = 0 ∧ f2_67 = 1 ∧ a2_67 = n2_49) ∨ (¬ f9 = 0 ∧ f2_67 = f9 ∧ a2_67 = a9))) := by
        by_cases q : cha fE_text vE_size n2_49 = sg
        · exact Or.inl ⟨q, hs1_67 q⟩
        · refine Or.inr ⟨q, ?_⟩
          have g := (hs0_67 q).2
          by_cases q2 : f9 = 0
          · exact Or.inl ⟨q2, g.1 q2⟩
          · exact Or.inr ⟨q2, g.2 q2⟩
      clear hs1_67 hs0_67
      refine x_aload_n F dX5_readTest_70 rfl 0 rfl ?_
      refine x_callVi (ci := 5) (q0 := 0) (As := []) (st := []) F (c_X5_readNumber D kI kJ l qE qE_text vE_size n2_67 f2_67 a2_67 qU qV fE_text hEs hEt (by omega) (by omega)) (cwV 0 F.2.2.2.2.1 gX5_readTest_X5_readNumber rfl rfl rfl (by decide +kernel) ⟨Nat.le_of_ble_eq_true rfl, Nat.le_of_ble_eq_true rfl⟩) rfl rfl [0, 1] [2, 3, 4, 5, 6] [5, 6, 0, 1, 2, 3, 4] rfl rfl (by decide) (by decide) (by decide) (fun _ => rfl) (by decide) rfl (Nat.le_of_ble_eq_true rfl) dX5_readTest_71 ⟨Nat.le_of_ble_eq_true rfl, Nat.le_of_ble_eq_true rfl⟩ (fun z71 u71 h71 => ?_)
      obtain ⟨n2_71, f2_71, a2_71⟩ := u71
      try dsimp only at h71
      refine x_ws [(qE, .inr (5, [.ref qE_text, .int (jI vE_size), .int (jI n2_71), .int (jI f2_71), .int (jI a2_71), .ref qU, .ref qV])), aI kI qE_text 120 fE_text, (qV, .inr (6, [.ref qV_names, .ref qV_signs, .ref qV_numbers, .ref qV_tests, .ref qV_acts, .int (jI vV_clauses)])), aI kI qV_names 18 fV_names, aI kI qV_signs 18 fV_signs, aI kI qV_numbers 18 fV_numbers, aI kI qV_tests 6 fV_tests] rfl ?_
      obtain ⟨he71, hn_71, hf1_71, hf0_71, hnb_71, hfb_71⟩ := h71
      have he71 := he71.symm
      subst he71
      have hN9 : (¬ f2_67 = 0 ∧ f2_71 = f2_67 ∧ a2_71 = a2_67) ∨ (f2_67 = 0 ∧ f2_71 = (if n2_71 = skp fE_text vE_size n2_67 then 1 else if 3 < n2_71 - skp fE_text vE_size n2_67 then 2 else 0) ∧ ((f2_71 = 0 ∧ a2_71 = a2_67) ∨ (¬ f2_71 = 0 ∧ a2_71 = skp fE_text vE_size n2_67))) := by
        by_cases q : f2_67 = 0
        · have g := hf0_71 q
          refine Or.inr ⟨q, g.1, ?_⟩
          by_cases q2 : f2_71 = 0
          · exact Or.inl ⟨q2, g.2.1 q2⟩
          · exact Or.inr ⟨q2, g.2.2 q2⟩
        · exact Or.inl ⟨q, hf1_71 q⟩
      clear hf0_71 hf1_71
      refine x_istore (lv' := [(0, .ref qE), (1, .int (jI t)), (2, .int (jI n2_1)), (3, .int (jI (nmI fE_text (n2_1) (wde fE_text vE_size (n2_1))))), (4, .int (jI sg)), (5, .int (jI (nuV fE_text (skp fE_text vE_size n2_67) n2_71)))]) F dX5_readTest_74 (by decide) [1, 2, 3, 4, 5, 0] rfl ?_
      have hfin : f2_71 = tsF fE_text vE_size vV_clauses t n2_1 ∧ (¬ f2_71 = 0 → a2_71 = tsA fE_text vE_size vV_clauses t n2_1) ∧ (f2_71 = 0 → 0 ≤ tsN fE_text vE_size n2_1 ∧ a2_71 = vE_faultAt ∧ n2_71 = tsE fE_text vE_size n2_1 ∧ sg = tsS fE_text vE_size n2_1 ∧ skp fE_text vE_size n2_67 = tsR fE_text vE_size n2_1 ∧ vV_clauses < 6 ∧ t < 3 ∧ tsE fE_text vE_size n2_1 - tsR fE_text vE_size n2_1 ≤ 3) := by
        have hAA : tsA fE_text vE_size vV_clauses t n2_1 = (if tsN fE_text vE_size n2_1 < 0 ∨ vV_clauses = 6 ∨ t = 3 then n2_1 else tsH fE_text vE_size n2_1) := rfl
        have hFF : tsF fE_text vE_size vV_clauses t n2_1 = (if tsN fE_text vE_size n2_1 < 0 then 1 else if vV_clauses = 6 then 3 else if t = 3 then 4 else tsG fE_text vE_size n2_1) := rfl
        rcases hj with ⟨j1, j2, j3, j4⟩ | ⟨j1, j2, j3, j4⟩ | ⟨j1, j2, j3, j4, j5⟩ | ⟨⟨j1, j2⟩, j3, j4, j5, j6⟩
        · have g1 : f2_67 = f9 ∧ a2_67 = a9 := by rcases hS9 with ⟨-, -, g, h⟩ | ⟨-, ⟨g, -, -⟩ | ⟨-, g, h⟩⟩; (exact ⟨g, h⟩); (exact absurd g (by omega)); (exact ⟨g, h⟩)
          have g2 : f2_71 = f9 ∧ a2_71 = a9 := by rcases hN9 with ⟨-, g, h⟩ | ⟨g, -, -⟩; (exact ⟨g.trans g1.1, h.trans g1.2⟩); (exact absurd g (by omega))
          rw [hFF, hAA, if_pos j1, if_pos (Or.inl j1)]
          exact ⟨by omega, fun _ => by omega, fun q => by omega⟩
        · have g1 : f2_67 = f9 ∧ a2_67 = a9 := by rcases hS9 with ⟨-, -, g, h⟩ | ⟨-, ⟨g, -, -⟩ | ⟨-, g, h⟩⟩; (exact ⟨g, h⟩); (exact absurd g (by omega)); (exact ⟨g, h⟩)
          have g2 : f2_71 = f9 ∧ a2_71 = a9 := by rcases hN9 with ⟨-, g, h⟩ | ⟨g, -, -⟩; (exact ⟨g.trans g1.1, h.trans g1.2⟩); (exact absurd g (by omega))
          rw [hFF, hAA, if_neg (show ¬ tsN fE_text vE_size n2_1 < 0 by omega), if_pos j2, if_pos (Or.inr (Or.inl j2))]
          exact ⟨by omega, fun _ => by omega, fun q => by omega⟩
        · have g1 : f2_67 = f9 ∧ a2_67 = a9 := by rcases hS9 with ⟨-, -, g, h⟩ | ⟨-, ⟨g, -, -⟩ | ⟨-, g, h⟩⟩; (exact ⟨g, h⟩); (exact absurd g (by omega)); (exact ⟨g, h⟩)
          have g2 : f2_71 = f9 ∧ a2_71 = a9 := by rcases hN9 with ⟨-, g, h⟩ | ⟨g, -, -⟩; (exact ⟨g.trans g1.1, h.trans g1.2⟩); (exact absurd g (by omega))
          rw [hFF, hAA, if_neg (show ¬ tsN fE_text vE_size n2_1 < 0 by omega), if_neg (show ¬ vV_clauses = 6 by omega), if_pos j3, if_pos (Or.inr (Or.inr j3))]
          exact ⟨by omega, fun _ => by omega, fun q => by omega⟩
        · have e1 : n2_49 = tsQ fE_text vE_size n2_1 := by rw [hn_49, j2]; rfl
          have e2 : cha fE_text vE_size n2_49 = tsS fE_text vE_size n2_1 := by rw [e1]; rfl
          rw [hFF, hAA, if_neg (show ¬ tsN fE_text vE_size n2_1 < 0 by omega), if_neg (show ¬ vV_clauses = 6 by omega), if_neg (show ¬ t = 3 by omega), if_neg (show ¬ (tsN fE_text vE_size n2_1 < 0 ∨ vV_clauses = 6 ∨ t = 3) by omega)]
          have hGG : tsG fE_text vE_size n2_1 = (if ¬ (tsS fE_text vE_size n2_1 = 60 ∨ tsS fE_text vE_size n2_1 = 62) then 1 else if tsE fE_text vE_size n2_1 = tsR fE_text vE_size n2_1 then 1 else if 3 < tsE fE_text vE_size n2_1 - tsR fE_text vE_size n2_1 then 2 else 0) := rfl
          have hHH : tsH fE_text vE_size n2_1 = (if ¬ (tsS fE_text vE_size n2_1 = 60 ∨ tsS fE_text vE_size n2_1 = 62) then tsQ fE_text vE_size n2_1 else tsR fE_text vE_size n2_1) := rfl
          rcases hS9 with ⟨g0, g1, g2, g3⟩ | ⟨g0, ⟨g1, g2, g3⟩ | ⟨g1, g2, g3⟩⟩
          · have e3 : skp fE_text vE_size n2_67 = tsR fE_text vE_size n2_1 := by rw [g1, e1]; rfl
            have e4 : n2_71 = tsE fE_text vE_size n2_1 := by rw [hn_71, e3]; rfl
            have i4 : ¬ ¬ (tsS fE_text vE_size n2_1 = 60 ∨ tsS fE_text vE_size n2_1 = 62) := by rw [← e2, g0]; exact fun q => q hsr9
            rw [hGG, hHH, if_neg i4, if_neg i4]
            rcases hN9 with ⟨h1, h2, h3⟩ | ⟨h1, h2, h3⟩
            · exact absurd (g2.trans j5) h1
            · rw [e3, e4] at h2
              rw [e3] at h3
              have e5 := e2.symm.trans g0
              refine ⟨h2, fun q => ?_, fun q => ?_⟩
              · rcases h3 with ⟨h4, -⟩ | ⟨-, h4⟩
                · exact absurd h4 q
                · exact h4
              · refine ⟨j1, ?_, e4, e5.symm, e3, j3, j4, ?_⟩
                · rcases h3 with ⟨-, h4⟩ | ⟨h4, -⟩
                  · rw [h4, g3, j6]
                  · exact absurd q h4
                · rw [q] at h2
                  by_cases z : tsE fE_text vE_size n2_1 = tsR fE_text vE_size n2_1
                  · rw [if_pos z] at h2; omega
                  · by_cases z2 : 3 < tsE fE_text vE_size n2_1 - tsR fE_text vE_size n2_1
                    · rw [if_neg z, if_pos z2] at h2; omega
                    · omega
          · have i4 : ¬ (tsS fE_text vE_size n2_1 = 60 ∨ tsS fE_text vE_size n2_1 = 62) := by
              rw [← e2]
              clear hN9 hGG hHH hFF hAA
              omega
            rw [hGG, hHH, if_pos i4, if_pos i4]
            rcases hN9 with ⟨h1, h2, h3⟩ | ⟨h1, h2, h3⟩
            · exact ⟨h2.trans g2, fun _ => by rw [h3, g3, e1], fun q => absurd (q.symm.trans (h2.trans g2)) (by decide)⟩
            · exact absurd (g2.symm.trans h1) (by decide)
          · exact absurd j5 g1
      refine x_aload_n F dX5_readTest_76 rfl 0 rfl ?_
      refine x_get (ci := 5) F hin5 0 rfl rfl 3 (by decide) hw1 rfl dX5_readTest_77 ?_
      refine x_if_ne (tgt := 95) F dX5_readTest_80 (by decide) (by omega) (fun c80 => ?_) (fun c80 => ?_)
      · -- 80 t
        exact hret 0 0 95 _ (n2_71, f2_71, a2_71, fV_names, fV_signs, fV_numbers, fV_tests) (Nat.le_of_ble_eq_true rfl) (Nat.le_of_ble_eq_true rfl) dX5_readTest_95 (by (try dsimp only); exact (by rw [← hn_1]; exact ⟨hfin.1, fun q => ⟨hfin.2.1 q, rfl, rfl, rfl, rfl⟩, fun q => absurd q c80, fun q => absurd q c80, by omega, by omega⟩))
      · -- 80 f
        have c80z : f2_71 = 0 := by omega
        obtain ⟨k1, k2, k3, k4, k5, k6, k7, k8⟩ := hfin.2.2 c80z
        have hVt9 := htc k6
        have hvr : 0 ≤ tsV fE_text vE_size n2_1 ∧ tsV fE_text vE_size n2_1 ≤ 999 := nuV_3 (tx := fE_text) ⟨(sc_rng fE_text 48 57 vE_size (tsR fE_text vE_size n2_1)).1, by omega⟩ (sc_in fE_text 48 57 vE_size (tsR fE_text vE_size n2_1))
        refine x_aload_n F dX5_readTest_83 rfl 0 rfl ?_
        refine x_get (ci := 5) F hin5 0 rfl rfl 6 (by decide) hw2 rfl dX5_readTest_84 ?_
        refine x_iload_n F dX5_readTest_87 rfl 3 rfl ?_
        refine x_iload F dX5_readTest_88 4 rfl ?_
        refine x_iload F dX5_readTest_90 5 rfl ?_
        refine x_callVv (ci := 6) (q0 := 2) (As := [.int (jI (nmI fE_text (n2_1) (wde fE_text vE_size (n2_1)))), .int (jI sg), .int (jI (nuV fE_text (skp fE_text vE_size n2_67) n2_71))]) (st := []) F (c_X6_addTest D kI kJ l qV (nmI fE_text (n2_1) (wde fE_text vE_size (n2_1))) sg (nuV fE_text (skp fE_text vE_size n2_67) n2_71) qV_names qV_signs qV_numbers qV_tests qV_acts vV_clauses fV_names fV_signs fV_numbers fV_tests (by omega) (by rw [hVt9]; omega)) (cwV 3 F.2.2.2.2.1 gX5_readTest_X6_addTest rfl rfl rfl (by decide +kernel) ⟨Nat.le_of_ble_eq_true rfl, Nat.le_of_ble_eq_true rfl⟩) rfl rfl [2, 3, 4, 5, 6] [0, 1] [0, 1, 2, 3, 4, 5, 6] rfl rfl (by decide) (by decide) (by decide) (fun _ => rfl) (by decide) rfl (Nat.le_of_ble_eq_true rfl) dX5_readTest_92 ⟨Nat.le_of_ble_eq_true rfl, Nat.le_of_ble_eq_true rfl⟩ (fun u92 h92 => ?_)
        try dsimp only at h92
        refine x_ws [(qE, .inr (5, [.ref qE_text, .int (jI vE_size), .int (jI n2_71), .int (jI f2_71), .int (jI a2_71), .ref qU, .ref qV])), aI kI qE_text 120 fE_text, (qV, .inr (6, [.ref qV_names, .ref qV_signs, .ref qV_numbers, .ref qV_tests, .ref qV_acts, .int (jI vV_clauses)])), aI kI qV_names 18 (iU fV_names (vV_clauses * 3 + fV_tests vV_clauses) (nmI fE_text (n2_1) (wde fE_text vE_size (n2_1)))), aI kI qV_signs 18 (iU fV_signs (vV_clauses * 3 + fV_tests vV_clauses) sg), aI kI qV_numbers 18 (iU fV_numbers (vV_clauses * 3 + fV_tests vV_clauses) (nuV fE_text (skp fE_text vE_size n2_67) n2_71)), aI kI qV_tests 6 (iU fV_tests vV_clauses (fV_tests vV_clauses + 1))] rfl ?_
        exact hret 0 0 95 _ (n2_71, f2_71, a2_71, (iU fV_names (vV_clauses * 3 + fV_tests vV_clauses) (nmI fE_text (n2_1) (wde fE_text vE_size (n2_1)))), (iU fV_signs (vV_clauses * 3 + fV_tests vV_clauses) sg), (iU fV_numbers (vV_clauses * 3 + fV_tests vV_clauses) (nuV fE_text (skp fE_text vE_size n2_67) n2_71)), (iU fV_tests vV_clauses (fV_tests vV_clauses + 1))) (Nat.le_of_ble_eq_true rfl) (Nat.le_of_ble_eq_true rfl) dX5_readTest_95 (by (try dsimp only); exact (by rw [← hn_1]; exact ⟨hfin.1, fun q => absurd c80z q, fun _ => ⟨⟨k2, k3, k6, k7⟩, by rw [hVt9]; rfl, by rw [hVt9, k4], by rw [hVt9, k5, k3]; rfl, by rw [hVt9]⟩, fun _ => ⟨⟨k1, hnr.2⟩, by rw [← k4]; exact hsr9, hvr⟩, by omega, by omega⟩))
    refine x_beq (tgt := 60) F dX5_readTest_52 (by decide) hb49 (fun c52 => ?_) (fun c52 => ?_)
    · -- 52 t
      refine x_bipush F dX5_readTest_60 (by decide) ?_
      exact jn62 62 (by first | exact Or.inl ⟨by assumption, rfl⟩ | exact Or.inr ⟨by assumption, rfl⟩)
    · -- 52 f
      refine x_bipush F dX5_readTest_55 (by decide) ?_
      refine x_goto (tgt := 62) F dX5_readTest_57 (by decide) ?_
      exact jn62 60 (by first | exact Or.inl ⟨by assumption, rfl⟩ | exact Or.inr ⟨by assumption, rfl⟩)
  refine x_iload_n F dX5_readTest_14 rfl 1 rfl ?_
  refine x_iconst F dX5_readTest_15 ?_
  refine x_icmp_lt (tgt := 28) F dX5_readTest_16 (by decide) (by omega) (fun c16 => ?_) (fun c16 => ?_)
  · -- 16 t
    refine x_aload_n F dX5_readTest_28 rfl 0 rfl ?_
    refine x_get (ci := 5) F hin5 0 rfl rfl 6 (by decide) hw2 rfl dX5_readTest_29 ?_
    refine x_getN (ci := 6) F hin6 2 rfl rfl 5 (by decide) (nF9 F.2.2.2.2.2.2.2) rfl dX5_readTest_32 ?_
    refine x_bipush F dX5_readTest_35 (by decide) ?_
    refine x_icmp_lt (tgt := 46) F dX5_readTest_37 (by decide) (by omega) (fun c37 => ?_) (fun c37 => ?_)
    · -- 37 t
      exact jn46 f2_10 a2_10 (by omega)
    · -- 37 f
      refine x_aload_n F dX5_readTest_40 rfl 0 rfl ?_
      refine x_iconst F dX5_readTest_41 ?_
      refine x_iload_n F dX5_readTest_42 rfl 2 rfl ?_
      refine x_callVv (ci := 5) (q0 := 0) (As := [.int (jI 3), .int (jI n2_1)]) (st := []) F (c_X5_blame D kI kJ l qE 3 n2_1 qE_text vE_size n2_10 f2_10 a2_10 qU qV (by omega)) (cwV 2 F.2.2.2.2.1 gX5_readTest_X5_blame rfl rfl rfl (by decide +kernel) ⟨Nat.le_of_ble_eq_true rfl, Nat.le_of_ble_eq_true rfl⟩) rfl rfl [0] [1, 2, 3, 4, 5, 6] [6, 0, 1, 2, 3, 4, 5] rfl rfl (by decide) (by decide) (by decide) (fun _ => rfl) (by decide) rfl (Nat.le_of_ble_eq_true rfl) dX5_readTest_43 ⟨Nat.le_of_ble_eq_true rfl, Nat.le_of_ble_eq_true rfl⟩ (fun u43 h43 => ?_)
      obtain ⟨f2_43, a2_43⟩ := u43
      try dsimp only at h43
      refine x_ws [(qE, .inr (5, [.ref qE_text, .int (jI vE_size), .int (jI n2_10), .int (jI f2_43), .int (jI a2_43), .ref qU, .ref qV])), aI kI qE_text 120 fE_text, (qV, .inr (6, [.ref qV_names, .ref qV_signs, .ref qV_numbers, .ref qV_tests, .ref qV_acts, .int (jI vV_clauses)])), aI kI qV_names 18 fV_names, aI kI qV_signs 18 fV_signs, aI kI qV_numbers 18 fV_numbers, aI kI qV_tests 6 fV_tests] rfl ?_
      obtain ⟨hb0_43, hb1_43⟩ := h43
      have hB : (f2_10 = 0 ∧ f2_43 = 3 ∧ a2_43 = n2_1) ∨ (¬ f2_10 = 0 ∧ f2_43 = f2_10 ∧ a2_43 = a2_10) := by
        by_cases q : f2_10 = 0
        · exact Or.inl ⟨q, hb0_43 q⟩
        · exact Or.inr ⟨q, hb1_43 q⟩
      clear hb0_43 hb1_43
      exact jn46 f2_43 a2_43 (by omega)
  · -- 16 f
    refine x_aload_n F dX5_readTest_19 rfl 0 rfl ?_
    refine x_iconst F dX5_readTest_20 ?_
    refine x_iload_n F dX5_readTest_21 rfl 2 rfl ?_
    refine x_callVv (ci := 5) (q0 := 0) (As := [.int (jI 4), .int (jI n2_1)]) (st := []) F (c_X5_blame D kI kJ l qE 4 n2_1 qE_text vE_size n2_10 f2_10 a2_10 qU qV (by omega)) (cwV 2 F.2.2.2.2.1 gX5_readTest_X5_blame rfl rfl rfl (by decide +kernel) ⟨Nat.le_of_ble_eq_true rfl, Nat.le_of_ble_eq_true rfl⟩) rfl rfl [0] [1, 2, 3, 4, 5, 6] [6, 0, 1, 2, 3, 4, 5] rfl rfl (by decide) (by decide) (by decide) (fun _ => rfl) (by decide) rfl (Nat.le_of_ble_eq_true rfl) dX5_readTest_22 ⟨Nat.le_of_ble_eq_true rfl, Nat.le_of_ble_eq_true rfl⟩ (fun u22 h22 => ?_)
    obtain ⟨f2_22, a2_22⟩ := u22
    try dsimp only at h22
    refine x_ws [(qE, .inr (5, [.ref qE_text, .int (jI vE_size), .int (jI n2_10), .int (jI f2_22), .int (jI a2_22), .ref qU, .ref qV])), aI kI qE_text 120 fE_text, (qV, .inr (6, [.ref qV_names, .ref qV_signs, .ref qV_numbers, .ref qV_tests, .ref qV_acts, .int (jI vV_clauses)])), aI kI qV_names 18 fV_names, aI kI qV_signs 18 fV_signs, aI kI qV_numbers 18 fV_numbers, aI kI qV_tests 6 fV_tests] rfl ?_
    obtain ⟨hb0_22, hb1_22⟩ := h22
    have hB : (f2_10 = 0 ∧ f2_22 = 4 ∧ a2_22 = n2_1) ∨ (¬ f2_10 = 0 ∧ f2_22 = f2_10 ∧ a2_22 = a2_10) := by
      by_cases q : f2_10 = 0
      · exact Or.inl ⟨q, hb0_22 q⟩
      · exact Or.inr ⟨q, hb1_22 q⟩
    clear hb0_22 hb1_22
    refine x_goto (tgt := 46) F dX5_readTest_25 (by decide) ?_
    exact jn46 f2_22 a2_22 (by omega)
