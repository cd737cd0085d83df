/-! facts that arithmetic need not see -/
/-- hidden from arithmetic -/
def Hd (P : Prop) : Prop := P
set_option maxHeartbeats 4000000 in
set_option maxRecDepth 100000 in
theorem c_X5_readClause (D : va_G) (kI kJ : Nat) (K V : Nat → Nat) (o : Option Nat) (l : Launch) (qE : Nat) (qE_text : Nat) (vE_size : Int) (vE_next : Int) (vE_fault : Int) (vE_faultAt : Int) (qU : Nat) (qV : Nat) (fE_text : (Int → Int)) (qV_names : Nat) (qV_signs : Nat) (qV_numbers : Nat) (qV_tests : Nat) (qV_acts : Nat) (vV_clauses : Int) (fV_names : (Int → Int)) (fV_signs : (Int → Int)) (fV_numbers : (Int → Int)) (fV_tests : (Int → Int)) (fV_acts : (Int → Int)) (hEs : 0 ≤ vE_size ∧ vE_size ≤ 120) (hEt : Rg fE_text 120 0 255) (hnx : 0 ≤ vE_next ∧ vE_next ≤ vE_size) (hf0 : vE_fault = 0) (hVc : 0 ≤ vV_clauses ∧ vV_clauses ≤ 6) (hVt : Rg fV_tests 6 0 3) (hVn : Rg fV_names 18 0 6) (hVs : Rg fV_signs 18 (-2147483648) 2147483647) (hVu : Rg fV_numbers 18 0 999) (hVa : Rg fV_acts 6 0 2) (hV0 : vV_clauses < 6 → fV_tests vV_clauses = 0) (hp : skp fE_text vE_size vE_next = vE_next) : yMv D kI kJ K V o l yX5_readClause wsX5_readClause 8 189 0 0 [.ref qE] [(qE, .inr (5, [.ref qE_text, .int (jI vE_size), .int (jI vE_next), .int (jI vE_fault), .int (jI vE_faultAt), .ref qU, .ref qV])), aI kI qE_text 120 fE_text, (qV, .inr (6, [.ref qV_names, .ref qV_signs, .ref qV_numbers, .ref qV_tests, .ref qV_acts, .int (jI vV_clauses)])), aI kI qV_names 18 fV_names, aI kI qV_signs 18 fV_signs, aI kI qV_numbers 18 fV_numbers, aI kI qV_tests 6 fV_tests, aI kI qV_acts 6 fV_acts] (fun (u : Int × Int × Int × Int × (Int → Int) × (Int → Int) × (Int → Int) × (Int → Int) × (Int → Int)) => (u.2.1 = clF fE_text vE_size vV_clauses vE_next) ∧ (¬ u.2.1 = 0 → u.2.2.1 = clA fE_text vE_size vV_clauses vE_next ∧ u.2.2.2.1 = vV_clauses) ∧ (u.2.1 = 0 → (u.2.2.1 = vE_faultAt ∧ u.1 = clZ fE_text vE_size vV_clauses vE_next + 1 ∧ vV_clauses < 6 ∧ u.2.2.2.1 = vV_clauses + 1) ∧ (u.2.2.2.2.2.2.2.1 vV_clauses = clJ fE_text vE_size vV_clauses vE_next + 1 ∧ u.2.2.2.2.2.2.2.2 vV_clauses = clB fE_text vE_size vV_clauses vE_next ∧ 0 ≤ clJ fE_text vE_size vV_clauses vE_next ∧ clJ fE_text vE_size vV_clauses vE_next ≤ 2) ∧ ∀ i : Int, 0 ≤ i → i < clJ fE_text vE_size vV_clauses vE_next + 1 → u.2.2.2.2.1 (vV_clauses * 3 + i) = tsN fE_text vE_size (clX fE_text vE_size vE_next i) ∧ u.2.2.2.2.2.1 (vV_clauses * 3 + i) = tsS fE_text vE_size (clX fE_text vE_size vE_next i) ∧ u.2.2.2.2.2.2.1 (vV_clauses * 3 + i) = tsV fE_text vE_size (clX fE_text vE_size vE_next i)) ∧ (((∀ k : Int, k < vV_clauses * 3 → u.2.2.2.2.1 k = fV_names k ∧ u.2.2.2.2.2.1 k = fV_signs k ∧ u.2.2.2.2.2.2.1 k = fV_numbers k) ∧ ∀ k : Int, ¬ k = vV_clauses → u.2.2.2.2.2.2.2.1 k = fV_tests k) ∧ Rg u.2.2.2.2.1 18 0 6 ∧ Rg u.2.2.2.2.2.1 18 (-2147483648) 2147483647 ∧ Rg u.2.2.2.2.2.2.1 18 0 999 ∧ Rg u.2.2.2.2.2.2.2.1 6 0 3) ∧ (∀ k : Int, ¬ k = vV_clauses → u.2.2.2.2.2.2.2.2 k = fV_acts k) ∧ (Rg u.2.2.2.2.2.2.2.2 6 0 2) ∧ (0 ≤ u.1 ∧ u.1 ≤ vE_size) ∧ (0 ≤ u.2.1 ∧ u.2.1 ≤ 4)) (fun (u : Int × Int × Int × Int × (Int → Int) × (Int → Int) × (Int → Int) × (Int → Int) × (Int → Int)) => [(qE, .inr (5, [.ref qE_text, .int (jI vE_size), .int (jI u.1), .int (jI u.2.1), .int (jI u.2.2.1), .ref qU, .ref qV])), aI kI qE_text 120 fE_text, (qV, .inr (6, [.ref qV_names, .ref qV_signs, .ref qV_numbers, .ref qV_tests, .ref qV_acts, .int (jI u.2.2.2.1)])), aI kI qV_names 18 u.2.2.2.2.1, aI kI qV_signs 18 u.2.2.2.2.2.1, aI kI qV_numbers 18 u.2.2.2.2.2.2.1, aI kI qV_tests 6 u.2.2.2.2.2.2.2.1, aI kI qV_acts 6 u.2.2.2.2.2.2.2.2]) := by
  refine yMv_of (cc := cX5_readClause) (maxL := 2) (by decide) rfl (Nat.le_of_ble_eq_true rfl) ?_
  intro p e s m args below meth c A Q F hY hin2 hret
  have hin5 : ∀ w ∈ wsX50, w ∈ wsX5_readClause := by decide +kernel
  have hw0 : Cond.fieldLink RX5 41 (TX5 3).1 (TX5 3).2.1 (TX5 3).2.2.1 ∈ wsX5_readClause := by decide +kernel
  have hw1 : Cond.fieldLink RX5 26 (TX5 6).1 (TX5 6).2.1 (TX5 6).2.2.1 ∈ wsX5_readClause := by decide +kernel
  have hw2 : Cond.fieldLink RX5 38 (TX5 2).1 (TX5 2).2.1 (TX5 2).2.2.1 ∈ wsX5_readClause := by decide +kernel
  refine x_lveq (lv' := [(0, .ref qE)]) rfl ?_
  refine x_aload_n F dX5_readClause_0 rfl 0 rfl ?_
  refine x_iconst F dX5_readClause_1 ?_
  refine y_callVv (ci := 5) (q0 := 0) (As := [.int (jI 0)]) (st := []) F hY (c_X5_readTest D kI kJ K V o l qE 0 qE_text vE_size vE_next vE_fault vE_faultAt qU qV fE_text qV_names qV_signs qV_numbers qV_tests qV_acts vV_clauses fV_names fV_signs fV_numbers fV_tests hEs hEt hnx hf0 hVc hVt (by omega) hV0 (fun _ => rfl)) (cwV 1 F.2.2.2.2.1 gX5_readClause_X5_readTest rfl rfl rfl (by decide +kernel) ⟨Nat.le_of_ble_eq_true rfl, Nat.le_of_ble_eq_true rfl⟩) rfl rfl [0, 1, 2, 3, 4, 5, 6] [7] [1, 2, 3, 4, 5, 6, 7, 0] rfl rfl (by decide) (by decide) (by decide) (fun _ => rfl) (by decide) rfl (Nat.le_of_ble_eq_true rfl) dX5_readClause_2 ⟨Nat.le_of_ble_eq_true rfl, Nat.le_of_ble_eq_true rfl⟩ (fun u2 h2 => ?_)
  obtain ⟨n2_2, f2_2, a2_2, nm2_2, sg2_2, nu2_2, te2_2⟩ := u2
  try dsimp only at h2
  refine x_ws [(qE, .inr (5, [.ref qE_text, .int (jI vE_size), .int (jI n2_2), .int (jI f2_2), .int (jI a2_2), .ref qU, .ref qV])), aI kI qE_text 120 fE_text, (qV, .inr (6, [.ref qV_names, .ref qV_signs, .ref qV_numbers, .ref qV_tests, .ref qV_acts, .int (jI vV_clauses)])), aI kI qV_names 18 nm2_2, aI kI qV_signs 18 sg2_2, aI kI qV_numbers 18 nu2_2, aI kI qV_tests 6 te2_2, aI kI qV_acts 6 fV_acts] rfl ?_
  obtain ⟨hF_2, h1_2, h0_2, hok_2, hnb_2, hfb_2⟩ := h2
  rw [hp] at hF_2 h1_2 h0_2 hok_2
  have hfr2 : ((∀ k : Int, k < vV_clauses * 3 → nm2_2 k = fV_names k ∧ sg2_2 k = fV_signs k ∧ nu2_2 k = fV_numbers k) ∧ ∀ k : Int, ¬ k = vV_clauses → te2_2 k = fV_tests k) ∧ Rg nm2_2 18 0 6 ∧ Rg sg2_2 18 (-2147483648) 2147483647 ∧ Rg nu2_2 18 0 999 ∧ Rg te2_2 6 0 3 := by
    by_cases q : f2_2 = 0
    · obtain ⟨⟨-, -, b3, b4⟩, e1, e2, e3, e4⟩ := h0_2 q
      obtain ⟨o1, o2, o3⟩ := hok_2 q
      rw [e1, e2, e3, e4]
      refine ⟨⟨fun k hk => ?_, fun k hk => ?_⟩, Rg.up hVn _ _ o1, Rg.up hVs _ _ (by omega), Rg.up hVu _ _ o3, Rg.up hVt _ _ (by omega)⟩
      · rw [iU_n (by omega), iU_n (by omega), iU_n (by omega)]; exact ⟨rfl, rfl, rfl⟩
      · exact iU_n hk
    · obtain ⟨-, e1, e2, e3, e4⟩ := h1_2 q
      rw [e1, e2, e3, e4]
      exact ⟨⟨fun k hk => ⟨rfl, rfl, rfl⟩, fun k hk => rfl⟩, hVn, hVs, hVu, hVt⟩
  have hinv2 : (f2_2 = 0 ∧ (a2_2 = vE_faultAt ∧ vV_clauses < 6 ∧ 1 ≤ (1 : Int) ∧ (1 : Int) ≤ 3 ∧ n2_2 = tsE fE_text vE_size (clX fE_text vE_size vE_next ((1 : Int) - 1)) ∧ te2_2 vV_clauses = (1 : Int) ∧ dG (clT fE_text vE_size vV_clauses vE_next) 100 ((1 : Int) - 1) < 0 ∧ tsF fE_text vE_size vV_clauses ((1 : Int) - 1) (clX fE_text vE_size vE_next ((1 : Int) - 1)) = 0) ∧ ∀ i : Int, 0 ≤ i → i < (1 : Int) → nm2_2 (vV_clauses * 3 + i) = tsN fE_text vE_size (clX fE_text vE_size vE_next i) ∧ sg2_2 (vV_clauses * 3 + i) = tsS fE_text vE_size (clX fE_text vE_size vE_next i) ∧ nu2_2 (vV_clauses * 3 + i) = tsV fE_text vE_size (clX fE_text vE_size vE_next i)) ∨ (¬ f2_2 = 0 ∧ f2_2 = clF fE_text vE_size vV_clauses vE_next ∧ a2_2 = clA fE_text vE_size vV_clauses vE_next) := by
    by_cases q : f2_2 = 0
    · obtain ⟨⟨b1, b2, b3, b4⟩, e1, e2, e3, e4⟩ := h0_2 q
      refine Or.inl ⟨q, ⟨b1, b3, by omega, by omega, b2, by rw [e4, iU_s]; rfl, by rw [show (1 : Int) - 1 = 0 by omega, dG_0]; omega, hF_2.symm.trans q⟩, fun i i0 i1 => ?_⟩
      obtain rfl : i = 0 := by omega
      rw [e1, e2, e3, iU_s, iU_s, iU_s]
      exact ⟨rfl, rfl, rfl⟩
    · have g := clF_test (tx := fE_text) (sz := vE_size) (c := vV_clauses) (p := vE_next) (j := 0) (by omega) (by rw [dG_0]; omega) (by rw [clX_0, ← hF_2]; exact q)
      exact Or.inr ⟨q, by rw [g.1]; exact hF_2, by rw [g.2]; exact (h1_2 q).1⟩
  change Hd _ at hF_2
  change Hd _ at h1_2
  change Hd _ at h0_2
  change Hd _ at hok_2
  refine x_iconst F dX5_readClause_5 ?_
  refine x_istore_n (lv' := [(0, .ref qE), (1, .int (jI 1))]) F dX5_readClause_6 rfl (by decide) [1, 0] rfl ?_
  have lp7 : ∀ (fu : Nat) (t9 : Int) (n9 : Int) (f9 : Int) (a9 : Int) (nm9 : (Int → Int)) (sg9 : (Int → Int)) (nu9 : (Int → Int)) (te9 : (Int → Int)) (ht9 : 1 ≤ t9 ∧ t9 ≤ 4) (hn9 : 0 ≤ n9 ∧ n9 ≤ vE_size) (hf9 : 0 ≤ f9 ∧ f9 ≤ 4) (hinv : (f9 = 0 ∧ (a9 = vE_faultAt ∧ vV_clauses < 6 ∧ 1 ≤ t9 ∧ t9 ≤ 3 ∧ n9 = tsE fE_text vE_size (clX fE_text vE_size vE_next (t9 - 1)) ∧ te9 vV_clauses = t9 ∧ dG (clT fE_text vE_size vV_clauses vE_next) 100 (t9 - 1) < 0 ∧ tsF fE_text vE_size vV_clauses (t9 - 1) (clX fE_text vE_size vE_next (t9 - 1)) = 0) ∧ ∀ i : Int, 0 ≤ i → i < t9 → nm9 (vV_clauses * 3 + i) = tsN fE_text vE_size (clX fE_text vE_size vE_next i) ∧ sg9 (vV_clauses * 3 + i) = tsS fE_text vE_size (clX fE_text vE_size vE_next i) ∧ nu9 (vV_clauses * 3 + i) = tsV fE_text vE_size (clX fE_text vE_size vE_next i)) ∨ (¬ f9 = 0 ∧ f9 = clF fE_text vE_size vV_clauses vE_next ∧ a9 = clA fE_text vE_size vV_clauses vE_next)) (gfr : ((∀ k : Int, k < vV_clauses * 3 → nm9 k = fV_names k ∧ sg9 k = fV_signs k ∧ nu9 k = fV_numbers k) ∧ ∀ k : Int, ¬ k = vV_clauses → te9 k = fV_tests k) ∧ Rg nm9 18 0 6 ∧ Rg sg9 18 (-2147483648) 2147483647 ∧ Rg nu9 18 0 999 ∧ Rg te9 6 0 3) (hm : 5 - t9 < (fu : Int)), xG D p l e (xRm 8 189 0 0) s m args below meth c 2 A Q 0 0 [(qE, .inr (5, [.ref qE_text, .int (jI vE_size), .int (jI n9), .int (jI f9), .int (jI a9), .ref qU, .ref qV])), aI kI qE_text 120 fE_text, (qV, .inr (6, [.ref qV_names, .ref qV_signs, .ref qV_numbers, .ref qV_tests, .ref qV_acts, .int (jI vV_clauses)])), aI kI qV_names 18 nm9, aI kI qV_signs 18 sg9, aI kI qV_numbers 18 nu9, aI kI qV_tests 6 te9, aI kI qV_acts 6 fV_acts] [(0, .ref qE), (1, .int (jI t9))] 7 [] := by
    intro fu
    induction fu with
    | zero =>
      intro t9 n9 f9 a9 nm9 sg9 nu9 te9 ht9 hn9 hf9 hinv gfr hm
      exact absurd hm (by omega)
    | succ fu ih7 =>
      intro t9 n9 f9 a9 nm9 sg9 nu9 te9 ht9 hn9 hf9 hinv gfr hm
      change Hd _ at hinv
      change Hd _ at gfr
      have jn49 : ∀ (n8 : Int) (f8 : Int) (a8 : Int) (nm8 : (Int → Int)) (sg8 : (Int → Int)) (nu8 : (Int → Int)) (te8 : (Int → Int)) (hn8 : 0 ≤ n8 ∧ n8 ≤ vE_size) (hf8 : 0 ≤ f8 ∧ f8 ≤ 4) (hC : (f8 = 0 ∧ (a8 = vE_faultAt ∧ vV_clauses < 6 ∧ (0 ≤ clJ fE_text vE_size vV_clauses vE_next ∧ clJ fE_text vE_size vV_clauses vE_next ≤ 2) ∧ n8 = clQ fE_text vE_size vV_clauses vE_next ∧ te8 vV_clauses = clJ fE_text vE_size vV_clauses vE_next + 1 ∧ clF fE_text vE_size vV_clauses vE_next = (if ¬ cha fE_text vE_size (clQ fE_text vE_size vV_clauses vE_next) = 61 then 1 else if clB fE_text vE_size vV_clauses vE_next < 0 then 1 else if ¬ cha fE_text vE_size (clZ fE_text vE_size vV_clauses vE_next) = 59 then 1 else 0) ∧ clA fE_text vE_size vV_clauses vE_next = (if ¬ cha fE_text vE_size (clQ fE_text vE_size vV_clauses vE_next) = 61 then clQ fE_text vE_size vV_clauses vE_next else if clB fE_text vE_size vV_clauses vE_next < 0 then clW fE_text vE_size vV_clauses vE_next else clZ fE_text vE_size vV_clauses vE_next)) ∧ ∀ i : Int, 0 ≤ i → i < clJ fE_text vE_size vV_clauses vE_next + 1 → nm8 (vV_clauses * 3 + i) = tsN fE_text vE_size (clX fE_text vE_size vE_next i) ∧ sg8 (vV_clauses * 3 + i) = tsS fE_text vE_size (clX fE_text vE_size vE_next i) ∧ nu8 (vV_clauses * 3 + i) = tsV fE_text vE_size (clX fE_text vE_size vE_next i)) ∨ (¬ f8 = 0 ∧ f8 = clF fE_text vE_size vV_clauses vE_next ∧ a8 = clA fE_text vE_size vV_clauses vE_next)) (gf8 : ((∀ k : Int, k < vV_clauses * 3 → nm8 k = fV_names k ∧ sg8 k = fV_signs k ∧ nu8 k = fV_numbers k) ∧ ∀ k : Int, ¬ k = vV_clauses → te8 k = fV_tests k) ∧ Rg nm8 18 0 6 ∧ Rg sg8 18 (-2147483648) 2147483647 ∧ Rg nu8 18 0 999 ∧ Rg te8 6 0 3), xG D p l e (xRm 8 189 0 0) s m args below meth c 2 A Q 0 0 [(qE, .inr (5, [.ref qE_text, .int (jI vE_size), .int (jI n8), .int (jI f8), .int (jI a8), .ref qU, .ref qV])), aI kI qE_text 120 fE_text, (qV, .inr (6, [.ref qV_names, .ref qV_signs, .ref qV_numbers, .ref qV_tests, .ref qV_acts, .int (jI vV_clauses)])), aI kI qV_names 18 nm8, aI kI qV_signs 18 sg8, aI kI qV_numbers 18 nu8, aI kI qV_tests 6 te8, aI kI qV_acts 6 fV_acts] [(0, .ref qE)] 49 [] := by
        intro n8 f8 a8 nm8 sg8 nu8 te8 hn8 hf8 hC gf8
        change Hd _ at hC
        change Hd _ at gf8
        refine x_aload_n F dX5_readClause_49 rfl 0 rfl ?_
        refine x_bipush F dX5_readClause_50 (by decide) ?_
        refine x_callVv (ci := 5) (q0 := 0) (As := [.int (jI 61)]) (st := []) F (c_X5_readSign D kI kJ l qE 61 qE_text vE_size n8 f8 a8 qU qV fE_text hEs hEt (by omega) (by omega) (by omega)) (cwV 1 F.2.2.2.2.1 gX5_readClause_X5_readSign rfl rfl rfl (by decide +kernel) ⟨Nat.le_of_ble_eq_true rfl, Nat.le_of_ble_eq_true rfl⟩) rfl rfl [0, 1] [2, 3, 4, 5, 6, 7] [6, 7, 0, 1, 2, 3, 4, 5] rfl rfl (by decide) (by decide) (by decide) (fun _ => rfl) (by decide) rfl (Nat.le_of_ble_eq_true rfl) dX5_readClause_52 ⟨Nat.le_of_ble_eq_true rfl, Nat.le_of_ble_eq_true rfl⟩ (fun u52 h52 => ?_)
        obtain ⟨n2_52, f2_52, a2_52⟩ := u52
        try dsimp only at h52
        refine x_ws [(qE, .inr (5, [.ref qE_text, .int (jI vE_size), .int (jI n2_52), .int (jI f2_52), .int (jI a2_52), .ref qU, .ref qV])), aI kI qE_text 120 fE_text, (qV, .inr (6, [.ref qV_names, .ref qV_signs, .ref qV_numbers, .ref qV_tests, .ref qV_acts, .int (jI vV_clauses)])), aI kI qV_names 18 nm8, aI kI qV_signs 18 sg8, aI kI qV_numbers 18 nu8, aI kI qV_tests 6 te8, aI kI qV_acts 6 fV_acts] rfl ?_
        obtain ⟨hs1_52, hs0_52, hnb_52, hfb_52⟩ := h52
        have hsr3 := skp_rng (tx := fE_text) (sz := vE_size) (i := n8) (by omega)
        change Hd _ at hs1_52
        change Hd _ at hs0_52
        refine x_aload_n F dX5_readClause_55 rfl 0 rfl ?_
        refine y_callVi (ci := 5) (q0 := 0) (As := []) (st := []) F hY (c_X5_readAct D kI kJ K V o l qE qE_text vE_size n2_52 f2_52 a2_52 qU qV fE_text hEs hEt (by omega) (by omega)) (cwV 0 F.2.2.2.2.1 gX5_readClause_X5_readAct rfl rfl rfl (by decide +kernel) ⟨Nat.le_of_ble_eq_true rfl, Nat.le_of_ble_eq_true rfl⟩) rfl rfl [0, 1] [2, 3, 4, 5, 6, 7] [6, 7, 0, 1, 2, 3, 4, 5] rfl rfl (by decide) (by decide) (by decide) (fun _ => rfl) (by decide) rfl (Nat.le_of_ble_eq_true rfl) dX5_readClause_56 ⟨Nat.le_of_ble_eq_true rfl, Nat.le_of_ble_eq_true rfl⟩ (fun z56 u56 h56 => ?_)
        obtain ⟨n2_56, f2_56, a2_56⟩ := u56
        try dsimp only at h56
        refine x_ws [(qE, .inr (5, [.ref qE_text, .int (jI vE_size), .int (jI n2_56), .int (jI f2_56), .int (jI a2_56), .ref qU, .ref qV])), aI kI qE_text 120 fE_text, (qV, .inr (6, [.ref qV_names, .ref qV_signs, .ref qV_numbers, .ref qV_tests, .ref qV_acts, .int (jI vV_clauses)])), aI kI qV_names 18 nm8, aI kI qV_signs 18 sg8, aI kI qV_numbers 18 nu8, aI kI qV_tests 6 te8, aI kI qV_acts 6 fV_acts] rfl ?_
        obtain ⟨he56, hn0_56, hn1_56, hg1_56, hg0_56, hnb_56, hfb_56⟩ := h56
        have he56 := he56.symm
        subst he56
        have hsr4 := skp_rng (tx := fE_text) (sz := vE_size) (i := n2_52) (by omega)
        change Hd _ at hn0_56
        change Hd _ at hn1_56
        change Hd _ at hg1_56
        change Hd _ at hg0_56
        refine x_istore_n (lv' := [(0, .ref qE), (1, .int (jI (acI fE_text (skp fE_text vE_size n2_52) (wde fE_text vE_size (skp fE_text vE_size n2_52)))))]) F dX5_readClause_59 rfl (by decide) [1, 0] rfl ?_
        refine x_aload_n F dX5_readClause_60 rfl 0 rfl ?_
        refine x_bipush F dX5_readClause_61 (by decide) ?_
        refine x_callVv (ci := 5) (q0 := 0) (As := [.int (jI 59)]) (st := []) F (c_X5_readSign D kI kJ l qE 59 qE_text vE_size n2_56 f2_56 a2_56 qU qV fE_text hEs hEt (by omega) (by omega) (by omega)) (cwV 1 F.2.2.2.2.1 gX5_readClause_X5_readSign rfl rfl rfl (by decide +kernel) ⟨Nat.le_of_ble_eq_true rfl, Nat.le_of_ble_eq_true rfl⟩) rfl rfl [0, 1] [2, 3, 4, 5, 6, 7] [6, 7, 0, 1, 2, 3, 4, 5] rfl rfl (by decide) (by decide) (by decide) (fun _ => rfl) (by decide) rfl (Nat.le_of_ble_eq_true rfl) dX5_readClause_63 ⟨Nat.le_of_ble_eq_true rfl, Nat.le_of_ble_eq_true rfl⟩ (fun u63 h63 => ?_)
        obtain ⟨n2_63, f2_63, a2_63⟩ := u63
        try dsimp only at h63
        refine x_ws [(qE, .inr (5, [.ref qE_text, .int (jI vE_size), .int (jI n2_63), .int (jI f2_63), .int (jI a2_63), .ref qU, .ref qV])), aI kI qE_text 120 fE_text, (qV, .inr (6, [.ref qV_names, .ref qV_signs, .ref qV_numbers, .ref qV_tests, .ref qV_acts, .int (jI vV_clauses)])), aI kI qV_names 18 nm8, aI kI qV_signs 18 sg8, aI kI qV_numbers 18 nu8, aI kI qV_tests 6 te8, aI kI qV_acts 6 fV_acts] rfl ?_
        obtain ⟨hs1_63, hs0_63, hnb_63, hfb_63⟩ := h63
        have hsr5 := skp_rng (tx := fE_text) (sz := vE_size) (i := n2_56) (by omega)
        change Hd _ at hs1_63
        change Hd _ at hs0_63
        have hst52 : ¬ f8 = 0 → f2_52 = f8 ∧ a2_52 = a8 := fun q => by
          by_cases q1 : cha fE_text vE_size (skp fE_text vE_size n8) = 61
          · exact (hs1_52 q1).2
          · exact (hs0_52 q1).2.2 q
        have hst56 : ¬ f2_52 = 0 → f2_56 = f2_52 ∧ a2_56 = a2_52 := fun q => by
          by_cases q1 : acI fE_text (skp fE_text vE_size n2_52) (wde fE_text vE_size (skp fE_text vE_size n2_52)) < 0
          · exact (hg0_56 q1).2 q
          · exact hg1_56 (by omega)
        have hst63 : ¬ f2_56 = 0 → f2_63 = f2_56 ∧ a2_63 = a2_56 := fun q => by
          by_cases q1 : cha fE_text vE_size (skp fE_text vE_size n2_56) = 59
          · exact (hs1_63 q1).2
          · exact (hs0_63 q1).2.2 q
        have hBr := acI_rng fE_text (clW fE_text vE_size vV_clauses vE_next) (wde fE_text vE_size (clW fE_text vE_size vV_clauses vE_next))
        have hfinC : f2_63 = clF fE_text vE_size vV_clauses vE_next ∧ (¬ f2_63 = 0 → a2_63 = clA fE_text vE_size vV_clauses vE_next) ∧ (f2_63 = 0 → a2_63 = vE_faultAt ∧ n2_63 = clZ fE_text vE_size vV_clauses vE_next + 1 ∧ vV_clauses < 6 ∧ te8 vV_clauses = clJ fE_text vE_size vV_clauses vE_next + 1 ∧ acI fE_text (skp fE_text vE_size n2_52) (wde fE_text vE_size (skp fE_text vE_size n2_52)) = clB fE_text vE_size vV_clauses vE_next ∧ (0 ≤ clB fE_text vE_size vV_clauses vE_next ∧ clB fE_text vE_size vV_clauses vE_next ≤ 2) ∧ (0 ≤ clJ fE_text vE_size vV_clauses vE_next ∧ clJ fE_text vE_size vV_clauses vE_next ≤ 2) ∧ ∀ i : Int, 0 ≤ i → i < clJ fE_text vE_size vV_clauses vE_next + 1 → nm8 (vV_clauses * 3 + i) = tsN fE_text vE_size (clX fE_text vE_size vE_next i) ∧ sg8 (vV_clauses * 3 + i) = tsS fE_text vE_size (clX fE_text vE_size vE_next i) ∧ nu8 (vV_clauses * 3 + i) = tsV fE_text vE_size (clX fE_text vE_size vE_next i)) := by
          rcases hC with ⟨q9, ⟨B1, B2, B3, B4, B5, B6, B7⟩, B8⟩ | ⟨q9, B1, B2⟩
          · have hq : skp fE_text vE_size n8 = n8 := by rw [B4]; exact skp_skp _ _ _
            rw [hq] at hs1_52 hs0_52
            by_cases q1 : cha fE_text vE_size n8 = 61
            · have g1 := hs1_52 q1
              have hW : skp fE_text vE_size n2_52 = clW fE_text vE_size vV_clauses vE_next := by rw [g1.1, B4]; rfl
              have zB : acI fE_text (skp fE_text vE_size n2_52) (wde fE_text vE_size (skp fE_text vE_size n2_52)) = clB fE_text vE_size vV_clauses vE_next := by rw [hW]; rfl
              have n1 : ¬ ¬ cha fE_text vE_size (clQ fE_text vE_size vV_clauses vE_next) = 61 := fun q => q (by rw [← B4]; exact q1)
              rw [if_neg n1] at B6 B7
              by_cases q2 : clB fE_text vE_size vV_clauses vE_next < 0
              · have g3 := (hg0_56 (by rw [zB]; exact q2)).1 (by omega)
                have g4 := hst63 (by omega)
                rw [if_pos q2] at B6 B7
                exact ⟨by omega, fun _ => by rw [g4.2, g3.2, B7, hW], fun q => by omega⟩
              · have g2 := hg1_56 (by rw [zB]; omega)
                have hZ : skp fE_text vE_size n2_56 = clZ fE_text vE_size vV_clauses vE_next := by rw [hn1_56 (by rw [zB]; omega), hW]; rfl
                rw [if_neg q2] at B6 B7
                by_cases q3 : cha fE_text vE_size (clZ fE_text vE_size vV_clauses vE_next) = 59
                · have g4 := hs1_63 (by rw [hZ]; exact q3)
                  rw [if_neg (fun q => q q3)] at B6
                  exact ⟨by omega, fun q => absurd (by omega) q, fun _ => ⟨by omega, by rw [g4.1, hZ], B2, B5, zB, ⟨by omega, hBr.2⟩, B3, B8⟩⟩
                · have g4 := (hs0_63 (by rw [hZ]; exact q3)).2.1 (by omega)
                  rw [if_pos q3] at B6
                  exact ⟨by omega, fun _ => by rw [g4.2, B7, hZ], fun q => by omega⟩
            · have g1 := (hs0_52 q1).2.1 q9
              have g2 := hst56 (by omega)
              have g3 := hst63 (by omega)
              have n1 : ¬ cha fE_text vE_size (clQ fE_text vE_size vV_clauses vE_next) = 61 := by rw [← B4]; exact q1
              rw [if_pos n1] at B6 B7
              exact ⟨by omega, fun _ => by rw [g3.2, g2.2, g1.2, B7, B4], fun q => by omega⟩
          · have g1 := hst52 q9
            have g2 := hst56 (by omega)
            have g3 := hst63 (by omega)
            exact ⟨by omega, fun _ => by omega, fun q => by omega⟩
        refine x_aload_n F dX5_readClause_66 rfl 0 rfl ?_
        refine x_get (ci := 5) F hin5 0 rfl rfl 3 (by decide) hw0 rfl dX5_readClause_67 ?_
        refine x_if_ne (tgt := 81) F dX5_readClause_70 (by decide) (by omega) (fun c70 => ?_) (fun c70 => ?_)
        · -- 70 t
          exact hret 0 0 81 _ (n2_63, f2_63, a2_63, vV_clauses, nm8, sg8, nu8, te8, fV_acts) (Nat.le_of_ble_eq_true rfl) (Nat.le_of_ble_eq_true rfl) dX5_readClause_81 (by (try dsimp only); exact (by exact ⟨hfinC.1, fun q => ⟨hfinC.2.1 q, rfl⟩, fun q => absurd q c70, gf8, fun k _ => rfl, hVa, by omega, by omega⟩))
        · -- 70 f
          have c70z : f2_63 = 0 := by omega
          obtain ⟨D1, D2, D3, D4, D5, D6, D7, D8⟩ := hfinC.2.2 c70z
          refine x_aload_n F dX5_readClause_73 rfl 0 rfl ?_
          refine x_get (ci := 5) F hin5 0 rfl rfl 6 (by decide) hw1 rfl dX5_readClause_74 ?_
          refine x_iload_n F dX5_readClause_77 rfl 1 rfl ?_
          refine x_callVv (ci := 6) (q0 := 2) (As := [.int (jI (acI fE_text (skp fE_text vE_size n2_52) (wde fE_text vE_size (skp fE_text vE_size n2_52))))]) (st := []) F (c_X6_endClause D kI kJ l qV (acI fE_text (skp fE_text vE_size n2_52) (wde fE_text vE_size (skp fE_text vE_size n2_52))) qV_names qV_signs qV_numbers qV_tests qV_acts vV_clauses fV_acts (by omega)) (cwV 1 F.2.2.2.2.1 gX5_readClause_X6_endClause rfl rfl rfl (by decide +kernel) ⟨Nat.le_of_ble_eq_true rfl, Nat.le_of_ble_eq_true rfl⟩) rfl rfl [2, 7] [0, 1, 3, 4, 5, 6] [0, 1, 6, 2, 3, 4, 5, 7] rfl rfl (by decide) (by decide) (by decide) (fun _ => rfl) (by decide) rfl (Nat.le_of_ble_eq_true rfl) dX5_readClause_78 ⟨Nat.le_of_ble_eq_true rfl, Nat.le_of_ble_eq_true rfl⟩ (fun u78 h78 => ?_)
          try dsimp only at h78
          refine x_ws [(qE, .inr (5, [.ref qE_text, .int (jI vE_size), .int (jI n2_63), .int (jI f2_63), .int (jI a2_63), .ref qU, .ref qV])), aI kI qE_text 120 fE_text, (qV, .inr (6, [.ref qV_names, .ref qV_signs, .ref qV_numbers, .ref qV_tests, .ref qV_acts, .int (jI (vV_clauses + 1))])), aI kI qV_names 18 nm8, aI kI qV_signs 18 sg8, aI kI qV_numbers 18 nu8, aI kI qV_tests 6 te8, aI kI qV_acts 6 (iU fV_acts vV_clauses (acI fE_text (skp fE_text vE_size n2_52) (wde fE_text vE_size (skp fE_text vE_size n2_52))))] rfl ?_
          exact hret 0 0 81 _ (n2_63, f2_63, a2_63, (vV_clauses + 1), nm8, sg8, nu8, te8, (iU fV_acts vV_clauses (acI fE_text (skp fE_text vE_size n2_52) (wde fE_text vE_size (skp fE_text vE_size n2_52))))) (Nat.le_of_ble_eq_true rfl) (Nat.le_of_ble_eq_true rfl) dX5_readClause_81 (by (try dsimp only); exact (by exact ⟨hfinC.1, fun q => absurd c70z q, fun _ => ⟨⟨by rw [D1], D2, D3, rfl⟩, ⟨D4, by rw [iU_s, D5], D7.1, D7.2⟩, D8⟩, gf8, fun k hk => by rw [iU_n hk], Rg.up hVa _ _ (by rw [D5]; omega), by omega, by omega⟩))
      refine x_iload_n F dX5_readClause_7 rfl 1 rfl ?_
      refine x_iconst F dX5_readClause_8 ?_
      refine x_icmp_gt (tgt := 49) F dX5_readClause_9 (by decide) (by omega) (fun c9 => ?_) (fun c9 => ?_)
      · -- 9 t
        have hB : ¬ f9 = 0 ∧ f9 = clF fE_text vE_size vV_clauses vE_next ∧ a9 = clA fE_text vE_size vV_clauses vE_next := hinv.elim (fun q => by have := q.2.1; omega) id
        refine x_lv (lv' := [(0, .ref qE)]) [0] rfl ?_
        exact jn49 n9 f9 a9 nm9 sg9 nu9 te9 (by omega) (by omega) (Or.inr hB) gfr
      · -- 9 f
        refine x_aload_n F dX5_readClause_12 rfl 0 rfl ?_
        refine x_get (ci := 5) F hin5 0 rfl rfl 3 (by decide) hw0 rfl dX5_readClause_13 ?_
        refine x_if_ne (tgt := 49) F dX5_readClause_16 (by decide) (by omega) (fun c16 => ?_) (fun c16 => ?_)
        · -- 16 t
          have hB : ¬ f9 = 0 ∧ f9 = clF fE_text vE_size vV_clauses vE_next ∧ a9 = clA fE_text vE_size vV_clauses vE_next := hinv.elim (fun q => absurd q.1 c16) id
          refine x_lv (lv' := [(0, .ref qE)]) [0] rfl ?_
          exact jn49 n9 f9 a9 nm9 sg9 nu9 te9 (by omega) (by omega) (Or.inr hB) gfr
        · -- 16 f
          have c16z : f9 = 0 := by omega
          obtain ⟨-, ⟨A1, A2, A3, A3b, A4, A6, A7, A8⟩, A9⟩ := hinv.elim id (fun q => absurd c16z q.1)
          refine x_aload_n F dX5_readClause_19 rfl 0 rfl ?_
          refine x_bipush F dX5_readClause_20 (by decide) ?_
          refine x_callVi (ci := 5) (q0 := 0) (As := [.int (jI 38)]) (st := []) F (c_X5_isNext D kI kJ l qE 38 qE_text vE_size n9 f9 a9 qU qV fE_text hEs hEt (by omega) (by omega)) (cwV 1 F.2.2.2.2.1 gX5_readClause_X5_isNext rfl rfl rfl (by decide +kernel) ⟨Nat.le_of_ble_eq_true rfl, Nat.le_of_ble_eq_true rfl⟩) rfl rfl [0, 1] [2, 3, 4, 5, 6, 7] [6, 7, 0, 1, 2, 3, 4, 5] rfl rfl (by decide) (by decide) (by decide) (fun _ => rfl) (by decide) rfl (Nat.le_of_ble_eq_true rfl) dX5_readClause_22 ⟨Nat.le_of_ble_eq_true rfl, Nat.le_of_ble_eq_true rfl⟩ (fun z22 u22 h22 => ?_)
          obtain ⟨n2_22, rfl⟩ : ∃ z, z = u22 := ⟨_, rfl⟩
          try dsimp only at h22
          refine x_ws [(qE, .inr (5, [.ref qE_text, .int (jI vE_size), .int (jI n2_22), .int (jI f9), .int (jI a9), .ref qU, .ref qV])), aI kI qE_text 120 fE_text, (qV, .inr (6, [.ref qV_names, .ref qV_signs, .ref qV_numbers, .ref qV_tests, .ref qV_acts, .int (jI vV_clauses)])), aI kI qV_names 18 nm9, aI kI qV_signs 18 sg9, aI kI qV_numbers 18 nu9, aI kI qV_tests 6 te9, aI kI qV_acts 6 fV_acts] rfl ?_
          obtain ⟨hb22, hn_22⟩ := h22
          have hsr2 := skp_rng (tx := fE_text) (sz := vE_size) (i := n9) (by omega)
          rw [← hn_22] at hsr2
          refine x_beq (tgt := 49) F dX5_readClause_25 (by decide) hb22 (fun c25 => ?_) (fun c25 => ?_)
          · -- 25 t
            have hJ := clJ_last (tx := fE_text) (sz := vE_size) (c := vV_clauses) (p := vE_next) (j := t9 - 1) (by omega) A7 (by rw [← A4, ← hn_22]; exact c25)
            obtain ⟨r1, r2, r3⟩ := clF_rest hJ A8
            have hCC : (f9 = 0 ∧ (a9 = vE_faultAt ∧ vV_clauses < 6 ∧ (0 ≤ clJ fE_text vE_size vV_clauses vE_next ∧ clJ fE_text vE_size vV_clauses vE_next ≤ 2) ∧ n2_22 = clQ fE_text vE_size vV_clauses vE_next ∧ te9 vV_clauses = clJ fE_text vE_size vV_clauses vE_next + 1 ∧ clF fE_text vE_size vV_clauses vE_next = (if ¬ cha fE_text vE_size (clQ fE_text vE_size vV_clauses vE_next) = 61 then 1 else if clB fE_text vE_size vV_clauses vE_next < 0 then 1 else if ¬ cha fE_text vE_size (clZ fE_text vE_size vV_clauses vE_next) = 59 then 1 else 0) ∧ clA fE_text vE_size vV_clauses vE_next = (if ¬ cha fE_text vE_size (clQ fE_text vE_size vV_clauses vE_next) = 61 then clQ fE_text vE_size vV_clauses vE_next else if clB fE_text vE_size vV_clauses vE_next < 0 then clW fE_text vE_size vV_clauses vE_next else clZ fE_text vE_size vV_clauses vE_next)) ∧ ∀ i : Int, 0 ≤ i → i < clJ fE_text vE_size vV_clauses vE_next + 1 → nm9 (vV_clauses * 3 + i) = tsN fE_text vE_size (clX fE_text vE_size vE_next i) ∧ sg9 (vV_clauses * 3 + i) = tsS fE_text vE_size (clX fE_text vE_size vE_next i) ∧ nu9 (vV_clauses * 3 + i) = tsV fE_text vE_size (clX fE_text vE_size vE_next i)) ∨ (¬ f9 = 0 ∧ f9 = clF fE_text vE_size vV_clauses vE_next ∧ a9 = clA fE_text vE_size vV_clauses vE_next) := Or.inl ⟨c16z, ⟨A1, A2, by omega, by rw [hn_22, A4, r1], by rw [hJ, A6]; omega, r2, r3⟩, fun i i0 i1 => A9 i i0 (by omega)⟩
            refine x_lv (lv' := [(0, .ref qE)]) [0] rfl ?_
            exact jn49 n2_22 f9 a9 nm9 sg9 nu9 te9 (by omega) (by omega) hCC gfr
          · -- 25 f
            have hlt9 : n2_22 < vE_size := by
              by_cases q : n2_22 < vE_size
              · exact q
              · exfalso
                have e : cha fE_text vE_size n2_22 = -1 := by unfold cha; rw [if_neg q]
                omega
            refine x_aload_n F dX5_readClause_28 rfl 0 rfl ?_
            refine x_dup F dX5_readClause_29 rfl ?_
            refine x_get (ci := 5) F hin5 0 rfl rfl 2 (by decide) hw2 rfl dX5_readClause_30 ?_
            refine x_iconst F dX5_readClause_33 ?_
            refine x_iadd F dX5_readClause_34 ?_
            refine x_put (ci := 5) F hin5 tyX5_ok nmX5 0 rfl rfl 2 (by decide) hw2 rfl rfl rfl (show 2 + 1 ≤ _ from Nat.le_of_ble_eq_true rfl) dX5_readClause_35 [(qE, .inr (5, [.ref qE_text, .int (jI vE_size), .int (jI (n2_22 + 1)), .int (jI f9), .int (jI a9), .ref qU, .ref qV])), aI kI qE_text 120 fE_text, (qV, .inr (6, [.ref qV_names, .ref qV_signs, .ref qV_numbers, .ref qV_tests, .ref qV_acts, .int (jI vV_clauses)])), aI kI qV_names 18 nm9, aI kI qV_signs 18 sg9, aI kI qV_numbers 18 nu9, aI kI qV_tests 6 te9, aI kI qV_acts 6 fV_acts] rfl ?_
            refine x_aload_n F dX5_readClause_38 rfl 0 rfl ?_
            refine x_iload_n F dX5_readClause_39 rfl 1 rfl ?_
            refine y_callVv (ci := 5) (q0 := 0) (As := [.int (jI t9)]) (st := []) F hY (c_X5_readTest D kI kJ K V o l qE t9 qE_text vE_size (n2_22 + 1) f9 a9 qU qV fE_text qV_names qV_signs qV_numbers qV_tests qV_acts vV_clauses nm9 sg9 nu9 te9 hEs hEt (by omega) (by omega) hVc gfr.2.2.2.2 (by omega) (fun _ => A6) (fun q => by omega)) (cwV 1 F.2.2.2.2.1 gX5_readClause_X5_readTest rfl rfl rfl (by decide +kernel) ⟨Nat.le_of_ble_eq_true rfl, Nat.le_of_ble_eq_true rfl⟩) rfl rfl [0, 1, 2, 3, 4, 5, 6] [7] [1, 2, 3, 4, 5, 6, 7, 0] rfl rfl (by decide) (by decide) (by decide) (fun _ => rfl) (by decide) rfl (Nat.le_of_ble_eq_true rfl) dX5_readClause_40 ⟨Nat.le_of_ble_eq_true rfl, Nat.le_of_ble_eq_true rfl⟩ (fun u40 h40 => ?_)
            obtain ⟨n2_40, f2_40, a2_40, nm2_40, sg2_40, nu2_40, te2_40⟩ := u40
            try dsimp only at h40
            refine x_ws [(qE, .inr (5, [.ref qE_text, .int (jI vE_size), .int (jI n2_40), .int (jI f2_40), .int (jI a2_40), .ref qU, .ref qV])), aI kI qE_text 120 fE_text, (qV, .inr (6, [.ref qV_names, .ref qV_signs, .ref qV_numbers, .ref qV_tests, .ref qV_acts, .int (jI vV_clauses)])), aI kI qV_names 18 nm2_40, aI kI qV_signs 18 sg2_40, aI kI qV_numbers 18 nu2_40, aI kI qV_tests 6 te2_40, aI kI qV_acts 6 fV_acts] rfl ?_
            obtain ⟨hF_40, h1_40, h0_40, hok_40, hnb_40, hfb_40⟩ := h40
            have hX9 : skp fE_text vE_size (n2_22 + 1) = (clX fE_text vE_size vE_next t9) := by rw [hn_22, A4]; have e := clX_s (tx := fE_text) (sz := vE_size) (p := vE_next) (j := t9 - 1) (by omega); rw [show t9 - 1 + 1 = t9 by omega] at e; exact e.symm
            rw [hX9] at hF_40 h1_40 h0_40 hok_40
            have hfr40 : ((∀ k : Int, k < vV_clauses * 3 → nm2_40 k = fV_names k ∧ sg2_40 k = fV_signs k ∧ nu2_40 k = fV_numbers k) ∧ ∀ k : Int, ¬ k = vV_clauses → te2_40 k = fV_tests k) ∧ Rg nm2_40 18 0 6 ∧ Rg sg2_40 18 (-2147483648) 2147483647 ∧ Rg nu2_40 18 0 999 ∧ Rg te2_40 6 0 3 := by
              by_cases q : f2_40 = 0
              · obtain ⟨⟨-, -, b3, b4⟩, e1, e2, e3, e4⟩ := h0_40 q
                obtain ⟨o1, o2, o3⟩ := hok_40 q
                rw [e1, e2, e3, e4]
                refine ⟨⟨fun k hk => ?_, fun k hk => ?_⟩, Rg.up gfr.2.1 _ _ o1, Rg.up gfr.2.2.1 _ _ (by omega), Rg.up gfr.2.2.2.1 _ _ o3, Rg.up gfr.2.2.2.2 _ _ (by omega)⟩
                · rw [iU_n (by omega), iU_n (by omega), iU_n (by omega)]; exact gfr.1.1 k hk
                · rw [iU_n hk]; exact gfr.1.2 k hk
              · obtain ⟨-, e1, e2, e3, e4⟩ := h1_40 q
                rw [e1, e2, e3, e4]
                exact gfr
            have hq38 : cha fE_text vE_size (skp fE_text vE_size (tsE fE_text vE_size (clX fE_text vE_size vE_next (t9 - 1)))) = 38 := by rw [← A4, ← hn_22]; exact c25
            have hdn : dG (clT fE_text vE_size vV_clauses vE_next) 100 t9 < 0 := by have e := clT_go (by omega) A7 A8 hq38; rw [show t9 - 1 + 1 = t9 by omega] at e; exact e
            have hinv40 : (f2_40 = 0 ∧ (a2_40 = vE_faultAt ∧ vV_clauses < 6 ∧ 1 ≤ (t9 + 1) ∧ (t9 + 1) ≤ 3 ∧ n2_40 = tsE fE_text vE_size (clX fE_text vE_size vE_next ((t9 + 1) - 1)) ∧ te2_40 vV_clauses = (t9 + 1) ∧ dG (clT fE_text vE_size vV_clauses vE_next) 100 ((t9 + 1) - 1) < 0 ∧ tsF fE_text vE_size vV_clauses ((t9 + 1) - 1) (clX fE_text vE_size vE_next ((t9 + 1) - 1)) = 0) ∧ ∀ i : Int, 0 ≤ i → i < (t9 + 1) → nm2_40 (vV_clauses * 3 + i) = tsN fE_text vE_size (clX fE_text vE_size vE_next i) ∧ sg2_40 (vV_clauses * 3 + i) = tsS fE_text vE_size (clX fE_text vE_size vE_next i) ∧ nu2_40 (vV_clauses * 3 + i) = tsV fE_text vE_size (clX fE_text vE_size vE_next i)) ∨ (¬ f2_40 = 0 ∧ f2_40 = clF fE_text vE_size vV_clauses vE_next ∧ a2_40 = clA fE_text vE_size vV_clauses vE_next) := by
              by_cases q : f2_40 = 0
              · obtain ⟨⟨b1, b2, b3, b4⟩, e1, e2, e3, e4⟩ := h0_40 q
                rw [show t9 + 1 - 1 = t9 by omega]
                refine Or.inl ⟨q, ⟨by rw [b1, A1], b3, by omega, by omega, b2, by rw [e4, iU_s], hdn, hF_40.symm.trans q⟩, fun i i0 i1 => ?_⟩
                rw [e1, e2, e3]
                by_cases e : i = t9
                · rw [e, iU_s, iU_s, iU_s]; exact ⟨rfl, rfl, rfl⟩
                · rw [iU_n (by omega), iU_n (by omega), iU_n (by omega)]; exact A9 i i0 (by omega)
              · have g := clF_test (tx := fE_text) (sz := vE_size) (c := vV_clauses) (p := vE_next) (j := t9) (by omega) hdn (by rw [← hF_40]; exact q)
                exact Or.inr ⟨q, by rw [g.1]; exact hF_40, by rw [g.2]; exact (h1_40 q).1⟩
            change Hd _ at hF_40
            change Hd _ at h1_40
            change Hd _ at h0_40
            change Hd _ at hok_40
            refine x_iinc (lv' := [(0, .ref qE), (1, .int (jI (t9 + 1)))]) (k := 1) F dX5_readClause_43 rfl (by decide) [1, 0] rfl ?_
            refine x_goto (tgt := 7) F dX5_readClause_46 (by decide) ?_
            exact ih7 (t9 + 1) n2_40 f2_40 a2_40 nm2_40 sg2_40 nu2_40 te2_40 (by omega) (by omega) (by omega) hinv40 hfr40 (by omega)
  exact lp7 (Int.toNat (5 - 1) + 1) 1 n2_2 f2_2 a2_2 nm2_2 sg2_2 nu2_2 te2_2 (by omega) (by omega) (by omega) hinv2 hfr2 (by omega)
