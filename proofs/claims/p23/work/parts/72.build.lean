set_option maxHeartbeats 4000000 in
set_option maxRecDepth 100000 in
theorem c_L_build (D : va_G) (kI kJ : Nat) (bS L : Nat) (xs : Nat → Int32) (l : Launch) (qK : Nat) (most : Int) (qM : Nat) (qC : Nat) (qL : Nat) (qFr : Nat) (qE : Nat) (qK_facts : Nat) (qN : Nat) (qS : Nat) (qM_stones : Nat) (qM_laid : Nat) (qM_deeps : Nat) (qM_rates : Nat) (qP : Nat) (qT : Nat) (qM_dangers : Nat) (qM_losses : Nat) (vM_limit : Int) (fM_stones : (Int → Int)) (fM_laid : (Int → Int)) (fM_deeps : (Int → Int)) (fM_rates : (Int → Int)) (qP_blocks : Nat) (qP_years : Nat) (qP_values : Nat) (qP_since : Nat) (fP_blocks : (Int → Int)) (fP_years : (Int → Int)) (fP_values : (Int → Int)) (qT_blocks : Nat) (qT_years : Nat) (qT_values : Nat) (qT_since : Nat) (fT_blocks : (Int → Int)) (fT_years : (Int → Int)) (fT_values : (Int → Int)) (h0st : Rg fM_stones 30 0 3) (h0la : Rg fM_laid 30 0 400) (h0de : Rg fM_deeps 30 0 2000) (h0pb : Rg fP_blocks 60 0 29) (h0py : Rg fP_years 60 0 400) (h0pv : Rg fP_values 60 0 127) (h0tb : Rg fT_blocks 60 0 29) (h0ty : Rg fT_years 60 0 400) (h0tv : Rg fT_values 60 0 1) (h0ra : Rg fM_rates 64 0 50) (hmo : 1 ≤ most ∧ most ≤ 5) : yMi D kI kJ bS L xs l yL_build wsL_build 4 102 0 0 [.ref qK, .ref bS, .int (jI most)] [(qK, .inr (9, [.ref qM, .ref qC, .ref qL, .ref qFr, .ref qE, .ref qK_facts, .ref qN, .ref qS])), (qM, .inr (3, [.ref qM_stones, .ref qM_laid, .ref qM_deeps, .ref qM_rates, .ref qP, .ref qT, .ref qM_dangers, .ref qM_losses, .int (jI 0), .int (jI vM_limit)])), aI kI qM_stones 30 fM_stones, aI kI qM_laid 30 fM_laid, aI kI qM_deeps 30 fM_deeps, aI kI qM_rates 64 fM_rates, (qP, .inr (7, [.ref qP_blocks, .ref qP_years, .ref qP_values, .ref qP_since, .int (jI 0)])), aI kI qP_blocks 60 fP_blocks, aI kI qP_years 60 fP_years, aI kI qP_values 60 fP_values, (qT, .inr (7, [.ref qT_blocks, .ref qT_years, .ref qT_values, .ref qT_since, .int (jI 0)])), aI kI qT_blocks 60 fT_blocks, aI kI qT_years 60 fT_years, aI kI qT_values 60 fT_values] (fun (z : Int) (u : Int × Int × Int × (Int → Int) × (Int → Int) × (Int → Int) × (Int → Int) × (Int → Int) × (Int → Int) × (Int → Int) × (Int → Int) × (Int → Int) × (Int → Int)) => ((1 ≤ z ∧ z ≤ 5) ∧ u.1 = z) ∧ (∀ j : Int, 0 ≤ j → j < 64 → u.2.2.2.1 j = rF L xs j) ∧ (Rg u.2.2.2.1 64 0 50) ∧ (0 ≤ u.2.1 ∧ u.2.1 ≤ 60) ∧ (0 ≤ u.2.2.1 ∧ u.2.2.1 ≤ 60) ∧ (Rg u.2.2.2.2.1 30 0 3) ∧ (Rg u.2.2.2.2.2.1 30 0 400) ∧ (Rg u.2.2.2.2.2.2.1 30 0 2000) ∧ (Rg u.2.2.2.2.2.2.2.1 60 0 29) ∧ (Rg u.2.2.2.2.2.2.2.2.1 60 0 400) ∧ (Rg u.2.2.2.2.2.2.2.2.2.1 60 0 127) ∧ (Rg u.2.2.2.2.2.2.2.2.2.2.1 60 0 29) ∧ (Rg u.2.2.2.2.2.2.2.2.2.2.2.1 60 0 400) ∧ (Rg u.2.2.2.2.2.2.2.2.2.2.2.2 60 0 1)) (fun (u : Int × Int × Int × (Int → Int) × (Int → Int) × (Int → Int) × (Int → Int) × (Int → Int) × (Int → Int) × (Int → Int) × (Int → Int) × (Int → Int) × (Int → Int)) => [(qK, .inr (9, [.ref qM, .ref qC, .ref qL, .ref qFr, .ref qE, .ref qK_facts, .ref qN, .ref qS])), (qM, .inr (3, [.ref qM_stones, .ref qM_laid, .ref qM_deeps, .ref qM_rates, .ref qP, .ref qT, .ref qM_dangers, .ref qM_losses, .int (jI u.1), .int (jI vM_limit)])), aI kI qM_stones 30 u.2.2.2.2.1, aI kI qM_laid 30 u.2.2.2.2.2.1, aI kI qM_deeps 30 u.2.2.2.2.2.2.1, aI kI qM_rates 64 u.2.2.2.1, (qP, .inr (7, [.ref qP_blocks, .ref qP_years, .ref qP_values, .ref qP_since, .int (jI u.2.1)])), aI kI qP_blocks 60 u.2.2.2.2.2.2.2.1, aI kI qP_years 60 u.2.2.2.2.2.2.2.2.1, aI kI qP_values 60 u.2.2.2.2.2.2.2.2.2.1, (qT, .inr (7, [.ref qT_blocks, .ref qT_years, .ref qT_values, .ref qT_since, .int (jI u.2.2.1)])), aI kI qT_blocks 60 u.2.2.2.2.2.2.2.2.2.2.1, aI kI qT_years 60 u.2.2.2.2.2.2.2.2.2.2.2.1, aI kI qT_values 60 u.2.2.2.2.2.2.2.2.2.2.2.2]) := by
  refine yMi_of (cc := cL_build) (maxL := 9) (rt := .int) (by decide) rfl (Nat.le_of_ble_eq_true rfl) (fun _ _ _ => rfl) ?_
  intro p e s m args below meth c A Q F hY hin2 hret
  have hw0 : Cond.constant RL 13 2147483647 ∈ wsL_build := by decide +kernel
  refine x_lveq (lv' := [(0, .ref qK), (1, .ref bS), (2, .int (jI most))]) rfl ?_
  have hL9 := hY.2.2.2
  have hn0 := sX_rng (L := L) (xs := xs) (k := 0) (most := most) (by omega)
  refine x_iconst F dL_build_0 ?_
  refine x_aload_n F dL_build_1 rfl 1 rfl ?_
  refine x_iconst F dL_build_2 ?_
  refine x_iload_n F dL_build_3 rfl 2 rfl ?_
  refine y_callSi (As := [.ref bS, .int (jI 0), .int (jI most)]) (st := [.int (jI 1)]) F hY (c_L_some D kI kJ bS L xs l 0 most (by omega) (by omega)) (va_cwS 3 F.2.2.2.2.1 gL_build_L_some rfl rfl rfl (by decide +kernel) ⟨Nat.le_of_ble_eq_true rfl, Nat.le_of_ble_eq_true rfl⟩) [] [0, 1, 2, 3, 4, 5, 6, 7, 8, 9, 10, 11, 12, 13] [0, 1, 2, 3, 4, 5, 6, 7, 8, 9, 10, 11, 12, 13] rfl rfl (by decide) (by decide) (by decide) (fun _ => rfl) (by decide) rfl (Nat.le_of_ble_eq_true rfl) dL_build_4 ⟨Nat.le_of_ble_eq_true rfl, Nat.le_of_ble_eq_true rfl⟩ (fun z4 u4 h4 => ?_)
  try dsimp only at h4
  refine x_ws [(qK, .inr (9, [.ref qM, .ref qC, .ref qL, .ref qFr, .ref qE, .ref qK_facts, .ref qN, .ref qS])), (qM, .inr (3, [.ref qM_stones, .ref qM_laid, .ref qM_deeps, .ref qM_rates, .ref qP, .ref qT, .ref qM_dangers, .ref qM_losses, .int (jI 0), .int (jI vM_limit)])), aI kI qM_stones 30 fM_stones, aI kI qM_laid 30 fM_laid, aI kI qM_deeps 30 fM_deeps, aI kI qM_rates 64 fM_rates, (qP, .inr (7, [.ref qP_blocks, .ref qP_years, .ref qP_values, .ref qP_since, .int (jI 0)])), aI kI qP_blocks 60 fP_blocks, aI kI qP_years 60 fP_years, aI kI qP_values 60 fP_values, (qT, .inr (7, [.ref qT_blocks, .ref qT_years, .ref qT_values, .ref qT_since, .int (jI 0)])), aI kI qT_blocks 60 fT_blocks, aI kI qT_years 60 fT_years, aI kI qT_values 60 fT_values] rfl ?_
  have he4 := h4
  have he4 := he4.symm
  subst he4
  refine x_iadd F dL_build_7 ?_
  refine x_istore_n (lv' := [(0, .ref qK), (1, .ref bS), (2, .int (jI most)), (3, .int (jI (1 + (sX L xs 0 most))))]) F dL_build_8 rfl (by decide) [1, 2, 3, 0] rfl ?_
  refine x_iconst F dL_build_9 ?_
  refine x_istore (lv' := [(0, .ref qK), (1, .ref bS), (2, .int (jI most)), (3, .int (jI (1 + (sX L xs 0 most)))), (4, .int (jI 0))]) F dL_build_10 (by decide) [1, 2, 3, 4, 0] rfl ?_
  have lp12 : ∀ (fu : Nat) (k : Int) (rr : (Int → Int)) (hk : 0 ≤ k ∧ k ≤ 64) (hrr : ∀ j : Int, 0 ≤ j → j < k → rr j = rF L xs j) (hrg : Rg rr 64 0 50) (hm : 64 - k < (fu : Int)), xG D p l e (xRm 4 102 0 0) s m args below meth c 9 A Q 0 0 [(qK, .inr (9, [.ref qM, .ref qC, .ref qL, .ref qFr, .ref qE, .ref qK_facts, .ref qN, .ref qS])), (qM, .inr (3, [.ref qM_stones, .ref qM_laid, .ref qM_deeps, .ref qM_rates, .ref qP, .ref qT, .ref qM_dangers, .ref qM_losses, .int (jI 0), .int (jI vM_limit)])), aI kI qM_stones 30 fM_stones, aI kI qM_laid 30 fM_laid, aI kI qM_deeps 30 fM_deeps, aI kI qM_rates 64 rr, (qP, .inr (7, [.ref qP_blocks, .ref qP_years, .ref qP_values, .ref qP_since, .int (jI 0)])), aI kI qP_blocks 60 fP_blocks, aI kI qP_years 60 fP_years, aI kI qP_values 60 fP_values, (qT, .inr (7, [.ref qT_blocks, .ref qT_years, .ref qT_values, .ref qT_since, .int (jI 0)])), aI kI qT_blocks 60 fT_blocks, aI kI qT_years 60 fT_years, aI kI qT_values 60 fT_values] [(0, .ref qK), (1, .ref bS), (2, .int (jI most)), (3, .int (jI (1 + (sX L xs 0 most)))), (4, .int (jI k))] 12 [] := by
    intro fu
    induction fu with
    | zero =>
      intro k rr hk hrr hrg hm
      exact absurd hm (by omega)
    | succ fu ih12 =>
      intro k rr hk hrr hrg hm
      have hrf := rF_rng L xs k
      have hcx := cX_rng L xs (1 + k % 17)
      refine x_iload F dL_build_12 4 rfl ?_
      refine x_bipush F dL_build_14 (by decide) ?_
      refine x_icmp_ge (tgt := 69) F dL_build_16 (by decide) (by omega) (fun c16 => ?_) (fun c16 => ?_)
      · -- 16 t
        refine x_iconst F dL_build_69 ?_
        refine x_istore (lv' := [(0, .ref qK), (1, .ref bS), (2, .int (jI most)), (3, .int (jI (1 + (sX L xs 0 most)))), (4, .int (jI 0))]) F dL_build_70 (by decide) [1, 2, 3, 4, 0] rfl ?_
        have lp72 : ∀ (fu : Nat) (b : Int) (pn : Int) (tn : Int) (st : (Int → Int)) (la : (Int → Int)) (de : (Int → Int)) (pb : (Int → Int)) (py : (Int → Int)) (pv : (Int → Int)) (tb : (Int → Int)) (ty : (Int → Int)) (tv : (Int → Int)) (hb : 0 ≤ b ∧ b ≤ (1 + (sX L xs 0 most))) (gpn : 0 ≤ pn ∧ pn ≤ 60) (gtn : 0 ≤ tn ∧ tn ≤ 60) (gst : Rg st 30 0 3) (gla : Rg la 30 0 400) (gde : Rg de 30 0 2000) (gpb : Rg pb 60 0 29) (gpy : Rg py 60 0 400) (gpv : Rg pv 60 0 127) (gtb : Rg tb 60 0 29) (gty : Rg ty 60 0 400) (gtv : Rg tv 60 0 1) (hm : (1 + (sX L xs 0 most)) - b < (fu : Int)), xG D p l e (xRm 4 102 0 0) s m args below meth c 9 A Q 0 0 [(qK, .inr (9, [.ref qM, .ref qC, .ref qL, .ref qFr, .ref qE, .ref qK_facts, .ref qN, .ref qS])), (qM, .inr (3, [.ref qM_stones, .ref qM_laid, .ref qM_deeps, .ref qM_rates, .ref qP, .ref qT, .ref qM_dangers, .ref qM_losses, .int (jI b), .int (jI vM_limit)])), aI kI qM_stones 30 st, aI kI qM_laid 30 la, aI kI qM_deeps 30 de, aI kI qM_rates 64 rr, (qP, .inr (7, [.ref qP_blocks, .ref qP_years, .ref qP_values, .ref qP_since, .int (jI pn)])), aI kI qP_blocks 60 pb, aI kI qP_years 60 py, aI kI qP_values 60 pv, (qT, .inr (7, [.ref qT_blocks, .ref qT_years, .ref qT_values, .ref qT_since, .int (jI tn)])), aI kI qT_blocks 60 tb, aI kI qT_years 60 ty, aI kI qT_values 60 tv] [(0, .ref qK), (1, .ref bS), (2, .int (jI most)), (3, .int (jI (1 + (sX L xs 0 most)))), (4, .int (jI b))] 72 [] := by
          intro fu
          induction fu with
          | zero =>
            intro b pn tn st la de pb py pv tb ty tv hb gpn gtn gst gla gde gpb gpy gpv gtb gty gtv hm
            exact absurd hm (by omega)
          | succ fu ih72 =>
            intro b pn tn st la de pb py pv tb ty tv hb gpn gtn gst gla gde gpb gpy gpv gtb gty gtv hm
            refine x_iload F dL_build_72 4 rfl ?_
            refine x_iload_n F dL_build_74 rfl 3 rfl ?_
            refine x_icmp_ge (tgt := 254) F dL_build_75 (by decide) (by omega) (fun c75 => ?_) (fun c75 => ?_)
            · -- 75 t
              refine x_iload_n F dL_build_254 rfl 3 rfl ?_
              exact hret 0 0 255 _ (1 + (sX L xs 0 most)) (b, pn, tn, rr, st, la, de, pb, py, pv, tb, ty, tv) (Nat.le_of_ble_eq_true rfl) (Nat.le_of_ble_eq_true rfl) dL_build_255 (by (try dsimp only); exact (⟨by omega, fun j j0 j1 => hrr j j0 (by omega), hrg, gpn, gtn, gst, gla, gde, gpb, gpy, gpv, gtb, gty, gtv⟩))
            · -- 75 f
              refine x_aload_n F dL_build_78 rfl 1 rfl ?_
              refine x_bipush F dL_build_79 (by decide) ?_
              refine x_iload F dL_build_81 4 rfl ?_
              refine x_iadd F dL_build_83 ?_
              refine x_ldc F 2147483647 hw0 (by decide) dL_build_84 ?_
              refine y_callSi (As := [.ref bS, .int (jI (18 + b)), .int (jI 2147483647)]) (st := []) F hY (c_L_some D kI kJ bS L xs l (18 + b) 2147483647 (by omega) (by omega)) (va_cwS 3 F.2.2.2.2.1 gL_build_L_some rfl rfl rfl (by decide +kernel) ⟨Nat.le_of_ble_eq_true rfl, Nat.le_of_ble_eq_true rfl⟩) [] [0, 1, 2, 3, 4, 5, 6, 7, 8, 9, 10, 11, 12, 13] [0, 1, 2, 3, 4, 5, 6, 7, 8, 9, 10, 11, 12, 13] rfl rfl (by decide) (by decide) (by decide) (fun _ => rfl) (by decide) rfl (Nat.le_of_ble_eq_true rfl) dL_build_86 ⟨Nat.le_of_ble_eq_true rfl, Nat.le_of_ble_eq_true rfl⟩ (fun z86 u86 h86 => ?_)
              try dsimp only at h86
              refine x_ws [(qK, .inr (9, [.ref qM, .ref qC, .ref qL, .ref qFr, .ref qE, .ref qK_facts, .ref qN, .ref qS])), (qM, .inr (3, [.ref qM_stones, .ref qM_laid, .ref qM_deeps, .ref qM_rates, .ref qP, .ref qT, .ref qM_dangers, .ref qM_losses, .int (jI b), .int (jI vM_limit)])), aI kI qM_stones 30 st, aI kI qM_laid 30 la, aI kI qM_deeps 30 de, aI kI qM_rates 64 rr, (qP, .inr (7, [.ref qP_blocks, .ref qP_years, .ref qP_values, .ref qP_since, .int (jI pn)])), aI kI qP_blocks 60 pb, aI kI qP_years 60 py, aI kI qP_values 60 pv, (qT, .inr (7, [.ref qT_blocks, .ref qT_years, .ref qT_values, .ref qT_since, .int (jI tn)])), aI kI qT_blocks 60 tb, aI kI qT_years 60 ty, aI kI qT_values 60 tv] rfl ?_
              have he86 := h86
              have he86 := he86.symm
              subst he86
              have hv9 := sX_rng (L := L) (xs := xs) (k := 18 + b) (most := 2147483647) (by omega)
              refine x_istore (lv' := [(0, .ref qK), (1, .ref bS), (2, .int (jI most)), (3, .int (jI (1 + (sX L xs 0 most)))), (4, .int (jI b)), (5, .int (jI (sX L xs (18 + b) 2147483647)))]) F dL_build_89 (by decide) [1, 2, 3, 4, 5, 0] rfl ?_
              refine x_aload_n F dL_build_91 rfl 0 rfl ?_
              refine x_iload F dL_build_92 5 rfl ?_
              refine x_iconst F dL_build_94 ?_
              refine x_iand F (((sX L xs (18 + b) 2147483647) % 4)) dL_build_95 (an_3i _) ?_
              refine x_iload F dL_build_96 5 rfl ?_
              refine x_iconst F dL_build_98 ?_
              refine x_iushr F ((sX L xs (18 + b) 2147483647) / 4) dL_build_99 (sh_c (by omega) (by omega) rfl) ?_
              refine x_sipush F dL_build_100 (by decide) ?_
              refine x_irem F dL_build_103 (by omega) ?_
              refine x_iconst F dL_build_104 ?_
              refine x_iload F dL_build_105 5 rfl ?_
              refine x_bipush F dL_build_107 (by decide) ?_
              refine x_iushr F ((sX L xs (18 + b) 2147483647) / 1024) dL_build_109 (sh_c (by omega) (by omega) rfl) ?_
              refine x_sipush F dL_build_110 (by decide) ?_
              refine x_irem F dL_build_113 (by omega) ?_
              refine x_iadd F dL_build_114 ?_
              refine x_callVi (ci := 9) (q0 := 0) (As := [.int (jI ((sX L xs (18 + b) 2147483647) % 4)), .int (jI (((sX L xs (18 + b) 2147483647) / 4) % 200)), .int (jI (1 + (((sX L xs (18 + b) 2147483647) / 1024) % 2000)))]) (st := []) F (c_X9_block D kI kJ l qK ((sX L xs (18 + b) 2147483647) % 4) (((sX L xs (18 + b) 2147483647) / 4) % 200) (1 + (((sX L xs (18 + b) 2147483647) / 1024) % 2000)) qM qC qL qFr qE qK_facts qN qS qM_stones qM_laid qM_deeps qM_rates qP qT qM_dangers qM_losses b vM_limit st la de (by omega) (by omega) (by omega) (by omega)) (cwV 3 F.2.2.2.2.1 gL_build_X9_block rfl rfl rfl (by decide +kernel) ⟨Nat.le_of_ble_eq_true rfl, Nat.le_of_ble_eq_true rfl⟩) rfl rfl [0, 1, 2, 3, 4] [5, 6, 7, 8, 9, 10, 11, 12, 13] [9, 10, 11, 12, 13, 0, 1, 2, 3, 4, 5, 6, 7, 8] rfl rfl (by decide) (by decide) (by decide) (fun _ => rfl) (by decide) rfl (Nat.le_of_ble_eq_true rfl) dL_build_115 ⟨Nat.le_of_ble_eq_true rfl, Nat.le_of_ble_eq_true rfl⟩ (fun z115 u115 h115 => ?_)
              obtain ⟨n2_115, s2_115, l2_115, d2_115⟩ := u115
              try dsimp only at h115
              refine x_ws [(qK, .inr (9, [.ref qM, .ref qC, .ref qL, .ref qFr, .ref qE, .ref qK_facts, .ref qN, .ref qS])), (qM, .inr (3, [.ref qM_stones, .ref qM_laid, .ref qM_deeps, .ref qM_rates, .ref qP, .ref qT, .ref qM_dangers, .ref qM_losses, .int (jI n2_115), .int (jI vM_limit)])), aI kI qM_stones 30 s2_115, aI kI qM_laid 30 l2_115, aI kI qM_deeps 30 d2_115, aI kI qM_rates 64 rr, (qP, .inr (7, [.ref qP_blocks, .ref qP_years, .ref qP_values, .ref qP_since, .int (jI pn)])), aI kI qP_blocks 60 pb, aI kI qP_years 60 py, aI kI qP_values 60 pv, (qT, .inr (7, [.ref qT_blocks, .ref qT_years, .ref qT_values, .ref qT_since, .int (jI tn)])), aI kI qT_blocks 60 tb, aI kI qT_years 60 ty, aI kI qT_values 60 tv] rfl ?_
              have hz115 := h115
              have hB : n2_115 = (b + 1) ∧ s2_115 = iU st b ((sX L xs (18 + b) 2147483647) % 4) ∧ l2_115 = iU la b (((sX L xs (18 + b) 2147483647) / 4) % 200) ∧ d2_115 = iU de b (1 + (((sX L xs (18 + b) 2147483647) / 1024) % 2000)) := by
                rcases hz115 with ⟨q, _⟩ | ⟨_, q, _⟩ | ⟨_, _, q1, q2, q3, q4⟩
                · exact absurd (by omega) q
                · omega
                · exact ⟨q1, q2, q3, q4⟩
              clear hz115 h115
              obtain ⟨e1, e2, e3, e4⟩ := hB
              have gst2 := Rg.up gst b ((sX L xs (18 + b) 2147483647) % 4) (by omega)
              have gla2 := Rg.up gla b (((sX L xs (18 + b) 2147483647) / 4) % 200) (by omega)
              have gde2 := Rg.up gde b (1 + (((sX L xs (18 + b) 2147483647) / 1024) % 2000)) (by omega)
              subst n2_115
              subst s2_115
              subst l2_115
              subst d2_115
              refine x_istore (lv' := [(0, .ref qK), (1, .ref bS), (2, .int (jI most)), (3, .int (jI (1 + (sX L xs 0 most)))), (4, .int (jI b)), (5, .int (jI (sX L xs (18 + b) 2147483647))), (6, .int (jI z115))]) F dL_build_118 (by decide) [1, 2, 3, 4, 5, 6, 0] rfl ?_
              refine x_iconst F dL_build_120 ?_
              refine x_istore (lv' := [(0, .ref qK), (1, .ref bS), (2, .int (jI most)), (3, .int (jI (1 + (sX L xs 0 most)))), (4, .int (jI b)), (5, .int (jI (sX L xs (18 + b) 2147483647))), (6, .int (jI z115)), (7, .int (jI 0))]) F dL_build_121 (by decide) [1, 2, 3, 4, 5, 6, 7, 0] rfl ?_
              have lp123 : ∀ (fu : Nat) (i : Int) (pn1 : Int) (tn1 : Int) (pb1 : (Int → Int)) (py1 : (Int → Int)) (pv1 : (Int → Int)) (tb1 : (Int → Int)) (ty1 : (Int → Int)) (tv1 : (Int → Int)) (hi : 0 ≤ i ∧ i ≤ 3) (kpn : 0 ≤ pn1 ∧ pn1 ≤ 60) (ktn : 0 ≤ tn1 ∧ tn1 ≤ 60) (kpb : Rg pb1 60 0 29) (kpy : Rg py1 60 0 400) (kpv : Rg pv1 60 0 127) (ktb : Rg tb1 60 0 29) (kty : Rg ty1 60 0 400) (ktv : Rg tv1 60 0 1) (hm : 3 - i < (fu : Int)), xG D p l e (xRm 4 102 0 0) s m args below meth c 9 A Q 0 0 [(qK, .inr (9, [.ref qM, .ref qC, .ref qL, .ref qFr, .ref qE, .ref qK_facts, .ref qN, .ref qS])), (qM, .inr (3, [.ref qM_stones, .ref qM_laid, .ref qM_deeps, .ref qM_rates, .ref qP, .ref qT, .ref qM_dangers, .ref qM_losses, .int (jI (b + 1)), .int (jI vM_limit)])), aI kI qM_stones 30 (iU st b ((sX L xs (18 + b) 2147483647) % 4)), aI kI qM_laid 30 (iU la b (((sX L xs (18 + b) 2147483647) / 4) % 200)), aI kI qM_deeps 30 (iU de b (1 + (((sX L xs (18 + b) 2147483647) / 1024) % 2000))), aI kI qM_rates 64 rr, (qP, .inr (7, [.ref qP_blocks, .ref qP_years, .ref qP_values, .ref qP_since, .int (jI pn1)])), aI kI qP_blocks 60 pb1, aI kI qP_years 60 py1, aI kI qP_values 60 pv1, (qT, .inr (7, [.ref qT_blocks, .ref qT_years, .ref qT_values, .ref qT_since, .int (jI tn1)])), aI kI qT_blocks 60 tb1, aI kI qT_years 60 ty1, aI kI qT_values 60 tv1] [(0, .ref qK), (1, .ref bS), (2, .int (jI most)), (3, .int (jI (1 + (sX L xs 0 most)))), (4, .int (jI b)), (5, .int (jI (sX L xs (18 + b) 2147483647))), (7, .int (jI i))] 123 [] := by
                intro fu
                induction fu with
                | zero =>
                  intro i pn1 tn1 pb1 py1 pv1 tb1 ty1 tv1 hi kpn ktn kpb kpy kpv ktb kty ktv hm
                  exact absurd hm (by omega)
                | succ fu ih123 =>
                  intro i pn1 tn1 pb1 py1 pv1 tb1 ty1 tv1 hi kpn ktn kpb kpy kpv ktb kty ktv hm
                  refine x_iload F dL_build_123 6 rfl ?_
                  refine x_iconst F dL_build_125 ?_
                  refine x_icmp_ge (tgt := 248) F dL_build_126 (by decide) (by omega) (fun c126 => ?_) (fun c126 => ?_)
                  · -- 126 t
                    refine x_iinc (lv' := [(0, .ref qK), (1, .ref bS), (2, .int (jI most)), (3, .int (jI (1 + (sX L xs 0 most)))), (4, .int (jI (b + 1))), (5, .int (jI (sX L xs (18 + b) 2147483647))), (7, .int (jI i))]) (k := 4) F dL_build_248 rfl (by decide) [1, 2, 3, 4, 0, 5, 6] rfl ?_
                    refine x_goto (tgt := 72) F dL_build_251 (by decide) ?_
                    refine x_lv (lv' := [(0, .ref qK), (1, .ref bS), (2, .int (jI most)), (3, .int (jI (1 + (sX L xs 0 most)))), (4, .int (jI (b + 1)))]) [0, 1, 2, 3, 4] rfl ?_
                    exact ih72 (b + 1) pn1 tn1 (iU st b ((sX L xs (18 + b) 2147483647) % 4)) (iU la b (((sX L xs (18 + b) 2147483647) / 4) % 200)) (iU de b (1 + (((sX L xs (18 + b) 2147483647) / 1024) % 2000))) pb1 py1 pv1 tb1 ty1 tv1 (by omega) kpn ktn gst2 gla2 gde2 kpb kpy kpv ktb kty ktv (by omega)
                  · -- 126 f
                    refine x_aload_n F dL_build_129 rfl 1 rfl ?_
                    refine x_bipush F dL_build_130 (by decide) ?_
                    refine x_iload F dL_build_132 4 rfl ?_
                    refine x_iconst F dL_build_134 ?_
                    refine x_iload F dL_build_135 6 rfl ?_
                    refine x_imul F dL_build_137 ?_
                    refine x_iadd F dL_build_138 ?_
                    refine x_bipush F dL_build_139 (by decide) ?_
                    refine x_irem F dL_build_141 (by omega) ?_
                    refine x_iadd F dL_build_142 ?_
                    refine x_ldc F 2147483647 hw0 (by decide) dL_build_143 ?_
                    refine y_callSi (As := [.ref bS, .int (jI (20 + ((b + (5 * i)) % 17))), .int (jI 2147483647)]) (st := []) F hY (c_L_some D kI kJ bS L xs l (20 + ((b + (5 * i)) % 17)) 2147483647 (by omega) (by omega)) (va_cwS 3 F.2.2.2.2.1 gL_build_L_some rfl rfl rfl (by decide +kernel) ⟨Nat.le_of_ble_eq_true rfl, Nat.le_of_ble_eq_true rfl⟩) [] [0, 1, 2, 3, 4, 5, 6, 7, 8, 9, 10, 11, 12, 13] [0, 1, 2, 3, 4, 5, 6, 7, 8, 9, 10, 11, 12, 13] rfl rfl (by decide) (by decide) (by decide) (fun _ => rfl) (by decide) rfl (Nat.le_of_ble_eq_true rfl) dL_build_145 ⟨Nat.le_of_ble_eq_true rfl, Nat.le_of_ble_eq_true rfl⟩ (fun z145 u145 h145 => ?_)
                    try dsimp only at h145
                    refine x_ws [(qK, .inr (9, [.ref qM, .ref qC, .ref qL, .ref qFr, .ref qE, .ref qK_facts, .ref qN, .ref qS])), (qM, .inr (3, [.ref qM_stones, .ref qM_laid, .ref qM_deeps, .ref qM_rates, .ref qP, .ref qT, .ref qM_dangers, .ref qM_losses, .int (jI (b + 1)), .int (jI vM_limit)])), aI kI qM_stones 30 (iU st b ((sX L xs (18 + b) 2147483647) % 4)), aI kI qM_laid 30 (iU la b (((sX L xs (18 + b) 2147483647) / 4) % 200)), aI kI qM_deeps 30 (iU de b (1 + (((sX L xs (18 + b) 2147483647) / 1024) % 2000))), aI kI qM_rates 64 rr, (qP, .inr (7, [.ref qP_blocks, .ref qP_years, .ref qP_values, .ref qP_since, .int (jI pn1)])), aI kI qP_blocks 60 pb1, aI kI qP_years 60 py1, aI kI qP_values 60 pv1, (qT, .inr (7, [.ref qT_blocks, .ref qT_years, .ref qT_values, .ref qT_since, .int (jI tn1)])), aI kI qT_blocks 60 tb1, aI kI qT_years 60 ty1, aI kI qT_values 60 tv1] rfl ?_
                    have he145 := h145
                    have he145 := he145.symm
                    subst he145
                    have hu9 := sX_rng (L := L) (xs := xs) (k := 20 + (b + 5 * i) % 17) (most := 2147483647) (by omega)
                    refine x_istore (lv' := [(0, .ref qK), (1, .ref bS), (2, .int (jI most)), (3, .int (jI (1 + (sX L xs 0 most)))), (4, .int (jI b)), (5, .int (jI (sX L xs (18 + b) 2147483647))), (7, .int (jI i)), (8, .int (jI (sX L xs (20 + ((b + (5 * i)) % 17)) 2147483647)))]) F dL_build_148 (by decide) [1, 2, 3, 4, 5, 6, 7, 0] rfl ?_
                    have jn197 : ∀ (zz : Int) (pn3 : Int) (pb3 : (Int → Int)) (py3 : (Int → Int)) (pv3 : (Int → Int)) (mpn : 0 ≤ pn3 ∧ pn3 ≤ 60) (mpb : Rg pb3 60 0 29) (mpy : Rg py3 60 0 400) (mpv : Rg pv3 60 0 127), xG D p l e (xRm 4 102 0 0) s m args below meth c 9 A Q 0 0 [(qK, .inr (9, [.ref qM, .ref qC, .ref qL, .ref qFr, .ref qE, .ref qK_facts, .ref qN, .ref qS])), (qM, .inr (3, [.ref qM_stones, .ref qM_laid, .ref qM_deeps, .ref qM_rates, .ref qP, .ref qT, .ref qM_dangers, .ref qM_losses, .int (jI (b + 1)), .int (jI vM_limit)])), aI kI qM_stones 30 (iU st b ((sX L xs (18 + b) 2147483647) % 4)), aI kI qM_laid 30 (iU la b (((sX L xs (18 + b) 2147483647) / 4) % 200)), aI kI qM_deeps 30 (iU de b (1 + (((sX L xs (18 + b) 2147483647) / 1024) % 2000))), aI kI qM_rates 64 rr, (qP, .inr (7, [.ref qP_blocks, .ref qP_years, .ref qP_values, .ref qP_since, .int (jI pn3)])), aI kI qP_blocks 60 pb3, aI kI qP_years 60 py3, aI kI qP_values 60 pv3, (qT, .inr (7, [.ref qT_blocks, .ref qT_years, .ref qT_values, .ref qT_since, .int (jI tn1)])), aI kI qT_blocks 60 tb1, aI kI qT_years 60 ty1, aI kI qT_values 60 tv1] [(0, .ref qK), (1, .ref bS), (2, .int (jI most)), (3, .int (jI (1 + (sX L xs 0 most)))), (4, .int (jI b)), (5, .int (jI (sX L xs (18 + b) 2147483647))), (7, .int (jI i)), (8, .int (jI (sX L xs (20 + ((b + (5 * i)) % 17)) 2147483647)))] 197 [.int (jI zz)] := by
                      intro zz pn3 pb3 py3 pv3 mpn mpb mpy mpv
                      refine x_istore (lv' := [(0, .ref qK), (1, .ref bS), (2, .int (jI most)), (3, .int (jI (1 + (sX L xs 0 most)))), (4, .int (jI b)), (5, .int (jI (sX L xs (18 + b) 2147483647))), (6, .int (jI zz)), (7, .int (jI i)), (8, .int (jI (sX L xs (20 + ((b + (5 * i)) % 17)) 2147483647)))]) F dL_build_197 (by decide) [1, 2, 3, 4, 5, 6, 0, 7, 8] rfl ?_
                      have jn240 : ∀ (zy : Int) (tn3 : Int) (tb3 : (Int → Int)) (ty3 : (Int → Int)) (tv3 : (Int → Int)) (mtn : 0 ≤ tn3 ∧ tn3 ≤ 60) (mtb : Rg tb3 60 0 29) (mty : Rg ty3 60 0 400) (mtv : Rg tv3 60 0 1), xG D p l e (xRm 4 102 0 0) s m args below meth c 9 A Q 0 0 [(qK, .inr (9, [.ref qM, .ref qC, .ref qL, .ref qFr, .ref qE, .ref qK_facts, .ref qN, .ref qS])), (qM, .inr (3, [.ref qM_stones, .ref qM_laid, .ref qM_deeps, .ref qM_rates, .ref qP, .ref qT, .ref qM_dangers, .ref qM_losses, .int (jI (b + 1)), .int (jI vM_limit)])), aI kI qM_stones 30 (iU st b ((sX L xs (18 + b) 2147483647) % 4)), aI kI qM_laid 30 (iU la b (((sX L xs (18 + b) 2147483647) / 4) % 200)), aI kI qM_deeps 30 (iU de b (1 + (((sX L xs (18 + b) 2147483647) / 1024) % 2000))), aI kI qM_rates 64 rr, (qP, .inr (7, [.ref qP_blocks, .ref qP_years, .ref qP_values, .ref qP_since, .int (jI pn3)])), aI kI qP_blocks 60 pb3, aI kI qP_years 60 py3, aI kI qP_values 60 pv3, (qT, .inr (7, [.ref qT_blocks, .ref qT_years, .ref qT_values, .ref qT_since, .int (jI tn3)])), aI kI qT_blocks 60 tb3, aI kI qT_years 60 ty3, aI kI qT_values 60 tv3] [(0, .ref qK), (1, .ref bS), (2, .int (jI most)), (3, .int (jI (1 + (sX L xs 0 most)))), (4, .int (jI b)), (5, .int (jI (sX L xs (18 + b) 2147483647))), (6, .int (jI zz)), (7, .int (jI i)), (8, .int (jI (sX L xs (20 + ((b + (5 * i)) % 17)) 2147483647)))] 240 [.int (jI zy)] := by
                        intro zy tn3 tb3 ty3 tv3 mtn mtb mty mtv
                        refine x_istore (lv' := [(0, .ref qK), (1, .ref bS), (2, .int (jI most)), (3, .int (jI (1 + (sX L xs 0 most)))), (4, .int (jI b)), (5, .int (jI (sX L xs (18 + b) 2147483647))), (6, .int (jI zy)), (7, .int (jI i)), (8, .int (jI (sX L xs (20 + ((b + (5 * i)) % 17)) 2147483647)))]) F dL_build_240 (by decide) [1, 2, 3, 4, 5, 6, 0, 7, 8] rfl ?_
                        refine x_iinc (lv' := [(0, .ref qK), (1, .ref bS), (2, .int (jI most)), (3, .int (jI (1 + (sX L xs 0 most)))), (4, .int (jI b)), (5, .int (jI (sX L xs (18 + b) 2147483647))), (6, .int (jI zy)), (7, .int (jI (i + 1))), (8, .int (jI (sX L xs (20 + ((b + (5 * i)) % 17)) 2147483647)))]) (k := 7) F dL_build_242 rfl (by decide) [1, 2, 3, 4, 5, 6, 7, 0, 8] rfl ?_
                        refine x_goto (tgt := 123) F dL_build_245 (by decide) ?_
                        refine x_lv (lv' := [(0, .ref qK), (1, .ref bS), (2, .int (jI most)), (3, .int (jI (1 + (sX L xs 0 most)))), (4, .int (jI b)), (5, .int (jI (sX L xs (18 + b) 2147483647))), (7, .int (jI (i + 1)))]) [0, 1, 2, 3, 4, 5, 7] rfl ?_
                        exact ih123 (i + 1) pn3 tn3 pb3 py3 pv3 tb3 ty3 tv3 (by omega) mpn mtn mpb mpy mpv mtb mty mtv (by omega)
                      refine x_iload F dL_build_199 8 rfl ?_
                      refine x_bipush F dL_build_201 (by decide) ?_
                      refine x_iand F (((jI (sX L xs (20 + ((b + (5 * i)) % 17)) 2147483647)) &&& (jI 6)).toInt) dL_build_203 ((jI_int _).symm) ?_
                      refine x_if_ne (tgt := 239) F dL_build_204 (by decide) (jx_rng _) (fun c204 => ?_) (fun c204 => ?_)
                      · -- 204 t
                        refine x_iconst F dL_build_239 ?_
                        exact jn240 0 tn1 tb1 ty1 tv1 ktn ktb kty ktv
                      · -- 204 f
                        refine x_aload_n F dL_build_207 rfl 0 rfl ?_
                        refine x_iload F dL_build_208 4 rfl ?_
                        refine x_iload F dL_build_210 8 rfl ?_
                        refine x_iconst F dL_build_212 ?_
                        refine x_iushr F ((sX L xs (20 + ((b + (5 * i)) % 17)) 2147483647) / 8) dL_build_213 (sh_c (by omega) (by omega) rfl) ?_
                        refine x_sipush F dL_build_214 (by decide) ?_
                        refine x_irem F dL_build_217 (by omega) ?_
                        refine x_iload F dL_build_218 8 rfl ?_
                        refine x_bipush F dL_build_220 (by decide) ?_
                        refine x_iushr F ((sX L xs (20 + ((b + (5 * i)) % 17)) 2147483647) / 65536) dL_build_222 (sh_c (by omega) (by omega) rfl) ?_
                        refine x_iconst F dL_build_223 ?_
                        refine x_iand F ((((sX L xs (20 + ((b + (5 * i)) % 17)) 2147483647) / 65536) % 2)) dL_build_224 (an_1i _) ?_
                        refine x_if_ne (tgt := 232) F dL_build_225 (by decide) (by omega) (fun c225 => ?_) (fun c225 => ?_)
                        · -- 225 t
                          refine x_iconst F dL_build_232 ?_
                          refine x_callVi (ci := 9) (q0 := 0) (As := [.int (jI b), .int (jI (((sX L xs (20 + ((b + (5 * i)) % 17)) 2147483647) / 8) % 260)), .int (jI 0)]) (st := []) F (c_X9_mortar D kI kJ l qK b (((sX L xs (20 + ((b + (5 * i)) % 17)) 2147483647) / 8) % 260) 0 qM qC qL qFr qE qK_facts qN qS qM_stones qM_laid qM_deeps qM_rates qP qT qM_dangers qM_losses (b + 1) vM_limit qT_blocks qT_years qT_values qT_since tn1 tb1 ty1 tv1 (by omega) (by omega) (by omega) (by omega) (by omega)) (cwV 3 F.2.2.2.2.1 gL_build_X9_mortar rfl rfl rfl (by decide +kernel) ⟨Nat.le_of_ble_eq_true rfl, Nat.le_of_ble_eq_true rfl⟩) rfl rfl [0, 1, 10, 11, 12, 13] [2, 3, 4, 5, 6, 7, 8, 9] [8, 9, 0, 1, 2, 3, 4, 5, 6, 7, 10, 11, 12, 13] rfl rfl (by decide) (by decide) (by decide) (fun _ => rfl) (by decide) rfl (Nat.le_of_ble_eq_true rfl) dL_build_233 ⟨Nat.le_of_ble_eq_true rfl, Nat.le_of_ble_eq_true rfl⟩ (fun z233 u233 h233 => ?_)
                          obtain ⟨n2_233, b2_233, y2_233, v2_233⟩ := u233
                          try dsimp only at h233
                          refine x_ws [(qK, .inr (9, [.ref qM, .ref qC, .ref qL, .ref qFr, .ref qE, .ref qK_facts, .ref qN, .ref qS])), (qM, .inr (3, [.ref qM_stones, .ref qM_laid, .ref qM_deeps, .ref qM_rates, .ref qP, .ref qT, .ref qM_dangers, .ref qM_losses, .int (jI (b + 1)), .int (jI vM_limit)])), aI kI qM_stones 30 (iU st b ((sX L xs (18 + b) 2147483647) % 4)), aI kI qM_laid 30 (iU la b (((sX L xs (18 + b) 2147483647) / 4) % 200)), aI kI qM_deeps 30 (iU de b (1 + (((sX L xs (18 + b) 2147483647) / 1024) % 2000))), aI kI qM_rates 64 rr, (qP, .inr (7, [.ref qP_blocks, .ref qP_years, .ref qP_values, .ref qP_since, .int (jI pn3)])), aI kI qP_blocks 60 pb3, aI kI qP_years 60 py3, aI kI qP_values 60 pv3, (qT, .inr (7, [.ref qT_blocks, .ref qT_years, .ref qT_values, .ref qT_since, .int (jI n2_233)])), aI kI qT_blocks 60 b2_233, aI kI qT_years 60 y2_233, aI kI qT_values 60 v2_233] rfl ?_
                          have hz233 := h233
                          obtain ⟨ht1, ht2, ht3, ht4⟩ : (0 ≤ n2_233 ∧ n2_233 ≤ 60) ∧ Rg b2_233 60 0 29 ∧ Rg y2_233 60 0 400 ∧ Rg v2_233 60 0 1 := by
                            rcases hz233 with ⟨_, _, q1, q2, q3, q4⟩ | ⟨_, _, q1, q2, q3, q4⟩ | ⟨_, _, q1, q2, q3, q4⟩ | ⟨k1, _, q1, q2, q3, q4⟩ | ⟨k1, _, q1, q2, q3, q4⟩
                            · rw [q1, q2, q3, q4]; exact ⟨ktn, ktb, kty, ktv⟩
                            · rw [q1, q2, q3, q4]; exact ⟨ktn, ktb, kty, ktv⟩
                            · rw [q1, q2, q3, q4]; exact ⟨ktn, ktb, kty, ktv⟩
                            · rw [q1, q2, q3, q4]; exact ⟨by omega, Rg.up ktb _ _ (by omega), Rg.up kty _ _ (by omega), Rg.up ktv _ _ (by omega)⟩
                            · rw [q1, q2, q3, q4]; exact ⟨by omega, Rg.up ktb _ _ (by omega), Rg.up kty _ _ (by omega), Rg.up ktv _ _ (by omega)⟩
                          clear hz233 h233
                          refine x_goto (tgt := 240) F dL_build_236 (by decide) ?_
                          exact jn240 z233 n2_233 b2_233 y2_233 v2_233 ht1 ht2 ht3 ht4
                        · -- 225 f
                          refine x_iconst F dL_build_228 ?_
                          refine x_goto (tgt := 233) F dL_build_229 (by decide) ?_
                          refine x_callVi (ci := 9) (q0 := 0) (As := [.int (jI b), .int (jI (((sX L xs (20 + ((b + (5 * i)) % 17)) 2147483647) / 8) % 260)), .int (jI 1)]) (st := []) F (c_X9_mortar D kI kJ l qK b (((sX L xs (20 + ((b + (5 * i)) % 17)) 2147483647) / 8) % 260) 1 qM qC qL qFr qE qK_facts qN qS qM_stones qM_laid qM_deeps qM_rates qP qT qM_dangers qM_losses (b + 1) vM_limit qT_blocks qT_years qT_values qT_since tn1 tb1 ty1 tv1 (by omega) (by omega) (by omega) (by omega) (by omega)) (cwV 3 F.2.2.2.2.1 gL_build_X9_mortar rfl rfl rfl (by decide +kernel) ⟨Nat.le_of_ble_eq_true rfl, Nat.le_of_ble_eq_true rfl⟩) rfl rfl [0, 1, 10, 11, 12, 13] [2, 3, 4, 5, 6, 7, 8, 9] [8, 9, 0, 1, 2, 3, 4, 5, 6, 7, 10, 11, 12, 13] rfl rfl (by decide) (by decide) (by decide) (fun _ => rfl) (by decide) rfl (Nat.le_of_ble_eq_true rfl) dL_build_233 ⟨Nat.le_of_ble_eq_true rfl, Nat.le_of_ble_eq_true rfl⟩ (fun z233 u233 h233 => ?_)
                          obtain ⟨n2_233, b2_233, y2_233, v2_233⟩ := u233
                          try dsimp only at h233
                          refine x_ws [(qK, .inr (9, [.ref qM, .ref qC, .ref qL, .ref qFr, .ref qE, .ref qK_facts, .ref qN, .ref qS])), (qM, .inr (3, [.ref qM_stones, .ref qM_laid, .ref qM_deeps, .ref qM_rates, .ref qP, .ref qT, .ref qM_dangers, .ref qM_losses, .int (jI (b + 1)), .int (jI vM_limit)])), aI kI qM_stones 30 (iU st b ((sX L xs (18 + b) 2147483647) % 4)), aI kI qM_laid 30 (iU la b (((sX L xs (18 + b) 2147483647) / 4) % 200)), aI kI qM_deeps 30 (iU de b (1 + (((sX L xs (18 + b) 2147483647) / 1024) % 2000))), aI kI qM_rates 64 rr, (qP, .inr (7, [.ref qP_blocks, .ref qP_years, .ref qP_values, .ref qP_since, .int (jI pn3)])), aI kI qP_blocks 60 pb3, aI kI qP_years 60 py3, aI kI qP_values 60 pv3, (qT, .inr (7, [.ref qT_blocks, .ref qT_years, .ref qT_values, .ref qT_since, .int (jI n2_233)])), aI kI qT_blocks 60 b2_233, aI kI qT_years 60 y2_233, aI kI qT_values 60 v2_233] rfl ?_
                          have hz233 := h233
                          obtain ⟨ht1, ht2, ht3, ht4⟩ : (0 ≤ n2_233 ∧ n2_233 ≤ 60) ∧ Rg b2_233 60 0 29 ∧ Rg y2_233 60 0 400 ∧ Rg v2_233 60 0 1 := by
                            rcases hz233 with ⟨_, _, q1, q2, q3, q4⟩ | ⟨_, _, q1, q2, q3, q4⟩ | ⟨_, _, q1, q2, q3, q4⟩ | ⟨k1, _, q1, q2, q3, q4⟩ | ⟨k1, _, q1, q2, q3, q4⟩
                            · rw [q1, q2, q3, q4]; exact ⟨ktn, ktb, kty, ktv⟩
                            · rw [q1, q2, q3, q4]; exact ⟨ktn, ktb, kty, ktv⟩
                            · rw [q1, q2, q3, q4]; exact ⟨ktn, ktb, kty, ktv⟩
                            · rw [q1, q2, q3, q4]; exact ⟨by omega, Rg.up ktb _ _ (by omega), Rg.up kty _ _ (by omega), Rg.up ktv _ _ (by omega)⟩
                            · rw [q1, q2, q3, q4]; exact ⟨by omega, Rg.up ktb _ _ (by omega), Rg.up kty _ _ (by omega), Rg.up ktv _ _ (by omega)⟩
                          clear hz233 h233
                          refine x_goto (tgt := 240) F dL_build_236 (by decide) ?_
                          exact jn240 z233 n2_233 b2_233 y2_233 v2_233 ht1 ht2 ht3 ht4
                    refine x_iload F dL_build_150 7 rfl ?_
                    refine x_iconst F dL_build_152 ?_
                    refine x_iand F (((sX L xs (20 + ((b + (5 * i)) % 17)) 2147483647) % 2)) dL_build_153 (an_1i _) ?_
                    refine x_if_ne (tgt := 196) F dL_build_154 (by decide) (by omega) (fun c154 => ?_) (fun c154 => ?_)
                    · -- 154 t
                      refine x_iconst F dL_build_196 ?_
                      exact jn197 0 pn1 pb1 py1 pv1 kpn kpb kpy kpv
                    · -- 154 f
                      refine x_aload_n F dL_build_157 rfl 0 rfl ?_
                      refine x_iload F dL_build_158 4 rfl ?_
                      refine x_iload F dL_build_160 7 rfl ?_
                      refine x_iconst F dL_build_162 ?_
                      refine x_iushr F ((sX L xs (20 + ((b + (5 * i)) % 17)) 2147483647) / 2) dL_build_163 (sh_c (by omega) (by omega) rfl) ?_
                      refine x_sipush F dL_build_164 (by decide) ?_
                      refine x_irem F dL_build_167 (by omega) ?_
                      refine x_iload F dL_build_168 7 rfl ?_
                      refine x_bipush F dL_build_170 (by decide) ?_
                      refine x_iushr F ((sX L xs (20 + ((b + (5 * i)) % 17)) 2147483647) / 512) dL_build_172 (sh_c (by omega) (by omega) rfl) ?_
                      refine x_iconst F dL_build_173 ?_
                      refine x_iand F ((((sX L xs (20 + ((b + (5 * i)) % 17)) 2147483647) / 512) % 4)) dL_build_174 (an_3i _) ?_
                      refine x_iload F dL_build_175 7 rfl ?_
                      refine x_bipush F dL_build_177 (by decide) ?_
                      refine x_iushr F ((sX L xs (20 + ((b + (5 * i)) % 17)) 2147483647) / 2048) dL_build_179 (sh_c (by omega) (by omega) rfl) ?_
                      refine x_iconst F dL_build_180 ?_
                      refine x_iand F ((((sX L xs (20 + ((b + (5 * i)) % 17)) 2147483647) / 2048) % 4)) dL_build_181 (an_3i _) ?_
                      refine x_iload F dL_build_182 7 rfl ?_
                      refine x_bipush F dL_build_184 (by decide) ?_
                      refine x_iushr F ((sX L xs (20 + ((b + (5 * i)) % 17)) 2147483647) / 8192) dL_build_186 (sh_c (by omega) (by omega) rfl) ?_
                      refine x_bipush F dL_build_187 (by decide) ?_
                      refine x_iand F ((((sX L xs (20 + ((b + (5 * i)) % 17)) 2147483647) / 8192) % 8)) dL_build_189 (an_7i _) ?_
                      refine x_callVi (ci := 9) (q0 := 0) (As := [.int (jI b), .int (jI (((sX L xs (20 + ((b + (5 * i)) % 17)) 2147483647) / 2) % 260)), .int (jI (((sX L xs (20 + ((b + (5 * i)) % 17)) 2147483647) / 512) % 4)), .int (jI (((sX L xs (20 + ((b + (5 * i)) % 17)) 2147483647) / 2048) % 4)), .int (jI (((sX L xs (20 + ((b + (5 * i)) % 17)) 2147483647) / 8192) % 8))]) (st := []) F (c_X9_place D kI kJ l qK b (((sX L xs (20 + ((b + (5 * i)) % 17)) 2147483647) / 2) % 260) (((sX L xs (20 + ((b + (5 * i)) % 17)) 2147483647) / 512) % 4) (((sX L xs (20 + ((b + (5 * i)) % 17)) 2147483647) / 2048) % 4) (((sX L xs (20 + ((b + (5 * i)) % 17)) 2147483647) / 8192) % 8) qM qC qL qFr qE qK_facts qN qS qM_stones qM_laid qM_deeps qM_rates qP qT qM_dangers qM_losses (b + 1) vM_limit qP_blocks qP_years qP_values qP_since pn1 pb1 py1 pv1 (by omega) (by omega) (by omega) (by omega) (by omega) (by omega) (by omega)) (cwV 5 F.2.2.2.2.1 gL_build_X9_place rfl rfl rfl (by decide +kernel) ⟨Nat.le_of_ble_eq_true rfl, Nat.le_of_ble_eq_true rfl⟩) rfl rfl [0, 1, 6, 7, 8, 9] [2, 3, 4, 5, 10, 11, 12, 13] [8, 9, 0, 1, 2, 3, 10, 11, 12, 13, 4, 5, 6, 7] rfl rfl (by decide) (by decide) (by decide) (fun _ => rfl) (by decide) rfl (Nat.le_of_ble_eq_true rfl) dL_build_190 ⟨Nat.le_of_ble_eq_true rfl, Nat.le_of_ble_eq_true rfl⟩ (fun z190 u190 h190 => ?_)
                      obtain ⟨n2_190, b2_190, y2_190, v2_190⟩ := u190
                      try dsimp only at h190
                      refine x_ws [(qK, .inr (9, [.ref qM, .ref qC, .ref qL, .ref qFr, .ref qE, .ref qK_facts, .ref qN, .ref qS])), (qM, .inr (3, [.ref qM_stones, .ref qM_laid, .ref qM_deeps, .ref qM_rates, .ref qP, .ref qT, .ref qM_dangers, .ref qM_losses, .int (jI (b + 1)), .int (jI vM_limit)])), aI kI qM_stones 30 (iU st b ((sX L xs (18 + b) 2147483647) % 4)), aI kI qM_laid 30 (iU la b (((sX L xs (18 + b) 2147483647) / 4) % 200)), aI kI qM_deeps 30 (iU de b (1 + (((sX L xs (18 + b) 2147483647) / 1024) % 2000))), aI kI qM_rates 64 rr, (qP, .inr (7, [.ref qP_blocks, .ref qP_years, .ref qP_values, .ref qP_since, .int (jI n2_190)])), aI kI qP_blocks 60 b2_190, aI kI qP_years 60 y2_190, aI kI qP_values 60 v2_190, (qT, .inr (7, [.ref qT_blocks, .ref qT_years, .ref qT_values, .ref qT_since, .int (jI tn1)])), aI kI qT_blocks 60 tb1, aI kI qT_years 60 ty1, aI kI qT_values 60 tv1] rfl ?_
                      have hz190 := h190
                      obtain ⟨hp1, hp2, hp3, hp4⟩ : (0 ≤ n2_190 ∧ n2_190 ≤ 60) ∧ Rg b2_190 60 0 29 ∧ Rg y2_190 60 0 400 ∧ Rg v2_190 60 0 127 := by
                        rcases hz190 with ⟨_, _, q1, q2, q3, q4⟩ | ⟨_, _, q1, q2, q3, q4⟩ | ⟨_, _, q1, q2, q3, q4⟩ | ⟨k1, _, q1, q2, q3, q4⟩
                        · rw [q1, q2, q3, q4]; exact ⟨kpn, kpb, kpy, kpv⟩
                        · rw [q1, q2, q3, q4]; exact ⟨kpn, kpb, kpy, kpv⟩
                        · rw [q1, q2, q3, q4]; exact ⟨kpn, kpb, kpy, kpv⟩
                        · rw [q1, q2, q3, q4]; exact ⟨by omega, Rg.up kpb _ _ (by omega), Rg.up kpy _ _ (by omega), Rg.up kpv _ _ (by omega)⟩
                      clear hz190 h190
                      refine x_goto (tgt := 197) F dL_build_193 (by decide) ?_
                      exact jn197 z190 n2_190 b2_190 y2_190 v2_190 hp1 hp2 hp3 hp4
              refine x_lv (lv' := [(0, .ref qK), (1, .ref bS), (2, .int (jI most)), (3, .int (jI (1 + (sX L xs 0 most)))), (4, .int (jI b)), (5, .int (jI (sX L xs (18 + b) 2147483647))), (7, .int (jI 0))]) [0, 1, 2, 3, 4, 5, 7] rfl ?_
              exact lp123 (Int.toNat (3 - 0) + 1) 0 pn tn pb py pv tb ty tv (by omega) gpn gtn gpb gpy gpv gtb gty gtv (by omega)
        exact lp72 (Int.toNat ((1 + (sX L xs 0 most)) - 0) + 1) 0 0 0 fM_stones fM_laid fM_deeps fP_blocks fP_years fP_values fT_blocks fT_years fT_values (by omega) (by omega) (by omega) h0st h0la h0de h0pb h0py h0pv h0tb h0ty h0tv (by omega)
      · -- 16 f
        refine x_aload_n F dL_build_19 rfl 0 rfl ?_
        refine x_iload F dL_build_20 4 rfl ?_
        refine x_bipush F dL_build_22 (by decide) ?_
        refine x_idiv F dL_build_24 (by omega) ?_
        refine x_iload F dL_build_25 4 rfl ?_
        refine x_iconst F dL_build_27 ?_
        refine x_idiv F dL_build_28 (by omega) ?_
        refine x_iconst F dL_build_29 ?_
        refine x_irem F dL_build_30 (by omega) ?_
        refine x_iload F dL_build_31 4 rfl ?_
        refine x_iconst F dL_build_33 ?_
        refine x_irem F dL_build_34 (by omega) ?_
        refine x_aload_n F dL_build_35 rfl 1 rfl ?_
        refine x_iconst F dL_build_36 ?_
        refine x_iload F dL_build_37 4 rfl ?_
        refine x_bipush F dL_build_39 (by decide) ?_
        refine x_irem F dL_build_41 (by omega) ?_
        refine x_iadd F dL_build_42 ?_
        refine y_callSi (As := [.ref bS, .int (jI (1 + (k % 17)))]) (st := [.int (jI (k % 4)), .int (jI ((k / 4) % 4)), .int (jI (k / 16)), .ref qK]) F hY (c_L_cell D kI kJ bS L xs l (1 + (k % 17)) (by omega)) (va_cwS 2 F.2.2.2.2.1 gL_build_L_cell rfl rfl rfl (by decide +kernel) ⟨Nat.le_of_ble_eq_true rfl, Nat.le_of_ble_eq_true rfl⟩) [] [0, 1, 2, 3, 4, 5, 6, 7, 8, 9, 10, 11, 12, 13] [0, 1, 2, 3, 4, 5, 6, 7, 8, 9, 10, 11, 12, 13] rfl rfl (by decide) (by decide) (by decide) (fun _ => rfl) (by decide) rfl (Nat.le_of_ble_eq_true rfl) dL_build_43 ⟨Nat.le_of_ble_eq_true rfl, Nat.le_of_ble_eq_true rfl⟩ (fun z43 u43 h43 => ?_)
        try dsimp only at h43
        refine x_ws [(qK, .inr (9, [.ref qM, .ref qC, .ref qL, .ref qFr, .ref qE, .ref qK_facts, .ref qN, .ref qS])), (qM, .inr (3, [.ref qM_stones, .ref qM_laid, .ref qM_deeps, .ref qM_rates, .ref qP, .ref qT, .ref qM_dangers, .ref qM_losses, .int (jI 0), .int (jI vM_limit)])), aI kI qM_stones 30 fM_stones, aI kI qM_laid 30 fM_laid, aI kI qM_deeps 30 fM_deeps, aI kI qM_rates 64 rr, (qP, .inr (7, [.ref qP_blocks, .ref qP_years, .ref qP_values, .ref qP_since, .int (jI 0)])), aI kI qP_blocks 60 fP_blocks, aI kI qP_years 60 fP_years, aI kI qP_values 60 fP_values, (qT, .inr (7, [.ref qT_blocks, .ref qT_years, .ref qT_values, .ref qT_since, .int (jI 0)])), aI kI qT_blocks 60 fT_blocks, aI kI qT_years 60 fT_years, aI kI qT_values 60 fT_values] rfl ?_
        have he43 := h43
        have he43 := he43.symm
        subst he43
        refine x_iload F dL_build_46 4 rfl ?_
        refine x_bipush F dL_build_48 (by decide) ?_
        refine x_irem F dL_build_50 (by omega) ?_
        refine x_iushr F (uz (cX L xs (1 + (k % 17))) (k % 13)) dL_build_51 (uz_at (by omega)) ?_
        refine x_bipush F dL_build_52 (by decide) ?_
        refine x_iand F (((uz (cX L xs (1 + (k % 17))) (k % 13)) % 64)) dL_build_54 (an_63i _) ?_
        refine x_bipush F dL_build_55 (by decide) ?_
        refine x_irem F dL_build_57 (by omega) ?_
        refine x_callVi (ci := 9) (q0 := 0) (As := [.int (jI (k / 16)), .int (jI ((k / 4) % 4)), .int (jI (k % 4)), .int (jI (((uz (cX L xs (1 + (k % 17))) (k % 13)) % 64) % 51))]) (st := []) F (c_X9_rate D kI kJ l qK (k / 16) ((k / 4) % 4) (k % 4) (((uz (cX L xs (1 + (k % 17))) (k % 13)) % 64) % 51) qM qC qL qFr qE qK_facts qN qS qM_stones qM_laid qM_deeps qM_rates qP qT qM_dangers qM_losses 0 vM_limit rr (by omega) (by omega) (by omega) (by omega)) (cwV 4 F.2.2.2.2.1 gL_build_X9_rate rfl rfl rfl (by decide +kernel) ⟨Nat.le_of_ble_eq_true rfl, Nat.le_of_ble_eq_true rfl⟩) rfl rfl [0, 1, 5] [2, 3, 4, 6, 7, 8, 9, 10, 11, 12, 13] [11, 12, 0, 1, 2, 13, 3, 4, 5, 6, 7, 8, 9, 10] rfl rfl (by decide) (by decide) (by decide) (fun _ => rfl) (by decide) rfl (Nat.le_of_ble_eq_true rfl) dL_build_58 ⟨Nat.le_of_ble_eq_true rfl, Nat.le_of_ble_eq_true rfl⟩ (fun z58 u58 h58 => ?_)
        obtain ⟨r2_58, rfl⟩ : ∃ z, z = u58 := ⟨_, rfl⟩
        try dsimp only at h58
        refine x_ws [(qK, .inr (9, [.ref qM, .ref qC, .ref qL, .ref qFr, .ref qE, .ref qK_facts, .ref qN, .ref qS])), (qM, .inr (3, [.ref qM_stones, .ref qM_laid, .ref qM_deeps, .ref qM_rates, .ref qP, .ref qT, .ref qM_dangers, .ref qM_losses, .int (jI 0), .int (jI vM_limit)])), aI kI qM_stones 30 fM_stones, aI kI qM_laid 30 fM_laid, aI kI qM_deeps 30 fM_deeps, aI kI qM_rates 64 r2_58, (qP, .inr (7, [.ref qP_blocks, .ref qP_years, .ref qP_values, .ref qP_since, .int (jI 0)])), aI kI qP_blocks 60 fP_blocks, aI kI qP_years 60 fP_years, aI kI qP_values 60 fP_values, (qT, .inr (7, [.ref qT_blocks, .ref qT_years, .ref qT_values, .ref qT_since, .int (jI 0)])), aI kI qT_blocks 60 fT_blocks, aI kI qT_years 60 fT_years, aI kI qT_values 60 fT_values] rfl ?_
        have hz58 := h58
        have hrr3 : r2_58 = iU rr k (rF L xs k) := by
          rcases hz58 with ⟨q, _⟩ | ⟨_, _, q2⟩
          · exact absurd (by omega) q
          · rw [q2, show k / 16 * 16 + (k / 4 % 4 * 4 + k % 4) = k by omega]; rfl
        clear hz58 h58
        subst r2_58
        refine x_istore (lv' := [(0, .ref qK), (1, .ref bS), (2, .int (jI most)), (3, .int (jI (1 + (sX L xs 0 most)))), (4, .int (jI k)), (5, .int (jI z58))]) F dL_build_61 (by decide) [1, 2, 3, 4, 5, 0] rfl ?_
        refine x_iinc (lv' := [(0, .ref qK), (1, .ref bS), (2, .int (jI most)), (3, .int (jI (1 + (sX L xs 0 most)))), (4, .int (jI (k + 1))), (5, .int (jI z58))]) (k := 4) F dL_build_63 rfl (by decide) [1, 2, 3, 4, 0, 5] rfl ?_
        refine x_goto (tgt := 12) F dL_build_66 (by decide) ?_
        refine x_lv (lv' := [(0, .ref qK), (1, .ref bS), (2, .int (jI most)), (3, .int (jI (1 + (sX L xs 0 most)))), (4, .int (jI (k + 1)))]) [0, 1, 2, 3, 4] rfl ?_
        exact ih12 (k + 1) (iU rr k (rF L xs k)) (by omega) (row_set (P := fun j x => x = rF L xs j) hrr rfl) (Rg.up hrg k (rF L xs k) (by omega)) (by omega)
  exact lp12 (Int.toNat (64 - 0) + 1) 0 fM_rates (by omega) (fun j j0 j1 => by omega) h0ra (by omega)
