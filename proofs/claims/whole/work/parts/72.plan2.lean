set_option maxHeartbeats 4000000 in
set_option maxRecDepth 100000 in
theorem c_X4_addBlock (D : va_G) (kI kJ : Nat) (l : Launch) (qN : Nat) (b : Int) (qC : Nat) (qN_blocks : Nat) (qN_costs : Nat) (qN_zones : Nat) (qN_neglects : Nat) (qN_chosen : Nat) (qN_best : Nat) (qN_spent : Nat) (qN_scaffolds : Nat) (vN_size : Int) (vN_start : Int) (vN_span : Int) (vN_coin : Int) (vN_least : Int) (fN_blocks : (Int → Int)) (fN_costs : (Int → Int)) (fN_zones : (Int → Int)) (fN_neglects : (Int → Int)) (qC_placed : Nat) (qC_wrong : Nat) (qC_lost : Nat) (vC_danger : Int) (fC_placed : (Int → Int)) (fC_lost : (Int → Int)) (hNs : 0 ≤ vN_size ∧ vN_size < 6) (hNn : 1 ≤ vN_span ∧ vN_span ≤ 4) (hNy : 0 ≤ vN_start ∧ vN_start ≤ 396) (hgp : Rg fC_placed 401 0 127) : xMv D kI kJ l yX4_addBlock wsX4_addBlock 3 74 0 0 [.ref qN, .int (jI b), .ref qC] [(qN, .inr (4, [.ref qN_blocks, .ref qN_costs, .ref qN_zones, .ref qN_neglects, .ref qN_chosen, .ref qN_best, .ref qN_spent, .ref qN_scaffolds, .int (jI vN_size), .int (jI vN_start), .int (jI vN_span), .int (jI vN_coin), .int (jI vN_least)])), aI kI qN_blocks 6 fN_blocks, aI kI qN_costs 24 fN_costs, aI kI qN_zones 24 fN_zones, aI kI qN_neglects 6 fN_neglects, (qC, .inr (0, [.ref qC_placed, .ref qC_wrong, .ref qC_lost, .int (jI vC_danger)])), aI kI qC_placed 401 fC_placed, aI kI qC_lost 401 fC_lost] (fun (u : (Int → Int) × (Int → Int)) => (∀ t : Int, 0 ≤ t → t < vN_span → u.1 (vN_size * 4 + t) = 10 + fC_lost (vN_start + t) ∧ u.2 (vN_size * 4 + t) = fC_placed (vN_start + t) / 16) ∧ (∀ k : Int, k < vN_size * 4 ∨ vN_size * 4 + vN_span ≤ k → u.1 k = fN_costs k ∧ u.2 k = fN_zones k)) (fun (u : (Int → Int) × (Int → Int)) => [(qN, .inr (4, [.ref qN_blocks, .ref qN_costs, .ref qN_zones, .ref qN_neglects, .ref qN_chosen, .ref qN_best, .ref qN_spent, .ref qN_scaffolds, .int (jI (vN_size + 1)), .int (jI vN_start), .int (jI vN_span), .int (jI vN_coin), .int (jI vN_least)])), aI kI qN_blocks 6 (iU fN_blocks vN_size b), aI kI qN_costs 24 u.1, aI kI qN_zones 24 u.2, aI kI qN_neglects 6 (iU fN_neglects vN_size (fC_lost (vN_start + vN_span) * 3)), (qC, .inr (0, [.ref qC_placed, .ref qC_wrong, .ref qC_lost, .int (jI vC_danger)])), aI kI qC_placed 401 fC_placed, aI kI qC_lost 401 fC_lost]) := by
  refine xMv_of (cc := cX4_addBlock) (maxL := 4) (by decide) rfl (Nat.le_of_ble_eq_true rfl) ?_
  intro p e s m args below meth c A Q F hin2 hret
  have hin4 : ∀ w ∈ wsX40, w ∈ wsX4_addBlock := by decide +kernel
  have hw0 : Cond.fieldLink RX4 36 (TX4 8).1 (TX4 8).2.1 (TX4 8).2.2.1 ∈ wsX4_addBlock := by decide +kernel
  have hw1 : Cond.initialized yX9_isBelow.cls ∈ wsX4_addBlock := by decide +kernel
  have hw2 : Cond.static yX9_isBelow ∈ wsX4_addBlock := by decide +kernel
  have hw3 : Cond.fieldLink RX4 9 (TX4 0).1 (TX4 0).2.1 (TX4 0).2.2.1 ∈ wsX4_addBlock := by decide +kernel
  have hw4 : Cond.fieldLink RX4 49 (TX4 10).1 (TX4 10).2.1 (TX4 10).2.2.1 ∈ wsX4_addBlock := by decide +kernel
  have hw5 : Cond.fieldLink RX4 21 (TX4 3).1 (TX4 3).2.1 (TX4 3).2.2.1 ∈ wsX4_addBlock := by decide +kernel
  have hw6 : Cond.fieldLink RX4 40 (TX4 9).1 (TX4 9).2.1 (TX4 9).2.2.1 ∈ wsX4_addBlock := by decide +kernel
  have hw7 : Cond.fieldLink RX4 15 (TX4 1).1 (TX4 1).2.1 (TX4 1).2.2.1 ∈ wsX4_addBlock := by decide +kernel
  have hw8 : Cond.fieldLink RX4 18 (TX4 2).1 (TX4 2).2.1 (TX4 2).2.2.1 ∈ wsX4_addBlock := by decide +kernel
  refine x_lveq (lv' := [(0, .ref qN), (1, .int (jI b)), (2, .ref qC)]) rfl ?_
  refine x_aload_n F dX4_addBlock_0 rfl 0 rfl ?_
  refine x_get (ci := 4) F hin4 0 rfl rfl 8 (by decide) hw0 rfl dX4_addBlock_1 ?_
  refine x_bipush F dX4_addBlock_4 (by decide) ?_
  refine x_callSNi (As := [.int (jI vN_size), .int (jI 6)]) (st := []) F (c_X9_isBelow D kI kJ l vN_size 6 (by omega) (by omega)) ⟨va_cnB 2 F.2.2.2.2.1 gX4_addBlock_X9_isBelow_n65 rfl rfl rfl (nM18 F.2.2.2.2.2.2.2) (F.2.2.2.2.1 _ hw1) (by decide +kernel) ⟨Nat.le_of_ble_eq_true rfl, Nat.le_of_ble_eq_true rfl⟩, F.2.2.2.2.1 _ hw2, trivial⟩ [] [0, 1, 2, 3, 4, 5, 6, 7] [0, 1, 2, 3, 4, 5, 6, 7] rfl rfl (by decide) (by decide) (by decide) (fun _ => rfl) (by decide) rfl (Nat.le_of_ble_eq_true rfl) dX4_addBlock_6 ⟨Nat.le_of_ble_eq_true rfl, Nat.le_of_ble_eq_true rfl⟩ (fun z6 u6 h6 => ?_)
  try dsimp only at h6
  refine x_ws [(qN, .inr (4, [.ref qN_blocks, .ref qN_costs, .ref qN_zones, .ref qN_neglects, .ref qN_chosen, .ref qN_best, .ref qN_spent, .ref qN_scaffolds, .int (jI vN_size), .int (jI vN_start), .int (jI vN_span), .int (jI vN_coin), .int (jI vN_least)])), aI kI qN_blocks 6 fN_blocks, aI kI qN_costs 24 fN_costs, aI kI qN_zones 24 fN_zones, aI kI qN_neglects 6 fN_neglects, (qC, .inr (0, [.ref qC_placed, .ref qC_wrong, .ref qC_lost, .int (jI vC_danger)])), aI kI qC_placed 401 fC_placed, aI kI qC_lost 401 fC_lost] rfl ?_
  have hb6 := h6
  refine x_beq (tgt := 126) F dX4_addBlock_9 (by decide) hb6 (fun c9 => ?_) (fun c9 => ?_)
  · exact absurd c9 (by omega)
  · -- 9 f
    refine x_aload_n F dX4_addBlock_12 rfl 0 rfl ?_
    refine x_get (ci := 4) F hin4 0 rfl rfl 0 (by decide) hw3 rfl dX4_addBlock_13 ?_
    refine x_aload_n F dX4_addBlock_16 rfl 0 rfl ?_
    refine x_get (ci := 4) F hin4 0 rfl rfl 8 (by decide) hw0 rfl dX4_addBlock_17 ?_
    refine x_iload_n F dX4_addBlock_20 rfl 1 rfl ?_
    refine x_iast F 1 rfl (by decide) (by omega) dX4_addBlock_21 [(qN, .inr (4, [.ref qN_blocks, .ref qN_costs, .ref qN_zones, .ref qN_neglects, .ref qN_chosen, .ref qN_best, .ref qN_spent, .ref qN_scaffolds, .int (jI vN_size), .int (jI vN_start), .int (jI vN_span), .int (jI vN_coin), .int (jI vN_least)])), aI kI qN_blocks 6 (iU fN_blocks vN_size b), aI kI qN_costs 24 fN_costs, aI kI qN_zones 24 fN_zones, aI kI qN_neglects 6 fN_neglects, (qC, .inr (0, [.ref qC_placed, .ref qC_wrong, .ref qC_lost, .int (jI vC_danger)])), aI kI qC_placed 401 fC_placed, aI kI qC_lost 401 fC_lost] rfl ?_
    refine x_iconst F dX4_addBlock_22 ?_
    refine x_istore_n (lv' := [(0, .ref qN), (1, .int (jI b)), (2, .ref qC), (3, .int (jI 0))]) F dX4_addBlock_23 rfl (by decide) [1, 2, 3, 0] rfl ?_
    have lp24 : ∀ (fu : Nat) (t9 : Int) (cg : (Int → Int)) (zg : (Int → Int)) (ht9 : 0 ≤ t9 ∧ t9 ≤ vN_span) (hnew : ∀ t : Int, 0 ≤ t → t < t9 → cg (vN_size * 4 + t) = 10 + fC_lost (vN_start + t) ∧ zg (vN_size * 4 + t) = fC_placed (vN_start + t) / 16) (hold : ∀ k : Int, k < vN_size * 4 ∨ vN_size * 4 + t9 ≤ k → cg k = fN_costs k ∧ zg k = fN_zones k) (hm : vN_span - t9 < (fu : Int)), xG D p l e (xRm 3 74 0 0) s m args below meth c 4 A Q 0 0 [(qN, .inr (4, [.ref qN_blocks, .ref qN_costs, .ref qN_zones, .ref qN_neglects, .ref qN_chosen, .ref qN_best, .ref qN_spent, .ref qN_scaffolds, .int (jI vN_size), .int (jI vN_start), .int (jI vN_span), .int (jI vN_coin), .int (jI vN_least)])), aI kI qN_blocks 6 (iU fN_blocks vN_size b), aI kI qN_costs 24 cg, aI kI qN_zones 24 zg, aI kI qN_neglects 6 fN_neglects, (qC, .inr (0, [.ref qC_placed, .ref qC_wrong, .ref qC_lost, .int (jI vC_danger)])), aI kI qC_placed 401 fC_placed, aI kI qC_lost 401 fC_lost] [(0, .ref qN), (1, .int (jI b)), (2, .ref qC), (3, .int (jI t9))] 24 [] := by
      intro fu
      induction fu with
      | zero =>
        intro t9 cg zg ht9 hnew hold hm
        exact absurd hm (by omega)
      | succ fu ih24 =>
        intro t9 cg zg ht9 hnew hold hm
        refine x_iload_n F dX4_addBlock_24 rfl 3 rfl ?_
        refine x_aload_n F dX4_addBlock_25 rfl 0 rfl ?_
        refine x_get (ci := 4) F hin4 0 rfl rfl 10 (by decide) hw4 rfl dX4_addBlock_26 ?_
        refine x_icmp_ge (tgt := 92) F dX4_addBlock_29 (by decide) (by omega) (fun c29 => ?_) (fun c29 => ?_)
        · -- 29 t
          refine x_aload_n F dX4_addBlock_92 rfl 0 rfl ?_
          refine x_get (ci := 4) F hin4 0 rfl rfl 3 (by decide) hw5 rfl dX4_addBlock_93 ?_
          refine x_aload_n F dX4_addBlock_96 rfl 0 rfl ?_
          refine x_get (ci := 4) F hin4 0 rfl rfl 8 (by decide) hw0 rfl dX4_addBlock_97 ?_
          refine x_aload_n F dX4_addBlock_100 rfl 2 rfl ?_
          refine x_aload_n F dX4_addBlock_101 rfl 0 rfl ?_
          refine x_get (ci := 4) F hin4 0 rfl rfl 9 (by decide) hw6 rfl dX4_addBlock_102 ?_
          refine x_aload_n F dX4_addBlock_105 rfl 0 rfl ?_
          refine x_get (ci := 4) F hin4 0 rfl rfl 10 (by decide) hw4 rfl dX4_addBlock_106 ?_
          refine x_iadd F dX4_addBlock_109 ?_
          refine x_callVi (ci := 0) (q0 := 5) (As := [.int (jI (vN_start + vN_span))]) (st := [.int (jI vN_size), .ref qN_neglects]) F (c_X0_lostAt D kI kJ l qC (vN_start + vN_span) qC_placed qC_wrong qC_lost vC_danger fC_lost (by omega)) (cwV 1 F.2.2.2.2.1 gX4_addBlock_X0_lostAt rfl rfl rfl (by decide +kernel) ⟨Nat.le_of_ble_eq_true rfl, Nat.le_of_ble_eq_true rfl⟩) rfl rfl [5, 7] [0, 1, 2, 3, 4, 6] [0, 1, 2, 3, 4, 6, 5, 7] rfl rfl (by decide) (by decide) (by decide) (fun _ => rfl) (by decide) rfl (Nat.le_of_ble_eq_true rfl) dX4_addBlock_110 ⟨Nat.le_of_ble_eq_true rfl, Nat.le_of_ble_eq_true rfl⟩ (fun z110 u110 h110 => ?_)
          try dsimp only at h110
          refine x_ws [(qN, .inr (4, [.ref qN_blocks, .ref qN_costs, .ref qN_zones, .ref qN_neglects, .ref qN_chosen, .ref qN_best, .ref qN_spent, .ref qN_scaffolds, .int (jI vN_size), .int (jI vN_start), .int (jI vN_span), .int (jI vN_coin), .int (jI vN_least)])), aI kI qN_blocks 6 (iU fN_blocks vN_size b), aI kI qN_costs 24 cg, aI kI qN_zones 24 zg, aI kI qN_neglects 6 fN_neglects, (qC, .inr (0, [.ref qC_placed, .ref qC_wrong, .ref qC_lost, .int (jI vC_danger)])), aI kI qC_placed 401 fC_placed, aI kI qC_lost 401 fC_lost] rfl ?_
          have he110 := h110
          have he110 := he110.symm
          subst he110
          refine x_iconst F dX4_addBlock_113 ?_
          refine x_imul F dX4_addBlock_114 ?_
          refine x_iast F 4 rfl (by decide) (by omega) dX4_addBlock_115 [(qN, .inr (4, [.ref qN_blocks, .ref qN_costs, .ref qN_zones, .ref qN_neglects, .ref qN_chosen, .ref qN_best, .ref qN_spent, .ref qN_scaffolds, .int (jI vN_size), .int (jI vN_start), .int (jI vN_span), .int (jI vN_coin), .int (jI vN_least)])), aI kI qN_blocks 6 (iU fN_blocks vN_size b), aI kI qN_costs 24 cg, aI kI qN_zones 24 zg, aI kI qN_neglects 6 (iU fN_neglects vN_size ((fC_lost (vN_start + vN_span)) * 3)), (qC, .inr (0, [.ref qC_placed, .ref qC_wrong, .ref qC_lost, .int (jI vC_danger)])), aI kI qC_placed 401 fC_placed, aI kI qC_lost 401 fC_lost] rfl ?_
          refine x_aload_n F dX4_addBlock_116 rfl 0 rfl ?_
          refine x_dup F dX4_addBlock_117 rfl ?_
          refine x_get (ci := 4) F hin4 0 rfl rfl 8 (by decide) hw0 rfl dX4_addBlock_118 ?_
          refine x_iconst F dX4_addBlock_121 ?_
          refine x_iadd F dX4_addBlock_122 ?_
          refine x_put (ci := 4) F hin4 tyX4_ok nmX4 0 rfl rfl 8 (by decide) hw0 rfl rfl rfl (show 8 + 1 ≤ _ from Nat.le_of_ble_eq_true rfl) dX4_addBlock_123 [(qN, .inr (4, [.ref qN_blocks, .ref qN_costs, .ref qN_zones, .ref qN_neglects, .ref qN_chosen, .ref qN_best, .ref qN_spent, .ref qN_scaffolds, .int (jI (vN_size + 1)), .int (jI vN_start), .int (jI vN_span), .int (jI vN_coin), .int (jI vN_least)])), aI kI qN_blocks 6 (iU fN_blocks vN_size b), aI kI qN_costs 24 cg, aI kI qN_zones 24 zg, aI kI qN_neglects 6 (iU fN_neglects vN_size ((fC_lost (vN_start + vN_span)) * 3)), (qC, .inr (0, [.ref qC_placed, .ref qC_wrong, .ref qC_lost, .int (jI vC_danger)])), aI kI qC_placed 401 fC_placed, aI kI qC_lost 401 fC_lost] rfl ?_
          exact hret 0 0 126 _ (cg, zg) (Nat.le_of_ble_eq_true rfl) (Nat.le_of_ble_eq_true rfl) dX4_addBlock_126 (by (try dsimp only); exact (⟨fun t a9 b9 => hnew t a9 (by omega), fun k q => hold k (by omega)⟩))
        · -- 29 f
          refine x_iload_n F dX4_addBlock_32 rfl 3 rfl ?_
          refine x_iconst F dX4_addBlock_33 ?_
          refine x_icmp_ge (tgt := 92) F dX4_addBlock_34 (by decide) (by omega) (fun c34 => ?_) (fun c34 => ?_)
          · exact absurd c34 (by omega)
          · -- 34 f
            refine x_aload_n F dX4_addBlock_37 rfl 0 rfl ?_
            refine x_get (ci := 4) F hin4 0 rfl rfl 1 (by decide) hw7 rfl dX4_addBlock_38 ?_
            refine x_aload_n F dX4_addBlock_41 rfl 0 rfl ?_
            refine x_get (ci := 4) F hin4 0 rfl rfl 8 (by decide) hw0 rfl dX4_addBlock_42 ?_
            refine x_iconst F dX4_addBlock_45 ?_
            refine x_imul F dX4_addBlock_46 ?_
            refine x_iload_n F dX4_addBlock_47 rfl 3 rfl ?_
            refine x_iadd F dX4_addBlock_48 ?_
            refine x_bipush F dX4_addBlock_49 (by decide) ?_
            refine x_aload_n F dX4_addBlock_51 rfl 2 rfl ?_
            refine x_aload_n F dX4_addBlock_52 rfl 0 rfl ?_
            refine x_get (ci := 4) F hin4 0 rfl rfl 9 (by decide) hw6 rfl dX4_addBlock_53 ?_
            refine x_iload_n F dX4_addBlock_56 rfl 3 rfl ?_
            refine x_iadd F dX4_addBlock_57 ?_
            refine x_callVi (ci := 0) (q0 := 5) (As := [.int (jI (vN_start + t9))]) (st := [.int (jI 10), .int (jI ((vN_size * 4) + t9)), .ref qN_costs]) F (c_X0_lostAt D kI kJ l qC (vN_start + t9) qC_placed qC_wrong qC_lost vC_danger fC_lost (by omega)) (cwV 1 F.2.2.2.2.1 gX4_addBlock_X0_lostAt rfl rfl rfl (by decide +kernel) ⟨Nat.le_of_ble_eq_true rfl, Nat.le_of_ble_eq_true rfl⟩) rfl rfl [5, 7] [0, 1, 2, 3, 4, 6] [0, 1, 2, 3, 4, 6, 5, 7] rfl rfl (by decide) (by decide) (by decide) (fun _ => rfl) (by decide) rfl (Nat.le_of_ble_eq_true rfl) dX4_addBlock_58 ⟨Nat.le_of_ble_eq_true rfl, Nat.le_of_ble_eq_true rfl⟩ (fun z58 u58 h58 => ?_)
            try dsimp only at h58
            refine x_ws [(qN, .inr (4, [.ref qN_blocks, .ref qN_costs, .ref qN_zones, .ref qN_neglects, .ref qN_chosen, .ref qN_best, .ref qN_spent, .ref qN_scaffolds, .int (jI vN_size), .int (jI vN_start), .int (jI vN_span), .int (jI vN_coin), .int (jI vN_least)])), aI kI qN_blocks 6 (iU fN_blocks vN_size b), aI kI qN_costs 24 cg, aI kI qN_zones 24 zg, aI kI qN_neglects 6 fN_neglects, (qC, .inr (0, [.ref qC_placed, .ref qC_wrong, .ref qC_lost, .int (jI vC_danger)])), aI kI qC_placed 401 fC_placed, aI kI qC_lost 401 fC_lost] rfl ?_
            have he58 := h58
            have he58 := he58.symm
            subst he58
            refine x_iadd F dX4_addBlock_61 ?_
            refine x_iast F 2 rfl (by decide) (by omega) dX4_addBlock_62 [(qN, .inr (4, [.ref qN_blocks, .ref qN_costs, .ref qN_zones, .ref qN_neglects, .ref qN_chosen, .ref qN_best, .ref qN_spent, .ref qN_scaffolds, .int (jI vN_size), .int (jI vN_start), .int (jI vN_span), .int (jI vN_coin), .int (jI vN_least)])), aI kI qN_blocks 6 (iU fN_blocks vN_size b), aI kI qN_costs 24 (iU cg ((vN_size * 4) + t9) (10 + (fC_lost (vN_start + t9)))), aI kI qN_zones 24 zg, aI kI qN_neglects 6 fN_neglects, (qC, .inr (0, [.ref qC_placed, .ref qC_wrong, .ref qC_lost, .int (jI vC_danger)])), aI kI qC_placed 401 fC_placed, aI kI qC_lost 401 fC_lost] rfl ?_
            refine x_aload_n F dX4_addBlock_63 rfl 0 rfl ?_
            refine x_get (ci := 4) F hin4 0 rfl rfl 2 (by decide) hw8 rfl dX4_addBlock_64 ?_
            refine x_aload_n F dX4_addBlock_67 rfl 0 rfl ?_
            refine x_get (ci := 4) F hin4 0 rfl rfl 8 (by decide) hw0 rfl dX4_addBlock_68 ?_
            refine x_iconst F dX4_addBlock_71 ?_
            refine x_imul F dX4_addBlock_72 ?_
            refine x_iload_n F dX4_addBlock_73 rfl 3 rfl ?_
            refine x_iadd F dX4_addBlock_74 ?_
            refine x_aload_n F dX4_addBlock_75 rfl 2 rfl ?_
            refine x_aload_n F dX4_addBlock_76 rfl 0 rfl ?_
            refine x_get (ci := 4) F hin4 0 rfl rfl 9 (by decide) hw6 rfl dX4_addBlock_77 ?_
            refine x_iload_n F dX4_addBlock_80 rfl 3 rfl ?_
            refine x_iadd F dX4_addBlock_81 ?_
            refine x_callVi (ci := 0) (q0 := 5) (As := [.int (jI (vN_start + t9))]) (st := [.int (jI ((vN_size * 4) + t9)), .ref qN_zones]) F (c_X0_zoneAt D kI kJ l qC (vN_start + t9) qC_placed qC_wrong qC_lost vC_danger fC_placed (by omega) hgp) (cwV 1 F.2.2.2.2.1 gX4_addBlock_X0_zoneAt rfl rfl rfl (by decide +kernel) ⟨Nat.le_of_ble_eq_true rfl, Nat.le_of_ble_eq_true rfl⟩) rfl rfl [5, 6] [0, 1, 2, 3, 4, 7] [0, 1, 2, 3, 4, 6, 7, 5] rfl rfl (by decide) (by decide) (by decide) (fun _ => rfl) (by decide) rfl (Nat.le_of_ble_eq_true rfl) dX4_addBlock_82 ⟨Nat.le_of_ble_eq_true rfl, Nat.le_of_ble_eq_true rfl⟩ (fun z82 u82 h82 => ?_)
            try dsimp only at h82
            refine x_ws [(qN, .inr (4, [.ref qN_blocks, .ref qN_costs, .ref qN_zones, .ref qN_neglects, .ref qN_chosen, .ref qN_best, .ref qN_spent, .ref qN_scaffolds, .int (jI vN_size), .int (jI vN_start), .int (jI vN_span), .int (jI vN_coin), .int (jI vN_least)])), aI kI qN_blocks 6 (iU fN_blocks vN_size b), aI kI qN_costs 24 (iU cg ((vN_size * 4) + t9) (10 + (fC_lost (vN_start + t9)))), aI kI qN_zones 24 zg, aI kI qN_neglects 6 fN_neglects, (qC, .inr (0, [.ref qC_placed, .ref qC_wrong, .ref qC_lost, .int (jI vC_danger)])), aI kI qC_placed 401 fC_placed, aI kI qC_lost 401 fC_lost] rfl ?_
            have he82 := h82
            have he82 := he82.symm
            subst he82
            refine x_iast F 3 rfl (by decide) (by omega) dX4_addBlock_85 [(qN, .inr (4, [.ref qN_blocks, .ref qN_costs, .ref qN_zones, .ref qN_neglects, .ref qN_chosen, .ref qN_best, .ref qN_spent, .ref qN_scaffolds, .int (jI vN_size), .int (jI vN_start), .int (jI vN_span), .int (jI vN_coin), .int (jI vN_least)])), aI kI qN_blocks 6 (iU fN_blocks vN_size b), aI kI qN_costs 24 (iU cg ((vN_size * 4) + t9) (10 + (fC_lost (vN_start + t9)))), aI kI qN_zones 24 (iU zg ((vN_size * 4) + t9) (fC_placed (vN_start + t9) / 16)), aI kI qN_neglects 6 fN_neglects, (qC, .inr (0, [.ref qC_placed, .ref qC_wrong, .ref qC_lost, .int (jI vC_danger)])), aI kI qC_placed 401 fC_placed, aI kI qC_lost 401 fC_lost] rfl ?_
            refine x_iinc (lv' := [(0, .ref qN), (1, .int (jI b)), (2, .ref qC), (3, .int (jI (t9 + 1)))]) (k := 3) F dX4_addBlock_86 rfl (by decide) [1, 2, 3, 0] rfl ?_
            refine x_goto (tgt := 24) F dX4_addBlock_89 (by decide) ?_
            exact ih24 (t9 + 1) (iU cg ((vN_size * 4) + t9) (10 + (fC_lost (vN_start + t9)))) (iU zg ((vN_size * 4) + t9) (fC_placed (vN_start + t9) / 16)) (by omega) (fun t h1 h2 => by by_cases e : t = t9; (rw [e, iU_s, iU_s]; exact ⟨rfl, rfl⟩); (rw [iU_n (by omega), iU_n (by omega)]; exact hnew t h1 (by omega))) (fun k q => by rw [iU_n (by omega), iU_n (by omega)]; exact hold k (by omega)) (by omega)
    exact lp24 (Int.toNat (vN_span - 0) + 1) 0 fN_costs fN_zones (by omega) (fun t h1 h2 => by omega) (fun k q => ⟨rfl, rfl⟩) (by omega)
