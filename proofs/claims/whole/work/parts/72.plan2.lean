set_option maxHeartbeats 4000000 in
set_option maxRecDepth 100000 in
theorem c_X4_addBlock (D : va_G) (kI kJ : Nat) (l : Launch) (qN : Nat) (b : Int) (qC : Nat) (qN_blocks : Nat) (qN_costs : Nat) (qN_zones : Nat) (qN_neglects : Nat) (qN_chosen : Nat) (qN_best : Nat) (qN_spent : Nat) (qN_scaffolds : Nat) (vN_size : Int) (vN_start : Int) (vN_span : Int) (vN_coin : Int) (vN_least : Int) (fN_blocks : (Int → Int)) (fN_costs : (Int → Int)) (fN_zones : (Int → Int)) (fN_neglects : (Int → Int)) (qC_placed : Nat) (qC_wrong : Nat) (qC_lost : Nat) (vC_danger : Int) (fC_placed : (Int → Int)) (fC_lost : (Int → Int)) (hNs : 0 ≤ vN_size ∧ vN_size < 6) (hNn : 1 ≤ vN_span ∧ vN_span ≤ 4) (hNy : 0 ≤ vN_start ∧ vN_start ≤ 396) (hgp : Rg fC_placed 401 0 127) : xMv D kI kJ l yX4_addBlock wsX4_addBlock 3 74 0 0 [.ref qN, .int (jI b), .ref qC] [(qN, .inr (4, [.ref qN_blocks, .ref qN_costs, .ref qN_zones, .ref qN_neglects, .ref qN_chosen, .ref qN_best, .ref qN_spent, .ref qN_scaffolds, .int (jI vN_size), .int (jI vN_start), .int (jI vN_span), .int (jI vN_coin), .int (jI vN_least)])), aI kI qN_blocks 6 fN_blocks, aI kI qN_costs 24 fN_costs, aI kI qN_zones 24 fN_zones, aI kI qN_neglects 6 fN_neglects, (qC, .inr (0, [.ref qC_placed, .ref qC_wrong, .ref qC_lost, .int (jI vC_danger)])), aI kI qC_placed 401 fC_placed, aI kI qC_lost 401 fC_lost] (fun (u : (Int → Int) × (Int → Int)) => (∀ t : Int, 0 ≤ t → t < vN_span → u.1 (vN_size * 4 + t) = 10 + fC_lost (vN_start + t) ∧ u.2 (vN_size * 4 + t) = fC_placed (vN_start + t) / 16) ∧ (∀ k : Int, k < vN_size * 4 ∨ vN_size * 4 + vN_span ≤ k → u.1 k = fN_costs k ∧ u.2 k = fN_zones k)) (fun (u : (Int → Int) × (Int → Int)) => [(qN, .inr (4, [.ref qN_blocks, .ref qN_costs, .ref qN_zones, .ref qN_neglects, .ref qN_chosen, .ref qN_best, .ref qN_spent, .ref qN_scaffolds, .int (jI (vN_size + 1)), .int (jI vN_start), .int (jI vN_span), .int (jI vN_coin), .int (jI vN_least)])), aI kI qN_blocks 6 (iU fN_blocks vN_size b), aI kI qN_costs 24 u.1, aI kI qN_zones 24 u.2, aI kI qN_neglects 6 (iU fN_neglects vN_size (fC_lost (vN_start + vN_span) * 3)), (qC, .inr (0, [.ref qC_placed, .ref qC_wrong, .ref qC_lost, .int (jI vC_danger)])), aI kI qC_placed 401 fC_placed, aI kI qC_lost 401 fC_lost]) := by
  refine xMv_of (cc := cX4_addBlock) (maxL := 4) (by decide) rfl (Nat.le_of_ble_eq_true rfl) ?_
  intro p e s m args below meth c A Q F hin2 hret
  have hin4 : ∀ w ∈ wsX40, w ∈ wsX4_addBlock := by decide +kernel
  have hw0 : Cond.fieldLink RX4 36 (TX4 8).1 (TX4 8).2.1 (TX4 8).2.2.1 ∈ wsX4_addBlock := by decide +kernel
  have hw1 : Cond.fieldLink RX4 9 (TX4 0).1 (TX4 0).2.1 (TX4 0).2.2.1 ∈ wsX4_addBlock := by decide +kernel
  have hw2 : Cond.fieldLink RX4 49 (TX4 10).1 (TX4 10).2.1 (TX4 10).2.2.1 ∈ wsX4_addBlock := by decide +kernel
  have hw3 : Cond.fieldLink RX4 21 (TX4 3).1 (TX4 3).2.1 (TX4 3).2.2.1 ∈ wsX4_addBlock := by decide +kernel
  have hw4 : Cond.fieldLink RX4 40 (TX4 9).1 (TX4 9).2.1 (TX4 9).2.2.1 ∈ wsX4_addBlock := by decide +kernel
  have hw5 : Cond.fieldLink RX4 15 (TX4 1).1 (TX4 1).2.1 (TX4 1).2.2.1 ∈ wsX4_addBlock := by decide +kernel
  have hw6 : Cond.fieldLink RX4 18 (TX4 2).1 (TX4 2).2.1 (TX4 2).2.2.1 ∈ wsX4_addBlock := by decide +kernel
  refine x_lveq (lv' := [(0, .ref qN), (1, .int (jI b)), (2, .ref qC)]) rfl ?_
  refine x_aload_n F dX4_addBlock_0 rfl 0 rfl ?_
  refine x_get (ci := 4) F hin4 0 rfl rfl 8 (by decide) hw0 rfl dX4_addBlock_1 ?_
  refine x_bipush F dX4_addBlock_4 (by decide) ?_
  refine x_icmp_ge (tgt := 123) F dX4_addBlock_6 (by decide) (by omega) (fun c6 => ?_) (fun c6 => ?_)
  · exact absurd c6 (by omega)
  · -- 6 f
    refine x_aload_n F dX4_addBlock_9 rfl 0 rfl ?_
    refine x_get (ci := 4) F hin4 0 rfl rfl 0 (by decide) hw1 rfl dX4_addBlock_10 ?_
    refine x_aload_n F dX4_addBlock_13 rfl 0 rfl ?_
    refine x_get (ci := 4) F hin4 0 rfl rfl 8 (by decide) hw0 rfl dX4_addBlock_14 ?_
    refine x_iload_n F dX4_addBlock_17 rfl 1 rfl ?_
    refine x_iast F 1 rfl (by decide) (by omega) dX4_addBlock_18 [(qN, .inr (4, [.ref qN_blocks, .ref qN_costs, .ref qN_zones, .ref qN_neglects, .ref qN_chosen, .ref qN_best, .ref qN_spent, .ref qN_scaffolds, .int (jI vN_size), .int (jI vN_start), .int (jI vN_span), .int (jI vN_coin), .int (jI vN_least)])), aI kI qN_blocks 6 (iU fN_blocks vN_size b), aI kI qN_costs 24 fN_costs, aI kI qN_zones 24 fN_zones, aI kI qN_neglects 6 fN_neglects, (qC, .inr (0, [.ref qC_placed, .ref qC_wrong, .ref qC_lost, .int (jI vC_danger)])), aI kI qC_placed 401 fC_placed, aI kI qC_lost 401 fC_lost] rfl ?_
    refine x_iconst F dX4_addBlock_19 ?_
    refine x_istore_n (lv' := [(0, .ref qN), (1, .int (jI b)), (2, .ref qC), (3, .int (jI 0))]) F dX4_addBlock_20 rfl (by decide) [1, 2, 3, 0] rfl ?_
    have lp21 : ∀ (fu : Nat) (t9 : Int) (cg : (Int → Int)) (zg : (Int → Int)) (ht9 : 0 ≤ t9 ∧ t9 ≤ vN_span) (hnew : ∀ t : Int, 0 ≤ t → t < t9 → cg (vN_size * 4 + t) = 10 + fC_lost (vN_start + t) ∧ zg (vN_size * 4 + t) = fC_placed (vN_start + t) / 16) (hold : ∀ k : Int, k < vN_size * 4 ∨ vN_size * 4 + t9 ≤ k → cg k = fN_costs k ∧ zg k = fN_zones k) (hm : vN_span - t9 < (fu : Int)), xG D p l e (xRm 3 74 0 0) s m args below meth c 4 A Q 0 0 [(qN, .inr (4, [.ref qN_blocks, .ref qN_costs, .ref qN_zones, .ref qN_neglects, .ref qN_chosen, .ref qN_best, .ref qN_spent, .ref qN_scaffolds, .int (jI vN_size), .int (jI vN_start), .int (jI vN_span), .int (jI vN_coin), .int (jI vN_least)])), aI kI qN_blocks 6 (iU fN_blocks vN_size b), aI kI qN_costs 24 cg, aI kI qN_zones 24 zg, aI kI qN_neglects 6 fN_neglects, (qC, .inr (0, [.ref qC_placed, .ref qC_wrong, .ref qC_lost, .int (jI vC_danger)])), aI kI qC_placed 401 fC_placed, aI kI qC_lost 401 fC_lost] [(0, .ref qN), (1, .int (jI b)), (2, .ref qC), (3, .int (jI t9))] 21 [] := by
      intro fu
      induction fu with
      | zero =>
        intro t9 cg zg ht9 hnew hold hm
        exact absurd hm (by omega)
      | succ fu ih21 =>
        intro t9 cg zg ht9 hnew hold hm
        refine x_iload_n F dX4_addBlock_21 rfl 3 rfl ?_
        refine x_aload_n F dX4_addBlock_22 rfl 0 rfl ?_
        refine x_get (ci := 4) F hin4 0 rfl rfl 10 (by decide) hw2 rfl dX4_addBlock_23 ?_
        refine x_icmp_ge (tgt := 89) F dX4_addBlock_26 (by decide) (by omega) (fun c26 => ?_) (fun c26 => ?_)
        · -- 26 t
          refine x_aload_n F dX4_addBlock_89 rfl 0 rfl ?_
          refine x_get (ci := 4) F hin4 0 rfl rfl 3 (by decide) hw3 rfl dX4_addBlock_90 ?_
          refine x_aload_n F dX4_addBlock_93 rfl 0 rfl ?_
          refine x_get (ci := 4) F hin4 0 rfl rfl 8 (by decide) hw0 rfl dX4_addBlock_94 ?_
          refine x_aload_n F dX4_addBlock_97 rfl 2 rfl ?_
          refine x_aload_n F dX4_addBlock_98 rfl 0 rfl ?_
          refine x_get (ci := 4) F hin4 0 rfl rfl 9 (by decide) hw4 rfl dX4_addBlock_99 ?_
          refine x_aload_n F dX4_addBlock_102 rfl 0 rfl ?_
          refine x_get (ci := 4) F hin4 0 rfl rfl 10 (by decide) hw2 rfl dX4_addBlock_103 ?_
          refine x_iadd F dX4_addBlock_106 ?_
          refine x_callVi (ci := 0) (q0 := 5) (As := [.int (jI (vN_start + vN_span))]) (st := [.int (jI vN_size), .ref qN_neglects]) F (c_X0_lostAt D kI kJ l qC (vN_start + vN_span) qC_placed qC_wrong qC_lost vC_danger fC_lost (by omega)) (cwV 1 F.2.2.2.2.1 gX4_addBlock_X0_lostAt rfl rfl rfl (by decide +kernel) ⟨Nat.le_of_ble_eq_true rfl, Nat.le_of_ble_eq_true rfl⟩) rfl rfl [5, 7] [0, 1, 2, 3, 4, 6] [0, 1, 2, 3, 4, 6, 5, 7] rfl rfl (by decide) (by decide) (by decide) (fun _ => rfl) (by decide) rfl (Nat.le_of_ble_eq_true rfl) dX4_addBlock_107 ⟨Nat.le_of_ble_eq_true rfl, Nat.le_of_ble_eq_true rfl⟩ (fun z107 u107 h107 => ?_)
          try dsimp only at h107
          refine x_ws [(qN, .inr (4, [.ref qN_blocks, .ref qN_costs, .ref qN_zones, .ref qN_neglects, .ref qN_chosen, .ref qN_best, .ref qN_spent, .ref qN_scaffolds, .int (jI vN_size), .int (jI vN_start), .int (jI vN_span), .int (jI vN_coin), .int (jI vN_least)])), aI kI qN_blocks 6 (iU fN_blocks vN_size b), aI kI qN_costs 24 cg, aI kI qN_zones 24 zg, aI kI qN_neglects 6 fN_neglects, (qC, .inr (0, [.ref qC_placed, .ref qC_wrong, .ref qC_lost, .int (jI vC_danger)])), aI kI qC_placed 401 fC_placed, aI kI qC_lost 401 fC_lost] rfl ?_
          have he107 := h107
          have he107 := he107.symm
          subst he107
          refine x_iconst F dX4_addBlock_110 ?_
          refine x_imul F dX4_addBlock_111 ?_
          refine x_iast F 4 rfl (by decide) (by omega) dX4_addBlock_112 [(qN, .inr (4, [.ref qN_blocks, .ref qN_costs, .ref qN_zones, .ref qN_neglects, .ref qN_chosen, .ref qN_best, .ref qN_spent, .ref qN_scaffolds, .int (jI vN_size), .int (jI vN_start), .int (jI vN_span), .int (jI vN_coin), .int (jI vN_least)])), aI kI qN_blocks 6 (iU fN_blocks vN_size b), aI kI qN_costs 24 cg, aI kI qN_zones 24 zg, aI kI qN_neglects 6 (iU fN_neglects vN_size ((fC_lost (vN_start + vN_span)) * 3)), (qC, .inr (0, [.ref qC_placed, .ref qC_wrong, .ref qC_lost, .int (jI vC_danger)])), aI kI qC_placed 401 fC_placed, aI kI qC_lost 401 fC_lost] rfl ?_
          refine x_aload_n F dX4_addBlock_113 rfl 0 rfl ?_
          refine x_dup F dX4_addBlock_114 rfl ?_
          refine x_get (ci := 4) F hin4 0 rfl rfl 8 (by decide) hw0 rfl dX4_addBlock_115 ?_
          refine x_iconst F dX4_addBlock_118 ?_
          refine x_iadd F dX4_addBlock_119 ?_
          refine x_put (ci := 4) F hin4 tyX4_ok nmX4 0 rfl rfl 8 (by decide) hw0 rfl rfl rfl (show 8 + 1 ≤ _ from Nat.le_of_ble_eq_true rfl) dX4_addBlock_120 [(qN, .inr (4, [.ref qN_blocks, .ref qN_costs, .ref qN_zones, .ref qN_neglects, .ref qN_chosen, .ref qN_best, .ref qN_spent, .ref qN_scaffolds, .int (jI (vN_size + 1)), .int (jI vN_start), .int (jI vN_span), .int (jI vN_coin), .int (jI vN_least)])), aI kI qN_blocks 6 (iU fN_blocks vN_size b), aI kI qN_costs 24 cg, aI kI qN_zones 24 zg, aI kI qN_neglects 6 (iU fN_neglects vN_size ((fC_lost (vN_start + vN_span)) * 3)), (qC, .inr (0, [.ref qC_placed, .ref qC_wrong, .ref qC_lost, .int (jI vC_danger)])), aI kI qC_placed 401 fC_placed, aI kI qC_lost 401 fC_lost] rfl ?_
          exact hret 0 0 123 _ (cg, zg) (Nat.le_of_ble_eq_true rfl) (Nat.le_of_ble_eq_true rfl) dX4_addBlock_123 (by (try dsimp only); exact (⟨fun t a9 b9 => hnew t a9 (by omega), fun k q => hold k (by omega)⟩))
        · -- 26 f
          refine x_iload_n F dX4_addBlock_29 rfl 3 rfl ?_
          refine x_iconst F dX4_addBlock_30 ?_
          refine x_icmp_ge (tgt := 89) F dX4_addBlock_31 (by decide) (by omega) (fun c31 => ?_) (fun c31 => ?_)
          · exact absurd c31 (by omega)
          · -- 31 f
            refine x_aload_n F dX4_addBlock_34 rfl 0 rfl ?_
            refine x_get (ci := 4) F hin4 0 rfl rfl 1 (by decide) hw5 rfl dX4_addBlock_35 ?_
            refine x_aload_n F dX4_addBlock_38 rfl 0 rfl ?_
            refine x_get (ci := 4) F hin4 0 rfl rfl 8 (by decide) hw0 rfl dX4_addBlock_39 ?_
            refine x_iconst F dX4_addBlock_42 ?_
            refine x_imul F dX4_addBlock_43 ?_
            refine x_iload_n F dX4_addBlock_44 rfl 3 rfl ?_
            refine x_iadd F dX4_addBlock_45 ?_
            refine x_bipush F dX4_addBlock_46 (by decide) ?_
            refine x_aload_n F dX4_addBlock_48 rfl 2 rfl ?_
            refine x_aload_n F dX4_addBlock_49 rfl 0 rfl ?_
            refine x_get (ci := 4) F hin4 0 rfl rfl 9 (by decide) hw4 rfl dX4_addBlock_50 ?_
            refine x_iload_n F dX4_addBlock_53 rfl 3 rfl ?_
            refine x_iadd F dX4_addBlock_54 ?_
            refine x_callVi (ci := 0) (q0 := 5) (As := [.int (jI (vN_start + t9))]) (st := [.int (jI 10), .int (jI ((vN_size * 4) + t9)), .ref qN_costs]) F (c_X0_lostAt D kI kJ l qC (vN_start + t9) qC_placed qC_wrong qC_lost vC_danger fC_lost (by omega)) (cwV 1 F.2.2.2.2.1 gX4_addBlock_X0_lostAt rfl rfl rfl (by decide +kernel) ⟨Nat.le_of_ble_eq_true rfl, Nat.le_of_ble_eq_true rfl⟩) rfl rfl [5, 7] [0, 1, 2, 3, 4, 6] [0, 1, 2, 3, 4, 6, 5, 7] rfl rfl (by decide) (by decide) (by decide) (fun _ => rfl) (by decide) rfl (Nat.le_of_ble_eq_true rfl) dX4_addBlock_55 ⟨Nat.le_of_ble_eq_true rfl, Nat.le_of_ble_eq_true rfl⟩ (fun z55 u55 h55 => ?_)
            try dsimp only at h55
            refine x_ws [(qN, .inr (4, [.ref qN_blocks, .ref qN_costs, .ref qN_zones, .ref qN_neglects, .ref qN_chosen, .ref qN_best, .ref qN_spent, .ref qN_scaffolds, .int (jI vN_size), .int (jI vN_start), .int (jI vN_span), .int (jI vN_coin), .int (jI vN_least)])), aI kI qN_blocks 6 (iU fN_blocks vN_size b), aI kI qN_costs 24 cg, aI kI qN_zones 24 zg, aI kI qN_neglects 6 fN_neglects, (qC, .inr (0, [.ref qC_placed, .ref qC_wrong, .ref qC_lost, .int (jI vC_danger)])), aI kI qC_placed 401 fC_placed, aI kI qC_lost 401 fC_lost] rfl ?_
            have he55 := h55
            have he55 := he55.symm
            subst he55
            refine x_iadd F dX4_addBlock_58 ?_
            refine x_iast F 2 rfl (by decide) (by omega) dX4_addBlock_59 [(qN, .inr (4, [.ref qN_blocks, .ref qN_costs, .ref qN_zones, .ref qN_neglects, .ref qN_chosen, .ref qN_best, .ref qN_spent, .ref qN_scaffolds, .int (jI vN_size), .int (jI vN_start), .int (jI vN_span), .int (jI vN_coin), .int (jI vN_least)])), aI kI qN_blocks 6 (iU fN_blocks vN_size b), aI kI qN_costs 24 (iU cg ((vN_size * 4) + t9) (10 + (fC_lost (vN_start + t9)))), aI kI qN_zones 24 zg, aI kI qN_neglects 6 fN_neglects, (qC, .inr (0, [.ref qC_placed, .ref qC_wrong, .ref qC_lost, .int (jI vC_danger)])), aI kI qC_placed 401 fC_placed, aI kI qC_lost 401 fC_lost] rfl ?_
            refine x_aload_n F dX4_addBlock_60 rfl 0 rfl ?_
            refine x_get (ci := 4) F hin4 0 rfl rfl 2 (by decide) hw6 rfl dX4_addBlock_61 ?_
            refine x_aload_n F dX4_addBlock_64 rfl 0 rfl ?_
            refine x_get (ci := 4) F hin4 0 rfl rfl 8 (by decide) hw0 rfl dX4_addBlock_65 ?_
            refine x_iconst F dX4_addBlock_68 ?_
            refine x_imul F dX4_addBlock_69 ?_
            refine x_iload_n F dX4_addBlock_70 rfl 3 rfl ?_
            refine x_iadd F dX4_addBlock_71 ?_
            refine x_aload_n F dX4_addBlock_72 rfl 2 rfl ?_
            refine x_aload_n F dX4_addBlock_73 rfl 0 rfl ?_
            refine x_get (ci := 4) F hin4 0 rfl rfl 9 (by decide) hw4 rfl dX4_addBlock_74 ?_
            refine x_iload_n F dX4_addBlock_77 rfl 3 rfl ?_
            refine x_iadd F dX4_addBlock_78 ?_
            refine x_callVi (ci := 0) (q0 := 5) (As := [.int (jI (vN_start + t9))]) (st := [.int (jI ((vN_size * 4) + t9)), .ref qN_zones]) F (c_X0_zoneAt D kI kJ l qC (vN_start + t9) qC_placed qC_wrong qC_lost vC_danger fC_placed (by omega) hgp) (cwV 1 F.2.2.2.2.1 gX4_addBlock_X0_zoneAt rfl rfl rfl (by decide +kernel) ⟨Nat.le_of_ble_eq_true rfl, Nat.le_of_ble_eq_true rfl⟩) rfl rfl [5, 6] [0, 1, 2, 3, 4, 7] [0, 1, 2, 3, 4, 6, 7, 5] rfl rfl (by decide) (by decide) (by decide) (fun _ => rfl) (by decide) rfl (Nat.le_of_ble_eq_true rfl) dX4_addBlock_79 ⟨Nat.le_of_ble_eq_true rfl, Nat.le_of_ble_eq_true rfl⟩ (fun z79 u79 h79 => ?_)
            try dsimp only at h79
            refine x_ws [(qN, .inr (4, [.ref qN_blocks, .ref qN_costs, .ref qN_zones, .ref qN_neglects, .ref qN_chosen, .ref qN_best, .ref qN_spent, .ref qN_scaffolds, .int (jI vN_size), .int (jI vN_start), .int (jI vN_span), .int (jI vN_coin), .int (jI vN_least)])), aI kI qN_blocks 6 (iU fN_blocks vN_size b), aI kI qN_costs 24 (iU cg ((vN_size * 4) + t9) (10 + (fC_lost (vN_start + t9)))), aI kI qN_zones 24 zg, aI kI qN_neglects 6 fN_neglects, (qC, .inr (0, [.ref qC_placed, .ref qC_wrong, .ref qC_lost, .int (jI vC_danger)])), aI kI qC_placed 401 fC_placed, aI kI qC_lost 401 fC_lost] rfl ?_
            have he79 := h79
            have he79 := he79.symm
            subst he79
            refine x_iast F 3 rfl (by decide) (by omega) dX4_addBlock_82 [(qN, .inr (4, [.ref qN_blocks, .ref qN_costs, .ref qN_zones, .ref qN_neglects, .ref qN_chosen, .ref qN_best, .ref qN_spent, .ref qN_scaffolds, .int (jI vN_size), .int (jI vN_start), .int (jI vN_span), .int (jI vN_coin), .int (jI vN_least)])), aI kI qN_blocks 6 (iU fN_blocks vN_size b), aI kI qN_costs 24 (iU cg ((vN_size * 4) + t9) (10 + (fC_lost (vN_start + t9)))), aI kI qN_zones 24 (iU zg ((vN_size * 4) + t9) (fC_placed (vN_start + t9) / 16)), aI kI qN_neglects 6 fN_neglects, (qC, .inr (0, [.ref qC_placed, .ref qC_wrong, .ref qC_lost, .int (jI vC_danger)])), aI kI qC_placed 401 fC_placed, aI kI qC_lost 401 fC_lost] rfl ?_
            refine x_iinc (lv' := [(0, .ref qN), (1, .int (jI b)), (2, .ref qC), (3, .int (jI (t9 + 1)))]) (k := 3) F dX4_addBlock_83 rfl (by decide) [1, 2, 3, 0] rfl ?_
            refine x_goto (tgt := 21) F dX4_addBlock_86 (by decide) ?_
            exact ih21 (t9 + 1) (iU cg ((vN_size * 4) + t9) (10 + (fC_lost (vN_start + t9)))) (iU zg ((vN_size * 4) + t9) (fC_placed (vN_start + t9) / 16)) (by omega) (fun t h1 h2 => by by_cases e : t = t9; (rw [e, iU_s, iU_s]; exact ⟨rfl, rfl⟩); (rw [iU_n (by omega), iU_n (by omega)]; exact hnew t h1 (by omega))) (fun k q => by rw [iU_n (by omega), iU_n (by omega)]; exact hold k (by omega)) (by omega)
    exact lp21 (Int.toNat (vN_span - 0) + 1) 0 fN_costs fN_zones (by omega) (fun t h1 h2 => by omega) (fun k q => ⟨rfl, rfl⟩) (by omega)
