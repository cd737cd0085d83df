set_option maxHeartbeats 4000000 in
set_option maxRecDepth 100000 in
theorem c_X2_findState (D : va_G) (kI kJ : Nat) (l : Launch) (qL : Nat) (b : Int) (year : Int) (known : Int) (qFr : Nat) (qL_blocks : Nat) (qL_hands : Nat) (qL_years : Nat) (qL_grades : Nat) (qL_sums : Nat) (qL_pairs : Nat) (qL_seen : Nat) (vL_size : Int) (vL_doubles : Int) (vL_learned : Int) (fL_blocks : (Int → Int)) (fL_hands : (Int → Int)) (fL_years : (Int → Int)) (fL_grades : (Int → Int)) (fL_sums : (Int → Int)) (fL_pairs : (Int → Int)) (fL_seen : (Int → Int)) (vFr_upper : Int) (vFr_lower : Int) (hr_b : -2147483648 ≤ b ∧ b < 2147483648) (hr_year : -2147483648 ≤ year ∧ year < 2147483648) (hk : 0 ≤ known ∧ known ≤ vL_size) (hLs : 0 ≤ vL_size ∧ vL_size ≤ 80) (hLb : Rg fL_blocks 80 0 29) (hLh : Rg fL_hands 80 0 3) (hLy : Rg fL_years 80 0 400) (hLg : Rg fL_grades 80 0 99) (hLl : 0 ≤ vL_learned ∧ vL_learned ≤ vL_size) (hLS : ∀ k : Int, 0 ≤ k → k < 4 → fL_sums k = hS fL_blocks fL_years fL_hands fL_grades vL_learned k) (hLP : ∀ k : Int, 0 ≤ k → k < 4 → fL_pairs k = hN fL_blocks fL_years fL_hands vL_learned k) (hLD : vL_doubles = dnS fL_blocks fL_years fL_hands vL_learned) : xMi D kI kJ l yX2_findState wsX2_findState 4 139 0 0 [.ref qL, .int (jI b), .int (jI year), .int (jI known), .ref qFr] [(qL, .inr (2, [.ref qL_blocks, .ref qL_hands, .ref qL_years, .ref qL_grades, .ref qL_sums, .ref qL_pairs, .ref qL_seen, .int (jI vL_size), .int (jI vL_doubles), .int (jI vL_learned)])), aI kI qL_blocks 80 fL_blocks, aI kI qL_hands 80 fL_hands, aI kI qL_years 80 fL_years, aI kI qL_grades 80 fL_grades, aI kI qL_sums 4 fL_sums, aI kI qL_pairs 4 fL_pairs, aI kI qL_seen 4 fL_seen, (qFr, .inr (1, [.long (jL vFr_upper), .long (jL vFr_lower)]))] (fun (z : Int) (u : (Int → Int) × (Int → Int) × (Int → Int) × Int × Int × Int × Int) => xBool z (¬ (laI fL_blocks fL_years b year known) = -1) ∧ (0 ≤ u.2.2.2.2.1 ∧ u.2.2.2.2.1 ≤ vL_size) ∧ (∀ k : Int, 0 ≤ k → k < 4 → u.1 k = hS fL_blocks fL_years fL_hands fL_grades u.2.2.2.2.1 k) ∧ (∀ k : Int, 0 ≤ k → k < 4 → u.2.1 k = hN fL_blocks fL_years fL_hands u.2.2.2.2.1 k) ∧ (u.2.2.2.1 = dnS fL_blocks fL_years fL_hands u.2.2.2.2.1) ∧ (¬ (laI fL_blocks fL_years b year known) = -1 → u.2.2.2.2.2.1 = stU fL_blocks fL_years fL_hands fL_grades b year known ∧ u.2.2.2.2.2.2 = stL fL_blocks fL_years fL_hands fL_grades b year known) ∧ ((laI fL_blocks fL_years b year known) = -1 → u.2.2.2.2.2.1 = vFr_upper ∧ u.2.2.2.2.2.2 = vFr_lower)) (fun (u : (Int → Int) × (Int → Int) × (Int → Int) × Int × Int × Int × Int) => [(qL, .inr (2, [.ref qL_blocks, .ref qL_hands, .ref qL_years, .ref qL_grades, .ref qL_sums, .ref qL_pairs, .ref qL_seen, .int (jI vL_size), .int (jI u.2.2.2.1), .int (jI u.2.2.2.2.1)])), aI kI qL_blocks 80 fL_blocks, aI kI qL_hands 80 fL_hands, aI kI qL_years 80 fL_years, aI kI qL_grades 80 fL_grades, aI kI qL_sums 4 u.1, aI kI qL_pairs 4 u.2.1, aI kI qL_seen 4 u.2.2.1, (qFr, .inr (1, [.long (jL u.2.2.2.2.2.1), .long (jL u.2.2.2.2.2.2)]))]) := by
  refine xMi_of (cc := cX2_findState) (maxL := 9) (rt := .boolean) (by decide) rfl (Nat.le_of_ble_eq_true rfl) (fun z u hp => xBool_nar hp.1) ?_
  intro p e s m args below meth c A Q F hin2 hret
  have hin2 : ∀ w ∈ wsX20, w ∈ wsX2_findState := by decide +kernel
  have hw0 : Cond.fieldLink RX2 30 (TX2 6).1 (TX2 6).2.1 (TX2 6).2.2.1 ∈ wsX2_findState := by decide +kernel
  have hw1 : Cond.fieldLink RX2 27 (TX2 5).1 (TX2 5).2.1 (TX2 5).2.2.1 ∈ wsX2_findState := by decide +kernel
  have hw2 : Cond.fieldLink RX2 24 (TX2 4).1 (TX2 4).2.1 (TX2 4).2.2.1 ∈ wsX2_findState := by decide +kernel
  have hw3 : Cond.constantLong RX2 61 2 ∈ wsX2_findState := by decide +kernel
  have hw4 : Cond.fieldLink RX2 9 (TX2 0).1 (TX2 0).2.1 (TX2 0).2.2.1 ∈ wsX2_findState := by decide +kernel
  have hw5 : Cond.fieldLink RX2 18 (TX2 2).1 (TX2 2).2.1 (TX2 2).2.2.1 ∈ wsX2_findState := by decide +kernel
  have hw6 : Cond.fieldLink RX2 21 (TX2 3).1 (TX2 3).2.1 (TX2 3).2.2.1 ∈ wsX2_findState := by decide +kernel
  have hw7 : Cond.fieldLink RX2 15 (TX2 1).1 (TX2 1).2.1 (TX2 1).2.2.1 ∈ wsX2_findState := by decide +kernel
  refine x_lveq (lv' := [(0, .ref qL), (1, .int (jI b)), (2, .int (jI year)), (3, .int (jI known)), (4, .ref qFr)]) rfl ?_
  have hlr := laI_rng (b := fL_blocks) (y := fL_years) (bb := b) (yr := year) hLy (i := known) hk.1 (by omega)
  have hgk : ∀ k : Int, 0 ≤ k → k < known → 0 ≤ fL_grades k ∧ fL_grades k ≤ 99 := fun k k0 k1 => hLg k k0 (by omega)
  have hhk : ∀ k : Int, 0 ≤ k → k < known → 0 ≤ fL_hands k ∧ fL_hands k ≤ 3 := fun k k0 k1 => hLh k k0 (by omega)
  refine x_aload_n F dX2_findState_0 rfl 0 rfl ?_
  refine x_iload_n F dX2_findState_1 rfl 1 rfl ?_
  refine x_iload_n F dX2_findState_2 rfl 2 rfl ?_
  refine x_iload_n F dX2_findState_3 rfl 3 rfl ?_
  refine x_callVi (ci := 2) (q0 := 0) (As := [.int (jI b), .int (jI year), .int (jI known)]) (st := []) F (c_X2_findLatest D kI kJ l qL b year known qL_blocks qL_hands qL_years qL_grades qL_sums qL_pairs qL_seen vL_size vL_doubles vL_learned fL_blocks fL_years hr_b hr_year hk hLs hLb hLy) (cwV 3 F.2.2.2.2.1 gX2_findState_X2_findLatest rfl rfl rfl (by decide +kernel) ⟨Nat.le_of_ble_eq_true rfl, Nat.le_of_ble_eq_true rfl⟩) rfl rfl [0, 1, 3] [2, 4, 5, 6, 7, 8] [6, 7, 0, 8, 1, 2, 3, 4, 5] rfl rfl (by decide) (by decide) (by decide) (fun _ => rfl) (by decide) rfl (Nat.le_of_ble_eq_true rfl) dX2_findState_4 ⟨Nat.le_of_ble_eq_true rfl, Nat.le_of_ble_eq_true rfl⟩ (fun z4 u4 h4 => ?_)
  try dsimp only at h4
  refine x_ws [(qL, .inr (2, [.ref qL_blocks, .ref qL_hands, .ref qL_years, .ref qL_grades, .ref qL_sums, .ref qL_pairs, .ref qL_seen, .int (jI vL_size), .int (jI vL_doubles), .int (jI vL_learned)])), aI kI qL_blocks 80 fL_blocks, aI kI qL_hands 80 fL_hands, aI kI qL_years 80 fL_years, aI kI qL_grades 80 fL_grades, aI kI qL_sums 4 fL_sums, aI kI qL_pairs 4 fL_pairs, aI kI qL_seen 4 fL_seen, (qFr, .inr (1, [.long (jL vFr_upper), .long (jL vFr_lower)]))] rfl ?_
  have he4 := h4
  have he4 := he4.symm
  subst he4
  refine x_istore (lv' := [(0, .ref qL), (1, .int (jI b)), (2, .int (jI year)), (3, .int (jI known)), (4, .ref qFr), (5, .int (jI (laI fL_blocks fL_years b year known)))]) F dX2_findState_7 (by decide) [1, 2, 3, 4, 5, 0] rfl ?_
  refine x_iload F dX2_findState_9 5 rfl ?_
  refine x_iconst F dX2_findState_11 ?_
  refine x_icmp_ne (tgt := 17) F dX2_findState_12 (by decide) (by omega) (fun c12 => ?_) (fun c12 => ?_)
  · -- 12 t
    refine x_aload_n F dX2_findState_17 rfl 0 rfl ?_
    refine x_iload_n F dX2_findState_18 rfl 3 rfl ?_
    refine x_callVv (ci := 2) (q0 := 0) (As := [.int (jI known)]) (st := []) F (c_X2_learnHabits D kI kJ l qL known qL_blocks qL_hands qL_years qL_grades qL_sums qL_pairs qL_seen vL_size vL_doubles vL_learned fL_blocks fL_hands fL_years fL_grades fL_sums fL_pairs hk hLs hLb hLh hLy hLg hLl hLS hLP hLD) (cwV 1 F.2.2.2.2.1 gX2_findState_X2_learnHabits rfl rfl rfl (by decide +kernel) ⟨Nat.le_of_ble_eq_true rfl, Nat.le_of_ble_eq_true rfl⟩) rfl rfl [0, 1, 2, 3, 4, 5, 6] [7, 8] [2, 3, 4, 5, 6, 7, 8, 0, 1] rfl rfl (by decide) (by decide) (by decide) (fun _ => rfl) (by decide) rfl (Nat.le_of_ble_eq_true rfl) dX2_findState_19 ⟨Nat.le_of_ble_eq_true rfl, Nat.le_of_ble_eq_true rfl⟩ (fun u19 h19 => ?_)
    obtain ⟨s2_19, p2_19, d2_19⟩ := u19
    try dsimp only at h19
    refine x_ws [(qL, .inr (2, [.ref qL_blocks, .ref qL_hands, .ref qL_years, .ref qL_grades, .ref qL_sums, .ref qL_pairs, .ref qL_seen, .int (jI vL_size), .int (jI d2_19), .int (jI known)])), aI kI qL_blocks 80 fL_blocks, aI kI qL_hands 80 fL_hands, aI kI qL_years 80 fL_years, aI kI qL_grades 80 fL_grades, aI kI qL_sums 4 s2_19, aI kI qL_pairs 4 p2_19, aI kI qL_seen 4 fL_seen, (qFr, .inr (1, [.long (jL vFr_upper), .long (jL vFr_lower)]))] rfl ?_
    obtain ⟨hs_19, hp_19, hd_19⟩ := h19
    refine x_aload_n F dX2_findState_22 rfl 0 rfl ?_
    refine x_get (ci := 2) F hin2 0 rfl rfl 6 (by decide) hw0 rfl dX2_findState_23 ?_
    refine x_iconst F dX2_findState_26 ?_
    refine x_callSv (As := [.ref qL_seen, .int (jI 0)]) (st := []) F (c_J7_fill_53178 D kI kJ l qL_seen 0 4 fL_seen (by omega)) (va_cwS 2 F.2.2.2.2.1 gX2_findState_J7_fill_53178 rfl rfl rfl (by decide +kernel) ⟨Nat.le_of_ble_eq_true rfl, Nat.le_of_ble_eq_true rfl⟩) [7] [0, 1, 2, 3, 4, 5, 6, 8] [0, 1, 2, 3, 4, 5, 6, 8, 7] rfl rfl (by decide) (by decide) (by decide) (fun _ => rfl) (by decide) rfl (Nat.le_of_ble_eq_true rfl) dX2_findState_27 ⟨Nat.le_of_ble_eq_true rfl, Nat.le_of_ble_eq_true rfl⟩ (fun u27 h27 => ?_)
    obtain ⟨f2_27, rfl⟩ : ∃ z, z = u27 := ⟨_, rfl⟩
    try dsimp only at h27
    refine x_ws [(qL, .inr (2, [.ref qL_blocks, .ref qL_hands, .ref qL_years, .ref qL_grades, .ref qL_sums, .ref qL_pairs, .ref qL_seen, .int (jI vL_size), .int (jI d2_19), .int (jI known)])), aI kI qL_blocks 80 fL_blocks, aI kI qL_hands 80 fL_hands, aI kI qL_years 80 fL_years, aI kI qL_grades 80 fL_grades, aI kI qL_sums 4 s2_19, aI kI qL_pairs 4 p2_19, aI kI qL_seen 4 f2_27, (qFr, .inr (1, [.long (jL vFr_upper), .long (jL vFr_lower)]))] rfl ?_
    have hf_27 := h27
    refine x_iconst F dX2_findState_30 ?_
    refine x_istore (lv' := [(0, .ref qL), (1, .int (jI b)), (2, .int (jI year)), (3, .int (jI known)), (4, .ref qFr), (5, .int (jI (laI fL_blocks fL_years b year known))), (6, .int (jI 0))]) F dX2_findState_31 (by decide) [1, 2, 3, 4, 5, 6, 0] rfl ?_
    refine x_iconst F dX2_findState_33 ?_
    refine x_istore (lv' := [(0, .ref qL), (1, .int (jI b)), (2, .int (jI year)), (3, .int (jI known)), (4, .ref qFr), (5, .int (jI (laI fL_blocks fL_years b year known))), (6, .int (jI 0)), (7, .int (jI 0))]) F dX2_findState_34 (by decide) [1, 2, 3, 4, 5, 6, 7, 0] rfl ?_
    refine x_iconst F dX2_findState_36 ?_
    refine x_istore (lv' := [(0, .ref qL), (1, .int (jI b)), (2, .int (jI year)), (3, .int (jI known)), (4, .ref qFr), (5, .int (jI (laI fL_blocks fL_years b year known))), (6, .int (jI 0)), (7, .int (jI 0)), (8, .int (jI 0))]) F dX2_findState_37 (by decide) [1, 2, 3, 4, 5, 6, 7, 8, 0] rfl ?_
    have lp39 : ∀ (fu : Nat) (gr : Int) (fo : Int) (i2 : Int) (se : (Int → Int)) (hi2 : 0 ≤ i2 ∧ i2 ≤ known) (hgr : gr = sm (tG fL_blocks fL_years fL_grades b (laI fL_blocks fL_years b year known)) i2) (hfo : fo = sm (tF fL_blocks fL_years b (laI fL_blocks fL_years b year known)) i2) (hse : ∀ k : Int, 0 ≤ k → k < 4 → se k = sT fL_blocks fL_years fL_hands b (laI fL_blocks fL_years b year known) i2 k) (hm : known - i2 < (fu : Int)), xG D p l e (xRm 4 139 0 0) s m args below meth c 9 A Q 0 0 [(qL, .inr (2, [.ref qL_blocks, .ref qL_hands, .ref qL_years, .ref qL_grades, .ref qL_sums, .ref qL_pairs, .ref qL_seen, .int (jI vL_size), .int (jI d2_19), .int (jI known)])), aI kI qL_blocks 80 fL_blocks, aI kI qL_hands 80 fL_hands, aI kI qL_years 80 fL_years, aI kI qL_grades 80 fL_grades, aI kI qL_sums 4 s2_19, aI kI qL_pairs 4 p2_19, aI kI qL_seen 4 se, (qFr, .inr (1, [.long (jL vFr_upper), .long (jL vFr_lower)]))] [(0, .ref qL), (1, .int (jI b)), (2, .int (jI year)), (3, .int (jI known)), (4, .ref qFr), (5, .int (jI (laI fL_blocks fL_years b year known))), (6, .int (jI gr)), (7, .int (jI fo)), (8, .int (jI i2))] 39 [] := by
      intro fu
      induction fu with
      | zero =>
        intro gr fo i2 se hi2 hgr hfo hse hm
        exact absurd hm (by omega)
      | succ fu ih39 =>
        intro gr fo i2 se hi2 hgr hfo hse hm
        have hgrr : 0 ≤ gr ∧ gr ≤ 99 * i2 := by rw [hgr]; exact tG_rng hi2.1 (fun k k0 k1 => hgk k k0 (by omega))
        have hfor : 0 ≤ fo ∧ fo ≤ i2 := by rw [hfo]; exact tF_rng hi2.1
        refine x_iload F dX2_findState_39 8 rfl ?_
        refine x_iload_n F dX2_findState_41 rfl 3 rfl ?_
        refine x_icmp_ge (tgt := 111) F dX2_findState_42 (by decide) (by omega) (fun c42 => ?_) (fun c42 => ?_)
        · -- 42 t
          refine x_aload F dX2_findState_111 4 rfl ?_
          refine x_iload F dX2_findState_113 6 rfl ?_
          refine x_i2l F dX2_findState_115 (by omega) ?_
          refine x_lconst F 1 dX2_findState_116 (by decide) ?_
          refine x_callVv (ci := 1) (q0 := 8) (As := [.long (jL gr), .long (jL 1)]) (st := []) F (c_X1_set_pos D kI kJ l qFr gr 1 vFr_upper vFr_lower (by omega) (by omega)) (cwV 2 F.2.2.2.2.1 gX2_findState_X1_set rfl rfl rfl (by decide +kernel) ⟨Nat.le_of_ble_eq_true rfl, Nat.le_of_ble_eq_true rfl⟩) rfl rfl [8] [0, 1, 2, 3, 4, 5, 6, 7] [0, 1, 2, 3, 4, 5, 6, 7, 8] rfl rfl (by decide) (by decide) (by decide) (fun _ => rfl) (by decide) rfl (Nat.le_of_ble_eq_true rfl) dX2_findState_117 ⟨Nat.le_of_ble_eq_true rfl, Nat.le_of_ble_eq_true rfl⟩ (fun u117 h117 => ?_)
          try dsimp only at h117
          refine x_ws [(qL, .inr (2, [.ref qL_blocks, .ref qL_hands, .ref qL_years, .ref qL_grades, .ref qL_sums, .ref qL_pairs, .ref qL_seen, .int (jI vL_size), .int (jI d2_19), .int (jI known)])), aI kI qL_blocks 80 fL_blocks, aI kI qL_hands 80 fL_hands, aI kI qL_years 80 fL_years, aI kI qL_grades 80 fL_grades, aI kI qL_sums 4 s2_19, aI kI qL_pairs 4 p2_19, aI kI qL_seen 4 se, (qFr, .inr (1, [.long (jL (nU gr 1)), .long (jL (nL gr 1))]))] rfl ?_
          refine x_iconst F dX2_findState_120 ?_
          refine x_istore (lv' := [(0, .ref qL), (1, .int (jI b)), (2, .int (jI year)), (3, .int (jI known)), (4, .ref qFr), (5, .int (jI (laI fL_blocks fL_years b year known))), (6, .int (jI gr)), (7, .int (jI fo)), (8, .int (jI 0))]) F dX2_findState_121 (by decide) [1, 2, 3, 4, 5, 6, 7, 8, 0] rfl ?_
          have lp123 : ∀ (fu : Nat) (hand : Int) (fu_ : Int) (fl_ : Int) (hh : 0 ≤ hand ∧ hand ≤ 4) (hfr : fu_ = nU (stN fL_blocks fL_years fL_hands fL_grades b (laI fL_blocks fL_years b year known) known hand) (frD (hD fL_blocks fL_years fL_hands known) hand) ∧ fl_ = nL (stN fL_blocks fL_years fL_hands fL_grades b (laI fL_blocks fL_years b year known) known hand) (frD (hD fL_blocks fL_years fL_hands known) hand)) (hm : 4 - hand < (fu : Int)), xG D p l e (xRm 4 139 0 0) s m args below meth c 9 A Q 0 0 [(qL, .inr (2, [.ref qL_blocks, .ref qL_hands, .ref qL_years, .ref qL_grades, .ref qL_sums, .ref qL_pairs, .ref qL_seen, .int (jI vL_size), .int (jI d2_19), .int (jI known)])), aI kI qL_blocks 80 fL_blocks, aI kI qL_hands 80 fL_hands, aI kI qL_years 80 fL_years, aI kI qL_grades 80 fL_grades, aI kI qL_sums 4 s2_19, aI kI qL_pairs 4 p2_19, aI kI qL_seen 4 se, (qFr, .inr (1, [.long (jL fu_), .long (jL fl_)]))] [(0, .ref qL), (1, .int (jI b)), (2, .int (jI year)), (3, .int (jI known)), (4, .ref qFr), (5, .int (jI (laI fL_blocks fL_years b year known))), (6, .int (jI gr)), (7, .int (jI fo)), (8, .int (jI hand))] 123 [] := by
            intro fu
            induction fu with
            | zero =>
              intro hand fu_ fl_ hh hfr hm
              exact absurd hm (by omega)
            | succ fu ih123 =>
              intro hand fu_ fl_ hh hfr hm
              have hbd := stN_bd (b := fL_blocks) (y := fL_years) (h := fL_hands) (g := fL_grades) (bb := b) (lt := (laI fL_blocks fL_years b year known)) (n := known) (i := hand) (by omega) hgk hhk hh
              have hbu := nU_bd hbd.1 hbd.2
              have hbl := nL_le (u := stN fL_blocks fL_years fL_hands fL_grades b (laI fL_blocks fL_years b year known) known hand) hbd.1
              have hbp := nL_pos (u := stN fL_blocks fL_years fL_hands fL_grades b (laI fL_blocks fL_years b year known) known hand) hbd.1
              rw [← hfr.1, ← hfr.2] at hbu
              rw [← hfr.2] at hbl hbp
              refine x_iload F dX2_findState_123 8 rfl ?_
              refine x_iconst F dX2_findState_125 ?_
              refine x_icmp_ge (tgt := 189) F dX2_findState_126 (by decide) (by omega) (fun c126 => ?_) (fun c126 => ?_)
              · -- 126 t
                refine x_aload F dX2_findState_189 4 rfl ?_
                have hfn := tF_rng (b := fL_blocks) (y := fL_years) (bb := b) (lt := (laI fL_blocks fL_years b year known)) (n := known) hk.1
                have htp := tF_pos (b := fL_blocks) (y := fL_years) (bb := b) (yr := year) (n := known) hk.1 c12
                have hf9 : fo = sm (tF fL_blocks fL_years b (laI fL_blocks fL_years b year known)) known := by rw [hfo, show i2 = known by omega]
                have hd4 := frD_le4 (dd := hD fL_blocks fL_years fL_hands known) (fun k _ _ => hD_rng (by omega))
                have hm4 := mul_bd (a := fl_) (b := fo) (A := 104857600000000) (B := 80) (by rw [show hand = 4 by omega] at hbl; omega) (by omega)
                have hm5 := Int.mul_pos (a := fl_) (b := fo) (by omega) (by omega)
                rw [show hand = 4 by omega] at hbl
                have hst9 : nU fu_ (fl_ * fo) = stU fL_blocks fL_years fL_hands fL_grades b year known ∧ nL fu_ (fl_ * fo) = stL fL_blocks fL_years fL_hands fL_grades b year known := by
                  rw [hfr.1, hfr.2, show hand = 4 by omega, hf9]
                  exact fr_div (by rw [← show hand = 4 by omega]; exact hbd.1) htp
                refine x_iload F dX2_findState_191 7 rfl ?_
                refine x_i2l F dX2_findState_193 (by omega) ?_
                refine x_callVv (ci := 1) (q0 := 8) (As := [.long (jL fo)]) (st := []) F (c_X1_divide D kI kJ l qFr fo fu_ fl_ (by omega) (by omega)) (cwV 1 F.2.2.2.2.1 gX2_findState_X1_divide rfl rfl rfl (by decide +kernel) ⟨Nat.le_of_ble_eq_true rfl, Nat.le_of_ble_eq_true rfl⟩) rfl rfl [8] [0, 1, 2, 3, 4, 5, 6, 7] [0, 1, 2, 3, 4, 5, 6, 7, 8] rfl rfl (by decide) (by decide) (by decide) (fun _ => rfl) (by decide) rfl (Nat.le_of_ble_eq_true rfl) dX2_findState_194 ⟨Nat.le_of_ble_eq_true rfl, Nat.le_of_ble_eq_true rfl⟩ (fun u194 h194 => ?_)
                try dsimp only at h194
                refine x_ws [(qL, .inr (2, [.ref qL_blocks, .ref qL_hands, .ref qL_years, .ref qL_grades, .ref qL_sums, .ref qL_pairs, .ref qL_seen, .int (jI vL_size), .int (jI d2_19), .int (jI known)])), aI kI qL_blocks 80 fL_blocks, aI kI qL_hands 80 fL_hands, aI kI qL_years 80 fL_years, aI kI qL_grades 80 fL_grades, aI kI qL_sums 4 s2_19, aI kI qL_pairs 4 p2_19, aI kI qL_seen 4 se, (qFr, .inr (1, [.long (jL (nU fu_ (fl_ * fo))), .long (jL (nL fu_ (fl_ * fo)))]))] rfl ?_
                refine x_iconst F dX2_findState_197 ?_
                exact hret 0 0 198 _ 1 (s2_19, p2_19, se, d2_19, known, (nU fu_ (fl_ * fo)), (nL fu_ (fl_ * fo))) (Nat.le_of_ble_eq_true rfl) (Nat.le_of_ble_eq_true rfl) dX2_findState_198 (by (try dsimp only); exact (⟨xBool_t (by omega), hk, hs_19, hp_19, hd_19, fun _ => hst9, fun q => absurd q c12⟩))
              · -- 126 f
                have jn183 : ∀ (fu2 : Int) (fl2 : Int) (hfr2 : fu2 = nU (stN fL_blocks fL_years fL_hands fL_grades b (laI fL_blocks fL_years b year known) known (hand + 1)) (frD (hD fL_blocks fL_years fL_hands known) (hand + 1)) ∧ fl2 = nL (stN fL_blocks fL_years fL_hands fL_grades b (laI fL_blocks fL_years b year known) known (hand + 1)) (frD (hD fL_blocks fL_years fL_hands known) (hand + 1))), xG D p l e (xRm 4 139 0 0) s m args below meth c 9 A Q 0 0 [(qL, .inr (2, [.ref qL_blocks, .ref qL_hands, .ref qL_years, .ref qL_grades, .ref qL_sums, .ref qL_pairs, .ref qL_seen, .int (jI vL_size), .int (jI d2_19), .int (jI known)])), aI kI qL_blocks 80 fL_blocks, aI kI qL_hands 80 fL_hands, aI kI qL_years 80 fL_years, aI kI qL_grades 80 fL_grades, aI kI qL_sums 4 s2_19, aI kI qL_pairs 4 p2_19, aI kI qL_seen 4 se, (qFr, .inr (1, [.long (jL fu2), .long (jL fl2)]))] [(0, .ref qL), (1, .int (jI b)), (2, .int (jI year)), (3, .int (jI known)), (4, .ref qFr), (5, .int (jI (laI fL_blocks fL_years b year known))), (6, .int (jI gr)), (7, .int (jI fo)), (8, .int (jI hand))] 183 [] := by
                  intro fu2 fl2 hfr2
                  refine x_iinc (lv' := [(0, .ref qL), (1, .int (jI b)), (2, .int (jI year)), (3, .int (jI known)), (4, .ref qFr), (5, .int (jI (laI fL_blocks fL_years b year known))), (6, .int (jI gr)), (7, .int (jI fo)), (8, .int (jI (hand + 1)))]) (k := 8) F dX2_findState_183 rfl (by decide) [1, 2, 3, 4, 5, 6, 7, 8, 0] rfl ?_
                  refine x_goto (tgt := 123) F dX2_findState_186 (by decide) ?_
                  exact ih123 (hand + 1) fu2 fl2 (by omega) hfr2 (by omega)
                have hs9 := hs_19 hand (by omega) (by omega)
                have hp9 := hp_19 hand (by omega) (by omega)
                have he9 := hse hand (by omega) (by omega)
                rw [show i2 = known by omega] at he9
                have hn0 := hN_0 (b := fL_blocks) (y := fL_years) (h := fL_hands) (n := known) (hd := hand) hk.1
                have hn1 := hN_le (b := fL_blocks) (y := fL_years) (h := fL_hands) (n := known) (hd := hand) (by omega)
                have hn2 := hS_bd (b := fL_blocks) (y := fL_years) (h := fL_hands) (g := fL_grades) (n := known) (hd := hand) hk.1 hgk
                have ht9 := sT_rng (b := fL_blocks) (y := fL_years) (h := fL_hands) (bb := b) (lt := (laI fL_blocks fL_years b year known)) (n := known) (hd := hand) hk.1
                have hdd : hD fL_blocks fL_years fL_hands known hand = if hN fL_blocks fL_years fL_hands known hand = 0 then 1 else 2 * hN fL_blocks fL_years fL_hands known hand := rfl
                refine x_aload_n F dX2_findState_129 rfl 0 rfl ?_
                refine x_get (ci := 2) F hin2 0 rfl rfl 6 (by decide) hw0 rfl dX2_findState_130 ?_
                refine x_iload F dX2_findState_133 8 rfl ?_
                refine x_iald F 7 rfl (by decide) (by omega) dX2_findState_135 ?_
                refine x_if_le (tgt := 183) F dX2_findState_136 (by decide) (by omega) (fun c136 => ?_) (fun c136 => ?_)
                · -- 136 t
                  have hstep : fu_ = nU (stN fL_blocks fL_years fL_hands fL_grades b (laI fL_blocks fL_years b year known) known (hand + 1)) (frD (hD fL_blocks fL_years fL_hands known) (hand + 1)) ∧ fl_ = nL (stN fL_blocks fL_years fL_hands fL_grades b (laI fL_blocks fL_years b year known) known (hand + 1)) (frD (hD fL_blocks fL_years fL_hands known) (hand + 1)) := by
                    have e0 : stN fL_blocks fL_years fL_hands fL_grades b (laI fL_blocks fL_years b year known) known (hand + 1) = stN fL_blocks fL_years fL_hands fL_grades b (laI fL_blocks fL_years b year known) known hand * hD fL_blocks fL_years fL_hands known hand - 0 * frD (hD fL_blocks fL_years fL_hands known) hand := by
                      unfold stN; rw [frN_s hh.1]; congr 2; rw [show sT fL_blocks fL_years fL_hands b (laI fL_blocks fL_years b year known) known hand = 0 by omega, Int.zero_mul]
                    rw [e0, frD_s hh.1, hfr.1, hfr.2]
                    exact fr_skip hbd.1 (by have := hD_rng (b := fL_blocks) (y := fL_years) (h := fL_hands) (n := known) (hd := hand) (by omega); omega)
                  exact jn183 fu_ fl_ hstep
                · -- 136 f
                  refine x_aload_n F dX2_findState_139 rfl 0 rfl ?_
                  refine x_get (ci := 2) F hin2 0 rfl rfl 5 (by decide) hw1 rfl dX2_findState_140 ?_
                  refine x_iload F dX2_findState_143 8 rfl ?_
                  refine x_iald F 6 rfl (by decide) (by omega) dX2_findState_145 ?_
                  refine x_if_le (tgt := 183) F dX2_findState_146 (by decide) (by omega) (fun c146 => ?_) (fun c146 => ?_)
                  · -- 146 t
                    have hstep : fu_ = nU (stN fL_blocks fL_years fL_hands fL_grades b (laI fL_blocks fL_years b year known) known (hand + 1)) (frD (hD fL_blocks fL_years fL_hands known) (hand + 1)) ∧ fl_ = nL (stN fL_blocks fL_years fL_hands fL_grades b (laI fL_blocks fL_years b year known) known (hand + 1)) (frD (hD fL_blocks fL_years fL_hands known) (hand + 1)) := by
                      have e0 : stN fL_blocks fL_years fL_hands fL_grades b (laI fL_blocks fL_years b year known) known (hand + 1) = stN fL_blocks fL_years fL_hands fL_grades b (laI fL_blocks fL_years b year known) known hand * hD fL_blocks fL_years fL_hands known hand - 0 * frD (hD fL_blocks fL_years fL_hands known) hand := by
                        unfold stN; rw [frN_s hh.1]; congr 2; rw [show hS fL_blocks fL_years fL_hands fL_grades known hand = 0 by omega, Int.mul_zero]
                      rw [e0, frD_s hh.1, hfr.1, hfr.2]
                      exact fr_skip hbd.1 (by have := hD_rng (b := fL_blocks) (y := fL_years) (h := fL_hands) (n := known) (hd := hand) (by omega); omega)
                    exact jn183 fu_ fl_ hstep
                  · -- 146 f
                    refine x_aload F dX2_findState_149 4 rfl ?_
                    refine x_aload_n F dX2_findState_151 rfl 0 rfl ?_
                    refine x_get (ci := 2) F hin2 0 rfl rfl 6 (by decide) hw0 rfl dX2_findState_152 ?_
                    refine x_iload F dX2_findState_155 8 rfl ?_
                    refine x_iald F 7 rfl (by decide) (by omega) dX2_findState_157 ?_
                    refine x_i2l F dX2_findState_158 (by omega) ?_
                    refine x_aload_n F dX2_findState_159 rfl 0 rfl ?_
                    refine x_get (ci := 2) F hin2 0 rfl rfl 4 (by decide) hw2 rfl dX2_findState_160 ?_
                    refine x_iload F dX2_findState_163 8 rfl ?_
                    refine x_iald F 5 rfl (by decide) (by omega) dX2_findState_165 ?_
                    refine x_i2l F dX2_findState_166 (by omega) ?_
                    refine x_lmul F dX2_findState_167 ?_
                    refine x_ldc2 F 2 hw3 (by decide) dX2_findState_168 ?_
                    refine x_aload_n F dX2_findState_171 rfl 0 rfl ?_
                    refine x_get (ci := 2) F hin2 0 rfl rfl 5 (by decide) hw1 rfl dX2_findState_172 ?_
                    refine x_iload F dX2_findState_175 8 rfl ?_
                    refine x_iald F 6 rfl (by decide) (by omega) dX2_findState_177 ?_
                    refine x_i2l F dX2_findState_178 (by omega) ?_
                    refine x_lmul F dX2_findState_179 ?_
                    have hdh : hD fL_blocks fL_years fL_hands known hand = 2 * p2_19 hand := by rw [hdd, if_neg (by omega)]; omega
                    have hd3 := frD_le3 (dd := hD fL_blocks fL_years fL_hands known) (fun k _ _ => hD_rng (by omega)) (i := hand) (by omega)
                    have m1 := mul_bd (a := fl_) (b := 2 * p2_19 hand) (A := 32768000000) (B := 3200) (by omega) (by omega)
                    have m1p := Int.mul_pos (a := fl_) (b := 2 * p2_19 hand) (by omega) (by omega)
                    have m2 : -(11920 * (fl_ * (2 * p2_19 hand))) ≤ fu_ * (2 * p2_19 hand) ∧ fu_ * (2 * p2_19 hand) ≤ 11920 * (fl_ * (2 * p2_19 hand)) := by
                      have g1 := Int.mul_le_mul_of_nonneg_right hbu.1 (show 0 ≤ 2 * p2_19 hand by omega)
                      have g2 := Int.mul_le_mul_of_nonneg_right hbu.2 (show 0 ≤ 2 * p2_19 hand by omega)
                      have e1 : -(11920 * fl_) * (2 * p2_19 hand) = -(11920 * (fl_ * (2 * p2_19 hand))) := by grind
                      have e2 : 11920 * fl_ * (2 * p2_19 hand) = 11920 * (fl_ * (2 * p2_19 hand)) := by grind
                      omega
                    have m3 : -(80 * 158400 * fl_) ≤ (se hand * s2_19 hand) * fl_ ∧ (se hand * s2_19 hand) * fl_ ≤ 80 * 158400 * fl_ := by
                      have f1 := Int.mul_le_mul_of_nonneg_left (show -158400 ≤ s2_19 hand by omega) (show 0 ≤ se hand by omega)
                      have f2 := Int.mul_le_mul_of_nonneg_left (show s2_19 hand ≤ 158400 by omega) (show 0 ≤ se hand by omega)
                      have g1 := Int.mul_le_mul_of_nonneg_right (show -(80 * 158400) ≤ se hand * s2_19 hand by omega) (show 0 ≤ fl_ by omega)
                      have g2 := Int.mul_le_mul_of_nonneg_right (show se hand * s2_19 hand ≤ 80 * 158400 by omega) (show 0 ≤ fl_ by omega)
                      omega
                    refine x_callVv (ci := 1) (q0 := 8) (As := [.long (jL ((se hand) * (s2_19 hand))), .long (jL (2 * (p2_19 hand)))]) (st := []) F (c_X1_subtract D kI kJ l qFr ((se hand) * (s2_19 hand)) (2 * (p2_19 hand)) fu_ fl_ (by omega) (by omega) (by omega)) (cwV 2 F.2.2.2.2.1 gX2_findState_X1_subtract rfl rfl rfl (by decide +kernel) ⟨Nat.le_of_ble_eq_true rfl, Nat.le_of_ble_eq_true rfl⟩) rfl rfl [8] [0, 1, 2, 3, 4, 5, 6, 7] [0, 1, 2, 3, 4, 5, 6, 7, 8] rfl rfl (by decide) (by decide) (by decide) (fun _ => rfl) (by decide) rfl (Nat.le_of_ble_eq_true rfl) dX2_findState_180 ⟨Nat.le_of_ble_eq_true rfl, Nat.le_of_ble_eq_true rfl⟩ (fun u180 h180 => ?_)
                    try dsimp only at h180
                    refine x_ws [(qL, .inr (2, [.ref qL_blocks, .ref qL_hands, .ref qL_years, .ref qL_grades, .ref qL_sums, .ref qL_pairs, .ref qL_seen, .int (jI vL_size), .int (jI d2_19), .int (jI known)])), aI kI qL_blocks 80 fL_blocks, aI kI qL_hands 80 fL_hands, aI kI qL_years 80 fL_years, aI kI qL_grades 80 fL_grades, aI kI qL_sums 4 s2_19, aI kI qL_pairs 4 p2_19, aI kI qL_seen 4 se, (qFr, .inr (1, [.long (jL (nU (fu_ * (2 * (p2_19 hand)) - ((se hand) * (s2_19 hand)) * fl_) (fl_ * (2 * (p2_19 hand))))), .long (jL (nL (fu_ * (2 * (p2_19 hand)) - ((se hand) * (s2_19 hand)) * fl_) (fl_ * (2 * (p2_19 hand)))))]))] rfl ?_
                    have hstep : nU (fu_ * (2 * p2_19 hand) - (se hand * s2_19 hand) * fl_) (fl_ * (2 * p2_19 hand)) = nU (stN fL_blocks fL_years fL_hands fL_grades b (laI fL_blocks fL_years b year known) known (hand + 1)) (frD (hD fL_blocks fL_years fL_hands known) (hand + 1)) ∧ nL (fu_ * (2 * p2_19 hand) - (se hand * s2_19 hand) * fl_) (fl_ * (2 * p2_19 hand)) = nL (stN fL_blocks fL_years fL_hands fL_grades b (laI fL_blocks fL_years b year known) known (hand + 1)) (frD (hD fL_blocks fL_years fL_hands known) (hand + 1)) := by
                      have e0 : stN fL_blocks fL_years fL_hands fL_grades b (laI fL_blocks fL_years b year known) known (hand + 1) = stN fL_blocks fL_years fL_hands fL_grades b (laI fL_blocks fL_years b year known) known hand * (2 * p2_19 hand) - (se hand * s2_19 hand) * frD (hD fL_blocks fL_years fL_hands known) hand := by
                        unfold stN; rw [frN_s hh.1, hdh, he9, hs9]
                      rw [e0, frD_s hh.1, hdh, hfr.1, hfr.2]
                      exact fr_sub hbd.1 (by omega)
                    exact jn183 (nU (fu_ * (2 * (p2_19 hand)) - ((se hand) * (s2_19 hand)) * fl_) (fl_ * (2 * (p2_19 hand)))) (nL (fu_ * (2 * (p2_19 hand)) - ((se hand) * (s2_19 hand)) * fl_) (fl_ * (2 * (p2_19 hand)))) hstep
          exact lp123 (Int.toNat (4 - 0) + 1) 0 (nU gr 1) (nL gr 1) (by omega) (by rw [hgr, show i2 = known by omega]; exact ⟨rfl, rfl⟩) (by omega)
        · -- 42 f
          refine x_iload F dX2_findState_45 8 rfl ?_
          refine x_bipush F dX2_findState_47 (by decide) ?_
          refine x_icmp_ge (tgt := 111) F dX2_findState_49 (by decide) (by omega) (fun c49 => ?_) (fun c49 => ?_)
          · exact absurd c49 (by omega)
          · -- 49 f
            have jn105 : ∀ (gr2 : Int) (fo2 : Int) (se2 : (Int → Int)) (hgr2 : gr2 = sm (tG fL_blocks fL_years fL_grades b (laI fL_blocks fL_years b year known)) (i2 + 1)) (hfo2 : fo2 = sm (tF fL_blocks fL_years b (laI fL_blocks fL_years b year known)) (i2 + 1)) (hse2 : ∀ k : Int, 0 ≤ k → k < 4 → se2 k = sT fL_blocks fL_years fL_hands b (laI fL_blocks fL_years b year known) (i2 + 1) k), xG D p l e (xRm 4 139 0 0) s m args below meth c 9 A Q 0 0 [(qL, .inr (2, [.ref qL_blocks, .ref qL_hands, .ref qL_years, .ref qL_grades, .ref qL_sums, .ref qL_pairs, .ref qL_seen, .int (jI vL_size), .int (jI d2_19), .int (jI known)])), aI kI qL_blocks 80 fL_blocks, aI kI qL_hands 80 fL_hands, aI kI qL_years 80 fL_years, aI kI qL_grades 80 fL_grades, aI kI qL_sums 4 s2_19, aI kI qL_pairs 4 p2_19, aI kI qL_seen 4 se2, (qFr, .inr (1, [.long (jL vFr_upper), .long (jL vFr_lower)]))] [(0, .ref qL), (1, .int (jI b)), (2, .int (jI year)), (3, .int (jI known)), (4, .ref qFr), (5, .int (jI (laI fL_blocks fL_years b year known))), (6, .int (jI gr2)), (7, .int (jI fo2)), (8, .int (jI i2))] 105 [] := by
              intro gr2 fo2 se2 hgr2 hfo2 hse2
              refine x_iinc (lv' := [(0, .ref qL), (1, .int (jI b)), (2, .int (jI year)), (3, .int (jI known)), (4, .ref qFr), (5, .int (jI (laI fL_blocks fL_years b year known))), (6, .int (jI gr2)), (7, .int (jI fo2)), (8, .int (jI (i2 + 1)))]) (k := 8) F dX2_findState_105 rfl (by decide) [1, 2, 3, 4, 5, 6, 7, 8, 0] rfl ?_
              refine x_goto (tgt := 39) F dX2_findState_108 (by decide) ?_
              exact ih39 gr2 fo2 (i2 + 1) se2 (by omega) hgr2 hfo2 hse2 (by omega)
            have ry1 := Rg.at hLy i2 (by omega)
            have rb1 := Rg.at hLb i2 (by omega)
            have rh1 := Rg.at hLh i2 (by omega)
            refine x_aload_n F dX2_findState_52 rfl 0 rfl ?_
            refine x_get (ci := 2) F hin2 0 rfl rfl 0 (by decide) hw4 rfl dX2_findState_53 ?_
            refine x_iload F dX2_findState_56 8 rfl ?_
            refine x_iald F 1 rfl (by decide) (by omega) dX2_findState_58 ?_
            have hr58 := Rg.at hLb i2 (by omega)
            refine x_iload_n F dX2_findState_59 rfl 1 rfl ?_
            refine x_icmp_ne (tgt := 105) F dX2_findState_60 (by decide) (by omega) (fun c60 => ?_) (fun c60 => ?_)
            · -- 60 t
              exact jn105 gr fo se (by rw [sm_s hi2.1, ← hgr]; unfold tG; (repeat' split) <;> omega) (by rw [sm_s hi2.1, ← hfo]; unfold tF; (repeat' split) <;> omega) (fun k h1 h2 => by have e := hse k h1 h2; unfold sT at *; rw [sm_s hi2.1, ← e]; unfold tH; first | (rw [one_add]; (repeat' split) <;> omega) | ((repeat' split) <;> omega))
            · -- 60 f
              refine x_aload_n F dX2_findState_63 rfl 0 rfl ?_
              refine x_get (ci := 2) F hin2 0 rfl rfl 2 (by decide) hw5 rfl dX2_findState_64 ?_
              refine x_iload F dX2_findState_67 8 rfl ?_
              refine x_iald F 3 rfl (by decide) (by omega) dX2_findState_69 ?_
              have hr69 := Rg.at hLy i2 (by omega)
              refine x_iload F dX2_findState_70 5 rfl ?_
              refine x_icmp_ne (tgt := 105) F dX2_findState_72 (by decide) (by omega) (fun c72 => ?_) (fun c72 => ?_)
              · -- 72 t
                exact jn105 gr fo se (by rw [sm_s hi2.1, ← hgr]; unfold tG; (repeat' split) <;> omega) (by rw [sm_s hi2.1, ← hfo]; unfold tF; (repeat' split) <;> omega) (fun k h1 h2 => by have e := hse k h1 h2; unfold sT at *; rw [sm_s hi2.1, ← e]; unfold tH; first | (rw [one_add]; (repeat' split) <;> omega) | ((repeat' split) <;> omega))
              · -- 72 f
                refine x_iload F dX2_findState_75 6 rfl ?_
                refine x_aload_n F dX2_findState_77 rfl 0 rfl ?_
                refine x_get (ci := 2) F hin2 0 rfl rfl 3 (by decide) hw6 rfl dX2_findState_78 ?_
                refine x_iload F dX2_findState_81 8 rfl ?_
                refine x_iald F 4 rfl (by decide) (by omega) dX2_findState_83 ?_
                have hr83 := Rg.at hLg i2 (by omega)
                refine x_iadd F dX2_findState_84 ?_
                refine x_istore (lv' := [(0, .ref qL), (1, .int (jI b)), (2, .int (jI year)), (3, .int (jI known)), (4, .ref qFr), (5, .int (jI (laI fL_blocks fL_years b year known))), (6, .int (jI (gr + (fL_grades i2)))), (7, .int (jI fo)), (8, .int (jI i2))]) F dX2_findState_85 (by decide) [1, 2, 3, 4, 5, 6, 0, 7, 8] rfl ?_
                refine x_iinc (lv' := [(0, .ref qL), (1, .int (jI b)), (2, .int (jI year)), (3, .int (jI known)), (4, .ref qFr), (5, .int (jI (laI fL_blocks fL_years b year known))), (6, .int (jI (gr + (fL_grades i2)))), (7, .int (jI (fo + 1))), (8, .int (jI i2))]) (k := 7) F dX2_findState_87 rfl (by decide) [1, 2, 3, 4, 5, 6, 7, 0, 8] rfl ?_
                refine x_aload_n F dX2_findState_90 rfl 0 rfl ?_
                refine x_get (ci := 2) F hin2 0 rfl rfl 6 (by decide) hw0 rfl dX2_findState_91 ?_
                refine x_aload_n F dX2_findState_94 rfl 0 rfl ?_
                refine x_get (ci := 2) F hin2 0 rfl rfl 1 (by decide) hw7 rfl dX2_findState_95 ?_
                refine x_iload F dX2_findState_98 8 rfl ?_
                refine x_iald F 2 rfl (by decide) (by omega) dX2_findState_100 ?_
                have hr100 := Rg.at hLh i2 (by omega)
                refine x_iconst F dX2_findState_101 ?_
                refine x_callSv (As := [.ref qL_seen, .int (jI (fL_hands i2)), .int (jI 1)]) (st := []) F (c_X2_countFor D kI kJ l qL_seen (fL_hands i2) 1 se (by omega)) (va_cwS 3 F.2.2.2.2.1 gX2_findState_X2_countFor rfl rfl rfl (by decide +kernel) ⟨Nat.le_of_ble_eq_true rfl, Nat.le_of_ble_eq_true rfl⟩) [7] [0, 1, 2, 3, 4, 5, 6, 8] [0, 1, 2, 3, 4, 5, 6, 8, 7] rfl rfl (by decide) (by decide) (by decide) (fun _ => rfl) (by decide) rfl (Nat.le_of_ble_eq_true rfl) dX2_findState_102 ⟨Nat.le_of_ble_eq_true rfl, Nat.le_of_ble_eq_true rfl⟩ (fun u102 h102 => ?_)
                try dsimp only at h102
                refine x_ws [(qL, .inr (2, [.ref qL_blocks, .ref qL_hands, .ref qL_years, .ref qL_grades, .ref qL_sums, .ref qL_pairs, .ref qL_seen, .int (jI vL_size), .int (jI d2_19), .int (jI known)])), aI kI qL_blocks 80 fL_blocks, aI kI qL_hands 80 fL_hands, aI kI qL_years 80 fL_years, aI kI qL_grades 80 fL_grades, aI kI qL_sums 4 s2_19, aI kI qL_pairs 4 p2_19, aI kI qL_seen 4 (iU se (fL_hands i2) (se (fL_hands i2) + 1)), (qFr, .inr (1, [.long (jL vFr_upper), .long (jL vFr_lower)]))] rfl ?_
                exact jn105 (gr + (fL_grades i2)) (fo + 1) (iU se (fL_hands i2) (se (fL_hands i2) + 1)) (by rw [sm_s hi2.1, ← hgr]; unfold tG; (repeat' split) <;> omega) (by rw [sm_s hi2.1, ← hfo]; unfold tF; (repeat' split) <;> omega) (fun k h1 h2 => by have e := hse k h1 h2; unfold sT at *; rw [sm_s hi2.1, ← e]; unfold tH; first | (rw [one_add]; (repeat' split) <;> omega) | ((repeat' split) <;> omega))
    exact lp39 (Int.toNat (known - 0) + 1) 0 0 0 f2_27 (by omega) rfl rfl (fun k h1 h2 => by rw [hf_27 k h1 h2]; rfl) (by omega)
  · -- 12 f
    refine x_iconst F dX2_findState_15 ?_
    exact hret 0 0 16 _ 0 (fL_sums, fL_pairs, fL_seen, vL_doubles, vL_learned, vFr_upper, vFr_lower) (Nat.le_of_ble_eq_true rfl) (Nat.le_of_ble_eq_true rfl) dX2_findState_16 (by (try dsimp only); exact (⟨xBool_f (by omega), hLl, hLS, hLP, hLD, fun q => absurd c12 q, fun _ => ⟨rfl, rfl⟩⟩))
