set_option maxHeartbeats 4000000 in
set_option maxRecDepth 100000 in
theorem c_X5_isIn (D : va_G) (kI kJ : Nat) (l : Launch) (lo9 : Int) (sg9 : Int) (up9 : Int) (hr_lo9 : -2147483648 ≤ lo9 ∧ lo9 < 2147483648) (hr_sg9 : -2147483648 ≤ sg9 ∧ sg9 < 2147483648) (hr_up9 : -2147483648 ≤ up9 ∧ up9 < 2147483648) : xMi D kI kJ l yX5_isIn wsX5_isIn 1 32 0 0 [.int (jI lo9), .int (jI sg9), .int (jI up9)] [] (fun (z : Int) (u : Unit) => xBool z (lo9 ≤ sg9 ∧ sg9 ≤ up9)) (fun (u : Unit) => []) := by
  refine xMi_of (cc := cX5_isIn) (maxL := 3) (rt := .boolean) (by decide) rfl (Nat.le_of_ble_eq_true rfl) (fun z u hp => xBool_nar hp) ?_
  intro p e s m args below meth c A Q F hin2 hret
  refine x_lveq (lv' := [(0, .int (jI lo9)), (1, .int (jI sg9)), (2, .int (jI up9))]) rfl ?_
  refine x_iload_n F dX5_isIn_0 rfl 0 rfl ?_
  refine x_iload_n F dX5_isIn_1 rfl 1 rfl ?_
  refine x_icmp_gt (tgt := 14) F dX5_isIn_2 (by decide) (by omega) (fun c2 => ?_) (fun c2 => ?_)
  · -- 2 t
    refine x_iconst F dX5_isIn_14 ?_
    exact hret 0 0 15 _ 0 () (Nat.le_of_ble_eq_true rfl) (Nat.le_of_ble_eq_true rfl) dX5_isIn_15 (by first | exact xBool_t (by omega) | exact xBool_f (by omega))
  · -- 2 f
    refine x_iload_n F dX5_isIn_5 rfl 1 rfl ?_
    refine x_iload_n F dX5_isIn_6 rfl 2 rfl ?_
    refine x_icmp_gt (tgt := 14) F dX5_isIn_7 (by decide) (by omega) (fun c7 => ?_) (fun c7 => ?_)
    · -- 7 t
      refine x_iconst F dX5_isIn_14 ?_
      exact hret 0 0 15 _ 0 () (Nat.le_of_ble_eq_true rfl) (Nat.le_of_ble_eq_true rfl) dX5_isIn_15 (by first | exact xBool_t (by omega) | exact xBool_f (by omega))
    · -- 7 f
      refine x_iconst F dX5_isIn_10 ?_
      refine x_goto (tgt := 15) F dX5_isIn_11 (by decide) ?_
      exact hret 0 0 15 _ 1 () (Nat.le_of_ble_eq_true rfl) (Nat.le_of_ble_eq_true rfl) dX5_isIn_15 (by first | exact xBool_t (by omega) | exact xBool_f (by omega))
set_option maxHeartbeats 4000000 in
set_option maxRecDepth 100000 in
theorem c_X5_skipBlanks (D : va_G) (kI kJ : Nat) (l : Launch) (qE : Nat) (qE_text : Nat) (vE_size : Int) (vE_next : Int) (vE_fault : Int) (vE_faultAt : Int) (qU : Nat) (qV : Nat) (fE_text : (Int → Int)) (hEs : 0 ≤ vE_size ∧ vE_size ≤ 120) (hEt : Rg fE_text 120 0 255) (hnx : 0 ≤ vE_next ∧ vE_next ≤ vE_size) : xMv D kI kJ l yX5_skipBlanks wsX5_skipBlanks 1 32 0 0 [.ref qE] [(qE, .inr (5, [.ref qE_text, .int (jI vE_size), .int (jI vE_next), .int (jI vE_fault), .int (jI vE_faultAt), .ref qU, .ref qV])), aI kI qE_text 120 fE_text] (fun (u : Int) => (u = skp fE_text vE_size vE_next)) (fun (u : Int) => [(qE, .inr (5, [.ref qE_text, .int (jI vE_size), .int (jI u), .int (jI vE_fault), .int (jI vE_faultAt), .ref qU, .ref qV])), aI kI qE_text 120 fE_text]) := by
  refine xMv_of (cc := cX5_skipBlanks) (maxL := 2) (by decide) rfl (Nat.le_of_ble_eq_true rfl) ?_
  intro p e s m args below meth c A Q F hin2 hret
  have hin5 : ∀ w ∈ wsX50, w ∈ wsX5_skipBlanks := by decide +kernel
  have hw0 : Cond.fieldLink RX5 38 (TX5 2).1 (TX5 2).2.1 (TX5 2).2.2.1 ∈ wsX5_skipBlanks := by decide +kernel
  have hw1 : Cond.fieldLink RX5 29 (TX5 1).1 (TX5 1).2.1 (TX5 1).2.2.1 ∈ wsX5_skipBlanks := by decide +kernel
  have hw2 : Cond.fieldLink RX5 9 (TX5 0).1 (TX5 0).2.1 (TX5 0).2.2.1 ∈ wsX5_skipBlanks := by decide +kernel
  refine x_lveq (lv' := [(0, .ref qE)]) rfl ?_
  refine x_aload_n F dX5_skipBlanks_0 rfl 0 rfl ?_
  refine x_get (ci := 5) F hin5 0 rfl rfl 2 (by decide) hw0 rfl dX5_skipBlanks_1 ?_
  refine x_istore_n (lv' := [(0, .ref qE), (1, .int (jI vE_next))]) F dX5_skipBlanks_4 rfl (by decide) [1, 0] rfl ?_
  have lp5 : ∀ (fu : Nat) (i9 : Int) (hi9 : 0 ≤ i9 ∧ i9 ≤ vE_size) (hsk : skp fE_text vE_size i9 = skp fE_text vE_size vE_next) (hm : vE_size - i9 < (fu : Int)), xG D p l e (xRm 1 32 0 0) s m args below meth c 2 A Q 0 0 [(qE, .inr (5, [.ref qE_text, .int (jI vE_size), .int (jI i9), .int (jI vE_fault), .int (jI vE_faultAt), .ref qU, .ref qV])), aI kI qE_text 120 fE_text] [(0, .ref qE), (1, .int (jI i9))] 5 [] := by
    intro fu
    induction fu with
    | zero =>
      intro i9 hi9 hsk hm
      exact absurd hm (by omega)
    | succ fu ih5 =>
      intro i9 hi9 hsk hm
      refine x_iload_n F dX5_skipBlanks_5 rfl 1 rfl ?_
      refine x_if_lt (tgt := 47) F dX5_skipBlanks_6 (by decide) (by omega) (fun c6 => ?_) (fun c6 => ?_)
      · exact absurd c6 (by omega)
      · -- 6 f
        refine x_iload_n F dX5_skipBlanks_9 rfl 1 rfl ?_
        refine x_aload_n F dX5_skipBlanks_10 rfl 0 rfl ?_
        refine x_get (ci := 5) F hin5 0 rfl rfl 1 (by decide) hw1 rfl dX5_skipBlanks_11 ?_
        refine x_icmp_ge (tgt := 47) F dX5_skipBlanks_14 (by decide) (by omega) (fun c14 => ?_) (fun c14 => ?_)
        · -- 14 t
          exact hret 0 0 47 _ i9 (Nat.le_of_ble_eq_true rfl) (Nat.le_of_ble_eq_true rfl) dX5_skipBlanks_47 ((hsk.symm.trans (sc_stop (by omega))).symm)
        · -- 14 f
          refine x_iload_n F dX5_skipBlanks_17 rfl 1 rfl ?_
          refine x_bipush F dX5_skipBlanks_18 (by decide) ?_
          refine x_icmp_ge (tgt := 47) F dX5_skipBlanks_20 (by decide) (by omega) (fun c20 => ?_) (fun c20 => ?_)
          · exact absurd c20 (by omega)
          · -- 20 f
            refine x_aload_n F dX5_skipBlanks_23 rfl 0 rfl ?_
            refine x_get (ci := 5) F hin5 0 rfl rfl 0 (by decide) hw2 rfl dX5_skipBlanks_24 ?_
            refine x_iload_n F dX5_skipBlanks_27 rfl 1 rfl ?_
            refine x_iald F 1 rfl (by decide) (by omega) dX5_skipBlanks_28 ?_
            have hr28 := Rg.at hEt i9 (by omega)
            refine x_bipush F dX5_skipBlanks_29 (by decide) ?_
            refine x_icmp_ne (tgt := 47) F dX5_skipBlanks_31 (by decide) (by omega) (fun c31 => ?_) (fun c31 => ?_)
            · -- 31 t
              exact hret 0 0 47 _ i9 (Nat.le_of_ble_eq_true rfl) (Nat.le_of_ble_eq_true rfl) dX5_skipBlanks_47 ((hsk.symm.trans (sc_stop (by omega))).symm)
            · -- 31 f
              refine x_aload_n F dX5_skipBlanks_34 rfl 0 rfl ?_
              refine x_iload_n F dX5_skipBlanks_35 rfl 1 rfl ?_
              refine x_iconst F dX5_skipBlanks_36 ?_
              refine x_iadd F dX5_skipBlanks_37 ?_
              refine x_put (ci := 5) F hin5 tyX5_ok nmX5 0 rfl rfl 2 (by decide) hw0 rfl rfl rfl (show 2 + 1 ≤ _ from Nat.le_of_ble_eq_true rfl) dX5_skipBlanks_38 [(qE, .inr (5, [.ref qE_text, .int (jI vE_size), .int (jI (i9 + 1)), .int (jI vE_fault), .int (jI vE_faultAt), .ref qU, .ref qV])), aI kI qE_text 120 fE_text] rfl ?_
              refine x_iinc (lv' := [(0, .ref qE), (1, .int (jI (i9 + 1)))]) (k := 1) F dX5_skipBlanks_41 rfl (by decide) [1, 0] rfl ?_
              refine x_goto (tgt := 5) F dX5_skipBlanks_44 (by decide) ?_
              exact ih5 (i9 + 1) (by omega) (by rw [← hsk]; exact (sc_go (by omega)).symm) (by omega)
  exact lp5 (Int.toNat (vE_size - vE_next) + 1) vE_next (by omega) rfl (by omega)
set_option maxHeartbeats 4000000 in
set_option maxRecDepth 100000 in
theorem c_X5_findWordEnd (D : va_G) (kI kJ : Nat) (l : Launch) (qE : Nat) (qE_text : Nat) (vE_size : Int) (vE_next : Int) (vE_fault : Int) (vE_faultAt : Int) (qU : Nat) (qV : Nat) (fE_text : (Int → Int)) (hEs : 0 ≤ vE_size ∧ vE_size ≤ 120) (hEt : Rg fE_text 120 0 255) (hnx : 0 ≤ vE_next ∧ vE_next ≤ vE_size) : xMi D kI kJ l yX5_findWordEnd wsX5_findWordEnd 2 54 0 0 [.ref qE] [(qE, .inr (5, [.ref qE_text, .int (jI vE_size), .int (jI vE_next), .int (jI vE_fault), .int (jI vE_faultAt), .ref qU, .ref qV])), aI kI qE_text 120 fE_text] (fun (z : Int) (u : Unit) => z = wde fE_text vE_size vE_next) (fun (u : Unit) => [(qE, .inr (5, [.ref qE_text, .int (jI vE_size), .int (jI vE_next), .int (jI vE_fault), .int (jI vE_faultAt), .ref qU, .ref qV])), aI kI qE_text 120 fE_text]) := by
  refine xMi_of (cc := cX5_findWordEnd) (maxL := 3) (rt := .int) (by decide) rfl (Nat.le_of_ble_eq_true rfl) (fun _ _ _ => rfl) ?_
  intro p e s m args below meth c A Q F hin2 hret
  have hin5 : ∀ w ∈ wsX50, w ∈ wsX5_findWordEnd := by decide +kernel
  have hw0 : Cond.fieldLink RX5 38 (TX5 2).1 (TX5 2).2.1 (TX5 2).2.2.1 ∈ wsX5_findWordEnd := by decide +kernel
  have hw1 : Cond.fieldLink RX5 29 (TX5 1).1 (TX5 1).2.1 (TX5 1).2.2.1 ∈ wsX5_findWordEnd := by decide +kernel
  have hw2 : Cond.fieldLink RX5 9 (TX5 0).1 (TX5 0).2.1 (TX5 0).2.2.1 ∈ wsX5_findWordEnd := by decide +kernel
  have hw3 : Cond.initialized yX9_at.cls ∈ wsX5_findWordEnd := by decide +kernel
  have hw4 : Cond.static yX9_at ∈ wsX5_findWordEnd := by decide +kernel
  refine x_lveq (lv' := [(0, .ref qE)]) rfl ?_
  refine x_aload_n F dX5_findWordEnd_0 rfl 0 rfl ?_
  refine x_get (ci := 5) F hin5 0 rfl rfl 2 (by decide) hw0 rfl dX5_findWordEnd_1 ?_
  refine x_istore_n (lv' := [(0, .ref qE), (1, .int (jI vE_next))]) F dX5_findWordEnd_4 rfl (by decide) [1, 0] rfl ?_
  refine x_aload_n F dX5_findWordEnd_5 rfl 0 rfl ?_
  refine x_get (ci := 5) F hin5 0 rfl rfl 2 (by decide) hw0 rfl dX5_findWordEnd_6 ?_
  refine x_istore_n (lv' := [(0, .ref qE), (1, .int (jI vE_next)), (2, .int (jI vE_next))]) F dX5_findWordEnd_9 rfl (by decide) [1, 2, 0] rfl ?_
  have lp10 : ∀ (fu : Nat) (i9 : Int) (hi9 : 0 ≤ i9 ∧ i9 ≤ vE_size) (hsk : wde fE_text vE_size i9 = wde fE_text vE_size vE_next) (hm : vE_size - i9 < (fu : Int)), xG D p l e (xRm 2 54 0 0) s m args below meth c 3 A Q 0 0 [(qE, .inr (5, [.ref qE_text, .int (jI vE_size), .int (jI vE_next), .int (jI vE_fault), .int (jI vE_faultAt), .ref qU, .ref qV])), aI kI qE_text 120 fE_text] [(0, .ref qE), (1, .int (jI i9)), (2, .int (jI i9))] 10 [] := by
    intro fu
    induction fu with
    | zero =>
      intro i9 hi9 hsk hm
      exact absurd hm (by omega)
    | succ fu ih10 =>
      intro i9 hi9 hsk hm
      refine x_iload_n F dX5_findWordEnd_10 rfl 2 rfl ?_
      refine x_aload_n F dX5_findWordEnd_11 rfl 0 rfl ?_
      refine x_get (ci := 5) F hin5 0 rfl rfl 1 (by decide) hw1 rfl dX5_findWordEnd_12 ?_
      refine x_icmp_ge (tgt := 46) F dX5_findWordEnd_15 (by decide) (by omega) (fun c15 => ?_) (fun c15 => ?_)
      · -- 15 t
        refine x_iload_n F dX5_findWordEnd_46 rfl 1 rfl ?_
        exact hret 0 0 47 _ i9 () (Nat.le_of_ble_eq_true rfl) (Nat.le_of_ble_eq_true rfl) dX5_findWordEnd_47 ((hsk.symm.trans (sc_stop (by omega))).symm)
      · -- 15 f
        refine x_bipush F dX5_findWordEnd_18 (by decide) ?_
        refine x_aload_n F dX5_findWordEnd_20 rfl 0 rfl ?_
        refine x_get (ci := 5) F hin5 0 rfl rfl 0 (by decide) hw2 rfl dX5_findWordEnd_21 ?_
        refine x_iload_n F dX5_findWordEnd_24 rfl 2 rfl ?_
        refine x_callSNi (As := [.ref qE_text, .int (jI i9)]) (st := [.int (jI 97)]) F (c_X9_at D kI kJ l qE_text i9 120 fE_text (by omega) (by omega)) ⟨va_cnB 2 F.2.2.2.2.1 gX5_findWordEnd_X9_at_n102 rfl rfl rfl (nM15 F.2.2.2.2.2.2.2) (F.2.2.2.2.1 _ hw3) (by decide +kernel) ⟨Nat.le_of_ble_eq_true rfl, Nat.le_of_ble_eq_true rfl⟩, F.2.2.2.2.1 _ hw4, trivial⟩ [1] [0] [0, 1] rfl rfl (by decide) (by decide) (by decide) (fun _ => rfl) (by decide) rfl (Nat.le_of_ble_eq_true rfl) dX5_findWordEnd_25 ⟨Nat.le_of_ble_eq_true rfl, Nat.le_of_ble_eq_true rfl⟩ (fun z25 u25 h25 => ?_)
        try dsimp only at h25
        refine x_ws [(qE, .inr (5, [.ref qE_text, .int (jI vE_size), .int (jI vE_next), .int (jI vE_fault), .int (jI vE_faultAt), .ref qU, .ref qV])), aI kI qE_text 120 fE_text] rfl ?_
        have he25 := h25
        have he25 := he25.symm
        subst he25
        have ht9 := Rg.at hEt i9 (by omega)
        refine x_bipush F dX5_findWordEnd_28 (by decide) ?_
        refine x_callSi (As := [.int (jI 97), .int (jI (fE_text i9)), .int (jI 122)]) (st := []) F (c_X5_isIn D kI kJ l 97 (fE_text i9) 122 (by omega) (by omega) (by omega)) (va_cwS 3 F.2.2.2.2.1 gX5_findWordEnd_X5_isIn rfl rfl rfl (by decide +kernel) ⟨Nat.le_of_ble_eq_true rfl, Nat.le_of_ble_eq_true rfl⟩) [] [0, 1] [0, 1] rfl rfl (by decide) (by decide) (by decide) (fun _ => rfl) (by decide) rfl (Nat.le_of_ble_eq_true rfl) dX5_findWordEnd_30 ⟨Nat.le_of_ble_eq_true rfl, Nat.le_of_ble_eq_true rfl⟩ (fun z30 u30 h30 => ?_)
        try dsimp only at h30
        refine x_ws [(qE, .inr (5, [.ref qE_text, .int (jI vE_size), .int (jI vE_next), .int (jI vE_fault), .int (jI vE_faultAt), .ref qU, .ref qV])), aI kI qE_text 120 fE_text] rfl ?_
        have hb30 := h30
        refine x_beq (tgt := 46) F dX5_findWordEnd_33 (by decide) hb30 (fun c33 => ?_) (fun c33 => ?_)
        · -- 33 t
          refine x_iload_n F dX5_findWordEnd_46 rfl 1 rfl ?_
          exact hret 0 0 47 _ i9 () (Nat.le_of_ble_eq_true rfl) (Nat.le_of_ble_eq_true rfl) dX5_findWordEnd_47 ((hsk.symm.trans (sc_stop (by omega))).symm)
        · -- 33 f
          refine x_iload_n F dX5_findWordEnd_36 rfl 2 rfl ?_
          refine x_iconst F dX5_findWordEnd_37 ?_
          refine x_iadd F dX5_findWordEnd_38 ?_
          refine x_istore_n (lv' := [(0, .ref qE), (1, .int (jI (i9 + 1))), (2, .int (jI i9))]) F dX5_findWordEnd_39 rfl (by decide) [1, 0, 2] rfl ?_
          refine x_iinc (lv' := [(0, .ref qE), (1, .int (jI (i9 + 1))), (2, .int (jI (i9 + 1)))]) (k := 2) F dX5_findWordEnd_40 rfl (by decide) [1, 2, 0] rfl ?_
          refine x_goto (tgt := 10) F dX5_findWordEnd_43 (by decide) ?_
          exact ih10 (i9 + 1) (by omega) (by rw [← hsk]; exact (sc_go (by omega)).symm) (by omega)
  exact lp10 (Int.toNat (vE_size - vE_next) + 1) vE_next (by omega) rfl (by omega)
set_option maxHeartbeats 4000000 in
set_option maxRecDepth 100000 in
theorem c_X5_isNext (D : va_G) (kI kJ : Nat) (l : Launch) (qE : Nat) (sign : Int) (qE_text : Nat) (vE_size : Int) (vE_next : Int) (vE_fault : Int) (vE_faultAt : Int) (qU : Nat) (qV : Nat) (fE_text : (Int → Int)) (hEs : 0 ≤ vE_size ∧ vE_size ≤ 120) (hEt : Rg fE_text 120 0 255) (hnx : 0 ≤ vE_next ∧ vE_next ≤ vE_size) (hsg : 0 ≤ sign ∧ sign ≤ 127) : xMi D kI kJ l yX5_isNext wsX5_isNext 2 53 0 0 [.ref qE, .int (jI sign)] [(qE, .inr (5, [.ref qE_text, .int (jI vE_size), .int (jI vE_next), .int (jI vE_fault), .int (jI vE_faultAt), .ref qU, .ref qV])), aI kI qE_text 120 fE_text] (fun (z : Int) (u : Int) => xBool z (cha fE_text vE_size u = sign) ∧ (u = skp fE_text vE_size vE_next)) (fun (u : Int) => [(qE, .inr (5, [.ref qE_text, .int (jI vE_size), .int (jI u), .int (jI vE_fault), .int (jI vE_faultAt), .ref qU, .ref qV])), aI kI qE_text 120 fE_text]) := by
  refine xMi_of (cc := cX5_isNext) (maxL := 2) (rt := .boolean) (by decide) rfl (Nat.le_of_ble_eq_true rfl) (fun z u hp => xBool_nar hp.1) ?_
  intro p e s m args below meth c A Q F hin2 hret
  have hin5 : ∀ w ∈ wsX50, w ∈ wsX5_isNext := by decide +kernel
  have hw0 : Cond.fieldLink RX5 38 (TX5 2).1 (TX5 2).2.1 (TX5 2).2.2.1 ∈ wsX5_isNext := by decide +kernel
  have hw1 : Cond.fieldLink RX5 29 (TX5 1).1 (TX5 1).2.1 (TX5 1).2.2.1 ∈ wsX5_isNext := by decide +kernel
  have hw2 : Cond.fieldLink RX5 9 (TX5 0).1 (TX5 0).2.1 (TX5 0).2.2.1 ∈ wsX5_isNext := by decide +kernel
  have hw3 : Cond.initialized yX9_at.cls ∈ wsX5_isNext := by decide +kernel
  have hw4 : Cond.static yX9_at ∈ wsX5_isNext := by decide +kernel
  refine x_lveq (lv' := [(0, .ref qE), (1, .int (jI sign))]) rfl ?_
  refine x_aload_n F dX5_isNext_0 rfl 0 rfl ?_
  refine x_callVv (ci := 5) (q0 := 0) (As := []) (st := []) F (c_X5_skipBlanks D kI kJ l qE qE_text vE_size vE_next vE_fault vE_faultAt qU qV fE_text hEs hEt hnx) (cwV 0 F.2.2.2.2.1 gX5_isNext_X5_skipBlanks rfl rfl rfl (by decide +kernel) ⟨Nat.le_of_ble_eq_true rfl, Nat.le_of_ble_eq_true rfl⟩) rfl rfl [0, 1] [] [0, 1] rfl rfl (by decide) (by decide) (by decide) (fun _ => rfl) (by decide) rfl (Nat.le_of_ble_eq_true rfl) dX5_isNext_1 ⟨Nat.le_of_ble_eq_true rfl, Nat.le_of_ble_eq_true rfl⟩ (fun u1 h1 => ?_)
  obtain ⟨n2_1, rfl⟩ : ∃ z, z = u1 := ⟨_, rfl⟩
  try dsimp only at h1
  refine x_ws [(qE, .inr (5, [.ref qE_text, .int (jI vE_size), .int (jI n2_1), .int (jI vE_fault), .int (jI vE_faultAt), .ref qU, .ref qV])), aI kI qE_text 120 fE_text] rfl ?_
  have hn_1 := h1
  have hsr := skp_rng (tx := fE_text) (sz := vE_size) hnx
  rw [← hn_1] at hsr
  have hc1 : n2_1 < vE_size → cha fE_text vE_size n2_1 = fE_text n2_1 := fun q => by unfold cha; rw [if_pos q]
  have hc0 : ¬ n2_1 < vE_size → cha fE_text vE_size n2_1 = -1 := fun q => by unfold cha; rw [if_neg q]
  have htr : n2_1 < vE_size → 0 ≤ fE_text n2_1 ∧ fE_text n2_1 ≤ 255 := fun q => hEt n2_1 (by omega) (by omega)
  refine x_aload_n F dX5_isNext_4 rfl 0 rfl ?_
  refine x_get (ci := 5) F hin5 0 rfl rfl 2 (by decide) hw0 rfl dX5_isNext_5 ?_
  refine x_aload_n F dX5_isNext_8 rfl 0 rfl ?_
  refine x_get (ci := 5) F hin5 0 rfl rfl 1 (by decide) hw1 rfl dX5_isNext_9 ?_
  refine x_icmp_ge (tgt := 34) F dX5_isNext_12 (by decide) (by omega) (fun c12 => ?_) (fun c12 => ?_)
  · -- 12 t
    refine x_iconst F dX5_isNext_34 ?_
    exact hret 0 0 35 _ 0 n2_1 (Nat.le_of_ble_eq_true rfl) (Nat.le_of_ble_eq_true rfl) dX5_isNext_35 (⟨by first | exact xBool_t (by omega) | exact xBool_f (by omega), hn_1⟩)
  · -- 12 f
    refine x_aload_n F dX5_isNext_15 rfl 0 rfl ?_
    refine x_get (ci := 5) F hin5 0 rfl rfl 0 (by decide) hw2 rfl dX5_isNext_16 ?_
    refine x_aload_n F dX5_isNext_19 rfl 0 rfl ?_
    refine x_get (ci := 5) F hin5 0 rfl rfl 2 (by decide) hw0 rfl dX5_isNext_20 ?_
    refine x_callSNi (As := [.ref qE_text, .int (jI n2_1)]) (st := []) F (c_X9_at D kI kJ l qE_text n2_1 120 fE_text (by omega) (by omega)) ⟨va_cnB 2 F.2.2.2.2.1 gX5_isNext_X9_at_n102 rfl rfl rfl (nM15 F.2.2.2.2.2.2.2) (F.2.2.2.2.1 _ hw3) (by decide +kernel) ⟨Nat.le_of_ble_eq_true rfl, Nat.le_of_ble_eq_true rfl⟩, F.2.2.2.2.1 _ hw4, trivial⟩ [1] [0] [0, 1] rfl rfl (by decide) (by decide) (by decide) (fun _ => rfl) (by decide) rfl (Nat.le_of_ble_eq_true rfl) dX5_isNext_23 ⟨Nat.le_of_ble_eq_true rfl, Nat.le_of_ble_eq_true rfl⟩ (fun z23 u23 h23 => ?_)
    try dsimp only at h23
    refine x_ws [(qE, .inr (5, [.ref qE_text, .int (jI vE_size), .int (jI n2_1), .int (jI vE_fault), .int (jI vE_faultAt), .ref qU, .ref qV])), aI kI qE_text 120 fE_text] rfl ?_
    have he23 := h23
    have he23 := he23.symm
    subst he23
    refine x_iload_n F dX5_isNext_26 rfl 1 rfl ?_
    refine x_icmp_ne (tgt := 34) F dX5_isNext_27 (by decide) (by omega) (fun c27 => ?_) (fun c27 => ?_)
    · -- 27 t
      refine x_iconst F dX5_isNext_34 ?_
      exact hret 0 0 35 _ 0 n2_1 (Nat.le_of_ble_eq_true rfl) (Nat.le_of_ble_eq_true rfl) dX5_isNext_35 (⟨by first | exact xBool_t (by omega) | exact xBool_f (by omega), hn_1⟩)
    · -- 27 f
      refine x_iconst F dX5_isNext_30 ?_
      refine x_goto (tgt := 35) F dX5_isNext_31 (by decide) ?_
      exact hret 0 0 35 _ 1 n2_1 (Nat.le_of_ble_eq_true rfl) (Nat.le_of_ble_eq_true rfl) dX5_isNext_35 (⟨by first | exact xBool_t (by omega) | exact xBool_f (by omega), hn_1⟩)
set_option maxHeartbeats 4000000 in
set_option maxRecDepth 100000 in
theorem c_X5_blame (D : va_G) (kI kJ : Nat) (l : Launch) (qE : Nat) (number : Int) (wh : Int) (qE_text : Nat) (vE_size : Int) (vE_next : Int) (vE_fault : Int) (vE_faultAt : Int) (qU : Nat) (qV : Nat) (hEf : 0 ≤ vE_fault ∧ vE_fault ≤ 4) : xMv D kI kJ l yX5_blame wsX5_blame 1 32 0 0 [.ref qE, .int (jI number), .int (jI wh)] [(qE, .inr (5, [.ref qE_text, .int (jI vE_size), .int (jI vE_next), .int (jI vE_fault), .int (jI vE_faultAt), .ref qU, .ref qV]))] (fun (u : Int × Int) => (vE_fault = 0 → u.1 = number ∧ u.2 = wh) ∧ (¬ vE_fault = 0 → u.1 = vE_fault ∧ u.2 = vE_faultAt)) (fun (u : Int × Int) => [(qE, .inr (5, [.ref qE_text, .int (jI vE_size), .int (jI vE_next), .int (jI u.1), .int (jI u.2), .ref qU, .ref qV]))]) := by
  refine xMv_of (cc := cX5_blame) (maxL := 3) (by decide) rfl (Nat.le_of_ble_eq_true rfl) ?_
  intro p e s m args below meth c A Q F hin2 hret
  have hin5 : ∀ w ∈ wsX50, w ∈ wsX5_blame := by decide +kernel
  have hw0 : Cond.fieldLink RX5 41 (TX5 3).1 (TX5 3).2.1 (TX5 3).2.2.1 ∈ wsX5_blame := by decide +kernel
  have hw1 : Cond.fieldLink RX5 15 (TX5 4).1 (TX5 4).2.1 (TX5 4).2.2.1 ∈ wsX5_blame := by decide +kernel
  refine x_lveq (lv' := [(0, .ref qE), (1, .int (jI number)), (2, .int (jI wh))]) rfl ?_
  refine x_aload_n F dX5_blame_0 rfl 0 rfl ?_
  refine x_get (ci := 5) F hin5 0 rfl rfl 3 (by decide) hw0 rfl dX5_blame_1 ?_
  refine x_if_ne (tgt := 17) F dX5_blame_4 (by decide) (by omega) (fun c4 => ?_) (fun c4 => ?_)
  · -- 4 t
    exact hret 0 0 17 _ (vE_fault, vE_faultAt) (Nat.le_of_ble_eq_true rfl) (Nat.le_of_ble_eq_true rfl) dX5_blame_17 (by (try dsimp only); exact (by first | exact ⟨fun _ => ⟨rfl, rfl⟩, fun q => by omega⟩ | exact ⟨fun q => by omega, fun _ => ⟨rfl, rfl⟩⟩))
  · -- 4 f
    refine x_aload_n F dX5_blame_7 rfl 0 rfl ?_
    refine x_iload_n F dX5_blame_8 rfl 1 rfl ?_
    refine x_put (ci := 5) F hin5 tyX5_ok nmX5 0 rfl rfl 3 (by decide) hw0 rfl rfl rfl (show 3 + 1 ≤ _ from Nat.le_of_ble_eq_true rfl) dX5_blame_9 [(qE, .inr (5, [.ref qE_text, .int (jI vE_size), .int (jI vE_next), .int (jI number), .int (jI vE_faultAt), .ref qU, .ref qV]))] rfl ?_
    refine x_aload_n F dX5_blame_12 rfl 0 rfl ?_
    refine x_iload_n F dX5_blame_13 rfl 2 rfl ?_
    refine x_put (ci := 5) F hin5 tyX5_ok nmX5 0 rfl rfl 4 (by decide) hw1 rfl rfl rfl (show 4 + 1 ≤ _ from Nat.le_of_ble_eq_true rfl) dX5_blame_14 [(qE, .inr (5, [.ref qE_text, .int (jI vE_size), .int (jI vE_next), .int (jI number), .int (jI wh), .ref qU, .ref qV]))] rfl ?_
    exact hret 0 0 17 _ (number, wh) (Nat.le_of_ble_eq_true rfl) (Nat.le_of_ble_eq_true rfl) dX5_blame_17 (by (try dsimp only); exact (by first | exact ⟨fun _ => ⟨rfl, rfl⟩, fun q => by omega⟩ | exact ⟨fun q => by omega, fun _ => ⟨rfl, rfl⟩⟩))
set_option maxHeartbeats 4000000 in
set_option maxRecDepth 100000 in
theorem c_X5_readSign (D : va_G) (kI kJ : Nat) (l : Launch) (qE : Nat) (sign : Int) (qE_text : Nat) (vE_size : Int) (vE_next : Int) (vE_fault : Int) (vE_faultAt : Int) (qU : Nat) (qV : Nat) (fE_text : (Int → Int)) (hEs : 0 ≤ vE_size ∧ vE_size ≤ 120) (hEt : Rg fE_text 120 0 255) (hnx : 0 ≤ vE_next ∧ vE_next ≤ vE_size) (hEf : 0 ≤ vE_fault ∧ vE_fault ≤ 4) (hsg : 0 ≤ sign ∧ sign ≤ 127) : xMv D kI kJ l yX5_readSign wsX5_readSign 3 74 0 0 [.ref qE, .int (jI sign)] [(qE, .inr (5, [.ref qE_text, .int (jI vE_size), .int (jI vE_next), .int (jI vE_fault), .int (jI vE_faultAt), .ref qU, .ref qV])), aI kI qE_text 120 fE_text] (fun (u : Int × Int × Int) => (cha fE_text vE_size (skp fE_text vE_size vE_next) = sign → u.1 = skp fE_text vE_size vE_next + 1 ∧ u.2.1 = vE_fault ∧ u.2.2 = vE_faultAt) ∧ (¬ cha fE_text vE_size (skp fE_text vE_size vE_next) = sign → u.1 = skp fE_text vE_size vE_next ∧ (vE_fault = 0 → u.2.1 = 1 ∧ u.2.2 = (skp fE_text vE_size vE_next)) ∧ (¬ vE_fault = 0 → u.2.1 = vE_fault ∧ u.2.2 = vE_faultAt)) ∧ (0 ≤ u.1 ∧ u.1 ≤ vE_size) ∧ (0 ≤ u.2.1 ∧ u.2.1 ≤ 4)) (fun (u : Int × Int × Int) => [(qE, .inr (5, [.ref qE_text, .int (jI vE_size), .int (jI u.1), .int (jI u.2.1), .int (jI u.2.2), .ref qU, .ref qV])), aI kI qE_text 120 fE_text]) := by
  refine xMv_of (cc := cX5_readSign) (maxL := 2) (by decide) rfl (Nat.le_of_ble_eq_true rfl) ?_
  intro p e s m args below meth c A Q F hin2 hret
  have hin5 : ∀ w ∈ wsX50, w ∈ wsX5_readSign := by decide +kernel
  have hw0 : Cond.fieldLink RX5 38 (TX5 2).1 (TX5 2).2.1 (TX5 2).2.2.1 ∈ wsX5_readSign := by decide +kernel
  refine x_lveq (lv' := [(0, .ref qE), (1, .int (jI sign))]) rfl ?_
  refine x_aload_n F dX5_readSign_0 rfl 0 rfl ?_
  refine x_iload_n F dX5_readSign_1 rfl 1 rfl ?_
  refine x_callVi (ci := 5) (q0 := 0) (As := [.int (jI sign)]) (st := []) F (c_X5_isNext D kI kJ l qE sign qE_text vE_size vE_next vE_fault vE_faultAt qU qV fE_text hEs hEt hnx hsg) (cwV 1 F.2.2.2.2.1 gX5_readSign_X5_isNext rfl rfl rfl (by decide +kernel) ⟨Nat.le_of_ble_eq_true rfl, Nat.le_of_ble_eq_true rfl⟩) rfl rfl [0, 1] [] [0, 1] rfl rfl (by decide) (by decide) (by decide) (fun _ => rfl) (by decide) rfl (Nat.le_of_ble_eq_true rfl) dX5_readSign_2 ⟨Nat.le_of_ble_eq_true rfl, Nat.le_of_ble_eq_true rfl⟩ (fun z2 u2 h2 => ?_)
  obtain ⟨n2_2, rfl⟩ : ∃ z, z = u2 := ⟨_, rfl⟩
  try dsimp only at h2
  refine x_ws [(qE, .inr (5, [.ref qE_text, .int (jI vE_size), .int (jI n2_2), .int (jI vE_fault), .int (jI vE_faultAt), .ref qU, .ref qV])), aI kI qE_text 120 fE_text] rfl ?_
  obtain ⟨hb2, hn_2⟩ := h2
  have hsr := skp_rng (tx := fE_text) (sz := vE_size) hnx
  rw [← hn_2] at hsr
  have hc0 : ¬ n2_2 < vE_size → cha fE_text vE_size n2_2 = -1 := fun q => by unfold cha; rw [if_neg q]
  refine x_beq (tgt := 21) F dX5_readSign_5 (by decide) hb2 (fun c5 => ?_) (fun c5 => ?_)
  · -- 5 t
    refine x_aload_n F dX5_readSign_21 rfl 0 rfl ?_
    refine x_iconst F dX5_readSign_22 ?_
    refine x_aload_n F dX5_readSign_23 rfl 0 rfl ?_
    refine x_get (ci := 5) F hin5 0 rfl rfl 2 (by decide) hw0 rfl dX5_readSign_24 ?_
    refine x_callVv (ci := 5) (q0 := 0) (As := [.int (jI 1), .int (jI n2_2)]) (st := []) F (c_X5_blame D kI kJ l qE 1 n2_2 qE_text vE_size n2_2 vE_fault vE_faultAt qU qV hEf) (cwV 2 F.2.2.2.2.1 gX5_readSign_X5_blame rfl rfl rfl (by decide +kernel) ⟨Nat.le_of_ble_eq_true rfl, Nat.le_of_ble_eq_true rfl⟩) rfl rfl [0] [1] [1, 0] rfl rfl (by decide) (by decide) (by decide) (fun _ => rfl) (by decide) rfl (Nat.le_of_ble_eq_true rfl) dX5_readSign_27 ⟨Nat.le_of_ble_eq_true rfl, Nat.le_of_ble_eq_true rfl⟩ (fun u27 h27 => ?_)
    obtain ⟨f2_27, a2_27⟩ := u27
    try dsimp only at h27
    refine x_ws [(qE, .inr (5, [.ref qE_text, .int (jI vE_size), .int (jI n2_2), .int (jI f2_27), .int (jI a2_27), .ref qU, .ref qV])), aI kI qE_text 120 fE_text] rfl ?_
    obtain ⟨hb0_27, hb1_27⟩ := h27
    exact hret 0 0 30 _ (n2_2, f2_27, a2_27) (Nat.le_of_ble_eq_true rfl) (Nat.le_of_ble_eq_true rfl) dX5_readSign_30 (by (try dsimp only); exact (⟨fun q => absurd (by rw [hn_2]; exact q) c5, fun q => ⟨hn_2, fun q1 => by rw [← hn_2]; exact hb0_27 q1, hb1_27⟩, by omega, by by_cases q : vE_fault = 0; (rw [(hb0_27 q).1]; omega); (rw [(hb1_27 q).1]; omega)⟩))
  · -- 5 f
    refine x_aload_n F dX5_readSign_8 rfl 0 rfl ?_
    refine x_dup F dX5_readSign_9 rfl ?_
    refine x_get (ci := 5) F hin5 0 rfl rfl 2 (by decide) hw0 rfl dX5_readSign_10 ?_
    refine x_iconst F dX5_readSign_13 ?_
    refine x_iadd F dX5_readSign_14 ?_
    refine x_put (ci := 5) F hin5 tyX5_ok nmX5 0 rfl rfl 2 (by decide) hw0 rfl rfl rfl (show 2 + 1 ≤ _ from Nat.le_of_ble_eq_true rfl) dX5_readSign_15 [(qE, .inr (5, [.ref qE_text, .int (jI vE_size), .int (jI (n2_2 + 1)), .int (jI vE_fault), .int (jI vE_faultAt), .ref qU, .ref qV])), aI kI qE_text 120 fE_text] rfl ?_
    refine x_goto (tgt := 30) F dX5_readSign_18 (by decide) ?_
    exact hret 0 0 30 _ ((n2_2 + 1), vE_fault, vE_faultAt) (Nat.le_of_ble_eq_true rfl) (Nat.le_of_ble_eq_true rfl) dX5_readSign_30 (by (try dsimp only); exact (⟨fun q => ⟨by omega, rfl, rfl⟩, fun q => absurd (by rw [← hn_2]; exact c5) q, by omega, by omega⟩))
set_option maxHeartbeats 4000000 in
set_option maxRecDepth 100000 in
theorem c_X5_readNumber (D : va_G) (kI kJ : Nat) (l : Launch) (qE : Nat) (qE_text : Nat) (vE_size : Int) (vE_next : Int) (vE_fault : Int) (vE_faultAt : Int) (qU : Nat) (qV : Nat) (fE_text : (Int → Int)) (hEs : 0 ≤ vE_size ∧ vE_size ≤ 120) (hEt : Rg fE_text 120 0 255) (hnx : 0 ≤ vE_next ∧ vE_next ≤ vE_size) (hEf : 0 ≤ vE_fault ∧ vE_fault ≤ 4) : xMi D kI kJ l yX5_readNumber wsX5_readNumber 2 54 0 0 [.ref qE] [(qE, .inr (5, [.ref qE_text, .int (jI vE_size), .int (jI vE_next), .int (jI vE_fault), .int (jI vE_faultAt), .ref qU, .ref qV])), aI kI qE_text 120 fE_text] (fun (z : Int) (u : Int × Int × Int) => z = (nuV fE_text (skp fE_text vE_size vE_next) u.1) ∧ (u.1 = dge fE_text vE_size (skp fE_text vE_size vE_next)) ∧ (¬ vE_fault = 0 → u.2.1 = vE_fault ∧ u.2.2 = vE_faultAt) ∧ (vE_fault = 0 → u.2.1 = (if u.1 = skp fE_text vE_size vE_next then 1 else if 3 < u.1 - skp fE_text vE_size vE_next then 2 else 0) ∧ (u.2.1 = 0 → u.2.2 = vE_faultAt) ∧ (¬ u.2.1 = 0 → u.2.2 = skp fE_text vE_size vE_next)) ∧ (0 ≤ u.1 ∧ u.1 ≤ vE_size) ∧ (0 ≤ u.2.1 ∧ u.2.1 ≤ 4)) (fun (u : Int × Int × Int) => [(qE, .inr (5, [.ref qE_text, .int (jI vE_size), .int (jI u.1), .int (jI u.2.1), .int (jI u.2.2), .ref qU, .ref qV])), aI kI qE_text 120 fE_text]) := by
  refine xMi_of (cc := cX5_readNumber) (maxL := 4) (rt := .int) (by decide) rfl (Nat.le_of_ble_eq_true rfl) (fun _ _ _ => rfl) ?_
  intro p e s m args below meth c A Q F hin2 hret
  have hin5 : ∀ w ∈ wsX50, w ∈ wsX5_readNumber := by decide +kernel
  have hw0 : Cond.fieldLink RX5 38 (TX5 2).1 (TX5 2).2.1 (TX5 2).2.2.1 ∈ wsX5_readNumber := by decide +kernel
  have hw1 : Cond.fieldLink RX5 29 (TX5 1).1 (TX5 1).2.1 (TX5 1).2.2.1 ∈ wsX5_readNumber := by decide +kernel
  have hw2 : Cond.fieldLink RX5 9 (TX5 0).1 (TX5 0).2.1 (TX5 0).2.2.1 ∈ wsX5_readNumber := by decide +kernel
  have hw3 : Cond.initialized yX9_at.cls ∈ wsX5_readNumber := by decide +kernel
  have hw4 : Cond.static yX9_at ∈ wsX5_readNumber := by decide +kernel
  refine x_lveq (lv' := [(0, .ref qE)]) rfl ?_
  refine x_aload_n F dX5_readNumber_0 rfl 0 rfl ?_
  refine x_callVv (ci := 5) (q0 := 0) (As := []) (st := []) F (c_X5_skipBlanks D kI kJ l qE qE_text vE_size vE_next vE_fault vE_faultAt qU qV fE_text hEs hEt hnx) (cwV 0 F.2.2.2.2.1 gX5_readNumber_X5_skipBlanks rfl rfl rfl (by decide +kernel) ⟨Nat.le_of_ble_eq_true rfl, Nat.le_of_ble_eq_true rfl⟩) rfl rfl [0, 1] [] [0, 1] rfl rfl (by decide) (by decide) (by decide) (fun _ => rfl) (by decide) rfl (Nat.le_of_ble_eq_true rfl) dX5_readNumber_1 ⟨Nat.le_of_ble_eq_true rfl, Nat.le_of_ble_eq_true rfl⟩ (fun u1 h1 => ?_)
  obtain ⟨n2_1, rfl⟩ : ∃ z, z = u1 := ⟨_, rfl⟩
  try dsimp only at h1
  refine x_ws [(qE, .inr (5, [.ref qE_text, .int (jI vE_size), .int (jI n2_1), .int (jI vE_fault), .int (jI vE_faultAt), .ref qU, .ref qV])), aI kI qE_text 120 fE_text] rfl ?_
  have hn_1 := h1
  have hsr := skp_rng (tx := fE_text) (sz := vE_size) hnx
  rw [← hn_1] at hsr
  refine x_aload_n F dX5_readNumber_4 rfl 0 rfl ?_
  refine x_get (ci := 5) F hin5 0 rfl rfl 2 (by decide) hw0 rfl dX5_readNumber_5 ?_
  refine x_istore_n (lv' := [(0, .ref qE), (1, .int (jI n2_1))]) F dX5_readNumber_8 rfl (by decide) [1, 0] rfl ?_
  refine x_iconst F dX5_readNumber_9 ?_
  refine x_istore_n (lv' := [(0, .ref qE), (1, .int (jI n2_1)), (2, .int (jI 0))]) F dX5_readNumber_10 rfl (by decide) [1, 2, 0] rfl ?_
  refine x_iload_n F dX5_readNumber_11 rfl 1 rfl ?_
  refine x_istore_n (lv' := [(0, .ref qE), (1, .int (jI n2_1)), (2, .int (jI 0)), (3, .int (jI n2_1))]) F dX5_readNumber_12 rfl (by decide) [1, 2, 3, 0] rfl ?_
  have lp13 : ∀ (fu : Nat) (v9 : Int) (i9 : Int) (hi9 : n2_1 ≤ i9 ∧ i9 ≤ vE_size) (hv : v9 = nuV fE_text n2_1 i9) (hde : dge fE_text vE_size i9 = dge fE_text vE_size n2_1) (hm : vE_size - i9 < (fu : Int)), xG D p l e (xRm 2 54 0 0) s m args below meth c 4 A Q 0 0 [(qE, .inr (5, [.ref qE_text, .int (jI vE_size), .int (jI i9), .int (jI vE_fault), .int (jI vE_faultAt), .ref qU, .ref qV])), aI kI qE_text 120 fE_text] [(0, .ref qE), (1, .int (jI n2_1)), (2, .int (jI v9)), (3, .int (jI i9))] 13 [] := by
    intro fu
    induction fu with
    | zero =>
      intro v9 i9 hi9 hv hde hm
      exact absurd hm (by omega)
    | succ fu ih13 =>
      intro v9 i9 hi9 hv hde hm
      refine x_iload_n F dX5_readNumber_13 rfl 3 rfl ?_
      refine x_aload_n F dX5_readNumber_14 rfl 0 rfl ?_
      refine x_get (ci := 5) F hin5 0 rfl rfl 1 (by decide) hw1 rfl dX5_readNumber_15 ?_
      refine x_icmp_ge (tgt := 69) F dX5_readNumber_18 (by decide) (by omega) (fun c18 => ?_) (fun c18 => ?_)
      · -- 18 t
        have hdz : dge fE_text vE_size n2_1 = i9 := by rw [← hde]; exact sc_stop (by omega)
        refine x_aload_n F dX5_readNumber_69 rfl 0 rfl ?_
        refine x_get (ci := 5) F hin5 0 rfl rfl 2 (by decide) hw0 rfl dX5_readNumber_70 ?_
        refine x_iload_n F dX5_readNumber_73 rfl 1 rfl ?_
        refine x_icmp_ne (tgt := 86) F dX5_readNumber_74 (by decide) (by omega) (fun c74 => ?_) (fun c74 => ?_)
        · -- 74 t
          refine x_aload_n F dX5_readNumber_86 rfl 0 rfl ?_
          refine x_get (ci := 5) F hin5 0 rfl rfl 2 (by decide) hw0 rfl dX5_readNumber_87 ?_
          refine x_iload_n F dX5_readNumber_90 rfl 1 rfl ?_
          refine x_isub F dX5_readNumber_91 ?_
          refine x_iconst F dX5_readNumber_92 ?_
          refine x_icmp_le (tgt := 102) F dX5_readNumber_93 (by decide) (by omega) (fun c93 => ?_) (fun c93 => ?_)
          · -- 93 t
            refine x_iload_n F dX5_readNumber_102 rfl 2 rfl ?_
            exact hret 0 0 103 _ v9 (i9, vE_fault, vE_faultAt) (Nat.le_of_ble_eq_true rfl) (Nat.le_of_ble_eq_true rfl) dX5_readNumber_103 (by (try dsimp only); exact (⟨by rw [← hn_1]; exact hv, by rw [← hn_1]; exact hdz.symm, fun _ => ⟨rfl, rfl⟩, fun q => ⟨by rw [← hn_1, if_neg (by omega), if_neg (by omega)]; exact q, fun _ => rfl, fun q2 => absurd q q2⟩, by omega, by omega⟩))
          · -- 93 f
            refine x_aload_n F dX5_readNumber_96 rfl 0 rfl ?_
            refine x_iconst F dX5_readNumber_97 ?_
            refine x_iload_n F dX5_readNumber_98 rfl 1 rfl ?_
            refine x_callVv (ci := 5) (q0 := 0) (As := [.int (jI 2), .int (jI n2_1)]) (st := []) F (c_X5_blame D kI kJ l qE 2 n2_1 qE_text vE_size i9 vE_fault vE_faultAt qU qV hEf) (cwV 2 F.2.2.2.2.1 gX5_readNumber_X5_blame rfl rfl rfl (by decide +kernel) ⟨Nat.le_of_ble_eq_true rfl, Nat.le_of_ble_eq_true rfl⟩) rfl rfl [0] [1] [1, 0] rfl rfl (by decide) (by decide) (by decide) (fun _ => rfl) (by decide) rfl (Nat.le_of_ble_eq_true rfl) dX5_readNumber_99 ⟨Nat.le_of_ble_eq_true rfl, Nat.le_of_ble_eq_true rfl⟩ (fun u99 h99 => ?_)
            obtain ⟨f2_99, a2_99⟩ := u99
            try dsimp only at h99
            refine x_ws [(qE, .inr (5, [.ref qE_text, .int (jI vE_size), .int (jI i9), .int (jI f2_99), .int (jI a2_99), .ref qU, .ref qV])), aI kI qE_text 120 fE_text] rfl ?_
            obtain ⟨hb0_99, hb1_99⟩ := h99
            refine x_iload_n F dX5_readNumber_102 rfl 2 rfl ?_
            exact hret 0 0 103 _ v9 (i9, f2_99, a2_99) (Nat.le_of_ble_eq_true rfl) (Nat.le_of_ble_eq_true rfl) dX5_readNumber_103 (by (try dsimp only); exact (⟨by rw [← hn_1]; exact hv, by rw [← hn_1]; exact hdz.symm, hb1_99, fun q => ⟨by rw [(hb0_99 q).1, ← hn_1, if_neg (by omega)]; exact (if_pos (by omega)).symm, fun q2 => absurd (hb0_99 q).1 (by omega), fun _ => by rw [← hn_1]; exact (hb0_99 q).2⟩, by omega, by by_cases q : vE_fault = 0; (rw [(hb0_99 q).1]; omega); (rw [(hb1_99 q).1]; omega)⟩))
        · -- 74 f
          refine x_aload_n F dX5_readNumber_77 rfl 0 rfl ?_
          refine x_iconst F dX5_readNumber_78 ?_
          refine x_iload_n F dX5_readNumber_79 rfl 1 rfl ?_
          refine x_callVv (ci := 5) (q0 := 0) (As := [.int (jI 1), .int (jI n2_1)]) (st := []) F (c_X5_blame D kI kJ l qE 1 n2_1 qE_text vE_size i9 vE_fault vE_faultAt qU qV hEf) (cwV 2 F.2.2.2.2.1 gX5_readNumber_X5_blame rfl rfl rfl (by decide +kernel) ⟨Nat.le_of_ble_eq_true rfl, Nat.le_of_ble_eq_true rfl⟩) rfl rfl [0] [1] [1, 0] rfl rfl (by decide) (by decide) (by decide) (fun _ => rfl) (by decide) rfl (Nat.le_of_ble_eq_true rfl) dX5_readNumber_80 ⟨Nat.le_of_ble_eq_true rfl, Nat.le_of_ble_eq_true rfl⟩ (fun u80 h80 => ?_)
          obtain ⟨f2_80, a2_80⟩ := u80
          try dsimp only at h80
          refine x_ws [(qE, .inr (5, [.ref qE_text, .int (jI vE_size), .int (jI i9), .int (jI f2_80), .int (jI a2_80), .ref qU, .ref qV])), aI kI qE_text 120 fE_text] rfl ?_
          obtain ⟨hb0_80, hb1_80⟩ := h80
          refine x_goto (tgt := 102) F dX5_readNumber_83 (by decide) ?_
          refine x_iload_n F dX5_readNumber_102 rfl 2 rfl ?_
          exact hret 0 0 103 _ v9 (i9, f2_80, a2_80) (Nat.le_of_ble_eq_true rfl) (Nat.le_of_ble_eq_true rfl) dX5_readNumber_103 (by (try dsimp only); exact (⟨by rw [← hn_1]; exact hv, by rw [← hn_1]; exact hdz.symm, hb1_80, fun q => ⟨by rw [(hb0_80 q).1, ← hn_1]; exact (if_pos (by omega)).symm, fun q2 => absurd (hb0_80 q).1 (by omega), fun _ => by rw [← hn_1]; exact (hb0_80 q).2⟩, by omega, by by_cases q : vE_fault = 0; (rw [(hb0_80 q).1]; omega); (rw [(hb1_80 q).1]; omega)⟩))
      · -- 18 f
        refine x_bipush F dX5_readNumber_21 (by decide) ?_
        refine x_aload_n F dX5_readNumber_23 rfl 0 rfl ?_
        refine x_get (ci := 5) F hin5 0 rfl rfl 0 (by decide) hw2 rfl dX5_readNumber_24 ?_
        refine x_iload_n F dX5_readNumber_27 rfl 3 rfl ?_
        refine x_callSNi (As := [.ref qE_text, .int (jI i9)]) (st := [.int (jI 48)]) F (c_X9_at D kI kJ l qE_text i9 120 fE_text (by omega) (by omega)) ⟨va_cnB 2 F.2.2.2.2.1 gX5_readNumber_X9_at_n102 rfl rfl rfl (nM15 F.2.2.2.2.2.2.2) (F.2.2.2.2.1 _ hw3) (by decide +kernel) ⟨Nat.le_of_ble_eq_true rfl, Nat.le_of_ble_eq_true rfl⟩, F.2.2.2.2.1 _ hw4, trivial⟩ [1] [0] [0, 1] rfl rfl (by decide) (by decide) (by decide) (fun _ => rfl) (by decide) rfl (Nat.le_of_ble_eq_true rfl) dX5_readNumber_28 ⟨Nat.le_of_ble_eq_true rfl, Nat.le_of_ble_eq_true rfl⟩ (fun z28 u28 h28 => ?_)
        try dsimp only at h28
        refine x_ws [(qE, .inr (5, [.ref qE_text, .int (jI vE_size), .int (jI i9), .int (jI vE_fault), .int (jI vE_faultAt), .ref qU, .ref qV])), aI kI qE_text 120 fE_text] rfl ?_
        have he28 := h28
        have he28 := he28.symm
        subst he28
        have ht9 := Rg.at hEt i9 (by omega)
        refine x_bipush F dX5_readNumber_31 (by decide) ?_
        refine x_callSi (As := [.int (jI 48), .int (jI (fE_text i9)), .int (jI 57)]) (st := []) F (c_X5_isIn D kI kJ l 48 (fE_text i9) 57 (by omega) (by omega) (by omega)) (va_cwS 3 F.2.2.2.2.1 gX5_readNumber_X5_isIn rfl rfl rfl (by decide +kernel) ⟨Nat.le_of_ble_eq_true rfl, Nat.le_of_ble_eq_true rfl⟩) [] [0, 1] [0, 1] rfl rfl (by decide) (by decide) (by decide) (fun _ => rfl) (by decide) rfl (Nat.le_of_ble_eq_true rfl) dX5_readNumber_33 ⟨Nat.le_of_ble_eq_true rfl, Nat.le_of_ble_eq_true rfl⟩ (fun z33 u33 h33 => ?_)
        try dsimp only at h33
        refine x_ws [(qE, .inr (5, [.ref qE_text, .int (jI vE_size), .int (jI i9), .int (jI vE_fault), .int (jI vE_faultAt), .ref qU, .ref qV])), aI kI qE_text 120 fE_text] rfl ?_
        have hb33 := h33
        refine x_beq (tgt := 69) F dX5_readNumber_36 (by decide) hb33 (fun c36 => ?_) (fun c36 => ?_)
        · -- 36 t
          have hdz : dge fE_text vE_size n2_1 = i9 := by rw [← hde]; exact sc_stop (by omega)
          refine x_aload_n F dX5_readNumber_69 rfl 0 rfl ?_
          refine x_get (ci := 5) F hin5 0 rfl rfl 2 (by decide) hw0 rfl dX5_readNumber_70 ?_
          refine x_iload_n F dX5_readNumber_73 rfl 1 rfl ?_
          refine x_icmp_ne (tgt := 86) F dX5_readNumber_74 (by decide) (by omega) (fun c74 => ?_) (fun c74 => ?_)
          · -- 74 t
            refine x_aload_n F dX5_readNumber_86 rfl 0 rfl ?_
            refine x_get (ci := 5) F hin5 0 rfl rfl 2 (by decide) hw0 rfl dX5_readNumber_87 ?_
            refine x_iload_n F dX5_readNumber_90 rfl 1 rfl ?_
            refine x_isub F dX5_readNumber_91 ?_
            refine x_iconst F dX5_readNumber_92 ?_
            refine x_icmp_le (tgt := 102) F dX5_readNumber_93 (by decide) (by omega) (fun c93 => ?_) (fun c93 => ?_)
            · -- 93 t
              refine x_iload_n F dX5_readNumber_102 rfl 2 rfl ?_
              exact hret 0 0 103 _ v9 (i9, vE_fault, vE_faultAt) (Nat.le_of_ble_eq_true rfl) (Nat.le_of_ble_eq_true rfl) dX5_readNumber_103 (by (try dsimp only); exact (⟨by rw [← hn_1]; exact hv, by rw [← hn_1]; exact hdz.symm, fun _ => ⟨rfl, rfl⟩, fun q => ⟨by rw [← hn_1, if_neg (by omega), if_neg (by omega)]; exact q, fun _ => rfl, fun q2 => absurd q q2⟩, by omega, by omega⟩))
            · -- 93 f
              refine x_aload_n F dX5_readNumber_96 rfl 0 rfl ?_
              refine x_iconst F dX5_readNumber_97 ?_
              refine x_iload_n F dX5_readNumber_98 rfl 1 rfl ?_
              refine x_callVv (ci := 5) (q0 := 0) (As := [.int (jI 2), .int (jI n2_1)]) (st := []) F (c_X5_blame D kI kJ l qE 2 n2_1 qE_text vE_size i9 vE_fault vE_faultAt qU qV hEf) (cwV 2 F.2.2.2.2.1 gX5_readNumber_X5_blame rfl rfl rfl (by decide +kernel) ⟨Nat.le_of_ble_eq_true rfl, Nat.le_of_ble_eq_true rfl⟩) rfl rfl [0] [1] [1, 0] rfl rfl (by decide) (by decide) (by decide) (fun _ => rfl) (by decide) rfl (Nat.le_of_ble_eq_true rfl) dX5_readNumber_99 ⟨Nat.le_of_ble_eq_true rfl, Nat.le_of_ble_eq_true rfl⟩ (fun u99 h99 => ?_)
              obtain ⟨f2_99, a2_99⟩ := u99
              try dsimp only at h99
              refine x_ws [(qE, .inr (5, [.ref qE_text, .int (jI vE_size), .int (jI i9), .int (jI f2_99), .int (jI a2_99), .ref qU, .ref qV])), aI kI qE_text 120 fE_text] rfl ?_
              obtain ⟨hb0_99, hb1_99⟩ := h99
              refine x_iload_n F dX5_readNumber_102 rfl 2 rfl ?_
              exact hret 0 0 103 _ v9 (i9, f2_99, a2_99) (Nat.le_of_ble_eq_true rfl) (Nat.le_of_ble_eq_true rfl) dX5_readNumber_103 (by (try dsimp only); exact (⟨by rw [← hn_1]; exact hv, by rw [← hn_1]; exact hdz.symm, hb1_99, fun q => ⟨by rw [(hb0_99 q).1, ← hn_1, if_neg (by omega)]; exact (if_pos (by omega)).symm, fun q2 => absurd (hb0_99 q).1 (by omega), fun _ => by rw [← hn_1]; exact (hb0_99 q).2⟩, by omega, by by_cases q : vE_fault = 0; (rw [(hb0_99 q).1]; omega); (rw [(hb1_99 q).1]; omega)⟩))
          · -- 74 f
            refine x_aload_n F dX5_readNumber_77 rfl 0 rfl ?_
            refine x_iconst F dX5_readNumber_78 ?_
            refine x_iload_n F dX5_readNumber_79 rfl 1 rfl ?_
            refine x_callVv (ci := 5) (q0 := 0) (As := [.int (jI 1), .int (jI n2_1)]) (st := []) F (c_X5_blame D kI kJ l qE 1 n2_1 qE_text vE_size i9 vE_fault vE_faultAt qU qV hEf) (cwV 2 F.2.2.2.2.1 gX5_readNumber_X5_blame rfl rfl rfl (by decide +kernel) ⟨Nat.le_of_ble_eq_true rfl, Nat.le_of_ble_eq_true rfl⟩) rfl rfl [0] [1] [1, 0] rfl rfl (by decide) (by decide) (by decide) (fun _ => rfl) (by decide) rfl (Nat.le_of_ble_eq_true rfl) dX5_readNumber_80 ⟨Nat.le_of_ble_eq_true rfl, Nat.le_of_ble_eq_true rfl⟩ (fun u80 h80 => ?_)
            obtain ⟨f2_80, a2_80⟩ := u80
            try dsimp only at h80
            refine x_ws [(qE, .inr (5, [.ref qE_text, .int (jI vE_size), .int (jI i9), .int (jI f2_80), .int (jI a2_80), .ref qU, .ref qV])), aI kI qE_text 120 fE_text] rfl ?_
            obtain ⟨hb0_80, hb1_80⟩ := h80
            refine x_goto (tgt := 102) F dX5_readNumber_83 (by decide) ?_
            refine x_iload_n F dX5_readNumber_102 rfl 2 rfl ?_
            exact hret 0 0 103 _ v9 (i9, f2_80, a2_80) (Nat.le_of_ble_eq_true rfl) (Nat.le_of_ble_eq_true rfl) dX5_readNumber_103 (by (try dsimp only); exact (⟨by rw [← hn_1]; exact hv, by rw [← hn_1]; exact hdz.symm, hb1_80, fun q => ⟨by rw [(hb0_80 q).1, ← hn_1]; exact (if_pos (by omega)).symm, fun q2 => absurd (hb0_80 q).1 (by omega), fun _ => by rw [← hn_1]; exact (hb0_80 q).2⟩, by omega, by by_cases q : vE_fault = 0; (rw [(hb0_80 q).1]; omega); (rw [(hb1_80 q).1]; omega)⟩))
        · -- 36 f
          refine x_iload_n F dX5_readNumber_39 rfl 2 rfl ?_
          refine x_bipush F dX5_readNumber_40 (by decide) ?_
          refine x_imul F dX5_readNumber_42 ?_
          refine x_aload_n F dX5_readNumber_43 rfl 0 rfl ?_
          refine x_get (ci := 5) F hin5 0 rfl rfl 0 (by decide) hw2 rfl dX5_readNumber_44 ?_
          refine x_iload_n F dX5_readNumber_47 rfl 3 rfl ?_
          refine x_callSNi (As := [.ref qE_text, .int (jI i9)]) (st := [.int (jI (v9 * 10))]) F (c_X9_at D kI kJ l qE_text i9 120 fE_text (by omega) (by omega)) ⟨va_cnB 2 F.2.2.2.2.1 gX5_readNumber_X9_at_n102 rfl rfl rfl (nM15 F.2.2.2.2.2.2.2) (F.2.2.2.2.1 _ hw3) (by decide +kernel) ⟨Nat.le_of_ble_eq_true rfl, Nat.le_of_ble_eq_true rfl⟩, F.2.2.2.2.1 _ hw4, trivial⟩ [1] [0] [0, 1] rfl rfl (by decide) (by decide) (by decide) (fun _ => rfl) (by decide) rfl (Nat.le_of_ble_eq_true rfl) dX5_readNumber_48 ⟨Nat.le_of_ble_eq_true rfl, Nat.le_of_ble_eq_true rfl⟩ (fun z48 u48 h48 => ?_)
          try dsimp only at h48
          refine x_ws [(qE, .inr (5, [.ref qE_text, .int (jI vE_size), .int (jI i9), .int (jI vE_fault), .int (jI vE_faultAt), .ref qU, .ref qV])), aI kI qE_text 120 fE_text] rfl ?_
          have he48 := h48
          have he48 := he48.symm
          subst he48
          refine x_iadd F dX5_readNumber_51 ?_
          refine x_bipush F dX5_readNumber_52 (by decide) ?_
          refine x_isub F dX5_readNumber_54 ?_
          refine x_istore_n (lv' := [(0, .ref qE), (1, .int (jI n2_1)), (2, .int (jI (((v9 * 10) + (fE_text i9)) - 48))), (3, .int (jI i9))]) F dX5_readNumber_55 rfl (by decide) [1, 2, 0, 3] rfl ?_
          refine x_aload_n F dX5_readNumber_56 rfl 0 rfl ?_
          refine x_iload_n F dX5_readNumber_57 rfl 3 rfl ?_
          refine x_iconst F dX5_readNumber_58 ?_
          refine x_iadd F dX5_readNumber_59 ?_
          refine x_put (ci := 5) F hin5 tyX5_ok nmX5 0 rfl rfl 2 (by decide) hw0 rfl rfl rfl (show 2 + 1 ≤ _ from Nat.le_of_ble_eq_true rfl) dX5_readNumber_60 [(qE, .inr (5, [.ref qE_text, .int (jI vE_size), .int (jI (i9 + 1)), .int (jI vE_fault), .int (jI vE_faultAt), .ref qU, .ref qV])), aI kI qE_text 120 fE_text] rfl ?_
          refine x_iinc (lv' := [(0, .ref qE), (1, .int (jI n2_1)), (2, .int (jI (((v9 * 10) + (fE_text i9)) - 48))), (3, .int (jI (i9 + 1)))]) (k := 3) F dX5_readNumber_63 rfl (by decide) [1, 2, 3, 0] rfl ?_
          refine x_goto (tgt := 13) F dX5_readNumber_66 (by decide) ?_
          exact ih13 (((v9 * 10) + (fE_text i9)) - 48) (i9 + 1) (by omega) (by rw [nuV_s (by omega), ← hv]) (by rw [← hde]; exact (sc_go (by omega)).symm) (by omega)
  exact lp13 (Int.toNat (vE_size - n2_1) + 1) 0 n2_1 (by omega) ((nuV_0 _ _).symm) rfl (by omega)
