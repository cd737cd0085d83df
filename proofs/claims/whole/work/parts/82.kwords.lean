set_option maxHeartbeats 4000000 in
set_option maxRecDepth 100000 in
theorem c_X5_nameOf (D : va_G) (kI kJ : Nat) (K V : Nat → Nat) (o : Option Nat) (l : Launch) (i : Int) (hi : 0 ≤ i ∧ i ≤ 6) : yMr D kI kJ K V o l yX5_nameOf wsX5_nameOf 1 32 0 0 [.int (jI i)] [] (K i.toNat) [] := by
  refine yMr_of (cc := cX5_nameOf) (maxL := 1) (by decide) rfl (Nat.le_of_ble_eq_true rfl) ?_
  intro p e s m args below meth c A Q F hY hin2 hret
  refine x_lveq (lv' := [(0, .int (jI i))]) rfl ?_
  refine x_iload_n F dX5_nameOf_0 rfl 0 rfl ?_
  by_cases c1_0 : i = 0
  · -- 1 case 0
    refine x_tabIn (tgt := 40) F 0 dX5_nameOf_1 (by decide) c1_0 (by decide) rfl (by decide) ?_
    obtain rfl : i = 0 := by omega
    refine y_ldc F hY 0 (by decide) dX5_nameOf_40 ?_
    exact hret 0 0 42 _ (Nat.le_of_ble_eq_true rfl) (Nat.le_of_ble_eq_true rfl) dX5_nameOf_42
  by_cases c1_1 : i = 1
  · -- 1 case 1
    refine x_tabIn (tgt := 43) F 1 dX5_nameOf_1 (by decide) c1_1 (by decide) rfl (by decide) ?_
    obtain rfl : i = 1 := by omega
    refine y_ldc F hY 1 (by decide) dX5_nameOf_43 ?_
    exact hret 0 0 45 _ (Nat.le_of_ble_eq_true rfl) (Nat.le_of_ble_eq_true rfl) dX5_nameOf_45
  by_cases c1_2 : i = 2
  · -- 1 case 2
    refine x_tabIn (tgt := 46) F 2 dX5_nameOf_1 (by decide) c1_2 (by decide) rfl (by decide) ?_
    obtain rfl : i = 2 := by omega
    refine y_ldc F hY 2 (by decide) dX5_nameOf_46 ?_
    exact hret 0 0 48 _ (Nat.le_of_ble_eq_true rfl) (Nat.le_of_ble_eq_true rfl) dX5_nameOf_48
  by_cases c1_3 : i = 3
  · -- 1 case 3
    refine x_tabIn (tgt := 49) F 3 dX5_nameOf_1 (by decide) c1_3 (by decide) rfl (by decide) ?_
    obtain rfl : i = 3 := by omega
    refine y_ldc F hY 3 (by decide) dX5_nameOf_49 ?_
    exact hret 0 0 51 _ (Nat.le_of_ble_eq_true rfl) (Nat.le_of_ble_eq_true rfl) dX5_nameOf_51
  by_cases c1_4 : i = 4
  · -- 1 case 4
    refine x_tabIn (tgt := 52) F 4 dX5_nameOf_1 (by decide) c1_4 (by decide) rfl (by decide) ?_
    obtain rfl : i = 4 := by omega
    refine y_ldc F hY 4 (by decide) dX5_nameOf_52 ?_
    exact hret 0 0 54 _ (Nat.le_of_ble_eq_true rfl) (Nat.le_of_ble_eq_true rfl) dX5_nameOf_54
  by_cases c1_5 : i = 5
  · -- 1 case 5
    refine x_tabIn (tgt := 55) F 5 dX5_nameOf_1 (by decide) c1_5 (by decide) rfl (by decide) ?_
    obtain rfl : i = 5 := by omega
    refine y_ldc F hY 5 (by decide) dX5_nameOf_55 ?_
    exact hret 0 0 57 _ (Nat.le_of_ble_eq_true rfl) (Nat.le_of_ble_eq_true rfl) dX5_nameOf_57
  refine x_tabOut (tgt := 58) F dX5_nameOf_1 (by omega) (by omega) (by decide) ?_
  obtain rfl : i = 6 := by omega
  refine y_ldc F hY 6 (by decide) dX5_nameOf_58 ?_
  exact hret 0 0 60 _ (Nat.le_of_ble_eq_true rfl) (Nat.le_of_ble_eq_true rfl) dX5_nameOf_60
set_option maxHeartbeats 4000000 in
set_option maxRecDepth 100000 in
theorem c_X5_actOf_0 (D : va_G) (kI kJ : Nat) (K V : Nat → Nat) (o : Option Nat) (l : Launch)   : yMr D kI kJ K V o l yX5_actOf wsX5_actOf 1 32 0 0 [.int (jI 0)] [] (K 7) [] := by
  refine yMr_of (cc := cX5_actOf) (maxL := 1) (by decide) rfl (Nat.le_of_ble_eq_true rfl) ?_
  intro p e s m args below meth c A Q F hY hin2 hret
  refine x_lveq (lv' := [(0, .int (jI 0))]) rfl ?_
  refine x_iload_n F dX5_actOf_0 rfl 0 rfl ?_
  refine x_look (tgt := 28) F dX5_actOf_1 (by decide +kernel) (off := 27) (by decide +kernel) (by decide) ?_
  refine y_ldc F hY 7 (by decide) dX5_actOf_28 ?_
  exact hret 0 0 30 _ (Nat.le_of_ble_eq_true rfl) (Nat.le_of_ble_eq_true rfl) dX5_actOf_30
set_option maxHeartbeats 4000000 in
set_option maxRecDepth 100000 in
theorem c_X5_actOf_1 (D : va_G) (kI kJ : Nat) (K V : Nat → Nat) (o : Option Nat) (l : Launch)   : yMr D kI kJ K V o l yX5_actOf wsX5_actOf 1 32 0 0 [.int (jI 1)] [] (K 8) [] := by
  refine yMr_of (cc := cX5_actOf) (maxL := 1) (by decide) rfl (Nat.le_of_ble_eq_true rfl) ?_
  intro p e s m args below meth c A Q F hY hin2 hret
  refine x_lveq (lv' := [(0, .int (jI 1))]) rfl ?_
  refine x_iload_n F dX5_actOf_0 rfl 0 rfl ?_
  refine x_look (tgt := 31) F dX5_actOf_1 (by decide +kernel) (off := 30) (by decide +kernel) (by decide) ?_
  refine y_ldc F hY 8 (by decide) dX5_actOf_31 ?_
  exact hret 0 0 33 _ (Nat.le_of_ble_eq_true rfl) (Nat.le_of_ble_eq_true rfl) dX5_actOf_33
set_option maxHeartbeats 4000000 in
set_option maxRecDepth 100000 in
theorem c_X5_actOf_2 (D : va_G) (kI kJ : Nat) (K V : Nat → Nat) (o : Option Nat) (l : Launch)   : yMr D kI kJ K V o l yX5_actOf wsX5_actOf 1 32 0 0 [.int (jI 2)] [] (K 9) [] := by
  refine yMr_of (cc := cX5_actOf) (maxL := 1) (by decide) rfl (Nat.le_of_ble_eq_true rfl) ?_
  intro p e s m args below meth c A Q F hY hin2 hret
  refine x_lveq (lv' := [(0, .int (jI 2))]) rfl ?_
  refine x_iload_n F dX5_actOf_0 rfl 0 rfl ?_
  refine x_look (tgt := 34) F dX5_actOf_1 (by decide +kernel) (off := 33) (by decide +kernel) (by decide) ?_
  refine y_ldc F hY 9 (by decide) dX5_actOf_34 ?_
  exact hret 0 0 36 _ (Nat.le_of_ble_eq_true rfl) (Nat.le_of_ble_eq_true rfl) dX5_actOf_36
theorem c_X5_actOf (D : va_G) (kI kJ : Nat) (K V : Nat → Nat) (o : Option Nat) (l : Launch) (i : Int) (hi : 0 ≤ i ∧ i ≤ 2) : yMr D kI kJ K V o l yX5_actOf wsX5_actOf 1 32 0 0 [.int (jI i)] [] (K (i.toNat + 7)) [] := by
  rcases (show i = 0 ∨ i = 1 ∨ i = 2 by omega) with rfl | rfl | rfl
  · exact c_X5_actOf_0 D kI kJ K V o l
  · exact c_X5_actOf_1 D kI kJ K V o l
  · exact c_X5_actOf_2 D kI kJ K V o l
set_option maxHeartbeats 4000000 in
set_option maxRecDepth 100000 in
theorem c_X5_isWord (D : va_G) (kI kJ : Nat) (K V : Nat → Nat) (o : Option Nat) (l : Launch) (qE : Nat) (start : Int) (en : Int) (qE_text : Nat) (vE_size : Int) (vE_next : Int) (vE_fault : Int) (vE_faultAt : Int) (qU : Nat) (qV : Nat) (fE_text : (Int → Int)) (w : Nat) (hEs : 0 ≤ vE_size ∧ vE_size ≤ 120) (hEt : Rg fE_text 120 0 255) (hw : w < 10) (hse : 0 ≤ start ∧ start ≤ en ∧ en ≤ vE_size) : yMi D kI kJ K V o l yX5_isWord wsX5_isWord 5 117 0 0 [.ref qE, .ref (K w), .int (jI start), .int (jI en)] [(qE, .inr (5, [.ref qE_text, .int (jI vE_size), .int (jI vE_next), .int (jI vE_fault), .int (jI vE_faultAt), .ref qU, .ref qV])), aI kI qE_text 120 fE_text] (fun (z : Int) (u : Unit) => xBool z (isW fE_text w start en)) (fun (u : Unit) => [(qE, .inr (5, [.ref qE_text, .int (jI vE_size), .int (jI vE_next), .int (jI vE_fault), .int (jI vE_faultAt), .ref qU, .ref qV])), aI kI qE_text 120 fE_text]) := by
  refine yMi_of (cc := cX5_isWord) (maxL := 5) (rt := .boolean) (by decide) rfl (Nat.le_of_ble_eq_true rfl) (fun z u hp => xBool_nar hp) ?_
  intro p e s m args below meth c A Q F hY hin2 hret
  have hin5 : ∀ w ∈ wsX50, w ∈ wsX5_isWord := by decide +kernel
  have hw0 : Cond.fieldLink RX5 9 (TX5 0).1 (TX5 0).2.1 (TX5 0).2.2.1 ∈ wsX5_isWord := by decide +kernel
  have hw1 : Cond.initialized yX9_at.cls ∈ wsX5_isWord := by decide +kernel
  have hw2 : Cond.static yX9_at ∈ wsX5_isWord := by decide +kernel
  refine x_lveq (lv' := [(0, .ref qE), (1, .ref (K w)), (2, .int (jI start)), (3, .int (jI en))]) rfl ?_
  have hl6 := wLn_rng w
  refine x_aload_n F dX5_isWord_0 rfl 1 rfl ?_
  refine y_callYi (As := []) (st := []) F hY (c_J0_length_8abf5 D kI kJ K V o l w hw) (cwV 0 F.2.2.2.2.1 gX5_isWord_J0_length_8abf5 rfl rfl rfl (by decide +kernel) ⟨Nat.le_of_ble_eq_true rfl, Nat.le_of_ble_eq_true rfl⟩) (i := w) (by omega) rfl rfl [] [0, 1] [0, 1] rfl rfl (by decide) (by decide) (by decide) (fun _ => rfl) (by decide) rfl (Nat.le_of_ble_eq_true rfl) dX5_isWord_1 ⟨Nat.le_of_ble_eq_true rfl, Nat.le_of_ble_eq_true rfl⟩ (fun z1 u1 h1 => ?_)
  try dsimp only at h1
  refine x_ws [(qE, .inr (5, [.ref qE_text, .int (jI vE_size), .int (jI vE_next), .int (jI vE_fault), .int (jI vE_faultAt), .ref qU, .ref qV])), aI kI qE_text 120 fE_text] rfl ?_
  have he1 := h1
  have he1 := he1.symm
  subst he1
  refine x_iload_n F dX5_isWord_4 rfl 3 rfl ?_
  refine x_iload_n F dX5_isWord_5 rfl 2 rfl ?_
  refine x_isub F dX5_isWord_6 ?_
  refine x_icmp_eq (tgt := 12) F dX5_isWord_7 (by decide) (by omega) (fun c7 => ?_) (fun c7 => ?_)
  · -- 7 t
    refine x_iconst F dX5_isWord_12 ?_
    refine x_istore (lv' := [(0, .ref qE), (1, .ref (K w)), (2, .int (jI start)), (3, .int (jI en)), (4, .int (jI 0))]) F dX5_isWord_13 (by decide) [1, 2, 3, 4, 0] rfl ?_
    have lp15 : ∀ (fu : Nat) (i9 : Int) (hi9 : 0 ≤ i9 ∧ i9 ≤ wLn w) (heq : ∀ k : Int, 0 ≤ k → k < i9 → fE_text (start + k) = wCh w k) (hm : wLn w - i9 < (fu : Int)), xG D p l e (xRm 5 117 0 0) s m args below meth c 5 A Q 0 0 [(qE, .inr (5, [.ref qE_text, .int (jI vE_size), .int (jI vE_next), .int (jI vE_fault), .int (jI vE_faultAt), .ref qU, .ref qV])), aI kI qE_text 120 fE_text] [(0, .ref qE), (1, .ref (K w)), (2, .int (jI start)), (3, .int (jI en)), (4, .int (jI i9))] 15 [] := by
      intro fu
      induction fu with
      | zero =>
        intro i9 hi9 heq hm
        exact absurd hm (by omega)
      | succ fu ih15 =>
        intro i9 hi9 heq hm
        refine x_iload F dX5_isWord_15 4 rfl ?_
        refine x_aload_n F dX5_isWord_17 rfl 1 rfl ?_
        refine y_callYi (As := []) (st := [.int (jI i9)]) F hY (c_J0_length_8abf5 D kI kJ K V o l w hw) (cwV 0 F.2.2.2.2.1 gX5_isWord_J0_length_8abf5 rfl rfl rfl (by decide +kernel) ⟨Nat.le_of_ble_eq_true rfl, Nat.le_of_ble_eq_true rfl⟩) (i := w) (by omega) rfl rfl [] [0, 1] [0, 1] rfl rfl (by decide) (by decide) (by decide) (fun _ => rfl) (by decide) rfl (Nat.le_of_ble_eq_true rfl) dX5_isWord_18 ⟨Nat.le_of_ble_eq_true rfl, Nat.le_of_ble_eq_true rfl⟩ (fun z18 u18 h18 => ?_)
        try dsimp only at h18
        refine x_ws [(qE, .inr (5, [.ref qE_text, .int (jI vE_size), .int (jI vE_next), .int (jI vE_fault), .int (jI vE_faultAt), .ref qU, .ref qV])), aI kI qE_text 120 fE_text] rfl ?_
        have he18 := h18
        have he18 := he18.symm
        subst he18
        refine x_icmp_ge (tgt := 52) F dX5_isWord_21 (by decide) (by omega) (fun c21 => ?_) (fun c21 => ?_)
        · -- 21 t
          refine x_iconst F dX5_isWord_52 ?_
          exact hret 0 0 53 _ 1 () (Nat.le_of_ble_eq_true rfl) (Nat.le_of_ble_eq_true rfl) dX5_isWord_53 (xBool_t ⟨by omega, fun k h1 h2 => heq k h1 (by omega)⟩)
        · -- 21 f
          refine x_aload_n F dX5_isWord_24 rfl 0 rfl ?_
          refine x_get (ci := 5) F hin5 0 rfl rfl 0 (by decide) hw0 rfl dX5_isWord_25 ?_
          refine x_iload_n F dX5_isWord_28 rfl 2 rfl ?_
          refine x_iload F dX5_isWord_29 4 rfl ?_
          refine x_iadd F dX5_isWord_31 ?_
          refine x_callSNi (As := [.ref qE_text, .int (jI (start + i9))]) (st := []) F (c_X9_at D kI kJ l qE_text (start + i9) 120 fE_text (by omega) (by omega)) ⟨va_cnB 2 F.2.2.2.2.1 gX5_isWord_X9_at_n102 rfl rfl rfl (nM15 F.2.2.2.2.2.2.2) (F.2.2.2.2.1 _ hw1) (by decide +kernel) ⟨Nat.le_of_ble_eq_true rfl, Nat.le_of_ble_eq_true rfl⟩, F.2.2.2.2.1 _ hw2, trivial⟩ [1] [0] [0, 1] rfl rfl (by decide) (by decide) (by decide) (fun _ => rfl) (by decide) rfl (Nat.le_of_ble_eq_true rfl) dX5_isWord_32 ⟨Nat.le_of_ble_eq_true rfl, Nat.le_of_ble_eq_true rfl⟩ (fun z32 u32 h32 => ?_)
          try dsimp only at h32
          refine x_ws [(qE, .inr (5, [.ref qE_text, .int (jI vE_size), .int (jI vE_next), .int (jI vE_fault), .int (jI vE_faultAt), .ref qU, .ref qV])), aI kI qE_text 120 fE_text] rfl ?_
          have he32 := h32
          have he32 := he32.symm
          subst he32
          refine x_aload_n F dX5_isWord_35 rfl 1 rfl ?_
          refine x_iload F dX5_isWord_36 4 rfl ?_
          refine y_callYi (As := [.int (jI i9)]) (st := [.int (jI (fE_text (start + i9)))]) F hY (c_J0_charAt_5068e D kI kJ K V o l i9 w hw (by omega)) (cwV 1 F.2.2.2.2.1 gX5_isWord_J0_charAt_5068e rfl rfl rfl (by decide +kernel) ⟨Nat.le_of_ble_eq_true rfl, Nat.le_of_ble_eq_true rfl⟩) (i := w) (by omega) rfl rfl [] [0, 1] [0, 1] rfl rfl (by decide) (by decide) (by decide) (fun _ => rfl) (by decide) rfl (Nat.le_of_ble_eq_true rfl) dX5_isWord_38 ⟨Nat.le_of_ble_eq_true rfl, Nat.le_of_ble_eq_true rfl⟩ (fun z38 u38 h38 => ?_)
          try dsimp only at h38
          refine x_ws [(qE, .inr (5, [.ref qE_text, .int (jI vE_size), .int (jI vE_next), .int (jI vE_fault), .int (jI vE_faultAt), .ref qU, .ref qV])), aI kI qE_text 120 fE_text] rfl ?_
          have he38 := h38
          have he38 := he38.symm
          subst he38
          have hwc := wCh_rng w (k := i9) hw (by omega)
          have htx := Rg.at hEt (start + i9) (by omega)
          refine x_icmp_eq (tgt := 46) F dX5_isWord_41 (by decide) (by omega) (fun c41 => ?_) (fun c41 => ?_)
          · -- 41 t
            refine x_iinc (lv' := [(0, .ref qE), (1, .ref (K w)), (2, .int (jI start)), (3, .int (jI en)), (4, .int (jI (i9 + 1)))]) (k := 4) F dX5_isWord_46 rfl (by decide) [1, 2, 3, 4, 0] rfl ?_
            refine x_goto (tgt := 15) F dX5_isWord_49 (by decide) ?_
            exact ih15 (i9 + 1) (by omega) (fun k h1 h2 => by by_cases e : k = i9; (rw [e]; exact c41); (exact heq k h1 (by omega))) (by omega)
          · -- 41 f
            refine x_iconst F dX5_isWord_44 ?_
            exact hret 0 0 45 _ 0 () (Nat.le_of_ble_eq_true rfl) (Nat.le_of_ble_eq_true rfl) dX5_isWord_45 (xBool_f (fun q => c41 (q.2 i9 (by omega) (by omega))))
    exact lp15 (Int.toNat (wLn w - 0) + 1) 0 (by omega) (fun k h1 h2 => by omega) (by omega)
  · -- 7 f
    refine x_iconst F dX5_isWord_10 ?_
    exact hret 0 0 11 _ 0 () (Nat.le_of_ble_eq_true rfl) (Nat.le_of_ble_eq_true rfl) dX5_isWord_11 (xBool_f (fun q => c7 (by have := q.1; omega)))
set_option maxHeartbeats 4000000 in
set_option maxRecDepth 100000 in
theorem c_X5_readName (D : va_G) (kI kJ : Nat) (K V : Nat → Nat) (o : Option Nat) (l : Launch) (qE : Nat) (qE_text : Nat) (vE_size : Int) (vE_next : Int) (vE_fault : Int) (vE_faultAt : Int) (qU : Nat) (qV : Nat) (fE_text : (Int → Int)) (hEs : 0 ≤ vE_size ∧ vE_size ≤ 120) (hEt : Rg fE_text 120 0 255) (hnx : 0 ≤ vE_next ∧ vE_next ≤ vE_size) (hEf : 0 ≤ vE_fault ∧ vE_fault ≤ 4) : yMi D kI kJ K V o l yX5_readName wsX5_readName 6 141 0 0 [.ref qE] [(qE, .inr (5, [.ref qE_text, .int (jI vE_size), .int (jI vE_next), .int (jI vE_fault), .int (jI vE_faultAt), .ref qU, .ref qV])), aI kI qE_text 120 fE_text] (fun (z : Int) (u : Int × Int × Int) => z = (nmI fE_text (vE_next) (wde fE_text vE_size (vE_next))) ∧ ((nmI fE_text (vE_next) (wde fE_text vE_size (vE_next))) < 0 → u.1 = vE_next) ∧ (0 ≤ (nmI fE_text (vE_next) (wde fE_text vE_size (vE_next))) → u.1 = wde fE_text vE_size (vE_next)) ∧ (0 ≤ (nmI fE_text (vE_next) (wde fE_text vE_size (vE_next))) → u.2.1 = vE_fault ∧ u.2.2 = vE_faultAt) ∧ ((nmI fE_text (vE_next) (wde fE_text vE_size (vE_next))) < 0 → (vE_fault = 0 → u.2.1 = 1 ∧ u.2.2 = (vE_next)) ∧ (¬ vE_fault = 0 → u.2.1 = vE_fault ∧ u.2.2 = vE_faultAt)) ∧ (0 ≤ u.1 ∧ u.1 ≤ vE_size) ∧ (0 ≤ u.2.1 ∧ u.2.1 ≤ 4)) (fun (u : Int × Int × Int) => [(qE, .inr (5, [.ref qE_text, .int (jI vE_size), .int (jI u.1), .int (jI u.2.1), .int (jI u.2.2), .ref qU, .ref qV])), aI kI qE_text 120 fE_text]) := by
  refine yMi_of (cc := cX5_readName) (maxL := 4) (rt := .int) (by decide) rfl (Nat.le_of_ble_eq_true rfl) (fun _ _ _ => rfl) ?_
  intro p e s m args below meth c A Q F hY hin2 hret
  have hin5 : ∀ w ∈ wsX50, w ∈ wsX5_readName := by decide +kernel
  have hw0 : Cond.fieldLink RX5 38 (TX5 2).1 (TX5 2).2.1 (TX5 2).2.2.1 ∈ wsX5_readName := by decide +kernel
  refine x_lveq (lv' := [(0, .ref qE)]) rfl ?_
  refine x_aload_n F dX5_readName_0 rfl 0 rfl ?_
  refine x_get (ci := 5) F hin5 0 rfl rfl 2 (by decide) hw0 rfl dX5_readName_1 ?_
  refine x_istore_n (lv' := [(0, .ref qE), (1, .int (jI vE_next))]) F dX5_readName_4 rfl (by decide) [1, 0] rfl ?_
  refine x_aload_n F dX5_readName_5 rfl 0 rfl ?_
  refine x_callVi (ci := 5) (q0 := 0) (As := []) (st := []) F (c_X5_findWordEnd D kI kJ l qE qE_text vE_size vE_next vE_fault vE_faultAt qU qV fE_text hEs hEt hnx) (cwV 0 F.2.2.2.2.1 gX5_readName_X5_findWordEnd rfl rfl rfl (by decide +kernel) ⟨Nat.le_of_ble_eq_true rfl, Nat.le_of_ble_eq_true rfl⟩) rfl rfl [0, 1] [] [0, 1] rfl rfl (by decide) (by decide) (by decide) (fun _ => rfl) (by decide) rfl (Nat.le_of_ble_eq_true rfl) dX5_readName_6 ⟨Nat.le_of_ble_eq_true rfl, Nat.le_of_ble_eq_true rfl⟩ (fun z6 u6 h6 => ?_)
  try dsimp only at h6
  refine x_ws [(qE, .inr (5, [.ref qE_text, .int (jI vE_size), .int (jI vE_next), .int (jI vE_fault), .int (jI vE_faultAt), .ref qU, .ref qV])), aI kI qE_text 120 fE_text] rfl ?_
  have he6 := h6
  have he6 := he6.symm
  subst he6
  have hwr := wde_rng (tx := fE_text) (sz := vE_size) hnx
  refine x_istore_n (lv' := [(0, .ref qE), (1, .int (jI vE_next)), (2, .int (jI (wde fE_text vE_size vE_next)))]) F dX5_readName_9 rfl (by decide) [1, 2, 0] rfl ?_
  refine x_iconst F dX5_readName_10 ?_
  refine x_istore_n (lv' := [(0, .ref qE), (1, .int (jI vE_next)), (2, .int (jI (wde fE_text vE_size vE_next))), (3, .int (jI 0))]) F dX5_readName_11 rfl (by decide) [1, 2, 3, 0] rfl ?_
  have lp12 : ∀ (fu : Nat) (i9 : Int) (hi9 : 0 ≤ i9 ∧ i9 ≤ 7) (hno : ∀ j : Nat, (j : Int) < i9 → ¬ isW fE_text (j + 0) (vE_next) (wde fE_text vE_size (vE_next))) (hm : 7 - i9 < (fu : Int)), xG D p l e (xRm 6 141 0 0) s m args below meth c 4 A Q 0 0 [(qE, .inr (5, [.ref qE_text, .int (jI vE_size), .int (jI vE_next), .int (jI vE_fault), .int (jI vE_faultAt), .ref qU, .ref qV])), aI kI qE_text 120 fE_text] [(0, .ref qE), (1, .int (jI vE_next)), (2, .int (jI (wde fE_text vE_size vE_next))), (3, .int (jI i9))] 12 [] := by
    intro fu
    induction fu with
    | zero =>
      intro i9 hi9 hno hm
      exact absurd hm (by omega)
    | succ fu ih12 =>
      intro i9 hi9 hno hm
      refine x_iload_n F dX5_readName_12 rfl 3 rfl ?_
      refine x_bipush F dX5_readName_13 (by decide) ?_
      refine x_icmp_ge (tgt := 44) F dX5_readName_15 (by decide) (by omega) (fun c15 => ?_) (fun c15 => ?_)
      · -- 15 t
        refine x_aload_n F dX5_readName_44 rfl 0 rfl ?_
        refine x_iconst F dX5_readName_45 ?_
        refine x_iload_n F dX5_readName_46 rfl 1 rfl ?_
        refine x_callVv (ci := 5) (q0 := 0) (As := [.int (jI 1), .int (jI vE_next)]) (st := []) F (c_X5_blame D kI kJ l qE 1 vE_next qE_text vE_size vE_next vE_fault vE_faultAt qU qV hEf) (cwV 2 F.2.2.2.2.1 gX5_readName_X5_blame rfl rfl rfl (by decide +kernel) ⟨Nat.le_of_ble_eq_true rfl, Nat.le_of_ble_eq_true rfl⟩) rfl rfl [0] [1] [1, 0] rfl rfl (by decide) (by decide) (by decide) (fun _ => rfl) (by decide) rfl (Nat.le_of_ble_eq_true rfl) dX5_readName_47 ⟨Nat.le_of_ble_eq_true rfl, Nat.le_of_ble_eq_true rfl⟩ (fun u47 h47 => ?_)
        obtain ⟨f2_47, a2_47⟩ := u47
        try dsimp only at h47
        refine x_ws [(qE, .inr (5, [.ref qE_text, .int (jI vE_size), .int (jI vE_next), .int (jI f2_47), .int (jI a2_47), .ref qU, .ref qV])), aI kI qE_text 120 fE_text] rfl ?_
        obtain ⟨hb0_47, hb1_47⟩ := h47
        refine x_iconst F dX5_readName_50 ?_
        exact hret 0 0 51 _ (-1) (vE_next, f2_47, a2_47) (Nat.le_of_ble_eq_true rfl) (Nat.le_of_ble_eq_true rfl) dX5_readName_51 (by (try dsimp only); exact (have hz := nmI_none (tx := fE_text) (s := vE_next) (e := wde fE_text vE_size vE_next) (fun j hj => hno j (by omega)); ⟨hz.symm, fun _ => rfl, fun q => absurd q (by omega), fun q => absurd q (by omega), fun _ => ⟨hb0_47, hb1_47⟩, by omega, by by_cases q : vE_fault = 0; (rw [(hb0_47 q).1]; omega); (rw [(hb1_47 q).1]; omega)⟩))
      · -- 15 f
        refine x_aload_n F dX5_readName_18 rfl 0 rfl ?_
        refine x_iload_n F dX5_readName_19 rfl 3 rfl ?_
        refine y_callSr (As := [.int (jI i9)]) (st := [.ref qE]) F hY (c_X5_nameOf D kI kJ K V o l i9 (by omega)) (va_cwS 1 F.2.2.2.2.1 gX5_readName_X5_nameOf rfl rfl rfl (by decide +kernel) ⟨Nat.le_of_ble_eq_true rfl, Nat.le_of_ble_eq_true rfl⟩) [] [0, 1] [0, 1] rfl rfl (by decide) (by decide) (by decide) rfl (by decide) rfl (Nat.le_of_ble_eq_true rfl) dX5_readName_20 ⟨Nat.le_of_ble_eq_true rfl, Nat.le_of_ble_eq_true rfl⟩ ?_
        refine x_ws [(qE, .inr (5, [.ref qE_text, .int (jI vE_size), .int (jI vE_next), .int (jI vE_fault), .int (jI vE_faultAt), .ref qU, .ref qV])), aI kI qE_text 120 fE_text] rfl ?_
        refine x_iload_n F dX5_readName_23 rfl 1 rfl ?_
        refine x_iload_n F dX5_readName_24 rfl 2 rfl ?_
        refine y_callVi (ci := 5) (q0 := 0) (As := [.ref (K i9.toNat), .int (jI vE_next), .int (jI (wde fE_text vE_size vE_next))]) (st := []) F hY (c_X5_isWord D kI kJ K V o l qE vE_next (wde fE_text vE_size vE_next) qE_text vE_size vE_next vE_fault vE_faultAt qU qV fE_text i9.toNat hEs hEt (by omega) (by omega)) (cwV 3 F.2.2.2.2.1 gX5_readName_X5_isWord rfl rfl rfl (by decide +kernel) ⟨Nat.le_of_ble_eq_true rfl, Nat.le_of_ble_eq_true rfl⟩) rfl rfl [0, 1] [] [0, 1] rfl rfl (by decide) (by decide) (by decide) (fun _ => rfl) (by decide) rfl (Nat.le_of_ble_eq_true rfl) dX5_readName_25 ⟨Nat.le_of_ble_eq_true rfl, Nat.le_of_ble_eq_true rfl⟩ (fun z25 u25 h25 => ?_)
        try dsimp only at h25
        refine x_ws [(qE, .inr (5, [.ref qE_text, .int (jI vE_size), .int (jI vE_next), .int (jI vE_fault), .int (jI vE_faultAt), .ref qU, .ref qV])), aI kI qE_text 120 fE_text] rfl ?_
        have hb25 := h25
        refine x_beq (tgt := 38) F dX5_readName_28 (by decide) hb25 (fun c28 => ?_) (fun c28 => ?_)
        · -- 28 t
          refine x_iinc (lv' := [(0, .ref qE), (1, .int (jI vE_next)), (2, .int (jI (wde fE_text vE_size vE_next))), (3, .int (jI (i9 + 1)))]) (k := 3) F dX5_readName_38 rfl (by decide) [1, 2, 3, 0] rfl ?_
          refine x_goto (tgt := 12) F dX5_readName_41 (by decide) ?_
          exact ih12 (i9 + 1) (by omega) (fun j h1 => by by_cases e : (j : Int) = i9; (rw [show j = i9.toNat by omega]; exact c28); (exact hno j (by omega))) (by omega)
        · -- 28 f
          refine x_aload_n F dX5_readName_31 rfl 0 rfl ?_
          refine x_iload_n F dX5_readName_32 rfl 2 rfl ?_
          refine x_put (ci := 5) F hin5 tyX5_ok nmX5 0 rfl rfl 2 (by decide) hw0 rfl rfl rfl (show 2 + 1 ≤ _ from Nat.le_of_ble_eq_true rfl) dX5_readName_33 [(qE, .inr (5, [.ref qE_text, .int (jI vE_size), .int (jI (wde fE_text vE_size vE_next)), .int (jI vE_fault), .int (jI vE_faultAt), .ref qU, .ref qV])), aI kI qE_text 120 fE_text] rfl ?_
          refine x_iload_n F dX5_readName_36 rfl 3 rfl ?_
          exact hret 0 0 37 _ i9 (wde fE_text vE_size vE_next, vE_fault, vE_faultAt) (Nat.le_of_ble_eq_true rfl) (Nat.le_of_ble_eq_true rfl) dX5_readName_37 (by (try dsimp only); exact (have hz := nmI_hit (tx := fE_text) (s := vE_next) (e := wde fE_text vE_size vE_next) (i := i9) (by omega) hno c28; ⟨hz.symm, fun q => absurd q (by omega), fun _ => rfl, fun _ => ⟨rfl, rfl⟩, fun q => absurd q (by omega), by omega, by omega⟩))
  exact lp12 (Int.toNat (7 - 0) + 1) 0 (by omega) (fun j h1 => by omega) (by omega)
set_option maxHeartbeats 4000000 in
set_option maxRecDepth 100000 in
theorem c_X5_readAct (D : va_G) (kI kJ : Nat) (K V : Nat → Nat) (o : Option Nat) (l : Launch) (qE : Nat) (qE_text : Nat) (vE_size : Int) (vE_next : Int) (vE_fault : Int) (vE_faultAt : Int) (qU : Nat) (qV : Nat) (fE_text : (Int → Int)) (hEs : 0 ≤ vE_size ∧ vE_size ≤ 120) (hEt : Rg fE_text 120 0 255) (hnx : 0 ≤ vE_next ∧ vE_next ≤ vE_size) (hEf : 0 ≤ vE_fault ∧ vE_fault ≤ 4) : yMi D kI kJ K V o l yX5_readAct wsX5_readAct 6 141 0 0 [.ref qE] [(qE, .inr (5, [.ref qE_text, .int (jI vE_size), .int (jI vE_next), .int (jI vE_fault), .int (jI vE_faultAt), .ref qU, .ref qV])), aI kI qE_text 120 fE_text] (fun (z : Int) (u : Int × Int × Int) => z = (acI fE_text (skp fE_text vE_size vE_next) (wde fE_text vE_size (skp fE_text vE_size vE_next))) ∧ ((acI fE_text (skp fE_text vE_size vE_next) (wde fE_text vE_size (skp fE_text vE_size vE_next))) < 0 → u.1 = skp fE_text vE_size vE_next) ∧ (0 ≤ (acI fE_text (skp fE_text vE_size vE_next) (wde fE_text vE_size (skp fE_text vE_size vE_next))) → u.1 = wde fE_text vE_size (skp fE_text vE_size vE_next)) ∧ (0 ≤ (acI fE_text (skp fE_text vE_size vE_next) (wde fE_text vE_size (skp fE_text vE_size vE_next))) → u.2.1 = vE_fault ∧ u.2.2 = vE_faultAt) ∧ ((acI fE_text (skp fE_text vE_size vE_next) (wde fE_text vE_size (skp fE_text vE_size vE_next))) < 0 → (vE_fault = 0 → u.2.1 = 1 ∧ u.2.2 = (skp fE_text vE_size vE_next)) ∧ (¬ vE_fault = 0 → u.2.1 = vE_fault ∧ u.2.2 = vE_faultAt)) ∧ (0 ≤ u.1 ∧ u.1 ≤ vE_size) ∧ (0 ≤ u.2.1 ∧ u.2.1 ≤ 4)) (fun (u : Int × Int × Int) => [(qE, .inr (5, [.ref qE_text, .int (jI vE_size), .int (jI u.1), .int (jI u.2.1), .int (jI u.2.2), .ref qU, .ref qV])), aI kI qE_text 120 fE_text]) := by
  refine yMi_of (cc := cX5_readAct) (maxL := 4) (rt := .int) (by decide) rfl (Nat.le_of_ble_eq_true rfl) (fun _ _ _ => rfl) ?_
  intro p e s m args below meth c A Q F hY hin2 hret
  have hin5 : ∀ w ∈ wsX50, w ∈ wsX5_readAct := by decide +kernel
  have hw0 : Cond.fieldLink RX5 38 (TX5 2).1 (TX5 2).2.1 (TX5 2).2.2.1 ∈ wsX5_readAct := by decide +kernel
  refine x_lveq (lv' := [(0, .ref qE)]) rfl ?_
  refine x_aload_n F dX5_readAct_0 rfl 0 rfl ?_
  refine x_callVv (ci := 5) (q0 := 0) (As := []) (st := []) F (c_X5_skipBlanks D kI kJ l qE qE_text vE_size vE_next vE_fault vE_faultAt qU qV fE_text hEs hEt hnx) (cwV 0 F.2.2.2.2.1 gX5_readAct_X5_skipBlanks rfl rfl rfl (by decide +kernel) ⟨Nat.le_of_ble_eq_true rfl, Nat.le_of_ble_eq_true rfl⟩) rfl rfl [0, 1] [] [0, 1] rfl rfl (by decide) (by decide) (by decide) (fun _ => rfl) (by decide) rfl (Nat.le_of_ble_eq_true rfl) dX5_readAct_1 ⟨Nat.le_of_ble_eq_true rfl, Nat.le_of_ble_eq_true rfl⟩ (fun u1 h1 => ?_)
  obtain ⟨n2_1, rfl⟩ : ∃ z, z = u1 := ⟨_, rfl⟩
  try dsimp only at h1
  refine x_ws [(qE, .inr (5, [.ref qE_text, .int (jI vE_size), .int (jI n2_1), .int (jI vE_fault), .int (jI vE_faultAt), .ref qU, .ref qV])), aI kI qE_text 120 fE_text] rfl ?_
  have hn_1 := h1
  have hsr := skp_rng (tx := fE_text) (sz := vE_size) hnx
  rw [← hn_1] at hsr
  refine x_aload_n F dX5_readAct_4 rfl 0 rfl ?_
  refine x_get (ci := 5) F hin5 0 rfl rfl 2 (by decide) hw0 rfl dX5_readAct_5 ?_
  refine x_istore_n (lv' := [(0, .ref qE), (1, .int (jI n2_1))]) F dX5_readAct_8 rfl (by decide) [1, 0] rfl ?_
  refine x_aload_n F dX5_readAct_9 rfl 0 rfl ?_
  refine x_callVi (ci := 5) (q0 := 0) (As := []) (st := []) F (c_X5_findWordEnd D kI kJ l qE qE_text vE_size n2_1 vE_fault vE_faultAt qU qV fE_text hEs hEt (by omega)) (cwV 0 F.2.2.2.2.1 gX5_readAct_X5_findWordEnd rfl rfl rfl (by decide +kernel) ⟨Nat.le_of_ble_eq_true rfl, Nat.le_of_ble_eq_true rfl⟩) rfl rfl [0, 1] [] [0, 1] rfl rfl (by decide) (by decide) (by decide) (fun _ => rfl) (by decide) rfl (Nat.le_of_ble_eq_true rfl) dX5_readAct_10 ⟨Nat.le_of_ble_eq_true rfl, Nat.le_of_ble_eq_true rfl⟩ (fun z10 u10 h10 => ?_)
  try dsimp only at h10
  refine x_ws [(qE, .inr (5, [.ref qE_text, .int (jI vE_size), .int (jI n2_1), .int (jI vE_fault), .int (jI vE_faultAt), .ref qU, .ref qV])), aI kI qE_text 120 fE_text] rfl ?_
  have he10 := h10
  have he10 := he10.symm
  subst he10
  have hwr := wde_rng (tx := fE_text) (sz := vE_size) (i := n2_1) (by omega)
  refine x_istore_n (lv' := [(0, .ref qE), (1, .int (jI n2_1)), (2, .int (jI (wde fE_text vE_size n2_1)))]) F dX5_readAct_13 rfl (by decide) [1, 2, 0] rfl ?_
  refine x_iconst F dX5_readAct_14 ?_
  refine x_istore_n (lv' := [(0, .ref qE), (1, .int (jI n2_1)), (2, .int (jI (wde fE_text vE_size n2_1))), (3, .int (jI 0))]) F dX5_readAct_15 rfl (by decide) [1, 2, 3, 0] rfl ?_
  have lp16 : ∀ (fu : Nat) (i9 : Int) (hi9 : 0 ≤ i9 ∧ i9 ≤ 3) (hno : ∀ j : Nat, (j : Int) < i9 → ¬ isW fE_text (j + 7) (n2_1) (wde fE_text vE_size (n2_1))) (hm : 3 - i9 < (fu : Int)), xG D p l e (xRm 6 141 0 0) s m args below meth c 4 A Q 0 0 [(qE, .inr (5, [.ref qE_text, .int (jI vE_size), .int (jI n2_1), .int (jI vE_fault), .int (jI vE_faultAt), .ref qU, .ref qV])), aI kI qE_text 120 fE_text] [(0, .ref qE), (1, .int (jI n2_1)), (2, .int (jI (wde fE_text vE_size n2_1))), (3, .int (jI i9))] 16 [] := by
    intro fu
    induction fu with
    | zero =>
      intro i9 hi9 hno hm
      exact absurd hm (by omega)
    | succ fu ih16 =>
      intro i9 hi9 hno hm
      refine x_iload_n F dX5_readAct_16 rfl 3 rfl ?_
      refine x_iconst F dX5_readAct_17 ?_
      refine x_icmp_ge (tgt := 47) F dX5_readAct_18 (by decide) (by omega) (fun c18 => ?_) (fun c18 => ?_)
      · -- 18 t
        refine x_aload_n F dX5_readAct_47 rfl 0 rfl ?_
        refine x_iconst F dX5_readAct_48 ?_
        refine x_iload_n F dX5_readAct_49 rfl 1 rfl ?_
        refine x_callVv (ci := 5) (q0 := 0) (As := [.int (jI 1), .int (jI n2_1)]) (st := []) F (c_X5_blame D kI kJ l qE 1 n2_1 qE_text vE_size n2_1 vE_fault vE_faultAt qU qV hEf) (cwV 2 F.2.2.2.2.1 gX5_readAct_X5_blame rfl rfl rfl (by decide +kernel) ⟨Nat.le_of_ble_eq_true rfl, Nat.le_of_ble_eq_true rfl⟩) rfl rfl [0] [1] [1, 0] rfl rfl (by decide) (by decide) (by decide) (fun _ => rfl) (by decide) rfl (Nat.le_of_ble_eq_true rfl) dX5_readAct_50 ⟨Nat.le_of_ble_eq_true rfl, Nat.le_of_ble_eq_true rfl⟩ (fun u50 h50 => ?_)
        obtain ⟨f2_50, a2_50⟩ := u50
        try dsimp only at h50
        refine x_ws [(qE, .inr (5, [.ref qE_text, .int (jI vE_size), .int (jI n2_1), .int (jI f2_50), .int (jI a2_50), .ref qU, .ref qV])), aI kI qE_text 120 fE_text] rfl ?_
        obtain ⟨hb0_50, hb1_50⟩ := h50
        refine x_iconst F dX5_readAct_53 ?_
        exact hret 0 0 54 _ (-1) (n2_1, f2_50, a2_50) (Nat.le_of_ble_eq_true rfl) (Nat.le_of_ble_eq_true rfl) dX5_readAct_54 (by (try dsimp only); exact (have hz := acI_none (tx := fE_text) (s := n2_1) (e := wde fE_text vE_size n2_1) (fun j hj => hno j (by omega)); by rw [← hn_1]; exact ⟨hz.symm, fun _ => rfl, fun q => absurd q (by omega), fun q => absurd q (by omega), fun _ => ⟨hb0_50, hb1_50⟩, by omega, by by_cases q : vE_fault = 0; (rw [(hb0_50 q).1]; omega); (rw [(hb1_50 q).1]; omega)⟩))
      · -- 18 f
        refine x_aload_n F dX5_readAct_21 rfl 0 rfl ?_
        refine x_iload_n F dX5_readAct_22 rfl 3 rfl ?_
        refine y_callSr (As := [.int (jI i9)]) (st := [.ref qE]) F hY (c_X5_actOf D kI kJ K V o l i9 (by omega)) (va_cwS 1 F.2.2.2.2.1 gX5_readAct_X5_actOf rfl rfl rfl (by decide +kernel) ⟨Nat.le_of_ble_eq_true rfl, Nat.le_of_ble_eq_true rfl⟩) [] [0, 1] [0, 1] rfl rfl (by decide) (by decide) (by decide) rfl (by decide) rfl (Nat.le_of_ble_eq_true rfl) dX5_readAct_23 ⟨Nat.le_of_ble_eq_true rfl, Nat.le_of_ble_eq_true rfl⟩ ?_
        refine x_ws [(qE, .inr (5, [.ref qE_text, .int (jI vE_size), .int (jI n2_1), .int (jI vE_fault), .int (jI vE_faultAt), .ref qU, .ref qV])), aI kI qE_text 120 fE_text] rfl ?_
        refine x_iload_n F dX5_readAct_26 rfl 1 rfl ?_
        refine x_iload_n F dX5_readAct_27 rfl 2 rfl ?_
        refine y_callVi (ci := 5) (q0 := 0) (As := [.ref (K (i9.toNat + 7)), .int (jI n2_1), .int (jI (wde fE_text vE_size n2_1))]) (st := []) F hY (c_X5_isWord D kI kJ K V o l qE n2_1 (wde fE_text vE_size n2_1) qE_text vE_size n2_1 vE_fault vE_faultAt qU qV fE_text (i9.toNat + 7) hEs hEt (by omega) (by omega)) (cwV 3 F.2.2.2.2.1 gX5_readAct_X5_isWord rfl rfl rfl (by decide +kernel) ⟨Nat.le_of_ble_eq_true rfl, Nat.le_of_ble_eq_true rfl⟩) rfl rfl [0, 1] [] [0, 1] rfl rfl (by decide) (by decide) (by decide) (fun _ => rfl) (by decide) rfl (Nat.le_of_ble_eq_true rfl) dX5_readAct_28 ⟨Nat.le_of_ble_eq_true rfl, Nat.le_of_ble_eq_true rfl⟩ (fun z28 u28 h28 => ?_)
        try dsimp only at h28
        refine x_ws [(qE, .inr (5, [.ref qE_text, .int (jI vE_size), .int (jI n2_1), .int (jI vE_fault), .int (jI vE_faultAt), .ref qU, .ref qV])), aI kI qE_text 120 fE_text] rfl ?_
        have hb28 := h28
        refine x_beq (tgt := 41) F dX5_readAct_31 (by decide) hb28 (fun c31 => ?_) (fun c31 => ?_)
        · -- 31 t
          refine x_iinc (lv' := [(0, .ref qE), (1, .int (jI n2_1)), (2, .int (jI (wde fE_text vE_size n2_1))), (3, .int (jI (i9 + 1)))]) (k := 3) F dX5_readAct_41 rfl (by decide) [1, 2, 3, 0] rfl ?_
          refine x_goto (tgt := 16) F dX5_readAct_44 (by decide) ?_
          exact ih16 (i9 + 1) (by omega) (fun j h1 => by by_cases e : (j : Int) = i9; (rw [show j = i9.toNat by omega]; exact c31); (exact hno j (by omega))) (by omega)
        · -- 31 f
          refine x_aload_n F dX5_readAct_34 rfl 0 rfl ?_
          refine x_iload_n F dX5_readAct_35 rfl 2 rfl ?_
          refine x_put (ci := 5) F hin5 tyX5_ok nmX5 0 rfl rfl 2 (by decide) hw0 rfl rfl rfl (show 2 + 1 ≤ _ from Nat.le_of_ble_eq_true rfl) dX5_readAct_36 [(qE, .inr (5, [.ref qE_text, .int (jI vE_size), .int (jI (wde fE_text vE_size n2_1)), .int (jI vE_fault), .int (jI vE_faultAt), .ref qU, .ref qV])), aI kI qE_text 120 fE_text] rfl ?_
          refine x_iload_n F dX5_readAct_39 rfl 3 rfl ?_
          exact hret 0 0 40 _ i9 (wde fE_text vE_size n2_1, vE_fault, vE_faultAt) (Nat.le_of_ble_eq_true rfl) (Nat.le_of_ble_eq_true rfl) dX5_readAct_40 (by (try dsimp only); exact (have hz := acI_hit (tx := fE_text) (s := n2_1) (e := wde fE_text vE_size n2_1) (i := i9) (by omega) hno c31; by rw [← hn_1]; exact ⟨hz.symm, fun q => absurd q (by omega), fun _ => rfl, fun _ => ⟨rfl, rfl⟩, fun q => absurd q (by omega), by omega, by omega⟩))
  exact lp16 (Int.toNat (3 - 0) + 1) 0 (by omega) (fun j h1 => by omega) (by omega)
