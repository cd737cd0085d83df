set_option maxHeartbeats 4000000 in
set_option maxRecDepth 100000 in
theorem c_X1_reduce (D : va_G) (kI kJ : Nat) (l : Launch) (qFr : Nat) (vFr_upper : Int) (vFr_lower : Int) (hFl : 0 < vFr_lower ∧ vFr_lower < 4611686018427387904) (hFu : -4611686018427387904 < vFr_upper ∧ vFr_upper < 4611686018427387904) : xMv D kI kJ l yX1_reduce wsX1_reduce 1 64 0 0 [.ref qFr] [(qFr, .inr (1, [.long (jL vFr_upper), .long (jL vFr_lower)]))] (fun (u : Unit) => True) (fun (u : Unit) => [(qFr, .inr (1, [.long (jL (nU vFr_upper vFr_lower)), .long (jL (nL vFr_upper vFr_lower))]))]) := by
  refine xMv_of (cc := cX1_reduce) (maxL := 8) (by decide) rfl (Nat.le_of_ble_eq_true rfl) ?_
  intro p e s m args below meth c A Q F hin2 hret
  have hin1 : ∀ w ∈ wsX10, w ∈ wsX1_reduce := by decide +kernel
  have hw0 : Cond.fieldLink RX1 13 (TX1 0).1 (TX1 0).2.1 (TX1 0).2.2.1 ∈ wsX1_reduce := by decide +kernel
  have hw1 : Cond.methodLink RX1 23 Lib.MathLoose.abs_long.x ∈ wsX1_reduce := by decide +kernel
  have hw2 : Cond.static Lib.MathLoose.abs_long.x ∈ wsX1_reduce := by decide +kernel
  have hw3 : Cond.initialized "java/lang/Math" ∈ wsX1_reduce := by decide +kernel
  have hw4 : Cond.code Lib.MathLoose.abs_long.x Lib.MathLoose.abs_long.code 2 (some .long) ∈ wsX1_reduce := by decide +kernel
  have hw5 : Cond.fieldLink RX1 7 (TX1 1).1 (TX1 1).2.1 (TX1 1).2.2.1 ∈ wsX1_reduce := by decide +kernel
  refine x_lveq (lv' := [(0, .ref qFr)]) rfl ?_
  have hgp := gc_pos (a := vFr_upper) hFl.1
  have hgl := gc_le (a := vFr_upper) hFl.1
  refine x_aload_n F dX1_reduce_0 rfl 0 rfl ?_
  refine x_get (ci := 1) F hin1 0 rfl rfl 0 (by decide) hw0 rfl dX1_reduce_1 ?_
  refine x_absL F hw1 hw2 hw3 hw4 (Nat.le_of_ble_eq_true rfl) (Nat.le_of_ble_eq_true rfl) (Nat.le_of_ble_eq_true rfl) (Nat.le_of_ble_eq_true rfl) (by omega) dX1_reduce_4 ?_
  refine x_lstore_n (lv' := [(0, .ref qFr), (1, .long (jL (if vFr_upper < 0 then -vFr_upper else vFr_upper)))]) F dX1_reduce_7 rfl (by decide) [1, 0] rfl ?_
  refine x_aload_n F dX1_reduce_8 rfl 0 rfl ?_
  refine x_get (ci := 1) F hin1 0 rfl rfl 1 (by decide) hw5 rfl dX1_reduce_9 ?_
  refine x_lstore_n (lv' := [(0, .ref qFr), (1, .long (jL (if vFr_upper < 0 then -vFr_upper else vFr_upper))), (3, .long (jL vFr_lower))]) F dX1_reduce_12 rfl (by decide) [1, 2, 0] rfl ?_
  refine x_iconst F dX1_reduce_13 ?_
  refine x_istore (lv' := [(0, .ref qFr), (1, .long (jL (if vFr_upper < 0 then -vFr_upper else vFr_upper))), (3, .long (jL vFr_lower)), (5, .int (jI 0))]) F dX1_reduce_14 (by decide) [1, 2, 3, 0] rfl ?_
  have lp16 : ∀ (fu : Nat) (a : Int) (b : Int) (step : Int) (t : Nat) (hab : (0 ≤ a ∧ a < 9223372036854775808) ∧ 0 ≤ b ∧ b < 9223372036854775808) (hst : 0 ≤ step ∧ step ≤ 200) (hg : (Int.gcd a b : Int) = (Int.gcd vFr_upper vFr_lower : Int)) (hph : (b < 2 ^ t ∧ step + 2 * (t : Int) ≤ 190) ∨ (a < 2 ^ t ∧ b < a ∧ step + 2 * (t : Int) ≤ 191)) (hm : 200 - step < (fu : Int)), xG D p l e (xRm 1 64 0 0) s m args below meth c 8 A Q 0 0 [(qFr, .inr (1, [.long (jL vFr_upper), .long (jL vFr_lower)]))] [(0, .ref qFr), (1, .long (jL a)), (3, .long (jL b)), (5, .int (jI step))] 16 [] := by
    intro fu
    induction fu with
    | zero =>
      intro a b step t hab hst hg hph hm
      exact absurd hm (by omega)
    | succ fu ih16 =>
      intro a b step t hab hst hg hph hm
      refine x_iload F dX1_reduce_16 3 rfl ?_
      refine x_sipush F dX1_reduce_18 (by decide) ?_
      refine x_icmp_ge (tgt := 46) F dX1_reduce_21 (by decide) (by omega) (fun c21 => ?_) (fun c21 => ?_)
      · -- 21 t
        have hb0 : b = 0 := by rcases hph with ⟨h1, h2⟩ | ⟨h1, h2, h3⟩ <;> omega
        rw [hb0, gc_end a hab.1.1] at hg
        refine x_lload_n F dX1_reduce_46 rfl 1 rfl ?_
        refine x_lconst F 1 dX1_reduce_47 (by decide) ?_
        refine x_lcmp F dX1_reduce_48 (by omega) ?_
        refine x_if_le (tgt := 72) F dX1_reduce_49 (by decide) (jC_rng _ _) (fun c49 => ?_) (fun c49 => ?_)
        · -- 49 t
          rw [jC_le] at c49
          have hg1 : (Int.gcd vFr_upper vFr_lower : Int) = 1 := by omega
          have hn1 := n_one hg1
          refine x_ws [(qFr, .inr (1, [.long (jL (nU vFr_upper vFr_lower)), .long (jL (nL vFr_upper vFr_lower))]))] (by rw [hn1.1, hn1.2]) ?_
          exact hret 0 0 72 _ () (Nat.le_of_ble_eq_true rfl) (Nat.le_of_ble_eq_true rfl) dX1_reduce_72 (trivial)
        · -- 49 f
          rw [jC_le] at c49
          have hau : a = (Int.gcd vFr_upper vFr_lower : Int) := hg
          refine x_aload_n F dX1_reduce_52 rfl 0 rfl ?_
          refine x_dup F dX1_reduce_53 rfl ?_
          refine x_get (ci := 1) F hin1 0 rfl rfl 0 (by decide) hw0 rfl dX1_reduce_54 ?_
          refine x_lload_n F dX1_reduce_57 rfl 1 rfl ?_
          refine x_ldiv F dX1_reduce_58 (by omega) ?_
          refine x_put (ci := 1) F hin1 tyX1_ok nmX1 0 rfl rfl 0 (by decide) hw0 rfl rfl rfl (show 0 + 1 ≤ _ from Nat.le_of_ble_eq_true rfl) dX1_reduce_59 [(qFr, .inr (1, [.long (jL (Int.tdiv vFr_upper a)), .long (jL vFr_lower)]))] rfl ?_
          refine x_aload_n F dX1_reduce_62 rfl 0 rfl ?_
          refine x_dup F dX1_reduce_63 rfl ?_
          refine x_get (ci := 1) F hin1 0 rfl rfl 1 (by decide) hw5 rfl dX1_reduce_64 ?_
          refine x_lload_n F dX1_reduce_67 rfl 1 rfl ?_
          refine x_ldiv F dX1_reduce_68 (by omega) ?_
          refine x_put (ci := 1) F hin1 tyX1_ok nmX1 0 rfl rfl 1 (by decide) hw5 rfl rfl rfl (show 1 + 1 ≤ _ from Nat.le_of_ble_eq_true rfl) dX1_reduce_69 [(qFr, .inr (1, [.long (jL (Int.tdiv vFr_upper a)), .long (jL (Int.tdiv vFr_lower a))]))] rfl ?_
          refine x_ws [(qFr, .inr (1, [.long (jL (nU vFr_upper vFr_lower)), .long (jL (nL vFr_upper vFr_lower))]))] (by rw [hau, td_U hFl.1, td_L hFl.1]) ?_
          exact hret 0 0 72 _ () (Nat.le_of_ble_eq_true rfl) (Nat.le_of_ble_eq_true rfl) dX1_reduce_72 (trivial)
      · -- 21 f
        refine x_lload_n F dX1_reduce_24 rfl 2 rfl ?_
        refine x_lconst F 0 dX1_reduce_25 (by decide) ?_
        refine x_lcmp F dX1_reduce_26 (by omega) ?_
        refine x_if_le (tgt := 46) F dX1_reduce_27 (by decide) (jC_rng _ _) (fun c27 => ?_) (fun c27 => ?_)
        · -- 27 t
          rw [jC_le] at c27
          have hb0 : b = 0 := by omega
          rw [hb0, gc_end a hab.1.1] at hg
          refine x_lload_n F dX1_reduce_46 rfl 1 rfl ?_
          refine x_lconst F 1 dX1_reduce_47 (by decide) ?_
          refine x_lcmp F dX1_reduce_48 (by omega) ?_
          refine x_if_le (tgt := 72) F dX1_reduce_49 (by decide) (jC_rng _ _) (fun c49 => ?_) (fun c49 => ?_)
          · -- 49 t
            rw [jC_le] at c49
            have hg1 : (Int.gcd vFr_upper vFr_lower : Int) = 1 := by omega
            have hn1 := n_one hg1
            refine x_ws [(qFr, .inr (1, [.long (jL (nU vFr_upper vFr_lower)), .long (jL (nL vFr_upper vFr_lower))]))] (by rw [hn1.1, hn1.2]) ?_
            exact hret 0 0 72 _ () (Nat.le_of_ble_eq_true rfl) (Nat.le_of_ble_eq_true rfl) dX1_reduce_72 (trivial)
          · -- 49 f
            rw [jC_le] at c49
            have hau : a = (Int.gcd vFr_upper vFr_lower : Int) := hg
            refine x_aload_n F dX1_reduce_52 rfl 0 rfl ?_
            refine x_dup F dX1_reduce_53 rfl ?_
            refine x_get (ci := 1) F hin1 0 rfl rfl 0 (by decide) hw0 rfl dX1_reduce_54 ?_
            refine x_lload_n F dX1_reduce_57 rfl 1 rfl ?_
            refine x_ldiv F dX1_reduce_58 (by omega) ?_
            refine x_put (ci := 1) F hin1 tyX1_ok nmX1 0 rfl rfl 0 (by decide) hw0 rfl rfl rfl (show 0 + 1 ≤ _ from Nat.le_of_ble_eq_true rfl) dX1_reduce_59 [(qFr, .inr (1, [.long (jL (Int.tdiv vFr_upper a)), .long (jL vFr_lower)]))] rfl ?_
            refine x_aload_n F dX1_reduce_62 rfl 0 rfl ?_
            refine x_dup F dX1_reduce_63 rfl ?_
            refine x_get (ci := 1) F hin1 0 rfl rfl 1 (by decide) hw5 rfl dX1_reduce_64 ?_
            refine x_lload_n F dX1_reduce_67 rfl 1 rfl ?_
            refine x_ldiv F dX1_reduce_68 (by omega) ?_
            refine x_put (ci := 1) F hin1 tyX1_ok nmX1 0 rfl rfl 1 (by decide) hw5 rfl rfl rfl (show 1 + 1 ≤ _ from Nat.le_of_ble_eq_true rfl) dX1_reduce_69 [(qFr, .inr (1, [.long (jL (Int.tdiv vFr_upper a)), .long (jL (Int.tdiv vFr_lower a))]))] rfl ?_
            refine x_ws [(qFr, .inr (1, [.long (jL (nU vFr_upper vFr_lower)), .long (jL (nL vFr_upper vFr_lower))]))] (by rw [hau, td_U hFl.1, td_L hFl.1]) ?_
            exact hret 0 0 72 _ () (Nat.le_of_ble_eq_true rfl) (Nat.le_of_ble_eq_true rfl) dX1_reduce_72 (trivial)
        · -- 27 f
          rw [jC_le] at c27
          refine x_lload_n F dX1_reduce_30 rfl 1 rfl ?_
          refine x_lload_n F dX1_reduce_31 rfl 2 rfl ?_
          refine x_lrem F dX1_reduce_32 (by omega) ?_
          refine x_lstore (lv' := [(0, .ref qFr), (1, .long (jL a)), (3, .long (jL b)), (5, .int (jI step)), (6, .long (jL (a % b)))]) F dX1_reduce_33 (by decide) [1, 2, 3, 4, 0] rfl ?_
          refine x_lload_n F dX1_reduce_35 rfl 2 rfl ?_
          refine x_lstore_n (lv' := [(0, .ref qFr), (1, .long (jL b)), (3, .long (jL b)), (5, .int (jI step)), (6, .long (jL (a % b)))]) F dX1_reduce_36 rfl (by decide) [1, 0, 2, 3, 4] rfl ?_
          refine x_lload F dX1_reduce_37 4 rfl ?_
          refine x_lstore_n (lv' := [(0, .ref qFr), (1, .long (jL b)), (3, .long (jL (a % b))), (5, .int (jI step)), (6, .long (jL (a % b)))]) F dX1_reduce_39 rfl (by decide) [1, 2, 0, 3, 4] rfl ?_
          obtain ⟨t2, ht2⟩ : ∃ t2 : Nat, (a % b < 2 ^ t2 ∧ (step + 1) + 2 * (t2 : Int) ≤ 190) ∨ (b < 2 ^ t2 ∧ a % b < b ∧ (step + 1) + 2 * (t2 : Int) ≤ 191) := by
            rcases hph with ⟨h1, h2⟩ | ⟨h1, h2, h3⟩
            · exact ⟨t, Or.inr ⟨h1, Int.emod_lt_of_pos a (by omega), by omega⟩⟩
            · have o := eu_odd (show 0 < b by omega) h2 h1
              exact ⟨t - 1, Or.inl ⟨o.2, by omega⟩⟩
          refine x_iinc (lv' := [(0, .ref qFr), (1, .long (jL b)), (3, .long (jL (a % b))), (5, .int (jI (step + 1))), (6, .long (jL (a % b)))]) (k := 3) F dX1_reduce_40 rfl (by decide) [1, 2, 3, 0, 4] rfl ?_
          refine x_goto (tgt := 16) F dX1_reduce_43 (by decide) ?_
          refine x_lv (lv' := [(0, .ref qFr), (1, .long (jL b)), (3, .long (jL (a % b))), (5, .int (jI (step + 1)))]) [0, 1, 2, 3] rfl ?_
          exact ih16 b (a % b) (step + 1) t2 (⟨by omega, Int.emod_nonneg _ (by omega), by have := Int.emod_lt_of_pos a (show 0 < b by omega); omega⟩) (by omega) (by rw [gc_step (by omega) (by omega)]; exact hg) ht2 (by omega)
  exact lp16 (Int.toNat (200 - 0) + 1) (if vFr_upper < 0 then -vFr_upper else vFr_upper) vFr_lower 0 63 (by refine ⟨?_, by omega⟩; split <;> omega) (by omega) (by rw [gc_abs]) (by left; refine ⟨by omega, by omega⟩) (by omega)
set_option maxHeartbeats 4000000 in
set_option maxRecDepth 100000 in
theorem c_X1_set_pos (D : va_G) (kI kJ : Nat) (l : Launch) (qFr : Nat) (up : Int) (low : Int) (vFr_upper : Int) (vFr_lower : Int) (hup : -4611686018427387904 < up ∧ up < 4611686018427387904) (hlo : 0 < low ∧ low < 4611686018427387904) : xMv D kI kJ l yX1_set wsX1_set 2 91 0 0 [.ref qFr, .long (jL up), .long (jL low)] [(qFr, .inr (1, [.long (jL vFr_upper), .long (jL vFr_lower)]))] (fun (u : Unit) => True) (fun (u : Unit) => [(qFr, .inr (1, [.long (jL (nU up low)), .long (jL (nL up low))]))]) := by
  refine xMv_of (cc := cX1_set) (maxL := 5) (by decide) rfl (Nat.le_of_ble_eq_true rfl) ?_
  intro p e s m args below meth c A Q F hin2 hret
  have hin1 : ∀ w ∈ wsX10, w ∈ wsX1_set := by decide +kernel
  have hw0 : Cond.fieldLink RX1 13 (TX1 0).1 (TX1 0).2.1 (TX1 0).2.2.1 ∈ wsX1_set := by decide +kernel
  have hw1 : Cond.fieldLink RX1 7 (TX1 1).1 (TX1 1).2.1 (TX1 1).2.2.1 ∈ wsX1_set := by decide +kernel
  refine x_lveq (lv' := [(0, .ref qFr), (1, .long (jL up)), (3, .long (jL low))]) rfl ?_
  refine x_aload_n F dX1_set_0 rfl 0 rfl ?_
  refine x_lload_n F dX1_set_1 rfl 2 rfl ?_
  refine x_lconst F 0 dX1_set_2 (by decide) ?_
  refine x_lcmp F dX1_set_3 (by omega) ?_
  refine x_if_le (tgt := 11) F dX1_set_4 (by decide) (jC_rng _ _) (fun c4 => ?_) (fun c4 => ?_)
  · rw [jC_le] at c4
    exact absurd c4 (by omega)
  · -- 4 f
    rw [jC_le] at c4
    refine x_lload_n F dX1_set_7 rfl 1 rfl ?_
    refine x_goto (tgt := 12) F dX1_set_8 (by decide) ?_
    refine x_put (ci := 1) F hin1 tyX1_ok nmX1 0 rfl rfl 0 (by decide) hw0 rfl rfl rfl (show 0 + 1 ≤ _ from Nat.le_of_ble_eq_true rfl) dX1_set_12 [(qFr, .inr (1, [.long (jL up), .long (jL vFr_lower)]))] rfl ?_
    refine x_aload_n F dX1_set_15 rfl 0 rfl ?_
    refine x_lload_n F dX1_set_16 rfl 2 rfl ?_
    refine x_lconst F 0 dX1_set_17 (by decide) ?_
    refine x_lcmp F dX1_set_18 (by omega) ?_
    refine x_if_le (tgt := 26) F dX1_set_19 (by decide) (jC_rng _ _) (fun c19 => ?_) (fun c19 => ?_)
    · rw [jC_le] at c19
      exact absurd c19 (by omega)
    · -- 19 f
      rw [jC_le] at c19
      refine x_lload_n F dX1_set_22 rfl 2 rfl ?_
      refine x_goto (tgt := 27) F dX1_set_23 (by decide) ?_
      refine x_put (ci := 1) F hin1 tyX1_ok nmX1 0 rfl rfl 1 (by decide) hw1 rfl rfl rfl (show 1 + 1 ≤ _ from Nat.le_of_ble_eq_true rfl) dX1_set_27 [(qFr, .inr (1, [.long (jL up), .long (jL low)]))] rfl ?_
      refine x_aload_n F dX1_set_30 rfl 0 rfl ?_
      refine x_callVv (ci := 1) (q0 := 0) (As := []) (st := []) F (c_X1_reduce D kI kJ l qFr up low (by omega) (by omega)) (cwV 0 F.2.2.2.2.1 gX1_set_X1_reduce rfl rfl rfl (by decide +kernel) ⟨Nat.le_of_ble_eq_true rfl, Nat.le_of_ble_eq_true rfl⟩) rfl rfl [0] [] [0] rfl rfl (by decide) (by decide) (by decide) (fun _ => rfl) (by decide) rfl (Nat.le_of_ble_eq_true rfl) dX1_set_31 ⟨Nat.le_of_ble_eq_true rfl, Nat.le_of_ble_eq_true rfl⟩ (fun u31 h31 => ?_)
      try dsimp only at h31
      refine x_ws [(qFr, .inr (1, [.long (jL (nU up low)), .long (jL (nL up low))]))] rfl ?_
      exact hret 0 0 34 _ () (Nat.le_of_ble_eq_true rfl) (Nat.le_of_ble_eq_true rfl) dX1_set_34 (trivial)
set_option maxHeartbeats 4000000 in
set_option maxRecDepth 100000 in
theorem c_X1_set_zero (D : va_G) (kI kJ : Nat) (l : Launch) (qFr : Nat) (up : Int) (low : Int) (vFr_upper : Int) (vFr_lower : Int) (hup : -4611686018427387904 < up ∧ up < 4611686018427387904) (hlo : low = 0) : xMv D kI kJ l yX1_set wsX1_set 2 91 0 0 [.ref qFr, .long (jL up), .long (jL low)] [(qFr, .inr (1, [.long (jL vFr_upper), .long (jL vFr_lower)]))] (fun (u : Unit) => True) (fun (u : Unit) => [(qFr, .inr (1, [.long (jL (nU 0 1)), .long (jL (nL 0 1))]))]) := by
  refine xMv_of (cc := cX1_set) (maxL := 5) (by decide) rfl (Nat.le_of_ble_eq_true rfl) ?_
  intro p e s m args below meth c A Q F hin2 hret
  have hin1 : ∀ w ∈ wsX10, w ∈ wsX1_set := by decide +kernel
  have hw0 : Cond.fieldLink RX1 13 (TX1 0).1 (TX1 0).2.1 (TX1 0).2.2.1 ∈ wsX1_set := by decide +kernel
  have hw1 : Cond.fieldLink RX1 7 (TX1 1).1 (TX1 1).2.1 (TX1 1).2.2.1 ∈ wsX1_set := by decide +kernel
  refine x_lveq (lv' := [(0, .ref qFr), (1, .long (jL up)), (3, .long (jL low))]) rfl ?_
  refine x_aload_n F dX1_set_0 rfl 0 rfl ?_
  refine x_lload_n F dX1_set_1 rfl 2 rfl ?_
  refine x_lconst F 0 dX1_set_2 (by decide) ?_
  refine x_lcmp F dX1_set_3 (by omega) ?_
  refine x_if_le (tgt := 11) F dX1_set_4 (by decide) (jC_rng _ _) (fun c4 => ?_) (fun c4 => ?_)
  · -- 4 t
    rw [jC_le] at c4
    refine x_lconst F 0 dX1_set_11 (by decide) ?_
    refine x_put (ci := 1) F hin1 tyX1_ok nmX1 0 rfl rfl 0 (by decide) hw0 rfl rfl rfl (show 0 + 1 ≤ _ from Nat.le_of_ble_eq_true rfl) dX1_set_12 [(qFr, .inr (1, [.long (jL 0), .long (jL vFr_lower)]))] rfl ?_
    refine x_aload_n F dX1_set_15 rfl 0 rfl ?_
    refine x_lload_n F dX1_set_16 rfl 2 rfl ?_
    refine x_lconst F 0 dX1_set_17 (by decide) ?_
    refine x_lcmp F dX1_set_18 (by omega) ?_
    refine x_if_le (tgt := 26) F dX1_set_19 (by decide) (jC_rng _ _) (fun c19 => ?_) (fun c19 => ?_)
    · -- 19 t
      rw [jC_le] at c19
      refine x_lconst F 1 dX1_set_26 (by decide) ?_
      refine x_put (ci := 1) F hin1 tyX1_ok nmX1 0 rfl rfl 1 (by decide) hw1 rfl rfl rfl (show 1 + 1 ≤ _ from Nat.le_of_ble_eq_true rfl) dX1_set_27 [(qFr, .inr (1, [.long (jL 0), .long (jL 1)]))] rfl ?_
      refine x_aload_n F dX1_set_30 rfl 0 rfl ?_
      refine x_callVv (ci := 1) (q0 := 0) (As := []) (st := []) F (c_X1_reduce D kI kJ l qFr 0 1 (by omega) (by omega)) (cwV 0 F.2.2.2.2.1 gX1_set_X1_reduce rfl rfl rfl (by decide +kernel) ⟨Nat.le_of_ble_eq_true rfl, Nat.le_of_ble_eq_true rfl⟩) rfl rfl [0] [] [0] rfl rfl (by decide) (by decide) (by decide) (fun _ => rfl) (by decide) rfl (Nat.le_of_ble_eq_true rfl) dX1_set_31 ⟨Nat.le_of_ble_eq_true rfl, Nat.le_of_ble_eq_true rfl⟩ (fun u31 h31 => ?_)
      try dsimp only at h31
      refine x_ws [(qFr, .inr (1, [.long (jL (nU 0 1)), .long (jL (nL 0 1))]))] rfl ?_
      exact hret 0 0 34 _ () (Nat.le_of_ble_eq_true rfl) (Nat.le_of_ble_eq_true rfl) dX1_set_34 (trivial)
    · rw [jC_le] at c19
      exact absurd c19 (by omega)
  · rw [jC_le] at c4
    exact absurd c4 (by omega)
set_option maxHeartbeats 4000000 in
set_option maxRecDepth 100000 in
theorem c_X1_subtract (D : va_G) (kI kJ : Nat) (l : Launch) (qFr : Nat) (up : Int) (low : Int) (vFr_upper : Int) (vFr_lower : Int) (hb1 : -2305843009213693952 < vFr_upper * low ∧ vFr_upper * low < 2305843009213693952) (hb2 : -2305843009213693952 < up * vFr_lower ∧ up * vFr_lower < 2305843009213693952) (hb3 : 0 < vFr_lower * low ∧ vFr_lower * low < 4611686018427387904) : xMv D kI kJ l yX1_subtract wsX1_subtract 3 115 0 0 [.ref qFr, .long (jL up), .long (jL low)] [(qFr, .inr (1, [.long (jL vFr_upper), .long (jL vFr_lower)]))] (fun (u : Unit) => True) (fun (u : Unit) => [(qFr, .inr (1, [.long (jL (nU (vFr_upper * low - up * vFr_lower) (vFr_lower * low))), .long (jL (nL (vFr_upper * low - up * vFr_lower) (vFr_lower * low)))]))]) := by
  refine xMv_of (cc := cX1_subtract) (maxL := 5) (by decide) rfl (Nat.le_of_ble_eq_true rfl) ?_
  intro p e s m args below meth c A Q F hin2 hret
  have hin1 : ∀ w ∈ wsX10, w ∈ wsX1_subtract := by decide +kernel
  have hw0 : Cond.fieldLink RX1 13 (TX1 0).1 (TX1 0).2.1 (TX1 0).2.2.1 ∈ wsX1_subtract := by decide +kernel
  have hw1 : Cond.fieldLink RX1 7 (TX1 1).1 (TX1 1).2.1 (TX1 1).2.2.1 ∈ wsX1_subtract := by decide +kernel
  refine x_lveq (lv' := [(0, .ref qFr), (1, .long (jL up)), (3, .long (jL low))]) rfl ?_
  refine x_aload_n F dX1_subtract_0 rfl 0 rfl ?_
  refine x_aload_n F dX1_subtract_1 rfl 0 rfl ?_
  refine x_get (ci := 1) F hin1 0 rfl rfl 0 (by decide) hw0 rfl dX1_subtract_2 ?_
  refine x_lload_n F dX1_subtract_5 rfl 2 rfl ?_
  refine x_lmul F dX1_subtract_6 ?_
  refine x_lload_n F dX1_subtract_7 rfl 1 rfl ?_
  refine x_aload_n F dX1_subtract_8 rfl 0 rfl ?_
  refine x_get (ci := 1) F hin1 0 rfl rfl 1 (by decide) hw1 rfl dX1_subtract_9 ?_
  refine x_lmul F dX1_subtract_12 ?_
  refine x_lsub F dX1_subtract_13 ?_
  refine x_aload_n F dX1_subtract_14 rfl 0 rfl ?_
  refine x_get (ci := 1) F hin1 0 rfl rfl 1 (by decide) hw1 rfl dX1_subtract_15 ?_
  refine x_lload_n F dX1_subtract_18 rfl 2 rfl ?_
  refine x_lmul F dX1_subtract_19 ?_
  refine x_callVv (ci := 1) (q0 := 0) (As := [.long (jL ((vFr_upper * low) - (up * vFr_lower))), .long (jL (vFr_lower * low))]) (st := []) F (c_X1_set_pos D kI kJ l qFr ((vFr_upper * low) - (up * vFr_lower)) (vFr_lower * low) vFr_upper vFr_lower (by omega) (by omega)) (cwV 2 F.2.2.2.2.1 gX1_subtract_X1_set rfl rfl rfl (by decide +kernel) ⟨Nat.le_of_ble_eq_true rfl, Nat.le_of_ble_eq_true rfl⟩) rfl rfl [0] [] [0] rfl rfl (by decide) (by decide) (by decide) (fun _ => rfl) (by decide) rfl (Nat.le_of_ble_eq_true rfl) dX1_subtract_20 ⟨Nat.le_of_ble_eq_true rfl, Nat.le_of_ble_eq_true rfl⟩ (fun u20 h20 => ?_)
  try dsimp only at h20
  refine x_ws [(qFr, .inr (1, [.long (jL (nU ((vFr_upper * low) - (up * vFr_lower)) (vFr_lower * low))), .long (jL (nL ((vFr_upper * low) - (up * vFr_lower)) (vFr_lower * low)))]))] rfl ?_
  exact hret 0 0 23 _ () (Nat.le_of_ble_eq_true rfl) (Nat.le_of_ble_eq_true rfl) dX1_subtract_23 (trivial)
set_option maxHeartbeats 4000000 in
set_option maxRecDepth 100000 in
theorem c_X1_divide (D : va_G) (kI kJ : Nat) (l : Launch) (qFr : Nat) (by_ : Int) (vFr_upper : Int) (vFr_lower : Int) (hb1 : -4611686018427387904 < vFr_upper ∧ vFr_upper < 4611686018427387904) (hb3 : 0 < vFr_lower * by_ ∧ vFr_lower * by_ < 4611686018427387904) : xMv D kI kJ l yX1_divide wsX1_divide 3 115 0 0 [.ref qFr, .long (jL by_)] [(qFr, .inr (1, [.long (jL vFr_upper), .long (jL vFr_lower)]))] (fun (u : Unit) => True) (fun (u : Unit) => [(qFr, .inr (1, [.long (jL (nU vFr_upper (vFr_lower * by_))), .long (jL (nL vFr_upper (vFr_lower * by_)))]))]) := by
  refine xMv_of (cc := cX1_divide) (maxL := 3) (by decide) rfl (Nat.le_of_ble_eq_true rfl) ?_
  intro p e s m args below meth c A Q F hin2 hret
  have hin1 : ∀ w ∈ wsX10, w ∈ wsX1_divide := by decide +kernel
  have hw0 : Cond.fieldLink RX1 13 (TX1 0).1 (TX1 0).2.1 (TX1 0).2.2.1 ∈ wsX1_divide := by decide +kernel
  have hw1 : Cond.fieldLink RX1 7 (TX1 1).1 (TX1 1).2.1 (TX1 1).2.2.1 ∈ wsX1_divide := by decide +kernel
  refine x_lveq (lv' := [(0, .ref qFr), (1, .long (jL by_))]) rfl ?_
  refine x_aload_n F dX1_divide_0 rfl 0 rfl ?_
  refine x_aload_n F dX1_divide_1 rfl 0 rfl ?_
  refine x_get (ci := 1) F hin1 0 rfl rfl 0 (by decide) hw0 rfl dX1_divide_2 ?_
  refine x_aload_n F dX1_divide_5 rfl 0 rfl ?_
  refine x_get (ci := 1) F hin1 0 rfl rfl 1 (by decide) hw1 rfl dX1_divide_6 ?_
  refine x_lload_n F dX1_divide_9 rfl 1 rfl ?_
  refine x_lmul F dX1_divide_10 ?_
  refine x_callVv (ci := 1) (q0 := 0) (As := [.long (jL vFr_upper), .long (jL (vFr_lower * by_))]) (st := []) F (c_X1_set_pos D kI kJ l qFr vFr_upper (vFr_lower * by_) vFr_upper vFr_lower (by omega) (by omega)) (cwV 2 F.2.2.2.2.1 gX1_divide_X1_set rfl rfl rfl (by decide +kernel) ⟨Nat.le_of_ble_eq_true rfl, Nat.le_of_ble_eq_true rfl⟩) rfl rfl [0] [] [0] rfl rfl (by decide) (by decide) (by decide) (fun _ => rfl) (by decide) rfl (Nat.le_of_ble_eq_true rfl) dX1_divide_11 ⟨Nat.le_of_ble_eq_true rfl, Nat.le_of_ble_eq_true rfl⟩ (fun u11 h11 => ?_)
  try dsimp only at h11
  refine x_ws [(qFr, .inr (1, [.long (jL (nU vFr_upper (vFr_lower * by_))), .long (jL (nL vFr_upper (vFr_lower * by_)))]))] rfl ?_
  exact hret 0 0 14 _ () (Nat.le_of_ble_eq_true rfl) (Nat.le_of_ble_eq_true rfl) dX1_divide_14 (trivial)
set_option maxHeartbeats 4000000 in
set_option maxRecDepth 100000 in
theorem c_X1_part (D : va_G) (kI kJ : Nat) (l : Launch) (qFr : Nat) (what : Int) (vFr_upper : Int) (vFr_lower : Int) (hr_what : -2147483648 ≤ what ∧ what < 2147483648) : xMl D kI kJ l yX1_part wsX1_part 1 32 0 0 [.ref qFr, .int (jI what)] [(qFr, .inr (1, [.long (jL vFr_upper), .long (jL vFr_lower)]))] (fun (z : Int) (u : Unit) => z = (if what = 0 then vFr_upper else vFr_lower)) (fun (u : Unit) => [(qFr, .inr (1, [.long (jL vFr_upper), .long (jL vFr_lower)]))]) := by
  refine xMl_of (cc := cX1_part) (maxL := 2) (by decide) rfl (Nat.le_of_ble_eq_true rfl) ?_
  intro p e s m args below meth c A Q F hin2 hret
  have hin1 : ∀ w ∈ wsX10, w ∈ wsX1_part := by decide +kernel
  have hw0 : Cond.fieldLink RX1 7 (TX1 1).1 (TX1 1).2.1 (TX1 1).2.2.1 ∈ wsX1_part := by decide +kernel
  have hw1 : Cond.fieldLink RX1 13 (TX1 0).1 (TX1 0).2.1 (TX1 0).2.2.1 ∈ wsX1_part := by decide +kernel
  refine x_lveq (lv' := [(0, .ref qFr), (1, .int (jI what))]) rfl ?_
  refine x_iload_n F dX1_part_0 rfl 1 rfl ?_
  refine x_if_ne (tgt := 11) F dX1_part_1 (by decide) (by omega) (fun c1 => ?_) (fun c1 => ?_)
  · -- 1 t
    refine x_aload_n F dX1_part_11 rfl 0 rfl ?_
    refine x_get (ci := 1) F hin1 0 rfl rfl 1 (by decide) hw0 rfl dX1_part_12 ?_
    exact hret 0 0 15 _ vFr_lower () (Nat.le_of_ble_eq_true rfl) (Nat.le_of_ble_eq_true rfl) dX1_part_15 (by split <;> omega)
  · -- 1 f
    refine x_aload_n F dX1_part_4 rfl 0 rfl ?_
    refine x_get (ci := 1) F hin1 0 rfl rfl 0 (by decide) hw1 rfl dX1_part_5 ?_
    refine x_goto (tgt := 15) F dX1_part_8 (by decide) ?_
    exact hret 0 0 15 _ vFr_upper () (Nat.le_of_ble_eq_true rfl) (Nat.le_of_ble_eq_true rfl) dX1_part_15 (by split <;> omega)
set_option maxHeartbeats 4000000 in
set_option maxRecDepth 100000 in
theorem c_X1_cut (D : va_G) (kI kJ : Nat) (l : Launch) (qFr : Nat) (vFr_upper : Int) (vFr_lower : Int) (hFl : 0 < vFr_lower ∧ vFr_lower < 9223372036854775808) (hFu : -9223372036854775808 < vFr_upper ∧ vFr_upper < 9223372036854775808) : xMi D kI kJ l yX1_cut wsX1_cut 1 32 0 0 [.ref qFr] [(qFr, .inr (1, [.long (jL vFr_upper), .long (jL vFr_lower)]))] (fun (z : Int) (u : Unit) => z = Int.tdiv vFr_upper vFr_lower) (fun (u : Unit) => [(qFr, .inr (1, [.long (jL vFr_upper), .long (jL vFr_lower)]))]) := by
  refine xMi_of (cc := cX1_cut) (maxL := 1) (rt := .int) (by decide) rfl (Nat.le_of_ble_eq_true rfl) (fun _ _ _ => rfl) ?_
  intro p e s m args below meth c A Q F hin2 hret
  have hin1 : ∀ w ∈ wsX10, w ∈ wsX1_cut := by decide +kernel
  have hw0 : Cond.fieldLink RX1 7 (TX1 1).1 (TX1 1).2.1 (TX1 1).2.2.1 ∈ wsX1_cut := by decide +kernel
  have hw1 : Cond.fieldLink RX1 13 (TX1 0).1 (TX1 0).2.1 (TX1 0).2.2.1 ∈ wsX1_cut := by decide +kernel
  refine x_lveq (lv' := [(0, .ref qFr)]) rfl ?_
  refine x_aload_n F dX1_cut_0 rfl 0 rfl ?_
  refine x_get (ci := 1) F hin1 0 rfl rfl 1 (by decide) hw0 rfl dX1_cut_1 ?_
  refine x_lconst F 0 dX1_cut_4 (by decide) ?_
  refine x_lcmp F dX1_cut_5 (by omega) ?_
  refine x_if_le (tgt := 22) F dX1_cut_6 (by decide) (jC_rng _ _) (fun c6 => ?_) (fun c6 => ?_)
  · rw [jC_le] at c6
    exact absurd c6 (by omega)
  · -- 6 f
    rw [jC_le] at c6
    refine x_aload_n F dX1_cut_9 rfl 0 rfl ?_
    refine x_get (ci := 1) F hin1 0 rfl rfl 0 (by decide) hw1 rfl dX1_cut_10 ?_
    refine x_aload_n F dX1_cut_13 rfl 0 rfl ?_
    refine x_get (ci := 1) F hin1 0 rfl rfl 1 (by decide) hw0 rfl dX1_cut_14 ?_
    refine x_ldiv F dX1_cut_17 (by omega) ?_
    refine x_l2i F dX1_cut_18 (jx_tdB (by omega) (by omega)) ?_
    refine x_goto (tgt := 23) F dX1_cut_19 (by decide) ?_
    exact hret 0 0 23 _ (Int.tdiv vFr_upper vFr_lower) () (Nat.le_of_ble_eq_true rfl) (Nat.le_of_ble_eq_true rfl) dX1_cut_23 (rfl)
