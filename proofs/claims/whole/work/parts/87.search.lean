/-! System.arraycopy of whole rows of ints -/
theorem x_copyi {D : va_G} {kI kJ : Nat} {p : Program} {l : Launch} {e : Env} {R : Room} {s : State} {m : MethodId} {args : Array Value} {below : List Frame} {meth : Method} {c : Code} {cc : ByteArray} {nL : Nat} {own : String} {Ts : List Cond} {A : Nat → Prop} {Q : State → Prop} {cells slots : Nat} {ws : va_W} {lv : List (Nat × Value)} {pc index : Nat} {st : List Value} (F : xFix D kI kJ p s m args c cc nL own Ts A) (h1 : Jvm.Cond.methodLink own index arraycopyName ∈ Ts) (h2 : Jvm.Cond.native arraycopyName ∈ Ts) (h3 : Jvm.Cond.static arraycopyName ∈ Ts) (h4 : Jvm.Cond.initialized "java/lang/System" ∈ Ts) (q0 q1 : Nat) {a0 a n0 n1 : Nat} {f g : Int → Int} (ha0 : ws[q0]? = some (aI kI a0 n0 f)) (ha1 : ws[q1]? = some (aI kI a n1 g)) (N : Nat) (hN : N ≤ n0 ∧ N ≤ n1) (hN2 : N < 2147483648) (hfr : 1 ≤ R.frames) (hlo : (st.map fun v => v.category).sum + (nativeFrameWords "java/lang/System" "arraycopy" 5 + 11) ≤ R.locals) (hdg : decode cc pc = .ok (.invokestatic index, 3)) (ws' : va_W) (hws : ws.set q1 (aI kI a n1 (fun k => if k < (N : Int) then f k else g k)) = ws') (kk : xG D p l e R s m args below meth c nL A Q cells slots ws' lv (pc + 3) st) : xG D p l e R s m args below meth c nL A Q cells slots ws lv pc (.int (jI (N : Int)) :: .int (jI 0) :: .ref a :: .int (jI 0) :: .ref a0 :: st) := by
  subst hws
  have c0 : (jI 0).toNatClampNeg = 0 := rfl
  have cN : (jI (N : Int)).toNatClampNeg = N := by rw [jx_clamp (by omega)]; omega
  have e : va_cpy (jA f) (jA g) (jI 0).toNatClampNeg (jI 0).toNatClampNeg (jI (N : Int)).toNatClampNeg = jA (fun k => if k < (N : Int) then f k else g k) := by
    rw [c0, cN]
    funext k
    unfold va_cpy jA
    by_cases q : k < N
    · rw [if_pos (by omega)]
      show jI (f (((0 + (k - 0) : Nat)) : Int)) = jI (if (k : Int) < (N : Int) then f k else g k)
      rw [if_pos (by omega), show 0 + (k - 0) = k by omega]
    · rw [if_neg (by omega)]
      show jI (g k) = jI (if (k : Int) < (N : Int) then f k else g k)
      rw [if_neg (by omega)]
  exact fun H locs ls hP hD hS hL => va_copyi F.1 F.2.1 (F.2.2.1.trans hL.1.symm) F.2.2.2.1 (F.2.2.2.2.1 _ h1) (F.2.2.2.2.1 _ h2) (F.2.2.2.2.1 _ h3) (F.2.2.2.2.1 _ h4) F.2.2.2.2.2.1 hP hD hS q0 q1 0 0 (ty := .int) ha0 ha1 rfl rfl rfl (by decide) (by decide) (by rw [jI_0, jI_lt (by omega) (by omega)]; omega) (by rw [c0, cN]; omega) (by rw [c0, cN]; omega) (fun i _ => rfl) hfr hlo hdg (fun H1 locs1 hP1 hD1 hS1 => by
    rw [e] at hP1 hD1
    exact kk H1 locs1 ls hP1 hD1 hS1 hL)
set_option maxHeartbeats 4000000 in
set_option maxRecDepth 100000 in
theorem c_X4_keep (D : va_G) (kI kJ : Nat) (l : Launch) (qN : Nat) (sum : Int) (qN_blocks : Nat) (qN_costs : Nat) (qN_zones : Nat) (qN_neglects : Nat) (qN_chosen : Nat) (qN_best : Nat) (qN_spent : Nat) (qN_scaffolds : Nat) (vN_size : Int) (vN_start : Int) (vN_span : Int) (vN_coin : Int) (vN_least : Int) (fN_chosen : (Int → Int)) (fN_best : (Int → Int))  : xMv D kI kJ l yX4_keep wsX4_keep 1 64 0 0 [.ref qN, .int (jI sum)] [(qN, .inr (4, [.ref qN_blocks, .ref qN_costs, .ref qN_zones, .ref qN_neglects, .ref qN_chosen, .ref qN_best, .ref qN_spent, .ref qN_scaffolds, .int (jI vN_size), .int (jI vN_start), .int (jI vN_span), .int (jI vN_coin), .int (jI vN_least)])), aI kI qN_chosen 6 fN_chosen, aI kI qN_best 6 fN_best] (fun (u : Unit) => True) (fun (u : Unit) => [(qN, .inr (4, [.ref qN_blocks, .ref qN_costs, .ref qN_zones, .ref qN_neglects, .ref qN_chosen, .ref qN_best, .ref qN_spent, .ref qN_scaffolds, .int (jI vN_size), .int (jI vN_start), .int (jI vN_span), .int (jI vN_coin), .int (jI sum)])), aI kI qN_chosen 6 fN_chosen, aI kI qN_best 6 fN_chosen]) := by
  refine xMv_of (cc := cX4_keep) (maxL := 2) (by decide) rfl (Nat.le_of_ble_eq_true rfl) ?_
  intro p e s m args below meth c A Q F hin2 hret
  have hin4 : ∀ w ∈ wsX40, w ∈ wsX4_keep := by decide +kernel
  have hw0 : Cond.fieldLink RX4 56 (TX4 12).1 (TX4 12).2.1 (TX4 12).2.2.1 ∈ wsX4_keep := by decide +kernel
  have hw1 : Cond.fieldLink RX4 24 (TX4 4).1 (TX4 4).2.1 (TX4 4).2.2.1 ∈ wsX4_keep := by decide +kernel
  have hw2 : Cond.fieldLink RX4 27 (TX4 5).1 (TX4 5).2.1 (TX4 5).2.2.1 ∈ wsX4_keep := by decide +kernel
  have hw3 : Cond.methodLink RX4 97 arraycopyName ∈ wsX4_keep := by decide +kernel
  have hw4 : Cond.native arraycopyName ∈ wsX4_keep := by decide +kernel
  have hw5 : Cond.static arraycopyName ∈ wsX4_keep := by decide +kernel
  have hw6 : Cond.initialized "java/lang/System" ∈ wsX4_keep := by decide +kernel
  refine x_lveq (lv' := [(0, .ref qN), (1, .int (jI sum))]) rfl ?_
  refine x_aload_n F dX4_keep_0 rfl 0 rfl ?_
  refine x_iload_n F dX4_keep_1 rfl 1 rfl ?_
  refine x_put (ci := 4) F hin4 tyX4_ok nmX4 0 rfl rfl 12 (by decide) hw0 rfl rfl rfl (show 12 + 1 ≤ _ from Nat.le_of_ble_eq_true rfl) dX4_keep_2 [(qN, .inr (4, [.ref qN_blocks, .ref qN_costs, .ref qN_zones, .ref qN_neglects, .ref qN_chosen, .ref qN_best, .ref qN_spent, .ref qN_scaffolds, .int (jI vN_size), .int (jI vN_start), .int (jI vN_span), .int (jI vN_coin), .int (jI sum)])), aI kI qN_chosen 6 fN_chosen, aI kI qN_best 6 fN_best] rfl ?_
  refine x_aload_n F dX4_keep_5 rfl 0 rfl ?_
  refine x_get (ci := 4) F hin4 0 rfl rfl 4 (by decide) hw1 rfl dX4_keep_6 ?_
  refine x_iconst F dX4_keep_9 ?_
  refine x_aload_n F dX4_keep_10 rfl 0 rfl ?_
  refine x_get (ci := 4) F hin4 0 rfl rfl 5 (by decide) hw2 rfl dX4_keep_11 ?_
  refine x_iconst F dX4_keep_14 ?_
  refine x_bipush F dX4_keep_15 (by decide) ?_
  refine x_copyi F hw3 hw4 hw5 hw6 1 2 rfl rfl 6 (by decide) (by decide) (Nat.le_of_ble_eq_true rfl) (Nat.le_of_ble_eq_true rfl) dX4_keep_17 [(qN, .inr (4, [.ref qN_blocks, .ref qN_costs, .ref qN_zones, .ref qN_neglects, .ref qN_chosen, .ref qN_best, .ref qN_spent, .ref qN_scaffolds, .int (jI vN_size), .int (jI vN_start), .int (jI vN_span), .int (jI vN_coin), .int (jI sum)])), aI kI qN_chosen 6 fN_chosen, aI kI qN_best 6 (fun k => if k < ((6 : Nat) : Int) then fN_chosen k else fN_best k)] rfl ?_
  refine x_ext 2 rfl fN_chosen (fun k k0 k1 => if_pos (by omega)) [(qN, .inr (4, [.ref qN_blocks, .ref qN_costs, .ref qN_zones, .ref qN_neglects, .ref qN_chosen, .ref qN_best, .ref qN_spent, .ref qN_scaffolds, .int (jI vN_size), .int (jI vN_start), .int (jI vN_span), .int (jI vN_coin), .int (jI sum)])), aI kI qN_chosen 6 fN_chosen, aI kI qN_best 6 fN_chosen] rfl ?_
  exact hret 0 0 20 _ () (Nat.le_of_ble_eq_true rfl) (Nat.le_of_ble_eq_true rfl) dX4_keep_20 (trivial)
set_option maxHeartbeats 4000000 in
set_option maxRecDepth 100000 in
theorem c_X4_search_0 (D : va_G) (kI kJ : Nat) (l : Launch) (qN : Nat) (i : Int) (sum : Int) (qN_blocks : Nat) (qN_costs : Nat) (qN_zones : Nat) (qN_neglects : Nat) (qN_chosen : Nat) (qN_best : Nat) (qN_spent : Nat) (qN_scaffolds : Nat) (vN_size : Int) (vN_start : Int) (vN_span : Int) (vN_coin : Int) (vN_least : Int) (fN_costs : (Int → Int)) (fN_zones : (Int → Int)) (fN_neglects : (Int → Int)) (fN_chosen : (Int → Int)) (fN_best : (Int → Int)) (cd : Int) (hi : 0 ≤ i ∧ i + 0 = vN_size ∧ vN_size ≤ 6) (hn4 : 1 ≤ vN_span ∧ vN_span ≤ 4) (hc : 0 ≤ cd) (hco : 0 ≤ vN_coin ∧ vN_coin ≤ 1000) (hNc : Rg fN_costs 24 0 50000) (hNz : Rg fN_zones 24 0 7) (hNg : Rg fN_neglects 6 0 200000) (hNq : Rg fN_chosen 6 (-1) 3) (hNb : Rg fN_best 6 (-1) 3) (hsum : sum = wT (pcs fN_costs) (pcs fN_zones) fN_neglects vN_span i cd) (hok : wK (pcs fN_costs) (pcs fN_zones) vN_span vN_coin i cd = true) (hl : vN_least = lsI (wV (pcs fN_costs) (pcs fN_zones) fN_neglects vN_span vN_coin vN_size) (cd * pwI vN_span 0)) (hb : 0 ≤ bsI (wV (pcs fN_costs) (pcs fN_zones) fN_neglects vN_span vN_coin vN_size) (cd * pwI vN_span 0) → ∀ j : Int, 0 ≤ j → j < vN_size → fN_best j = chD vN_span (dg vN_span vN_size (bsI (wV (pcs fN_costs) (pcs fN_zones) fN_neglects vN_span vN_coin vN_size) (cd * pwI vN_span 0)) j)) (hch : ∀ j : Int, 0 ≤ j → j < i → fN_chosen j = chD vN_span (dg vN_span i cd j)) : xMv D kI kJ l yX4_search wsX4_search 2 85 0 0 [.ref qN, .int (jI i), .int (jI sum)] [(qN, .inr (4, [.ref qN_blocks, .ref qN_costs, .ref qN_zones, .ref qN_neglects, .ref qN_chosen, .ref qN_best, .ref qN_spent, .ref qN_scaffolds, .int (jI vN_size), .int (jI vN_start), .int (jI vN_span), .int (jI vN_coin), .int (jI vN_least)])), aI kI qN_costs 24 fN_costs, aI kI qN_zones 24 fN_zones, aI kI qN_neglects 6 fN_neglects, aI kI qN_chosen 6 fN_chosen, aI kI qN_best 6 fN_best, aI kI qN_spent 4 (wSp (pcs fN_costs) (pcs fN_zones) vN_span i cd), aI kI qN_scaffolds 32 (wSc (pcs fN_costs) (pcs fN_zones) vN_span i cd)] (fun (u : Int × (Int → Int) × (Int → Int)) => (u.1 = lsI (wV (pcs fN_costs) (pcs fN_zones) fN_neglects vN_span vN_coin vN_size) ((cd + 1) * pwI vN_span 0)) ∧ (0 ≤ bsI (wV (pcs fN_costs) (pcs fN_zones) fN_neglects vN_span vN_coin vN_size) ((cd + 1) * pwI vN_span 0) → ∀ j : Int, 0 ≤ j → j < vN_size → u.2.2 j = chD vN_span (dg vN_span vN_size (bsI (wV (pcs fN_costs) (pcs fN_zones) fN_neglects vN_span vN_coin vN_size) ((cd + 1) * pwI vN_span 0)) j)) ∧ (∀ j : Int, 0 ≤ j → j < i → u.2.1 j = fN_chosen j) ∧ (Rg u.2.1 6 (-1) 3) ∧ (Rg u.2.2 6 (-1) 3)) (fun (u : Int × (Int → Int) × (Int → Int)) => [(qN, .inr (4, [.ref qN_blocks, .ref qN_costs, .ref qN_zones, .ref qN_neglects, .ref qN_chosen, .ref qN_best, .ref qN_spent, .ref qN_scaffolds, .int (jI vN_size), .int (jI vN_start), .int (jI vN_span), .int (jI vN_coin), .int (jI u.1)])), aI kI qN_costs 24 fN_costs, aI kI qN_zones 24 fN_zones, aI kI qN_neglects 6 fN_neglects, aI kI qN_chosen 6 u.2.1, aI kI qN_best 6 u.2.2, aI kI qN_spent 4 (wSp (pcs fN_costs) (pcs fN_zones) vN_span i cd), aI kI qN_scaffolds 32 (wSc (pcs fN_costs) (pcs fN_zones) vN_span i cd)]) := by
  refine xMv_of (cc := cX4_search) (maxL := 5) (by decide) rfl (Nat.le_of_ble_eq_true rfl) ?_
  intro p e s m args below meth c A Q F hin2 hret
  have hin4 : ∀ w ∈ wsX40, w ∈ wsX4_search := by decide +kernel
  have hw0 : Cond.fieldLink RX4 56 (TX4 12).1 (TX4 12).2.1 (TX4 12).2.2.1 ∈ wsX4_search := by decide +kernel
  have hw1 : Cond.fieldLink RX4 36 (TX4 8).1 (TX4 8).2.1 (TX4 8).2.2.1 ∈ wsX4_search := by decide +kernel
  refine x_lveq (lv' := [(0, .ref qN), (1, .int (jI i)), (2, .int (jI sum))]) rfl ?_
  have hcs9 : ∀ j t : Int, 0 ≤ j → j < 6 → 0 ≤ t → t < vN_span → 0 ≤ pcs fN_costs j t ∧ pcs fN_costs j t ≤ 50000 := fun j t a1 a2 a3 a4 => hNc (j * 4 + t) (by omega) (by omega)
  have hng9 : ∀ j : Int, 0 ≤ j → j < 6 → 0 ≤ fN_neglects j ∧ fN_neglects j ≤ 200000 := fun j a1 a2 => hNg j a1 a2
  have hn9 : 0 ≤ vN_span ∧ vN_span ≤ 4 := by omega
  have hT9 := wT_bd (zn := pcs fN_zones) hn9 hcs9 hng9 (i := i) (by omega) cd
  rw [← hsum] at hT9
  have hLr := ls_rng (vl := (wV (pcs fN_costs) (pcs fN_zones) fN_neglects vN_span vN_coin vN_size)) (cd * pwI vN_span 0)
  rw [← hl] at hLr
  have hpp := pwI_pos hn9.1 0
  have hcp : 0 ≤ cd * pwI vN_span 0 := Int.mul_nonneg hc (by omega)
  have hcq : (cd + 1) * pwI vN_span 0 = cd * pwI vN_span 0 + pwI vN_span 0 := by rw [Int.add_mul, Int.one_mul]
  refine x_iload_n F dX4_search_0 rfl 2 rfl ?_
  refine x_aload_n F dX4_search_1 rfl 0 rfl ?_
  refine x_get (ci := 4) F hin4 0 rfl rfl 12 (by decide) hw0 rfl dX4_search_2 ?_
  refine x_icmp_lt (tgt := 9) F dX4_search_5 (by decide) (by omega) (fun c5 => ?_) (fun c5 => ?_)
  · -- 5 t
    refine x_iload_n F dX4_search_9 rfl 1 rfl ?_
    refine x_if_lt (tgt := 27) F dX4_search_10 (by decide) (by omega) (fun c10 => ?_) (fun c10 => ?_)
    · exact absurd c10 (by omega)
    · -- 10 f
      refine x_iload_n F dX4_search_13 rfl 1 rfl ?_
      refine x_aload_n F dX4_search_14 rfl 0 rfl ?_
      refine x_get (ci := 4) F hin4 0 rfl rfl 8 (by decide) hw1 rfl dX4_search_15 ?_
      refine x_icmp_ge (tgt := 27) F dX4_search_18 (by decide) (by omega) (fun c18 => ?_) (fun c18 => ?_)
      · -- 18 t
        refine x_aload_n F dX4_search_27 rfl 0 rfl ?_
        refine x_iload_n F dX4_search_28 rfl 2 rfl ?_
        refine x_callVv (ci := 4) (q0 := 0) (As := [.int (jI sum)]) (st := []) F (c_X4_keep D kI kJ l qN sum qN_blocks qN_costs qN_zones qN_neglects qN_chosen qN_best qN_spent qN_scaffolds vN_size vN_start vN_span vN_coin vN_least fN_chosen fN_best ) (cwV 1 F.2.2.2.2.1 gX4_search_X4_keep rfl rfl rfl (by decide +kernel) ⟨Nat.le_of_ble_eq_true rfl, Nat.le_of_ble_eq_true rfl⟩) rfl rfl [0, 4, 5] [1, 2, 3, 6, 7] [5, 0, 1, 2, 6, 7, 3, 4] rfl rfl (by decide) (by decide) (by decide) (fun _ => rfl) (by decide) rfl (Nat.le_of_ble_eq_true rfl) dX4_search_29 ⟨Nat.le_of_ble_eq_true rfl, Nat.le_of_ble_eq_true rfl⟩ (fun u29 h29 => ?_)
        try dsimp only at h29
        refine x_ws [(qN, .inr (4, [.ref qN_blocks, .ref qN_costs, .ref qN_zones, .ref qN_neglects, .ref qN_chosen, .ref qN_best, .ref qN_spent, .ref qN_scaffolds, .int (jI vN_size), .int (jI vN_start), .int (jI vN_span), .int (jI vN_coin), .int (jI sum)])), aI kI qN_costs 24 fN_costs, aI kI qN_zones 24 fN_zones, aI kI qN_neglects 6 fN_neglects, aI kI qN_chosen 6 fN_chosen, aI kI qN_best 6 fN_chosen, aI kI qN_spent 4 (wSp (pcs fN_costs) (pcs fN_zones) vN_span i cd), aI kI qN_scaffolds 32 (wSc (pcs fN_costs) (pcs fN_zones) vN_span i cd)] rfl ?_
        have e1 : cd * pwI vN_span 0 = cd := Int.mul_one _
        have e2 : (cd + 1) * pwI vN_span 0 = cd + 1 := Int.mul_one _
        rw [e1] at hl
        have hvs : (wV (pcs fN_costs) (pcs fN_zones) fN_neglects vN_span vN_coin vN_size) cd = sum := by unfold wV; rw [← show i = vN_size by omega, if_pos hok]; exact hsum.symm
        have hst := lsI_s (vl := (wV (pcs fN_costs) (pcs fN_zones) fN_neglects vN_span vN_coin vN_size)) hc
        rw [hvs, ← hl, if_pos (by omega), if_pos (by omega)] at hst
        exact hret 0 0 32 _ (sum, fN_chosen, fN_chosen) (Nat.le_of_ble_eq_true rfl) (Nat.le_of_ble_eq_true rfl) dX4_search_32 (by (try dsimp only); exact (⟨by rw [e2]; exact hst.1.symm, by rw [e2, hst.2]; exact fun _ j j0 j1 => by have g := hch j j0 (by omega); rw [show i = vN_size by omega] at g; exact g, fun j _ _ => rfl, hNq, hNq⟩))
      · exact absurd c18 (by omega)
  · -- 5 f
    have hov := ls_over (vl := (wV (pcs fN_costs) (pcs fN_zones) fN_neglects vN_span vN_coin vN_size)) (a := cd * pwI vN_span 0) (b := (cd + 1) * pwI vN_span 0) (by omega) (wV_prune hn9 hcs9 hng9 hi.1 0 ⟨hi.2.1, hi.2.2⟩ (by rw [← hl, ← hsum]; omega))
    exact hret 0 0 8 _ (vN_least, fN_chosen, fN_best) (Nat.le_of_ble_eq_true rfl) (Nat.le_of_ble_eq_true rfl) dX4_search_8 (by (try dsimp only); exact (⟨by rw [hov.1]; exact hl, by rw [hov.2]; exact hb, fun j _ _ => rfl, hNq, hNb⟩))
set_option maxHeartbeats 4000000 in
set_option maxRecDepth 100000 in
theorem c_X4_search_1 (D : va_G) (kI kJ : Nat) (l : Launch) (qN : Nat) (i : Int) (sum : Int) (qN_blocks : Nat) (qN_costs : Nat) (qN_zones : Nat) (qN_neglects : Nat) (qN_chosen : Nat) (qN_best : Nat) (qN_spent : Nat) (qN_scaffolds : Nat) (vN_size : Int) (vN_start : Int) (vN_span : Int) (vN_coin : Int) (vN_least : Int) (fN_costs : (Int → Int)) (fN_zones : (Int → Int)) (fN_neglects : (Int → Int)) (fN_chosen : (Int → Int)) (fN_best : (Int → Int)) (cd : Int) (hi : 0 ≤ i ∧ i + 1 = vN_size ∧ vN_size ≤ 6) (hn4 : 1 ≤ vN_span ∧ vN_span ≤ 4) (hc : 0 ≤ cd) (hco : 0 ≤ vN_coin ∧ vN_coin ≤ 1000) (hNc : Rg fN_costs 24 0 50000) (hNz : Rg fN_zones 24 0 7) (hNg : Rg fN_neglects 6 0 200000) (hNq : Rg fN_chosen 6 (-1) 3) (hNb : Rg fN_best 6 (-1) 3) (hsum : sum = wT (pcs fN_costs) (pcs fN_zones) fN_neglects vN_span i cd) (hok : wK (pcs fN_costs) (pcs fN_zones) vN_span vN_coin i cd = true) (hl : vN_least = lsI (wV (pcs fN_costs) (pcs fN_zones) fN_neglects vN_span vN_coin vN_size) (cd * pwI vN_span 1)) (hb : 0 ≤ bsI (wV (pcs fN_costs) (pcs fN_zones) fN_neglects vN_span vN_coin vN_size) (cd * pwI vN_span 1) → ∀ j : Int, 0 ≤ j → j < vN_size → fN_best j = chD vN_span (dg vN_span vN_size (bsI (wV (pcs fN_costs) (pcs fN_zones) fN_neglects vN_span vN_coin vN_size) (cd * pwI vN_span 1)) j)) (hch : ∀ j : Int, 0 ≤ j → j < i → fN_chosen j = chD vN_span (dg vN_span i cd j)) : xMv D kI kJ l yX4_search wsX4_search 4 109 0 0 [.ref qN, .int (jI i), .int (jI sum)] [(qN, .inr (4, [.ref qN_blocks, .ref qN_costs, .ref qN_zones, .ref qN_neglects, .ref qN_chosen, .ref qN_best, .ref qN_spent, .ref qN_scaffolds, .int (jI vN_size), .int (jI vN_start), .int (jI vN_span), .int (jI vN_coin), .int (jI vN_least)])), aI kI qN_costs 24 fN_costs, aI kI qN_zones 24 fN_zones, aI kI qN_neglects 6 fN_neglects, aI kI qN_chosen 6 fN_chosen, aI kI qN_best 6 fN_best, aI kI qN_spent 4 (wSp (pcs fN_costs) (pcs fN_zones) vN_span i cd), aI kI qN_scaffolds 32 (wSc (pcs fN_costs) (pcs fN_zones) vN_span i cd)] (fun (u : Int × (Int → Int) × (Int → Int)) => (u.1 = lsI (wV (pcs fN_costs) (pcs fN_zones) fN_neglects vN_span vN_coin vN_size) ((cd + 1) * pwI vN_span 1)) ∧ (0 ≤ bsI (wV (pcs fN_costs) (pcs fN_zones) fN_neglects vN_span vN_coin vN_size) ((cd + 1) * pwI vN_span 1) → ∀ j : Int, 0 ≤ j → j < vN_size → u.2.2 j = chD vN_span (dg vN_span vN_size (bsI (wV (pcs fN_costs) (pcs fN_zones) fN_neglects vN_span vN_coin vN_size) ((cd + 1) * pwI vN_span 1)) j)) ∧ (∀ j : Int, 0 ≤ j → j < i → u.2.1 j = fN_chosen j) ∧ (Rg u.2.1 6 (-1) 3) ∧ (Rg u.2.2 6 (-1) 3)) (fun (u : Int × (Int → Int) × (Int → Int)) => [(qN, .inr (4, [.ref qN_blocks, .ref qN_costs, .ref qN_zones, .ref qN_neglects, .ref qN_chosen, .ref qN_best, .ref qN_spent, .ref qN_scaffolds, .int (jI vN_size), .int (jI vN_start), .int (jI vN_span), .int (jI vN_coin), .int (jI u.1)])), aI kI qN_costs 24 fN_costs, aI kI qN_zones 24 fN_zones, aI kI qN_neglects 6 fN_neglects, aI kI qN_chosen 6 u.2.1, aI kI qN_best 6 u.2.2, aI kI qN_spent 4 (wSp (pcs fN_costs) (pcs fN_zones) vN_span i cd), aI kI qN_scaffolds 32 (wSc (pcs fN_costs) (pcs fN_zones) vN_span i cd)]) := by
  refine xMv_of (cc := cX4_search) (maxL := 5) (by decide) rfl (Nat.le_of_ble_eq_true rfl) ?_
  intro p e s m args below meth c A Q F hin2 hret
  have hin4 : ∀ w ∈ wsX40, w ∈ wsX4_search := by decide +kernel
  have hw0 : Cond.fieldLink RX4 56 (TX4 12).1 (TX4 12).2.1 (TX4 12).2.2.1 ∈ wsX4_search := by decide +kernel
  have hw1 : Cond.fieldLink RX4 36 (TX4 8).1 (TX4 8).2.1 (TX4 8).2.2.1 ∈ wsX4_search := by decide +kernel
  have hw2 : Cond.fieldLink RX4 49 (TX4 10).1 (TX4 10).2.1 (TX4 10).2.2.1 ∈ wsX4_search := by decide +kernel
  have hw3 : Cond.fieldLink RX4 24 (TX4 4).1 (TX4 4).2.1 (TX4 4).2.2.1 ∈ wsX4_search := by decide +kernel
  have hw4 : Cond.fieldLink RX4 21 (TX4 3).1 (TX4 3).2.1 (TX4 3).2.2.1 ∈ wsX4_search := by decide +kernel
  have hw5 : Cond.fieldLink RX4 30 (TX4 6).1 (TX4 6).2.1 (TX4 6).2.2.1 ∈ wsX4_search := by decide +kernel
  have hw6 : Cond.initialized yX9_at.cls ∈ wsX4_search := by decide +kernel
  have hw7 : Cond.static yX9_at ∈ wsX4_search := by decide +kernel
  have hw8 : Cond.fieldLink RX4 52 (TX4 11).1 (TX4 11).2.1 (TX4 11).2.2.1 ∈ wsX4_search := by decide +kernel
  refine x_lveq (lv' := [(0, .ref qN), (1, .int (jI i)), (2, .int (jI sum))]) rfl ?_
  have hcs9 : ∀ j t : Int, 0 ≤ j → j < 6 → 0 ≤ t → t < vN_span → 0 ≤ pcs fN_costs j t ∧ pcs fN_costs j t ≤ 50000 := fun j t a1 a2 a3 a4 => hNc (j * 4 + t) (by omega) (by omega)
  have hng9 : ∀ j : Int, 0 ≤ j → j < 6 → 0 ≤ fN_neglects j ∧ fN_neglects j ≤ 200000 := fun j a1 a2 => hNg j a1 a2
  have hn9 : 0 ≤ vN_span ∧ vN_span ≤ 4 := by omega
  have hT9 := wT_bd (zn := pcs fN_zones) hn9 hcs9 hng9 (i := i) (by omega) cd
  rw [← hsum] at hT9
  have hLr := ls_rng (vl := (wV (pcs fN_costs) (pcs fN_zones) fN_neglects vN_span vN_coin vN_size)) (cd * pwI vN_span 1)
  rw [← hl] at hLr
  have hpp := pwI_pos hn9.1 1
  have hcp : 0 ≤ cd * pwI vN_span 1 := Int.mul_nonneg hc (by omega)
  have hcq : (cd + 1) * pwI vN_span 1 = cd * pwI vN_span 1 + pwI vN_span 1 := by rw [Int.add_mul, Int.one_mul]
  refine x_iload_n F dX4_search_0 rfl 2 rfl ?_
  refine x_aload_n F dX4_search_1 rfl 0 rfl ?_
  refine x_get (ci := 4) F hin4 0 rfl rfl 12 (by decide) hw0 rfl dX4_search_2 ?_
  refine x_icmp_lt (tgt := 9) F dX4_search_5 (by decide) (by omega) (fun c5 => ?_) (fun c5 => ?_)
  · -- 5 t
    have hcn : 0 ≤ cd * (vN_span + 1) := Int.mul_nonneg hc (by omega)
    have hSc9 : Rg (wSc (pcs fN_costs) (pcs fN_zones) vN_span i cd) 32 0 6 := fun k _ _ => by have := wSc_bd (zn := pcs fN_zones) hn9 hcs9 (i := i) (by omega) cd k; omega
    have hSp9 : Rg (wSp (pcs fN_costs) (pcs fN_zones) vN_span i cd) 4 0 400000 := fun k _ _ => by have := wSp_bd (zn := pcs fN_zones) hn9 hcs9 (i := i) (by omega) cd k; omega
    have hqq := pwI_pos hn9.1 0
    refine x_iload_n F dX4_search_9 rfl 1 rfl ?_
    refine x_if_lt (tgt := 27) F dX4_search_10 (by decide) (by omega) (fun c10 => ?_) (fun c10 => ?_)
    · exact absurd c10 (by omega)
    · -- 10 f
      refine x_iload_n F dX4_search_13 rfl 1 rfl ?_
      refine x_aload_n F dX4_search_14 rfl 0 rfl ?_
      refine x_get (ci := 4) F hin4 0 rfl rfl 8 (by decide) hw1 rfl dX4_search_15 ?_
      refine x_icmp_ge (tgt := 27) F dX4_search_18 (by decide) (by omega) (fun c18 => ?_) (fun c18 => ?_)
      · exact absurd c18 (by omega)
      · -- 18 f
        refine x_iload_n F dX4_search_21 rfl 1 rfl ?_
        refine x_bipush F dX4_search_22 (by decide) ?_
        refine x_icmp_lt (tgt := 33) F dX4_search_24 (by decide) (by omega) (fun c24 => ?_) (fun c24 => ?_)
        · -- 24 t
          refine x_iconst F dX4_search_33 ?_
          refine x_istore_n (lv' := [(0, .ref qN), (1, .int (jI i)), (2, .int (jI sum)), (3, .int (jI 0))]) F dX4_search_34 rfl (by decide) [1, 2, 3, 0] rfl ?_
          have lp35 : ∀ (fu : Nat) (t9 : Int) (l9 : Int) (ch9 : (Int → Int)) (b9 : (Int → Int)) (ht9 : 0 ≤ t9 ∧ t9 ≤ vN_span) (hl9 : l9 = lsI (wV (pcs fN_costs) (pcs fN_zones) fN_neglects vN_span vN_coin vN_size) ((cd * (vN_span + 1) + t9) * pwI vN_span 0)) (hb9 : 0 ≤ bsI (wV (pcs fN_costs) (pcs fN_zones) fN_neglects vN_span vN_coin vN_size) ((cd * (vN_span + 1) + t9) * pwI vN_span 0) → ∀ j : Int, 0 ≤ j → j < vN_size → b9 j = chD vN_span (dg vN_span vN_size (bsI (wV (pcs fN_costs) (pcs fN_zones) fN_neglects vN_span vN_coin vN_size) ((cd * (vN_span + 1) + t9) * pwI vN_span 0)) j)) (hch9 : ∀ j : Int, 0 ≤ j → j < i → ch9 j = chD vN_span (dg vN_span i cd j)) (hq9 : Rg ch9 6 (-1) 3) (hbr9 : Rg b9 6 (-1) 3) (hm : vN_span - t9 < (fu : Int)), xG D p l e (xRm 4 109 0 0) s m args below meth c 5 A Q 0 0 [(qN, .inr (4, [.ref qN_blocks, .ref qN_costs, .ref qN_zones, .ref qN_neglects, .ref qN_chosen, .ref qN_best, .ref qN_spent, .ref qN_scaffolds, .int (jI vN_size), .int (jI vN_start), .int (jI vN_span), .int (jI vN_coin), .int (jI l9)])), aI kI qN_costs 24 fN_costs, aI kI qN_zones 24 fN_zones, aI kI qN_neglects 6 fN_neglects, aI kI qN_chosen 6 ch9, aI kI qN_best 6 b9, aI kI qN_spent 4 (wSp (pcs fN_costs) (pcs fN_zones) vN_span i cd), aI kI qN_scaffolds 32 (wSc (pcs fN_costs) (pcs fN_zones) vN_span i cd)] [(0, .ref qN), (1, .int (jI i)), (2, .int (jI sum)), (3, .int (jI t9))] 35 [] := by
            intro fu
            induction fu with
            | zero =>
              intro t9 l9 ch9 b9 ht9 hl9 hb9 hch9 hq9 hbr9 hm
              exact absurd hm (by omega)
            | succ fu ih35 =>
              intro t9 l9 ch9 b9 ht9 hl9 hb9 hch9 hq9 hbr9 hm
              refine x_iload_n F dX4_search_35 rfl 3 rfl ?_
              refine x_aload_n F dX4_search_36 rfl 0 rfl ?_
              refine x_get (ci := 4) F hin4 0 rfl rfl 10 (by decide) hw2 rfl dX4_search_37 ?_
              refine x_icmp_ge (tgt := 96) F dX4_search_40 (by decide) (by omega) (fun c40 => ?_) (fun c40 => ?_)
              · -- 40 t
                have ht8 : t9 = vN_span := by omega
                rw [ht8] at hl9 hb9
                refine x_aload_n F dX4_search_96 rfl 0 rfl ?_
                refine x_get (ci := 4) F hin4 0 rfl rfl 4 (by decide) hw3 rfl dX4_search_97 ?_
                refine x_iload_n F dX4_search_100 rfl 1 rfl ?_
                refine x_iconst F dX4_search_101 ?_
                refine x_iast F 4 rfl (by decide) (by omega) dX4_search_102 [(qN, .inr (4, [.ref qN_blocks, .ref qN_costs, .ref qN_zones, .ref qN_neglects, .ref qN_chosen, .ref qN_best, .ref qN_spent, .ref qN_scaffolds, .int (jI vN_size), .int (jI vN_start), .int (jI vN_span), .int (jI vN_coin), .int (jI l9)])), aI kI qN_costs 24 fN_costs, aI kI qN_zones 24 fN_zones, aI kI qN_neglects 6 fN_neglects, aI kI qN_chosen 6 (iU ch9 i (-1)), aI kI qN_best 6 b9, aI kI qN_spent 4 (wSp (pcs fN_costs) (pcs fN_zones) vN_span i cd), aI kI qN_scaffolds 32 (wSc (pcs fN_costs) (pcs fN_zones) vN_span i cd)] rfl ?_
                refine x_ext 6 rfl (wSp (pcs fN_costs) (pcs fN_zones) vN_span (i + 1) (cd * (vN_span + 1) + vN_span)) (fun k _ _ => by rw [(wS_n hi.1 hn9.1).1]) [(qN, .inr (4, [.ref qN_blocks, .ref qN_costs, .ref qN_zones, .ref qN_neglects, .ref qN_chosen, .ref qN_best, .ref qN_spent, .ref qN_scaffolds, .int (jI vN_size), .int (jI vN_start), .int (jI vN_span), .int (jI vN_coin), .int (jI l9)])), aI kI qN_costs 24 fN_costs, aI kI qN_zones 24 fN_zones, aI kI qN_neglects 6 fN_neglects, aI kI qN_chosen 6 (iU ch9 i (-1)), aI kI qN_best 6 b9, aI kI qN_spent 4 (wSp (pcs fN_costs) (pcs fN_zones) vN_span (i + 1) (cd * (vN_span + 1) + vN_span)), aI kI qN_scaffolds 32 (wSc (pcs fN_costs) (pcs fN_zones) vN_span i cd)] rfl ?_
                refine x_ext 7 rfl (wSc (pcs fN_costs) (pcs fN_zones) vN_span (i + 1) (cd * (vN_span + 1) + vN_span)) (fun k _ _ => by rw [(wS_n hi.1 hn9.1).2]) [(qN, .inr (4, [.ref qN_blocks, .ref qN_costs, .ref qN_zones, .ref qN_neglects, .ref qN_chosen, .ref qN_best, .ref qN_spent, .ref qN_scaffolds, .int (jI vN_size), .int (jI vN_start), .int (jI vN_span), .int (jI vN_coin), .int (jI l9)])), aI kI qN_costs 24 fN_costs, aI kI qN_zones 24 fN_zones, aI kI qN_neglects 6 fN_neglects, aI kI qN_chosen 6 (iU ch9 i (-1)), aI kI qN_best 6 b9, aI kI qN_spent 4 (wSp (pcs fN_costs) (pcs fN_zones) vN_span (i + 1) (cd * (vN_span + 1) + vN_span)), aI kI qN_scaffolds 32 (wSc (pcs fN_costs) (pcs fN_zones) vN_span (i + 1) (cd * (vN_span + 1) + vN_span))] rfl ?_
                refine x_aload_n F dX4_search_103 rfl 0 rfl ?_
                refine x_iload_n F dX4_search_104 rfl 1 rfl ?_
                refine x_iconst F dX4_search_105 ?_
                refine x_iadd F dX4_search_106 ?_
                refine x_iload_n F dX4_search_107 rfl 2 rfl ?_
                refine x_aload_n F dX4_search_108 rfl 0 rfl ?_
                refine x_get (ci := 4) F hin4 0 rfl rfl 3 (by decide) hw4 rfl dX4_search_109 ?_
                refine x_iload_n F dX4_search_112 rfl 1 rfl ?_
                refine x_iald F 3 rfl (by decide) (by omega) dX4_search_113 ?_
                have hr113 := Rg.at hNg i (by omega)
                refine x_iadd F dX4_search_114 ?_
                refine x_callSv (As := [.ref qN, .int (jI (i + 1)), .int (jI (sum + (fN_neglects i)))]) (st := []) F (c_X4_search_0 D kI kJ l qN (i + 1) (sum + (fN_neglects i)) qN_blocks qN_costs qN_zones qN_neglects qN_chosen qN_best qN_spent qN_scaffolds vN_size vN_start vN_span vN_coin l9 fN_costs fN_zones fN_neglects (iU ch9 i (-1)) b9 (cd * (vN_span + 1) + vN_span) (by omega) hn4 (by omega) hco hNc hNz hNg (Rg.up hq9 _ _ (by omega)) hbr9 (by rw [wT_n hi.1 hn9.1, ← hsum]) ((wK_n hi.1 hn9.1).2 hok) hl9 hb9 (fun j j0 j1 => by rw [dg_t hi.1 (by omega)]; by_cases q : j = i; (rw [q, iU_s, if_pos rfl]; unfold chD; rw [if_pos rfl]); (rw [iU_n q, if_neg q]; exact hch9 j j0 (by omega)))) (va_cwS 3 F.2.2.2.2.1 gX4_search_X4_search rfl rfl rfl (by decide +kernel) ⟨Nat.le_of_ble_eq_true rfl, Nat.le_of_ble_eq_true rfl⟩) [0, 1, 2, 3, 4, 5, 6, 7] [] [0, 1, 2, 3, 4, 5, 6, 7] rfl rfl (by decide) (by decide) (by decide) (fun _ => rfl) (by decide) rfl (Nat.le_of_ble_eq_true rfl) dX4_search_115 ⟨Nat.le_of_ble_eq_true rfl, Nat.le_of_ble_eq_true rfl⟩ (fun u115 h115 => ?_)
                obtain ⟨l2_115, ch2_115, b2_115⟩ := u115
                try dsimp only at h115
                refine x_ws [(qN, .inr (4, [.ref qN_blocks, .ref qN_costs, .ref qN_zones, .ref qN_neglects, .ref qN_chosen, .ref qN_best, .ref qN_spent, .ref qN_scaffolds, .int (jI vN_size), .int (jI vN_start), .int (jI vN_span), .int (jI vN_coin), .int (jI l2_115)])), aI kI qN_costs 24 fN_costs, aI kI qN_zones 24 fN_zones, aI kI qN_neglects 6 fN_neglects, aI kI qN_chosen 6 ch2_115, aI kI qN_best 6 b2_115, aI kI qN_spent 4 (wSp (pcs fN_costs) (pcs fN_zones) vN_span (i + 1) (cd * (vN_span + 1) + vN_span)), aI kI qN_scaffolds 32 (wSc (pcs fN_costs) (pcs fN_zones) vN_span (i + 1) (cd * (vN_span + 1) + vN_span))] rfl ?_
                obtain ⟨hl2_115, hb2_115, hc2_115, hq2_115, hb3_115⟩ := h115
                refine x_ext 6 rfl (wSp (pcs fN_costs) (pcs fN_zones) vN_span i cd) (fun k _ _ => by rw [(wS_n hi.1 hn9.1).1]) [(qN, .inr (4, [.ref qN_blocks, .ref qN_costs, .ref qN_zones, .ref qN_neglects, .ref qN_chosen, .ref qN_best, .ref qN_spent, .ref qN_scaffolds, .int (jI vN_size), .int (jI vN_start), .int (jI vN_span), .int (jI vN_coin), .int (jI l2_115)])), aI kI qN_costs 24 fN_costs, aI kI qN_zones 24 fN_zones, aI kI qN_neglects 6 fN_neglects, aI kI qN_chosen 6 ch2_115, aI kI qN_best 6 b2_115, aI kI qN_spent 4 (wSp (pcs fN_costs) (pcs fN_zones) vN_span i cd), aI kI qN_scaffolds 32 (wSc (pcs fN_costs) (pcs fN_zones) vN_span (i + 1) (cd * (vN_span + 1) + vN_span))] rfl ?_
                refine x_ext 7 rfl (wSc (pcs fN_costs) (pcs fN_zones) vN_span i cd) (fun k _ _ => by rw [(wS_n hi.1 hn9.1).2]) [(qN, .inr (4, [.ref qN_blocks, .ref qN_costs, .ref qN_zones, .ref qN_neglects, .ref qN_chosen, .ref qN_best, .ref qN_spent, .ref qN_scaffolds, .int (jI vN_size), .int (jI vN_start), .int (jI vN_span), .int (jI vN_coin), .int (jI l2_115)])), aI kI qN_costs 24 fN_costs, aI kI qN_zones 24 fN_zones, aI kI qN_neglects 6 fN_neglects, aI kI qN_chosen 6 ch2_115, aI kI qN_best 6 b2_115, aI kI qN_spent 4 (wSp (pcs fN_costs) (pcs fN_zones) vN_span i cd), aI kI qN_scaffolds 32 (wSc (pcs fN_costs) (pcs fN_zones) vN_span i cd)] rfl ?_
                exact hret 0 0 118 _ (l2_115, ch2_115, b2_115) (Nat.le_of_ble_eq_true rfl) (Nat.le_of_ble_eq_true rfl) dX4_search_118 (by (try dsimp only); exact (⟨by rw [(pw_in vN_span cd 0 0).2]; exact hl2_115, by rw [(pw_in vN_span cd 0 0).2]; exact hb2_115, fun j j0 j1 => by rw [hc2_115 j j0 (by omega), iU_n (by omega), hch9 j j0 j1]; exact (hch j j0 j1).symm, hq2_115, hb3_115⟩))
              · -- 40 f
                refine x_iload_n F dX4_search_43 rfl 3 rfl ?_
                refine x_iconst F dX4_search_44 ?_
                refine x_icmp_ge (tgt := 96) F dX4_search_45 (by decide) (by omega) (fun c45 => ?_) (fun c45 => ?_)
                · exact absurd c45 (by omega)
                · -- 45 f
                  refine x_aload_n F dX4_search_48 rfl 0 rfl ?_
                  refine x_iload_n F dX4_search_49 rfl 1 rfl ?_
                  refine x_iload_n F dX4_search_50 rfl 3 rfl ?_
                  refine x_callVi (ci := 4) (q0 := 0) (As := [.int (jI i), .int (jI t9)]) (st := []) F (c_X4_doWork D kI kJ l qN i t9 qN_blocks qN_costs qN_zones qN_neglects qN_chosen qN_best qN_spent qN_scaffolds vN_size vN_start vN_span vN_coin l9 fN_costs fN_zones (wSp (pcs fN_costs) (pcs fN_zones) vN_span i cd) (wSc (pcs fN_costs) (pcs fN_zones) vN_span i cd) ch9 (by omega) hNc hNz hSc9 hSp9) (cwV 2 F.2.2.2.2.1 gX4_search_X4_doWork rfl rfl rfl (by decide +kernel) ⟨Nat.le_of_ble_eq_true rfl, Nat.le_of_ble_eq_true rfl⟩) rfl rfl [0, 1, 2, 6, 7, 4] [3, 5] [2, 3, 4, 0, 7, 1, 5, 6] rfl rfl (by decide) (by decide) (by decide) (fun _ => rfl) (by decide) rfl (Nat.le_of_ble_eq_true rfl) dX4_search_51 ⟨Nat.le_of_ble_eq_true rfl, Nat.le_of_ble_eq_true rfl⟩ (fun z51 u51 h51 => ?_)
                  obtain ⟨s2_51, rfl⟩ : ∃ z, z = u51 := ⟨_, rfl⟩
                  try dsimp only at h51
                  refine x_ws [(qN, .inr (4, [.ref qN_blocks, .ref qN_costs, .ref qN_zones, .ref qN_neglects, .ref qN_chosen, .ref qN_best, .ref qN_spent, .ref qN_scaffolds, .int (jI vN_size), .int (jI vN_start), .int (jI vN_span), .int (jI vN_coin), .int (jI l9)])), aI kI qN_costs 24 fN_costs, aI kI qN_zones 24 fN_zones, aI kI qN_neglects 6 fN_neglects, aI kI qN_chosen 6 (iU ch9 i t9), aI kI qN_best 6 b9, aI kI qN_spent 4 s2_51, aI kI qN_scaffolds 32 (iU (wSc (pcs fN_costs) (pcs fN_zones) vN_span i cd) (t9 * 8 + fN_zones (i * 4 + t9)) ((wSc (pcs fN_costs) (pcs fN_zones) vN_span i cd) (t9 * 8 + fN_zones (i * 4 + t9)) + 1))] rfl ?_
                  obtain ⟨he51, hs_51⟩ := h51
                  have he51 := he51.symm
                  subst he51
                  have hbd9 := wSp_bd (zn := pcs fN_zones) hn9 hcs9 (i := i + 1) (by omega) (cd * (vN_span + 1) + t9) t9
                  refine x_istore (lv' := [(0, .ref qN), (1, .int (jI i)), (2, .int (jI sum)), (3, .int (jI t9)), (4, .int (jI (fN_costs (i * 4 + t9) + (if (wSc (pcs fN_costs) (pcs fN_zones) vN_span i cd) (t9 * 8 + fN_zones (i * 4 + t9)) = 0 then 25 else 0))))]) F dX4_search_54 (by decide) [1, 2, 3, 4, 0] rfl ?_
                  refine x_ext 6 rfl (wSp (pcs fN_costs) (pcs fN_zones) vN_span (i + 1) (cd * (vN_span + 1) + t9)) (fun k _ _ => by rw [hs_51, (wS_t hi.1 (by omega)).1]; rfl) [(qN, .inr (4, [.ref qN_blocks, .ref qN_costs, .ref qN_zones, .ref qN_neglects, .ref qN_chosen, .ref qN_best, .ref qN_spent, .ref qN_scaffolds, .int (jI vN_size), .int (jI vN_start), .int (jI vN_span), .int (jI vN_coin), .int (jI l9)])), aI kI qN_costs 24 fN_costs, aI kI qN_zones 24 fN_zones, aI kI qN_neglects 6 fN_neglects, aI kI qN_chosen 6 (iU ch9 i t9), aI kI qN_best 6 b9, aI kI qN_spent 4 (wSp (pcs fN_costs) (pcs fN_zones) vN_span (i + 1) (cd * (vN_span + 1) + t9)), aI kI qN_scaffolds 32 (iU (wSc (pcs fN_costs) (pcs fN_zones) vN_span i cd) (t9 * 8 + fN_zones (i * 4 + t9)) ((wSc (pcs fN_costs) (pcs fN_zones) vN_span i cd) (t9 * 8 + fN_zones (i * 4 + t9)) + 1))] rfl ?_
                  refine x_ext 7 rfl (wSc (pcs fN_costs) (pcs fN_zones) vN_span (i + 1) (cd * (vN_span + 1) + t9)) (fun k _ _ => by rw [(wS_t hi.1 (by omega)).2]; rfl) [(qN, .inr (4, [.ref qN_blocks, .ref qN_costs, .ref qN_zones, .ref qN_neglects, .ref qN_chosen, .ref qN_best, .ref qN_spent, .ref qN_scaffolds, .int (jI vN_size), .int (jI vN_start), .int (jI vN_span), .int (jI vN_coin), .int (jI l9)])), aI kI qN_costs 24 fN_costs, aI kI qN_zones 24 fN_zones, aI kI qN_neglects 6 fN_neglects, aI kI qN_chosen 6 (iU ch9 i t9), aI kI qN_best 6 b9, aI kI qN_spent 4 (wSp (pcs fN_costs) (pcs fN_zones) vN_span (i + 1) (cd * (vN_span + 1) + t9)), aI kI qN_scaffolds 32 (wSc (pcs fN_costs) (pcs fN_zones) vN_span (i + 1) (cd * (vN_span + 1) + t9))] rfl ?_
                  refine x_aload_n F dX4_search_56 rfl 0 rfl ?_
                  refine x_get (ci := 4) F hin4 0 rfl rfl 6 (by decide) hw5 rfl dX4_search_57 ?_
                  refine x_iload_n F dX4_search_60 rfl 3 rfl ?_
                  refine x_callSNi (As := [.ref qN_spent, .int (jI t9)]) (st := []) F (c_X9_at D kI kJ l qN_spent t9 4 (wSp (pcs fN_costs) (pcs fN_zones) vN_span (i + 1) (cd * (vN_span + 1) + t9)) (by omega) (by omega)) ⟨va_cnB 2 F.2.2.2.2.1 gX4_search_X9_at_n85 rfl rfl rfl (nM20 F.2.2.2.2.2.2.2) (F.2.2.2.2.1 _ hw6) (by decide +kernel) ⟨Nat.le_of_ble_eq_true rfl, Nat.le_of_ble_eq_true rfl⟩, F.2.2.2.2.1 _ hw7, trivial⟩ [6] [0, 1, 2, 3, 4, 5, 7] [0, 1, 2, 3, 4, 5, 7, 6] rfl rfl (by decide) (by decide) (by decide) (fun _ => rfl) (by decide) rfl (Nat.le_of_ble_eq_true rfl) dX4_search_61 ⟨Nat.le_of_ble_eq_true rfl, Nat.le_of_ble_eq_true rfl⟩ (fun z61 u61 h61 => ?_)
                  try dsimp only at h61
                  refine x_ws [(qN, .inr (4, [.ref qN_blocks, .ref qN_costs, .ref qN_zones, .ref qN_neglects, .ref qN_chosen, .ref qN_best, .ref qN_spent, .ref qN_scaffolds, .int (jI vN_size), .int (jI vN_start), .int (jI vN_span), .int (jI vN_coin), .int (jI l9)])), aI kI qN_costs 24 fN_costs, aI kI qN_zones 24 fN_zones, aI kI qN_neglects 6 fN_neglects, aI kI qN_chosen 6 (iU ch9 i t9), aI kI qN_best 6 b9, aI kI qN_spent 4 (wSp (pcs fN_costs) (pcs fN_zones) vN_span (i + 1) (cd * (vN_span + 1) + t9)), aI kI qN_scaffolds 32 (wSc (pcs fN_costs) (pcs fN_zones) vN_span (i + 1) (cd * (vN_span + 1) + t9))] rfl ?_
                  have he61 := h61
                  have he61 := he61.symm
                  subst he61
                  refine x_aload_n F dX4_search_64 rfl 0 rfl ?_
                  refine x_get (ci := 4) F hin4 0 rfl rfl 11 (by decide) hw8 rfl dX4_search_65 ?_
                  have jn82 : ∀ (l8 : Int) (ch8 : (Int → Int)) (b8 : (Int → Int)) (hl8 : l8 = lsI (wV (pcs fN_costs) (pcs fN_zones) fN_neglects vN_span vN_coin vN_size) (((cd * (vN_span + 1) + t9) + 1) * pwI vN_span 0)) (hb8 : 0 ≤ bsI (wV (pcs fN_costs) (pcs fN_zones) fN_neglects vN_span vN_coin vN_size) (((cd * (vN_span + 1) + t9) + 1) * pwI vN_span 0) → ∀ j : Int, 0 ≤ j → j < vN_size → b8 j = chD vN_span (dg vN_span vN_size (bsI (wV (pcs fN_costs) (pcs fN_zones) fN_neglects vN_span vN_coin vN_size) (((cd * (vN_span + 1) + t9) + 1) * pwI vN_span 0)) j)) (hch8 : ∀ j : Int, 0 ≤ j → j < i → ch8 j = chD vN_span (dg vN_span i cd j)) (hq8 : Rg ch8 6 (-1) 3) (hbr8 : Rg b8 6 (-1) 3), xG D p l e (xRm 4 109 0 0) s m args below meth c 5 A Q 0 0 [(qN, .inr (4, [.ref qN_blocks, .ref qN_costs, .ref qN_zones, .ref qN_neglects, .ref qN_chosen, .ref qN_best, .ref qN_spent, .ref qN_scaffolds, .int (jI vN_size), .int (jI vN_start), .int (jI vN_span), .int (jI vN_coin), .int (jI l8)])), aI kI qN_costs 24 fN_costs, aI kI qN_zones 24 fN_zones, aI kI qN_neglects 6 fN_neglects, aI kI qN_chosen 6 ch8, aI kI qN_best 6 b8, aI kI qN_spent 4 (wSp (pcs fN_costs) (pcs fN_zones) vN_span (i + 1) (cd * (vN_span + 1) + t9)), aI kI qN_scaffolds 32 (wSc (pcs fN_costs) (pcs fN_zones) vN_span (i + 1) (cd * (vN_span + 1) + t9))] [(0, .ref qN), (1, .int (jI i)), (2, .int (jI sum)), (3, .int (jI t9)), (4, .int (jI (fN_costs (i * 4 + t9) + (if (wSc (pcs fN_costs) (pcs fN_zones) vN_span i cd) (t9 * 8 + fN_zones (i * 4 + t9)) = 0 then 25 else 0))))] 82 [] := by
                    intro l8 ch8 b8 hl8 hb8 hch8 hq8 hbr8
                    refine x_aload_n F dX4_search_82 rfl 0 rfl ?_
                    refine x_iload_n F dX4_search_83 rfl 1 rfl ?_
                    refine x_iload_n F dX4_search_84 rfl 3 rfl ?_
                    refine x_iload F dX4_search_85 4 rfl ?_
                    refine x_callVv (ci := 4) (q0 := 0) (As := [.int (jI i), .int (jI t9), .int (jI (fN_costs (i * 4 + t9) + (if (wSc (pcs fN_costs) (pcs fN_zones) vN_span i cd) (t9 * 8 + fN_zones (i * 4 + t9)) = 0 then 25 else 0)))]) (st := []) F (c_X4_undoWork D kI kJ l qN i t9 (fN_costs (i * 4 + t9) + (if (wSc (pcs fN_costs) (pcs fN_zones) vN_span i cd) (t9 * 8 + fN_zones (i * 4 + t9)) = 0 then 25 else 0)) qN_blocks qN_costs qN_zones qN_neglects qN_chosen qN_best qN_spent qN_scaffolds vN_size vN_start vN_span vN_coin l8 fN_zones (wSp (pcs fN_costs) (pcs fN_zones) vN_span (i + 1) (cd * (vN_span + 1) + t9)) (wSc (pcs fN_costs) (pcs fN_zones) vN_span (i + 1) (cd * (vN_span + 1) + t9)) (by omega) hNz) (cwV 3 F.2.2.2.2.1 gX4_search_X4_undoWork rfl rfl rfl (by decide +kernel) ⟨Nat.le_of_ble_eq_true rfl, Nat.le_of_ble_eq_true rfl⟩) rfl rfl [0, 2, 6, 7] [1, 3, 4, 5] [4, 0, 5, 1, 2, 3, 6, 7] rfl rfl (by decide) (by decide) (by decide) (fun _ => rfl) (by decide) rfl (Nat.le_of_ble_eq_true rfl) dX4_search_87 ⟨Nat.le_of_ble_eq_true rfl, Nat.le_of_ble_eq_true rfl⟩ (fun u87 h87 => ?_)
                    try dsimp only at h87
                    refine x_ws [(qN, .inr (4, [.ref qN_blocks, .ref qN_costs, .ref qN_zones, .ref qN_neglects, .ref qN_chosen, .ref qN_best, .ref qN_spent, .ref qN_scaffolds, .int (jI vN_size), .int (jI vN_start), .int (jI vN_span), .int (jI vN_coin), .int (jI l8)])), aI kI qN_costs 24 fN_costs, aI kI qN_zones 24 fN_zones, aI kI qN_neglects 6 fN_neglects, aI kI qN_chosen 6 ch8, aI kI qN_best 6 b8, aI kI qN_spent 4 (iU (wSp (pcs fN_costs) (pcs fN_zones) vN_span (i + 1) (cd * (vN_span + 1) + t9)) t9 ((wSp (pcs fN_costs) (pcs fN_zones) vN_span (i + 1) (cd * (vN_span + 1) + t9)) t9 + -(fN_costs (i * 4 + t9) + (if (wSc (pcs fN_costs) (pcs fN_zones) vN_span i cd) (t9 * 8 + fN_zones (i * 4 + t9)) = 0 then 25 else 0)))), aI kI qN_scaffolds 32 (iU (wSc (pcs fN_costs) (pcs fN_zones) vN_span (i + 1) (cd * (vN_span + 1) + t9)) (t9 * 8 + fN_zones (i * 4 + t9)) ((wSc (pcs fN_costs) (pcs fN_zones) vN_span (i + 1) (cd * (vN_span + 1) + t9)) (t9 * 8 + fN_zones (i * 4 + t9)) + -1))] rfl ?_
                    refine x_ext 6 rfl (wSp (pcs fN_costs) (pcs fN_zones) vN_span i cd) (fun k _ _ => by rw [(wS_t hi.1 (by omega)).1]; exact congrFun (iU_back _ _ _) k) [(qN, .inr (4, [.ref qN_blocks, .ref qN_costs, .ref qN_zones, .ref qN_neglects, .ref qN_chosen, .ref qN_best, .ref qN_spent, .ref qN_scaffolds, .int (jI vN_size), .int (jI vN_start), .int (jI vN_span), .int (jI vN_coin), .int (jI l8)])), aI kI qN_costs 24 fN_costs, aI kI qN_zones 24 fN_zones, aI kI qN_neglects 6 fN_neglects, aI kI qN_chosen 6 ch8, aI kI qN_best 6 b8, aI kI qN_spent 4 (wSp (pcs fN_costs) (pcs fN_zones) vN_span i cd), aI kI qN_scaffolds 32 (iU (wSc (pcs fN_costs) (pcs fN_zones) vN_span (i + 1) (cd * (vN_span + 1) + t9)) (t9 * 8 + fN_zones (i * 4 + t9)) ((wSc (pcs fN_costs) (pcs fN_zones) vN_span (i + 1) (cd * (vN_span + 1) + t9)) (t9 * 8 + fN_zones (i * 4 + t9)) + -1))] rfl ?_
                    refine x_ext 7 rfl (wSc (pcs fN_costs) (pcs fN_zones) vN_span i cd) (fun k _ _ => by rw [(wS_t hi.1 (by omega)).2]; exact congrFun (iU_back _ _ _) k) [(qN, .inr (4, [.ref qN_blocks, .ref qN_costs, .ref qN_zones, .ref qN_neglects, .ref qN_chosen, .ref qN_best, .ref qN_spent, .ref qN_scaffolds, .int (jI vN_size), .int (jI vN_start), .int (jI vN_span), .int (jI vN_coin), .int (jI l8)])), aI kI qN_costs 24 fN_costs, aI kI qN_zones 24 fN_zones, aI kI qN_neglects 6 fN_neglects, aI kI qN_chosen 6 ch8, aI kI qN_best 6 b8, aI kI qN_spent 4 (wSp (pcs fN_costs) (pcs fN_zones) vN_span i cd), aI kI qN_scaffolds 32 (wSc (pcs fN_costs) (pcs fN_zones) vN_span i cd)] rfl ?_
                    refine x_iinc (lv' := [(0, .ref qN), (1, .int (jI i)), (2, .int (jI sum)), (3, .int (jI (t9 + 1))), (4, .int (jI (fN_costs (i * 4 + t9) + (if (wSc (pcs fN_costs) (pcs fN_zones) vN_span i cd) (t9 * 8 + fN_zones (i * 4 + t9)) = 0 then 25 else 0))))]) (k := 3) F dX4_search_90 rfl (by decide) [1, 2, 3, 0, 4] rfl ?_
                    refine x_goto (tgt := 35) F dX4_search_93 (by decide) ?_
                    refine x_lv (lv' := [(0, .ref qN), (1, .int (jI i)), (2, .int (jI sum)), (3, .int (jI (t9 + 1)))]) [0, 1, 2, 3] rfl ?_
                    exact ih35 (t9 + 1) l8 ch8 b8 (by omega) (by rw [← Int.add_assoc]; exact hl8) (by rw [← Int.add_assoc]; exact hb8) hch8 hq8 hbr8 (by omega)
                  refine x_icmp_gt (tgt := 82) F dX4_search_68 (by decide) (by omega) (fun c68 => ?_) (fun c68 => ?_)
                  · -- 68 t
                    have hcq1 : ((cd * (vN_span + 1) + t9) + 1) * pwI vN_span 0 = (cd * (vN_span + 1) + t9) * pwI vN_span 0 + pwI vN_span 0 := by rw [Int.add_mul, Int.one_mul]
                    have hcq0 : 0 ≤ (cd * (vN_span + 1) + t9) * pwI vN_span 0 := Int.mul_nonneg (by omega) (by omega)
                    have hov := ls_over (vl := (wV (pcs fN_costs) (pcs fN_zones) fN_neglects vN_span vN_coin vN_size)) (a := (cd * (vN_span + 1) + t9) * pwI vN_span 0) (b := ((cd * (vN_span + 1) + t9) + 1) * pwI vN_span 0) (by omega) (wV_none hn9 hcs9 hng9 (i := i + 1) (by omega) 0 ⟨by omega, hi.2.2⟩ (fun q => absurd ((wK_t hi.1 (by omega)).1 q).2 (by omega)))
                    exact jn82 l9 (iU ch9 i t9) b9 (by rw [hov.1]; exact hl9) (by rw [hov.2]; exact hb9) (fun j j0 j1 => by rw [iU_n (by omega)]; exact hch9 j j0 j1) (Rg.up hq9 _ _ (by omega)) hbr9
                  · -- 68 f
                    refine x_aload_n F dX4_search_71 rfl 0 rfl ?_
                    refine x_iload_n F dX4_search_72 rfl 1 rfl ?_
                    refine x_iconst F dX4_search_73 ?_
                    refine x_iadd F dX4_search_74 ?_
                    refine x_iload_n F dX4_search_75 rfl 2 rfl ?_
                    refine x_iload F dX4_search_76 4 rfl ?_
                    refine x_iadd F dX4_search_78 ?_
                    refine x_callSv (As := [.ref qN, .int (jI (i + 1)), .int (jI (sum + (fN_costs (i * 4 + t9) + (if (wSc (pcs fN_costs) (pcs fN_zones) vN_span i cd) (t9 * 8 + fN_zones (i * 4 + t9)) = 0 then 25 else 0))))]) (st := []) F (c_X4_search_0 D kI kJ l qN (i + 1) (sum + (fN_costs (i * 4 + t9) + (if (wSc (pcs fN_costs) (pcs fN_zones) vN_span i cd) (t9 * 8 + fN_zones (i * 4 + t9)) = 0 then 25 else 0))) qN_blocks qN_costs qN_zones qN_neglects qN_chosen qN_best qN_spent qN_scaffolds vN_size vN_start vN_span vN_coin l9 fN_costs fN_zones fN_neglects (iU ch9 i t9) b9 (cd * (vN_span + 1) + t9) (by omega) hn4 (by omega) hco hNc hNz hNg (Rg.up hq9 _ _ (by omega)) hbr9 (by rw [wT_t hi.1 (by omega), ← hsum]; rfl) ((wK_t hi.1 (by omega)).2 ⟨hok, by omega⟩) hl9 hb9 (fun j j0 j1 => by rw [dg_t hi.1 (by omega)]; by_cases q : j = i; (rw [q, iU_s, if_pos rfl]; unfold chD; rw [if_neg (by omega)]); (rw [iU_n q, if_neg q]; exact hch9 j j0 (by omega)))) (va_cwS 3 F.2.2.2.2.1 gX4_search_X4_search rfl rfl rfl (by decide +kernel) ⟨Nat.le_of_ble_eq_true rfl, Nat.le_of_ble_eq_true rfl⟩) [0, 1, 2, 3, 4, 5, 6, 7] [] [0, 1, 2, 3, 4, 5, 6, 7] rfl rfl (by decide) (by decide) (by decide) (fun _ => rfl) (by decide) rfl (Nat.le_of_ble_eq_true rfl) dX4_search_79 ⟨Nat.le_of_ble_eq_true rfl, Nat.le_of_ble_eq_true rfl⟩ (fun u79 h79 => ?_)
                    obtain ⟨l2_79, ch2_79, b2_79⟩ := u79
                    try dsimp only at h79
                    refine x_ws [(qN, .inr (4, [.ref qN_blocks, .ref qN_costs, .ref qN_zones, .ref qN_neglects, .ref qN_chosen, .ref qN_best, .ref qN_spent, .ref qN_scaffolds, .int (jI vN_size), .int (jI vN_start), .int (jI vN_span), .int (jI vN_coin), .int (jI l2_79)])), aI kI qN_costs 24 fN_costs, aI kI qN_zones 24 fN_zones, aI kI qN_neglects 6 fN_neglects, aI kI qN_chosen 6 ch2_79, aI kI qN_best 6 b2_79, aI kI qN_spent 4 (wSp (pcs fN_costs) (pcs fN_zones) vN_span (i + 1) (cd * (vN_span + 1) + t9)), aI kI qN_scaffolds 32 (wSc (pcs fN_costs) (pcs fN_zones) vN_span (i + 1) (cd * (vN_span + 1) + t9))] rfl ?_
                    obtain ⟨hl2_79, hb2_79, hc2_79, hq2_79, hb3_79⟩ := h79
                    exact jn82 l2_79 ch2_79 b2_79 hl2_79 hb2_79 (fun j j0 j1 => by rw [hc2_79 j j0 (by omega), iU_n (by omega)]; exact hch9 j j0 j1) hq2_79 hb3_79
          exact lp35 (Int.toNat (vN_span - 0) + 1) 0 vN_least fN_chosen fN_best (by omega) (by rw [← (pw_in vN_span cd 0 0).1]; exact hl) (by rw [← (pw_in vN_span cd 0 0).1]; exact hb) hch hNq hNb (by omega)
        · exact absurd c24 (by omega)
  · -- 5 f
    have hov := ls_over (vl := (wV (pcs fN_costs) (pcs fN_zones) fN_neglects vN_span vN_coin vN_size)) (a := cd * pwI vN_span 1) (b := (cd + 1) * pwI vN_span 1) (by omega) (wV_prune hn9 hcs9 hng9 hi.1 1 ⟨hi.2.1, hi.2.2⟩ (by rw [← hl, ← hsum]; omega))
    exact hret 0 0 8 _ (vN_least, fN_chosen, fN_best) (Nat.le_of_ble_eq_true rfl) (Nat.le_of_ble_eq_true rfl) dX4_search_8 (by (try dsimp only); exact (⟨by rw [hov.1]; exact hl, by rw [hov.2]; exact hb, fun j _ _ => rfl, hNq, hNb⟩))
set_option maxHeartbeats 4000000 in
set_option maxRecDepth 100000 in
theorem c_X4_search_2 (D : va_G) (kI kJ : Nat) (l : Launch) (qN : Nat) (i : Int) (sum : Int) (qN_blocks : Nat) (qN_costs : Nat) (qN_zones : Nat) (qN_neglects : Nat) (qN_chosen : Nat) (qN_best : Nat) (qN_spent : Nat) (qN_scaffolds : Nat) (vN_size : Int) (vN_start : Int) (vN_span : Int) (vN_coin : Int) (vN_least : Int) (fN_costs : (Int → Int)) (fN_zones : (Int → Int)) (fN_neglects : (Int → Int)) (fN_chosen : (Int → Int)) (fN_best : (Int → Int)) (cd : Int) (hi : 0 ≤ i ∧ i + 2 = vN_size ∧ vN_size ≤ 6) (hn4 : 1 ≤ vN_span ∧ vN_span ≤ 4) (hc : 0 ≤ cd) (hco : 0 ≤ vN_coin ∧ vN_coin ≤ 1000) (hNc : Rg fN_costs 24 0 50000) (hNz : Rg fN_zones 24 0 7) (hNg : Rg fN_neglects 6 0 200000) (hNq : Rg fN_chosen 6 (-1) 3) (hNb : Rg fN_best 6 (-1) 3) (hsum : sum = wT (pcs fN_costs) (pcs fN_zones) fN_neglects vN_span i cd) (hok : wK (pcs fN_costs) (pcs fN_zones) vN_span vN_coin i cd = true) (hl : vN_least = lsI (wV (pcs fN_costs) (pcs fN_zones) fN_neglects vN_span vN_coin vN_size) (cd * pwI vN_span 2)) (hb : 0 ≤ bsI (wV (pcs fN_costs) (pcs fN_zones) fN_neglects vN_span vN_coin vN_size) (cd * pwI vN_span 2) → ∀ j : Int, 0 ≤ j → j < vN_size → fN_best j = chD vN_span (dg vN_span vN_size (bsI (wV (pcs fN_costs) (pcs fN_zones) fN_neglects vN_span vN_coin vN_size) (cd * pwI vN_span 2)) j)) (hch : ∀ j : Int, 0 ≤ j → j < i → fN_chosen j = chD vN_span (dg vN_span i cd j)) : xMv D kI kJ l yX4_search wsX4_search 5 133 0 0 [.ref qN, .int (jI i), .int (jI sum)] [(qN, .inr (4, [.ref qN_blocks, .ref qN_costs, .ref qN_zones, .ref qN_neglects, .ref qN_chosen, .ref qN_best, .ref qN_spent, .ref qN_scaffolds, .int (jI vN_size), .int (jI vN_start), .int (jI vN_span), .int (jI vN_coin), .int (jI vN_least)])), aI kI qN_costs 24 fN_costs, aI kI qN_zones 24 fN_zones, aI kI qN_neglects 6 fN_neglects, aI kI qN_chosen 6 fN_chosen, aI kI qN_best 6 fN_best, aI kI qN_spent 4 (wSp (pcs fN_costs) (pcs fN_zones) vN_span i cd), aI kI qN_scaffolds 32 (wSc (pcs fN_costs) (pcs fN_zones) vN_span i cd)] (fun (u : Int × (Int → Int) × (Int → Int)) => (u.1 = lsI (wV (pcs fN_costs) (pcs fN_zones) fN_neglects vN_span vN_coin vN_size) ((cd + 1) * pwI vN_span 2)) ∧ (0 ≤ bsI (wV (pcs fN_costs) (pcs fN_zones) fN_neglects vN_span vN_coin vN_size) ((cd + 1) * pwI vN_span 2) → ∀ j : Int, 0 ≤ j → j < vN_size → u.2.2 j = chD vN_span (dg vN_span vN_size (bsI (wV (pcs fN_costs) (pcs fN_zones) fN_neglects vN_span vN_coin vN_size) ((cd + 1) * pwI vN_span 2)) j)) ∧ (∀ j : Int, 0 ≤ j → j < i → u.2.1 j = fN_chosen j) ∧ (Rg u.2.1 6 (-1) 3) ∧ (Rg u.2.2 6 (-1) 3)) (fun (u : Int × (Int → Int) × (Int → Int)) => [(qN, .inr (4, [.ref qN_blocks, .ref qN_costs, .ref qN_zones, .ref qN_neglects, .ref qN_chosen, .ref qN_best, .ref qN_spent, .ref qN_scaffolds, .int (jI vN_size), .int (jI vN_start), .int (jI vN_span), .int (jI vN_coin), .int (jI u.1)])), aI kI qN_costs 24 fN_costs, aI kI qN_zones 24 fN_zones, aI kI qN_neglects 6 fN_neglects, aI kI qN_chosen 6 u.2.1, aI kI qN_best 6 u.2.2, aI kI qN_spent 4 (wSp (pcs fN_costs) (pcs fN_zones) vN_span i cd), aI kI qN_scaffolds 32 (wSc (pcs fN_costs) (pcs fN_zones) vN_span i cd)]) := by
  refine xMv_of (cc := cX4_search) (maxL := 5) (by decide) rfl (Nat.le_of_ble_eq_true rfl) ?_
  intro p e s m args below meth c A Q F hin2 hret
  have hin4 : ∀ w ∈ wsX40, w ∈ wsX4_search := by decide +kernel
  have hw0 : Cond.fieldLink RX4 56 (TX4 12).1 (TX4 12).2.1 (TX4 12).2.2.1 ∈ wsX4_search := by decide +kernel
  have hw1 : Cond.fieldLink RX4 36 (TX4 8).1 (TX4 8).2.1 (TX4 8).2.2.1 ∈ wsX4_search := by decide +kernel
  have hw2 : Cond.fieldLink RX4 49 (TX4 10).1 (TX4 10).2.1 (TX4 10).2.2.1 ∈ wsX4_search := by decide +kernel
  have hw3 : Cond.fieldLink RX4 24 (TX4 4).1 (TX4 4).2.1 (TX4 4).2.2.1 ∈ wsX4_search := by decide +kernel
  have hw4 : Cond.fieldLink RX4 21 (TX4 3).1 (TX4 3).2.1 (TX4 3).2.2.1 ∈ wsX4_search := by decide +kernel
  have hw5 : Cond.fieldLink RX4 30 (TX4 6).1 (TX4 6).2.1 (TX4 6).2.2.1 ∈ wsX4_search := by decide +kernel
  have hw6 : Cond.initialized yX9_at.cls ∈ wsX4_search := by decide +kernel
  have hw7 : Cond.static yX9_at ∈ wsX4_search := by decide +kernel
  have hw8 : Cond.fieldLink RX4 52 (TX4 11).1 (TX4 11).2.1 (TX4 11).2.2.1 ∈ wsX4_search := by decide +kernel
  refine x_lveq (lv' := [(0, .ref qN), (1, .int (jI i)), (2, .int (jI sum))]) rfl ?_
  have hcs9 : ∀ j t : Int, 0 ≤ j → j < 6 → 0 ≤ t → t < vN_span → 0 ≤ pcs fN_costs j t ∧ pcs fN_costs j t ≤ 50000 := fun j t a1 a2 a3 a4 => hNc (j * 4 + t) (by omega) (by omega)
  have hng9 : ∀ j : Int, 0 ≤ j → j < 6 → 0 ≤ fN_neglects j ∧ fN_neglects j ≤ 200000 := fun j a1 a2 => hNg j a1 a2
  have hn9 : 0 ≤ vN_span ∧ vN_span ≤ 4 := by omega
  have hT9 := wT_bd (zn := pcs fN_zones) hn9 hcs9 hng9 (i := i) (by omega) cd
  rw [← hsum] at hT9
  have hLr := ls_rng (vl := (wV (pcs fN_costs) (pcs fN_zones) fN_neglects vN_span vN_coin vN_size)) (cd * pwI vN_span 2)
  rw [← hl] at hLr
  have hpp := pwI_pos hn9.1 2
  have hcp : 0 ≤ cd * pwI vN_span 2 := Int.mul_nonneg hc (by omega)
  have hcq : (cd + 1) * pwI vN_span 2 = cd * pwI vN_span 2 + pwI vN_span 2 := by rw [Int.add_mul, Int.one_mul]
  refine x_iload_n F dX4_search_0 rfl 2 rfl ?_
  refine x_aload_n F dX4_search_1 rfl 0 rfl ?_
  refine x_get (ci := 4) F hin4 0 rfl rfl 12 (by decide) hw0 rfl dX4_search_2 ?_
  refine x_icmp_lt (tgt := 9) F dX4_search_5 (by decide) (by omega) (fun c5 => ?_) (fun c5 => ?_)
  · -- 5 t
    have hcn : 0 ≤ cd * (vN_span + 1) := Int.mul_nonneg hc (by omega)
    have hSc9 : Rg (wSc (pcs fN_costs) (pcs fN_zones) vN_span i cd) 32 0 6 := fun k _ _ => by have := wSc_bd (zn := pcs fN_zones) hn9 hcs9 (i := i) (by omega) cd k; omega
    have hSp9 : Rg (wSp (pcs fN_costs) (pcs fN_zones) vN_span i cd) 4 0 400000 := fun k _ _ => by have := wSp_bd (zn := pcs fN_zones) hn9 hcs9 (i := i) (by omega) cd k; omega
    have hqq := pwI_pos hn9.1 1
    refine x_iload_n F dX4_search_9 rfl 1 rfl ?_
    refine x_if_lt (tgt := 27) F dX4_search_10 (by decide) (by omega) (fun c10 => ?_) (fun c10 => ?_)
    · exact absurd c10 (by omega)
    · -- 10 f
      refine x_iload_n F dX4_search_13 rfl 1 rfl ?_
      refine x_aload_n F dX4_search_14 rfl 0 rfl ?_
      refine x_get (ci := 4) F hin4 0 rfl rfl 8 (by decide) hw1 rfl dX4_search_15 ?_
      refine x_icmp_ge (tgt := 27) F dX4_search_18 (by decide) (by omega) (fun c18 => ?_) (fun c18 => ?_)
      · exact absurd c18 (by omega)
      · -- 18 f
        refine x_iload_n F dX4_search_21 rfl 1 rfl ?_
        refine x_bipush F dX4_search_22 (by decide) ?_
        refine x_icmp_lt (tgt := 33) F dX4_search_24 (by decide) (by omega) (fun c24 => ?_) (fun c24 => ?_)
        · -- 24 t
          refine x_iconst F dX4_search_33 ?_
          refine x_istore_n (lv' := [(0, .ref qN), (1, .int (jI i)), (2, .int (jI sum)), (3, .int (jI 0))]) F dX4_search_34 rfl (by decide) [1, 2, 3, 0] rfl ?_
          have lp35 : ∀ (fu : Nat) (t9 : Int) (l9 : Int) (ch9 : (Int → Int)) (b9 : (Int → Int)) (ht9 : 0 ≤ t9 ∧ t9 ≤ vN_span) (hl9 : l9 = lsI (wV (pcs fN_costs) (pcs fN_zones) fN_neglects vN_span vN_coin vN_size) ((cd * (vN_span + 1) + t9) * pwI vN_span 1)) (hb9 : 0 ≤ bsI (wV (pcs fN_costs) (pcs fN_zones) fN_neglects vN_span vN_coin vN_size) ((cd * (vN_span + 1) + t9) * pwI vN_span 1) → ∀ j : Int, 0 ≤ j → j < vN_size → b9 j = chD vN_span (dg vN_span vN_size (bsI (wV (pcs fN_costs) (pcs fN_zones) fN_neglects vN_span vN_coin vN_size) ((cd * (vN_span + 1) + t9) * pwI vN_span 1)) j)) (hch9 : ∀ j : Int, 0 ≤ j → j < i → ch9 j = chD vN_span (dg vN_span i cd j)) (hq9 : Rg ch9 6 (-1) 3) (hbr9 : Rg b9 6 (-1) 3) (hm : vN_span - t9 < (fu : Int)), xG D p l e (xRm 5 133 0 0) s m args below meth c 5 A Q 0 0 [(qN, .inr (4, [.ref qN_blocks, .ref qN_costs, .ref qN_zones, .ref qN_neglects, .ref qN_chosen, .ref qN_best, .ref qN_spent, .ref qN_scaffolds, .int (jI vN_size), .int (jI vN_start), .int (jI vN_span), .int (jI vN_coin), .int (jI l9)])), aI kI qN_costs 24 fN_costs, aI kI qN_zones 24 fN_zones, aI kI qN_neglects 6 fN_neglects, aI kI qN_chosen 6 ch9, aI kI qN_best 6 b9, aI kI qN_spent 4 (wSp (pcs fN_costs) (pcs fN_zones) vN_span i cd), aI kI qN_scaffolds 32 (wSc (pcs fN_costs) (pcs fN_zones) vN_span i cd)] [(0, .ref qN), (1, .int (jI i)), (2, .int (jI sum)), (3, .int (jI t9))] 35 [] := by
            intro fu
            induction fu with
            | zero =>
              intro t9 l9 ch9 b9 ht9 hl9 hb9 hch9 hq9 hbr9 hm
              exact absurd hm (by omega)
            | succ fu ih35 =>
              intro t9 l9 ch9 b9 ht9 hl9 hb9 hch9 hq9 hbr9 hm
              refine x_iload_n F dX4_search_35 rfl 3 rfl ?_
              refine x_aload_n F dX4_search_36 rfl 0 rfl ?_
              refine x_get (ci := 4) F hin4 0 rfl rfl 10 (by decide) hw2 rfl dX4_search_37 ?_
              refine x_icmp_ge (tgt := 96) F dX4_search_40 (by decide) (by omega) (fun c40 => ?_) (fun c40 => ?_)
              · -- 40 t
                have ht8 : t9 = vN_span := by omega
                rw [ht8] at hl9 hb9
                refine x_aload_n F dX4_search_96 rfl 0 rfl ?_
                refine x_get (ci := 4) F hin4 0 rfl rfl 4 (by decide) hw3 rfl dX4_search_97 ?_
                refine x_iload_n F dX4_search_100 rfl 1 rfl ?_
                refine x_iconst F dX4_search_101 ?_
                refine x_iast F 4 rfl (by decide) (by omega) dX4_search_102 [(qN, .inr (4, [.ref qN_blocks, .ref qN_costs, .ref qN_zones, .ref qN_neglects, .ref qN_chosen, .ref qN_best, .ref qN_spent, .ref qN_scaffolds, .int (jI vN_size), .int (jI vN_start), .int (jI vN_span), .int (jI vN_coin), .int (jI l9)])), aI kI qN_costs 24 fN_costs, aI kI qN_zones 24 fN_zones, aI kI qN_neglects 6 fN_neglects, aI kI qN_chosen 6 (iU ch9 i (-1)), aI kI qN_best 6 b9, aI kI qN_spent 4 (wSp (pcs fN_costs) (pcs fN_zones) vN_span i cd), aI kI qN_scaffolds 32 (wSc (pcs fN_costs) (pcs fN_zones) vN_span i cd)] rfl ?_
                refine x_ext 6 rfl (wSp (pcs fN_costs) (pcs fN_zones) vN_span (i + 1) (cd * (vN_span + 1) + vN_span)) (fun k _ _ => by rw [(wS_n hi.1 hn9.1).1]) [(qN, .inr (4, [.ref qN_blocks, .ref qN_costs, .ref qN_zones, .ref qN_neglects, .ref qN_chosen, .ref qN_best, .ref qN_spent, .ref qN_scaffolds, .int (jI vN_size), .int (jI vN_start), .int (jI vN_span), .int (jI vN_coin), .int (jI l9)])), aI kI qN_costs 24 fN_costs, aI kI qN_zones 24 fN_zones, aI kI qN_neglects 6 fN_neglects, aI kI qN_chosen 6 (iU ch9 i (-1)), aI kI qN_best 6 b9, aI kI qN_spent 4 (wSp (pcs fN_costs) (pcs fN_zones) vN_span (i + 1) (cd * (vN_span + 1) + vN_span)), aI kI qN_scaffolds 32 (wSc (pcs fN_costs) (pcs fN_zones) vN_span i cd)] rfl ?_
                refine x_ext 7 rfl (wSc (pcs fN_costs) (pcs fN_zones) vN_span (i + 1) (cd * (vN_span + 1) + vN_span)) (fun k _ _ => by rw [(wS_n hi.1 hn9.1).2]) [(qN, .inr (4, [.ref qN_blocks, .ref qN_costs, .ref qN_zones, .ref qN_neglects, .ref qN_chosen, .ref qN_best, .ref qN_spent, .ref qN_scaffolds, .int (jI vN_size), .int (jI vN_start), .int (jI vN_span), .int (jI vN_coin), .int (jI l9)])), aI kI qN_costs 24 fN_costs, aI kI qN_zones 24 fN_zones, aI kI qN_neglects 6 fN_neglects, aI kI qN_chosen 6 (iU ch9 i (-1)), aI kI qN_best 6 b9, aI kI qN_spent 4 (wSp (pcs fN_costs) (pcs fN_zones) vN_span (i + 1) (cd * (vN_span + 1) + vN_span)), aI kI qN_scaffolds 32 (wSc (pcs fN_costs) (pcs fN_zones) vN_span (i + 1) (cd * (vN_span + 1) + vN_span))] rfl ?_
                refine x_aload_n F dX4_search_103 rfl 0 rfl ?_
                refine x_iload_n F dX4_search_104 rfl 1 rfl ?_
                refine x_iconst F dX4_search_105 ?_
                refine x_iadd F dX4_search_106 ?_
                refine x_iload_n F dX4_search_107 rfl 2 rfl ?_
                refine x_aload_n F dX4_search_108 rfl 0 rfl ?_
                refine x_get (ci := 4) F hin4 0 rfl rfl 3 (by decide) hw4 rfl dX4_search_109 ?_
                refine x_iload_n F dX4_search_112 rfl 1 rfl ?_
                refine x_iald F 3 rfl (by decide) (by omega) dX4_search_113 ?_
                have hr113 := Rg.at hNg i (by omega)
                refine x_iadd F dX4_search_114 ?_
                refine x_callSv (As := [.ref qN, .int (jI (i + 1)), .int (jI (sum + (fN_neglects i)))]) (st := []) F (c_X4_search_1 D kI kJ l qN (i + 1) (sum + (fN_neglects i)) qN_blocks qN_costs qN_zones qN_neglects qN_chosen qN_best qN_spent qN_scaffolds vN_size vN_start vN_span vN_coin l9 fN_costs fN_zones fN_neglects (iU ch9 i (-1)) b9 (cd * (vN_span + 1) + vN_span) (by omega) hn4 (by omega) hco hNc hNz hNg (Rg.up hq9 _ _ (by omega)) hbr9 (by rw [wT_n hi.1 hn9.1, ← hsum]) ((wK_n hi.1 hn9.1).2 hok) hl9 hb9 (fun j j0 j1 => by rw [dg_t hi.1 (by omega)]; by_cases q : j = i; (rw [q, iU_s, if_pos rfl]; unfold chD; rw [if_pos rfl]); (rw [iU_n q, if_neg q]; exact hch9 j j0 (by omega)))) (va_cwS 3 F.2.2.2.2.1 gX4_search_X4_search rfl rfl rfl (by decide +kernel) ⟨Nat.le_of_ble_eq_true rfl, Nat.le_of_ble_eq_true rfl⟩) [0, 1, 2, 3, 4, 5, 6, 7] [] [0, 1, 2, 3, 4, 5, 6, 7] rfl rfl (by decide) (by decide) (by decide) (fun _ => rfl) (by decide) rfl (Nat.le_of_ble_eq_true rfl) dX4_search_115 ⟨Nat.le_of_ble_eq_true rfl, Nat.le_of_ble_eq_true rfl⟩ (fun u115 h115 => ?_)
                obtain ⟨l2_115, ch2_115, b2_115⟩ := u115
                try dsimp only at h115
                refine x_ws [(qN, .inr (4, [.ref qN_blocks, .ref qN_costs, .ref qN_zones, .ref qN_neglects, .ref qN_chosen, .ref qN_best, .ref qN_spent, .ref qN_scaffolds, .int (jI vN_size), .int (jI vN_start), .int (jI vN_span), .int (jI vN_coin), .int (jI l2_115)])), aI kI qN_costs 24 fN_costs, aI kI qN_zones 24 fN_zones, aI kI qN_neglects 6 fN_neglects, aI kI qN_chosen 6 ch2_115, aI kI qN_best 6 b2_115, aI kI qN_spent 4 (wSp (pcs fN_costs) (pcs fN_zones) vN_span (i + 1) (cd * (vN_span + 1) + vN_span)), aI kI qN_scaffolds 32 (wSc (pcs fN_costs) (pcs fN_zones) vN_span (i + 1) (cd * (vN_span + 1) + vN_span))] rfl ?_
                obtain ⟨hl2_115, hb2_115, hc2_115, hq2_115, hb3_115⟩ := h115
                refine x_ext 6 rfl (wSp (pcs fN_costs) (pcs fN_zones) vN_span i cd) (fun k _ _ => by rw [(wS_n hi.1 hn9.1).1]) [(qN, .inr (4, [.ref qN_blocks, .ref qN_costs, .ref qN_zones, .ref qN_neglects, .ref qN_chosen, .ref qN_best, .ref qN_spent, .ref qN_scaffolds, .int (jI vN_size), .int (jI vN_start), .int (jI vN_span), .int (jI vN_coin), .int (jI l2_115)])), aI kI qN_costs 24 fN_costs, aI kI qN_zones 24 fN_zones, aI kI qN_neglects 6 fN_neglects, aI kI qN_chosen 6 ch2_115, aI kI qN_best 6 b2_115, aI kI qN_spent 4 (wSp (pcs fN_costs) (pcs fN_zones) vN_span i cd), aI kI qN_scaffolds 32 (wSc (pcs fN_costs) (pcs fN_zones) vN_span (i + 1) (cd * (vN_span + 1) + vN_span))] rfl ?_
                refine x_ext 7 rfl (wSc (pcs fN_costs) (pcs fN_zones) vN_span i cd) (fun k _ _ => by rw [(wS_n hi.1 hn9.1).2]) [(qN, .inr (4, [.ref qN_blocks, .ref qN_costs, .ref qN_zones, .ref qN_neglects, .ref qN_chosen, .ref qN_best, .ref qN_spent, .ref qN_scaffolds, .int (jI vN_size), .int (jI vN_start), .int (jI vN_span), .int (jI vN_coin), .int (jI l2_115)])), aI kI qN_costs 24 fN_costs, aI kI qN_zones 24 fN_zones, aI kI qN_neglects 6 fN_neglects, aI kI qN_chosen 6 ch2_115, aI kI qN_best 6 b2_115, aI kI qN_spent 4 (wSp (pcs fN_costs) (pcs fN_zones) vN_span i cd), aI kI qN_scaffolds 32 (wSc (pcs fN_costs) (pcs fN_zones) vN_span i cd)] rfl ?_
                exact hret 0 0 118 _ (l2_115, ch2_115, b2_115) (Nat.le_of_ble_eq_true rfl) (Nat.le_of_ble_eq_true rfl) dX4_search_118 (by (try dsimp only); exact (⟨by rw [(pw_in vN_span cd 0 1).2]; exact hl2_115, by rw [(pw_in vN_span cd 0 1).2]; exact hb2_115, fun j j0 j1 => by rw [hc2_115 j j0 (by omega), iU_n (by omega), hch9 j j0 j1]; exact (hch j j0 j1).symm, hq2_115, hb3_115⟩))
              · -- 40 f
                refine x_iload_n F dX4_search_43 rfl 3 rfl ?_
                refine x_iconst F dX4_search_44 ?_
                refine x_icmp_ge (tgt := 96) F dX4_search_45 (by decide) (by omega) (fun c45 => ?_) (fun c45 => ?_)
                · exact absurd c45 (by omega)
                · -- 45 f
                  refine x_aload_n F dX4_search_48 rfl 0 rfl ?_
                  refine x_iload_n F dX4_search_49 rfl 1 rfl ?_
                  refine x_iload_n F dX4_search_50 rfl 3 rfl ?_
                  refine x_callVi (ci := 4) (q0 := 0) (As := [.int (jI i), .int (jI t9)]) (st := []) F (c_X4_doWork D kI kJ l qN i t9 qN_blocks qN_costs qN_zones qN_neglects qN_chosen qN_best qN_spent qN_scaffolds vN_size vN_start vN_span vN_coin l9 fN_costs fN_zones (wSp (pcs fN_costs) (pcs fN_zones) vN_span i cd) (wSc (pcs fN_costs) (pcs fN_zones) vN_span i cd) ch9 (by omega) hNc hNz hSc9 hSp9) (cwV 2 F.2.2.2.2.1 gX4_search_X4_doWork rfl rfl rfl (by decide +kernel) ⟨Nat.le_of_ble_eq_true rfl, Nat.le_of_ble_eq_true rfl⟩) rfl rfl [0, 1, 2, 6, 7, 4] [3, 5] [2, 3, 4, 0, 7, 1, 5, 6] rfl rfl (by decide) (by decide) (by decide) (fun _ => rfl) (by decide) rfl (Nat.le_of_ble_eq_true rfl) dX4_search_51 ⟨Nat.le_of_ble_eq_true rfl, Nat.le_of_ble_eq_true rfl⟩ (fun z51 u51 h51 => ?_)
                  obtain ⟨s2_51, rfl⟩ : ∃ z, z = u51 := ⟨_, rfl⟩
                  try dsimp only at h51
                  refine x_ws [(qN, .inr (4, [.ref qN_blocks, .ref qN_costs, .ref qN_zones, .ref qN_neglects, .ref qN_chosen, .ref qN_best, .ref qN_spent, .ref qN_scaffolds, .int (jI vN_size), .int (jI vN_start), .int (jI vN_span), .int (jI vN_coin), .int (jI l9)])), aI kI qN_costs 24 fN_costs, aI kI qN_zones 24 fN_zones, aI kI qN_neglects 6 fN_neglects, aI kI qN_chosen 6 (iU ch9 i t9), aI kI qN_best 6 b9, aI kI qN_spent 4 s2_51, aI kI qN_scaffolds 32 (iU (wSc (pcs fN_costs) (pcs fN_zones) vN_span i cd) (t9 * 8 + fN_zones (i * 4 + t9)) ((wSc (pcs fN_costs) (pcs fN_zones) vN_span i cd) (t9 * 8 + fN_zones (i * 4 + t9)) + 1))] rfl ?_
                  obtain ⟨he51, hs_51⟩ := h51
                  have he51 := he51.symm
                  subst he51
                  have hbd9 := wSp_bd (zn := pcs fN_zones) hn9 hcs9 (i := i + 1) (by omega) (cd * (vN_span + 1) + t9) t9
                  refine x_istore (lv' := [(0, .ref qN), (1, .int (jI i)), (2, .int (jI sum)), (3, .int (jI t9)), (4, .int (jI (fN_costs (i * 4 + t9) + (if (wSc (pcs fN_costs) (pcs fN_zones) vN_span i cd) (t9 * 8 + fN_zones (i * 4 + t9)) = 0 then 25 else 0))))]) F dX4_search_54 (by decide) [1, 2, 3, 4, 0] rfl ?_
                  refine x_ext 6 rfl (wSp (pcs fN_costs) (pcs fN_zones) vN_span (i + 1) (cd * (vN_span + 1) + t9)) (fun k _ _ => by rw [hs_51, (wS_t hi.1 (by omega)).1]; rfl) [(qN, .inr (4, [.ref qN_blocks, .ref qN_costs, .ref qN_zones, .ref qN_neglects, .ref qN_chosen, .ref qN_best, .ref qN_spent, .ref qN_scaffolds, .int (jI vN_size), .int (jI vN_start), .int (jI vN_span), .int (jI vN_coin), .int (jI l9)])), aI kI qN_costs 24 fN_costs, aI kI qN_zones 24 fN_zones, aI kI qN_neglects 6 fN_neglects, aI kI qN_chosen 6 (iU ch9 i t9), aI kI qN_best 6 b9, aI kI qN_spent 4 (wSp (pcs fN_costs) (pcs fN_zones) vN_span (i + 1) (cd * (vN_span + 1) + t9)), aI kI qN_scaffolds 32 (iU (wSc (pcs fN_costs) (pcs fN_zones) vN_span i cd) (t9 * 8 + fN_zones (i * 4 + t9)) ((wSc (pcs fN_costs) (pcs fN_zones) vN_span i cd) (t9 * 8 + fN_zones (i * 4 + t9)) + 1))] rfl ?_
                  refine x_ext 7 rfl (wSc (pcs fN_costs) (pcs fN_zones) vN_span (i + 1) (cd * (vN_span + 1) + t9)) (fun k _ _ => by rw [(wS_t hi.1 (by omega)).2]; rfl) [(qN, .inr (4, [.ref qN_blocks, .ref qN_costs, .ref qN_zones, .ref qN_neglects, .ref qN_chosen, .ref qN_best, .ref qN_spent, .ref qN_scaffolds, .int (jI vN_size), .int (jI vN_start), .int (jI vN_span), .int (jI vN_coin), .int (jI l9)])), aI kI qN_costs 24 fN_costs, aI kI qN_zones 24 fN_zones, aI kI qN_neglects 6 fN_neglects, aI kI qN_chosen 6 (iU ch9 i t9), aI kI qN_best 6 b9, aI kI qN_spent 4 (wSp (pcs fN_costs) (pcs fN_zones) vN_span (i + 1) (cd * (vN_span + 1) + t9)), aI kI qN_scaffolds 32 (wSc (pcs fN_costs) (pcs fN_zones) vN_span (i + 1) (cd * (vN_span + 1) + t9))] rfl ?_
                  refine x_aload_n F dX4_search_56 rfl 0 rfl ?_
                  refine x_get (ci := 4) F hin4 0 rfl rfl 6 (by decide) hw5 rfl dX4_search_57 ?_
                  refine x_iload_n F dX4_search_60 rfl 3 rfl ?_
                  refine x_callSNi (As := [.ref qN_spent, .int (jI t9)]) (st := []) F (c_X9_at D kI kJ l qN_spent t9 4 (wSp (pcs fN_costs) (pcs fN_zones) vN_span (i + 1) (cd * (vN_span + 1) + t9)) (by omega) (by omega)) ⟨va_cnB 2 F.2.2.2.2.1 gX4_search_X9_at_n85 rfl rfl rfl (nM20 F.2.2.2.2.2.2.2) (F.2.2.2.2.1 _ hw6) (by decide +kernel) ⟨Nat.le_of_ble_eq_true rfl, Nat.le_of_ble_eq_true rfl⟩, F.2.2.2.2.1 _ hw7, trivial⟩ [6] [0, 1, 2, 3, 4, 5, 7] [0, 1, 2, 3, 4, 5, 7, 6] rfl rfl (by decide) (by decide) (by decide) (fun _ => rfl) (by decide) rfl (Nat.le_of_ble_eq_true rfl) dX4_search_61 ⟨Nat.le_of_ble_eq_true rfl, Nat.le_of_ble_eq_true rfl⟩ (fun z61 u61 h61 => ?_)
                  try dsimp only at h61
                  refine x_ws [(qN, .inr (4, [.ref qN_blocks, .ref qN_costs, .ref qN_zones, .ref qN_neglects, .ref qN_chosen, .ref qN_best, .ref qN_spent, .ref qN_scaffolds, .int (jI vN_size), .int (jI vN_start), .int (jI vN_span), .int (jI vN_coin), .int (jI l9)])), aI kI qN_costs 24 fN_costs, aI kI qN_zones 24 fN_zones, aI kI qN_neglects 6 fN_neglects, aI kI qN_chosen 6 (iU ch9 i t9), aI kI qN_best 6 b9, aI kI qN_spent 4 (wSp (pcs fN_costs) (pcs fN_zones) vN_span (i + 1) (cd * (vN_span + 1) + t9)), aI kI qN_scaffolds 32 (wSc (pcs fN_costs) (pcs fN_zones) vN_span (i + 1) (cd * (vN_span + 1) + t9))] rfl ?_
                  have he61 := h61
                  have he61 := he61.symm
                  subst he61
                  refine x_aload_n F dX4_search_64 rfl 0 rfl ?_
                  refine x_get (ci := 4) F hin4 0 rfl rfl 11 (by decide) hw8 rfl dX4_search_65 ?_
                  have jn82 : ∀ (l8 : Int) (ch8 : (Int → Int)) (b8 : (Int → Int)) (hl8 : l8 = lsI (wV (pcs fN_costs) (pcs fN_zones) fN_neglects vN_span vN_coin vN_size) (((cd * (vN_span + 1) + t9) + 1) * pwI vN_span 1)) (hb8 : 0 ≤ bsI (wV (pcs fN_costs) (pcs fN_zones) fN_neglects vN_span vN_coin vN_size) (((cd * (vN_span + 1) + t9) + 1) * pwI vN_span 1) → ∀ j : Int, 0 ≤ j → j < vN_size → b8 j = chD vN_span (dg vN_span vN_size (bsI (wV (pcs fN_costs) (pcs fN_zones) fN_neglects vN_span vN_coin vN_size) (((cd * (vN_span + 1) + t9) + 1) * pwI vN_span 1)) j)) (hch8 : ∀ j : Int, 0 ≤ j → j < i → ch8 j = chD vN_span (dg vN_span i cd j)) (hq8 : Rg ch8 6 (-1) 3) (hbr8 : Rg b8 6 (-1) 3), xG D p l e (xRm 5 133 0 0) s m args below meth c 5 A Q 0 0 [(qN, .inr (4, [.ref qN_blocks, .ref qN_costs, .ref qN_zones, .ref qN_neglects, .ref qN_chosen, .ref qN_best, .ref qN_spent, .ref qN_scaffolds, .int (jI vN_size), .int (jI vN_start), .int (jI vN_span), .int (jI vN_coin), .int (jI l8)])), aI kI qN_costs 24 fN_costs, aI kI qN_zones 24 fN_zones, aI kI qN_neglects 6 fN_neglects, aI kI qN_chosen 6 ch8, aI kI qN_best 6 b8, aI kI qN_spent 4 (wSp (pcs fN_costs) (pcs fN_zones) vN_span (i + 1) (cd * (vN_span + 1) + t9)), aI kI qN_scaffolds 32 (wSc (pcs fN_costs) (pcs fN_zones) vN_span (i + 1) (cd * (vN_span + 1) + t9))] [(0, .ref qN), (1, .int (jI i)), (2, .int (jI sum)), (3, .int (jI t9)), (4, .int (jI (fN_costs (i * 4 + t9) + (if (wSc (pcs fN_costs) (pcs fN_zones) vN_span i cd) (t9 * 8 + fN_zones (i * 4 + t9)) = 0 then 25 else 0))))] 82 [] := by
                    intro l8 ch8 b8 hl8 hb8 hch8 hq8 hbr8
                    refine x_aload_n F dX4_search_82 rfl 0 rfl ?_
                    refine x_iload_n F dX4_search_83 rfl 1 rfl ?_
                    refine x_iload_n F dX4_search_84 rfl 3 rfl ?_
                    refine x_iload F dX4_search_85 4 rfl ?_
                    refine x_callVv (ci := 4) (q0 := 0) (As := [.int (jI i), .int (jI t9), .int (jI (fN_costs (i * 4 + t9) + (if (wSc (pcs fN_costs) (pcs fN_zones) vN_span i cd) (t9 * 8 + fN_zones (i * 4 + t9)) = 0 then 25 else 0)))]) (st := []) F (c_X4_undoWork D kI kJ l qN i t9 (fN_costs (i * 4 + t9) + (if (wSc (pcs fN_costs) (pcs fN_zones) vN_span i cd) (t9 * 8 + fN_zones (i * 4 + t9)) = 0 then 25 else 0)) qN_blocks qN_costs qN_zones qN_neglects qN_chosen qN_best qN_spent qN_scaffolds vN_size vN_start vN_span vN_coin l8 fN_zones (wSp (pcs fN_costs) (pcs fN_zones) vN_span (i + 1) (cd * (vN_span + 1) + t9)) (wSc (pcs fN_costs) (pcs fN_zones) vN_span (i + 1) (cd * (vN_span + 1) + t9)) (by omega) hNz) (cwV 3 F.2.2.2.2.1 gX4_search_X4_undoWork rfl rfl rfl (by decide +kernel) ⟨Nat.le_of_ble_eq_true rfl, Nat.le_of_ble_eq_true rfl⟩) rfl rfl [0, 2, 6, 7] [1, 3, 4, 5] [4, 0, 5, 1, 2, 3, 6, 7] rfl rfl (by decide) (by decide) (by decide) (fun _ => rfl) (by decide) rfl (Nat.le_of_ble_eq_true rfl) dX4_search_87 ⟨Nat.le_of_ble_eq_true rfl, Nat.le_of_ble_eq_true rfl⟩ (fun u87 h87 => ?_)
                    try dsimp only at h87
                    refine x_ws [(qN, .inr (4, [.ref qN_blocks, .ref qN_costs, .ref qN_zones, .ref qN_neglects, .ref qN_chosen, .ref qN_best, .ref qN_spent, .ref qN_scaffolds, .int (jI vN_size), .int (jI vN_start), .int (jI vN_span), .int (jI vN_coin), .int (jI l8)])), aI kI qN_costs 24 fN_costs, aI kI qN_zones 24 fN_zones, aI kI qN_neglects 6 fN_neglects, aI kI qN_chosen 6 ch8, aI kI qN_best 6 b8, aI kI qN_spent 4 (iU (wSp (pcs fN_costs) (pcs fN_zones) vN_span (i + 1) (cd * (vN_span + 1) + t9)) t9 ((wSp (pcs fN_costs) (pcs fN_zones) vN_span (i + 1) (cd * (vN_span + 1) + t9)) t9 + -(fN_costs (i * 4 + t9) + (if (wSc (pcs fN_costs) (pcs fN_zones) vN_span i cd) (t9 * 8 + fN_zones (i * 4 + t9)) = 0 then 25 else 0)))), aI kI qN_scaffolds 32 (iU (wSc (pcs fN_costs) (pcs fN_zones) vN_span (i + 1) (cd * (vN_span + 1) + t9)) (t9 * 8 + fN_zones (i * 4 + t9)) ((wSc (pcs fN_costs) (pcs fN_zones) vN_span (i + 1) (cd * (vN_span + 1) + t9)) (t9 * 8 + fN_zones (i * 4 + t9)) + -1))] rfl ?_
                    refine x_ext 6 rfl (wSp (pcs fN_costs) (pcs fN_zones) vN_span i cd) (fun k _ _ => by rw [(wS_t hi.1 (by omega)).1]; exact congrFun (iU_back _ _ _) k) [(qN, .inr (4, [.ref qN_blocks, .ref qN_costs, .ref qN_zones, .ref qN_neglects, .ref qN_chosen, .ref qN_best, .ref qN_spent, .ref qN_scaffolds, .int (jI vN_size), .int (jI vN_start), .int (jI vN_span), .int (jI vN_coin), .int (jI l8)])), aI kI qN_costs 24 fN_costs, aI kI qN_zones 24 fN_zones, aI kI qN_neglects 6 fN_neglects, aI kI qN_chosen 6 ch8, aI kI qN_best 6 b8, aI kI qN_spent 4 (wSp (pcs fN_costs) (pcs fN_zones) vN_span i cd), aI kI qN_scaffolds 32 (iU (wSc (pcs fN_costs) (pcs fN_zones) vN_span (i + 1) (cd * (vN_span + 1) + t9)) (t9 * 8 + fN_zones (i * 4 + t9)) ((wSc (pcs fN_costs) (pcs fN_zones) vN_span (i + 1) (cd * (vN_span + 1) + t9)) (t9 * 8 + fN_zones (i * 4 + t9)) + -1))] rfl ?_
                    refine x_ext 7 rfl (wSc (pcs fN_costs) (pcs fN_zones) vN_span i cd) (fun k _ _ => by rw [(wS_t hi.1 (by omega)).2]; exact congrFun (iU_back _ _ _) k) [(qN, .inr (4, [.ref qN_blocks, .ref qN_costs, .ref qN_zones, .ref qN_neglects, .ref qN_chosen, .ref qN_best, .ref qN_spent, .ref qN_scaffolds, .int (jI vN_size), .int (jI vN_start), .int (jI vN_span), .int (jI vN_coin), .int (jI l8)])), aI kI qN_costs 24 fN_costs, aI kI qN_zones 24 fN_zones, aI kI qN_neglects 6 fN_neglects, aI kI qN_chosen 6 ch8, aI kI qN_best 6 b8, aI kI qN_spent 4 (wSp (pcs fN_costs) (pcs fN_zones) vN_span i cd), aI kI qN_scaffolds 32 (wSc (pcs fN_costs) (pcs fN_zones) vN_span i cd)] rfl ?_
                    refine x_iinc (lv' := [(0, .ref qN), (1, .int (jI i)), (2, .int (jI sum)), (3, .int (jI (t9 + 1))), (4, .int (jI (fN_costs (i * 4 + t9) + (if (wSc (pcs fN_costs) (pcs fN_zones) vN_span i cd) (t9 * 8 + fN_zones (i * 4 + t9)) = 0 then 25 else 0))))]) (k := 3) F dX4_search_90 rfl (by decide) [1, 2, 3, 0, 4] rfl ?_
                    refine x_goto (tgt := 35) F dX4_search_93 (by decide) ?_
                    refine x_lv (lv' := [(0, .ref qN), (1, .int (jI i)), (2, .int (jI sum)), (3, .int (jI (t9 + 1)))]) [0, 1, 2, 3] rfl ?_
                    exact ih35 (t9 + 1) l8 ch8 b8 (by omega) (by rw [← Int.add_assoc]; exact hl8) (by rw [← Int.add_assoc]; exact hb8) hch8 hq8 hbr8 (by omega)
                  refine x_icmp_gt (tgt := 82) F dX4_search_68 (by decide) (by omega) (fun c68 => ?_) (fun c68 => ?_)
                  · -- 68 t
                    have hcq1 : ((cd * (vN_span + 1) + t9) + 1) * pwI vN_span 1 = (cd * (vN_span + 1) + t9) * pwI vN_span 1 + pwI vN_span 1 := by rw [Int.add_mul, Int.one_mul]
                    have hcq0 : 0 ≤ (cd * (vN_span + 1) + t9) * pwI vN_span 1 := Int.mul_nonneg (by omega) (by omega)
                    have hov := ls_over (vl := (wV (pcs fN_costs) (pcs fN_zones) fN_neglects vN_span vN_coin vN_size)) (a := (cd * (vN_span + 1) + t9) * pwI vN_span 1) (b := ((cd * (vN_span + 1) + t9) + 1) * pwI vN_span 1) (by omega) (wV_none hn9 hcs9 hng9 (i := i + 1) (by omega) 1 ⟨by omega, hi.2.2⟩ (fun q => absurd ((wK_t hi.1 (by omega)).1 q).2 (by omega)))
                    exact jn82 l9 (iU ch9 i t9) b9 (by rw [hov.1]; exact hl9) (by rw [hov.2]; exact hb9) (fun j j0 j1 => by rw [iU_n (by omega)]; exact hch9 j j0 j1) (Rg.up hq9 _ _ (by omega)) hbr9
                  · -- 68 f
                    refine x_aload_n F dX4_search_71 rfl 0 rfl ?_
                    refine x_iload_n F dX4_search_72 rfl 1 rfl ?_
                    refine x_iconst F dX4_search_73 ?_
                    refine x_iadd F dX4_search_74 ?_
                    refine x_iload_n F dX4_search_75 rfl 2 rfl ?_
                    refine x_iload F dX4_search_76 4 rfl ?_
                    refine x_iadd F dX4_search_78 ?_
                    refine x_callSv (As := [.ref qN, .int (jI (i + 1)), .int (jI (sum + (fN_costs (i * 4 + t9) + (if (wSc (pcs fN_costs) (pcs fN_zones) vN_span i cd) (t9 * 8 + fN_zones (i * 4 + t9)) = 0 then 25 else 0))))]) (st := []) F (c_X4_search_1 D kI kJ l qN (i + 1) (sum + (fN_costs (i * 4 + t9) + (if (wSc (pcs fN_costs) (pcs fN_zones) vN_span i cd) (t9 * 8 + fN_zones (i * 4 + t9)) = 0 then 25 else 0))) qN_blocks qN_costs qN_zones qN_neglects qN_chosen qN_best qN_spent qN_scaffolds vN_size vN_start vN_span vN_coin l9 fN_costs fN_zones fN_neglects (iU ch9 i t9) b9 (cd * (vN_span + 1) + t9) (by omega) hn4 (by omega) hco hNc hNz hNg (Rg.up hq9 _ _ (by omega)) hbr9 (by rw [wT_t hi.1 (by omega), ← hsum]; rfl) ((wK_t hi.1 (by omega)).2 ⟨hok, by omega⟩) hl9 hb9 (fun j j0 j1 => by rw [dg_t hi.1 (by omega)]; by_cases q : j = i; (rw [q, iU_s, if_pos rfl]; unfold chD; rw [if_neg (by omega)]); (rw [iU_n q, if_neg q]; exact hch9 j j0 (by omega)))) (va_cwS 3 F.2.2.2.2.1 gX4_search_X4_search rfl rfl rfl (by decide +kernel) ⟨Nat.le_of_ble_eq_true rfl, Nat.le_of_ble_eq_true rfl⟩) [0, 1, 2, 3, 4, 5, 6, 7] [] [0, 1, 2, 3, 4, 5, 6, 7] rfl rfl (by decide) (by decide) (by decide) (fun _ => rfl) (by decide) rfl (Nat.le_of_ble_eq_true rfl) dX4_search_79 ⟨Nat.le_of_ble_eq_true rfl, Nat.le_of_ble_eq_true rfl⟩ (fun u79 h79 => ?_)
                    obtain ⟨l2_79, ch2_79, b2_79⟩ := u79
                    try dsimp only at h79
                    refine x_ws [(qN, .inr (4, [.ref qN_blocks, .ref qN_costs, .ref qN_zones, .ref qN_neglects, .ref qN_chosen, .ref qN_best, .ref qN_spent, .ref qN_scaffolds, .int (jI vN_size), .int (jI vN_start), .int (jI vN_span), .int (jI vN_coin), .int (jI l2_79)])), aI kI qN_costs 24 fN_costs, aI kI qN_zones 24 fN_zones, aI kI qN_neglects 6 fN_neglects, aI kI qN_chosen 6 ch2_79, aI kI qN_best 6 b2_79, aI kI qN_spent 4 (wSp (pcs fN_costs) (pcs fN_zones) vN_span (i + 1) (cd * (vN_span + 1) + t9)), aI kI qN_scaffolds 32 (wSc (pcs fN_costs) (pcs fN_zones) vN_span (i + 1) (cd * (vN_span + 1) + t9))] rfl ?_
                    obtain ⟨hl2_79, hb2_79, hc2_79, hq2_79, hb3_79⟩ := h79
                    exact jn82 l2_79 ch2_79 b2_79 hl2_79 hb2_79 (fun j j0 j1 => by rw [hc2_79 j j0 (by omega), iU_n (by omega)]; exact hch9 j j0 j1) hq2_79 hb3_79
          exact lp35 (Int.toNat (vN_span - 0) + 1) 0 vN_least fN_chosen fN_best (by omega) (by rw [← (pw_in vN_span cd 0 1).1]; exact hl) (by rw [← (pw_in vN_span cd 0 1).1]; exact hb) hch hNq hNb (by omega)
        · exact absurd c24 (by omega)
  · -- 5 f
    have hov := ls_over (vl := (wV (pcs fN_costs) (pcs fN_zones) fN_neglects vN_span vN_coin vN_size)) (a := cd * pwI vN_span 2) (b := (cd + 1) * pwI vN_span 2) (by omega) (wV_prune hn9 hcs9 hng9 hi.1 2 ⟨hi.2.1, hi.2.2⟩ (by rw [← hl, ← hsum]; omega))
    exact hret 0 0 8 _ (vN_least, fN_chosen, fN_best) (Nat.le_of_ble_eq_true rfl) (Nat.le_of_ble_eq_true rfl) dX4_search_8 (by (try dsimp only); exact (⟨by rw [hov.1]; exact hl, by rw [hov.2]; exact hb, fun j _ _ => rfl, hNq, hNb⟩))
set_option maxHeartbeats 4000000 in
set_option maxRecDepth 100000 in
theorem c_X4_search_3 (D : va_G) (kI kJ : Nat) (l : Launch) (qN : Nat) (i : Int) (sum : Int) (qN_blocks : Nat) (qN_costs : Nat) (qN_zones : Nat) (qN_neglects : Nat) (qN_chosen : Nat) (qN_best : Nat) (qN_spent : Nat) (qN_scaffolds : Nat) (vN_size : Int) (vN_start : Int) (vN_span : Int) (vN_coin : Int) (vN_least : Int) (fN_costs : (Int → Int)) (fN_zones : (Int → Int)) (fN_neglects : (Int → Int)) (fN_chosen : (Int → Int)) (fN_best : (Int → Int)) (cd : Int) (hi : 0 ≤ i ∧ i + 3 = vN_size ∧ vN_size ≤ 6) (hn4 : 1 ≤ vN_span ∧ vN_span ≤ 4) (hc : 0 ≤ cd) (hco : 0 ≤ vN_coin ∧ vN_coin ≤ 1000) (hNc : Rg fN_costs 24 0 50000) (hNz : Rg fN_zones 24 0 7) (hNg : Rg fN_neglects 6 0 200000) (hNq : Rg fN_chosen 6 (-1) 3) (hNb : Rg fN_best 6 (-1) 3) (hsum : sum = wT (pcs fN_costs) (pcs fN_zones) fN_neglects vN_span i cd) (hok : wK (pcs fN_costs) (pcs fN_zones) vN_span vN_coin i cd = true) (hl : vN_least = lsI (wV (pcs fN_costs) (pcs fN_zones) fN_neglects vN_span vN_coin vN_size) (cd * pwI vN_span 3)) (hb : 0 ≤ bsI (wV (pcs fN_costs) (pcs fN_zones) fN_neglects vN_span vN_coin vN_size) (cd * pwI vN_span 3) → ∀ j : Int, 0 ≤ j → j < vN_size → fN_best j = chD vN_span (dg vN_span vN_size (bsI (wV (pcs fN_costs) (pcs fN_zones) fN_neglects vN_span vN_coin vN_size) (cd * pwI vN_span 3)) j)) (hch : ∀ j : Int, 0 ≤ j → j < i → fN_chosen j = chD vN_span (dg vN_span i cd j)) : xMv D kI kJ l yX4_search wsX4_search 6 157 0 0 [.ref qN, .int (jI i), .int (jI sum)] [(qN, .inr (4, [.ref qN_blocks, .ref qN_costs, .ref qN_zones, .ref qN_neglects, .ref qN_chosen, .ref qN_best, .ref qN_spent, .ref qN_scaffolds, .int (jI vN_size), .int (jI vN_start), .int (jI vN_span), .int (jI vN_coin), .int (jI vN_least)])), aI kI qN_costs 24 fN_costs, aI kI qN_zones 24 fN_zones, aI kI qN_neglects 6 fN_neglects, aI kI qN_chosen 6 fN_chosen, aI kI qN_best 6 fN_best, aI kI qN_spent 4 (wSp (pcs fN_costs) (pcs fN_zones) vN_span i cd), aI kI qN_scaffolds 32 (wSc (pcs fN_costs) (pcs fN_zones) vN_span i cd)] (fun (u : Int × (Int → Int) × (Int → Int)) => (u.1 = lsI (wV (pcs fN_costs) (pcs fN_zones) fN_neglects vN_span vN_coin vN_size) ((cd + 1) * pwI vN_span 3)) ∧ (0 ≤ bsI (wV (pcs fN_costs) (pcs fN_zones) fN_neglects vN_span vN_coin vN_size) ((cd + 1) * pwI vN_span 3) → ∀ j : Int, 0 ≤ j → j < vN_size → u.2.2 j = chD vN_span (dg vN_span vN_size (bsI (wV (pcs fN_costs) (pcs fN_zones) fN_neglects vN_span vN_coin vN_size) ((cd + 1) * pwI vN_span 3)) j)) ∧ (∀ j : Int, 0 ≤ j → j < i → u.2.1 j = fN_chosen j) ∧ (Rg u.2.1 6 (-1) 3) ∧ (Rg u.2.2 6 (-1) 3)) (fun (u : Int × (Int → Int) × (Int → Int)) => [(qN, .inr (4, [.ref qN_blocks, .ref qN_costs, .ref qN_zones, .ref qN_neglects, .ref qN_chosen, .ref qN_best, .ref qN_spent, .ref qN_scaffolds, .int (jI vN_size), .int (jI vN_start), .int (jI vN_span), .int (jI vN_coin), .int (jI u.1)])), aI kI qN_costs 24 fN_costs, aI kI qN_zones 24 fN_zones, aI kI qN_neglects 6 fN_neglects, aI kI qN_chosen 6 u.2.1, aI kI qN_best 6 u.2.2, aI kI qN_spent 4 (wSp (pcs fN_costs) (pcs fN_zones) vN_span i cd), aI kI qN_scaffolds 32 (wSc (pcs fN_costs) (pcs fN_zones) vN_span i cd)]) := by
  refine xMv_of (cc := cX4_search) (maxL := 5) (by decide) rfl (Nat.le_of_ble_eq_true rfl) ?_
  intro p e s m args below meth c A Q F hin2 hret
  have hin4 : ∀ w ∈ wsX40, w ∈ wsX4_search := by decide +kernel
  have hw0 : Cond.fieldLink RX4 56 (TX4 12).1 (TX4 12).2.1 (TX4 12).2.2.1 ∈ wsX4_search := by decide +kernel
  have hw1 : Cond.fieldLink RX4 36 (TX4 8).1 (TX4 8).2.1 (TX4 8).2.2.1 ∈ wsX4_search := by decide +kernel
  have hw2 : Cond.fieldLink RX4 49 (TX4 10).1 (TX4 10).2.1 (TX4 10).2.2.1 ∈ wsX4_search := by decide +kernel
  have hw3 : Cond.fieldLink RX4 24 (TX4 4).1 (TX4 4).2.1 (TX4 4).2.2.1 ∈ wsX4_search := by decide +kernel
  have hw4 : Cond.fieldLink RX4 21 (TX4 3).1 (TX4 3).2.1 (TX4 3).2.2.1 ∈ wsX4_search := by decide +kernel
  have hw5 : Cond.fieldLink RX4 30 (TX4 6).1 (TX4 6).2.1 (TX4 6).2.2.1 ∈ wsX4_search := by decide +kernel
  have hw6 : Cond.initialized yX9_at.cls ∈ wsX4_search := by decide +kernel
  have hw7 : Cond.static yX9_at ∈ wsX4_search := by decide +kernel
  have hw8 : Cond.fieldLink RX4 52 (TX4 11).1 (TX4 11).2.1 (TX4 11).2.2.1 ∈ wsX4_search := by decide +kernel
  refine x_lveq (lv' := [(0, .ref qN), (1, .int (jI i)), (2, .int (jI sum))]) rfl ?_
  have hcs9 : ∀ j t : Int, 0 ≤ j → j < 6 → 0 ≤ t → t < vN_span → 0 ≤ pcs fN_costs j t ∧ pcs fN_costs j t ≤ 50000 := fun j t a1 a2 a3 a4 => hNc (j * 4 + t) (by omega) (by omega)
  have hng9 : ∀ j : Int, 0 ≤ j → j < 6 → 0 ≤ fN_neglects j ∧ fN_neglects j ≤ 200000 := fun j a1 a2 => hNg j a1 a2
  have hn9 : 0 ≤ vN_span ∧ vN_span ≤ 4 := by omega
  have hT9 := wT_bd (zn := pcs fN_zones) hn9 hcs9 hng9 (i := i) (by omega) cd
  rw [← hsum] at hT9
  have hLr := ls_rng (vl := (wV (pcs fN_costs) (pcs fN_zones) fN_neglects vN_span vN_coin vN_size)) (cd * pwI vN_span 3)
  rw [← hl] at hLr
  have hpp := pwI_pos hn9.1 3
  have hcp : 0 ≤ cd * pwI vN_span 3 := Int.mul_nonneg hc (by omega)
  have hcq : (cd + 1) * pwI vN_span 3 = cd * pwI vN_span 3 + pwI vN_span 3 := by rw [Int.add_mul, Int.one_mul]
  refine x_iload_n F dX4_search_0 rfl 2 rfl ?_
  refine x_aload_n F dX4_search_1 rfl 0 rfl ?_
  refine x_get (ci := 4) F hin4 0 rfl rfl 12 (by decide) hw0 rfl dX4_search_2 ?_
  refine x_icmp_lt (tgt := 9) F dX4_search_5 (by decide) (by omega) (fun c5 => ?_) (fun c5 => ?_)
  · -- 5 t
    have hcn : 0 ≤ cd * (vN_span + 1) := Int.mul_nonneg hc (by omega)
    have hSc9 : Rg (wSc (pcs fN_costs) (pcs fN_zones) vN_span i cd) 32 0 6 := fun k _ _ => by have := wSc_bd (zn := pcs fN_zones) hn9 hcs9 (i := i) (by omega) cd k; omega
    have hSp9 : Rg (wSp (pcs fN_costs) (pcs fN_zones) vN_span i cd) 4 0 400000 := fun k _ _ => by have := wSp_bd (zn := pcs fN_zones) hn9 hcs9 (i := i) (by omega) cd k; omega
    have hqq := pwI_pos hn9.1 2
    refine x_iload_n F dX4_search_9 rfl 1 rfl ?_
    refine x_if_lt (tgt := 27) F dX4_search_10 (by decide) (by omega) (fun c10 => ?_) (fun c10 => ?_)
    · exact absurd c10 (by omega)
    · -- 10 f
      refine x_iload_n F dX4_search_13 rfl 1 rfl ?_
      refine x_aload_n F dX4_search_14 rfl 0 rfl ?_
      refine x_get (ci := 4) F hin4 0 rfl rfl 8 (by decide) hw1 rfl dX4_search_15 ?_
      refine x_icmp_ge (tgt := 27) F dX4_search_18 (by decide) (by omega) (fun c18 => ?_) (fun c18 => ?_)
      · exact absurd c18 (by omega)
      · -- 18 f
        refine x_iload_n F dX4_search_21 rfl 1 rfl ?_
        refine x_bipush F dX4_search_22 (by decide) ?_
        refine x_icmp_lt (tgt := 33) F dX4_search_24 (by decide) (by omega) (fun c24 => ?_) (fun c24 => ?_)
        · -- 24 t
          refine x_iconst F dX4_search_33 ?_
          refine x_istore_n (lv' := [(0, .ref qN), (1, .int (jI i)), (2, .int (jI sum)), (3, .int (jI 0))]) F dX4_search_34 rfl (by decide) [1, 2, 3, 0] rfl ?_
          have lp35 : ∀ (fu : Nat) (t9 : Int) (l9 : Int) (ch9 : (Int → Int)) (b9 : (Int → Int)) (ht9 : 0 ≤ t9 ∧ t9 ≤ vN_span) (hl9 : l9 = lsI (wV (pcs fN_costs) (pcs fN_zones) fN_neglects vN_span vN_coin vN_size) ((cd * (vN_span + 1) + t9) * pwI vN_span 2)) (hb9 : 0 ≤ bsI (wV (pcs fN_costs) (pcs fN_zones) fN_neglects vN_span vN_coin vN_size) ((cd * (vN_span + 1) + t9) * pwI vN_span 2) → ∀ j : Int, 0 ≤ j → j < vN_size → b9 j = chD vN_span (dg vN_span vN_size (bsI (wV (pcs fN_costs) (pcs fN_zones) fN_neglects vN_span vN_coin vN_size) ((cd * (vN_span + 1) + t9) * pwI vN_span 2)) j)) (hch9 : ∀ j : Int, 0 ≤ j → j < i → ch9 j = chD vN_span (dg vN_span i cd j)) (hq9 : Rg ch9 6 (-1) 3) (hbr9 : Rg b9 6 (-1) 3) (hm : vN_span - t9 < (fu : Int)), xG D p l e (xRm 6 157 0 0) s m args below meth c 5 A Q 0 0 [(qN, .inr (4, [.ref qN_blocks, .ref qN_costs, .ref qN_zones, .ref qN_neglects, .ref qN_chosen, .ref qN_best, .ref qN_spent, .ref qN_scaffolds, .int (jI vN_size), .int (jI vN_start), .int (jI vN_span), .int (jI vN_coin), .int (jI l9)])), aI kI qN_costs 24 fN_costs, aI kI qN_zones 24 fN_zones, aI kI qN_neglects 6 fN_neglects, aI kI qN_chosen 6 ch9, aI kI qN_best 6 b9, aI kI qN_spent 4 (wSp (pcs fN_costs) (pcs fN_zones) vN_span i cd), aI kI qN_scaffolds 32 (wSc (pcs fN_costs) (pcs fN_zones) vN_span i cd)] [(0, .ref qN), (1, .int (jI i)), (2, .int (jI sum)), (3, .int (jI t9))] 35 [] := by
            intro fu
            induction fu with
            | zero =>
              intro t9 l9 ch9 b9 ht9 hl9 hb9 hch9 hq9 hbr9 hm
              exact absurd hm (by omega)
            | succ fu ih35 =>
              intro t9 l9 ch9 b9 ht9 hl9 hb9 hch9 hq9 hbr9 hm
              refine x_iload_n F dX4_search_35 rfl 3 rfl ?_
              refine x_aload_n F dX4_search_36 rfl 0 rfl ?_
              refine x_get (ci := 4) F hin4 0 rfl rfl 10 (by decide) hw2 rfl dX4_search_37 ?_
              refine x_icmp_ge (tgt := 96) F dX4_search_40 (by decide) (by omega) (fun c40 => ?_) (fun c40 => ?_)
              · -- 40 t
                have ht8 : t9 = vN_span := by omega
                rw [ht8] at hl9 hb9
                refine x_aload_n F dX4_search_96 rfl 0 rfl ?_
                refine x_get (ci := 4) F hin4 0 rfl rfl 4 (by decide) hw3 rfl dX4_search_97 ?_
                refine x_iload_n F dX4_search_100 rfl 1 rfl ?_
                refine x_iconst F dX4_search_101 ?_
                refine x_iast F 4 rfl (by decide) (by omega) dX4_search_102 [(qN, .inr (4, [.ref qN_blocks, .ref qN_costs, .ref qN_zones, .ref qN_neglects, .ref qN_chosen, .ref qN_best, .ref qN_spent, .ref qN_scaffolds, .int (jI vN_size), .int (jI vN_start), .int (jI vN_span), .int (jI vN_coin), .int (jI l9)])), aI kI qN_costs 24 fN_costs, aI kI qN_zones 24 fN_zones, aI kI qN_neglects 6 fN_neglects, aI kI qN_chosen 6 (iU ch9 i (-1)), aI kI qN_best 6 b9, aI kI qN_spent 4 (wSp (pcs fN_costs) (pcs fN_zones) vN_span i cd), aI kI qN_scaffolds 32 (wSc (pcs fN_costs) (pcs fN_zones) vN_span i cd)] rfl ?_
                refine x_ext 6 rfl (wSp (pcs fN_costs) (pcs fN_zones) vN_span (i + 1) (cd * (vN_span + 1) + vN_span)) (fun k _ _ => by rw [(wS_n hi.1 hn9.1).1]) [(qN, .inr (4, [.ref qN_blocks, .ref qN_costs, .ref qN_zones, .ref qN_neglects, .ref qN_chosen, .ref qN_best, .ref qN_spent, .ref qN_scaffolds, .int (jI vN_size), .int (jI vN_start), .int (jI vN_span), .int (jI vN_coin), .int (jI l9)])), aI kI qN_costs 24 fN_costs, aI kI qN_zones 24 fN_zones, aI kI qN_neglects 6 fN_neglects, aI kI qN_chosen 6 (iU ch9 i (-1)), aI kI qN_best 6 b9, aI kI qN_spent 4 (wSp (pcs fN_costs) (pcs fN_zones) vN_span (i + 1) (cd * (vN_span + 1) + vN_span)), aI kI qN_scaffolds 32 (wSc (pcs fN_costs) (pcs fN_zones) vN_span i cd)] rfl ?_
                refine x_ext 7 rfl (wSc (pcs fN_costs) (pcs fN_zones) vN_span (i + 1) (cd * (vN_span + 1) + vN_span)) (fun k _ _ => by rw [(wS_n hi.1 hn9.1).2]) [(qN, .inr (4, [.ref qN_blocks, .ref qN_costs, .ref qN_zones, .ref qN_neglects, .ref qN_chosen, .ref qN_best, .ref qN_spent, .ref qN_scaffolds, .int (jI vN_size), .int (jI vN_start), .int (jI vN_span), .int (jI vN_coin), .int (jI l9)])), aI kI qN_costs 24 fN_costs, aI kI qN_zones 24 fN_zones, aI kI qN_neglects 6 fN_neglects, aI kI qN_chosen 6 (iU ch9 i (-1)), aI kI qN_best 6 b9, aI kI qN_spent 4 (wSp (pcs fN_costs) (pcs fN_zones) vN_span (i + 1) (cd * (vN_span + 1) + vN_span)), aI kI qN_scaffolds 32 (wSc (pcs fN_costs) (pcs fN_zones) vN_span (i + 1) (cd * (vN_span + 1) + vN_span))] rfl ?_
                refine x_aload_n F dX4_search_103 rfl 0 rfl ?_
                refine x_iload_n F dX4_search_104 rfl 1 rfl ?_
                refine x_iconst F dX4_search_105 ?_
                refine x_iadd F dX4_search_106 ?_
                refine x_iload_n F dX4_search_107 rfl 2 rfl ?_
                refine x_aload_n F dX4_search_108 rfl 0 rfl ?_
                refine x_get (ci := 4) F hin4 0 rfl rfl 3 (by decide) hw4 rfl dX4_search_109 ?_
                refine x_iload_n F dX4_search_112 rfl 1 rfl ?_
                refine x_iald F 3 rfl (by decide) (by omega) dX4_search_113 ?_
                have hr113 := Rg.at hNg i (by omega)
                refine x_iadd F dX4_search_114 ?_
                refine x_callSv (As := [.ref qN, .int (jI (i + 1)), .int (jI (sum + (fN_neglects i)))]) (st := []) F (c_X4_search_2 D kI kJ l qN (i + 1) (sum + (fN_neglects i)) qN_blocks qN_costs qN_zones qN_neglects qN_chosen qN_best qN_spent qN_scaffolds vN_size vN_start vN_span vN_coin l9 fN_costs fN_zones fN_neglects (iU ch9 i (-1)) b9 (cd * (vN_span + 1) + vN_span) (by omega) hn4 (by omega) hco hNc hNz hNg (Rg.up hq9 _ _ (by omega)) hbr9 (by rw [wT_n hi.1 hn9.1, ← hsum]) ((wK_n hi.1 hn9.1).2 hok) hl9 hb9 (fun j j0 j1 => by rw [dg_t hi.1 (by omega)]; by_cases q : j = i; (rw [q, iU_s, if_pos rfl]; unfold chD; rw [if_pos rfl]); (rw [iU_n q, if_neg q]; exact hch9 j j0 (by omega)))) (va_cwS 3 F.2.2.2.2.1 gX4_search_X4_search rfl rfl rfl (by decide +kernel) ⟨Nat.le_of_ble_eq_true rfl, Nat.le_of_ble_eq_true rfl⟩) [0, 1, 2, 3, 4, 5, 6, 7] [] [0, 1, 2, 3, 4, 5, 6, 7] rfl rfl (by decide) (by decide) (by decide) (fun _ => rfl) (by decide) rfl (Nat.le_of_ble_eq_true rfl) dX4_search_115 ⟨Nat.le_of_ble_eq_true rfl, Nat.le_of_ble_eq_true rfl⟩ (fun u115 h115 => ?_)
                obtain ⟨l2_115, ch2_115, b2_115⟩ := u115
                try dsimp only at h115
                refine x_ws [(qN, .inr (4, [.ref qN_blocks, .ref qN_costs, .ref qN_zones, .ref qN_neglects, .ref qN_chosen, .ref qN_best, .ref qN_spent, .ref qN_scaffolds, .int (jI vN_size), .int (jI vN_start), .int (jI vN_span), .int (jI vN_coin), .int (jI l2_115)])), aI kI qN_costs 24 fN_costs, aI kI qN_zones 24 fN_zones, aI kI qN_neglects 6 fN_neglects, aI kI qN_chosen 6 ch2_115, aI kI qN_best 6 b2_115, aI kI qN_spent 4 (wSp (pcs fN_costs) (pcs fN_zones) vN_span (i + 1) (cd * (vN_span + 1) + vN_span)), aI kI qN_scaffolds 32 (wSc (pcs fN_costs) (pcs fN_zones) vN_span (i + 1) (cd * (vN_span + 1) + vN_span))] rfl ?_
                obtain ⟨hl2_115, hb2_115, hc2_115, hq2_115, hb3_115⟩ := h115
                refine x_ext 6 rfl (wSp (pcs fN_costs) (pcs fN_zones) vN_span i cd) (fun k _ _ => by rw [(wS_n hi.1 hn9.1).1]) [(qN, .inr (4, [.ref qN_blocks, .ref qN_costs, .ref qN_zones, .ref qN_neglects, .ref qN_chosen, .ref qN_best, .ref qN_spent, .ref qN_scaffolds, .int (jI vN_size), .int (jI vN_start), .int (jI vN_span), .int (jI vN_coin), .int (jI l2_115)])), aI kI qN_costs 24 fN_costs, aI kI qN_zones 24 fN_zones, aI kI qN_neglects 6 fN_neglects, aI kI qN_chosen 6 ch2_115, aI kI qN_best 6 b2_115, aI kI qN_spent 4 (wSp (pcs fN_costs) (pcs fN_zones) vN_span i cd), aI kI qN_scaffolds 32 (wSc (pcs fN_costs) (pcs fN_zones) vN_span (i + 1) (cd * (vN_span + 1) + vN_span))] rfl ?_
                refine x_ext 7 rfl (wSc (pcs fN_costs) (pcs fN_zones) vN_span i cd) (fun k _ _ => by rw [(wS_n hi.1 hn9.1).2]) [(qN, .inr (4, [.ref qN_blocks, .ref qN_costs, .ref qN_zones, .ref qN_neglects, .ref qN_chosen, .ref qN_best, .ref qN_spent, .ref qN_scaffolds, .int (jI vN_size), .int (jI vN_start), .int (jI vN_span), .int (jI vN_coin), .int (jI l2_115)])), aI kI qN_costs 24 fN_costs, aI kI qN_zones 24 fN_zones, aI kI qN_neglects 6 fN_neglects, aI kI qN_chosen 6 ch2_115, aI kI qN_best 6 b2_115, aI kI qN_spent 4 (wSp (pcs fN_costs) (pcs fN_zones) vN_span i cd), aI kI qN_scaffolds 32 (wSc (pcs fN_costs) (pcs fN_zones) vN_span i cd)] rfl ?_
                exact hret 0 0 118 _ (l2_115, ch2_115, b2_115) (Nat.le_of_ble_eq_true rfl) (Nat.le_of_ble_eq_true rfl) dX4_search_118 (by (try dsimp only); exact (⟨by rw [(pw_in vN_span cd 0 2).2]; exact hl2_115, by rw [(pw_in vN_span cd 0 2).2]; exact hb2_115, fun j j0 j1 => by rw [hc2_115 j j0 (by omega), iU_n (by omega), hch9 j j0 j1]; exact (hch j j0 j1).symm, hq2_115, hb3_115⟩))
              · -- 40 f
                refine x_iload_n F dX4_search_43 rfl 3 rfl ?_
                refine x_iconst F dX4_search_44 ?_
                refine x_icmp_ge (tgt := 96) F dX4_search_45 (by decide) (by omega) (fun c45 => ?_) (fun c45 => ?_)
                · exact absurd c45 (by omega)
                · -- 45 f
                  refine x_aload_n F dX4_search_48 rfl 0 rfl ?_
                  refine x_iload_n F dX4_search_49 rfl 1 rfl ?_
                  refine x_iload_n F dX4_search_50 rfl 3 rfl ?_
                  refine x_callVi (ci := 4) (q0 := 0) (As := [.int (jI i), .int (jI t9)]) (st := []) F (c_X4_doWork D kI kJ l qN i t9 qN_blocks qN_costs qN_zones qN_neglects qN_chosen qN_best qN_spent qN_scaffolds vN_size vN_start vN_span vN_coin l9 fN_costs fN_zones (wSp (pcs fN_costs) (pcs fN_zones) vN_span i cd) (wSc (pcs fN_costs) (pcs fN_zones) vN_span i cd) ch9 (by omega) hNc hNz hSc9 hSp9) (cwV 2 F.2.2.2.2.1 gX4_search_X4_doWork rfl rfl rfl (by decide +kernel) ⟨Nat.le_of_ble_eq_true rfl, Nat.le_of_ble_eq_true rfl⟩) rfl rfl [0, 1, 2, 6, 7, 4] [3, 5] [2, 3, 4, 0, 7, 1, 5, 6] rfl rfl (by decide) (by decide) (by decide) (fun _ => rfl) (by decide) rfl (Nat.le_of_ble_eq_true rfl) dX4_search_51 ⟨Nat.le_of_ble_eq_true rfl, Nat.le_of_ble_eq_true rfl⟩ (fun z51 u51 h51 => ?_)
                  obtain ⟨s2_51, rfl⟩ : ∃ z, z = u51 := ⟨_, rfl⟩
                  try dsimp only at h51
                  refine x_ws [(qN, .inr (4, [.ref qN_blocks, .ref qN_costs, .ref qN_zones, .ref qN_neglects, .ref qN_chosen, .ref qN_best, .ref qN_spent, .ref qN_scaffolds, .int (jI vN_size), .int (jI vN_start), .int (jI vN_span), .int (jI vN_coin), .int (jI l9)])), aI kI qN_costs 24 fN_costs, aI kI qN_zones 24 fN_zones, aI kI qN_neglects 6 fN_neglects, aI kI qN_chosen 6 (iU ch9 i t9), aI kI qN_best 6 b9, aI kI qN_spent 4 s2_51, aI kI qN_scaffolds 32 (iU (wSc (pcs fN_costs) (pcs fN_zones) vN_span i cd) (t9 * 8 + fN_zones (i * 4 + t9)) ((wSc (pcs fN_costs) (pcs fN_zones) vN_span i cd) (t9 * 8 + fN_zones (i * 4 + t9)) + 1))] rfl ?_
                  obtain ⟨he51, hs_51⟩ := h51
                  have he51 := he51.symm
                  subst he51
                  have hbd9 := wSp_bd (zn := pcs fN_zones) hn9 hcs9 (i := i + 1) (by omega) (cd * (vN_span + 1) + t9) t9
                  refine x_istore (lv' := [(0, .ref qN), (1, .int (jI i)), (2, .int (jI sum)), (3, .int (jI t9)), (4, .int (jI (fN_costs (i * 4 + t9) + (if (wSc (pcs fN_costs) (pcs fN_zones) vN_span i cd) (t9 * 8 + fN_zones (i * 4 + t9)) = 0 then 25 else 0))))]) F dX4_search_54 (by decide) [1, 2, 3, 4, 0] rfl ?_
                  refine x_ext 6 rfl (wSp (pcs fN_costs) (pcs fN_zones) vN_span (i + 1) (cd * (vN_span + 1) + t9)) (fun k _ _ => by rw [hs_51, (wS_t hi.1 (by omega)).1]; rfl) [(qN, .inr (4, [.ref qN_blocks, .ref qN_costs, .ref qN_zones, .ref qN_neglects, .ref qN_chosen, .ref qN_best, .ref qN_spent, .ref qN_scaffolds, .int (jI vN_size), .int (jI vN_start), .int (jI vN_span), .int (jI vN_coin), .int (jI l9)])), aI kI qN_costs 24 fN_costs, aI kI qN_zones 24 fN_zones, aI kI qN_neglects 6 fN_neglects, aI kI qN_chosen 6 (iU ch9 i t9), aI kI qN_best 6 b9, aI kI qN_spent 4 (wSp (pcs fN_costs) (pcs fN_zones) vN_span (i + 1) (cd * (vN_span + 1) + t9)), aI kI qN_scaffolds 32 (iU (wSc (pcs fN_costs) (pcs fN_zones) vN_span i cd) (t9 * 8 + fN_zones (i * 4 + t9)) ((wSc (pcs fN_costs) (pcs fN_zones) vN_span i cd) (t9 * 8 + fN_zones (i * 4 + t9)) + 1))] rfl ?_
                  refine x_ext 7 rfl (wSc (pcs fN_costs) (pcs fN_zones) vN_span (i + 1) (cd * (vN_span + 1) + t9)) (fun k _ _ => by rw [(wS_t hi.1 (by omega)).2]; rfl) [(qN, .inr (4, [.ref qN_blocks, .ref qN_costs, .ref qN_zones, .ref qN_neglects, .ref qN_chosen, .ref qN_best, .ref qN_spent, .ref qN_scaffolds, .int (jI vN_size), .int (jI vN_start), .int (jI vN_span), .int (jI vN_coin), .int (jI l9)])), aI kI qN_costs 24 fN_costs, aI kI qN_zones 24 fN_zones, aI kI qN_neglects 6 fN_neglects, aI kI qN_chosen 6 (iU ch9 i t9), aI kI qN_best 6 b9, aI kI qN_spent 4 (wSp (pcs fN_costs) (pcs fN_zones) vN_span (i + 1) (cd * (vN_span + 1) + t9)), aI kI qN_scaffolds 32 (wSc (pcs fN_costs) (pcs fN_zones) vN_span (i + 1) (cd * (vN_span + 1) + t9))] rfl ?_
                  refine x_aload_n F dX4_search_56 rfl 0 rfl ?_
                  refine x_get (ci := 4) F hin4 0 rfl rfl 6 (by decide) hw5 rfl dX4_search_57 ?_
                  refine x_iload_n F dX4_search_60 rfl 3 rfl ?_
                  refine x_callSNi (As := [.ref qN_spent, .int (jI t9)]) (st := []) F (c_X9_at D kI kJ l qN_spent t9 4 (wSp (pcs fN_costs) (pcs fN_zones) vN_span (i + 1) (cd * (vN_span + 1) + t9)) (by omega) (by omega)) ⟨va_cnB 2 F.2.2.2.2.1 gX4_search_X9_at_n85 rfl rfl rfl (nM20 F.2.2.2.2.2.2.2) (F.2.2.2.2.1 _ hw6) (by decide +kernel) ⟨Nat.le_of_ble_eq_true rfl, Nat.le_of_ble_eq_true rfl⟩, F.2.2.2.2.1 _ hw7, trivial⟩ [6] [0, 1, 2, 3, 4, 5, 7] [0, 1, 2, 3, 4, 5, 7, 6] rfl rfl (by decide) (by decide) (by decide) (fun _ => rfl) (by decide) rfl (Nat.le_of_ble_eq_true rfl) dX4_search_61 ⟨Nat.le_of_ble_eq_true rfl, Nat.le_of_ble_eq_true rfl⟩ (fun z61 u61 h61 => ?_)
                  try dsimp only at h61
                  refine x_ws [(qN, .inr (4, [.ref qN_blocks, .ref qN_costs, .ref qN_zones, .ref qN_neglects, .ref qN_chosen, .ref qN_best, .ref qN_spent, .ref qN_scaffolds, .int (jI vN_size), .int (jI vN_start), .int (jI vN_span), .int (jI vN_coin), .int (jI l9)])), aI kI qN_costs 24 fN_costs, aI kI qN_zones 24 fN_zones, aI kI qN_neglects 6 fN_neglects, aI kI qN_chosen 6 (iU ch9 i t9), aI kI qN_best 6 b9, aI kI qN_spent 4 (wSp (pcs fN_costs) (pcs fN_zones) vN_span (i + 1) (cd * (vN_span + 1) + t9)), aI kI qN_scaffolds 32 (wSc (pcs fN_costs) (pcs fN_zones) vN_span (i + 1) (cd * (vN_span + 1) + t9))] rfl ?_
                  have he61 := h61
                  have he61 := he61.symm
                  subst he61
                  refine x_aload_n F dX4_search_64 rfl 0 rfl ?_
                  refine x_get (ci := 4) F hin4 0 rfl rfl 11 (by decide) hw8 rfl dX4_search_65 ?_
                  have jn82 : ∀ (l8 : Int) (ch8 : (Int → Int)) (b8 : (Int → Int)) (hl8 : l8 = lsI (wV (pcs fN_costs) (pcs fN_zones) fN_neglects vN_span vN_coin vN_size) (((cd * (vN_span + 1) + t9) + 1) * pwI vN_span 2)) (hb8 : 0 ≤ bsI (wV (pcs fN_costs) (pcs fN_zones) fN_neglects vN_span vN_coin vN_size) (((cd * (vN_span + 1) + t9) + 1) * pwI vN_span 2) → ∀ j : Int, 0 ≤ j → j < vN_size → b8 j = chD vN_span (dg vN_span vN_size (bsI (wV (pcs fN_costs) (pcs fN_zones) fN_neglects vN_span vN_coin vN_size) (((cd * (vN_span + 1) + t9) + 1) * pwI vN_span 2)) j)) (hch8 : ∀ j : Int, 0 ≤ j → j < i → ch8 j = chD vN_span (dg vN_span i cd j)) (hq8 : Rg ch8 6 (-1) 3) (hbr8 : Rg b8 6 (-1) 3), xG D p l e (xRm 6 157 0 0) s m args below meth c 5 A Q 0 0 [(qN, .inr (4, [.ref qN_blocks, .ref qN_costs, .ref qN_zones, .ref qN_neglects, .ref qN_chosen, .ref qN_best, .ref qN_spent, .ref qN_scaffolds, .int (jI vN_size), .int (jI vN_start), .int (jI vN_span), .int (jI vN_coin), .int (jI l8)])), aI kI qN_costs 24 fN_costs, aI kI qN_zones 24 fN_zones, aI kI qN_neglects 6 fN_neglects, aI kI qN_chosen 6 ch8, aI kI qN_best 6 b8, aI kI qN_spent 4 (wSp (pcs fN_costs) (pcs fN_zones) vN_span (i + 1) (cd * (vN_span + 1) + t9)), aI kI qN_scaffolds 32 (wSc (pcs fN_costs) (pcs fN_zones) vN_span (i + 1) (cd * (vN_span + 1) + t9))] [(0, .ref qN), (1, .int (jI i)), (2, .int (jI sum)), (3, .int (jI t9)), (4, .int (jI (fN_costs (i * 4 + t9) + (if (wSc (pcs fN_costs) (pcs fN_zones) vN_span i cd) (t9 * 8 + fN_zones (i * 4 + t9)) = 0 then 25 else 0))))] 82 [] := by
                    intro l8 ch8 b8 hl8 hb8 hch8 hq8 hbr8
                    refine x_aload_n F dX4_search_82 rfl 0 rfl ?_
                    refine x_iload_n F dX4_search_83 rfl 1 rfl ?_
                    refine x_iload_n F dX4_search_84 rfl 3 rfl ?_
                    refine x_iload F dX4_search_85 4 rfl ?_
                    refine x_callVv (ci := 4) (q0 := 0) (As := [.int (jI i), .int (jI t9), .int (jI (fN_costs (i * 4 + t9) + (if (wSc (pcs fN_costs) (pcs fN_zones) vN_span i cd) (t9 * 8 + fN_zones (i * 4 + t9)) = 0 then 25 else 0)))]) (st := []) F (c_X4_undoWork D kI kJ l qN i t9 (fN_costs (i * 4 + t9) + (if (wSc (pcs fN_costs) (pcs fN_zones) vN_span i cd) (t9 * 8 + fN_zones (i * 4 + t9)) = 0 then 25 else 0)) qN_blocks qN_costs qN_zones qN_neglects qN_chosen qN_best qN_spent qN_scaffolds vN_size vN_start vN_span vN_coin l8 fN_zones (wSp (pcs fN_costs) (pcs fN_zones) vN_span (i + 1) (cd * (vN_span + 1) + t9)) (wSc (pcs fN_costs) (pcs fN_zones) vN_span (i + 1) (cd * (vN_span + 1) + t9)) (by omega) hNz) (cwV 3 F.2.2.2.2.1 gX4_search_X4_undoWork rfl rfl rfl (by decide +kernel) ⟨Nat.le_of_ble_eq_true rfl, Nat.le_of_ble_eq_true rfl⟩) rfl rfl [0, 2, 6, 7] [1, 3, 4, 5] [4, 0, 5, 1, 2, 3, 6, 7] rfl rfl (by decide) (by decide) (by decide) (fun _ => rfl) (by decide) rfl (Nat.le_of_ble_eq_true rfl) dX4_search_87 ⟨Nat.le_of_ble_eq_true rfl, Nat.le_of_ble_eq_true rfl⟩ (fun u87 h87 => ?_)
                    try dsimp only at h87
                    refine x_ws [(qN, .inr (4, [.ref qN_blocks, .ref qN_costs, .ref qN_zones, .ref qN_neglects, .ref qN_chosen, .ref qN_best, .ref qN_spent, .ref qN_scaffolds, .int (jI vN_size), .int (jI vN_start), .int (jI vN_span), .int (jI vN_coin), .int (jI l8)])), aI kI qN_costs 24 fN_costs, aI kI qN_zones 24 fN_zones, aI kI qN_neglects 6 fN_neglects, aI kI qN_chosen 6 ch8, aI kI qN_best 6 b8, aI kI qN_spent 4 (iU (wSp (pcs fN_costs) (pcs fN_zones) vN_span (i + 1) (cd * (vN_span + 1) + t9)) t9 ((wSp (pcs fN_costs) (pcs fN_zones) vN_span (i + 1) (cd * (vN_span + 1) + t9)) t9 + -(fN_costs (i * 4 + t9) + (if (wSc (pcs fN_costs) (pcs fN_zones) vN_span i cd) (t9 * 8 + fN_zones (i * 4 + t9)) = 0 then 25 else 0)))), aI kI qN_scaffolds 32 (iU (wSc (pcs fN_costs) (pcs fN_zones) vN_span (i + 1) (cd * (vN_span + 1) + t9)) (t9 * 8 + fN_zones (i * 4 + t9)) ((wSc (pcs fN_costs) (pcs fN_zones) vN_span (i + 1) (cd * (vN_span + 1) + t9)) (t9 * 8 + fN_zones (i * 4 + t9)) + -1))] rfl ?_
                    refine x_ext 6 rfl (wSp (pcs fN_costs) (pcs fN_zones) vN_span i cd) (fun k _ _ => by rw [(wS_t hi.1 (by omega)).1]; exact congrFun (iU_back _ _ _) k) [(qN, .inr (4, [.ref qN_blocks, .ref qN_costs, .ref qN_zones, .ref qN_neglects, .ref qN_chosen, .ref qN_best, .ref qN_spent, .ref qN_scaffolds, .int (jI vN_size), .int (jI vN_start), .int (jI vN_span), .int (jI vN_coin), .int (jI l8)])), aI kI qN_costs 24 fN_costs, aI kI qN_zones 24 fN_zones, aI kI qN_neglects 6 fN_neglects, aI kI qN_chosen 6 ch8, aI kI qN_best 6 b8, aI kI qN_spent 4 (wSp (pcs fN_costs) (pcs fN_zones) vN_span i cd), aI kI qN_scaffolds 32 (iU (wSc (pcs fN_costs) (pcs fN_zones) vN_span (i + 1) (cd * (vN_span + 1) + t9)) (t9 * 8 + fN_zones (i * 4 + t9)) ((wSc (pcs fN_costs) (pcs fN_zones) vN_span (i + 1) (cd * (vN_span + 1) + t9)) (t9 * 8 + fN_zones (i * 4 + t9)) + -1))] rfl ?_
                    refine x_ext 7 rfl (wSc (pcs fN_costs) (pcs fN_zones) vN_span i cd) (fun k _ _ => by rw [(wS_t hi.1 (by omega)).2]; exact congrFun (iU_back _ _ _) k) [(qN, .inr (4, [.ref qN_blocks, .ref qN_costs, .ref qN_zones, .ref qN_neglects, .ref qN_chosen, .ref qN_best, .ref qN_spent, .ref qN_scaffolds, .int (jI vN_size), .int (jI vN_start), .int (jI vN_span), .int (jI vN_coin), .int (jI l8)])), aI kI qN_costs 24 fN_costs, aI kI qN_zones 24 fN_zones, aI kI qN_neglects 6 fN_neglects, aI kI qN_chosen 6 ch8, aI kI qN_best 6 b8, aI kI qN_spent 4 (wSp (pcs fN_costs) (pcs fN_zones) vN_span i cd), aI kI qN_scaffolds 32 (wSc (pcs fN_costs) (pcs fN_zones) vN_span i cd)] rfl ?_
                    refine x_iinc (lv' := [(0, .ref qN), (1, .int (jI i)), (2, .int (jI sum)), (3, .int (jI (t9 + 1))), (4, .int (jI (fN_costs (i * 4 + t9) + (if (wSc (pcs fN_costs) (pcs fN_zones) vN_span i cd) (t9 * 8 + fN_zones (i * 4 + t9)) = 0 then 25 else 0))))]) (k := 3) F dX4_search_90 rfl (by decide) [1, 2, 3, 0, 4] rfl ?_
                    refine x_goto (tgt := 35) F dX4_search_93 (by decide) ?_
                    refine x_lv (lv' := [(0, .ref qN), (1, .int (jI i)), (2, .int (jI sum)), (3, .int (jI (t9 + 1)))]) [0, 1, 2, 3] rfl ?_
                    exact ih35 (t9 + 1) l8 ch8 b8 (by omega) (by rw [← Int.add_assoc]; exact hl8) (by rw [← Int.add_assoc]; exact hb8) hch8 hq8 hbr8 (by omega)
                  refine x_icmp_gt (tgt := 82) F dX4_search_68 (by decide) (by omega) (fun c68 => ?_) (fun c68 => ?_)
                  · -- 68 t
                    have hcq1 : ((cd * (vN_span + 1) + t9) + 1) * pwI vN_span 2 = (cd * (vN_span + 1) + t9) * pwI vN_span 2 + pwI vN_span 2 := by rw [Int.add_mul, Int.one_mul]
                    have hcq0 : 0 ≤ (cd * (vN_span + 1) + t9) * pwI vN_span 2 := Int.mul_nonneg (by omega) (by omega)
                    have hov := ls_over (vl := (wV (pcs fN_costs) (pcs fN_zones) fN_neglects vN_span vN_coin vN_size)) (a := (cd * (vN_span + 1) + t9) * pwI vN_span 2) (b := ((cd * (vN_span + 1) + t9) + 1) * pwI vN_span 2) (by omega) (wV_none hn9 hcs9 hng9 (i := i + 1) (by omega) 2 ⟨by omega, hi.2.2⟩ (fun q => absurd ((wK_t hi.1 (by omega)).1 q).2 (by omega)))
                    exact jn82 l9 (iU ch9 i t9) b9 (by rw [hov.1]; exact hl9) (by rw [hov.2]; exact hb9) (fun j j0 j1 => by rw [iU_n (by omega)]; exact hch9 j j0 j1) (Rg.up hq9 _ _ (by omega)) hbr9
                  · -- 68 f
                    refine x_aload_n F dX4_search_71 rfl 0 rfl ?_
                    refine x_iload_n F dX4_search_72 rfl 1 rfl ?_
                    refine x_iconst F dX4_search_73 ?_
                    refine x_iadd F dX4_search_74 ?_
                    refine x_iload_n F dX4_search_75 rfl 2 rfl ?_
                    refine x_iload F dX4_search_76 4 rfl ?_
                    refine x_iadd F dX4_search_78 ?_
                    refine x_callSv (As := [.ref qN, .int (jI (i + 1)), .int (jI (sum + (fN_costs (i * 4 + t9) + (if (wSc (pcs fN_costs) (pcs fN_zones) vN_span i cd) (t9 * 8 + fN_zones (i * 4 + t9)) = 0 then 25 else 0))))]) (st := []) F (c_X4_search_2 D kI kJ l qN (i + 1) (sum + (fN_costs (i * 4 + t9) + (if (wSc (pcs fN_costs) (pcs fN_zones) vN_span i cd) (t9 * 8 + fN_zones (i * 4 + t9)) = 0 then 25 else 0))) qN_blocks qN_costs qN_zones qN_neglects qN_chosen qN_best qN_spent qN_scaffolds vN_size vN_start vN_span vN_coin l9 fN_costs fN_zones fN_neglects (iU ch9 i t9) b9 (cd * (vN_span + 1) + t9) (by omega) hn4 (by omega) hco hNc hNz hNg (Rg.up hq9 _ _ (by omega)) hbr9 (by rw [wT_t hi.1 (by omega), ← hsum]; rfl) ((wK_t hi.1 (by omega)).2 ⟨hok, by omega⟩) hl9 hb9 (fun j j0 j1 => by rw [dg_t hi.1 (by omega)]; by_cases q : j = i; (rw [q, iU_s, if_pos rfl]; unfold chD; rw [if_neg (by omega)]); (rw [iU_n q, if_neg q]; exact hch9 j j0 (by omega)))) (va_cwS 3 F.2.2.2.2.1 gX4_search_X4_search rfl rfl rfl (by decide +kernel) ⟨Nat.le_of_ble_eq_true rfl, Nat.le_of_ble_eq_true rfl⟩) [0, 1, 2, 3, 4, 5, 6, 7] [] [0, 1, 2, 3, 4, 5, 6, 7] rfl rfl (by decide) (by decide) (by decide) (fun _ => rfl) (by decide) rfl (Nat.le_of_ble_eq_true rfl) dX4_search_79 ⟨Nat.le_of_ble_eq_true rfl, Nat.le_of_ble_eq_true rfl⟩ (fun u79 h79 => ?_)
                    obtain ⟨l2_79, ch2_79, b2_79⟩ := u79
                    try dsimp only at h79
                    refine x_ws [(qN, .inr (4, [.ref qN_blocks, .ref qN_costs, .ref qN_zones, .ref qN_neglects, .ref qN_chosen, .ref qN_best, .ref qN_spent, .ref qN_scaffolds, .int (jI vN_size), .int (jI vN_start), .int (jI vN_span), .int (jI vN_coin), .int (jI l2_79)])), aI kI qN_costs 24 fN_costs, aI kI qN_zones 24 fN_zones, aI kI qN_neglects 6 fN_neglects, aI kI qN_chosen 6 ch2_79, aI kI qN_best 6 b2_79, aI kI qN_spent 4 (wSp (pcs fN_costs) (pcs fN_zones) vN_span (i + 1) (cd * (vN_span + 1) + t9)), aI kI qN_scaffolds 32 (wSc (pcs fN_costs) (pcs fN_zones) vN_span (i + 1) (cd * (vN_span + 1) + t9))] rfl ?_
                    obtain ⟨hl2_79, hb2_79, hc2_79, hq2_79, hb3_79⟩ := h79
                    exact jn82 l2_79 ch2_79 b2_79 hl2_79 hb2_79 (fun j j0 j1 => by rw [hc2_79 j j0 (by omega), iU_n (by omega)]; exact hch9 j j0 j1) hq2_79 hb3_79
          exact lp35 (Int.toNat (vN_span - 0) + 1) 0 vN_least fN_chosen fN_best (by omega) (by rw [← (pw_in vN_span cd 0 2).1]; exact hl) (by rw [← (pw_in vN_span cd 0 2).1]; exact hb) hch hNq hNb (by omega)
        · exact absurd c24 (by omega)
  · -- 5 f
    have hov := ls_over (vl := (wV (pcs fN_costs) (pcs fN_zones) fN_neglects vN_span vN_coin vN_size)) (a := cd * pwI vN_span 3) (b := (cd + 1) * pwI vN_span 3) (by omega) (wV_prune hn9 hcs9 hng9 hi.1 3 ⟨hi.2.1, hi.2.2⟩ (by rw [← hl, ← hsum]; omega))
    exact hret 0 0 8 _ (vN_least, fN_chosen, fN_best) (Nat.le_of_ble_eq_true rfl) (Nat.le_of_ble_eq_true rfl) dX4_search_8 (by (try dsimp only); exact (⟨by rw [hov.1]; exact hl, by rw [hov.2]; exact hb, fun j _ _ => rfl, hNq, hNb⟩))
set_option maxHeartbeats 4000000 in
set_option maxRecDepth 100000 in
theorem c_X4_search_4 (D : va_G) (kI kJ : Nat) (l : Launch) (qN : Nat) (i : Int) (sum : Int) (qN_blocks : Nat) (qN_costs : Nat) (qN_zones : Nat) (qN_neglects : Nat) (qN_chosen : Nat) (qN_best : Nat) (qN_spent : Nat) (qN_scaffolds : Nat) (vN_size : Int) (vN_start : Int) (vN_span : Int) (vN_coin : Int) (vN_least : Int) (fN_costs : (Int → Int)) (fN_zones : (Int → Int)) (fN_neglects : (Int → Int)) (fN_chosen : (Int → Int)) (fN_best : (Int → Int)) (cd : Int) (hi : 0 ≤ i ∧ i + 4 = vN_size ∧ vN_size ≤ 6) (hn4 : 1 ≤ vN_span ∧ vN_span ≤ 4) (hc : 0 ≤ cd) (hco : 0 ≤ vN_coin ∧ vN_coin ≤ 1000) (hNc : Rg fN_costs 24 0 50000) (hNz : Rg fN_zones 24 0 7) (hNg : Rg fN_neglects 6 0 200000) (hNq : Rg fN_chosen 6 (-1) 3) (hNb : Rg fN_best 6 (-1) 3) (hsum : sum = wT (pcs fN_costs) (pcs fN_zones) fN_neglects vN_span i cd) (hok : wK (pcs fN_costs) (pcs fN_zones) vN_span vN_coin i cd = true) (hl : vN_least = lsI (wV (pcs fN_costs) (pcs fN_zones) fN_neglects vN_span vN_coin vN_size) (cd * pwI vN_span 4)) (hb : 0 ≤ bsI (wV (pcs fN_costs) (pcs fN_zones) fN_neglects vN_span vN_coin vN_size) (cd * pwI vN_span 4) → ∀ j : Int, 0 ≤ j → j < vN_size → fN_best j = chD vN_span (dg vN_span vN_size (bsI (wV (pcs fN_costs) (pcs fN_zones) fN_neglects vN_span vN_coin vN_size) (cd * pwI vN_span 4)) j)) (hch : ∀ j : Int, 0 ≤ j → j < i → fN_chosen j = chD vN_span (dg vN_span i cd j)) : xMv D kI kJ l yX4_search wsX4_search 7 181 0 0 [.ref qN, .int (jI i), .int (jI sum)] [(qN, .inr (4, [.ref qN_blocks, .ref qN_costs, .ref qN_zones, .ref qN_neglects, .ref qN_chosen, .ref qN_best, .ref qN_spent, .ref qN_scaffolds, .int (jI vN_size), .int (jI vN_start), .int (jI vN_span), .int (jI vN_coin), .int (jI vN_least)])), aI kI qN_costs 24 fN_costs, aI kI qN_zones 24 fN_zones, aI kI qN_neglects 6 fN_neglects, aI kI qN_chosen 6 fN_chosen, aI kI qN_best 6 fN_best, aI kI qN_spent 4 (wSp (pcs fN_costs) (pcs fN_zones) vN_span i cd), aI kI qN_scaffolds 32 (wSc (pcs fN_costs) (pcs fN_zones) vN_span i cd)] (fun (u : Int × (Int → Int) × (Int → Int)) => (u.1 = lsI (wV (pcs fN_costs) (pcs fN_zones) fN_neglects vN_span vN_coin vN_size) ((cd + 1) * pwI vN_span 4)) ∧ (0 ≤ bsI (wV (pcs fN_costs) (pcs fN_zones) fN_neglects vN_span vN_coin vN_size) ((cd + 1) * pwI vN_span 4) → ∀ j : Int, 0 ≤ j → j < vN_size → u.2.2 j = chD vN_span (dg vN_span vN_size (bsI (wV (pcs fN_costs) (pcs fN_zones) fN_neglects vN_span vN_coin vN_size) ((cd + 1) * pwI vN_span 4)) j)) ∧ (∀ j : Int, 0 ≤ j → j < i → u.2.1 j = fN_chosen j) ∧ (Rg u.2.1 6 (-1) 3) ∧ (Rg u.2.2 6 (-1) 3)) (fun (u : Int × (Int → Int) × (Int → Int)) => [(qN, .inr (4, [.ref qN_blocks, .ref qN_costs, .ref qN_zones, .ref qN_neglects, .ref qN_chosen, .ref qN_best, .ref qN_spent, .ref qN_scaffolds, .int (jI vN_size), .int (jI vN_start), .int (jI vN_span), .int (jI vN_coin), .int (jI u.1)])), aI kI qN_costs 24 fN_costs, aI kI qN_zones 24 fN_zones, aI kI qN_neglects 6 fN_neglects, aI kI qN_chosen 6 u.2.1, aI kI qN_best 6 u.2.2, aI kI qN_spent 4 (wSp (pcs fN_costs) (pcs fN_zones) vN_span i cd), aI kI qN_scaffolds 32 (wSc (pcs fN_costs) (pcs fN_zones) vN_span i cd)]) := by
  refine xMv_of (cc := cX4_search) (maxL := 5) (by decide) rfl (Nat.le_of_ble_eq_true rfl) ?_
  intro p e s m args below meth c A Q F hin2 hret
  have hin4 : ∀ w ∈ wsX40, w ∈ wsX4_search := by decide +kernel
  have hw0 : Cond.fieldLink RX4 56 (TX4 12).1 (TX4 12).2.1 (TX4 12).2.2.1 ∈ wsX4_search := by decide +kernel
  have hw1 : Cond.fieldLink RX4 36 (TX4 8).1 (TX4 8).2.1 (TX4 8).2.2.1 ∈ wsX4_search := by decide +kernel
  have hw2 : Cond.fieldLink RX4 49 (TX4 10).1 (TX4 10).2.1 (TX4 10).2.2.1 ∈ wsX4_search := by decide +kernel
  have hw3 : Cond.fieldLink RX4 24 (TX4 4).1 (TX4 4).2.1 (TX4 4).2.2.1 ∈ wsX4_search := by decide +kernel
  have hw4 : Cond.fieldLink RX4 21 (TX4 3).1 (TX4 3).2.1 (TX4 3).2.2.1 ∈ wsX4_search := by decide +kernel
  have hw5 : Cond.fieldLink RX4 30 (TX4 6).1 (TX4 6).2.1 (TX4 6).2.2.1 ∈ wsX4_search := by decide +kernel
  have hw6 : Cond.initialized yX9_at.cls ∈ wsX4_search := by decide +kernel
  have hw7 : Cond.static yX9_at ∈ wsX4_search := by decide +kernel
  have hw8 : Cond.fieldLink RX4 52 (TX4 11).1 (TX4 11).2.1 (TX4 11).2.2.1 ∈ wsX4_search := by decide +kernel
  refine x_lveq (lv' := [(0, .ref qN), (1, .int (jI i)), (2, .int (jI sum))]) rfl ?_
  have hcs9 : ∀ j t : Int, 0 ≤ j → j < 6 → 0 ≤ t → t < vN_span → 0 ≤ pcs fN_costs j t ∧ pcs fN_costs j t ≤ 50000 := fun j t a1 a2 a3 a4 => hNc (j * 4 + t) (by omega) (by omega)
  have hng9 : ∀ j : Int, 0 ≤ j → j < 6 → 0 ≤ fN_neglects j ∧ fN_neglects j ≤ 200000 := fun j a1 a2 => hNg j a1 a2
  have hn9 : 0 ≤ vN_span ∧ vN_span ≤ 4 := by omega
  have hT9 := wT_bd (zn := pcs fN_zones) hn9 hcs9 hng9 (i := i) (by omega) cd
  rw [← hsum] at hT9
  have hLr := ls_rng (vl := (wV (pcs fN_costs) (pcs fN_zones) fN_neglects vN_span vN_coin vN_size)) (cd * pwI vN_span 4)
  rw [← hl] at hLr
  have hpp := pwI_pos hn9.1 4
  have hcp : 0 ≤ cd * pwI vN_span 4 := Int.mul_nonneg hc (by omega)
  have hcq : (cd + 1) * pwI vN_span 4 = cd * pwI vN_span 4 + pwI vN_span 4 := by rw [Int.add_mul, Int.one_mul]
  refine x_iload_n F dX4_search_0 rfl 2 rfl ?_
  refine x_aload_n F dX4_search_1 rfl 0 rfl ?_
  refine x_get (ci := 4) F hin4 0 rfl rfl 12 (by decide) hw0 rfl dX4_search_2 ?_
  refine x_icmp_lt (tgt := 9) F dX4_search_5 (by decide) (by omega) (fun c5 => ?_) (fun c5 => ?_)
  · -- 5 t
    have hcn : 0 ≤ cd * (vN_span + 1) := Int.mul_nonneg hc (by omega)
    have hSc9 : Rg (wSc (pcs fN_costs) (pcs fN_zones) vN_span i cd) 32 0 6 := fun k _ _ => by have := wSc_bd (zn := pcs fN_zones) hn9 hcs9 (i := i) (by omega) cd k; omega
    have hSp9 : Rg (wSp (pcs fN_costs) (pcs fN_zones) vN_span i cd) 4 0 400000 := fun k _ _ => by have := wSp_bd (zn := pcs fN_zones) hn9 hcs9 (i := i) (by omega) cd k; omega
    have hqq := pwI_pos hn9.1 3
    refine x_iload_n F dX4_search_9 rfl 1 rfl ?_
    refine x_if_lt (tgt := 27) F dX4_search_10 (by decide) (by omega) (fun c10 => ?_) (fun c10 => ?_)
    · exact absurd c10 (by omega)
    · -- 10 f
      refine x_iload_n F dX4_search_13 rfl 1 rfl ?_
      refine x_aload_n F dX4_search_14 rfl 0 rfl ?_
      refine x_get (ci := 4) F hin4 0 rfl rfl 8 (by decide) hw1 rfl dX4_search_15 ?_
      refine x_icmp_ge (tgt := 27) F dX4_search_18 (by decide) (by omega) (fun c18 => ?_) (fun c18 => ?_)
      · exact absurd c18 (by omega)
      · -- 18 f
        refine x_iload_n F dX4_search_21 rfl 1 rfl ?_
        refine x_bipush F dX4_search_22 (by decide) ?_
        refine x_icmp_lt (tgt := 33) F dX4_search_24 (by decide) (by omega) (fun c24 => ?_) (fun c24 => ?_)
        · -- 24 t
          refine x_iconst F dX4_search_33 ?_
          refine x_istore_n (lv' := [(0, .ref qN), (1, .int (jI i)), (2, .int (jI sum)), (3, .int (jI 0))]) F dX4_search_34 rfl (by decide) [1, 2, 3, 0] rfl ?_
          have lp35 : ∀ (fu : Nat) (t9 : Int) (l9 : Int) (ch9 : (Int → Int)) (b9 : (Int → Int)) (ht9 : 0 ≤ t9 ∧ t9 ≤ vN_span) (hl9 : l9 = lsI (wV (pcs fN_costs) (pcs fN_zones) fN_neglects vN_span vN_coin vN_size) ((cd * (vN_span + 1) + t9) * pwI vN_span 3)) (hb9 : 0 ≤ bsI (wV (pcs fN_costs) (pcs fN_zones) fN_neglects vN_span vN_coin vN_size) ((cd * (vN_span + 1) + t9) * pwI vN_span 3) → ∀ j : Int, 0 ≤ j → j < vN_size → b9 j = chD vN_span (dg vN_span vN_size (bsI (wV (pcs fN_costs) (pcs fN_zones) fN_neglects vN_span vN_coin vN_size) ((cd * (vN_span + 1) + t9) * pwI vN_span 3)) j)) (hch9 : ∀ j : Int, 0 ≤ j → j < i → ch9 j = chD vN_span (dg vN_span i cd j)) (hq9 : Rg ch9 6 (-1) 3) (hbr9 : Rg b9 6 (-1) 3) (hm : vN_span - t9 < (fu : Int)), xG D p l e (xRm 7 181 0 0) s m args below meth c 5 A Q 0 0 [(qN, .inr (4, [.ref qN_blocks, .ref qN_costs, .ref qN_zones, .ref qN_neglects, .ref qN_chosen, .ref qN_best, .ref qN_spent, .ref qN_scaffolds, .int (jI vN_size), .int (jI vN_start), .int (jI vN_span), .int (jI vN_coin), .int (jI l9)])), aI kI qN_costs 24 fN_costs, aI kI qN_zones 24 fN_zones, aI kI qN_neglects 6 fN_neglects, aI kI qN_chosen 6 ch9, aI kI qN_best 6 b9, aI kI qN_spent 4 (wSp (pcs fN_costs) (pcs fN_zones) vN_span i cd), aI kI qN_scaffolds 32 (wSc (pcs fN_costs) (pcs fN_zones) vN_span i cd)] [(0, .ref qN), (1, .int (jI i)), (2, .int (jI sum)), (3, .int (jI t9))] 35 [] := by
            intro fu
            induction fu with
            | zero =>
              intro t9 l9 ch9 b9 ht9 hl9 hb9 hch9 hq9 hbr9 hm
              exact absurd hm (by omega)
            | succ fu ih35 =>
              intro t9 l9 ch9 b9 ht9 hl9 hb9 hch9 hq9 hbr9 hm
              refine x_iload_n F dX4_search_35 rfl 3 rfl ?_
              refine x_aload_n F dX4_search_36 rfl 0 rfl ?_
              refine x_get (ci := 4) F hin4 0 rfl rfl 10 (by decide) hw2 rfl dX4_search_37 ?_
              refine x_icmp_ge (tgt := 96) F dX4_search_40 (by decide) (by omega) (fun c40 => ?_) (fun c40 => ?_)
              · -- 40 t
                have ht8 : t9 = vN_span := by omega
                rw [ht8] at hl9 hb9
                refine x_aload_n F dX4_search_96 rfl 0 rfl ?_
                refine x_get (ci := 4) F hin4 0 rfl rfl 4 (by decide) hw3 rfl dX4_search_97 ?_
                refine x_iload_n F dX4_search_100 rfl 1 rfl ?_
                refine x_iconst F dX4_search_101 ?_
                refine x_iast F 4 rfl (by decide) (by omega) dX4_search_102 [(qN, .inr (4, [.ref qN_blocks, .ref qN_costs, .ref qN_zones, .ref qN_neglects, .ref qN_chosen, .ref qN_best, .ref qN_spent, .ref qN_scaffolds, .int (jI vN_size), .int (jI vN_start), .int (jI vN_span), .int (jI vN_coin), .int (jI l9)])), aI kI qN_costs 24 fN_costs, aI kI qN_zones 24 fN_zones, aI kI qN_neglects 6 fN_neglects, aI kI qN_chosen 6 (iU ch9 i (-1)), aI kI qN_best 6 b9, aI kI qN_spent 4 (wSp (pcs fN_costs) (pcs fN_zones) vN_span i cd), aI kI qN_scaffolds 32 (wSc (pcs fN_costs) (pcs fN_zones) vN_span i cd)] rfl ?_
                refine x_ext 6 rfl (wSp (pcs fN_costs) (pcs fN_zones) vN_span (i + 1) (cd * (vN_span + 1) + vN_span)) (fun k _ _ => by rw [(wS_n hi.1 hn9.1).1]) [(qN, .inr (4, [.ref qN_blocks, .ref qN_costs, .ref qN_zones, .ref qN_neglects, .ref qN_chosen, .ref qN_best, .ref qN_spent, .ref qN_scaffolds, .int (jI vN_size), .int (jI vN_start), .int (jI vN_span), .int (jI vN_coin), .int (jI l9)])), aI kI qN_costs 24 fN_costs, aI kI qN_zones 24 fN_zones, aI kI qN_neglects 6 fN_neglects, aI kI qN_chosen 6 (iU ch9 i (-1)), aI kI qN_best 6 b9, aI kI qN_spent 4 (wSp (pcs fN_costs) (pcs fN_zones) vN_span (i + 1) (cd * (vN_span + 1) + vN_span)), aI kI qN_scaffolds 32 (wSc (pcs fN_costs) (pcs fN_zones) vN_span i cd)] rfl ?_
                refine x_ext 7 rfl (wSc (pcs fN_costs) (pcs fN_zones) vN_span (i + 1) (cd * (vN_span + 1) + vN_span)) (fun k _ _ => by rw [(wS_n hi.1 hn9.1).2]) [(qN, .inr (4, [.ref qN_blocks, .ref qN_costs, .ref qN_zones, .ref qN_neglects, .ref qN_chosen, .ref qN_best, .ref qN_spent, .ref qN_scaffolds, .int (jI vN_size), .int (jI vN_start), .int (jI vN_span), .int (jI vN_coin), .int (jI l9)])), aI kI qN_costs 24 fN_costs, aI kI qN_zones 24 fN_zones, aI kI qN_neglects 6 fN_neglects, aI kI qN_chosen 6 (iU ch9 i (-1)), aI kI qN_best 6 b9, aI kI qN_spent 4 (wSp (pcs fN_costs) (pcs fN_zones) vN_span (i + 1) (cd * (vN_span + 1) + vN_span)), aI kI qN_scaffolds 32 (wSc (pcs fN_costs) (pcs fN_zones) vN_span (i + 1) (cd * (vN_span + 1) + vN_span))] rfl ?_
                refine x_aload_n F dX4_search_103 rfl 0 rfl ?_
                refine x_iload_n F dX4_search_104 rfl 1 rfl ?_
                refine x_iconst F dX4_search_105 ?_
                refine x_iadd F dX4_search_106 ?_
                refine x_iload_n F dX4_search_107 rfl 2 rfl ?_
                refine x_aload_n F dX4_search_108 rfl 0 rfl ?_
                refine x_get (ci := 4) F hin4 0 rfl rfl 3 (by decide) hw4 rfl dX4_search_109 ?_
                refine x_iload_n F dX4_search_112 rfl 1 rfl ?_
                refine x_iald F 3 rfl (by decide) (by omega) dX4_search_113 ?_
                have hr113 := Rg.at hNg i (by omega)
                refine x_iadd F dX4_search_114 ?_
                refine x_callSv (As := [.ref qN, .int (jI (i + 1)), .int (jI (sum + (fN_neglects i)))]) (st := []) F (c_X4_search_3 D kI kJ l qN (i + 1) (sum + (fN_neglects i)) qN_blocks qN_costs qN_zones qN_neglects qN_chosen qN_best qN_spent qN_scaffolds vN_size vN_start vN_span vN_coin l9 fN_costs fN_zones fN_neglects (iU ch9 i (-1)) b9 (cd * (vN_span + 1) + vN_span) (by omega) hn4 (by omega) hco hNc hNz hNg (Rg.up hq9 _ _ (by omega)) hbr9 (by rw [wT_n hi.1 hn9.1, ← hsum]) ((wK_n hi.1 hn9.1).2 hok) hl9 hb9 (fun j j0 j1 => by rw [dg_t hi.1 (by omega)]; by_cases q : j = i; (rw [q, iU_s, if_pos rfl]; unfold chD; rw [if_pos rfl]); (rw [iU_n q, if_neg q]; exact hch9 j j0 (by omega)))) (va_cwS 3 F.2.2.2.2.1 gX4_search_X4_search rfl rfl rfl (by decide +kernel) ⟨Nat.le_of_ble_eq_true rfl, Nat.le_of_ble_eq_true rfl⟩) [0, 1, 2, 3, 4, 5, 6, 7] [] [0, 1, 2, 3, 4, 5, 6, 7] rfl rfl (by decide) (by decide) (by decide) (fun _ => rfl) (by decide) rfl (Nat.le_of_ble_eq_true rfl) dX4_search_115 ⟨Nat.le_of_ble_eq_true rfl, Nat.le_of_ble_eq_true rfl⟩ (fun u115 h115 => ?_)
                obtain ⟨l2_115, ch2_115, b2_115⟩ := u115
                try dsimp only at h115
                refine x_ws [(qN, .inr (4, [.ref qN_blocks, .ref qN_costs, .ref qN_zones, .ref qN_neglects, .ref qN_chosen, .ref qN_best, .ref qN_spent, .ref qN_scaffolds, .int (jI vN_size), .int (jI vN_start), .int (jI vN_span), .int (jI vN_coin), .int (jI l2_115)])), aI kI qN_costs 24 fN_costs, aI kI qN_zones 24 fN_zones, aI kI qN_neglects 6 fN_neglects, aI kI qN_chosen 6 ch2_115, aI kI qN_best 6 b2_115, aI kI qN_spent 4 (wSp (pcs fN_costs) (pcs fN_zones) vN_span (i + 1) (cd * (vN_span + 1) + vN_span)), aI kI qN_scaffolds 32 (wSc (pcs fN_costs) (pcs fN_zones) vN_span (i + 1) (cd * (vN_span + 1) + vN_span))] rfl ?_
                obtain ⟨hl2_115, hb2_115, hc2_115, hq2_115, hb3_115⟩ := h115
                refine x_ext 6 rfl (wSp (pcs fN_costs) (pcs fN_zones) vN_span i cd) (fun k _ _ => by rw [(wS_n hi.1 hn9.1).1]) [(qN, .inr (4, [.ref qN_blocks, .ref qN_costs, .ref qN_zones, .ref qN_neglects, .ref qN_chosen, .ref qN_best, .ref qN_spent, .ref qN_scaffolds, .int (jI vN_size), .int (jI vN_start), .int (jI vN_span), .int (jI vN_coin), .int (jI l2_115)])), aI kI qN_costs 24 fN_costs, aI kI qN_zones 24 fN_zones, aI kI qN_neglects 6 fN_neglects, aI kI qN_chosen 6 ch2_115, aI kI qN_best 6 b2_115, aI kI qN_spent 4 (wSp (pcs fN_costs) (pcs fN_zones) vN_span i cd), aI kI qN_scaffolds 32 (wSc (pcs fN_costs) (pcs fN_zones) vN_span (i + 1) (cd * (vN_span + 1) + vN_span))] rfl ?_
                refine x_ext 7 rfl (wSc (pcs fN_costs) (pcs fN_zones) vN_span i cd) (fun k _ _ => by rw [(wS_n hi.1 hn9.1).2]) [(qN, .inr (4, [.ref qN_blocks, .ref qN_costs, .ref qN_zones, .ref qN_neglects, .ref qN_chosen, .ref qN_best, .ref qN_spent, .ref qN_scaffolds, .int (jI vN_size), .int (jI vN_start), .int (jI vN_span), .int (jI vN_coin), .int (jI l2_115)])), aI kI qN_costs 24 fN_costs, aI kI qN_zones 24 fN_zones, aI kI qN_neglects 6 fN_neglects, aI kI qN_chosen 6 ch2_115, aI kI qN_best 6 b2_115, aI kI qN_spent 4 (wSp (pcs fN_costs) (pcs fN_zones) vN_span i cd), aI kI qN_scaffolds 32 (wSc (pcs fN_costs) (pcs fN_zones) vN_span i cd)] rfl ?_
                exact hret 0 0 118 _ (l2_115, ch2_115, b2_115) (Nat.le_of_ble_eq_true rfl) (Nat.le_of_ble_eq_true rfl) dX4_search_118 (by (try dsimp only); exact (⟨by rw [(pw_in vN_span cd 0 3).2]; exact hl2_115, by rw [(pw_in vN_span cd 0 3).2]; exact hb2_115, fun j j0 j1 => by rw [hc2_115 j j0 (by omega), iU_n (by omega), hch9 j j0 j1]; exact (hch j j0 j1).symm, hq2_115, hb3_115⟩))
              · -- 40 f
                refine x_iload_n F dX4_search_43 rfl 3 rfl ?_
                refine x_iconst F dX4_search_44 ?_
                refine x_icmp_ge (tgt := 96) F dX4_search_45 (by decide) (by omega) (fun c45 => ?_) (fun c45 => ?_)
                · exact absurd c45 (by omega)
                · -- 45 f
                  refine x_aload_n F dX4_search_48 rfl 0 rfl ?_
                  refine x_iload_n F dX4_search_49 rfl 1 rfl ?_
                  refine x_iload_n F dX4_search_50 rfl 3 rfl ?_
                  refine x_callVi (ci := 4) (q0 := 0) (As := [.int (jI i), .int (jI t9)]) (st := []) F (c_X4_doWork D kI kJ l qN i t9 qN_blocks qN_costs qN_zones qN_neglects qN_chosen qN_best qN_spent qN_scaffolds vN_size vN_start vN_span vN_coin l9 fN_costs fN_zones (wSp (pcs fN_costs) (pcs fN_zones) vN_span i cd) (wSc (pcs fN_costs) (pcs fN_zones) vN_span i cd) ch9 (by omega) hNc hNz hSc9 hSp9) (cwV 2 F.2.2.2.2.1 gX4_search_X4_doWork rfl rfl rfl (by decide +kernel) ⟨Nat.le_of_ble_eq_true rfl, Nat.le_of_ble_eq_true rfl⟩) rfl rfl [0, 1, 2, 6, 7, 4] [3, 5] [2, 3, 4, 0, 7, 1, 5, 6] rfl rfl (by decide) (by decide) (by decide) (fun _ => rfl) (by decide) rfl (Nat.le_of_ble_eq_true rfl) dX4_search_51 ⟨Nat.le_of_ble_eq_true rfl, Nat.le_of_ble_eq_true rfl⟩ (fun z51 u51 h51 => ?_)
                  obtain ⟨s2_51, rfl⟩ : ∃ z, z = u51 := ⟨_, rfl⟩
                  try dsimp only at h51
                  refine x_ws [(qN, .inr (4, [.ref qN_blocks, .ref qN_costs, .ref qN_zones, .ref qN_neglects, .ref qN_chosen, .ref qN_best, .ref qN_spent, .ref qN_scaffolds, .int (jI vN_size), .int (jI vN_start), .int (jI vN_span), .int (jI vN_coin), .int (jI l9)])), aI kI qN_costs 24 fN_costs, aI kI qN_zones 24 fN_zones, aI kI qN_neglects 6 fN_neglects, aI kI qN_chosen 6 (iU ch9 i t9), aI kI qN_best 6 b9, aI kI qN_spent 4 s2_51, aI kI qN_scaffolds 32 (iU (wSc (pcs fN_costs) (pcs fN_zones) vN_span i cd) (t9 * 8 + fN_zones (i * 4 + t9)) ((wSc (pcs fN_costs) (pcs fN_zones) vN_span i cd) (t9 * 8 + fN_zones (i * 4 + t9)) + 1))] rfl ?_
                  obtain ⟨he51, hs_51⟩ := h51
                  have he51 := he51.symm
                  subst he51
                  have hbd9 := wSp_bd (zn := pcs fN_zones) hn9 hcs9 (i := i + 1) (by omega) (cd * (vN_span + 1) + t9) t9
                  refine x_istore (lv' := [(0, .ref qN), (1, .int (jI i)), (2, .int (jI sum)), (3, .int (jI t9)), (4, .int (jI (fN_costs (i * 4 + t9) + (if (wSc (pcs fN_costs) (pcs fN_zones) vN_span i cd) (t9 * 8 + fN_zones (i * 4 + t9)) = 0 then 25 else 0))))]) F dX4_search_54 (by decide) [1, 2, 3, 4, 0] rfl ?_
                  refine x_ext 6 rfl (wSp (pcs fN_costs) (pcs fN_zones) vN_span (i + 1) (cd * (vN_span + 1) + t9)) (fun k _ _ => by rw [hs_51, (wS_t hi.1 (by omega)).1]; rfl) [(qN, .inr (4, [.ref qN_blocks, .ref qN_costs, .ref qN_zones, .ref qN_neglects, .ref qN_chosen, .ref qN_best, .ref qN_spent, .ref qN_scaffolds, .int (jI vN_size), .int (jI vN_start), .int (jI vN_span), .int (jI vN_coin), .int (jI l9)])), aI kI qN_costs 24 fN_costs, aI kI qN_zones 24 fN_zones, aI kI qN_neglects 6 fN_neglects, aI kI qN_chosen 6 (iU ch9 i t9), aI kI qN_best 6 b9, aI kI qN_spent 4 (wSp (pcs fN_costs) (pcs fN_zones) vN_span (i + 1) (cd * (vN_span + 1) + t9)), aI kI qN_scaffolds 32 (iU (wSc (pcs fN_costs) (pcs fN_zones) vN_span i cd) (t9 * 8 + fN_zones (i * 4 + t9)) ((wSc (pcs fN_costs) (pcs fN_zones) vN_span i cd) (t9 * 8 + fN_zones (i * 4 + t9)) + 1))] rfl ?_
                  refine x_ext 7 rfl (wSc (pcs fN_costs) (pcs fN_zones) vN_span (i + 1) (cd * (vN_span + 1) + t9)) (fun k _ _ => by rw [(wS_t hi.1 (by omega)).2]; rfl) [(qN, .inr (4, [.ref qN_blocks, .ref qN_costs, .ref qN_zones, .ref qN_neglects, .ref qN_chosen, .ref qN_best, .ref qN_spent, .ref qN_scaffolds, .int (jI vN_size), .int (jI vN_start), .int (jI vN_span), .int (jI vN_coin), .int (jI l9)])), aI kI qN_costs 24 fN_costs, aI kI qN_zones 24 fN_zones, aI kI qN_neglects 6 fN_neglects, aI kI qN_chosen 6 (iU ch9 i t9), aI kI qN_best 6 b9, aI kI qN_spent 4 (wSp (pcs fN_costs) (pcs fN_zones) vN_span (i + 1) (cd * (vN_span + 1) + t9)), aI kI qN_scaffolds 32 (wSc (pcs fN_costs) (pcs fN_zones) vN_span (i + 1) (cd * (vN_span + 1) + t9))] rfl ?_
                  refine x_aload_n F dX4_search_56 rfl 0 rfl ?_
                  refine x_get (ci := 4) F hin4 0 rfl rfl 6 (by decide) hw5 rfl dX4_search_57 ?_
                  refine x_iload_n F dX4_search_60 rfl 3 rfl ?_
                  refine x_callSNi (As := [.ref qN_spent, .int (jI t9)]) (st := []) F (c_X9_at D kI kJ l qN_spent t9 4 (wSp (pcs fN_costs) (pcs fN_zones) vN_span (i + 1) (cd * (vN_span + 1) + t9)) (by omega) (by omega)) ⟨va_cnB 2 F.2.2.2.2.1 gX4_search_X9_at_n85 rfl rfl rfl (nM20 F.2.2.2.2.2.2.2) (F.2.2.2.2.1 _ hw6) (by decide +kernel) ⟨Nat.le_of_ble_eq_true rfl, Nat.le_of_ble_eq_true rfl⟩, F.2.2.2.2.1 _ hw7, trivial⟩ [6] [0, 1, 2, 3, 4, 5, 7] [0, 1, 2, 3, 4, 5, 7, 6] rfl rfl (by decide) (by decide) (by decide) (fun _ => rfl) (by decide) rfl (Nat.le_of_ble_eq_true rfl) dX4_search_61 ⟨Nat.le_of_ble_eq_true rfl, Nat.le_of_ble_eq_true rfl⟩ (fun z61 u61 h61 => ?_)
                  try dsimp only at h61
                  refine x_ws [(qN, .inr (4, [.ref qN_blocks, .ref qN_costs, .ref qN_zones, .ref qN_neglects, .ref qN_chosen, .ref qN_best, .ref qN_spent, .ref qN_scaffolds, .int (jI vN_size), .int (jI vN_start), .int (jI vN_span), .int (jI vN_coin), .int (jI l9)])), aI kI qN_costs 24 fN_costs, aI kI qN_zones 24 fN_zones, aI kI qN_neglects 6 fN_neglects, aI kI qN_chosen 6 (iU ch9 i t9), aI kI qN_best 6 b9, aI kI qN_spent 4 (wSp (pcs fN_costs) (pcs fN_zones) vN_span (i + 1) (cd * (vN_span + 1) + t9)), aI kI qN_scaffolds 32 (wSc (pcs fN_costs) (pcs fN_zones) vN_span (i + 1) (cd * (vN_span + 1) + t9))] rfl ?_
                  have he61 := h61
                  have he61 := he61.symm
                  subst he61
                  refine x_aload_n F dX4_search_64 rfl 0 rfl ?_
                  refine x_get (ci := 4) F hin4 0 rfl rfl 11 (by decide) hw8 rfl dX4_search_65 ?_
                  have jn82 : ∀ (l8 : Int) (ch8 : (Int → Int)) (b8 : (Int → Int)) (hl8 : l8 = lsI (wV (pcs fN_costs) (pcs fN_zones) fN_neglects vN_span vN_coin vN_size) (((cd * (vN_span + 1) + t9) + 1) * pwI vN_span 3)) (hb8 : 0 ≤ bsI (wV (pcs fN_costs) (pcs fN_zones) fN_neglects vN_span vN_coin vN_size) (((cd * (vN_span + 1) + t9) + 1) * pwI vN_span 3) → ∀ j : Int, 0 ≤ j → j < vN_size → b8 j = chD vN_span (dg vN_span vN_size (bsI (wV (pcs fN_costs) (pcs fN_zones) fN_neglects vN_span vN_coin vN_size) (((cd * (vN_span + 1) + t9) + 1) * pwI vN_span 3)) j)) (hch8 : ∀ j : Int, 0 ≤ j → j < i → ch8 j = chD vN_span (dg vN_span i cd j)) (hq8 : Rg ch8 6 (-1) 3) (hbr8 : Rg b8 6 (-1) 3), xG D p l e (xRm 7 181 0 0) s m args below meth c 5 A Q 0 0 [(qN, .inr (4, [.ref qN_blocks, .ref qN_costs, .ref qN_zones, .ref qN_neglects, .ref qN_chosen, .ref qN_best, .ref qN_spent, .ref qN_scaffolds, .int (jI vN_size), .int (jI vN_start), .int (jI vN_span), .int (jI vN_coin), .int (jI l8)])), aI kI qN_costs 24 fN_costs, aI kI qN_zones 24 fN_zones, aI kI qN_neglects 6 fN_neglects, aI kI qN_chosen 6 ch8, aI kI qN_best 6 b8, aI kI qN_spent 4 (wSp (pcs fN_costs) (pcs fN_zones) vN_span (i + 1) (cd * (vN_span + 1) + t9)), aI kI qN_scaffolds 32 (wSc (pcs fN_costs) (pcs fN_zones) vN_span (i + 1) (cd * (vN_span + 1) + t9))] [(0, .ref qN), (1, .int (jI i)), (2, .int (jI sum)), (3, .int (jI t9)), (4, .int (jI (fN_costs (i * 4 + t9) + (if (wSc (pcs fN_costs) (pcs fN_zones) vN_span i cd) (t9 * 8 + fN_zones (i * 4 + t9)) = 0 then 25 else 0))))] 82 [] := by
                    intro l8 ch8 b8 hl8 hb8 hch8 hq8 hbr8
                    refine x_aload_n F dX4_search_82 rfl 0 rfl ?_
                    refine x_iload_n F dX4_search_83 rfl 1 rfl ?_
                    refine x_iload_n F dX4_search_84 rfl 3 rfl ?_
                    refine x_iload F dX4_search_85 4 rfl ?_
                    refine x_callVv (ci := 4) (q0 := 0) (As := [.int (jI i), .int (jI t9), .int (jI (fN_costs (i * 4 + t9) + (if (wSc (pcs fN_costs) (pcs fN_zones) vN_span i cd) (t9 * 8 + fN_zones (i * 4 + t9)) = 0 then 25 else 0)))]) (st := []) F (c_X4_undoWork D kI kJ l qN i t9 (fN_costs (i * 4 + t9) + (if (wSc (pcs fN_costs) (pcs fN_zones) vN_span i cd) (t9 * 8 + fN_zones (i * 4 + t9)) = 0 then 25 else 0)) qN_blocks qN_costs qN_zones qN_neglects qN_chosen qN_best qN_spent qN_scaffolds vN_size vN_start vN_span vN_coin l8 fN_zones (wSp (pcs fN_costs) (pcs fN_zones) vN_span (i + 1) (cd * (vN_span + 1) + t9)) (wSc (pcs fN_costs) (pcs fN_zones) vN_span (i + 1) (cd * (vN_span + 1) + t9)) (by omega) hNz) (cwV 3 F.2.2.2.2.1 gX4_search_X4_undoWork rfl rfl rfl (by decide +kernel) ⟨Nat.le_of_ble_eq_true rfl, Nat.le_of_ble_eq_true rfl⟩) rfl rfl [0, 2, 6, 7] [1, 3, 4, 5] [4, 0, 5, 1, 2, 3, 6, 7] rfl rfl (by decide) (by decide) (by decide) (fun _ => rfl) (by decide) rfl (Nat.le_of_ble_eq_true rfl) dX4_search_87 ⟨Nat.le_of_ble_eq_true rfl, Nat.le_of_ble_eq_true rfl⟩ (fun u87 h87 => ?_)
                    try dsimp only at h87
                    refine x_ws [(qN, .inr (4, [.ref qN_blocks, .ref qN_costs, .ref qN_zones, .ref qN_neglects, .ref qN_chosen, .ref qN_best, .ref qN_spent, .ref qN_scaffolds, .int (jI vN_size), .int (jI vN_start), .int (jI vN_span), .int (jI vN_coin), .int (jI l8)])), aI kI qN_costs 24 fN_costs, aI kI qN_zones 24 fN_zones, aI kI qN_neglects 6 fN_neglects, aI kI qN_chosen 6 ch8, aI kI qN_best 6 b8, aI kI qN_spent 4 (iU (wSp (pcs fN_costs) (pcs fN_zones) vN_span (i + 1) (cd * (vN_span + 1) + t9)) t9 ((wSp (pcs fN_costs) (pcs fN_zones) vN_span (i + 1) (cd * (vN_span + 1) + t9)) t9 + -(fN_costs (i * 4 + t9) + (if (wSc (pcs fN_costs) (pcs fN_zones) vN_span i cd) (t9 * 8 + fN_zones (i * 4 + t9)) = 0 then 25 else 0)))), aI kI qN_scaffolds 32 (iU (wSc (pcs fN_costs) (pcs fN_zones) vN_span (i + 1) (cd * (vN_span + 1) + t9)) (t9 * 8 + fN_zones (i * 4 + t9)) ((wSc (pcs fN_costs) (pcs fN_zones) vN_span (i + 1) (cd * (vN_span + 1) + t9)) (t9 * 8 + fN_zones (i * 4 + t9)) + -1))] rfl ?_
                    refine x_ext 6 rfl (wSp (pcs fN_costs) (pcs fN_zones) vN_span i cd) (fun k _ _ => by rw [(wS_t hi.1 (by omega)).1]; exact congrFun (iU_back _ _ _) k) [(qN, .inr (4, [.ref qN_blocks, .ref qN_costs, .ref qN_zones, .ref qN_neglects, .ref qN_chosen, .ref qN_best, .ref qN_spent, .ref qN_scaffolds, .int (jI vN_size), .int (jI vN_start), .int (jI vN_span), .int (jI vN_coin), .int (jI l8)])), aI kI qN_costs 24 fN_costs, aI kI qN_zones 24 fN_zones, aI kI qN_neglects 6 fN_neglects, aI kI qN_chosen 6 ch8, aI kI qN_best 6 b8, aI kI qN_spent 4 (wSp (pcs fN_costs) (pcs fN_zones) vN_span i cd), aI kI qN_scaffolds 32 (iU (wSc (pcs fN_costs) (pcs fN_zones) vN_span (i + 1) (cd * (vN_span + 1) + t9)) (t9 * 8 + fN_zones (i * 4 + t9)) ((wSc (pcs fN_costs) (pcs fN_zones) vN_span (i + 1) (cd * (vN_span + 1) + t9)) (t9 * 8 + fN_zones (i * 4 + t9)) + -1))] rfl ?_
                    refine x_ext 7 rfl (wSc (pcs fN_costs) (pcs fN_zones) vN_span i cd) (fun k _ _ => by rw [(wS_t hi.1 (by omega)).2]; exact congrFun (iU_back _ _ _) k) [(qN, .inr (4, [.ref qN_blocks, .ref qN_costs, .ref qN_zones, .ref qN_neglects, .ref qN_chosen, .ref qN_best, .ref qN_spent, .ref qN_scaffolds, .int (jI vN_size), .int (jI vN_start), .int (jI vN_span), .int (jI vN_coin), .int (jI l8)])), aI kI qN_costs 24 fN_costs, aI kI qN_zones 24 fN_zones, aI kI qN_neglects 6 fN_neglects, aI kI qN_chosen 6 ch8, aI kI qN_best 6 b8, aI kI qN_spent 4 (wSp (pcs fN_costs) (pcs fN_zones) vN_span i cd), aI kI qN_scaffolds 32 (wSc (pcs fN_costs) (pcs fN_zones) vN_span i cd)] rfl ?_
                    refine x_iinc (lv' := [(0, .ref qN), (1, .int (jI i)), (2, .int (jI sum)), (3, .int (jI (t9 + 1))), (4, .int (jI (fN_costs (i * 4 + t9) + (if (wSc (pcs fN_costs) (pcs fN_zones) vN_span i cd) (t9 * 8 + fN_zones (i * 4 + t9)) = 0 then 25 else 0))))]) (k := 3) F dX4_search_90 rfl (by decide) [1, 2, 3, 0, 4] rfl ?_
                    refine x_goto (tgt := 35) F dX4_search_93 (by decide) ?_
                    refine x_lv (lv' := [(0, .ref qN), (1, .int (jI i)), (2, .int (jI sum)), (3, .int (jI (t9 + 1)))]) [0, 1, 2, 3] rfl ?_
                    exact ih35 (t9 + 1) l8 ch8 b8 (by omega) (by rw [← Int.add_assoc]; exact hl8) (by rw [← Int.add_assoc]; exact hb8) hch8 hq8 hbr8 (by omega)
                  refine x_icmp_gt (tgt := 82) F dX4_search_68 (by decide) (by omega) (fun c68 => ?_) (fun c68 => ?_)
                  · -- 68 t
                    have hcq1 : ((cd * (vN_span + 1) + t9) + 1) * pwI vN_span 3 = (cd * (vN_span + 1) + t9) * pwI vN_span 3 + pwI vN_span 3 := by rw [Int.add_mul, Int.one_mul]
                    have hcq0 : 0 ≤ (cd * (vN_span + 1) + t9) * pwI vN_span 3 := Int.mul_nonneg (by omega) (by omega)
                    have hov := ls_over (vl := (wV (pcs fN_costs) (pcs fN_zones) fN_neglects vN_span vN_coin vN_size)) (a := (cd * (vN_span + 1) + t9) * pwI vN_span 3) (b := ((cd * (vN_span + 1) + t9) + 1) * pwI vN_span 3) (by omega) (wV_none hn9 hcs9 hng9 (i := i + 1) (by omega) 3 ⟨by omega, hi.2.2⟩ (fun q => absurd ((wK_t hi.1 (by omega)).1 q).2 (by omega)))
                    exact jn82 l9 (iU ch9 i t9) b9 (by rw [hov.1]; exact hl9) (by rw [hov.2]; exact hb9) (fun j j0 j1 => by rw [iU_n (by omega)]; exact hch9 j j0 j1) (Rg.up hq9 _ _ (by omega)) hbr9
                  · -- 68 f
                    refine x_aload_n F dX4_search_71 rfl 0 rfl ?_
                    refine x_iload_n F dX4_search_72 rfl 1 rfl ?_
                    refine x_iconst F dX4_search_73 ?_
                    refine x_iadd F dX4_search_74 ?_
                    refine x_iload_n F dX4_search_75 rfl 2 rfl ?_
                    refine x_iload F dX4_search_76 4 rfl ?_
                    refine x_iadd F dX4_search_78 ?_
                    refine x_callSv (As := [.ref qN, .int (jI (i + 1)), .int (jI (sum + (fN_costs (i * 4 + t9) + (if (wSc (pcs fN_costs) (pcs fN_zones) vN_span i cd) (t9 * 8 + fN_zones (i * 4 + t9)) = 0 then 25 else 0))))]) (st := []) F (c_X4_search_3 D kI kJ l qN (i + 1) (sum + (fN_costs (i * 4 + t9) + (if (wSc (pcs fN_costs) (pcs fN_zones) vN_span i cd) (t9 * 8 + fN_zones (i * 4 + t9)) = 0 then 25 else 0))) qN_blocks qN_costs qN_zones qN_neglects qN_chosen qN_best qN_spent qN_scaffolds vN_size vN_start vN_span vN_coin l9 fN_costs fN_zones fN_neglects (iU ch9 i t9) b9 (cd * (vN_span + 1) + t9) (by omega) hn4 (by omega) hco hNc hNz hNg (Rg.up hq9 _ _ (by omega)) hbr9 (by rw [wT_t hi.1 (by omega), ← hsum]; rfl) ((wK_t hi.1 (by omega)).2 ⟨hok, by omega⟩) hl9 hb9 (fun j j0 j1 => by rw [dg_t hi.1 (by omega)]; by_cases q : j = i; (rw [q, iU_s, if_pos rfl]; unfold chD; rw [if_neg (by omega)]); (rw [iU_n q, if_neg q]; exact hch9 j j0 (by omega)))) (va_cwS 3 F.2.2.2.2.1 gX4_search_X4_search rfl rfl rfl (by decide +kernel) ⟨Nat.le_of_ble_eq_true rfl, Nat.le_of_ble_eq_true rfl⟩) [0, 1, 2, 3, 4, 5, 6, 7] [] [0, 1, 2, 3, 4, 5, 6, 7] rfl rfl (by decide) (by decide) (by decide) (fun _ => rfl) (by decide) rfl (Nat.le_of_ble_eq_true rfl) dX4_search_79 ⟨Nat.le_of_ble_eq_true rfl, Nat.le_of_ble_eq_true rfl⟩ (fun u79 h79 => ?_)
                    obtain ⟨l2_79, ch2_79, b2_79⟩ := u79
                    try dsimp only at h79
                    refine x_ws [(qN, .inr (4, [.ref qN_blocks, .ref qN_costs, .ref qN_zones, .ref qN_neglects, .ref qN_chosen, .ref qN_best, .ref qN_spent, .ref qN_scaffolds, .int (jI vN_size), .int (jI vN_start), .int (jI vN_span), .int (jI vN_coin), .int (jI l2_79)])), aI kI qN_costs 24 fN_costs, aI kI qN_zones 24 fN_zones, aI kI qN_neglects 6 fN_neglects, aI kI qN_chosen 6 ch2_79, aI kI qN_best 6 b2_79, aI kI qN_spent 4 (wSp (pcs fN_costs) (pcs fN_zones) vN_span (i + 1) (cd * (vN_span + 1) + t9)), aI kI qN_scaffolds 32 (wSc (pcs fN_costs) (pcs fN_zones) vN_span (i + 1) (cd * (vN_span + 1) + t9))] rfl ?_
                    obtain ⟨hl2_79, hb2_79, hc2_79, hq2_79, hb3_79⟩ := h79
                    exact jn82 l2_79 ch2_79 b2_79 hl2_79 hb2_79 (fun j j0 j1 => by rw [hc2_79 j j0 (by omega), iU_n (by omega)]; exact hch9 j j0 j1) hq2_79 hb3_79
          exact lp35 (Int.toNat (vN_span - 0) + 1) 0 vN_least fN_chosen fN_best (by omega) (by rw [← (pw_in vN_span cd 0 3).1]; exact hl) (by rw [← (pw_in vN_span cd 0 3).1]; exact hb) hch hNq hNb (by omega)
        · exact absurd c24 (by omega)
  · -- 5 f
    have hov := ls_over (vl := (wV (pcs fN_costs) (pcs fN_zones) fN_neglects vN_span vN_coin vN_size)) (a := cd * pwI vN_span 4) (b := (cd + 1) * pwI vN_span 4) (by omega) (wV_prune hn9 hcs9 hng9 hi.1 4 ⟨hi.2.1, hi.2.2⟩ (by rw [← hl, ← hsum]; omega))
    exact hret 0 0 8 _ (vN_least, fN_chosen, fN_best) (Nat.le_of_ble_eq_true rfl) (Nat.le_of_ble_eq_true rfl) dX4_search_8 (by (try dsimp only); exact (⟨by rw [hov.1]; exact hl, by rw [hov.2]; exact hb, fun j _ _ => rfl, hNq, hNb⟩))
set_option maxHeartbeats 4000000 in
set_option maxRecDepth 100000 in
theorem c_X4_search_5 (D : va_G) (kI kJ : Nat) (l : Launch) (qN : Nat) (i : Int) (sum : Int) (qN_blocks : Nat) (qN_costs : Nat) (qN_zones : Nat) (qN_neglects : Nat) (qN_chosen : Nat) (qN_best : Nat) (qN_spent : Nat) (qN_scaffolds : Nat) (vN_size : Int) (vN_start : Int) (vN_span : Int) (vN_coin : Int) (vN_least : Int) (fN_costs : (Int → Int)) (fN_zones : (Int → Int)) (fN_neglects : (Int → Int)) (fN_chosen : (Int → Int)) (fN_best : (Int → Int)) (cd : Int) (hi : 0 ≤ i ∧ i + 5 = vN_size ∧ vN_size ≤ 6) (hn4 : 1 ≤ vN_span ∧ vN_span ≤ 4) (hc : 0 ≤ cd) (hco : 0 ≤ vN_coin ∧ vN_coin ≤ 1000) (hNc : Rg fN_costs 24 0 50000) (hNz : Rg fN_zones 24 0 7) (hNg : Rg fN_neglects 6 0 200000) (hNq : Rg fN_chosen 6 (-1) 3) (hNb : Rg fN_best 6 (-1) 3) (hsum : sum = wT (pcs fN_costs) (pcs fN_zones) fN_neglects vN_span i cd) (hok : wK (pcs fN_costs) (pcs fN_zones) vN_span vN_coin i cd = true) (hl : vN_least = lsI (wV (pcs fN_costs) (pcs fN_zones) fN_neglects vN_span vN_coin vN_size) (cd * pwI vN_span 5)) (hb : 0 ≤ bsI (wV (pcs fN_costs) (pcs fN_zones) fN_neglects vN_span vN_coin vN_size) (cd * pwI vN_span 5) → ∀ j : Int, 0 ≤ j → j < vN_size → fN_best j = chD vN_span (dg vN_span vN_size (bsI (wV (pcs fN_costs) (pcs fN_zones) fN_neglects vN_span vN_coin vN_size) (cd * pwI vN_span 5)) j)) (hch : ∀ j : Int, 0 ≤ j → j < i → fN_chosen j = chD vN_span (dg vN_span i cd j)) : xMv D kI kJ l yX4_search wsX4_search 8 205 0 0 [.ref qN, .int (jI i), .int (jI sum)] [(qN, .inr (4, [.ref qN_blocks, .ref qN_costs, .ref qN_zones, .ref qN_neglects, .ref qN_chosen, .ref qN_best, .ref qN_spent, .ref qN_scaffolds, .int (jI vN_size), .int (jI vN_start), .int (jI vN_span), .int (jI vN_coin), .int (jI vN_least)])), aI kI qN_costs 24 fN_costs, aI kI qN_zones 24 fN_zones, aI kI qN_neglects 6 fN_neglects, aI kI qN_chosen 6 fN_chosen, aI kI qN_best 6 fN_best, aI kI qN_spent 4 (wSp (pcs fN_costs) (pcs fN_zones) vN_span i cd), aI kI qN_scaffolds 32 (wSc (pcs fN_costs) (pcs fN_zones) vN_span i cd)] (fun (u : Int × (Int → Int) × (Int → Int)) => (u.1 = lsI (wV (pcs fN_costs) (pcs fN_zones) fN_neglects vN_span vN_coin vN_size) ((cd + 1) * pwI vN_span 5)) ∧ (0 ≤ bsI (wV (pcs fN_costs) (pcs fN_zones) fN_neglects vN_span vN_coin vN_size) ((cd + 1) * pwI vN_span 5) → ∀ j : Int, 0 ≤ j → j < vN_size → u.2.2 j = chD vN_span (dg vN_span vN_size (bsI (wV (pcs fN_costs) (pcs fN_zones) fN_neglects vN_span vN_coin vN_size) ((cd + 1) * pwI vN_span 5)) j)) ∧ (∀ j : Int, 0 ≤ j → j < i → u.2.1 j = fN_chosen j) ∧ (Rg u.2.1 6 (-1) 3) ∧ (Rg u.2.2 6 (-1) 3)) (fun (u : Int × (Int → Int) × (Int → Int)) => [(qN, .inr (4, [.ref qN_blocks, .ref qN_costs, .ref qN_zones, .ref qN_neglects, .ref qN_chosen, .ref qN_best, .ref qN_spent, .ref qN_scaffolds, .int (jI vN_size), .int (jI vN_start), .int (jI vN_span), .int (jI vN_coin), .int (jI u.1)])), aI kI qN_costs 24 fN_costs, aI kI qN_zones 24 fN_zones, aI kI qN_neglects 6 fN_neglects, aI kI qN_chosen 6 u.2.1, aI kI qN_best 6 u.2.2, aI kI qN_spent 4 (wSp (pcs fN_costs) (pcs fN_zones) vN_span i cd), aI kI qN_scaffolds 32 (wSc (pcs fN_costs) (pcs fN_zones) vN_span i cd)]) := by
  refine xMv_of (cc := cX4_search) (maxL := 5) (by decide) rfl (Nat.le_of_ble_eq_true rfl) ?_
  intro p e s m args below meth c A Q F hin2 hret
  have hin4 : ∀ w ∈ wsX40, w ∈ wsX4_search := by decide +kernel
  have hw0 : Cond.fieldLink RX4 56 (TX4 12).1 (TX4 12).2.1 (TX4 12).2.2.1 ∈ wsX4_search := by decide +kernel
  have hw1 : Cond.fieldLink RX4 36 (TX4 8).1 (TX4 8).2.1 (TX4 8).2.2.1 ∈ wsX4_search := by decide +kernel
  have hw2 : Cond.fieldLink RX4 49 (TX4 10).1 (TX4 10).2.1 (TX4 10).2.2.1 ∈ wsX4_search := by decide +kernel
  have hw3 : Cond.fieldLink RX4 24 (TX4 4).1 (TX4 4).2.1 (TX4 4).2.2.1 ∈ wsX4_search := by decide +kernel
  have hw4 : Cond.fieldLink RX4 21 (TX4 3).1 (TX4 3).2.1 (TX4 3).2.2.1 ∈ wsX4_search := by decide +kernel
  have hw5 : Cond.fieldLink RX4 30 (TX4 6).1 (TX4 6).2.1 (TX4 6).2.2.1 ∈ wsX4_search := by decide +kernel
  have hw6 : Cond.initialized yX9_at.cls ∈ wsX4_search := by decide +kernel
  have hw7 : Cond.static yX9_at ∈ wsX4_search := by decide +kernel
  have hw8 : Cond.fieldLink RX4 52 (TX4 11).1 (TX4 11).2.1 (TX4 11).2.2.1 ∈ wsX4_search := by decide +kernel
  refine x_lveq (lv' := [(0, .ref qN), (1, .int (jI i)), (2, .int (jI sum))]) rfl ?_
  have hcs9 : ∀ j t : Int, 0 ≤ j → j < 6 → 0 ≤ t → t < vN_span → 0 ≤ pcs fN_costs j t ∧ pcs fN_costs j t ≤ 50000 := fun j t a1 a2 a3 a4 => hNc (j * 4 + t) (by omega) (by omega)
  have hng9 : ∀ j : Int, 0 ≤ j → j < 6 → 0 ≤ fN_neglects j ∧ fN_neglects j ≤ 200000 := fun j a1 a2 => hNg j a1 a2
  have hn9 : 0 ≤ vN_span ∧ vN_span ≤ 4 := by omega
  have hT9 := wT_bd (zn := pcs fN_zones) hn9 hcs9 hng9 (i := i) (by omega) cd
  rw [← hsum] at hT9
  have hLr := ls_rng (vl := (wV (pcs fN_costs) (pcs fN_zones) fN_neglects vN_span vN_coin vN_size)) (cd * pwI vN_span 5)
  rw [← hl] at hLr
  have hpp := pwI_pos hn9.1 5
  have hcp : 0 ≤ cd * pwI vN_span 5 := Int.mul_nonneg hc (by omega)
  have hcq : (cd + 1) * pwI vN_span 5 = cd * pwI vN_span 5 + pwI vN_span 5 := by rw [Int.add_mul, Int.one_mul]
  refine x_iload_n F dX4_search_0 rfl 2 rfl ?_
  refine x_aload_n F dX4_search_1 rfl 0 rfl ?_
  refine x_get (ci := 4) F hin4 0 rfl rfl 12 (by decide) hw0 rfl dX4_search_2 ?_
  refine x_icmp_lt (tgt := 9) F dX4_search_5 (by decide) (by omega) (fun c5 => ?_) (fun c5 => ?_)
  · -- 5 t
    have hcn : 0 ≤ cd * (vN_span + 1) := Int.mul_nonneg hc (by omega)
    have hSc9 : Rg (wSc (pcs fN_costs) (pcs fN_zones) vN_span i cd) 32 0 6 := fun k _ _ => by have := wSc_bd (zn := pcs fN_zones) hn9 hcs9 (i := i) (by omega) cd k; omega
    have hSp9 : Rg (wSp (pcs fN_costs) (pcs fN_zones) vN_span i cd) 4 0 400000 := fun k _ _ => by have := wSp_bd (zn := pcs fN_zones) hn9 hcs9 (i := i) (by omega) cd k; omega
    have hqq := pwI_pos hn9.1 4
    refine x_iload_n F dX4_search_9 rfl 1 rfl ?_
    refine x_if_lt (tgt := 27) F dX4_search_10 (by decide) (by omega) (fun c10 => ?_) (fun c10 => ?_)
    · exact absurd c10 (by omega)
    · -- 10 f
      refine x_iload_n F dX4_search_13 rfl 1 rfl ?_
      refine x_aload_n F dX4_search_14 rfl 0 rfl ?_
      refine x_get (ci := 4) F hin4 0 rfl rfl 8 (by decide) hw1 rfl dX4_search_15 ?_
      refine x_icmp_ge (tgt := 27) F dX4_search_18 (by decide) (by omega) (fun c18 => ?_) (fun c18 => ?_)
      · exact absurd c18 (by omega)
      · -- 18 f
        refine x_iload_n F dX4_search_21 rfl 1 rfl ?_
        refine x_bipush F dX4_search_22 (by decide) ?_
        refine x_icmp_lt (tgt := 33) F dX4_search_24 (by decide) (by omega) (fun c24 => ?_) (fun c24 => ?_)
        · -- 24 t
          refine x_iconst F dX4_search_33 ?_
          refine x_istore_n (lv' := [(0, .ref qN), (1, .int (jI i)), (2, .int (jI sum)), (3, .int (jI 0))]) F dX4_search_34 rfl (by decide) [1, 2, 3, 0] rfl ?_
          have lp35 : ∀ (fu : Nat) (t9 : Int) (l9 : Int) (ch9 : (Int → Int)) (b9 : (Int → Int)) (ht9 : 0 ≤ t9 ∧ t9 ≤ vN_span) (hl9 : l9 = lsI (wV (pcs fN_costs) (pcs fN_zones) fN_neglects vN_span vN_coin vN_size) ((cd * (vN_span + 1) + t9) * pwI vN_span 4)) (hb9 : 0 ≤ bsI (wV (pcs fN_costs) (pcs fN_zones) fN_neglects vN_span vN_coin vN_size) ((cd * (vN_span + 1) + t9) * pwI vN_span 4) → ∀ j : Int, 0 ≤ j → j < vN_size → b9 j = chD vN_span (dg vN_span vN_size (bsI (wV (pcs fN_costs) (pcs fN_zones) fN_neglects vN_span vN_coin vN_size) ((cd * (vN_span + 1) + t9) * pwI vN_span 4)) j)) (hch9 : ∀ j : Int, 0 ≤ j → j < i → ch9 j = chD vN_span (dg vN_span i cd j)) (hq9 : Rg ch9 6 (-1) 3) (hbr9 : Rg b9 6 (-1) 3) (hm : vN_span - t9 < (fu : Int)), xG D p l e (xRm 8 205 0 0) s m args below meth c 5 A Q 0 0 [(qN, .inr (4, [.ref qN_blocks, .ref qN_costs, .ref qN_zones, .ref qN_neglects, .ref qN_chosen, .ref qN_best, .ref qN_spent, .ref qN_scaffolds, .int (jI vN_size), .int (jI vN_start), .int (jI vN_span), .int (jI vN_coin), .int (jI l9)])), aI kI qN_costs 24 fN_costs, aI kI qN_zones 24 fN_zones, aI kI qN_neglects 6 fN_neglects, aI kI qN_chosen 6 ch9, aI kI qN_best 6 b9, aI kI qN_spent 4 (wSp (pcs fN_costs) (pcs fN_zones) vN_span i cd), aI kI qN_scaffolds 32 (wSc (pcs fN_costs) (pcs fN_zones) vN_span i cd)] [(0, .ref qN), (1, .int (jI i)), (2, .int (jI sum)), (3, .int (jI t9))] 35 [] := by
            intro fu
            induction fu with
            | zero =>
              intro t9 l9 ch9 b9 ht9 hl9 hb9 hch9 hq9 hbr9 hm
              exact absurd hm (by omega)
            | succ fu ih35 =>
              intro t9 l9 ch9 b9 ht9 hl9 hb9 hch9 hq9 hbr9 hm
              refine x_iload_n F dX4_search_35 rfl 3 rfl ?_
              refine x_aload_n F dX4_search_36 rfl 0 rfl ?_
              refine x_get (ci := 4) F hin4 0 rfl rfl 10 (by decide) hw2 rfl dX4_search_37 ?_
              refine x_icmp_ge (tgt := 96) F dX4_search_40 (by decide) (by omega) (fun c40 => ?_) (fun c40 => ?_)
              · -- 40 t
                have ht8 : t9 = vN_span := by omega
                rw [ht8] at hl9 hb9
                refine x_aload_n F dX4_search_96 rfl 0 rfl ?_
                refine x_get (ci := 4) F hin4 0 rfl rfl 4 (by decide) hw3 rfl dX4_search_97 ?_
                refine x_iload_n F dX4_search_100 rfl 1 rfl ?_
                refine x_iconst F dX4_search_101 ?_
                refine x_iast F 4 rfl (by decide) (by omega) dX4_search_102 [(qN, .inr (4, [.ref qN_blocks, .ref qN_costs, .ref qN_zones, .ref qN_neglects, .ref qN_chosen, .ref qN_best, .ref qN_spent, .ref qN_scaffolds, .int (jI vN_size), .int (jI vN_start), .int (jI vN_span), .int (jI vN_coin), .int (jI l9)])), aI kI qN_costs 24 fN_costs, aI kI qN_zones 24 fN_zones, aI kI qN_neglects 6 fN_neglects, aI kI qN_chosen 6 (iU ch9 i (-1)), aI kI qN_best 6 b9, aI kI qN_spent 4 (wSp (pcs fN_costs) (pcs fN_zones) vN_span i cd), aI kI qN_scaffolds 32 (wSc (pcs fN_costs) (pcs fN_zones) vN_span i cd)] rfl ?_
                refine x_ext 6 rfl (wSp (pcs fN_costs) (pcs fN_zones) vN_span (i + 1) (cd * (vN_span + 1) + vN_span)) (fun k _ _ => by rw [(wS_n hi.1 hn9.1).1]) [(qN, .inr (4, [.ref qN_blocks, .ref qN_costs, .ref qN_zones, .ref qN_neglects, .ref qN_chosen, .ref qN_best, .ref qN_spent, .ref qN_scaffolds, .int (jI vN_size), .int (jI vN_start), .int (jI vN_span), .int (jI vN_coin), .int (jI l9)])), aI kI qN_costs 24 fN_costs, aI kI qN_zones 24 fN_zones, aI kI qN_neglects 6 fN_neglects, aI kI qN_chosen 6 (iU ch9 i (-1)), aI kI qN_best 6 b9, aI kI qN_spent 4 (wSp (pcs fN_costs) (pcs fN_zones) vN_span (i + 1) (cd * (vN_span + 1) + vN_span)), aI kI qN_scaffolds 32 (wSc (pcs fN_costs) (pcs fN_zones) vN_span i cd)] rfl ?_
                refine x_ext 7 rfl (wSc (pcs fN_costs) (pcs fN_zones) vN_span (i + 1) (cd * (vN_span + 1) + vN_span)) (fun k _ _ => by rw [(wS_n hi.1 hn9.1).2]) [(qN, .inr (4, [.ref qN_blocks, .ref qN_costs, .ref qN_zones, .ref qN_neglects, .ref qN_chosen, .ref qN_best, .ref qN_spent, .ref qN_scaffolds, .int (jI vN_size), .int (jI vN_start), .int (jI vN_span), .int (jI vN_coin), .int (jI l9)])), aI kI qN_costs 24 fN_costs, aI kI qN_zones 24 fN_zones, aI kI qN_neglects 6 fN_neglects, aI kI qN_chosen 6 (iU ch9 i (-1)), aI kI qN_best 6 b9, aI kI qN_spent 4 (wSp (pcs fN_costs) (pcs fN_zones) vN_span (i + 1) (cd * (vN_span + 1) + vN_span)), aI kI qN_scaffolds 32 (wSc (pcs fN_costs) (pcs fN_zones) vN_span (i + 1) (cd * (vN_span + 1) + vN_span))] rfl ?_
                refine x_aload_n F dX4_search_103 rfl 0 rfl ?_
                refine x_iload_n F dX4_search_104 rfl 1 rfl ?_
                refine x_iconst F dX4_search_105 ?_
                refine x_iadd F dX4_search_106 ?_
                refine x_iload_n F dX4_search_107 rfl 2 rfl ?_
                refine x_aload_n F dX4_search_108 rfl 0 rfl ?_
                refine x_get (ci := 4) F hin4 0 rfl rfl 3 (by decide) hw4 rfl dX4_search_109 ?_
                refine x_iload_n F dX4_search_112 rfl 1 rfl ?_
                refine x_iald F 3 rfl (by decide) (by omega) dX4_search_113 ?_
                have hr113 := Rg.at hNg i (by omega)
                refine x_iadd F dX4_search_114 ?_
                refine x_callSv (As := [.ref qN, .int (jI (i + 1)), .int (jI (sum + (fN_neglects i)))]) (st := []) F (c_X4_search_4 D kI kJ l qN (i + 1) (sum + (fN_neglects i)) qN_blocks qN_costs qN_zones qN_neglects qN_chosen qN_best qN_spent qN_scaffolds vN_size vN_start vN_span vN_coin l9 fN_costs fN_zones fN_neglects (iU ch9 i (-1)) b9 (cd * (vN_span + 1) + vN_span) (by omega) hn4 (by omega) hco hNc hNz hNg (Rg.up hq9 _ _ (by omega)) hbr9 (by rw [wT_n hi.1 hn9.1, ← hsum]) ((wK_n hi.1 hn9.1).2 hok) hl9 hb9 (fun j j0 j1 => by rw [dg_t hi.1 (by omega)]; by_cases q : j = i; (rw [q, iU_s, if_pos rfl]; unfold chD; rw [if_pos rfl]); (rw [iU_n q, if_neg q]; exact hch9 j j0 (by omega)))) (va_cwS 3 F.2.2.2.2.1 gX4_search_X4_search rfl rfl rfl (by decide +kernel) ⟨Nat.le_of_ble_eq_true rfl, Nat.le_of_ble_eq_true rfl⟩) [0, 1, 2, 3, 4, 5, 6, 7] [] [0, 1, 2, 3, 4, 5, 6, 7] rfl rfl (by decide) (by decide) (by decide) (fun _ => rfl) (by decide) rfl (Nat.le_of_ble_eq_true rfl) dX4_search_115 ⟨Nat.le_of_ble_eq_true rfl, Nat.le_of_ble_eq_true rfl⟩ (fun u115 h115 => ?_)
                obtain ⟨l2_115, ch2_115, b2_115⟩ := u115
                try dsimp only at h115
                refine x_ws [(qN, .inr (4, [.ref qN_blocks, .ref qN_costs, .ref qN_zones, .ref qN_neglects, .ref qN_chosen, .ref qN_best, .ref qN_spent, .ref qN_scaffolds, .int (jI vN_size), .int (jI vN_start), .int (jI vN_span), .int (jI vN_coin), .int (jI l2_115)])), aI kI qN_costs 24 fN_costs, aI kI qN_zones 24 fN_zones, aI kI qN_neglects 6 fN_neglects, aI kI qN_chosen 6 ch2_115, aI kI qN_best 6 b2_115, aI kI qN_spent 4 (wSp (pcs fN_costs) (pcs fN_zones) vN_span (i + 1) (cd * (vN_span + 1) + vN_span)), aI kI qN_scaffolds 32 (wSc (pcs fN_costs) (pcs fN_zones) vN_span (i + 1) (cd * (vN_span + 1) + vN_span))] rfl ?_
                obtain ⟨hl2_115, hb2_115, hc2_115, hq2_115, hb3_115⟩ := h115
                refine x_ext 6 rfl (wSp (pcs fN_costs) (pcs fN_zones) vN_span i cd) (fun k _ _ => by rw [(wS_n hi.1 hn9.1).1]) [(qN, .inr (4, [.ref qN_blocks, .ref qN_costs, .ref qN_zones, .ref qN_neglects, .ref qN_chosen, .ref qN_best, .ref qN_spent, .ref qN_scaffolds, .int (jI vN_size), .int (jI vN_start), .int (jI vN_span), .int (jI vN_coin), .int (jI l2_115)])), aI kI qN_costs 24 fN_costs, aI kI qN_zones 24 fN_zones, aI kI qN_neglects 6 fN_neglects, aI kI qN_chosen 6 ch2_115, aI kI qN_best 6 b2_115, aI kI qN_spent 4 (wSp (pcs fN_costs) (pcs fN_zones) vN_span i cd), aI kI qN_scaffolds 32 (wSc (pcs fN_costs) (pcs fN_zones) vN_span (i + 1) (cd * (vN_span + 1) + vN_span))] rfl ?_
                refine x_ext 7 rfl (wSc (pcs fN_costs) (pcs fN_zones) vN_span i cd) (fun k _ _ => by rw [(wS_n hi.1 hn9.1).2]) [(qN, .inr (4, [.ref qN_blocks, .ref qN_costs, .ref qN_zones, .ref qN_neglects, .ref qN_chosen, .ref qN_best, .ref qN_spent, .ref qN_scaffolds, .int (jI vN_size), .int (jI vN_start), .int (jI vN_span), .int (jI vN_coin), .int (jI l2_115)])), aI kI qN_costs 24 fN_costs, aI kI qN_zones 24 fN_zones, aI kI qN_neglects 6 fN_neglects, aI kI qN_chosen 6 ch2_115, aI kI qN_best 6 b2_115, aI kI qN_spent 4 (wSp (pcs fN_costs) (pcs fN_zones) vN_span i cd), aI kI qN_scaffolds 32 (wSc (pcs fN_costs) (pcs fN_zones) vN_span i cd)] rfl ?_
                exact hret 0 0 118 _ (l2_115, ch2_115, b2_115) (Nat.le_of_ble_eq_true rfl) (Nat.le_of_ble_eq_true rfl) dX4_search_118 (by (try dsimp only); exact (⟨by rw [(pw_in vN_span cd 0 4).2]; exact hl2_115, by rw [(pw_in vN_span cd 0 4).2]; exact hb2_115, fun j j0 j1 => by rw [hc2_115 j j0 (by omega), iU_n (by omega), hch9 j j0 j1]; exact (hch j j0 j1).symm, hq2_115, hb3_115⟩))
              · -- 40 f
                refine x_iload_n F dX4_search_43 rfl 3 rfl ?_
                refine x_iconst F dX4_search_44 ?_
                refine x_icmp_ge (tgt := 96) F dX4_search_45 (by decide) (by omega) (fun c45 => ?_) (fun c45 => ?_)
                · exact absurd c45 (by omega)
                · -- 45 f
                  refine x_aload_n F dX4_search_48 rfl 0 rfl ?_
                  refine x_iload_n F dX4_search_49 rfl 1 rfl ?_
                  refine x_iload_n F dX4_search_50 rfl 3 rfl ?_
                  refine x_callVi (ci := 4) (q0 := 0) (As := [.int (jI i), .int (jI t9)]) (st := []) F (c_X4_doWork D kI kJ l qN i t9 qN_blocks qN_costs qN_zones qN_neglects qN_chosen qN_best qN_spent qN_scaffolds vN_size vN_start vN_span vN_coin l9 fN_costs fN_zones (wSp (pcs fN_costs) (pcs fN_zones) vN_span i cd) (wSc (pcs fN_costs) (pcs fN_zones) vN_span i cd) ch9 (by omega) hNc hNz hSc9 hSp9) (cwV 2 F.2.2.2.2.1 gX4_search_X4_doWork rfl rfl rfl (by decide +kernel) ⟨Nat.le_of_ble_eq_true rfl, Nat.le_of_ble_eq_true rfl⟩) rfl rfl [0, 1, 2, 6, 7, 4] [3, 5] [2, 3, 4, 0, 7, 1, 5, 6] rfl rfl (by decide) (by decide) (by decide) (fun _ => rfl) (by decide) rfl (Nat.le_of_ble_eq_true rfl) dX4_search_51 ⟨Nat.le_of_ble_eq_true rfl, Nat.le_of_ble_eq_true rfl⟩ (fun z51 u51 h51 => ?_)
                  obtain ⟨s2_51, rfl⟩ : ∃ z, z = u51 := ⟨_, rfl⟩
                  try dsimp only at h51
                  refine x_ws [(qN, .inr (4, [.ref qN_blocks, .ref qN_costs, .ref qN_zones, .ref qN_neglects, .ref qN_chosen, .ref qN_best, .ref qN_spent, .ref qN_scaffolds, .int (jI vN_size), .int (jI vN_start), .int (jI vN_span), .int (jI vN_coin), .int (jI l9)])), aI kI qN_costs 24 fN_costs, aI kI qN_zones 24 fN_zones, aI kI qN_neglects 6 fN_neglects, aI kI qN_chosen 6 (iU ch9 i t9), aI kI qN_best 6 b9, aI kI qN_spent 4 s2_51, aI kI qN_scaffolds 32 (iU (wSc (pcs fN_costs) (pcs fN_zones) vN_span i cd) (t9 * 8 + fN_zones (i * 4 + t9)) ((wSc (pcs fN_costs) (pcs fN_zones) vN_span i cd) (t9 * 8 + fN_zones (i * 4 + t9)) + 1))] rfl ?_
                  obtain ⟨he51, hs_51⟩ := h51
                  have he51 := he51.symm
                  subst he51
                  have hbd9 := wSp_bd (zn := pcs fN_zones) hn9 hcs9 (i := i + 1) (by omega) (cd * (vN_span + 1) + t9) t9
                  refine x_istore (lv' := [(0, .ref qN), (1, .int (jI i)), (2, .int (jI sum)), (3, .int (jI t9)), (4, .int (jI (fN_costs (i * 4 + t9) + (if (wSc (pcs fN_costs) (pcs fN_zones) vN_span i cd) (t9 * 8 + fN_zones (i * 4 + t9)) = 0 then 25 else 0))))]) F dX4_search_54 (by decide) [1, 2, 3, 4, 0] rfl ?_
                  refine x_ext 6 rfl (wSp (pcs fN_costs) (pcs fN_zones) vN_span (i + 1) (cd * (vN_span + 1) + t9)) (fun k _ _ => by rw [hs_51, (wS_t hi.1 (by omega)).1]; rfl) [(qN, .inr (4, [.ref qN_blocks, .ref qN_costs, .ref qN_zones, .ref qN_neglects, .ref qN_chosen, .ref qN_best, .ref qN_spent, .ref qN_scaffolds, .int (jI vN_size), .int (jI vN_start), .int (jI vN_span), .int (jI vN_coin), .int (jI l9)])), aI kI qN_costs 24 fN_costs, aI kI qN_zones 24 fN_zones, aI kI qN_neglects 6 fN_neglects, aI kI qN_chosen 6 (iU ch9 i t9), aI kI qN_best 6 b9, aI kI qN_spent 4 (wSp (pcs fN_costs) (pcs fN_zones) vN_span (i + 1) (cd * (vN_span + 1) + t9)), aI kI qN_scaffolds 32 (iU (wSc (pcs fN_costs) (pcs fN_zones) vN_span i cd) (t9 * 8 + fN_zones (i * 4 + t9)) ((wSc (pcs fN_costs) (pcs fN_zones) vN_span i cd) (t9 * 8 + fN_zones (i * 4 + t9)) + 1))] rfl ?_
                  refine x_ext 7 rfl (wSc (pcs fN_costs) (pcs fN_zones) vN_span (i + 1) (cd * (vN_span + 1) + t9)) (fun k _ _ => by rw [(wS_t hi.1 (by omega)).2]; rfl) [(qN, .inr (4, [.ref qN_blocks, .ref qN_costs, .ref qN_zones, .ref qN_neglects, .ref qN_chosen, .ref qN_best, .ref qN_spent, .ref qN_scaffolds, .int (jI vN_size), .int (jI vN_start), .int (jI vN_span), .int (jI vN_coin), .int (jI l9)])), aI kI qN_costs 24 fN_costs, aI kI qN_zones 24 fN_zones, aI kI qN_neglects 6 fN_neglects, aI kI qN_chosen 6 (iU ch9 i t9), aI kI qN_best 6 b9, aI kI qN_spent 4 (wSp (pcs fN_costs) (pcs fN_zones) vN_span (i + 1) (cd * (vN_span + 1) + t9)), aI kI qN_scaffolds 32 (wSc (pcs fN_costs) (pcs fN_zones) vN_span (i + 1) (cd * (vN_span + 1) + t9))] rfl ?_
                  refine x_aload_n F dX4_search_56 rfl 0 rfl ?_
                  refine x_get (ci := 4) F hin4 0 rfl rfl 6 (by decide) hw5 rfl dX4_search_57 ?_
                  refine x_iload_n F dX4_search_60 rfl 3 rfl ?_
                  refine x_callSNi (As := [.ref qN_spent, .int (jI t9)]) (st := []) F (c_X9_at D kI kJ l qN_spent t9 4 (wSp (pcs fN_costs) (pcs fN_zones) vN_span (i + 1) (cd * (vN_span + 1) + t9)) (by omega) (by omega)) ⟨va_cnB 2 F.2.2.2.2.1 gX4_search_X9_at_n85 rfl rfl rfl (nM20 F.2.2.2.2.2.2.2) (F.2.2.2.2.1 _ hw6) (by decide +kernel) ⟨Nat.le_of_ble_eq_true rfl, Nat.le_of_ble_eq_true rfl⟩, F.2.2.2.2.1 _ hw7, trivial⟩ [6] [0, 1, 2, 3, 4, 5, 7] [0, 1, 2, 3, 4, 5, 7, 6] rfl rfl (by decide) (by decide) (by decide) (fun _ => rfl) (by decide) rfl (Nat.le_of_ble_eq_true rfl) dX4_search_61 ⟨Nat.le_of_ble_eq_true rfl, Nat.le_of_ble_eq_true rfl⟩ (fun z61 u61 h61 => ?_)
                  try dsimp only at h61
                  refine x_ws [(qN, .inr (4, [.ref qN_blocks, .ref qN_costs, .ref qN_zones, .ref qN_neglects, .ref qN_chosen, .ref qN_best, .ref qN_spent, .ref qN_scaffolds, .int (jI vN_size), .int (jI vN_start), .int (jI vN_span), .int (jI vN_coin), .int (jI l9)])), aI kI qN_costs 24 fN_costs, aI kI qN_zones 24 fN_zones, aI kI qN_neglects 6 fN_neglects, aI kI qN_chosen 6 (iU ch9 i t9), aI kI qN_best 6 b9, aI kI qN_spent 4 (wSp (pcs fN_costs) (pcs fN_zones) vN_span (i + 1) (cd * (vN_span + 1) + t9)), aI kI qN_scaffolds 32 (wSc (pcs fN_costs) (pcs fN_zones) vN_span (i + 1) (cd * (vN_span + 1) + t9))] rfl ?_
                  have he61 := h61
                  have he61 := he61.symm
                  subst he61
                  refine x_aload_n F dX4_search_64 rfl 0 rfl ?_
                  refine x_get (ci := 4) F hin4 0 rfl rfl 11 (by decide) hw8 rfl dX4_search_65 ?_
                  have jn82 : ∀ (l8 : Int) (ch8 : (Int → Int)) (b8 : (Int → Int)) (hl8 : l8 = lsI (wV (pcs fN_costs) (pcs fN_zones) fN_neglects vN_span vN_coin vN_size) (((cd * (vN_span + 1) + t9) + 1) * pwI vN_span 4)) (hb8 : 0 ≤ bsI (wV (pcs fN_costs) (pcs fN_zones) fN_neglects vN_span vN_coin vN_size) (((cd * (vN_span + 1) + t9) + 1) * pwI vN_span 4) → ∀ j : Int, 0 ≤ j → j < vN_size → b8 j = chD vN_span (dg vN_span vN_size (bsI (wV (pcs fN_costs) (pcs fN_zones) fN_neglects vN_span vN_coin vN_size) (((cd * (vN_span + 1) + t9) + 1) * pwI vN_span 4)) j)) (hch8 : ∀ j : Int, 0 ≤ j → j < i → ch8 j = chD vN_span (dg vN_span i cd j)) (hq8 : Rg ch8 6 (-1) 3) (hbr8 : Rg b8 6 (-1) 3), xG D p l e (xRm 8 205 0 0) s m args below meth c 5 A Q 0 0 [(qN, .inr (4, [.ref qN_blocks, .ref qN_costs, .ref qN_zones, .ref qN_neglects, .ref qN_chosen, .ref qN_best, .ref qN_spent, .ref qN_scaffolds, .int (jI vN_size), .int (jI vN_start), .int (jI vN_span), .int (jI vN_coin), .int (jI l8)])), aI kI qN_costs 24 fN_costs, aI kI qN_zones 24 fN_zones, aI kI qN_neglects 6 fN_neglects, aI kI qN_chosen 6 ch8, aI kI qN_best 6 b8, aI kI qN_spent 4 (wSp (pcs fN_costs) (pcs fN_zones) vN_span (i + 1) (cd * (vN_span + 1) + t9)), aI kI qN_scaffolds 32 (wSc (pcs fN_costs) (pcs fN_zones) vN_span (i + 1) (cd * (vN_span + 1) + t9))] [(0, .ref qN), (1, .int (jI i)), (2, .int (jI sum)), (3, .int (jI t9)), (4, .int (jI (fN_costs (i * 4 + t9) + (if (wSc (pcs fN_costs) (pcs fN_zones) vN_span i cd) (t9 * 8 + fN_zones (i * 4 + t9)) = 0 then 25 else 0))))] 82 [] := by
                    intro l8 ch8 b8 hl8 hb8 hch8 hq8 hbr8
                    refine x_aload_n F dX4_search_82 rfl 0 rfl ?_
                    refine x_iload_n F dX4_search_83 rfl 1 rfl ?_
                    refine x_iload_n F dX4_search_84 rfl 3 rfl ?_
                    refine x_iload F dX4_search_85 4 rfl ?_
                    refine x_callVv (ci := 4) (q0 := 0) (As := [.int (jI i), .int (jI t9), .int (jI (fN_costs (i * 4 + t9) + (if (wSc (pcs fN_costs) (pcs fN_zones) vN_span i cd) (t9 * 8 + fN_zones (i * 4 + t9)) = 0 then 25 else 0)))]) (st := []) F (c_X4_undoWork D kI kJ l qN i t9 (fN_costs (i * 4 + t9) + (if (wSc (pcs fN_costs) (pcs fN_zones) vN_span i cd) (t9 * 8 + fN_zones (i * 4 + t9)) = 0 then 25 else 0)) qN_blocks qN_costs qN_zones qN_neglects qN_chosen qN_best qN_spent qN_scaffolds vN_size vN_start vN_span vN_coin l8 fN_zones (wSp (pcs fN_costs) (pcs fN_zones) vN_span (i + 1) (cd * (vN_span + 1) + t9)) (wSc (pcs fN_costs) (pcs fN_zones) vN_span (i + 1) (cd * (vN_span + 1) + t9)) (by omega) hNz) (cwV 3 F.2.2.2.2.1 gX4_search_X4_undoWork rfl rfl rfl (by decide +kernel) ⟨Nat.le_of_ble_eq_true rfl, Nat.le_of_ble_eq_true rfl⟩) rfl rfl [0, 2, 6, 7] [1, 3, 4, 5] [4, 0, 5, 1, 2, 3, 6, 7] rfl rfl (by decide) (by decide) (by decide) (fun _ => rfl) (by decide) rfl (Nat.le_of_ble_eq_true rfl) dX4_search_87 ⟨Nat.le_of_ble_eq_true rfl, Nat.le_of_ble_eq_true rfl⟩ (fun u87 h87 => ?_)
                    try dsimp only at h87
                    refine x_ws [(qN, .inr (4, [.ref qN_blocks, .ref qN_costs, .ref qN_zones, .ref qN_neglects, .ref qN_chosen, .ref qN_best, .ref qN_spent, .ref qN_scaffolds, .int (jI vN_size), .int (jI vN_start), .int (jI vN_span), .int (jI vN_coin), .int (jI l8)])), aI kI qN_costs 24 fN_costs, aI kI qN_zones 24 fN_zones, aI kI qN_neglects 6 fN_neglects, aI kI qN_chosen 6 ch8, aI kI qN_best 6 b8, aI kI qN_spent 4 (iU (wSp (pcs fN_costs) (pcs fN_zones) vN_span (i + 1) (cd * (vN_span + 1) + t9)) t9 ((wSp (pcs fN_costs) (pcs fN_zones) vN_span (i + 1) (cd * (vN_span + 1) + t9)) t9 + -(fN_costs (i * 4 + t9) + (if (wSc (pcs fN_costs) (pcs fN_zones) vN_span i cd) (t9 * 8 + fN_zones (i * 4 + t9)) = 0 then 25 else 0)))), aI kI qN_scaffolds 32 (iU (wSc (pcs fN_costs) (pcs fN_zones) vN_span (i + 1) (cd * (vN_span + 1) + t9)) (t9 * 8 + fN_zones (i * 4 + t9)) ((wSc (pcs fN_costs) (pcs fN_zones) vN_span (i + 1) (cd * (vN_span + 1) + t9)) (t9 * 8 + fN_zones (i * 4 + t9)) + -1))] rfl ?_
                    refine x_ext 6 rfl (wSp (pcs fN_costs) (pcs fN_zones) vN_span i cd) (fun k _ _ => by rw [(wS_t hi.1 (by omega)).1]; exact congrFun (iU_back _ _ _) k) [(qN, .inr (4, [.ref qN_blocks, .ref qN_costs, .ref qN_zones, .ref qN_neglects, .ref qN_chosen, .ref qN_best, .ref qN_spent, .ref qN_scaffolds, .int (jI vN_size), .int (jI vN_start), .int (jI vN_span), .int (jI vN_coin), .int (jI l8)])), aI kI qN_costs 24 fN_costs, aI kI qN_zones 24 fN_zones, aI kI qN_neglects 6 fN_neglects, aI kI qN_chosen 6 ch8, aI kI qN_best 6 b8, aI kI qN_spent 4 (wSp (pcs fN_costs) (pcs fN_zones) vN_span i cd), aI kI qN_scaffolds 32 (iU (wSc (pcs fN_costs) (pcs fN_zones) vN_span (i + 1) (cd * (vN_span + 1) + t9)) (t9 * 8 + fN_zones (i * 4 + t9)) ((wSc (pcs fN_costs) (pcs fN_zones) vN_span (i + 1) (cd * (vN_span + 1) + t9)) (t9 * 8 + fN_zones (i * 4 + t9)) + -1))] rfl ?_
                    refine x_ext 7 rfl (wSc (pcs fN_costs) (pcs fN_zones) vN_span i cd) (fun k _ _ => by rw [(wS_t hi.1 (by omega)).2]; exact congrFun (iU_back _ _ _) k) [(qN, .inr (4, [.ref qN_blocks, .ref qN_costs, .ref qN_zones, .ref qN_neglects, .ref qN_chosen, .ref qN_best, .ref qN_spent, .ref qN_scaffolds, .int (jI vN_size), .int (jI vN_start), .int (jI vN_span), .int (jI vN_coin), .int (jI l8)])), aI kI qN_costs 24 fN_costs, aI kI qN_zones 24 fN_zones, aI kI qN_neglects 6 fN_neglects, aI kI qN_chosen 6 ch8, aI kI qN_best 6 b8, aI kI qN_spent 4 (wSp (pcs fN_costs) (pcs fN_zones) vN_span i cd), aI kI qN_scaffolds 32 (wSc (pcs fN_costs) (pcs fN_zones) vN_span i cd)] rfl ?_
                    refine x_iinc (lv' := [(0, .ref qN), (1, .int (jI i)), (2, .int (jI sum)), (3, .int (jI (t9 + 1))), (4, .int (jI (fN_costs (i * 4 + t9) + (if (wSc (pcs fN_costs) (pcs fN_zones) vN_span i cd) (t9 * 8 + fN_zones (i * 4 + t9)) = 0 then 25 else 0))))]) (k := 3) F dX4_search_90 rfl (by decide) [1, 2, 3, 0, 4] rfl ?_
                    refine x_goto (tgt := 35) F dX4_search_93 (by decide) ?_
                    refine x_lv (lv' := [(0, .ref qN), (1, .int (jI i)), (2, .int (jI sum)), (3, .int (jI (t9 + 1)))]) [0, 1, 2, 3] rfl ?_
                    exact ih35 (t9 + 1) l8 ch8 b8 (by omega) (by rw [← Int.add_assoc]; exact hl8) (by rw [← Int.add_assoc]; exact hb8) hch8 hq8 hbr8 (by omega)
                  refine x_icmp_gt (tgt := 82) F dX4_search_68 (by decide) (by omega) (fun c68 => ?_) (fun c68 => ?_)
                  · -- 68 t
                    have hcq1 : ((cd * (vN_span + 1) + t9) + 1) * pwI vN_span 4 = (cd * (vN_span + 1) + t9) * pwI vN_span 4 + pwI vN_span 4 := by rw [Int.add_mul, Int.one_mul]
                    have hcq0 : 0 ≤ (cd * (vN_span + 1) + t9) * pwI vN_span 4 := Int.mul_nonneg (by omega) (by omega)
                    have hov := ls_over (vl := (wV (pcs fN_costs) (pcs fN_zones) fN_neglects vN_span vN_coin vN_size)) (a := (cd * (vN_span + 1) + t9) * pwI vN_span 4) (b := ((cd * (vN_span + 1) + t9) + 1) * pwI vN_span 4) (by omega) (wV_none hn9 hcs9 hng9 (i := i + 1) (by omega) 4 ⟨by omega, hi.2.2⟩ (fun q => absurd ((wK_t hi.1 (by omega)).1 q).2 (by omega)))
                    exact jn82 l9 (iU ch9 i t9) b9 (by rw [hov.1]; exact hl9) (by rw [hov.2]; exact hb9) (fun j j0 j1 => by rw [iU_n (by omega)]; exact hch9 j j0 j1) (Rg.up hq9 _ _ (by omega)) hbr9
                  · -- 68 f
                    refine x_aload_n F dX4_search_71 rfl 0 rfl ?_
                    refine x_iload_n F dX4_search_72 rfl 1 rfl ?_
                    refine x_iconst F dX4_search_73 ?_
                    refine x_iadd F dX4_search_74 ?_
                    refine x_iload_n F dX4_search_75 rfl 2 rfl ?_
                    refine x_iload F dX4_search_76 4 rfl ?_
                    refine x_iadd F dX4_search_78 ?_
                    refine x_callSv (As := [.ref qN, .int (jI (i + 1)), .int (jI (sum + (fN_costs (i * 4 + t9) + (if (wSc (pcs fN_costs) (pcs fN_zones) vN_span i cd) (t9 * 8 + fN_zones (i * 4 + t9)) = 0 then 25 else 0))))]) (st := []) F (c_X4_search_4 D kI kJ l qN (i + 1) (sum + (fN_costs (i * 4 + t9) + (if (wSc (pcs fN_costs) (pcs fN_zones) vN_span i cd) (t9 * 8 + fN_zones (i * 4 + t9)) = 0 then 25 else 0))) qN_blocks qN_costs qN_zones qN_neglects qN_chosen qN_best qN_spent qN_scaffolds vN_size vN_start vN_span vN_coin l9 fN_costs fN_zones fN_neglects (iU ch9 i t9) b9 (cd * (vN_span + 1) + t9) (by omega) hn4 (by omega) hco hNc hNz hNg (Rg.up hq9 _ _ (by omega)) hbr9 (by rw [wT_t hi.1 (by omega), ← hsum]; rfl) ((wK_t hi.1 (by omega)).2 ⟨hok, by omega⟩) hl9 hb9 (fun j j0 j1 => by rw [dg_t hi.1 (by omega)]; by_cases q : j = i; (rw [q, iU_s, if_pos rfl]; unfold chD; rw [if_neg (by omega)]); (rw [iU_n q, if_neg q]; exact hch9 j j0 (by omega)))) (va_cwS 3 F.2.2.2.2.1 gX4_search_X4_search rfl rfl rfl (by decide +kernel) ⟨Nat.le_of_ble_eq_true rfl, Nat.le_of_ble_eq_true rfl⟩) [0, 1, 2, 3, 4, 5, 6, 7] [] [0, 1, 2, 3, 4, 5, 6, 7] rfl rfl (by decide) (by decide) (by decide) (fun _ => rfl) (by decide) rfl (Nat.le_of_ble_eq_true rfl) dX4_search_79 ⟨Nat.le_of_ble_eq_true rfl, Nat.le_of_ble_eq_true rfl⟩ (fun u79 h79 => ?_)
                    obtain ⟨l2_79, ch2_79, b2_79⟩ := u79
                    try dsimp only at h79
                    refine x_ws [(qN, .inr (4, [.ref qN_blocks, .ref qN_costs, .ref qN_zones, .ref qN_neglects, .ref qN_chosen, .ref qN_best, .ref qN_spent, .ref qN_scaffolds, .int (jI vN_size), .int (jI vN_start), .int (jI vN_span), .int (jI vN_coin), .int (jI l2_79)])), aI kI qN_costs 24 fN_costs, aI kI qN_zones 24 fN_zones, aI kI qN_neglects 6 fN_neglects, aI kI qN_chosen 6 ch2_79, aI kI qN_best 6 b2_79, aI kI qN_spent 4 (wSp (pcs fN_costs) (pcs fN_zones) vN_span (i + 1) (cd * (vN_span + 1) + t9)), aI kI qN_scaffolds 32 (wSc (pcs fN_costs) (pcs fN_zones) vN_span (i + 1) (cd * (vN_span + 1) + t9))] rfl ?_
                    obtain ⟨hl2_79, hb2_79, hc2_79, hq2_79, hb3_79⟩ := h79
                    exact jn82 l2_79 ch2_79 b2_79 hl2_79 hb2_79 (fun j j0 j1 => by rw [hc2_79 j j0 (by omega), iU_n (by omega)]; exact hch9 j j0 j1) hq2_79 hb3_79
          exact lp35 (Int.toNat (vN_span - 0) + 1) 0 vN_least fN_chosen fN_best (by omega) (by rw [← (pw_in vN_span cd 0 4).1]; exact hl) (by rw [← (pw_in vN_span cd 0 4).1]; exact hb) hch hNq hNb (by omega)
        · exact absurd c24 (by omega)
  · -- 5 f
    have hov := ls_over (vl := (wV (pcs fN_costs) (pcs fN_zones) fN_neglects vN_span vN_coin vN_size)) (a := cd * pwI vN_span 5) (b := (cd + 1) * pwI vN_span 5) (by omega) (wV_prune hn9 hcs9 hng9 hi.1 5 ⟨hi.2.1, hi.2.2⟩ (by rw [← hl, ← hsum]; omega))
    exact hret 0 0 8 _ (vN_least, fN_chosen, fN_best) (Nat.le_of_ble_eq_true rfl) (Nat.le_of_ble_eq_true rfl) dX4_search_8 (by (try dsimp only); exact (⟨by rw [hov.1]; exact hl, by rw [hov.2]; exact hb, fun j _ _ => rfl, hNq, hNb⟩))
set_option maxHeartbeats 4000000 in
set_option maxRecDepth 100000 in
theorem c_X4_search_6 (D : va_G) (kI kJ : Nat) (l : Launch) (qN : Nat) (i : Int) (sum : Int) (qN_blocks : Nat) (qN_costs : Nat) (qN_zones : Nat) (qN_neglects : Nat) (qN_chosen : Nat) (qN_best : Nat) (qN_spent : Nat) (qN_scaffolds : Nat) (vN_size : Int) (vN_start : Int) (vN_span : Int) (vN_coin : Int) (vN_least : Int) (fN_costs : (Int → Int)) (fN_zones : (Int → Int)) (fN_neglects : (Int → Int)) (fN_chosen : (Int → Int)) (fN_best : (Int → Int)) (cd : Int) (hi : 0 ≤ i ∧ i + 6 = vN_size ∧ vN_size ≤ 6) (hn4 : 1 ≤ vN_span ∧ vN_span ≤ 4) (hc : 0 ≤ cd) (hco : 0 ≤ vN_coin ∧ vN_coin ≤ 1000) (hNc : Rg fN_costs 24 0 50000) (hNz : Rg fN_zones 24 0 7) (hNg : Rg fN_neglects 6 0 200000) (hNq : Rg fN_chosen 6 (-1) 3) (hNb : Rg fN_best 6 (-1) 3) (hsum : sum = wT (pcs fN_costs) (pcs fN_zones) fN_neglects vN_span i cd) (hok : wK (pcs fN_costs) (pcs fN_zones) vN_span vN_coin i cd = true) (hl : vN_least = lsI (wV (pcs fN_costs) (pcs fN_zones) fN_neglects vN_span vN_coin vN_size) (cd * pwI vN_span 6)) (hb : 0 ≤ bsI (wV (pcs fN_costs) (pcs fN_zones) fN_neglects vN_span vN_coin vN_size) (cd * pwI vN_span 6) → ∀ j : Int, 0 ≤ j → j < vN_size → fN_best j = chD vN_span (dg vN_span vN_size (bsI (wV (pcs fN_costs) (pcs fN_zones) fN_neglects vN_span vN_coin vN_size) (cd * pwI vN_span 6)) j)) (hch : ∀ j : Int, 0 ≤ j → j < i → fN_chosen j = chD vN_span (dg vN_span i cd j)) : xMv D kI kJ l yX4_search wsX4_search 9 229 0 0 [.ref qN, .int (jI i), .int (jI sum)] [(qN, .inr (4, [.ref qN_blocks, .ref qN_costs, .ref qN_zones, .ref qN_neglects, .ref qN_chosen, .ref qN_best, .ref qN_spent, .ref qN_scaffolds, .int (jI vN_size), .int (jI vN_start), .int (jI vN_span), .int (jI vN_coin), .int (jI vN_least)])), aI kI qN_costs 24 fN_costs, aI kI qN_zones 24 fN_zones, aI kI qN_neglects 6 fN_neglects, aI kI qN_chosen 6 fN_chosen, aI kI qN_best 6 fN_best, aI kI qN_spent 4 (wSp (pcs fN_costs) (pcs fN_zones) vN_span i cd), aI kI qN_scaffolds 32 (wSc (pcs fN_costs) (pcs fN_zones) vN_span i cd)] (fun (u : Int × (Int → Int) × (Int → Int)) => (u.1 = lsI (wV (pcs fN_costs) (pcs fN_zones) fN_neglects vN_span vN_coin vN_size) ((cd + 1) * pwI vN_span 6)) ∧ (0 ≤ bsI (wV (pcs fN_costs) (pcs fN_zones) fN_neglects vN_span vN_coin vN_size) ((cd + 1) * pwI vN_span 6) → ∀ j : Int, 0 ≤ j → j < vN_size → u.2.2 j = chD vN_span (dg vN_span vN_size (bsI (wV (pcs fN_costs) (pcs fN_zones) fN_neglects vN_span vN_coin vN_size) ((cd + 1) * pwI vN_span 6)) j)) ∧ (∀ j : Int, 0 ≤ j → j < i → u.2.1 j = fN_chosen j) ∧ (Rg u.2.1 6 (-1) 3) ∧ (Rg u.2.2 6 (-1) 3)) (fun (u : Int × (Int → Int) × (Int → Int)) => [(qN, .inr (4, [.ref qN_blocks, .ref qN_costs, .ref qN_zones, .ref qN_neglects, .ref qN_chosen, .ref qN_best, .ref qN_spent, .ref qN_scaffolds, .int (jI vN_size), .int (jI vN_start), .int (jI vN_span), .int (jI vN_coin), .int (jI u.1)])), aI kI qN_costs 24 fN_costs, aI kI qN_zones 24 fN_zones, aI kI qN_neglects 6 fN_neglects, aI kI qN_chosen 6 u.2.1, aI kI qN_best 6 u.2.2, aI kI qN_spent 4 (wSp (pcs fN_costs) (pcs fN_zones) vN_span i cd), aI kI qN_scaffolds 32 (wSc (pcs fN_costs) (pcs fN_zones) vN_span i cd)]) := by
  refine xMv_of (cc := cX4_search) (maxL := 5) (by decide) rfl (Nat.le_of_ble_eq_true rfl) ?_
  intro p e s m args below meth c A Q F hin2 hret
  have hin4 : ∀ w ∈ wsX40, w ∈ wsX4_search := by decide +kernel
  have hw0 : Cond.fieldLink RX4 56 (TX4 12).1 (TX4 12).2.1 (TX4 12).2.2.1 ∈ wsX4_search := by decide +kernel
  have hw1 : Cond.fieldLink RX4 36 (TX4 8).1 (TX4 8).2.1 (TX4 8).2.2.1 ∈ wsX4_search := by decide +kernel
  have hw2 : Cond.fieldLink RX4 49 (TX4 10).1 (TX4 10).2.1 (TX4 10).2.2.1 ∈ wsX4_search := by decide +kernel
  have hw3 : Cond.fieldLink RX4 24 (TX4 4).1 (TX4 4).2.1 (TX4 4).2.2.1 ∈ wsX4_search := by decide +kernel
  have hw4 : Cond.fieldLink RX4 21 (TX4 3).1 (TX4 3).2.1 (TX4 3).2.2.1 ∈ wsX4_search := by decide +kernel
  have hw5 : Cond.fieldLink RX4 30 (TX4 6).1 (TX4 6).2.1 (TX4 6).2.2.1 ∈ wsX4_search := by decide +kernel
  have hw6 : Cond.initialized yX9_at.cls ∈ wsX4_search := by decide +kernel
  have hw7 : Cond.static yX9_at ∈ wsX4_search := by decide +kernel
  have hw8 : Cond.fieldLink RX4 52 (TX4 11).1 (TX4 11).2.1 (TX4 11).2.2.1 ∈ wsX4_search := by decide +kernel
  refine x_lveq (lv' := [(0, .ref qN), (1, .int (jI i)), (2, .int (jI sum))]) rfl ?_
  have hcs9 : ∀ j t : Int, 0 ≤ j → j < 6 → 0 ≤ t → t < vN_span → 0 ≤ pcs fN_costs j t ∧ pcs fN_costs j t ≤ 50000 := fun j t a1 a2 a3 a4 => hNc (j * 4 + t) (by omega) (by omega)
  have hng9 : ∀ j : Int, 0 ≤ j → j < 6 → 0 ≤ fN_neglects j ∧ fN_neglects j ≤ 200000 := fun j a1 a2 => hNg j a1 a2
  have hn9 : 0 ≤ vN_span ∧ vN_span ≤ 4 := by omega
  have hT9 := wT_bd (zn := pcs fN_zones) hn9 hcs9 hng9 (i := i) (by omega) cd
  rw [← hsum] at hT9
  have hLr := ls_rng (vl := (wV (pcs fN_costs) (pcs fN_zones) fN_neglects vN_span vN_coin vN_size)) (cd * pwI vN_span 6)
  rw [← hl] at hLr
  have hpp := pwI_pos hn9.1 6
  have hcp : 0 ≤ cd * pwI vN_span 6 := Int.mul_nonneg hc (by omega)
  have hcq : (cd + 1) * pwI vN_span 6 = cd * pwI vN_span 6 + pwI vN_span 6 := by rw [Int.add_mul, Int.one_mul]
  refine x_iload_n F dX4_search_0 rfl 2 rfl ?_
  refine x_aload_n F dX4_search_1 rfl 0 rfl ?_
  refine x_get (ci := 4) F hin4 0 rfl rfl 12 (by decide) hw0 rfl dX4_search_2 ?_
  refine x_icmp_lt (tgt := 9) F dX4_search_5 (by decide) (by omega) (fun c5 => ?_) (fun c5 => ?_)
  · -- 5 t
    have hcn : 0 ≤ cd * (vN_span + 1) := Int.mul_nonneg hc (by omega)
    have hSc9 : Rg (wSc (pcs fN_costs) (pcs fN_zones) vN_span i cd) 32 0 6 := fun k _ _ => by have := wSc_bd (zn := pcs fN_zones) hn9 hcs9 (i := i) (by omega) cd k; omega
    have hSp9 : Rg (wSp (pcs fN_costs) (pcs fN_zones) vN_span i cd) 4 0 400000 := fun k _ _ => by have := wSp_bd (zn := pcs fN_zones) hn9 hcs9 (i := i) (by omega) cd k; omega
    have hqq := pwI_pos hn9.1 5
    refine x_iload_n F dX4_search_9 rfl 1 rfl ?_
    refine x_if_lt (tgt := 27) F dX4_search_10 (by decide) (by omega) (fun c10 => ?_) (fun c10 => ?_)
    · exact absurd c10 (by omega)
    · -- 10 f
      refine x_iload_n F dX4_search_13 rfl 1 rfl ?_
      refine x_aload_n F dX4_search_14 rfl 0 rfl ?_
      refine x_get (ci := 4) F hin4 0 rfl rfl 8 (by decide) hw1 rfl dX4_search_15 ?_
      refine x_icmp_ge (tgt := 27) F dX4_search_18 (by decide) (by omega) (fun c18 => ?_) (fun c18 => ?_)
      · exact absurd c18 (by omega)
      · -- 18 f
        refine x_iload_n F dX4_search_21 rfl 1 rfl ?_
        refine x_bipush F dX4_search_22 (by decide) ?_
        refine x_icmp_lt (tgt := 33) F dX4_search_24 (by decide) (by omega) (fun c24 => ?_) (fun c24 => ?_)
        · -- 24 t
          refine x_iconst F dX4_search_33 ?_
          refine x_istore_n (lv' := [(0, .ref qN), (1, .int (jI i)), (2, .int (jI sum)), (3, .int (jI 0))]) F dX4_search_34 rfl (by decide) [1, 2, 3, 0] rfl ?_
          have lp35 : ∀ (fu : Nat) (t9 : Int) (l9 : Int) (ch9 : (Int → Int)) (b9 : (Int → Int)) (ht9 : 0 ≤ t9 ∧ t9 ≤ vN_span) (hl9 : l9 = lsI (wV (pcs fN_costs) (pcs fN_zones) fN_neglects vN_span vN_coin vN_size) ((cd * (vN_span + 1) + t9) * pwI vN_span 5)) (hb9 : 0 ≤ bsI (wV (pcs fN_costs) (pcs fN_zones) fN_neglects vN_span vN_coin vN_size) ((cd * (vN_span + 1) + t9) * pwI vN_span 5) → ∀ j : Int, 0 ≤ j → j < vN_size → b9 j = chD vN_span (dg vN_span vN_size (bsI (wV (pcs fN_costs) (pcs fN_zones) fN_neglects vN_span vN_coin vN_size) ((cd * (vN_span + 1) + t9) * pwI vN_span 5)) j)) (hch9 : ∀ j : Int, 0 ≤ j → j < i → ch9 j = chD vN_span (dg vN_span i cd j)) (hq9 : Rg ch9 6 (-1) 3) (hbr9 : Rg b9 6 (-1) 3) (hm : vN_span - t9 < (fu : Int)), xG D p l e (xRm 9 229 0 0) s m args below meth c 5 A Q 0 0 [(qN, .inr (4, [.ref qN_blocks, .ref qN_costs, .ref qN_zones, .ref qN_neglects, .ref qN_chosen, .ref qN_best, .ref qN_spent, .ref qN_scaffolds, .int (jI vN_size), .int (jI vN_start), .int (jI vN_span), .int (jI vN_coin), .int (jI l9)])), aI kI qN_costs 24 fN_costs, aI kI qN_zones 24 fN_zones, aI kI qN_neglects 6 fN_neglects, aI kI qN_chosen 6 ch9, aI kI qN_best 6 b9, aI kI qN_spent 4 (wSp (pcs fN_costs) (pcs fN_zones) vN_span i cd), aI kI qN_scaffolds 32 (wSc (pcs fN_costs) (pcs fN_zones) vN_span i cd)] [(0, .ref qN), (1, .int (jI i)), (2, .int (jI sum)), (3, .int (jI t9))] 35 [] := by
            intro fu
            induction fu with
            | zero =>
              intro t9 l9 ch9 b9 ht9 hl9 hb9 hch9 hq9 hbr9 hm
              exact absurd hm (by omega)
            | succ fu ih35 =>
              intro t9 l9 ch9 b9 ht9 hl9 hb9 hch9 hq9 hbr9 hm
              refine x_iload_n F dX4_search_35 rfl 3 rfl ?_
              refine x_aload_n F dX4_search_36 rfl 0 rfl ?_
              refine x_get (ci := 4) F hin4 0 rfl rfl 10 (by decide) hw2 rfl dX4_search_37 ?_
              refine x_icmp_ge (tgt := 96) F dX4_search_40 (by decide) (by omega) (fun c40 => ?_) (fun c40 => ?_)
              · -- 40 t
                have ht8 : t9 = vN_span := by omega
                rw [ht8] at hl9 hb9
                refine x_aload_n F dX4_search_96 rfl 0 rfl ?_
                refine x_get (ci := 4) F hin4 0 rfl rfl 4 (by decide) hw3 rfl dX4_search_97 ?_
                refine x_iload_n F dX4_search_100 rfl 1 rfl ?_
                refine x_iconst F dX4_search_101 ?_
                refine x_iast F 4 rfl (by decide) (by omega) dX4_search_102 [(qN, .inr (4, [.ref qN_blocks, .ref qN_costs, .ref qN_zones, .ref qN_neglects, .ref qN_chosen, .ref qN_best, .ref qN_spent, .ref qN_scaffolds, .int (jI vN_size), .int (jI vN_start), .int (jI vN_span), .int (jI vN_coin), .int (jI l9)])), aI kI qN_costs 24 fN_costs, aI kI qN_zones 24 fN_zones, aI kI qN_neglects 6 fN_neglects, aI kI qN_chosen 6 (iU ch9 i (-1)), aI kI qN_best 6 b9, aI kI qN_spent 4 (wSp (pcs fN_costs) (pcs fN_zones) vN_span i cd), aI kI qN_scaffolds 32 (wSc (pcs fN_costs) (pcs fN_zones) vN_span i cd)] rfl ?_
                refine x_ext 6 rfl (wSp (pcs fN_costs) (pcs fN_zones) vN_span (i + 1) (cd * (vN_span + 1) + vN_span)) (fun k _ _ => by rw [(wS_n hi.1 hn9.1).1]) [(qN, .inr (4, [.ref qN_blocks, .ref qN_costs, .ref qN_zones, .ref qN_neglects, .ref qN_chosen, .ref qN_best, .ref qN_spent, .ref qN_scaffolds, .int (jI vN_size), .int (jI vN_start), .int (jI vN_span), .int (jI vN_coin), .int (jI l9)])), aI kI qN_costs 24 fN_costs, aI kI qN_zones 24 fN_zones, aI kI qN_neglects 6 fN_neglects, aI kI qN_chosen 6 (iU ch9 i (-1)), aI kI qN_best 6 b9, aI kI qN_spent 4 (wSp (pcs fN_costs) (pcs fN_zones) vN_span (i + 1) (cd * (vN_span + 1) + vN_span)), aI kI qN_scaffolds 32 (wSc (pcs fN_costs) (pcs fN_zones) vN_span i cd)] rfl ?_
                refine x_ext 7 rfl (wSc (pcs fN_costs) (pcs fN_zones) vN_span (i + 1) (cd * (vN_span + 1) + vN_span)) (fun k _ _ => by rw [(wS_n hi.1 hn9.1).2]) [(qN, .inr (4, [.ref qN_blocks, .ref qN_costs, .ref qN_zones, .ref qN_neglects, .ref qN_chosen, .ref qN_best, .ref qN_spent, .ref qN_scaffolds, .int (jI vN_size), .int (jI vN_start), .int (jI vN_span), .int (jI vN_coin), .int (jI l9)])), aI kI qN_costs 24 fN_costs, aI kI qN_zones 24 fN_zones, aI kI qN_neglects 6 fN_neglects, aI kI qN_chosen 6 (iU ch9 i (-1)), aI kI qN_best 6 b9, aI kI qN_spent 4 (wSp (pcs fN_costs) (pcs fN_zones) vN_span (i + 1) (cd * (vN_span + 1) + vN_span)), aI kI qN_scaffolds 32 (wSc (pcs fN_costs) (pcs fN_zones) vN_span (i + 1) (cd * (vN_span + 1) + vN_span))] rfl ?_
                refine x_aload_n F dX4_search_103 rfl 0 rfl ?_
                refine x_iload_n F dX4_search_104 rfl 1 rfl ?_
                refine x_iconst F dX4_search_105 ?_
                refine x_iadd F dX4_search_106 ?_
                refine x_iload_n F dX4_search_107 rfl 2 rfl ?_
                refine x_aload_n F dX4_search_108 rfl 0 rfl ?_
                refine x_get (ci := 4) F hin4 0 rfl rfl 3 (by decide) hw4 rfl dX4_search_109 ?_
                refine x_iload_n F dX4_search_112 rfl 1 rfl ?_
                refine x_iald F 3 rfl (by decide) (by omega) dX4_search_113 ?_
                have hr113 := Rg.at hNg i (by omega)
                refine x_iadd F dX4_search_114 ?_
                refine x_callSv (As := [.ref qN, .int (jI (i + 1)), .int (jI (sum + (fN_neglects i)))]) (st := []) F (c_X4_search_5 D kI kJ l qN (i + 1) (sum + (fN_neglects i)) qN_blocks qN_costs qN_zones qN_neglects qN_chosen qN_best qN_spent qN_scaffolds vN_size vN_start vN_span vN_coin l9 fN_costs fN_zones fN_neglects (iU ch9 i (-1)) b9 (cd * (vN_span + 1) + vN_span) (by omega) hn4 (by omega) hco hNc hNz hNg (Rg.up hq9 _ _ (by omega)) hbr9 (by rw [wT_n hi.1 hn9.1, ← hsum]) ((wK_n hi.1 hn9.1).2 hok) hl9 hb9 (fun j j0 j1 => by rw [dg_t hi.1 (by omega)]; by_cases q : j = i; (rw [q, iU_s, if_pos rfl]; unfold chD; rw [if_pos rfl]); (rw [iU_n q, if_neg q]; exact hch9 j j0 (by omega)))) (va_cwS 3 F.2.2.2.2.1 gX4_search_X4_search rfl rfl rfl (by decide +kernel) ⟨Nat.le_of_ble_eq_true rfl, Nat.le_of_ble_eq_true rfl⟩) [0, 1, 2, 3, 4, 5, 6, 7] [] [0, 1, 2, 3, 4, 5, 6, 7] rfl rfl (by decide) (by decide) (by decide) (fun _ => rfl) (by decide) rfl (Nat.le_of_ble_eq_true rfl) dX4_search_115 ⟨Nat.le_of_ble_eq_true rfl, Nat.le_of_ble_eq_true rfl⟩ (fun u115 h115 => ?_)
                obtain ⟨l2_115, ch2_115, b2_115⟩ := u115
                try dsimp only at h115
                refine x_ws [(qN, .inr (4, [.ref qN_blocks, .ref qN_costs, .ref qN_zones, .ref qN_neglects, .ref qN_chosen, .ref qN_best, .ref qN_spent, .ref qN_scaffolds, .int (jI vN_size), .int (jI vN_start), .int (jI vN_span), .int (jI vN_coin), .int (jI l2_115)])), aI kI qN_costs 24 fN_costs, aI kI qN_zones 24 fN_zones, aI kI qN_neglects 6 fN_neglects, aI kI qN_chosen 6 ch2_115, aI kI qN_best 6 b2_115, aI kI qN_spent 4 (wSp (pcs fN_costs) (pcs fN_zones) vN_span (i + 1) (cd * (vN_span + 1) + vN_span)), aI kI qN_scaffolds 32 (wSc (pcs fN_costs) (pcs fN_zones) vN_span (i + 1) (cd * (vN_span + 1) + vN_span))] rfl ?_
                obtain ⟨hl2_115, hb2_115, hc2_115, hq2_115, hb3_115⟩ := h115
                refine x_ext 6 rfl (wSp (pcs fN_costs) (pcs fN_zones) vN_span i cd) (fun k _ _ => by rw [(wS_n hi.1 hn9.1).1]) [(qN, .inr (4, [.ref qN_blocks, .ref qN_costs, .ref qN_zones, .ref qN_neglects, .ref qN_chosen, .ref qN_best, .ref qN_spent, .ref qN_scaffolds, .int (jI vN_size), .int (jI vN_start), .int (jI vN_span), .int (jI vN_coin), .int (jI l2_115)])), aI kI qN_costs 24 fN_costs, aI kI qN_zones 24 fN_zones, aI kI qN_neglects 6 fN_neglects, aI kI qN_chosen 6 ch2_115, aI kI qN_best 6 b2_115, aI kI qN_spent 4 (wSp (pcs fN_costs) (pcs fN_zones) vN_span i cd), aI kI qN_scaffolds 32 (wSc (pcs fN_costs) (pcs fN_zones) vN_span (i + 1) (cd * (vN_span + 1) + vN_span))] rfl ?_
                refine x_ext 7 rfl (wSc (pcs fN_costs) (pcs fN_zones) vN_span i cd) (fun k _ _ => by rw [(wS_n hi.1 hn9.1).2]) [(qN, .inr (4, [.ref qN_blocks, .ref qN_costs, .ref qN_zones, .ref qN_neglects, .ref qN_chosen, .ref qN_best, .ref qN_spent, .ref qN_scaffolds, .int (jI vN_size), .int (jI vN_start), .int (jI vN_span), .int (jI vN_coin), .int (jI l2_115)])), aI kI qN_costs 24 fN_costs, aI kI qN_zones 24 fN_zones, aI kI qN_neglects 6 fN_neglects, aI kI qN_chosen 6 ch2_115, aI kI qN_best 6 b2_115, aI kI qN_spent 4 (wSp (pcs fN_costs) (pcs fN_zones) vN_span i cd), aI kI qN_scaffolds 32 (wSc (pcs fN_costs) (pcs fN_zones) vN_span i cd)] rfl ?_
                exact hret 0 0 118 _ (l2_115, ch2_115, b2_115) (Nat.le_of_ble_eq_true rfl) (Nat.le_of_ble_eq_true rfl) dX4_search_118 (by (try dsimp only); exact (⟨by rw [(pw_in vN_span cd 0 5).2]; exact hl2_115, by rw [(pw_in vN_span cd 0 5).2]; exact hb2_115, fun j j0 j1 => by rw [hc2_115 j j0 (by omega), iU_n (by omega), hch9 j j0 j1]; exact (hch j j0 j1).symm, hq2_115, hb3_115⟩))
              · -- 40 f
                refine x_iload_n F dX4_search_43 rfl 3 rfl ?_
                refine x_iconst F dX4_search_44 ?_
                refine x_icmp_ge (tgt := 96) F dX4_search_45 (by decide) (by omega) (fun c45 => ?_) (fun c45 => ?_)
                · exact absurd c45 (by omega)
                · -- 45 f
                  refine x_aload_n F dX4_search_48 rfl 0 rfl ?_
                  refine x_iload_n F dX4_search_49 rfl 1 rfl ?_
                  refine x_iload_n F dX4_search_50 rfl 3 rfl ?_
                  refine x_callVi (ci := 4) (q0 := 0) (As := [.int (jI i), .int (jI t9)]) (st := []) F (c_X4_doWork D kI kJ l qN i t9 qN_blocks qN_costs qN_zones qN_neglects qN_chosen qN_best qN_spent qN_scaffolds vN_size vN_start vN_span vN_coin l9 fN_costs fN_zones (wSp (pcs fN_costs) (pcs fN_zones) vN_span i cd) (wSc (pcs fN_costs) (pcs fN_zones) vN_span i cd) ch9 (by omega) hNc hNz hSc9 hSp9) (cwV 2 F.2.2.2.2.1 gX4_search_X4_doWork rfl rfl rfl (by decide +kernel) ⟨Nat.le_of_ble_eq_true rfl, Nat.le_of_ble_eq_true rfl⟩) rfl rfl [0, 1, 2, 6, 7, 4] [3, 5] [2, 3, 4, 0, 7, 1, 5, 6] rfl rfl (by decide) (by decide) (by decide) (fun _ => rfl) (by decide) rfl (Nat.le_of_ble_eq_true rfl) dX4_search_51 ⟨Nat.le_of_ble_eq_true rfl, Nat.le_of_ble_eq_true rfl⟩ (fun z51 u51 h51 => ?_)
                  obtain ⟨s2_51, rfl⟩ : ∃ z, z = u51 := ⟨_, rfl⟩
                  try dsimp only at h51
                  refine x_ws [(qN, .inr (4, [.ref qN_blocks, .ref qN_costs, .ref qN_zones, .ref qN_neglects, .ref qN_chosen, .ref qN_best, .ref qN_spent, .ref qN_scaffolds, .int (jI vN_size), .int (jI vN_start), .int (jI vN_span), .int (jI vN_coin), .int (jI l9)])), aI kI qN_costs 24 fN_costs, aI kI qN_zones 24 fN_zones, aI kI qN_neglects 6 fN_neglects, aI kI qN_chosen 6 (iU ch9 i t9), aI kI qN_best 6 b9, aI kI qN_spent 4 s2_51, aI kI qN_scaffolds 32 (iU (wSc (pcs fN_costs) (pcs fN_zones) vN_span i cd) (t9 * 8 + fN_zones (i * 4 + t9)) ((wSc (pcs fN_costs) (pcs fN_zones) vN_span i cd) (t9 * 8 + fN_zones (i * 4 + t9)) + 1))] rfl ?_
                  obtain ⟨he51, hs_51⟩ := h51
                  have he51 := he51.symm
                  subst he51
                  have hbd9 := wSp_bd (zn := pcs fN_zones) hn9 hcs9 (i := i + 1) (by omega) (cd * (vN_span + 1) + t9) t9
                  refine x_istore (lv' := [(0, .ref qN), (1, .int (jI i)), (2, .int (jI sum)), (3, .int (jI t9)), (4, .int (jI (fN_costs (i * 4 + t9) + (if (wSc (pcs fN_costs) (pcs fN_zones) vN_span i cd) (t9 * 8 + fN_zones (i * 4 + t9)) = 0 then 25 else 0))))]) F dX4_search_54 (by decide) [1, 2, 3, 4, 0] rfl ?_
                  refine x_ext 6 rfl (wSp (pcs fN_costs) (pcs fN_zones) vN_span (i + 1) (cd * (vN_span + 1) + t9)) (fun k _ _ => by rw [hs_51, (wS_t hi.1 (by omega)).1]; rfl) [(qN, .inr (4, [.ref qN_blocks, .ref qN_costs, .ref qN_zones, .ref qN_neglects, .ref qN_chosen, .ref qN_best, .ref qN_spent, .ref qN_scaffolds, .int (jI vN_size), .int (jI vN_start), .int (jI vN_span), .int (jI vN_coin), .int (jI l9)])), aI kI qN_costs 24 fN_costs, aI kI qN_zones 24 fN_zones, aI kI qN_neglects 6 fN_neglects, aI kI qN_chosen 6 (iU ch9 i t9), aI kI qN_best 6 b9, aI kI qN_spent 4 (wSp (pcs fN_costs) (pcs fN_zones) vN_span (i + 1) (cd * (vN_span + 1) + t9)), aI kI qN_scaffolds 32 (iU (wSc (pcs fN_costs) (pcs fN_zones) vN_span i cd) (t9 * 8 + fN_zones (i * 4 + t9)) ((wSc (pcs fN_costs) (pcs fN_zones) vN_span i cd) (t9 * 8 + fN_zones (i * 4 + t9)) + 1))] rfl ?_
                  refine x_ext 7 rfl (wSc (pcs fN_costs) (pcs fN_zones) vN_span (i + 1) (cd * (vN_span + 1) + t9)) (fun k _ _ => by rw [(wS_t hi.1 (by omega)).2]; rfl) [(qN, .inr (4, [.ref qN_blocks, .ref qN_costs, .ref qN_zones, .ref qN_neglects, .ref qN_chosen, .ref qN_best, .ref qN_spent, .ref qN_scaffolds, .int (jI vN_size), .int (jI vN_start), .int (jI vN_span), .int (jI vN_coin), .int (jI l9)])), aI kI qN_costs 24 fN_costs, aI kI qN_zones 24 fN_zones, aI kI qN_neglects 6 fN_neglects, aI kI qN_chosen 6 (iU ch9 i t9), aI kI qN_best 6 b9, aI kI qN_spent 4 (wSp (pcs fN_costs) (pcs fN_zones) vN_span (i + 1) (cd * (vN_span + 1) + t9)), aI kI qN_scaffolds 32 (wSc (pcs fN_costs) (pcs fN_zones) vN_span (i + 1) (cd * (vN_span + 1) + t9))] rfl ?_
                  refine x_aload_n F dX4_search_56 rfl 0 rfl ?_
                  refine x_get (ci := 4) F hin4 0 rfl rfl 6 (by decide) hw5 rfl dX4_search_57 ?_
                  refine x_iload_n F dX4_search_60 rfl 3 rfl ?_
                  refine x_callSNi (As := [.ref qN_spent, .int (jI t9)]) (st := []) F (c_X9_at D kI kJ l qN_spent t9 4 (wSp (pcs fN_costs) (pcs fN_zones) vN_span (i + 1) (cd * (vN_span + 1) + t9)) (by omega) (by omega)) ⟨va_cnB 2 F.2.2.2.2.1 gX4_search_X9_at_n85 rfl rfl rfl (nM20 F.2.2.2.2.2.2.2) (F.2.2.2.2.1 _ hw6) (by decide +kernel) ⟨Nat.le_of_ble_eq_true rfl, Nat.le_of_ble_eq_true rfl⟩, F.2.2.2.2.1 _ hw7, trivial⟩ [6] [0, 1, 2, 3, 4, 5, 7] [0, 1, 2, 3, 4, 5, 7, 6] rfl rfl (by decide) (by decide) (by decide) (fun _ => rfl) (by decide) rfl (Nat.le_of_ble_eq_true rfl) dX4_search_61 ⟨Nat.le_of_ble_eq_true rfl, Nat.le_of_ble_eq_true rfl⟩ (fun z61 u61 h61 => ?_)
                  try dsimp only at h61
                  refine x_ws [(qN, .inr (4, [.ref qN_blocks, .ref qN_costs, .ref qN_zones, .ref qN_neglects, .ref qN_chosen, .ref qN_best, .ref qN_spent, .ref qN_scaffolds, .int (jI vN_size), .int (jI vN_start), .int (jI vN_span), .int (jI vN_coin), .int (jI l9)])), aI kI qN_costs 24 fN_costs, aI kI qN_zones 24 fN_zones, aI kI qN_neglects 6 fN_neglects, aI kI qN_chosen 6 (iU ch9 i t9), aI kI qN_best 6 b9, aI kI qN_spent 4 (wSp (pcs fN_costs) (pcs fN_zones) vN_span (i + 1) (cd * (vN_span + 1) + t9)), aI kI qN_scaffolds 32 (wSc (pcs fN_costs) (pcs fN_zones) vN_span (i + 1) (cd * (vN_span + 1) + t9))] rfl ?_
                  have he61 := h61
                  have he61 := he61.symm
                  subst he61
                  refine x_aload_n F dX4_search_64 rfl 0 rfl ?_
                  refine x_get (ci := 4) F hin4 0 rfl rfl 11 (by decide) hw8 rfl dX4_search_65 ?_
                  have jn82 : ∀ (l8 : Int) (ch8 : (Int → Int)) (b8 : (Int → Int)) (hl8 : l8 = lsI (wV (pcs fN_costs) (pcs fN_zones) fN_neglects vN_span vN_coin vN_size) (((cd * (vN_span + 1) + t9) + 1) * pwI vN_span 5)) (hb8 : 0 ≤ bsI (wV (pcs fN_costs) (pcs fN_zones) fN_neglects vN_span vN_coin vN_size) (((cd * (vN_span + 1) + t9) + 1) * pwI vN_span 5) → ∀ j : Int, 0 ≤ j → j < vN_size → b8 j = chD vN_span (dg vN_span vN_size (bsI (wV (pcs fN_costs) (pcs fN_zones) fN_neglects vN_span vN_coin vN_size) (((cd * (vN_span + 1) + t9) + 1) * pwI vN_span 5)) j)) (hch8 : ∀ j : Int, 0 ≤ j → j < i → ch8 j = chD vN_span (dg vN_span i cd j)) (hq8 : Rg ch8 6 (-1) 3) (hbr8 : Rg b8 6 (-1) 3), xG D p l e (xRm 9 229 0 0) s m args below meth c 5 A Q 0 0 [(qN, .inr (4, [.ref qN_blocks, .ref qN_costs, .ref qN_zones, .ref qN_neglects, .ref qN_chosen, .ref qN_best, .ref qN_spent, .ref qN_scaffolds, .int (jI vN_size), .int (jI vN_start), .int (jI vN_span), .int (jI vN_coin), .int (jI l8)])), aI kI qN_costs 24 fN_costs, aI kI qN_zones 24 fN_zones, aI kI qN_neglects 6 fN_neglects, aI kI qN_chosen 6 ch8, aI kI qN_best 6 b8, aI kI qN_spent 4 (wSp (pcs fN_costs) (pcs fN_zones) vN_span (i + 1) (cd * (vN_span + 1) + t9)), aI kI qN_scaffolds 32 (wSc (pcs fN_costs) (pcs fN_zones) vN_span (i + 1) (cd * (vN_span + 1) + t9))] [(0, .ref qN), (1, .int (jI i)), (2, .int (jI sum)), (3, .int (jI t9)), (4, .int (jI (fN_costs (i * 4 + t9) + (if (wSc (pcs fN_costs) (pcs fN_zones) vN_span i cd) (t9 * 8 + fN_zones (i * 4 + t9)) = 0 then 25 else 0))))] 82 [] := by
                    intro l8 ch8 b8 hl8 hb8 hch8 hq8 hbr8
                    refine x_aload_n F dX4_search_82 rfl 0 rfl ?_
                    refine x_iload_n F dX4_search_83 rfl 1 rfl ?_
                    refine x_iload_n F dX4_search_84 rfl 3 rfl ?_
                    refine x_iload F dX4_search_85 4 rfl ?_
                    refine x_callVv (ci := 4) (q0 := 0) (As := [.int (jI i), .int (jI t9), .int (jI (fN_costs (i * 4 + t9) + (if (wSc (pcs fN_costs) (pcs fN_zones) vN_span i cd) (t9 * 8 + fN_zones (i * 4 + t9)) = 0 then 25 else 0)))]) (st := []) F (c_X4_undoWork D kI kJ l qN i t9 (fN_costs (i * 4 + t9) + (if (wSc (pcs fN_costs) (pcs fN_zones) vN_span i cd) (t9 * 8 + fN_zones (i * 4 + t9)) = 0 then 25 else 0)) qN_blocks qN_costs qN_zones qN_neglects qN_chosen qN_best qN_spent qN_scaffolds vN_size vN_start vN_span vN_coin l8 fN_zones (wSp (pcs fN_costs) (pcs fN_zones) vN_span (i + 1) (cd * (vN_span + 1) + t9)) (wSc (pcs fN_costs) (pcs fN_zones) vN_span (i + 1) (cd * (vN_span + 1) + t9)) (by omega) hNz) (cwV 3 F.2.2.2.2.1 gX4_search_X4_undoWork rfl rfl rfl (by decide +kernel) ⟨Nat.le_of_ble_eq_true rfl, Nat.le_of_ble_eq_true rfl⟩) rfl rfl [0, 2, 6, 7] [1, 3, 4, 5] [4, 0, 5, 1, 2, 3, 6, 7] rfl rfl (by decide) (by decide) (by decide) (fun _ => rfl) (by decide) rfl (Nat.le_of_ble_eq_true rfl) dX4_search_87 ⟨Nat.le_of_ble_eq_true rfl, Nat.le_of_ble_eq_true rfl⟩ (fun u87 h87 => ?_)
                    try dsimp only at h87
                    refine x_ws [(qN, .inr (4, [.ref qN_blocks, .ref qN_costs, .ref qN_zones, .ref qN_neglects, .ref qN_chosen, .ref qN_best, .ref qN_spent, .ref qN_scaffolds, .int (jI vN_size), .int (jI vN_start), .int (jI vN_span), .int (jI vN_coin), .int (jI l8)])), aI kI qN_costs 24 fN_costs, aI kI qN_zones 24 fN_zones, aI kI qN_neglects 6 fN_neglects, aI kI qN_chosen 6 ch8, aI kI qN_best 6 b8, aI kI qN_spent 4 (iU (wSp (pcs fN_costs) (pcs fN_zones) vN_span (i + 1) (cd * (vN_span + 1) + t9)) t9 ((wSp (pcs fN_costs) (pcs fN_zones) vN_span (i + 1) (cd * (vN_span + 1) + t9)) t9 + -(fN_costs (i * 4 + t9) + (if (wSc (pcs fN_costs) (pcs fN_zones) vN_span i cd) (t9 * 8 + fN_zones (i * 4 + t9)) = 0 then 25 else 0)))), aI kI qN_scaffolds 32 (iU (wSc (pcs fN_costs) (pcs fN_zones) vN_span (i + 1) (cd * (vN_span + 1) + t9)) (t9 * 8 + fN_zones (i * 4 + t9)) ((wSc (pcs fN_costs) (pcs fN_zones) vN_span (i + 1) (cd * (vN_span + 1) + t9)) (t9 * 8 + fN_zones (i * 4 + t9)) + -1))] rfl ?_
                    refine x_ext 6 rfl (wSp (pcs fN_costs) (pcs fN_zones) vN_span i cd) (fun k _ _ => by rw [(wS_t hi.1 (by omega)).1]; exact congrFun (iU_back _ _ _) k) [(qN, .inr (4, [.ref qN_blocks, .ref qN_costs, .ref qN_zones, .ref qN_neglects, .ref qN_chosen, .ref qN_best, .ref qN_spent, .ref qN_scaffolds, .int (jI vN_size), .int (jI vN_start), .int (jI vN_span), .int (jI vN_coin), .int (jI l8)])), aI kI qN_costs 24 fN_costs, aI kI qN_zones 24 fN_zones, aI kI qN_neglects 6 fN_neglects, aI kI qN_chosen 6 ch8, aI kI qN_best 6 b8, aI kI qN_spent 4 (wSp (pcs fN_costs) (pcs fN_zones) vN_span i cd), aI kI qN_scaffolds 32 (iU (wSc (pcs fN_costs) (pcs fN_zones) vN_span (i + 1) (cd * (vN_span + 1) + t9)) (t9 * 8 + fN_zones (i * 4 + t9)) ((wSc (pcs fN_costs) (pcs fN_zones) vN_span (i + 1) (cd * (vN_span + 1) + t9)) (t9 * 8 + fN_zones (i * 4 + t9)) + -1))] rfl ?_
                    refine x_ext 7 rfl (wSc (pcs fN_costs) (pcs fN_zones) vN_span i cd) (fun k _ _ => by rw [(wS_t hi.1 (by omega)).2]; exact congrFun (iU_back _ _ _) k) [(qN, .inr (4, [.ref qN_blocks, .ref qN_costs, .ref qN_zones, .ref qN_neglects, .ref qN_chosen, .ref qN_best, .ref qN_spent, .ref qN_scaffolds, .int (jI vN_size), .int (jI vN_start), .int (jI vN_span), .int (jI vN_coin), .int (jI l8)])), aI kI qN_costs 24 fN_costs, aI kI qN_zones 24 fN_zones, aI kI qN_neglects 6 fN_neglects, aI kI qN_chosen 6 ch8, aI kI qN_best 6 b8, aI kI qN_spent 4 (wSp (pcs fN_costs) (pcs fN_zones) vN_span i cd), aI kI qN_scaffolds 32 (wSc (pcs fN_costs) (pcs fN_zones) vN_span i cd)] rfl ?_
                    refine x_iinc (lv' := [(0, .ref qN), (1, .int (jI i)), (2, .int (jI sum)), (3, .int (jI (t9 + 1))), (4, .int (jI (fN_costs (i * 4 + t9) + (if (wSc (pcs fN_costs) (pcs fN_zones) vN_span i cd) (t9 * 8 + fN_zones (i * 4 + t9)) = 0 then 25 else 0))))]) (k := 3) F dX4_search_90 rfl (by decide) [1, 2, 3, 0, 4] rfl ?_
                    refine x_goto (tgt := 35) F dX4_search_93 (by decide) ?_
                    refine x_lv (lv' := [(0, .ref qN), (1, .int (jI i)), (2, .int (jI sum)), (3, .int (jI (t9 + 1)))]) [0, 1, 2, 3] rfl ?_
                    exact ih35 (t9 + 1) l8 ch8 b8 (by omega) (by rw [← Int.add_assoc]; exact hl8) (by rw [← Int.add_assoc]; exact hb8) hch8 hq8 hbr8 (by omega)
                  refine x_icmp_gt (tgt := 82) F dX4_search_68 (by decide) (by omega) (fun c68 => ?_) (fun c68 => ?_)
                  · -- 68 t
                    have hcq1 : ((cd * (vN_span + 1) + t9) + 1) * pwI vN_span 5 = (cd * (vN_span + 1) + t9) * pwI vN_span 5 + pwI vN_span 5 := by rw [Int.add_mul, Int.one_mul]
                    have hcq0 : 0 ≤ (cd * (vN_span + 1) + t9) * pwI vN_span 5 := Int.mul_nonneg (by omega) (by omega)
                    have hov := ls_over (vl := (wV (pcs fN_costs) (pcs fN_zones) fN_neglects vN_span vN_coin vN_size)) (a := (cd * (vN_span + 1) + t9) * pwI vN_span 5) (b := ((cd * (vN_span + 1) + t9) + 1) * pwI vN_span 5) (by omega) (wV_none hn9 hcs9 hng9 (i := i + 1) (by omega) 5 ⟨by omega, hi.2.2⟩ (fun q => absurd ((wK_t hi.1 (by omega)).1 q).2 (by omega)))
                    exact jn82 l9 (iU ch9 i t9) b9 (by rw [hov.1]; exact hl9) (by rw [hov.2]; exact hb9) (fun j j0 j1 => by rw [iU_n (by omega)]; exact hch9 j j0 j1) (Rg.up hq9 _ _ (by omega)) hbr9
                  · -- 68 f
                    refine x_aload_n F dX4_search_71 rfl 0 rfl ?_
                    refine x_iload_n F dX4_search_72 rfl 1 rfl ?_
                    refine x_iconst F dX4_search_73 ?_
                    refine x_iadd F dX4_search_74 ?_
                    refine x_iload_n F dX4_search_75 rfl 2 rfl ?_
                    refine x_iload F dX4_search_76 4 rfl ?_
                    refine x_iadd F dX4_search_78 ?_
                    refine x_callSv (As := [.ref qN, .int (jI (i + 1)), .int (jI (sum + (fN_costs (i * 4 + t9) + (if (wSc (pcs fN_costs) (pcs fN_zones) vN_span i cd) (t9 * 8 + fN_zones (i * 4 + t9)) = 0 then 25 else 0))))]) (st := []) F (c_X4_search_5 D kI kJ l qN (i + 1) (sum + (fN_costs (i * 4 + t9) + (if (wSc (pcs fN_costs) (pcs fN_zones) vN_span i cd) (t9 * 8 + fN_zones (i * 4 + t9)) = 0 then 25 else 0))) qN_blocks qN_costs qN_zones qN_neglects qN_chosen qN_best qN_spent qN_scaffolds vN_size vN_start vN_span vN_coin l9 fN_costs fN_zones fN_neglects (iU ch9 i t9) b9 (cd * (vN_span + 1) + t9) (by omega) hn4 (by omega) hco hNc hNz hNg (Rg.up hq9 _ _ (by omega)) hbr9 (by rw [wT_t hi.1 (by omega), ← hsum]; rfl) ((wK_t hi.1 (by omega)).2 ⟨hok, by omega⟩) hl9 hb9 (fun j j0 j1 => by rw [dg_t hi.1 (by omega)]; by_cases q : j = i; (rw [q, iU_s, if_pos rfl]; unfold chD; rw [if_neg (by omega)]); (rw [iU_n q, if_neg q]; exact hch9 j j0 (by omega)))) (va_cwS 3 F.2.2.2.2.1 gX4_search_X4_search rfl rfl rfl (by decide +kernel) ⟨Nat.le_of_ble_eq_true rfl, Nat.le_of_ble_eq_true rfl⟩) [0, 1, 2, 3, 4, 5, 6, 7] [] [0, 1, 2, 3, 4, 5, 6, 7] rfl rfl (by decide) (by decide) (by decide) (fun _ => rfl) (by decide) rfl (Nat.le_of_ble_eq_true rfl) dX4_search_79 ⟨Nat.le_of_ble_eq_true rfl, Nat.le_of_ble_eq_true rfl⟩ (fun u79 h79 => ?_)
                    obtain ⟨l2_79, ch2_79, b2_79⟩ := u79
                    try dsimp only at h79
                    refine x_ws [(qN, .inr (4, [.ref qN_blocks, .ref qN_costs, .ref qN_zones, .ref qN_neglects, .ref qN_chosen, .ref qN_best, .ref qN_spent, .ref qN_scaffolds, .int (jI vN_size), .int (jI vN_start), .int (jI vN_span), .int (jI vN_coin), .int (jI l2_79)])), aI kI qN_costs 24 fN_costs, aI kI qN_zones 24 fN_zones, aI kI qN_neglects 6 fN_neglects, aI kI qN_chosen 6 ch2_79, aI kI qN_best 6 b2_79, aI kI qN_spent 4 (wSp (pcs fN_costs) (pcs fN_zones) vN_span (i + 1) (cd * (vN_span + 1) + t9)), aI kI qN_scaffolds 32 (wSc (pcs fN_costs) (pcs fN_zones) vN_span (i + 1) (cd * (vN_span + 1) + t9))] rfl ?_
                    obtain ⟨hl2_79, hb2_79, hc2_79, hq2_79, hb3_79⟩ := h79
                    exact jn82 l2_79 ch2_79 b2_79 hl2_79 hb2_79 (fun j j0 j1 => by rw [hc2_79 j j0 (by omega), iU_n (by omega)]; exact hch9 j j0 j1) hq2_79 hb3_79
          exact lp35 (Int.toNat (vN_span - 0) + 1) 0 vN_least fN_chosen fN_best (by omega) (by rw [← (pw_in vN_span cd 0 5).1]; exact hl) (by rw [← (pw_in vN_span cd 0 5).1]; exact hb) hch hNq hNb (by omega)
        · exact absurd c24 (by omega)
  · -- 5 f
    have hov := ls_over (vl := (wV (pcs fN_costs) (pcs fN_zones) fN_neglects vN_span vN_coin vN_size)) (a := cd * pwI vN_span 6) (b := (cd + 1) * pwI vN_span 6) (by omega) (wV_prune hn9 hcs9 hng9 hi.1 6 ⟨hi.2.1, hi.2.2⟩ (by rw [← hl, ← hsum]; omega))
    exact hret 0 0 8 _ (vN_least, fN_chosen, fN_best) (Nat.le_of_ble_eq_true rfl) (Nat.le_of_ble_eq_true rfl) dX4_search_8 (by (try dsimp only); exact (⟨by rw [hov.1]; exact hl, by rw [hov.2]; exact hb, fun j _ _ => rfl, hNq, hNb⟩))
