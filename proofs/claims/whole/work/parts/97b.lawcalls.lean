/-! calls in a wide world: what is left as it was, then what the call gave -/
theorem zx_callVi {D : va_G} {kI kJ : Nat} {p : Program} {l : Launch} {e : Env} {R : Room} {s : State} {m : MethodId} {args : Array Value} {below : List Frame} {meth : Method} {c : Code} {cc : ByteArray} {nL : Nat} {own : String} {Ts : List Cond} {A : Nat → Prop} {Q : State → Prop} {cells slots : Nat} {ws : va_W} {lv : List (Nat × Value)} {pc : Nat} {st : List Value} {y : MethodName} {wy : List Cond} {fr lo mc ms : Nat} {S : Type} {post : Int → S → Prop} {W1 : S → va_W} {Wc : va_W} {As : List Value} {b index maxL n : Nat} {bytes : ByteArray} {C : String} {rt : FieldType} (F : xFix D kI kJ p s m args c cc nL own Ts A) (hM : xMi D kI kJ l y wy fr lo mc ms (Value.ref b :: As) Wc post W1) (cw : CallW R s args own C index y bytes maxL (some rt) wy (xRm fr lo mc ms) mc ms n) {ci q0 N : Nat} {T : u_T} {fs : List Value} (hc : vwCl[ci]? = some (C, T, N)) (he : ws[q0]? = some (b, .inr (ci, fs))) (isC isR : List Nat) (hC : isC.map (fun i => ws[i]?) = Wc.map some) (hR : wOk ws isR = true) (hnR : va_nd isR = true) (hdis : ∀ i ∈ isR, i ∉ isC) (hnC : va_nd isC = true) (hn : As.length = n) (hW : (st.map fun v => v.category).sum ≤ 8) (hdg : decode cc pc = .ok (.invokevirtual index, 3)) (hf : cells + mc ≤ R.cells ∧ slots + ms ≤ R.slots) (kk : ∀ (z : Int) (u : S), post z u → xG D p l e R s m args below meth c nL A Q (cells + mc) (slots + ms) (wPick ws isR ++ W1 u) lv (pc + 3) (.int (jI z) :: st)) : xG D p l e R s m args below meth c nL A Q cells slots ws lv pc (As.reverse ++ .ref b :: st) := by
  intro H locs ls hP hD hS hL
  have hPc : va_P D vwCl Wc H := hP.sub isC (by
    have h0 := congrArg (fun l : List (Option (Nat × va_E)) => l.filterMap id) hC
    simpa [List.filterMap_map] using h0)
  have hDc : va_D A Wc := hD.sub isC hnC hC
  have hFc := va_free (wc := Wc) hD hS F.2.2.2.2.2.2.1 isC hC
  refine va_calli (va_runV (g := F0 m pc ls (As.reverse ++ .ref b :: st)) (As := As) (rest := st) ⟨F.1, F.2.1, F.2.2.1, F.2.2.2.1, F.2.2.2.2.1⟩ (hM H.size) cw ⟨xPre_blind, va_recv F.2.2.2.2.2.1 hP hc he, fun U hU hW => ⟨rfl, by rw [hU], by rw [hU]; exact hPc, va_K.moved hW.alike F.2.2.2.2.2.1, xN.warm hW F.2.2.2.2.2.2.2, hDc.weaken (fun _ _ _ _ => trivial)⟩⟩ rfl hn hL.1 rfl (lv_room hW) hdg hf) hS (fun q _ h => hFc q h) hFc (fun r u t H1 locs1 ht hvm hw hB hz1 hk1 hS1 => ?_)
  obtain ⟨z, rfl, hw⟩ := hw
  obtain ⟨hP1, hK1, hD1⟩ := hB
  rw [ht] at hP1
  obtain ⟨g1, g2⟩ := va_join hP hD isC isR hC (wPick_map hR) hnR hdis hk1 hFc hP1 hD1
  exact kk z u hw H1 locs1 ls g1 g2 hS1 hL
theorem zx_callVl {D : va_G} {kI kJ : Nat} {p : Program} {l : Launch} {e : Env} {R : Room} {s : State} {m : MethodId} {args : Array Value} {below : List Frame} {meth : Method} {c : Code} {cc : ByteArray} {nL : Nat} {own : String} {Ts : List Cond} {A : Nat → Prop} {Q : State → Prop} {cells slots : Nat} {ws : va_W} {lv : List (Nat × Value)} {pc : Nat} {st : List Value} {y : MethodName} {wy : List Cond} {fr lo mc ms : Nat} {S : Type} {post : Int → S → Prop} {W1 : S → va_W} {Wc : va_W} {As : List Value} {b index maxL n : Nat} {bytes : ByteArray} {C : String} (F : xFix D kI kJ p s m args c cc nL own Ts A) (hM : xMl D kI kJ l y wy fr lo mc ms (Value.ref b :: As) Wc post W1) (cw : CallW R s args own C index y bytes maxL (some .long) wy (xRm fr lo mc ms) mc ms n) {ci q0 N : Nat} {T : u_T} {fs : List Value} (hc : vwCl[ci]? = some (C, T, N)) (he : ws[q0]? = some (b, .inr (ci, fs))) (isC isR : List Nat) (hC : isC.map (fun i => ws[i]?) = Wc.map some) (hR : wOk ws isR = true) (hnR : va_nd isR = true) (hdis : ∀ i ∈ isR, i ∉ isC) (hnC : va_nd isC = true) (hn : As.length = n) (hW : (st.map fun v => v.category).sum ≤ 8) (hdg : decode cc pc = .ok (.invokevirtual index, 3)) (hf : cells + mc ≤ R.cells ∧ slots + ms ≤ R.slots) (kk : ∀ (z : Int) (u : S), post z u → xG D p l e R s m args below meth c nL A Q (cells + mc) (slots + ms) (wPick ws isR ++ W1 u) lv (pc + 3) (.long (jL z) :: st)) : xG D p l e R s m args below meth c nL A Q cells slots ws lv pc (As.reverse ++ .ref b :: st) := by
  intro H locs ls hP hD hS hL
  have hPc : va_P D vwCl Wc H := hP.sub isC (by
    have h0 := congrArg (fun l : List (Option (Nat × va_E)) => l.filterMap id) hC
    simpa [List.filterMap_map] using h0)
  have hDc : va_D A Wc := hD.sub isC hnC hC
  have hFc := va_free (wc := Wc) hD hS F.2.2.2.2.2.2.1 isC hC
  refine va_calll (va_runV (g := F0 m pc ls (As.reverse ++ .ref b :: st)) (As := As) (rest := st) ⟨F.1, F.2.1, F.2.2.1, F.2.2.2.1, F.2.2.2.2.1⟩ (hM H.size) cw ⟨xPre_blind, va_recv F.2.2.2.2.2.1 hP hc he, fun U hU hW => ⟨rfl, by rw [hU], by rw [hU]; exact hPc, va_K.moved hW.alike F.2.2.2.2.2.1, xN.warm hW F.2.2.2.2.2.2.2, hDc.weaken (fun _ _ _ _ => trivial)⟩⟩ rfl hn hL.1 rfl (lv_room hW) hdg hf) hS (fun q _ h => hFc q h) hFc (fun r u t H1 locs1 ht hvm hw hB hz1 hk1 hS1 => ?_)
  obtain ⟨z, rfl, hw⟩ := hw
  obtain ⟨hP1, hK1, hD1⟩ := hB
  rw [ht] at hP1
  obtain ⟨g1, g2⟩ := va_join hP hD isC isR hC (wPick_map hR) hnR hdis hk1 hFc hP1 hD1
  exact kk z u hw H1 locs1 ls g1 g2 hS1 hL
theorem zy_callVi {D : va_G} {kI kJ : Nat} {K V : Nat → Nat} {o : Option Nat} {p : Program} {l : Launch} {e : Env} {R : Room} {s : State} {m : MethodId} {args : Array Value} {below : List Frame} {meth : Method} {c : Code} {cc : ByteArray} {nL : Nat} {own : String} {Ts : List Cond} {A : Nat → Prop} {Q : State → Prop} {cells slots : Nat} {ws : va_W} {lv : List (Nat × Value)} {pc : Nat} {st : List Value} {y : MethodName} {wy : List Cond} {fr lo mc ms : Nat} {S : Type} {post : Int → S → Prop} {W1 : S → va_W} {Wc : va_W} {As : List Value} {b index maxL n : Nat} {bytes : ByteArray} {C : String} {rt : FieldType} (F : xFix D kI kJ p s m args c cc nL own Ts A) (hY : yS K V o A s s.heap) (hM : yMi D kI kJ K V o l y wy fr lo mc ms (Value.ref b :: As) Wc post W1) (cw : CallW R s args own C index y bytes maxL (some rt) wy (xRm fr lo mc ms) mc ms n) {ci q0 N : Nat} {T : u_T} {fs : List Value} (hc : vwCl[ci]? = some (C, T, N)) (he : ws[q0]? = some (b, .inr (ci, fs))) (isC isR : List Nat) (hC : isC.map (fun i => ws[i]?) = Wc.map some) (hR : wOk ws isR = true) (hnR : va_nd isR = true) (hdis : ∀ i ∈ isR, i ∉ isC) (hnC : va_nd isC = true) (hn : As.length = n) (hW : (st.map fun v => v.category).sum ≤ 8) (hdg : decode cc pc = .ok (.invokevirtual index, 3)) (hf : cells + mc ≤ R.cells ∧ slots + ms ≤ R.slots) (kk : ∀ (z : Int) (u : S), post z u → xG D p l e R s m args below meth c nL A Q (cells + mc) (slots + ms) (wPick ws isR ++ W1 u) lv (pc + 3) (.int (jI z) :: st)) : xG D p l e R s m args below meth c nL A Q cells slots ws lv pc (As.reverse ++ .ref b :: st) := by
  intro H locs ls hP hD hS hL
  have hPc : va_P D vwCl Wc H := hP.sub isC (by
    have h0 := congrArg (fun l : List (Option (Nat × va_E)) => l.filterMap id) hC
    simpa [List.filterMap_map] using h0)
  have hDc : va_D A Wc := hD.sub isC hnC hC
  have hFc := va_free (wc := Wc) hD hS F.2.2.2.2.2.2.1 isC hC
  refine va_calli (va_runV (g := F0 m pc ls (As.reverse ++ .ref b :: st)) (As := As) (rest := st) ⟨F.1, F.2.1, F.2.2.1, F.2.2.2.1, F.2.2.2.2.1⟩ (hM H.size) cw ⟨yPre_blind, va_recv F.2.2.2.2.2.1 hP hc he, fun U hU hW => ⟨rfl, ⟨by rw [hU], by rw [hU]; exact hPc, va_K.moved hW.alike F.2.2.2.2.2.1, xN.warm hW F.2.2.2.2.2.2.2, hDc.weaken (fun _ _ _ _ => trivial)⟩, hY.call hS hW hU hFc⟩⟩ rfl hn hL.1 rfl (lv_room hW) hdg hf) hS (fun q _ h => hFc q h) hFc (fun r u t H1 locs1 ht hvm hw hB hz1 hk1 hS1 => ?_)
  obtain ⟨z, rfl, hw⟩ := hw
  obtain ⟨hP1, hK1, hD1⟩ := hB
  rw [ht] at hP1
  obtain ⟨g1, g2⟩ := va_join hP hD isC isR hC (wPick_map hR) hnR hdis hk1 hFc hP1 hD1
  exact kk z u hw H1 locs1 ls g1 g2 hS1 hL

