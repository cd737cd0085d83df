/-! CONTRACTS of the layer -/
def wPick (ws : va_W) (is : List Nat) : va_W := is.filterMap (fun i => ws[i]?)
def wOk (ws : va_W) (is : List Nat) : Bool := is.all (fun i => (ws[i]?).isSome)
theorem wPick_map {ws : va_W} : ∀ {is : List Nat}, wOk ws is = true → is.map (fun i => ws[i]?) = (wPick ws is).map some
  | [], _ => rfl
  | i :: is, h => by
    have h1 : (ws[i]?).isSome = true ∧ wOk ws is = true := by
      simpa [wOk] using h
    obtain ⟨x, hx⟩ := Option.isSome_iff_exists.mp h1.1
    have ih := wPick_map (ws := ws) (is := is) h1.2
    show ws[i]? :: is.map (fun i => ws[i]?) = ((i :: is).filterMap (fun i => ws[i]?)).map some
    rw [List.filterMap_cons, hx, ih]
    rfl
abbrev xPre (D : va_G) (kI kJ : Nat) (W0 : va_W) (sz : Nat) (U : State) : Prop := U.heap.size = sz ∧ va_P D vwCl W0 U.heap ∧ va_K D vwCl (tyy kI kJ) U ∧ xN U ∧ va_D (fun _ => True) W0
abbrev xEnd (D : va_G) (kI kJ : Nat) (W0 : va_W) (sz : Nat) (W1 : va_W) (t : State) : Prop := va_P D vwCl W1 t.heap ∧ va_K D vwCl (tyy kI kJ) t ∧ va_D (va_A W0 sz) W1
theorem xPre_blind {D : va_G} {kI kJ : Nat} {W0 : va_W} {sz : Nat} {av : List Value} : FrameBlind (va_Pc av (xPre D kI kJ W0 sz)) := fun a U g mk q => by
  obtain ⟨q0, q1, qP, qK, qN, qD⟩ := q
  exact ⟨q0, q1, qP, va_K.moved (u := U) (U := U.calling g mk a) (Vm.Alike.refl U.vm) qK, xN.same (s := U) (U := U.calling g mk a) rfl qN, qD⟩
abbrev xRm (fr lo mc ms : Nat) : Room := { frames := fr, cells := mc, slots := ms, locals := lo }
/-- what comes back of a call: the world with the callee's cells put anew -/
theorem xBack {D : va_G} {A : Nat → Prop} {ws Wc W1 : va_W} {H H1 : Heap} {isC isR isP : List Nat} (hP : va_P D vwCl ws H) (hD : va_D A ws) (hC : isC.map (fun i => ws[i]?) = Wc.map some) (hR : wOk ws isR = true) (hn : va_nd isR = true) (hdis : ∀ i ∈ isR, i ∉ isC) (hnP : va_nd isP = true) (hQ : wOk (wPick ws isR ++ W1) isP = true) (hk : ∀ q : Nat, q < H.size → ¬ va_A Wc H.size q → H1[q]? = H[q]?) (hF : ∀ q, va_A Wc H.size q → A q) (hP1 : va_P D vwCl W1 H1) (hD1 : va_D (va_A Wc H.size) W1) : va_P D vwCl (wPick (wPick ws isR ++ W1) isP) H1 ∧ va_D A (wPick (wPick ws isR ++ W1) isP) := by
  obtain ⟨g1, g2⟩ := va_join hP hD isC isR hC (wPick_map hR) hn hdis hk hF hP1 hD1
  exact ⟨g1.sub isP rfl, g2.sub isP hnP (wPick_map hQ)⟩

def xMi (D : va_G) (kI kJ : Nat) (l : Launch) (y : MethodName) (wy : List Cond) (fr lo mc ms : Nat) (av : List Value) (W0 : va_W) {S : Type} (post : Int → S → Prop) (W1 : S → va_W) : Prop :=
  ∀ sz : Nat, Met l y wy (xRm fr lo mc ms) (va_Pc av (xPre D kI kJ W0 sz)) (va_Qi (fun r u => ∃ z, r = jI z ∧ post z u) (fun u t => xEnd D kI kJ W0 sz (W1 u) t) (va_A W0 sz)) mc ms (va_A W0 sz)
theorem xMi_of {D : va_G} {kI kJ : Nat} {l : Launch} {y : MethodName} {wy ws' : List Cond} {fr lo mc ms : Nat} {av : List Value} {W0 : va_W} {S : Type} {post : Int → S → Prop} {W1 : S → va_W} {cc : ByteArray} {maxL : Nat} {rt : FieldType} (hy : plainName y.cls = true) (hw : wy = .code y cc maxL (some rt) :: ws') (hl : (lg_sl av).length ≤ maxL) (hnar : ∀ z u, post z u → narrow rt (.int (jI z)) = .int (jI z)) 
    (body : ∀ (p : Program) (e : Env) (s : State) (m : MethodId) (args : Array Value) (below : List Frame) (meth : Method) (c : Code) (A : Nat → Prop) (Q : State → Prop), xFix D kI kJ p s m args c cc maxL y.cls wy A → meth.name = y.name → (∀ (cells slots pc : Nat) (lv : List (Nat × Value)) (z : Int) (u : S), cells ≤ mc → slots ≤ ms → decode cc pc = .ok (.ireturn, 1) → post z u → xG D p l e (xRm fr lo mc ms) s m args below meth c maxL A Q cells slots (W1 u) lv pc [.int (jI z)]) → xG D p l e (xRm fr lo mc ms) s m args below meth c maxL A Q 0 0 W0 (lv_args 0 av) 0 []) : xMi D kI kJ l y wy fr lo mc ms av W0 post W1 := by
  intro sz
  refine Met.ofW (cc := cc) (maxL := maxL) (ret := (some rt)) hy hw ?_
  intro p e s m args below meth c s₁ B hml hv
  obtain ⟨rfl, hsz, hP, hK, hN, hD0⟩ := hv
  have hts := atoms_spec (ws := wy) B.pre
  have hown : s.vm.findClass y.cls = some m.cls := findClass_of_methodNamed B.named
  have hin : meth.name = y.name := (name_of_methodNamed B.named B.method).1
  subst hsz
  have hD := hD0.self (sz := s.heap.size)
  have hA : ∀ q : Nat, s.heap.size ≤ q → va_A W0 s.heap.size q := fun q h => Or.inr h
  have hS : va_S (va_A W0 s.heap.size) s.heap s.heap [] := va_S.rf
  have hL := lv_entry av (n := maxL) hl
  rw [lg_entry_eq]
  refine body p e s m av.toArray below meth c (va_A W0 s.heap.size) (MQ below _ av.toArray s mc ms (va_A W0 s.heap.size)) ⟨B.exec, B.bytes, hml, hown, hts, hK, hA, hN⟩ hin ?_ s.heap [] _ hP hD hS hL
  intro cells slots pc lv z u hc hs hdg hp H locs ls hP1 hD1 hS1 hL1
  refine W.widen hc hs ?_
  exact W.zret (v := jI z) (ty := rt) B.exec B.bytes B.returns (hnar z u hp) (fun t ht hW => ⟨⟨jI z, u, rfl, ⟨z, rfl, hp⟩, by rw [ht]; exact hP1, va_K.moved hW.alike hK, hD1⟩, hS1.F ht⟩) hS1.2.2 hdg B.notSynchronized
theorem x_callVi {D : va_G} {kI kJ : Nat} {p : Program} {l : Launch} {e : Env} {R : Room} {s : State} {m : MethodId} {args : Array Value} {below : List Frame} {meth : Method} {c : Code} {cc : ByteArray} {nL : Nat} {own : String} {Ts : List Cond} {A : Nat → Prop} {Q : State → Prop} {cells slots : Nat} {ws : va_W} {lv : List (Nat × Value)} {pc : Nat} {st : List Value} {y : MethodName} {wy : List Cond} {fr lo mc ms : Nat} {S : Type} {post : Int → S → Prop} {W1 : S → va_W} {Wc : va_W} {As : List Value} {b index maxL n : Nat} {bytes : ByteArray} {C : String} {rt : FieldType} (F : xFix D kI kJ p s m args c cc nL own Ts A) (hM : xMi D kI kJ l y wy fr lo mc ms (Value.ref b :: As) Wc post W1) (cw : CallW R s args own C index y bytes maxL (some rt) wy (xRm fr lo mc ms) mc ms n) {ci q0 N : Nat} {T : u_T} {fs : List Value} (hc : vwCl[ci]? = some (C, T, N)) (he : ws[q0]? = some (b, .inr (ci, fs))) (isC isR isP : List Nat) (hC : isC.map (fun i => ws[i]?) = Wc.map some) (hR : wOk ws isR = true) (hnR : va_nd isR = true) (hdis : ∀ i ∈ isR, i ∉ isC) (hnP : va_nd isP = true) (hQ : ∀ u, wOk (wPick ws isR ++ W1 u) isP = true) (hnC : va_nd isC = true) (hn : As.length = n) (hW : (st.map fun v => v.category).sum ≤ 8) (hdg : decode cc pc = .ok (.invokevirtual index, 3)) (hf : cells + mc ≤ R.cells ∧ slots + ms ≤ R.slots) (kk : ∀ (z : Int) (u : S), post z u → xG D p l e R s m args below meth c nL A Q (cells + mc) (slots + ms) (wPick (wPick ws isR ++ W1 u) isP) lv (pc + 3) (.int (jI z) :: st)) : xG D p l e R s m args below meth c nL A Q cells slots ws lv pc (As.reverse ++ .ref b :: st) := by
  intro H locs ls hP hD hS hL
  have hPc : va_P D vwCl Wc H := hP.sub isC (by
    have h0 := congrArg (fun l : List (Option (Nat × va_E)) => l.filterMap id) hC
    simpa [List.filterMap_map] using h0)
  have hDc : va_D A Wc := hD.sub isC hnC hC
  have hFc := va_free (wc := Wc) hD hS F.2.2.2.2.2.2.1 isC hC
  refine va_calli (va_runV (g := F0 m pc ls (As.reverse ++ .ref b :: st)) (As := As) (rest := st) ⟨F.1, F.2.1, F.2.2.1, F.2.2.2.1, F.2.2.2.2.1⟩ (hM H.size) cw ⟨xPre_blind, va_recv F.2.2.2.2.2.1 hP hc he, fun U hU hW => ⟨rfl, by rw [hU], by rw [hU]; exact hPc, va_K.moved hW.alike F.2.2.2.2.2.1, xN.warm hW F.2.2.2.2.2.2.2, hDc.weaken (fun _ _ _ _ => trivial)⟩⟩ rfl hn hL.1 rfl (lv_room hW) hdg hf) hS (fun q _ h => hFc q h) hFc (fun r u t H1 locs1 ht hvm hw hB hz1 hk1 hS1 => ?_)
  obtain ⟨z, rfl, hw⟩ := hw
  obtain ⟨hP1, hK1, hD1⟩ := hB
  rw [ht] at hP1
  obtain ⟨g1, g2⟩ := xBack hP hD hC hR hnR hdis hnP (hQ u) hk1 hFc hP1 hD1
  exact kk z u hw H1 locs1 ls g1 g2 hS1 hL
theorem x_callSi {D : va_G} {kI kJ : Nat} {p : Program} {l : Launch} {e : Env} {R : Room} {s : State} {m : MethodId} {args : Array Value} {below : List Frame} {meth : Method} {c : Code} {cc : ByteArray} {nL : Nat} {own : String} {Ts : List Cond} {A : Nat → Prop} {Q : State → Prop} {cells slots : Nat} {ws : va_W} {lv : List (Nat × Value)} {pc : Nat} {st : List Value} {y : MethodName} {wy : List Cond} {fr lo mc ms : Nat} {S : Type} {post : Int → S → Prop} {W1 : S → va_W} {Wc : va_W} {As : List Value} {index maxL n : Nat} {bytes : ByteArray} {rt : FieldType} (F : xFix D kI kJ p s m args c cc nL own Ts A) (hM : xMi D kI kJ l y wy fr lo mc ms (As) Wc post W1) (cw : CallB R s args own index y bytes maxL (some rt) wy (xRm fr lo mc ms) mc ms n ∧ (Cond.static y).before args s = true) (isC isR isP : List Nat) (hC : isC.map (fun i => ws[i]?) = Wc.map some) (hR : wOk ws isR = true) (hnR : va_nd isR = true) (hdis : ∀ i ∈ isR, i ∉ isC) (hnP : va_nd isP = true) (hQ : ∀ u, wOk (wPick ws isR ++ W1 u) isP = true) (hnC : va_nd isC = true) (hn : As.length = n) (hW : (st.map fun v => v.category).sum ≤ 8) (hdg : decode cc pc = .ok (.invokestatic index, 3)) (hf : cells + mc ≤ R.cells ∧ slots + ms ≤ R.slots) (kk : ∀ (z : Int) (u : S), post z u → xG D p l e R s m args below meth c nL A Q (cells + mc) (slots + ms) (wPick (wPick ws isR ++ W1 u) isP) lv (pc + 3) (.int (jI z) :: st)) : xG D p l e R s m args below meth c nL A Q cells slots ws lv pc (As.reverse ++ st) := by
  intro H locs ls hP hD hS hL
  have hPc : va_P D vwCl Wc H := hP.sub isC (by
    have h0 := congrArg (fun l : List (Option (Nat × va_E)) => l.filterMap id) hC
    simpa [List.filterMap_map] using h0)
  have hDc : va_D A Wc := hD.sub isC hnC hC
  have hFc := va_free (wc := Wc) hD hS F.2.2.2.2.2.2.1 isC hC
  refine va_calli (va_runS (g := F0 m pc ls (As.reverse ++ st)) (As := As) (rest := st) ⟨F.1, F.2.1, F.2.2.1, F.2.2.2.1, F.2.2.2.2.1⟩ (hM H.size) cw ⟨xPre_blind, fun U hU hW => ⟨rfl, by rw [hU], by rw [hU]; exact hPc, va_K.moved hW.alike F.2.2.2.2.2.1, xN.warm hW F.2.2.2.2.2.2.2, hDc.weaken (fun _ _ _ _ => trivial)⟩⟩ rfl hn hL.1 rfl (lv_room hW) hdg hf) hS (fun q _ h => hFc q h) hFc (fun r u t H1 locs1 ht hvm hw hB hz1 hk1 hS1 => ?_)
  obtain ⟨z, rfl, hw⟩ := hw
  obtain ⟨hP1, hK1, hD1⟩ := hB
  rw [ht] at hP1
  obtain ⟨g1, g2⟩ := xBack hP hD hC hR hnR hdis hnP (hQ u) hk1 hFc hP1 hD1
  exact kk z u hw H1 locs1 ls g1 g2 hS1 hL
def xMl (D : va_G) (kI kJ : Nat) (l : Launch) (y : MethodName) (wy : List Cond) (fr lo mc ms : Nat) (av : List Value) (W0 : va_W) {S : Type} (post : Int → S → Prop) (W1 : S → va_W) : Prop :=
  ∀ sz : Nat, Met l y wy (xRm fr lo mc ms) (va_Pc av (xPre D kI kJ W0 sz)) (va_Ql (fun r u => ∃ z, r = jL z ∧ post z u) (fun u t => xEnd D kI kJ W0 sz (W1 u) t) (va_A W0 sz)) mc ms (va_A W0 sz)
theorem xMl_of {D : va_G} {kI kJ : Nat} {l : Launch} {y : MethodName} {wy ws' : List Cond} {fr lo mc ms : Nat} {av : List Value} {W0 : va_W} {S : Type} {post : Int → S → Prop} {W1 : S → va_W} {cc : ByteArray} {maxL : Nat} (hy : plainName y.cls = true) (hw : wy = .code y cc maxL (some .long) :: ws') (hl : (lg_sl av).length ≤ maxL) 
    (body : ∀ (p : Program) (e : Env) (s : State) (m : MethodId) (args : Array Value) (below : List Frame) (meth : Method) (c : Code) (A : Nat → Prop) (Q : State → Prop), xFix D kI kJ p s m args c cc maxL y.cls wy A → meth.name = y.name → (∀ (cells slots pc : Nat) (lv : List (Nat × Value)) (z : Int) (u : S), cells ≤ mc → slots ≤ ms → decode cc pc = .ok (.lreturn, 1) → post z u → xG D p l e (xRm fr lo mc ms) s m args below meth c maxL A Q cells slots (W1 u) lv pc [.long (jL z)]) → xG D p l e (xRm fr lo mc ms) s m args below meth c maxL A Q 0 0 W0 (lv_args 0 av) 0 []) : xMl D kI kJ l y wy fr lo mc ms av W0 post W1 := by
  intro sz
  refine Met.ofW (cc := cc) (maxL := maxL) (ret := (some .long)) hy hw ?_
  intro p e s m args below meth c s₁ B hml hv
  obtain ⟨rfl, hsz, hP, hK, hN, hD0⟩ := hv
  have hts := atoms_spec (ws := wy) B.pre
  have hown : s.vm.findClass y.cls = some m.cls := findClass_of_methodNamed B.named
  have hin : meth.name = y.name := (name_of_methodNamed B.named B.method).1
  subst hsz
  have hD := hD0.self (sz := s.heap.size)
  have hA : ∀ q : Nat, s.heap.size ≤ q → va_A W0 s.heap.size q := fun q h => Or.inr h
  have hS : va_S (va_A W0 s.heap.size) s.heap s.heap [] := va_S.rf
  have hL := lv_entry av (n := maxL) hl
  rw [lg_entry_eq]
  refine body p e s m av.toArray below meth c (va_A W0 s.heap.size) (MQ below _ av.toArray s mc ms (va_A W0 s.heap.size)) ⟨B.exec, B.bytes, hml, hown, hts, hK, hA, hN⟩ hin ?_ s.heap [] _ hP hD hS hL
  intro cells slots pc lv z u hc hs hdg hp H locs ls hP1 hD1 hS1 hL1
  refine W.widen hc hs ?_
  exact W.lret (v := jL z) B.exec B.bytes B.returns (fun t ht hW => ⟨⟨jL z, u, rfl, ⟨z, rfl, hp⟩, by rw [ht]; exact hP1, va_K.moved hW.alike hK, hD1⟩, hS1.F ht⟩) hS1.2.2 hdg B.notSynchronized
theorem x_callVl {D : va_G} {kI kJ : Nat} {p : Program} {l : Launch} {e : Env} {R : Room} {s : State} {m : MethodId} {args : Array Value} {below : List Frame} {meth : Method} {c : Code} {cc : ByteArray} {nL : Nat} {own : String} {Ts : List Cond} {A : Nat → Prop} {Q : State → Prop} {cells slots : Nat} {ws : va_W} {lv : List (Nat × Value)} {pc : Nat} {st : List Value} {y : MethodName} {wy : List Cond} {fr lo mc ms : Nat} {S : Type} {post : Int → S → Prop} {W1 : S → va_W} {Wc : va_W} {As : List Value} {b index maxL n : Nat} {bytes : ByteArray} {C : String} (F : xFix D kI kJ p s m args c cc nL own Ts A) (hM : xMl D kI kJ l y wy fr lo mc ms (Value.ref b :: As) Wc post W1) (cw : CallW R s args own C index y bytes maxL (some .long) wy (xRm fr lo mc ms) mc ms n) {ci q0 N : Nat} {T : u_T} {fs : List Value} (hc : vwCl[ci]? = some (C, T, N)) (he : ws[q0]? = some (b, .inr (ci, fs))) (isC isR isP : List Nat) (hC : isC.map (fun i => ws[i]?) = Wc.map some) (hR : wOk ws isR = true) (hnR : va_nd isR = true) (hdis : ∀ i ∈ isR, i ∉ isC) (hnP : va_nd isP = true) (hQ : ∀ u, wOk (wPick ws isR ++ W1 u) isP = true) (hnC : va_nd isC = true) (hn : As.length = n) (hW : (st.map fun v => v.category).sum ≤ 8) (hdg : decode cc pc = .ok (.invokevirtual index, 3)) (hf : cells + mc ≤ R.cells ∧ slots + ms ≤ R.slots) (kk : ∀ (z : Int) (u : S), post z u → xG D p l e R s m args below meth c nL A Q (cells + mc) (slots + ms) (wPick (wPick ws isR ++ W1 u) isP) lv (pc + 3) (.long (jL z) :: st)) : xG D p l e R s m args below meth c nL A Q cells slots ws lv pc (As.reverse ++ .ref b :: st) := by
  intro H locs ls hP hD hS hL
  have hPc : va_P D vwCl Wc H := hP.sub isC (by
    have h0 := congrArg (fun l : List (Option (Nat × va_E)) => l.filterMap id) hC
    simpa [List.filterMap_map] using h0)
  have hDc : va_D A Wc := hD.sub isC hnC hC
  have hFc := va_free (wc := Wc) hD hS F.2.2.2.2.2.2.1 isC hC
  refine va_calll (va_runV (g := F0 m pc ls (As.reverse ++ .ref b :: st)) (As := As) (rest := st) ⟨F.1, F.2.1, F.2.2.1, F.2.2.2.1, F.2.2.2.2.1⟩ (hM H.size) cw ⟨xPre_blind, va_recv F.2.2.2.2.2.1 hP hc he, fun U hU hW => ⟨rfl, by rw [hU], by rw [hU]; exact hPc, va_K.moved hW.alike F.2.2.2.2.2.1, xN.warm hW F.2.2.2.2.2.2.2, hDc.weaken (fun _ _ _ _ => trivial)⟩⟩ rfl hn hL.1 rfl (lv_room hW) hdg hf) hS (fun q _ h => hFc q h) hFc (fun r u t H1 locs1 ht hvm hw hB hz1 hk1 hS1 => ?_)
  obtain ⟨z, rfl, hw⟩ := hw
  obtain ⟨hP1, hK1, hD1⟩ := hB
  rw [ht] at hP1
  obtain ⟨g1, g2⟩ := xBack hP hD hC hR hnR hdis hnP (hQ u) hk1 hFc hP1 hD1
  exact kk z u hw H1 locs1 ls g1 g2 hS1 hL
theorem x_callSl {D : va_G} {kI kJ : Nat} {p : Program} {l : Launch} {e : Env} {R : Room} {s : State} {m : MethodId} {args : Array Value} {below : List Frame} {meth : Method} {c : Code} {cc : ByteArray} {nL : Nat} {own : String} {Ts : List Cond} {A : Nat → Prop} {Q : State → Prop} {cells slots : Nat} {ws : va_W} {lv : List (Nat × Value)} {pc : Nat} {st : List Value} {y : MethodName} {wy : List Cond} {fr lo mc ms : Nat} {S : Type} {post : Int → S → Prop} {W1 : S → va_W} {Wc : va_W} {As : List Value} {index maxL n : Nat} {bytes : ByteArray} (F : xFix D kI kJ p s m args c cc nL own Ts A) (hM : xMl D kI kJ l y wy fr lo mc ms (As) Wc post W1) (cw : CallB R s args own index y bytes maxL (some .long) wy (xRm fr lo mc ms) mc ms n ∧ (Cond.static y).before args s = true) (isC isR isP : List Nat) (hC : isC.map (fun i => ws[i]?) = Wc.map some) (hR : wOk ws isR = true) (hnR : va_nd isR = true) (hdis : ∀ i ∈ isR, i ∉ isC) (hnP : va_nd isP = true) (hQ : ∀ u, wOk (wPick ws isR ++ W1 u) isP = true) (hnC : va_nd isC = true) (hn : As.length = n) (hW : (st.map fun v => v.category).sum ≤ 8) (hdg : decode cc pc = .ok (.invokestatic index, 3)) (hf : cells + mc ≤ R.cells ∧ slots + ms ≤ R.slots) (kk : ∀ (z : Int) (u : S), post z u → xG D p l e R s m args below meth c nL A Q (cells + mc) (slots + ms) (wPick (wPick ws isR ++ W1 u) isP) lv (pc + 3) (.long (jL z) :: st)) : xG D p l e R s m args below meth c nL A Q cells slots ws lv pc (As.reverse ++ st) := by
  intro H locs ls hP hD hS hL
  have hPc : va_P D vwCl Wc H := hP.sub isC (by
    have h0 := congrArg (fun l : List (Option (Nat × va_E)) => l.filterMap id) hC
    simpa [List.filterMap_map] using h0)
  have hDc : va_D A Wc := hD.sub isC hnC hC
  have hFc := va_free (wc := Wc) hD hS F.2.2.2.2.2.2.1 isC hC
  refine va_calll (va_runS (g := F0 m pc ls (As.reverse ++ st)) (As := As) (rest := st) ⟨F.1, F.2.1, F.2.2.1, F.2.2.2.1, F.2.2.2.2.1⟩ (hM H.size) cw ⟨xPre_blind, fun U hU hW => ⟨rfl, by rw [hU], by rw [hU]; exact hPc, va_K.moved hW.alike F.2.2.2.2.2.1, xN.warm hW F.2.2.2.2.2.2.2, hDc.weaken (fun _ _ _ _ => trivial)⟩⟩ rfl hn hL.1 rfl (lv_room hW) hdg hf) hS (fun q _ h => hFc q h) hFc (fun r u t H1 locs1 ht hvm hw hB hz1 hk1 hS1 => ?_)
  obtain ⟨z, rfl, hw⟩ := hw
  obtain ⟨hP1, hK1, hD1⟩ := hB
  rw [ht] at hP1
  obtain ⟨g1, g2⟩ := xBack hP hD hC hR hnR hdis hnP (hQ u) hk1 hFc hP1 hD1
  exact kk z u hw H1 locs1 ls g1 g2 hS1 hL
def xMv (D : va_G) (kI kJ : Nat) (l : Launch) (y : MethodName) (wy : List Cond) (fr lo mc ms : Nat) (av : List Value) (W0 : va_W) {S : Type} (post : S → Prop) (W1 : S → va_W) : Prop :=
  ∀ sz : Nat, Met l y wy (xRm fr lo mc ms) (va_Pc av (xPre D kI kJ W0 sz)) (va_Qv post (fun u t => xEnd D kI kJ W0 sz (W1 u) t) (va_A W0 sz)) mc ms (va_A W0 sz)
theorem xMv_of {D : va_G} {kI kJ : Nat} {l : Launch} {y : MethodName} {wy ws' : List Cond} {fr lo mc ms : Nat} {av : List Value} {W0 : va_W} {S : Type} {post : S → Prop} {W1 : S → va_W} {cc : ByteArray} {maxL : Nat} (hy : plainName y.cls = true) (hw : wy = .code y cc maxL none :: ws') (hl : (lg_sl av).length ≤ maxL) 
    (body : ∀ (p : Program) (e : Env) (s : State) (m : MethodId) (args : Array Value) (below : List Frame) (meth : Method) (c : Code) (A : Nat → Prop) (Q : State → Prop), xFix D kI kJ p s m args c cc maxL y.cls wy A → meth.name = y.name → (∀ (cells slots pc : Nat) (lv : List (Nat × Value)) (u : S), cells ≤ mc → slots ≤ ms → decode cc pc = .ok (.return_, 1) → post u → xG D p l e (xRm fr lo mc ms) s m args below meth c maxL A Q cells slots (W1 u) lv pc []) → xG D p l e (xRm fr lo mc ms) s m args below meth c maxL A Q 0 0 W0 (lv_args 0 av) 0 []) : xMv D kI kJ l y wy fr lo mc ms av W0 post W1 := by
  intro sz
  refine Met.ofW (cc := cc) (maxL := maxL) (ret := none) hy hw ?_
  intro p e s m args below meth c s₁ B hml hv
  obtain ⟨rfl, hsz, hP, hK, hN, hD0⟩ := hv
  have hts := atoms_spec (ws := wy) B.pre
  have hown : s.vm.findClass y.cls = some m.cls := findClass_of_methodNamed B.named
  have hin : meth.name = y.name := (name_of_methodNamed B.named B.method).1
  subst hsz
  have hD := hD0.self (sz := s.heap.size)
  have hA : ∀ q : Nat, s.heap.size ≤ q → va_A W0 s.heap.size q := fun q h => Or.inr h
  have hS : va_S (va_A W0 s.heap.size) s.heap s.heap [] := va_S.rf
  have hL := lv_entry av (n := maxL) hl
  rw [lg_entry_eq]
  refine body p e s m av.toArray below meth c (va_A W0 s.heap.size) (MQ below _ av.toArray s mc ms (va_A W0 s.heap.size)) ⟨B.exec, B.bytes, hml, hown, hts, hK, hA, hN⟩ hin ?_ s.heap [] _ hP hD hS hL
  intro cells slots pc lv u hc hs hdg hp H locs ls hP1 hD1 hS1 hL1
  refine W.widen hc hs ?_
  exact W.vret B.exec B.bytes B.returns (fun t ht hW => ⟨⟨u, rfl, hp, by rw [ht]; exact hP1, va_K.moved hW.alike hK, hD1⟩, hS1.F ht⟩) hS1.2.2 hdg B.notSynchronized
theorem x_callVv {D : va_G} {kI kJ : Nat} {p : Program} {l : Launch} {e : Env} {R : Room} {s : State} {m : MethodId} {args : Array Value} {below : List Frame} {meth : Method} {c : Code} {cc : ByteArray} {nL : Nat} {own : String} {Ts : List Cond} {A : Nat → Prop} {Q : State → Prop} {cells slots : Nat} {ws : va_W} {lv : List (Nat × Value)} {pc : Nat} {st : List Value} {y : MethodName} {wy : List Cond} {fr lo mc ms : Nat} {S : Type} {post : S → Prop} {W1 : S → va_W} {Wc : va_W} {As : List Value} {b index maxL n : Nat} {bytes : ByteArray} {C : String} (F : xFix D kI kJ p s m args c cc nL own Ts A) (hM : xMv D kI kJ l y wy fr lo mc ms (Value.ref b :: As) Wc post W1) (cw : CallW R s args own C index y bytes maxL none wy (xRm fr lo mc ms) mc ms n) {ci q0 N : Nat} {T : u_T} {fs : List Value} (hc : vwCl[ci]? = some (C, T, N)) (he : ws[q0]? = some (b, .inr (ci, fs))) (isC isR isP : List Nat) (hC : isC.map (fun i => ws[i]?) = Wc.map some) (hR : wOk ws isR = true) (hnR : va_nd isR = true) (hdis : ∀ i ∈ isR, i ∉ isC) (hnP : va_nd isP = true) (hQ : ∀ u, wOk (wPick ws isR ++ W1 u) isP = true) (hnC : va_nd isC = true) (hn : As.length = n) (hW : (st.map fun v => v.category).sum ≤ 8) (hdg : decode cc pc = .ok (.invokevirtual index, 3)) (hf : cells + mc ≤ R.cells ∧ slots + ms ≤ R.slots) (kk : ∀ (u : S), post u → xG D p l e R s m args below meth c nL A Q (cells + mc) (slots + ms) (wPick (wPick ws isR ++ W1 u) isP) lv (pc + 3) (st)) : xG D p l e R s m args below meth c nL A Q cells slots ws lv pc (As.reverse ++ .ref b :: st) := by
  intro H locs ls hP hD hS hL
  have hPc : va_P D vwCl Wc H := hP.sub isC (by
    have h0 := congrArg (fun l : List (Option (Nat × va_E)) => l.filterMap id) hC
    simpa [List.filterMap_map] using h0)
  have hDc : va_D A Wc := hD.sub isC hnC hC
  have hFc := va_free (wc := Wc) hD hS F.2.2.2.2.2.2.1 isC hC
  refine va_callv (va_runV (g := F0 m pc ls (As.reverse ++ .ref b :: st)) (As := As) (rest := st) ⟨F.1, F.2.1, F.2.2.1, F.2.2.2.1, F.2.2.2.2.1⟩ (hM H.size) cw ⟨xPre_blind, va_recv F.2.2.2.2.2.1 hP hc he, fun U hU hW => ⟨rfl, by rw [hU], by rw [hU]; exact hPc, va_K.moved hW.alike F.2.2.2.2.2.1, xN.warm hW F.2.2.2.2.2.2.2, hDc.weaken (fun _ _ _ _ => trivial)⟩⟩ rfl hn hL.1 rfl (lv_room hW) hdg hf) hS (fun q _ h => hFc q h) hFc (fun u t H1 locs1 ht hvm hw hB hz1 hk1 hS1 => ?_)
  skip
  obtain ⟨hP1, hK1, hD1⟩ := hB
  rw [ht] at hP1
  obtain ⟨g1, g2⟩ := xBack hP hD hC hR hnR hdis hnP (hQ u) hk1 hFc hP1 hD1
  exact kk u hw H1 locs1 ls g1 g2 hS1 hL
theorem x_callSv {D : va_G} {kI kJ : Nat} {p : Program} {l : Launch} {e : Env} {R : Room} {s : State} {m : MethodId} {args : Array Value} {below : List Frame} {meth : Method} {c : Code} {cc : ByteArray} {nL : Nat} {own : String} {Ts : List Cond} {A : Nat → Prop} {Q : State → Prop} {cells slots : Nat} {ws : va_W} {lv : List (Nat × Value)} {pc : Nat} {st : List Value} {y : MethodName} {wy : List Cond} {fr lo mc ms : Nat} {S : Type} {post : S → Prop} {W1 : S → va_W} {Wc : va_W} {As : List Value} {index maxL n : Nat} {bytes : ByteArray} (F : xFix D kI kJ p s m args c cc nL own Ts A) (hM : xMv D kI kJ l y wy fr lo mc ms (As) Wc post W1) (cw : CallB R s args own index y bytes maxL none wy (xRm fr lo mc ms) mc ms n ∧ (Cond.static y).before args s = true) (isC isR isP : List Nat) (hC : isC.map (fun i => ws[i]?) = Wc.map some) (hR : wOk ws isR = true) (hnR : va_nd isR = true) (hdis : ∀ i ∈ isR, i ∉ isC) (hnP : va_nd isP = true) (hQ : ∀ u, wOk (wPick ws isR ++ W1 u) isP = true) (hnC : va_nd isC = true) (hn : As.length = n) (hW : (st.map fun v => v.category).sum ≤ 8) (hdg : decode cc pc = .ok (.invokestatic index, 3)) (hf : cells + mc ≤ R.cells ∧ slots + ms ≤ R.slots) (kk : ∀ (u : S), post u → xG D p l e R s m args below meth c nL A Q (cells + mc) (slots + ms) (wPick (wPick ws isR ++ W1 u) isP) lv (pc + 3) (st)) : xG D p l e R s m args below meth c nL A Q cells slots ws lv pc (As.reverse ++ st) := by
  intro H locs ls hP hD hS hL
  have hPc : va_P D vwCl Wc H := hP.sub isC (by
    have h0 := congrArg (fun l : List (Option (Nat × va_E)) => l.filterMap id) hC
    simpa [List.filterMap_map] using h0)
  have hDc : va_D A Wc := hD.sub isC hnC hC
  have hFc := va_free (wc := Wc) hD hS F.2.2.2.2.2.2.1 isC hC
  refine va_callv (va_runS (g := F0 m pc ls (As.reverse ++ st)) (As := As) (rest := st) ⟨F.1, F.2.1, F.2.2.1, F.2.2.2.1, F.2.2.2.2.1⟩ (hM H.size) cw ⟨xPre_blind, fun U hU hW => ⟨rfl, by rw [hU], by rw [hU]; exact hPc, va_K.moved hW.alike F.2.2.2.2.2.1, xN.warm hW F.2.2.2.2.2.2.2, hDc.weaken (fun _ _ _ _ => trivial)⟩⟩ rfl hn hL.1 rfl (lv_room hW) hdg hf) hS (fun q _ h => hFc q h) hFc (fun u t H1 locs1 ht hvm hw hB hz1 hk1 hS1 => ?_)
  skip
  obtain ⟨hP1, hK1, hD1⟩ := hB
  rw [ht] at hP1
  obtain ⟨g1, g2⟩ := xBack hP hD hC hR hnR hdis hnP (hQ u) hk1 hFc hP1 hD1
  exact kk u hw H1 locs1 ls g1 g2 hS1 hL
theorem x_callIv {D : va_G} {kI kJ : Nat} {p : Program} {l : Launch} {e : Env} {R : Room} {s : State} {m : MethodId} {args : Array Value} {below : List Frame} {meth : Method} {c : Code} {cc : ByteArray} {nL : Nat} {own : String} {Ts : List Cond} {A : Nat → Prop} {Q : State → Prop} {cells slots : Nat} {ws : va_W} {lv : List (Nat × Value)} {pc : Nat} {st : List Value} {y : MethodName} {wy : List Cond} {fr lo mc ms : Nat} {S : Type} {post : S → Prop} {W1 : S → va_W} {Wc : va_W} {As : List Value} {b index maxL n : Nat} {bytes : ByteArray} (F : xFix D kI kJ p s m args c cc nL own Ts A) (hM : xMv D kI kJ l y wy fr lo mc ms (Value.ref b :: As) Wc post W1) (cw : CallB R s args own index y bytes maxL none wy (xRm fr lo mc ms) mc ms n ∧ y.name = "<init>" ∧ (Cond.instanceMethod y).before args s = true) (isC isR isP : List Nat) (hC : isC.map (fun i => ws[i]?) = Wc.map some) (hR : wOk ws isR = true) (hnR : va_nd isR = true) (hdis : ∀ i ∈ isR, i ∉ isC) (hnP : va_nd isP = true) (hQ : ∀ u, wOk (wPick ws isR ++ W1 u) isP = true) (hnC : va_nd isC = true) (hn : As.length = n) (hW : (st.map fun v => v.category).sum ≤ 8) (hdg : decode cc pc = .ok (.invokespecial index, 3)) (hf : cells + mc ≤ R.cells ∧ slots + ms ≤ R.slots) (kk : ∀ (u : S), post u → xG D p l e R s m args below meth c nL A Q (cells + mc) (slots + ms) (wPick (wPick ws isR ++ W1 u) isP) lv (pc + 3) (st)) : xG D p l e R s m args below meth c nL A Q cells slots ws lv pc (As.reverse ++ .ref b :: st) := by
  intro H locs ls hP hD hS hL
  have hPc : va_P D vwCl Wc H := hP.sub isC (by
    have h0 := congrArg (fun l : List (Option (Nat × va_E)) => l.filterMap id) hC
    simpa [List.filterMap_map] using h0)
  have hDc : va_D A Wc := hD.sub isC hnC hC
  have hFc := va_free (wc := Wc) hD hS F.2.2.2.2.2.2.1 isC hC
  refine va_callv (va_runI (g := F0 m pc ls (As.reverse ++ .ref b :: st)) (As := As) (rest := st) ⟨F.1, F.2.1, F.2.2.1, F.2.2.2.1, F.2.2.2.2.1⟩ (hM H.size) cw ⟨xPre_blind, fun U hU hW => ⟨rfl, by rw [hU], by rw [hU]; exact hPc, va_K.moved hW.alike F.2.2.2.2.2.1, xN.warm hW F.2.2.2.2.2.2.2, hDc.weaken (fun _ _ _ _ => trivial)⟩⟩ rfl hn hL.1 rfl (lv_room hW) hdg hf) hS (fun q _ h => hFc q h) hFc (fun u t H1 locs1 ht hvm hw hB hz1 hk1 hS1 => ?_)
  skip
  obtain ⟨hP1, hK1, hD1⟩ := hB
  rw [ht] at hP1
  obtain ⟨g1, g2⟩ := xBack hP hD hC hR hnR hdis hnP (hQ u) hk1 hFc hP1 hD1
  exact kk u hw H1 locs1 ls g1 g2 hS1 hL
theorem x_callSNi {D : va_G} {kI kJ : Nat} {p : Program} {l : Launch} {e : Env} {R : Room} {s : State} {m : MethodId} {args : Array Value} {below : List Frame} {meth : Method} {c : Code} {cc : ByteArray} {nL : Nat} {own : String} {Ts : List Cond} {A : Nat → Prop} {Q : State → Prop} {cells slots : Nat} {ws : va_W} {lv : List (Nat × Value)} {pc : Nat} {st : List Value} {y : MethodName} {wy : List Cond} {fr lo mc ms : Nat} {S : Type} {post : Int → S → Prop} {W1 : S → va_W} {Wc : va_W} {As : List Value} {index maxL n : Nat} {bytes : ByteArray} {rt : FieldType} (F : xFix D kI kJ p s m args c cc nL own Ts A) (hM : xMi D kI kJ l y wy fr lo mc ms (As) Wc post W1) {host : String} (cw : va_CN R s args own index y host bytes maxL (some rt) wy (xRm fr lo mc ms) mc ms n ∧ (Cond.static y).before args s = true ∧ True) (isC isR isP : List Nat) (hC : isC.map (fun i => ws[i]?) = Wc.map some) (hR : wOk ws isR = true) (hnR : va_nd isR = true) (hdis : ∀ i ∈ isR, i ∉ isC) (hnP : va_nd isP = true) (hQ : ∀ u, wOk (wPick ws isR ++ W1 u) isP = true) (hnC : va_nd isC = true) (hn : As.length = n) (hW : (st.map fun v => v.category).sum ≤ 8) (hdg : decode cc pc = .ok (.invokestatic index, 3)) (hf : cells + mc ≤ R.cells ∧ slots + ms ≤ R.slots) (kk : ∀ (z : Int) (u : S), post z u → xG D p l e R s m args below meth c nL A Q (cells + mc) (slots + ms) (wPick (wPick ws isR ++ W1 u) isP) lv (pc + 3) (.int (jI z) :: st)) : xG D p l e R s m args below meth c nL A Q cells slots ws lv pc (As.reverse ++ st) := by
  intro H locs ls hP hD hS hL
  have hPc : va_P D vwCl Wc H := hP.sub isC (by
    have h0 := congrArg (fun l : List (Option (Nat × va_E)) => l.filterMap id) hC
    simpa [List.filterMap_map] using h0)
  have hDc : va_D A Wc := hD.sub isC hnC hC
  have hFc := va_free (wc := Wc) hD hS F.2.2.2.2.2.2.1 isC hC
  refine va_calli (va_runSN (g := F0 m pc ls (As.reverse ++ st)) (As := As) (rest := st) ⟨F.1, F.2.1, F.2.2.1, F.2.2.2.1, F.2.2.2.2.1⟩ (hM H.size) cw ⟨xPre_blind, fun U hU hW => ⟨rfl, by rw [hU], by rw [hU]; exact hPc, va_K.moved hW.alike F.2.2.2.2.2.1, xN.warm hW F.2.2.2.2.2.2.2, hDc.weaken (fun _ _ _ _ => trivial)⟩⟩ rfl hn hL.1 rfl (lv_room hW) hdg hf) hS (fun q _ h => hFc q h) hFc (fun r u t H1 locs1 ht hvm hw hB hz1 hk1 hS1 => ?_)
  obtain ⟨z, rfl, hw⟩ := hw
  obtain ⟨hP1, hK1, hD1⟩ := hB
  rw [ht] at hP1
  obtain ⟨g1, g2⟩ := xBack hP hD hC hR hnR hdis hnP (hQ u) hk1 hFc hP1 hD1
  exact kk z u hw H1 locs1 ls g1 g2 hS1 hL
theorem x_callSNv {D : va_G} {kI kJ : Nat} {p : Program} {l : Launch} {e : Env} {R : Room} {s : State} {m : MethodId} {args : Array Value} {below : List Frame} {meth : Method} {c : Code} {cc : ByteArray} {nL : Nat} {own : String} {Ts : List Cond} {A : Nat → Prop} {Q : State → Prop} {cells slots : Nat} {ws : va_W} {lv : List (Nat × Value)} {pc : Nat} {st : List Value} {y : MethodName} {wy : List Cond} {fr lo mc ms : Nat} {S : Type} {post : S → Prop} {W1 : S → va_W} {Wc : va_W} {As : List Value} {index maxL n : Nat} {bytes : ByteArray} (F : xFix D kI kJ p s m args c cc nL own Ts A) (hM : xMv D kI kJ l y wy fr lo mc ms (As) Wc post W1) {host : String} (cw : va_CN R s args own index y host bytes maxL none wy (xRm fr lo mc ms) mc ms n ∧ (Cond.static y).before args s = true ∧ True) (isC isR isP : List Nat) (hC : isC.map (fun i => ws[i]?) = Wc.map some) (hR : wOk ws isR = true) (hnR : va_nd isR = true) (hdis : ∀ i ∈ isR, i ∉ isC) (hnP : va_nd isP = true) (hQ : ∀ u, wOk (wPick ws isR ++ W1 u) isP = true) (hnC : va_nd isC = true) (hn : As.length = n) (hW : (st.map fun v => v.category).sum ≤ 8) (hdg : decode cc pc = .ok (.invokestatic index, 3)) (hf : cells + mc ≤ R.cells ∧ slots + ms ≤ R.slots) (kk : ∀ (u : S), post u → xG D p l e R s m args below meth c nL A Q (cells + mc) (slots + ms) (wPick (wPick ws isR ++ W1 u) isP) lv (pc + 3) (st)) : xG D p l e R s m args below meth c nL A Q cells slots ws lv pc (As.reverse ++ st) := by
  intro H locs ls hP hD hS hL
  have hPc : va_P D vwCl Wc H := hP.sub isC (by
    have h0 := congrArg (fun l : List (Option (Nat × va_E)) => l.filterMap id) hC
    simpa [List.filterMap_map] using h0)
  have hDc : va_D A Wc := hD.sub isC hnC hC
  have hFc := va_free (wc := Wc) hD hS F.2.2.2.2.2.2.1 isC hC
  refine va_callv (va_runSN (g := F0 m pc ls (As.reverse ++ st)) (As := As) (rest := st) ⟨F.1, F.2.1, F.2.2.1, F.2.2.2.1, F.2.2.2.2.1⟩ (hM H.size) cw ⟨xPre_blind, fun U hU hW => ⟨rfl, by rw [hU], by rw [hU]; exact hPc, va_K.moved hW.alike F.2.2.2.2.2.1, xN.warm hW F.2.2.2.2.2.2.2, hDc.weaken (fun _ _ _ _ => trivial)⟩⟩ rfl hn hL.1 rfl (lv_room hW) hdg hf) hS (fun q _ h => hFc q h) hFc (fun u t H1 locs1 ht hvm hw hB hz1 hk1 hS1 => ?_)
  skip
  obtain ⟨hP1, hK1, hD1⟩ := hB
  rw [ht] at hP1
  obtain ⟨g1, g2⟩ := xBack hP hD hC hR hnR hdis hnP (hQ u) hk1 hFc hP1 hD1
  exact kk u hw H1 locs1 ls g1 g2 hS1 hL
theorem x_callINv {D : va_G} {kI kJ : Nat} {p : Program} {l : Launch} {e : Env} {R : Room} {s : State} {m : MethodId} {args : Array Value} {below : List Frame} {meth : Method} {c : Code} {cc : ByteArray} {nL : Nat} {own : String} {Ts : List Cond} {A : Nat → Prop} {Q : State → Prop} {cells slots : Nat} {ws : va_W} {lv : List (Nat × Value)} {pc : Nat} {st : List Value} {y : MethodName} {wy : List Cond} {fr lo mc ms : Nat} {S : Type} {post : S → Prop} {W1 : S → va_W} {Wc : va_W} {As : List Value} {b index maxL n : Nat} {bytes : ByteArray} (F : xFix D kI kJ p s m args c cc nL own Ts A) (hM : xMv D kI kJ l y wy fr lo mc ms (Value.ref b :: As) Wc post W1) {host : String} (cw : va_CN R s args own index y host bytes maxL none wy (xRm fr lo mc ms) mc ms n ∧ y.name = "<init>" ∧ (Cond.instanceMethod y).before args s = true) (isC isR isP : List Nat) (hC : isC.map (fun i => ws[i]?) = Wc.map some) (hR : wOk ws isR = true) (hnR : va_nd isR = true) (hdis : ∀ i ∈ isR, i ∉ isC) (hnP : va_nd isP = true) (hQ : ∀ u, wOk (wPick ws isR ++ W1 u) isP = true) (hnC : va_nd isC = true) (hn : As.length = n) (hW : (st.map fun v => v.category).sum ≤ 8) (hdg : decode cc pc = .ok (.invokespecial index, 3)) (hf : cells + mc ≤ R.cells ∧ slots + ms ≤ R.slots) (kk : ∀ (u : S), post u → xG D p l e R s m args below meth c nL A Q (cells + mc) (slots + ms) (wPick (wPick ws isR ++ W1 u) isP) lv (pc + 3) (st)) : xG D p l e R s m args below meth c nL A Q cells slots ws lv pc (As.reverse ++ .ref b :: st) := by
  intro H locs ls hP hD hS hL
  have hPc : va_P D vwCl Wc H := hP.sub isC (by
    have h0 := congrArg (fun l : List (Option (Nat × va_E)) => l.filterMap id) hC
    simpa [List.filterMap_map] using h0)
  have hDc : va_D A Wc := hD.sub isC hnC hC
  have hFc := va_free (wc := Wc) hD hS F.2.2.2.2.2.2.1 isC hC
  refine va_callv (va_runIN (g := F0 m pc ls (As.reverse ++ .ref b :: st)) (As := As) (rest := st) ⟨F.1, F.2.1, F.2.2.1, F.2.2.2.1, F.2.2.2.2.1⟩ (hM H.size) cw ⟨xPre_blind, fun U hU hW => ⟨rfl, by rw [hU], by rw [hU]; exact hPc, va_K.moved hW.alike F.2.2.2.2.2.1, xN.warm hW F.2.2.2.2.2.2.2, hDc.weaken (fun _ _ _ _ => trivial)⟩⟩ rfl hn hL.1 rfl (lv_room hW) hdg hf) hS (fun q _ h => hFc q h) hFc (fun u t H1 locs1 ht hvm hw hB hz1 hk1 hS1 => ?_)
  skip
  obtain ⟨hP1, hK1, hD1⟩ := hB
  rw [ht] at hP1
  obtain ⟨g1, g2⟩ := xBack hP hD hC hR hnR hdis hnP (hQ u) hk1 hFc hP1 hD1
  exact kk u hw H1 locs1 ls g1 g2 hS1 hL
