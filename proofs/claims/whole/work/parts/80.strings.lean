/-! STRINGS: the names and acts as the class has them, and the contracts' layer once more with their world beside it -/
def nTx : List String := ["lost", "state", "wet", "side", "stone", "age", "harm", "leave", "mend", "change"]
def nIx (i : Nat) : Nat := 119 + 2 * i
def nLen : List Nat := [4, 5, 3, 4, 5, 3, 4, 5, 4, 6]
def nByt : List (List Int32) := [[108, 111, 115, 116], [115, 116, 97, 116, 101], [119, 101, 116], [115, 105, 100, 101], [115, 116, 111, 110, 101], [97, 103, 101], [104, 97, 114, 109], [108, 101, 97, 118, 101], [109, 101, 110, 100], [99, 104, 97, 110, 103, 101]]
def yO : Option Nat → Value
  | none => .null
  | some t => .ref t
def yS (K V : Nat → Nat) (o : Option Nat) (A : Nat → Prop) (U : State) (H : Heap) : Prop :=
  vk_S 10 nLen nByt K V A U H ∧ (∀ i : Nat, i < 10 → vk_R RX5 (nIx i) (nTx.getD i "") (K i) U) ∧ va_Z "java/lang/String" "COMPACT_STRINGS" "Z" (.int (jI 1)) A U H ∧ va_Z "jdk/internal/util/Preconditions" "SIOOBE_FORMATTER" "Ljava/util/function/BiFunction;" (yO o) A U H
theorem yS.same {K V : Nat → Nat} {o : Option Nat} {A : Nat → Prop} {s U : State} (hv : U.vm = s.vm) (ha : s.vm.Alike U.vm) {H : Heap} (h : yS K V o A s H) : yS K V o A U H :=
  ⟨h.1.moved ha, fun i hi => vk_R.same hv (h.2.1 i hi), h.2.2.1.moved ha, h.2.2.2.moved ha⟩
theorem yS.call {K V : Nat → Nat} {o : Option Nat} {A B : Nat → Prop} {s U : State} {H : Heap} {locs : List Loc} (h : yS K V o A s s.heap) (hS : va_S A s.heap H locs) (hW : s.WarmedH U.vm) (hU : U.heap = H) (hAB : ∀ q, B q → A q) : yS K V o B U U.heap := by
  rw [hU]
  exact ⟨((h.1.kept hS.2.1).narrow hAB).moved hW.alike, fun i hi => (h.2.1 i hi).warm hW, ((h.2.2.1.kept hS.2.1).narrow hAB).moved hW.alike, ((h.2.2.2.kept hS.2.1).narrow hAB).moved hW.alike⟩
abbrev yPre (D : va_G) (kI kJ : Nat) (K V : Nat → Nat) (o : Option Nat) (W0 : va_W) (sz : Nat) (U : State) : Prop := xPre D kI kJ W0 sz U ∧ yS K V o (va_A W0 sz) U U.heap
theorem yPre_blind {D : va_G} {kI kJ : Nat} {K V : Nat → Nat} {o : Option Nat} {W0 : va_W} {sz : Nat} {av : List Value} : FrameBlind (va_Pc av (yPre D kI kJ K V o W0 sz)) := fun a U g mk q => by
  obtain ⟨q0, ⟨q1, qP, qK, qN, qD⟩, qY⟩ := q
  exact ⟨q0, ⟨q1, qP, va_K.moved (u := U) (U := U.calling g mk a) (Vm.Alike.refl U.vm) qK, xN.same (s := U) (U := U.calling g mk a) rfl qN, qD⟩, yS.same (s := U) (U := U.calling g mk a) rfl (Vm.Alike.refl U.vm) qY⟩
def yMi (D : va_G) (kI kJ : Nat) (K V : Nat → Nat) (o : Option Nat) (l : Launch) (y : MethodName) (wy : List Cond) (fr lo mc ms : Nat) (av : List Value) (W0 : va_W) {S : Type} (post : Int → S → Prop) (W1 : S → va_W) : Prop :=
  ∀ sz : Nat, Met l y wy (xRm fr lo mc ms) (va_Pc av (yPre D kI kJ K V o W0 sz)) (va_Qi (fun r u => ∃ z, r = jI z ∧ post z u) (fun u t => xEnd D kI kJ W0 sz (W1 u) t) (va_A W0 sz)) mc ms (va_A W0 sz)
theorem yMi_of {D : va_G} {kI kJ : Nat} {K V : Nat → Nat} {o : Option Nat} {l : Launch} {y : MethodName} {wy ws' : List Cond} {fr lo mc ms : Nat} {av : List Value} {W0 : va_W} {S : Type} {post : Int → S → Prop} {W1 : S → va_W} {cc : ByteArray} {maxL : Nat} {rt : FieldType} (hy : plainName y.cls = true) (hw : wy = .code y cc maxL (some rt) :: ws') (hl : (lg_sl av).length ≤ maxL) (hnar : ∀ z u, post z u → narrow rt (.int (jI z)) = .int (jI z)) 
    (body : ∀ (p : Program) (e : Env) (s : State) (m : MethodId) (args : Array Value) (below : List Frame) (meth : Method) (c : Code) (A : Nat → Prop) (Q : State → Prop), xFix D kI kJ p s m args c cc maxL y.cls wy A → yS K V o A s s.heap → meth.name = y.name → (∀ (cells slots pc : Nat) (lv : List (Nat × Value)) (z : Int) (u : S), cells ≤ mc → slots ≤ ms → decode cc pc = .ok (.ireturn, 1) → post z u → xG D p l e (xRm fr lo mc ms) s m args below meth c maxL A Q cells slots (W1 u) lv pc [.int (jI z)]) → xG D p l e (xRm fr lo mc ms) s m args below meth c maxL A Q 0 0 W0 (lv_args 0 av) 0 []) : yMi D kI kJ K V o l y wy fr lo mc ms av W0 post W1 := by
  intro sz
  refine Met.ofW (cc := cc) (maxL := maxL) (ret := (some rt)) hy hw ?_
  intro p e s m args below meth c s₁ B hml hv
  obtain ⟨rfl, ⟨hsz, hP, hK, hN, hD0⟩, hY⟩ := hv
  have hts := atoms_spec (ws := wy) B.pre
  have hown : s.vm.findClass y.cls = some m.cls := findClass_of_methodNamed B.named
  have hin : meth.name = y.name := (name_of_methodNamed B.named B.method).1
  subst hsz
  have hD := hD0.self (sz := s.heap.size)
  have hA : ∀ q : Nat, s.heap.size ≤ q → va_A W0 s.heap.size q := fun q h => Or.inr h
  have hS : va_S (va_A W0 s.heap.size) s.heap s.heap [] := va_S.rf
  have hL := lv_entry av (n := maxL) hl
  rw [lg_entry_eq]
  refine body p e s m av.toArray below meth c (va_A W0 s.heap.size) (MQ below _ av.toArray s mc ms (va_A W0 s.heap.size)) ⟨B.exec, B.bytes, hml, hown, hts, hK, hA, hN⟩ hY hin ?_ s.heap [] _ hP hD hS hL
  intro cells slots pc lv z u hc hs hdg hp H locs ls hP1 hD1 hS1 hL1
  refine W.widen hc hs ?_
  exact W.zret (v := jI z) (ty := rt) B.exec B.bytes B.returns (hnar z u hp) (fun t ht hW => ⟨⟨jI z, u, rfl, ⟨z, rfl, hp⟩, by rw [ht]; exact hP1, va_K.moved hW.alike hK, hD1⟩, hS1.F ht⟩) hS1.2.2 hdg B.notSynchronized
theorem y_callVi {D : va_G} {kI kJ : Nat} {K V : Nat → Nat} {o : Option Nat} {p : Program} {l : Launch} {e : Env} {R : Room} {s : State} {m : MethodId} {args : Array Value} {below : List Frame} {meth : Method} {c : Code} {cc : ByteArray} {nL : Nat} {own : String} {Ts : List Cond} {A : Nat → Prop} {Q : State → Prop} {cells slots : Nat} {ws : va_W} {lv : List (Nat × Value)} {pc : Nat} {st : List Value} {y : MethodName} {wy : List Cond} {fr lo mc ms : Nat} {S : Type} {post : Int → S → Prop} {W1 : S → va_W} {Wc : va_W} {As : List Value} {b index maxL n : Nat} {bytes : ByteArray} {C : String} {rt : FieldType} (F : xFix D kI kJ p s m args c cc nL own Ts A) (hY : yS K V o A s s.heap) (hM : yMi D kI kJ K V o l y wy fr lo mc ms (Value.ref b :: As) Wc post W1) (cw : CallW R s args own C index y bytes maxL (some rt) wy (xRm fr lo mc ms) mc ms n) {ci q0 N : Nat} {T : u_T} {fs : List Value} (hc : vwCl[ci]? = some (C, T, N)) (he : ws[q0]? = some (b, .inr (ci, fs))) (isC isR isP : List Nat) (hC : isC.map (fun i => ws[i]?) = Wc.map some) (hR : wOk ws isR = true) (hnR : va_nd isR = true) (hdis : ∀ i ∈ isR, i ∉ isC) (hnP : va_nd isP = true) (hQ : ∀ u, wOk (wPick ws isR ++ W1 u) isP = true) (hnC : va_nd isC = true) (hn : As.length = n) (hW : (st.map fun v => v.category).sum ≤ 8) (hdg : decode cc pc = .ok (.invokevirtual index, 3)) (hf : cells + mc ≤ R.cells ∧ slots + ms ≤ R.slots) (kk : ∀ (z : Int) (u : S), post z u → xG D p l e R s m args below meth c nL A Q (cells + mc) (slots + ms) (wPick (wPick ws isR ++ W1 u) isP) lv (pc + 3) (.int (jI z) :: st)) : xG D p l e R s m args below meth c nL A Q cells slots ws lv pc (As.reverse ++ .ref b :: st) := by
  intro H locs ls hP hD hS hL
  have hPc : va_P D vwCl Wc H := hP.sub isC (by
    have h0 := congrArg (fun l : List (Option (Nat × va_E)) => l.filterMap id) hC
    simpa [List.filterMap_map] using h0)
  have hDc : va_D A Wc := hD.sub isC hnC hC
  have hFc := va_free (wc := Wc) hD hS F.2.2.2.2.2.2.1 isC hC
  refine va_calli (va_runV (g := F0 m pc ls (As.reverse ++ .ref b :: st)) (As := As) (rest := st) ⟨F.1, F.2.1, F.2.2.1, F.2.2.2.1, F.2.2.2.2.1⟩ (hM H.size) cw ⟨yPre_blind, va_recv F.2.2.2.2.2.1 hP hc he, fun U hU hW => ⟨rfl, ⟨by rw [hU], by rw [hU]; exact hPc, va_K.moved hW.alike F.2.2.2.2.2.1, xN.warm hW F.2.2.2.2.2.2.2, hDc.weaken (fun _ _ _ _ => trivial)⟩, hY.call hS hW hU hFc⟩⟩ rfl hn hL.1 rfl (lv_room hW) hdg hf) hS (fun q _ h => hFc q h) hFc (fun r u t H1 locs1 ht hvm hw hB hz1 hk1 hS1 => ?_)
  obtain ⟨z, rfl, hw⟩ := hw
  obtain ⟨hP1, hK1, hD1⟩ := hB
  rw [ht] at hP1
  obtain ⟨g1, g2⟩ := xBack hP hD hC hR hnR hdis hnP (hQ u) hk1 hFc hP1 hD1
  exact kk z u hw H1 locs1 ls g1 g2 hS1 hL
theorem y_callSi {D : va_G} {kI kJ : Nat} {K V : Nat → Nat} {o : Option Nat} {p : Program} {l : Launch} {e : Env} {R : Room} {s : State} {m : MethodId} {args : Array Value} {below : List Frame} {meth : Method} {c : Code} {cc : ByteArray} {nL : Nat} {own : String} {Ts : List Cond} {A : Nat → Prop} {Q : State → Prop} {cells slots : Nat} {ws : va_W} {lv : List (Nat × Value)} {pc : Nat} {st : List Value} {y : MethodName} {wy : List Cond} {fr lo mc ms : Nat} {S : Type} {post : Int → S → Prop} {W1 : S → va_W} {Wc : va_W} {As : List Value} {index maxL n : Nat} {bytes : ByteArray} {rt : FieldType} (F : xFix D kI kJ p s m args c cc nL own Ts A) (hY : yS K V o A s s.heap) (hM : yMi D kI kJ K V o l y wy fr lo mc ms (As) Wc post W1) (cw : CallB R s args own index y bytes maxL (some rt) wy (xRm fr lo mc ms) mc ms n ∧ (Cond.static y).before args s = true) (isC isR isP : List Nat) (hC : isC.map (fun i => ws[i]?) = Wc.map some) (hR : wOk ws isR = true) (hnR : va_nd isR = true) (hdis : ∀ i ∈ isR, i ∉ isC) (hnP : va_nd isP = true) (hQ : ∀ u, wOk (wPick ws isR ++ W1 u) isP = true) (hnC : va_nd isC = true) (hn : As.length = n) (hW : (st.map fun v => v.category).sum ≤ 8) (hdg : decode cc pc = .ok (.invokestatic index, 3)) (hf : cells + mc ≤ R.cells ∧ slots + ms ≤ R.slots) (kk : ∀ (z : Int) (u : S), post z u → xG D p l e R s m args below meth c nL A Q (cells + mc) (slots + ms) (wPick (wPick ws isR ++ W1 u) isP) lv (pc + 3) (.int (jI z) :: st)) : xG D p l e R s m args below meth c nL A Q cells slots ws lv pc (As.reverse ++ st) := by
  intro H locs ls hP hD hS hL
  have hPc : va_P D vwCl Wc H := hP.sub isC (by
    have h0 := congrArg (fun l : List (Option (Nat × va_E)) => l.filterMap id) hC
    simpa [List.filterMap_map] using h0)
  have hDc : va_D A Wc := hD.sub isC hnC hC
  have hFc := va_free (wc := Wc) hD hS F.2.2.2.2.2.2.1 isC hC
  refine va_calli (va_runS (g := F0 m pc ls (As.reverse ++ st)) (As := As) (rest := st) ⟨F.1, F.2.1, F.2.2.1, F.2.2.2.1, F.2.2.2.2.1⟩ (hM H.size) cw ⟨yPre_blind, fun U hU hW => ⟨rfl, ⟨by rw [hU], by rw [hU]; exact hPc, va_K.moved hW.alike F.2.2.2.2.2.1, xN.warm hW F.2.2.2.2.2.2.2, hDc.weaken (fun _ _ _ _ => trivial)⟩, hY.call hS hW hU hFc⟩⟩ rfl hn hL.1 rfl (lv_room hW) hdg hf) hS (fun q _ h => hFc q h) hFc (fun r u t H1 locs1 ht hvm hw hB hz1 hk1 hS1 => ?_)
  obtain ⟨z, rfl, hw⟩ := hw
  obtain ⟨hP1, hK1, hD1⟩ := hB
  rw [ht] at hP1
  obtain ⟨g1, g2⟩ := xBack hP hD hC hR hnR hdis hnP (hQ u) hk1 hFc hP1 hD1
  exact kk z u hw H1 locs1 ls g1 g2 hS1 hL
def yMv (D : va_G) (kI kJ : Nat) (K V : Nat → Nat) (o : Option Nat) (l : Launch) (y : MethodName) (wy : List Cond) (fr lo mc ms : Nat) (av : List Value) (W0 : va_W) {S : Type} (post : S → Prop) (W1 : S → va_W) : Prop :=
  ∀ sz : Nat, Met l y wy (xRm fr lo mc ms) (va_Pc av (yPre D kI kJ K V o W0 sz)) (va_Qv post (fun u t => xEnd D kI kJ W0 sz (W1 u) t) (va_A W0 sz)) mc ms (va_A W0 sz)
theorem yMv_of {D : va_G} {kI kJ : Nat} {K V : Nat → Nat} {o : Option Nat} {l : Launch} {y : MethodName} {wy ws' : List Cond} {fr lo mc ms : Nat} {av : List Value} {W0 : va_W} {S : Type} {post : S → Prop} {W1 : S → va_W} {cc : ByteArray} {maxL : Nat} (hy : plainName y.cls = true) (hw : wy = .code y cc maxL none :: ws') (hl : (lg_sl av).length ≤ maxL) 
    (body : ∀ (p : Program) (e : Env) (s : State) (m : MethodId) (args : Array Value) (below : List Frame) (meth : Method) (c : Code) (A : Nat → Prop) (Q : State → Prop), xFix D kI kJ p s m args c cc maxL y.cls wy A → yS K V o A s s.heap → meth.name = y.name → (∀ (cells slots pc : Nat) (lv : List (Nat × Value)) (u : S), cells ≤ mc → slots ≤ ms → decode cc pc = .ok (.return_, 1) → post u → xG D p l e (xRm fr lo mc ms) s m args below meth c maxL A Q cells slots (W1 u) lv pc []) → xG D p l e (xRm fr lo mc ms) s m args below meth c maxL A Q 0 0 W0 (lv_args 0 av) 0 []) : yMv D kI kJ K V o l y wy fr lo mc ms av W0 post W1 := by
  intro sz
  refine Met.ofW (cc := cc) (maxL := maxL) (ret := none) hy hw ?_
  intro p e s m args below meth c s₁ B hml hv
  obtain ⟨rfl, ⟨hsz, hP, hK, hN, hD0⟩, hY⟩ := hv
  have hts := atoms_spec (ws := wy) B.pre
  have hown : s.vm.findClass y.cls = some m.cls := findClass_of_methodNamed B.named
  have hin : meth.name = y.name := (name_of_methodNamed B.named B.method).1
  subst hsz
  have hD := hD0.self (sz := s.heap.size)
  have hA : ∀ q : Nat, s.heap.size ≤ q → va_A W0 s.heap.size q := fun q h => Or.inr h
  have hS : va_S (va_A W0 s.heap.size) s.heap s.heap [] := va_S.rf
  have hL := lv_entry av (n := maxL) hl
  rw [lg_entry_eq]
  refine body p e s m av.toArray below meth c (va_A W0 s.heap.size) (MQ below _ av.toArray s mc ms (va_A W0 s.heap.size)) ⟨B.exec, B.bytes, hml, hown, hts, hK, hA, hN⟩ hY hin ?_ s.heap [] _ hP hD hS hL
  intro cells slots pc lv u hc hs hdg hp H locs ls hP1 hD1 hS1 hL1
  refine W.widen hc hs ?_
  exact W.vret B.exec B.bytes B.returns (fun t ht hW => ⟨⟨u, rfl, hp, by rw [ht]; exact hP1, va_K.moved hW.alike hK, hD1⟩, hS1.F ht⟩) hS1.2.2 hdg B.notSynchronized
theorem y_callVv {D : va_G} {kI kJ : Nat} {K V : Nat → Nat} {o : Option Nat} {p : Program} {l : Launch} {e : Env} {R : Room} {s : State} {m : MethodId} {args : Array Value} {below : List Frame} {meth : Method} {c : Code} {cc : ByteArray} {nL : Nat} {own : String} {Ts : List Cond} {A : Nat → Prop} {Q : State → Prop} {cells slots : Nat} {ws : va_W} {lv : List (Nat × Value)} {pc : Nat} {st : List Value} {y : MethodName} {wy : List Cond} {fr lo mc ms : Nat} {S : Type} {post : S → Prop} {W1 : S → va_W} {Wc : va_W} {As : List Value} {b index maxL n : Nat} {bytes : ByteArray} {C : String} (F : xFix D kI kJ p s m args c cc nL own Ts A) (hY : yS K V o A s s.heap) (hM : yMv D kI kJ K V o l y wy fr lo mc ms (Value.ref b :: As) Wc post W1) (cw : CallW R s args own C index y bytes maxL none wy (xRm fr lo mc ms) mc ms n) {ci q0 N : Nat} {T : u_T} {fs : List Value} (hc : vwCl[ci]? = some (C, T, N)) (he : ws[q0]? = some (b, .inr (ci, fs))) (isC isR isP : List Nat) (hC : isC.map (fun i => ws[i]?) = Wc.map some) (hR : wOk ws isR = true) (hnR : va_nd isR = true) (hdis : ∀ i ∈ isR, i ∉ isC) (hnP : va_nd isP = true) (hQ : ∀ u, wOk (wPick ws isR ++ W1 u) isP = true) (hnC : va_nd isC = true) (hn : As.length = n) (hW : (st.map fun v => v.category).sum ≤ 8) (hdg : decode cc pc = .ok (.invokevirtual index, 3)) (hf : cells + mc ≤ R.cells ∧ slots + ms ≤ R.slots) (kk : ∀ (u : S), post u → xG D p l e R s m args below meth c nL A Q (cells + mc) (slots + ms) (wPick (wPick ws isR ++ W1 u) isP) lv (pc + 3) (st)) : xG D p l e R s m args below meth c nL A Q cells slots ws lv pc (As.reverse ++ .ref b :: st) := by
  intro H locs ls hP hD hS hL
  have hPc : va_P D vwCl Wc H := hP.sub isC (by
    have h0 := congrArg (fun l : List (Option (Nat × va_E)) => l.filterMap id) hC
    simpa [List.filterMap_map] using h0)
  have hDc : va_D A Wc := hD.sub isC hnC hC
  have hFc := va_free (wc := Wc) hD hS F.2.2.2.2.2.2.1 isC hC
  refine va_callv (va_runV (g := F0 m pc ls (As.reverse ++ .ref b :: st)) (As := As) (rest := st) ⟨F.1, F.2.1, F.2.2.1, F.2.2.2.1, F.2.2.2.2.1⟩ (hM H.size) cw ⟨yPre_blind, va_recv F.2.2.2.2.2.1 hP hc he, fun U hU hW => ⟨rfl, ⟨by rw [hU], by rw [hU]; exact hPc, va_K.moved hW.alike F.2.2.2.2.2.1, xN.warm hW F.2.2.2.2.2.2.2, hDc.weaken (fun _ _ _ _ => trivial)⟩, hY.call hS hW hU hFc⟩⟩ rfl hn hL.1 rfl (lv_room hW) hdg hf) hS (fun q _ h => hFc q h) hFc (fun u t H1 locs1 ht hvm hw hB hz1 hk1 hS1 => ?_)
  skip
  obtain ⟨hP1, hK1, hD1⟩ := hB
  rw [ht] at hP1
  obtain ⟨g1, g2⟩ := xBack hP hD hC hR hnR hdis hnP (hQ u) hk1 hFc hP1 hD1
  exact kk u hw H1 locs1 ls g1 g2 hS1 hL
theorem y_callSv {D : va_G} {kI kJ : Nat} {K V : Nat → Nat} {o : Option Nat} {p : Program} {l : Launch} {e : Env} {R : Room} {s : State} {m : MethodId} {args : Array Value} {below : List Frame} {meth : Method} {c : Code} {cc : ByteArray} {nL : Nat} {own : String} {Ts : List Cond} {A : Nat → Prop} {Q : State → Prop} {cells slots : Nat} {ws : va_W} {lv : List (Nat × Value)} {pc : Nat} {st : List Value} {y : MethodName} {wy : List Cond} {fr lo mc ms : Nat} {S : Type} {post : S → Prop} {W1 : S → va_W} {Wc : va_W} {As : List Value} {index maxL n : Nat} {bytes : ByteArray} (F : xFix D kI kJ p s m args c cc nL own Ts A) (hY : yS K V o A s s.heap) (hM : yMv D kI kJ K V o l y wy fr lo mc ms (As) Wc post W1) (cw : CallB R s args own index y bytes maxL none wy (xRm fr lo mc ms) mc ms n ∧ (Cond.static y).before args s = true) (isC isR isP : List Nat) (hC : isC.map (fun i => ws[i]?) = Wc.map some) (hR : wOk ws isR = true) (hnR : va_nd isR = true) (hdis : ∀ i ∈ isR, i ∉ isC) (hnP : va_nd isP = true) (hQ : ∀ u, wOk (wPick ws isR ++ W1 u) isP = true) (hnC : va_nd isC = true) (hn : As.length = n) (hW : (st.map fun v => v.category).sum ≤ 8) (hdg : decode cc pc = .ok (.invokestatic index, 3)) (hf : cells + mc ≤ R.cells ∧ slots + ms ≤ R.slots) (kk : ∀ (u : S), post u → xG D p l e R s m args below meth c nL A Q (cells + mc) (slots + ms) (wPick (wPick ws isR ++ W1 u) isP) lv (pc + 3) (st)) : xG D p l e R s m args below meth c nL A Q cells slots ws lv pc (As.reverse ++ st) := by
  intro H locs ls hP hD hS hL
  have hPc : va_P D vwCl Wc H := hP.sub isC (by
    have h0 := congrArg (fun l : List (Option (Nat × va_E)) => l.filterMap id) hC
    simpa [List.filterMap_map] using h0)
  have hDc : va_D A Wc := hD.sub isC hnC hC
  have hFc := va_free (wc := Wc) hD hS F.2.2.2.2.2.2.1 isC hC
  refine va_callv (va_runS (g := F0 m pc ls (As.reverse ++ st)) (As := As) (rest := st) ⟨F.1, F.2.1, F.2.2.1, F.2.2.2.1, F.2.2.2.2.1⟩ (hM H.size) cw ⟨yPre_blind, fun U hU hW => ⟨rfl, ⟨by rw [hU], by rw [hU]; exact hPc, va_K.moved hW.alike F.2.2.2.2.2.1, xN.warm hW F.2.2.2.2.2.2.2, hDc.weaken (fun _ _ _ _ => trivial)⟩, hY.call hS hW hU hFc⟩⟩ rfl hn hL.1 rfl (lv_room hW) hdg hf) hS (fun q _ h => hFc q h) hFc (fun u t H1 locs1 ht hvm hw hB hz1 hk1 hS1 => ?_)
  skip
  obtain ⟨hP1, hK1, hD1⟩ := hB
  rw [ht] at hP1
  obtain ⟨g1, g2⟩ := xBack hP hD hC hR hnR hdis hnP (hQ u) hk1 hFc hP1 hD1
  exact kk u hw H1 locs1 ls g1 g2 hS1 hL
theorem y_callYi {D : va_G} {kI kJ : Nat} {K V : Nat → Nat} {o : Option Nat} {p : Program} {l : Launch} {e : Env} {R : Room} {s : State} {m : MethodId} {args : Array Value} {below : List Frame} {meth : Method} {c : Code} {cc : ByteArray} {nL : Nat} {own : String} {Ts : List Cond} {A : Nat → Prop} {Q : State → Prop} {cells slots : Nat} {ws : va_W} {lv : List (Nat × Value)} {pc : Nat} {st : List Value} {y : MethodName} {wy : List Cond} {fr lo mc ms : Nat} {S : Type} {post : Int → S → Prop} {W1 : S → va_W} {Wc : va_W} {As : List Value} {b index maxL n : Nat} {bytes : ByteArray} {C : String} {rt : FieldType} (F : xFix D kI kJ p s m args c cc nL own Ts A) (hY : yS K V o A s s.heap) (hM : yMi D kI kJ K V o l y wy fr lo mc ms (Value.ref b :: As) Wc post W1) (cw : CallW R s args own C index y bytes maxL (some rt) wy (xRm fr lo mc ms) mc ms n) {i : Nat} (hi : i < 10) (hb : b = K i) (hC0 : C = "java/lang/String") (isC isR isP : List Nat) (hC : isC.map (fun i => ws[i]?) = Wc.map some) (hR : wOk ws isR = true) (hnR : va_nd isR = true) (hdis : ∀ i ∈ isR, i ∉ isC) (hnP : va_nd isP = true) (hQ : ∀ u, wOk (wPick ws isR ++ W1 u) isP = true) (hnC : va_nd isC = true) (hn : As.length = n) (hW : (st.map fun v => v.category).sum ≤ 8) (hdg : decode cc pc = .ok (.invokevirtual index, 3)) (hf : cells + mc ≤ R.cells ∧ slots + ms ≤ R.slots) (kk : ∀ (z : Int) (u : S), post z u → xG D p l e R s m args below meth c nL A Q (cells + mc) (slots + ms) (wPick (wPick ws isR ++ W1 u) isP) lv (pc + 3) (.int (jI z) :: st)) : xG D p l e R s m args below meth c nL A Q cells slots ws lv pc (As.reverse ++ .ref b :: st) := by
  intro H locs ls hP hD hS hL
  have hPc : va_P D vwCl Wc H := hP.sub isC (by
    have h0 := congrArg (fun l : List (Option (Nat × va_E)) => l.filterMap id) hC
    simpa [List.filterMap_map] using h0)
  have hDc : va_D A Wc := hD.sub isC hnC hC
  have hFc := va_free (wc := Wc) hD hS F.2.2.2.2.2.2.1 isC hC
  refine va_calli (va_runV (g := F0 m pc ls (As.reverse ++ .ref b :: st)) (As := As) (rest := st) ⟨F.1, F.2.1, F.2.2.1, F.2.2.2.1, F.2.2.2.2.1⟩ (hM H.size) cw ⟨yPre_blind, by rw [hb, hC0]; exact vk_recv hY.1 hi hS, fun U hU hW => ⟨rfl, ⟨by rw [hU], by rw [hU]; exact hPc, va_K.moved hW.alike F.2.2.2.2.2.1, xN.warm hW F.2.2.2.2.2.2.2, hDc.weaken (fun _ _ _ _ => trivial)⟩, hY.call hS hW hU hFc⟩⟩ rfl hn hL.1 rfl (lv_room hW) hdg hf) hS (fun q _ h => hFc q h) hFc (fun r u t H1 locs1 ht hvm hw hB hz1 hk1 hS1 => ?_)
  obtain ⟨z, rfl, hw⟩ := hw
  obtain ⟨hP1, hK1, hD1⟩ := hB
  rw [ht] at hP1
  obtain ⟨g1, g2⟩ := xBack hP hD hC hR hnR hdis hnP (hQ u) hk1 hFc hP1 hD1
  exact kk z u hw H1 locs1 ls g1 g2 hS1 hL
def yMr (D : va_G) (kI kJ : Nat) (K V : Nat → Nat) (o : Option Nat) (l : Launch) (y : MethodName) (wy : List Cond) (fr lo mc ms : Nat) (av : List Value) (W0 : va_W) (r : Nat) (W1 : va_W) : Prop :=
  ∀ sz : Nat, Met l y wy (xRm fr lo mc ms) (va_Pc av (yPre D kI kJ K V o W0 sz)) (va_Qr (fun _ : Unit => True) (fun _ a t => a = r ∧ xEnd D kI kJ W0 sz W1 t) (va_A W0 sz)) mc ms (va_A W0 sz)
theorem yMr_of {D : va_G} {kI kJ : Nat} {K V : Nat → Nat} {o : Option Nat} {l : Launch} {y : MethodName} {wy ws' : List Cond} {fr lo mc ms : Nat} {av : List Value} {W0 : va_W} {r : Nat} {W1 : va_W} {cc : ByteArray} {maxL : Nat} (hy : plainName y.cls = true) (hw : wy = .code y cc maxL (some (.object "java/lang/String")) :: ws') (hl : (lg_sl av).length ≤ maxL) 
    (body : ∀ (p : Program) (e : Env) (s : State) (m : MethodId) (args : Array Value) (below : List Frame) (meth : Method) (c : Code) (A : Nat → Prop) (Q : State → Prop), xFix D kI kJ p s m args c cc maxL y.cls wy A → yS K V o A s s.heap → meth.name = y.name → (∀ (cells slots pc : Nat) (lv : List (Nat × Value)), cells ≤ mc → slots ≤ ms → decode cc pc = .ok (.areturn, 1) → xG D p l e (xRm fr lo mc ms) s m args below meth c maxL A Q cells slots W1 lv pc [.ref r]) → xG D p l e (xRm fr lo mc ms) s m args below meth c maxL A Q 0 0 W0 (lv_args 0 av) 0 []) : yMr D kI kJ K V o l y wy fr lo mc ms av W0 r W1 := by
  intro sz
  refine Met.ofW (cc := cc) (maxL := maxL) (ret := (some (.object "java/lang/String"))) hy hw ?_
  intro p e s m args below meth c s₁ B hml hv
  obtain ⟨rfl, ⟨hsz, hP, hK, hN, hD0⟩, hY⟩ := hv
  have hts := atoms_spec (ws := wy) B.pre
  have hown : s.vm.findClass y.cls = some m.cls := findClass_of_methodNamed B.named
  have hin : meth.name = y.name := (name_of_methodNamed B.named B.method).1
  subst hsz
  have hD := hD0.self (sz := s.heap.size)
  have hA : ∀ q : Nat, s.heap.size ≤ q → va_A W0 s.heap.size q := fun q h => Or.inr h
  have hS : va_S (va_A W0 s.heap.size) s.heap s.heap [] := va_S.rf
  have hL := lv_entry av (n := maxL) hl
  rw [lg_entry_eq]
  refine body p e s m av.toArray below meth c (va_A W0 s.heap.size) (MQ below _ av.toArray s mc ms (va_A W0 s.heap.size)) ⟨B.exec, B.bytes, hml, hown, hts, hK, hA, hN⟩ hY hin ?_ s.heap [] _ hP hD hS hL
  intro cells slots pc lv hc hs hdg H locs ls hP1 hD1 hS1 hL1
  refine W.widen hc hs ?_
  exact W.aret (v := .ref r) B.exec B.bytes B.returns (Or.inl ⟨_, rfl⟩) (Or.inr ⟨r, rfl⟩) (fun t ht hW => ⟨⟨(), r, rfl, trivial, rfl, by rw [ht]; exact hP1, va_K.moved hW.alike hK, hD1⟩, hS1.F ht⟩) hS1.2.2 hdg B.notSynchronized
theorem y_callSr {D : va_G} {kI kJ : Nat} {K V : Nat → Nat} {o : Option Nat} {p : Program} {l : Launch} {e : Env} {R : Room} {s : State} {m : MethodId} {args : Array Value} {below : List Frame} {meth : Method} {c : Code} {cc : ByteArray} {nL : Nat} {own : String} {Ts : List Cond} {A : Nat → Prop} {Q : State → Prop} {cells slots : Nat} {ws : va_W} {lv : List (Nat × Value)} {pc : Nat} {st : List Value} {y : MethodName} {wy : List Cond} {fr lo mc ms : Nat} {r : Nat} {W1 : va_W} {Wc : va_W} {As : List Value} {index maxL n : Nat} {bytes : ByteArray} {rt : FieldType} (F : xFix D kI kJ p s m args c cc nL own Ts A) (hY : yS K V o A s s.heap) (hM : yMr D kI kJ K V o l y wy fr lo mc ms (As) Wc r W1) (cw : CallB R s args own index y bytes maxL (some rt) wy (xRm fr lo mc ms) mc ms n ∧ (Cond.static y).before args s = true) (isC isR isP : List Nat) (hC : isC.map (fun i => ws[i]?) = Wc.map some) (hR : wOk ws isR = true) (hnR : va_nd isR = true) (hdis : ∀ i ∈ isR, i ∉ isC) (hnP : va_nd isP = true) (hQ : wOk (wPick ws isR ++ W1) isP = true) (hnC : va_nd isC = true) (hn : As.length = n) (hW : (st.map fun v => v.category).sum ≤ 8) (hdg : decode cc pc = .ok (.invokestatic index, 3)) (hf : cells + mc ≤ R.cells ∧ slots + ms ≤ R.slots) (kk : xG D p l e R s m args below meth c nL A Q (cells + mc) (slots + ms) (wPick (wPick ws isR ++ W1) isP) lv (pc + 3) (.ref r :: st)) : xG D p l e R s m args below meth c nL A Q cells slots ws lv pc (As.reverse ++ st) := by
  intro H locs ls hP hD hS hL
  have hPc : va_P D vwCl Wc H := hP.sub isC (by
    have h0 := congrArg (fun l : List (Option (Nat × va_E)) => l.filterMap id) hC
    simpa [List.filterMap_map] using h0)
  have hDc : va_D A Wc := hD.sub isC hnC hC
  have hFc := va_free (wc := Wc) hD hS F.2.2.2.2.2.2.1 isC hC
  refine va_callr (va_runS (g := F0 m pc ls (As.reverse ++ st)) (As := As) (rest := st) ⟨F.1, F.2.1, F.2.2.1, F.2.2.2.1, F.2.2.2.2.1⟩ (hM H.size) cw ⟨yPre_blind, fun U hU hW => ⟨rfl, ⟨by rw [hU], by rw [hU]; exact hPc, va_K.moved hW.alike F.2.2.2.2.2.1, xN.warm hW F.2.2.2.2.2.2.2, hDc.weaken (fun _ _ _ _ => trivial)⟩, hY.call hS hW hU hFc⟩⟩ rfl hn hL.1 rfl (lv_room hW) hdg hf) hS (fun q _ h => hFc q h) hFc (fun u ra t H1 locs1 ht hvm hw hB hz1 hk1 hS1 => ?_)
  obtain ⟨rfl, hP1, hK1, hD1⟩ := hB
  rw [ht] at hP1
  obtain ⟨g1, g2⟩ := xBack hP hD hC hR hnR hdis hnP hQ hk1 hFc hP1 hD1
  exact kk H1 locs1 ls g1 g2 hS1 hL
theorem i2c_jI {z : Int} (hz : 0 ≤ z ∧ z ≤ 65535) : ((jI z).toUInt32 % 65536).toInt32 = jI z := by
  obtain ⟨n, rfl⟩ := Int.eq_ofNat_of_zero_le hz.1
  have e : jI (n : Int) = Int32.ofNat n := by unfold jI; exact Int32.ofInt_eq_ofNat
  rw [e]
  have e2 : (Int32.ofNat n).toUInt32 = UInt32.ofNat n := rfl
  rw [e2]
  have e3 : UInt32.ofNat n % 65536 = UInt32.ofNat n := by
    apply UInt32.toNat_inj.mp
    rw [UInt32.toNat_mod, UInt32.toNat_ofNat']
    show n % 2 ^ 32 % 65536 = n % 2 ^ 32
    omega
  rw [e3]; rfl
theorem nar_char {z : Int} (hz : 0 ≤ z ∧ z ≤ 255) : narrow .char (.int (jI z)) = .int (jI z) := by
  show Value.int (((jI z).toUInt32 % 65536).toInt32) = _
  rw [i2c_jI (by omega)]
theorem nar_byte0 : narrow .byte (.int (jI 0)) = .int (jI 0) := by decide
section YR
variable {D : va_G} {kI kJ : Nat} {K V : Nat → Nat} {o : Option Nat} {p : Program} {l : Launch} {e : Env} {R : Room} {s : State} {m : MethodId} {args : Array Value} {below : List Frame} {meth : Method} {c : Code} {cc : ByteArray} {nL : Nat} {own : String} {Ts : List Cond} {A : Nat → Prop} {Q : State → Prop} {cells slots : Nat} {ws : va_W} {lv lv' : List (Nat × Value)} {pc tgt : Nat} {st : List Value}
theorem y_ldc (F : xFix D kI kJ p s m args c cc nL RX5 Ts A) (hY : yS K V o A s s.heap) (i : Nat) (hi : i < 10) (hdg : decode cc pc = .ok (.ldc (nIx i), 2)) (kk : xG D p l e R s m args below meth c nL A Q cells slots ws lv (pc + 2) (.ref (K i) :: st)) : xG D p l e R s m args below meth c nL A Q cells slots ws lv pc st :=
  fun H locs ls hP hD hS hL => va_ldcS F.1 F.2.1 F.2.2.2.1 (hY.2.1 i hi) hdg (kk H locs ls hP hD hS hL)
theorem y_gets (F : xFix D kI kJ p s m args c cc nL own Ts A) {C n d : String} {v : Value} {index : Nat} (hZ : va_Z C n d v A s s.heap) (hw : Jvm.Cond.fieldLink own index C n d ∈ Ts) (hdg : decode cc pc = .ok (.getstatic index, 3)) (kk : xG D p l e R s m args below meth c nL A Q cells slots ws lv (pc + 3) (v :: st)) : xG D p l e R s m args below meth c nL A Q cells slots ws lv pc st :=
  fun H locs ls hP hD hS hL => va_gets F.1 F.2.1 hZ hS F.2.2.2.1 (F.2.2.2.2.1 _ hw) (fun _ h => h) hdg (kk H locs ls hP hD hS hL)
theorem y_coder (F : xFix D kI kJ p s m args c cc nL own Ts A) (hY : yS K V o A s s.heap) (i : Nat) (hi : i < 10) {index : Nat} (hw : Jvm.Cond.fieldLink own index "java/lang/String" "coder" "B" ∈ Ts) (hdg : decode cc pc = .ok (.getfield index, 3)) (kk : xG D p l e R s m args below meth c nL A Q cells slots ws lv (pc + 3) (.int (jI 0) :: st)) : xG D p l e R s m args below meth c nL A Q cells slots ws lv pc (.ref (K i) :: st) :=
  fun H locs ls hP hD hS hL => vk_getf F.1 F.2.1 (hY.1.1 i hi).2.1 hS F.2.2.2.1 (F.2.2.2.2.1 _ hw) (fun _ h => h) hdg (kk H locs ls hP hD hS hL)
theorem y_value (F : xFix D kI kJ p s m args c cc nL own Ts A) (hY : yS K V o A s s.heap) (i : Nat) (hi : i < 10) {index : Nat} (hw : Jvm.Cond.fieldLink own index "java/lang/String" "value" "[B" ∈ Ts) (hdg : decode cc pc = .ok (.getfield index, 3)) (kk : xG D p l e R s m args below meth c nL A Q cells slots ws lv (pc + 3) (.ref (V i) :: st)) : xG D p l e R s m args below meth c nL A Q cells slots ws lv pc (.ref (K i) :: st) :=
  fun H locs ls hP hD hS hL => vk_getf F.1 F.2.1 (hY.1.1 i hi).2.2.1 hS F.2.2.2.1 (F.2.2.2.2.1 _ hw) (fun _ h => h) hdg (kk H locs ls hP hD hS hL)
/-- how long a word is, and its letters -/
def wLn (i : Nat) : Int := (nLen.getD i 0 : Nat)
def wCh (i : Nat) (k : Int) : Int := ((nByt.getD i []).getD k.toNat 0).toInt
theorem wLn_rng (i : Nat) : 0 ≤ wLn i ∧ wLn i ≤ 6 := by
  rcases (show i = 0 ∨ i = 1 ∨ i = 2 ∨ i = 3 ∨ i = 4 ∨ i = 5 ∨ i = 6 ∨ i = 7 ∨ i = 8 ∨ i = 9 ∨ 10 ≤ i by omega) with rfl | rfl | rfl | rfl | rfl | rfl | rfl | rfl | rfl | rfl | h
  all_goals first
    | decide
    | (unfold wLn; rw [show nLen.getD i 0 = 0 from by unfold List.getD; rw [List.getElem?_eq_none (show nLen.length ≤ i from h)]; rfl]; decide)
theorem wCh_rng (i : Nat) {k : Int} (hi : i < 10) (hk : 0 ≤ k ∧ k < wLn i) : 0 ≤ wCh i k ∧ wCh i k ≤ 127 := by
  have h2 := wLn_rng i
  rcases (show i = 0 ∨ i = 1 ∨ i = 2 ∨ i = 3 ∨ i = 4 ∨ i = 5 ∨ i = 6 ∨ i = 7 ∨ i = 8 ∨ i = 9 by omega) with rfl | rfl | rfl | rfl | rfl | rfl | rfl | rfl | rfl | rfl <;>
    rcases (show k = 0 ∨ k = 1 ∨ k = 2 ∨ k = 3 ∨ k = 4 ∨ k = 5 by omega) with rfl | rfl | rfl | rfl | rfl | rfl <;> decide
theorem y_alen (F : xFix D kI kJ p s m args c cc nL own Ts A) (hY : yS K V o A s s.heap) (i : Nat) (hi : i < 10) (hdg : decode cc pc = .ok (.arraylength, 1)) (kk : xG D p l e R s m args below meth c nL A Q cells slots ws lv (pc + 1) (.int (jI (wLn i)) :: st)) : xG D p l e R s m args below meth c nL A Q cells slots ws lv pc (.ref (V i) :: st) :=
  fun H locs ls hP hD hS hL => va_tlen F.1 F.2.1 (hY.1.1 i hi).2.2.2 hS (by unfold wLn jI; exact (Int32.ofInt_eq_ofNat).symm) hdg (kk H locs ls hP hD hS hL)
theorem y_bald (F : xFix D kI kJ p s m args c cc nL own Ts A) (hY : yS K V o A s s.heap) (i : Nat) (hi : i < 10) {k : Int} (hk : 0 ≤ k ∧ k < wLn i) (hdg : decode cc pc = .ok (.baload, 1)) (kk : xG D p l e R s m args below meth c nL A Q cells slots ws lv (pc + 1) (.int (jI (wCh i k)) :: st)) : xG D p l e R s m args below meth c nL A Q cells slots ws lv pc (.int (jI k) :: .ref (V i) :: st) :=
  fun H locs ls hP hD hS hL => va_tb F.1 F.2.1 (hY.1.1 i hi).2.2.2 hS (jx_in hk (by have := wLn_rng i; unfold wLn at this; omega)) (by rw [jx_clamp (by have := wLn_rng i; omega)]; show Value.int _ = Value.int (jI (wCh i k)); unfold wCh; rw [jI_int]) hdg (kk H locs ls hP hD hS hL)
theorem x_i2c (F : xFix D kI kJ p s m args c cc nL own Ts A) {z : Int} (hz : 0 ≤ z ∧ z ≤ 65535) (hdg : decode cc pc = .ok (.i2c, 1)) (kk : xG D p l e R s m args below meth c nL A Q cells slots ws lv (pc + 1) (.int (jI z) :: st)) : xG D p l e R s m args below meth c nL A Q cells slots ws lv pc (.int (jI z) :: st) :=
  fun H locs ls hP hD hS hL => lv_i2c F.1 F.2.1 hdg (i2c_jI hz) (kk H locs ls hP hD hS hL)
theorem x_look (F : xFix D kI kJ p s m args c cc nL own Ts A) {dflt : Int} {ps : Array (Int × Int)} {len : Nat} {a off : Int} (hdg : decode cc pc = .ok (.lookupswitch dflt ps, len)) (hp : (ps.toList.zip (ps.toList.drop 1)).all (fun (a, next) => a.1 < next.1) = true) (ho : Op.lookupswitch.offset ps.toList dflt (jI a).toInt = off) (ht : (pc : Int) + off = (tgt : Int)) (kk : xG D p l e R s m args below meth c nL A Q cells slots ws lv tgt st) : xG D p l e R s m args below meth c nL A Q cells slots ws lv pc (.int (jI a) :: st) :=
  fun H locs ls hP hD hS hL => lv_lookup F.1 F.2.1 hdg hp ho ht (kk H locs ls hP hD hS hL)
/-- the cells in another order -/
theorem x_perm (is : List Nat) (ws' : va_W) (hn : va_nd is = true) (hk : wOk ws is = true) (h : wPick ws is = ws') (kk : xG D p l e R s m args below meth c nL A Q cells slots ws' lv pc st) : xG D p l e R s m args below meth c nL A Q cells slots ws lv pc st := by
  subst h
  exact fun H locs ls hP hD hS hL => kk H locs ls (hP.sub is rfl) (hD.sub is hn (wPick_map hk)) hS hL
end YR
