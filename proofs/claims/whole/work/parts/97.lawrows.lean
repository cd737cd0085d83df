/-! THE LAW: its script, answers that are the same, what holds between two calls -/
def scr (xs : Nat → Int32) (i : Int) : Int := (xs i.toNat).toInt
theorem scr_rng (xs : Nat → Int32) (i : Int) : -2147483648 ≤ scr xs i ∧ scr xs i < 2147483648 := jx_rng _
section LROW
variable {D : va_G} {kI kJ : Nat} {p : Program} {l : Launch} {e : Env} {R : Room} {s : State} {m : MethodId} {args : Array Value} {below : List Frame} {meth : Method} {c : Code} {cc : ByteArray} {nL : Nat} {own : String} {Ts : List Cond} {A : Nat → Prop} {Q : State → Prop} {cells slots : Nat} {ws : va_W} {lv lv' : List (Nat × Value)} {pc tgt : Nat} {st : List Value}
theorem x_sld (F : xFix D kI kJ p s m args c cc nL own Ts A) {b L : Nat} {xs : Nat → Int32} (hX : va_X b L xs s s.heap) (hbl : b < s.heap.size) (hbA : ¬ A b) {i : Int} (hi : 0 ≤ i ∧ i < (L : Int)) (hL : (L : Int) < 2147483648) (hdg : decode cc pc = .ok (.iaload, 1)) (kk : xG D p l e R s m args below meth c nL A Q cells slots ws lv (pc + 1) (.int (jI (scr xs i)) :: st)) : xG D p l e R s m args below meth c nL A Q cells slots ws lv pc (.int (jI i) :: .ref b :: st) :=
  fun H locs ls hP hD hS hL2 => va_sld F.1 F.2.1 hX hbl hbA hS (jx_in hi (by omega)) hdg (by
    have h := kk H locs ls hP hD hS hL2
    unfold scr at h
    rw [jI_int] at h
    rw [jx_clamp (by omega)]
    exact h)
theorem x_slen (F : xFix D kI kJ p s m args c cc nL own Ts A) {b L : Nat} {xs : Nat → Int32} (hX : va_X b L xs s s.heap) (hbl : b < s.heap.size) (hbA : ¬ A b) (hdg : decode cc pc = .ok (.arraylength, 1)) (kk : xG D p l e R s m args below meth c nL A Q cells slots ws lv (pc + 1) (.int (jI (L : Int)) :: st)) : xG D p l e R s m args below meth c nL A Q cells slots ws lv pc (.ref b :: st) :=
  fun H locs ls hP hD hS hL2 => va_slen F.1 F.2.1 hX hbl hbA hS hdg (by
    have h := kk H locs ls hP hD hS hL2
    rw [← jI_nat] at h
    exact h)
theorem x_same (F : xFix D kI kJ p s m args c cc nL own Ts A) {a b : Int} {off : Int} (h : a = b) (hdg : decode cc pc = .ok (.if_icmp .eq off, 3)) (ht : (pc : Int) + off = (tgt : Int)) (kk : xG D p l e R s m args below meth c nL A Q cells slots ws lv tgt st) : xG D p l e R s m args below meth c nL A Q cells slots ws lv pc (.int (jI b) :: .int (jI a) :: st) := by
  subst h
  exact fun H locs ls hP hD hS hL => lv_icmp_eq F.1 F.2.1 hdg ht (fun _ => kk H locs ls hP hD hS hL) (fun q => absurd rfl q)
theorem x_samel (F : xFix D kI kJ p s m args c cc nL own Ts A) {a b : Int} (h : a = b) (hdg : decode cc pc = .ok (.lcmp, 1)) (kk : xG D p l e R s m args below meth c nL A Q cells slots ws lv (pc + 1) (.int (jI 0) :: st)) : xG D p l e R s m args below meth c nL A Q cells slots ws lv pc (.long (jL b) :: .long (jL a) :: st) := by
  subst h
  exact fun H locs ls hP hD hS hL => W.lcmp F.1 F.2.1 hdg (by
    have e : lg_cmp (jL a) (jL a) = jI 0 := by unfold lg_cmp; rw [if_neg (fun q => by have := Int64.lt_irrefl q; exact this), if_pos rfl]; rfl
    rw [e]
    exact kk H locs ls hP hD hS hL)
end LROW
def lawI (vO_blocks : Int) (vO_limit : Int) (fO_stones : Int → Int) (fO_laid : Int → Int) (fO_deep : Int → Int) (fO_rates : Int → Int) (vO_placings : Int) (vO_mortars : Int) (fM_dangers : Int → Int) (fM_losses : Int → Int) (vO_looks : Int) (vL_doubles : Int) (vL_learned : Int) (fL_sums : Int → Int) (fL_pairs : Int → Int) (vO_texted : Int) (fO_text : Int → Int) (vO_clauses : Int) (fU_names : Int → Int) (fU_signs : Int → Int) (fU_numbers : Int → Int) (fU_tests : Int → Int) (fU_acts : Int → Int) (fV_names : Int → Int) (fV_signs : Int → Int) (fV_numbers : Int → Int) (fV_tests : Int → Int) (fV_acts : Int → Int) (fN_blocks : Int → Int) (fN_costs : Int → Int) (fN_zones : Int → Int) (fN_neglects : Int → Int) (fN_chosen : Int → Int) (fN_best : Int → Int) (vO_lots : Int) (fO_placed : Int → Int) (fO_put : Int → Int) (fO_seen : Int → Int) (fO_rule : Int → Int) (fO_fresh : Int → Int) (fO_stocks : Int → Int) (fO_dangers : Int → Int) (fO_losses : Int → Int) (fO_lost : Int → Int) (fO_zones : Int → Int) : Prop :=
  (0 ≤ vO_blocks ∧ vO_blocks ≤ 30) ∧
  (∀ k : Int, 0 ≤ k → k < vO_blocks → 1 ≤ fO_deep k) ∧
  (Rg fO_stones 30 0 3) ∧
  (Rg fO_laid 30 0 400) ∧
  (Rg fO_deep 30 0 2000) ∧
  (1 ≤ vO_limit ∧ vO_limit ≤ 100) ∧
  (Rg fO_rates 64 0 50) ∧
  (0 ≤ vO_placings ∧ vO_placings ≤ 60) ∧
  (Rg fO_placed 300 0 400) ∧
  (Rg (fun k => fO_placed (5 * k)) 60 0 29) ∧
  (Rg (fun k => fO_placed (5 * k + 2)) 60 0 3) ∧
  (Rg (fun k => fO_placed (5 * k + 3)) 60 0 3) ∧
  (Rg (fun k => fO_placed (5 * k + 4)) 60 0 7) ∧
  (0 ≤ vO_mortars ∧ vO_mortars ≤ 60) ∧
  (Rg fO_put 180 0 400) ∧
  (Rg (fun k => fO_put (3 * k)) 60 0 29) ∧
  (Rg (fun k => fO_put (3 * k + 2)) 60 0 1) ∧
  (0 ≤ vO_looks ∧ vO_looks ≤ 80) ∧
  (Rg fO_seen 320 0 400) ∧
  (Rg (fun k => fO_seen (4 * k)) 80 0 29) ∧
  (Rg (fun k => fO_seen (4 * k + 1)) 80 0 3) ∧
  (Rg (fun k => fO_seen (4 * k + 3)) 80 0 99) ∧
  (0 ≤ vL_learned ∧ vL_learned ≤ vO_looks) ∧
  (∀ k : Int, 0 ≤ k → k < 4 → fL_sums k = hS (fun k => fO_seen (4 * k)) (fun k => fO_seen (4 * k + 2)) (fun k => fO_seen (4 * k + 1)) (fun k => fO_seen (4 * k + 3)) vL_learned k) ∧
  (∀ k : Int, 0 ≤ k → k < 4 → fL_pairs k = hN (fun k => fO_seen (4 * k)) (fun k => fO_seen (4 * k + 2)) (fun k => fO_seen (4 * k + 1)) vL_learned k) ∧
  (vL_doubles = dnS (fun k => fO_seen (4 * k)) (fun k => fO_seen (4 * k + 2)) (fun k => fO_seen (4 * k + 1)) vL_learned) ∧
  (0 ≤ vO_texted ∧ vO_texted ≤ 120) ∧
  (Rg fO_text 120 0 255) ∧
  (0 ≤ vO_clauses ∧ vO_clauses ≤ 6) ∧
  (Rg fO_rule 66 (-1) 999) ∧
  (Rg (fun c => fO_rule (11 * c)) 6 0 3) ∧
  (Rg (fun c => fO_rule (11 * c + 1)) 6 0 2) ∧
  (Rg fO_fresh 66 (-1) 999) ∧
  (Rg (fun c => fO_fresh (11 * c)) 6 0 3) ∧
  (Rg (fun c => fO_fresh (11 * c + 1)) 6 0 2) ∧
  (Rg fU_names 18 0 6 ∧ Rg fU_signs 18 (-2147483648) 2147483647 ∧ Rg fU_numbers 18 0 999 ∧ Rg fU_tests 6 0 3 ∧ Rg fU_acts 6 0 2) ∧
  (Rg fV_names 18 0 6 ∧ Rg fV_signs 18 (-2147483648) 2147483647 ∧ Rg fV_numbers 18 0 999 ∧ Rg fV_tests 6 0 3 ∧ Rg fV_acts 6 0 2) ∧
  (rL fU_names fU_signs fU_numbers fU_tests fU_acts fO_rule vO_clauses) ∧
  (0 ≤ vO_lots ∧ vO_lots ≤ 20) ∧
  (Rg fO_stocks 100 0 99) ∧
  (Rg (fun k => fO_stocks (5 * k)) 20 0 3) ∧
  (Rg fO_dangers 30 (-1) 400) ∧
  (Rg fO_losses 30 0 40100) ∧
  (Rg fM_dangers 30 (-1) 400) ∧
  (Rg fM_losses 30 0 40100) ∧
  (Rg fO_lost 30 0 40000) ∧
  (Rg fO_zones 30 0 7) ∧
  (Rg fN_costs 24 0 50000) ∧
  (Rg fN_zones 24 0 7) ∧
  (Rg fN_neglects 6 0 200000) ∧
  (Rg fN_chosen 6 (-1) 3) ∧
  (Rg fN_best 6 (-1) 3) ∧
  (Rg fN_blocks 6 0 29)
theorem lk_read {a2_9 : Int} {ac2_9 : Int → Int} {c2_9 : Int} {c2_o : Int} {fO_rule : Int → Int} {fO_text : Int → Int} {fU_acts : Int → Int} {fU_names : Int → Int} {fU_numbers : Int → Int} {fU_signs : Int → Int} {fU_tests : Int → Int} {nm2_9 : Int → Int} {nu2_9 : Int → Int} {p2_o : Int} {r2_o : Int → Int} {sg2_9 : Int → Int} {te2_9 : Int → Int} {vO_clauses : Int} {vO_texted : Int} (hRL : rL fU_names fU_signs fU_numbers fU_tests fU_acts fO_rule vO_clauses) (p9 : a2_9 = if rdZ fO_text vO_texted (rdC fO_text vO_texted) < vO_texted then clA fO_text vO_texted (rdC fO_text vO_texted) (rdZ fO_text vO_texted (rdC fO_text vO_texted)) else -1) (po : p2_o = if rdZ fO_text vO_texted (rdC fO_text vO_texted) < vO_texted then clA fO_text vO_texted (rdC fO_text vO_texted) (rdZ fO_text vO_texted (rdC fO_text vO_texted)) else -1) (b9 : rdZ fO_text vO_texted (rdC fO_text vO_texted) < vO_texted → c2_9 = vO_clauses ∧ nm2_9 = fU_names ∧ sg2_9 = fU_signs ∧ nu2_9 = fU_numbers ∧ te2_9 = fU_tests ∧ ac2_9 = fU_acts) (bo : rdZ fO_text vO_texted (rdC fO_text vO_texted) < vO_texted → c2_o = vO_clauses ∧ r2_o = fO_rule) (k9 : ¬ rdZ fO_text vO_texted (rdC fO_text vO_texted) < vO_texted → (c2_9 = (rdC fO_text vO_texted) ∧ 0 ≤ (rdC fO_text vO_texted) ∧ (rdC fO_text vO_texted) ≤ 6) ∧ ∀ x : Int, 0 ≤ x → x < (rdC fO_text vO_texted) → (te2_9 x = clJ fO_text vO_texted x (rdZ fO_text vO_texted x) + 1 ∧ ac2_9 x = clB fO_text vO_texted x (rdZ fO_text vO_texted x) ∧ 0 ≤ clJ fO_text vO_texted x (rdZ fO_text vO_texted x) ∧ clJ fO_text vO_texted x (rdZ fO_text vO_texted x) ≤ 2) ∧ ∀ i : Int, 0 ≤ i → i < clJ fO_text vO_texted x (rdZ fO_text vO_texted x) + 1 → nm2_9 (x * 3 + i) = tsN fO_text vO_texted (clX fO_text vO_texted (rdZ fO_text vO_texted x) i) ∧ sg2_9 (x * 3 + i) = tsS fO_text vO_texted (clX fO_text vO_texted (rdZ fO_text vO_texted x) i) ∧ nu2_9 (x * 3 + i) = tsV fO_text vO_texted (clX fO_text vO_texted (rdZ fO_text vO_texted x) i)) (ko : ¬ rdZ fO_text vO_texted (rdC fO_text vO_texted) < vO_texted → (c2_o = rdC fO_text vO_texted ∧ 0 ≤ rdC fO_text vO_texted ∧ rdC fO_text vO_texted ≤ 6) ∧ ∀ x : Int, 0 ≤ x → x < rdC fO_text vO_texted → r2_o (11 * x) = clJ fO_text vO_texted x (rdZ fO_text vO_texted x) + 1 ∧ r2_o (11 * x + 1) = clB fO_text vO_texted x (rdZ fO_text vO_texted x) ∧ (0 ≤ clJ fO_text vO_texted x (rdZ fO_text vO_texted x) ∧ clJ fO_text vO_texted x (rdZ fO_text vO_texted x) ≤ 2) ∧ ∀ i : Int, 0 ≤ i → i ≤ clJ fO_text vO_texted x (rdZ fO_text vO_texted x) → r2_o ((11 * x + 2) + 3 * i) = tsN fO_text vO_texted (clX fO_text vO_texted (rdZ fO_text vO_texted x) i) ∧ r2_o ((11 * x + 2) + 3 * i + 1) = (if tsS fO_text vO_texted (clX fO_text vO_texted (rdZ fO_text vO_texted x) i) = 60 then 0 else 1) ∧ r2_o ((11 * x + 2) + 3 * i + 2) = tsV fO_text vO_texted (clX fO_text vO_texted (rdZ fO_text vO_texted x) i)) :
  a2_9 = p2_o ∧ c2_9 = c2_o ∧ rL nm2_9 sg2_9 nu2_9 te2_9 ac2_9 r2_o c2_o := by
  refine ⟨p9.trans po.symm, ?_, ?_⟩
  · by_cases q : rdZ fO_text vO_texted (rdC fO_text vO_texted) < vO_texted
    · rw [(b9 q).1, (bo q).1]
    · rw [(k9 q).1.1, (ko q).1.1]
  · by_cases q : rdZ fO_text vO_texted (rdC fO_text vO_texted) < vO_texted
    · obtain ⟨-, e1, e2, e3, e4, e5⟩ := b9 q
      rw [(bo q).1, (bo q).2, e1, e2, e3, e4, e5]
      exact hRL
    · obtain ⟨⟨-, -, -⟩, h9⟩ := k9 q
      obtain ⟨⟨hc, -, -⟩, ho⟩ := ko q
      intro c c0 c1
      rw [hc] at c1
      obtain ⟨⟨r1, r2, r3, r4⟩, r5⟩ := h9 c c0 c1
      obtain ⟨s1, s2, s3, s4⟩ := ho c c0 c1
      refine ⟨⟨⟨by rw [r1, s1], by omega⟩, by rw [r2, s2]⟩, fun t t0 t1 => ?_⟩
      rw [r1] at t1
      obtain ⟨u1, u2, u3⟩ := r5 t t0 t1
      obtain ⟨w1, w2, w3⟩ := s4 t t0 (by omega)
      refine ⟨u1.trans w1.symm, ⟨fun h => ?_, fun h => ?_⟩, u3.trans w3.symm⟩
      · rw [w2, if_pos (by rw [← u2]; exact h)]
      · by_cases z : tsS fO_text vO_texted (clX fO_text vO_texted (rdZ fO_text vO_texted c) t) = 60
        · rw [u2]; exact z
        · rw [w2, if_neg z] at h; omega
