/-! PURE: a word in the text -/
theorem sh0_at {z : Int} (h : 0 ≤ z ∧ z ≤ 6) : jI z >>> (jI 0 &&& 31) = jI z := by
  rcases (show z = 0 ∨ z = 1 ∨ z = 2 ∨ z = 3 ∨ z = 4 ∨ z = 5 ∨ z = 6 by omega) with rfl | rfl | rfl | rfl | rfl | rfl | rfl <;> decide
theorem an255N : ∀ n : Nat, n < 128 → Int32.ofNat n &&& 255 = Int32.ofNat n := by decide +kernel
theorem an255 {z : Int} (h : 0 ≤ z ∧ z ≤ 127) : jI z &&& jI 255 = jI z := by
  obtain ⟨n, rfl⟩ := Int.eq_ofNat_of_zero_le h.1
  rw [← jI_nat n]
  exact an255N n (by omega)
def isW (tx : Int → Int) (w : Nat) (s e : Int) : Prop := e - s = wLn w ∧ ∀ k : Int, 0 ≤ k → k < wLn w → tx (s + k) = wCh w k
theorem isW_lost (tx : Int → Int) (s e : Int) : isW tx 0 s e ↔ (e - s = 4 ∧ tx s = 108 ∧ tx (s + 1) = 111 ∧ tx (s + 2) = 115 ∧ tx (s + 3) = 116) := by
  have hl : wLn 0 = 4 := by decide
  unfold isW
  rw [hl]
  constructor
  · rintro ⟨h0, h⟩
    have a0 := h 0 (by omega) (by omega)
    rw [show s + 0 = s by omega] at a0
    refine ⟨h0, a0, h 1 (by omega) (by omega), h 2 (by omega) (by omega), h 3 (by omega) (by omega)⟩
  · rintro ⟨h0, a0, a1, a2, a3⟩
    refine ⟨h0, fun k k0 k1 => ?_⟩
    rcases (show k = 0 ∨ k = 1 ∨ k = 2 ∨ k = 3 by omega) with rfl | rfl | rfl | rfl
    · rw [show s + 0 = s by omega]; exact a0
    · exact a1
    · exact a2
    · exact a3
theorem isW_state (tx : Int → Int) (s e : Int) : isW tx 1 s e ↔ (e - s = 5 ∧ tx s = 115 ∧ tx (s + 1) = 116 ∧ tx (s + 2) = 97 ∧ tx (s + 3) = 116 ∧ tx (s + 4) = 101) := by
  have hl : wLn 1 = 5 := by decide
  unfold isW
  rw [hl]
  constructor
  · rintro ⟨h0, h⟩
    have a0 := h 0 (by omega) (by omega)
    rw [show s + 0 = s by omega] at a0
    refine ⟨h0, a0, h 1 (by omega) (by omega), h 2 (by omega) (by omega), h 3 (by omega) (by omega), h 4 (by omega) (by omega)⟩
  · rintro ⟨h0, a0, a1, a2, a3, a4⟩
    refine ⟨h0, fun k k0 k1 => ?_⟩
    rcases (show k = 0 ∨ k = 1 ∨ k = 2 ∨ k = 3 ∨ k = 4 by omega) with rfl | rfl | rfl | rfl | rfl
    · rw [show s + 0 = s by omega]; exact a0
    · exact a1
    · exact a2
    · exact a3
    · exact a4
theorem isW_wet (tx : Int → Int) (s e : Int) : isW tx 2 s e ↔ (e - s = 3 ∧ tx s = 119 ∧ tx (s + 1) = 101 ∧ tx (s + 2) = 116) := by
  have hl : wLn 2 = 3 := by decide
  unfold isW
  rw [hl]
  constructor
  · rintro ⟨h0, h⟩
    have a0 := h 0 (by omega) (by omega)
    rw [show s + 0 = s by omega] at a0
    refine ⟨h0, a0, h 1 (by omega) (by omega), h 2 (by omega) (by omega)⟩
  · rintro ⟨h0, a0, a1, a2⟩
    refine ⟨h0, fun k k0 k1 => ?_⟩
    rcases (show k = 0 ∨ k = 1 ∨ k = 2 by omega) with rfl | rfl | rfl
    · rw [show s + 0 = s by omega]; exact a0
    · exact a1
    · exact a2
theorem isW_side (tx : Int → Int) (s e : Int) : isW tx 3 s e ↔ (e - s = 4 ∧ tx s = 115 ∧ tx (s + 1) = 105 ∧ tx (s + 2) = 100 ∧ tx (s + 3) = 101) := by
  have hl : wLn 3 = 4 := by decide
  unfold isW
  rw [hl]
  constructor
  · rintro ⟨h0, h⟩
    have a0 := h 0 (by omega) (by omega)
    rw [show s + 0 = s by omega] at a0
    refine ⟨h0, a0, h 1 (by omega) (by omega), h 2 (by omega) (by omega), h 3 (by omega) (by omega)⟩
  · rintro ⟨h0, a0, a1, a2, a3⟩
    refine ⟨h0, fun k k0 k1 => ?_⟩
    rcases (show k = 0 ∨ k = 1 ∨ k = 2 ∨ k = 3 by omega) with rfl | rfl | rfl | rfl
    · rw [show s + 0 = s by omega]; exact a0
    · exact a1
    · exact a2
    · exact a3
theorem isW_stone (tx : Int → Int) (s e : Int) : isW tx 4 s e ↔ (e - s = 5 ∧ tx s = 115 ∧ tx (s + 1) = 116 ∧ tx (s + 2) = 111 ∧ tx (s + 3) = 110 ∧ tx (s + 4) = 101) := by
  have hl : wLn 4 = 5 := by decide
  unfold isW
  rw [hl]
  constructor
  · rintro ⟨h0, h⟩
    have a0 := h 0 (by omega) (by omega)
    rw [show s + 0 = s by omega] at a0
    refine ⟨h0, a0, h 1 (by omega) (by omega), h 2 (by omega) (by omega), h 3 (by omega) (by omega), h 4 (by omega) (by omega)⟩
  · rintro ⟨h0, a0, a1, a2, a3, a4⟩
    refine ⟨h0, fun k k0 k1 => ?_⟩
    rcases (show k = 0 ∨ k = 1 ∨ k = 2 ∨ k = 3 ∨ k = 4 by omega) with rfl | rfl | rfl | rfl | rfl
    · rw [show s + 0 = s by omega]; exact a0
    · exact a1
    · exact a2
    · exact a3
    · exact a4
theorem isW_age (tx : Int → Int) (s e : Int) : isW tx 5 s e ↔ (e - s = 3 ∧ tx s = 97 ∧ tx (s + 1) = 103 ∧ tx (s + 2) = 101) := by
  have hl : wLn 5 = 3 := by decide
  unfold isW
  rw [hl]
  constructor
  · rintro ⟨h0, h⟩
    have a0 := h 0 (by omega) (by omega)
    rw [show s + 0 = s by omega] at a0
    refine ⟨h0, a0, h 1 (by omega) (by omega), h 2 (by omega) (by omega)⟩
  · rintro ⟨h0, a0, a1, a2⟩
    refine ⟨h0, fun k k0 k1 => ?_⟩
    rcases (show k = 0 ∨ k = 1 ∨ k = 2 by omega) with rfl | rfl | rfl
    · rw [show s + 0 = s by omega]; exact a0
    · exact a1
    · exact a2
theorem isW_harm (tx : Int → Int) (s e : Int) : isW tx 6 s e ↔ (e - s = 4 ∧ tx s = 104 ∧ tx (s + 1) = 97 ∧ tx (s + 2) = 114 ∧ tx (s + 3) = 109) := by
  have hl : wLn 6 = 4 := by decide
  unfold isW
  rw [hl]
  constructor
  · rintro ⟨h0, h⟩
    have a0 := h 0 (by omega) (by omega)
    rw [show s + 0 = s by omega] at a0
    refine ⟨h0, a0, h 1 (by omega) (by omega), h 2 (by omega) (by omega), h 3 (by omega) (by omega)⟩
  · rintro ⟨h0, a0, a1, a2, a3⟩
    refine ⟨h0, fun k k0 k1 => ?_⟩
    rcases (show k = 0 ∨ k = 1 ∨ k = 2 ∨ k = 3 by omega) with rfl | rfl | rfl | rfl
    · rw [show s + 0 = s by omega]; exact a0
    · exact a1
    · exact a2
    · exact a3
theorem isW_leave (tx : Int → Int) (s e : Int) : isW tx 7 s e ↔ (e - s = 5 ∧ tx s = 108 ∧ tx (s + 1) = 101 ∧ tx (s + 2) = 97 ∧ tx (s + 3) = 118 ∧ tx (s + 4) = 101) := by
  have hl : wLn 7 = 5 := by decide
  unfold isW
  rw [hl]
  constructor
  · rintro ⟨h0, h⟩
    have a0 := h 0 (by omega) (by omega)
    rw [show s + 0 = s by omega] at a0
    refine ⟨h0, a0, h 1 (by omega) (by omega), h 2 (by omega) (by omega), h 3 (by omega) (by omega), h 4 (by omega) (by omega)⟩
  · rintro ⟨h0, a0, a1, a2, a3, a4⟩
    refine ⟨h0, fun k k0 k1 => ?_⟩
    rcases (show k = 0 ∨ k = 1 ∨ k = 2 ∨ k = 3 ∨ k = 4 by omega) with rfl | rfl | rfl | rfl | rfl
    · rw [show s + 0 = s by omega]; exact a0
    · exact a1
    · exact a2
    · exact a3
    · exact a4
theorem isW_mend (tx : Int → Int) (s e : Int) : isW tx 8 s e ↔ (e - s = 4 ∧ tx s = 109 ∧ tx (s + 1) = 101 ∧ tx (s + 2) = 110 ∧ tx (s + 3) = 100) := by
  have hl : wLn 8 = 4 := by decide
  unfold isW
  rw [hl]
  constructor
  · rintro ⟨h0, h⟩
    have a0 := h 0 (by omega) (by omega)
    rw [show s + 0 = s by omega] at a0
    refine ⟨h0, a0, h 1 (by omega) (by omega), h 2 (by omega) (by omega), h 3 (by omega) (by omega)⟩
  · rintro ⟨h0, a0, a1, a2, a3⟩
    refine ⟨h0, fun k k0 k1 => ?_⟩
    rcases (show k = 0 ∨ k = 1 ∨ k = 2 ∨ k = 3 by omega) with rfl | rfl | rfl | rfl
    · rw [show s + 0 = s by omega]; exact a0
    · exact a1
    · exact a2
    · exact a3
theorem isW_change (tx : Int → Int) (s e : Int) : isW tx 9 s e ↔ (e - s = 6 ∧ tx s = 99 ∧ tx (s + 1) = 104 ∧ tx (s + 2) = 97 ∧ tx (s + 3) = 110 ∧ tx (s + 4) = 103 ∧ tx (s + 5) = 101) := by
  have hl : wLn 9 = 6 := by decide
  unfold isW
  rw [hl]
  constructor
  · rintro ⟨h0, h⟩
    have a0 := h 0 (by omega) (by omega)
    rw [show s + 0 = s by omega] at a0
    refine ⟨h0, a0, h 1 (by omega) (by omega), h 2 (by omega) (by omega), h 3 (by omega) (by omega), h 4 (by omega) (by omega), h 5 (by omega) (by omega)⟩
  · rintro ⟨h0, a0, a1, a2, a3, a4, a5⟩
    refine ⟨h0, fun k k0 k1 => ?_⟩
    rcases (show k = 0 ∨ k = 1 ∨ k = 2 ∨ k = 3 ∨ k = 4 ∨ k = 5 by omega) with rfl | rfl | rfl | rfl | rfl | rfl
    · rw [show s + 0 = s by omega]; exact a0
    · exact a1
    · exact a2
    · exact a3
    · exact a4
    · exact a5
theorem nmI_none {tx : Int → Int} {s e : Int} (h : ∀ j : Nat, j < 7 → ¬ isW tx (j + 0) s e) : nmI tx s e = -1 := by
  unfold nmI
  rw [if_neg (fun q => h 0 (by omega) ((isW_lost tx s e).2 q))]
  rw [if_neg (fun q => h 1 (by omega) ((isW_state tx s e).2 q))]
  rw [if_neg (fun q => h 2 (by omega) ((isW_wet tx s e).2 q))]
  rw [if_neg (fun q => h 3 (by omega) ((isW_side tx s e).2 q))]
  rw [if_neg (fun q => h 4 (by omega) ((isW_stone tx s e).2 q))]
  rw [if_neg (fun q => h 5 (by omega) ((isW_age tx s e).2 q))]
  rw [if_neg (fun q => h 6 (by omega) ((isW_harm tx s e).2 q))]
theorem nmI_hit {tx : Int → Int} {s e i : Int} (hi : 0 ≤ i ∧ i < 7) (h : ∀ j : Nat, (j : Int) < i → ¬ isW tx (j + 0) s e) (hw : isW tx (i.toNat + 0) s e) : nmI tx s e = i := by
  unfold nmI
  rcases (show i = 0 ∨ i = 1 ∨ i = 2 ∨ i = 3 ∨ i = 4 ∨ i = 5 ∨ i = 6 by omega) with rfl | rfl | rfl | rfl | rfl | rfl | rfl
  · rw [if_pos ((isW_lost tx s e).1 hw)]
  · rw [if_neg (fun q => h 0 (by omega) ((isW_lost tx s e).2 q)), if_pos ((isW_state tx s e).1 hw)]
  · rw [if_neg (fun q => h 0 (by omega) ((isW_lost tx s e).2 q)), if_neg (fun q => h 1 (by omega) ((isW_state tx s e).2 q)), if_pos ((isW_wet tx s e).1 hw)]
  · rw [if_neg (fun q => h 0 (by omega) ((isW_lost tx s e).2 q)), if_neg (fun q => h 1 (by omega) ((isW_state tx s e).2 q)), if_neg (fun q => h 2 (by omega) ((isW_wet tx s e).2 q)), if_pos ((isW_side tx s e).1 hw)]
  · rw [if_neg (fun q => h 0 (by omega) ((isW_lost tx s e).2 q)), if_neg (fun q => h 1 (by omega) ((isW_state tx s e).2 q)), if_neg (fun q => h 2 (by omega) ((isW_wet tx s e).2 q)), if_neg (fun q => h 3 (by omega) ((isW_side tx s e).2 q)), if_pos ((isW_stone tx s e).1 hw)]
  · rw [if_neg (fun q => h 0 (by omega) ((isW_lost tx s e).2 q)), if_neg (fun q => h 1 (by omega) ((isW_state tx s e).2 q)), if_neg (fun q => h 2 (by omega) ((isW_wet tx s e).2 q)), if_neg (fun q => h 3 (by omega) ((isW_side tx s e).2 q)), if_neg (fun q => h 4 (by omega) ((isW_stone tx s e).2 q)), if_pos ((isW_age tx s e).1 hw)]
  · rw [if_neg (fun q => h 0 (by omega) ((isW_lost tx s e).2 q)), if_neg (fun q => h 1 (by omega) ((isW_state tx s e).2 q)), if_neg (fun q => h 2 (by omega) ((isW_wet tx s e).2 q)), if_neg (fun q => h 3 (by omega) ((isW_side tx s e).2 q)), if_neg (fun q => h 4 (by omega) ((isW_stone tx s e).2 q)), if_neg (fun q => h 5 (by omega) ((isW_age tx s e).2 q)), if_pos ((isW_harm tx s e).1 hw)]
theorem acI_none {tx : Int → Int} {s e : Int} (h : ∀ j : Nat, j < 3 → ¬ isW tx (j + 7) s e) : acI tx s e = -1 := by
  unfold acI
  rw [if_neg (fun q => h 0 (by omega) ((isW_leave tx s e).2 q))]
  rw [if_neg (fun q => h 1 (by omega) ((isW_mend tx s e).2 q))]
  rw [if_neg (fun q => h 2 (by omega) ((isW_change tx s e).2 q))]
theorem acI_hit {tx : Int → Int} {s e i : Int} (hi : 0 ≤ i ∧ i < 3) (h : ∀ j : Nat, (j : Int) < i → ¬ isW tx (j + 7) s e) (hw : isW tx (i.toNat + 7) s e) : acI tx s e = i := by
  unfold acI
  rcases (show i = 0 ∨ i = 1 ∨ i = 2 by omega) with rfl | rfl | rfl
  · rw [if_pos ((isW_leave tx s e).1 hw)]
  · rw [if_neg (fun q => h 0 (by omega) ((isW_leave tx s e).2 q)), if_pos ((isW_mend tx s e).1 hw)]
  · rw [if_neg (fun q => h 0 (by omega) ((isW_leave tx s e).2 q)), if_neg (fun q => h 1 (by omega) ((isW_mend tx s e).2 q)), if_pos ((isW_change tx s e).1 hw)]
theorem nmI_rng (tx : Int → Int) (s e : Int) : -1 ≤ nmI tx s e ∧ nmI tx s e ≤ 6 := by unfold nmI; (repeat' split) <;> omega
theorem acI_rng (tx : Int → Int) (s e : Int) : -1 ≤ acI tx s e ∧ acI tx s e ≤ 2 := by unfold acI; (repeat' split) <;> omega
set_option maxHeartbeats 4000000 in
set_option maxRecDepth 100000 in
theorem c_J0_coder_7d493 (D : va_G) (kI kJ : Nat) (K V : Nat → Nat) (o : Option Nat) (l : Launch) (w : Nat) (hw : w < 10) : yMi D kI kJ K V o l yJ0_coder_7d493 wsJ0_coder_7d493 1 32 0 0 [.ref (K w)] [] (fun (z : Int) (u : Unit) => z = 0) (fun (u : Unit) => []) := by
  refine yMi_of (cc := cJ0_coder_7d493) (maxL := 1) (rt := .byte) (by decide) rfl (Nat.le_of_ble_eq_true rfl) (fun z u hp => by rw [hp]; exact nar_byte0) ?_
  intro p e s m args below meth c A Q F hY hin2 hret
  have hw0 : Cond.fieldLink RJ0 38 "java/lang/String" "COMPACT_STRINGS" "Z" ∈ wsJ0_coder_7d493 := by decide +kernel
  have hw1 : Cond.fieldLink RJ0 15 "java/lang/String" "coder" "B" ∈ wsJ0_coder_7d493 := by decide +kernel
  refine x_lveq (lv' := [(0, .ref (K w))]) rfl ?_
  refine y_gets F hY.2.2.1 hw0 dJ0_coder_7d493_0 ?_
  refine x_if_eq (tgt := 13) F dJ0_coder_7d493_3 (by decide) (by omega) (fun c3 => ?_) (fun c3 => ?_)
  · exact absurd c3 (by decide)
  · -- 3 f
    refine x_aload_n F dJ0_coder_7d493_6 rfl 0 rfl ?_
    refine y_coder F hY w (by omega) hw1 dJ0_coder_7d493_7 ?_
    refine x_goto (tgt := 14) F dJ0_coder_7d493_10 (by decide) ?_
    exact hret 0 0 14 _ 0 () (Nat.le_of_ble_eq_true rfl) (Nat.le_of_ble_eq_true rfl) dJ0_coder_7d493_14 (rfl)
set_option maxHeartbeats 4000000 in
set_option maxRecDepth 100000 in
theorem c_J0_isLatin1_aae02 (D : va_G) (kI kJ : Nat) (K V : Nat → Nat) (o : Option Nat) (l : Launch) (w : Nat) (hw : w < 10) : yMi D kI kJ K V o l yJ0_isLatin1_aae02 wsJ0_isLatin1_aae02 1 32 0 0 [.ref (K w)] [] (fun (z : Int) (u : Unit) => z = 1) (fun (u : Unit) => []) := by
  refine yMi_of (cc := cJ0_isLatin1_aae02) (maxL := 1) (rt := .boolean) (by decide) rfl (Nat.le_of_ble_eq_true rfl) (fun z u hp => by rw [hp]; rfl) ?_
  intro p e s m args below meth c A Q F hY hin2 hret
  have hw0 : Cond.fieldLink RJ0 38 "java/lang/String" "COMPACT_STRINGS" "Z" ∈ wsJ0_isLatin1_aae02 := by decide +kernel
  have hw1 : Cond.fieldLink RJ0 15 "java/lang/String" "coder" "B" ∈ wsJ0_isLatin1_aae02 := by decide +kernel
  refine x_lveq (lv' := [(0, .ref (K w))]) rfl ?_
  refine y_gets F hY.2.2.1 hw0 dJ0_isLatin1_aae02_0 ?_
  refine x_if_eq (tgt := 17) F dJ0_isLatin1_aae02_3 (by decide) (by omega) (fun c3 => ?_) (fun c3 => ?_)
  · exact absurd c3 (by decide)
  · -- 3 f
    refine x_aload_n F dJ0_isLatin1_aae02_6 rfl 0 rfl ?_
    refine y_coder F hY w (by omega) hw1 dJ0_isLatin1_aae02_7 ?_
    refine x_if_ne (tgt := 17) F dJ0_isLatin1_aae02_10 (by decide) (by omega) (fun c10 => ?_) (fun c10 => ?_)
    · exact absurd rfl c10
    · -- 10 f
      refine x_iconst F dJ0_isLatin1_aae02_13 ?_
      refine x_goto (tgt := 18) F dJ0_isLatin1_aae02_14 (by decide) ?_
      exact hret 0 0 18 _ 1 () (Nat.le_of_ble_eq_true rfl) (Nat.le_of_ble_eq_true rfl) dJ0_isLatin1_aae02_18 (rfl)
set_option maxHeartbeats 4000000 in
set_option maxRecDepth 100000 in
theorem c_J0_length_8abf5 (D : va_G) (kI kJ : Nat) (K V : Nat → Nat) (o : Option Nat) (l : Launch) (w : Nat) (hw : w < 10) : yMi D kI kJ K V o l yJ0_length_8abf5 wsJ0_length_8abf5 2 52 0 0 [.ref (K w)] [] (fun (z : Int) (u : Unit) => z = wLn w) (fun (u : Unit) => []) := by
  refine yMi_of (cc := cJ0_length_8abf5) (maxL := 1) (rt := .int) (by decide) rfl (Nat.le_of_ble_eq_true rfl) (fun _ _ _ => rfl) ?_
  intro p e s m args below meth c A Q F hY hin2 hret
  have hw0 : Cond.fieldLink RJ0 9 "java/lang/String" "value" "[B" ∈ wsJ0_length_8abf5 := by decide +kernel
  refine x_lveq (lv' := [(0, .ref (K w))]) rfl ?_
  refine x_aload_n F dJ0_length_8abf5_0 rfl 0 rfl ?_
  refine y_value F hY w (by omega) hw0 dJ0_length_8abf5_1 ?_
  refine y_alen F hY w (by omega) dJ0_length_8abf5_4 ?_
  refine x_aload_n F dJ0_length_8abf5_5 rfl 0 rfl ?_
  refine y_callYi (As := []) (st := [.int (jI (wLn w))]) F hY (c_J0_coder_7d493 D kI kJ K V o l w hw) (cwV 0 F.2.2.2.2.1 gJ0_length_8abf5_J0_coder_7d493 rfl rfl rfl (by decide +kernel) ⟨Nat.le_of_ble_eq_true rfl, Nat.le_of_ble_eq_true rfl⟩) (i := w) (by omega) rfl rfl [] [] [] rfl rfl (by decide) (by decide) (by decide) (fun _ => rfl) (by decide) rfl (Nat.le_of_ble_eq_true rfl) dJ0_length_8abf5_6 ⟨Nat.le_of_ble_eq_true rfl, Nat.le_of_ble_eq_true rfl⟩ (fun z6 u6 h6 => ?_)
  try dsimp only at h6
  refine x_ws [] rfl ?_
  have he6 := h6
  have he6 := he6.symm
  subst he6
  refine x_ishr F (wLn w) dJ0_length_8abf5_9 (sh0_at (wLn_rng w)) ?_
  exact hret 0 0 10 _ (wLn w) () (Nat.le_of_ble_eq_true rfl) (Nat.le_of_ble_eq_true rfl) dJ0_length_8abf5_10 (rfl)
set_option maxHeartbeats 4000000 in
set_option maxRecDepth 100000 in
theorem c_J3_checkIndex_n (D : va_G) (kI kJ : Nat) (l : Launch) (i : Int) (n : Int) (hi : 0 ≤ i ∧ i < n) (hn : n < 1000) : xMi D kI kJ l yJ3_checkIndex_8e157 wsJ3_checkIndex_8e157 1 32 0 0 [.int (jI i), .int (jI n), .null] [] (fun (z : Int) (u : Unit) => z = i) (fun (u : Unit) => []) := by
  refine xMi_of (cc := cJ3_checkIndex_8e157) (maxL := 3) (rt := .int) (by decide) rfl (Nat.le_of_ble_eq_true rfl) (fun _ _ _ => rfl) ?_
  intro p e s m args below meth c A Q F hin2 hret
  refine x_lveq (lv' := [(0, .int (jI i)), (1, .int (jI n)), (2, .null)]) rfl ?_
  refine x_iload_n F dJ3_checkIndex_8e157_0 rfl 0 rfl ?_
  refine x_if_lt (tgt := 9) F dJ3_checkIndex_8e157_1 (by decide) (by omega) (fun c1 => ?_) (fun c1 => ?_)
  · exact absurd c1 (by omega)
  · -- 1 f
    refine x_iload_n F dJ3_checkIndex_8e157_4 rfl 0 rfl ?_
    refine x_iload_n F dJ3_checkIndex_8e157_5 rfl 1 rfl ?_
    refine x_icmp_lt (tgt := 16) F dJ3_checkIndex_8e157_6 (by decide) (by omega) (fun c6 => ?_) (fun c6 => ?_)
    · -- 6 t
      refine x_iload_n F dJ3_checkIndex_8e157_16 rfl 0 rfl ?_
      exact hret 0 0 17 _ i () (Nat.le_of_ble_eq_true rfl) (Nat.le_of_ble_eq_true rfl) dJ3_checkIndex_8e157_17 (rfl)
    · exact absurd hi.2 c6
set_option maxHeartbeats 4000000 in
set_option maxRecDepth 100000 in
theorem c_J3_checkIndex_r (D : va_G) (kI kJ : Nat) (l : Launch) (i : Int) (n : Int) (fo : Nat) (hi : 0 ≤ i ∧ i < n) (hn : n < 1000) : xMi D kI kJ l yJ3_checkIndex_8e157 wsJ3_checkIndex_8e157 1 32 0 0 [.int (jI i), .int (jI n), .ref fo] [] (fun (z : Int) (u : Unit) => z = i) (fun (u : Unit) => []) := by
  refine xMi_of (cc := cJ3_checkIndex_8e157) (maxL := 3) (rt := .int) (by decide) rfl (Nat.le_of_ble_eq_true rfl) (fun _ _ _ => rfl) ?_
  intro p e s m args below meth c A Q F hin2 hret
  refine x_lveq (lv' := [(0, .int (jI i)), (1, .int (jI n)), (2, .ref fo)]) rfl ?_
  refine x_iload_n F dJ3_checkIndex_8e157_0 rfl 0 rfl ?_
  refine x_if_lt (tgt := 9) F dJ3_checkIndex_8e157_1 (by decide) (by omega) (fun c1 => ?_) (fun c1 => ?_)
  · exact absurd c1 (by omega)
  · -- 1 f
    refine x_iload_n F dJ3_checkIndex_8e157_4 rfl 0 rfl ?_
    refine x_iload_n F dJ3_checkIndex_8e157_5 rfl 1 rfl ?_
    refine x_icmp_lt (tgt := 16) F dJ3_checkIndex_8e157_6 (by decide) (by omega) (fun c6 => ?_) (fun c6 => ?_)
    · -- 6 t
      refine x_iload_n F dJ3_checkIndex_8e157_16 rfl 0 rfl ?_
      exact hret 0 0 17 _ i () (Nat.le_of_ble_eq_true rfl) (Nat.le_of_ble_eq_true rfl) dJ3_checkIndex_8e157_17 (rfl)
    · exact absurd hi.2 c6
set_option maxHeartbeats 4000000 in
set_option maxRecDepth 100000 in
theorem c_J0_checkIndex_n (D : va_G) (kI kJ : Nat) (K V : Nat → Nat) (l : Launch) (i : Int) (n : Int) (hi : 0 ≤ i ∧ i < n) (hn : n < 1000) : yMv D kI kJ K V none l yJ0_checkIndex_df160 wsJ0_checkIndex_df160 2 54 0 0 [.int (jI i), .int (jI n)] [] (fun (u : Unit) => True) (fun (u : Unit) => []) := by
  refine yMv_of (cc := cJ0_checkIndex_df160) (maxL := 2) (by decide) rfl (Nat.le_of_ble_eq_true rfl) ?_
  intro p e s m args below meth c A Q F hY hin2 hret
  have hw0 : Cond.fieldLink RJ0 1053 "jdk/internal/util/Preconditions" "SIOOBE_FORMATTER" "Ljava/util/function/BiFunction;" ∈ wsJ0_checkIndex_df160 := by decide +kernel
  refine x_lveq (lv' := [(0, .int (jI i)), (1, .int (jI n))]) rfl ?_
  refine x_iload_n F dJ0_checkIndex_df160_0 rfl 0 rfl ?_
  refine x_iload_n F dJ0_checkIndex_df160_1 rfl 1 rfl ?_
  refine y_gets F hY.2.2.2 hw0 dJ0_checkIndex_df160_2 ?_
  refine x_callSi (As := [.int (jI i), .int (jI n), .null]) (st := []) F (c_J3_checkIndex_n D kI kJ l i n hi hn) (va_cwS 3 F.2.2.2.2.1 gJ0_checkIndex_df160_J3_checkIndex_8e157 rfl rfl rfl (by decide +kernel) ⟨Nat.le_of_ble_eq_true rfl, Nat.le_of_ble_eq_true rfl⟩) [] [] [] rfl rfl (by decide) (by decide) (by decide) (fun _ => rfl) (by decide) rfl (Nat.le_of_ble_eq_true rfl) dJ0_checkIndex_df160_5 ⟨Nat.le_of_ble_eq_true rfl, Nat.le_of_ble_eq_true rfl⟩ (fun z5 u5 h5 => ?_)
  try dsimp only at h5
  refine x_ws [] rfl ?_
  have he5 := h5
  have he5 := he5.symm
  subst he5
  refine x_pop F dJ0_checkIndex_df160_8 rfl ?_
  exact hret 0 0 9 _ () (Nat.le_of_ble_eq_true rfl) (Nat.le_of_ble_eq_true rfl) dJ0_checkIndex_df160_9 (trivial)
set_option maxHeartbeats 4000000 in
set_option maxRecDepth 100000 in
theorem c_J0_checkIndex_r (D : va_G) (kI kJ : Nat) (K V : Nat → Nat) (l : Launch) (i : Int) (n : Int) (to : Nat) (hi : 0 ≤ i ∧ i < n) (hn : n < 1000) : yMv D kI kJ K V (some to) l yJ0_checkIndex_df160 wsJ0_checkIndex_df160 2 54 0 0 [.int (jI i), .int (jI n)] [] (fun (u : Unit) => True) (fun (u : Unit) => []) := by
  refine yMv_of (cc := cJ0_checkIndex_df160) (maxL := 2) (by decide) rfl (Nat.le_of_ble_eq_true rfl) ?_
  intro p e s m args below meth c A Q F hY hin2 hret
  have hw0 : Cond.fieldLink RJ0 1053 "jdk/internal/util/Preconditions" "SIOOBE_FORMATTER" "Ljava/util/function/BiFunction;" ∈ wsJ0_checkIndex_df160 := by decide +kernel
  refine x_lveq (lv' := [(0, .int (jI i)), (1, .int (jI n))]) rfl ?_
  refine x_iload_n F dJ0_checkIndex_df160_0 rfl 0 rfl ?_
  refine x_iload_n F dJ0_checkIndex_df160_1 rfl 1 rfl ?_
  refine y_gets F hY.2.2.2 hw0 dJ0_checkIndex_df160_2 ?_
  refine x_callSi (As := [.int (jI i), .int (jI n), .ref to]) (st := []) F (c_J3_checkIndex_r D kI kJ l i n to hi hn) (va_cwS 3 F.2.2.2.2.1 gJ0_checkIndex_df160_J3_checkIndex_8e157 rfl rfl rfl (by decide +kernel) ⟨Nat.le_of_ble_eq_true rfl, Nat.le_of_ble_eq_true rfl⟩) [] [] [] rfl rfl (by decide) (by decide) (by decide) (fun _ => rfl) (by decide) rfl (Nat.le_of_ble_eq_true rfl) dJ0_checkIndex_df160_5 ⟨Nat.le_of_ble_eq_true rfl, Nat.le_of_ble_eq_true rfl⟩ (fun z5 u5 h5 => ?_)
  try dsimp only at h5
  refine x_ws [] rfl ?_
  have he5 := h5
  have he5 := he5.symm
  subst he5
  refine x_pop F dJ0_checkIndex_df160_8 rfl ?_
  exact hret 0 0 9 _ () (Nat.le_of_ble_eq_true rfl) (Nat.le_of_ble_eq_true rfl) dJ0_checkIndex_df160_9 (trivial)
theorem c_J0_checkIndex_df160 (D : va_G) (kI kJ : Nat) (K V : Nat → Nat) (o : Option Nat) (l : Launch) (i n : Int) (hi : 0 ≤ i ∧ i < n) (hn : n < 1000) : yMv D kI kJ K V o l yJ0_checkIndex_df160 wsJ0_checkIndex_df160 2 54 0 0 [.int (jI i), .int (jI n)] [] (fun (u : Unit) => True) (fun (u : Unit) => []) := by
  cases o with
  | none => exact c_J0_checkIndex_n D kI kJ K V l i n hi hn
  | some t => exact c_J0_checkIndex_r D kI kJ K V l i n t hi hn
set_option maxHeartbeats 4000000 in
set_option maxRecDepth 100000 in
theorem c_J1_charAt_3b067 (D : va_G) (kI kJ : Nat) (K V : Nat → Nat) (o : Option Nat) (l : Launch) (i : Int) (w : Nat) (hw : w < 10) (hi : 0 ≤ i ∧ i < wLn w) : yMi D kI kJ K V o l yJ1_charAt_3b067 wsJ1_charAt_3b067 3 75 0 0 [.ref (V w), .int (jI i)] [] (fun (z : Int) (u : Unit) => z = wCh w i) (fun (u : Unit) => []) := by
  refine yMi_of (cc := cJ1_charAt_3b067) (maxL := 2) (rt := .char) (by decide) rfl (Nat.le_of_ble_eq_true rfl) (fun z u hp => by rw [hp]; exact nar_char (by have := wCh_rng w hw hi; omega)) ?_
  intro p e s m args below meth c A Q F hY hin2 hret
  refine x_lveq (lv' := [(0, .ref (V w)), (1, .int (jI i))]) rfl ?_
  have hl6 := wLn_rng w
  have hc7 := wCh_rng w hw hi
  refine x_iload_n F dJ1_charAt_3b067_0 rfl 1 rfl ?_
  refine x_aload_n F dJ1_charAt_3b067_1 rfl 0 rfl ?_
  refine y_alen F hY w (by omega) dJ1_charAt_3b067_2 ?_
  refine y_callSv (As := [.int (jI i), .int (jI (wLn w))]) (st := []) F hY (c_J0_checkIndex_df160 D kI kJ K V o l i (wLn w) (by omega) (by omega)) (va_cwS 2 F.2.2.2.2.1 gJ1_charAt_3b067_J0_checkIndex_df160 rfl rfl rfl (by decide +kernel) ⟨Nat.le_of_ble_eq_true rfl, Nat.le_of_ble_eq_true rfl⟩) [] [] [] rfl rfl (by decide) (by decide) (by decide) (fun _ => rfl) (by decide) rfl (Nat.le_of_ble_eq_true rfl) dJ1_charAt_3b067_3 ⟨Nat.le_of_ble_eq_true rfl, Nat.le_of_ble_eq_true rfl⟩ (fun u3 h3 => ?_)
  try dsimp only at h3
  refine x_ws [] rfl ?_
  refine x_aload_n F dJ1_charAt_3b067_6 rfl 0 rfl ?_
  refine x_iload_n F dJ1_charAt_3b067_7 rfl 1 rfl ?_
  refine y_bald F hY w (by omega) (by omega) dJ1_charAt_3b067_8 ?_
  refine x_sipush F dJ1_charAt_3b067_9 (by decide) ?_
  refine x_iand F (wCh w i) dJ1_charAt_3b067_12 (an255 hc7) ?_
  refine x_i2c F (by omega) dJ1_charAt_3b067_13 ?_
  exact hret 0 0 14 _ (wCh w i) () (Nat.le_of_ble_eq_true rfl) (Nat.le_of_ble_eq_true rfl) dJ1_charAt_3b067_14 (rfl)
set_option maxHeartbeats 4000000 in
set_option maxRecDepth 100000 in
theorem c_J0_charAt_5068e (D : va_G) (kI kJ : Nat) (K V : Nat → Nat) (o : Option Nat) (l : Launch) (i : Int) (w : Nat) (hw : w < 10) (hi : 0 ≤ i ∧ i < wLn w) : yMi D kI kJ K V o l yJ0_charAt_5068e wsJ0_charAt_5068e 4 96 0 0 [.ref (K w), .int (jI i)] [] (fun (z : Int) (u : Unit) => z = wCh w i) (fun (u : Unit) => []) := by
  refine yMi_of (cc := cJ0_charAt_5068e) (maxL := 2) (rt := .char) (by decide) rfl (Nat.le_of_ble_eq_true rfl) (fun z u hp => by rw [hp]; exact nar_char (by have := wCh_rng w hw hi; omega)) ?_
  intro p e s m args below meth c A Q F hY hin2 hret
  have hw0 : Cond.fieldLink RJ0 9 "java/lang/String" "value" "[B" ∈ wsJ0_charAt_5068e := by decide +kernel
  refine x_lveq (lv' := [(0, .ref (K w)), (1, .int (jI i))]) rfl ?_
  refine x_aload_n F dJ0_charAt_5068e_0 rfl 0 rfl ?_
  refine y_callYi (As := []) (st := []) F hY (c_J0_isLatin1_aae02 D kI kJ K V o l w hw) (cwV 0 F.2.2.2.2.1 gJ0_charAt_5068e_J0_isLatin1_aae02 rfl rfl rfl (by decide +kernel) ⟨Nat.le_of_ble_eq_true rfl, Nat.le_of_ble_eq_true rfl⟩) (i := w) (by omega) rfl rfl [] [] [] rfl rfl (by decide) (by decide) (by decide) (fun _ => rfl) (by decide) rfl (Nat.le_of_ble_eq_true rfl) dJ0_charAt_5068e_1 ⟨Nat.le_of_ble_eq_true rfl, Nat.le_of_ble_eq_true rfl⟩ (fun z1 u1 h1 => ?_)
  try dsimp only at h1
  refine x_ws [] rfl ?_
  have he1 := h1
  have he1 := he1.symm
  subst he1
  refine x_if_eq (tgt := 16) F dJ0_charAt_5068e_4 (by decide) (by omega) (fun c4 => ?_) (fun c4 => ?_)
  · exact absurd c4 (by decide)
  · -- 4 f
    refine x_aload_n F dJ0_charAt_5068e_7 rfl 0 rfl ?_
    refine y_value F hY w (by omega) hw0 dJ0_charAt_5068e_8 ?_
    refine x_iload_n F dJ0_charAt_5068e_11 rfl 1 rfl ?_
    refine y_callSi (As := [.ref (V w), .int (jI i)]) (st := []) F hY (c_J1_charAt_3b067 D kI kJ K V o l i w hw hi) (va_cwS 2 F.2.2.2.2.1 gJ0_charAt_5068e_J1_charAt_3b067 rfl rfl rfl (by decide +kernel) ⟨Nat.le_of_ble_eq_true rfl, Nat.le_of_ble_eq_true rfl⟩) [] [] [] rfl rfl (by decide) (by decide) (by decide) (fun _ => rfl) (by decide) rfl (Nat.le_of_ble_eq_true rfl) dJ0_charAt_5068e_12 ⟨Nat.le_of_ble_eq_true rfl, Nat.le_of_ble_eq_true rfl⟩ (fun z12 u12 h12 => ?_)
    try dsimp only at h12
    refine x_ws [] rfl ?_
    have he12 := h12
    have he12 := he12.symm
    subst he12
    exact hret 0 0 15 _ (wCh w i) () (Nat.le_of_ble_eq_true rfl) (Nat.le_of_ble_eq_true rfl) dJ0_charAt_5068e_15 (rfl)
