/-! ===== BEGIN words of one list among another's, by their places ===== -/
theorem goodIn_r {big : List Cond} (ws : List Cond) (ps : List Nat) (hp : ws = ps.filterMap (fun i => big[i]?)) (h : ws.all goodWord = true) : GoodIn big ws := by
  intro w hw
  have h1 := List.all_eq_true.mp h w hw
  rw [hp] at hw
  obtain ⟨i, -, hi⟩ := List.mem_filterMap.mp hw
  have hm : w ∈ big := by first | exact List.mem_of_getElem? hi | exact List.getElem?_mem hi
  exact ⟨hm, good_of_word h1⟩
theorem goodIn_app {big a b : List Cond} (ha : GoodIn big a) (hb : GoodIn big b) : GoodIn big (a ++ b) := fun w h => (List.mem_append.mp h).elim (ha w) (hb w)
theorem goodIn_ca {big a b : List Cond} {c : Cond} (ha : GoodIn big (c :: a)) (hb : GoodIn big b) : GoodIn big (c :: (a ++ b)) := fun w h => (List.mem_cons.mp h).elim (fun e => ha w (List.mem_cons.mpr (Or.inl e))) (fun h => (List.mem_append.mp h).elim (fun h => ha w (List.mem_cons.mpr (Or.inr h))) (hb w))
theorem goodIn_sub {big ws : List Cond} (hm : ∀ w ∈ ws, w ∈ big) (h : ws.all goodWord = true) : GoodIn big ws := fun w hw => ⟨hm w hw, good_of_word (List.all_eq_true.mp h w hw)⟩
/-! ===== END ===== -/

/-! ===== BEGIN printed: names, fields, word lists, decode rows ===== -/
def RX0 : String := "StoneKeep$Course"
def TX0 : u_T := fun k => match k with
  | 0 => ("StoneKeep$Course", "placed", "[I", true)
  | 1 => ("StoneKeep$Course", "wrong", "[I", true)
  | 2 => ("StoneKeep$Course", "lost", "[I", true)
  | _ => ("StoneKeep$Course", "danger", "I", false)
def tyX0 : Nat → FieldType := fun k => match k with
  | 0 => .array .int
  | 1 => .array .int
  | 2 => .array .int
  | _ => .int
abbrev wsX00 : List Cond := u_ws RX0 TX0 4
theorem nmX0 : ∀ a, a < 4 → ∀ b, b < 4 → a ≠ b → (TX0 a).2.1 ≠ (TX0 b).2.1 := by decide +kernel
theorem tyX0_ok : ∀ k, k < 4 → parseFieldDescriptor (TX0 k).2.2.1 = some (tyX0 k) := by decide +kernel
abbrev cX0_init : ByteArray := prog_2_method_1_code
def yX0_init : MethodName := ⟨RX0, "<init>", "()V"⟩
abbrev cX0_follow : ByteArray := prog_2_method_2_code
def yX0_follow : MethodName := ⟨RX0, "follow", "(LStoneKeep$Monument;I)V"⟩
abbrev cX0_sideAt : ByteArray := prog_2_method_3_code
def yX0_sideAt : MethodName := ⟨RX0, "sideAt", "(I)I"⟩
abbrev cX0_wetAt : ByteArray := prog_2_method_4_code
def yX0_wetAt : MethodName := ⟨RX0, "wetAt", "(I)I"⟩
abbrev cX0_zoneAt : ByteArray := prog_2_method_5_code
def yX0_zoneAt : MethodName := ⟨RX0, "zoneAt", "(I)I"⟩
abbrev cX0_harmAt : ByteArray := prog_2_method_6_code
def yX0_harmAt : MethodName := ⟨RX0, "harmAt", "(I)I"⟩
abbrev cX0_lostAt : ByteArray := prog_2_method_7_code
def yX0_lostAt : MethodName := ⟨RX0, "lostAt", "(I)I"⟩
def RX1 : String := "StoneKeep$Fraction"
def TX1 : u_T := fun k => match k with
  | 0 => ("StoneKeep$Fraction", "upper", "J", false)
  | _ => ("StoneKeep$Fraction", "lower", "J", false)
def tyX1 : Nat → FieldType := fun k => match k with
  | 0 => .long
  | _ => .long
abbrev wsX10 : List Cond := u_ws RX1 TX1 2
theorem nmX1 : ∀ a, a < 2 → ∀ b, b < 2 → a ≠ b → (TX1 a).2.1 ≠ (TX1 b).2.1 := by decide +kernel
theorem tyX1_ok : ∀ k, k < 2 → parseFieldDescriptor (TX1 k).2.2.1 = some (tyX1 k) := by decide +kernel
abbrev cX1_init : ByteArray := prog_3_method_1_code
def yX1_init : MethodName := ⟨RX1, "<init>", "()V"⟩
def RX2 : String := "StoneKeep$Looks"
def TX2 : u_T := fun k => match k with
  | 0 => ("StoneKeep$Looks", "blocks", "[I", true)
  | 1 => ("StoneKeep$Looks", "hands", "[I", true)
  | 2 => ("StoneKeep$Looks", "years", "[I", true)
  | 3 => ("StoneKeep$Looks", "grades", "[I", true)
  | 4 => ("StoneKeep$Looks", "sums", "[I", true)
  | 5 => ("StoneKeep$Looks", "pairs", "[I", true)
  | 6 => ("StoneKeep$Looks", "seen", "[I", true)
  | 7 => ("StoneKeep$Looks", "size", "I", false)
  | 8 => ("StoneKeep$Looks", "doubles", "I", false)
  | _ => ("StoneKeep$Looks", "learned", "I", false)
def tyX2 : Nat → FieldType := fun k => match k with
  | 0 => .array .int
  | 1 => .array .int
  | 2 => .array .int
  | 3 => .array .int
  | 4 => .array .int
  | 5 => .array .int
  | 6 => .array .int
  | 7 => .int
  | 8 => .int
  | _ => .int
abbrev wsX20 : List Cond := u_ws RX2 TX2 10
theorem nmX2 : ∀ a, a < 10 → ∀ b, b < 10 → a ≠ b → (TX2 a).2.1 ≠ (TX2 b).2.1 := by decide +kernel
theorem tyX2_ok : ∀ k, k < 10 → parseFieldDescriptor (TX2 k).2.2.1 = some (tyX2 k) := by decide +kernel
abbrev cX2_init : ByteArray := prog_4_method_1_code
def yX2_init : MethodName := ⟨RX2, "<init>", "()V"⟩
abbrev cX2_countDoubles : ByteArray := prog_4_method_5_code
def yX2_countDoubles : MethodName := ⟨RX2, "countDoubles", "()I"⟩
abbrev cX2_learnHabits : ByteArray := prog_4_method_9_code
def yX2_learnHabits : MethodName := ⟨RX2, "learnHabits", "(I)V"⟩
abbrev cX2_areDouble : ByteArray := prog_4_method_10_code
def yX2_areDouble : MethodName := ⟨RX2, "areDouble", "(II)Z"⟩
abbrev cX2_countFor : ByteArray := prog_4_method_11_code
def yX2_countFor : MethodName := ⟨RX2, "countFor", "([III)V"⟩
def RX3 : String := "StoneKeep$Monument"
def TX3 : u_T := fun k => match k with
  | 0 => ("StoneKeep$Monument", "stones", "[I", true)
  | 1 => ("StoneKeep$Monument", "laid", "[I", true)
  | 2 => ("StoneKeep$Monument", "deeps", "[I", true)
  | 3 => ("StoneKeep$Monument", "rates", "[I", true)
  | 4 => ("StoneKeep$Monument", "placings", "LStoneKeep$Rulings;", true)
  | 5 => ("StoneKeep$Monument", "mortars", "LStoneKeep$Rulings;", true)
  | 6 => ("StoneKeep$Monument", "dangers", "[I", true)
  | 7 => ("StoneKeep$Monument", "losses", "[I", true)
  | 8 => ("StoneKeep$Monument", "size", "I", false)
  | _ => ("StoneKeep$Monument", "limit", "I", false)
def tyX3 : Nat → FieldType := fun k => match k with
  | 0 => .array .int
  | 1 => .array .int
  | 2 => .array .int
  | 3 => .array .int
  | 4 => .object "StoneKeep$Rulings"
  | 5 => .object "StoneKeep$Rulings"
  | 6 => .array .int
  | 7 => .array .int
  | 8 => .int
  | _ => .int
abbrev wsX30 : List Cond := u_ws RX3 TX3 10
theorem nmX3 : ∀ a, a < 10 → ∀ b, b < 10 → a ≠ b → (TX3 a).2.1 ≠ (TX3 b).2.1 := by decide +kernel
theorem tyX3_ok : ∀ k, k < 10 → parseFieldDescriptor (TX3 k).2.2.1 = some (tyX3 k) := by decide +kernel
abbrev cX3_init : ByteArray := prog_5_method_1_code
def yX3_init : MethodName := ⟨RX3, "<init>", "()V"⟩
abbrev cX3_addBlock : ByteArray := prog_5_method_2_code
def yX3_addBlock : MethodName := ⟨RX3, "addBlock", "(III)I"⟩
abbrev cX3_hasBlock : ByteArray := prog_5_method_3_code
def yX3_hasBlock : MethodName := ⟨RX3, "hasBlock", "(I)Z"⟩
abbrev cX3_stoneOf : ByteArray := prog_5_method_5_code
def yX3_stoneOf : MethodName := ⟨RX3, "stoneOf", "(I)I"⟩
abbrev cX3_laidOf : ByteArray := prog_5_method_6_code
def yX3_laidOf : MethodName := ⟨RX3, "laidOf", "(I)I"⟩
abbrev cX3_deepOf : ByteArray := prog_5_method_7_code
def yX3_deepOf : MethodName := ⟨RX3, "deepOf", "(I)I"⟩
abbrev cX3_rateOf : ByteArray := prog_5_method_8_code
def yX3_rateOf : MethodName := ⟨RX3, "rateOf", "(II)I"⟩
abbrev cX3_changeRate : ByteArray := prog_5_method_9_code
def yX3_changeRate : MethodName := ⟨RX3, "changeRate", "(III)I"⟩
abbrev cX3_changeLimit : ByteArray := prog_5_method_10_code
def yX3_changeLimit : MethodName := ⟨RX3, "changeLimit", "(I)I"⟩
abbrev cX3_isDanger : ByteArray := prog_5_method_11_code
def yX3_isDanger : MethodName := ⟨RX3, "isDanger", "(II)Z"⟩
def RX4 : String := "StoneKeep$Plan"
def TX4 : u_T := fun k => match k with
  | 0 => ("StoneKeep$Plan", "blocks", "[I", true)
  | 1 => ("StoneKeep$Plan", "costs", "[I", true)
  | 2 => ("StoneKeep$Plan", "zones", "[I", true)
  | 3 => ("StoneKeep$Plan", "neglects", "[I", true)
  | 4 => ("StoneKeep$Plan", "chosen", "[I", true)
  | 5 => ("StoneKeep$Plan", "best", "[I", true)
  | 6 => ("StoneKeep$Plan", "spent", "[I", true)
  | 7 => ("StoneKeep$Plan", "scaffolds", "[I", true)
  | 8 => ("StoneKeep$Plan", "size", "I", false)
  | 9 => ("StoneKeep$Plan", "start", "I", false)
  | 10 => ("StoneKeep$Plan", "span", "I", false)
  | 11 => ("StoneKeep$Plan", "coin", "I", false)
  | _ => ("StoneKeep$Plan", "least", "I", false)
def tyX4 : Nat → FieldType := fun k => match k with
  | 0 => .array .int
  | 1 => .array .int
  | 2 => .array .int
  | 3 => .array .int
  | 4 => .array .int
  | 5 => .array .int
  | 6 => .array .int
  | 7 => .array .int
  | 8 => .int
  | 9 => .int
  | 10 => .int
  | 11 => .int
  | _ => .int
abbrev wsX40 : List Cond := u_ws RX4 TX4 13
theorem nmX4 : ∀ a, a < 13 → ∀ b, b < 13 → a ≠ b → (TX4 a).2.1 ≠ (TX4 b).2.1 := by decide +kernel
theorem tyX4_ok : ∀ k, k < 13 → parseFieldDescriptor (TX4 k).2.2.1 = some (tyX4 k) := by decide +kernel
abbrev cX4_init : ByteArray := prog_6_method_1_code
def yX4_init : MethodName := ⟨RX4, "<init>", "()V"⟩
def RX5 : String := "StoneKeep$Reader"
def TX5 : u_T := fun k => match k with
  | 0 => ("StoneKeep$Reader", "text", "[I", true)
  | 1 => ("StoneKeep$Reader", "size", "I", false)
  | 2 => ("StoneKeep$Reader", "next", "I", false)
  | 3 => ("StoneKeep$Reader", "fault", "I", false)
  | 4 => ("StoneKeep$Reader", "faultAt", "I", false)
  | 5 => ("StoneKeep$Reader", "rule", "LStoneKeep$Rule;", false)
  | _ => ("StoneKeep$Reader", "draft", "LStoneKeep$Rule;", false)
def tyX5 : Nat → FieldType := fun k => match k with
  | 0 => .array .int
  | 1 => .int
  | 2 => .int
  | 3 => .int
  | 4 => .int
  | 5 => .object "StoneKeep$Rule"
  | _ => .object "StoneKeep$Rule"
abbrev wsX50 : List Cond := u_ws RX5 TX5 7
theorem nmX5 : ∀ a, a < 7 → ∀ b, b < 7 → a ≠ b → (TX5 a).2.1 ≠ (TX5 b).2.1 := by decide +kernel
theorem tyX5_ok : ∀ k, k < 7 → parseFieldDescriptor (TX5 k).2.2.1 = some (tyX5 k) := by decide +kernel
abbrev cX5_init : ByteArray := prog_7_method_1_code
def yX5_init : MethodName := ⟨RX5, "<init>", "()V"⟩
def RX6 : String := "StoneKeep$Rule"
def TX6 : u_T := fun k => match k with
  | 0 => ("StoneKeep$Rule", "names", "[I", true)
  | 1 => ("StoneKeep$Rule", "signs", "[I", true)
  | 2 => ("StoneKeep$Rule", "numbers", "[I", true)
  | 3 => ("StoneKeep$Rule", "tests", "[I", true)
  | 4 => ("StoneKeep$Rule", "acts", "[I", true)
  | _ => ("StoneKeep$Rule", "clauses", "I", false)
def tyX6 : Nat → FieldType := fun k => match k with
  | 0 => .array .int
  | 1 => .array .int
  | 2 => .array .int
  | 3 => .array .int
  | 4 => .array .int
  | _ => .int
abbrev wsX60 : List Cond := u_ws RX6 TX6 6
theorem nmX6 : ∀ a, a < 6 → ∀ b, b < 6 → a ≠ b → (TX6 a).2.1 ≠ (TX6 b).2.1 := by decide +kernel
theorem tyX6_ok : ∀ k, k < 6 → parseFieldDescriptor (TX6 k).2.2.1 = some (tyX6 k) := by decide +kernel
abbrev cX6_init : ByteArray := prog_8_method_1_code
def yX6_init : MethodName := ⟨RX6, "<init>", "()V"⟩
def RX7 : String := "StoneKeep$Rulings"
def TX7 : u_T := fun k => match k with
  | 0 => ("StoneKeep$Rulings", "blocks", "[I", true)
  | 1 => ("StoneKeep$Rulings", "years", "[I", true)
  | 2 => ("StoneKeep$Rulings", "values", "[I", true)
  | 3 => ("StoneKeep$Rulings", "since", "[I", true)
  | _ => ("StoneKeep$Rulings", "size", "I", false)
def tyX7 : Nat → FieldType := fun k => match k with
  | 0 => .array .int
  | 1 => .array .int
  | 2 => .array .int
  | 3 => .array .int
  | _ => .int
abbrev wsX70 : List Cond := u_ws RX7 TX7 5
theorem nmX7 : ∀ a, a < 5 → ∀ b, b < 5 → a ≠ b → (TX7 a).2.1 ≠ (TX7 b).2.1 := by decide +kernel
theorem tyX7_ok : ∀ k, k < 5 → parseFieldDescriptor (TX7 k).2.2.1 = some (tyX7 k) := by decide +kernel
abbrev cX7_init : ByteArray := prog_9_method_1_code
def yX7_init : MethodName := ⟨RX7, "<init>", "()V"⟩
abbrev cX7_add : ByteArray := prog_9_method_2_code
def yX7_add : MethodName := ⟨RX7, "add", "(III)I"⟩
abbrev cX7_spread : ByteArray := prog_9_method_3_code
def yX7_spread : MethodName := ⟨RX7, "spread", "(I[I)V"⟩
abbrev cX7_spreadFrom : ByteArray := prog_9_method_4_code
def yX7_spreadFrom : MethodName := ⟨RX7, "spreadFrom", "(II[I)V"⟩
def RX8 : String := "StoneKeep$Stocks"
def TX8 : u_T := fun k => match k with
  | 0 => ("StoneKeep$Stocks", "stones", "[I", true)
  | 1 => ("StoneKeep$Stocks", "strengths", "[I", true)
  | 2 => ("StoneKeep$Stocks", "pores", "[I", true)
  | 3 => ("StoneKeep$Stocks", "colours", "[I", true)
  | 4 => ("StoneKeep$Stocks", "pieces", "[I", true)
  | _ => ("StoneKeep$Stocks", "size", "I", false)
def tyX8 : Nat → FieldType := fun k => match k with
  | 0 => .array .int
  | 1 => .array .int
  | 2 => .array .int
  | 3 => .array .int
  | 4 => .array .int
  | _ => .int
abbrev wsX80 : List Cond := u_ws RX8 TX8 6
theorem nmX8 : ∀ a, a < 6 → ∀ b, b < 6 → a ≠ b → (TX8 a).2.1 ≠ (TX8 b).2.1 := by decide +kernel
theorem tyX8_ok : ∀ k, k < 6 → parseFieldDescriptor (TX8 k).2.2.1 = some (tyX8 k) := by decide +kernel
abbrev cX8_init : ByteArray := prog_10_method_1_code
def yX8_init : MethodName := ⟨RX8, "<init>", "()V"⟩
abbrev cX8_countPieces : ByteArray := prog_10_method_3_code
def yX8_countPieces : MethodName := ⟨RX8, "countPieces", "()I"⟩
def RX9 : String := "StoneKeep"
def TX9 : u_T := fun k => match k with
  | 0 => ("StoneKeep", "monument", "LStoneKeep$Monument;", true)
  | 1 => ("StoneKeep", "course", "LStoneKeep$Course;", true)
  | 2 => ("StoneKeep", "looks", "LStoneKeep$Looks;", true)
  | 3 => ("StoneKeep", "fraction", "LStoneKeep$Fraction;", true)
  | 4 => ("StoneKeep", "reader", "LStoneKeep$Reader;", true)
  | 5 => ("StoneKeep", "facts", "[I", true)
  | 6 => ("StoneKeep", "plan", "LStoneKeep$Plan;", true)
  | _ => ("StoneKeep", "stocks", "LStoneKeep$Stocks;", true)
def tyX9 : Nat → FieldType := fun k => match k with
  | 0 => .object "StoneKeep$Monument"
  | 1 => .object "StoneKeep$Course"
  | 2 => .object "StoneKeep$Looks"
  | 3 => .object "StoneKeep$Fraction"
  | 4 => .object "StoneKeep$Reader"
  | 5 => .array .int
  | 6 => .object "StoneKeep$Plan"
  | _ => .object "StoneKeep$Stocks"
abbrev wsX90 : List Cond := u_ws RX9 TX9 8
theorem nmX9 : ∀ a, a < 8 → ∀ b, b < 8 → a ≠ b → (TX9 a).2.1 ≠ (TX9 b).2.1 := by decide +kernel
theorem tyX9_ok : ∀ k, k < 8 → parseFieldDescriptor (TX9 k).2.2.1 = some (tyX9 k) := by decide +kernel
abbrev cX9_init : ByteArray := prog_1_method_1_code
def yX9_init : MethodName := ⟨RX9, "<init>", "()V"⟩
abbrev cX9_block : ByteArray := prog_1_method_2_code
def yX9_block : MethodName := ⟨RX9, "block", "(III)I"⟩
abbrev cX9_place : ByteArray := prog_1_method_3_code
def yX9_place : MethodName := ⟨RX9, "place", "(IIIII)I"⟩
abbrev cX9_mortar : ByteArray := prog_1_method_4_code
def yX9_mortar : MethodName := ⟨RX9, "mortar", "(IIZ)I"⟩
abbrev cX9_rate : ByteArray := prog_1_method_5_code
def yX9_rate : MethodName := ⟨RX9, "rate", "(IIII)I"⟩
abbrev cX9_limit : ByteArray := prog_1_method_6_code
def yX9_limit : MethodName := ⟨RX9, "limit", "(I)I"⟩
abbrev cX9_told : ByteArray := prog_1_method_7_code
def yX9_told : MethodName := ⟨RX9, "told", "(III)I"⟩
abbrev cX9_count : ByteArray := prog_1_method_8_code
def yX9_count : MethodName := ⟨RX9, "count", "(I)I"⟩
abbrev cX9_isBelow : ByteArray := prog_1_method_23_code
def yX9_isBelow : MethodName := ⟨RX9, "isBelow", "(II)Z"⟩
abbrev cX9_isSpot : ByteArray := prog_1_method_24_code
def yX9_isSpot : MethodName := ⟨RX9, "isSpot", "(II)Z"⟩
abbrev cX9_spot : ByteArray := prog_1_method_26_code
def yX9_spot : MethodName := ⟨RX9, "spot", "(II)I"⟩
abbrev cX9_at : ByteArray := prog_1_method_28_code
def yX9_at : MethodName := ⟨RX9, "at", "([II)I"⟩
def RX10 : String := "StoneKeepModel"
def TX10 : u_T := fun k => match k with
  | _ => ("", "", "", false)
def tyX10 : Nat → FieldType := fun k => match k with
  | _ => .int
abbrev wsX100 : List Cond := u_ws RX10 TX10 0
theorem nmX10 : ∀ a, a < 0 → ∀ b, b < 0 → a ≠ b → (TX10 a).2.1 ≠ (TX10 b).2.1 := by decide +kernel
theorem tyX10_ok : ∀ k, k < 0 → parseFieldDescriptor (TX10 k).2.2.1 = some (tyX10 k) := by decide +kernel
def RJ9 : String := "java/lang/Math"
def TJ9 : u_T := fun k => match k with
  | _ => ("", "", "", false)
def tyJ9 : Nat → FieldType := fun k => match k with
  | _ => .int
abbrev wsJ90 : List Cond := u_ws RJ9 TJ9 0
theorem nmJ9 : ∀ a, a < 0 → ∀ b, b < 0 → a ≠ b → (TJ9 a).2.1 ≠ (TJ9 b).2.1 := by decide +kernel
theorem tyJ9_ok : ∀ k, k < 0 → parseFieldDescriptor (TJ9 k).2.2.1 = some (tyJ9 k) := by decide +kernel
abbrev cJ9_max_7cf53 : ByteArray := prog_13_method_65_code
def yJ9_max_7cf53 : MethodName := ⟨RJ9, "max", "(II)I"⟩
def RJ7 : String := "java/util/Arrays"
def TJ7 : u_T := fun k => match k with
  | _ => ("", "", "", false)
def tyJ7 : Nat → FieldType := fun k => match k with
  | _ => .int
abbrev wsJ70 : List Cond := u_ws RJ7 TJ7 0
theorem nmJ7 : ∀ a, a < 0 → ∀ b, b < 0 → a ≠ b → (TJ7 a).2.1 ≠ (TJ7 b).2.1 := by decide +kernel
theorem tyJ7_ok : ∀ k, k < 0 → parseFieldDescriptor (TJ7 k).2.2.1 = some (tyJ7 k) := by decide +kernel
abbrev cJ7_fill_53178 : ByteArray := prog_14_method_103_code
def yJ7_fill_53178 : MethodName := ⟨RJ7, "fill", "([II)V"⟩
def RL : String := "StoneKeepLaw"
abbrev cL_cell : ByteArray := method_2_code
def yL_cell : MethodName := ⟨RL, "cell", "([II)I"⟩
abbrev cL_some : ByteArray := method_3_code
def yL_some : MethodName := ⟨RL, "some", "([III)I"⟩
abbrev cL_build : ByteArray := method_4_code
def yL_build : MethodName := ⟨RL, "build", "(LStoneKeep;[II)I"⟩
abbrev cL_law : ByteArray := code
def yL_law : MethodName := ⟨RL, "law", "([I)Z"⟩
def wsX0_init : List Cond := .code yX0_init cX0_init 1 none :: ([.methodLink RX0 3 objectInit, .instanceMethod objectInit, .code objectInit ⟨#[0xb1]⟩ 1 none, .arrayClass .int, .fieldLink RX0 9 "StoneKeep$Course" "placed" "[I", .fieldLink RX0 15 "StoneKeep$Course" "wrong" "[I", .fieldLink RX0 18 "StoneKeep$Course" "lost" "[I", .fieldLink RX0 21 "StoneKeep$Course" "danger" "I"] ++ wsX00)
def wsJ7_fill_53178 : List Cond := .code yJ7_fill_53178 cJ7_fill_53178 4 none :: ([])
def wsX7_spreadFrom : List Cond := .code yX7_spreadFrom cX7_spreadFrom 5 none :: ([.methodLink RX7 42 Lib.Math.max.name, .static Lib.Math.max.name, .initialized "java/lang/Math", .code Lib.Math.max.name Lib.Math.max.code 2 (some .int), .fieldLink RX7 21 "StoneKeep$Rulings" "since" "[I"] ++ wsX70)
def wsX7_spread : List Cond := .code yX7_spread cX7_spread 4 none :: ([.fieldLink RX7 21 "StoneKeep$Rulings" "since" "[I", .fieldLink RX7 24 "StoneKeep$Rulings" "size" "I", .fieldLink RX7 9 "StoneKeep$Rulings" "blocks" "[I", .fieldLink RX7 15 "StoneKeep$Rulings" "years" "[I", .fieldLink RX7 18 "StoneKeep$Rulings" "values" "[I", .methodLink RX7 32 yJ7_fill_53178, .static yJ7_fill_53178, .initialized RJ7, .code yJ7_fill_53178 cJ7_fill_53178 4 none, .methodLink RX7 38 yX7_spreadFrom, .instanceMethod yX7_spreadFrom, .selects RX7 yX7_spreadFrom yX7_spreadFrom, .initialized RX7, .code yX7_spreadFrom cX7_spreadFrom 5 none, .methodLink RX7 42 Lib.Math.max.name, .static Lib.Math.max.name, .initialized "java/lang/Math", .code Lib.Math.max.name Lib.Math.max.code 2 (some .int)] ++ wsX70)
def wsX9_at : List Cond := .code yX9_at cX9_at 2 (some .int) :: ([])
def wsX3_stoneOf : List Cond := .code yX3_stoneOf cX3_stoneOf 2 (some .int) :: ([.fieldLink RX3 9 "StoneKeep$Monument" "stones" "[I", .static yX9_at, .initialized RX9, .code yX9_at cX9_at 2 (some .int)] ++ wsX30)
def wsX3_laidOf : List Cond := .code yX3_laidOf cX3_laidOf 2 (some .int) :: ([.fieldLink RX3 15 "StoneKeep$Monument" "laid" "[I", .static yX9_at, .initialized RX9, .code yX9_at cX9_at 2 (some .int)] ++ wsX30)
def wsX3_deepOf : List Cond := .code yX3_deepOf cX3_deepOf 2 (some .int) :: ([.fieldLink RX3 18 "StoneKeep$Monument" "deeps" "[I", .static yX9_at, .initialized RX9, .code yX9_at cX9_at 2 (some .int)] ++ wsX30)
def wsX3_isDanger : List Cond := .code yX3_isDanger cX3_isDanger 3 (some .boolean) :: ([.fieldLink RX3 40 "StoneKeep$Monument" "limit" "I", .methodLink RX3 61 yX3_deepOf, .instanceMethod yX3_deepOf, .selects RX3 yX3_deepOf yX3_deepOf, .initialized RX3, .code yX3_deepOf cX3_deepOf 2 (some .int), .fieldLink RX3 18 "StoneKeep$Monument" "deeps" "[I", .static yX9_at, .initialized RX9, .code yX9_at cX9_at 2 (some .int)] ++ wsX30)
def wsX3_rateOf : List Cond := .code yX3_rateOf cX3_rateOf 3 (some .int) :: ([.fieldLink RX3 21 "StoneKeep$Monument" "rates" "[I", .static yX9_at, .initialized RX9, .code yX9_at cX9_at 2 (some .int)] ++ wsX30)
def wsX0_follow_r1 : List Cond := [Cond.fieldLink RX0 9 "StoneKeep$Course" "placed" "[I", Cond.fieldLink RX0 15 "StoneKeep$Course" "wrong" "[I", Cond.fieldLink RX0 21 "StoneKeep$Course" "danger" "I", Cond.fieldLink RX0 18 "StoneKeep$Course" "lost" "[I", Cond.methodLink RX0 31 yX7_spread, Cond.instanceMethod yX7_spread, Cond.selects RX7 yX7_spread yX7_spread, Cond.initialized RX7, Cond.code yX7_spread cX7_spread 4 none, Cond.fieldLink RX7 21 "StoneKeep$Rulings" "since" "[I", Cond.fieldLink RX7 24 "StoneKeep$Rulings" "size" "I", Cond.fieldLink RX7 9 "StoneKeep$Rulings" "blocks" "[I", Cond.fieldLink RX7 15 "StoneKeep$Rulings" "years" "[I", Cond.fieldLink RX7 18 "StoneKeep$Rulings" "values" "[I", Cond.methodLink RX7 32 yJ7_fill_53178, Cond.static yJ7_fill_53178, Cond.initialized RJ7, Cond.code yJ7_fill_53178 cJ7_fill_53178 4 none, Cond.methodLink RX7 38 yX7_spreadFrom, Cond.instanceMethod yX7_spreadFrom, Cond.selects RX7 yX7_spreadFrom yX7_spreadFrom, Cond.code yX7_spreadFrom cX7_spreadFrom 5 none, Cond.methodLink RX7 42 Lib.Math.max.name, Cond.static Lib.Math.max.name]
def wsX0_follow_r2 : List Cond := [Cond.initialized "java/lang/Math", Cond.code Lib.Math.max.name Lib.Math.max.code 2 (some .int), Cond.methodLink RX0 40 yX3_stoneOf, Cond.instanceMethod yX3_stoneOf, Cond.selects RX3 yX3_stoneOf yX3_stoneOf, Cond.initialized RX3, Cond.code yX3_stoneOf cX3_stoneOf 2 (some .int), Cond.fieldLink RX3 9 "StoneKeep$Monument" "stones" "[I", Cond.static yX9_at, Cond.initialized RX9, Cond.code yX9_at cX9_at 2 (some .int), Cond.methodLink RX0 44 yX3_laidOf, Cond.instanceMethod yX3_laidOf, Cond.selects RX3 yX3_laidOf yX3_laidOf, Cond.code yX3_laidOf cX3_laidOf 2 (some .int), Cond.fieldLink RX3 15 "StoneKeep$Monument" "laid" "[I", Cond.methodLink RX0 47 yX3_isDanger, Cond.instanceMethod yX3_isDanger, Cond.selects RX3 yX3_isDanger yX3_isDanger, Cond.code yX3_isDanger cX3_isDanger 3 (some .boolean), Cond.fieldLink RX3 40 "StoneKeep$Monument" "limit" "I", Cond.methodLink RX3 61 yX3_deepOf, Cond.instanceMethod yX3_deepOf, Cond.selects RX3 yX3_deepOf yX3_deepOf]
def wsX0_follow_r3 : List Cond := [Cond.code yX3_deepOf cX3_deepOf 2 (some .int), Cond.fieldLink RX3 18 "StoneKeep$Monument" "deeps" "[I", Cond.methodLink RX0 51 yX3_rateOf, Cond.instanceMethod yX3_rateOf, Cond.selects RX3 yX3_rateOf yX3_rateOf, Cond.code yX3_rateOf cX3_rateOf 3 (some .int), Cond.fieldLink RX3 21 "StoneKeep$Monument" "rates" "[I"]
def wsX0_follow : List Cond := .code yX0_follow cX0_follow 7 none :: ((wsX0_follow_r1 ++ (wsX0_follow_r2 ++ wsX0_follow_r3)) ++ wsX30 ++ wsX00 ++ wsX70)
def wsX0_sideAt : List Cond := .code yX0_sideAt cX0_sideAt 2 (some .int) :: ([.fieldLink RX0 9 "StoneKeep$Course" "placed" "[I", .static yX9_at, .initialized RX9, .code yX9_at cX9_at 2 (some .int)] ++ wsX00)
def wsX0_wetAt : List Cond := .code yX0_wetAt cX0_wetAt 2 (some .int) :: ([.fieldLink RX0 9 "StoneKeep$Course" "placed" "[I", .static yX9_at, .initialized RX9, .code yX9_at cX9_at 2 (some .int)] ++ wsX00)
def wsX0_zoneAt : List Cond := .code yX0_zoneAt cX0_zoneAt 2 (some .int) :: ([.fieldLink RX0 9 "StoneKeep$Course" "placed" "[I", .static yX9_at, .initialized RX9, .code yX9_at cX9_at 2 (some .int)] ++ wsX00)
def wsX0_harmAt : List Cond := .code yX0_harmAt cX0_harmAt 2 (some .int) :: ([.fieldLink RX0 15 "StoneKeep$Course" "wrong" "[I", .static yX9_at, .initialized RX9, .code yX9_at cX9_at 2 (some .int)] ++ wsX00)
def wsX0_lostAt : List Cond := .code yX0_lostAt cX0_lostAt 2 (some .int) :: ([.fieldLink RX0 18 "StoneKeep$Course" "lost" "[I", .static yX9_at, .initialized RX9, .code yX9_at cX9_at 2 (some .int)] ++ wsX00)
def wsX1_init : List Cond := .code yX1_init cX1_init 1 none :: ([.methodLink RX1 1 objectInit, .instanceMethod objectInit, .code objectInit ⟨#[0xb1]⟩ 1 none, .fieldLink RX1 7 "StoneKeep$Fraction" "lower" "J"] ++ wsX10)
def wsX2_init : List Cond := .code yX2_init cX2_init 1 none :: ([.methodLink RX2 3 objectInit, .instanceMethod objectInit, .code objectInit ⟨#[0xb1]⟩ 1 none, .arrayClass .int, .fieldLink RX2 9 "StoneKeep$Looks" "blocks" "[I", .fieldLink RX2 15 "StoneKeep$Looks" "hands" "[I", .fieldLink RX2 18 "StoneKeep$Looks" "years" "[I", .fieldLink RX2 21 "StoneKeep$Looks" "grades" "[I", .fieldLink RX2 24 "StoneKeep$Looks" "sums" "[I", .fieldLink RX2 27 "StoneKeep$Looks" "pairs" "[I", .fieldLink RX2 30 "StoneKeep$Looks" "seen" "[I"] ++ wsX20)
def wsX2_areDouble : List Cond := .code yX2_areDouble cX2_areDouble 3 (some .boolean) :: ([.fieldLink RX2 9 "StoneKeep$Looks" "blocks" "[I", .fieldLink RX2 18 "StoneKeep$Looks" "years" "[I", .fieldLink RX2 15 "StoneKeep$Looks" "hands" "[I", .static yX9_at, .initialized RX9, .code yX9_at cX9_at 2 (some .int)] ++ wsX20)
def wsX9_isBelow : List Cond := .code yX9_isBelow cX9_isBelow 2 (some .boolean) :: ([])
def wsX2_countFor : List Cond := .code yX2_countFor cX2_countFor 3 none :: ([.static yX9_isBelow, .initialized RX9, .code yX9_isBelow cX9_isBelow 2 (some .boolean)])
def wsX2_learnHabits_r1 : List Cond := [Cond.fieldLink RX2 90 "StoneKeep$Looks" "learned" "I", Cond.fieldLink RX2 24 "StoneKeep$Looks" "sums" "[I", Cond.fieldLink RX2 27 "StoneKeep$Looks" "pairs" "[I", Cond.fieldLink RX2 54 "StoneKeep$Looks" "doubles" "I", Cond.fieldLink RX2 21 "StoneKeep$Looks" "grades" "[I", Cond.fieldLink RX2 15 "StoneKeep$Looks" "hands" "[I", Cond.methodLink RX2 73 yJ7_fill_53178, Cond.static yJ7_fill_53178, Cond.initialized RJ7, Cond.code yJ7_fill_53178 cJ7_fill_53178 4 none, Cond.methodLink RX2 93 yX2_areDouble, Cond.instanceMethod yX2_areDouble, Cond.selects RX2 yX2_areDouble yX2_areDouble, Cond.initialized RX2, Cond.code yX2_areDouble cX2_areDouble 3 (some .boolean), Cond.fieldLink RX2 9 "StoneKeep$Looks" "blocks" "[I", Cond.fieldLink RX2 18 "StoneKeep$Looks" "years" "[I", Cond.static yX9_at, Cond.initialized RX9, Cond.code yX9_at cX9_at 2 (some .int), Cond.methodLink RX2 79 yX2_countFor, Cond.static yX2_countFor, Cond.code yX2_countFor cX2_countFor 3 none, Cond.static yX9_isBelow]
def wsX2_learnHabits_r2 : List Cond := [Cond.code yX9_isBelow cX9_isBelow 2 (some .boolean)]
def wsX2_learnHabits : List Cond := .code yX2_learnHabits cX2_learnHabits 5 none :: ((wsX2_learnHabits_r1 ++ wsX2_learnHabits_r2) ++ wsX20)
def wsX2_countDoubles_r1 : List Cond := [Cond.fieldLink RX2 33 "StoneKeep$Looks" "size" "I", Cond.fieldLink RX2 54 "StoneKeep$Looks" "doubles" "I", Cond.methodLink RX2 50 yX2_learnHabits, Cond.instanceMethod yX2_learnHabits, Cond.selects RX2 yX2_learnHabits yX2_learnHabits, Cond.initialized RX2, Cond.code yX2_learnHabits cX2_learnHabits 5 none, Cond.fieldLink RX2 90 "StoneKeep$Looks" "learned" "I", Cond.fieldLink RX2 24 "StoneKeep$Looks" "sums" "[I", Cond.fieldLink RX2 27 "StoneKeep$Looks" "pairs" "[I", Cond.fieldLink RX2 21 "StoneKeep$Looks" "grades" "[I", Cond.fieldLink RX2 15 "StoneKeep$Looks" "hands" "[I", Cond.methodLink RX2 73 yJ7_fill_53178, Cond.static yJ7_fill_53178, Cond.initialized RJ7, Cond.code yJ7_fill_53178 cJ7_fill_53178 4 none, Cond.methodLink RX2 93 yX2_areDouble, Cond.instanceMethod yX2_areDouble, Cond.selects RX2 yX2_areDouble yX2_areDouble, Cond.code yX2_areDouble cX2_areDouble 3 (some .boolean), Cond.fieldLink RX2 9 "StoneKeep$Looks" "blocks" "[I", Cond.fieldLink RX2 18 "StoneKeep$Looks" "years" "[I", Cond.static yX9_at, Cond.initialized RX9]
def wsX2_countDoubles_r2 : List Cond := [Cond.code yX9_at cX9_at 2 (some .int), Cond.methodLink RX2 79 yX2_countFor, Cond.static yX2_countFor, Cond.code yX2_countFor cX2_countFor 3 none, Cond.static yX9_isBelow, Cond.code yX9_isBelow cX9_isBelow 2 (some .boolean)]
def wsX2_countDoubles : List Cond := .code yX2_countDoubles cX2_countDoubles 1 (some .int) :: ((wsX2_countDoubles_r1 ++ wsX2_countDoubles_r2) ++ wsX20)
def wsX7_init : List Cond := .code yX7_init cX7_init 1 none :: ([.methodLink RX7 3 objectInit, .instanceMethod objectInit, .code objectInit ⟨#[0xb1]⟩ 1 none, .arrayClass .int, .fieldLink RX7 9 "StoneKeep$Rulings" "blocks" "[I", .fieldLink RX7 15 "StoneKeep$Rulings" "years" "[I", .fieldLink RX7 18 "StoneKeep$Rulings" "values" "[I", .fieldLink RX7 21 "StoneKeep$Rulings" "since" "[I"] ++ wsX70)
def wsX3_init_r1 : List Cond := [Cond.methodLink RX3 3 objectInit, Cond.instanceMethod objectInit, Cond.code objectInit ⟨#[0xb1]⟩ 1 none, Cond.arrayClass .int, Cond.fieldLink RX3 9 "StoneKeep$Monument" "stones" "[I", Cond.fieldLink RX3 15 "StoneKeep$Monument" "laid" "[I", Cond.fieldLink RX3 18 "StoneKeep$Monument" "deeps" "[I", Cond.fieldLink RX3 21 "StoneKeep$Monument" "rates" "[I", Cond.classLink RX3 24 RX7, Cond.instantiable RX7 5, Cond.initialized RX7, Cond.fieldLink RX3 27 "StoneKeep$Monument" "placings" "LStoneKeep$Rulings;", Cond.fieldLink RX3 31 "StoneKeep$Monument" "mortars" "LStoneKeep$Rulings;", Cond.fieldLink RX3 34 "StoneKeep$Monument" "dangers" "[I", Cond.fieldLink RX3 37 "StoneKeep$Monument" "losses" "[I", Cond.fieldLink RX3 40 "StoneKeep$Monument" "limit" "I", Cond.instanceMethod yX7_init, Cond.code yX7_init cX7_init 1 none, Cond.methodLink RX7 3 objectInit, Cond.fieldLink RX7 9 "StoneKeep$Rulings" "blocks" "[I", Cond.fieldLink RX7 15 "StoneKeep$Rulings" "years" "[I", Cond.fieldLink RX7 18 "StoneKeep$Rulings" "values" "[I", Cond.fieldLink RX7 21 "StoneKeep$Rulings" "since" "[I", Cond.methodLink RX3 44 yJ7_fill_53178]
def wsX3_init_r2 : List Cond := [Cond.static yJ7_fill_53178, Cond.initialized RJ7, Cond.code yJ7_fill_53178 cJ7_fill_53178 4 none]
def wsX3_init : List Cond := .code yX3_init cX3_init 1 none :: ((wsX3_init_r1 ++ wsX3_init_r2) ++ wsX30 ++ wsX70)
def wsX3_addBlock : List Cond := .code yX3_addBlock cX3_addBlock 4 (some .int) :: ([.fieldLink RX3 50 "StoneKeep$Monument" "size" "I", .fieldLink RX3 9 "StoneKeep$Monument" "stones" "[I", .fieldLink RX3 15 "StoneKeep$Monument" "laid" "[I", .fieldLink RX3 18 "StoneKeep$Monument" "deeps" "[I", .static yX9_isBelow, .initialized RX9, .code yX9_isBelow cX9_isBelow 2 (some .boolean)] ++ wsX30)
def wsX3_hasBlock : List Cond := .code yX3_hasBlock cX3_hasBlock 2 (some .boolean) :: ([.fieldLink RX3 50 "StoneKeep$Monument" "size" "I", .static yX9_isBelow, .initialized RX9, .code yX9_isBelow cX9_isBelow 2 (some .boolean)] ++ wsX30)
def wsX3_changeRate : List Cond := .code yX3_changeRate cX3_changeRate 6 (some .int) :: ([.fieldLink RX3 21 "StoneKeep$Monument" "rates" "[I", .static yX9_at, .initialized RX9, .code yX9_at cX9_at 2 (some .int), .static yX9_isBelow, .code yX9_isBelow cX9_isBelow 2 (some .boolean)] ++ wsX30)
def wsX3_changeLimit : List Cond := .code yX3_changeLimit cX3_changeLimit 3 (some .int) :: ([.fieldLink RX3 40 "StoneKeep$Monument" "limit" "I"] ++ wsX30)
def wsX4_init : List Cond := .code yX4_init cX4_init 1 none :: ([.methodLink RX4 3 objectInit, .instanceMethod objectInit, .code objectInit ⟨#[0xb1]⟩ 1 none, .arrayClass .int, .fieldLink RX4 9 "StoneKeep$Plan" "blocks" "[I", .fieldLink RX4 15 "StoneKeep$Plan" "costs" "[I", .fieldLink RX4 18 "StoneKeep$Plan" "zones" "[I", .fieldLink RX4 21 "StoneKeep$Plan" "neglects" "[I", .fieldLink RX4 24 "StoneKeep$Plan" "chosen" "[I", .fieldLink RX4 27 "StoneKeep$Plan" "best" "[I", .fieldLink RX4 30 "StoneKeep$Plan" "spent" "[I", .fieldLink RX4 33 "StoneKeep$Plan" "scaffolds" "[I"] ++ wsX40)
def wsX6_init : List Cond := .code yX6_init cX6_init 1 none :: ([.methodLink RX6 3 objectInit, .instanceMethod objectInit, .code objectInit ⟨#[0xb1]⟩ 1 none, .arrayClass .int, .fieldLink RX6 9 "StoneKeep$Rule" "names" "[I", .fieldLink RX6 15 "StoneKeep$Rule" "signs" "[I", .fieldLink RX6 18 "StoneKeep$Rule" "numbers" "[I", .fieldLink RX6 21 "StoneKeep$Rule" "tests" "[I", .fieldLink RX6 24 "StoneKeep$Rule" "acts" "[I"] ++ wsX60)
def wsX5_init : List Cond := .code yX5_init cX5_init 1 none :: ([.methodLink RX5 3 objectInit, .instanceMethod objectInit, .code objectInit ⟨#[0xb1]⟩ 1 none, .arrayClass .int, .fieldLink RX5 9 "StoneKeep$Reader" "text" "[I", .fieldLink RX5 15 "StoneKeep$Reader" "faultAt" "I", .classLink RX5 19 RX6, .instantiable RX6 6, .initialized RX6, .fieldLink RX5 22 "StoneKeep$Reader" "rule" "LStoneKeep$Rule;", .fieldLink RX5 26 "StoneKeep$Reader" "draft" "LStoneKeep$Rule;", .instanceMethod yX6_init, .code yX6_init cX6_init 1 none, .methodLink RX6 3 objectInit, .fieldLink RX6 9 "StoneKeep$Rule" "names" "[I", .fieldLink RX6 15 "StoneKeep$Rule" "signs" "[I", .fieldLink RX6 18 "StoneKeep$Rule" "numbers" "[I", .fieldLink RX6 21 "StoneKeep$Rule" "tests" "[I", .fieldLink RX6 24 "StoneKeep$Rule" "acts" "[I"] ++ wsX50 ++ wsX60)
def wsX7_add : List Cond := .code yX7_add cX7_add 4 (some .int) :: ([.fieldLink RX7 24 "StoneKeep$Rulings" "size" "I", .fieldLink RX7 9 "StoneKeep$Rulings" "blocks" "[I", .fieldLink RX7 15 "StoneKeep$Rulings" "years" "[I", .fieldLink RX7 18 "StoneKeep$Rulings" "values" "[I", .static yX9_isBelow, .initialized RX9, .code yX9_isBelow cX9_isBelow 2 (some .boolean)] ++ wsX70)
def wsX8_init : List Cond := .code yX8_init cX8_init 1 none :: ([.methodLink RX8 3 objectInit, .instanceMethod objectInit, .code objectInit ⟨#[0xb1]⟩ 1 none, .arrayClass .int, .fieldLink RX8 9 "StoneKeep$Stocks" "stones" "[I", .fieldLink RX8 15 "StoneKeep$Stocks" "strengths" "[I", .fieldLink RX8 18 "StoneKeep$Stocks" "pores" "[I", .fieldLink RX8 21 "StoneKeep$Stocks" "colours" "[I", .fieldLink RX8 24 "StoneKeep$Stocks" "pieces" "[I"] ++ wsX80)
def wsX8_countPieces : List Cond := .code yX8_countPieces cX8_countPieces 3 (some .int) :: ([.fieldLink RX8 27 "StoneKeep$Stocks" "size" "I", .fieldLink RX8 24 "StoneKeep$Stocks" "pieces" "[I"] ++ wsX80)
def wsX9_init_r1 : List Cond := [Cond.methodLink RX9 3 objectInit, Cond.instanceMethod objectInit, Cond.code objectInit ⟨#[0xb1]⟩ 1 none, Cond.classLink RX9 9 RX3, Cond.instantiable RX3 10, Cond.initialized RX3, Cond.fieldLink RX9 12 "StoneKeep" "monument" "LStoneKeep$Monument;", Cond.classLink RX9 16 RX0, Cond.instantiable RX0 4, Cond.initialized RX0, Cond.fieldLink RX9 19 "StoneKeep" "course" "LStoneKeep$Course;", Cond.classLink RX9 23 RX2, Cond.instantiable RX2 10, Cond.initialized RX2, Cond.fieldLink RX9 26 "StoneKeep" "looks" "LStoneKeep$Looks;", Cond.classLink RX9 30 RX1, Cond.instantiable RX1 2, Cond.initialized RX1, Cond.fieldLink RX9 33 "StoneKeep" "fraction" "LStoneKeep$Fraction;", Cond.classLink RX9 37 RX5, Cond.instantiable RX5 7, Cond.initialized RX5, Cond.fieldLink RX9 40 "StoneKeep" "reader" "LStoneKeep$Reader;", Cond.arrayClass .int]
def wsX9_init_r2 : List Cond := [Cond.fieldLink RX9 44 "StoneKeep" "facts" "[I", Cond.classLink RX9 48 RX4, Cond.instantiable RX4 13, Cond.initialized RX4, Cond.fieldLink RX9 51 "StoneKeep" "plan" "LStoneKeep$Plan;", Cond.classLink RX9 55 RX8, Cond.instantiable RX8 6, Cond.initialized RX8, Cond.fieldLink RX9 58 "StoneKeep" "stocks" "LStoneKeep$Stocks;", Cond.methodLink RX9 11 yX3_init, Cond.instanceMethod yX3_init, Cond.code yX3_init cX3_init 1 none, Cond.methodLink RX3 3 objectInit, Cond.fieldLink RX3 9 "StoneKeep$Monument" "stones" "[I", Cond.fieldLink RX3 15 "StoneKeep$Monument" "laid" "[I", Cond.fieldLink RX3 18 "StoneKeep$Monument" "deeps" "[I", Cond.fieldLink RX3 21 "StoneKeep$Monument" "rates" "[I", Cond.classLink RX3 24 RX7, Cond.instantiable RX7 5, Cond.initialized RX7, Cond.fieldLink RX3 27 "StoneKeep$Monument" "placings" "LStoneKeep$Rulings;", Cond.fieldLink RX3 31 "StoneKeep$Monument" "mortars" "LStoneKeep$Rulings;", Cond.fieldLink RX3 34 "StoneKeep$Monument" "dangers" "[I", Cond.fieldLink RX3 37 "StoneKeep$Monument" "losses" "[I"]
def wsX9_init_r3 : List Cond := [Cond.fieldLink RX3 40 "StoneKeep$Monument" "limit" "I", Cond.instanceMethod yX7_init, Cond.code yX7_init cX7_init 1 none, Cond.methodLink RX7 3 objectInit, Cond.fieldLink RX7 9 "StoneKeep$Rulings" "blocks" "[I", Cond.fieldLink RX7 15 "StoneKeep$Rulings" "years" "[I", Cond.fieldLink RX7 18 "StoneKeep$Rulings" "values" "[I", Cond.fieldLink RX7 21 "StoneKeep$Rulings" "since" "[I", Cond.methodLink RX3 44 yJ7_fill_53178, Cond.static yJ7_fill_53178, Cond.initialized RJ7, Cond.code yJ7_fill_53178 cJ7_fill_53178 4 none, Cond.instanceMethod yX0_init, Cond.code yX0_init cX0_init 1 none, Cond.methodLink RX0 3 objectInit, Cond.fieldLink RX0 9 "StoneKeep$Course" "placed" "[I", Cond.fieldLink RX0 15 "StoneKeep$Course" "wrong" "[I", Cond.fieldLink RX0 18 "StoneKeep$Course" "lost" "[I", Cond.fieldLink RX0 21 "StoneKeep$Course" "danger" "I", Cond.instanceMethod yX2_init, Cond.code yX2_init cX2_init 1 none, Cond.methodLink RX2 3 objectInit, Cond.fieldLink RX2 9 "StoneKeep$Looks" "blocks" "[I", Cond.fieldLink RX2 15 "StoneKeep$Looks" "hands" "[I"]
def wsX9_init_r4 : List Cond := [Cond.fieldLink RX2 18 "StoneKeep$Looks" "years" "[I", Cond.fieldLink RX2 21 "StoneKeep$Looks" "grades" "[I", Cond.fieldLink RX2 24 "StoneKeep$Looks" "sums" "[I", Cond.fieldLink RX2 27 "StoneKeep$Looks" "pairs" "[I", Cond.fieldLink RX2 30 "StoneKeep$Looks" "seen" "[I", Cond.instanceMethod yX1_init, Cond.code yX1_init cX1_init 1 none, Cond.methodLink RX1 1 objectInit, Cond.fieldLink RX1 7 "StoneKeep$Fraction" "lower" "J", Cond.instanceMethod yX5_init, Cond.code yX5_init cX5_init 1 none, Cond.methodLink RX5 3 objectInit, Cond.fieldLink RX5 9 "StoneKeep$Reader" "text" "[I", Cond.fieldLink RX5 15 "StoneKeep$Reader" "faultAt" "I", Cond.classLink RX5 19 RX6, Cond.instantiable RX6 6, Cond.initialized RX6, Cond.fieldLink RX5 22 "StoneKeep$Reader" "rule" "LStoneKeep$Rule;", Cond.fieldLink RX5 26 "StoneKeep$Reader" "draft" "LStoneKeep$Rule;", Cond.instanceMethod yX6_init, Cond.code yX6_init cX6_init 1 none, Cond.methodLink RX6 3 objectInit, Cond.fieldLink RX6 9 "StoneKeep$Rule" "names" "[I", Cond.fieldLink RX6 15 "StoneKeep$Rule" "signs" "[I"]
def wsX9_init_r5 : List Cond := [Cond.fieldLink RX6 18 "StoneKeep$Rule" "numbers" "[I", Cond.fieldLink RX6 21 "StoneKeep$Rule" "tests" "[I", Cond.fieldLink RX6 24 "StoneKeep$Rule" "acts" "[I", Cond.instanceMethod yX4_init, Cond.code yX4_init cX4_init 1 none, Cond.methodLink RX4 3 objectInit, Cond.fieldLink RX4 9 "StoneKeep$Plan" "blocks" "[I", Cond.fieldLink RX4 15 "StoneKeep$Plan" "costs" "[I", Cond.fieldLink RX4 18 "StoneKeep$Plan" "zones" "[I", Cond.fieldLink RX4 21 "StoneKeep$Plan" "neglects" "[I", Cond.fieldLink RX4 24 "StoneKeep$Plan" "chosen" "[I", Cond.fieldLink RX4 27 "StoneKeep$Plan" "best" "[I", Cond.fieldLink RX4 30 "StoneKeep$Plan" "spent" "[I", Cond.fieldLink RX4 33 "StoneKeep$Plan" "scaffolds" "[I", Cond.instanceMethod yX8_init, Cond.code yX8_init cX8_init 1 none, Cond.methodLink RX8 3 objectInit, Cond.fieldLink RX8 9 "StoneKeep$Stocks" "stones" "[I", Cond.fieldLink RX8 15 "StoneKeep$Stocks" "strengths" "[I", Cond.fieldLink RX8 18 "StoneKeep$Stocks" "pores" "[I", Cond.fieldLink RX8 21 "StoneKeep$Stocks" "colours" "[I", Cond.fieldLink RX8 24 "StoneKeep$Stocks" "pieces" "[I"]
def wsX9_init : List Cond := .code yX9_init cX9_init 1 none :: ((wsX9_init_r1 ++ (wsX9_init_r2 ++ (wsX9_init_r3 ++ (wsX9_init_r4 ++ wsX9_init_r5)))) ++ wsX30 ++ wsX90 ++ wsX00 ++ wsX20 ++ wsX10 ++ wsX50 ++ wsX40 ++ wsX80 ++ wsX70 ++ wsX60)
def wsX9_block : List Cond := .code yX9_block cX9_block 4 (some .int) :: ([.fieldLink RX9 12 "StoneKeep" "monument" "LStoneKeep$Monument;", .methodLink RX9 62 yX9_isBelow, .static yX9_isBelow, .initialized RX9, .code yX9_isBelow cX9_isBelow 2 (some .boolean), .methodLink RX9 66 yX3_addBlock, .instanceMethod yX3_addBlock, .selects RX3 yX3_addBlock yX3_addBlock, .initialized RX3, .code yX3_addBlock cX3_addBlock 4 (some .int), .fieldLink RX3 50 "StoneKeep$Monument" "size" "I", .fieldLink RX3 9 "StoneKeep$Monument" "stones" "[I", .fieldLink RX3 15 "StoneKeep$Monument" "laid" "[I", .fieldLink RX3 18 "StoneKeep$Monument" "deeps" "[I"] ++ wsX90 ++ wsX30)
def wsX9_isSpot : List Cond := .code yX9_isSpot cX9_isSpot 2 (some .boolean) :: ([.methodLink RX9 62 yX9_isBelow, .static yX9_isBelow, .initialized RX9, .code yX9_isBelow cX9_isBelow 2 (some .boolean)])
def wsX9_spot : List Cond := .code yX9_spot cX9_spot 2 (some .int) :: ([])
def wsX9_place_r1 : List Cond := [Cond.fieldLink RX9 12 "StoneKeep" "monument" "LStoneKeep$Monument;", Cond.methodLink RX9 70 yX3_hasBlock, Cond.instanceMethod yX3_hasBlock, Cond.selects RX3 yX3_hasBlock yX3_hasBlock, Cond.initialized RX3, Cond.code yX3_hasBlock cX3_hasBlock 2 (some .boolean), Cond.fieldLink RX3 50 "StoneKeep$Monument" "size" "I", Cond.static yX9_isBelow, Cond.initialized RX9, Cond.code yX9_isBelow cX9_isBelow 2 (some .boolean), Cond.methodLink RX9 62 yX9_isBelow, Cond.methodLink RX9 74 yX9_isSpot, Cond.static yX9_isSpot, Cond.code yX9_isSpot cX9_isSpot 2 (some .boolean), Cond.methodLink RX9 81 yX9_spot, Cond.static yX9_spot, Cond.code yX9_spot cX9_spot 2 (some .int), Cond.methodLink RX9 85 yX7_add, Cond.instanceMethod yX7_add, Cond.selects RX7 yX7_add yX7_add, Cond.initialized RX7, Cond.code yX7_add cX7_add 4 (some .int), Cond.fieldLink RX7 24 "StoneKeep$Rulings" "size" "I", Cond.fieldLink RX7 9 "StoneKeep$Rulings" "blocks" "[I"]
def wsX9_place_r2 : List Cond := [Cond.fieldLink RX7 15 "StoneKeep$Rulings" "years" "[I", Cond.fieldLink RX7 18 "StoneKeep$Rulings" "values" "[I"]
def wsX9_place : List Cond := .code yX9_place cX9_place 6 (some .int) :: ((wsX9_place_r1 ++ wsX9_place_r2) ++ wsX90 ++ wsX30 ++ wsX70)
def wsX9_mortar : List Cond := .code yX9_mortar cX9_mortar 4 (some .int) :: ([.fieldLink RX9 12 "StoneKeep" "monument" "LStoneKeep$Monument;", .methodLink RX9 70 yX3_hasBlock, .instanceMethod yX3_hasBlock, .selects RX3 yX3_hasBlock yX3_hasBlock, .initialized RX3, .code yX3_hasBlock cX3_hasBlock 2 (some .boolean), .fieldLink RX3 50 "StoneKeep$Monument" "size" "I", .static yX9_isBelow, .initialized RX9, .code yX9_isBelow cX9_isBelow 2 (some .boolean), .methodLink RX9 62 yX9_isBelow, .methodLink RX9 85 yX7_add, .instanceMethod yX7_add, .selects RX7 yX7_add yX7_add, .initialized RX7, .code yX7_add cX7_add 4 (some .int), .fieldLink RX7 24 "StoneKeep$Rulings" "size" "I", .fieldLink RX7 9 "StoneKeep$Rulings" "blocks" "[I", .fieldLink RX7 15 "StoneKeep$Rulings" "years" "[I", .fieldLink RX7 18 "StoneKeep$Rulings" "values" "[I"] ++ wsX90 ++ wsX30 ++ wsX70)
def wsX9_rate : List Cond := .code yX9_rate cX9_rate 5 (some .int) :: ([.fieldLink RX9 12 "StoneKeep" "monument" "LStoneKeep$Monument;", .methodLink RX9 62 yX9_isBelow, .static yX9_isBelow, .initialized RX9, .code yX9_isBelow cX9_isBelow 2 (some .boolean), .methodLink RX9 74 yX9_isSpot, .static yX9_isSpot, .code yX9_isSpot cX9_isSpot 2 (some .boolean), .methodLink RX9 81 yX9_spot, .static yX9_spot, .code yX9_spot cX9_spot 2 (some .int), .methodLink RX9 93 yX3_changeRate, .instanceMethod yX3_changeRate, .selects RX3 yX3_changeRate yX3_changeRate, .initialized RX3, .code yX3_changeRate cX3_changeRate 6 (some .int), .fieldLink RX3 21 "StoneKeep$Monument" "rates" "[I", .static yX9_at, .code yX9_at cX9_at 2 (some .int)] ++ wsX90 ++ wsX30)
def wsX9_limit : List Cond := .code yX9_limit cX9_limit 2 (some .int) :: ([.fieldLink RX9 12 "StoneKeep" "monument" "LStoneKeep$Monument;", .methodLink RX9 96 yX3_changeLimit, .instanceMethod yX3_changeLimit, .selects RX3 yX3_changeLimit yX3_changeLimit, .initialized RX3, .code yX3_changeLimit cX3_changeLimit 3 (some .int), .fieldLink RX3 40 "StoneKeep$Monument" "limit" "I"] ++ wsX90 ++ wsX30)
def wsX9_told_r1 : List Cond := [Cond.fieldLink RX9 12 "StoneKeep" "monument" "LStoneKeep$Monument;", Cond.fieldLink RX9 19 "StoneKeep" "course" "LStoneKeep$Course;", Cond.methodLink RX9 70 yX3_hasBlock, Cond.instanceMethod yX3_hasBlock, Cond.selects RX3 yX3_hasBlock yX3_hasBlock, Cond.initialized RX3, Cond.code yX3_hasBlock cX3_hasBlock 2 (some .boolean), Cond.fieldLink RX3 50 "StoneKeep$Monument" "size" "I", Cond.static yX9_isBelow, Cond.initialized RX9, Cond.code yX9_isBelow cX9_isBelow 2 (some .boolean), Cond.methodLink RX9 62 yX9_isBelow, Cond.methodLink RX9 100 yX0_follow, Cond.instanceMethod yX0_follow, Cond.selects RX0 yX0_follow yX0_follow, Cond.initialized RX0, Cond.code yX0_follow cX0_follow 7 none, Cond.fieldLink RX0 9 "StoneKeep$Course" "placed" "[I", Cond.fieldLink RX0 15 "StoneKeep$Course" "wrong" "[I", Cond.fieldLink RX0 21 "StoneKeep$Course" "danger" "I", Cond.fieldLink RX0 18 "StoneKeep$Course" "lost" "[I", Cond.methodLink RX0 31 yX7_spread, Cond.instanceMethod yX7_spread, Cond.selects RX7 yX7_spread yX7_spread]
def wsX9_told_r2 : List Cond := [Cond.initialized RX7, Cond.code yX7_spread cX7_spread 4 none, Cond.fieldLink RX7 21 "StoneKeep$Rulings" "since" "[I", Cond.fieldLink RX7 24 "StoneKeep$Rulings" "size" "I", Cond.fieldLink RX7 9 "StoneKeep$Rulings" "blocks" "[I", Cond.fieldLink RX7 15 "StoneKeep$Rulings" "years" "[I", Cond.fieldLink RX7 18 "StoneKeep$Rulings" "values" "[I", Cond.methodLink RX7 32 yJ7_fill_53178, Cond.static yJ7_fill_53178, Cond.initialized RJ7, Cond.code yJ7_fill_53178 cJ7_fill_53178 4 none, Cond.methodLink RX7 38 yX7_spreadFrom, Cond.instanceMethod yX7_spreadFrom, Cond.selects RX7 yX7_spreadFrom yX7_spreadFrom, Cond.code yX7_spreadFrom cX7_spreadFrom 5 none, Cond.methodLink RX7 42 Lib.Math.max.name, Cond.static Lib.Math.max.name, Cond.initialized "java/lang/Math", Cond.code Lib.Math.max.name Lib.Math.max.code 2 (some .int), Cond.methodLink RX0 40 yX3_stoneOf, Cond.instanceMethod yX3_stoneOf, Cond.selects RX3 yX3_stoneOf yX3_stoneOf, Cond.code yX3_stoneOf cX3_stoneOf 2 (some .int), Cond.fieldLink RX3 9 "StoneKeep$Monument" "stones" "[I"]
def wsX9_told_r3 : List Cond := [Cond.static yX9_at, Cond.code yX9_at cX9_at 2 (some .int), Cond.methodLink RX0 44 yX3_laidOf, Cond.instanceMethod yX3_laidOf, Cond.selects RX3 yX3_laidOf yX3_laidOf, Cond.code yX3_laidOf cX3_laidOf 2 (some .int), Cond.fieldLink RX3 15 "StoneKeep$Monument" "laid" "[I", Cond.methodLink RX0 47 yX3_isDanger, Cond.instanceMethod yX3_isDanger, Cond.selects RX3 yX3_isDanger yX3_isDanger, Cond.code yX3_isDanger cX3_isDanger 3 (some .boolean), Cond.fieldLink RX3 40 "StoneKeep$Monument" "limit" "I", Cond.methodLink RX3 61 yX3_deepOf, Cond.instanceMethod yX3_deepOf, Cond.selects RX3 yX3_deepOf yX3_deepOf, Cond.code yX3_deepOf cX3_deepOf 2 (some .int), Cond.fieldLink RX3 18 "StoneKeep$Monument" "deeps" "[I", Cond.methodLink RX0 51 yX3_rateOf, Cond.instanceMethod yX3_rateOf, Cond.selects RX3 yX3_rateOf yX3_rateOf, Cond.code yX3_rateOf cX3_rateOf 3 (some .int), Cond.fieldLink RX3 21 "StoneKeep$Monument" "rates" "[I", Cond.methodLink RX9 104 yX3_stoneOf, Cond.methodLink RX9 107 yX3_laidOf]
def wsX9_told_r4 : List Cond := [Cond.methodLink RX9 110 yX3_deepOf, Cond.methodLink RX9 113 yX0_sideAt, Cond.instanceMethod yX0_sideAt, Cond.selects RX0 yX0_sideAt yX0_sideAt, Cond.code yX0_sideAt cX0_sideAt 2 (some .int), Cond.methodLink RX9 116 yX0_wetAt, Cond.instanceMethod yX0_wetAt, Cond.selects RX0 yX0_wetAt yX0_wetAt, Cond.code yX0_wetAt cX0_wetAt 2 (some .int), Cond.methodLink RX9 119 yX0_zoneAt, Cond.instanceMethod yX0_zoneAt, Cond.selects RX0 yX0_zoneAt yX0_zoneAt, Cond.code yX0_zoneAt cX0_zoneAt 2 (some .int), Cond.methodLink RX9 122 yX0_harmAt, Cond.instanceMethod yX0_harmAt, Cond.selects RX0 yX0_harmAt yX0_harmAt, Cond.code yX0_harmAt cX0_harmAt 2 (some .int), Cond.methodLink RX9 125 yX0_lostAt, Cond.instanceMethod yX0_lostAt, Cond.selects RX0 yX0_lostAt yX0_lostAt, Cond.code yX0_lostAt cX0_lostAt 2 (some .int)]
def wsX9_told : List Cond := .code yX9_told cX9_told 4 (some .int) :: ((wsX9_told_r1 ++ (wsX9_told_r2 ++ (wsX9_told_r3 ++ wsX9_told_r4))) ++ wsX90 ++ wsX00 ++ wsX30 ++ wsX70)
def wsX9_count_r1 : List Cond := [Cond.fieldLink RX9 12 "StoneKeep" "monument" "LStoneKeep$Monument;", Cond.fieldLink RX9 26 "StoneKeep" "looks" "LStoneKeep$Looks;", Cond.fieldLink RX9 40 "StoneKeep" "reader" "LStoneKeep$Reader;", Cond.fieldLink RX9 58 "StoneKeep" "stocks" "LStoneKeep$Stocks;", Cond.methodLink RX9 137 yX2_countDoubles, Cond.instanceMethod yX2_countDoubles, Cond.selects RX2 yX2_countDoubles yX2_countDoubles, Cond.initialized RX2, Cond.code yX2_countDoubles cX2_countDoubles 1 (some .int), Cond.fieldLink RX2 33 "StoneKeep$Looks" "size" "I", Cond.fieldLink RX2 54 "StoneKeep$Looks" "doubles" "I", Cond.methodLink RX2 50 yX2_learnHabits, Cond.instanceMethod yX2_learnHabits, Cond.selects RX2 yX2_learnHabits yX2_learnHabits, Cond.code yX2_learnHabits cX2_learnHabits 5 none, Cond.fieldLink RX2 90 "StoneKeep$Looks" "learned" "I", Cond.fieldLink RX2 24 "StoneKeep$Looks" "sums" "[I", Cond.fieldLink RX2 27 "StoneKeep$Looks" "pairs" "[I", Cond.fieldLink RX2 21 "StoneKeep$Looks" "grades" "[I", Cond.fieldLink RX2 15 "StoneKeep$Looks" "hands" "[I", Cond.methodLink RX2 73 yJ7_fill_53178, Cond.static yJ7_fill_53178, Cond.initialized RJ7, Cond.code yJ7_fill_53178 cJ7_fill_53178 4 none]
def wsX9_count_r2 : List Cond := [Cond.methodLink RX2 93 yX2_areDouble, Cond.instanceMethod yX2_areDouble, Cond.selects RX2 yX2_areDouble yX2_areDouble, Cond.code yX2_areDouble cX2_areDouble 3 (some .boolean), Cond.fieldLink RX2 9 "StoneKeep$Looks" "blocks" "[I", Cond.fieldLink RX2 18 "StoneKeep$Looks" "years" "[I", Cond.static yX9_at, Cond.initialized RX9, Cond.code yX9_at cX9_at 2 (some .int), Cond.methodLink RX2 79 yX2_countFor, Cond.static yX2_countFor, Cond.code yX2_countFor cX2_countFor 3 none, Cond.static yX9_isBelow, Cond.code yX9_isBelow cX9_isBelow 2 (some .boolean), Cond.methodLink RX9 152 yX8_countPieces, Cond.instanceMethod yX8_countPieces, Cond.selects RX8 yX8_countPieces yX8_countPieces, Cond.initialized RX8, Cond.code yX8_countPieces cX8_countPieces 3 (some .int), Cond.fieldLink RX8 27 "StoneKeep$Stocks" "size" "I", Cond.fieldLink RX8 24 "StoneKeep$Stocks" "pieces" "[I"]
def wsX9_count : List Cond := .code yX9_count cX9_count 2 (some .int) :: ((wsX9_count_r1 ++ wsX9_count_r2) ++ wsX90 ++ wsX30 ++ wsX70 ++ wsX20 ++ wsX50 ++ wsX60 ++ wsX80)
def wsJ9_max_7cf53 : List Cond := .code yJ9_max_7cf53 cJ9_max_7cf53 2 (some .int) :: ([])
def wsL_cell : List Cond := .code yL_cell cL_cell 2 (some .int) :: ([])
def wsL_some : List Cond := .code yL_some cL_some 3 (some .int) :: ([.constant RL 13 (2147483647), .methodLink RL 7 yL_cell, .static yL_cell, .initialized RL, .code yL_cell cL_cell 2 (some .int)])
def wsL_build_r1 : List Cond := [Cond.constant RL 13 (2147483647), Cond.methodLink RL 14 yL_some, Cond.static yL_some, Cond.initialized RL, Cond.code yL_some cL_some 3 (some .int), Cond.methodLink RL 7 yL_cell, Cond.static yL_cell, Cond.code yL_cell cL_cell 2 (some .int), Cond.methodLink RL 18 yX9_rate, Cond.instanceMethod yX9_rate, Cond.selects RX9 yX9_rate yX9_rate, Cond.initialized RX9, Cond.code yX9_rate cX9_rate 5 (some .int), Cond.fieldLink RX9 12 "StoneKeep" "monument" "LStoneKeep$Monument;", Cond.methodLink RX9 62 yX9_isBelow, Cond.static yX9_isBelow, Cond.code yX9_isBelow cX9_isBelow 2 (some .boolean), Cond.methodLink RX9 74 yX9_isSpot, Cond.static yX9_isSpot, Cond.code yX9_isSpot cX9_isSpot 2 (some .boolean), Cond.methodLink RX9 81 yX9_spot, Cond.static yX9_spot, Cond.code yX9_spot cX9_spot 2 (some .int), Cond.methodLink RX9 93 yX3_changeRate]
def wsL_build_r2 : List Cond := [Cond.instanceMethod yX3_changeRate, Cond.selects RX3 yX3_changeRate yX3_changeRate, Cond.initialized RX3, Cond.code yX3_changeRate cX3_changeRate 6 (some .int), Cond.fieldLink RX3 21 "StoneKeep$Monument" "rates" "[I", Cond.static yX9_at, Cond.code yX9_at cX9_at 2 (some .int), Cond.methodLink RL 24 yX9_block, Cond.instanceMethod yX9_block, Cond.selects RX9 yX9_block yX9_block, Cond.code yX9_block cX9_block 4 (some .int), Cond.methodLink RX9 66 yX3_addBlock, Cond.instanceMethod yX3_addBlock, Cond.selects RX3 yX3_addBlock yX3_addBlock, Cond.code yX3_addBlock cX3_addBlock 4 (some .int), Cond.fieldLink RX3 50 "StoneKeep$Monument" "size" "I", Cond.fieldLink RX3 9 "StoneKeep$Monument" "stones" "[I", Cond.fieldLink RX3 15 "StoneKeep$Monument" "laid" "[I", Cond.fieldLink RX3 18 "StoneKeep$Monument" "deeps" "[I", Cond.methodLink RL 28 yX9_place, Cond.instanceMethod yX9_place, Cond.selects RX9 yX9_place yX9_place, Cond.code yX9_place cX9_place 6 (some .int), Cond.methodLink RX9 70 yX3_hasBlock]
def wsL_build_r3 : List Cond := [Cond.instanceMethod yX3_hasBlock, Cond.selects RX3 yX3_hasBlock yX3_hasBlock, Cond.code yX3_hasBlock cX3_hasBlock 2 (some .boolean), Cond.methodLink RX9 85 yX7_add, Cond.instanceMethod yX7_add, Cond.selects RX7 yX7_add yX7_add, Cond.initialized RX7, Cond.code yX7_add cX7_add 4 (some .int), Cond.fieldLink RX7 24 "StoneKeep$Rulings" "size" "I", Cond.fieldLink RX7 9 "StoneKeep$Rulings" "blocks" "[I", Cond.fieldLink RX7 15 "StoneKeep$Rulings" "years" "[I", Cond.fieldLink RX7 18 "StoneKeep$Rulings" "values" "[I", Cond.methodLink RL 32 yX9_mortar, Cond.instanceMethod yX9_mortar, Cond.selects RX9 yX9_mortar yX9_mortar, Cond.code yX9_mortar cX9_mortar 4 (some .int)]
def wsL_build : List Cond := .code yL_build cL_build 9 (some .int) :: ((wsL_build_r1 ++ (wsL_build_r2 ++ wsL_build_r3)) ++ wsX90 ++ wsX30 ++ wsX70)
def wsL_law_r1 : List Cond := [Cond.classLink RL 19 RX9, Cond.instantiable RX9 8, Cond.initialized RX9, Cond.methodLink RL 36 yX9_init, Cond.instanceMethod yX9_init, Cond.code yX9_init cX9_init 1 none, Cond.methodLink RX9 3 objectInit, Cond.instanceMethod objectInit, Cond.code objectInit ⟨#[0xb1]⟩ 1 none, Cond.classLink RX9 9 RX3, Cond.instantiable RX3 10, Cond.initialized RX3, Cond.fieldLink RX9 12 "StoneKeep" "monument" "LStoneKeep$Monument;", Cond.classLink RX9 16 RX0, Cond.instantiable RX0 4, Cond.initialized RX0, Cond.fieldLink RX9 19 "StoneKeep" "course" "LStoneKeep$Course;", Cond.classLink RX9 23 RX2, Cond.instantiable RX2 10, Cond.initialized RX2, Cond.fieldLink RX9 26 "StoneKeep" "looks" "LStoneKeep$Looks;", Cond.classLink RX9 30 RX1, Cond.instantiable RX1 2, Cond.initialized RX1]
def wsL_law_r2 : List Cond := [Cond.fieldLink RX9 33 "StoneKeep" "fraction" "LStoneKeep$Fraction;", Cond.classLink RX9 37 RX5, Cond.instantiable RX5 7, Cond.initialized RX5, Cond.fieldLink RX9 40 "StoneKeep" "reader" "LStoneKeep$Reader;", Cond.arrayClass .int, Cond.fieldLink RX9 44 "StoneKeep" "facts" "[I", Cond.classLink RX9 48 RX4, Cond.instantiable RX4 13, Cond.initialized RX4, Cond.fieldLink RX9 51 "StoneKeep" "plan" "LStoneKeep$Plan;", Cond.classLink RX9 55 RX8, Cond.instantiable RX8 6, Cond.initialized RX8, Cond.fieldLink RX9 58 "StoneKeep" "stocks" "LStoneKeep$Stocks;", Cond.methodLink RX9 11 yX3_init, Cond.instanceMethod yX3_init, Cond.code yX3_init cX3_init 1 none, Cond.methodLink RX3 3 objectInit, Cond.fieldLink RX3 9 "StoneKeep$Monument" "stones" "[I", Cond.fieldLink RX3 15 "StoneKeep$Monument" "laid" "[I", Cond.fieldLink RX3 18 "StoneKeep$Monument" "deeps" "[I", Cond.fieldLink RX3 21 "StoneKeep$Monument" "rates" "[I", Cond.classLink RX3 24 RX7]
def wsL_law_r3 : List Cond := [Cond.instantiable RX7 5, Cond.initialized RX7, Cond.fieldLink RX3 27 "StoneKeep$Monument" "placings" "LStoneKeep$Rulings;", Cond.fieldLink RX3 31 "StoneKeep$Monument" "mortars" "LStoneKeep$Rulings;", Cond.fieldLink RX3 34 "StoneKeep$Monument" "dangers" "[I", Cond.fieldLink RX3 37 "StoneKeep$Monument" "losses" "[I", Cond.fieldLink RX3 40 "StoneKeep$Monument" "limit" "I", Cond.instanceMethod yX7_init, Cond.code yX7_init cX7_init 1 none, Cond.methodLink RX7 3 objectInit, Cond.fieldLink RX7 9 "StoneKeep$Rulings" "blocks" "[I", Cond.fieldLink RX7 15 "StoneKeep$Rulings" "years" "[I", Cond.fieldLink RX7 18 "StoneKeep$Rulings" "values" "[I", Cond.fieldLink RX7 21 "StoneKeep$Rulings" "since" "[I", Cond.methodLink RX3 44 yJ7_fill_53178, Cond.static yJ7_fill_53178, Cond.initialized RJ7, Cond.code yJ7_fill_53178 cJ7_fill_53178 4 none, Cond.instanceMethod yX0_init, Cond.code yX0_init cX0_init 1 none, Cond.methodLink RX0 3 objectInit, Cond.fieldLink RX0 9 "StoneKeep$Course" "placed" "[I", Cond.fieldLink RX0 15 "StoneKeep$Course" "wrong" "[I", Cond.fieldLink RX0 18 "StoneKeep$Course" "lost" "[I"]
def wsL_law_r4 : List Cond := [Cond.fieldLink RX0 21 "StoneKeep$Course" "danger" "I", Cond.instanceMethod yX2_init, Cond.code yX2_init cX2_init 1 none, Cond.methodLink RX2 3 objectInit, Cond.fieldLink RX2 9 "StoneKeep$Looks" "blocks" "[I", Cond.fieldLink RX2 15 "StoneKeep$Looks" "hands" "[I", Cond.fieldLink RX2 18 "StoneKeep$Looks" "years" "[I", Cond.fieldLink RX2 21 "StoneKeep$Looks" "grades" "[I", Cond.fieldLink RX2 24 "StoneKeep$Looks" "sums" "[I", Cond.fieldLink RX2 27 "StoneKeep$Looks" "pairs" "[I", Cond.fieldLink RX2 30 "StoneKeep$Looks" "seen" "[I", Cond.instanceMethod yX1_init, Cond.code yX1_init cX1_init 1 none, Cond.methodLink RX1 1 objectInit, Cond.fieldLink RX1 7 "StoneKeep$Fraction" "lower" "J", Cond.instanceMethod yX5_init, Cond.code yX5_init cX5_init 1 none, Cond.methodLink RX5 3 objectInit, Cond.fieldLink RX5 9 "StoneKeep$Reader" "text" "[I", Cond.fieldLink RX5 15 "StoneKeep$Reader" "faultAt" "I", Cond.classLink RX5 19 RX6, Cond.instantiable RX6 6, Cond.initialized RX6, Cond.fieldLink RX5 22 "StoneKeep$Reader" "rule" "LStoneKeep$Rule;"]
def wsL_law_r5 : List Cond := [Cond.fieldLink RX5 26 "StoneKeep$Reader" "draft" "LStoneKeep$Rule;", Cond.instanceMethod yX6_init, Cond.code yX6_init cX6_init 1 none, Cond.methodLink RX6 3 objectInit, Cond.fieldLink RX6 9 "StoneKeep$Rule" "names" "[I", Cond.fieldLink RX6 15 "StoneKeep$Rule" "signs" "[I", Cond.fieldLink RX6 18 "StoneKeep$Rule" "numbers" "[I", Cond.fieldLink RX6 21 "StoneKeep$Rule" "tests" "[I", Cond.fieldLink RX6 24 "StoneKeep$Rule" "acts" "[I", Cond.instanceMethod yX4_init, Cond.code yX4_init cX4_init 1 none, Cond.methodLink RX4 3 objectInit, Cond.fieldLink RX4 9 "StoneKeep$Plan" "blocks" "[I", Cond.fieldLink RX4 15 "StoneKeep$Plan" "costs" "[I", Cond.fieldLink RX4 18 "StoneKeep$Plan" "zones" "[I", Cond.fieldLink RX4 21 "StoneKeep$Plan" "neglects" "[I", Cond.fieldLink RX4 24 "StoneKeep$Plan" "chosen" "[I", Cond.fieldLink RX4 27 "StoneKeep$Plan" "best" "[I", Cond.fieldLink RX4 30 "StoneKeep$Plan" "spent" "[I", Cond.fieldLink RX4 33 "StoneKeep$Plan" "scaffolds" "[I", Cond.instanceMethod yX8_init, Cond.code yX8_init cX8_init 1 none, Cond.methodLink RX8 3 objectInit, Cond.fieldLink RX8 9 "StoneKeep$Stocks" "stones" "[I"]
def wsL_law_r6 : List Cond := [Cond.fieldLink RX8 15 "StoneKeep$Stocks" "strengths" "[I", Cond.fieldLink RX8 18 "StoneKeep$Stocks" "pores" "[I", Cond.fieldLink RX8 21 "StoneKeep$Stocks" "colours" "[I", Cond.fieldLink RX8 24 "StoneKeep$Stocks" "pieces" "[I", Cond.methodLink RL 37 yL_build, Cond.static yL_build, Cond.initialized RL, Cond.code yL_build cL_build 9 (some .int), Cond.constant RL 13 (2147483647), Cond.methodLink RL 14 yL_some, Cond.static yL_some, Cond.code yL_some cL_some 3 (some .int), Cond.methodLink RL 7 yL_cell, Cond.static yL_cell, Cond.code yL_cell cL_cell 2 (some .int), Cond.methodLink RL 18 yX9_rate, Cond.instanceMethod yX9_rate, Cond.selects RX9 yX9_rate yX9_rate, Cond.code yX9_rate cX9_rate 5 (some .int), Cond.methodLink RX9 62 yX9_isBelow, Cond.static yX9_isBelow, Cond.code yX9_isBelow cX9_isBelow 2 (some .boolean), Cond.methodLink RX9 74 yX9_isSpot, Cond.static yX9_isSpot]
def wsL_law_r7 : List Cond := [Cond.code yX9_isSpot cX9_isSpot 2 (some .boolean), Cond.methodLink RX9 81 yX9_spot, Cond.static yX9_spot, Cond.code yX9_spot cX9_spot 2 (some .int), Cond.methodLink RX9 93 yX3_changeRate, Cond.instanceMethod yX3_changeRate, Cond.selects RX3 yX3_changeRate yX3_changeRate, Cond.code yX3_changeRate cX3_changeRate 6 (some .int), Cond.static yX9_at, Cond.code yX9_at cX9_at 2 (some .int), Cond.methodLink RL 24 yX9_block, Cond.instanceMethod yX9_block, Cond.selects RX9 yX9_block yX9_block, Cond.code yX9_block cX9_block 4 (some .int), Cond.methodLink RX9 66 yX3_addBlock, Cond.instanceMethod yX3_addBlock, Cond.selects RX3 yX3_addBlock yX3_addBlock, Cond.code yX3_addBlock cX3_addBlock 4 (some .int), Cond.fieldLink RX3 50 "StoneKeep$Monument" "size" "I", Cond.methodLink RL 28 yX9_place, Cond.instanceMethod yX9_place, Cond.selects RX9 yX9_place yX9_place, Cond.code yX9_place cX9_place 6 (some .int), Cond.methodLink RX9 70 yX3_hasBlock]
def wsL_law_r8 : List Cond := [Cond.instanceMethod yX3_hasBlock, Cond.selects RX3 yX3_hasBlock yX3_hasBlock, Cond.code yX3_hasBlock cX3_hasBlock 2 (some .boolean), Cond.methodLink RX9 85 yX7_add, Cond.instanceMethod yX7_add, Cond.selects RX7 yX7_add yX7_add, Cond.code yX7_add cX7_add 4 (some .int), Cond.fieldLink RX7 24 "StoneKeep$Rulings" "size" "I", Cond.methodLink RL 32 yX9_mortar, Cond.instanceMethod yX9_mortar, Cond.selects RX9 yX9_mortar yX9_mortar, Cond.code yX9_mortar cX9_mortar 4 (some .int), Cond.methodLink RL 41 yX9_limit, Cond.instanceMethod yX9_limit, Cond.selects RX9 yX9_limit yX9_limit, Cond.code yX9_limit cX9_limit 2 (some .int), Cond.methodLink RX9 96 yX3_changeLimit, Cond.instanceMethod yX3_changeLimit, Cond.selects RX3 yX3_changeLimit yX3_changeLimit, Cond.code yX3_changeLimit cX3_changeLimit 3 (some .int), Cond.methodLink RL 45 yX9_told, Cond.instanceMethod yX9_told, Cond.selects RX9 yX9_told yX9_told, Cond.code yX9_told cX9_told 4 (some .int)]
def wsL_law_r9 : List Cond := [Cond.methodLink RX9 100 yX0_follow, Cond.instanceMethod yX0_follow, Cond.selects RX0 yX0_follow yX0_follow, Cond.code yX0_follow cX0_follow 7 none, Cond.methodLink RX0 31 yX7_spread, Cond.instanceMethod yX7_spread, Cond.selects RX7 yX7_spread yX7_spread, Cond.code yX7_spread cX7_spread 4 none, Cond.methodLink RX7 32 yJ7_fill_53178, Cond.methodLink RX7 38 yX7_spreadFrom, Cond.instanceMethod yX7_spreadFrom, Cond.selects RX7 yX7_spreadFrom yX7_spreadFrom, Cond.code yX7_spreadFrom cX7_spreadFrom 5 none, Cond.methodLink RX7 42 Lib.Math.max.name, Cond.static Lib.Math.max.name, Cond.initialized "java/lang/Math", Cond.code Lib.Math.max.name Lib.Math.max.code 2 (some .int), Cond.methodLink RX0 40 yX3_stoneOf, Cond.instanceMethod yX3_stoneOf, Cond.selects RX3 yX3_stoneOf yX3_stoneOf, Cond.code yX3_stoneOf cX3_stoneOf 2 (some .int), Cond.methodLink RX0 44 yX3_laidOf, Cond.instanceMethod yX3_laidOf, Cond.selects RX3 yX3_laidOf yX3_laidOf]
def wsL_law_r10 : List Cond := [Cond.code yX3_laidOf cX3_laidOf 2 (some .int), Cond.methodLink RX0 47 yX3_isDanger, Cond.instanceMethod yX3_isDanger, Cond.selects RX3 yX3_isDanger yX3_isDanger, Cond.code yX3_isDanger cX3_isDanger 3 (some .boolean), Cond.methodLink RX3 61 yX3_deepOf, Cond.instanceMethod yX3_deepOf, Cond.selects RX3 yX3_deepOf yX3_deepOf, Cond.code yX3_deepOf cX3_deepOf 2 (some .int), Cond.methodLink RX0 51 yX3_rateOf, Cond.instanceMethod yX3_rateOf, Cond.selects RX3 yX3_rateOf yX3_rateOf, Cond.code yX3_rateOf cX3_rateOf 3 (some .int), Cond.methodLink RX9 104 yX3_stoneOf, Cond.methodLink RX9 107 yX3_laidOf, Cond.methodLink RX9 110 yX3_deepOf, Cond.methodLink RX9 113 yX0_sideAt, Cond.instanceMethod yX0_sideAt, Cond.selects RX0 yX0_sideAt yX0_sideAt, Cond.code yX0_sideAt cX0_sideAt 2 (some .int), Cond.methodLink RX9 116 yX0_wetAt, Cond.instanceMethod yX0_wetAt, Cond.selects RX0 yX0_wetAt yX0_wetAt, Cond.code yX0_wetAt cX0_wetAt 2 (some .int)]
def wsL_law_r11 : List Cond := [Cond.methodLink RX9 119 yX0_zoneAt, Cond.instanceMethod yX0_zoneAt, Cond.selects RX0 yX0_zoneAt yX0_zoneAt, Cond.code yX0_zoneAt cX0_zoneAt 2 (some .int), Cond.methodLink RX9 122 yX0_harmAt, Cond.instanceMethod yX0_harmAt, Cond.selects RX0 yX0_harmAt yX0_harmAt, Cond.code yX0_harmAt cX0_harmAt 2 (some .int), Cond.methodLink RX9 125 yX0_lostAt, Cond.instanceMethod yX0_lostAt, Cond.selects RX0 yX0_lostAt yX0_lostAt, Cond.code yX0_lostAt cX0_lostAt 2 (some .int), Cond.methodLink RL 48 yX9_count, Cond.instanceMethod yX9_count, Cond.selects RX9 yX9_count yX9_count, Cond.code yX9_count cX9_count 2 (some .int), Cond.methodLink RX9 137 yX2_countDoubles, Cond.instanceMethod yX2_countDoubles, Cond.selects RX2 yX2_countDoubles yX2_countDoubles, Cond.code yX2_countDoubles cX2_countDoubles 1 (some .int), Cond.fieldLink RX2 33 "StoneKeep$Looks" "size" "I", Cond.fieldLink RX2 54 "StoneKeep$Looks" "doubles" "I", Cond.methodLink RX2 50 yX2_learnHabits, Cond.instanceMethod yX2_learnHabits]
def wsL_law_r12 : List Cond := [Cond.selects RX2 yX2_learnHabits yX2_learnHabits, Cond.code yX2_learnHabits cX2_learnHabits 5 none, Cond.fieldLink RX2 90 "StoneKeep$Looks" "learned" "I", Cond.methodLink RX2 73 yJ7_fill_53178, Cond.methodLink RX2 93 yX2_areDouble, Cond.instanceMethod yX2_areDouble, Cond.selects RX2 yX2_areDouble yX2_areDouble, Cond.code yX2_areDouble cX2_areDouble 3 (some .boolean), Cond.methodLink RX2 79 yX2_countFor, Cond.static yX2_countFor, Cond.code yX2_countFor cX2_countFor 3 none, Cond.methodLink RX9 152 yX8_countPieces, Cond.instanceMethod yX8_countPieces, Cond.selects RX8 yX8_countPieces yX8_countPieces, Cond.code yX8_countPieces cX8_countPieces 3 (some .int), Cond.fieldLink RX8 27 "StoneKeep$Stocks" "size" "I"]
def wsL_law : List Cond := (wsL_law_r1 ++ (wsL_law_r2 ++ (wsL_law_r3 ++ (wsL_law_r4 ++ (wsL_law_r5 ++ (wsL_law_r6 ++ (wsL_law_r7 ++ (wsL_law_r8 ++ (wsL_law_r9 ++ (wsL_law_r10 ++ (wsL_law_r11 ++ wsL_law_r12))))))))))) ++ wsX90 ++ wsX30 ++ wsX00 ++ wsX20 ++ wsX10 ++ wsX50 ++ wsX40 ++ wsX80 ++ wsX70 ++ wsX60 ++ ([] : List Cond)
abbrev vwCl : List vw_C := [(RX0, TX0, 4), (RX1, TX1, 2), (RX2, TX2, 10), (RX3, TX3, 10), (RX4, TX4, 13), (RX5, TX5, 7), (RX6, TX6, 6), (RX7, TX7, 5), (RX8, TX8, 6), (RX9, TX9, 8)]
