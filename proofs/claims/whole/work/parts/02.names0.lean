def T_W : u_T := fun k => match k with
  | 0 => ("KiloFractions$Whole", "limbs", "[I", true)
  | _ => ("KiloFractions$Whole", "used", "I", false)
def ty_W : Nat → FieldType := fun k => match k with
  | 0 => .array .int
  | _ => .int
theorem nm_W : ∀ a, a < 2 → ∀ b, b < 2 → a ≠ b → (T_W a).2.1 ≠ (T_W b).2.1 := by decide +kernel
theorem tyok_W : ∀ k, k < 2 → parseFieldDescriptor (T_W k).2.2.1 = some (ty_W k) := by decide +kernel
def T_F : u_T := fun k => match k with
  | 0 => ("KiloFractions$Fraction", "sign", "I", false)
  | 1 => ("KiloFractions$Fraction", "upper", "LKiloFractions$Whole;", true)
  | _ => ("KiloFractions$Fraction", "lower", "LKiloFractions$Whole;", true)
def ty_F : Nat → FieldType := fun k => match k with
  | 0 => .int
  | 1 => .object "KiloFractions$Whole"
  | _ => .object "KiloFractions$Whole"
theorem nm_F : ∀ a, a < 3 → ∀ b, b < 3 → a ≠ b → (T_F a).2.1 ≠ (T_F b).2.1 := by decide +kernel
theorem tyok_F : ∀ k, k < 3 → parseFieldDescriptor (T_F k).2.2.1 = some (ty_F k) := by decide +kernel
def T_H : u_T := fun k => match k with
  | 0 => ("KiloFractions$Shelf", "limbs", "[I", true)
  | 1 => ("KiloFractions$Shelf", "signs", "[I", true)
  | _ => ("KiloFractions$Shelf", "count", "I", false)
def ty_H : Nat → FieldType := fun k => match k with
  | 0 => .array .int
  | 1 => .array .int
  | _ => .int
theorem nm_H : ∀ a, a < 3 → ∀ b, b < 3 → a ≠ b → (T_H a).2.1 ≠ (T_H b).2.1 := by decide +kernel
theorem tyok_H : ∀ k, k < 3 → parseFieldDescriptor (T_H k).2.2.1 = some (ty_H k) := by decide +kernel
def T_B : u_T := fun k => match k with
  | 0 => ("KiloFractions$Bench", "left", "LKiloFractions$Whole;", true)
  | 1 => ("KiloFractions$Bench", "right", "LKiloFractions$Whole;", true)
  | _ => ("KiloFractions$Bench", "quotient", "LKiloFractions$Whole;", true)
def ty_B : Nat → FieldType := fun k => match k with
  | 0 => .object "KiloFractions$Whole"
  | 1 => .object "KiloFractions$Whole"
  | _ => .object "KiloFractions$Whole"
theorem nm_B : ∀ a, a < 3 → ∀ b, b < 3 → a ≠ b → (T_B a).2.1 ≠ (T_B b).2.1 := by decide +kernel
theorem tyok_B : ∀ k, k < 3 → parseFieldDescriptor (T_B k).2.2.1 = some (ty_B k) := by decide +kernel
def T_K : u_T := fun k => match k with
  | 0 => ("KiloFractions", "values", "LKiloFractions$Shelf;", true)
  | 1 => ("KiloFractions", "lowEnds", "[I", true)
  | 2 => ("KiloFractions", "highEnds", "[I", true)
  | 3 => ("KiloFractions", "spanCount", "I", false)
  | 4 => ("KiloFractions", "weights", "[J", true)
  | 5 => ("KiloFractions", "weightCount", "I", false)
  | 6 => ("KiloFractions", "carried", "LKiloFractions$Fraction;", true)
  | 7 => ("KiloFractions", "bench", "LKiloFractions$Bench;", true)
  | 8 => ("KiloFractions", "first", "LKiloFractions$Fraction;", true)
  | 9 => ("KiloFractions", "second", "LKiloFractions$Fraction;", true)
  | 10 => ("KiloFractions", "made", "LKiloFractions$Fraction;", true)
  | _ => ("KiloFractions", "alsoMade", "LKiloFractions$Fraction;", true)
def ty_K : Nat → FieldType := fun k => match k with
  | 0 => .object "KiloFractions$Shelf"
  | 1 => .array .int
  | 2 => .array .int
  | 3 => .int
  | 4 => .array .long
  | 5 => .int
  | 6 => .object "KiloFractions$Fraction"
  | 7 => .object "KiloFractions$Bench"
  | 8 => .object "KiloFractions$Fraction"
  | 9 => .object "KiloFractions$Fraction"
  | 10 => .object "KiloFractions$Fraction"
  | _ => .object "KiloFractions$Fraction"
theorem nm_K : ∀ a, a < 12 → ∀ b, b < 12 → a ≠ b → (T_K a).2.1 ≠ (T_K b).2.1 := by decide +kernel
theorem tyok_K : ∀ k, k < 12 → parseFieldDescriptor (T_K k).2.2.1 = some (ty_K k) := by decide +kernel
def T_M : u_T := fun k => match k with
  | 0 => ("KiloFractionsModel", "thrown", "I", false)
  | 1 => ("KiloFractionsModel", "work", "[J", true)
  | 2 => ("KiloFractionsModel", "values", "I", false)
  | 3 => ("KiloFractionsModel", "sign", "[I", true)
  | 4 => ("KiloFractionsModel", "above", "[J", true)
  | 5 => ("KiloFractionsModel", "below", "[J", true)
  | 6 => ("KiloFractionsModel", "spans", "I", false)
  | 7 => ("KiloFractionsModel", "low", "[I", true)
  | 8 => ("KiloFractionsModel", "high", "[I", true)
  | 9 => ("KiloFractionsModel", "weights", "I", false)
  | 10 => ("KiloFractionsModel", "weight", "[J", true)
  | 11 => ("KiloFractionsModel", "restUp", "[J", true)
  | _ => ("KiloFractionsModel", "restDown", "[J", true)
def ty_M : Nat → FieldType := fun k => match k with
  | 0 => .int
  | 1 => .array .long
  | 2 => .int
  | 3 => .array .int
  | 4 => .array .long
  | 5 => .array .long
  | 6 => .int
  | 7 => .array .int
  | 8 => .array .int
  | 9 => .int
  | 10 => .array .long
  | 11 => .array .long
  | _ => .array .long
theorem nm_M : ∀ a, a < 13 → ∀ b, b < 13 → a ≠ b → (T_M a).2.1 ≠ (T_M b).2.1 := by decide +kernel
theorem tyok_M : ∀ k, k < 13 → parseFieldDescriptor (T_M k).2.2.1 = some (ty_M k) := by decide +kernel
abbrev zcl : List vw_C := [("KiloFractions$Whole", T_W, 2), ("KiloFractions$Fraction", T_F, 3), ("KiloFractions$Shelf", T_H, 3), ("KiloFractions$Bench", T_B, 3), ("KiloFractions", T_K, 12), ("KiloFractionsModel", T_M, 13)]
def zB : List Cond := lw_tbl.filter goodWord
theorem zm {w : Cond} (i : Nat) (h : lw_tbl[i]? = some w) (g : goodWord w = true) : w ∈ zB := List.mem_filter.mpr ⟨List.mem_of_getElem? h, g⟩
theorem zgood {c0 : Cond} {ws : List Cond} (h : ∀ w ∈ ws, w ∈ zB) : GoodIn (c0 :: zB) ws := fun w hw => ⟨List.mem_cons_of_mem _ (h w hw), good_of_word (List.mem_filter.mp (h w hw)).2⟩
theorem la_W {c0 : Cond} : ∀ w ∈ u_ws "KiloFractions$Whole" T_W 2, w ∈ c0 :: zB := by
  intro w h
  refine List.mem_cons_of_mem _ ?_
  have h2 : w ∈ [u_lay "KiloFractions$Whole" T_W 0, u_lay "KiloFractions$Whole" T_W 1] := h
  simp only [List.mem_cons, List.not_mem_nil, or_false] at h2
  rcases h2 with rfl | rfl
  · exact zm 102 (by decide +kernel) (by decide +kernel)
  · exact zm 104 (by decide +kernel) (by decide +kernel)
theorem la_F {c0 : Cond} : ∀ w ∈ u_ws "KiloFractions$Fraction" T_F 3, w ∈ c0 :: zB := by
  intro w h
  refine List.mem_cons_of_mem _ ?_
  have h2 : w ∈ [u_lay "KiloFractions$Fraction" T_F 0, u_lay "KiloFractions$Fraction" T_F 1, u_lay "KiloFractions$Fraction" T_F 2] := h
  simp only [List.mem_cons, List.not_mem_nil, or_false] at h2
  rcases h2 with rfl | rfl | rfl
  · exact zm 133 (by decide +kernel) (by decide +kernel)
  · exact zm 135 (by decide +kernel) (by decide +kernel)
  · exact zm 137 (by decide +kernel) (by decide +kernel)
theorem la_H {c0 : Cond} : ∀ w ∈ u_ws "KiloFractions$Shelf" T_H 3, w ∈ c0 :: zB := by
  intro w h
  refine List.mem_cons_of_mem _ ?_
  have h2 : w ∈ [u_lay "KiloFractions$Shelf" T_H 0, u_lay "KiloFractions$Shelf" T_H 1, u_lay "KiloFractions$Shelf" T_H 2] := h
  simp only [List.mem_cons, List.not_mem_nil, or_false] at h2
  rcases h2 with rfl | rfl | rfl
  · exact zm 79 (by decide +kernel) (by decide +kernel)
  · exact zm 81 (by decide +kernel) (by decide +kernel)
  · exact zm 83 (by decide +kernel) (by decide +kernel)
theorem la_B {c0 : Cond} : ∀ w ∈ u_ws "KiloFractions$Bench" T_B 3, w ∈ c0 :: zB := by
  intro w h
  refine List.mem_cons_of_mem _ ?_
  have h2 : w ∈ [u_lay "KiloFractions$Bench" T_B 0, u_lay "KiloFractions$Bench" T_B 1, u_lay "KiloFractions$Bench" T_B 2] := h
  simp only [List.mem_cons, List.not_mem_nil, or_false] at h2
  rcases h2 with rfl | rfl | rfl
  · exact zm 151 (by decide +kernel) (by decide +kernel)
  · exact zm 153 (by decide +kernel) (by decide +kernel)
  · exact zm 155 (by decide +kernel) (by decide +kernel)
theorem la_K {c0 : Cond} : ∀ w ∈ u_ws "KiloFractions" T_K 12, w ∈ c0 :: zB := by
  intro w h
  refine List.mem_cons_of_mem _ ?_
  have h2 : w ∈ [u_lay "KiloFractions" T_K 0, u_lay "KiloFractions" T_K 1, u_lay "KiloFractions" T_K 2, u_lay "KiloFractions" T_K 3, u_lay "KiloFractions" T_K 4, u_lay "KiloFractions" T_K 5, u_lay "KiloFractions" T_K 6, u_lay "KiloFractions" T_K 7, u_lay "KiloFractions" T_K 8, u_lay "KiloFractions" T_K 9, u_lay "KiloFractions" T_K 10, u_lay "KiloFractions" T_K 11] := h
  simp only [List.mem_cons, List.not_mem_nil, or_false] at h2
  rcases h2 with rfl | rfl | rfl | rfl | rfl | rfl | rfl | rfl | rfl | rfl | rfl | rfl
  · exact zm 170 (by decide +kernel) (by decide +kernel)
  · exact zm 172 (by decide +kernel) (by decide +kernel)
  · exact zm 174 (by decide +kernel) (by decide +kernel)
  · exact zm 176 (by decide +kernel) (by decide +kernel)
  · exact zm 178 (by decide +kernel) (by decide +kernel)
  · exact zm 180 (by decide +kernel) (by decide +kernel)
  · exact zm 182 (by decide +kernel) (by decide +kernel)
  · exact zm 184 (by decide +kernel) (by decide +kernel)
  · exact zm 186 (by decide +kernel) (by decide +kernel)
  · exact zm 188 (by decide +kernel) (by decide +kernel)
  · exact zm 190 (by decide +kernel) (by decide +kernel)
  · exact zm 192 (by decide +kernel) (by decide +kernel)
theorem la_M {c0 : Cond} : ∀ w ∈ u_ws "KiloFractionsModel" T_M 13, w ∈ c0 :: zB := by
  intro w h
  refine List.mem_cons_of_mem _ ?_
  have h2 : w ∈ [u_lay "KiloFractionsModel" T_M 0, u_lay "KiloFractionsModel" T_M 1, u_lay "KiloFractionsModel" T_M 2, u_lay "KiloFractionsModel" T_M 3, u_lay "KiloFractionsModel" T_M 4, u_lay "KiloFractionsModel" T_M 5, u_lay "KiloFractionsModel" T_M 6, u_lay "KiloFractionsModel" T_M 7, u_lay "KiloFractionsModel" T_M 8, u_lay "KiloFractionsModel" T_M 9, u_lay "KiloFractionsModel" T_M 10, u_lay "KiloFractionsModel" T_M 11, u_lay "KiloFractionsModel" T_M 12] := h
  simp only [List.mem_cons, List.not_mem_nil, or_false] at h2
  rcases h2 with rfl | rfl | rfl | rfl | rfl | rfl | rfl | rfl | rfl | rfl | rfl | rfl | rfl
  · exact zm 679 (by decide +kernel) (by decide +kernel)
  · exact zm 681 (by decide +kernel) (by decide +kernel)
  · exact zm 683 (by decide +kernel) (by decide +kernel)
  · exact zm 685 (by decide +kernel) (by decide +kernel)
  · exact zm 687 (by decide +kernel) (by decide +kernel)
  · exact zm 689 (by decide +kernel) (by decide +kernel)
  · exact zm 691 (by decide +kernel) (by decide +kernel)
  · exact zm 693 (by decide +kernel) (by decide +kernel)
  · exact zm 695 (by decide +kernel) (by decide +kernel)
  · exact zm 697 (by decide +kernel) (by decide +kernel)
  · exact zm 699 (by decide +kernel) (by decide +kernel)
  · exact zm 701 (by decide +kernel) (by decide +kernel)
  · exact zm 703 (by decide +kernel) (by decide +kernel)
abbrev c_K_init : ByteArray := prog_1_method_1_code
def y_K_init : MethodName := ⟨"KiloFractions", "<init>", "()V"⟩
abbrev c_H_init : ByteArray := prog_4_method_1_code
def y_H_init : MethodName := ⟨"KiloFractions$Shelf", "<init>", "()V"⟩
abbrev c_F_init : ByteArray := prog_3_method_1_code
def y_F_init : MethodName := ⟨"KiloFractions$Fraction", "<init>", "()V"⟩
abbrev c_W_init : ByteArray := prog_5_method_1_code
def y_W_init : MethodName := ⟨"KiloFractions$Whole", "<init>", "()V"⟩
abbrev c_W_becomeSizeOf : ByteArray := prog_5_method_12_code
def y_W_becomeSizeOf : MethodName := ⟨"KiloFractions$Whole", "becomeSizeOf", "(J)V"⟩
abbrev c_W_becomeZero : ByteArray := prog_5_method_11_code
def y_W_becomeZero : MethodName := ⟨"KiloFractions$Whole", "becomeZero", "()V"⟩
abbrev c_W_dropZerosFrom : ByteArray := prog_5_method_22_code
def y_W_dropZerosFrom : MethodName := ⟨"KiloFractions$Whole", "dropZerosFrom", "(I)V"⟩
abbrev c_B_init : ByteArray := prog_2_method_1_code
def y_B_init : MethodName := ⟨"KiloFractions$Bench", "<init>", "()V"⟩
abbrev c_L_value : ByteArray := method_3_code
def y_L_value : MethodName := ⟨"KiloFractionsLaw", "value", "(LKiloFractions;JJ[J)I"⟩
abbrev c_K_value : ByteArray := prog_1_method_2_code
def y_K_value : MethodName := ⟨"KiloFractions", "value", "(JJ)I"⟩
abbrev c_K_needRoomFor : ByteArray := prog_1_method_21_code
def y_K_needRoomFor : MethodName := ⟨"KiloFractions", "needRoomFor", "(I)V"⟩
abbrev c_H_hasRoomFor : ByteArray := prog_4_method_3_code
def y_H_hasRoomFor : MethodName := ⟨"KiloFractions$Shelf", "hasRoomFor", "(I)Z"⟩
abbrev c_F_become : ByteArray := prog_3_method_3_code
def y_F_become : MethodName := ⟨"KiloFractions$Fraction", "become", "(JJ)V"⟩
abbrev c_JL_compare : ByteArray := prog_12_method_42_code
def y_JL_compare : MethodName := ⟨"java/lang/Long", "compare", "(JJ)I"⟩
abbrev c_B_bringToLowest : ByteArray := prog_2_method_8_code
def y_B_bringToLowest : MethodName := ⟨"KiloFractions$Bench", "bringToLowest", "(LKiloFractions$Fraction;)V"⟩
abbrev c_W_becomeCopy : ByteArray := prog_5_method_13_code
def y_W_becomeCopy : MethodName := ⟨"KiloFractions$Whole", "becomeCopy", "(LKiloFractions$Whole;)V"⟩
abbrev c_B_commonDivisor : ByteArray := prog_2_method_10_code
def y_B_commonDivisor : MethodName := ⟨"KiloFractions$Bench", "commonDivisor", "()LKiloFractions$Whole;"⟩
abbrev c_W_isShort : ByteArray := prog_5_method_5_code
def y_W_isShort : MethodName := ⟨"KiloFractions$Whole", "isShort", "()Z"⟩
abbrev c_W_becomeRemainder : ByteArray := prog_5_method_17_code
def y_W_becomeRemainder : MethodName := ⟨"KiloFractions$Whole", "becomeRemainder", "(LKiloFractions$Whole;)V"⟩
abbrev c_W_isZero : ByteArray := prog_5_method_2_code
def y_W_isZero : MethodName := ⟨"KiloFractions$Whole", "isZero", "()Z"⟩
abbrev c_W_takeOut : ByteArray := prog_5_method_19_code
def y_W_takeOut : MethodName := ⟨"KiloFractions$Whole", "takeOut", "(LKiloFractions$Whole;I)J"⟩
abbrev c_W_compareWith : ByteArray := prog_5_method_10_code
def y_W_compareWith : MethodName := ⟨"KiloFractions$Whole", "compareWith", "(LKiloFractions$Whole;I)I"⟩
abbrev c_W_limbAt : ByteArray := prog_5_method_7_code
def y_W_limbAt : MethodName := ⟨"KiloFractions$Whole", "limbAt", "(I)J"⟩
abbrev c_W_guessOften : ByteArray := prog_5_method_20_code
def y_W_guessOften : MethodName := ⟨"KiloFractions$Whole", "guessOften", "(LKiloFractions$Whole;I)J"⟩
abbrev c_W_tenAbove : ByteArray := prog_5_method_21_code
def y_W_tenAbove : MethodName := ⟨"KiloFractions$Whole", "tenAbove", "(J)J"⟩
abbrev c_JM_max : ByteArray := prog_13_method_66_code
def y_JM_max : MethodName := ⟨"java/lang/Math", "max", "(JJ)J"⟩
abbrev c_W_decreaseBy : ByteArray := prog_5_method_16_code
def y_W_decreaseBy : MethodName := ⟨"KiloFractions$Whole", "decreaseBy", "(LKiloFractions$Whole;JI)V"⟩
abbrev c_W_asLong : ByteArray := prog_5_method_6_code
def y_W_asLong : MethodName := ⟨"KiloFractions$Whole", "asLong", "()J"⟩
abbrev c_B_commonDivisorOf : ByteArray := prog_2_method_11_code
def y_B_commonDivisorOf : MethodName := ⟨"KiloFractions$Bench", "commonDivisorOf", "(JJ)J"⟩
abbrev c_W_isOne : ByteArray := prog_5_method_3_code
def y_W_isOne : MethodName := ⟨"KiloFractions$Whole", "isOne", "()Z"⟩
abbrev c_B_divideOut : ByteArray := prog_2_method_9_code
def y_B_divideOut : MethodName := ⟨"KiloFractions$Bench", "divideOut", "(LKiloFractions$Whole;LKiloFractions$Whole;)V"⟩
abbrev c_W_divideBy : ByteArray := prog_5_method_18_code
def y_W_divideBy : MethodName := ⟨"KiloFractions$Whole", "divideBy", "(LKiloFractions$Whole;LKiloFractions$Whole;)V"⟩
abbrev c_K_keepUnlessTooLong : ByteArray := prog_1_method_24_code
def y_K_keepUnlessTooLong : MethodName := ⟨"KiloFractions", "keepUnlessTooLong", "()I"⟩
abbrev c_F_isTooLong : ByteArray := prog_3_method_2_code
def y_F_isTooLong : MethodName := ⟨"KiloFractions$Fraction", "isTooLong", "()Z"⟩
abbrev c_W_countDigits : ByteArray := prog_5_method_8_code
def y_W_countDigits : MethodName := ⟨"KiloFractions$Whole", "countDigits", "()I"⟩
abbrev c_H_keep : ByteArray := prog_4_method_5_code
def y_H_keep : MethodName := ⟨"KiloFractions$Shelf", "keep", "(LKiloFractions$Fraction;)I"⟩
abbrev c_H_keepNumber : ByteArray := prog_4_method_7_code
def y_H_keepNumber : MethodName := ⟨"KiloFractions$Shelf", "keepNumber", "(LKiloFractions$Whole;I)V"⟩
abbrev c_L_add : ByteArray := method_4_code
def y_L_add : MethodName := ⟨"KiloFractionsLaw", "add", "(LKiloFractions;II[J)I"⟩
abbrev c_K_add : ByteArray := prog_1_method_3_code
def y_K_add : MethodName := ⟨"KiloFractions", "add", "(II)I"⟩
abbrev c_K_takeBoth : ByteArray := prog_1_method_23_code
def y_K_takeBoth : MethodName := ⟨"KiloFractions", "takeBoth", "(II)V"⟩
abbrev c_K_needValue : ByteArray := prog_1_method_19_code
def y_K_needValue : MethodName := ⟨"KiloFractions", "needValue", "(I)V"⟩
abbrev c_H_has : ByteArray := prog_4_method_2_code
def y_H_has : MethodName := ⟨"KiloFractions$Shelf", "has", "(I)Z"⟩
abbrev c_H_fetch : ByteArray := prog_4_method_4_code
def y_H_fetch : MethodName := ⟨"KiloFractions$Shelf", "fetch", "(ILKiloFractions$Fraction;)V"⟩
abbrev c_H_fetchNumber : ByteArray := prog_4_method_6_code
def y_H_fetchNumber : MethodName := ⟨"KiloFractions$Shelf", "fetchNumber", "(ILKiloFractions$Whole;)V"⟩
abbrev c_B_putSum : ByteArray := prog_2_method_2_code
def y_B_putSum : MethodName := ⟨"KiloFractions$Bench", "putSum", "(LKiloFractions$Fraction;LKiloFractions$Fraction;ILKiloFractions$Fraction;)V"⟩
abbrev c_W_becomeProduct : ByteArray := prog_5_method_14_code
def y_W_becomeProduct : MethodName := ⟨"KiloFractions$Whole", "becomeProduct", "(LKiloFractions$Whole;LKiloFractions$Whole;)V"⟩
abbrev c_W_increaseBy : ByteArray := prog_5_method_15_code
def y_W_increaseBy : MethodName := ⟨"KiloFractions$Whole", "increaseBy", "(LKiloFractions$Whole;)V"⟩
abbrev c_L_less : ByteArray := method_5_code
def y_L_less : MethodName := ⟨"KiloFractionsLaw", "less", "(LKiloFractions;II[J)I"⟩
abbrev c_K_less : ByteArray := prog_1_method_4_code
def y_K_less : MethodName := ⟨"KiloFractions", "less", "(II)I"⟩
abbrev c_L_times : ByteArray := method_6_code
def y_L_times : MethodName := ⟨"KiloFractionsLaw", "times", "(LKiloFractions;II[J)I"⟩
abbrev c_K_times : ByteArray := prog_1_method_5_code
def y_K_times : MethodName := ⟨"KiloFractions", "times", "(II)I"⟩
abbrev c_F_becomeProduct : ByteArray := prog_3_method_5_code
def y_F_becomeProduct : MethodName := ⟨"KiloFractions$Fraction", "becomeProduct", "(LKiloFractions$Fraction;LKiloFractions$Fraction;)V"⟩
abbrev c_L_over : ByteArray := method_7_code
def y_L_over : MethodName := ⟨"KiloFractionsLaw", "over", "(LKiloFractions;II[J)I"⟩
abbrev c_K_over : ByteArray := prog_1_method_6_code
def y_K_over : MethodName := ⟨"KiloFractions", "over", "(II)I"⟩
abbrev c_F_becomeQuotient : ByteArray := prog_3_method_6_code
def y_F_becomeQuotient : MethodName := ⟨"KiloFractions$Fraction", "becomeQuotient", "(LKiloFractions$Fraction;LKiloFractions$Fraction;)V"⟩
abbrev c_L_order : ByteArray := method_8_code
def y_L_order : MethodName := ⟨"KiloFractionsLaw", "order", "(LKiloFractions;II[J)I"⟩
abbrev c_K_order : ByteArray := prog_1_method_7_code
def y_K_order : MethodName := ⟨"KiloFractions", "order", "(II)I"⟩
abbrev c_B_compare : ByteArray := prog_2_method_3_code
def y_B_compare : MethodName := ⟨"KiloFractions$Bench", "compare", "(LKiloFractions$Fraction;LKiloFractions$Fraction;LKiloFractions$Fraction;)I"⟩
abbrev c_L_round : ByteArray := method_9_code
def y_L_round : MethodName := ⟨"KiloFractionsLaw", "round", "(LKiloFractions;IIJ[J)I"⟩
abbrev c_K_round : ByteArray := prog_1_method_8_code
def y_K_round : MethodName := ⟨"KiloFractions", "round", "(IIJ)I"⟩
abbrev c_B_putRounded : ByteArray := prog_2_method_4_code
def y_B_putRounded : MethodName := ⟨"KiloFractions$Bench", "putRounded", "(LKiloFractions$Fraction;IJLKiloFractions$Fraction;)V"⟩
abbrev c_W_isOdd : ByteArray := prog_5_method_4_code
def y_W_isOdd : MethodName := ⟨"KiloFractions$Whole", "isOdd", "()Z"⟩
abbrev c_B_goesFromZero : ByteArray := prog_2_method_5_code
def y_B_goesFromZero : MethodName := ⟨"KiloFractions$Bench", "goesFromZero", "(LKiloFractions$Fraction;IZ)Z"⟩
abbrev c_B_isNearerFromZero : ByteArray := prog_2_method_6_code
def y_B_isNearerFromZero : MethodName := ⟨"KiloFractions$Bench", "isNearerFromZero", "(LKiloFractions$Fraction;IZ)Z"⟩
abbrev c_L_span : ByteArray := method_10_code
def y_L_span : MethodName := ⟨"KiloFractionsLaw", "span", "(LKiloFractions;II[J)I"⟩
abbrev c_K_span : ByteArray := prog_1_method_9_code
def y_K_span : MethodName := ⟨"KiloFractions", "span", "(II)I"⟩
abbrev c_K_needRoomForSpan : ByteArray := prog_1_method_22_code
def y_K_needRoomForSpan : MethodName := ⟨"KiloFractions", "needRoomForSpan", "()V"⟩
abbrev c_K_keepSpan : ByteArray := prog_1_method_25_code
def y_K_keepSpan : MethodName := ⟨"KiloFractions", "keepSpan", "(II)I"⟩
abbrev c_L_spanTimes : ByteArray := method_11_code
def y_L_spanTimes : MethodName := ⟨"KiloFractionsLaw", "spanTimes", "(LKiloFractions;II[J)I"⟩
abbrev c_K_spanTimes : ByteArray := prog_1_method_10_code
def y_K_spanTimes : MethodName := ⟨"KiloFractions", "spanTimes", "(II)I"⟩
abbrev c_K_needSpan : ByteArray := prog_1_method_20_code
def y_K_needSpan : MethodName := ⟨"KiloFractions", "needSpan", "(I)V"⟩
abbrev c_L_end : ByteArray := method_12_code
def y_L_end : MethodName := ⟨"KiloFractionsLaw", "end", "(LKiloFractions;II[J)I"⟩
abbrev c_K_end : ByteArray := prog_1_method_11_code
def y_K_end : MethodName := ⟨"KiloFractions", "end", "(II)I"⟩
abbrev c_L_within : ByteArray := method_13_code
def y_L_within : MethodName := ⟨"KiloFractionsLaw", "within", "(LKiloFractions;II[J)I"⟩
abbrev c_K_within : ByteArray := prog_1_method_12_code
def y_K_within : MethodName := ⟨"KiloFractions", "within", "(II)Z"⟩
abbrev c_L_weight : ByteArray := method_14_code
def y_L_weight : MethodName := ⟨"KiloFractionsLaw", "weight", "(LKiloFractions;J[J)I"⟩
abbrev c_K_weight : ByteArray := prog_1_method_13_code
def y_K_weight : MethodName := ⟨"KiloFractions", "weight", "(J)I"⟩
abbrev c_L_share : ByteArray := method_15_code
def y_L_share : MethodName := ⟨"KiloFractionsLaw", "share", "(LKiloFractions;JI[J)I"⟩
abbrev c_K_share : ByteArray := prog_1_method_14_code
def y_K_share : MethodName := ⟨"KiloFractions", "share", "(JI)J"⟩
abbrev c_K_sumOfWeights : ByteArray := prog_1_method_26_code
def y_K_sumOfWeights : MethodName := ⟨"KiloFractions", "sumOfWeights", "()J"⟩
abbrev c_K_getsOneMore : ByteArray := prog_1_method_27_code
def y_K_getsOneMore : MethodName := ⟨"KiloFractions", "getsOneMore", "(JJI)Z"⟩
abbrev c_L_giving : ByteArray := method_16_code
def y_L_giving : MethodName := ⟨"KiloFractionsLaw", "giving", "(LKiloFractions;I[J)I"⟩
abbrev c_K_giving : ByteArray := prog_1_method_15_code
def y_K_giving : MethodName := ⟨"KiloFractions", "giving", "(I)I"⟩
abbrev c_B_splitOffRest : ByteArray := prog_2_method_7_code
def y_B_splitOffRest : MethodName := ⟨"KiloFractions$Bench", "splitOffRest", "(LKiloFractions$Fraction;LKiloFractions$Fraction;)V"⟩
abbrev c_F_becomeCopy : ByteArray := prog_3_method_4_code
def y_F_becomeCopy : MethodName := ⟨"KiloFractions$Fraction", "becomeCopy", "(LKiloFractions$Fraction;)V"⟩
abbrev c_L_rest : ByteArray := method_17_code
def y_L_rest : MethodName := ⟨"KiloFractionsLaw", "rest", "(LKiloFractions;[J)I"⟩
abbrev c_K_rest : ByteArray := prog_1_method_16_code
def y_K_rest : MethodName := ⟨"KiloFractions", "rest", "()I"⟩
abbrev c_L_sign : ByteArray := method_18_code
def y_L_sign : MethodName := ⟨"KiloFractionsLaw", "sign", "(LKiloFractions;I[J)I"⟩
abbrev c_K_sign : ByteArray := prog_1_method_17_code
def y_K_sign : MethodName := ⟨"KiloFractions", "sign", "(I)I"⟩
abbrev c_L_digit : ByteArray := method_19_code
def y_L_digit : MethodName := ⟨"KiloFractionsLaw", "digit", "(LKiloFractions;III[J)I"⟩
abbrev c_K_digit : ByteArray := prog_1_method_18_code
def y_K_digit : MethodName := ⟨"KiloFractions", "digit", "(III)I"⟩
abbrev c_W_digitAt : ByteArray := prog_5_method_9_code
def y_W_digitAt : MethodName := ⟨"KiloFractions$Whole", "digitAt", "(I)I"⟩
abbrev c_M_init : ByteArray := prog_7_method_1_code
def y_M_init : MethodName := ⟨"KiloFractionsModel", "<init>", "()V"⟩
abbrev c_M_thrown : ByteArray := prog_7_method_2_code
def y_M_thrown : MethodName := ⟨"KiloFractionsModel", "thrown", "()I"⟩
abbrev c_M_value : ByteArray := prog_7_method_26_code
def y_M_value : MethodName := ⟨"KiloFractionsModel", "value", "(JJ)I"⟩
abbrev c_M_goes : ByteArray := prog_7_method_3_code
def y_M_goes : MethodName := ⟨"KiloFractionsModel", "goes", "(ZZZ)Z"⟩
abbrev c_M_set : ByteArray := prog_7_method_8_code
def y_M_set : MethodName := ⟨"KiloFractionsModel", "set", "(IJ)V"⟩
abbrev c_M_clear : ByteArray := prog_7_method_6_code
def y_M_clear : MethodName := ⟨"KiloFractionsModel", "clear", "(I)V"⟩
abbrev c_M_keep : ByteArray := prog_7_method_22_code
def y_M_keep : MethodName := ⟨"KiloFractionsModel", "keep", "(I)I"⟩
abbrev c_M_lowest : ByteArray := prog_7_method_21_code
def y_M_lowest : MethodName := ⟨"KiloFractionsModel", "lowest", "()Z"⟩
abbrev c_M_isNought : ByteArray := prog_7_method_16_code
def y_M_isNought : MethodName := ⟨"KiloFractionsModel", "isNought", "(I)Z"⟩
abbrev c_M_top : ByteArray := prog_7_method_9_code
def y_M_top : MethodName := ⟨"KiloFractionsModel", "top", "(I)I"⟩
abbrev c_M_copy : ByteArray := prog_7_method_7_code
def y_M_copy : MethodName := ⟨"KiloFractionsModel", "copy", "(II)V"⟩
abbrev c_M_common : ByteArray := prog_7_method_20_code
def y_M_common : MethodName := ⟨"KiloFractionsModel", "common", "(II)V"⟩
abbrev c_M_isEven : ByteArray := prog_7_method_15_code
def y_M_isEven : MethodName := ⟨"KiloFractionsModel", "isEven", "(I)Z"⟩
abbrev c_M_halve : ByteArray := prog_7_method_14_code
def y_M_halve : MethodName := ⟨"KiloFractionsModel", "halve", "(I)V"⟩
abbrev c_M_compare : ByteArray := prog_7_method_10_code
def y_M_compare : MethodName := ⟨"KiloFractionsModel", "compare", "(II)I"⟩
abbrev c_M_takesOff : ByteArray := prog_7_method_12_code
def y_M_takesOff : MethodName := ⟨"KiloFractionsModel", "takesOff", "(II)V"⟩
abbrev c_M_adds : ByteArray := prog_7_method_11_code
def y_M_adds : MethodName := ⟨"KiloFractionsModel", "adds", "(II)V"⟩
abbrev c_M_divide : ByteArray := prog_7_method_19_code
def y_M_divide : MethodName := ⟨"KiloFractionsModel", "divide", "(III)V"⟩
abbrev c_M_reaches : ByteArray := prog_7_method_17_code
def y_M_reaches : MethodName := ⟨"KiloFractionsModel", "reaches", "(III)Z"⟩
abbrev c_M_often : ByteArray := prog_7_method_18_code
def y_M_often : MethodName := ⟨"KiloFractionsModel", "often", "(III)J"⟩
abbrev c_M_add : ByteArray := prog_7_method_27_code
def y_M_add : MethodName := ⟨"KiloFractionsModel", "add", "(II)I"⟩
abbrev c_M_isValue : ByteArray := prog_7_method_4_code
def y_M_isValue : MethodName := ⟨"KiloFractionsModel", "isValue", "(I)Z"⟩
abbrev c_M_sum : ByteArray := prog_7_method_25_code
def y_M_sum : MethodName := ⟨"KiloFractionsModel", "sum", "(III)I"⟩
abbrev c_M_loadUp : ByteArray := prog_7_method_23_code
def y_M_loadUp : MethodName := ⟨"KiloFractionsModel", "loadUp", "(II)V"⟩
abbrev c_M_loadDown : ByteArray := prog_7_method_24_code
def y_M_loadDown : MethodName := ⟨"KiloFractionsModel", "loadDown", "(II)V"⟩
abbrev c_M_multiply : ByteArray := prog_7_method_13_code
def y_M_multiply : MethodName := ⟨"KiloFractionsModel", "multiply", "(III)V"⟩
abbrev c_M_less : ByteArray := prog_7_method_28_code
def y_M_less : MethodName := ⟨"KiloFractionsModel", "less", "(II)I"⟩
abbrev c_M_times : ByteArray := prog_7_method_30_code
def y_M_times : MethodName := ⟨"KiloFractionsModel", "times", "(II)I"⟩
abbrev c_M_product : ByteArray := prog_7_method_29_code
def y_M_product : MethodName := ⟨"KiloFractionsModel", "product", "(II)I"⟩
abbrev c_M_over : ByteArray := prog_7_method_31_code
def y_M_over : MethodName := ⟨"KiloFractionsModel", "over", "(II)I"⟩
abbrev c_M_order : ByteArray := prog_7_method_33_code
def y_M_order : MethodName := ⟨"KiloFractionsModel", "order", "(II)I"⟩
abbrev c_M_compareValues : ByteArray := prog_7_method_32_code
def y_M_compareValues : MethodName := ⟨"KiloFractionsModel", "compareValues", "(II)I"⟩
abbrev c_M_round : ByteArray := prog_7_method_35_code
def y_M_round : MethodName := ⟨"KiloFractionsModel", "round", "(IIJ)I"⟩
abbrev c_M_isUp : ByteArray := prog_7_method_34_code
def y_M_isUp : MethodName := ⟨"KiloFractionsModel", "isUp", "(II)Z"⟩
abbrev c_M_span : ByteArray := prog_7_method_36_code
def y_M_span : MethodName := ⟨"KiloFractionsModel", "span", "(II)I"⟩
abbrev c_M_spanTimes : ByteArray := prog_7_method_37_code
def y_M_spanTimes : MethodName := ⟨"KiloFractionsModel", "spanTimes", "(II)I"⟩
abbrev c_M_isSpan : ByteArray := prog_7_method_5_code
def y_M_isSpan : MethodName := ⟨"KiloFractionsModel", "isSpan", "(I)Z"⟩
abbrev c_M_end : ByteArray := prog_7_method_38_code
def y_M_end : MethodName := ⟨"KiloFractionsModel", "end", "(II)I"⟩
abbrev c_M_within : ByteArray := prog_7_method_39_code
def y_M_within : MethodName := ⟨"KiloFractionsModel", "within", "(II)Z"⟩
abbrev c_M_weight : ByteArray := prog_7_method_40_code
def y_M_weight : MethodName := ⟨"KiloFractionsModel", "weight", "(J)I"⟩
abbrev c_M_share : ByteArray := prog_7_method_41_code
def y_M_share : MethodName := ⟨"KiloFractionsModel", "share", "(JI)J"⟩
abbrev c_M_giving : ByteArray := prog_7_method_42_code
def y_M_giving : MethodName := ⟨"KiloFractionsModel", "giving", "(I)I"⟩
abbrev c_M_lowestOf : ByteArray := prog_7_method_43_code
def y_M_lowestOf : MethodName := ⟨"KiloFractionsModel", "lowestOf", "()Z"⟩
abbrev c_M_rest : ByteArray := prog_7_method_44_code
def y_M_rest : MethodName := ⟨"KiloFractionsModel", "rest", "()I"⟩
abbrev c_M_sign : ByteArray := prog_7_method_45_code
def y_M_sign : MethodName := ⟨"KiloFractionsModel", "sign", "(I)I"⟩
abbrev c_M_digit : ByteArray := prog_7_method_47_code
def y_M_digit : MethodName := ⟨"KiloFractionsModel", "digit", "(III)I"⟩
abbrev c_M_many : ByteArray := prog_7_method_46_code
def y_M_many : MethodName := ⟨"KiloFractionsModel", "many", "(J)I"⟩
abbrev c_L_law : ByteArray := code
