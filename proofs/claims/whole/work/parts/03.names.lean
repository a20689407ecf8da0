/-! names: classes, fields, methods; words by their places in lw_tbl (laid by program) -/
abbrev cn_B : String := "ChunkPacker$BitRow"
def cf_B : u_T := fun k => match k with
  | 0 => ("ChunkPacker$BitRow", "words", "[J", true)
  | _ => ("ChunkPacker$BitRow", "size", "I", false)
def ty_B : Nat → FieldType := fun k => match k with
  | 0 => .array .long
  | _ => .int
theorem nn_B : ∀ a, a < 2 → ∀ b, b < 2 → a ≠ b → (cf_B a).2.1 ≠ (cf_B b).2.1 := by decide +kernel
theorem to_B : ∀ k, k < 2 → parseFieldDescriptor (cf_B k).2.2.1 = some (ty_B k) := by decide +kernel
abbrev cn_F : String := "ChunkPacker$Frame"
def cf_F : u_T := fun k => match k with
  | 0 => ("ChunkPacker$Frame", "lead", "I", false)
  | _ => ("ChunkPacker$Frame", "width", "I", false)
def ty_F : Nat → FieldType := fun k => match k with
  | 0 => .int
  | _ => .int
theorem nn_F : ∀ a, a < 2 → ∀ b, b < 2 → a ≠ b → (cf_F a).2.1 ≠ (cf_F b).2.1 := by decide +kernel
theorem to_F : ∀ k, k < 2 → parseFieldDescriptor (cf_F k).2.2.1 = some (ty_F k) := by decide +kernel
abbrev cn_P : String := "ChunkPacker$PointRow"
def cf_P : u_T := fun k => match k with
  | 0 => ("ChunkPacker$PointRow", "times", "[J", true)
  | 1 => ("ChunkPacker$PointRow", "values", "[J", true)
  | _ => ("ChunkPacker$PointRow", "size", "I", false)
def ty_P : Nat → FieldType := fun k => match k with
  | 0 => .array .long
  | 1 => .array .long
  | _ => .int
theorem nn_P : ∀ a, a < 3 → ∀ b, b < 3 → a ≠ b → (cf_P a).2.1 ≠ (cf_P b).2.1 := by decide +kernel
theorem to_P : ∀ k, k < 3 → parseFieldDescriptor (cf_P k).2.2.1 = some (ty_P k) := by decide +kernel
abbrev cn_R : String := "ChunkPacker$Reader"
def cf_R : u_T := fun k => match k with
  | 0 => ("ChunkPacker$Reader", "row", "LChunkPacker$BitRow;", true)
  | 1 => ("ChunkPacker$Reader", "frame", "LChunkPacker$Frame;", true)
  | 2 => ("ChunkPacker$Reader", "position", "I", false)
  | 3 => ("ChunkPacker$Reader", "number", "J", false)
  | 4 => ("ChunkPacker$Reader", "time", "J", false)
  | 5 => ("ChunkPacker$Reader", "step", "J", false)
  | _ => ("ChunkPacker$Reader", "value", "J", false)
def ty_R : Nat → FieldType := fun k => match k with
  | 0 => .object "ChunkPacker$BitRow"
  | 1 => .object "ChunkPacker$Frame"
  | 2 => .int
  | 3 => .long
  | 4 => .long
  | 5 => .long
  | _ => .long
theorem nn_R : ∀ a, a < 7 → ∀ b, b < 7 → a ≠ b → (cf_R a).2.1 ≠ (cf_R b).2.1 := by decide +kernel
theorem to_R : ∀ k, k < 7 → parseFieldDescriptor (cf_R k).2.2.1 = some (ty_R k) := by decide +kernel
abbrev cn_W : String := "ChunkPacker$Writer"
def cf_W : u_T := fun k => match k with
  | 0 => ("ChunkPacker$Writer", "row", "LChunkPacker$BitRow;", true)
  | 1 => ("ChunkPacker$Writer", "frame", "LChunkPacker$Frame;", true)
  | 2 => ("ChunkPacker$Writer", "lastTime", "J", false)
  | 3 => ("ChunkPacker$Writer", "lastStep", "J", false)
  | _ => ("ChunkPacker$Writer", "lastValue", "J", false)
def ty_W : Nat → FieldType := fun k => match k with
  | 0 => .object "ChunkPacker$BitRow"
  | 1 => .object "ChunkPacker$Frame"
  | 2 => .long
  | 3 => .long
  | _ => .long
theorem nn_W : ∀ a, a < 5 → ∀ b, b < 5 → a ≠ b → (cf_W a).2.1 ≠ (cf_W b).2.1 := by decide +kernel
theorem to_W : ∀ k, k < 5 → parseFieldDescriptor (cf_W k).2.2.1 = some (ty_W k) := by decide +kernel
abbrev cn_X : String := "ChunkPacker"
def cf_X : u_T := fun k => match k with
  | 0 => ("ChunkPacker", "points", "LChunkPacker$PointRow;", false)
  | 1 => ("ChunkPacker", "sparePoints", "LChunkPacker$PointRow;", false)
  | 2 => ("ChunkPacker", "bits", "LChunkPacker$BitRow;", false)
  | 3 => ("ChunkPacker", "spareBits", "LChunkPacker$BitRow;", false)
  | _ => ("ChunkPacker", "latestTaken", "I", false)
def ty_X : Nat → FieldType := fun k => match k with
  | 0 => .object "ChunkPacker$PointRow"
  | 1 => .object "ChunkPacker$PointRow"
  | 2 => .object "ChunkPacker$BitRow"
  | 3 => .object "ChunkPacker$BitRow"
  | _ => .int
theorem nn_X : ∀ a, a < 5 → ∀ b, b < 5 → a ≠ b → (cf_X a).2.1 ≠ (cf_X b).2.1 := by decide +kernel
theorem to_X : ∀ k, k < 5 → parseFieldDescriptor (cf_X k).2.2.1 = some (ty_X k) := by decide +kernel
abbrev cn_M : String := "ChunkPackerModel"
def cf_M : u_T := fun k => match k with
  | 0 => ("ChunkPackerModel", "code", "I", false)
  | 1 => ("ChunkPackerModel", "times", "[J", true)
  | 2 => ("ChunkPackerModel", "values", "[J", true)
  | 3 => ("ChunkPackerModel", "points", "I", false)
  | 4 => ("ChunkPackerModel", "bits", "[B", true)
  | 5 => ("ChunkPackerModel", "size", "I", false)
  | 6 => ("ChunkPackerModel", "taken", "I", false)
  | 7 => ("ChunkPackerModel", "newTimes", "[J", true)
  | 8 => ("ChunkPackerModel", "newValues", "[J", true)
  | 9 => ("ChunkPackerModel", "place", "I", false)
  | 10 => ("ChunkPackerModel", "wrong", "Z", false)
  | 11 => ("ChunkPackerModel", "frameZeros", "I", false)
  | _ => ("ChunkPackerModel", "frameBits", "I", false)
def ty_M : Nat → FieldType := fun k => match k with
  | 0 => .int
  | 1 => .array .long
  | 2 => .array .long
  | 3 => .int
  | 4 => .array .byte
  | 5 => .int
  | 6 => .int
  | 7 => .array .long
  | 8 => .array .long
  | 9 => .int
  | 10 => .boolean
  | 11 => .int
  | _ => .int
theorem nn_M : ∀ a, a < 13 → ∀ b, b < 13 → a ≠ b → (cf_M a).2.1 ≠ (cf_M b).2.1 := by decide +kernel
theorem to_M : ∀ k, k < 13 → parseFieldDescriptor (cf_M k).2.2.1 = some (ty_M k) := by decide +kernel
abbrev cn_L : String := "ChunkPackerLaw"
abbrev cn_I : String := "java/lang/Integer"
abbrev cn_J : String := "java/lang/Long"
abbrev cn_H : String := "java/lang/Math"
abbrev classes : List vw_C := [(cn_B, cf_B, 2), (cn_F, cf_F, 2), (cn_P, cf_P, 3), (cn_R, cf_R, 7), (cn_W, cf_W, 5), (cn_X, cf_X, 5), (cn_M, cf_M, 13)]
abbrev mb_X_init : ByteArray := prog_1_method_1_code
def my_X_init : MethodName := ⟨cn_X, "<init>", "()V"⟩
abbrev mb_P_init : ByteArray := prog_4_method_1_code
def my_P_init : MethodName := ⟨cn_P, "<init>", "()V"⟩
abbrev mb_B_init : ByteArray := prog_2_method_1_code
def my_B_init : MethodName := ⟨cn_B, "<init>", "()V"⟩
abbrev mb_X_taken : ByteArray := prog_1_method_6_code
def my_X_taken : MethodName := ⟨cn_X, "taken", "()I"⟩
abbrev mb_L_add : ByteArray := method_3_code
def my_L_add : MethodName := ⟨cn_L, "add", "(LChunkPacker;JJ[J)I"⟩
abbrev mb_X_add : ByteArray := prog_1_method_2_code
def my_X_add : MethodName := ⟨cn_X, "add", "(JJ)I"⟩
abbrev mb_P_latestTime : ByteArray := prog_4_method_3_code
def my_P_latestTime : MethodName := ⟨cn_P, "latestTime", "()J"⟩
abbrev mb_P_append : ByteArray := prog_4_method_6_code
def my_P_append : MethodName := ⟨cn_P, "append", "(JJ)Z"⟩
abbrev mb_P_size : ByteArray := prog_4_method_2_code
def my_P_size : MethodName := ⟨cn_P, "size", "()I"⟩
abbrev mb_L_keep : ByteArray := method_4_code
def my_L_keep : MethodName := ⟨cn_L, "keep", "(LChunkPacker;I[J)I"⟩
abbrev mb_X_keep : ByteArray := prog_1_method_3_code
def my_X_keep : MethodName := ⟨cn_X, "keep", "(I)I"⟩
abbrev mb_P_shorten : ByteArray := prog_4_method_7_code
def my_P_shorten : MethodName := ⟨cn_P, "shorten", "(I)V"⟩
abbrev mb_L_pack : ByteArray := method_5_code
def my_L_pack : MethodName := ⟨cn_L, "pack", "(LChunkPacker;[J)I"⟩
abbrev mb_X_pack : ByteArray := prog_1_method_4_code
def my_X_pack : MethodName := ⟨cn_X, "pack", "()I"⟩
abbrev mb_B_shorten : ByteArray := prog_2_method_8_code
def my_B_shorten : MethodName := ⟨cn_B, "shorten", "(I)V"⟩
abbrev mb_W_init : ByteArray := prog_6_method_1_code
def my_W_init : MethodName := ⟨cn_W, "<init>", "(LChunkPacker$BitRow;)V"⟩
abbrev mb_F_init : ByteArray := prog_3_method_1_code
def my_F_init : MethodName := ⟨cn_F, "<init>", "()V"⟩
abbrev mb_W_writeAll : ByteArray := prog_6_method_2_code
def my_W_writeAll : MethodName := ⟨cn_W, "writeAll", "(LChunkPacker$PointRow;)Z"⟩
abbrev mb_P_timeAt : ByteArray := prog_4_method_4_code
def my_P_timeAt : MethodName := ⟨cn_P, "timeAt", "(I)J"⟩
abbrev mb_P_valueAt : ByteArray := prog_4_method_5_code
def my_P_valueAt : MethodName := ⟨cn_P, "valueAt", "(I)J"⟩
abbrev mb_W_writeFirst : ByteArray := prog_6_method_3_code
def my_W_writeFirst : MethodName := ⟨cn_W, "writeFirst", "(JJ)Z"⟩
abbrev mb_B_append : ByteArray := prog_2_method_7_code
def my_B_append : MethodName := ⟨cn_B, "append", "(JI)Z"⟩
abbrev mb_W_writeNext : ByteArray := prog_6_method_4_code
def my_W_writeNext : MethodName := ⟨cn_W, "writeNext", "(JJ)Z"⟩
abbrev mb_W_writeTurn : ByteArray := prog_6_method_5_code
def my_W_writeTurn : MethodName := ⟨cn_W, "writeTurn", "(J)Z"⟩
abbrev mb_W_kindOf : ByteArray := prog_6_method_6_code
def my_W_kindOf : MethodName := ⟨cn_W, "kindOf", "(J)I"⟩
abbrev mb_W_writeKind : ByteArray := prog_6_method_7_code
def my_W_writeKind : MethodName := ⟨cn_W, "writeKind", "(I)Z"⟩
abbrev mb_W_writeDifference : ByteArray := prog_6_method_8_code
def my_W_writeDifference : MethodName := ⟨cn_W, "writeDifference", "(J)Z"⟩
abbrev mb_J_numberOfLeadingZeros : ByteArray := prog_14_method_48_code
def my_J_numberOfLeadingZeros : MethodName := ⟨cn_J, "numberOfLeadingZeros", "(J)I"⟩
abbrev mb_I_numberOfLeadingZeros : ByteArray := prog_13_method_47_code
def my_I_numberOfLeadingZeros : MethodName := ⟨cn_I, "numberOfLeadingZeros", "(I)I"⟩
abbrev mb_H_min : ByteArray := prog_15_method_69_code
def my_H_min : MethodName := ⟨cn_H, "min", "(II)I"⟩
abbrev mb_J_numberOfTrailingZeros : ByteArray := prog_14_method_49_code
def my_J_numberOfTrailingZeros : MethodName := ⟨cn_J, "numberOfTrailingZeros", "(J)I"⟩
abbrev mb_I_numberOfTrailingZeros : ByteArray := prog_13_method_48_code
def my_I_numberOfTrailingZeros : MethodName := ⟨cn_I, "numberOfTrailingZeros", "(I)I"⟩
abbrev mb_F_holds : ByteArray := prog_3_method_5_code
def my_F_holds : MethodName := ⟨cn_F, "holds", "(II)Z"⟩
abbrev mb_F_isThere : ByteArray := prog_3_method_2_code
def my_F_isThere : MethodName := ⟨cn_F, "isThere", "()Z"⟩
abbrev mb_F_below : ByteArray := prog_3_method_4_code
def my_F_below : MethodName := ⟨cn_F, "below", "()I"⟩
abbrev mb_W_writeFrame : ByteArray := prog_6_method_9_code
def my_W_writeFrame : MethodName := ⟨cn_W, "writeFrame", "(II)Z"⟩
abbrev mb_F_become : ByteArray := prog_3_method_6_code
def my_F_become : MethodName := ⟨cn_F, "become", "(II)V"⟩
abbrev mb_F_width : ByteArray := prog_3_method_3_code
def my_F_width : MethodName := ⟨cn_F, "width", "()I"⟩
abbrev mb_B_size : ByteArray := prog_2_method_2_code
def my_B_size : MethodName := ⟨cn_B, "size", "()I"⟩
abbrev mb_L_unpack : ByteArray := method_6_code
def my_L_unpack : MethodName := ⟨cn_L, "unpack", "(LChunkPacker;I[J)I"⟩
abbrev mb_X_unpack : ByteArray := prog_1_method_5_code
def my_X_unpack : MethodName := ⟨cn_X, "unpack", "(I)I"⟩
abbrev mb_R_init : ByteArray := prog_5_method_1_code
def my_R_init : MethodName := ⟨cn_R, "<init>", "(LChunkPacker$BitRow;)V"⟩
abbrev mb_R_readAll : ByteArray := prog_5_method_3_code
def my_R_readAll : MethodName := ⟨cn_R, "readAll", "(ILChunkPacker$PointRow;)Z"⟩
abbrev mb_R_readFirst : ByteArray := prog_5_method_5_code
def my_R_readFirst : MethodName := ⟨cn_R, "readFirst", "()Z"⟩
abbrev mb_R_take : ByteArray := prog_5_method_4_code
def my_R_take : MethodName := ⟨cn_R, "take", "(I)Z"⟩
abbrev mb_B_has : ByteArray := prog_2_method_5_code
def my_B_has : MethodName := ⟨cn_B, "has", "(II)Z"⟩
abbrev mb_B_numberAt : ByteArray := prog_2_method_6_code
def my_B_numberAt : MethodName := ⟨cn_B, "numberAt", "(II)J"⟩
abbrev mb_R_readNext : ByteArray := prog_5_method_6_code
def my_R_readNext : MethodName := ⟨cn_R, "readNext", "()Z"⟩
abbrev mb_R_readTurn : ByteArray := prog_5_method_7_code
def my_R_readTurn : MethodName := ⟨cn_R, "readTurn", "()Z"⟩
abbrev mb_R_readKind : ByteArray := prog_5_method_8_code
def my_R_readKind : MethodName := ⟨cn_R, "readKind", "()I"⟩
abbrev mb_R_withSign : ByteArray := prog_5_method_9_code
def my_R_withSign : MethodName := ⟨cn_R, "withSign", "(JI)J"⟩
abbrev mb_R_readDifference : ByteArray := prog_5_method_10_code
def my_R_readDifference : MethodName := ⟨cn_R, "readDifference", "()Z"⟩
abbrev mb_R_readFrame : ByteArray := prog_5_method_11_code
def my_R_readFrame : MethodName := ⟨cn_R, "readFrame", "()Z"⟩
abbrev mb_R_position : ByteArray := prog_5_method_2_code
def my_R_position : MethodName := ⟨cn_R, "position", "()I"⟩
abbrev mb_L_count : ByteArray := method_7_code
def my_L_count : MethodName := ⟨cn_L, "count", "(LChunkPacker;I[J)I"⟩
abbrev mb_X_count : ByteArray := prog_1_method_7_code
def my_X_count : MethodName := ⟨cn_X, "count", "(I)I"⟩
abbrev mb_L_time : ByteArray := method_8_code
def my_L_time : MethodName := ⟨cn_L, "time", "(LChunkPacker;I[J)I"⟩
abbrev mb_X_time : ByteArray := prog_1_method_8_code
def my_X_time : MethodName := ⟨cn_X, "time", "(I)J"⟩
abbrev mb_L_value : ByteArray := method_9_code
def my_L_value : MethodName := ⟨cn_L, "value", "(LChunkPacker;I[J)I"⟩
abbrev mb_X_value : ByteArray := prog_1_method_9_code
def my_X_value : MethodName := ⟨cn_X, "value", "(I)J"⟩
abbrev mb_L_bit : ByteArray := method_10_code
def my_L_bit : MethodName := ⟨cn_L, "bit", "(LChunkPacker;I[J)I"⟩
abbrev mb_X_bit : ByteArray := prog_1_method_10_code
def my_X_bit : MethodName := ⟨cn_X, "bit", "(I)Z"⟩
abbrev mb_B_isOne : ByteArray := prog_2_method_3_code
def my_B_isOne : MethodName := ⟨cn_B, "isOne", "(I)Z"⟩
abbrev mb_L_flip : ByteArray := method_11_code
def my_L_flip : MethodName := ⟨cn_L, "flip", "(LChunkPacker;I)I"⟩
abbrev mb_X_flip : ByteArray := prog_1_method_11_code
def my_X_flip : MethodName := ⟨cn_X, "flip", "(I)V"⟩
abbrev mb_B_invert : ByteArray := prog_2_method_4_code
def my_B_invert : MethodName := ⟨cn_B, "invert", "(I)V"⟩
abbrev mb_L_put : ByteArray := method_12_code
def my_L_put : MethodName := ⟨cn_L, "put", "(LChunkPacker;JI[J)I"⟩
abbrev mb_X_put : ByteArray := prog_1_method_12_code
def my_X_put : MethodName := ⟨cn_X, "put", "(JI)I"⟩
abbrev mb_L_cut : ByteArray := method_13_code
def my_L_cut : MethodName := ⟨cn_L, "cut", "(LChunkPacker;I)I"⟩
abbrev mb_X_cut : ByteArray := prog_1_method_13_code
def my_X_cut : MethodName := ⟨cn_X, "cut", "(I)V"⟩
abbrev mb_M_init : ByteArray := prog_8_method_1_code
def my_M_init : MethodName := ⟨cn_M, "<init>", "()V"⟩
abbrev mb_M_thrown : ByteArray := prog_8_method_2_code
def my_M_thrown : MethodName := ⟨cn_M, "thrown", "()I"⟩
abbrev mb_M_add : ByteArray := prog_8_method_3_code
def my_M_add : MethodName := ⟨cn_M, "add", "(JJ)I"⟩
abbrev mb_M_keep : ByteArray := prog_8_method_4_code
def my_M_keep : MethodName := ⟨cn_M, "keep", "(I)I"⟩
abbrev mb_M_pack : ByteArray := prog_8_method_8_code
def my_M_pack : MethodName := ⟨cn_M, "pack", "()I"⟩
abbrev mb_M_write : ByteArray := prog_8_method_5_code
def my_M_write : MethodName := ⟨cn_M, "write", "(JI)V"⟩
abbrev mb_M_writeTurn : ByteArray := prog_8_method_6_code
def my_M_writeTurn : MethodName := ⟨cn_M, "writeTurn", "(J)V"⟩
abbrev mb_M_writeValue : ByteArray := prog_8_method_7_code
def my_M_writeValue : MethodName := ⟨cn_M, "writeValue", "(J)V"⟩
abbrev mb_M_unpack : ByteArray := prog_8_method_13_code
def my_M_unpack : MethodName := ⟨cn_M, "unpack", "(I)I"⟩
abbrev mb_M_read : ByteArray := prog_8_method_9_code
def my_M_read : MethodName := ⟨cn_M, "read", "(I)J"⟩
abbrev mb_M_readTurn : ByteArray := prog_8_method_11_code
def my_M_readTurn : MethodName := ⟨cn_M, "readTurn", "()J"⟩
abbrev mb_M_readSigned : ByteArray := prog_8_method_10_code
def my_M_readSigned : MethodName := ⟨cn_M, "readSigned", "(I)J"⟩
abbrev mb_M_readValue : ByteArray := prog_8_method_12_code
def my_M_readValue : MethodName := ⟨cn_M, "readValue", "()J"⟩
abbrev mb_M_taken : ByteArray := prog_8_method_14_code
def my_M_taken : MethodName := ⟨cn_M, "taken", "()I"⟩
abbrev mb_M_count : ByteArray := prog_8_method_15_code
def my_M_count : MethodName := ⟨cn_M, "count", "(I)I"⟩
abbrev mb_M_time : ByteArray := prog_8_method_16_code
def my_M_time : MethodName := ⟨cn_M, "time", "(I)J"⟩
abbrev mb_M_value : ByteArray := prog_8_method_17_code
def my_M_value : MethodName := ⟨cn_M, "value", "(I)J"⟩
abbrev mb_M_bit : ByteArray := prog_8_method_18_code
def my_M_bit : MethodName := ⟨cn_M, "bit", "(I)Z"⟩
abbrev mb_M_flip : ByteArray := prog_8_method_19_code
def my_M_flip : MethodName := ⟨cn_M, "flip", "(I)V"⟩
abbrev mb_M_put : ByteArray := prog_8_method_20_code
def my_M_put : MethodName := ⟨cn_M, "put", "(JI)I"⟩
abbrev mb_M_cut : ByteArray := prog_8_method_21_code
def my_M_cut : MethodName := ⟨cn_M, "cut", "(I)V"⟩
abbrev mb_L_law : ByteArray := code
def my_L_law : MethodName := ⟨cn_L, "law", "([I)Z"⟩
/-- the words that stay true wherever they are asked -/
def TB : List Cond := lw_tbl.filter goodWord
theorem tb_of {i : Nat} {w : Cond} (h : lw_tbl[i]? = some w) (g : goodWord w = true) : w ∈ TB := List.mem_filter.mpr ⟨List.mem_of_getElem? h, g⟩
theorem tb_good {ws : List Cond} (h : ∀ w ∈ ws, w ∈ TB) : GoodIn TB ws := fun w hw => ⟨h w hw, good_of_word (List.mem_filter.mp (h w hw)).2⟩
theorem tb_V {own : String} {idx : Nat} {C : String} {y : MethodName} {cc : ByteArray} {n : Nat} {r : Option FieldType} (h1 : Cond.methodLink own idx y ∈ TB) (h2 : Cond.instanceMethod y ∈ TB) (h3 : Cond.selects C y y ∈ TB) (h4 : Cond.initialized C ∈ TB) (h5 : Cond.code y cc n r ∈ TB) : GoodIn TB (wsV own idx C y (Cond.code y cc n r :: TB)) := tb_good (fun w hw => by
  simp only [wsV, List.cons_append, List.nil_append, List.mem_cons] at hw
  rcases hw with rfl | rfl | rfl | rfl | rfl | hw <;> assumption)
theorem tb_S {own : String} {idx : Nat} {y : MethodName} {cc : ByteArray} {n : Nat} {r : Option FieldType} (h1 : Cond.methodLink own idx y ∈ TB) (h2 : Cond.static y ∈ TB) (h3 : Cond.initialized y.cls ∈ TB) (h5 : Cond.code y cc n r ∈ TB) : GoodIn TB (va_wsS own idx y (Cond.code y cc n r :: TB)) := tb_good (fun w hw => by
  simp only [va_wsS, List.cons_append, List.nil_append, List.mem_cons] at hw
  rcases hw with rfl | rfl | rfl | rfl | hw <;> assumption)
theorem tb_I {y : MethodName} {cc : ByteArray} {n : Nat} {r : Option FieldType} (h5 : Cond.code y cc n r ∈ TB) : GoodIn TB (Cond.code y cc n r :: TB) := tb_good (fun w hw => by
  simp only [List.mem_cons] at hw
  rcases hw with rfl | hw <;> assumption)
