/-! ===== BEGIN words of one list among another's, by their places ===== -/
theorem goodIn_r {big : List Cond} (ws : List Cond) (ps : List Nat) (hp : ws = ps.filterMap (fun i => big[i]?)) (h : ws.all goodWord = true) : GoodIn big ws := by
  intro w hw
  have h1 := List.all_eq_true.mp h w hw
  rw [hp] at hw
  obtain ⟨i, -, hi⟩ := List.mem_filterMap.mp hw
  have hm : w ∈ big := by first | exact List.mem_of_getElem? hi | exact List.getElem?_mem hi
  exact ⟨hm, good_of_word h1⟩
theorem goodIn_app {big a b : List Cond} (ha : GoodIn big a) (hb : GoodIn big b) : GoodIn big (a ++ b) := fun w h => (List.mem_append.mp h).elim (ha w) (hb w)
theorem goodIn_ca {big a b : List Cond} {c : Cond} (ha : GoodIn big (c :: a)) (hb : GoodIn big b) : GoodIn big (c :: (a ++ b)) := fun w h => (List.mem_cons.mp h).elim (fun e => ha w (List.mem_cons.mpr (Or.inl e))) (fun h => (List.mem_append.mp h).elim (fun h => ha w (List.mem_cons.mpr (Or.inr h))) (hb w))
theorem goodIn_sub {big ws : List Cond} (hm : ∀ w ∈ ws, w ∈ big) (h : ws.all goodWord = true) : GoodIn big ws := fun w hw => ⟨hm w hw, good_of_word (List.all_eq_true.mp h w hw)⟩
/-! ===== END ===== -/

/-! ===== BEGIN printed: names, fields, word lists, decode rows ===== -/
def RX0 : String := "RecordWire$ByteRow"
def TX0 : u_T := fun k => match k with
  | 0 => ("RecordWire$ByteRow", "bytes", "[I", true)
  | _ => ("RecordWire$ByteRow", "size", "I", false)
def tyX0 : Nat → FieldType := fun k => match k with
  | 0 => .array .int
  | _ => .int
abbrev wsX00 : List Cond := u_ws RX0 TX0 2
theorem nmX0 : ∀ a, a < 2 → ∀ b, b < 2 → a ≠ b → (TX0 a).2.1 ≠ (TX0 b).2.1 := by decide +kernel
theorem tyX0_ok : ∀ k, k < 2 → parseFieldDescriptor (TX0 k).2.2.1 = some (tyX0 k) := by decide +kernel
abbrev cX0_init : ByteArray := prog_2_method_1_code
def yX0_init : MethodName := ⟨RX0, "<init>", "()V"⟩
abbrev cX0_clear : ByteArray := prog_2_method_2_code
def yX0_clear : MethodName := ⟨RX0, "clear", "()V"⟩
abbrev cX0_size : ByteArray := prog_2_method_3_code
def yX0_size : MethodName := ⟨RX0, "size", "()I"⟩
abbrev cX0_isEmpty : ByteArray := prog_2_method_4_code
def yX0_isEmpty : MethodName := ⟨RX0, "isEmpty", "()Z"⟩
abbrev cX0_at : ByteArray := prog_2_method_5_code
def yX0_at : MethodName := ⟨RX0, "at", "(I)I"⟩
abbrev cX0_change : ByteArray := prog_2_method_6_code
def yX0_change : MethodName := ⟨RX0, "change", "(II)Z"⟩
abbrev cX0_append : ByteArray := prog_2_method_7_code
def yX0_append : MethodName := ⟨RX0, "append", "(I)V"⟩
abbrev cX0_appendNumber : ByteArray := prog_2_method_8_code
def yX0_appendNumber : MethodName := ⟨RX0, "appendNumber", "(JI)V"⟩
abbrev cX0_numberAt : ByteArray := prog_2_method_9_code
def yX0_numberAt : MethodName := ⟨RX0, "numberAt", "(II)J"⟩
def RX1 : String := "RecordWire$Direction"
def TX1 : u_T := fun k => match k with
  | 0 => ("RecordWire$Direction", "index", "I", true)
  | 1 => ("RecordWire$Direction", "hmac", "LRecordWire$Hmac;", true)
  | 2 => ("RecordWire$Direction", "salsa", "LRecordWire$Salsa20;", true)
  | 3 => ("RecordWire$Direction", "sealKey", "[I", true)
  | 4 => ("RecordWire$Direction", "tagKey", "[I", true)
  | 5 => ("RecordWire$Direction", "tag", "[I", true)
  | 6 => ("RecordWire$Direction", "window", "LRecordWire$Window;", true)
  | 7 => ("RecordWire$Direction", "epoch", "I", false)
  | _ => ("RecordWire$Direction", "nextNumber", "J", false)
def tyX1 : Nat → FieldType := fun k => match k with
  | 0 => .int
  | 1 => .object "RecordWire$Hmac"
  | 2 => .object "RecordWire$Salsa20"
  | 3 => .array .int
  | 4 => .array .int
  | 5 => .array .int
  | 6 => .object "RecordWire$Window"
  | 7 => .int
  | _ => .long
abbrev wsX10 : List Cond := u_ws RX1 TX1 9
theorem nmX1 : ∀ a, a < 9 → ∀ b, b < 9 → a ≠ b → (TX1 a).2.1 ≠ (TX1 b).2.1 := by decide +kernel
theorem tyX1_ok : ∀ k, k < 9 → parseFieldDescriptor (TX1 k).2.2.1 = some (tyX1 k) := by decide +kernel
abbrev cX1_init : ByteArray := prog_3_method_1_code
def yX1_init : MethodName := ⟨RX1, "<init>", "(ILRecordWire$Hmac;LRecordWire$Salsa20;)V"⟩
abbrev cX1_epoch : ByteArray := prog_3_method_2_code
def yX1_epoch : MethodName := ⟨RX1, "epoch", "()I"⟩
abbrev cX1_seenInWindow : ByteArray := prog_3_method_3_code
def yX1_seenInWindow : MethodName := ⟨RX1, "seenInWindow", "()I"⟩
abbrev cX1_forget : ByteArray := prog_3_method_4_code
def yX1_forget : MethodName := ⟨RX1, "forget", "()V"⟩
abbrev cX1_makeNextRoot : ByteArray := prog_3_method_5_code
def yX1_makeNextRoot : MethodName := ⟨RX1, "makeNextRoot", "([I)V"⟩
abbrev cX1_startEpoch : ByteArray := prog_3_method_6_code
def yX1_startEpoch : MethodName := ⟨RX1, "startEpoch", "(I[I)V"⟩
abbrev cX1_write : ByteArray := prog_3_method_7_code
def yX1_write : MethodName := ⟨RX1, "write", "(LRecordWire$ByteRow;LRecordWire$ByteRow;)V"⟩
abbrev cX1_judge : ByteArray := prog_3_method_8_code
def yX1_judge : MethodName := ⟨RX1, "judge", "(LRecordWire$ByteRow;)I"⟩
abbrev cX1_read : ByteArray := prog_3_method_9_code
def yX1_read : MethodName := ⟨RX1, "read", "(LRecordWire$ByteRow;LRecordWire$ByteRow;)V"⟩
abbrev cX1_hasRightShape : ByteArray := prog_3_method_10_code
def yX1_hasRightShape : MethodName := ⟨RX1, "hasRightShape", "(LRecordWire$ByteRow;)Z"⟩
abbrev cX1_tagStandsAt : ByteArray := prog_3_method_11_code
def yX1_tagStandsAt : MethodName := ⟨RX1, "tagStandsAt", "(ILRecordWire$ByteRow;)Z"⟩
abbrev cX1_makeTag : ByteArray := prog_3_method_12_code
def yX1_makeTag : MethodName := ⟨RX1, "makeTag", "(LRecordWire$ByteRow;I)V"⟩
abbrev cX1_makeKey : ByteArray := prog_3_method_13_code
def yX1_makeKey : MethodName := ⟨RX1, "makeKey", "([II[I)V"⟩
def RX2 : String := "RecordWire$Hmac"
def TX2 : u_T := fun k => match k with
  | 0 => ("RecordWire$Hmac", "hash", "LRecordWire$Sha256;", true)
  | 1 => ("RecordWire$Hmac", "keyBlock", "[I", true)
  | _ => ("RecordWire$Hmac", "innerHash", "[I", true)
def tyX2 : Nat → FieldType := fun k => match k with
  | 0 => .object "RecordWire$Sha256"
  | 1 => .array .int
  | _ => .array .int
abbrev wsX20 : List Cond := u_ws RX2 TX2 3
theorem nmX2 : ∀ a, a < 3 → ∀ b, b < 3 → a ≠ b → (TX2 a).2.1 ≠ (TX2 b).2.1 := by decide +kernel
theorem tyX2_ok : ∀ k, k < 3 → parseFieldDescriptor (TX2 k).2.2.1 = some (tyX2 k) := by decide +kernel
abbrev cX2_init : ByteArray := prog_4_method_1_code
def yX2_init : MethodName := ⟨RX2, "<init>", "()V"⟩
abbrev cX2_begin : ByteArray := prog_4_method_2_code
def yX2_begin : MethodName := ⟨RX2, "begin", "([I)V"⟩
abbrev cX2_append : ByteArray := prog_4_method_3_code
def yX2_append : MethodName := ⟨RX2, "append", "(I)V"⟩
abbrev cX2_appendAll : ByteArray := prog_4_method_4_code
def yX2_appendAll : MethodName := ⟨RX2, "appendAll", "([I)V"⟩
abbrev cX2_finish : ByteArray := prog_4_method_5_code
def yX2_finish : MethodName := ⟨RX2, "finish", "([I)V"⟩
abbrev cX2_beginWithPad : ByteArray := prog_4_method_6_code
def yX2_beginWithPad : MethodName := ⟨RX2, "beginWithPad", "(I)V"⟩
def RX3 : String := "RecordWire$Salsa20"
def TX3 : u_T := fun k => match k with
  | 0 => ("RecordWire$Salsa20", "input", "[I", true)
  | 1 => ("RecordWire$Salsa20", "block", "[I", true)
  | _ => ("RecordWire$Salsa20", "position", "I", false)
def tyX3 : Nat → FieldType := fun k => match k with
  | 0 => .array .int
  | 1 => .array .int
  | _ => .int
abbrev wsX30 : List Cond := u_ws RX3 TX3 3
theorem nmX3 : ∀ a, a < 3 → ∀ b, b < 3 → a ≠ b → (TX3 a).2.1 ≠ (TX3 b).2.1 := by decide +kernel
theorem tyX3_ok : ∀ k, k < 3 → parseFieldDescriptor (TX3 k).2.2.1 = some (tyX3 k) := by decide +kernel
abbrev cX3_init : ByteArray := prog_5_method_1_code
def yX3_init : MethodName := ⟨RX3, "<init>", "()V"⟩
abbrev cX3_begin : ByteArray := prog_5_method_2_code
def yX3_begin : MethodName := ⟨RX3, "begin", "([ILRecordWire$ByteRow;)V"⟩
abbrev cX3_next : ByteArray := prog_5_method_3_code
def yX3_next : MethodName := ⟨RX3, "next", "()I"⟩
abbrev cX3_fillBlock : ByteArray := prog_5_method_4_code
def yX3_fillBlock : MethodName := ⟨RX3, "fillBlock", "()V"⟩
abbrev cX3_mixColumns : ByteArray := prog_5_method_5_code
def yX3_mixColumns : MethodName := ⟨RX3, "mixColumns", "()V"⟩
abbrev cX3_mixRows : ByteArray := prog_5_method_6_code
def yX3_mixRows : MethodName := ⟨RX3, "mixRows", "()V"⟩
abbrev cX3_mixQuarter : ByteArray := prog_5_method_7_code
def yX3_mixQuarter : MethodName := ⟨RX3, "mixQuarter", "(IIII)V"⟩
abbrev cX3_keyWord : ByteArray := prog_5_method_8_code
def yX3_keyWord : MethodName := ⟨RX3, "keyWord", "([II)I"⟩
abbrev cX3_headWord : ByteArray := prog_5_method_9_code
def yX3_headWord : MethodName := ⟨RX3, "headWord", "(LRecordWire$ByteRow;I)I"⟩
abbrev cX3_word : ByteArray := prog_5_method_10_code
def yX3_word : MethodName := ⟨RX3, "word", "(IIII)I"⟩
abbrev cX3_turn : ByteArray := prog_5_method_11_code
def yX3_turn : MethodName := ⟨RX3, "turn", "(II)I"⟩
def RX4 : String := "RecordWire$Sha256"
def TX4 : u_T := fun k => match k with
  | 0 => ("RecordWire$Sha256", "message", "[I", true)
  | 1 => ("RecordWire$Sha256", "schedule", "[I", true)
  | 2 => ("RecordWire$Sha256", "state", "[I", true)
  | _ => ("RecordWire$Sha256", "length", "I", false)
def tyX4 : Nat → FieldType := fun k => match k with
  | 0 => .array .int
  | 1 => .array .int
  | 2 => .array .int
  | _ => .int
abbrev wsX40 : List Cond := u_ws RX4 TX4 4
theorem nmX4 : ∀ a, a < 4 → ∀ b, b < 4 → a ≠ b → (TX4 a).2.1 ≠ (TX4 b).2.1 := by decide +kernel
theorem tyX4_ok : ∀ k, k < 4 → parseFieldDescriptor (TX4 k).2.2.1 = some (tyX4 k) := by decide +kernel
abbrev cX4_init : ByteArray := prog_6_method_1_code
def yX4_init : MethodName := ⟨RX4, "<init>", "()V"⟩
abbrev cX4_begin : ByteArray := prog_6_method_2_code
def yX4_begin : MethodName := ⟨RX4, "begin", "()V"⟩
abbrev cX4_append : ByteArray := prog_6_method_3_code
def yX4_append : MethodName := ⟨RX4, "append", "(I)V"⟩
abbrev cX4_finish : ByteArray := prog_6_method_4_code
def yX4_finish : MethodName := ⟨RX4, "finish", "([I)V"⟩
abbrev cX4_pad : ByteArray := prog_6_method_5_code
def yX4_pad : MethodName := ⟨RX4, "pad", "()V"⟩
abbrev cX4_fillSchedule : ByteArray := prog_6_method_6_code
def yX4_fillSchedule : MethodName := ⟨RX4, "fillSchedule", "(I)V"⟩
abbrev cX4_mixState : ByteArray := prog_6_method_7_code
def yX4_mixState : MethodName := ⟨RX4, "mixState", "()V"⟩
abbrev cX4_turn : ByteArray := prog_6_method_8_code
def yX4_turn : MethodName := ⟨RX4, "turn", "(II)I"⟩
def RX5 : String := "RecordWire$Window"
def TX5 : u_T := fun k => match k with
  | 0 => ("RecordWire$Window", "greatest", "J", false)
  | _ => ("RecordWire$Window", "seen", "J", false)
def tyX5 : Nat → FieldType := fun k => match k with
  | 0 => .long
  | _ => .long
abbrev wsX50 : List Cond := u_ws RX5 TX5 2
theorem nmX5 : ∀ a, a < 2 → ∀ b, b < 2 → a ≠ b → (TX5 a).2.1 ≠ (TX5 b).2.1 := by decide +kernel
theorem tyX5_ok : ∀ k, k < 2 → parseFieldDescriptor (TX5 k).2.2.1 = some (tyX5 k) := by decide +kernel
abbrev cX5_init : ByteArray := prog_7_method_1_code
def yX5_init : MethodName := ⟨RX5, "<init>", "()V"⟩
abbrev cX5_forget : ByteArray := prog_7_method_2_code
def yX5_forget : MethodName := ⟨RX5, "forget", "()V"⟩
abbrev cX5_seenCount : ByteArray := prog_7_method_3_code
def yX5_seenCount : MethodName := ⟨RX5, "seenCount", "()I"⟩
abbrev cX5_isTooOld : ByteArray := prog_7_method_4_code
def yX5_isTooOld : MethodName := ⟨RX5, "isTooOld", "(J)Z"⟩
abbrev cX5_wasSeen : ByteArray := prog_7_method_5_code
def yX5_wasSeen : MethodName := ⟨RX5, "wasSeen", "(J)Z"⟩
abbrev cX5_mark : ByteArray := prog_7_method_6_code
def yX5_mark : MethodName := ⟨RX5, "mark", "(J)V"⟩
abbrev cX5_fits : ByteArray := prog_7_method_7_code
def yX5_fits : MethodName := ⟨RX5, "fits", "(J)Z"⟩
abbrev cX5_isAbove : ByteArray := prog_7_method_8_code
def yX5_isAbove : MethodName := ⟨RX5, "isAbove", "(JJ)Z"⟩
def RX6 : String := "RecordWire"
def TX6 : u_T := fun k => match k with
  | 0 => ("RecordWire", "sharedKey", "[I", true)
  | 1 => ("RecordWire", "zeroKey", "[I", true)
  | 2 => ("RecordWire", "root", "[I", true)
  | 3 => ("RecordWire", "hmac", "LRecordWire$Hmac;", true)
  | 4 => ("RecordWire", "directions", "[LRecordWire$Direction;", true)
  | 5 => ("RecordWire", "slots", "[LRecordWire$ByteRow;", true)
  | 6 => ("RecordWire", "outbox", "LRecordWire$ByteRow;", true)
  | 7 => ("RecordWire", "inbox", "LRecordWire$ByteRow;", true)
  | _ => ("RecordWire", "opened", "Z", false)
def tyX6 : Nat → FieldType := fun k => match k with
  | 0 => .array .int
  | 1 => .array .int
  | 2 => .array .int
  | 3 => .object "RecordWire$Hmac"
  | 4 => .array (.object "RecordWire$Direction")
  | 5 => .array (.object "RecordWire$ByteRow")
  | 6 => .object "RecordWire$ByteRow"
  | 7 => .object "RecordWire$ByteRow"
  | _ => .boolean
abbrev wsX60 : List Cond := u_ws RX6 TX6 9
theorem nmX6 : ∀ a, a < 9 → ∀ b, b < 9 → a ≠ b → (TX6 a).2.1 ≠ (TX6 b).2.1 := by decide +kernel
theorem tyX6_ok : ∀ k, k < 9 → parseFieldDescriptor (TX6 k).2.2.1 = some (tyX6 k) := by decide +kernel
abbrev cX6_init : ByteArray := prog_1_method_1_code
def yX6_init : MethodName := ⟨RX6, "<init>", "()V"⟩
abbrev cX6_init_ : ByteArray := prog_1_method_2_code
def yX6_init_ : MethodName := ⟨RX6, "init", "()V"⟩
abbrev cX6_setPsk : ByteArray := prog_1_method_3_code
def yX6_setPsk : MethodName := ⟨RX6, "setPsk", "(II)Z"⟩
abbrev cX6_open : ByteArray := prog_1_method_4_code
def yX6_open : MethodName := ⟨RX6, "open", "()V"⟩
abbrev cX6_put : ByteArray := prog_1_method_5_code
def yX6_put : MethodName := ⟨RX6, "put", "(I)Z"⟩
abbrev cX6_send : ByteArray := prog_1_method_6_code
def yX6_send : MethodName := ⟨RX6, "send", "(I)I"⟩
abbrev cX6_deliver : ByteArray := prog_1_method_7_code
def yX6_deliver : MethodName := ⟨RX6, "deliver", "(II)I"⟩
abbrev cX6_got : ByteArray := prog_1_method_8_code
def yX6_got : MethodName := ⟨RX6, "got", "(I)I"⟩
abbrev cX6_gotLen : ByteArray := prog_1_method_9_code
def yX6_gotLen : MethodName := ⟨RX6, "gotLen", "()I"⟩
abbrev cX6_corrupt : ByteArray := prog_1_method_10_code
def yX6_corrupt : MethodName := ⟨RX6, "corrupt", "(III)Z"⟩
abbrev cX6_drop : ByteArray := prog_1_method_11_code
def yX6_drop : MethodName := ⟨RX6, "drop", "(I)Z"⟩
abbrev cX6_rekey : ByteArray := prog_1_method_12_code
def yX6_rekey : MethodName := ⟨RX6, "rekey", "(I)I"⟩
abbrev cX6_wireAt : ByteArray := prog_1_method_13_code
def yX6_wireAt : MethodName := ⟨RX6, "wireAt", "(II)I"⟩
abbrev cX6_count : ByteArray := prog_1_method_14_code
def yX6_count : MethodName := ⟨RX6, "count", "(I)I"⟩
abbrev cX6_firstEmptySlot : ByteArray := prog_1_method_15_code
def yX6_firstEmptySlot : MethodName := ⟨RX6, "firstEmptySlot", "()I"⟩
abbrev cX6_fullSlots : ByteArray := prog_1_method_16_code
def yX6_fullSlots : MethodName := ⟨RX6, "fullSlots", "()I"⟩
abbrev cX6_isSide : ByteArray := prog_1_method_17_code
def yX6_isSide : MethodName := ⟨RX6, "isSide", "(I)Z"⟩
abbrev cX6_isSlot : ByteArray := prog_1_method_18_code
def yX6_isSlot : MethodName := ⟨RX6, "isSlot", "(I)Z"⟩
abbrev cX6_isByte : ByteArray := prog_1_method_19_code
def yX6_isByte : MethodName := ⟨RX6, "isByte", "(I)Z"⟩
def RX7 : String := "RecordWireModel"
def TX7 : u_T := fun k => match k with
  | 0 => ("RecordWireModel", "psk", "[I", true)
  | 1 => ("RecordWireModel", "isOpen", "Z", false)
  | 2 => ("RecordWireModel", "sealKeys", "[I", true)
  | 3 => ("RecordWireModel", "tagKeys", "[I", true)
  | 4 => ("RecordWireModel", "epochs", "[I", true)
  | 5 => ("RecordWireModel", "nexts", "[J", true)
  | 6 => ("RecordWireModel", "some", "[Z", true)
  | 7 => ("RecordWireModel", "greatest", "[J", true)
  | 8 => ("RecordWireModel", "seen", "[Z", true)
  | 9 => ("RecordWireModel", "wire", "[I", true)
  | 10 => ("RecordWireModel", "sizes", "[I", true)
  | 11 => ("RecordWireModel", "outbox", "[I", true)
  | 12 => ("RecordWireModel", "outSize", "I", false)
  | 13 => ("RecordWireModel", "inbox", "[I", true)
  | 14 => ("RecordWireModel", "inSize", "I", false)
  | 15 => ("RecordWireModel", "state", "[I", true)
  | 16 => ("RecordWireModel", "schedule", "[I", true)
  | 17 => ("RecordWireModel", "row", "[I", true)
  | 18 => ("RecordWireModel", "digest", "[I", true)
  | 19 => ("RecordWireModel", "key", "[I", true)
  | 20 => ("RecordWireModel", "other", "[I", true)
  | 21 => ("RecordWireModel", "message", "[I", true)
  | 22 => ("RecordWireModel", "rounds", "[I", true)
  | 23 => ("RecordWireModel", "words", "[I", true)
  | _ => ("RecordWireModel", "mixed", "[I", true)
def tyX7 : Nat → FieldType := fun k => match k with
  | 0 => .array .int
  | 1 => .boolean
  | 2 => .array .int
  | 3 => .array .int
  | 4 => .array .int
  | 5 => .array .long
  | 6 => .array .boolean
  | 7 => .array .long
  | 8 => .array .boolean
  | 9 => .array .int
  | 10 => .array .int
  | 11 => .array .int
  | 12 => .int
  | 13 => .array .int
  | 14 => .int
  | 15 => .array .int
  | 16 => .array .int
  | 17 => .array .int
  | 18 => .array .int
  | 19 => .array .int
  | 20 => .array .int
  | 21 => .array .int
  | 22 => .array .int
  | 23 => .array .int
  | _ => .array .int
abbrev wsX70 : List Cond := u_ws RX7 TX7 25
theorem nmX7 : ∀ a, a < 25 → ∀ b, b < 25 → a ≠ b → (TX7 a).2.1 ≠ (TX7 b).2.1 := by decide +kernel
theorem tyX7_ok : ∀ k, k < 25 → parseFieldDescriptor (TX7 k).2.2.1 = some (tyX7 k) := by decide +kernel
abbrev cX7_init : ByteArray := prog_9_method_1_code
def yX7_init : MethodName := ⟨RX7, "<init>", "()V"⟩
abbrev cX7_init_ : ByteArray := prog_9_method_3_code
def yX7_init_ : MethodName := ⟨RX7, "init", "()V"⟩
abbrev cX7_turned : ByteArray := prog_9_method_4_code
def yX7_turned : MethodName := ⟨RX7, "turned", "(II)I"⟩
abbrev cX7_block : ByteArray := prog_9_method_5_code
def yX7_block : MethodName := ⟨RX7, "block", "(I)V"⟩
abbrev cX7_digestRow : ByteArray := prog_9_method_6_code
def yX7_digestRow : MethodName := ⟨RX7, "digestRow", "(I)V"⟩
abbrev cX7_hmac : ByteArray := prog_9_method_7_code
def yX7_hmac : MethodName := ⟨RX7, "hmac", "(I)V"⟩
abbrev cX7_makeKeys : ByteArray := prog_9_method_8_code
def yX7_makeKeys : MethodName := ⟨RX7, "makeKeys", "(I)V"⟩
abbrev cX7_setPsk : ByteArray := prog_9_method_9_code
def yX7_setPsk : MethodName := ⟨RX7, "setPsk", "(II)Z"⟩
abbrev cX7_open : ByteArray := prog_9_method_10_code
def yX7_open : MethodName := ⟨RX7, "open", "()V"⟩
abbrev cX7_rekey : ByteArray := prog_9_method_11_code
def yX7_rekey : MethodName := ⟨RX7, "rekey", "(I)I"⟩
abbrev cX7_left : ByteArray := prog_9_method_12_code
def yX7_left : MethodName := ⟨RX7, "left", "(II)I"⟩
abbrev cX7_quarter : ByteArray := prog_9_method_13_code
def yX7_quarter : MethodName := ⟨RX7, "quarter", "(IIII)V"⟩
abbrev cX7_keyWord : ByteArray := prog_9_method_14_code
def yX7_keyWord : MethodName := ⟨RX7, "keyWord", "(II)I"⟩
abbrev cX7_wireWord : ByteArray := prog_9_method_15_code
def yX7_wireWord : MethodName := ⟨RX7, "wireWord", "(II)I"⟩
abbrev cX7_stream : ByteArray := prog_9_method_16_code
def yX7_stream : MethodName := ⟨RX7, "stream", "(III)V"⟩
abbrev cX7_streamByte : ByteArray := prog_9_method_17_code
def yX7_streamByte : MethodName := ⟨RX7, "streamByte", "(III)I"⟩
abbrev cX7_put : ByteArray := prog_9_method_18_code
def yX7_put : MethodName := ⟨RX7, "put", "(I)Z"⟩
abbrev cX7_tag : ByteArray := prog_9_method_19_code
def yX7_tag : MethodName := ⟨RX7, "tag", "(III)V"⟩
abbrev cX7_number : ByteArray := prog_9_method_20_code
def yX7_number : MethodName := ⟨RX7, "number", "(IJI)V"⟩
abbrev cX7_numberAt : ByteArray := prog_9_method_21_code
def yX7_numberAt : MethodName := ⟨RX7, "numberAt", "(II)J"⟩
abbrev cX7_send : ByteArray := prog_9_method_22_code
def yX7_send : MethodName := ⟨RX7, "send", "(I)I"⟩
abbrev cX7_isSlot : ByteArray := prog_9_method_23_code
def yX7_isSlot : MethodName := ⟨RX7, "isSlot", "(I)Z"⟩
abbrev cX7_isBelow : ByteArray := prog_9_method_24_code
def yX7_isBelow : MethodName := ⟨RX7, "isBelow", "(JJ)Z"⟩
abbrev cX7_deliver : ByteArray := prog_9_method_25_code
def yX7_deliver : MethodName := ⟨RX7, "deliver", "(II)I"⟩
abbrev cX7_got : ByteArray := prog_9_method_26_code
def yX7_got : MethodName := ⟨RX7, "got", "(I)I"⟩
abbrev cX7_gotLen : ByteArray := prog_9_method_27_code
def yX7_gotLen : MethodName := ⟨RX7, "gotLen", "()I"⟩
abbrev cX7_corrupt : ByteArray := prog_9_method_28_code
def yX7_corrupt : MethodName := ⟨RX7, "corrupt", "(III)Z"⟩
abbrev cX7_drop : ByteArray := prog_9_method_29_code
def yX7_drop : MethodName := ⟨RX7, "drop", "(I)Z"⟩
abbrev cX7_wireAt : ByteArray := prog_9_method_30_code
def yX7_wireAt : MethodName := ⟨RX7, "wireAt", "(II)I"⟩
abbrev cX7_count : ByteArray := prog_9_method_31_code
def yX7_count : MethodName := ⟨RX7, "count", "(I)I"⟩
def RJ13 : String := "java/lang/Long"
def TJ13 : u_T := fun k => match k with
  | _ => ("", "", "", false)
def tyJ13 : Nat → FieldType := fun k => match k with
  | _ => .int
abbrev wsJ130 : List Cond := u_ws RJ13 TJ13 0
theorem nmJ13 : ∀ a, a < 0 → ∀ b, b < 0 → a ≠ b → (TJ13 a).2.1 ≠ (TJ13 b).2.1 := by decide +kernel
theorem tyJ13_ok : ∀ k, k < 0 → parseFieldDescriptor (TJ13 k).2.2.1 = some (tyJ13 k) := by decide +kernel
abbrev cJ13_bitCount_95d88 : ByteArray := prog_10_method_50_code
def yJ13_bitCount_95d88 : MethodName := ⟨RJ13, "bitCount", "(J)I"⟩
def RL : String := "RecordWireLaw"
abbrev cL_law : ByteArray := code
def yL_law : MethodName := ⟨RL, "law", "([I)Z"⟩
def wsX0_init : List Cond := .code yX0_init cX0_init 1 none :: ([.methodLink RX0 3 objectInit, .instanceMethod objectInit, .code objectInit ⟨#[0xb1]⟩ 1 none, .arrayClass .int, .fieldLink RX0 9 "RecordWire$ByteRow" "bytes" "[I"] ++ wsX00)
def wsX0_clear : List Cond := .code yX0_clear cX0_clear 1 none :: ([.fieldLink RX0 15 "RecordWire$ByteRow" "size" "I"] ++ wsX00)
def wsX0_size : List Cond := .code yX0_size cX0_size 1 (some .int) :: ([.fieldLink RX0 15 "RecordWire$ByteRow" "size" "I"] ++ wsX00)
def wsX0_isEmpty : List Cond := .code yX0_isEmpty cX0_isEmpty 1 (some .boolean) :: ([.fieldLink RX0 15 "RecordWire$ByteRow" "size" "I"] ++ wsX00)
def wsX0_at : List Cond := .code yX0_at cX0_at 2 (some .int) :: ([.fieldLink RX0 15 "RecordWire$ByteRow" "size" "I", .fieldLink RX0 9 "RecordWire$ByteRow" "bytes" "[I"] ++ wsX00)
def wsX0_change : List Cond := .code yX0_change cX0_change 3 (some .boolean) :: ([.fieldLink RX0 15 "RecordWire$ByteRow" "size" "I", .fieldLink RX0 9 "RecordWire$ByteRow" "bytes" "[I"] ++ wsX00)
def wsX0_append : List Cond := .code yX0_append cX0_append 2 none :: ([.fieldLink RX0 15 "RecordWire$ByteRow" "size" "I", .fieldLink RX0 9 "RecordWire$ByteRow" "bytes" "[I"] ++ wsX00)
def wsX0_appendNumber : List Cond := .code yX0_appendNumber cX0_appendNumber 5 none :: ([.methodLink RX0 19 yX0_append, .instanceMethod yX0_append, .selects RX0 yX0_append yX0_append, .initialized RX0, .code yX0_append cX0_append 2 none, .fieldLink RX0 15 "RecordWire$ByteRow" "size" "I", .fieldLink RX0 9 "RecordWire$ByteRow" "bytes" "[I"] ++ wsX00)
def wsX0_numberAt : List Cond := .code yX0_numberAt cX0_numberAt 6 (some .long) :: ([.methodLink RX0 23 yX0_at, .instanceMethod yX0_at, .selects RX0 yX0_at yX0_at, .initialized RX0, .code yX0_at cX0_at 2 (some .int), .fieldLink RX0 15 "RecordWire$ByteRow" "size" "I", .fieldLink RX0 9 "RecordWire$ByteRow" "bytes" "[I"] ++ wsX00)
def wsX5_init : List Cond := .code yX5_init cX5_init 1 none :: ([.methodLink RX5 1 objectInit, .instanceMethod objectInit, .code objectInit ⟨#[0xb1]⟩ 1 none])
def wsX1_init : List Cond := .code yX1_init cX1_init 4 none :: ([.methodLink RX1 3 objectInit, .instanceMethod objectInit, .code objectInit ⟨#[0xb1]⟩ 1 none, .arrayClass .int, .fieldLink RX1 9 "RecordWire$Direction" "sealKey" "[I", .fieldLink RX1 15 "RecordWire$Direction" "tagKey" "[I", .fieldLink RX1 20 "RecordWire$Direction" "tag" "[I", .classLink RX1 23 RX5, .instantiable RX5 2, .initialized RX5, .fieldLink RX1 26 "RecordWire$Direction" "window" "LRecordWire$Window;", .fieldLink RX1 30 "RecordWire$Direction" "index" "I", .fieldLink RX1 34 "RecordWire$Direction" "hmac" "LRecordWire$Hmac;", .fieldLink RX1 38 "RecordWire$Direction" "salsa" "LRecordWire$Salsa20;", .instanceMethod yX5_init, .code yX5_init cX5_init 1 none, .methodLink RX5 1 objectInit] ++ wsX10 ++ wsX50)
def wsX1_epoch : List Cond := .code yX1_epoch cX1_epoch 1 (some .int) :: ([.fieldLink RX1 42 "RecordWire$Direction" "epoch" "I"] ++ wsX10)
def wsJ13_bitCount_95d88 : List Cond := .code yJ13_bitCount_95d88 cJ13_bitCount_95d88 2 (some .int) :: ([.constantLong RJ13 314 (6148914691236517205), .constantLong RJ13 316 (3689348814741910323), .constantLong RJ13 318 (1085102592571150095)])
def wsX5_seenCount : List Cond := .code yX5_seenCount cX5_seenCount 1 (some .int) :: ([.fieldLink RX5 13 "RecordWire$Window" "seen" "J", .methodLink RX5 16 yJ13_bitCount_95d88, .static yJ13_bitCount_95d88, .initialized RJ13, .code yJ13_bitCount_95d88 cJ13_bitCount_95d88 2 (some .int), .constantLong RJ13 314 (6148914691236517205), .constantLong RJ13 316 (3689348814741910323), .constantLong RJ13 318 (1085102592571150095)] ++ wsX50)
def wsX1_seenInWindow : List Cond := .code yX1_seenInWindow cX1_seenInWindow 1 (some .int) :: ([.fieldLink RX1 26 "RecordWire$Direction" "window" "LRecordWire$Window;", .methodLink RX1 45 yX5_seenCount, .instanceMethod yX5_seenCount, .selects RX5 yX5_seenCount yX5_seenCount, .initialized RX5, .code yX5_seenCount cX5_seenCount 1 (some .int), .fieldLink RX5 13 "RecordWire$Window" "seen" "J", .methodLink RX5 16 yJ13_bitCount_95d88, .static yJ13_bitCount_95d88, .initialized RJ13, .code yJ13_bitCount_95d88 cJ13_bitCount_95d88 2 (some .int), .constantLong RJ13 314 (6148914691236517205), .constantLong RJ13 316 (3689348814741910323), .constantLong RJ13 318 (1085102592571150095)] ++ wsX10 ++ wsX50)
def wsX5_forget : List Cond := .code yX5_forget cX5_forget 1 none :: ([.fieldLink RX5 7 "RecordWire$Window" "greatest" "J", .fieldLink RX5 13 "RecordWire$Window" "seen" "J"] ++ wsX50)
def wsX1_forget : List Cond := .code yX1_forget cX1_forget 1 none :: ([.fieldLink RX1 42 "RecordWire$Direction" "epoch" "I", .fieldLink RX1 49 "RecordWire$Direction" "nextNumber" "J", .fieldLink RX1 26 "RecordWire$Direction" "window" "LRecordWire$Window;", .methodLink RX1 53 yX5_forget, .instanceMethod yX5_forget, .selects RX5 yX5_forget yX5_forget, .initialized RX5, .code yX5_forget cX5_forget 1 none, .fieldLink RX5 7 "RecordWire$Window" "greatest" "J", .fieldLink RX5 13 "RecordWire$Window" "seen" "J"] ++ wsX10 ++ wsX50)
def wsX4_begin : List Cond := .code yX4_begin cX4_begin 1 none :: ([.fieldLink RX4 19 "RecordWire$Sha256" "length" "I"] ++ wsX40)
def wsX4_append : List Cond := .code yX4_append cX4_append 2 none :: ([.fieldLink RX4 19 "RecordWire$Sha256" "length" "I", .fieldLink RX4 9 "RecordWire$Sha256" "message" "[I"] ++ wsX40)
def wsX2_beginWithPad : List Cond := .code yX2_beginWithPad cX2_beginWithPad 3 none :: ([.fieldLink RX2 10 "RecordWire$Hmac" "hash" "LRecordWire$Sha256;", .fieldLink RX2 16 "RecordWire$Hmac" "keyBlock" "[I", .methodLink RX2 37 yX4_begin, .instanceMethod yX4_begin, .selects RX4 yX4_begin yX4_begin, .initialized RX4, .code yX4_begin cX4_begin 1 none, .fieldLink RX4 19 "RecordWire$Sha256" "length" "I", .methodLink RX2 27 yX4_append, .instanceMethod yX4_append, .selects RX4 yX4_append yX4_append, .code yX4_append cX4_append 2 none, .fieldLink RX4 9 "RecordWire$Sha256" "message" "[I"] ++ wsX20 ++ wsX40)
def wsX2_begin : List Cond := .code yX2_begin cX2_begin 3 none :: ([.fieldLink RX2 16 "RecordWire$Hmac" "keyBlock" "[I", .methodLink RX2 23 yX2_beginWithPad, .instanceMethod yX2_beginWithPad, .selects RX2 yX2_beginWithPad yX2_beginWithPad, .initialized RX2, .code yX2_beginWithPad cX2_beginWithPad 3 none, .fieldLink RX2 10 "RecordWire$Hmac" "hash" "LRecordWire$Sha256;", .methodLink RX2 37 yX4_begin, .instanceMethod yX4_begin, .selects RX4 yX4_begin yX4_begin, .initialized RX4, .code yX4_begin cX4_begin 1 none, .fieldLink RX4 19 "RecordWire$Sha256" "length" "I", .methodLink RX2 27 yX4_append, .instanceMethod yX4_append, .selects RX4 yX4_append yX4_append, .code yX4_append cX4_append 2 none, .fieldLink RX4 9 "RecordWire$Sha256" "message" "[I"] ++ wsX20 ++ wsX40)
def wsX2_appendAll : List Cond := .code yX2_appendAll cX2_appendAll 3 none :: ([.fieldLink RX2 10 "RecordWire$Hmac" "hash" "LRecordWire$Sha256;", .methodLink RX2 27 yX4_append, .instanceMethod yX4_append, .selects RX4 yX4_append yX4_append, .initialized RX4, .code yX4_append cX4_append 2 none, .fieldLink RX4 19 "RecordWire$Sha256" "length" "I", .fieldLink RX4 9 "RecordWire$Sha256" "message" "[I"] ++ wsX20 ++ wsX40)
def wsX4_pad : List Cond := .code yX4_pad cX4_pad 4 none :: ([.constantLong RX4 36 (8), .fieldLink RX4 19 "RecordWire$Sha256" "length" "I", .methodLink RX4 38 yX4_append, .instanceMethod yX4_append, .selects RX4 yX4_append yX4_append, .initialized RX4, .code yX4_append cX4_append 2 none, .fieldLink RX4 9 "RecordWire$Sha256" "message" "[I"] ++ wsX40)
def wsX4_turn : List Cond := .code yX4_turn cX4_turn 2 (some .int) :: ([])
def wsX4_fillSchedule : List Cond := .code yX4_fillSchedule cX4_fillSchedule 7 none :: ([.fieldLink RX4 13 "RecordWire$Sha256" "schedule" "[I", .fieldLink RX4 9 "RecordWire$Sha256" "message" "[I", .methodLink RX4 41 yX4_turn, .static yX4_turn, .initialized RX4, .code yX4_turn cX4_turn 2 (some .int)] ++ wsX40)
def wsX4_mixState : List Cond := .code yX4_mixState cX4_mixState 14 none :: ([.fieldLink RX4 16 "RecordWire$Sha256" "state" "[I", .fieldLink RX4 45 "RecordWire$Sha256" "ROUND_WORDS" "[I", .fieldLink RX4 13 "RecordWire$Sha256" "schedule" "[I", .methodLink RX4 41 yX4_turn, .static yX4_turn, .initialized RX4, .code yX4_turn cX4_turn 2 (some .int)] ++ wsX40)
def wsX4_finish_r1 : List Cond := [Cond.fieldLink RX4 16 "RecordWire$Sha256" "state" "[I", Cond.fieldLink RX4 26 "RecordWire$Sha256" "FIRST_STATE" "[I", Cond.fieldLink RX4 19 "RecordWire$Sha256" "length" "I", Cond.methodLink RX4 23 yX4_pad, Cond.instanceMethod yX4_pad, Cond.selects RX4 yX4_pad yX4_pad, Cond.initialized RX4, Cond.code yX4_pad cX4_pad 4 none, Cond.constantLong RX4 36 (8), Cond.methodLink RX4 38 yX4_append, Cond.instanceMethod yX4_append, Cond.selects RX4 yX4_append yX4_append, Cond.code yX4_append cX4_append 2 none, Cond.fieldLink RX4 9 "RecordWire$Sha256" "message" "[I", Cond.methodLink RX4 29 yX4_fillSchedule, Cond.instanceMethod yX4_fillSchedule, Cond.selects RX4 yX4_fillSchedule yX4_fillSchedule, Cond.code yX4_fillSchedule cX4_fillSchedule 7 none, Cond.fieldLink RX4 13 "RecordWire$Sha256" "schedule" "[I", Cond.methodLink RX4 41 yX4_turn, Cond.static yX4_turn, Cond.code yX4_turn cX4_turn 2 (some .int), Cond.methodLink RX4 33 yX4_mixState, Cond.instanceMethod yX4_mixState]
def wsX4_finish_r2 : List Cond := [Cond.selects RX4 yX4_mixState yX4_mixState, Cond.code yX4_mixState cX4_mixState 14 none, Cond.fieldLink RX4 45 "RecordWire$Sha256" "ROUND_WORDS" "[I"]
def wsX4_finish : List Cond := .code yX4_finish cX4_finish 3 none :: ((wsX4_finish_r1 ++ wsX4_finish_r2) ++ wsX40)
def wsX2_finish_r1 : List Cond := [Cond.fieldLink RX2 10 "RecordWire$Hmac" "hash" "LRecordWire$Sha256;", Cond.fieldLink RX2 20 "RecordWire$Hmac" "innerHash" "[I", Cond.methodLink RX2 30 yX4_finish, Cond.instanceMethod yX4_finish, Cond.selects RX4 yX4_finish yX4_finish, Cond.initialized RX4, Cond.code yX4_finish cX4_finish 3 none, Cond.fieldLink RX4 16 "RecordWire$Sha256" "state" "[I", Cond.fieldLink RX4 26 "RecordWire$Sha256" "FIRST_STATE" "[I", Cond.fieldLink RX4 19 "RecordWire$Sha256" "length" "I", Cond.methodLink RX4 23 yX4_pad, Cond.instanceMethod yX4_pad, Cond.selects RX4 yX4_pad yX4_pad, Cond.code yX4_pad cX4_pad 4 none, Cond.constantLong RX4 36 (8), Cond.methodLink RX4 38 yX4_append, Cond.instanceMethod yX4_append, Cond.selects RX4 yX4_append yX4_append, Cond.code yX4_append cX4_append 2 none, Cond.fieldLink RX4 9 "RecordWire$Sha256" "message" "[I", Cond.methodLink RX4 29 yX4_fillSchedule, Cond.instanceMethod yX4_fillSchedule, Cond.selects RX4 yX4_fillSchedule yX4_fillSchedule, Cond.code yX4_fillSchedule cX4_fillSchedule 7 none]
def wsX2_finish_r2 : List Cond := [Cond.fieldLink RX4 13 "RecordWire$Sha256" "schedule" "[I", Cond.methodLink RX4 41 yX4_turn, Cond.static yX4_turn, Cond.code yX4_turn cX4_turn 2 (some .int), Cond.methodLink RX4 33 yX4_mixState, Cond.instanceMethod yX4_mixState, Cond.selects RX4 yX4_mixState yX4_mixState, Cond.code yX4_mixState cX4_mixState 14 none, Cond.fieldLink RX4 45 "RecordWire$Sha256" "ROUND_WORDS" "[I", Cond.methodLink RX2 23 yX2_beginWithPad, Cond.instanceMethod yX2_beginWithPad, Cond.selects RX2 yX2_beginWithPad yX2_beginWithPad, Cond.initialized RX2, Cond.code yX2_beginWithPad cX2_beginWithPad 3 none, Cond.fieldLink RX2 16 "RecordWire$Hmac" "keyBlock" "[I", Cond.methodLink RX2 37 yX4_begin, Cond.instanceMethod yX4_begin, Cond.selects RX4 yX4_begin yX4_begin, Cond.code yX4_begin cX4_begin 1 none, Cond.methodLink RX2 27 yX4_append, Cond.methodLink RX2 34 yX2_appendAll, Cond.instanceMethod yX2_appendAll, Cond.selects RX2 yX2_appendAll yX2_appendAll, Cond.code yX2_appendAll cX2_appendAll 3 none]
def wsX2_finish : List Cond := .code yX2_finish cX2_finish 2 none :: ((wsX2_finish_r1 ++ wsX2_finish_r2) ++ wsX20 ++ wsX40)
def wsX1_makeNextRoot_r1 : List Cond := [Cond.fieldLink RX1 34 "RecordWire$Direction" "hmac" "LRecordWire$Hmac;", Cond.fieldLink RX1 15 "RecordWire$Direction" "tagKey" "[I", Cond.fieldLink RX1 9 "RecordWire$Direction" "sealKey" "[I", Cond.methodLink RX1 56 yX2_begin, Cond.instanceMethod yX2_begin, Cond.selects RX2 yX2_begin yX2_begin, Cond.initialized RX2, Cond.code yX2_begin cX2_begin 3 none, Cond.fieldLink RX2 16 "RecordWire$Hmac" "keyBlock" "[I", Cond.methodLink RX2 23 yX2_beginWithPad, Cond.instanceMethod yX2_beginWithPad, Cond.selects RX2 yX2_beginWithPad yX2_beginWithPad, Cond.code yX2_beginWithPad cX2_beginWithPad 3 none, Cond.fieldLink RX2 10 "RecordWire$Hmac" "hash" "LRecordWire$Sha256;", Cond.methodLink RX2 37 yX4_begin, Cond.instanceMethod yX4_begin, Cond.selects RX4 yX4_begin yX4_begin, Cond.initialized RX4, Cond.code yX4_begin cX4_begin 1 none, Cond.fieldLink RX4 19 "RecordWire$Sha256" "length" "I", Cond.methodLink RX2 27 yX4_append, Cond.instanceMethod yX4_append, Cond.selects RX4 yX4_append yX4_append, Cond.code yX4_append cX4_append 2 none]
def wsX1_makeNextRoot_r2 : List Cond := [Cond.fieldLink RX4 9 "RecordWire$Sha256" "message" "[I", Cond.methodLink RX1 62 yX2_appendAll, Cond.instanceMethod yX2_appendAll, Cond.selects RX2 yX2_appendAll yX2_appendAll, Cond.code yX2_appendAll cX2_appendAll 3 none, Cond.methodLink RX1 65 yX2_finish, Cond.instanceMethod yX2_finish, Cond.selects RX2 yX2_finish yX2_finish, Cond.code yX2_finish cX2_finish 2 none, Cond.fieldLink RX2 20 "RecordWire$Hmac" "innerHash" "[I", Cond.methodLink RX2 30 yX4_finish, Cond.instanceMethod yX4_finish, Cond.selects RX4 yX4_finish yX4_finish, Cond.code yX4_finish cX4_finish 3 none, Cond.fieldLink RX4 16 "RecordWire$Sha256" "state" "[I", Cond.fieldLink RX4 26 "RecordWire$Sha256" "FIRST_STATE" "[I", Cond.methodLink RX4 23 yX4_pad, Cond.instanceMethod yX4_pad, Cond.selects RX4 yX4_pad yX4_pad, Cond.code yX4_pad cX4_pad 4 none, Cond.constantLong RX4 36 (8), Cond.methodLink RX4 38 yX4_append, Cond.methodLink RX4 29 yX4_fillSchedule, Cond.instanceMethod yX4_fillSchedule]
def wsX1_makeNextRoot_r3 : List Cond := [Cond.selects RX4 yX4_fillSchedule yX4_fillSchedule, Cond.code yX4_fillSchedule cX4_fillSchedule 7 none, Cond.fieldLink RX4 13 "RecordWire$Sha256" "schedule" "[I", Cond.methodLink RX4 41 yX4_turn, Cond.static yX4_turn, Cond.code yX4_turn cX4_turn 2 (some .int), Cond.methodLink RX4 33 yX4_mixState, Cond.instanceMethod yX4_mixState, Cond.selects RX4 yX4_mixState yX4_mixState, Cond.code yX4_mixState cX4_mixState 14 none, Cond.fieldLink RX4 45 "RecordWire$Sha256" "ROUND_WORDS" "[I", Cond.methodLink RX2 34 yX2_appendAll]
def wsX1_makeNextRoot : List Cond := .code yX1_makeNextRoot cX1_makeNextRoot 2 none :: ((wsX1_makeNextRoot_r1 ++ (wsX1_makeNextRoot_r2 ++ wsX1_makeNextRoot_r3)) ++ wsX10 ++ wsX20 ++ wsX40)
def wsX2_append : List Cond := .code yX2_append cX2_append 2 none :: ([.fieldLink RX2 10 "RecordWire$Hmac" "hash" "LRecordWire$Sha256;", .methodLink RX2 27 yX4_append, .instanceMethod yX4_append, .selects RX4 yX4_append yX4_append, .initialized RX4, .code yX4_append cX4_append 2 none, .fieldLink RX4 19 "RecordWire$Sha256" "length" "I", .fieldLink RX4 9 "RecordWire$Sha256" "message" "[I"] ++ wsX20 ++ wsX40)
def wsX1_makeKey_r1 : List Cond := [Cond.fieldLink RX1 34 "RecordWire$Direction" "hmac" "LRecordWire$Hmac;", Cond.fieldLink RX1 30 "RecordWire$Direction" "index" "I", Cond.methodLink RX1 56 yX2_begin, Cond.instanceMethod yX2_begin, Cond.selects RX2 yX2_begin yX2_begin, Cond.initialized RX2, Cond.code yX2_begin cX2_begin 3 none, Cond.fieldLink RX2 16 "RecordWire$Hmac" "keyBlock" "[I", Cond.methodLink RX2 23 yX2_beginWithPad, Cond.instanceMethod yX2_beginWithPad, Cond.selects RX2 yX2_beginWithPad yX2_beginWithPad, Cond.code yX2_beginWithPad cX2_beginWithPad 3 none, Cond.fieldLink RX2 10 "RecordWire$Hmac" "hash" "LRecordWire$Sha256;", Cond.methodLink RX2 37 yX4_begin, Cond.instanceMethod yX4_begin, Cond.selects RX4 yX4_begin yX4_begin, Cond.initialized RX4, Cond.code yX4_begin cX4_begin 1 none, Cond.fieldLink RX4 19 "RecordWire$Sha256" "length" "I", Cond.methodLink RX2 27 yX4_append, Cond.instanceMethod yX4_append, Cond.selects RX4 yX4_append yX4_append, Cond.code yX4_append cX4_append 2 none, Cond.fieldLink RX4 9 "RecordWire$Sha256" "message" "[I"]
def wsX1_makeKey_r2 : List Cond := [Cond.methodLink RX1 128 yX2_append, Cond.instanceMethod yX2_append, Cond.selects RX2 yX2_append yX2_append, Cond.code yX2_append cX2_append 2 none, Cond.methodLink RX1 65 yX2_finish, Cond.instanceMethod yX2_finish, Cond.selects RX2 yX2_finish yX2_finish, Cond.code yX2_finish cX2_finish 2 none, Cond.fieldLink RX2 20 "RecordWire$Hmac" "innerHash" "[I", Cond.methodLink RX2 30 yX4_finish, Cond.instanceMethod yX4_finish, Cond.selects RX4 yX4_finish yX4_finish, Cond.code yX4_finish cX4_finish 3 none, Cond.fieldLink RX4 16 "RecordWire$Sha256" "state" "[I", Cond.fieldLink RX4 26 "RecordWire$Sha256" "FIRST_STATE" "[I", Cond.methodLink RX4 23 yX4_pad, Cond.instanceMethod yX4_pad, Cond.selects RX4 yX4_pad yX4_pad, Cond.code yX4_pad cX4_pad 4 none, Cond.constantLong RX4 36 (8), Cond.methodLink RX4 38 yX4_append, Cond.methodLink RX4 29 yX4_fillSchedule, Cond.instanceMethod yX4_fillSchedule, Cond.selects RX4 yX4_fillSchedule yX4_fillSchedule]
def wsX1_makeKey_r3 : List Cond := [Cond.code yX4_fillSchedule cX4_fillSchedule 7 none, Cond.fieldLink RX4 13 "RecordWire$Sha256" "schedule" "[I", Cond.methodLink RX4 41 yX4_turn, Cond.static yX4_turn, Cond.code yX4_turn cX4_turn 2 (some .int), Cond.methodLink RX4 33 yX4_mixState, Cond.instanceMethod yX4_mixState, Cond.selects RX4 yX4_mixState yX4_mixState, Cond.code yX4_mixState cX4_mixState 14 none, Cond.fieldLink RX4 45 "RecordWire$Sha256" "ROUND_WORDS" "[I", Cond.methodLink RX2 34 yX2_appendAll, Cond.instanceMethod yX2_appendAll, Cond.selects RX2 yX2_appendAll yX2_appendAll, Cond.code yX2_appendAll cX2_appendAll 3 none]
def wsX1_makeKey : List Cond := .code yX1_makeKey cX1_makeKey 4 none :: ((wsX1_makeKey_r1 ++ (wsX1_makeKey_r2 ++ wsX1_makeKey_r3)) ++ wsX10 ++ wsX20 ++ wsX40)
def wsX1_startEpoch_r1 : List Cond := [Cond.fieldLink RX1 9 "RecordWire$Direction" "sealKey" "[I", Cond.fieldLink RX1 15 "RecordWire$Direction" "tagKey" "[I", Cond.fieldLink RX1 42 "RecordWire$Direction" "epoch" "I", Cond.methodLink RX1 68 yX1_makeKey, Cond.instanceMethod yX1_makeKey, Cond.selects RX1 yX1_makeKey yX1_makeKey, Cond.initialized RX1, Cond.code yX1_makeKey cX1_makeKey 4 none, Cond.fieldLink RX1 34 "RecordWire$Direction" "hmac" "LRecordWire$Hmac;", Cond.fieldLink RX1 30 "RecordWire$Direction" "index" "I", Cond.methodLink RX1 56 yX2_begin, Cond.instanceMethod yX2_begin, Cond.selects RX2 yX2_begin yX2_begin, Cond.initialized RX2, Cond.code yX2_begin cX2_begin 3 none, Cond.fieldLink RX2 16 "RecordWire$Hmac" "keyBlock" "[I", Cond.methodLink RX2 23 yX2_beginWithPad, Cond.instanceMethod yX2_beginWithPad, Cond.selects RX2 yX2_beginWithPad yX2_beginWithPad, Cond.code yX2_beginWithPad cX2_beginWithPad 3 none, Cond.fieldLink RX2 10 "RecordWire$Hmac" "hash" "LRecordWire$Sha256;", Cond.methodLink RX2 37 yX4_begin, Cond.instanceMethod yX4_begin, Cond.selects RX4 yX4_begin yX4_begin]
def wsX1_startEpoch_r2 : List Cond := [Cond.initialized RX4, Cond.code yX4_begin cX4_begin 1 none, Cond.fieldLink RX4 19 "RecordWire$Sha256" "length" "I", Cond.methodLink RX2 27 yX4_append, Cond.instanceMethod yX4_append, Cond.selects RX4 yX4_append yX4_append, Cond.code yX4_append cX4_append 2 none, Cond.fieldLink RX4 9 "RecordWire$Sha256" "message" "[I", Cond.methodLink RX1 128 yX2_append, Cond.instanceMethod yX2_append, Cond.selects RX2 yX2_append yX2_append, Cond.code yX2_append cX2_append 2 none, Cond.methodLink RX1 65 yX2_finish, Cond.instanceMethod yX2_finish, Cond.selects RX2 yX2_finish yX2_finish, Cond.code yX2_finish cX2_finish 2 none, Cond.fieldLink RX2 20 "RecordWire$Hmac" "innerHash" "[I", Cond.methodLink RX2 30 yX4_finish, Cond.instanceMethod yX4_finish, Cond.selects RX4 yX4_finish yX4_finish, Cond.code yX4_finish cX4_finish 3 none, Cond.fieldLink RX4 16 "RecordWire$Sha256" "state" "[I", Cond.fieldLink RX4 26 "RecordWire$Sha256" "FIRST_STATE" "[I", Cond.methodLink RX4 23 yX4_pad]
def wsX1_startEpoch_r3 : List Cond := [Cond.instanceMethod yX4_pad, Cond.selects RX4 yX4_pad yX4_pad, Cond.code yX4_pad cX4_pad 4 none, Cond.constantLong RX4 36 (8), Cond.methodLink RX4 38 yX4_append, Cond.methodLink RX4 29 yX4_fillSchedule, Cond.instanceMethod yX4_fillSchedule, Cond.selects RX4 yX4_fillSchedule yX4_fillSchedule, Cond.code yX4_fillSchedule cX4_fillSchedule 7 none, Cond.fieldLink RX4 13 "RecordWire$Sha256" "schedule" "[I", Cond.methodLink RX4 41 yX4_turn, Cond.static yX4_turn, Cond.code yX4_turn cX4_turn 2 (some .int), Cond.methodLink RX4 33 yX4_mixState, Cond.instanceMethod yX4_mixState, Cond.selects RX4 yX4_mixState yX4_mixState, Cond.code yX4_mixState cX4_mixState 14 none, Cond.fieldLink RX4 45 "RecordWire$Sha256" "ROUND_WORDS" "[I", Cond.methodLink RX2 34 yX2_appendAll, Cond.instanceMethod yX2_appendAll, Cond.selects RX2 yX2_appendAll yX2_appendAll, Cond.code yX2_appendAll cX2_appendAll 3 none, Cond.methodLink RX1 72 yX1_forget, Cond.instanceMethod yX1_forget]
def wsX1_startEpoch_r4 : List Cond := [Cond.selects RX1 yX1_forget yX1_forget, Cond.code yX1_forget cX1_forget 1 none, Cond.fieldLink RX1 49 "RecordWire$Direction" "nextNumber" "J", Cond.fieldLink RX1 26 "RecordWire$Direction" "window" "LRecordWire$Window;", Cond.methodLink RX1 53 yX5_forget, Cond.instanceMethod yX5_forget, Cond.selects RX5 yX5_forget yX5_forget, Cond.initialized RX5, Cond.code yX5_forget cX5_forget 1 none, Cond.fieldLink RX5 7 "RecordWire$Window" "greatest" "J", Cond.fieldLink RX5 13 "RecordWire$Window" "seen" "J"]
def wsX1_startEpoch : List Cond := .code yX1_startEpoch cX1_startEpoch 3 none :: ((wsX1_startEpoch_r1 ++ (wsX1_startEpoch_r2 ++ (wsX1_startEpoch_r3 ++ wsX1_startEpoch_r4))) ++ wsX10 ++ wsX20 ++ wsX40 ++ wsX50)
def wsX3_word : List Cond := .code yX3_word cX3_word 4 (some .int) :: ([])
def wsX3_keyWord : List Cond := .code yX3_keyWord cX3_keyWord 2 (some .int) :: ([.methodLink RX3 50 yX3_word, .static yX3_word, .initialized RX3, .code yX3_word cX3_word 4 (some .int)])
def wsX3_headWord : List Cond := .code yX3_headWord cX3_headWord 2 (some .int) :: ([.methodLink RX3 54 yX0_at, .instanceMethod yX0_at, .selects RX0 yX0_at yX0_at, .initialized RX0, .code yX0_at cX0_at 2 (some .int), .fieldLink RX0 15 "RecordWire$ByteRow" "size" "I", .fieldLink RX0 9 "RecordWire$ByteRow" "bytes" "[I", .methodLink RX3 50 yX3_word, .static yX3_word, .initialized RX3, .code yX3_word cX3_word 4 (some .int)] ++ wsX00)
def wsX3_begin : List Cond := .code yX3_begin cX3_begin 4 none :: ([.fieldLink RX3 11 "RecordWire$Salsa20" "input" "[I", .fieldLink RX3 18 "RecordWire$Salsa20" "EXPAND" "[I", .fieldLink RX3 29 "RecordWire$Salsa20" "position" "I", .methodLink RX3 21 yX3_keyWord, .static yX3_keyWord, .initialized RX3, .code yX3_keyWord cX3_keyWord 2 (some .int), .methodLink RX3 50 yX3_word, .static yX3_word, .code yX3_word cX3_word 4 (some .int), .methodLink RX3 25 yX3_headWord, .static yX3_headWord, .code yX3_headWord cX3_headWord 2 (some .int), .methodLink RX3 54 yX0_at, .instanceMethod yX0_at, .selects RX0 yX0_at yX0_at, .initialized RX0, .code yX0_at cX0_at 2 (some .int), .fieldLink RX0 15 "RecordWire$ByteRow" "size" "I", .fieldLink RX0 9 "RecordWire$ByteRow" "bytes" "[I"] ++ wsX30 ++ wsX00)
def wsX3_turn : List Cond := .code yX3_turn cX3_turn 2 (some .int) :: ([])
def wsX3_mixQuarter : List Cond := .code yX3_mixQuarter cX3_mixQuarter 5 none :: ([.fieldLink RX3 15 "RecordWire$Salsa20" "block" "[I", .methodLink RX3 46 yX3_turn, .static yX3_turn, .initialized RX3, .code yX3_turn cX3_turn 2 (some .int)] ++ wsX30)
def wsX3_mixColumns : List Cond := .code yX3_mixColumns cX3_mixColumns 1 none :: ([.methodLink RX3 42 yX3_mixQuarter, .instanceMethod yX3_mixQuarter, .selects RX3 yX3_mixQuarter yX3_mixQuarter, .initialized RX3, .code yX3_mixQuarter cX3_mixQuarter 5 none, .fieldLink RX3 15 "RecordWire$Salsa20" "block" "[I", .methodLink RX3 46 yX3_turn, .static yX3_turn, .code yX3_turn cX3_turn 2 (some .int)] ++ wsX30)
def wsX3_mixRows : List Cond := .code yX3_mixRows cX3_mixRows 1 none :: ([.methodLink RX3 42 yX3_mixQuarter, .instanceMethod yX3_mixQuarter, .selects RX3 yX3_mixQuarter yX3_mixQuarter, .initialized RX3, .code yX3_mixQuarter cX3_mixQuarter 5 none, .fieldLink RX3 15 "RecordWire$Salsa20" "block" "[I", .methodLink RX3 46 yX3_turn, .static yX3_turn, .code yX3_turn cX3_turn 2 (some .int)] ++ wsX30)
def wsX3_fillBlock : List Cond := .code yX3_fillBlock cX3_fillBlock 2 none :: ([.fieldLink RX3 15 "RecordWire$Salsa20" "block" "[I", .fieldLink RX3 11 "RecordWire$Salsa20" "input" "[I", .methodLink RX3 36 yX3_mixColumns, .instanceMethod yX3_mixColumns, .selects RX3 yX3_mixColumns yX3_mixColumns, .initialized RX3, .code yX3_mixColumns cX3_mixColumns 1 none, .methodLink RX3 42 yX3_mixQuarter, .instanceMethod yX3_mixQuarter, .selects RX3 yX3_mixQuarter yX3_mixQuarter, .code yX3_mixQuarter cX3_mixQuarter 5 none, .methodLink RX3 46 yX3_turn, .static yX3_turn, .code yX3_turn cX3_turn 2 (some .int), .methodLink RX3 39 yX3_mixRows, .instanceMethod yX3_mixRows, .selects RX3 yX3_mixRows yX3_mixRows, .code yX3_mixRows cX3_mixRows 1 none] ++ wsX30)
def wsX3_next : List Cond := .code yX3_next cX3_next 2 (some .int) :: ([.fieldLink RX3 29 "RecordWire$Salsa20" "position" "I", .fieldLink RX3 11 "RecordWire$Salsa20" "input" "[I", .fieldLink RX3 15 "RecordWire$Salsa20" "block" "[I", .methodLink RX3 33 yX3_fillBlock, .instanceMethod yX3_fillBlock, .selects RX3 yX3_fillBlock yX3_fillBlock, .initialized RX3, .code yX3_fillBlock cX3_fillBlock 2 none, .methodLink RX3 36 yX3_mixColumns, .instanceMethod yX3_mixColumns, .selects RX3 yX3_mixColumns yX3_mixColumns, .code yX3_mixColumns cX3_mixColumns 1 none, .methodLink RX3 42 yX3_mixQuarter, .instanceMethod yX3_mixQuarter, .selects RX3 yX3_mixQuarter yX3_mixQuarter, .code yX3_mixQuarter cX3_mixQuarter 5 none, .methodLink RX3 46 yX3_turn, .static yX3_turn, .code yX3_turn cX3_turn 2 (some .int), .methodLink RX3 39 yX3_mixRows, .instanceMethod yX3_mixRows, .selects RX3 yX3_mixRows yX3_mixRows, .code yX3_mixRows cX3_mixRows 1 none] ++ wsX30)
def wsX1_makeTag_r1 : List Cond := [Cond.fieldLink RX1 34 "RecordWire$Direction" "hmac" "LRecordWire$Hmac;", Cond.fieldLink RX1 15 "RecordWire$Direction" "tagKey" "[I", Cond.fieldLink RX1 20 "RecordWire$Direction" "tag" "[I", Cond.methodLink RX1 56 yX2_begin, Cond.instanceMethod yX2_begin, Cond.selects RX2 yX2_begin yX2_begin, Cond.initialized RX2, Cond.code yX2_begin cX2_begin 3 none, Cond.fieldLink RX2 16 "RecordWire$Hmac" "keyBlock" "[I", Cond.methodLink RX2 23 yX2_beginWithPad, Cond.instanceMethod yX2_beginWithPad, Cond.selects RX2 yX2_beginWithPad yX2_beginWithPad, Cond.code yX2_beginWithPad cX2_beginWithPad 3 none, Cond.fieldLink RX2 10 "RecordWire$Hmac" "hash" "LRecordWire$Sha256;", Cond.methodLink RX2 37 yX4_begin, Cond.instanceMethod yX4_begin, Cond.selects RX4 yX4_begin yX4_begin, Cond.initialized RX4, Cond.code yX4_begin cX4_begin 1 none, Cond.fieldLink RX4 19 "RecordWire$Sha256" "length" "I", Cond.methodLink RX2 27 yX4_append, Cond.instanceMethod yX4_append, Cond.selects RX4 yX4_append yX4_append, Cond.code yX4_append cX4_append 2 none]
def wsX1_makeTag_r2 : List Cond := [Cond.fieldLink RX4 9 "RecordWire$Sha256" "message" "[I", Cond.methodLink RX1 94 yX0_at, Cond.instanceMethod yX0_at, Cond.selects RX0 yX0_at yX0_at, Cond.initialized RX0, Cond.code yX0_at cX0_at 2 (some .int), Cond.fieldLink RX0 15 "RecordWire$ByteRow" "size" "I", Cond.fieldLink RX0 9 "RecordWire$ByteRow" "bytes" "[I", Cond.methodLink RX1 128 yX2_append, Cond.instanceMethod yX2_append, Cond.selects RX2 yX2_append yX2_append, Cond.code yX2_append cX2_append 2 none, Cond.methodLink RX1 65 yX2_finish, Cond.instanceMethod yX2_finish, Cond.selects RX2 yX2_finish yX2_finish, Cond.code yX2_finish cX2_finish 2 none, Cond.fieldLink RX2 20 "RecordWire$Hmac" "innerHash" "[I", Cond.methodLink RX2 30 yX4_finish, Cond.instanceMethod yX4_finish, Cond.selects RX4 yX4_finish yX4_finish, Cond.code yX4_finish cX4_finish 3 none, Cond.fieldLink RX4 16 "RecordWire$Sha256" "state" "[I", Cond.fieldLink RX4 26 "RecordWire$Sha256" "FIRST_STATE" "[I", Cond.methodLink RX4 23 yX4_pad]
def wsX1_makeTag_r3 : List Cond := [Cond.instanceMethod yX4_pad, Cond.selects RX4 yX4_pad yX4_pad, Cond.code yX4_pad cX4_pad 4 none, Cond.constantLong RX4 36 (8), Cond.methodLink RX4 38 yX4_append, Cond.methodLink RX4 29 yX4_fillSchedule, Cond.instanceMethod yX4_fillSchedule, Cond.selects RX4 yX4_fillSchedule yX4_fillSchedule, Cond.code yX4_fillSchedule cX4_fillSchedule 7 none, Cond.fieldLink RX4 13 "RecordWire$Sha256" "schedule" "[I", Cond.methodLink RX4 41 yX4_turn, Cond.static yX4_turn, Cond.code yX4_turn cX4_turn 2 (some .int), Cond.methodLink RX4 33 yX4_mixState, Cond.instanceMethod yX4_mixState, Cond.selects RX4 yX4_mixState yX4_mixState, Cond.code yX4_mixState cX4_mixState 14 none, Cond.fieldLink RX4 45 "RecordWire$Sha256" "ROUND_WORDS" "[I", Cond.methodLink RX2 34 yX2_appendAll, Cond.instanceMethod yX2_appendAll, Cond.selects RX2 yX2_appendAll yX2_appendAll, Cond.code yX2_appendAll cX2_appendAll 3 none]
def wsX1_makeTag : List Cond := .code yX1_makeTag cX1_makeTag 4 none :: ((wsX1_makeTag_r1 ++ (wsX1_makeTag_r2 ++ wsX1_makeTag_r3)) ++ wsX10 ++ wsX20 ++ wsX40 ++ wsX00)
def wsX1_write_r1 : List Cond := [Cond.fieldLink RX1 30 "RecordWire$Direction" "index" "I", Cond.fieldLink RX1 42 "RecordWire$Direction" "epoch" "I", Cond.fieldLink RX1 49 "RecordWire$Direction" "nextNumber" "J", Cond.fieldLink RX1 38 "RecordWire$Direction" "salsa" "LRecordWire$Salsa20;", Cond.fieldLink RX1 9 "RecordWire$Direction" "sealKey" "[I", Cond.fieldLink RX1 20 "RecordWire$Direction" "tag" "[I", Cond.methodLink RX1 73 yX0_size, Cond.instanceMethod yX0_size, Cond.selects RX0 yX0_size yX0_size, Cond.initialized RX0, Cond.code yX0_size cX0_size 1 (some .int), Cond.fieldLink RX0 15 "RecordWire$ByteRow" "size" "I", Cond.methodLink RX1 78 yX0_clear, Cond.instanceMethod yX0_clear, Cond.selects RX0 yX0_clear yX0_clear, Cond.code yX0_clear cX0_clear 1 none, Cond.methodLink RX1 81 yX0_append, Cond.instanceMethod yX0_append, Cond.selects RX0 yX0_append yX0_append, Cond.code yX0_append cX0_append 2 none, Cond.fieldLink RX0 9 "RecordWire$ByteRow" "bytes" "[I", Cond.methodLink RX1 85 yX0_appendNumber, Cond.instanceMethod yX0_appendNumber, Cond.selects RX0 yX0_appendNumber yX0_appendNumber]
def wsX1_write_r2 : List Cond := [Cond.code yX0_appendNumber cX0_appendNumber 5 none, Cond.methodLink RX0 19 yX0_append, Cond.methodLink RX1 89 yX3_begin, Cond.instanceMethod yX3_begin, Cond.selects RX3 yX3_begin yX3_begin, Cond.initialized RX3, Cond.code yX3_begin cX3_begin 4 none, Cond.fieldLink RX3 11 "RecordWire$Salsa20" "input" "[I", Cond.fieldLink RX3 18 "RecordWire$Salsa20" "EXPAND" "[I", Cond.fieldLink RX3 29 "RecordWire$Salsa20" "position" "I", Cond.methodLink RX3 21 yX3_keyWord, Cond.static yX3_keyWord, Cond.code yX3_keyWord cX3_keyWord 2 (some .int), Cond.methodLink RX3 50 yX3_word, Cond.static yX3_word, Cond.code yX3_word cX3_word 4 (some .int), Cond.methodLink RX3 25 yX3_headWord, Cond.static yX3_headWord, Cond.code yX3_headWord cX3_headWord 2 (some .int), Cond.methodLink RX3 54 yX0_at, Cond.instanceMethod yX0_at, Cond.selects RX0 yX0_at yX0_at, Cond.code yX0_at cX0_at 2 (some .int), Cond.methodLink RX1 94 yX0_at]
def wsX1_write_r3 : List Cond := [Cond.methodLink RX1 98 yX3_next, Cond.instanceMethod yX3_next, Cond.selects RX3 yX3_next yX3_next, Cond.code yX3_next cX3_next 2 (some .int), Cond.fieldLink RX3 15 "RecordWire$Salsa20" "block" "[I", Cond.methodLink RX3 33 yX3_fillBlock, Cond.instanceMethod yX3_fillBlock, Cond.selects RX3 yX3_fillBlock yX3_fillBlock, Cond.code yX3_fillBlock cX3_fillBlock 2 none, Cond.methodLink RX3 36 yX3_mixColumns, Cond.instanceMethod yX3_mixColumns, Cond.selects RX3 yX3_mixColumns yX3_mixColumns, Cond.code yX3_mixColumns cX3_mixColumns 1 none, Cond.methodLink RX3 42 yX3_mixQuarter, Cond.instanceMethod yX3_mixQuarter, Cond.selects RX3 yX3_mixQuarter yX3_mixQuarter, Cond.code yX3_mixQuarter cX3_mixQuarter 5 none, Cond.methodLink RX3 46 yX3_turn, Cond.static yX3_turn, Cond.code yX3_turn cX3_turn 2 (some .int), Cond.methodLink RX3 39 yX3_mixRows, Cond.instanceMethod yX3_mixRows, Cond.selects RX3 yX3_mixRows yX3_mixRows, Cond.code yX3_mixRows cX3_mixRows 1 none]
def wsX1_write_r4 : List Cond := [Cond.methodLink RX1 101 yX1_makeTag, Cond.instanceMethod yX1_makeTag, Cond.selects RX1 yX1_makeTag yX1_makeTag, Cond.initialized RX1, Cond.code yX1_makeTag cX1_makeTag 4 none, Cond.fieldLink RX1 34 "RecordWire$Direction" "hmac" "LRecordWire$Hmac;", Cond.fieldLink RX1 15 "RecordWire$Direction" "tagKey" "[I", Cond.methodLink RX1 56 yX2_begin, Cond.instanceMethod yX2_begin, Cond.selects RX2 yX2_begin yX2_begin, Cond.initialized RX2, Cond.code yX2_begin cX2_begin 3 none, Cond.fieldLink RX2 16 "RecordWire$Hmac" "keyBlock" "[I", Cond.methodLink RX2 23 yX2_beginWithPad, Cond.instanceMethod yX2_beginWithPad, Cond.selects RX2 yX2_beginWithPad yX2_beginWithPad, Cond.code yX2_beginWithPad cX2_beginWithPad 3 none, Cond.fieldLink RX2 10 "RecordWire$Hmac" "hash" "LRecordWire$Sha256;", Cond.methodLink RX2 37 yX4_begin, Cond.instanceMethod yX4_begin, Cond.selects RX4 yX4_begin yX4_begin, Cond.initialized RX4, Cond.code yX4_begin cX4_begin 1 none, Cond.fieldLink RX4 19 "RecordWire$Sha256" "length" "I"]
def wsX1_write_r5 : List Cond := [Cond.methodLink RX2 27 yX4_append, Cond.instanceMethod yX4_append, Cond.selects RX4 yX4_append yX4_append, Cond.code yX4_append cX4_append 2 none, Cond.fieldLink RX4 9 "RecordWire$Sha256" "message" "[I", Cond.methodLink RX1 128 yX2_append, Cond.instanceMethod yX2_append, Cond.selects RX2 yX2_append yX2_append, Cond.code yX2_append cX2_append 2 none, Cond.methodLink RX1 65 yX2_finish, Cond.instanceMethod yX2_finish, Cond.selects RX2 yX2_finish yX2_finish, Cond.code yX2_finish cX2_finish 2 none, Cond.fieldLink RX2 20 "RecordWire$Hmac" "innerHash" "[I", Cond.methodLink RX2 30 yX4_finish, Cond.instanceMethod yX4_finish, Cond.selects RX4 yX4_finish yX4_finish, Cond.code yX4_finish cX4_finish 3 none, Cond.fieldLink RX4 16 "RecordWire$Sha256" "state" "[I", Cond.fieldLink RX4 26 "RecordWire$Sha256" "FIRST_STATE" "[I", Cond.methodLink RX4 23 yX4_pad, Cond.instanceMethod yX4_pad, Cond.selects RX4 yX4_pad yX4_pad, Cond.code yX4_pad cX4_pad 4 none]
def wsX1_write_r6 : List Cond := [Cond.constantLong RX4 36 (8), Cond.methodLink RX4 38 yX4_append, Cond.methodLink RX4 29 yX4_fillSchedule, Cond.instanceMethod yX4_fillSchedule, Cond.selects RX4 yX4_fillSchedule yX4_fillSchedule, Cond.code yX4_fillSchedule cX4_fillSchedule 7 none, Cond.fieldLink RX4 13 "RecordWire$Sha256" "schedule" "[I", Cond.methodLink RX4 41 yX4_turn, Cond.static yX4_turn, Cond.code yX4_turn cX4_turn 2 (some .int), Cond.methodLink RX4 33 yX4_mixState, Cond.instanceMethod yX4_mixState, Cond.selects RX4 yX4_mixState yX4_mixState, Cond.code yX4_mixState cX4_mixState 14 none, Cond.fieldLink RX4 45 "RecordWire$Sha256" "ROUND_WORDS" "[I", Cond.methodLink RX2 34 yX2_appendAll, Cond.instanceMethod yX2_appendAll, Cond.selects RX2 yX2_appendAll yX2_appendAll, Cond.code yX2_appendAll cX2_appendAll 3 none]
def wsX1_write : List Cond := .code yX1_write cX1_write 5 none :: ((wsX1_write_r1 ++ (wsX1_write_r2 ++ (wsX1_write_r3 ++ (wsX1_write_r4 ++ (wsX1_write_r5 ++ wsX1_write_r6))))) ++ wsX10 ++ wsX00 ++ wsX30 ++ wsX20 ++ wsX40)
def wsX1_hasRightShape : List Cond := .code yX1_hasRightShape cX1_hasRightShape 3 (some .boolean) :: ([.fieldLink RX1 30 "RecordWire$Direction" "index" "I", .methodLink RX1 109 yX0_numberAt, .instanceMethod yX0_numberAt, .selects RX0 yX0_numberAt yX0_numberAt, .initialized RX0, .code yX0_numberAt cX0_numberAt 6 (some .long), .methodLink RX0 23 yX0_at, .instanceMethod yX0_at, .selects RX0 yX0_at yX0_at, .code yX0_at cX0_at 2 (some .int), .fieldLink RX0 15 "RecordWire$ByteRow" "size" "I", .fieldLink RX0 9 "RecordWire$ByteRow" "bytes" "[I", .methodLink RX1 94 yX0_at, .methodLink RX1 73 yX0_size, .instanceMethod yX0_size, .selects RX0 yX0_size yX0_size, .code yX0_size cX0_size 1 (some .int)] ++ wsX10 ++ wsX00)
def wsX1_tagStandsAt : List Cond := .code yX1_tagStandsAt cX1_tagStandsAt 4 (some .boolean) :: ([.fieldLink RX1 20 "RecordWire$Direction" "tag" "[I", .methodLink RX1 94 yX0_at, .instanceMethod yX0_at, .selects RX0 yX0_at yX0_at, .initialized RX0, .code yX0_at cX0_at 2 (some .int), .fieldLink RX0 15 "RecordWire$ByteRow" "size" "I", .fieldLink RX0 9 "RecordWire$ByteRow" "bytes" "[I"] ++ wsX10 ++ wsX00)
def wsX5_isAbove : List Cond := .code yX5_isAbove cX5_isAbove 4 (some .boolean) :: ([.constantLong RX5 32 (-9223372036854775808)])
def wsX5_fits : List Cond := .code yX5_fits cX5_fits 2 (some .boolean) :: ([.constantLong RX5 30 (64)])
def wsX5_isTooOld : List Cond := .code yX5_isTooOld cX5_isTooOld 3 (some .boolean) :: ([.fieldLink RX5 13 "RecordWire$Window" "seen" "J", .fieldLink RX5 7 "RecordWire$Window" "greatest" "J", .methodLink RX5 22 yX5_isAbove, .static yX5_isAbove, .initialized RX5, .code yX5_isAbove cX5_isAbove 4 (some .boolean), .constantLong RX5 32 (-9223372036854775808), .methodLink RX5 26 yX5_fits, .static yX5_fits, .code yX5_fits cX5_fits 2 (some .boolean), .constantLong RX5 30 (64)] ++ wsX50)
def wsX5_wasSeen : List Cond := .code yX5_wasSeen cX5_wasSeen 5 (some .boolean) :: ([.fieldLink RX5 7 "RecordWire$Window" "greatest" "J", .fieldLink RX5 13 "RecordWire$Window" "seen" "J", .methodLink RX5 22 yX5_isAbove, .static yX5_isAbove, .initialized RX5, .code yX5_isAbove cX5_isAbove 4 (some .boolean), .constantLong RX5 32 (-9223372036854775808), .methodLink RX5 26 yX5_fits, .static yX5_fits, .code yX5_fits cX5_fits 2 (some .boolean), .constantLong RX5 30 (64)] ++ wsX50)
def wsX1_judge_r1 : List Cond := [Cond.fieldLink RX1 42 "RecordWire$Direction" "epoch" "I", Cond.fieldLink RX1 26 "RecordWire$Direction" "window" "LRecordWire$Window;", Cond.methodLink RX1 105 yX1_hasRightShape, Cond.instanceMethod yX1_hasRightShape, Cond.selects RX1 yX1_hasRightShape yX1_hasRightShape, Cond.initialized RX1, Cond.code yX1_hasRightShape cX1_hasRightShape 3 (some .boolean), Cond.fieldLink RX1 30 "RecordWire$Direction" "index" "I", Cond.methodLink RX1 109 yX0_numberAt, Cond.instanceMethod yX0_numberAt, Cond.selects RX0 yX0_numberAt yX0_numberAt, Cond.initialized RX0, Cond.code yX0_numberAt cX0_numberAt 6 (some .long), Cond.methodLink RX0 23 yX0_at, Cond.instanceMethod yX0_at, Cond.selects RX0 yX0_at yX0_at, Cond.code yX0_at cX0_at 2 (some .int), Cond.fieldLink RX0 15 "RecordWire$ByteRow" "size" "I", Cond.fieldLink RX0 9 "RecordWire$ByteRow" "bytes" "[I", Cond.methodLink RX1 94 yX0_at, Cond.methodLink RX1 73 yX0_size, Cond.instanceMethod yX0_size, Cond.selects RX0 yX0_size yX0_size, Cond.code yX0_size cX0_size 1 (some .int)]
def wsX1_judge_r2 : List Cond := [Cond.methodLink RX1 101 yX1_makeTag, Cond.instanceMethod yX1_makeTag, Cond.selects RX1 yX1_makeTag yX1_makeTag, Cond.code yX1_makeTag cX1_makeTag 4 none, Cond.fieldLink RX1 34 "RecordWire$Direction" "hmac" "LRecordWire$Hmac;", Cond.fieldLink RX1 15 "RecordWire$Direction" "tagKey" "[I", Cond.fieldLink RX1 20 "RecordWire$Direction" "tag" "[I", Cond.methodLink RX1 56 yX2_begin, Cond.instanceMethod yX2_begin, Cond.selects RX2 yX2_begin yX2_begin, Cond.initialized RX2, Cond.code yX2_begin cX2_begin 3 none, Cond.fieldLink RX2 16 "RecordWire$Hmac" "keyBlock" "[I", Cond.methodLink RX2 23 yX2_beginWithPad, Cond.instanceMethod yX2_beginWithPad, Cond.selects RX2 yX2_beginWithPad yX2_beginWithPad, Cond.code yX2_beginWithPad cX2_beginWithPad 3 none, Cond.fieldLink RX2 10 "RecordWire$Hmac" "hash" "LRecordWire$Sha256;", Cond.methodLink RX2 37 yX4_begin, Cond.instanceMethod yX4_begin, Cond.selects RX4 yX4_begin yX4_begin, Cond.initialized RX4, Cond.code yX4_begin cX4_begin 1 none, Cond.fieldLink RX4 19 "RecordWire$Sha256" "length" "I"]
def wsX1_judge_r3 : List Cond := [Cond.methodLink RX2 27 yX4_append, Cond.instanceMethod yX4_append, Cond.selects RX4 yX4_append yX4_append, Cond.code yX4_append cX4_append 2 none, Cond.fieldLink RX4 9 "RecordWire$Sha256" "message" "[I", Cond.methodLink RX1 128 yX2_append, Cond.instanceMethod yX2_append, Cond.selects RX2 yX2_append yX2_append, Cond.code yX2_append cX2_append 2 none, Cond.methodLink RX1 65 yX2_finish, Cond.instanceMethod yX2_finish, Cond.selects RX2 yX2_finish yX2_finish, Cond.code yX2_finish cX2_finish 2 none, Cond.fieldLink RX2 20 "RecordWire$Hmac" "innerHash" "[I", Cond.methodLink RX2 30 yX4_finish, Cond.instanceMethod yX4_finish, Cond.selects RX4 yX4_finish yX4_finish, Cond.code yX4_finish cX4_finish 3 none, Cond.fieldLink RX4 16 "RecordWire$Sha256" "state" "[I", Cond.fieldLink RX4 26 "RecordWire$Sha256" "FIRST_STATE" "[I", Cond.methodLink RX4 23 yX4_pad, Cond.instanceMethod yX4_pad, Cond.selects RX4 yX4_pad yX4_pad, Cond.code yX4_pad cX4_pad 4 none]
def wsX1_judge_r4 : List Cond := [Cond.constantLong RX4 36 (8), Cond.methodLink RX4 38 yX4_append, Cond.methodLink RX4 29 yX4_fillSchedule, Cond.instanceMethod yX4_fillSchedule, Cond.selects RX4 yX4_fillSchedule yX4_fillSchedule, Cond.code yX4_fillSchedule cX4_fillSchedule 7 none, Cond.fieldLink RX4 13 "RecordWire$Sha256" "schedule" "[I", Cond.methodLink RX4 41 yX4_turn, Cond.static yX4_turn, Cond.code yX4_turn cX4_turn 2 (some .int), Cond.methodLink RX4 33 yX4_mixState, Cond.instanceMethod yX4_mixState, Cond.selects RX4 yX4_mixState yX4_mixState, Cond.code yX4_mixState cX4_mixState 14 none, Cond.fieldLink RX4 45 "RecordWire$Sha256" "ROUND_WORDS" "[I", Cond.methodLink RX2 34 yX2_appendAll, Cond.instanceMethod yX2_appendAll, Cond.selects RX2 yX2_appendAll yX2_appendAll, Cond.code yX2_appendAll cX2_appendAll 3 none, Cond.methodLink RX1 113 yX1_tagStandsAt, Cond.instanceMethod yX1_tagStandsAt, Cond.selects RX1 yX1_tagStandsAt yX1_tagStandsAt, Cond.code yX1_tagStandsAt cX1_tagStandsAt 4 (some .boolean), Cond.methodLink RX1 117 yX5_isTooOld]
def wsX1_judge_r5 : List Cond := [Cond.instanceMethod yX5_isTooOld, Cond.selects RX5 yX5_isTooOld yX5_isTooOld, Cond.initialized RX5, Cond.code yX5_isTooOld cX5_isTooOld 3 (some .boolean), Cond.fieldLink RX5 13 "RecordWire$Window" "seen" "J", Cond.fieldLink RX5 7 "RecordWire$Window" "greatest" "J", Cond.methodLink RX5 22 yX5_isAbove, Cond.static yX5_isAbove, Cond.code yX5_isAbove cX5_isAbove 4 (some .boolean), Cond.constantLong RX5 32 (-9223372036854775808), Cond.methodLink RX5 26 yX5_fits, Cond.static yX5_fits, Cond.code yX5_fits cX5_fits 2 (some .boolean), Cond.constantLong RX5 30 (64), Cond.methodLink RX1 121 yX5_wasSeen, Cond.instanceMethod yX5_wasSeen, Cond.selects RX5 yX5_wasSeen yX5_wasSeen, Cond.code yX5_wasSeen cX5_wasSeen 5 (some .boolean)]
def wsX1_judge : List Cond := .code yX1_judge cX1_judge 5 (some .int) :: ((wsX1_judge_r1 ++ (wsX1_judge_r2 ++ (wsX1_judge_r3 ++ (wsX1_judge_r4 ++ wsX1_judge_r5)))) ++ wsX10 ++ wsX00 ++ wsX20 ++ wsX40 ++ wsX50)
def wsX5_mark : List Cond := .code yX5_mark cX5_mark 5 none :: ([.fieldLink RX5 13 "RecordWire$Window" "seen" "J", .fieldLink RX5 7 "RecordWire$Window" "greatest" "J", .methodLink RX5 22 yX5_isAbove, .static yX5_isAbove, .initialized RX5, .code yX5_isAbove cX5_isAbove 4 (some .boolean), .constantLong RX5 32 (-9223372036854775808), .methodLink RX5 26 yX5_fits, .static yX5_fits, .code yX5_fits cX5_fits 2 (some .boolean), .constantLong RX5 30 (64)] ++ wsX50)
def wsX1_read_r1 : List Cond := [Cond.fieldLink RX1 38 "RecordWire$Direction" "salsa" "LRecordWire$Salsa20;", Cond.fieldLink RX1 9 "RecordWire$Direction" "sealKey" "[I", Cond.fieldLink RX1 26 "RecordWire$Direction" "window" "LRecordWire$Window;", Cond.methodLink RX1 109 yX0_numberAt, Cond.instanceMethod yX0_numberAt, Cond.selects RX0 yX0_numberAt yX0_numberAt, Cond.initialized RX0, Cond.code yX0_numberAt cX0_numberAt 6 (some .long), Cond.methodLink RX0 23 yX0_at, Cond.instanceMethod yX0_at, Cond.selects RX0 yX0_at yX0_at, Cond.code yX0_at cX0_at 2 (some .int), Cond.fieldLink RX0 15 "RecordWire$ByteRow" "size" "I", Cond.fieldLink RX0 9 "RecordWire$ByteRow" "bytes" "[I", Cond.methodLink RX1 78 yX0_clear, Cond.instanceMethod yX0_clear, Cond.selects RX0 yX0_clear yX0_clear, Cond.code yX0_clear cX0_clear 1 none, Cond.methodLink RX1 89 yX3_begin, Cond.instanceMethod yX3_begin, Cond.selects RX3 yX3_begin yX3_begin, Cond.initialized RX3, Cond.code yX3_begin cX3_begin 4 none, Cond.fieldLink RX3 11 "RecordWire$Salsa20" "input" "[I"]
def wsX1_read_r2 : List Cond := [Cond.fieldLink RX3 18 "RecordWire$Salsa20" "EXPAND" "[I", Cond.fieldLink RX3 29 "RecordWire$Salsa20" "position" "I", Cond.methodLink RX3 21 yX3_keyWord, Cond.static yX3_keyWord, Cond.code yX3_keyWord cX3_keyWord 2 (some .int), Cond.methodLink RX3 50 yX3_word, Cond.static yX3_word, Cond.code yX3_word cX3_word 4 (some .int), Cond.methodLink RX3 25 yX3_headWord, Cond.static yX3_headWord, Cond.code yX3_headWord cX3_headWord 2 (some .int), Cond.methodLink RX3 54 yX0_at, Cond.methodLink RX1 94 yX0_at, Cond.methodLink RX1 98 yX3_next, Cond.instanceMethod yX3_next, Cond.selects RX3 yX3_next yX3_next, Cond.code yX3_next cX3_next 2 (some .int), Cond.fieldLink RX3 15 "RecordWire$Salsa20" "block" "[I", Cond.methodLink RX3 33 yX3_fillBlock, Cond.instanceMethod yX3_fillBlock, Cond.selects RX3 yX3_fillBlock yX3_fillBlock, Cond.code yX3_fillBlock cX3_fillBlock 2 none, Cond.methodLink RX3 36 yX3_mixColumns, Cond.instanceMethod yX3_mixColumns]
def wsX1_read_r3 : List Cond := [Cond.selects RX3 yX3_mixColumns yX3_mixColumns, Cond.code yX3_mixColumns cX3_mixColumns 1 none, Cond.methodLink RX3 42 yX3_mixQuarter, Cond.instanceMethod yX3_mixQuarter, Cond.selects RX3 yX3_mixQuarter yX3_mixQuarter, Cond.code yX3_mixQuarter cX3_mixQuarter 5 none, Cond.methodLink RX3 46 yX3_turn, Cond.static yX3_turn, Cond.code yX3_turn cX3_turn 2 (some .int), Cond.methodLink RX3 39 yX3_mixRows, Cond.instanceMethod yX3_mixRows, Cond.selects RX3 yX3_mixRows yX3_mixRows, Cond.code yX3_mixRows cX3_mixRows 1 none, Cond.methodLink RX1 81 yX0_append, Cond.instanceMethod yX0_append, Cond.selects RX0 yX0_append yX0_append, Cond.code yX0_append cX0_append 2 none, Cond.methodLink RX1 124 yX5_mark, Cond.instanceMethod yX5_mark, Cond.selects RX5 yX5_mark yX5_mark, Cond.initialized RX5, Cond.code yX5_mark cX5_mark 5 none, Cond.fieldLink RX5 13 "RecordWire$Window" "seen" "J", Cond.fieldLink RX5 7 "RecordWire$Window" "greatest" "J"]
def wsX1_read_r4 : List Cond := [Cond.methodLink RX5 22 yX5_isAbove, Cond.static yX5_isAbove, Cond.code yX5_isAbove cX5_isAbove 4 (some .boolean), Cond.constantLong RX5 32 (-9223372036854775808), Cond.methodLink RX5 26 yX5_fits, Cond.static yX5_fits, Cond.code yX5_fits cX5_fits 2 (some .boolean), Cond.constantLong RX5 30 (64)]
def wsX1_read : List Cond := .code yX1_read cX1_read 5 none :: ((wsX1_read_r1 ++ (wsX1_read_r2 ++ (wsX1_read_r3 ++ wsX1_read_r4))) ++ wsX10 ++ wsX00 ++ wsX30 ++ wsX50)
def wsX4_init : List Cond := .code yX4_init cX4_init 1 none :: ([.methodLink RX4 3 objectInit, .instanceMethod objectInit, .code objectInit ⟨#[0xb1]⟩ 1 none, .arrayClass .int, .fieldLink RX4 9 "RecordWire$Sha256" "message" "[I", .fieldLink RX4 13 "RecordWire$Sha256" "schedule" "[I", .fieldLink RX4 16 "RecordWire$Sha256" "state" "[I"] ++ wsX40)
def wsX2_init : List Cond := .code yX2_init cX2_init 1 none :: ([.methodLink RX2 1 objectInit, .instanceMethod objectInit, .code objectInit ⟨#[0xb1]⟩ 1 none, .classLink RX2 7 RX4, .instantiable RX4 4, .initialized RX4, .fieldLink RX2 10 "RecordWire$Hmac" "hash" "LRecordWire$Sha256;", .arrayClass .int, .fieldLink RX2 16 "RecordWire$Hmac" "keyBlock" "[I", .fieldLink RX2 20 "RecordWire$Hmac" "innerHash" "[I", .instanceMethod yX4_init, .code yX4_init cX4_init 1 none, .methodLink RX4 3 objectInit, .fieldLink RX4 9 "RecordWire$Sha256" "message" "[I", .fieldLink RX4 13 "RecordWire$Sha256" "schedule" "[I", .fieldLink RX4 16 "RecordWire$Sha256" "state" "[I"] ++ wsX40 ++ wsX20)
def wsX3_init : List Cond := .code yX3_init cX3_init 1 none :: ([.methodLink RX3 3 objectInit, .instanceMethod objectInit, .code objectInit ⟨#[0xb1]⟩ 1 none, .arrayClass .int, .fieldLink RX3 11 "RecordWire$Salsa20" "input" "[I", .fieldLink RX3 15 "RecordWire$Salsa20" "block" "[I"] ++ wsX30)
def wsX6_init__r1 : List Cond := [Cond.fieldLink RX6 9 "RecordWire" "sharedKey" "[I", Cond.fieldLink RX6 34 "RecordWire" "slots" "[LRecordWire$ByteRow;", Cond.fieldLink RX6 28 "RecordWire" "directions" "[LRecordWire$Direction;", Cond.fieldLink RX6 39 "RecordWire" "outbox" "LRecordWire$ByteRow;", Cond.fieldLink RX6 43 "RecordWire" "inbox" "LRecordWire$ByteRow;", Cond.fieldLink RX6 61 "RecordWire" "opened" "Z", Cond.methodLink RX6 55 yX0_clear, Cond.instanceMethod yX0_clear, Cond.selects RX0 yX0_clear yX0_clear, Cond.initialized RX0, Cond.code yX0_clear cX0_clear 1 none, Cond.fieldLink RX0 15 "RecordWire$ByteRow" "size" "I", Cond.methodLink RX6 58 yX1_forget, Cond.instanceMethod yX1_forget, Cond.selects RX1 yX1_forget yX1_forget, Cond.initialized RX1, Cond.code yX1_forget cX1_forget 1 none, Cond.fieldLink RX1 42 "RecordWire$Direction" "epoch" "I", Cond.fieldLink RX1 49 "RecordWire$Direction" "nextNumber" "J", Cond.fieldLink RX1 26 "RecordWire$Direction" "window" "LRecordWire$Window;", Cond.methodLink RX1 53 yX5_forget, Cond.instanceMethod yX5_forget, Cond.selects RX5 yX5_forget yX5_forget, Cond.initialized RX5]
def wsX6_init__r2 : List Cond := [Cond.code yX5_forget cX5_forget 1 none, Cond.fieldLink RX5 7 "RecordWire$Window" "greatest" "J", Cond.fieldLink RX5 13 "RecordWire$Window" "seen" "J"]
def wsX6_init_ : List Cond := .code yX6_init_ cX6_init_ 2 none :: ((wsX6_init__r1 ++ wsX6_init__r2) ++ wsX60 ++ wsX00 ++ wsX10 ++ wsX50)
def wsX6_init_r1 : List Cond := [Cond.methodLink RX6 3 objectInit, Cond.instanceMethod objectInit, Cond.code objectInit ⟨#[0xb1]⟩ 1 none, Cond.arrayClass .int, Cond.fieldLink RX6 9 "RecordWire" "sharedKey" "[I", Cond.fieldLink RX6 13 "RecordWire" "zeroKey" "[I", Cond.fieldLink RX6 16 "RecordWire" "root" "[I", Cond.classLink RX6 19 RX2, Cond.instantiable RX2 3, Cond.initialized RX2, Cond.fieldLink RX6 22 "RecordWire" "hmac" "LRecordWire$Hmac;", Cond.classLink RX6 26 RX1, Cond.fieldLink RX6 28 "RecordWire" "directions" "[LRecordWire$Direction;", Cond.classLink RX6 32 RX0, Cond.fieldLink RX6 34 "RecordWire" "slots" "[LRecordWire$ByteRow;", Cond.instantiable RX0 2, Cond.initialized RX0, Cond.fieldLink RX6 39 "RecordWire" "outbox" "LRecordWire$ByteRow;", Cond.fieldLink RX6 43 "RecordWire" "inbox" "LRecordWire$ByteRow;", Cond.classLink RX6 46 RX3, Cond.instantiable RX3 3, Cond.initialized RX3, Cond.instantiable RX1 9, Cond.initialized RX1]
def wsX6_init_r2 : List Cond := [Cond.instanceMethod yX2_init, Cond.code yX2_init cX2_init 1 none, Cond.methodLink RX2 1 objectInit, Cond.classLink RX2 7 RX4, Cond.instantiable RX4 4, Cond.initialized RX4, Cond.fieldLink RX2 10 "RecordWire$Hmac" "hash" "LRecordWire$Sha256;", Cond.fieldLink RX2 16 "RecordWire$Hmac" "keyBlock" "[I", Cond.fieldLink RX2 20 "RecordWire$Hmac" "innerHash" "[I", Cond.instanceMethod yX4_init, Cond.code yX4_init cX4_init 1 none, Cond.methodLink RX4 3 objectInit, Cond.fieldLink RX4 9 "RecordWire$Sha256" "message" "[I", Cond.fieldLink RX4 13 "RecordWire$Sha256" "schedule" "[I", Cond.fieldLink RX4 16 "RecordWire$Sha256" "state" "[I", Cond.instanceMethod yX0_init, Cond.code yX0_init cX0_init 1 none, Cond.methodLink RX0 3 objectInit, Cond.fieldLink RX0 9 "RecordWire$ByteRow" "bytes" "[I", Cond.instanceMethod yX3_init, Cond.code yX3_init cX3_init 1 none, Cond.methodLink RX3 3 objectInit, Cond.fieldLink RX3 11 "RecordWire$Salsa20" "input" "[I", Cond.fieldLink RX3 15 "RecordWire$Salsa20" "block" "[I"]
def wsX6_init_r3 : List Cond := [Cond.methodLink RX6 49 yX1_init, Cond.instanceMethod yX1_init, Cond.code yX1_init cX1_init 4 none, Cond.methodLink RX1 3 objectInit, Cond.fieldLink RX1 9 "RecordWire$Direction" "sealKey" "[I", Cond.fieldLink RX1 15 "RecordWire$Direction" "tagKey" "[I", Cond.fieldLink RX1 20 "RecordWire$Direction" "tag" "[I", Cond.classLink RX1 23 RX5, Cond.instantiable RX5 2, Cond.initialized RX5, Cond.fieldLink RX1 26 "RecordWire$Direction" "window" "LRecordWire$Window;", Cond.fieldLink RX1 30 "RecordWire$Direction" "index" "I", Cond.fieldLink RX1 34 "RecordWire$Direction" "hmac" "LRecordWire$Hmac;", Cond.fieldLink RX1 38 "RecordWire$Direction" "salsa" "LRecordWire$Salsa20;", Cond.instanceMethod yX5_init, Cond.code yX5_init cX5_init 1 none, Cond.methodLink RX5 1 objectInit, Cond.methodLink RX6 52 yX6_init_, Cond.instanceMethod yX6_init_, Cond.selects RX6 yX6_init_ yX6_init_, Cond.initialized RX6, Cond.code yX6_init_ cX6_init_ 2 none, Cond.fieldLink RX6 61 "RecordWire" "opened" "Z", Cond.methodLink RX6 55 yX0_clear]
def wsX6_init_r4 : List Cond := [Cond.instanceMethod yX0_clear, Cond.selects RX0 yX0_clear yX0_clear, Cond.code yX0_clear cX0_clear 1 none, Cond.fieldLink RX0 15 "RecordWire$ByteRow" "size" "I", Cond.methodLink RX6 58 yX1_forget, Cond.instanceMethod yX1_forget, Cond.selects RX1 yX1_forget yX1_forget, Cond.code yX1_forget cX1_forget 1 none, Cond.fieldLink RX1 42 "RecordWire$Direction" "epoch" "I", Cond.fieldLink RX1 49 "RecordWire$Direction" "nextNumber" "J", Cond.methodLink RX1 53 yX5_forget, Cond.instanceMethod yX5_forget, Cond.selects RX5 yX5_forget yX5_forget, Cond.code yX5_forget cX5_forget 1 none, Cond.fieldLink RX5 7 "RecordWire$Window" "greatest" "J", Cond.fieldLink RX5 13 "RecordWire$Window" "seen" "J"]
def wsX6_init : List Cond := .code yX6_init cX6_init 3 none :: ((wsX6_init_r1 ++ (wsX6_init_r2 ++ (wsX6_init_r3 ++ wsX6_init_r4))) ++ wsX60 ++ wsX20 ++ wsX00 ++ wsX30 ++ wsX10 ++ wsX40 ++ wsX50)
def wsX6_isByte : List Cond := .code yX6_isByte cX6_isByte 1 (some .boolean) :: ([])
def wsX6_setPsk : List Cond := .code yX6_setPsk cX6_setPsk 3 (some .boolean) :: ([.fieldLink RX6 61 "RecordWire" "opened" "Z", .fieldLink RX6 9 "RecordWire" "sharedKey" "[I", .methodLink RX6 65 yX6_isByte, .static yX6_isByte, .initialized RX6, .code yX6_isByte cX6_isByte 1 (some .boolean)] ++ wsX60)
def wsX6_open_r1 : List Cond := [Cond.fieldLink RX6 61 "RecordWire" "opened" "Z", Cond.fieldLink RX6 22 "RecordWire" "hmac" "LRecordWire$Hmac;", Cond.fieldLink RX6 13 "RecordWire" "zeroKey" "[I", Cond.fieldLink RX6 9 "RecordWire" "sharedKey" "[I", Cond.fieldLink RX6 16 "RecordWire" "root" "[I", Cond.fieldLink RX6 28 "RecordWire" "directions" "[LRecordWire$Direction;", Cond.methodLink RX6 69 yX2_begin, Cond.instanceMethod yX2_begin, Cond.selects RX2 yX2_begin yX2_begin, Cond.initialized RX2, Cond.code yX2_begin cX2_begin 3 none, Cond.fieldLink RX2 16 "RecordWire$Hmac" "keyBlock" "[I", Cond.methodLink RX2 23 yX2_beginWithPad, Cond.instanceMethod yX2_beginWithPad, Cond.selects RX2 yX2_beginWithPad yX2_beginWithPad, Cond.code yX2_beginWithPad cX2_beginWithPad 3 none, Cond.fieldLink RX2 10 "RecordWire$Hmac" "hash" "LRecordWire$Sha256;", Cond.methodLink RX2 37 yX4_begin, Cond.instanceMethod yX4_begin, Cond.selects RX4 yX4_begin yX4_begin, Cond.initialized RX4, Cond.code yX4_begin cX4_begin 1 none, Cond.fieldLink RX4 19 "RecordWire$Sha256" "length" "I", Cond.methodLink RX2 27 yX4_append]
def wsX6_open_r2 : List Cond := [Cond.instanceMethod yX4_append, Cond.selects RX4 yX4_append yX4_append, Cond.code yX4_append cX4_append 2 none, Cond.fieldLink RX4 9 "RecordWire$Sha256" "message" "[I", Cond.methodLink RX6 73 yX2_appendAll, Cond.instanceMethod yX2_appendAll, Cond.selects RX2 yX2_appendAll yX2_appendAll, Cond.code yX2_appendAll cX2_appendAll 3 none, Cond.methodLink RX6 76 yX2_finish, Cond.instanceMethod yX2_finish, Cond.selects RX2 yX2_finish yX2_finish, Cond.code yX2_finish cX2_finish 2 none, Cond.fieldLink RX2 20 "RecordWire$Hmac" "innerHash" "[I", Cond.methodLink RX2 30 yX4_finish, Cond.instanceMethod yX4_finish, Cond.selects RX4 yX4_finish yX4_finish, Cond.code yX4_finish cX4_finish 3 none, Cond.fieldLink RX4 16 "RecordWire$Sha256" "state" "[I", Cond.fieldLink RX4 26 "RecordWire$Sha256" "FIRST_STATE" "[I", Cond.methodLink RX4 23 yX4_pad, Cond.instanceMethod yX4_pad, Cond.selects RX4 yX4_pad yX4_pad, Cond.code yX4_pad cX4_pad 4 none, Cond.constantLong RX4 36 (8)]
def wsX6_open_r3 : List Cond := [Cond.methodLink RX4 38 yX4_append, Cond.methodLink RX4 29 yX4_fillSchedule, Cond.instanceMethod yX4_fillSchedule, Cond.selects RX4 yX4_fillSchedule yX4_fillSchedule, Cond.code yX4_fillSchedule cX4_fillSchedule 7 none, Cond.fieldLink RX4 13 "RecordWire$Sha256" "schedule" "[I", Cond.methodLink RX4 41 yX4_turn, Cond.static yX4_turn, Cond.code yX4_turn cX4_turn 2 (some .int), Cond.methodLink RX4 33 yX4_mixState, Cond.instanceMethod yX4_mixState, Cond.selects RX4 yX4_mixState yX4_mixState, Cond.code yX4_mixState cX4_mixState 14 none, Cond.fieldLink RX4 45 "RecordWire$Sha256" "ROUND_WORDS" "[I", Cond.methodLink RX2 34 yX2_appendAll, Cond.methodLink RX6 79 yX1_startEpoch, Cond.instanceMethod yX1_startEpoch, Cond.selects RX1 yX1_startEpoch yX1_startEpoch, Cond.initialized RX1, Cond.code yX1_startEpoch cX1_startEpoch 3 none, Cond.fieldLink RX1 9 "RecordWire$Direction" "sealKey" "[I", Cond.fieldLink RX1 15 "RecordWire$Direction" "tagKey" "[I", Cond.fieldLink RX1 42 "RecordWire$Direction" "epoch" "I", Cond.methodLink RX1 68 yX1_makeKey]
def wsX6_open_r4 : List Cond := [Cond.instanceMethod yX1_makeKey, Cond.selects RX1 yX1_makeKey yX1_makeKey, Cond.code yX1_makeKey cX1_makeKey 4 none, Cond.fieldLink RX1 34 "RecordWire$Direction" "hmac" "LRecordWire$Hmac;", Cond.fieldLink RX1 30 "RecordWire$Direction" "index" "I", Cond.methodLink RX1 56 yX2_begin, Cond.methodLink RX1 128 yX2_append, Cond.instanceMethod yX2_append, Cond.selects RX2 yX2_append yX2_append, Cond.code yX2_append cX2_append 2 none, Cond.methodLink RX1 65 yX2_finish, Cond.methodLink RX1 72 yX1_forget, Cond.instanceMethod yX1_forget, Cond.selects RX1 yX1_forget yX1_forget, Cond.code yX1_forget cX1_forget 1 none, Cond.fieldLink RX1 49 "RecordWire$Direction" "nextNumber" "J", Cond.fieldLink RX1 26 "RecordWire$Direction" "window" "LRecordWire$Window;", Cond.methodLink RX1 53 yX5_forget, Cond.instanceMethod yX5_forget, Cond.selects RX5 yX5_forget yX5_forget, Cond.initialized RX5, Cond.code yX5_forget cX5_forget 1 none, Cond.fieldLink RX5 7 "RecordWire$Window" "greatest" "J", Cond.fieldLink RX5 13 "RecordWire$Window" "seen" "J"]
def wsX6_open : List Cond := .code yX6_open cX6_open 2 none :: ((wsX6_open_r1 ++ (wsX6_open_r2 ++ (wsX6_open_r3 ++ wsX6_open_r4))) ++ wsX60 ++ wsX20 ++ wsX40 ++ wsX10 ++ wsX50)
def wsX6_put : List Cond := .code yX6_put cX6_put 2 (some .boolean) :: ([.fieldLink RX6 39 "RecordWire" "outbox" "LRecordWire$ByteRow;", .methodLink RX6 65 yX6_isByte, .static yX6_isByte, .initialized RX6, .code yX6_isByte cX6_isByte 1 (some .boolean), .methodLink RX6 83 yX0_size, .instanceMethod yX0_size, .selects RX0 yX0_size yX0_size, .initialized RX0, .code yX0_size cX0_size 1 (some .int), .fieldLink RX0 15 "RecordWire$ByteRow" "size" "I", .methodLink RX6 87 yX0_append, .instanceMethod yX0_append, .selects RX0 yX0_append yX0_append, .code yX0_append cX0_append 2 none, .fieldLink RX0 9 "RecordWire$ByteRow" "bytes" "[I"] ++ wsX60 ++ wsX00)
def wsX6_isSide : List Cond := .code yX6_isSide cX6_isSide 1 (some .boolean) :: ([])
def wsX6_firstEmptySlot : List Cond := .code yX6_firstEmptySlot cX6_firstEmptySlot 2 (some .int) :: ([.fieldLink RX6 34 "RecordWire" "slots" "[LRecordWire$ByteRow;", .methodLink RX6 104 yX0_isEmpty, .instanceMethod yX0_isEmpty, .selects RX0 yX0_isEmpty yX0_isEmpty, .initialized RX0, .code yX0_isEmpty cX0_isEmpty 1 (some .boolean), .fieldLink RX0 15 "RecordWire$ByteRow" "size" "I"] ++ wsX60 ++ wsX00)
def wsX6_send_r1 : List Cond := [Cond.fieldLink RX6 61 "RecordWire" "opened" "Z", Cond.fieldLink RX6 28 "RecordWire" "directions" "[LRecordWire$Direction;", Cond.fieldLink RX6 39 "RecordWire" "outbox" "LRecordWire$ByteRow;", Cond.fieldLink RX6 34 "RecordWire" "slots" "[LRecordWire$ByteRow;", Cond.methodLink RX6 91 yX6_isSide, Cond.static yX6_isSide, Cond.initialized RX6, Cond.code yX6_isSide cX6_isSide 1 (some .boolean), Cond.methodLink RX6 94 yX6_firstEmptySlot, Cond.instanceMethod yX6_firstEmptySlot, Cond.selects RX6 yX6_firstEmptySlot yX6_firstEmptySlot, Cond.code yX6_firstEmptySlot cX6_firstEmptySlot 2 (some .int), Cond.methodLink RX6 104 yX0_isEmpty, Cond.instanceMethod yX0_isEmpty, Cond.selects RX0 yX0_isEmpty yX0_isEmpty, Cond.initialized RX0, Cond.code yX0_isEmpty cX0_isEmpty 1 (some .boolean), Cond.fieldLink RX0 15 "RecordWire$ByteRow" "size" "I", Cond.methodLink RX6 97 yX1_write, Cond.instanceMethod yX1_write, Cond.selects RX1 yX1_write yX1_write, Cond.initialized RX1, Cond.code yX1_write cX1_write 5 none, Cond.fieldLink RX1 30 "RecordWire$Direction" "index" "I"]
def wsX6_send_r2 : List Cond := [Cond.fieldLink RX1 42 "RecordWire$Direction" "epoch" "I", Cond.fieldLink RX1 49 "RecordWire$Direction" "nextNumber" "J", Cond.fieldLink RX1 38 "RecordWire$Direction" "salsa" "LRecordWire$Salsa20;", Cond.fieldLink RX1 9 "RecordWire$Direction" "sealKey" "[I", Cond.fieldLink RX1 20 "RecordWire$Direction" "tag" "[I", Cond.methodLink RX1 73 yX0_size, Cond.instanceMethod yX0_size, Cond.selects RX0 yX0_size yX0_size, Cond.code yX0_size cX0_size 1 (some .int), Cond.methodLink RX1 78 yX0_clear, Cond.instanceMethod yX0_clear, Cond.selects RX0 yX0_clear yX0_clear, Cond.code yX0_clear cX0_clear 1 none, Cond.methodLink RX1 81 yX0_append, Cond.instanceMethod yX0_append, Cond.selects RX0 yX0_append yX0_append, Cond.code yX0_append cX0_append 2 none, Cond.fieldLink RX0 9 "RecordWire$ByteRow" "bytes" "[I", Cond.methodLink RX1 85 yX0_appendNumber, Cond.instanceMethod yX0_appendNumber, Cond.selects RX0 yX0_appendNumber yX0_appendNumber, Cond.code yX0_appendNumber cX0_appendNumber 5 none, Cond.methodLink RX0 19 yX0_append, Cond.methodLink RX1 89 yX3_begin]
def wsX6_send_r3 : List Cond := [Cond.instanceMethod yX3_begin, Cond.selects RX3 yX3_begin yX3_begin, Cond.initialized RX3, Cond.code yX3_begin cX3_begin 4 none, Cond.fieldLink RX3 11 "RecordWire$Salsa20" "input" "[I", Cond.fieldLink RX3 18 "RecordWire$Salsa20" "EXPAND" "[I", Cond.fieldLink RX3 29 "RecordWire$Salsa20" "position" "I", Cond.methodLink RX3 21 yX3_keyWord, Cond.static yX3_keyWord, Cond.code yX3_keyWord cX3_keyWord 2 (some .int), Cond.methodLink RX3 50 yX3_word, Cond.static yX3_word, Cond.code yX3_word cX3_word 4 (some .int), Cond.methodLink RX3 25 yX3_headWord, Cond.static yX3_headWord, Cond.code yX3_headWord cX3_headWord 2 (some .int), Cond.methodLink RX3 54 yX0_at, Cond.instanceMethod yX0_at, Cond.selects RX0 yX0_at yX0_at, Cond.code yX0_at cX0_at 2 (some .int), Cond.methodLink RX1 94 yX0_at, Cond.methodLink RX1 98 yX3_next, Cond.instanceMethod yX3_next, Cond.selects RX3 yX3_next yX3_next]
def wsX6_send_r4 : List Cond := [Cond.code yX3_next cX3_next 2 (some .int), Cond.fieldLink RX3 15 "RecordWire$Salsa20" "block" "[I", Cond.methodLink RX3 33 yX3_fillBlock, Cond.instanceMethod yX3_fillBlock, Cond.selects RX3 yX3_fillBlock yX3_fillBlock, Cond.code yX3_fillBlock cX3_fillBlock 2 none, Cond.methodLink RX3 36 yX3_mixColumns, Cond.instanceMethod yX3_mixColumns, Cond.selects RX3 yX3_mixColumns yX3_mixColumns, Cond.code yX3_mixColumns cX3_mixColumns 1 none, Cond.methodLink RX3 42 yX3_mixQuarter, Cond.instanceMethod yX3_mixQuarter, Cond.selects RX3 yX3_mixQuarter yX3_mixQuarter, Cond.code yX3_mixQuarter cX3_mixQuarter 5 none, Cond.methodLink RX3 46 yX3_turn, Cond.static yX3_turn, Cond.code yX3_turn cX3_turn 2 (some .int), Cond.methodLink RX3 39 yX3_mixRows, Cond.instanceMethod yX3_mixRows, Cond.selects RX3 yX3_mixRows yX3_mixRows, Cond.code yX3_mixRows cX3_mixRows 1 none, Cond.methodLink RX1 101 yX1_makeTag, Cond.instanceMethod yX1_makeTag, Cond.selects RX1 yX1_makeTag yX1_makeTag]
def wsX6_send_r5 : List Cond := [Cond.code yX1_makeTag cX1_makeTag 4 none, Cond.fieldLink RX1 34 "RecordWire$Direction" "hmac" "LRecordWire$Hmac;", Cond.fieldLink RX1 15 "RecordWire$Direction" "tagKey" "[I", Cond.methodLink RX1 56 yX2_begin, Cond.instanceMethod yX2_begin, Cond.selects RX2 yX2_begin yX2_begin, Cond.initialized RX2, Cond.code yX2_begin cX2_begin 3 none, Cond.fieldLink RX2 16 "RecordWire$Hmac" "keyBlock" "[I", Cond.methodLink RX2 23 yX2_beginWithPad, Cond.instanceMethod yX2_beginWithPad, Cond.selects RX2 yX2_beginWithPad yX2_beginWithPad, Cond.code yX2_beginWithPad cX2_beginWithPad 3 none, Cond.fieldLink RX2 10 "RecordWire$Hmac" "hash" "LRecordWire$Sha256;", Cond.methodLink RX2 37 yX4_begin, Cond.instanceMethod yX4_begin, Cond.selects RX4 yX4_begin yX4_begin, Cond.initialized RX4, Cond.code yX4_begin cX4_begin 1 none, Cond.fieldLink RX4 19 "RecordWire$Sha256" "length" "I", Cond.methodLink RX2 27 yX4_append, Cond.instanceMethod yX4_append, Cond.selects RX4 yX4_append yX4_append, Cond.code yX4_append cX4_append 2 none]
def wsX6_send_r6 : List Cond := [Cond.fieldLink RX4 9 "RecordWire$Sha256" "message" "[I", Cond.methodLink RX1 128 yX2_append, Cond.instanceMethod yX2_append, Cond.selects RX2 yX2_append yX2_append, Cond.code yX2_append cX2_append 2 none, Cond.methodLink RX1 65 yX2_finish, Cond.instanceMethod yX2_finish, Cond.selects RX2 yX2_finish yX2_finish, Cond.code yX2_finish cX2_finish 2 none, Cond.fieldLink RX2 20 "RecordWire$Hmac" "innerHash" "[I", Cond.methodLink RX2 30 yX4_finish, Cond.instanceMethod yX4_finish, Cond.selects RX4 yX4_finish yX4_finish, Cond.code yX4_finish cX4_finish 3 none, Cond.fieldLink RX4 16 "RecordWire$Sha256" "state" "[I", Cond.fieldLink RX4 26 "RecordWire$Sha256" "FIRST_STATE" "[I", Cond.methodLink RX4 23 yX4_pad, Cond.instanceMethod yX4_pad, Cond.selects RX4 yX4_pad yX4_pad, Cond.code yX4_pad cX4_pad 4 none, Cond.constantLong RX4 36 (8), Cond.methodLink RX4 38 yX4_append, Cond.methodLink RX4 29 yX4_fillSchedule, Cond.instanceMethod yX4_fillSchedule]
def wsX6_send_r7 : List Cond := [Cond.selects RX4 yX4_fillSchedule yX4_fillSchedule, Cond.code yX4_fillSchedule cX4_fillSchedule 7 none, Cond.fieldLink RX4 13 "RecordWire$Sha256" "schedule" "[I", Cond.methodLink RX4 41 yX4_turn, Cond.static yX4_turn, Cond.code yX4_turn cX4_turn 2 (some .int), Cond.methodLink RX4 33 yX4_mixState, Cond.instanceMethod yX4_mixState, Cond.selects RX4 yX4_mixState yX4_mixState, Cond.code yX4_mixState cX4_mixState 14 none, Cond.fieldLink RX4 45 "RecordWire$Sha256" "ROUND_WORDS" "[I", Cond.methodLink RX2 34 yX2_appendAll, Cond.instanceMethod yX2_appendAll, Cond.selects RX2 yX2_appendAll yX2_appendAll, Cond.code yX2_appendAll cX2_appendAll 3 none, Cond.methodLink RX6 55 yX0_clear]
def wsX6_send : List Cond := .code yX6_send cX6_send 3 (some .int) :: ((wsX6_send_r1 ++ (wsX6_send_r2 ++ (wsX6_send_r3 ++ (wsX6_send_r4 ++ (wsX6_send_r5 ++ (wsX6_send_r6 ++ wsX6_send_r7)))))) ++ wsX60 ++ wsX00 ++ wsX10 ++ wsX30 ++ wsX20 ++ wsX40)
def wsX6_isSlot : List Cond := .code yX6_isSlot cX6_isSlot 1 (some .boolean) :: ([])
def wsX6_deliver_r1 : List Cond := [Cond.fieldLink RX6 61 "RecordWire" "opened" "Z", Cond.fieldLink RX6 34 "RecordWire" "slots" "[LRecordWire$ByteRow;", Cond.fieldLink RX6 28 "RecordWire" "directions" "[LRecordWire$Direction;", Cond.fieldLink RX6 43 "RecordWire" "inbox" "LRecordWire$ByteRow;", Cond.methodLink RX6 101 yX6_isSlot, Cond.static yX6_isSlot, Cond.initialized RX6, Cond.code yX6_isSlot cX6_isSlot 1 (some .boolean), Cond.methodLink RX6 91 yX6_isSide, Cond.static yX6_isSide, Cond.code yX6_isSide cX6_isSide 1 (some .boolean), Cond.methodLink RX6 104 yX0_isEmpty, Cond.instanceMethod yX0_isEmpty, Cond.selects RX0 yX0_isEmpty yX0_isEmpty, Cond.initialized RX0, Cond.code yX0_isEmpty cX0_isEmpty 1 (some .boolean), Cond.fieldLink RX0 15 "RecordWire$ByteRow" "size" "I", Cond.methodLink RX6 108 yX1_judge, Cond.instanceMethod yX1_judge, Cond.selects RX1 yX1_judge yX1_judge, Cond.initialized RX1, Cond.code yX1_judge cX1_judge 5 (some .int), Cond.fieldLink RX1 42 "RecordWire$Direction" "epoch" "I", Cond.fieldLink RX1 26 "RecordWire$Direction" "window" "LRecordWire$Window;"]
def wsX6_deliver_r2 : List Cond := [Cond.methodLink RX1 105 yX1_hasRightShape, Cond.instanceMethod yX1_hasRightShape, Cond.selects RX1 yX1_hasRightShape yX1_hasRightShape, Cond.code yX1_hasRightShape cX1_hasRightShape 3 (some .boolean), Cond.fieldLink RX1 30 "RecordWire$Direction" "index" "I", Cond.methodLink RX1 109 yX0_numberAt, Cond.instanceMethod yX0_numberAt, Cond.selects RX0 yX0_numberAt yX0_numberAt, Cond.code yX0_numberAt cX0_numberAt 6 (some .long), Cond.methodLink RX0 23 yX0_at, Cond.instanceMethod yX0_at, Cond.selects RX0 yX0_at yX0_at, Cond.code yX0_at cX0_at 2 (some .int), Cond.fieldLink RX0 9 "RecordWire$ByteRow" "bytes" "[I", Cond.methodLink RX1 94 yX0_at, Cond.methodLink RX1 73 yX0_size, Cond.instanceMethod yX0_size, Cond.selects RX0 yX0_size yX0_size, Cond.code yX0_size cX0_size 1 (some .int), Cond.methodLink RX1 101 yX1_makeTag, Cond.instanceMethod yX1_makeTag, Cond.selects RX1 yX1_makeTag yX1_makeTag, Cond.code yX1_makeTag cX1_makeTag 4 none, Cond.fieldLink RX1 34 "RecordWire$Direction" "hmac" "LRecordWire$Hmac;"]
def wsX6_deliver_r3 : List Cond := [Cond.fieldLink RX1 15 "RecordWire$Direction" "tagKey" "[I", Cond.fieldLink RX1 20 "RecordWire$Direction" "tag" "[I", Cond.methodLink RX1 56 yX2_begin, Cond.instanceMethod yX2_begin, Cond.selects RX2 yX2_begin yX2_begin, Cond.initialized RX2, Cond.code yX2_begin cX2_begin 3 none, Cond.fieldLink RX2 16 "RecordWire$Hmac" "keyBlock" "[I", Cond.methodLink RX2 23 yX2_beginWithPad, Cond.instanceMethod yX2_beginWithPad, Cond.selects RX2 yX2_beginWithPad yX2_beginWithPad, Cond.code yX2_beginWithPad cX2_beginWithPad 3 none, Cond.fieldLink RX2 10 "RecordWire$Hmac" "hash" "LRecordWire$Sha256;", Cond.methodLink RX2 37 yX4_begin, Cond.instanceMethod yX4_begin, Cond.selects RX4 yX4_begin yX4_begin, Cond.initialized RX4, Cond.code yX4_begin cX4_begin 1 none, Cond.fieldLink RX4 19 "RecordWire$Sha256" "length" "I", Cond.methodLink RX2 27 yX4_append, Cond.instanceMethod yX4_append, Cond.selects RX4 yX4_append yX4_append, Cond.code yX4_append cX4_append 2 none, Cond.fieldLink RX4 9 "RecordWire$Sha256" "message" "[I"]
def wsX6_deliver_r4 : List Cond := [Cond.methodLink RX1 128 yX2_append, Cond.instanceMethod yX2_append, Cond.selects RX2 yX2_append yX2_append, Cond.code yX2_append cX2_append 2 none, Cond.methodLink RX1 65 yX2_finish, Cond.instanceMethod yX2_finish, Cond.selects RX2 yX2_finish yX2_finish, Cond.code yX2_finish cX2_finish 2 none, Cond.fieldLink RX2 20 "RecordWire$Hmac" "innerHash" "[I", Cond.methodLink RX2 30 yX4_finish, Cond.instanceMethod yX4_finish, Cond.selects RX4 yX4_finish yX4_finish, Cond.code yX4_finish cX4_finish 3 none, Cond.fieldLink RX4 16 "RecordWire$Sha256" "state" "[I", Cond.fieldLink RX4 26 "RecordWire$Sha256" "FIRST_STATE" "[I", Cond.methodLink RX4 23 yX4_pad, Cond.instanceMethod yX4_pad, Cond.selects RX4 yX4_pad yX4_pad, Cond.code yX4_pad cX4_pad 4 none, Cond.constantLong RX4 36 (8), Cond.methodLink RX4 38 yX4_append, Cond.methodLink RX4 29 yX4_fillSchedule, Cond.instanceMethod yX4_fillSchedule, Cond.selects RX4 yX4_fillSchedule yX4_fillSchedule]
def wsX6_deliver_r5 : List Cond := [Cond.code yX4_fillSchedule cX4_fillSchedule 7 none, Cond.fieldLink RX4 13 "RecordWire$Sha256" "schedule" "[I", Cond.methodLink RX4 41 yX4_turn, Cond.static yX4_turn, Cond.code yX4_turn cX4_turn 2 (some .int), Cond.methodLink RX4 33 yX4_mixState, Cond.instanceMethod yX4_mixState, Cond.selects RX4 yX4_mixState yX4_mixState, Cond.code yX4_mixState cX4_mixState 14 none, Cond.fieldLink RX4 45 "RecordWire$Sha256" "ROUND_WORDS" "[I", Cond.methodLink RX2 34 yX2_appendAll, Cond.instanceMethod yX2_appendAll, Cond.selects RX2 yX2_appendAll yX2_appendAll, Cond.code yX2_appendAll cX2_appendAll 3 none, Cond.methodLink RX1 113 yX1_tagStandsAt, Cond.instanceMethod yX1_tagStandsAt, Cond.selects RX1 yX1_tagStandsAt yX1_tagStandsAt, Cond.code yX1_tagStandsAt cX1_tagStandsAt 4 (some .boolean), Cond.methodLink RX1 117 yX5_isTooOld, Cond.instanceMethod yX5_isTooOld, Cond.selects RX5 yX5_isTooOld yX5_isTooOld, Cond.initialized RX5, Cond.code yX5_isTooOld cX5_isTooOld 3 (some .boolean), Cond.fieldLink RX5 13 "RecordWire$Window" "seen" "J"]
def wsX6_deliver_r6 : List Cond := [Cond.fieldLink RX5 7 "RecordWire$Window" "greatest" "J", Cond.methodLink RX5 22 yX5_isAbove, Cond.static yX5_isAbove, Cond.code yX5_isAbove cX5_isAbove 4 (some .boolean), Cond.constantLong RX5 32 (-9223372036854775808), Cond.methodLink RX5 26 yX5_fits, Cond.static yX5_fits, Cond.code yX5_fits cX5_fits 2 (some .boolean), Cond.constantLong RX5 30 (64), Cond.methodLink RX1 121 yX5_wasSeen, Cond.instanceMethod yX5_wasSeen, Cond.selects RX5 yX5_wasSeen yX5_wasSeen, Cond.code yX5_wasSeen cX5_wasSeen 5 (some .boolean), Cond.methodLink RX6 112 yX1_read, Cond.instanceMethod yX1_read, Cond.selects RX1 yX1_read yX1_read, Cond.code yX1_read cX1_read 5 none, Cond.fieldLink RX1 38 "RecordWire$Direction" "salsa" "LRecordWire$Salsa20;", Cond.fieldLink RX1 9 "RecordWire$Direction" "sealKey" "[I", Cond.methodLink RX1 78 yX0_clear, Cond.instanceMethod yX0_clear, Cond.selects RX0 yX0_clear yX0_clear, Cond.code yX0_clear cX0_clear 1 none, Cond.methodLink RX1 89 yX3_begin]
def wsX6_deliver_r7 : List Cond := [Cond.instanceMethod yX3_begin, Cond.selects RX3 yX3_begin yX3_begin, Cond.initialized RX3, Cond.code yX3_begin cX3_begin 4 none, Cond.fieldLink RX3 11 "RecordWire$Salsa20" "input" "[I", Cond.fieldLink RX3 18 "RecordWire$Salsa20" "EXPAND" "[I", Cond.fieldLink RX3 29 "RecordWire$Salsa20" "position" "I", Cond.methodLink RX3 21 yX3_keyWord, Cond.static yX3_keyWord, Cond.code yX3_keyWord cX3_keyWord 2 (some .int), Cond.methodLink RX3 50 yX3_word, Cond.static yX3_word, Cond.code yX3_word cX3_word 4 (some .int), Cond.methodLink RX3 25 yX3_headWord, Cond.static yX3_headWord, Cond.code yX3_headWord cX3_headWord 2 (some .int), Cond.methodLink RX3 54 yX0_at, Cond.methodLink RX1 98 yX3_next, Cond.instanceMethod yX3_next, Cond.selects RX3 yX3_next yX3_next, Cond.code yX3_next cX3_next 2 (some .int), Cond.fieldLink RX3 15 "RecordWire$Salsa20" "block" "[I", Cond.methodLink RX3 33 yX3_fillBlock, Cond.instanceMethod yX3_fillBlock]
def wsX6_deliver_r8 : List Cond := [Cond.selects RX3 yX3_fillBlock yX3_fillBlock, Cond.code yX3_fillBlock cX3_fillBlock 2 none, Cond.methodLink RX3 36 yX3_mixColumns, Cond.instanceMethod yX3_mixColumns, Cond.selects RX3 yX3_mixColumns yX3_mixColumns, Cond.code yX3_mixColumns cX3_mixColumns 1 none, Cond.methodLink RX3 42 yX3_mixQuarter, Cond.instanceMethod yX3_mixQuarter, Cond.selects RX3 yX3_mixQuarter yX3_mixQuarter, Cond.code yX3_mixQuarter cX3_mixQuarter 5 none, Cond.methodLink RX3 46 yX3_turn, Cond.static yX3_turn, Cond.code yX3_turn cX3_turn 2 (some .int), Cond.methodLink RX3 39 yX3_mixRows, Cond.instanceMethod yX3_mixRows, Cond.selects RX3 yX3_mixRows yX3_mixRows, Cond.code yX3_mixRows cX3_mixRows 1 none, Cond.methodLink RX1 81 yX0_append, Cond.instanceMethod yX0_append, Cond.selects RX0 yX0_append yX0_append, Cond.code yX0_append cX0_append 2 none, Cond.methodLink RX1 124 yX5_mark, Cond.instanceMethod yX5_mark, Cond.selects RX5 yX5_mark yX5_mark]
def wsX6_deliver_r9 : List Cond := [Cond.code yX5_mark cX5_mark 5 none]
def wsX6_deliver : List Cond := .code yX6_deliver cX6_deliver 5 (some .int) :: ((wsX6_deliver_r1 ++ (wsX6_deliver_r2 ++ (wsX6_deliver_r3 ++ (wsX6_deliver_r4 ++ (wsX6_deliver_r5 ++ (wsX6_deliver_r6 ++ (wsX6_deliver_r7 ++ (wsX6_deliver_r8 ++ wsX6_deliver_r9)))))))) ++ wsX60 ++ wsX00 ++ wsX10 ++ wsX20 ++ wsX40 ++ wsX50 ++ wsX30)
def wsX6_got : List Cond := .code yX6_got cX6_got 2 (some .int) :: ([.fieldLink RX6 43 "RecordWire" "inbox" "LRecordWire$ByteRow;", .methodLink RX6 115 yX0_at, .instanceMethod yX0_at, .selects RX0 yX0_at yX0_at, .initialized RX0, .code yX0_at cX0_at 2 (some .int), .fieldLink RX0 15 "RecordWire$ByteRow" "size" "I", .fieldLink RX0 9 "RecordWire$ByteRow" "bytes" "[I"] ++ wsX60 ++ wsX00)
def wsX6_gotLen : List Cond := .code yX6_gotLen cX6_gotLen 1 (some .int) :: ([.fieldLink RX6 43 "RecordWire" "inbox" "LRecordWire$ByteRow;", .methodLink RX6 83 yX0_size, .instanceMethod yX0_size, .selects RX0 yX0_size yX0_size, .initialized RX0, .code yX0_size cX0_size 1 (some .int), .fieldLink RX0 15 "RecordWire$ByteRow" "size" "I"] ++ wsX60 ++ wsX00)
def wsX6_corrupt : List Cond := .code yX6_corrupt cX6_corrupt 4 (some .boolean) :: ([.fieldLink RX6 34 "RecordWire" "slots" "[LRecordWire$ByteRow;", .methodLink RX6 101 yX6_isSlot, .static yX6_isSlot, .initialized RX6, .code yX6_isSlot cX6_isSlot 1 (some .boolean), .methodLink RX6 65 yX6_isByte, .static yX6_isByte, .code yX6_isByte cX6_isByte 1 (some .boolean), .methodLink RX6 119 yX0_change, .instanceMethod yX0_change, .selects RX0 yX0_change yX0_change, .initialized RX0, .code yX0_change cX0_change 3 (some .boolean), .fieldLink RX0 15 "RecordWire$ByteRow" "size" "I", .fieldLink RX0 9 "RecordWire$ByteRow" "bytes" "[I"] ++ wsX60 ++ wsX00)
def wsX6_drop : List Cond := .code yX6_drop cX6_drop 2 (some .boolean) :: ([.fieldLink RX6 34 "RecordWire" "slots" "[LRecordWire$ByteRow;", .methodLink RX6 101 yX6_isSlot, .static yX6_isSlot, .initialized RX6, .code yX6_isSlot cX6_isSlot 1 (some .boolean), .methodLink RX6 104 yX0_isEmpty, .instanceMethod yX0_isEmpty, .selects RX0 yX0_isEmpty yX0_isEmpty, .initialized RX0, .code yX0_isEmpty cX0_isEmpty 1 (some .boolean), .fieldLink RX0 15 "RecordWire$ByteRow" "size" "I", .methodLink RX6 55 yX0_clear, .instanceMethod yX0_clear, .selects RX0 yX0_clear yX0_clear, .code yX0_clear cX0_clear 1 none] ++ wsX60 ++ wsX00)
def wsX6_rekey_r1 : List Cond := [Cond.fieldLink RX6 61 "RecordWire" "opened" "Z", Cond.fieldLink RX6 28 "RecordWire" "directions" "[LRecordWire$Direction;", Cond.fieldLink RX6 16 "RecordWire" "root" "[I", Cond.methodLink RX6 91 yX6_isSide, Cond.static yX6_isSide, Cond.initialized RX6, Cond.code yX6_isSide cX6_isSide 1 (some .boolean), Cond.methodLink RX6 123 yX1_makeNextRoot, Cond.instanceMethod yX1_makeNextRoot, Cond.selects RX1 yX1_makeNextRoot yX1_makeNextRoot, Cond.initialized RX1, Cond.code yX1_makeNextRoot cX1_makeNextRoot 2 none, Cond.fieldLink RX1 34 "RecordWire$Direction" "hmac" "LRecordWire$Hmac;", Cond.fieldLink RX1 15 "RecordWire$Direction" "tagKey" "[I", Cond.fieldLink RX1 9 "RecordWire$Direction" "sealKey" "[I", Cond.methodLink RX1 56 yX2_begin, Cond.instanceMethod yX2_begin, Cond.selects RX2 yX2_begin yX2_begin, Cond.initialized RX2, Cond.code yX2_begin cX2_begin 3 none, Cond.fieldLink RX2 16 "RecordWire$Hmac" "keyBlock" "[I", Cond.methodLink RX2 23 yX2_beginWithPad, Cond.instanceMethod yX2_beginWithPad, Cond.selects RX2 yX2_beginWithPad yX2_beginWithPad]
def wsX6_rekey_r2 : List Cond := [Cond.code yX2_beginWithPad cX2_beginWithPad 3 none, Cond.fieldLink RX2 10 "RecordWire$Hmac" "hash" "LRecordWire$Sha256;", Cond.methodLink RX2 37 yX4_begin, Cond.instanceMethod yX4_begin, Cond.selects RX4 yX4_begin yX4_begin, Cond.initialized RX4, Cond.code yX4_begin cX4_begin 1 none, Cond.fieldLink RX4 19 "RecordWire$Sha256" "length" "I", Cond.methodLink RX2 27 yX4_append, Cond.instanceMethod yX4_append, Cond.selects RX4 yX4_append yX4_append, Cond.code yX4_append cX4_append 2 none, Cond.fieldLink RX4 9 "RecordWire$Sha256" "message" "[I", Cond.methodLink RX1 62 yX2_appendAll, Cond.instanceMethod yX2_appendAll, Cond.selects RX2 yX2_appendAll yX2_appendAll, Cond.code yX2_appendAll cX2_appendAll 3 none, Cond.methodLink RX1 65 yX2_finish, Cond.instanceMethod yX2_finish, Cond.selects RX2 yX2_finish yX2_finish, Cond.code yX2_finish cX2_finish 2 none, Cond.fieldLink RX2 20 "RecordWire$Hmac" "innerHash" "[I", Cond.methodLink RX2 30 yX4_finish, Cond.instanceMethod yX4_finish]
def wsX6_rekey_r3 : List Cond := [Cond.selects RX4 yX4_finish yX4_finish, Cond.code yX4_finish cX4_finish 3 none, Cond.fieldLink RX4 16 "RecordWire$Sha256" "state" "[I", Cond.fieldLink RX4 26 "RecordWire$Sha256" "FIRST_STATE" "[I", Cond.methodLink RX4 23 yX4_pad, Cond.instanceMethod yX4_pad, Cond.selects RX4 yX4_pad yX4_pad, Cond.code yX4_pad cX4_pad 4 none, Cond.constantLong RX4 36 (8), Cond.methodLink RX4 38 yX4_append, Cond.methodLink RX4 29 yX4_fillSchedule, Cond.instanceMethod yX4_fillSchedule, Cond.selects RX4 yX4_fillSchedule yX4_fillSchedule, Cond.code yX4_fillSchedule cX4_fillSchedule 7 none, Cond.fieldLink RX4 13 "RecordWire$Sha256" "schedule" "[I", Cond.methodLink RX4 41 yX4_turn, Cond.static yX4_turn, Cond.code yX4_turn cX4_turn 2 (some .int), Cond.methodLink RX4 33 yX4_mixState, Cond.instanceMethod yX4_mixState, Cond.selects RX4 yX4_mixState yX4_mixState, Cond.code yX4_mixState cX4_mixState 14 none, Cond.fieldLink RX4 45 "RecordWire$Sha256" "ROUND_WORDS" "[I", Cond.methodLink RX2 34 yX2_appendAll]
def wsX6_rekey_r4 : List Cond := [Cond.methodLink RX6 126 yX1_epoch, Cond.instanceMethod yX1_epoch, Cond.selects RX1 yX1_epoch yX1_epoch, Cond.code yX1_epoch cX1_epoch 1 (some .int), Cond.fieldLink RX1 42 "RecordWire$Direction" "epoch" "I", Cond.methodLink RX6 79 yX1_startEpoch, Cond.instanceMethod yX1_startEpoch, Cond.selects RX1 yX1_startEpoch yX1_startEpoch, Cond.code yX1_startEpoch cX1_startEpoch 3 none, Cond.methodLink RX1 68 yX1_makeKey, Cond.instanceMethod yX1_makeKey, Cond.selects RX1 yX1_makeKey yX1_makeKey, Cond.code yX1_makeKey cX1_makeKey 4 none, Cond.fieldLink RX1 30 "RecordWire$Direction" "index" "I", Cond.methodLink RX1 128 yX2_append, Cond.instanceMethod yX2_append, Cond.selects RX2 yX2_append yX2_append, Cond.code yX2_append cX2_append 2 none, Cond.methodLink RX1 72 yX1_forget, Cond.instanceMethod yX1_forget, Cond.selects RX1 yX1_forget yX1_forget, Cond.code yX1_forget cX1_forget 1 none, Cond.fieldLink RX1 49 "RecordWire$Direction" "nextNumber" "J", Cond.fieldLink RX1 26 "RecordWire$Direction" "window" "LRecordWire$Window;"]
def wsX6_rekey_r5 : List Cond := [Cond.methodLink RX1 53 yX5_forget, Cond.instanceMethod yX5_forget, Cond.selects RX5 yX5_forget yX5_forget, Cond.initialized RX5, Cond.code yX5_forget cX5_forget 1 none, Cond.fieldLink RX5 7 "RecordWire$Window" "greatest" "J", Cond.fieldLink RX5 13 "RecordWire$Window" "seen" "J"]
def wsX6_rekey : List Cond := .code yX6_rekey cX6_rekey 3 (some .int) :: ((wsX6_rekey_r1 ++ (wsX6_rekey_r2 ++ (wsX6_rekey_r3 ++ (wsX6_rekey_r4 ++ wsX6_rekey_r5)))) ++ wsX60 ++ wsX10 ++ wsX20 ++ wsX40 ++ wsX50)
def wsX6_wireAt : List Cond := .code yX6_wireAt cX6_wireAt 3 (some .int) :: ([.fieldLink RX6 34 "RecordWire" "slots" "[LRecordWire$ByteRow;", .methodLink RX6 101 yX6_isSlot, .static yX6_isSlot, .initialized RX6, .code yX6_isSlot cX6_isSlot 1 (some .boolean), .methodLink RX6 115 yX0_at, .instanceMethod yX0_at, .selects RX0 yX0_at yX0_at, .initialized RX0, .code yX0_at cX0_at 2 (some .int), .fieldLink RX0 15 "RecordWire$ByteRow" "size" "I", .fieldLink RX0 9 "RecordWire$ByteRow" "bytes" "[I"] ++ wsX60 ++ wsX00)
def wsX6_fullSlots : List Cond := .code yX6_fullSlots cX6_fullSlots 3 (some .int) :: ([.fieldLink RX6 34 "RecordWire" "slots" "[LRecordWire$ByteRow;", .methodLink RX6 104 yX0_isEmpty, .instanceMethod yX0_isEmpty, .selects RX0 yX0_isEmpty yX0_isEmpty, .initialized RX0, .code yX0_isEmpty cX0_isEmpty 1 (some .boolean), .fieldLink RX0 15 "RecordWire$ByteRow" "size" "I"] ++ wsX60 ++ wsX00)
def wsX6_count_r1 : List Cond := [Cond.fieldLink RX6 39 "RecordWire" "outbox" "LRecordWire$ByteRow;", Cond.fieldLink RX6 61 "RecordWire" "opened" "Z", Cond.fieldLink RX6 28 "RecordWire" "directions" "[LRecordWire$Direction;", Cond.methodLink RX6 129 yX6_fullSlots, Cond.instanceMethod yX6_fullSlots, Cond.selects RX6 yX6_fullSlots yX6_fullSlots, Cond.initialized RX6, Cond.code yX6_fullSlots cX6_fullSlots 3 (some .int), Cond.fieldLink RX6 34 "RecordWire" "slots" "[LRecordWire$ByteRow;", Cond.methodLink RX6 104 yX0_isEmpty, Cond.instanceMethod yX0_isEmpty, Cond.selects RX0 yX0_isEmpty yX0_isEmpty, Cond.initialized RX0, Cond.code yX0_isEmpty cX0_isEmpty 1 (some .boolean), Cond.fieldLink RX0 15 "RecordWire$ByteRow" "size" "I", Cond.methodLink RX6 83 yX0_size, Cond.instanceMethod yX0_size, Cond.selects RX0 yX0_size yX0_size, Cond.code yX0_size cX0_size 1 (some .int), Cond.methodLink RX6 126 yX1_epoch, Cond.instanceMethod yX1_epoch, Cond.selects RX1 yX1_epoch yX1_epoch, Cond.initialized RX1, Cond.code yX1_epoch cX1_epoch 1 (some .int)]
def wsX6_count_r2 : List Cond := [Cond.fieldLink RX1 42 "RecordWire$Direction" "epoch" "I", Cond.methodLink RX6 132 yX1_seenInWindow, Cond.instanceMethod yX1_seenInWindow, Cond.selects RX1 yX1_seenInWindow yX1_seenInWindow, Cond.code yX1_seenInWindow cX1_seenInWindow 1 (some .int), Cond.fieldLink RX1 26 "RecordWire$Direction" "window" "LRecordWire$Window;", Cond.methodLink RX1 45 yX5_seenCount, Cond.instanceMethod yX5_seenCount, Cond.selects RX5 yX5_seenCount yX5_seenCount, Cond.initialized RX5, Cond.code yX5_seenCount cX5_seenCount 1 (some .int), Cond.fieldLink RX5 13 "RecordWire$Window" "seen" "J", Cond.methodLink RX5 16 yJ13_bitCount_95d88, Cond.static yJ13_bitCount_95d88, Cond.initialized RJ13, Cond.code yJ13_bitCount_95d88 cJ13_bitCount_95d88 2 (some .int), Cond.constantLong RJ13 314 (6148914691236517205), Cond.constantLong RJ13 316 (3689348814741910323), Cond.constantLong RJ13 318 (1085102592571150095)]
def wsX6_count : List Cond := .code yX6_count cX6_count 2 (some .int) :: ((wsX6_count_r1 ++ wsX6_count_r2) ++ wsX60 ++ wsX00 ++ wsX10 ++ wsX50)
def wsX7_init_ : List Cond := .code yX7_init_ cX7_init_ 2 none :: ([.fieldLink RX7 7 "RecordWireModel" "psk" "[I", .fieldLink RX7 145 "RecordWireModel" "isOpen" "Z", .fieldLink RX7 39 "RecordWireModel" "sizes" "[I", .fieldLink RX7 149 "RecordWireModel" "outSize" "I", .fieldLink RX7 153 "RecordWireModel" "inSize" "I"] ++ wsX70)
def wsX7_init_r1 : List Cond := [Cond.methodLink RX7 1 objectInit, Cond.instanceMethod objectInit, Cond.code objectInit ⟨#[0xb1]⟩ 1 none, Cond.arrayClass .int, Cond.fieldLink RX7 7 "RecordWireModel" "psk" "[I", Cond.fieldLink RX7 13 "RecordWireModel" "sealKeys" "[I", Cond.fieldLink RX7 16 "RecordWireModel" "tagKeys" "[I", Cond.fieldLink RX7 19 "RecordWireModel" "epochs" "[I", Cond.arrayClass .long, Cond.fieldLink RX7 22 "RecordWireModel" "nexts" "[J", Cond.arrayClass .boolean, Cond.fieldLink RX7 26 "RecordWireModel" "some" "[Z", Cond.fieldLink RX7 30 "RecordWireModel" "greatest" "[J", Cond.fieldLink RX7 33 "RecordWireModel" "seen" "[Z", Cond.fieldLink RX7 36 "RecordWireModel" "wire" "[I", Cond.fieldLink RX7 39 "RecordWireModel" "sizes" "[I", Cond.fieldLink RX7 42 "RecordWireModel" "outbox" "[I", Cond.fieldLink RX7 45 "RecordWireModel" "inbox" "[I", Cond.fieldLink RX7 48 "RecordWireModel" "state" "[I", Cond.fieldLink RX7 51 "RecordWireModel" "schedule" "[I", Cond.fieldLink RX7 54 "RecordWireModel" "row" "[I", Cond.fieldLink RX7 57 "RecordWireModel" "digest" "[I", Cond.fieldLink RX7 60 "RecordWireModel" "key" "[I", Cond.fieldLink RX7 63 "RecordWireModel" "other" "[I"]
def wsX7_init_r2 : List Cond := [Cond.fieldLink RX7 66 "RecordWireModel" "message" "[I", Cond.constant RX7 69 (1116352408), Cond.constant RX7 70 (1899447441), Cond.constant RX7 71 (-1245643825), Cond.constant RX7 72 (-373957723), Cond.constant RX7 73 (961987163), Cond.constant RX7 74 (1508970993), Cond.constant RX7 75 (-1841331548), Cond.constant RX7 76 (-1424204075), Cond.constant RX7 77 (-670586216), Cond.constant RX7 78 (310598401), Cond.constant RX7 79 (607225278), Cond.constant RX7 80 (1426881987), Cond.constant RX7 81 (1925078388), Cond.constant RX7 82 (-2132889090), Cond.constant RX7 83 (-1680079193), Cond.constant RX7 84 (-1046744716), Cond.constant RX7 85 (-459576895), Cond.constant RX7 86 (-272742522), Cond.constant RX7 87 (264347078), Cond.constant RX7 88 (604807628), Cond.constant RX7 89 (770255983), Cond.constant RX7 90 (1249150122), Cond.constant RX7 91 (1555081692)]
def wsX7_init_r3 : List Cond := [Cond.constant RX7 92 (1996064986), Cond.constant RX7 93 (-1740746414), Cond.constant RX7 94 (-1473132947), Cond.constant RX7 95 (-1341970488), Cond.constant RX7 96 (-1084653625), Cond.constant RX7 97 (-958395405), Cond.constant RX7 98 (-710438585), Cond.constant RX7 99 (113926993), Cond.constant RX7 100 (338241895), Cond.constant RX7 101 (666307205), Cond.constant RX7 102 (773529912), Cond.constant RX7 103 (1294757372), Cond.constant RX7 104 (1396182291), Cond.constant RX7 105 (1695183700), Cond.constant RX7 106 (1986661051), Cond.constant RX7 107 (-2117940946), Cond.constant RX7 108 (-1838011259), Cond.constant RX7 109 (-1564481375), Cond.constant RX7 110 (-1474664885), Cond.constant RX7 111 (-1035236496), Cond.constant RX7 112 (-949202525), Cond.constant RX7 113 (-778901479), Cond.constant RX7 114 (-694614492), Cond.constant RX7 115 (-200395387)]
def wsX7_init_r4 : List Cond := [Cond.constant RX7 116 (275423344), Cond.constant RX7 117 (430227734), Cond.constant RX7 118 (506948616), Cond.constant RX7 119 (659060556), Cond.constant RX7 120 (883997877), Cond.constant RX7 121 (958139571), Cond.constant RX7 122 (1322822218), Cond.constant RX7 123 (1537002063), Cond.constant RX7 124 (1747873779), Cond.constant RX7 125 (1955562222), Cond.constant RX7 126 (2024104815), Cond.constant RX7 127 (-2067236844), Cond.constant RX7 128 (-1933114872), Cond.constant RX7 129 (-1866530822), Cond.constant RX7 130 (-1538233109), Cond.constant RX7 131 (-1090935817), Cond.constant RX7 132 (-965641998), Cond.fieldLink RX7 133 "RecordWireModel" "rounds" "[I", Cond.fieldLink RX7 136 "RecordWireModel" "words" "[I", Cond.fieldLink RX7 139 "RecordWireModel" "mixed" "[I", Cond.methodLink RX7 142 yX7_init_, Cond.instanceMethod yX7_init_, Cond.selects RX7 yX7_init_ yX7_init_, Cond.initialized RX7]
def wsX7_init_r5 : List Cond := [Cond.code yX7_init_ cX7_init_ 2 none, Cond.fieldLink RX7 145 "RecordWireModel" "isOpen" "Z", Cond.fieldLink RX7 149 "RecordWireModel" "outSize" "I", Cond.fieldLink RX7 153 "RecordWireModel" "inSize" "I"]
def wsX7_init : List Cond := .code yX7_init cX7_init 1 none :: ((wsX7_init_r1 ++ (wsX7_init_r2 ++ (wsX7_init_r3 ++ (wsX7_init_r4 ++ wsX7_init_r5)))) ++ wsX70)
def wsX7_turned : List Cond := .code yX7_turned cX7_turned 2 (some .int) :: ([])
def wsX7_block : List Cond := .code yX7_block cX7_block 13 none :: ([.fieldLink RX7 51 "RecordWireModel" "schedule" "[I", .fieldLink RX7 54 "RecordWireModel" "row" "[I", .fieldLink RX7 48 "RecordWireModel" "state" "[I", .fieldLink RX7 133 "RecordWireModel" "rounds" "[I", .methodLink RX7 156 yX7_turned, .static yX7_turned, .initialized RX7, .code yX7_turned cX7_turned 2 (some .int)] ++ wsX70)
def wsX7_digestRow : List Cond := .code yX7_digestRow cX7_digestRow 5 none :: ([.fieldLink RX7 48 "RecordWireModel" "state" "[I", .constant RX7 160 (1779033703), .constant RX7 161 (-1150833019), .constant RX7 162 (1013904242), .constant RX7 163 (-1521486534), .constant RX7 164 (1359893119), .constant RX7 165 (-1694144372), .constant RX7 166 (528734635), .constant RX7 167 (1541459225), .fieldLink RX7 54 "RecordWireModel" "row" "[I", .fieldLink RX7 57 "RecordWireModel" "digest" "[I", .methodLink RX7 168 yX7_block, .instanceMethod yX7_block, .selects RX7 yX7_block yX7_block, .initialized RX7, .code yX7_block cX7_block 13 none, .fieldLink RX7 51 "RecordWireModel" "schedule" "[I", .fieldLink RX7 133 "RecordWireModel" "rounds" "[I", .methodLink RX7 156 yX7_turned, .static yX7_turned, .code yX7_turned cX7_turned 2 (some .int)] ++ wsX70)
def wsX7_hmac_r1 : List Cond := [Cond.fieldLink RX7 54 "RecordWireModel" "row" "[I", Cond.fieldLink RX7 60 "RecordWireModel" "key" "[I", Cond.fieldLink RX7 66 "RecordWireModel" "message" "[I", Cond.fieldLink RX7 57 "RecordWireModel" "digest" "[I", Cond.methodLink RX7 172 yX7_digestRow, Cond.instanceMethod yX7_digestRow, Cond.selects RX7 yX7_digestRow yX7_digestRow, Cond.initialized RX7, Cond.code yX7_digestRow cX7_digestRow 5 none, Cond.fieldLink RX7 48 "RecordWireModel" "state" "[I", Cond.constant RX7 160 (1779033703), Cond.constant RX7 161 (-1150833019), Cond.constant RX7 162 (1013904242), Cond.constant RX7 163 (-1521486534), Cond.constant RX7 164 (1359893119), Cond.constant RX7 165 (-1694144372), Cond.constant RX7 166 (528734635), Cond.constant RX7 167 (1541459225), Cond.methodLink RX7 168 yX7_block, Cond.instanceMethod yX7_block, Cond.selects RX7 yX7_block yX7_block, Cond.code yX7_block cX7_block 13 none, Cond.fieldLink RX7 51 "RecordWireModel" "schedule" "[I", Cond.fieldLink RX7 133 "RecordWireModel" "rounds" "[I"]
def wsX7_hmac_r2 : List Cond := [Cond.methodLink RX7 156 yX7_turned, Cond.static yX7_turned, Cond.code yX7_turned cX7_turned 2 (some .int)]
def wsX7_hmac : List Cond := .code yX7_hmac cX7_hmac 3 none :: ((wsX7_hmac_r1 ++ wsX7_hmac_r2) ++ wsX70)
def wsX7_makeKeys_r1 : List Cond := [Cond.fieldLink RX7 63 "RecordWireModel" "other" "[I", Cond.fieldLink RX7 57 "RecordWireModel" "digest" "[I", Cond.fieldLink RX7 60 "RecordWireModel" "key" "[I", Cond.fieldLink RX7 66 "RecordWireModel" "message" "[I", Cond.fieldLink RX7 13 "RecordWireModel" "sealKeys" "[I", Cond.fieldLink RX7 16 "RecordWireModel" "tagKeys" "[I", Cond.fieldLink RX7 22 "RecordWireModel" "nexts" "[J", Cond.fieldLink RX7 26 "RecordWireModel" "some" "[Z", Cond.methodLink RX7 175 yX7_hmac, Cond.instanceMethod yX7_hmac, Cond.selects RX7 yX7_hmac yX7_hmac, Cond.initialized RX7, Cond.code yX7_hmac cX7_hmac 3 none, Cond.fieldLink RX7 54 "RecordWireModel" "row" "[I", Cond.methodLink RX7 172 yX7_digestRow, Cond.instanceMethod yX7_digestRow, Cond.selects RX7 yX7_digestRow yX7_digestRow, Cond.code yX7_digestRow cX7_digestRow 5 none, Cond.fieldLink RX7 48 "RecordWireModel" "state" "[I", Cond.constant RX7 160 (1779033703), Cond.constant RX7 161 (-1150833019), Cond.constant RX7 162 (1013904242), Cond.constant RX7 163 (-1521486534), Cond.constant RX7 164 (1359893119)]
def wsX7_makeKeys_r2 : List Cond := [Cond.constant RX7 165 (-1694144372), Cond.constant RX7 166 (528734635), Cond.constant RX7 167 (1541459225), Cond.methodLink RX7 168 yX7_block, Cond.instanceMethod yX7_block, Cond.selects RX7 yX7_block yX7_block, Cond.code yX7_block cX7_block 13 none, Cond.fieldLink RX7 51 "RecordWireModel" "schedule" "[I", Cond.fieldLink RX7 133 "RecordWireModel" "rounds" "[I", Cond.methodLink RX7 156 yX7_turned, Cond.static yX7_turned, Cond.code yX7_turned cX7_turned 2 (some .int)]
def wsX7_makeKeys : List Cond := .code yX7_makeKeys cX7_makeKeys 4 none :: ((wsX7_makeKeys_r1 ++ wsX7_makeKeys_r2) ++ wsX70)
def wsX7_setPsk : List Cond := .code yX7_setPsk cX7_setPsk 4 (some .boolean) :: ([.fieldLink RX7 145 "RecordWireModel" "isOpen" "Z", .fieldLink RX7 7 "RecordWireModel" "psk" "[I"] ++ wsX70)
def wsX7_open_r1 : List Cond := [Cond.fieldLink RX7 145 "RecordWireModel" "isOpen" "Z", Cond.fieldLink RX7 60 "RecordWireModel" "key" "[I", Cond.fieldLink RX7 66 "RecordWireModel" "message" "[I", Cond.fieldLink RX7 7 "RecordWireModel" "psk" "[I", Cond.fieldLink RX7 19 "RecordWireModel" "epochs" "[I", Cond.methodLink RX7 175 yX7_hmac, Cond.instanceMethod yX7_hmac, Cond.selects RX7 yX7_hmac yX7_hmac, Cond.initialized RX7, Cond.code yX7_hmac cX7_hmac 3 none, Cond.fieldLink RX7 54 "RecordWireModel" "row" "[I", Cond.fieldLink RX7 57 "RecordWireModel" "digest" "[I", Cond.methodLink RX7 172 yX7_digestRow, Cond.instanceMethod yX7_digestRow, Cond.selects RX7 yX7_digestRow yX7_digestRow, Cond.code yX7_digestRow cX7_digestRow 5 none, Cond.fieldLink RX7 48 "RecordWireModel" "state" "[I", Cond.constant RX7 160 (1779033703), Cond.constant RX7 161 (-1150833019), Cond.constant RX7 162 (1013904242), Cond.constant RX7 163 (-1521486534), Cond.constant RX7 164 (1359893119), Cond.constant RX7 165 (-1694144372), Cond.constant RX7 166 (528734635)]
def wsX7_open_r2 : List Cond := [Cond.constant RX7 167 (1541459225), Cond.methodLink RX7 168 yX7_block, Cond.instanceMethod yX7_block, Cond.selects RX7 yX7_block yX7_block, Cond.code yX7_block cX7_block 13 none, Cond.fieldLink RX7 51 "RecordWireModel" "schedule" "[I", Cond.fieldLink RX7 133 "RecordWireModel" "rounds" "[I", Cond.methodLink RX7 156 yX7_turned, Cond.static yX7_turned, Cond.code yX7_turned cX7_turned 2 (some .int), Cond.methodLink RX7 178 yX7_makeKeys, Cond.instanceMethod yX7_makeKeys, Cond.selects RX7 yX7_makeKeys yX7_makeKeys, Cond.code yX7_makeKeys cX7_makeKeys 4 none, Cond.fieldLink RX7 63 "RecordWireModel" "other" "[I", Cond.fieldLink RX7 13 "RecordWireModel" "sealKeys" "[I", Cond.fieldLink RX7 16 "RecordWireModel" "tagKeys" "[I", Cond.fieldLink RX7 22 "RecordWireModel" "nexts" "[J", Cond.fieldLink RX7 26 "RecordWireModel" "some" "[Z"]
def wsX7_open : List Cond := .code yX7_open cX7_open 3 none :: ((wsX7_open_r1 ++ wsX7_open_r2) ++ wsX70)
def wsX7_rekey_r1 : List Cond := [Cond.fieldLink RX7 145 "RecordWireModel" "isOpen" "Z", Cond.fieldLink RX7 60 "RecordWireModel" "key" "[I", Cond.fieldLink RX7 16 "RecordWireModel" "tagKeys" "[I", Cond.fieldLink RX7 66 "RecordWireModel" "message" "[I", Cond.fieldLink RX7 13 "RecordWireModel" "sealKeys" "[I", Cond.fieldLink RX7 19 "RecordWireModel" "epochs" "[I", Cond.methodLink RX7 175 yX7_hmac, Cond.instanceMethod yX7_hmac, Cond.selects RX7 yX7_hmac yX7_hmac, Cond.initialized RX7, Cond.code yX7_hmac cX7_hmac 3 none, Cond.fieldLink RX7 54 "RecordWireModel" "row" "[I", Cond.fieldLink RX7 57 "RecordWireModel" "digest" "[I", Cond.methodLink RX7 172 yX7_digestRow, Cond.instanceMethod yX7_digestRow, Cond.selects RX7 yX7_digestRow yX7_digestRow, Cond.code yX7_digestRow cX7_digestRow 5 none, Cond.fieldLink RX7 48 "RecordWireModel" "state" "[I", Cond.constant RX7 160 (1779033703), Cond.constant RX7 161 (-1150833019), Cond.constant RX7 162 (1013904242), Cond.constant RX7 163 (-1521486534), Cond.constant RX7 164 (1359893119), Cond.constant RX7 165 (-1694144372)]
def wsX7_rekey_r2 : List Cond := [Cond.constant RX7 166 (528734635), Cond.constant RX7 167 (1541459225), Cond.methodLink RX7 168 yX7_block, Cond.instanceMethod yX7_block, Cond.selects RX7 yX7_block yX7_block, Cond.code yX7_block cX7_block 13 none, Cond.fieldLink RX7 51 "RecordWireModel" "schedule" "[I", Cond.fieldLink RX7 133 "RecordWireModel" "rounds" "[I", Cond.methodLink RX7 156 yX7_turned, Cond.static yX7_turned, Cond.code yX7_turned cX7_turned 2 (some .int), Cond.methodLink RX7 178 yX7_makeKeys, Cond.instanceMethod yX7_makeKeys, Cond.selects RX7 yX7_makeKeys yX7_makeKeys, Cond.code yX7_makeKeys cX7_makeKeys 4 none, Cond.fieldLink RX7 63 "RecordWireModel" "other" "[I", Cond.fieldLink RX7 22 "RecordWireModel" "nexts" "[J", Cond.fieldLink RX7 26 "RecordWireModel" "some" "[Z"]
def wsX7_rekey : List Cond := .code yX7_rekey cX7_rekey 3 (some .int) :: ((wsX7_rekey_r1 ++ wsX7_rekey_r2) ++ wsX70)
def wsX7_left : List Cond := .code yX7_left cX7_left 2 (some .int) :: ([])
def wsX7_quarter : List Cond := .code yX7_quarter cX7_quarter 5 none :: ([.fieldLink RX7 139 "RecordWireModel" "mixed" "[I", .methodLink RX7 181 yX7_left, .static yX7_left, .initialized RX7, .code yX7_left cX7_left 2 (some .int)] ++ wsX70)
def wsX7_keyWord : List Cond := .code yX7_keyWord cX7_keyWord 4 (some .int) :: ([.fieldLink RX7 13 "RecordWireModel" "sealKeys" "[I"] ++ wsX70)
def wsX7_wireWord : List Cond := .code yX7_wireWord cX7_wireWord 4 (some .int) :: ([.fieldLink RX7 36 "RecordWireModel" "wire" "[I"] ++ wsX70)
def wsX7_stream : List Cond := .code yX7_stream cX7_stream 5 none :: ([.fieldLink RX7 136 "RecordWireModel" "words" "[I", .constant RX7 184 (1634760805), .constant RX7 185 (857760878), .constant RX7 186 (2036477234), .constant RX7 187 (1797285236), .fieldLink RX7 139 "RecordWireModel" "mixed" "[I", .methodLink RX7 188 yX7_keyWord, .instanceMethod yX7_keyWord, .selects RX7 yX7_keyWord yX7_keyWord, .initialized RX7, .code yX7_keyWord cX7_keyWord 4 (some .int), .fieldLink RX7 13 "RecordWireModel" "sealKeys" "[I", .methodLink RX7 191 yX7_wireWord, .instanceMethod yX7_wireWord, .selects RX7 yX7_wireWord yX7_wireWord, .code yX7_wireWord cX7_wireWord 4 (some .int), .fieldLink RX7 36 "RecordWireModel" "wire" "[I", .methodLink RX7 194 yX7_quarter, .instanceMethod yX7_quarter, .selects RX7 yX7_quarter yX7_quarter, .code yX7_quarter cX7_quarter 5 none, .methodLink RX7 181 yX7_left, .static yX7_left, .code yX7_left cX7_left 2 (some .int)] ++ wsX70)
def wsX7_streamByte_r1 : List Cond := [Cond.fieldLink RX7 139 "RecordWireModel" "mixed" "[I", Cond.fieldLink RX7 136 "RecordWireModel" "words" "[I", Cond.methodLink RX7 198 yX7_stream, Cond.instanceMethod yX7_stream, Cond.selects RX7 yX7_stream yX7_stream, Cond.initialized RX7, Cond.code yX7_stream cX7_stream 5 none, Cond.constant RX7 184 (1634760805), Cond.constant RX7 185 (857760878), Cond.constant RX7 186 (2036477234), Cond.constant RX7 187 (1797285236), Cond.methodLink RX7 188 yX7_keyWord, Cond.instanceMethod yX7_keyWord, Cond.selects RX7 yX7_keyWord yX7_keyWord, Cond.code yX7_keyWord cX7_keyWord 4 (some .int), Cond.fieldLink RX7 13 "RecordWireModel" "sealKeys" "[I", Cond.methodLink RX7 191 yX7_wireWord, Cond.instanceMethod yX7_wireWord, Cond.selects RX7 yX7_wireWord yX7_wireWord, Cond.code yX7_wireWord cX7_wireWord 4 (some .int), Cond.fieldLink RX7 36 "RecordWireModel" "wire" "[I", Cond.methodLink RX7 194 yX7_quarter, Cond.instanceMethod yX7_quarter, Cond.selects RX7 yX7_quarter yX7_quarter]
def wsX7_streamByte_r2 : List Cond := [Cond.code yX7_quarter cX7_quarter 5 none, Cond.methodLink RX7 181 yX7_left, Cond.static yX7_left, Cond.code yX7_left cX7_left 2 (some .int)]
def wsX7_streamByte : List Cond := .code yX7_streamByte cX7_streamByte 5 (some .int) :: ((wsX7_streamByte_r1 ++ wsX7_streamByte_r2) ++ wsX70)
def wsX7_put : List Cond := .code yX7_put cX7_put 3 (some .boolean) :: ([.fieldLink RX7 149 "RecordWireModel" "outSize" "I", .fieldLink RX7 42 "RecordWireModel" "outbox" "[I"] ++ wsX70)
def wsX7_tag_r1 : List Cond := [Cond.fieldLink RX7 60 "RecordWireModel" "key" "[I", Cond.fieldLink RX7 16 "RecordWireModel" "tagKeys" "[I", Cond.fieldLink RX7 66 "RecordWireModel" "message" "[I", Cond.fieldLink RX7 36 "RecordWireModel" "wire" "[I", Cond.methodLink RX7 175 yX7_hmac, Cond.instanceMethod yX7_hmac, Cond.selects RX7 yX7_hmac yX7_hmac, Cond.initialized RX7, Cond.code yX7_hmac cX7_hmac 3 none, Cond.fieldLink RX7 54 "RecordWireModel" "row" "[I", Cond.fieldLink RX7 57 "RecordWireModel" "digest" "[I", Cond.methodLink RX7 172 yX7_digestRow, Cond.instanceMethod yX7_digestRow, Cond.selects RX7 yX7_digestRow yX7_digestRow, Cond.code yX7_digestRow cX7_digestRow 5 none, Cond.fieldLink RX7 48 "RecordWireModel" "state" "[I", Cond.constant RX7 160 (1779033703), Cond.constant RX7 161 (-1150833019), Cond.constant RX7 162 (1013904242), Cond.constant RX7 163 (-1521486534), Cond.constant RX7 164 (1359893119), Cond.constant RX7 165 (-1694144372), Cond.constant RX7 166 (528734635), Cond.constant RX7 167 (1541459225)]
def wsX7_tag_r2 : List Cond := [Cond.methodLink RX7 168 yX7_block, Cond.instanceMethod yX7_block, Cond.selects RX7 yX7_block yX7_block, Cond.code yX7_block cX7_block 13 none, Cond.fieldLink RX7 51 "RecordWireModel" "schedule" "[I", Cond.fieldLink RX7 133 "RecordWireModel" "rounds" "[I", Cond.methodLink RX7 156 yX7_turned, Cond.static yX7_turned, Cond.code yX7_turned cX7_turned 2 (some .int)]
def wsX7_tag : List Cond := .code yX7_tag cX7_tag 5 none :: ((wsX7_tag_r1 ++ wsX7_tag_r2) ++ wsX70)
def wsX7_number : List Cond := .code yX7_number cX7_number 6 none :: ([.fieldLink RX7 36 "RecordWireModel" "wire" "[I"] ++ wsX70)
def wsX7_numberAt : List Cond := .code yX7_numberAt cX7_numberAt 6 (some .long) :: ([.fieldLink RX7 36 "RecordWireModel" "wire" "[I"] ++ wsX70)
def wsX7_send_r1 : List Cond := [Cond.fieldLink RX7 145 "RecordWireModel" "isOpen" "Z", Cond.fieldLink RX7 39 "RecordWireModel" "sizes" "[I", Cond.fieldLink RX7 36 "RecordWireModel" "wire" "[I", Cond.fieldLink RX7 19 "RecordWireModel" "epochs" "[I", Cond.fieldLink RX7 22 "RecordWireModel" "nexts" "[J", Cond.fieldLink RX7 149 "RecordWireModel" "outSize" "I", Cond.fieldLink RX7 42 "RecordWireModel" "outbox" "[I", Cond.fieldLink RX7 57 "RecordWireModel" "digest" "[I", Cond.methodLink RX7 202 yX7_number, Cond.instanceMethod yX7_number, Cond.selects RX7 yX7_number yX7_number, Cond.initialized RX7, Cond.code yX7_number cX7_number 6 none, Cond.methodLink RX7 206 yX7_streamByte, Cond.instanceMethod yX7_streamByte, Cond.selects RX7 yX7_streamByte yX7_streamByte, Cond.code yX7_streamByte cX7_streamByte 5 (some .int), Cond.fieldLink RX7 139 "RecordWireModel" "mixed" "[I", Cond.fieldLink RX7 136 "RecordWireModel" "words" "[I", Cond.methodLink RX7 198 yX7_stream, Cond.instanceMethod yX7_stream, Cond.selects RX7 yX7_stream yX7_stream, Cond.code yX7_stream cX7_stream 5 none, Cond.constant RX7 184 (1634760805)]
def wsX7_send_r2 : List Cond := [Cond.constant RX7 185 (857760878), Cond.constant RX7 186 (2036477234), Cond.constant RX7 187 (1797285236), Cond.methodLink RX7 188 yX7_keyWord, Cond.instanceMethod yX7_keyWord, Cond.selects RX7 yX7_keyWord yX7_keyWord, Cond.code yX7_keyWord cX7_keyWord 4 (some .int), Cond.fieldLink RX7 13 "RecordWireModel" "sealKeys" "[I", Cond.methodLink RX7 191 yX7_wireWord, Cond.instanceMethod yX7_wireWord, Cond.selects RX7 yX7_wireWord yX7_wireWord, Cond.code yX7_wireWord cX7_wireWord 4 (some .int), Cond.methodLink RX7 194 yX7_quarter, Cond.instanceMethod yX7_quarter, Cond.selects RX7 yX7_quarter yX7_quarter, Cond.code yX7_quarter cX7_quarter 5 none, Cond.methodLink RX7 181 yX7_left, Cond.static yX7_left, Cond.code yX7_left cX7_left 2 (some .int), Cond.methodLink RX7 210 yX7_tag, Cond.instanceMethod yX7_tag, Cond.selects RX7 yX7_tag yX7_tag, Cond.code yX7_tag cX7_tag 5 none, Cond.fieldLink RX7 60 "RecordWireModel" "key" "[I"]
def wsX7_send_r3 : List Cond := [Cond.fieldLink RX7 16 "RecordWireModel" "tagKeys" "[I", Cond.fieldLink RX7 66 "RecordWireModel" "message" "[I", Cond.methodLink RX7 175 yX7_hmac, Cond.instanceMethod yX7_hmac, Cond.selects RX7 yX7_hmac yX7_hmac, Cond.code yX7_hmac cX7_hmac 3 none, Cond.fieldLink RX7 54 "RecordWireModel" "row" "[I", Cond.methodLink RX7 172 yX7_digestRow, Cond.instanceMethod yX7_digestRow, Cond.selects RX7 yX7_digestRow yX7_digestRow, Cond.code yX7_digestRow cX7_digestRow 5 none, Cond.fieldLink RX7 48 "RecordWireModel" "state" "[I", Cond.constant RX7 160 (1779033703), Cond.constant RX7 161 (-1150833019), Cond.constant RX7 162 (1013904242), Cond.constant RX7 163 (-1521486534), Cond.constant RX7 164 (1359893119), Cond.constant RX7 165 (-1694144372), Cond.constant RX7 166 (528734635), Cond.constant RX7 167 (1541459225), Cond.methodLink RX7 168 yX7_block, Cond.instanceMethod yX7_block, Cond.selects RX7 yX7_block yX7_block, Cond.code yX7_block cX7_block 13 none]
def wsX7_send_r4 : List Cond := [Cond.fieldLink RX7 51 "RecordWireModel" "schedule" "[I", Cond.fieldLink RX7 133 "RecordWireModel" "rounds" "[I", Cond.methodLink RX7 156 yX7_turned, Cond.static yX7_turned, Cond.code yX7_turned cX7_turned 2 (some .int)]
def wsX7_send : List Cond := .code yX7_send cX7_send 5 (some .int) :: ((wsX7_send_r1 ++ (wsX7_send_r2 ++ (wsX7_send_r3 ++ wsX7_send_r4))) ++ wsX70)
def wsX7_isSlot : List Cond := .code yX7_isSlot cX7_isSlot 2 (some .boolean) :: ([.fieldLink RX7 39 "RecordWireModel" "sizes" "[I"] ++ wsX70)
def wsX7_isBelow : List Cond := .code yX7_isBelow cX7_isBelow 4 (some .boolean) :: ([.constantLong RX7 213 (-9223372036854775808)])
def wsX7_deliver_r1 : List Cond := [Cond.fieldLink RX7 145 "RecordWireModel" "isOpen" "Z", Cond.fieldLink RX7 36 "RecordWireModel" "wire" "[I", Cond.fieldLink RX7 39 "RecordWireModel" "sizes" "[I", Cond.fieldLink RX7 19 "RecordWireModel" "epochs" "[I", Cond.fieldLink RX7 57 "RecordWireModel" "digest" "[I", Cond.fieldLink RX7 26 "RecordWireModel" "some" "[Z", Cond.fieldLink RX7 30 "RecordWireModel" "greatest" "[J", Cond.constantLong RX7 227 (64), Cond.fieldLink RX7 33 "RecordWireModel" "seen" "[Z", Cond.fieldLink RX7 45 "RecordWireModel" "inbox" "[I", Cond.fieldLink RX7 153 "RecordWireModel" "inSize" "I", Cond.methodLink RX7 215 yX7_isSlot, Cond.instanceMethod yX7_isSlot, Cond.selects RX7 yX7_isSlot yX7_isSlot, Cond.initialized RX7, Cond.code yX7_isSlot cX7_isSlot 2 (some .boolean), Cond.methodLink RX7 219 yX7_numberAt, Cond.instanceMethod yX7_numberAt, Cond.selects RX7 yX7_numberAt yX7_numberAt, Cond.code yX7_numberAt cX7_numberAt 6 (some .long), Cond.methodLink RX7 210 yX7_tag, Cond.instanceMethod yX7_tag, Cond.selects RX7 yX7_tag yX7_tag, Cond.code yX7_tag cX7_tag 5 none]
def wsX7_deliver_r2 : List Cond := [Cond.fieldLink RX7 60 "RecordWireModel" "key" "[I", Cond.fieldLink RX7 16 "RecordWireModel" "tagKeys" "[I", Cond.fieldLink RX7 66 "RecordWireModel" "message" "[I", Cond.methodLink RX7 175 yX7_hmac, Cond.instanceMethod yX7_hmac, Cond.selects RX7 yX7_hmac yX7_hmac, Cond.code yX7_hmac cX7_hmac 3 none, Cond.fieldLink RX7 54 "RecordWireModel" "row" "[I", Cond.methodLink RX7 172 yX7_digestRow, Cond.instanceMethod yX7_digestRow, Cond.selects RX7 yX7_digestRow yX7_digestRow, Cond.code yX7_digestRow cX7_digestRow 5 none, Cond.fieldLink RX7 48 "RecordWireModel" "state" "[I", Cond.constant RX7 160 (1779033703), Cond.constant RX7 161 (-1150833019), Cond.constant RX7 162 (1013904242), Cond.constant RX7 163 (-1521486534), Cond.constant RX7 164 (1359893119), Cond.constant RX7 165 (-1694144372), Cond.constant RX7 166 (528734635), Cond.constant RX7 167 (1541459225), Cond.methodLink RX7 168 yX7_block, Cond.instanceMethod yX7_block, Cond.selects RX7 yX7_block yX7_block]
def wsX7_deliver_r3 : List Cond := [Cond.code yX7_block cX7_block 13 none, Cond.fieldLink RX7 51 "RecordWireModel" "schedule" "[I", Cond.fieldLink RX7 133 "RecordWireModel" "rounds" "[I", Cond.methodLink RX7 156 yX7_turned, Cond.static yX7_turned, Cond.code yX7_turned cX7_turned 2 (some .int), Cond.methodLink RX7 223 yX7_isBelow, Cond.static yX7_isBelow, Cond.code yX7_isBelow cX7_isBelow 4 (some .boolean), Cond.constantLong RX7 213 (-9223372036854775808), Cond.methodLink RX7 206 yX7_streamByte, Cond.instanceMethod yX7_streamByte, Cond.selects RX7 yX7_streamByte yX7_streamByte, Cond.code yX7_streamByte cX7_streamByte 5 (some .int), Cond.fieldLink RX7 139 "RecordWireModel" "mixed" "[I", Cond.fieldLink RX7 136 "RecordWireModel" "words" "[I", Cond.methodLink RX7 198 yX7_stream, Cond.instanceMethod yX7_stream, Cond.selects RX7 yX7_stream yX7_stream, Cond.code yX7_stream cX7_stream 5 none, Cond.constant RX7 184 (1634760805), Cond.constant RX7 185 (857760878), Cond.constant RX7 186 (2036477234), Cond.constant RX7 187 (1797285236)]
def wsX7_deliver_r4 : List Cond := [Cond.methodLink RX7 188 yX7_keyWord, Cond.instanceMethod yX7_keyWord, Cond.selects RX7 yX7_keyWord yX7_keyWord, Cond.code yX7_keyWord cX7_keyWord 4 (some .int), Cond.fieldLink RX7 13 "RecordWireModel" "sealKeys" "[I", Cond.methodLink RX7 191 yX7_wireWord, Cond.instanceMethod yX7_wireWord, Cond.selects RX7 yX7_wireWord yX7_wireWord, Cond.code yX7_wireWord cX7_wireWord 4 (some .int), Cond.methodLink RX7 194 yX7_quarter, Cond.instanceMethod yX7_quarter, Cond.selects RX7 yX7_quarter yX7_quarter, Cond.code yX7_quarter cX7_quarter 5 none, Cond.methodLink RX7 181 yX7_left, Cond.static yX7_left, Cond.code yX7_left cX7_left 2 (some .int)]
def wsX7_deliver : List Cond := .code yX7_deliver cX7_deliver 15 (some .int) :: ((wsX7_deliver_r1 ++ (wsX7_deliver_r2 ++ (wsX7_deliver_r3 ++ wsX7_deliver_r4))) ++ wsX70)
def wsX7_got : List Cond := .code yX7_got cX7_got 2 (some .int) :: ([.fieldLink RX7 153 "RecordWireModel" "inSize" "I", .fieldLink RX7 45 "RecordWireModel" "inbox" "[I"] ++ wsX70)
def wsX7_gotLen : List Cond := .code yX7_gotLen cX7_gotLen 1 (some .int) :: ([.fieldLink RX7 153 "RecordWireModel" "inSize" "I"] ++ wsX70)
def wsX7_corrupt : List Cond := .code yX7_corrupt cX7_corrupt 5 (some .boolean) :: ([.fieldLink RX7 39 "RecordWireModel" "sizes" "[I", .fieldLink RX7 36 "RecordWireModel" "wire" "[I", .methodLink RX7 215 yX7_isSlot, .instanceMethod yX7_isSlot, .selects RX7 yX7_isSlot yX7_isSlot, .initialized RX7, .code yX7_isSlot cX7_isSlot 2 (some .boolean)] ++ wsX70)
def wsX7_drop : List Cond := .code yX7_drop cX7_drop 3 (some .boolean) :: ([.fieldLink RX7 39 "RecordWireModel" "sizes" "[I", .methodLink RX7 215 yX7_isSlot, .instanceMethod yX7_isSlot, .selects RX7 yX7_isSlot yX7_isSlot, .initialized RX7, .code yX7_isSlot cX7_isSlot 2 (some .boolean)] ++ wsX70)
def wsX7_wireAt : List Cond := .code yX7_wireAt cX7_wireAt 3 (some .int) :: ([.fieldLink RX7 39 "RecordWireModel" "sizes" "[I", .fieldLink RX7 36 "RecordWireModel" "wire" "[I", .methodLink RX7 215 yX7_isSlot, .instanceMethod yX7_isSlot, .selects RX7 yX7_isSlot yX7_isSlot, .initialized RX7, .code yX7_isSlot cX7_isSlot 2 (some .boolean)] ++ wsX70)
def wsX7_count : List Cond := .code yX7_count cX7_count 4 (some .int) :: ([.fieldLink RX7 39 "RecordWireModel" "sizes" "[I", .fieldLink RX7 145 "RecordWireModel" "isOpen" "Z", .fieldLink RX7 26 "RecordWireModel" "some" "[Z", .fieldLink RX7 33 "RecordWireModel" "seen" "[Z", .fieldLink RX7 19 "RecordWireModel" "epochs" "[I", .fieldLink RX7 149 "RecordWireModel" "outSize" "I"] ++ wsX70)
def wsL_law_r1 : List Cond := [Cond.classLink RL 7 RX6, Cond.instantiable RX6 9, Cond.initialized RX6, Cond.classLink RL 10 RX7, Cond.instantiable RX7 25, Cond.initialized RX7, Cond.methodLink RL 9 yX6_init, Cond.instanceMethod yX6_init, Cond.code yX6_init cX6_init 3 none, Cond.methodLink RX6 3 objectInit, Cond.instanceMethod objectInit, Cond.code objectInit ⟨#[0xb1]⟩ 1 none, Cond.arrayClass .int, Cond.fieldLink RX6 9 "RecordWire" "sharedKey" "[I", Cond.fieldLink RX6 13 "RecordWire" "zeroKey" "[I", Cond.fieldLink RX6 16 "RecordWire" "root" "[I", Cond.classLink RX6 19 RX2, Cond.instantiable RX2 3, Cond.initialized RX2, Cond.fieldLink RX6 22 "RecordWire" "hmac" "LRecordWire$Hmac;", Cond.classLink RX6 26 RX1, Cond.fieldLink RX6 28 "RecordWire" "directions" "[LRecordWire$Direction;", Cond.classLink RX6 32 RX0, Cond.fieldLink RX6 34 "RecordWire" "slots" "[LRecordWire$ByteRow;"]
def wsL_law_r2 : List Cond := [Cond.instantiable RX0 2, Cond.initialized RX0, Cond.fieldLink RX6 39 "RecordWire" "outbox" "LRecordWire$ByteRow;", Cond.fieldLink RX6 43 "RecordWire" "inbox" "LRecordWire$ByteRow;", Cond.classLink RX6 46 RX3, Cond.instantiable RX3 3, Cond.initialized RX3, Cond.instantiable RX1 9, Cond.initialized RX1, Cond.instanceMethod yX2_init, Cond.code yX2_init cX2_init 1 none, Cond.methodLink RX2 1 objectInit, Cond.classLink RX2 7 RX4, Cond.instantiable RX4 4, Cond.initialized RX4, Cond.fieldLink RX2 10 "RecordWire$Hmac" "hash" "LRecordWire$Sha256;", Cond.fieldLink RX2 16 "RecordWire$Hmac" "keyBlock" "[I", Cond.fieldLink RX2 20 "RecordWire$Hmac" "innerHash" "[I", Cond.instanceMethod yX4_init, Cond.code yX4_init cX4_init 1 none, Cond.methodLink RX4 3 objectInit, Cond.fieldLink RX4 9 "RecordWire$Sha256" "message" "[I", Cond.fieldLink RX4 13 "RecordWire$Sha256" "schedule" "[I", Cond.fieldLink RX4 16 "RecordWire$Sha256" "state" "[I"]
def wsL_law_r3 : List Cond := [Cond.instanceMethod yX0_init, Cond.code yX0_init cX0_init 1 none, Cond.methodLink RX0 3 objectInit, Cond.fieldLink RX0 9 "RecordWire$ByteRow" "bytes" "[I", Cond.instanceMethod yX3_init, Cond.code yX3_init cX3_init 1 none, Cond.methodLink RX3 3 objectInit, Cond.fieldLink RX3 11 "RecordWire$Salsa20" "input" "[I", Cond.fieldLink RX3 15 "RecordWire$Salsa20" "block" "[I", Cond.methodLink RX6 49 yX1_init, Cond.instanceMethod yX1_init, Cond.code yX1_init cX1_init 4 none, Cond.methodLink RX1 3 objectInit, Cond.fieldLink RX1 9 "RecordWire$Direction" "sealKey" "[I", Cond.fieldLink RX1 15 "RecordWire$Direction" "tagKey" "[I", Cond.fieldLink RX1 20 "RecordWire$Direction" "tag" "[I", Cond.classLink RX1 23 RX5, Cond.instantiable RX5 2, Cond.initialized RX5, Cond.fieldLink RX1 26 "RecordWire$Direction" "window" "LRecordWire$Window;", Cond.fieldLink RX1 30 "RecordWire$Direction" "index" "I", Cond.fieldLink RX1 34 "RecordWire$Direction" "hmac" "LRecordWire$Hmac;", Cond.fieldLink RX1 38 "RecordWire$Direction" "salsa" "LRecordWire$Salsa20;", Cond.instanceMethod yX5_init]
def wsL_law_r4 : List Cond := [Cond.code yX5_init cX5_init 1 none, Cond.methodLink RX5 1 objectInit, Cond.methodLink RX6 52 yX6_init_, Cond.instanceMethod yX6_init_, Cond.selects RX6 yX6_init_ yX6_init_, Cond.code yX6_init_ cX6_init_ 2 none, Cond.fieldLink RX6 61 "RecordWire" "opened" "Z", Cond.methodLink RX6 55 yX0_clear, Cond.instanceMethod yX0_clear, Cond.selects RX0 yX0_clear yX0_clear, Cond.code yX0_clear cX0_clear 1 none, Cond.fieldLink RX0 15 "RecordWire$ByteRow" "size" "I", Cond.methodLink RX6 58 yX1_forget, Cond.instanceMethod yX1_forget, Cond.selects RX1 yX1_forget yX1_forget, Cond.code yX1_forget cX1_forget 1 none, Cond.fieldLink RX1 42 "RecordWire$Direction" "epoch" "I", Cond.fieldLink RX1 49 "RecordWire$Direction" "nextNumber" "J", Cond.methodLink RX1 53 yX5_forget, Cond.instanceMethod yX5_forget, Cond.selects RX5 yX5_forget yX5_forget, Cond.code yX5_forget cX5_forget 1 none, Cond.fieldLink RX5 7 "RecordWire$Window" "greatest" "J", Cond.fieldLink RX5 13 "RecordWire$Window" "seen" "J"]
def wsL_law_r5 : List Cond := [Cond.methodLink RL 12 yX7_init, Cond.instanceMethod yX7_init, Cond.code yX7_init cX7_init 1 none, Cond.methodLink RX7 1 objectInit, Cond.fieldLink RX7 7 "RecordWireModel" "psk" "[I", Cond.fieldLink RX7 13 "RecordWireModel" "sealKeys" "[I", Cond.fieldLink RX7 16 "RecordWireModel" "tagKeys" "[I", Cond.fieldLink RX7 19 "RecordWireModel" "epochs" "[I", Cond.arrayClass .long, Cond.fieldLink RX7 22 "RecordWireModel" "nexts" "[J", Cond.arrayClass .boolean, Cond.fieldLink RX7 26 "RecordWireModel" "some" "[Z", Cond.fieldLink RX7 30 "RecordWireModel" "greatest" "[J", Cond.fieldLink RX7 33 "RecordWireModel" "seen" "[Z", Cond.fieldLink RX7 36 "RecordWireModel" "wire" "[I", Cond.fieldLink RX7 39 "RecordWireModel" "sizes" "[I", Cond.fieldLink RX7 42 "RecordWireModel" "outbox" "[I", Cond.fieldLink RX7 45 "RecordWireModel" "inbox" "[I", Cond.fieldLink RX7 48 "RecordWireModel" "state" "[I", Cond.fieldLink RX7 51 "RecordWireModel" "schedule" "[I", Cond.fieldLink RX7 54 "RecordWireModel" "row" "[I", Cond.fieldLink RX7 57 "RecordWireModel" "digest" "[I", Cond.fieldLink RX7 60 "RecordWireModel" "key" "[I", Cond.fieldLink RX7 63 "RecordWireModel" "other" "[I"]
def wsL_law_r6 : List Cond := [Cond.fieldLink RX7 66 "RecordWireModel" "message" "[I", Cond.constant RX7 69 (1116352408), Cond.constant RX7 70 (1899447441), Cond.constant RX7 71 (-1245643825), Cond.constant RX7 72 (-373957723), Cond.constant RX7 73 (961987163), Cond.constant RX7 74 (1508970993), Cond.constant RX7 75 (-1841331548), Cond.constant RX7 76 (-1424204075), Cond.constant RX7 77 (-670586216), Cond.constant RX7 78 (310598401), Cond.constant RX7 79 (607225278), Cond.constant RX7 80 (1426881987), Cond.constant RX7 81 (1925078388), Cond.constant RX7 82 (-2132889090), Cond.constant RX7 83 (-1680079193), Cond.constant RX7 84 (-1046744716), Cond.constant RX7 85 (-459576895), Cond.constant RX7 86 (-272742522), Cond.constant RX7 87 (264347078), Cond.constant RX7 88 (604807628), Cond.constant RX7 89 (770255983), Cond.constant RX7 90 (1249150122), Cond.constant RX7 91 (1555081692)]
def wsL_law_r7 : List Cond := [Cond.constant RX7 92 (1996064986), Cond.constant RX7 93 (-1740746414), Cond.constant RX7 94 (-1473132947), Cond.constant RX7 95 (-1341970488), Cond.constant RX7 96 (-1084653625), Cond.constant RX7 97 (-958395405), Cond.constant RX7 98 (-710438585), Cond.constant RX7 99 (113926993), Cond.constant RX7 100 (338241895), Cond.constant RX7 101 (666307205), Cond.constant RX7 102 (773529912), Cond.constant RX7 103 (1294757372), Cond.constant RX7 104 (1396182291), Cond.constant RX7 105 (1695183700), Cond.constant RX7 106 (1986661051), Cond.constant RX7 107 (-2117940946), Cond.constant RX7 108 (-1838011259), Cond.constant RX7 109 (-1564481375), Cond.constant RX7 110 (-1474664885), Cond.constant RX7 111 (-1035236496), Cond.constant RX7 112 (-949202525), Cond.constant RX7 113 (-778901479), Cond.constant RX7 114 (-694614492), Cond.constant RX7 115 (-200395387)]
def wsL_law_r8 : List Cond := [Cond.constant RX7 116 (275423344), Cond.constant RX7 117 (430227734), Cond.constant RX7 118 (506948616), Cond.constant RX7 119 (659060556), Cond.constant RX7 120 (883997877), Cond.constant RX7 121 (958139571), Cond.constant RX7 122 (1322822218), Cond.constant RX7 123 (1537002063), Cond.constant RX7 124 (1747873779), Cond.constant RX7 125 (1955562222), Cond.constant RX7 126 (2024104815), Cond.constant RX7 127 (-2067236844), Cond.constant RX7 128 (-1933114872), Cond.constant RX7 129 (-1866530822), Cond.constant RX7 130 (-1538233109), Cond.constant RX7 131 (-1090935817), Cond.constant RX7 132 (-965641998), Cond.fieldLink RX7 133 "RecordWireModel" "rounds" "[I", Cond.fieldLink RX7 136 "RecordWireModel" "words" "[I", Cond.fieldLink RX7 139 "RecordWireModel" "mixed" "[I", Cond.methodLink RX7 142 yX7_init_, Cond.instanceMethod yX7_init_, Cond.selects RX7 yX7_init_ yX7_init_, Cond.code yX7_init_ cX7_init_ 2 none]
def wsL_law_r9 : List Cond := [Cond.fieldLink RX7 145 "RecordWireModel" "isOpen" "Z", Cond.fieldLink RX7 149 "RecordWireModel" "outSize" "I", Cond.fieldLink RX7 153 "RecordWireModel" "inSize" "I", Cond.methodLink RL 13 yX6_init_, Cond.methodLink RL 16 yX7_init_, Cond.methodLink RL 17 yX6_setPsk, Cond.instanceMethod yX6_setPsk, Cond.selects RX6 yX6_setPsk yX6_setPsk, Cond.code yX6_setPsk cX6_setPsk 3 (some .boolean), Cond.methodLink RX6 65 yX6_isByte, Cond.static yX6_isByte, Cond.code yX6_isByte cX6_isByte 1 (some .boolean), Cond.methodLink RL 21 yX7_setPsk, Cond.instanceMethod yX7_setPsk, Cond.selects RX7 yX7_setPsk yX7_setPsk, Cond.code yX7_setPsk cX7_setPsk 4 (some .boolean), Cond.methodLink RL 22 yX6_open, Cond.instanceMethod yX6_open, Cond.selects RX6 yX6_open yX6_open, Cond.code yX6_open cX6_open 2 none, Cond.methodLink RX6 69 yX2_begin, Cond.instanceMethod yX2_begin, Cond.selects RX2 yX2_begin yX2_begin, Cond.code yX2_begin cX2_begin 3 none]
def wsL_law_r10 : List Cond := [Cond.methodLink RX2 23 yX2_beginWithPad, Cond.instanceMethod yX2_beginWithPad, Cond.selects RX2 yX2_beginWithPad yX2_beginWithPad, Cond.code yX2_beginWithPad cX2_beginWithPad 3 none, Cond.methodLink RX2 37 yX4_begin, Cond.instanceMethod yX4_begin, Cond.selects RX4 yX4_begin yX4_begin, Cond.code yX4_begin cX4_begin 1 none, Cond.fieldLink RX4 19 "RecordWire$Sha256" "length" "I", Cond.methodLink RX2 27 yX4_append, Cond.instanceMethod yX4_append, Cond.selects RX4 yX4_append yX4_append, Cond.code yX4_append cX4_append 2 none, Cond.methodLink RX6 73 yX2_appendAll, Cond.instanceMethod yX2_appendAll, Cond.selects RX2 yX2_appendAll yX2_appendAll, Cond.code yX2_appendAll cX2_appendAll 3 none, Cond.methodLink RX6 76 yX2_finish, Cond.instanceMethod yX2_finish, Cond.selects RX2 yX2_finish yX2_finish, Cond.code yX2_finish cX2_finish 2 none, Cond.methodLink RX2 30 yX4_finish, Cond.instanceMethod yX4_finish, Cond.selects RX4 yX4_finish yX4_finish]
def wsL_law_r11 : List Cond := [Cond.code yX4_finish cX4_finish 3 none, Cond.fieldLink RX4 26 "RecordWire$Sha256" "FIRST_STATE" "[I", Cond.methodLink RX4 23 yX4_pad, Cond.instanceMethod yX4_pad, Cond.selects RX4 yX4_pad yX4_pad, Cond.code yX4_pad cX4_pad 4 none, Cond.constantLong RX4 36 (8), Cond.methodLink RX4 38 yX4_append, Cond.methodLink RX4 29 yX4_fillSchedule, Cond.instanceMethod yX4_fillSchedule, Cond.selects RX4 yX4_fillSchedule yX4_fillSchedule, Cond.code yX4_fillSchedule cX4_fillSchedule 7 none, Cond.methodLink RX4 41 yX4_turn, Cond.static yX4_turn, Cond.code yX4_turn cX4_turn 2 (some .int), Cond.methodLink RX4 33 yX4_mixState, Cond.instanceMethod yX4_mixState, Cond.selects RX4 yX4_mixState yX4_mixState, Cond.code yX4_mixState cX4_mixState 14 none, Cond.fieldLink RX4 45 "RecordWire$Sha256" "ROUND_WORDS" "[I", Cond.methodLink RX2 34 yX2_appendAll, Cond.methodLink RX6 79 yX1_startEpoch, Cond.instanceMethod yX1_startEpoch, Cond.selects RX1 yX1_startEpoch yX1_startEpoch]
def wsL_law_r12 : List Cond := [Cond.code yX1_startEpoch cX1_startEpoch 3 none, Cond.methodLink RX1 68 yX1_makeKey, Cond.instanceMethod yX1_makeKey, Cond.selects RX1 yX1_makeKey yX1_makeKey, Cond.code yX1_makeKey cX1_makeKey 4 none, Cond.methodLink RX1 56 yX2_begin, Cond.methodLink RX1 128 yX2_append, Cond.instanceMethod yX2_append, Cond.selects RX2 yX2_append yX2_append, Cond.code yX2_append cX2_append 2 none, Cond.methodLink RX1 65 yX2_finish, Cond.methodLink RX1 72 yX1_forget, Cond.methodLink RL 25 yX7_open, Cond.instanceMethod yX7_open, Cond.selects RX7 yX7_open yX7_open, Cond.code yX7_open cX7_open 3 none, Cond.methodLink RX7 175 yX7_hmac, Cond.instanceMethod yX7_hmac, Cond.selects RX7 yX7_hmac yX7_hmac, Cond.code yX7_hmac cX7_hmac 3 none, Cond.methodLink RX7 172 yX7_digestRow, Cond.instanceMethod yX7_digestRow, Cond.selects RX7 yX7_digestRow yX7_digestRow, Cond.code yX7_digestRow cX7_digestRow 5 none]
def wsL_law_r13 : List Cond := [Cond.constant RX7 160 (1779033703), Cond.constant RX7 161 (-1150833019), Cond.constant RX7 162 (1013904242), Cond.constant RX7 163 (-1521486534), Cond.constant RX7 164 (1359893119), Cond.constant RX7 165 (-1694144372), Cond.constant RX7 166 (528734635), Cond.constant RX7 167 (1541459225), Cond.methodLink RX7 168 yX7_block, Cond.instanceMethod yX7_block, Cond.selects RX7 yX7_block yX7_block, Cond.code yX7_block cX7_block 13 none, Cond.methodLink RX7 156 yX7_turned, Cond.static yX7_turned, Cond.code yX7_turned cX7_turned 2 (some .int), Cond.methodLink RX7 178 yX7_makeKeys, Cond.instanceMethod yX7_makeKeys, Cond.selects RX7 yX7_makeKeys yX7_makeKeys, Cond.code yX7_makeKeys cX7_makeKeys 4 none, Cond.methodLink RL 26 yX6_put, Cond.instanceMethod yX6_put, Cond.selects RX6 yX6_put yX6_put, Cond.code yX6_put cX6_put 2 (some .boolean), Cond.methodLink RX6 83 yX0_size]
def wsL_law_r14 : List Cond := [Cond.instanceMethod yX0_size, Cond.selects RX0 yX0_size yX0_size, Cond.code yX0_size cX0_size 1 (some .int), Cond.methodLink RX6 87 yX0_append, Cond.instanceMethod yX0_append, Cond.selects RX0 yX0_append yX0_append, Cond.code yX0_append cX0_append 2 none, Cond.methodLink RL 30 yX7_put, Cond.instanceMethod yX7_put, Cond.selects RX7 yX7_put yX7_put, Cond.code yX7_put cX7_put 3 (some .boolean), Cond.methodLink RL 31 yX6_send, Cond.instanceMethod yX6_send, Cond.selects RX6 yX6_send yX6_send, Cond.code yX6_send cX6_send 3 (some .int), Cond.methodLink RX6 91 yX6_isSide, Cond.static yX6_isSide, Cond.code yX6_isSide cX6_isSide 1 (some .boolean), Cond.methodLink RX6 94 yX6_firstEmptySlot, Cond.instanceMethod yX6_firstEmptySlot, Cond.selects RX6 yX6_firstEmptySlot yX6_firstEmptySlot, Cond.code yX6_firstEmptySlot cX6_firstEmptySlot 2 (some .int), Cond.methodLink RX6 104 yX0_isEmpty, Cond.instanceMethod yX0_isEmpty]
def wsL_law_r15 : List Cond := [Cond.selects RX0 yX0_isEmpty yX0_isEmpty, Cond.code yX0_isEmpty cX0_isEmpty 1 (some .boolean), Cond.methodLink RX6 97 yX1_write, Cond.instanceMethod yX1_write, Cond.selects RX1 yX1_write yX1_write, Cond.code yX1_write cX1_write 5 none, Cond.methodLink RX1 73 yX0_size, Cond.methodLink RX1 78 yX0_clear, Cond.methodLink RX1 81 yX0_append, Cond.methodLink RX1 85 yX0_appendNumber, Cond.instanceMethod yX0_appendNumber, Cond.selects RX0 yX0_appendNumber yX0_appendNumber, Cond.code yX0_appendNumber cX0_appendNumber 5 none, Cond.methodLink RX0 19 yX0_append, Cond.methodLink RX1 89 yX3_begin, Cond.instanceMethod yX3_begin, Cond.selects RX3 yX3_begin yX3_begin, Cond.code yX3_begin cX3_begin 4 none, Cond.fieldLink RX3 18 "RecordWire$Salsa20" "EXPAND" "[I", Cond.fieldLink RX3 29 "RecordWire$Salsa20" "position" "I", Cond.methodLink RX3 21 yX3_keyWord, Cond.static yX3_keyWord, Cond.code yX3_keyWord cX3_keyWord 2 (some .int), Cond.methodLink RX3 50 yX3_word]
def wsL_law_r16 : List Cond := [Cond.static yX3_word, Cond.code yX3_word cX3_word 4 (some .int), Cond.methodLink RX3 25 yX3_headWord, Cond.static yX3_headWord, Cond.code yX3_headWord cX3_headWord 2 (some .int), Cond.methodLink RX3 54 yX0_at, Cond.instanceMethod yX0_at, Cond.selects RX0 yX0_at yX0_at, Cond.code yX0_at cX0_at 2 (some .int), Cond.methodLink RX1 94 yX0_at, Cond.methodLink RX1 98 yX3_next, Cond.instanceMethod yX3_next, Cond.selects RX3 yX3_next yX3_next, Cond.code yX3_next cX3_next 2 (some .int), Cond.methodLink RX3 33 yX3_fillBlock, Cond.instanceMethod yX3_fillBlock, Cond.selects RX3 yX3_fillBlock yX3_fillBlock, Cond.code yX3_fillBlock cX3_fillBlock 2 none, Cond.methodLink RX3 36 yX3_mixColumns, Cond.instanceMethod yX3_mixColumns, Cond.selects RX3 yX3_mixColumns yX3_mixColumns, Cond.code yX3_mixColumns cX3_mixColumns 1 none, Cond.methodLink RX3 42 yX3_mixQuarter, Cond.instanceMethod yX3_mixQuarter]
def wsL_law_r17 : List Cond := [Cond.selects RX3 yX3_mixQuarter yX3_mixQuarter, Cond.code yX3_mixQuarter cX3_mixQuarter 5 none, Cond.methodLink RX3 46 yX3_turn, Cond.static yX3_turn, Cond.code yX3_turn cX3_turn 2 (some .int), Cond.methodLink RX3 39 yX3_mixRows, Cond.instanceMethod yX3_mixRows, Cond.selects RX3 yX3_mixRows yX3_mixRows, Cond.code yX3_mixRows cX3_mixRows 1 none, Cond.methodLink RX1 101 yX1_makeTag, Cond.instanceMethod yX1_makeTag, Cond.selects RX1 yX1_makeTag yX1_makeTag, Cond.code yX1_makeTag cX1_makeTag 4 none, Cond.methodLink RL 35 yX7_send, Cond.instanceMethod yX7_send, Cond.selects RX7 yX7_send yX7_send, Cond.code yX7_send cX7_send 5 (some .int), Cond.methodLink RX7 202 yX7_number, Cond.instanceMethod yX7_number, Cond.selects RX7 yX7_number yX7_number, Cond.code yX7_number cX7_number 6 none, Cond.methodLink RX7 206 yX7_streamByte, Cond.instanceMethod yX7_streamByte, Cond.selects RX7 yX7_streamByte yX7_streamByte]
def wsL_law_r18 : List Cond := [Cond.code yX7_streamByte cX7_streamByte 5 (some .int), Cond.methodLink RX7 198 yX7_stream, Cond.instanceMethod yX7_stream, Cond.selects RX7 yX7_stream yX7_stream, Cond.code yX7_stream cX7_stream 5 none, Cond.constant RX7 184 (1634760805), Cond.constant RX7 185 (857760878), Cond.constant RX7 186 (2036477234), Cond.constant RX7 187 (1797285236), Cond.methodLink RX7 188 yX7_keyWord, Cond.instanceMethod yX7_keyWord, Cond.selects RX7 yX7_keyWord yX7_keyWord, Cond.code yX7_keyWord cX7_keyWord 4 (some .int), Cond.methodLink RX7 191 yX7_wireWord, Cond.instanceMethod yX7_wireWord, Cond.selects RX7 yX7_wireWord yX7_wireWord, Cond.code yX7_wireWord cX7_wireWord 4 (some .int), Cond.methodLink RX7 194 yX7_quarter, Cond.instanceMethod yX7_quarter, Cond.selects RX7 yX7_quarter yX7_quarter, Cond.code yX7_quarter cX7_quarter 5 none, Cond.methodLink RX7 181 yX7_left, Cond.static yX7_left, Cond.code yX7_left cX7_left 2 (some .int)]
def wsL_law_r19 : List Cond := [Cond.methodLink RX7 210 yX7_tag, Cond.instanceMethod yX7_tag, Cond.selects RX7 yX7_tag yX7_tag, Cond.code yX7_tag cX7_tag 5 none, Cond.methodLink RL 36 yX6_deliver, Cond.instanceMethod yX6_deliver, Cond.selects RX6 yX6_deliver yX6_deliver, Cond.code yX6_deliver cX6_deliver 5 (some .int), Cond.methodLink RX6 101 yX6_isSlot, Cond.static yX6_isSlot, Cond.code yX6_isSlot cX6_isSlot 1 (some .boolean), Cond.methodLink RX6 108 yX1_judge, Cond.instanceMethod yX1_judge, Cond.selects RX1 yX1_judge yX1_judge, Cond.code yX1_judge cX1_judge 5 (some .int), Cond.methodLink RX1 105 yX1_hasRightShape, Cond.instanceMethod yX1_hasRightShape, Cond.selects RX1 yX1_hasRightShape yX1_hasRightShape, Cond.code yX1_hasRightShape cX1_hasRightShape 3 (some .boolean), Cond.methodLink RX1 109 yX0_numberAt, Cond.instanceMethod yX0_numberAt, Cond.selects RX0 yX0_numberAt yX0_numberAt, Cond.code yX0_numberAt cX0_numberAt 6 (some .long), Cond.methodLink RX0 23 yX0_at]
def wsL_law_r20 : List Cond := [Cond.methodLink RX1 113 yX1_tagStandsAt, Cond.instanceMethod yX1_tagStandsAt, Cond.selects RX1 yX1_tagStandsAt yX1_tagStandsAt, Cond.code yX1_tagStandsAt cX1_tagStandsAt 4 (some .boolean), Cond.methodLink RX1 117 yX5_isTooOld, Cond.instanceMethod yX5_isTooOld, Cond.selects RX5 yX5_isTooOld yX5_isTooOld, Cond.code yX5_isTooOld cX5_isTooOld 3 (some .boolean), Cond.methodLink RX5 22 yX5_isAbove, Cond.static yX5_isAbove, Cond.code yX5_isAbove cX5_isAbove 4 (some .boolean), Cond.constantLong RX5 32 (-9223372036854775808), Cond.methodLink RX5 26 yX5_fits, Cond.static yX5_fits, Cond.code yX5_fits cX5_fits 2 (some .boolean), Cond.constantLong RX5 30 (64), Cond.methodLink RX1 121 yX5_wasSeen, Cond.instanceMethod yX5_wasSeen, Cond.selects RX5 yX5_wasSeen yX5_wasSeen, Cond.code yX5_wasSeen cX5_wasSeen 5 (some .boolean), Cond.methodLink RX6 112 yX1_read, Cond.instanceMethod yX1_read, Cond.selects RX1 yX1_read yX1_read, Cond.code yX1_read cX1_read 5 none]
def wsL_law_r21 : List Cond := [Cond.methodLink RX1 124 yX5_mark, Cond.instanceMethod yX5_mark, Cond.selects RX5 yX5_mark yX5_mark, Cond.code yX5_mark cX5_mark 5 none, Cond.methodLink RL 40 yX7_deliver, Cond.instanceMethod yX7_deliver, Cond.selects RX7 yX7_deliver yX7_deliver, Cond.code yX7_deliver cX7_deliver 15 (some .int), Cond.constantLong RX7 227 (64), Cond.methodLink RX7 215 yX7_isSlot, Cond.instanceMethod yX7_isSlot, Cond.selects RX7 yX7_isSlot yX7_isSlot, Cond.code yX7_isSlot cX7_isSlot 2 (some .boolean), Cond.methodLink RX7 219 yX7_numberAt, Cond.instanceMethod yX7_numberAt, Cond.selects RX7 yX7_numberAt yX7_numberAt, Cond.code yX7_numberAt cX7_numberAt 6 (some .long), Cond.methodLink RX7 223 yX7_isBelow, Cond.static yX7_isBelow, Cond.code yX7_isBelow cX7_isBelow 4 (some .boolean), Cond.constantLong RX7 213 (-9223372036854775808), Cond.methodLink RL 41 yX6_got, Cond.instanceMethod yX6_got, Cond.selects RX6 yX6_got yX6_got]
def wsL_law_r22 : List Cond := [Cond.code yX6_got cX6_got 2 (some .int), Cond.methodLink RX6 115 yX0_at, Cond.methodLink RL 44 yX7_got, Cond.instanceMethod yX7_got, Cond.selects RX7 yX7_got yX7_got, Cond.code yX7_got cX7_got 2 (some .int), Cond.methodLink RL 45 yX6_gotLen, Cond.instanceMethod yX6_gotLen, Cond.selects RX6 yX6_gotLen yX6_gotLen, Cond.code yX6_gotLen cX6_gotLen 1 (some .int), Cond.methodLink RL 49 yX7_gotLen, Cond.instanceMethod yX7_gotLen, Cond.selects RX7 yX7_gotLen yX7_gotLen, Cond.code yX7_gotLen cX7_gotLen 1 (some .int), Cond.methodLink RL 50 yX6_corrupt, Cond.instanceMethod yX6_corrupt, Cond.selects RX6 yX6_corrupt yX6_corrupt, Cond.code yX6_corrupt cX6_corrupt 4 (some .boolean), Cond.methodLink RX6 119 yX0_change, Cond.instanceMethod yX0_change, Cond.selects RX0 yX0_change yX0_change, Cond.code yX0_change cX0_change 3 (some .boolean), Cond.methodLink RL 54 yX7_corrupt, Cond.instanceMethod yX7_corrupt]
def wsL_law_r23 : List Cond := [Cond.selects RX7 yX7_corrupt yX7_corrupt, Cond.code yX7_corrupt cX7_corrupt 5 (some .boolean), Cond.methodLink RL 55 yX6_drop, Cond.instanceMethod yX6_drop, Cond.selects RX6 yX6_drop yX6_drop, Cond.code yX6_drop cX6_drop 2 (some .boolean), Cond.methodLink RL 58 yX7_drop, Cond.instanceMethod yX7_drop, Cond.selects RX7 yX7_drop yX7_drop, Cond.code yX7_drop cX7_drop 3 (some .boolean), Cond.methodLink RL 59 yX6_rekey, Cond.instanceMethod yX6_rekey, Cond.selects RX6 yX6_rekey yX6_rekey, Cond.code yX6_rekey cX6_rekey 3 (some .int), Cond.methodLink RX6 123 yX1_makeNextRoot, Cond.instanceMethod yX1_makeNextRoot, Cond.selects RX1 yX1_makeNextRoot yX1_makeNextRoot, Cond.code yX1_makeNextRoot cX1_makeNextRoot 2 none, Cond.methodLink RX1 62 yX2_appendAll, Cond.methodLink RX6 126 yX1_epoch, Cond.instanceMethod yX1_epoch, Cond.selects RX1 yX1_epoch yX1_epoch, Cond.code yX1_epoch cX1_epoch 1 (some .int), Cond.methodLink RL 62 yX7_rekey]
def wsL_law_r24 : List Cond := [Cond.instanceMethod yX7_rekey, Cond.selects RX7 yX7_rekey yX7_rekey, Cond.code yX7_rekey cX7_rekey 3 (some .int), Cond.methodLink RL 63 yX6_wireAt, Cond.instanceMethod yX6_wireAt, Cond.selects RX6 yX6_wireAt yX6_wireAt, Cond.code yX6_wireAt cX6_wireAt 3 (some .int), Cond.methodLink RL 66 yX7_wireAt, Cond.instanceMethod yX7_wireAt, Cond.selects RX7 yX7_wireAt yX7_wireAt, Cond.code yX7_wireAt cX7_wireAt 3 (some .int), Cond.methodLink RL 67 yX6_count, Cond.instanceMethod yX6_count, Cond.selects RX6 yX6_count yX6_count, Cond.code yX6_count cX6_count 2 (some .int), Cond.methodLink RX6 129 yX6_fullSlots, Cond.instanceMethod yX6_fullSlots, Cond.selects RX6 yX6_fullSlots yX6_fullSlots, Cond.code yX6_fullSlots cX6_fullSlots 3 (some .int), Cond.methodLink RX6 132 yX1_seenInWindow, Cond.instanceMethod yX1_seenInWindow, Cond.selects RX1 yX1_seenInWindow yX1_seenInWindow, Cond.code yX1_seenInWindow cX1_seenInWindow 1 (some .int), Cond.methodLink RX1 45 yX5_seenCount]
def wsL_law_r25 : List Cond := [Cond.instanceMethod yX5_seenCount, Cond.selects RX5 yX5_seenCount yX5_seenCount, Cond.code yX5_seenCount cX5_seenCount 1 (some .int), Cond.methodLink RX5 16 yJ13_bitCount_95d88, Cond.static yJ13_bitCount_95d88, Cond.initialized RJ13, Cond.code yJ13_bitCount_95d88 cJ13_bitCount_95d88 2 (some .int), Cond.constantLong RJ13 314 (6148914691236517205), Cond.constantLong RJ13 316 (3689348814741910323), Cond.constantLong RJ13 318 (1085102592571150095), Cond.methodLink RL 70 yX7_count, Cond.instanceMethod yX7_count, Cond.selects RX7 yX7_count yX7_count, Cond.code yX7_count cX7_count 4 (some .int)]
def wsL_law : List Cond := (wsL_law_r1 ++ (wsL_law_r2 ++ (wsL_law_r3 ++ (wsL_law_r4 ++ (wsL_law_r5 ++ (wsL_law_r6 ++ (wsL_law_r7 ++ (wsL_law_r8 ++ (wsL_law_r9 ++ (wsL_law_r10 ++ (wsL_law_r11 ++ (wsL_law_r12 ++ (wsL_law_r13 ++ (wsL_law_r14 ++ (wsL_law_r15 ++ (wsL_law_r16 ++ (wsL_law_r17 ++ (wsL_law_r18 ++ (wsL_law_r19 ++ (wsL_law_r20 ++ (wsL_law_r21 ++ (wsL_law_r22 ++ (wsL_law_r23 ++ (wsL_law_r24 ++ wsL_law_r25)))))))))))))))))))))))) ++ wsX60 ++ wsX70 ++ wsX20 ++ wsX00 ++ wsX30 ++ wsX10 ++ wsX40 ++ wsX50 ++ ([] : List Cond)
set_option maxRecDepth 20000 in
theorem wsL_law_in : ∀ w ∈ wsL_law, w ∈ lw_tbl := fun w h => (goodIn_p wsL_law [41, 44, 49, 55, 88, 101, 116, 122, 162, 166, 170, 174, 478, 547, 207, 210, 630, 214, 218, 222, 226, 230, 234, 238, 242, 246, 254, 257, 261, 268, 272, 277, 634, 638, 642, 654, 657, 661, 283, 287, 291, 669, 295, 298, 302, 306, 310, 317, 322, 327, 330, 333, 337, 342, 346, 350, 354, 357, 361, 365, 673, 677, 681, 685, 693, 697, 701, 704, 708, 369, 372, 376, 380, 384, 389, 393, 396, 400, 405, 409, 413, 712, 716, 720, 723, 417, 729, 422, 733, 426, 430, 737, 434, 741, 438, 442, 447, 665, 451, 745, 455, 459, 463, 467, 470, 749] (by decide +kernel) (by decide +kernel) w h).1
theorem inlX0 : ∀ w ∈ wsX00, w ∈ wsL_law := fun _ h => List.mem_append_left _ (List.mem_append_left _ (List.mem_append_left _ (List.mem_append_left _ (List.mem_append_left _ (List.mem_append_right _ h)))))
theorem inX0 : ∀ w ∈ wsX00, w ∈ lw_tbl := fun w h => wsL_law_in w (inlX0 w h)
theorem inlX1 : ∀ w ∈ wsX10, w ∈ wsL_law := fun _ h => List.mem_append_left _ (List.mem_append_left _ (List.mem_append_left _ (List.mem_append_right _ h)))
theorem inX1 : ∀ w ∈ wsX10, w ∈ lw_tbl := fun w h => wsL_law_in w (inlX1 w h)
theorem inlX2 : ∀ w ∈ wsX20, w ∈ wsL_law := fun _ h => List.mem_append_left _ (List.mem_append_left _ (List.mem_append_left _ (List.mem_append_left _ (List.mem_append_left _ (List.mem_append_left _ (List.mem_append_right _ h))))))
theorem inX2 : ∀ w ∈ wsX20, w ∈ lw_tbl := fun w h => wsL_law_in w (inlX2 w h)
theorem inlX3 : ∀ w ∈ wsX30, w ∈ wsL_law := fun _ h => List.mem_append_left _ (List.mem_append_left _ (List.mem_append_left _ (List.mem_append_left _ (List.mem_append_right _ h))))
theorem inX3 : ∀ w ∈ wsX30, w ∈ lw_tbl := fun w h => wsL_law_in w (inlX3 w h)
theorem inlX4 : ∀ w ∈ wsX40, w ∈ wsL_law := fun _ h => List.mem_append_left _ (List.mem_append_left _ (List.mem_append_right _ h))
theorem inX4 : ∀ w ∈ wsX40, w ∈ lw_tbl := fun w h => wsL_law_in w (inlX4 w h)
theorem inlX5 : ∀ w ∈ wsX50, w ∈ wsL_law := fun _ h => List.mem_append_left _ (List.mem_append_right _ h)
theorem inX5 : ∀ w ∈ wsX50, w ∈ lw_tbl := fun w h => wsL_law_in w (inlX5 w h)
theorem inlX6 : ∀ w ∈ wsX60, w ∈ wsL_law := fun _ h => List.mem_append_left _ (List.mem_append_left _ (List.mem_append_left _ (List.mem_append_left _ (List.mem_append_left _ (List.mem_append_left _ (List.mem_append_left _ (List.mem_append_left _ (List.mem_append_right _ h))))))))
theorem inX6 : ∀ w ∈ wsX60, w ∈ lw_tbl := fun w h => wsL_law_in w (inlX6 w h)
theorem inlX7 : ∀ w ∈ wsX70, w ∈ wsL_law := fun _ h => List.mem_append_left _ (List.mem_append_left _ (List.mem_append_left _ (List.mem_append_left _ (List.mem_append_left _ (List.mem_append_left _ (List.mem_append_left _ (List.mem_append_right _ h)))))))
theorem inX7 : ∀ w ∈ wsX70, w ∈ lw_tbl := fun w h => wsL_law_in w (inlX7 w h)
theorem inJ13 : ∀ w ∈ wsJ130, w ∈ lw_tbl := by decide +kernel
theorem dX0_init_0 : decode cX0_init 0 = .ok (.aload_n 0, 1) := by decide +kernel
theorem dX0_init_1 : decode cX0_init 1 = .ok (.invokespecial 3, 3) := by decide +kernel
theorem dX0_init_4 : decode cX0_init 4 = .ok (.aload_n 0, 1) := by decide +kernel
theorem dX0_init_5 : decode cX0_init 5 = .ok (.bipush 127, 2) := by decide +kernel
theorem dX0_init_7 : decode cX0_init 7 = .ok (.newarray .int, 2) := by decide +kernel
theorem dX0_init_9 : decode cX0_init 9 = .ok (.putfield 9, 3) := by decide +kernel
theorem dX0_init_12 : decode cX0_init 12 = .ok (.return_, 1) := by decide +kernel
theorem dX0_clear_0 : decode cX0_clear 0 = .ok (.aload_n 0, 1) := by decide +kernel
theorem dX0_clear_1 : decode cX0_clear 1 = .ok (.iconst 0, 1) := by decide +kernel
theorem dX0_clear_2 : decode cX0_clear 2 = .ok (.putfield 15, 3) := by decide +kernel
theorem dX0_clear_5 : decode cX0_clear 5 = .ok (.return_, 1) := by decide +kernel
theorem dX0_size_0 : decode cX0_size 0 = .ok (.aload_n 0, 1) := by decide +kernel
theorem dX0_size_1 : decode cX0_size 1 = .ok (.getfield 15, 3) := by decide +kernel
theorem dX0_size_4 : decode cX0_size 4 = .ok (.ireturn, 1) := by decide +kernel
theorem dX0_isEmpty_0 : decode cX0_isEmpty 0 = .ok (.aload_n 0, 1) := by decide +kernel
theorem dX0_isEmpty_1 : decode cX0_isEmpty 1 = .ok (.getfield 15, 3) := by decide +kernel
theorem dX0_isEmpty_4 : decode cX0_isEmpty 4 = .ok (.ifCond .ne 7, 3) := by decide +kernel
theorem dX0_isEmpty_7 : decode cX0_isEmpty 7 = .ok (.iconst 1, 1) := by decide +kernel
theorem dX0_isEmpty_8 : decode cX0_isEmpty 8 = .ok (.goto 4, 3) := by decide +kernel
theorem dX0_isEmpty_11 : decode cX0_isEmpty 11 = .ok (.iconst 0, 1) := by decide +kernel
theorem dX0_isEmpty_12 : decode cX0_isEmpty 12 = .ok (.ireturn, 1) := by decide +kernel
theorem dX0_at_0 : decode cX0_at 0 = .ok (.iload_n 1, 1) := by decide +kernel
theorem dX0_at_1 : decode cX0_at 1 = .ok (.ifCond .lt 20, 3) := by decide +kernel
theorem dX0_at_4 : decode cX0_at 4 = .ok (.iload_n 1, 1) := by decide +kernel
theorem dX0_at_5 : decode cX0_at 5 = .ok (.aload_n 0, 1) := by decide +kernel
theorem dX0_at_6 : decode cX0_at 6 = .ok (.getfield 15, 3) := by decide +kernel
theorem dX0_at_9 : decode cX0_at 9 = .ok (.if_icmp .ge 12, 3) := by decide +kernel
theorem dX0_at_12 : decode cX0_at 12 = .ok (.aload_n 0, 1) := by decide +kernel
theorem dX0_at_13 : decode cX0_at 13 = .ok (.getfield 9, 3) := by decide +kernel
theorem dX0_at_16 : decode cX0_at 16 = .ok (.iload_n 1, 1) := by decide +kernel
theorem dX0_at_17 : decode cX0_at 17 = .ok (.iaload, 1) := by decide +kernel
theorem dX0_at_18 : decode cX0_at 18 = .ok (.goto 4, 3) := by decide +kernel
theorem dX0_at_21 : decode cX0_at 21 = .ok (.iconst (-1), 1) := by decide +kernel
theorem dX0_at_22 : decode cX0_at 22 = .ok (.ireturn, 1) := by decide +kernel
theorem dX0_change_0 : decode cX0_change 0 = .ok (.iload_n 1, 1) := by decide +kernel
theorem dX0_change_1 : decode cX0_change 1 = .ok (.ifCond .lt 11, 3) := by decide +kernel
theorem dX0_change_4 : decode cX0_change 4 = .ok (.iload_n 1, 1) := by decide +kernel
theorem dX0_change_5 : decode cX0_change 5 = .ok (.aload_n 0, 1) := by decide +kernel
theorem dX0_change_6 : decode cX0_change 6 = .ok (.getfield 15, 3) := by decide +kernel
theorem dX0_change_9 : decode cX0_change 9 = .ok (.if_icmp .lt 5, 3) := by decide +kernel
theorem dX0_change_12 : decode cX0_change 12 = .ok (.iconst 0, 1) := by decide +kernel
theorem dX0_change_13 : decode cX0_change 13 = .ok (.ireturn, 1) := by decide +kernel
theorem dX0_change_14 : decode cX0_change 14 = .ok (.aload_n 0, 1) := by decide +kernel
theorem dX0_change_15 : decode cX0_change 15 = .ok (.getfield 9, 3) := by decide +kernel
theorem dX0_change_18 : decode cX0_change 18 = .ok (.iload_n 1, 1) := by decide +kernel
theorem dX0_change_19 : decode cX0_change 19 = .ok (.iload_n 2, 1) := by decide +kernel
theorem dX0_change_20 : decode cX0_change 20 = .ok (.iastore, 1) := by decide +kernel
theorem dX0_change_21 : decode cX0_change 21 = .ok (.iconst 1, 1) := by decide +kernel
theorem dX0_change_22 : decode cX0_change 22 = .ok (.ireturn, 1) := by decide +kernel
theorem dX0_append_0 : decode cX0_append 0 = .ok (.aload_n 0, 1) := by decide +kernel
theorem dX0_append_1 : decode cX0_append 1 = .ok (.getfield 15, 3) := by decide +kernel
theorem dX0_append_4 : decode cX0_append 4 = .ok (.bipush 127, 2) := by decide +kernel
theorem dX0_append_6 : decode cX0_append 6 = .ok (.if_icmp .ge 23, 3) := by decide +kernel
theorem dX0_append_9 : decode cX0_append 9 = .ok (.aload_n 0, 1) := by decide +kernel
theorem dX0_append_10 : decode cX0_append 10 = .ok (.getfield 9, 3) := by decide +kernel
theorem dX0_append_13 : decode cX0_append 13 = .ok (.aload_n 0, 1) := by decide +kernel
theorem dX0_append_14 : decode cX0_append 14 = .ok (.getfield 15, 3) := by decide +kernel
theorem dX0_append_17 : decode cX0_append 17 = .ok (.iload_n 1, 1) := by decide +kernel
theorem dX0_append_18 : decode cX0_append 18 = .ok (.iastore, 1) := by decide +kernel
theorem dX0_append_19 : decode cX0_append 19 = .ok (.aload_n 0, 1) := by decide +kernel
theorem dX0_append_20 : decode cX0_append 20 = .ok (.dup, 1) := by decide +kernel
theorem dX0_append_21 : decode cX0_append 21 = .ok (.getfield 15, 3) := by decide +kernel
theorem dX0_append_24 : decode cX0_append 24 = .ok (.iconst 1, 1) := by decide +kernel
theorem dX0_append_25 : decode cX0_append 25 = .ok (.iadd, 1) := by decide +kernel
theorem dX0_append_26 : decode cX0_append 26 = .ok (.putfield 15, 3) := by decide +kernel
theorem dX0_append_29 : decode cX0_append 29 = .ok (.return_, 1) := by decide +kernel
set_option maxRecDepth 20000 in
theorem ggX0_appendNumber_X0_append : GoodIn wsX0_appendNumber wsX0_append := goodIn_r _ [5, 6, 7, 8, 9] (by decide +kernel) (by decide +kernel)
set_option maxRecDepth 20000 in
theorem gX0_appendNumber_X0_append : GoodIn wsX0_appendNumber (wsV RX0 19 RX0 yX0_append wsX0_append) := goodIn_app (goodIn_of _ (by decide +kernel)) ggX0_appendNumber_X0_append
theorem dX0_appendNumber_0 : decode cX0_appendNumber 0 = .ok (.iload_n 3, 1) := by decide +kernel
theorem dX0_appendNumber_1 : decode cX0_appendNumber 1 = .ok (.iconst 1, 1) := by decide +kernel
theorem dX0_appendNumber_2 : decode cX0_appendNumber 2 = .ok (.isub, 1) := by decide +kernel
theorem dX0_appendNumber_3 : decode cX0_appendNumber 3 = .ok (.istore 4, 2) := by decide +kernel
theorem dX0_appendNumber_5 : decode cX0_appendNumber 5 = .ok (.iload 4, 2) := by decide +kernel
theorem dX0_appendNumber_7 : decode cX0_appendNumber 7 = .ok (.ifCond .lt 25, 3) := by decide +kernel
theorem dX0_appendNumber_10 : decode cX0_appendNumber 10 = .ok (.aload_n 0, 1) := by decide +kernel
theorem dX0_appendNumber_11 : decode cX0_appendNumber 11 = .ok (.lload_n 1, 1) := by decide +kernel
theorem dX0_appendNumber_12 : decode cX0_appendNumber 12 = .ok (.bipush 8, 2) := by decide +kernel
theorem dX0_appendNumber_14 : decode cX0_appendNumber 14 = .ok (.iload 4, 2) := by decide +kernel
theorem dX0_appendNumber_16 : decode cX0_appendNumber 16 = .ok (.imul, 1) := by decide +kernel
theorem dX0_appendNumber_17 : decode cX0_appendNumber 17 = .ok (.lushr, 1) := by decide +kernel
theorem dX0_appendNumber_18 : decode cX0_appendNumber 18 = .ok (.l2i, 1) := by decide +kernel
theorem dX0_appendNumber_19 : decode cX0_appendNumber 19 = .ok (.sipush 255, 3) := by decide +kernel
theorem dX0_appendNumber_22 : decode cX0_appendNumber 22 = .ok (.iand, 1) := by decide +kernel
theorem dX0_appendNumber_23 : decode cX0_appendNumber 23 = .ok (.invokevirtual 19, 3) := by decide +kernel
theorem dX0_appendNumber_26 : decode cX0_appendNumber 26 = .ok (.iinc 4 (-1), 3) := by decide +kernel
theorem dX0_appendNumber_29 : decode cX0_appendNumber 29 = .ok (.goto (-24), 3) := by decide +kernel
theorem dX0_appendNumber_32 : decode cX0_appendNumber 32 = .ok (.return_, 1) := by decide +kernel
set_option maxRecDepth 20000 in
theorem ggX0_numberAt_X0_at : GoodIn wsX0_numberAt wsX0_at := goodIn_r _ [5, 6, 7, 8, 9] (by decide +kernel) (by decide +kernel)
set_option maxRecDepth 20000 in
theorem gX0_numberAt_X0_at : GoodIn wsX0_numberAt (wsV RX0 23 RX0 yX0_at wsX0_at) := goodIn_app (goodIn_of _ (by decide +kernel)) ggX0_numberAt_X0_at
theorem dX0_numberAt_0 : decode cX0_numberAt 0 = .ok (.lconst 0, 1) := by decide +kernel
theorem dX0_numberAt_1 : decode cX0_numberAt 1 = .ok (.lstore_n 3, 1) := by decide +kernel
theorem dX0_numberAt_2 : decode cX0_numberAt 2 = .ok (.iconst 0, 1) := by decide +kernel
theorem dX0_numberAt_3 : decode cX0_numberAt 3 = .ok (.istore 5, 2) := by decide +kernel
theorem dX0_numberAt_5 : decode cX0_numberAt 5 = .ok (.iload 5, 2) := by decide +kernel
theorem dX0_numberAt_7 : decode cX0_numberAt 7 = .ok (.iload_n 2, 1) := by decide +kernel
theorem dX0_numberAt_8 : decode cX0_numberAt 8 = .ok (.if_icmp .ge 28, 3) := by decide +kernel
theorem dX0_numberAt_11 : decode cX0_numberAt 11 = .ok (.lload_n 3, 1) := by decide +kernel
theorem dX0_numberAt_12 : decode cX0_numberAt 12 = .ok (.bipush 8, 2) := by decide +kernel
theorem dX0_numberAt_14 : decode cX0_numberAt 14 = .ok (.lshl, 1) := by decide +kernel
theorem dX0_numberAt_15 : decode cX0_numberAt 15 = .ok (.aload_n 0, 1) := by decide +kernel
theorem dX0_numberAt_16 : decode cX0_numberAt 16 = .ok (.iload_n 1, 1) := by decide +kernel
theorem dX0_numberAt_17 : decode cX0_numberAt 17 = .ok (.iload 5, 2) := by decide +kernel
theorem dX0_numberAt_19 : decode cX0_numberAt 19 = .ok (.iadd, 1) := by decide +kernel
theorem dX0_numberAt_20 : decode cX0_numberAt 20 = .ok (.invokevirtual 23, 3) := by decide +kernel
theorem dX0_numberAt_23 : decode cX0_numberAt 23 = .ok (.sipush 255, 3) := by decide +kernel
theorem dX0_numberAt_26 : decode cX0_numberAt 26 = .ok (.iand, 1) := by decide +kernel
theorem dX0_numberAt_27 : decode cX0_numberAt 27 = .ok (.i2l, 1) := by decide +kernel
theorem dX0_numberAt_28 : decode cX0_numberAt 28 = .ok (.lor, 1) := by decide +kernel
theorem dX0_numberAt_29 : decode cX0_numberAt 29 = .ok (.lstore_n 3, 1) := by decide +kernel
theorem dX0_numberAt_30 : decode cX0_numberAt 30 = .ok (.iinc 5 1, 3) := by decide +kernel
theorem dX0_numberAt_33 : decode cX0_numberAt 33 = .ok (.goto (-28), 3) := by decide +kernel
theorem dX0_numberAt_36 : decode cX0_numberAt 36 = .ok (.lload_n 3, 1) := by decide +kernel
theorem dX0_numberAt_37 : decode cX0_numberAt 37 = .ok (.lreturn, 1) := by decide +kernel
set_option maxRecDepth 20000 in
theorem ggX1_init_X5_init : GoodIn wsX1_init wsX5_init := goodIn_r _ [16, 17, 2, 3] (by decide +kernel) (by decide +kernel)
set_option maxRecDepth 20000 in
theorem gX1_init_X5_init_n25 : GoodIn wsX1_init (wsX5_init) := ggX1_init_X5_init
theorem dX1_init_0 : decode cX1_init 0 = .ok (.aload_n 0, 1) := by decide +kernel
theorem dX1_init_1 : decode cX1_init 1 = .ok (.invokespecial 3, 3) := by decide +kernel
theorem dX1_init_4 : decode cX1_init 4 = .ok (.aload_n 0, 1) := by decide +kernel
theorem dX1_init_5 : decode cX1_init 5 = .ok (.bipush 32, 2) := by decide +kernel
theorem dX1_init_7 : decode cX1_init 7 = .ok (.newarray .int, 2) := by decide +kernel
theorem dX1_init_9 : decode cX1_init 9 = .ok (.putfield 9, 3) := by decide +kernel
theorem dX1_init_12 : decode cX1_init 12 = .ok (.aload_n 0, 1) := by decide +kernel
theorem dX1_init_13 : decode cX1_init 13 = .ok (.bipush 32, 2) := by decide +kernel
theorem dX1_init_15 : decode cX1_init 15 = .ok (.newarray .int, 2) := by decide +kernel
theorem dX1_init_17 : decode cX1_init 17 = .ok (.putfield 15, 3) := by decide +kernel
theorem dX1_init_20 : decode cX1_init 20 = .ok (.aload_n 0, 1) := by decide +kernel
theorem dX1_init_21 : decode cX1_init 21 = .ok (.bipush 32, 2) := by decide +kernel
theorem dX1_init_23 : decode cX1_init 23 = .ok (.newarray .int, 2) := by decide +kernel
theorem dX1_init_25 : decode cX1_init 25 = .ok (.putfield 20, 3) := by decide +kernel
theorem dX1_init_28 : decode cX1_init 28 = .ok (.aload_n 0, 1) := by decide +kernel
theorem dX1_init_29 : decode cX1_init 29 = .ok (.new 23, 3) := by decide +kernel
theorem dX1_init_32 : decode cX1_init 32 = .ok (.dup, 1) := by decide +kernel
theorem dX1_init_33 : decode cX1_init 33 = .ok (.invokespecial 25, 3) := by decide +kernel
theorem dX1_init_36 : decode cX1_init 36 = .ok (.putfield 26, 3) := by decide +kernel
theorem dX1_init_39 : decode cX1_init 39 = .ok (.aload_n 0, 1) := by decide +kernel
theorem dX1_init_40 : decode cX1_init 40 = .ok (.iload_n 1, 1) := by decide +kernel
theorem dX1_init_41 : decode cX1_init 41 = .ok (.putfield 30, 3) := by decide +kernel
theorem dX1_init_44 : decode cX1_init 44 = .ok (.aload_n 0, 1) := by decide +kernel
theorem dX1_init_45 : decode cX1_init 45 = .ok (.aload_n 2, 1) := by decide +kernel
theorem dX1_init_46 : decode cX1_init 46 = .ok (.putfield 34, 3) := by decide +kernel
theorem dX1_init_49 : decode cX1_init 49 = .ok (.aload_n 0, 1) := by decide +kernel
theorem dX1_init_50 : decode cX1_init 50 = .ok (.aload_n 3, 1) := by decide +kernel
theorem dX1_init_51 : decode cX1_init 51 = .ok (.putfield 38, 3) := by decide +kernel
theorem dX1_init_54 : decode cX1_init 54 = .ok (.return_, 1) := by decide +kernel
theorem dX1_epoch_0 : decode cX1_epoch 0 = .ok (.aload_n 0, 1) := by decide +kernel
theorem dX1_epoch_1 : decode cX1_epoch 1 = .ok (.getfield 42, 3) := by decide +kernel
theorem dX1_epoch_4 : decode cX1_epoch 4 = .ok (.ireturn, 1) := by decide +kernel
set_option maxRecDepth 20000 in
theorem ggX1_seenInWindow_X5_seenCount : GoodIn wsX1_seenInWindow wsX5_seenCount := goodIn_r _ [6, 7, 8, 9, 10, 11, 12, 13, 14, 24, 25] (by decide +kernel) (by decide +kernel)
set_option maxRecDepth 20000 in
theorem gX1_seenInWindow_X5_seenCount : GoodIn wsX1_seenInWindow (wsV RX1 45 RX5 yX5_seenCount wsX5_seenCount) := goodIn_app (goodIn_of _ (by decide +kernel)) ggX1_seenInWindow_X5_seenCount
theorem dX1_seenInWindow_0 : decode cX1_seenInWindow 0 = .ok (.aload_n 0, 1) := by decide +kernel
theorem dX1_seenInWindow_1 : decode cX1_seenInWindow 1 = .ok (.getfield 26, 3) := by decide +kernel
theorem dX1_seenInWindow_4 : decode cX1_seenInWindow 4 = .ok (.invokevirtual 45, 3) := by decide +kernel
theorem dX1_seenInWindow_7 : decode cX1_seenInWindow 7 = .ok (.ireturn, 1) := by decide +kernel
set_option maxRecDepth 20000 in
theorem ggX1_forget_X5_forget : GoodIn wsX1_forget wsX5_forget := goodIn_r _ [8, 9, 10, 20, 21] (by decide +kernel) (by decide +kernel)
set_option maxRecDepth 20000 in
theorem gX1_forget_X5_forget : GoodIn wsX1_forget (wsV RX1 53 RX5 yX5_forget wsX5_forget) := goodIn_app (goodIn_of _ (by decide +kernel)) ggX1_forget_X5_forget
theorem dX1_forget_0 : decode cX1_forget 0 = .ok (.aload_n 0, 1) := by decide +kernel
theorem dX1_forget_1 : decode cX1_forget 1 = .ok (.iconst 0, 1) := by decide +kernel
theorem dX1_forget_2 : decode cX1_forget 2 = .ok (.putfield 42, 3) := by decide +kernel
theorem dX1_forget_5 : decode cX1_forget 5 = .ok (.aload_n 0, 1) := by decide +kernel
theorem dX1_forget_6 : decode cX1_forget 6 = .ok (.lconst 0, 1) := by decide +kernel
theorem dX1_forget_7 : decode cX1_forget 7 = .ok (.putfield 49, 3) := by decide +kernel
theorem dX1_forget_10 : decode cX1_forget 10 = .ok (.aload_n 0, 1) := by decide +kernel
theorem dX1_forget_11 : decode cX1_forget 11 = .ok (.getfield 26, 3) := by decide +kernel
theorem dX1_forget_14 : decode cX1_forget 14 = .ok (.invokevirtual 53, 3) := by decide +kernel
theorem dX1_forget_17 : decode cX1_forget 17 = .ok (.return_, 1) := by decide +kernel
set_option maxRecDepth 20000 in
theorem ggX1_makeNextRoot_X2_begin : GoodIn wsX1_makeNextRoot wsX2_begin := goodIn_r _ [8, 9, 10, 11, 12, 7, 13, 14, 15, 16, 17, 18, 19, 20, 21, 22, 23, 24, 25, 70, 71, 72, 73, 74, 75, 76] (by decide +kernel) (by decide +kernel)
set_option maxRecDepth 20000 in
theorem gX1_makeNextRoot_X2_begin : GoodIn wsX1_makeNextRoot (wsV RX1 56 RX2 yX2_begin wsX2_begin) := goodIn_app (goodIn_of _ (by decide +kernel)) ggX1_makeNextRoot_X2_begin
set_option maxRecDepth 20000 in
theorem ggX1_makeNextRoot_X2_appendAll : GoodIn wsX1_makeNextRoot wsX2_appendAll := goodIn_r _ [29, 14, 21, 22, 23, 18, 24, 20, 25, 70, 71, 72, 73, 74, 75, 76] (by decide +kernel) (by decide +kernel)
set_option maxRecDepth 20000 in
theorem gX1_makeNextRoot_X2_appendAll : GoodIn wsX1_makeNextRoot (wsV RX1 62 RX2 yX2_appendAll wsX2_appendAll) := goodIn_app (goodIn_of _ (by decide +kernel)) ggX1_makeNextRoot_X2_appendAll
set_option maxRecDepth 20000 in
theorem ggX1_makeNextRoot_X2_finish : GoodIn wsX1_makeNextRoot wsX2_finish := goodIn_r _ [33, 14, 34, 35, 36, 37, 18, 38, 39, 40, 20, 41, 42, 43, 44, 45, 46, 22, 23, 24, 25, 47, 48, 49, 50, 51, 52, 53, 54, 55, 56, 57, 58, 59, 10, 11, 12, 7, 13, 9, 15, 16, 17, 19, 21, 60, 27, 28, 29, 70, 71, 72, 73, 74, 75, 76] (by decide +kernel) (by decide +kernel)
set_option maxRecDepth 20000 in
theorem gX1_makeNextRoot_X2_finish : GoodIn wsX1_makeNextRoot (wsV RX1 65 RX2 yX2_finish wsX2_finish) := goodIn_app (goodIn_of _ (by decide +kernel)) ggX1_makeNextRoot_X2_finish
theorem dX1_makeNextRoot_0 : decode cX1_makeNextRoot 0 = .ok (.aload_n 0, 1) := by decide +kernel
theorem dX1_makeNextRoot_1 : decode cX1_makeNextRoot 1 = .ok (.getfield 34, 3) := by decide +kernel
theorem dX1_makeNextRoot_4 : decode cX1_makeNextRoot 4 = .ok (.aload_n 0, 1) := by decide +kernel
theorem dX1_makeNextRoot_5 : decode cX1_makeNextRoot 5 = .ok (.getfield 15, 3) := by decide +kernel
theorem dX1_makeNextRoot_8 : decode cX1_makeNextRoot 8 = .ok (.invokevirtual 56, 3) := by decide +kernel
theorem dX1_makeNextRoot_11 : decode cX1_makeNextRoot 11 = .ok (.aload_n 0, 1) := by decide +kernel
theorem dX1_makeNextRoot_12 : decode cX1_makeNextRoot 12 = .ok (.getfield 34, 3) := by decide +kernel
theorem dX1_makeNextRoot_15 : decode cX1_makeNextRoot 15 = .ok (.aload_n 0, 1) := by decide +kernel
theorem dX1_makeNextRoot_16 : decode cX1_makeNextRoot 16 = .ok (.getfield 9, 3) := by decide +kernel
theorem dX1_makeNextRoot_19 : decode cX1_makeNextRoot 19 = .ok (.invokevirtual 62, 3) := by decide +kernel
theorem dX1_makeNextRoot_22 : decode cX1_makeNextRoot 22 = .ok (.aload_n 0, 1) := by decide +kernel
theorem dX1_makeNextRoot_23 : decode cX1_makeNextRoot 23 = .ok (.getfield 34, 3) := by decide +kernel
theorem dX1_makeNextRoot_26 : decode cX1_makeNextRoot 26 = .ok (.aload_n 1, 1) := by decide +kernel
theorem dX1_makeNextRoot_27 : decode cX1_makeNextRoot 27 = .ok (.invokevirtual 65, 3) := by decide +kernel
theorem dX1_makeNextRoot_30 : decode cX1_makeNextRoot 30 = .ok (.return_, 1) := by decide +kernel
set_option maxRecDepth 20000 in
theorem ggX1_startEpoch_X1_makeKey : GoodIn wsX1_startEpoch wsX1_makeKey := goodIn_r _ [8, 9, 10, 11, 12, 13, 14, 15, 16, 17, 18, 19, 20, 21, 22, 23, 24, 25, 26, 27, 28, 29, 30, 31, 32, 33, 34, 35, 36, 37, 38, 39, 40, 41, 42, 43, 44, 45, 46, 47, 48, 49, 50, 51, 52, 53, 54, 55, 56, 57, 58, 59, 60, 61, 62, 63, 64, 65, 66, 67, 68, 69, 70, 84, 85, 86, 87, 88, 89, 90, 91, 92, 93, 94, 95, 96, 97, 98, 99] (by decide +kernel) (by decide +kernel)
set_option maxRecDepth 20000 in
theorem gX1_startEpoch_X1_makeKey : GoodIn wsX1_startEpoch (wsV RX1 68 RX1 yX1_makeKey wsX1_makeKey) := goodIn_app (goodIn_of _ (by decide +kernel)) ggX1_startEpoch_X1_makeKey
set_option maxRecDepth 20000 in
theorem ggX1_startEpoch_X1_forget : GoodIn wsX1_startEpoch wsX1_forget := goodIn_r _ [74, 3, 75, 76, 77, 78, 79, 80, 81, 82, 83, 84, 85, 86, 87, 88, 89, 90, 91, 92, 100, 101] (by decide +kernel) (by decide +kernel)
set_option maxRecDepth 20000 in
theorem gX1_startEpoch_X1_forget : GoodIn wsX1_startEpoch (wsV RX1 72 RX1 yX1_forget wsX1_forget) := goodIn_app (goodIn_of _ (by decide +kernel)) ggX1_startEpoch_X1_forget
theorem dX1_startEpoch_0 : decode cX1_startEpoch 0 = .ok (.aload_n 0, 1) := by decide +kernel
theorem dX1_startEpoch_1 : decode cX1_startEpoch 1 = .ok (.aload_n 2, 1) := by decide +kernel
theorem dX1_startEpoch_2 : decode cX1_startEpoch 2 = .ok (.iconst 0, 1) := by decide +kernel
theorem dX1_startEpoch_3 : decode cX1_startEpoch 3 = .ok (.aload_n 0, 1) := by decide +kernel
theorem dX1_startEpoch_4 : decode cX1_startEpoch 4 = .ok (.getfield 9, 3) := by decide +kernel
theorem dX1_startEpoch_7 : decode cX1_startEpoch 7 = .ok (.invokevirtual 68, 3) := by decide +kernel
theorem dX1_startEpoch_10 : decode cX1_startEpoch 10 = .ok (.aload_n 0, 1) := by decide +kernel
theorem dX1_startEpoch_11 : decode cX1_startEpoch 11 = .ok (.aload_n 2, 1) := by decide +kernel
theorem dX1_startEpoch_12 : decode cX1_startEpoch 12 = .ok (.iconst 1, 1) := by decide +kernel
theorem dX1_startEpoch_13 : decode cX1_startEpoch 13 = .ok (.aload_n 0, 1) := by decide +kernel
theorem dX1_startEpoch_14 : decode cX1_startEpoch 14 = .ok (.getfield 15, 3) := by decide +kernel
theorem dX1_startEpoch_17 : decode cX1_startEpoch 17 = .ok (.invokevirtual 68, 3) := by decide +kernel
theorem dX1_startEpoch_20 : decode cX1_startEpoch 20 = .ok (.aload_n 0, 1) := by decide +kernel
theorem dX1_startEpoch_21 : decode cX1_startEpoch 21 = .ok (.invokevirtual 72, 3) := by decide +kernel
theorem dX1_startEpoch_24 : decode cX1_startEpoch 24 = .ok (.aload_n 0, 1) := by decide +kernel
theorem dX1_startEpoch_25 : decode cX1_startEpoch 25 = .ok (.iload_n 1, 1) := by decide +kernel
theorem dX1_startEpoch_26 : decode cX1_startEpoch 26 = .ok (.putfield 42, 3) := by decide +kernel
theorem dX1_startEpoch_29 : decode cX1_startEpoch 29 = .ok (.return_, 1) := by decide +kernel
set_option maxRecDepth 20000 in
theorem ggX1_write_X0_size : GoodIn wsX1_write wsX0_size := goodIn_r _ [11, 12, 149, 150] (by decide +kernel) (by decide +kernel)
set_option maxRecDepth 20000 in
theorem gX1_write_X0_size : GoodIn wsX1_write (wsV RX1 73 RX0 yX0_size wsX0_size) := goodIn_app (goodIn_of _ (by decide +kernel)) ggX1_write_X0_size
set_option maxRecDepth 20000 in
theorem ggX1_write_X0_clear : GoodIn wsX1_write wsX0_clear := goodIn_r _ [16, 12, 149, 150] (by decide +kernel) (by decide +kernel)
set_option maxRecDepth 20000 in
theorem gX1_write_X0_clear : GoodIn wsX1_write (wsV RX1 78 RX0 yX0_clear wsX0_clear) := goodIn_app (goodIn_of _ (by decide +kernel)) ggX1_write_X0_clear
set_option maxRecDepth 20000 in
theorem ggX1_write_X0_append : GoodIn wsX1_write wsX0_append := goodIn_r _ [20, 12, 21, 149, 150] (by decide +kernel) (by decide +kernel)
set_option maxRecDepth 20000 in
theorem gX1_write_X0_append : GoodIn wsX1_write (wsV RX1 81 RX0 yX0_append wsX0_append) := goodIn_app (goodIn_of _ (by decide +kernel)) ggX1_write_X0_append
set_option maxRecDepth 20000 in
theorem ggX1_write_X0_appendNumber : GoodIn wsX1_write wsX0_appendNumber := goodIn_r _ [25, 26, 18, 19, 10, 20, 12, 21, 149, 150] (by decide +kernel) (by decide +kernel)
set_option maxRecDepth 20000 in
theorem gX1_write_X0_appendNumber : GoodIn wsX1_write (wsV RX1 85 RX0 yX0_appendNumber wsX0_appendNumber) := goodIn_app (goodIn_of _ (by decide +kernel)) ggX1_write_X0_appendNumber
set_option maxRecDepth 20000 in
theorem ggX1_write_X3_begin : GoodIn wsX1_write wsX3_begin := goodIn_r _ [31, 32, 33, 34, 35, 36, 30, 37, 38, 39, 40, 41, 42, 43, 44, 45, 46, 10, 47, 12, 21, 151, 152, 153, 149, 150] (by decide +kernel) (by decide +kernel)
set_option maxRecDepth 20000 in
theorem gX1_write_X3_begin : GoodIn wsX1_write (wsV RX1 89 RX3 yX3_begin wsX3_begin) := goodIn_app (goodIn_of _ (by decide +kernel)) ggX1_write_X3_begin
set_option maxRecDepth 20000 in
theorem ggX1_write_X0_at : GoodIn wsX1_write wsX0_at := goodIn_r _ [47, 12, 21, 149, 150] (by decide +kernel) (by decide +kernel)
set_option maxRecDepth 20000 in
theorem gX1_write_X0_at : GoodIn wsX1_write (wsV RX1 94 RX0 yX0_at wsX0_at) := goodIn_app (goodIn_of _ (by decide +kernel)) ggX1_write_X0_at
set_option maxRecDepth 20000 in
theorem ggX1_write_X3_next : GoodIn wsX1_write wsX3_next := goodIn_r _ [52, 34, 32, 53, 54, 55, 56, 30, 57, 58, 59, 60, 61, 62, 63, 64, 65, 66, 67, 68, 69, 70, 71, 72, 151, 152, 153] (by decide +kernel) (by decide +kernel)
set_option maxRecDepth 20000 in
theorem gX1_write_X3_next : GoodIn wsX1_write (wsV RX1 98 RX3 yX3_next wsX3_next) := goodIn_app (goodIn_of _ (by decide +kernel)) ggX1_write_X3_next
set_option maxRecDepth 20000 in
theorem ggX1_write_X1_makeTag : GoodIn wsX1_write wsX1_makeTag := goodIn_r _ [77, 78, 79, 6, 80, 81, 82, 83, 84, 85, 86, 87, 88, 89, 90, 91, 92, 93, 94, 95, 96, 97, 98, 99, 100, 101, 48, 45, 46, 10, 47, 12, 21, 102, 103, 104, 105, 106, 107, 108, 109, 110, 111, 112, 113, 114, 115, 116, 117, 118, 119, 120, 121, 122, 123, 124, 125, 126, 127, 128, 129, 130, 131, 132, 133, 134, 135, 136, 137, 138, 139, 140, 141, 142, 143, 144, 145, 146, 147, 148, 154, 155, 156, 157, 158, 159, 160, 149, 150] (by decide +kernel) (by decide +kernel)
set_option maxRecDepth 20000 in
theorem gX1_write_X1_makeTag : GoodIn wsX1_write (wsV RX1 101 RX1 yX1_makeTag wsX1_makeTag) := goodIn_app (goodIn_of _ (by decide +kernel)) ggX1_write_X1_makeTag
theorem dX1_write_0 : decode cX1_write 0 = .ok (.aload_n 1, 1) := by decide +kernel
theorem dX1_write_1 : decode cX1_write 1 = .ok (.invokevirtual 73, 3) := by decide +kernel
theorem dX1_write_4 : decode cX1_write 4 = .ok (.istore_n 3, 1) := by decide +kernel
theorem dX1_write_5 : decode cX1_write 5 = .ok (.aload_n 2, 1) := by decide +kernel
theorem dX1_write_6 : decode cX1_write 6 = .ok (.invokevirtual 78, 3) := by decide +kernel
theorem dX1_write_9 : decode cX1_write 9 = .ok (.aload_n 2, 1) := by decide +kernel
theorem dX1_write_10 : decode cX1_write 10 = .ok (.aload_n 0, 1) := by decide +kernel
theorem dX1_write_11 : decode cX1_write 11 = .ok (.getfield 30, 3) := by decide +kernel
theorem dX1_write_14 : decode cX1_write 14 = .ok (.invokevirtual 81, 3) := by decide +kernel
theorem dX1_write_17 : decode cX1_write 17 = .ok (.aload_n 2, 1) := by decide +kernel
theorem dX1_write_18 : decode cX1_write 18 = .ok (.aload_n 0, 1) := by decide +kernel
theorem dX1_write_19 : decode cX1_write 19 = .ok (.getfield 42, 3) := by decide +kernel
theorem dX1_write_22 : decode cX1_write 22 = .ok (.i2l, 1) := by decide +kernel
theorem dX1_write_23 : decode cX1_write 23 = .ok (.iconst 4, 1) := by decide +kernel
theorem dX1_write_24 : decode cX1_write 24 = .ok (.invokevirtual 85, 3) := by decide +kernel
theorem dX1_write_27 : decode cX1_write 27 = .ok (.aload_n 2, 1) := by decide +kernel
theorem dX1_write_28 : decode cX1_write 28 = .ok (.aload_n 0, 1) := by decide +kernel
theorem dX1_write_29 : decode cX1_write 29 = .ok (.getfield 49, 3) := by decide +kernel
theorem dX1_write_32 : decode cX1_write 32 = .ok (.bipush 8, 2) := by decide +kernel
theorem dX1_write_34 : decode cX1_write 34 = .ok (.invokevirtual 85, 3) := by decide +kernel
theorem dX1_write_37 : decode cX1_write 37 = .ok (.aload_n 2, 1) := by decide +kernel
theorem dX1_write_38 : decode cX1_write 38 = .ok (.iload_n 3, 1) := by decide +kernel
theorem dX1_write_39 : decode cX1_write 39 = .ok (.i2l, 1) := by decide +kernel
theorem dX1_write_40 : decode cX1_write 40 = .ok (.iconst 2, 1) := by decide +kernel
theorem dX1_write_41 : decode cX1_write 41 = .ok (.invokevirtual 85, 3) := by decide +kernel
theorem dX1_write_44 : decode cX1_write 44 = .ok (.aload_n 0, 1) := by decide +kernel
theorem dX1_write_45 : decode cX1_write 45 = .ok (.getfield 38, 3) := by decide +kernel
theorem dX1_write_48 : decode cX1_write 48 = .ok (.aload_n 0, 1) := by decide +kernel
theorem dX1_write_49 : decode cX1_write 49 = .ok (.getfield 9, 3) := by decide +kernel
theorem dX1_write_52 : decode cX1_write 52 = .ok (.aload_n 2, 1) := by decide +kernel
theorem dX1_write_53 : decode cX1_write 53 = .ok (.invokevirtual 89, 3) := by decide +kernel
theorem dX1_write_56 : decode cX1_write 56 = .ok (.iconst 0, 1) := by decide +kernel
theorem dX1_write_57 : decode cX1_write 57 = .ok (.istore 4, 2) := by decide +kernel
theorem dX1_write_59 : decode cX1_write 59 = .ok (.iload 4, 2) := by decide +kernel
theorem dX1_write_61 : decode cX1_write 61 = .ok (.iload_n 3, 1) := by decide +kernel
theorem dX1_write_62 : decode cX1_write 62 = .ok (.if_icmp .ge 27, 3) := by decide +kernel
theorem dX1_write_65 : decode cX1_write 65 = .ok (.aload_n 2, 1) := by decide +kernel
theorem dX1_write_66 : decode cX1_write 66 = .ok (.aload_n 1, 1) := by decide +kernel
theorem dX1_write_67 : decode cX1_write 67 = .ok (.iload 4, 2) := by decide +kernel
theorem dX1_write_69 : decode cX1_write 69 = .ok (.invokevirtual 94, 3) := by decide +kernel
theorem dX1_write_72 : decode cX1_write 72 = .ok (.aload_n 0, 1) := by decide +kernel
theorem dX1_write_73 : decode cX1_write 73 = .ok (.getfield 38, 3) := by decide +kernel
theorem dX1_write_76 : decode cX1_write 76 = .ok (.invokevirtual 98, 3) := by decide +kernel
theorem dX1_write_79 : decode cX1_write 79 = .ok (.ixor, 1) := by decide +kernel
theorem dX1_write_80 : decode cX1_write 80 = .ok (.invokevirtual 81, 3) := by decide +kernel
theorem dX1_write_83 : decode cX1_write 83 = .ok (.iinc 4 1, 3) := by decide +kernel
theorem dX1_write_86 : decode cX1_write 86 = .ok (.goto (-27), 3) := by decide +kernel
theorem dX1_write_89 : decode cX1_write 89 = .ok (.aload_n 0, 1) := by decide +kernel
theorem dX1_write_90 : decode cX1_write 90 = .ok (.aload_n 2, 1) := by decide +kernel
theorem dX1_write_91 : decode cX1_write 91 = .ok (.aload_n 2, 1) := by decide +kernel
theorem dX1_write_92 : decode cX1_write 92 = .ok (.invokevirtual 73, 3) := by decide +kernel
theorem dX1_write_95 : decode cX1_write 95 = .ok (.invokevirtual 101, 3) := by decide +kernel
theorem dX1_write_98 : decode cX1_write 98 = .ok (.iconst 0, 1) := by decide +kernel
theorem dX1_write_99 : decode cX1_write 99 = .ok (.istore 4, 2) := by decide +kernel
theorem dX1_write_101 : decode cX1_write 101 = .ok (.iload 4, 2) := by decide +kernel
theorem dX1_write_103 : decode cX1_write 103 = .ok (.bipush 16, 2) := by decide +kernel
theorem dX1_write_105 : decode cX1_write 105 = .ok (.if_icmp .ge 20, 3) := by decide +kernel
theorem dX1_write_108 : decode cX1_write 108 = .ok (.aload_n 2, 1) := by decide +kernel
theorem dX1_write_109 : decode cX1_write 109 = .ok (.aload_n 0, 1) := by decide +kernel
theorem dX1_write_110 : decode cX1_write 110 = .ok (.getfield 20, 3) := by decide +kernel
theorem dX1_write_113 : decode cX1_write 113 = .ok (.iload 4, 2) := by decide +kernel
theorem dX1_write_115 : decode cX1_write 115 = .ok (.iaload, 1) := by decide +kernel
theorem dX1_write_116 : decode cX1_write 116 = .ok (.invokevirtual 81, 3) := by decide +kernel
theorem dX1_write_119 : decode cX1_write 119 = .ok (.iinc 4 1, 3) := by decide +kernel
theorem dX1_write_122 : decode cX1_write 122 = .ok (.goto (-21), 3) := by decide +kernel
theorem dX1_write_125 : decode cX1_write 125 = .ok (.aload_n 0, 1) := by decide +kernel
theorem dX1_write_126 : decode cX1_write 126 = .ok (.dup, 1) := by decide +kernel
theorem dX1_write_127 : decode cX1_write 127 = .ok (.getfield 49, 3) := by decide +kernel
theorem dX1_write_130 : decode cX1_write 130 = .ok (.lconst 1, 1) := by decide +kernel
theorem dX1_write_131 : decode cX1_write 131 = .ok (.ladd, 1) := by decide +kernel
theorem dX1_write_132 : decode cX1_write 132 = .ok (.putfield 49, 3) := by decide +kernel
theorem dX1_write_135 : decode cX1_write 135 = .ok (.return_, 1) := by decide +kernel
set_option maxRecDepth 20000 in
theorem ggX1_judge_X1_hasRightShape : GoodIn wsX1_judge wsX1_hasRightShape := goodIn_r _ [7, 8, 9, 10, 11, 12, 13, 14, 15, 16, 17, 18, 19, 20, 21, 22, 23, 24, 115, 116, 117, 118, 119, 120, 121, 122, 123, 124, 125] (by decide +kernel) (by decide +kernel)
set_option maxRecDepth 20000 in
theorem gX1_judge_X1_hasRightShape : GoodIn wsX1_judge (wsV RX1 105 RX1 yX1_hasRightShape wsX1_hasRightShape) := goodIn_app (goodIn_of _ (by decide +kernel)) ggX1_judge_X1_hasRightShape
set_option maxRecDepth 20000 in
theorem ggX1_judge_X0_numberAt : GoodIn wsX1_judge wsX0_numberAt := goodIn_r _ [13, 14, 15, 16, 12, 17, 18, 19, 124, 125] (by decide +kernel) (by decide +kernel)
set_option maxRecDepth 20000 in
theorem gX1_judge_X0_numberAt : GoodIn wsX1_judge (wsV RX1 109 RX0 yX0_numberAt wsX0_numberAt) := goodIn_app (goodIn_of _ (by decide +kernel)) ggX1_judge_X0_numberAt
set_option maxRecDepth 20000 in
theorem ggX1_judge_X0_size : GoodIn wsX1_judge wsX0_size := goodIn_r _ [24, 18, 124, 125] (by decide +kernel) (by decide +kernel)
set_option maxRecDepth 20000 in
theorem gX1_judge_X0_size : GoodIn wsX1_judge (wsV RX1 73 RX0 yX0_size wsX0_size) := goodIn_app (goodIn_of _ (by decide +kernel)) ggX1_judge_X0_size
set_option maxRecDepth 20000 in
theorem ggX1_judge_X1_makeTag : GoodIn wsX1_judge wsX1_makeTag := goodIn_r _ [28, 29, 30, 31, 32, 33, 34, 35, 36, 37, 38, 39, 40, 41, 42, 43, 44, 45, 46, 47, 48, 49, 50, 51, 52, 53, 20, 15, 16, 12, 17, 18, 19, 54, 55, 56, 57, 58, 59, 60, 61, 62, 63, 64, 65, 66, 67, 68, 69, 70, 71, 72, 73, 74, 75, 76, 77, 78, 79, 80, 81, 82, 83, 84, 85, 86, 87, 88, 89, 90, 91, 115, 116, 117, 118, 119, 120, 121, 122, 123, 126, 127, 128, 129, 130, 131, 132, 124, 125] (by decide +kernel) (by decide +kernel)
set_option maxRecDepth 20000 in
theorem gX1_judge_X1_makeTag : GoodIn wsX1_judge (wsV RX1 101 RX1 yX1_makeTag wsX1_makeTag) := goodIn_app (goodIn_of _ (by decide +kernel)) ggX1_judge_X1_makeTag
set_option maxRecDepth 20000 in
theorem ggX1_judge_X1_tagStandsAt : GoodIn wsX1_judge wsX1_tagStandsAt := goodIn_r _ [95, 31, 20, 15, 16, 12, 17, 18, 19, 115, 116, 117, 118, 119, 120, 121, 122, 123, 124, 125] (by decide +kernel) (by decide +kernel)
set_option maxRecDepth 20000 in
theorem gX1_judge_X1_tagStandsAt : GoodIn wsX1_judge (wsV RX1 113 RX1 yX1_tagStandsAt wsX1_tagStandsAt) := goodIn_app (goodIn_of _ (by decide +kernel)) ggX1_judge_X1_tagStandsAt
set_option maxRecDepth 20000 in
theorem ggX1_judge_X5_isTooOld : GoodIn wsX1_judge wsX5_isTooOld := goodIn_r _ [100, 101, 102, 103, 104, 99, 105, 106, 107, 108, 109, 110, 133, 134] (by decide +kernel) (by decide +kernel)
set_option maxRecDepth 20000 in
theorem gX1_judge_X5_isTooOld : GoodIn wsX1_judge (wsV RX1 117 RX5 yX5_isTooOld wsX5_isTooOld) := goodIn_app (goodIn_of _ (by decide +kernel)) ggX1_judge_X5_isTooOld
set_option maxRecDepth 20000 in
theorem ggX1_judge_X5_wasSeen : GoodIn wsX1_judge wsX5_wasSeen := goodIn_r _ [114, 102, 101, 103, 104, 99, 105, 106, 107, 108, 109, 110, 133, 134] (by decide +kernel) (by decide +kernel)
set_option maxRecDepth 20000 in
theorem gX1_judge_X5_wasSeen : GoodIn wsX1_judge (wsV RX1 121 RX5 yX5_wasSeen wsX5_wasSeen) := goodIn_app (goodIn_of _ (by decide +kernel)) ggX1_judge_X5_wasSeen
