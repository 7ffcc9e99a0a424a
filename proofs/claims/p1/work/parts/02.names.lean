/-! ===== BEGIN printed: names, fields, word lists, decode rows ===== -/
def RX0 : String := "JoinDesk$Cursor"
def TX0 : u_T := fun k => match k with
  | 0 => ("JoinDesk$Cursor", "left", "LJoinDesk$Table;", true)
  | 1 => ("JoinDesk$Cursor", "right", "LJoinDesk$Table;", true)
  | 2 => ("JoinDesk$Cursor", "here", "LJoinDesk$Position;", true)
  | 3 => ("JoinDesk$Cursor", "marked", "LJoinDesk$Position;", true)
  | 4 => ("JoinDesk$Cursor", "hasMark", "Z", false)
  | 5 => ("JoinDesk$Cursor", "kind", "I", false)
  | _ => ("JoinDesk$Cursor", "cells", "J", false)
def tyX0 : Nat → FieldType := fun k => match k with
  | 0 => .object "JoinDesk$Table"
  | 1 => .object "JoinDesk$Table"
  | 2 => .object "JoinDesk$Position"
  | 3 => .object "JoinDesk$Position"
  | 4 => .boolean
  | 5 => .int
  | _ => .long
abbrev wsX00 : List Cond := u_ws RX0 TX0 7
theorem nmX0 : ∀ a, a < 7 → ∀ b, b < 7 → a ≠ b → (TX0 a).2.1 ≠ (TX0 b).2.1 := by decide +kernel
theorem tyX0_ok : ∀ k, k < 7 → parseFieldDescriptor (TX0 k).2.2.1 = some (tyX0 k) := by decide +kernel
abbrev cX0_init : ByteArray := prog_2_method_1_code
def yX0_init : MethodName := ⟨RX0, "<init>", "(LJoinDesk$Table;LJoinDesk$Table;)V"⟩
abbrev cX0_kindInUse : ByteArray := prog_2_method_2_code
def yX0_kindInUse : MethodName := ⟨RX0, "kindInUse", "()I"⟩
abbrev cX0_cellsRead : ByteArray := prog_2_method_3_code
def yX0_cellsRead : MethodName := ⟨RX0, "cellsRead", "()J"⟩
abbrev cX0_hasMark : ByteArray := prog_2_method_4_code
def yX0_hasMark : MethodName := ⟨RX0, "hasMark", "()Z"⟩
abbrev cX0_leftPlace : ByteArray := prog_2_method_5_code
def yX0_leftPlace : MethodName := ⟨RX0, "leftPlace", "()I"⟩
abbrev cX0_rightPlace : ByteArray := prog_2_method_6_code
def yX0_rightPlace : MethodName := ⟨RX0, "rightPlace", "()I"⟩
abbrev cX0_useKind : ByteArray := prog_2_method_7_code
def yX0_useKind : MethodName := ⟨RX0, "useKind", "(I)V"⟩
abbrev cX0_forgetMark : ByteArray := prog_2_method_8_code
def yX0_forgetMark : MethodName := ⟨RX0, "forgetMark", "()V"⟩
abbrev cX0_restart : ByteArray := prog_2_method_9_code
def yX0_restart : MethodName := ⟨RX0, "restart", "()V"⟩
abbrev cX0_setMark : ByteArray := prog_2_method_10_code
def yX0_setMark : MethodName := ⟨RX0, "setMark", "()I"⟩
abbrev cX0_goToMark : ByteArray := prog_2_method_11_code
def yX0_goToMark : MethodName := ⟨RX0, "goToMark", "()I"⟩
abbrev cX0_goOn : ByteArray := prog_2_method_12_code
def yX0_goOn : MethodName := ⟨RX0, "goOn", "()Z"⟩
abbrev cX0_goBefore : ByteArray := prog_2_method_13_code
def yX0_goBefore : MethodName := ⟨RX0, "goBefore", "(I)Z"⟩
abbrev cX0_rowsAhead : ByteArray := prog_2_method_14_code
def yX0_rowsAhead : MethodName := ⟨RX0, "rowsAhead", "()I"⟩
abbrev cX0_comeToNewKeys : ByteArray := prog_2_method_15_code
def yX0_comeToNewKeys : MethodName := ⟨RX0, "comeToNewKeys", "()V"⟩
abbrev cX0_firstOtherKey : ByteArray := prog_2_method_16_code
def yX0_firstOtherKey : MethodName := ⟨RX0, "firstOtherKey", "(LJoinDesk$Table;I)I"⟩
abbrev cX0_firstNotBelow : ByteArray := prog_2_method_17_code
def yX0_firstNotBelow : MethodName := ⟨RX0, "firstNotBelow", "(LJoinDesk$Table;I)I"⟩
abbrev cX0_readKey : ByteArray := prog_2_method_18_code
def yX0_readKey : MethodName := ⟨RX0, "readKey", "(LJoinDesk$Table;I)I"⟩
def RX1 : String := "JoinDesk$GroupBook"
def TX1 : u_T := fun k => match k with
  | 0 => ("JoinDesk$GroupBook", "room", "I", true)
  | 1 => ("JoinDesk$GroupBook", "facts", "[[J", true)
  | 2 => ("JoinDesk$GroupBook", "leftSpan", "LJoinDesk$Span;", true)
  | 3 => ("JoinDesk$GroupBook", "rightSpan", "LJoinDesk$Span;", true)
  | 4 => ("JoinDesk$GroupBook", "size", "I", false)
  | _ => ("JoinDesk$GroupBook", "told", "Z", false)
def tyX1 : Nat → FieldType := fun k => match k with
  | 0 => .int
  | 1 => .array (.array .long)
  | 2 => .object "JoinDesk$Span"
  | 3 => .object "JoinDesk$Span"
  | 4 => .int
  | _ => .boolean
abbrev wsX10 : List Cond := u_ws RX1 TX1 6
theorem nmX1 : ∀ a, a < 6 → ∀ b, b < 6 → a ≠ b → (TX1 a).2.1 ≠ (TX1 b).2.1 := by decide +kernel
theorem tyX1_ok : ∀ k, k < 6 → parseFieldDescriptor (TX1 k).2.2.1 = some (tyX1 k) := by decide +kernel
abbrev cX1_init : ByteArray := prog_3_method_1_code
def yX1_init : MethodName := ⟨RX1, "<init>", "(I)V"⟩
abbrev cX1_room : ByteArray := prog_3_method_2_code
def yX1_room : MethodName := ⟨RX1, "room", "()I"⟩
abbrev cX1_isTold : ByteArray := prog_3_method_3_code
def yX1_isTold : MethodName := ⟨RX1, "isTold", "()Z"⟩
abbrev cX1_has : ByteArray := prog_3_method_4_code
def yX1_has : MethodName := ⟨RX1, "has", "(I)Z"⟩
abbrev cX1_forget : ByteArray := prog_3_method_5_code
def yX1_forget : MethodName := ⟨RX1, "forget", "()V"⟩
abbrev cX1_fact : ByteArray := prog_3_method_6_code
def yX1_fact : MethodName := ⟨RX1, "fact", "(II)J"⟩
abbrev cX1_tell : ByteArray := prog_3_method_7_code
def yX1_tell : MethodName := ⟨RX1, "tell", "(LJoinDesk$Table;LJoinDesk$Table;)I"⟩
abbrev cX1_write : ByteArray := prog_3_method_8_code
def yX1_write : MethodName := ⟨RX1, "write", "(II)V"⟩
def RX2 : String := "JoinDesk$Position"
def TX2 : u_T := fun k => match k with
  | 0 => ("JoinDesk$Position", "leftFrom", "I", false)
  | 1 => ("JoinDesk$Position", "leftTo", "I", false)
  | 2 => ("JoinDesk$Position", "rightFrom", "I", false)
  | 3 => ("JoinDesk$Position", "rightTo", "I", false)
  | 4 => ("JoinDesk$Position", "leftAt", "I", false)
  | 5 => ("JoinDesk$Position", "rightAt", "I", false)
  | _ => ("JoinDesk$Position", "passed", "I", false)
def tyX2 : Nat → FieldType := fun k => match k with
  | 0 => .int
  | 1 => .int
  | 2 => .int
  | 3 => .int
  | 4 => .int
  | 5 => .int
  | _ => .int
abbrev wsX20 : List Cond := u_ws RX2 TX2 7
theorem nmX2 : ∀ a, a < 7 → ∀ b, b < 7 → a ≠ b → (TX2 a).2.1 ≠ (TX2 b).2.1 := by decide +kernel
theorem tyX2_ok : ∀ k, k < 7 → parseFieldDescriptor (TX2 k).2.2.1 = some (tyX2 k) := by decide +kernel
abbrev cX2_init : ByteArray := prog_4_method_1_code
def yX2_init : MethodName := ⟨RX2, "<init>", "()V"⟩
abbrev cX2_copy : ByteArray := prog_4_method_2_code
def yX2_copy : MethodName := ⟨RX2, "copy", "(LJoinDesk$Position;)V"⟩
abbrev cX2_stand : ByteArray := prog_4_method_3_code
def yX2_stand : MethodName := ⟨RX2, "stand", "(III)V"⟩
abbrev cX2_hasLeftRows : ByteArray := prog_4_method_4_code
def yX2_hasLeftRows : MethodName := ⟨RX2, "hasLeftRows", "()Z"⟩
abbrev cX2_hasRightRows : ByteArray := prog_4_method_5_code
def yX2_hasRightRows : MethodName := ⟨RX2, "hasRightRows", "()Z"⟩
abbrev cX2_fits : ByteArray := prog_4_method_6_code
def yX2_fits : MethodName := ⟨RX2, "fits", "(I)Z"⟩
abbrev cX2_enterFirstPair : ByteArray := prog_4_method_7_code
def yX2_enterFirstPair : MethodName := ⟨RX2, "enterFirstPair", "()V"⟩
abbrev cX2_enterNextPair : ByteArray := prog_4_method_8_code
def yX2_enterNextPair : MethodName := ⟨RX2, "enterNextPair", "()Z"⟩
def RX3 : String := "JoinDesk$Span"
def TX3 : u_T := fun k => match k with
  | 0 => ("JoinDesk$Span", "rows", "I", false)
  | 1 => ("JoinDesk$Span", "sum", "J", false)
  | 2 => ("JoinDesk$Span", "least", "J", false)
  | _ => ("JoinDesk$Span", "greatest", "J", false)
def tyX3 : Nat → FieldType := fun k => match k with
  | 0 => .int
  | 1 => .long
  | 2 => .long
  | _ => .long
abbrev wsX30 : List Cond := u_ws RX3 TX3 4
theorem nmX3 : ∀ a, a < 4 → ∀ b, b < 4 → a ≠ b → (TX3 a).2.1 ≠ (TX3 b).2.1 := by decide +kernel
theorem tyX3_ok : ∀ k, k < 4 → parseFieldDescriptor (TX3 k).2.2.1 = some (tyX3 k) := by decide +kernel
abbrev cX3_init : ByteArray := prog_5_method_1_code
def yX3_init : MethodName := ⟨RX3, "<init>", "()V"⟩
abbrev cX3_measure : ByteArray := prog_5_method_2_code
def yX3_measure : MethodName := ⟨RX3, "measure", "(LJoinDesk$Table;I)V"⟩
def RX4 : String := "JoinDesk$Table"
def TX4 : u_T := fun k => match k with
  | 0 => ("JoinDesk$Table", "room", "I", true)
  | 1 => ("JoinDesk$Table", "keys", "[I", true)
  | 2 => ("JoinDesk$Table", "values", "[I", true)
  | 3 => ("JoinDesk$Table", "order", "[I", true)
  | 4 => ("JoinDesk$Table", "partnerSums", "[I", true)
  | 5 => ("JoinDesk$Table", "loneSums", "[I", true)
  | 6 => ("JoinDesk$Table", "firstPartners", "[I", true)
  | 7 => ("JoinDesk$Table", "size", "I", false)
  | _ => ("JoinDesk$Table", "placed", "I", false)
def tyX4 : Nat → FieldType := fun k => match k with
  | 0 => .int
  | 1 => .array .int
  | 2 => .array .int
  | 3 => .array .int
  | 4 => .array .int
  | 5 => .array .int
  | 6 => .array .int
  | 7 => .int
  | _ => .int
abbrev wsX40 : List Cond := u_ws RX4 TX4 9
theorem nmX4 : ∀ a, a < 9 → ∀ b, b < 9 → a ≠ b → (TX4 a).2.1 ≠ (TX4 b).2.1 := by decide +kernel
theorem tyX4_ok : ∀ k, k < 9 → parseFieldDescriptor (TX4 k).2.2.1 = some (tyX4 k) := by decide +kernel
abbrev cX4_init : ByteArray := prog_6_method_1_code
def yX4_init : MethodName := ⟨RX4, "<init>", "(I)V"⟩
abbrev cX4_size : ByteArray := prog_6_method_2_code
def yX4_size : MethodName := ⟨RX4, "size", "()I"⟩
abbrev cX4_hasRoom : ByteArray := prog_6_method_3_code
def yX4_hasRoom : MethodName := ⟨RX4, "hasRoom", "()Z"⟩
abbrev cX4_has : ByteArray := prog_6_method_4_code
def yX4_has : MethodName := ⟨RX4, "has", "(I)Z"⟩
abbrev cX4_append : ByteArray := prog_6_method_5_code
def yX4_append : MethodName := ⟨RX4, "append", "(II)I"⟩
abbrev cX4_empty : ByteArray := prog_6_method_6_code
def yX4_empty : MethodName := ⟨RX4, "empty", "()V"⟩
abbrev cX4_keyAt : ByteArray := prog_6_method_7_code
def yX4_keyAt : MethodName := ⟨RX4, "keyAt", "(I)I"⟩
abbrev cX4_valueAt : ByteArray := prog_6_method_8_code
def yX4_valueAt : MethodName := ⟨RX4, "valueAt", "(I)I"⟩
abbrev cX4_numberAt : ByteArray := prog_6_method_9_code
def yX4_numberAt : MethodName := ⟨RX4, "numberAt", "(I)I"⟩
abbrev cX4_sortRows : ByteArray := prog_6_method_10_code
def yX4_sortRows : MethodName := ⟨RX4, "sortRows", "()V"⟩
abbrev cX4_putInOrder : ByteArray := prog_6_method_11_code
def yX4_putInOrder : MethodName := ⟨RX4, "putInOrder", "(I)V"⟩
abbrev cX4_findPartners : ByteArray := prog_6_method_12_code
def yX4_findPartners : MethodName := ⟨RX4, "findPartners", "(LJoinDesk$Table;)V"⟩
abbrev cX4_partnersBefore : ByteArray := prog_6_method_13_code
def yX4_partnersBefore : MethodName := ⟨RX4, "partnersBefore", "(I)I"⟩
abbrev cX4_loneBefore : ByteArray := prog_6_method_14_code
def yX4_loneBefore : MethodName := ⟨RX4, "loneBefore", "(I)I"⟩
abbrev cX4_firstPartnerOf : ByteArray := prog_6_method_15_code
def yX4_firstPartnerOf : MethodName := ⟨RX4, "firstPartnerOf", "(I)I"⟩
abbrev cX4_startsGroup : ByteArray := prog_6_method_16_code
def yX4_startsGroup : MethodName := ⟨RX4, "startsGroup", "(I)Z"⟩
abbrev cX4_groupStarts : ByteArray := prog_6_method_17_code
def yX4_groupStarts : MethodName := ⟨RX4, "groupStarts", "()I"⟩
def RX5 : String := "JoinDesk"
def TX5 : u_T := fun k => match k with
  | 0 => ("JoinDesk", "left", "LJoinDesk$Table;", true)
  | 1 => ("JoinDesk", "right", "LJoinDesk$Table;", true)
  | 2 => ("JoinDesk", "cursor", "LJoinDesk$Cursor;", true)
  | 3 => ("JoinDesk", "book", "LJoinDesk$GroupBook;", true)
  | _ => ("JoinDesk", "prepared", "Z", false)
def tyX5 : Nat → FieldType := fun k => match k with
  | 0 => .object "JoinDesk$Table"
  | 1 => .object "JoinDesk$Table"
  | 2 => .object "JoinDesk$Cursor"
  | 3 => .object "JoinDesk$GroupBook"
  | _ => .boolean
abbrev wsX50 : List Cond := u_ws RX5 TX5 5
theorem nmX5 : ∀ a, a < 5 → ∀ b, b < 5 → a ≠ b → (TX5 a).2.1 ≠ (TX5 b).2.1 := by decide +kernel
theorem tyX5_ok : ∀ k, k < 5 → parseFieldDescriptor (TX5 k).2.2.1 = some (tyX5 k) := by decide +kernel
abbrev cX5_init : ByteArray := prog_1_method_1_code
def yX5_init : MethodName := ⟨RX5, "<init>", "(III)V"⟩
abbrev cX5_add : ByteArray := prog_1_method_2_code
def yX5_add : MethodName := ⟨RX5, "add", "(ZII)I"⟩
abbrev cX5_prepare : ByteArray := prog_1_method_3_code
def yX5_prepare : MethodName := ⟨RX5, "prepare", "()V"⟩
abbrev cX5_kind : ByteArray := prog_1_method_4_code
def yX5_kind : MethodName := ⟨RX5, "kind", "(I)V"⟩
abbrev cX5_next : ByteArray := prog_1_method_5_code
def yX5_next : MethodName := ⟨RX5, "next", "()Z"⟩
abbrev cX5_pair : ByteArray := prog_1_method_6_code
def yX5_pair : MethodName := ⟨RX5, "pair", "(I)I"⟩
abbrev cX5_mark : ByteArray := prog_1_method_7_code
def yX5_mark : MethodName := ⟨RX5, "mark", "()I"⟩
abbrev cX5_back : ByteArray := prog_1_method_8_code
def yX5_back : MethodName := ⟨RX5, "back", "()I"⟩
abbrev cX5_seek : ByteArray := prog_1_method_9_code
def yX5_seek : MethodName := ⟨RX5, "seek", "(I)Z"⟩
abbrev cX5_rewind : ByteArray := prog_1_method_10_code
def yX5_rewind : MethodName := ⟨RX5, "rewind", "()V"⟩
abbrev cX5_count : ByteArray := prog_1_method_11_code
def yX5_count : MethodName := ⟨RX5, "count", "(I)J"⟩
abbrev cX5_rows : ByteArray := prog_1_method_12_code
def yX5_rows : MethodName := ⟨RX5, "rows", "(ZZ)I"⟩
abbrev cX5_groups : ByteArray := prog_1_method_13_code
def yX5_groups : MethodName := ⟨RX5, "groups", "()I"⟩
abbrev cX5_group : ByteArray := prog_1_method_14_code
def yX5_group : MethodName := ⟨RX5, "group", "(II)J"⟩
abbrev cX5_sorted : ByteArray := prog_1_method_15_code
def yX5_sorted : MethodName := ⟨RX5, "sorted", "(ZII)I"⟩
abbrev cX5_about : ByteArray := prog_1_method_16_code
def yX5_about : MethodName := ⟨RX5, "about", "(I)J"⟩
abbrev cX5_clear : ByteArray := prog_1_method_17_code
def yX5_clear : MethodName := ⟨RX5, "clear", "()V"⟩
abbrev cX5_tableOf : ByteArray := prog_1_method_18_code
def yX5_tableOf : MethodName := ⟨RX5, "tableOf", "(Z)LJoinDesk$Table;"⟩
abbrev cX5_roomFor : ByteArray := prog_1_method_19_code
def yX5_roomFor : MethodName := ⟨RX5, "roomFor", "(I)I"⟩
abbrev cX5_isBelow : ByteArray := prog_1_method_20_code
def yX5_isBelow : MethodName := ⟨RX5, "isBelow", "(II)Z"⟩
abbrev cX5_requireArgument : ByteArray := prog_1_method_21_code
def yX5_requireArgument : MethodName := ⟨RX5, "requireArgument", "(Z)V"⟩
abbrev cX5_requireState : ByteArray := prog_1_method_22_code
def yX5_requireState : MethodName := ⟨RX5, "requireState", "(Z)V"⟩
abbrev cX5_pairsBefore : ByteArray := prog_1_method_23_code
def yX5_pairsBefore : MethodName := ⟨RX5, "pairsBefore", "(LJoinDesk$Table;LJoinDesk$Table;III)I"⟩
def RX6 : String := "JoinDeskModel"
def TX6 : u_T := fun k => match k with
  | 0 => ("JoinDeskModel", "code", "I", false)
  | 1 => ("JoinDeskModel", "most", "[I", true)
  | 2 => ("JoinDeskModel", "room", "I", true)
  | 3 => ("JoinDeskModel", "keys", "[I", true)
  | 4 => ("JoinDeskModel", "values", "[I", true)
  | 5 => ("JoinDeskModel", "order", "[I", true)
  | 6 => ("JoinDeskModel", "many", "[I", true)
  | 7 => ("JoinDeskModel", "prepared", "Z", false)
  | 8 => ("JoinDeskModel", "grouped", "Z", false)
  | 9 => ("JoinDeskModel", "kind", "I", false)
  | 10 => ("JoinDeskModel", "cells", "J", false)
  | 11 => ("JoinDeskModel", "at", "[I", true)
  | 12 => ("JoinDeskModel", "marked", "Z", false)
  | 13 => ("JoinDeskModel", "least", "J", false)
  | _ => ("JoinDeskModel", "greatest", "J", false)
def tyX6 : Nat → FieldType := fun k => match k with
  | 0 => .int
  | 1 => .array .int
  | 2 => .int
  | 3 => .array .int
  | 4 => .array .int
  | 5 => .array .int
  | 6 => .array .int
  | 7 => .boolean
  | 8 => .boolean
  | 9 => .int
  | 10 => .long
  | 11 => .array .int
  | 12 => .boolean
  | 13 => .long
  | _ => .long
abbrev wsX60 : List Cond := u_ws RX6 TX6 15
theorem nmX6 : ∀ a, a < 15 → ∀ b, b < 15 → a ≠ b → (TX6 a).2.1 ≠ (TX6 b).2.1 := by decide +kernel
theorem tyX6_ok : ∀ k, k < 15 → parseFieldDescriptor (TX6 k).2.2.1 = some (tyX6 k) := by decide +kernel
abbrev cX6_init : ByteArray := prog_8_method_1_code
def yX6_init : MethodName := ⟨RX6, "<init>", "(III)V"⟩
abbrev cX6_between : ByteArray := prog_8_method_2_code
def yX6_between : MethodName := ⟨RX6, "between", "(I)I"⟩
abbrev cX6_thrown : ByteArray := prog_8_method_3_code
def yX6_thrown : MethodName := ⟨RX6, "thrown", "()I"⟩
abbrev cX6_refuses : ByteArray := prog_8_method_4_code
def yX6_refuses : MethodName := ⟨RX6, "refuses", "(I)Z"⟩
abbrev cX6_key : ByteArray := prog_8_method_5_code
def yX6_key : MethodName := ⟨RX6, "key", "(II)I"⟩
abbrev cX6_value : ByteArray := prog_8_method_6_code
def yX6_value : MethodName := ⟨RX6, "value", "(II)I"⟩
abbrev cX6_begins : ByteArray := prog_8_method_7_code
def yX6_begins : MethodName := ⟨RX6, "begins", "()V"⟩
abbrev cX6_add : ByteArray := prog_8_method_8_code
def yX6_add : MethodName := ⟨RX6, "add", "(ZII)I"⟩
abbrev cX6_prepare : ByteArray := prog_8_method_9_code
def yX6_prepare : MethodName := ⟨RX6, "prepare", "()V"⟩
abbrev cX6_kind : ByteArray := prog_8_method_10_code
def yX6_kind : MethodName := ⟨RX6, "kind", "(I)V"⟩
abbrev cX6_tells : ByteArray := prog_8_method_11_code
def yX6_tells : MethodName := ⟨RX6, "tells", "(II)Z"⟩
abbrev cX6_goes : ByteArray := prog_8_method_12_code
def yX6_goes : MethodName := ⟨RX6, "goes", "(I)V"⟩
abbrev cX6_steps : ByteArray := prog_8_method_13_code
def yX6_steps : MethodName := ⟨RX6, "steps", "()Z"⟩
abbrev cX6_next : ByteArray := prog_8_method_14_code
def yX6_next : MethodName := ⟨RX6, "next", "()Z"⟩
abbrev cX6_pair : ByteArray := prog_8_method_15_code
def yX6_pair : MethodName := ⟨RX6, "pair", "(I)I"⟩
abbrev cX6_mark : ByteArray := prog_8_method_16_code
def yX6_mark : MethodName := ⟨RX6, "mark", "()I"⟩
abbrev cX6_back : ByteArray := prog_8_method_17_code
def yX6_back : MethodName := ⟨RX6, "back", "()I"⟩
abbrev cX6_rowsOf : ByteArray := prog_8_method_18_code
def yX6_rowsOf : MethodName := ⟨RX6, "rowsOf", "(II)I"⟩
abbrev cX6_pairs : ByteArray := prog_8_method_19_code
def yX6_pairs : MethodName := ⟨RX6, "pairs", "(IZJ)J"⟩
abbrev cX6_seek : ByteArray := prog_8_method_20_code
def yX6_seek : MethodName := ⟨RX6, "seek", "(I)Z"⟩
abbrev cX6_rewind : ByteArray := prog_8_method_21_code
def yX6_rewind : MethodName := ⟨RX6, "rewind", "()V"⟩
abbrev cX6_count : ByteArray := prog_8_method_22_code
def yX6_count : MethodName := ⟨RX6, "count", "(I)J"⟩
abbrev cX6_rows : ByteArray := prog_8_method_23_code
def yX6_rows : MethodName := ⟨RX6, "rows", "(ZZ)I"⟩
abbrev cX6_groupAt : ByteArray := prog_8_method_24_code
def yX6_groupAt : MethodName := ⟨RX6, "groupAt", "(I)I"⟩
abbrev cX6_groups : ByteArray := prog_8_method_25_code
def yX6_groups : MethodName := ⟨RX6, "groups", "()I"⟩
abbrev cX6_group : ByteArray := prog_8_method_26_code
def yX6_group : MethodName := ⟨RX6, "group", "(II)J"⟩
abbrev cX6_sorted : ByteArray := prog_8_method_27_code
def yX6_sorted : MethodName := ⟨RX6, "sorted", "(ZII)I"⟩
abbrev cX6_about : ByteArray := prog_8_method_28_code
def yX6_about : MethodName := ⟨RX6, "about", "(I)J"⟩
abbrev cX6_clear : ByteArray := prog_8_method_29_code
def yX6_clear : MethodName := ⟨RX6, "clear", "()V"⟩
def RJ9 : String := "java/lang/Math"
def TJ9 : u_T := fun k => match k with
  | _ => ("", "", "", false)
def tyJ9 : Nat → FieldType := fun k => match k with
  | _ => .int
abbrev wsJ90 : List Cond := u_ws RJ9 TJ9 0
theorem nmJ9 : ∀ a, a < 0 → ∀ b, b < 0 → a ≠ b → (TJ9 a).2.1 ≠ (TJ9 b).2.1 := by decide +kernel
theorem tyJ9_ok : ∀ k, k < 0 → parseFieldDescriptor (TJ9 k).2.2.1 = some (tyJ9 k) := by decide +kernel
abbrev cJ9_max_7cf53 : ByteArray := prog_12_method_65_code
def yJ9_max_7cf53 : MethodName := ⟨RJ9, "max", "(II)I"⟩
abbrev cJ9_max_f86c9 : ByteArray := prog_12_method_66_code
def yJ9_max_f86c9 : MethodName := ⟨RJ9, "max", "(JJ)J"⟩
abbrev cJ9_min_7cf53 : ByteArray := prog_12_method_69_code
def yJ9_min_7cf53 : MethodName := ⟨RJ9, "min", "(II)I"⟩
abbrev cJ9_min_f86c9 : ByteArray := prog_12_method_70_code
def yJ9_min_f86c9 : MethodName := ⟨RJ9, "min", "(JJ)J"⟩
def RJ0 : String := "java/lang/String"
def TJ0 : u_T := fun k => match k with
  | _ => ("", "", "", false)
def tyJ0 : Nat → FieldType := fun k => match k with
  | _ => .int
abbrev wsJ00 : List Cond := u_ws RJ0 TJ0 0
theorem nmJ0 : ∀ a, a < 0 → ∀ b, b < 0 → a ≠ b → (TJ0 a).2.1 ≠ (TJ0 b).2.1 := by decide +kernel
theorem tyJ0_ok : ∀ k, k < 0 → parseFieldDescriptor (TJ0 k).2.2.1 = some (tyJ0 k) := by decide +kernel
def RL : String := "JoinDeskLaw"
abbrev cL_cell : ByteArray := method_2_code
def yL_cell : MethodName := ⟨RL, "cell", "([II)I"⟩
abbrev cL_add : ByteArray := method_3_code
def yL_add : MethodName := ⟨RL, "add", "(LJoinDesk;ZII[J)I"⟩
abbrev cL_kind : ByteArray := method_4_code
def yL_kind : MethodName := ⟨RL, "kind", "(LJoinDesk;I)I"⟩
abbrev cL_next : ByteArray := method_5_code
def yL_next : MethodName := ⟨RL, "next", "(LJoinDesk;[J)I"⟩
abbrev cL_pair : ByteArray := method_6_code
def yL_pair : MethodName := ⟨RL, "pair", "(LJoinDesk;I[J)I"⟩
abbrev cL_mark : ByteArray := method_7_code
def yL_mark : MethodName := ⟨RL, "mark", "(LJoinDesk;[J)I"⟩
abbrev cL_back : ByteArray := method_8_code
def yL_back : MethodName := ⟨RL, "back", "(LJoinDesk;[J)I"⟩
abbrev cL_seek : ByteArray := method_9_code
def yL_seek : MethodName := ⟨RL, "seek", "(LJoinDesk;I[J)I"⟩
abbrev cL_rewind : ByteArray := method_10_code
def yL_rewind : MethodName := ⟨RL, "rewind", "(LJoinDesk;)I"⟩
abbrev cL_count : ByteArray := method_11_code
def yL_count : MethodName := ⟨RL, "count", "(LJoinDesk;I[J)I"⟩
abbrev cL_rows : ByteArray := method_12_code
def yL_rows : MethodName := ⟨RL, "rows", "(LJoinDesk;ZZ[J)I"⟩
abbrev cL_groups : ByteArray := method_13_code
def yL_groups : MethodName := ⟨RL, "groups", "(LJoinDesk;[J)I"⟩
abbrev cL_group : ByteArray := method_14_code
def yL_group : MethodName := ⟨RL, "group", "(LJoinDesk;II[J)I"⟩
abbrev cL_sorted : ByteArray := method_15_code
def yL_sorted : MethodName := ⟨RL, "sorted", "(LJoinDesk;ZII[J)I"⟩
abbrev cL_about : ByteArray := method_16_code
def yL_about : MethodName := ⟨RL, "about", "(LJoinDesk;I[J)I"⟩
abbrev cL_law : ByteArray := code
def yL_law : MethodName := ⟨RL, "law", "([I)Z"⟩
def wsX2_init : List Cond := .code yX2_init cX2_init 1 none :: ([.methodLink RX2 3 objectInit, .instanceMethod objectInit, .code objectInit ⟨#[0xb1]⟩ 1 none, .fieldLink RX2 9 "JoinDesk$Position" "leftAt" "I", .fieldLink RX2 15 "JoinDesk$Position" "rightAt" "I"] ++ wsX20)
def wsX0_init : List Cond := .code yX0_init cX0_init 3 none :: ([.methodLink RX0 3 objectInit, .instanceMethod objectInit, .code objectInit ⟨#[0xb1]⟩ 1 none, .fieldLink RX0 9 "JoinDesk$Cursor" "left" "LJoinDesk$Table;", .fieldLink RX0 15 "JoinDesk$Cursor" "right" "LJoinDesk$Table;", .classLink RX0 18 RX2, .instantiable RX2 7, .initialized RX2, .fieldLink RX0 21 "JoinDesk$Cursor" "here" "LJoinDesk$Position;", .fieldLink RX0 25 "JoinDesk$Cursor" "marked" "LJoinDesk$Position;", .fieldLink RX0 28 "JoinDesk$Cursor" "hasMark" "Z", .fieldLink RX0 32 "JoinDesk$Cursor" "kind" "I", .fieldLink RX0 36 "JoinDesk$Cursor" "cells" "J", .methodLink RX0 20 yX2_init, .instanceMethod yX2_init, .code yX2_init cX2_init 1 none, .methodLink RX2 3 objectInit, .fieldLink RX2 9 "JoinDesk$Position" "leftAt" "I", .fieldLink RX2 15 "JoinDesk$Position" "rightAt" "I"] ++ wsX00 ++ wsX20)
def wsX0_kindInUse : List Cond := .code yX0_kindInUse cX0_kindInUse 1 (some .int) :: ([.fieldLink RX0 32 "JoinDesk$Cursor" "kind" "I"] ++ wsX00)
def wsX0_cellsRead : List Cond := .code yX0_cellsRead cX0_cellsRead 1 (some .long) :: ([.fieldLink RX0 36 "JoinDesk$Cursor" "cells" "J"] ++ wsX00)
def wsX0_hasMark : List Cond := .code yX0_hasMark cX0_hasMark 1 (some .boolean) :: ([.fieldLink RX0 28 "JoinDesk$Cursor" "hasMark" "Z"] ++ wsX00)
def wsX0_leftPlace : List Cond := .code yX0_leftPlace cX0_leftPlace 1 (some .int) :: ([.fieldLink RX0 21 "JoinDesk$Cursor" "here" "LJoinDesk$Position;"] ++ wsX00 ++ wsX20)
def wsX0_rightPlace : List Cond := .code yX0_rightPlace cX0_rightPlace 1 (some .int) :: ([.fieldLink RX0 21 "JoinDesk$Cursor" "here" "LJoinDesk$Position;"] ++ wsX00 ++ wsX20)
def wsX0_useKind : List Cond := .code yX0_useKind cX0_useKind 2 none :: ([.fieldLink RX0 32 "JoinDesk$Cursor" "kind" "I"] ++ wsX00)
def wsX0_forgetMark : List Cond := .code yX0_forgetMark cX0_forgetMark 1 none :: ([.fieldLink RX0 28 "JoinDesk$Cursor" "hasMark" "Z"] ++ wsX00)
def wsX2_stand : List Cond := .code yX2_stand cX2_stand 4 none :: ([.fieldLink RX2 18 "JoinDesk$Position" "leftFrom" "I", .fieldLink RX2 21 "JoinDesk$Position" "leftTo" "I", .fieldLink RX2 24 "JoinDesk$Position" "rightFrom" "I", .fieldLink RX2 27 "JoinDesk$Position" "rightTo" "I", .fieldLink RX2 9 "JoinDesk$Position" "leftAt" "I", .fieldLink RX2 15 "JoinDesk$Position" "rightAt" "I", .fieldLink RX2 30 "JoinDesk$Position" "passed" "I"] ++ wsX20)
def wsX0_restart : List Cond := .code yX0_restart cX0_restart 1 none :: ([.fieldLink RX0 21 "JoinDesk$Cursor" "here" "LJoinDesk$Position;", .fieldLink RX0 36 "JoinDesk$Cursor" "cells" "J", .methodLink RX0 46 yX2_stand, .instanceMethod yX2_stand, .selects RX2 yX2_stand yX2_stand, .initialized RX2, .code yX2_stand cX2_stand 4 none, .fieldLink RX2 18 "JoinDesk$Position" "leftFrom" "I", .fieldLink RX2 21 "JoinDesk$Position" "leftTo" "I", .fieldLink RX2 24 "JoinDesk$Position" "rightFrom" "I", .fieldLink RX2 27 "JoinDesk$Position" "rightTo" "I", .fieldLink RX2 9 "JoinDesk$Position" "leftAt" "I", .fieldLink RX2 15 "JoinDesk$Position" "rightAt" "I", .fieldLink RX2 30 "JoinDesk$Position" "passed" "I"] ++ wsX00 ++ wsX20)
def wsX2_copy : List Cond := .code yX2_copy cX2_copy 2 none :: ([.fieldLink RX2 18 "JoinDesk$Position" "leftFrom" "I", .fieldLink RX2 21 "JoinDesk$Position" "leftTo" "I", .fieldLink RX2 24 "JoinDesk$Position" "rightFrom" "I", .fieldLink RX2 27 "JoinDesk$Position" "rightTo" "I", .fieldLink RX2 9 "JoinDesk$Position" "leftAt" "I", .fieldLink RX2 15 "JoinDesk$Position" "rightAt" "I", .fieldLink RX2 30 "JoinDesk$Position" "passed" "I"] ++ wsX20)
def wsX0_setMark : List Cond := .code yX0_setMark cX0_setMark 1 (some .int) :: ([.fieldLink RX0 25 "JoinDesk$Cursor" "marked" "LJoinDesk$Position;", .fieldLink RX0 21 "JoinDesk$Cursor" "here" "LJoinDesk$Position;", .fieldLink RX0 28 "JoinDesk$Cursor" "hasMark" "Z", .methodLink RX0 50 yX2_copy, .instanceMethod yX2_copy, .selects RX2 yX2_copy yX2_copy, .initialized RX2, .code yX2_copy cX2_copy 2 none, .fieldLink RX2 18 "JoinDesk$Position" "leftFrom" "I", .fieldLink RX2 21 "JoinDesk$Position" "leftTo" "I", .fieldLink RX2 24 "JoinDesk$Position" "rightFrom" "I", .fieldLink RX2 27 "JoinDesk$Position" "rightTo" "I", .fieldLink RX2 9 "JoinDesk$Position" "leftAt" "I", .fieldLink RX2 15 "JoinDesk$Position" "rightAt" "I", .fieldLink RX2 30 "JoinDesk$Position" "passed" "I"] ++ wsX00 ++ wsX20)
def wsX0_goToMark : List Cond := .code yX0_goToMark cX0_goToMark 1 (some .int) :: ([.fieldLink RX0 21 "JoinDesk$Cursor" "here" "LJoinDesk$Position;", .fieldLink RX0 25 "JoinDesk$Cursor" "marked" "LJoinDesk$Position;", .methodLink RX0 50 yX2_copy, .instanceMethod yX2_copy, .selects RX2 yX2_copy yX2_copy, .initialized RX2, .code yX2_copy cX2_copy 2 none, .fieldLink RX2 18 "JoinDesk$Position" "leftFrom" "I", .fieldLink RX2 21 "JoinDesk$Position" "leftTo" "I", .fieldLink RX2 24 "JoinDesk$Position" "rightFrom" "I", .fieldLink RX2 27 "JoinDesk$Position" "rightTo" "I", .fieldLink RX2 9 "JoinDesk$Position" "leftAt" "I", .fieldLink RX2 15 "JoinDesk$Position" "rightAt" "I", .fieldLink RX2 30 "JoinDesk$Position" "passed" "I"] ++ wsX00 ++ wsX20)
def wsX2_hasRightRows : List Cond := .code yX2_hasRightRows cX2_hasRightRows 1 (some .boolean) :: ([.fieldLink RX2 24 "JoinDesk$Position" "rightFrom" "I", .fieldLink RX2 27 "JoinDesk$Position" "rightTo" "I"] ++ wsX20)
def wsX2_enterNextPair : List Cond := .code yX2_enterNextPair cX2_enterNextPair 1 (some .boolean) :: ([.fieldLink RX2 15 "JoinDesk$Position" "rightAt" "I", .fieldLink RX2 27 "JoinDesk$Position" "rightTo" "I", .fieldLink RX2 9 "JoinDesk$Position" "leftAt" "I", .fieldLink RX2 21 "JoinDesk$Position" "leftTo" "I", .fieldLink RX2 24 "JoinDesk$Position" "rightFrom" "I", .fieldLink RX2 30 "JoinDesk$Position" "passed" "I", .methodLink RX2 33 yX2_hasRightRows, .instanceMethod yX2_hasRightRows, .selects RX2 yX2_hasRightRows yX2_hasRightRows, .initialized RX2, .code yX2_hasRightRows cX2_hasRightRows 1 (some .boolean)] ++ wsX20)
def wsX4_size : List Cond := .code yX4_size cX4_size 1 (some .int) :: ([.fieldLink RX4 34 "JoinDesk$Table" "size" "I"] ++ wsX40)
def wsX0_rowsAhead : List Cond := .code yX0_rowsAhead cX0_rowsAhead 1 (some .int) :: ([.fieldLink RX0 9 "JoinDesk$Cursor" "left" "LJoinDesk$Table;", .fieldLink RX0 21 "JoinDesk$Cursor" "here" "LJoinDesk$Position;", .fieldLink RX0 15 "JoinDesk$Cursor" "right" "LJoinDesk$Table;", .methodLink RX0 89 yX4_size, .instanceMethod yX4_size, .selects RX4 yX4_size yX4_size, .initialized RX4, .code yX4_size cX4_size 1 (some .int), .fieldLink RX4 34 "JoinDesk$Table" "size" "I"] ++ wsX00 ++ wsX20 ++ wsX40)
def wsX4_has : List Cond := .code yX4_has cX4_has 2 (some .boolean) :: ([.fieldLink RX4 34 "JoinDesk$Table" "size" "I"] ++ wsX40)
def wsX4_keyAt : List Cond := .code yX4_keyAt cX4_keyAt 2 (some .int) :: ([.fieldLink RX4 15 "JoinDesk$Table" "keys" "[I", .fieldLink RX4 22 "JoinDesk$Table" "order" "[I", .methodLink RX4 44 yX4_has, .instanceMethod yX4_has, .selects RX4 yX4_has yX4_has, .initialized RX4, .code yX4_has cX4_has 2 (some .boolean), .fieldLink RX4 34 "JoinDesk$Table" "size" "I"] ++ wsX40)
def wsX0_readKey : List Cond := .code yX0_readKey cX0_readKey 3 (some .int) :: ([.fieldLink RX0 36 "JoinDesk$Cursor" "cells" "J", .methodLink RX0 109 yX4_keyAt, .instanceMethod yX4_keyAt, .selects RX4 yX4_keyAt yX4_keyAt, .initialized RX4, .code yX4_keyAt cX4_keyAt 2 (some .int), .fieldLink RX4 15 "JoinDesk$Table" "keys" "[I", .fieldLink RX4 22 "JoinDesk$Table" "order" "[I", .methodLink RX4 44 yX4_has, .instanceMethod yX4_has, .selects RX4 yX4_has yX4_has, .code yX4_has cX4_has 2 (some .boolean), .fieldLink RX4 34 "JoinDesk$Table" "size" "I"] ++ wsX00 ++ wsX40)
def wsX0_firstOtherKey : List Cond := .code yX0_firstOtherKey cX0_firstOtherKey 5 (some .int) :: ([.methodLink RX0 97 yX0_readKey, .instanceMethod yX0_readKey, .selects RX0 yX0_readKey yX0_readKey, .initialized RX0, .code yX0_readKey cX0_readKey 3 (some .int), .fieldLink RX0 36 "JoinDesk$Cursor" "cells" "J", .methodLink RX0 109 yX4_keyAt, .instanceMethod yX4_keyAt, .selects RX4 yX4_keyAt yX4_keyAt, .initialized RX4, .code yX4_keyAt cX4_keyAt 2 (some .int), .fieldLink RX4 15 "JoinDesk$Table" "keys" "[I", .fieldLink RX4 22 "JoinDesk$Table" "order" "[I", .methodLink RX4 44 yX4_has, .instanceMethod yX4_has, .selects RX4 yX4_has yX4_has, .code yX4_has cX4_has 2 (some .boolean), .fieldLink RX4 34 "JoinDesk$Table" "size" "I", .methodLink RX0 89 yX4_size, .instanceMethod yX4_size, .selects RX4 yX4_size yX4_size, .code yX4_size cX4_size 1 (some .int)] ++ wsX00 ++ wsX40)
def wsX0_comeToNewKeys_r1 : List Cond := [Cond.fieldLink RX0 9 "JoinDesk$Cursor" "left" "LJoinDesk$Table;", Cond.fieldLink RX0 21 "JoinDesk$Cursor" "here" "LJoinDesk$Position;", Cond.fieldLink RX0 15 "JoinDesk$Cursor" "right" "LJoinDesk$Table;", Cond.methodLink RX0 94 yX4_has, Cond.instanceMethod yX4_has, Cond.selects RX4 yX4_has yX4_has, Cond.initialized RX4, Cond.code yX4_has cX4_has 2 (some .boolean), Cond.fieldLink RX4 34 "JoinDesk$Table" "size" "I", Cond.methodLink RX0 97 yX0_readKey, Cond.instanceMethod yX0_readKey, Cond.selects RX0 yX0_readKey yX0_readKey, Cond.initialized RX0, Cond.code yX0_readKey cX0_readKey 3 (some .int), Cond.fieldLink RX0 36 "JoinDesk$Cursor" "cells" "J", Cond.methodLink RX0 109 yX4_keyAt, Cond.instanceMethod yX4_keyAt, Cond.selects RX4 yX4_keyAt yX4_keyAt, Cond.code yX4_keyAt cX4_keyAt 2 (some .int), Cond.fieldLink RX4 15 "JoinDesk$Table" "keys" "[I", Cond.fieldLink RX4 22 "JoinDesk$Table" "order" "[I", Cond.methodLink RX4 44 yX4_has, Cond.methodLink RX0 106 yX0_firstOtherKey, Cond.instanceMethod yX0_firstOtherKey]
def wsX0_comeToNewKeys_r2 : List Cond := [Cond.selects RX0 yX0_firstOtherKey yX0_firstOtherKey, Cond.code yX0_firstOtherKey cX0_firstOtherKey 5 (some .int), Cond.methodLink RX0 89 yX4_size, Cond.instanceMethod yX4_size, Cond.selects RX4 yX4_size yX4_size, Cond.code yX4_size cX4_size 1 (some .int)]
def wsX0_comeToNewKeys : List Cond := .code yX0_comeToNewKeys cX0_comeToNewKeys 5 none :: ((wsX0_comeToNewKeys_r1 ++ wsX0_comeToNewKeys_r2) ++ wsX00 ++ wsX20 ++ wsX40)
def wsX2_hasLeftRows : List Cond := .code yX2_hasLeftRows cX2_hasLeftRows 1 (some .boolean) :: ([.fieldLink RX2 18 "JoinDesk$Position" "leftFrom" "I", .fieldLink RX2 21 "JoinDesk$Position" "leftTo" "I"] ++ wsX20)
def wsX2_fits : List Cond := .code yX2_fits cX2_fits 2 (some .boolean) :: ([.methodLink RX2 33 yX2_hasRightRows, .instanceMethod yX2_hasRightRows, .selects RX2 yX2_hasRightRows yX2_hasRightRows, .initialized RX2, .code yX2_hasRightRows cX2_hasRightRows 1 (some .boolean), .fieldLink RX2 24 "JoinDesk$Position" "rightFrom" "I", .fieldLink RX2 27 "JoinDesk$Position" "rightTo" "I", .methodLink RX2 37 yX2_hasLeftRows, .instanceMethod yX2_hasLeftRows, .selects RX2 yX2_hasLeftRows yX2_hasLeftRows, .code yX2_hasLeftRows cX2_hasLeftRows 1 (some .boolean), .fieldLink RX2 18 "JoinDesk$Position" "leftFrom" "I", .fieldLink RX2 21 "JoinDesk$Position" "leftTo" "I"] ++ wsX20)
def wsX2_enterFirstPair : List Cond := .code yX2_enterFirstPair cX2_enterFirstPair 1 none :: ([.fieldLink RX2 18 "JoinDesk$Position" "leftFrom" "I", .fieldLink RX2 9 "JoinDesk$Position" "leftAt" "I", .fieldLink RX2 24 "JoinDesk$Position" "rightFrom" "I", .fieldLink RX2 15 "JoinDesk$Position" "rightAt" "I", .fieldLink RX2 30 "JoinDesk$Position" "passed" "I", .methodLink RX2 37 yX2_hasLeftRows, .instanceMethod yX2_hasLeftRows, .selects RX2 yX2_hasLeftRows yX2_hasLeftRows, .initialized RX2, .code yX2_hasLeftRows cX2_hasLeftRows 1 (some .boolean), .fieldLink RX2 21 "JoinDesk$Position" "leftTo" "I", .methodLink RX2 33 yX2_hasRightRows, .instanceMethod yX2_hasRightRows, .selects RX2 yX2_hasRightRows yX2_hasRightRows, .code yX2_hasRightRows cX2_hasRightRows 1 (some .boolean), .fieldLink RX2 27 "JoinDesk$Position" "rightTo" "I"] ++ wsX20)
def wsX0_goOn_r1 : List Cond := [Cond.fieldLink RX0 21 "JoinDesk$Cursor" "here" "LJoinDesk$Position;", Cond.fieldLink RX0 32 "JoinDesk$Cursor" "kind" "I", Cond.methodLink RX0 57 yX2_enterNextPair, Cond.instanceMethod yX2_enterNextPair, Cond.selects RX2 yX2_enterNextPair yX2_enterNextPair, Cond.initialized RX2, Cond.code yX2_enterNextPair cX2_enterNextPair 1 (some .boolean), Cond.fieldLink RX2 15 "JoinDesk$Position" "rightAt" "I", Cond.fieldLink RX2 27 "JoinDesk$Position" "rightTo" "I", Cond.fieldLink RX2 9 "JoinDesk$Position" "leftAt" "I", Cond.fieldLink RX2 21 "JoinDesk$Position" "leftTo" "I", Cond.fieldLink RX2 24 "JoinDesk$Position" "rightFrom" "I", Cond.fieldLink RX2 30 "JoinDesk$Position" "passed" "I", Cond.methodLink RX2 33 yX2_hasRightRows, Cond.instanceMethod yX2_hasRightRows, Cond.selects RX2 yX2_hasRightRows yX2_hasRightRows, Cond.code yX2_hasRightRows cX2_hasRightRows 1 (some .boolean), Cond.methodLink RX0 61 yX0_rowsAhead, Cond.instanceMethod yX0_rowsAhead, Cond.selects RX0 yX0_rowsAhead yX0_rowsAhead, Cond.initialized RX0, Cond.code yX0_rowsAhead cX0_rowsAhead 1 (some .int), Cond.fieldLink RX0 9 "JoinDesk$Cursor" "left" "LJoinDesk$Table;", Cond.fieldLink RX0 15 "JoinDesk$Cursor" "right" "LJoinDesk$Table;"]
def wsX0_goOn_r2 : List Cond := [Cond.methodLink RX0 89 yX4_size, Cond.instanceMethod yX4_size, Cond.selects RX4 yX4_size yX4_size, Cond.initialized RX4, Cond.code yX4_size cX4_size 1 (some .int), Cond.fieldLink RX4 34 "JoinDesk$Table" "size" "I", Cond.methodLink RX0 65 yX0_comeToNewKeys, Cond.instanceMethod yX0_comeToNewKeys, Cond.selects RX0 yX0_comeToNewKeys yX0_comeToNewKeys, Cond.code yX0_comeToNewKeys cX0_comeToNewKeys 5 none, Cond.methodLink RX0 94 yX4_has, Cond.instanceMethod yX4_has, Cond.selects RX4 yX4_has yX4_has, Cond.code yX4_has cX4_has 2 (some .boolean), Cond.methodLink RX0 97 yX0_readKey, Cond.instanceMethod yX0_readKey, Cond.selects RX0 yX0_readKey yX0_readKey, Cond.code yX0_readKey cX0_readKey 3 (some .int), Cond.fieldLink RX0 36 "JoinDesk$Cursor" "cells" "J", Cond.methodLink RX0 109 yX4_keyAt, Cond.instanceMethod yX4_keyAt, Cond.selects RX4 yX4_keyAt yX4_keyAt, Cond.code yX4_keyAt cX4_keyAt 2 (some .int), Cond.fieldLink RX4 15 "JoinDesk$Table" "keys" "[I"]
def wsX0_goOn_r3 : List Cond := [Cond.fieldLink RX4 22 "JoinDesk$Table" "order" "[I", Cond.methodLink RX4 44 yX4_has, Cond.methodLink RX0 106 yX0_firstOtherKey, Cond.instanceMethod yX0_firstOtherKey, Cond.selects RX0 yX0_firstOtherKey yX0_firstOtherKey, Cond.code yX0_firstOtherKey cX0_firstOtherKey 5 (some .int), Cond.methodLink RX0 68 yX2_fits, Cond.instanceMethod yX2_fits, Cond.selects RX2 yX2_fits yX2_fits, Cond.code yX2_fits cX2_fits 2 (some .boolean), Cond.methodLink RX2 37 yX2_hasLeftRows, Cond.instanceMethod yX2_hasLeftRows, Cond.selects RX2 yX2_hasLeftRows yX2_hasLeftRows, Cond.code yX2_hasLeftRows cX2_hasLeftRows 1 (some .boolean), Cond.fieldLink RX2 18 "JoinDesk$Position" "leftFrom" "I", Cond.methodLink RX0 72 yX2_enterFirstPair, Cond.instanceMethod yX2_enterFirstPair, Cond.selects RX2 yX2_enterFirstPair yX2_enterFirstPair, Cond.code yX2_enterFirstPair cX2_enterFirstPair 1 none, Cond.methodLink RX0 46 yX2_stand, Cond.instanceMethod yX2_stand, Cond.selects RX2 yX2_stand yX2_stand, Cond.code yX2_stand cX2_stand 4 none]
def wsX0_goOn : List Cond := .code yX0_goOn cX0_goOn 2 (some .boolean) :: ((wsX0_goOn_r1 ++ (wsX0_goOn_r2 ++ wsX0_goOn_r3)) ++ wsX00 ++ wsX20 ++ wsX40)
def wsX0_firstNotBelow : List Cond := .code yX0_firstNotBelow cX0_firstNotBelow 7 (some .int) :: ([.methodLink RX0 89 yX4_size, .instanceMethod yX4_size, .selects RX4 yX4_size yX4_size, .initialized RX4, .code yX4_size cX4_size 1 (some .int), .fieldLink RX4 34 "JoinDesk$Table" "size" "I", .methodLink RX0 97 yX0_readKey, .instanceMethod yX0_readKey, .selects RX0 yX0_readKey yX0_readKey, .initialized RX0, .code yX0_readKey cX0_readKey 3 (some .int), .fieldLink RX0 36 "JoinDesk$Cursor" "cells" "J", .methodLink RX0 109 yX4_keyAt, .instanceMethod yX4_keyAt, .selects RX4 yX4_keyAt yX4_keyAt, .code yX4_keyAt cX4_keyAt 2 (some .int), .fieldLink RX4 15 "JoinDesk$Table" "keys" "[I", .fieldLink RX4 22 "JoinDesk$Table" "order" "[I", .methodLink RX4 44 yX4_has, .instanceMethod yX4_has, .selects RX4 yX4_has yX4_has, .code yX4_has cX4_has 2 (some .boolean)] ++ wsX40 ++ wsX00)
def wsX4_partnersBefore : List Cond := .code yX4_partnersBefore cX4_partnersBefore 2 (some .int) :: ([.fieldLink RX4 34 "JoinDesk$Table" "size" "I", .fieldLink RX4 25 "JoinDesk$Table" "partnerSums" "[I"] ++ wsX40)
def wsX4_loneBefore : List Cond := .code yX4_loneBefore cX4_loneBefore 2 (some .int) :: ([.fieldLink RX4 34 "JoinDesk$Table" "size" "I", .fieldLink RX4 28 "JoinDesk$Table" "loneSums" "[I"] ++ wsX40)
def wsX5_pairsBefore : List Cond := .code yX5_pairsBefore cX5_pairsBefore 6 (some .int) :: ([.methodLink RX5 185 yX4_partnersBefore, .instanceMethod yX4_partnersBefore, .selects RX4 yX4_partnersBefore yX4_partnersBefore, .initialized RX4, .code yX4_partnersBefore cX4_partnersBefore 2 (some .int), .fieldLink RX4 34 "JoinDesk$Table" "size" "I", .fieldLink RX4 25 "JoinDesk$Table" "partnerSums" "[I", .methodLink RX5 129 yX4_loneBefore, .instanceMethod yX4_loneBefore, .selects RX4 yX4_loneBefore yX4_loneBefore, .code yX4_loneBefore cX4_loneBefore 2 (some .int), .fieldLink RX4 28 "JoinDesk$Table" "loneSums" "[I"] ++ wsX40)
def wsX0_goBefore_r1 : List Cond := [Cond.fieldLink RX0 9 "JoinDesk$Cursor" "left" "LJoinDesk$Table;", Cond.fieldLink RX0 15 "JoinDesk$Cursor" "right" "LJoinDesk$Table;", Cond.fieldLink RX0 32 "JoinDesk$Cursor" "kind" "I", Cond.fieldLink RX0 21 "JoinDesk$Cursor" "here" "LJoinDesk$Position;", Cond.methodLink RX0 81 yX0_firstNotBelow, Cond.instanceMethod yX0_firstNotBelow, Cond.selects RX0 yX0_firstNotBelow yX0_firstNotBelow, Cond.initialized RX0, Cond.code yX0_firstNotBelow cX0_firstNotBelow 7 (some .int), Cond.methodLink RX0 89 yX4_size, Cond.instanceMethod yX4_size, Cond.selects RX4 yX4_size yX4_size, Cond.initialized RX4, Cond.code yX4_size cX4_size 1 (some .int), Cond.fieldLink RX4 34 "JoinDesk$Table" "size" "I", Cond.methodLink RX0 97 yX0_readKey, Cond.instanceMethod yX0_readKey, Cond.selects RX0 yX0_readKey yX0_readKey, Cond.code yX0_readKey cX0_readKey 3 (some .int), Cond.fieldLink RX0 36 "JoinDesk$Cursor" "cells" "J", Cond.methodLink RX0 109 yX4_keyAt, Cond.instanceMethod yX4_keyAt, Cond.selects RX4 yX4_keyAt yX4_keyAt, Cond.code yX4_keyAt cX4_keyAt 2 (some .int)]
def wsX0_goBefore_r2 : List Cond := [Cond.fieldLink RX4 15 "JoinDesk$Table" "keys" "[I", Cond.fieldLink RX4 22 "JoinDesk$Table" "order" "[I", Cond.methodLink RX4 44 yX4_has, Cond.instanceMethod yX4_has, Cond.selects RX4 yX4_has yX4_has, Cond.code yX4_has cX4_has 2 (some .boolean), Cond.static yX5_pairsBefore, Cond.initialized RX5, Cond.code yX5_pairsBefore cX5_pairsBefore 6 (some .int), Cond.methodLink RX5 185 yX4_partnersBefore, Cond.instanceMethod yX4_partnersBefore, Cond.selects RX4 yX4_partnersBefore yX4_partnersBefore, Cond.code yX4_partnersBefore cX4_partnersBefore 2 (some .int), Cond.fieldLink RX4 25 "JoinDesk$Table" "partnerSums" "[I", Cond.methodLink RX5 129 yX4_loneBefore, Cond.instanceMethod yX4_loneBefore, Cond.selects RX4 yX4_loneBefore yX4_loneBefore, Cond.code yX4_loneBefore cX4_loneBefore 2 (some .int), Cond.fieldLink RX4 28 "JoinDesk$Table" "loneSums" "[I", Cond.methodLink RX0 46 yX2_stand, Cond.instanceMethod yX2_stand, Cond.selects RX2 yX2_stand yX2_stand, Cond.initialized RX2, Cond.code yX2_stand cX2_stand 4 none]
def wsX0_goBefore_r3 : List Cond := [Cond.fieldLink RX2 18 "JoinDesk$Position" "leftFrom" "I", Cond.fieldLink RX2 21 "JoinDesk$Position" "leftTo" "I", Cond.fieldLink RX2 24 "JoinDesk$Position" "rightFrom" "I", Cond.fieldLink RX2 27 "JoinDesk$Position" "rightTo" "I", Cond.fieldLink RX2 9 "JoinDesk$Position" "leftAt" "I", Cond.fieldLink RX2 15 "JoinDesk$Position" "rightAt" "I", Cond.fieldLink RX2 30 "JoinDesk$Position" "passed" "I"]
def wsX0_goBefore : List Cond := .code yX0_goBefore cX0_goBefore 5 (some .boolean) :: ((wsX0_goBefore_r1 ++ (wsX0_goBefore_r2 ++ wsX0_goBefore_r3)) ++ wsX00 ++ wsX40 ++ wsX20)
def wsX3_init : List Cond := .code yX3_init cX3_init 1 none :: ([.methodLink RX3 1 objectInit, .instanceMethod objectInit, .code objectInit ⟨#[0xb1]⟩ 1 none])
def wsX1_init : List Cond := .code yX1_init cX1_init 2 none :: ([.methodLink RX1 3 objectInit, .instanceMethod objectInit, .code objectInit ⟨#[0xb1]⟩ 1 none, .fieldLink RX1 9 "JoinDesk$GroupBook" "room" "I", .classLink RX1 15 "[[J", .arrayClass .long, .fieldLink RX1 17 "JoinDesk$GroupBook" "facts" "[[J", .classLink RX1 20 RX3, .instantiable RX3 4, .initialized RX3, .fieldLink RX1 23 "JoinDesk$GroupBook" "leftSpan" "LJoinDesk$Span;", .fieldLink RX1 27 "JoinDesk$GroupBook" "rightSpan" "LJoinDesk$Span;", .fieldLink RX1 30 "JoinDesk$GroupBook" "size" "I", .fieldLink RX1 33 "JoinDesk$GroupBook" "told" "Z", .instanceMethod yX3_init, .code yX3_init cX3_init 1 none, .methodLink RX3 1 objectInit] ++ wsX10 ++ wsX30)
def wsX1_room : List Cond := .code yX1_room cX1_room 1 (some .int) :: ([.fieldLink RX1 9 "JoinDesk$GroupBook" "room" "I"] ++ wsX10)
def wsX1_isTold : List Cond := .code yX1_isTold cX1_isTold 1 (some .boolean) :: ([.fieldLink RX1 33 "JoinDesk$GroupBook" "told" "Z"] ++ wsX10)
def wsX1_has : List Cond := .code yX1_has cX1_has 2 (some .boolean) :: ([.fieldLink RX1 30 "JoinDesk$GroupBook" "size" "I"] ++ wsX10)
def wsX1_forget : List Cond := .code yX1_forget cX1_forget 1 none :: ([.fieldLink RX1 30 "JoinDesk$GroupBook" "size" "I", .fieldLink RX1 33 "JoinDesk$GroupBook" "told" "Z"] ++ wsX10)
def wsX5_isBelow : List Cond := .code yX5_isBelow cX5_isBelow 2 (some .boolean) :: ([])
def wsX1_fact : List Cond := .code yX1_fact cX1_fact 3 (some .long) :: ([.fieldLink RX1 17 "JoinDesk$GroupBook" "facts" "[[J", .methodLink RX1 37 yX1_has, .instanceMethod yX1_has, .selects RX1 yX1_has yX1_has, .initialized RX1, .code yX1_has cX1_has 2 (some .boolean), .fieldLink RX1 30 "JoinDesk$GroupBook" "size" "I", .static yX5_isBelow, .initialized RX5, .code yX5_isBelow cX5_isBelow 2 (some .boolean)] ++ wsX10)
def wsX4_startsGroup : List Cond := .code yX4_startsGroup cX4_startsGroup 3 (some .boolean) :: ([.methodLink RX4 52 yX4_keyAt, .instanceMethod yX4_keyAt, .selects RX4 yX4_keyAt yX4_keyAt, .initialized RX4, .code yX4_keyAt cX4_keyAt 2 (some .int), .fieldLink RX4 15 "JoinDesk$Table" "keys" "[I", .fieldLink RX4 22 "JoinDesk$Table" "order" "[I", .methodLink RX4 44 yX4_has, .instanceMethod yX4_has, .selects RX4 yX4_has yX4_has, .code yX4_has cX4_has 2 (some .boolean), .fieldLink RX4 34 "JoinDesk$Table" "size" "I", .methodLink RX4 56 yX4_partnersBefore, .instanceMethod yX4_partnersBefore, .selects RX4 yX4_partnersBefore yX4_partnersBefore, .code yX4_partnersBefore cX4_partnersBefore 2 (some .int), .fieldLink RX4 25 "JoinDesk$Table" "partnerSums" "[I"] ++ wsX40)
def wsX4_valueAt : List Cond := .code yX4_valueAt cX4_valueAt 2 (some .int) :: ([.fieldLink RX4 19 "JoinDesk$Table" "values" "[I", .fieldLink RX4 22 "JoinDesk$Table" "order" "[I", .methodLink RX4 44 yX4_has, .instanceMethod yX4_has, .selects RX4 yX4_has yX4_has, .initialized RX4, .code yX4_has cX4_has 2 (some .boolean), .fieldLink RX4 34 "JoinDesk$Table" "size" "I"] ++ wsX40)
def wsX3_measure_r1 : List Cond := [Cond.fieldLink RX3 7 "JoinDesk$Span" "rows" "I", Cond.fieldLink RX3 13 "JoinDesk$Span" "sum" "J", Cond.fieldLink RX3 23 "JoinDesk$Span" "least" "J", Cond.fieldLink RX3 26 "JoinDesk$Span" "greatest" "J", Cond.methodLink RX3 36 Lib.MathLoose.min_long.x, Cond.static Lib.MathLoose.min_long.x, Cond.initialized "java/lang/Math", Cond.code Lib.MathLoose.min_long.x Lib.MathLoose.min_long.code 4 (some .long), Cond.methodLink RX3 42 Lib.MathLoose.max_long.x, Cond.static Lib.MathLoose.max_long.x, Cond.code Lib.MathLoose.max_long.x Lib.MathLoose.max_long.code 4 (some .long), Cond.methodLink RX3 17 yX4_valueAt, Cond.instanceMethod yX4_valueAt, Cond.selects RX4 yX4_valueAt yX4_valueAt, Cond.initialized RX4, Cond.code yX4_valueAt cX4_valueAt 2 (some .int), Cond.fieldLink RX4 19 "JoinDesk$Table" "values" "[I", Cond.fieldLink RX4 22 "JoinDesk$Table" "order" "[I", Cond.methodLink RX4 44 yX4_has, Cond.instanceMethod yX4_has, Cond.selects RX4 yX4_has yX4_has, Cond.code yX4_has cX4_has 2 (some .boolean), Cond.fieldLink RX4 34 "JoinDesk$Table" "size" "I", Cond.methodLink RX3 29 yX4_keyAt]
def wsX3_measure_r2 : List Cond := [Cond.instanceMethod yX4_keyAt, Cond.selects RX4 yX4_keyAt yX4_keyAt, Cond.code yX4_keyAt cX4_keyAt 2 (some .int), Cond.fieldLink RX4 15 "JoinDesk$Table" "keys" "[I", Cond.methodLink RX3 32 yX4_size, Cond.instanceMethod yX4_size, Cond.selects RX4 yX4_size yX4_size, Cond.code yX4_size cX4_size 1 (some .int)]
def wsX3_measure : List Cond := .code yX3_measure cX3_measure 7 none :: ((wsX3_measure_r1 ++ wsX3_measure_r2) ++ wsX30 ++ wsX40)
def wsX4_firstPartnerOf : List Cond := .code yX4_firstPartnerOf cX4_firstPartnerOf 2 (some .int) :: ([.fieldLink RX4 31 "JoinDesk$Table" "firstPartners" "[I", .methodLink RX4 44 yX4_has, .instanceMethod yX4_has, .selects RX4 yX4_has yX4_has, .initialized RX4, .code yX4_has cX4_has 2 (some .boolean), .fieldLink RX4 34 "JoinDesk$Table" "size" "I"] ++ wsX40)
def wsX1_write : List Cond := .code yX1_write cX1_write 11 none :: ([.fieldLink RX1 23 "JoinDesk$GroupBook" "leftSpan" "LJoinDesk$Span;", .fieldLink RX1 27 "JoinDesk$GroupBook" "rightSpan" "LJoinDesk$Span;", .fieldLink RX1 17 "JoinDesk$GroupBook" "facts" "[[J", .methodLink RX1 81 Lib.MathLoose.min_long.x, .static Lib.MathLoose.min_long.x, .initialized "java/lang/Math", .code Lib.MathLoose.min_long.x Lib.MathLoose.min_long.code 4 (some .long), .methodLink RX1 87 Lib.MathLoose.max_long.x, .static Lib.MathLoose.max_long.x, .code Lib.MathLoose.max_long.x Lib.MathLoose.max_long.code 4 (some .long)] ++ wsX10 ++ wsX30)
def wsX1_tell_r1 : List Cond := [Cond.fieldLink RX1 30 "JoinDesk$GroupBook" "size" "I", Cond.fieldLink RX1 9 "JoinDesk$GroupBook" "room" "I", Cond.fieldLink RX1 23 "JoinDesk$GroupBook" "leftSpan" "LJoinDesk$Span;", Cond.fieldLink RX1 27 "JoinDesk$GroupBook" "rightSpan" "LJoinDesk$Span;", Cond.fieldLink RX1 33 "JoinDesk$GroupBook" "told" "Z", Cond.methodLink RX1 45 yX4_size, Cond.instanceMethod yX4_size, Cond.selects RX4 yX4_size yX4_size, Cond.initialized RX4, Cond.code yX4_size cX4_size 1 (some .int), Cond.fieldLink RX4 34 "JoinDesk$Table" "size" "I", Cond.methodLink RX1 50 yX4_startsGroup, Cond.instanceMethod yX4_startsGroup, Cond.selects RX4 yX4_startsGroup yX4_startsGroup, Cond.code yX4_startsGroup cX4_startsGroup 3 (some .boolean), Cond.methodLink RX4 52 yX4_keyAt, Cond.instanceMethod yX4_keyAt, Cond.selects RX4 yX4_keyAt yX4_keyAt, Cond.code yX4_keyAt cX4_keyAt 2 (some .int), Cond.fieldLink RX4 15 "JoinDesk$Table" "keys" "[I", Cond.fieldLink RX4 22 "JoinDesk$Table" "order" "[I", Cond.methodLink RX4 44 yX4_has, Cond.instanceMethod yX4_has, Cond.selects RX4 yX4_has yX4_has]
def wsX1_tell_r2 : List Cond := [Cond.code yX4_has cX4_has 2 (some .boolean), Cond.methodLink RX4 56 yX4_partnersBefore, Cond.instanceMethod yX4_partnersBefore, Cond.selects RX4 yX4_partnersBefore yX4_partnersBefore, Cond.code yX4_partnersBefore cX4_partnersBefore 2 (some .int), Cond.fieldLink RX4 25 "JoinDesk$Table" "partnerSums" "[I", Cond.methodLink RX1 53 yX3_measure, Cond.instanceMethod yX3_measure, Cond.selects RX3 yX3_measure yX3_measure, Cond.initialized RX3, Cond.code yX3_measure cX3_measure 7 none, Cond.fieldLink RX3 7 "JoinDesk$Span" "rows" "I", Cond.fieldLink RX3 13 "JoinDesk$Span" "sum" "J", Cond.fieldLink RX3 23 "JoinDesk$Span" "least" "J", Cond.fieldLink RX3 26 "JoinDesk$Span" "greatest" "J", Cond.methodLink RX3 36 Lib.MathLoose.min_long.x, Cond.static Lib.MathLoose.min_long.x, Cond.initialized "java/lang/Math", Cond.code Lib.MathLoose.min_long.x Lib.MathLoose.min_long.code 4 (some .long), Cond.methodLink RX3 42 Lib.MathLoose.max_long.x, Cond.static Lib.MathLoose.max_long.x, Cond.code Lib.MathLoose.max_long.x Lib.MathLoose.max_long.code 4 (some .long), Cond.methodLink RX3 17 yX4_valueAt, Cond.instanceMethod yX4_valueAt]
def wsX1_tell_r3 : List Cond := [Cond.selects RX4 yX4_valueAt yX4_valueAt, Cond.code yX4_valueAt cX4_valueAt 2 (some .int), Cond.fieldLink RX4 19 "JoinDesk$Table" "values" "[I", Cond.methodLink RX3 29 yX4_keyAt, Cond.methodLink RX3 32 yX4_size, Cond.methodLink RX1 57 yX4_firstPartnerOf, Cond.instanceMethod yX4_firstPartnerOf, Cond.selects RX4 yX4_firstPartnerOf yX4_firstPartnerOf, Cond.code yX4_firstPartnerOf cX4_firstPartnerOf 2 (some .int), Cond.fieldLink RX4 31 "JoinDesk$Table" "firstPartners" "[I", Cond.methodLink RX1 61 yX4_keyAt, Cond.methodLink RX1 64 yX1_write, Cond.instanceMethod yX1_write, Cond.selects RX1 yX1_write yX1_write, Cond.initialized RX1, Cond.code yX1_write cX1_write 11 none, Cond.fieldLink RX1 17 "JoinDesk$GroupBook" "facts" "[[J", Cond.methodLink RX1 81 Lib.MathLoose.min_long.x, Cond.methodLink RX1 87 Lib.MathLoose.max_long.x]
def wsX1_tell : List Cond := .code yX1_tell cX1_tell 4 (some .int) :: ((wsX1_tell_r1 ++ (wsX1_tell_r2 ++ wsX1_tell_r3)) ++ wsX10 ++ wsX40 ++ wsX30)
def wsX4_init : List Cond := .code yX4_init cX4_init 2 none :: ([.methodLink RX4 3 objectInit, .instanceMethod objectInit, .code objectInit ⟨#[0xb1]⟩ 1 none, .fieldLink RX4 9 "JoinDesk$Table" "room" "I", .arrayClass .int, .fieldLink RX4 15 "JoinDesk$Table" "keys" "[I", .fieldLink RX4 19 "JoinDesk$Table" "values" "[I", .fieldLink RX4 22 "JoinDesk$Table" "order" "[I", .fieldLink RX4 25 "JoinDesk$Table" "partnerSums" "[I", .fieldLink RX4 28 "JoinDesk$Table" "loneSums" "[I", .fieldLink RX4 31 "JoinDesk$Table" "firstPartners" "[I", .fieldLink RX4 34 "JoinDesk$Table" "size" "I", .fieldLink RX4 37 "JoinDesk$Table" "placed" "I"] ++ wsX40)
def wsX4_hasRoom : List Cond := .code yX4_hasRoom cX4_hasRoom 1 (some .boolean) :: ([.fieldLink RX4 34 "JoinDesk$Table" "size" "I", .fieldLink RX4 9 "JoinDesk$Table" "room" "I"] ++ wsX40)
def wsX4_append : List Cond := .code yX4_append cX4_append 3 (some .int) :: ([.fieldLink RX4 15 "JoinDesk$Table" "keys" "[I", .fieldLink RX4 34 "JoinDesk$Table" "size" "I", .fieldLink RX4 19 "JoinDesk$Table" "values" "[I", .methodLink RX4 40 yX4_hasRoom, .instanceMethod yX4_hasRoom, .selects RX4 yX4_hasRoom yX4_hasRoom, .initialized RX4, .code yX4_hasRoom cX4_hasRoom 1 (some .boolean), .fieldLink RX4 9 "JoinDesk$Table" "room" "I"] ++ wsX40)
def wsX4_empty : List Cond := .code yX4_empty cX4_empty 1 none :: ([.fieldLink RX4 34 "JoinDesk$Table" "size" "I", .fieldLink RX4 37 "JoinDesk$Table" "placed" "I"] ++ wsX40)
def wsX4_numberAt : List Cond := .code yX4_numberAt cX4_numberAt 2 (some .int) :: ([.fieldLink RX4 22 "JoinDesk$Table" "order" "[I", .methodLink RX4 44 yX4_has, .instanceMethod yX4_has, .selects RX4 yX4_has yX4_has, .initialized RX4, .code yX4_has cX4_has 2 (some .boolean), .fieldLink RX4 34 "JoinDesk$Table" "size" "I"] ++ wsX40)
def wsX4_putInOrder : List Cond := .code yX4_putInOrder cX4_putInOrder 3 none :: ([.fieldLink RX4 15 "JoinDesk$Table" "keys" "[I", .fieldLink RX4 22 "JoinDesk$Table" "order" "[I"] ++ wsX40)
def wsX4_sortRows : List Cond := .code yX4_sortRows cX4_sortRows 2 none :: ([.fieldLink RX4 37 "JoinDesk$Table" "placed" "I", .fieldLink RX4 34 "JoinDesk$Table" "size" "I", .methodLink RX4 48 yX4_putInOrder, .instanceMethod yX4_putInOrder, .selects RX4 yX4_putInOrder yX4_putInOrder, .initialized RX4, .code yX4_putInOrder cX4_putInOrder 3 none, .fieldLink RX4 15 "JoinDesk$Table" "keys" "[I", .fieldLink RX4 22 "JoinDesk$Table" "order" "[I"] ++ wsX40)
def wsX4_findPartners : List Cond := .code yX4_findPartners cX4_findPartners 6 none :: ([.fieldLink RX4 34 "JoinDesk$Table" "size" "I", .fieldLink RX4 31 "JoinDesk$Table" "firstPartners" "[I", .fieldLink RX4 25 "JoinDesk$Table" "partnerSums" "[I", .fieldLink RX4 28 "JoinDesk$Table" "loneSums" "[I", .methodLink RX4 52 yX4_keyAt, .instanceMethod yX4_keyAt, .selects RX4 yX4_keyAt yX4_keyAt, .initialized RX4, .code yX4_keyAt cX4_keyAt 2 (some .int), .fieldLink RX4 15 "JoinDesk$Table" "keys" "[I", .fieldLink RX4 22 "JoinDesk$Table" "order" "[I", .methodLink RX4 44 yX4_has, .instanceMethod yX4_has, .selects RX4 yX4_has yX4_has, .code yX4_has cX4_has 2 (some .boolean)] ++ wsX40)
def wsX4_groupStarts : List Cond := .code yX4_groupStarts cX4_groupStarts 3 (some .int) :: ([.fieldLink RX4 34 "JoinDesk$Table" "size" "I", .methodLink RX4 59 yX4_startsGroup, .instanceMethod yX4_startsGroup, .selects RX4 yX4_startsGroup yX4_startsGroup, .initialized RX4, .code yX4_startsGroup cX4_startsGroup 3 (some .boolean), .methodLink RX4 52 yX4_keyAt, .instanceMethod yX4_keyAt, .selects RX4 yX4_keyAt yX4_keyAt, .code yX4_keyAt cX4_keyAt 2 (some .int), .fieldLink RX4 15 "JoinDesk$Table" "keys" "[I", .fieldLink RX4 22 "JoinDesk$Table" "order" "[I", .methodLink RX4 44 yX4_has, .instanceMethod yX4_has, .selects RX4 yX4_has yX4_has, .code yX4_has cX4_has 2 (some .boolean), .methodLink RX4 56 yX4_partnersBefore, .instanceMethod yX4_partnersBefore, .selects RX4 yX4_partnersBefore yX4_partnersBefore, .code yX4_partnersBefore cX4_partnersBefore 2 (some .int), .fieldLink RX4 25 "JoinDesk$Table" "partnerSums" "[I"] ++ wsX40)
def wsX5_roomFor : List Cond := .code yX5_roomFor cX5_roomFor 1 (some .int) :: ([.methodLink RX5 167 Lib.Math.min.name, .static Lib.Math.min.name, .initialized "java/lang/Math", .code Lib.Math.min.name Lib.Math.min.code 2 (some .int), .methodLink RX5 172 Lib.Math.max.name, .static Lib.Math.max.name, .code Lib.Math.max.name Lib.Math.max.code 2 (some .int)])
def wsX5_init_r1 : List Cond := [Cond.methodLink RX5 1 objectInit, Cond.instanceMethod objectInit, Cond.code objectInit ⟨#[0xb1]⟩ 1 none, Cond.classLink RX5 7 RX4, Cond.instantiable RX4 9, Cond.initialized RX4, Cond.fieldLink RX5 18 "JoinDesk" "left" "LJoinDesk$Table;", Cond.fieldLink RX5 22 "JoinDesk" "right" "LJoinDesk$Table;", Cond.classLink RX5 25 RX0, Cond.instantiable RX0 7, Cond.initialized RX0, Cond.fieldLink RX5 30 "JoinDesk" "cursor" "LJoinDesk$Cursor;", Cond.classLink RX5 34 RX1, Cond.instantiable RX1 6, Cond.initialized RX1, Cond.fieldLink RX5 37 "JoinDesk" "book" "LJoinDesk$GroupBook;", Cond.fieldLink RX5 41 "JoinDesk" "prepared" "Z", Cond.methodLink RX5 9 yX5_roomFor, Cond.static yX5_roomFor, Cond.initialized RX5, Cond.code yX5_roomFor cX5_roomFor 1 (some .int), Cond.methodLink RX5 167 Lib.Math.min.name, Cond.static Lib.Math.min.name, Cond.initialized "java/lang/Math"]
def wsX5_init_r2 : List Cond := [Cond.code Lib.Math.min.name Lib.Math.min.code 2 (some .int), Cond.methodLink RX5 172 Lib.Math.max.name, Cond.static Lib.Math.max.name, Cond.code Lib.Math.max.name Lib.Math.max.code 2 (some .int), Cond.methodLink RX5 15 yX4_init, Cond.instanceMethod yX4_init, Cond.code yX4_init cX4_init 2 none, Cond.methodLink RX4 3 objectInit, Cond.fieldLink RX4 9 "JoinDesk$Table" "room" "I", Cond.arrayClass .int, Cond.fieldLink RX4 15 "JoinDesk$Table" "keys" "[I", Cond.fieldLink RX4 19 "JoinDesk$Table" "values" "[I", Cond.fieldLink RX4 22 "JoinDesk$Table" "order" "[I", Cond.fieldLink RX4 25 "JoinDesk$Table" "partnerSums" "[I", Cond.fieldLink RX4 28 "JoinDesk$Table" "loneSums" "[I", Cond.fieldLink RX4 31 "JoinDesk$Table" "firstPartners" "[I", Cond.fieldLink RX4 34 "JoinDesk$Table" "size" "I", Cond.fieldLink RX4 37 "JoinDesk$Table" "placed" "I", Cond.methodLink RX5 27 yX0_init, Cond.instanceMethod yX0_init, Cond.code yX0_init cX0_init 3 none, Cond.methodLink RX0 3 objectInit, Cond.fieldLink RX0 9 "JoinDesk$Cursor" "left" "LJoinDesk$Table;", Cond.fieldLink RX0 15 "JoinDesk$Cursor" "right" "LJoinDesk$Table;"]
def wsX5_init_r3 : List Cond := [Cond.classLink RX0 18 RX2, Cond.instantiable RX2 7, Cond.initialized RX2, Cond.fieldLink RX0 21 "JoinDesk$Cursor" "here" "LJoinDesk$Position;", Cond.fieldLink RX0 25 "JoinDesk$Cursor" "marked" "LJoinDesk$Position;", Cond.fieldLink RX0 28 "JoinDesk$Cursor" "hasMark" "Z", Cond.fieldLink RX0 32 "JoinDesk$Cursor" "kind" "I", Cond.fieldLink RX0 36 "JoinDesk$Cursor" "cells" "J", Cond.methodLink RX0 20 yX2_init, Cond.instanceMethod yX2_init, Cond.code yX2_init cX2_init 1 none, Cond.methodLink RX2 3 objectInit, Cond.fieldLink RX2 9 "JoinDesk$Position" "leftAt" "I", Cond.fieldLink RX2 15 "JoinDesk$Position" "rightAt" "I", Cond.methodLink RX5 36 yX1_init, Cond.instanceMethod yX1_init, Cond.code yX1_init cX1_init 2 none, Cond.methodLink RX1 3 objectInit, Cond.fieldLink RX1 9 "JoinDesk$GroupBook" "room" "I", Cond.classLink RX1 15 "[[J", Cond.arrayClass .long, Cond.fieldLink RX1 17 "JoinDesk$GroupBook" "facts" "[[J", Cond.classLink RX1 20 RX3, Cond.instantiable RX3 4]
def wsX5_init_r4 : List Cond := [Cond.initialized RX3, Cond.fieldLink RX1 23 "JoinDesk$GroupBook" "leftSpan" "LJoinDesk$Span;", Cond.fieldLink RX1 27 "JoinDesk$GroupBook" "rightSpan" "LJoinDesk$Span;", Cond.fieldLink RX1 30 "JoinDesk$GroupBook" "size" "I", Cond.fieldLink RX1 33 "JoinDesk$GroupBook" "told" "Z", Cond.instanceMethod yX3_init, Cond.code yX3_init cX3_init 1 none, Cond.methodLink RX3 1 objectInit]
def wsX5_init : List Cond := .code yX5_init cX5_init 6 none :: ((wsX5_init_r1 ++ (wsX5_init_r2 ++ (wsX5_init_r3 ++ wsX5_init_r4))) ++ wsX40 ++ wsX50 ++ wsX00 ++ wsX10 ++ wsX20 ++ wsX30)
def wsX5_tableOf : List Cond := .code yX5_tableOf cX5_tableOf 2 (some (.object "JoinDesk$Table")) :: ([.fieldLink RX5 18 "JoinDesk" "left" "LJoinDesk$Table;", .fieldLink RX5 22 "JoinDesk" "right" "LJoinDesk$Table;"] ++ wsX50)
def wsX5_requireState : List Cond := .code yX5_requireState cX5_requireState 1 none :: ([.classLink RX5 180 "java/lang/IllegalStateException", .initialized "java/lang/IllegalStateException"] ++ (vx_atS RX5 184 "java/lang/IllegalStateException" ["java/lang/RuntimeException", "java/lang/Exception"]).filter goodWord)
def wsX5_add_r1 : List Cond := [Cond.fieldLink RX5 41 "JoinDesk" "prepared" "Z", Cond.methodLink RX5 45 yX5_tableOf, Cond.instanceMethod yX5_tableOf, Cond.selects RX5 yX5_tableOf yX5_tableOf, Cond.initialized RX5, Cond.code yX5_tableOf cX5_tableOf 2 (some (.object "JoinDesk$Table")), Cond.fieldLink RX5 18 "JoinDesk" "left" "LJoinDesk$Table;", Cond.fieldLink RX5 22 "JoinDesk" "right" "LJoinDesk$Table;", Cond.methodLink RX5 49 yX4_hasRoom, Cond.instanceMethod yX4_hasRoom, Cond.selects RX4 yX4_hasRoom yX4_hasRoom, Cond.initialized RX4, Cond.code yX4_hasRoom cX4_hasRoom 1 (some .boolean), Cond.fieldLink RX4 34 "JoinDesk$Table" "size" "I", Cond.fieldLink RX4 9 "JoinDesk$Table" "room" "I", Cond.methodLink RX5 53 yX5_requireState, Cond.static yX5_requireState, Cond.code yX5_requireState cX5_requireState 1 none, Cond.classLink RX5 180 "java/lang/IllegalStateException", Cond.initialized "java/lang/IllegalStateException", Cond.methodLink RX5 57 yX4_append, Cond.instanceMethod yX4_append, Cond.selects RX4 yX4_append yX4_append, Cond.code yX4_append cX4_append 3 (some .int)]
def wsX5_add_r2 : List Cond := [Cond.fieldLink RX4 15 "JoinDesk$Table" "keys" "[I", Cond.fieldLink RX4 19 "JoinDesk$Table" "values" "[I", Cond.methodLink RX4 40 yX4_hasRoom]
def wsX5_add : List Cond := .code yX5_add cX5_add 5 (some .int) :: ((wsX5_add_r1 ++ wsX5_add_r2) ++ wsX50 ++ wsX40 ++ (vx_atS RX5 184 "java/lang/IllegalStateException" ["java/lang/RuntimeException", "java/lang/Exception"]).filter goodWord)
def wsX5_prepare_r1 : List Cond := [Cond.fieldLink RX5 18 "JoinDesk" "left" "LJoinDesk$Table;", Cond.fieldLink RX5 22 "JoinDesk" "right" "LJoinDesk$Table;", Cond.fieldLink RX5 30 "JoinDesk" "cursor" "LJoinDesk$Cursor;", Cond.fieldLink RX5 37 "JoinDesk" "book" "LJoinDesk$GroupBook;", Cond.fieldLink RX5 41 "JoinDesk" "prepared" "Z", Cond.methodLink RX5 61 yX4_sortRows, Cond.instanceMethod yX4_sortRows, Cond.selects RX4 yX4_sortRows yX4_sortRows, Cond.initialized RX4, Cond.code yX4_sortRows cX4_sortRows 2 none, Cond.fieldLink RX4 37 "JoinDesk$Table" "placed" "I", Cond.fieldLink RX4 34 "JoinDesk$Table" "size" "I", Cond.methodLink RX4 48 yX4_putInOrder, Cond.instanceMethod yX4_putInOrder, Cond.selects RX4 yX4_putInOrder yX4_putInOrder, Cond.code yX4_putInOrder cX4_putInOrder 3 none, Cond.fieldLink RX4 15 "JoinDesk$Table" "keys" "[I", Cond.fieldLink RX4 22 "JoinDesk$Table" "order" "[I", Cond.methodLink RX5 64 yX4_findPartners, Cond.instanceMethod yX4_findPartners, Cond.selects RX4 yX4_findPartners yX4_findPartners, Cond.code yX4_findPartners cX4_findPartners 6 none, Cond.fieldLink RX4 31 "JoinDesk$Table" "firstPartners" "[I", Cond.fieldLink RX4 25 "JoinDesk$Table" "partnerSums" "[I"]
def wsX5_prepare_r2 : List Cond := [Cond.fieldLink RX4 28 "JoinDesk$Table" "loneSums" "[I", Cond.methodLink RX4 52 yX4_keyAt, Cond.instanceMethod yX4_keyAt, Cond.selects RX4 yX4_keyAt yX4_keyAt, Cond.code yX4_keyAt cX4_keyAt 2 (some .int), Cond.methodLink RX4 44 yX4_has, Cond.instanceMethod yX4_has, Cond.selects RX4 yX4_has yX4_has, Cond.code yX4_has cX4_has 2 (some .boolean), Cond.methodLink RX5 68 yX0_restart, Cond.instanceMethod yX0_restart, Cond.selects RX0 yX0_restart yX0_restart, Cond.initialized RX0, Cond.code yX0_restart cX0_restart 1 none, Cond.fieldLink RX0 21 "JoinDesk$Cursor" "here" "LJoinDesk$Position;", Cond.fieldLink RX0 36 "JoinDesk$Cursor" "cells" "J", Cond.methodLink RX0 46 yX2_stand, Cond.instanceMethod yX2_stand, Cond.selects RX2 yX2_stand yX2_stand, Cond.initialized RX2, Cond.code yX2_stand cX2_stand 4 none, Cond.fieldLink RX2 18 "JoinDesk$Position" "leftFrom" "I", Cond.fieldLink RX2 21 "JoinDesk$Position" "leftTo" "I", Cond.fieldLink RX2 24 "JoinDesk$Position" "rightFrom" "I"]
def wsX5_prepare_r3 : List Cond := [Cond.fieldLink RX2 27 "JoinDesk$Position" "rightTo" "I", Cond.fieldLink RX2 9 "JoinDesk$Position" "leftAt" "I", Cond.fieldLink RX2 15 "JoinDesk$Position" "rightAt" "I", Cond.fieldLink RX2 30 "JoinDesk$Position" "passed" "I", Cond.methodLink RX5 71 yX0_forgetMark, Cond.instanceMethod yX0_forgetMark, Cond.selects RX0 yX0_forgetMark yX0_forgetMark, Cond.code yX0_forgetMark cX0_forgetMark 1 none, Cond.fieldLink RX0 28 "JoinDesk$Cursor" "hasMark" "Z", Cond.methodLink RX5 74 yX1_forget, Cond.instanceMethod yX1_forget, Cond.selects RX1 yX1_forget yX1_forget, Cond.initialized RX1, Cond.code yX1_forget cX1_forget 1 none, Cond.fieldLink RX1 30 "JoinDesk$GroupBook" "size" "I", Cond.fieldLink RX1 33 "JoinDesk$GroupBook" "told" "Z"]
def wsX5_prepare : List Cond := .code yX5_prepare cX5_prepare 1 none :: ((wsX5_prepare_r1 ++ (wsX5_prepare_r2 ++ wsX5_prepare_r3)) ++ wsX50 ++ wsX40 ++ wsX00 ++ wsX20 ++ wsX10)
def wsX5_requireArgument : List Cond := .code yX5_requireArgument cX5_requireArgument 1 none :: ([.classLink RX5 175 "java/lang/IllegalArgumentException", .initialized "java/lang/IllegalArgumentException"] ++ (vx_atS RX5 179 "java/lang/IllegalArgumentException" ["java/lang/RuntimeException", "java/lang/Exception"]).filter goodWord)
def wsX5_kind_r1 : List Cond := [Cond.fieldLink RX5 30 "JoinDesk" "cursor" "LJoinDesk$Cursor;", Cond.methodLink RX5 77 yX5_isBelow, Cond.static yX5_isBelow, Cond.initialized RX5, Cond.code yX5_isBelow cX5_isBelow 2 (some .boolean), Cond.methodLink RX5 81 yX5_requireArgument, Cond.static yX5_requireArgument, Cond.code yX5_requireArgument cX5_requireArgument 1 none, Cond.classLink RX5 175 "java/lang/IllegalArgumentException", Cond.initialized "java/lang/IllegalArgumentException", Cond.methodLink RX5 84 yX0_useKind, Cond.instanceMethod yX0_useKind, Cond.selects RX0 yX0_useKind yX0_useKind, Cond.initialized RX0, Cond.code yX0_useKind cX0_useKind 2 none, Cond.fieldLink RX0 32 "JoinDesk$Cursor" "kind" "I", Cond.methodLink RX5 68 yX0_restart, Cond.instanceMethod yX0_restart, Cond.selects RX0 yX0_restart yX0_restart, Cond.code yX0_restart cX0_restart 1 none, Cond.fieldLink RX0 21 "JoinDesk$Cursor" "here" "LJoinDesk$Position;", Cond.fieldLink RX0 36 "JoinDesk$Cursor" "cells" "J", Cond.methodLink RX0 46 yX2_stand, Cond.instanceMethod yX2_stand]
def wsX5_kind_r2 : List Cond := [Cond.selects RX2 yX2_stand yX2_stand, Cond.initialized RX2, Cond.code yX2_stand cX2_stand 4 none, Cond.fieldLink RX2 18 "JoinDesk$Position" "leftFrom" "I", Cond.fieldLink RX2 21 "JoinDesk$Position" "leftTo" "I", Cond.fieldLink RX2 24 "JoinDesk$Position" "rightFrom" "I", Cond.fieldLink RX2 27 "JoinDesk$Position" "rightTo" "I", Cond.fieldLink RX2 9 "JoinDesk$Position" "leftAt" "I", Cond.fieldLink RX2 15 "JoinDesk$Position" "rightAt" "I", Cond.fieldLink RX2 30 "JoinDesk$Position" "passed" "I", Cond.methodLink RX5 71 yX0_forgetMark, Cond.instanceMethod yX0_forgetMark, Cond.selects RX0 yX0_forgetMark yX0_forgetMark, Cond.code yX0_forgetMark cX0_forgetMark 1 none, Cond.fieldLink RX0 28 "JoinDesk$Cursor" "hasMark" "Z"]
def wsX5_kind : List Cond := .code yX5_kind cX5_kind 2 none :: ((wsX5_kind_r1 ++ wsX5_kind_r2) ++ wsX50 ++ wsX00 ++ wsX20 ++ (vx_atS RX5 179 "java/lang/IllegalArgumentException" ["java/lang/RuntimeException", "java/lang/Exception"]).filter goodWord)
def wsX5_next_r1 : List Cond := [Cond.fieldLink RX5 41 "JoinDesk" "prepared" "Z", Cond.fieldLink RX5 30 "JoinDesk" "cursor" "LJoinDesk$Cursor;", Cond.methodLink RX5 53 yX5_requireState, Cond.static yX5_requireState, Cond.initialized RX5, Cond.code yX5_requireState cX5_requireState 1 none, Cond.classLink RX5 180 "java/lang/IllegalStateException", Cond.initialized "java/lang/IllegalStateException", Cond.methodLink RX5 87 yX0_goOn, Cond.instanceMethod yX0_goOn, Cond.selects RX0 yX0_goOn yX0_goOn, Cond.initialized RX0, Cond.code yX0_goOn cX0_goOn 2 (some .boolean), Cond.fieldLink RX0 21 "JoinDesk$Cursor" "here" "LJoinDesk$Position;", Cond.fieldLink RX0 32 "JoinDesk$Cursor" "kind" "I", Cond.methodLink RX0 57 yX2_enterNextPair, Cond.instanceMethod yX2_enterNextPair, Cond.selects RX2 yX2_enterNextPair yX2_enterNextPair, Cond.initialized RX2, Cond.code yX2_enterNextPair cX2_enterNextPair 1 (some .boolean), Cond.fieldLink RX2 15 "JoinDesk$Position" "rightAt" "I", Cond.fieldLink RX2 27 "JoinDesk$Position" "rightTo" "I", Cond.fieldLink RX2 9 "JoinDesk$Position" "leftAt" "I", Cond.fieldLink RX2 21 "JoinDesk$Position" "leftTo" "I"]
def wsX5_next_r2 : List Cond := [Cond.fieldLink RX2 24 "JoinDesk$Position" "rightFrom" "I", Cond.fieldLink RX2 30 "JoinDesk$Position" "passed" "I", Cond.methodLink RX2 33 yX2_hasRightRows, Cond.instanceMethod yX2_hasRightRows, Cond.selects RX2 yX2_hasRightRows yX2_hasRightRows, Cond.code yX2_hasRightRows cX2_hasRightRows 1 (some .boolean), Cond.methodLink RX0 61 yX0_rowsAhead, Cond.instanceMethod yX0_rowsAhead, Cond.selects RX0 yX0_rowsAhead yX0_rowsAhead, Cond.code yX0_rowsAhead cX0_rowsAhead 1 (some .int), Cond.fieldLink RX0 9 "JoinDesk$Cursor" "left" "LJoinDesk$Table;", Cond.fieldLink RX0 15 "JoinDesk$Cursor" "right" "LJoinDesk$Table;", Cond.methodLink RX0 89 yX4_size, Cond.instanceMethod yX4_size, Cond.selects RX4 yX4_size yX4_size, Cond.initialized RX4, Cond.code yX4_size cX4_size 1 (some .int), Cond.fieldLink RX4 34 "JoinDesk$Table" "size" "I", Cond.methodLink RX0 65 yX0_comeToNewKeys, Cond.instanceMethod yX0_comeToNewKeys, Cond.selects RX0 yX0_comeToNewKeys yX0_comeToNewKeys, Cond.code yX0_comeToNewKeys cX0_comeToNewKeys 5 none, Cond.methodLink RX0 94 yX4_has, Cond.instanceMethod yX4_has]
def wsX5_next_r3 : List Cond := [Cond.selects RX4 yX4_has yX4_has, Cond.code yX4_has cX4_has 2 (some .boolean), Cond.methodLink RX0 97 yX0_readKey, Cond.instanceMethod yX0_readKey, Cond.selects RX0 yX0_readKey yX0_readKey, Cond.code yX0_readKey cX0_readKey 3 (some .int), Cond.fieldLink RX0 36 "JoinDesk$Cursor" "cells" "J", Cond.methodLink RX0 109 yX4_keyAt, Cond.instanceMethod yX4_keyAt, Cond.selects RX4 yX4_keyAt yX4_keyAt, Cond.code yX4_keyAt cX4_keyAt 2 (some .int), Cond.fieldLink RX4 15 "JoinDesk$Table" "keys" "[I", Cond.fieldLink RX4 22 "JoinDesk$Table" "order" "[I", Cond.methodLink RX4 44 yX4_has, Cond.methodLink RX0 106 yX0_firstOtherKey, Cond.instanceMethod yX0_firstOtherKey, Cond.selects RX0 yX0_firstOtherKey yX0_firstOtherKey, Cond.code yX0_firstOtherKey cX0_firstOtherKey 5 (some .int), Cond.methodLink RX0 68 yX2_fits, Cond.instanceMethod yX2_fits, Cond.selects RX2 yX2_fits yX2_fits, Cond.code yX2_fits cX2_fits 2 (some .boolean), Cond.methodLink RX2 37 yX2_hasLeftRows, Cond.instanceMethod yX2_hasLeftRows]
def wsX5_next_r4 : List Cond := [Cond.selects RX2 yX2_hasLeftRows yX2_hasLeftRows, Cond.code yX2_hasLeftRows cX2_hasLeftRows 1 (some .boolean), Cond.fieldLink RX2 18 "JoinDesk$Position" "leftFrom" "I", Cond.methodLink RX0 72 yX2_enterFirstPair, Cond.instanceMethod yX2_enterFirstPair, Cond.selects RX2 yX2_enterFirstPair yX2_enterFirstPair, Cond.code yX2_enterFirstPair cX2_enterFirstPair 1 none, Cond.methodLink RX0 46 yX2_stand, Cond.instanceMethod yX2_stand, Cond.selects RX2 yX2_stand yX2_stand, Cond.code yX2_stand cX2_stand 4 none]
def wsX5_next : List Cond := .code yX5_next cX5_next 1 (some .boolean) :: ((wsX5_next_r1 ++ (wsX5_next_r2 ++ (wsX5_next_r3 ++ wsX5_next_r4))) ++ wsX50 ++ wsX00 ++ wsX20 ++ wsX40 ++ (vx_atS RX5 184 "java/lang/IllegalStateException" ["java/lang/RuntimeException", "java/lang/Exception"]).filter goodWord)
def wsX5_pair_r1 : List Cond := [Cond.fieldLink RX5 41 "JoinDesk" "prepared" "Z", Cond.fieldLink RX5 30 "JoinDesk" "cursor" "LJoinDesk$Cursor;", Cond.fieldLink RX5 18 "JoinDesk" "left" "LJoinDesk$Table;", Cond.fieldLink RX5 22 "JoinDesk" "right" "LJoinDesk$Table;", Cond.methodLink RX5 77 yX5_isBelow, Cond.static yX5_isBelow, Cond.initialized RX5, Cond.code yX5_isBelow cX5_isBelow 2 (some .boolean), Cond.methodLink RX5 81 yX5_requireArgument, Cond.static yX5_requireArgument, Cond.code yX5_requireArgument cX5_requireArgument 1 none, Cond.classLink RX5 175 "java/lang/IllegalArgumentException", Cond.initialized "java/lang/IllegalArgumentException", Cond.methodLink RX5 90 yX0_leftPlace, Cond.instanceMethod yX0_leftPlace, Cond.selects RX0 yX0_leftPlace yX0_leftPlace, Cond.initialized RX0, Cond.code yX0_leftPlace cX0_leftPlace 1 (some .int), Cond.fieldLink RX0 21 "JoinDesk$Cursor" "here" "LJoinDesk$Position;", Cond.methodLink RX5 94 yX0_rightPlace, Cond.instanceMethod yX0_rightPlace, Cond.selects RX0 yX0_rightPlace yX0_rightPlace, Cond.code yX0_rightPlace cX0_rightPlace 1 (some .int), Cond.methodLink RX5 97 yX4_has]
def wsX5_pair_r2 : List Cond := [Cond.instanceMethod yX4_has, Cond.selects RX4 yX4_has yX4_has, Cond.initialized RX4, Cond.code yX4_has cX4_has 2 (some .boolean), Cond.fieldLink RX4 34 "JoinDesk$Table" "size" "I", Cond.methodLink RX5 101 yX4_keyAt, Cond.instanceMethod yX4_keyAt, Cond.selects RX4 yX4_keyAt yX4_keyAt, Cond.code yX4_keyAt cX4_keyAt 2 (some .int), Cond.fieldLink RX4 15 "JoinDesk$Table" "keys" "[I", Cond.fieldLink RX4 22 "JoinDesk$Table" "order" "[I", Cond.methodLink RX4 44 yX4_has, Cond.methodLink RX5 104 yX4_valueAt, Cond.instanceMethod yX4_valueAt, Cond.selects RX4 yX4_valueAt yX4_valueAt, Cond.code yX4_valueAt cX4_valueAt 2 (some .int), Cond.fieldLink RX4 19 "JoinDesk$Table" "values" "[I", Cond.methodLink RX5 107 yX4_numberAt, Cond.instanceMethod yX4_numberAt, Cond.selects RX4 yX4_numberAt yX4_numberAt, Cond.code yX4_numberAt cX4_numberAt 2 (some .int)]
def wsX5_pair : List Cond := .code yX5_pair cX5_pair 4 (some .int) :: ((wsX5_pair_r1 ++ wsX5_pair_r2) ++ wsX50 ++ wsX00 ++ wsX20 ++ wsX40 ++ (vx_atS RX5 179 "java/lang/IllegalArgumentException" ["java/lang/RuntimeException", "java/lang/Exception"]).filter goodWord)
def wsX5_mark_r1 : List Cond := [Cond.fieldLink RX5 41 "JoinDesk" "prepared" "Z", Cond.fieldLink RX5 30 "JoinDesk" "cursor" "LJoinDesk$Cursor;", Cond.methodLink RX5 53 yX5_requireState, Cond.static yX5_requireState, Cond.initialized RX5, Cond.code yX5_requireState cX5_requireState 1 none, Cond.classLink RX5 180 "java/lang/IllegalStateException", Cond.initialized "java/lang/IllegalStateException", Cond.methodLink RX5 110 yX0_setMark, Cond.instanceMethod yX0_setMark, Cond.selects RX0 yX0_setMark yX0_setMark, Cond.initialized RX0, Cond.code yX0_setMark cX0_setMark 1 (some .int), Cond.fieldLink RX0 25 "JoinDesk$Cursor" "marked" "LJoinDesk$Position;", Cond.fieldLink RX0 21 "JoinDesk$Cursor" "here" "LJoinDesk$Position;", Cond.fieldLink RX0 28 "JoinDesk$Cursor" "hasMark" "Z", Cond.methodLink RX0 50 yX2_copy, Cond.instanceMethod yX2_copy, Cond.selects RX2 yX2_copy yX2_copy, Cond.initialized RX2, Cond.code yX2_copy cX2_copy 2 none, Cond.fieldLink RX2 18 "JoinDesk$Position" "leftFrom" "I", Cond.fieldLink RX2 21 "JoinDesk$Position" "leftTo" "I", Cond.fieldLink RX2 24 "JoinDesk$Position" "rightFrom" "I"]
def wsX5_mark_r2 : List Cond := [Cond.fieldLink RX2 27 "JoinDesk$Position" "rightTo" "I", Cond.fieldLink RX2 9 "JoinDesk$Position" "leftAt" "I", Cond.fieldLink RX2 15 "JoinDesk$Position" "rightAt" "I", Cond.fieldLink RX2 30 "JoinDesk$Position" "passed" "I"]
def wsX5_mark : List Cond := .code yX5_mark cX5_mark 1 (some .int) :: ((wsX5_mark_r1 ++ wsX5_mark_r2) ++ wsX50 ++ wsX00 ++ wsX20 ++ (vx_atS RX5 184 "java/lang/IllegalStateException" ["java/lang/RuntimeException", "java/lang/Exception"]).filter goodWord)
def wsX5_back_r1 : List Cond := [Cond.fieldLink RX5 41 "JoinDesk" "prepared" "Z", Cond.fieldLink RX5 30 "JoinDesk" "cursor" "LJoinDesk$Cursor;", Cond.methodLink RX5 113 yX0_hasMark, Cond.instanceMethod yX0_hasMark, Cond.selects RX0 yX0_hasMark yX0_hasMark, Cond.initialized RX0, Cond.code yX0_hasMark cX0_hasMark 1 (some .boolean), Cond.fieldLink RX0 28 "JoinDesk$Cursor" "hasMark" "Z", Cond.methodLink RX5 53 yX5_requireState, Cond.static yX5_requireState, Cond.initialized RX5, Cond.code yX5_requireState cX5_requireState 1 none, Cond.classLink RX5 180 "java/lang/IllegalStateException", Cond.initialized "java/lang/IllegalStateException", Cond.methodLink RX5 116 yX0_goToMark, Cond.instanceMethod yX0_goToMark, Cond.selects RX0 yX0_goToMark yX0_goToMark, Cond.code yX0_goToMark cX0_goToMark 1 (some .int), Cond.fieldLink RX0 21 "JoinDesk$Cursor" "here" "LJoinDesk$Position;", Cond.fieldLink RX0 25 "JoinDesk$Cursor" "marked" "LJoinDesk$Position;", Cond.methodLink RX0 50 yX2_copy, Cond.instanceMethod yX2_copy, Cond.selects RX2 yX2_copy yX2_copy, Cond.initialized RX2]
def wsX5_back_r2 : List Cond := [Cond.code yX2_copy cX2_copy 2 none, Cond.fieldLink RX2 18 "JoinDesk$Position" "leftFrom" "I", Cond.fieldLink RX2 21 "JoinDesk$Position" "leftTo" "I", Cond.fieldLink RX2 24 "JoinDesk$Position" "rightFrom" "I", Cond.fieldLink RX2 27 "JoinDesk$Position" "rightTo" "I", Cond.fieldLink RX2 9 "JoinDesk$Position" "leftAt" "I", Cond.fieldLink RX2 15 "JoinDesk$Position" "rightAt" "I", Cond.fieldLink RX2 30 "JoinDesk$Position" "passed" "I"]
def wsX5_back : List Cond := .code yX5_back cX5_back 1 (some .int) :: ((wsX5_back_r1 ++ wsX5_back_r2) ++ wsX50 ++ wsX00 ++ wsX20 ++ (vx_atS RX5 184 "java/lang/IllegalStateException" ["java/lang/RuntimeException", "java/lang/Exception"]).filter goodWord)
def wsX5_seek_r1 : List Cond := [Cond.fieldLink RX5 41 "JoinDesk" "prepared" "Z", Cond.fieldLink RX5 30 "JoinDesk" "cursor" "LJoinDesk$Cursor;", Cond.methodLink RX5 53 yX5_requireState, Cond.static yX5_requireState, Cond.initialized RX5, Cond.code yX5_requireState cX5_requireState 1 none, Cond.classLink RX5 180 "java/lang/IllegalStateException", Cond.initialized "java/lang/IllegalStateException", Cond.methodLink RX5 119 yX0_goBefore, Cond.instanceMethod yX0_goBefore, Cond.selects RX0 yX0_goBefore yX0_goBefore, Cond.initialized RX0, Cond.code yX0_goBefore cX0_goBefore 5 (some .boolean), Cond.fieldLink RX0 9 "JoinDesk$Cursor" "left" "LJoinDesk$Table;", Cond.fieldLink RX0 15 "JoinDesk$Cursor" "right" "LJoinDesk$Table;", Cond.fieldLink RX0 32 "JoinDesk$Cursor" "kind" "I", Cond.fieldLink RX0 21 "JoinDesk$Cursor" "here" "LJoinDesk$Position;", Cond.methodLink RX0 81 yX0_firstNotBelow, Cond.instanceMethod yX0_firstNotBelow, Cond.selects RX0 yX0_firstNotBelow yX0_firstNotBelow, Cond.code yX0_firstNotBelow cX0_firstNotBelow 7 (some .int), Cond.methodLink RX0 89 yX4_size, Cond.instanceMethod yX4_size, Cond.selects RX4 yX4_size yX4_size]
def wsX5_seek_r2 : List Cond := [Cond.initialized RX4, Cond.code yX4_size cX4_size 1 (some .int), Cond.fieldLink RX4 34 "JoinDesk$Table" "size" "I", Cond.methodLink RX0 97 yX0_readKey, Cond.instanceMethod yX0_readKey, Cond.selects RX0 yX0_readKey yX0_readKey, Cond.code yX0_readKey cX0_readKey 3 (some .int), Cond.fieldLink RX0 36 "JoinDesk$Cursor" "cells" "J", Cond.methodLink RX0 109 yX4_keyAt, Cond.instanceMethod yX4_keyAt, Cond.selects RX4 yX4_keyAt yX4_keyAt, Cond.code yX4_keyAt cX4_keyAt 2 (some .int), Cond.fieldLink RX4 15 "JoinDesk$Table" "keys" "[I", Cond.fieldLink RX4 22 "JoinDesk$Table" "order" "[I", Cond.methodLink RX4 44 yX4_has, Cond.instanceMethod yX4_has, Cond.selects RX4 yX4_has yX4_has, Cond.code yX4_has cX4_has 2 (some .boolean), Cond.static yX5_pairsBefore, Cond.code yX5_pairsBefore cX5_pairsBefore 6 (some .int), Cond.methodLink RX5 185 yX4_partnersBefore, Cond.instanceMethod yX4_partnersBefore, Cond.selects RX4 yX4_partnersBefore yX4_partnersBefore, Cond.code yX4_partnersBefore cX4_partnersBefore 2 (some .int)]
def wsX5_seek_r3 : List Cond := [Cond.fieldLink RX4 25 "JoinDesk$Table" "partnerSums" "[I", Cond.methodLink RX5 129 yX4_loneBefore, Cond.instanceMethod yX4_loneBefore, Cond.selects RX4 yX4_loneBefore yX4_loneBefore, Cond.code yX4_loneBefore cX4_loneBefore 2 (some .int), Cond.fieldLink RX4 28 "JoinDesk$Table" "loneSums" "[I", Cond.methodLink RX0 46 yX2_stand, Cond.instanceMethod yX2_stand, Cond.selects RX2 yX2_stand yX2_stand, Cond.initialized RX2, Cond.code yX2_stand cX2_stand 4 none, Cond.fieldLink RX2 18 "JoinDesk$Position" "leftFrom" "I", Cond.fieldLink RX2 21 "JoinDesk$Position" "leftTo" "I", Cond.fieldLink RX2 24 "JoinDesk$Position" "rightFrom" "I", Cond.fieldLink RX2 27 "JoinDesk$Position" "rightTo" "I", Cond.fieldLink RX2 9 "JoinDesk$Position" "leftAt" "I", Cond.fieldLink RX2 15 "JoinDesk$Position" "rightAt" "I", Cond.fieldLink RX2 30 "JoinDesk$Position" "passed" "I"]
def wsX5_seek : List Cond := .code yX5_seek cX5_seek 2 (some .boolean) :: ((wsX5_seek_r1 ++ (wsX5_seek_r2 ++ wsX5_seek_r3)) ++ wsX50 ++ wsX00 ++ wsX40 ++ wsX20 ++ (vx_atS RX5 184 "java/lang/IllegalStateException" ["java/lang/RuntimeException", "java/lang/Exception"]).filter goodWord)
def wsX5_rewind_r1 : List Cond := [Cond.fieldLink RX5 41 "JoinDesk" "prepared" "Z", Cond.fieldLink RX5 30 "JoinDesk" "cursor" "LJoinDesk$Cursor;", Cond.methodLink RX5 53 yX5_requireState, Cond.static yX5_requireState, Cond.initialized RX5, Cond.code yX5_requireState cX5_requireState 1 none, Cond.classLink RX5 180 "java/lang/IllegalStateException", Cond.initialized "java/lang/IllegalStateException", Cond.methodLink RX5 68 yX0_restart, Cond.instanceMethod yX0_restart, Cond.selects RX0 yX0_restart yX0_restart, Cond.initialized RX0, Cond.code yX0_restart cX0_restart 1 none, Cond.fieldLink RX0 21 "JoinDesk$Cursor" "here" "LJoinDesk$Position;", Cond.fieldLink RX0 36 "JoinDesk$Cursor" "cells" "J", Cond.methodLink RX0 46 yX2_stand, Cond.instanceMethod yX2_stand, Cond.selects RX2 yX2_stand yX2_stand, Cond.initialized RX2, Cond.code yX2_stand cX2_stand 4 none, Cond.fieldLink RX2 18 "JoinDesk$Position" "leftFrom" "I", Cond.fieldLink RX2 21 "JoinDesk$Position" "leftTo" "I", Cond.fieldLink RX2 24 "JoinDesk$Position" "rightFrom" "I", Cond.fieldLink RX2 27 "JoinDesk$Position" "rightTo" "I"]
def wsX5_rewind_r2 : List Cond := [Cond.fieldLink RX2 9 "JoinDesk$Position" "leftAt" "I", Cond.fieldLink RX2 15 "JoinDesk$Position" "rightAt" "I", Cond.fieldLink RX2 30 "JoinDesk$Position" "passed" "I"]
def wsX5_rewind : List Cond := .code yX5_rewind cX5_rewind 1 none :: ((wsX5_rewind_r1 ++ wsX5_rewind_r2) ++ wsX50 ++ wsX00 ++ wsX20 ++ (vx_atS RX5 184 "java/lang/IllegalStateException" ["java/lang/RuntimeException", "java/lang/Exception"]).filter goodWord)
def wsX5_count_r1 : List Cond := [Cond.fieldLink RX5 41 "JoinDesk" "prepared" "Z", Cond.fieldLink RX5 18 "JoinDesk" "left" "LJoinDesk$Table;", Cond.fieldLink RX5 22 "JoinDesk" "right" "LJoinDesk$Table;", Cond.methodLink RX5 77 yX5_isBelow, Cond.static yX5_isBelow, Cond.initialized RX5, Cond.code yX5_isBelow cX5_isBelow 2 (some .boolean), Cond.methodLink RX5 81 yX5_requireArgument, Cond.static yX5_requireArgument, Cond.code yX5_requireArgument cX5_requireArgument 1 none, Cond.classLink RX5 175 "java/lang/IllegalArgumentException", Cond.initialized "java/lang/IllegalArgumentException", Cond.methodLink RX5 53 yX5_requireState, Cond.static yX5_requireState, Cond.code yX5_requireState cX5_requireState 1 none, Cond.classLink RX5 180 "java/lang/IllegalStateException", Cond.initialized "java/lang/IllegalStateException", Cond.methodLink RX5 122 yX4_size, Cond.instanceMethod yX4_size, Cond.selects RX4 yX4_size yX4_size, Cond.initialized RX4, Cond.code yX4_size cX4_size 1 (some .int), Cond.fieldLink RX4 34 "JoinDesk$Table" "size" "I", Cond.methodLink RX5 125 yX5_pairsBefore]
def wsX5_count_r2 : List Cond := [Cond.static yX5_pairsBefore, Cond.code yX5_pairsBefore cX5_pairsBefore 6 (some .int), Cond.methodLink RX5 185 yX4_partnersBefore, Cond.instanceMethod yX4_partnersBefore, Cond.selects RX4 yX4_partnersBefore yX4_partnersBefore, Cond.code yX4_partnersBefore cX4_partnersBefore 2 (some .int), Cond.fieldLink RX4 25 "JoinDesk$Table" "partnerSums" "[I", Cond.methodLink RX5 129 yX4_loneBefore, Cond.instanceMethod yX4_loneBefore, Cond.selects RX4 yX4_loneBefore yX4_loneBefore, Cond.code yX4_loneBefore cX4_loneBefore 2 (some .int), Cond.fieldLink RX4 28 "JoinDesk$Table" "loneSums" "[I"]
def wsX5_count : List Cond := .code yX5_count cX5_count 2 (some .long) :: ((wsX5_count_r1 ++ wsX5_count_r2) ++ wsX50 ++ wsX40 ++ (vx_atS RX5 179 "java/lang/IllegalArgumentException" ["java/lang/RuntimeException", "java/lang/Exception"]).filter goodWord ++ (vx_atS RX5 184 "java/lang/IllegalStateException" ["java/lang/RuntimeException", "java/lang/Exception"]).filter goodWord)
def wsX5_rows : List Cond := .code yX5_rows cX5_rows 5 (some .int) :: ([.fieldLink RX5 41 "JoinDesk" "prepared" "Z", .methodLink RX5 53 yX5_requireState, .static yX5_requireState, .initialized RX5, .code yX5_requireState cX5_requireState 1 none, .classLink RX5 180 "java/lang/IllegalStateException", .initialized "java/lang/IllegalStateException", .methodLink RX5 45 yX5_tableOf, .instanceMethod yX5_tableOf, .selects RX5 yX5_tableOf yX5_tableOf, .code yX5_tableOf cX5_tableOf 2 (some (.object "JoinDesk$Table")), .fieldLink RX5 18 "JoinDesk" "left" "LJoinDesk$Table;", .fieldLink RX5 22 "JoinDesk" "right" "LJoinDesk$Table;", .methodLink RX5 122 yX4_size, .instanceMethod yX4_size, .selects RX4 yX4_size yX4_size, .initialized RX4, .code yX4_size cX4_size 1 (some .int), .fieldLink RX4 34 "JoinDesk$Table" "size" "I", .methodLink RX5 129 yX4_loneBefore, .instanceMethod yX4_loneBefore, .selects RX4 yX4_loneBefore yX4_loneBefore, .code yX4_loneBefore cX4_loneBefore 2 (some .int), .fieldLink RX4 28 "JoinDesk$Table" "loneSums" "[I"] ++ wsX50 ++ wsX40 ++ (vx_atS RX5 184 "java/lang/IllegalStateException" ["java/lang/RuntimeException", "java/lang/Exception"]).filter goodWord)
def wsX5_groups_r1 : List Cond := [Cond.classLink RX5 138 "java/lang/UnsupportedOperationException", Cond.initialized "java/lang/UnsupportedOperationException", Cond.fieldLink RX5 41 "JoinDesk" "prepared" "Z", Cond.fieldLink RX5 18 "JoinDesk" "left" "LJoinDesk$Table;", Cond.fieldLink RX5 37 "JoinDesk" "book" "LJoinDesk$GroupBook;", Cond.fieldLink RX5 22 "JoinDesk" "right" "LJoinDesk$Table;", Cond.methodLink RX5 53 yX5_requireState, Cond.static yX5_requireState, Cond.initialized RX5, Cond.code yX5_requireState cX5_requireState 1 none, Cond.classLink RX5 180 "java/lang/IllegalStateException", Cond.initialized "java/lang/IllegalStateException", Cond.methodLink RX5 132 yX4_groupStarts, Cond.instanceMethod yX4_groupStarts, Cond.selects RX4 yX4_groupStarts yX4_groupStarts, Cond.initialized RX4, Cond.code yX4_groupStarts cX4_groupStarts 3 (some .int), Cond.fieldLink RX4 34 "JoinDesk$Table" "size" "I", Cond.methodLink RX4 59 yX4_startsGroup, Cond.instanceMethod yX4_startsGroup, Cond.selects RX4 yX4_startsGroup yX4_startsGroup, Cond.code yX4_startsGroup cX4_startsGroup 3 (some .boolean), Cond.methodLink RX4 52 yX4_keyAt, Cond.instanceMethod yX4_keyAt]
def wsX5_groups_r2 : List Cond := [Cond.selects RX4 yX4_keyAt yX4_keyAt, Cond.code yX4_keyAt cX4_keyAt 2 (some .int), Cond.fieldLink RX4 15 "JoinDesk$Table" "keys" "[I", Cond.fieldLink RX4 22 "JoinDesk$Table" "order" "[I", Cond.methodLink RX4 44 yX4_has, Cond.instanceMethod yX4_has, Cond.selects RX4 yX4_has yX4_has, Cond.code yX4_has cX4_has 2 (some .boolean), Cond.methodLink RX4 56 yX4_partnersBefore, Cond.instanceMethod yX4_partnersBefore, Cond.selects RX4 yX4_partnersBefore yX4_partnersBefore, Cond.code yX4_partnersBefore cX4_partnersBefore 2 (some .int), Cond.fieldLink RX4 25 "JoinDesk$Table" "partnerSums" "[I", Cond.methodLink RX5 135 yX1_room, Cond.instanceMethod yX1_room, Cond.selects RX1 yX1_room yX1_room, Cond.initialized RX1, Cond.code yX1_room cX1_room 1 (some .int), Cond.fieldLink RX1 9 "JoinDesk$GroupBook" "room" "I", Cond.methodLink RX5 145 yX1_tell, Cond.instanceMethod yX1_tell, Cond.selects RX1 yX1_tell yX1_tell, Cond.code yX1_tell cX1_tell 4 (some .int), Cond.fieldLink RX1 30 "JoinDesk$GroupBook" "size" "I"]
def wsX5_groups_r3 : List Cond := [Cond.fieldLink RX1 23 "JoinDesk$GroupBook" "leftSpan" "LJoinDesk$Span;", Cond.fieldLink RX1 27 "JoinDesk$GroupBook" "rightSpan" "LJoinDesk$Span;", Cond.fieldLink RX1 33 "JoinDesk$GroupBook" "told" "Z", Cond.methodLink RX1 45 yX4_size, Cond.instanceMethod yX4_size, Cond.selects RX4 yX4_size yX4_size, Cond.code yX4_size cX4_size 1 (some .int), Cond.methodLink RX1 50 yX4_startsGroup, Cond.methodLink RX1 53 yX3_measure, Cond.instanceMethod yX3_measure, Cond.selects RX3 yX3_measure yX3_measure, Cond.initialized RX3, Cond.code yX3_measure cX3_measure 7 none, Cond.fieldLink RX3 7 "JoinDesk$Span" "rows" "I", Cond.fieldLink RX3 13 "JoinDesk$Span" "sum" "J", Cond.fieldLink RX3 23 "JoinDesk$Span" "least" "J", Cond.fieldLink RX3 26 "JoinDesk$Span" "greatest" "J", Cond.methodLink RX3 36 Lib.MathLoose.min_long.x, Cond.static Lib.MathLoose.min_long.x, Cond.initialized "java/lang/Math", Cond.code Lib.MathLoose.min_long.x Lib.MathLoose.min_long.code 4 (some .long), Cond.methodLink RX3 42 Lib.MathLoose.max_long.x, Cond.static Lib.MathLoose.max_long.x, Cond.code Lib.MathLoose.max_long.x Lib.MathLoose.max_long.code 4 (some .long)]
def wsX5_groups_r4 : List Cond := [Cond.methodLink RX3 17 yX4_valueAt, Cond.instanceMethod yX4_valueAt, Cond.selects RX4 yX4_valueAt yX4_valueAt, Cond.code yX4_valueAt cX4_valueAt 2 (some .int), Cond.fieldLink RX4 19 "JoinDesk$Table" "values" "[I", Cond.methodLink RX3 29 yX4_keyAt, Cond.methodLink RX3 32 yX4_size, Cond.methodLink RX1 57 yX4_firstPartnerOf, Cond.instanceMethod yX4_firstPartnerOf, Cond.selects RX4 yX4_firstPartnerOf yX4_firstPartnerOf, Cond.code yX4_firstPartnerOf cX4_firstPartnerOf 2 (some .int), Cond.fieldLink RX4 31 "JoinDesk$Table" "firstPartners" "[I", Cond.methodLink RX1 61 yX4_keyAt, Cond.methodLink RX1 64 yX1_write, Cond.instanceMethod yX1_write, Cond.selects RX1 yX1_write yX1_write, Cond.code yX1_write cX1_write 11 none, Cond.fieldLink RX1 17 "JoinDesk$GroupBook" "facts" "[[J", Cond.methodLink RX1 81 Lib.MathLoose.min_long.x, Cond.methodLink RX1 87 Lib.MathLoose.max_long.x]
def wsX5_groups : List Cond := .code yX5_groups cX5_groups 1 (some .int) :: ((wsX5_groups_r1 ++ (wsX5_groups_r2 ++ (wsX5_groups_r3 ++ wsX5_groups_r4))) ++ wsX50 ++ wsX40 ++ wsX10 ++ wsX30 ++ (vx_atS RX5 142 "java/lang/UnsupportedOperationException" ["java/lang/RuntimeException", "java/lang/Exception"]).filter goodWord ++ (vx_atS RX5 184 "java/lang/IllegalStateException" ["java/lang/RuntimeException", "java/lang/Exception"]).filter goodWord)
def wsX5_group_r1 : List Cond := [Cond.fieldLink RX5 41 "JoinDesk" "prepared" "Z", Cond.fieldLink RX5 37 "JoinDesk" "book" "LJoinDesk$GroupBook;", Cond.methodLink RX5 149 yX1_isTold, Cond.instanceMethod yX1_isTold, Cond.selects RX1 yX1_isTold yX1_isTold, Cond.initialized RX1, Cond.code yX1_isTold cX1_isTold 1 (some .boolean), Cond.fieldLink RX1 33 "JoinDesk$GroupBook" "told" "Z", Cond.methodLink RX5 152 yX1_has, Cond.instanceMethod yX1_has, Cond.selects RX1 yX1_has yX1_has, Cond.code yX1_has cX1_has 2 (some .boolean), Cond.fieldLink RX1 30 "JoinDesk$GroupBook" "size" "I", Cond.methodLink RX5 77 yX5_isBelow, Cond.static yX5_isBelow, Cond.initialized RX5, Cond.code yX5_isBelow cX5_isBelow 2 (some .boolean), Cond.methodLink RX5 81 yX5_requireArgument, Cond.static yX5_requireArgument, Cond.code yX5_requireArgument cX5_requireArgument 1 none, Cond.classLink RX5 175 "java/lang/IllegalArgumentException", Cond.initialized "java/lang/IllegalArgumentException", Cond.methodLink RX5 53 yX5_requireState, Cond.static yX5_requireState]
def wsX5_group_r2 : List Cond := [Cond.code yX5_requireState cX5_requireState 1 none, Cond.classLink RX5 180 "java/lang/IllegalStateException", Cond.initialized "java/lang/IllegalStateException", Cond.methodLink RX5 153 yX1_fact, Cond.instanceMethod yX1_fact, Cond.selects RX1 yX1_fact yX1_fact, Cond.code yX1_fact cX1_fact 3 (some .long), Cond.fieldLink RX1 17 "JoinDesk$GroupBook" "facts" "[[J", Cond.methodLink RX1 37 yX1_has]
def wsX5_group : List Cond := .code yX5_group cX5_group 4 (some .long) :: ((wsX5_group_r1 ++ wsX5_group_r2) ++ wsX50 ++ wsX10 ++ (vx_atS RX5 179 "java/lang/IllegalArgumentException" ["java/lang/RuntimeException", "java/lang/Exception"]).filter goodWord ++ (vx_atS RX5 184 "java/lang/IllegalStateException" ["java/lang/RuntimeException", "java/lang/Exception"]).filter goodWord)
def wsX5_sorted_r1 : List Cond := [Cond.fieldLink RX5 41 "JoinDesk" "prepared" "Z", Cond.methodLink RX5 45 yX5_tableOf, Cond.instanceMethod yX5_tableOf, Cond.selects RX5 yX5_tableOf yX5_tableOf, Cond.initialized RX5, Cond.code yX5_tableOf cX5_tableOf 2 (some (.object "JoinDesk$Table")), Cond.fieldLink RX5 18 "JoinDesk" "left" "LJoinDesk$Table;", Cond.fieldLink RX5 22 "JoinDesk" "right" "LJoinDesk$Table;", Cond.methodLink RX5 97 yX4_has, Cond.instanceMethod yX4_has, Cond.selects RX4 yX4_has yX4_has, Cond.initialized RX4, Cond.code yX4_has cX4_has 2 (some .boolean), Cond.fieldLink RX4 34 "JoinDesk$Table" "size" "I", Cond.methodLink RX5 77 yX5_isBelow, Cond.static yX5_isBelow, Cond.code yX5_isBelow cX5_isBelow 2 (some .boolean), Cond.methodLink RX5 81 yX5_requireArgument, Cond.static yX5_requireArgument, Cond.code yX5_requireArgument cX5_requireArgument 1 none, Cond.classLink RX5 175 "java/lang/IllegalArgumentException", Cond.initialized "java/lang/IllegalArgumentException", Cond.methodLink RX5 53 yX5_requireState, Cond.static yX5_requireState]
def wsX5_sorted_r2 : List Cond := [Cond.code yX5_requireState cX5_requireState 1 none, Cond.classLink RX5 180 "java/lang/IllegalStateException", Cond.initialized "java/lang/IllegalStateException", Cond.methodLink RX5 101 yX4_keyAt, Cond.instanceMethod yX4_keyAt, Cond.selects RX4 yX4_keyAt yX4_keyAt, Cond.code yX4_keyAt cX4_keyAt 2 (some .int), Cond.fieldLink RX4 15 "JoinDesk$Table" "keys" "[I", Cond.fieldLink RX4 22 "JoinDesk$Table" "order" "[I", Cond.methodLink RX4 44 yX4_has, Cond.methodLink RX5 104 yX4_valueAt, Cond.instanceMethod yX4_valueAt, Cond.selects RX4 yX4_valueAt yX4_valueAt, Cond.code yX4_valueAt cX4_valueAt 2 (some .int), Cond.fieldLink RX4 19 "JoinDesk$Table" "values" "[I", Cond.methodLink RX5 107 yX4_numberAt, Cond.instanceMethod yX4_numberAt, Cond.selects RX4 yX4_numberAt yX4_numberAt, Cond.code yX4_numberAt cX4_numberAt 2 (some .int)]
def wsX5_sorted : List Cond := .code yX5_sorted cX5_sorted 5 (some .int) :: ((wsX5_sorted_r1 ++ wsX5_sorted_r2) ++ wsX50 ++ wsX40 ++ (vx_atS RX5 179 "java/lang/IllegalArgumentException" ["java/lang/RuntimeException", "java/lang/Exception"]).filter goodWord ++ (vx_atS RX5 184 "java/lang/IllegalStateException" ["java/lang/RuntimeException", "java/lang/Exception"]).filter goodWord)
def wsX5_about_r1 : List Cond := [Cond.fieldLink RX5 30 "JoinDesk" "cursor" "LJoinDesk$Cursor;", Cond.fieldLink RX5 18 "JoinDesk" "left" "LJoinDesk$Table;", Cond.fieldLink RX5 22 "JoinDesk" "right" "LJoinDesk$Table;", Cond.fieldLink RX5 41 "JoinDesk" "prepared" "Z", Cond.methodLink RX5 77 yX5_isBelow, Cond.static yX5_isBelow, Cond.initialized RX5, Cond.code yX5_isBelow cX5_isBelow 2 (some .boolean), Cond.methodLink RX5 81 yX5_requireArgument, Cond.static yX5_requireArgument, Cond.code yX5_requireArgument cX5_requireArgument 1 none, Cond.classLink RX5 175 "java/lang/IllegalArgumentException", Cond.initialized "java/lang/IllegalArgumentException", Cond.methodLink RX5 157 yX0_cellsRead, Cond.instanceMethod yX0_cellsRead, Cond.selects RX0 yX0_cellsRead yX0_cellsRead, Cond.initialized RX0, Cond.code yX0_cellsRead cX0_cellsRead 1 (some .long), Cond.fieldLink RX0 36 "JoinDesk$Cursor" "cells" "J", Cond.methodLink RX5 122 yX4_size, Cond.instanceMethod yX4_size, Cond.selects RX4 yX4_size yX4_size, Cond.initialized RX4, Cond.code yX4_size cX4_size 1 (some .int)]
def wsX5_about_r2 : List Cond := [Cond.fieldLink RX4 34 "JoinDesk$Table" "size" "I", Cond.methodLink RX5 161 yX0_kindInUse, Cond.instanceMethod yX0_kindInUse, Cond.selects RX0 yX0_kindInUse yX0_kindInUse, Cond.code yX0_kindInUse cX0_kindInUse 1 (some .int), Cond.fieldLink RX0 32 "JoinDesk$Cursor" "kind" "I"]
def wsX5_about : List Cond := .code yX5_about cX5_about 2 (some .long) :: ((wsX5_about_r1 ++ wsX5_about_r2) ++ wsX50 ++ wsX00 ++ wsX40 ++ (vx_atS RX5 179 "java/lang/IllegalArgumentException" ["java/lang/RuntimeException", "java/lang/Exception"]).filter goodWord)
def wsX5_clear : List Cond := .code yX5_clear cX5_clear 1 none :: ([.fieldLink RX5 18 "JoinDesk" "left" "LJoinDesk$Table;", .fieldLink RX5 22 "JoinDesk" "right" "LJoinDesk$Table;", .fieldLink RX5 30 "JoinDesk" "cursor" "LJoinDesk$Cursor;", .fieldLink RX5 41 "JoinDesk" "prepared" "Z", .methodLink RX5 164 yX4_empty, .instanceMethod yX4_empty, .selects RX4 yX4_empty yX4_empty, .initialized RX4, .code yX4_empty cX4_empty 1 none, .fieldLink RX4 34 "JoinDesk$Table" "size" "I", .fieldLink RX4 37 "JoinDesk$Table" "placed" "I", .methodLink RX5 84 yX0_useKind, .instanceMethod yX0_useKind, .selects RX0 yX0_useKind yX0_useKind, .initialized RX0, .code yX0_useKind cX0_useKind 2 none, .fieldLink RX0 32 "JoinDesk$Cursor" "kind" "I"] ++ wsX50 ++ wsX40 ++ wsX00)
def wsX6_between : List Cond := .code yX6_between cX6_between 1 (some .int) :: ([])
def wsX6_init : List Cond := .code yX6_init cX6_init 4 none :: ([.methodLink RX6 1 objectInit, .instanceMethod objectInit, .code objectInit ⟨#[0xb1]⟩ 1 none, .arrayClass .int, .fieldLink RX6 7 "JoinDeskModel" "most" "[I", .fieldLink RX6 13 "JoinDeskModel" "keys" "[I", .fieldLink RX6 16 "JoinDeskModel" "values" "[I", .fieldLink RX6 19 "JoinDeskModel" "order" "[I", .fieldLink RX6 22 "JoinDeskModel" "many" "[I", .fieldLink RX6 25 "JoinDeskModel" "at" "[I", .fieldLink RX6 32 "JoinDeskModel" "room" "I", .methodLink RX6 28 yX6_between, .static yX6_between, .initialized RX6, .code yX6_between cX6_between 1 (some .int)] ++ wsX60)
def wsX6_thrown : List Cond := .code yX6_thrown cX6_thrown 1 (some .int) :: ([.fieldLink RX6 36 "JoinDeskModel" "code" "I"] ++ wsX60)
def wsX6_refuses : List Cond := .code yX6_refuses cX6_refuses 2 (some .boolean) :: ([.fieldLink RX6 36 "JoinDeskModel" "code" "I"] ++ wsX60)
def wsX6_key : List Cond := .code yX6_key cX6_key 3 (some .int) :: ([.fieldLink RX6 13 "JoinDeskModel" "keys" "[I", .fieldLink RX6 19 "JoinDeskModel" "order" "[I"] ++ wsX60)
def wsX6_value : List Cond := .code yX6_value cX6_value 3 (some .int) :: ([.fieldLink RX6 16 "JoinDeskModel" "values" "[I", .fieldLink RX6 19 "JoinDeskModel" "order" "[I"] ++ wsX60)
def wsX6_begins : List Cond := .code yX6_begins cX6_begins 2 none :: ([.fieldLink RX6 25 "JoinDeskModel" "at" "[I"] ++ wsX60)
def wsX6_add : List Cond := .code yX6_add cX6_add 6 (some .int) :: ([.fieldLink RX6 22 "JoinDeskModel" "many" "[I", .fieldLink RX6 7 "JoinDeskModel" "most" "[I", .fieldLink RX6 13 "JoinDeskModel" "keys" "[I", .fieldLink RX6 16 "JoinDeskModel" "values" "[I", .fieldLink RX6 43 "JoinDeskModel" "prepared" "Z", .fieldLink RX6 47 "JoinDeskModel" "grouped" "Z", .methodLink RX6 39 yX6_refuses, .instanceMethod yX6_refuses, .selects RX6 yX6_refuses yX6_refuses, .initialized RX6, .code yX6_refuses cX6_refuses 2 (some .boolean), .fieldLink RX6 36 "JoinDeskModel" "code" "I"] ++ wsX60)
def wsX6_prepare : List Cond := .code yX6_prepare cX6_prepare 4 none :: ([.fieldLink RX6 36 "JoinDeskModel" "code" "I", .fieldLink RX6 22 "JoinDeskModel" "many" "[I", .fieldLink RX6 13 "JoinDeskModel" "keys" "[I", .fieldLink RX6 19 "JoinDeskModel" "order" "[I", .fieldLink RX6 53 "JoinDeskModel" "cells" "J", .fieldLink RX6 57 "JoinDeskModel" "marked" "Z", .fieldLink RX6 47 "JoinDeskModel" "grouped" "Z", .fieldLink RX6 43 "JoinDeskModel" "prepared" "Z", .methodLink RX6 50 yX6_begins, .instanceMethod yX6_begins, .selects RX6 yX6_begins yX6_begins, .initialized RX6, .code yX6_begins cX6_begins 2 none, .fieldLink RX6 25 "JoinDeskModel" "at" "[I"] ++ wsX60)
def wsX6_kind : List Cond := .code yX6_kind cX6_kind 2 none :: ([.fieldLink RX6 60 "JoinDeskModel" "kind" "I", .fieldLink RX6 53 "JoinDeskModel" "cells" "J", .fieldLink RX6 57 "JoinDeskModel" "marked" "Z", .methodLink RX6 39 yX6_refuses, .instanceMethod yX6_refuses, .selects RX6 yX6_refuses yX6_refuses, .initialized RX6, .code yX6_refuses cX6_refuses 2 (some .boolean), .fieldLink RX6 36 "JoinDeskModel" "code" "I", .methodLink RX6 50 yX6_begins, .instanceMethod yX6_begins, .selects RX6 yX6_begins yX6_begins, .code yX6_begins cX6_begins 2 none, .fieldLink RX6 25 "JoinDeskModel" "at" "[I"] ++ wsX60)
def wsX6_tells : List Cond := .code yX6_tells cX6_tells 2 (some .boolean) :: ([])
def wsX6_goes : List Cond := .code yX6_goes cX6_goes 4 none :: ([.fieldLink RX6 25 "JoinDeskModel" "at" "[I", .fieldLink RX6 53 "JoinDeskModel" "cells" "J", .fieldLink RX6 22 "JoinDeskModel" "many" "[I", .methodLink RX6 63 yX6_key, .instanceMethod yX6_key, .selects RX6 yX6_key yX6_key, .initialized RX6, .code yX6_key cX6_key 3 (some .int), .fieldLink RX6 13 "JoinDeskModel" "keys" "[I", .fieldLink RX6 19 "JoinDeskModel" "order" "[I"] ++ wsX60)
def wsX6_steps : List Cond := .code yX6_steps cX6_steps 2 (some .boolean) :: ([.fieldLink RX6 25 "JoinDeskModel" "at" "[I"] ++ wsX60)
def wsX6_next_r1 : List Cond := [Cond.fieldLink RX6 43 "JoinDeskModel" "prepared" "Z", Cond.fieldLink RX6 25 "JoinDeskModel" "at" "[I", Cond.fieldLink RX6 22 "JoinDeskModel" "many" "[I", Cond.fieldLink RX6 53 "JoinDeskModel" "cells" "J", Cond.constantLong RX6 71 (2), Cond.fieldLink RX6 60 "JoinDeskModel" "kind" "I", Cond.methodLink RX6 39 yX6_refuses, Cond.instanceMethod yX6_refuses, Cond.selects RX6 yX6_refuses yX6_refuses, Cond.initialized RX6, Cond.code yX6_refuses cX6_refuses 2 (some .boolean), Cond.fieldLink RX6 36 "JoinDeskModel" "code" "I", Cond.methodLink RX6 67 yX6_steps, Cond.instanceMethod yX6_steps, Cond.selects RX6 yX6_steps yX6_steps, Cond.code yX6_steps cX6_steps 2 (some .boolean), Cond.methodLink RX6 63 yX6_key, Cond.instanceMethod yX6_key, Cond.selects RX6 yX6_key yX6_key, Cond.code yX6_key cX6_key 3 (some .int), Cond.fieldLink RX6 13 "JoinDeskModel" "keys" "[I", Cond.fieldLink RX6 19 "JoinDeskModel" "order" "[I", Cond.methodLink RX6 73 yX6_goes, Cond.instanceMethod yX6_goes]
def wsX6_next_r2 : List Cond := [Cond.selects RX6 yX6_goes yX6_goes, Cond.code yX6_goes cX6_goes 4 none, Cond.methodLink RX6 77 yX6_tells, Cond.static yX6_tells, Cond.code yX6_tells cX6_tells 2 (some .boolean)]
def wsX6_next : List Cond := .code yX6_next cX6_next 5 (some .boolean) :: ((wsX6_next_r1 ++ wsX6_next_r2) ++ wsX60)
def wsX6_pair : List Cond := .code yX6_pair cX6_pair 5 (some .int) :: ([.fieldLink RX6 43 "JoinDeskModel" "prepared" "Z", .fieldLink RX6 25 "JoinDeskModel" "at" "[I", .fieldLink RX6 19 "JoinDeskModel" "order" "[I", .methodLink RX6 39 yX6_refuses, .instanceMethod yX6_refuses, .selects RX6 yX6_refuses yX6_refuses, .initialized RX6, .code yX6_refuses cX6_refuses 2 (some .boolean), .fieldLink RX6 36 "JoinDeskModel" "code" "I", .methodLink RX6 63 yX6_key, .instanceMethod yX6_key, .selects RX6 yX6_key yX6_key, .code yX6_key cX6_key 3 (some .int), .fieldLink RX6 13 "JoinDeskModel" "keys" "[I", .methodLink RX6 81 yX6_value, .instanceMethod yX6_value, .selects RX6 yX6_value yX6_value, .code yX6_value cX6_value 3 (some .int), .fieldLink RX6 16 "JoinDeskModel" "values" "[I"] ++ wsX60)
def wsX6_mark : List Cond := .code yX6_mark cX6_mark 2 (some .int) :: ([.fieldLink RX6 43 "JoinDeskModel" "prepared" "Z", .fieldLink RX6 25 "JoinDeskModel" "at" "[I", .fieldLink RX6 57 "JoinDeskModel" "marked" "Z", .methodLink RX6 39 yX6_refuses, .instanceMethod yX6_refuses, .selects RX6 yX6_refuses yX6_refuses, .initialized RX6, .code yX6_refuses cX6_refuses 2 (some .boolean), .fieldLink RX6 36 "JoinDeskModel" "code" "I"] ++ wsX60)
def wsX6_back : List Cond := .code yX6_back cX6_back 2 (some .int) :: ([.fieldLink RX6 43 "JoinDeskModel" "prepared" "Z", .fieldLink RX6 57 "JoinDeskModel" "marked" "Z", .fieldLink RX6 25 "JoinDeskModel" "at" "[I", .methodLink RX6 39 yX6_refuses, .instanceMethod yX6_refuses, .selects RX6 yX6_refuses yX6_refuses, .initialized RX6, .code yX6_refuses cX6_refuses 2 (some .boolean), .fieldLink RX6 36 "JoinDeskModel" "code" "I"] ++ wsX60)
def wsX6_rowsOf : List Cond := .code yX6_rowsOf cX6_rowsOf 5 (some .int) :: ([.fieldLink RX6 22 "JoinDeskModel" "many" "[I", .fieldLink RX6 13 "JoinDeskModel" "keys" "[I"] ++ wsX60)
def wsX6_pairs : List Cond := .code yX6_pairs cX6_pairs 11 (some .long) :: ([.fieldLink RX6 22 "JoinDeskModel" "many" "[I", .fieldLink RX6 13 "JoinDeskModel" "keys" "[I", .methodLink RX6 84 yX6_rowsOf, .instanceMethod yX6_rowsOf, .selects RX6 yX6_rowsOf yX6_rowsOf, .initialized RX6, .code yX6_rowsOf cX6_rowsOf 5 (some .int), .methodLink RX6 77 yX6_tells, .static yX6_tells, .code yX6_tells cX6_tells 2 (some .boolean)] ++ wsX60)
def wsX6_seek_r1 : List Cond := [Cond.fieldLink RX6 43 "JoinDeskModel" "prepared" "Z", Cond.fieldLink RX6 22 "JoinDeskModel" "many" "[I", Cond.fieldLink RX6 53 "JoinDeskModel" "cells" "J", Cond.fieldLink RX6 25 "JoinDeskModel" "at" "[I", Cond.fieldLink RX6 60 "JoinDeskModel" "kind" "I", Cond.methodLink RX6 39 yX6_refuses, Cond.instanceMethod yX6_refuses, Cond.selects RX6 yX6_refuses yX6_refuses, Cond.initialized RX6, Cond.code yX6_refuses cX6_refuses 2 (some .boolean), Cond.fieldLink RX6 36 "JoinDeskModel" "code" "I", Cond.methodLink RX6 50 yX6_begins, Cond.instanceMethod yX6_begins, Cond.selects RX6 yX6_begins yX6_begins, Cond.code yX6_begins cX6_begins 2 none, Cond.methodLink RX6 63 yX6_key, Cond.instanceMethod yX6_key, Cond.selects RX6 yX6_key yX6_key, Cond.code yX6_key cX6_key 3 (some .int), Cond.fieldLink RX6 13 "JoinDeskModel" "keys" "[I", Cond.fieldLink RX6 19 "JoinDeskModel" "order" "[I", Cond.methodLink RX6 87 yX6_pairs, Cond.instanceMethod yX6_pairs, Cond.selects RX6 yX6_pairs yX6_pairs]
def wsX6_seek_r2 : List Cond := [Cond.code yX6_pairs cX6_pairs 11 (some .long), Cond.methodLink RX6 84 yX6_rowsOf, Cond.instanceMethod yX6_rowsOf, Cond.selects RX6 yX6_rowsOf yX6_rowsOf, Cond.code yX6_rowsOf cX6_rowsOf 5 (some .int), Cond.methodLink RX6 77 yX6_tells, Cond.static yX6_tells, Cond.code yX6_tells cX6_tells 2 (some .boolean)]
def wsX6_seek : List Cond := .code yX6_seek cX6_seek 6 (some .boolean) :: ((wsX6_seek_r1 ++ wsX6_seek_r2) ++ wsX60)
def wsX6_rewind : List Cond := .code yX6_rewind cX6_rewind 1 none :: ([.fieldLink RX6 43 "JoinDeskModel" "prepared" "Z", .fieldLink RX6 53 "JoinDeskModel" "cells" "J", .methodLink RX6 39 yX6_refuses, .instanceMethod yX6_refuses, .selects RX6 yX6_refuses yX6_refuses, .initialized RX6, .code yX6_refuses cX6_refuses 2 (some .boolean), .fieldLink RX6 36 "JoinDeskModel" "code" "I", .methodLink RX6 50 yX6_begins, .instanceMethod yX6_begins, .selects RX6 yX6_begins yX6_begins, .code yX6_begins cX6_begins 2 none, .fieldLink RX6 25 "JoinDeskModel" "at" "[I"] ++ wsX60)
def wsX6_count : List Cond := .code yX6_count cX6_count 2 (some .long) :: ([.fieldLink RX6 43 "JoinDeskModel" "prepared" "Z", .constantLong RX6 91 (3000000000), .methodLink RX6 39 yX6_refuses, .instanceMethod yX6_refuses, .selects RX6 yX6_refuses yX6_refuses, .initialized RX6, .code yX6_refuses cX6_refuses 2 (some .boolean), .fieldLink RX6 36 "JoinDeskModel" "code" "I", .methodLink RX6 87 yX6_pairs, .instanceMethod yX6_pairs, .selects RX6 yX6_pairs yX6_pairs, .code yX6_pairs cX6_pairs 11 (some .long), .fieldLink RX6 22 "JoinDeskModel" "many" "[I", .fieldLink RX6 13 "JoinDeskModel" "keys" "[I", .methodLink RX6 84 yX6_rowsOf, .instanceMethod yX6_rowsOf, .selects RX6 yX6_rowsOf yX6_rowsOf, .code yX6_rowsOf cX6_rowsOf 5 (some .int), .methodLink RX6 77 yX6_tells, .static yX6_tells, .code yX6_tells cX6_tells 2 (some .boolean)] ++ wsX60)
def wsX6_rows : List Cond := .code yX6_rows cX6_rows 6 (some .int) :: ([.fieldLink RX6 43 "JoinDeskModel" "prepared" "Z", .fieldLink RX6 22 "JoinDeskModel" "many" "[I", .fieldLink RX6 13 "JoinDeskModel" "keys" "[I", .methodLink RX6 39 yX6_refuses, .instanceMethod yX6_refuses, .selects RX6 yX6_refuses yX6_refuses, .initialized RX6, .code yX6_refuses cX6_refuses 2 (some .boolean), .fieldLink RX6 36 "JoinDeskModel" "code" "I", .methodLink RX6 84 yX6_rowsOf, .instanceMethod yX6_rowsOf, .selects RX6 yX6_rowsOf yX6_rowsOf, .code yX6_rowsOf cX6_rowsOf 5 (some .int)] ++ wsX60)
def wsX6_groupAt : List Cond := .code yX6_groupAt cX6_groupAt 5 (some .int) :: ([.fieldLink RX6 22 "JoinDeskModel" "many" "[I", .methodLink RX6 63 yX6_key, .instanceMethod yX6_key, .selects RX6 yX6_key yX6_key, .initialized RX6, .code yX6_key cX6_key 3 (some .int), .fieldLink RX6 13 "JoinDeskModel" "keys" "[I", .fieldLink RX6 19 "JoinDeskModel" "order" "[I", .methodLink RX6 84 yX6_rowsOf, .instanceMethod yX6_rowsOf, .selects RX6 yX6_rowsOf yX6_rowsOf, .code yX6_rowsOf cX6_rowsOf 5 (some .int)] ++ wsX60)
def wsX6_groups : List Cond := .code yX6_groups cX6_groups 2 (some .int) :: ([.fieldLink RX6 43 "JoinDeskModel" "prepared" "Z", .fieldLink RX6 32 "JoinDeskModel" "room" "I", .fieldLink RX6 47 "JoinDeskModel" "grouped" "Z", .methodLink RX6 39 yX6_refuses, .instanceMethod yX6_refuses, .selects RX6 yX6_refuses yX6_refuses, .initialized RX6, .code yX6_refuses cX6_refuses 2 (some .boolean), .fieldLink RX6 36 "JoinDeskModel" "code" "I", .methodLink RX6 93 yX6_groupAt, .instanceMethod yX6_groupAt, .selects RX6 yX6_groupAt yX6_groupAt, .code yX6_groupAt cX6_groupAt 5 (some .int), .fieldLink RX6 22 "JoinDeskModel" "many" "[I", .methodLink RX6 63 yX6_key, .instanceMethod yX6_key, .selects RX6 yX6_key yX6_key, .code yX6_key cX6_key 3 (some .int), .fieldLink RX6 13 "JoinDeskModel" "keys" "[I", .fieldLink RX6 19 "JoinDeskModel" "order" "[I", .methodLink RX6 84 yX6_rowsOf, .instanceMethod yX6_rowsOf, .selects RX6 yX6_rowsOf yX6_rowsOf, .code yX6_rowsOf cX6_rowsOf 5 (some .int)] ++ wsX60)
def wsX6_group_r1 : List Cond := [Cond.fieldLink RX6 43 "JoinDeskModel" "prepared" "Z", Cond.fieldLink RX6 47 "JoinDeskModel" "grouped" "Z", Cond.constantLong RX6 96 (9223372036854775807), Cond.fieldLink RX6 98 "JoinDeskModel" "least" "J", Cond.constantLong RX6 101 (-9223372036854775808), Cond.fieldLink RX6 103 "JoinDeskModel" "greatest" "J", Cond.fieldLink RX6 22 "JoinDeskModel" "many" "[I", Cond.fieldLink RX6 13 "JoinDeskModel" "keys" "[I", Cond.fieldLink RX6 16 "JoinDeskModel" "values" "[I", Cond.methodLink RX6 93 yX6_groupAt, Cond.instanceMethod yX6_groupAt, Cond.selects RX6 yX6_groupAt yX6_groupAt, Cond.initialized RX6, Cond.code yX6_groupAt cX6_groupAt 5 (some .int), Cond.methodLink RX6 63 yX6_key, Cond.instanceMethod yX6_key, Cond.selects RX6 yX6_key yX6_key, Cond.code yX6_key cX6_key 3 (some .int), Cond.fieldLink RX6 19 "JoinDeskModel" "order" "[I", Cond.methodLink RX6 84 yX6_rowsOf, Cond.instanceMethod yX6_rowsOf, Cond.selects RX6 yX6_rowsOf yX6_rowsOf, Cond.code yX6_rowsOf cX6_rowsOf 5 (some .int), Cond.methodLink RX6 39 yX6_refuses]
def wsX6_group_r2 : List Cond := [Cond.instanceMethod yX6_refuses, Cond.selects RX6 yX6_refuses yX6_refuses, Cond.code yX6_refuses cX6_refuses 2 (some .boolean), Cond.fieldLink RX6 36 "JoinDeskModel" "code" "I"]
def wsX6_group : List Cond := .code yX6_group cX6_group 13 (some .long) :: ((wsX6_group_r1 ++ wsX6_group_r2) ++ wsX60)
def wsX6_sorted : List Cond := .code yX6_sorted cX6_sorted 5 (some .int) :: ([.fieldLink RX6 22 "JoinDeskModel" "many" "[I", .fieldLink RX6 43 "JoinDeskModel" "prepared" "Z", .fieldLink RX6 19 "JoinDeskModel" "order" "[I", .methodLink RX6 39 yX6_refuses, .instanceMethod yX6_refuses, .selects RX6 yX6_refuses yX6_refuses, .initialized RX6, .code yX6_refuses cX6_refuses 2 (some .boolean), .fieldLink RX6 36 "JoinDeskModel" "code" "I", .methodLink RX6 63 yX6_key, .instanceMethod yX6_key, .selects RX6 yX6_key yX6_key, .code yX6_key cX6_key 3 (some .int), .fieldLink RX6 13 "JoinDeskModel" "keys" "[I", .methodLink RX6 81 yX6_value, .instanceMethod yX6_value, .selects RX6 yX6_value yX6_value, .code yX6_value cX6_value 3 (some .int), .fieldLink RX6 16 "JoinDeskModel" "values" "[I"] ++ wsX60)
def wsX6_about : List Cond := .code yX6_about cX6_about 2 (some .long) :: ([.fieldLink RX6 53 "JoinDeskModel" "cells" "J", .fieldLink RX6 22 "JoinDeskModel" "many" "[I", .fieldLink RX6 43 "JoinDeskModel" "prepared" "Z", .fieldLink RX6 60 "JoinDeskModel" "kind" "I", .methodLink RX6 39 yX6_refuses, .instanceMethod yX6_refuses, .selects RX6 yX6_refuses yX6_refuses, .initialized RX6, .code yX6_refuses cX6_refuses 2 (some .boolean), .fieldLink RX6 36 "JoinDeskModel" "code" "I"] ++ wsX60)
def wsX6_clear : List Cond := .code yX6_clear cX6_clear 1 none :: ([.fieldLink RX6 36 "JoinDeskModel" "code" "I", .fieldLink RX6 22 "JoinDeskModel" "many" "[I", .fieldLink RX6 60 "JoinDeskModel" "kind" "I", .fieldLink RX6 43 "JoinDeskModel" "prepared" "Z", .fieldLink RX6 47 "JoinDeskModel" "grouped" "Z", .fieldLink RX6 57 "JoinDeskModel" "marked" "Z", .fieldLink RX6 53 "JoinDeskModel" "cells" "J", .methodLink RX6 50 yX6_begins, .instanceMethod yX6_begins, .selects RX6 yX6_begins yX6_begins, .initialized RX6, .code yX6_begins cX6_begins 2 none, .fieldLink RX6 25 "JoinDeskModel" "at" "[I"] ++ wsX60)
def wsJ9_max_7cf53 : List Cond := .code yJ9_max_7cf53 cJ9_max_7cf53 2 (some .int) :: ([])
def wsJ9_max_f86c9 : List Cond := .code yJ9_max_f86c9 cJ9_max_f86c9 4 (some .long) :: ([])
def wsJ9_min_7cf53 : List Cond := .code yJ9_min_7cf53 cJ9_min_7cf53 2 (some .int) :: ([])
def wsJ9_min_f86c9 : List Cond := .code yJ9_min_f86c9 cJ9_min_f86c9 4 (some .long) :: ([])
def wsL_cell : List Cond := .code yL_cell cL_cell 2 (some .int) :: ([])
def wsL_add_r1 : List Cond := [Cond.classLink RL 13 "java/lang/IllegalStateException", Cond.methodLink RL 7 yX5_add, Cond.instanceMethod yX5_add, Cond.selects RX5 yX5_add yX5_add, Cond.initialized RX5, Cond.code yX5_add cX5_add 5 (some .int), Cond.fieldLink RX5 41 "JoinDesk" "prepared" "Z", Cond.methodLink RX5 45 yX5_tableOf, Cond.instanceMethod yX5_tableOf, Cond.selects RX5 yX5_tableOf yX5_tableOf, Cond.code yX5_tableOf cX5_tableOf 2 (some (.object "JoinDesk$Table")), Cond.fieldLink RX5 18 "JoinDesk" "left" "LJoinDesk$Table;", Cond.fieldLink RX5 22 "JoinDesk" "right" "LJoinDesk$Table;", Cond.methodLink RX5 49 yX4_hasRoom, Cond.instanceMethod yX4_hasRoom, Cond.selects RX4 yX4_hasRoom yX4_hasRoom, Cond.initialized RX4, Cond.code yX4_hasRoom cX4_hasRoom 1 (some .boolean), Cond.fieldLink RX4 34 "JoinDesk$Table" "size" "I", Cond.fieldLink RX4 9 "JoinDesk$Table" "room" "I", Cond.methodLink RX5 53 yX5_requireState, Cond.static yX5_requireState, Cond.code yX5_requireState cX5_requireState 1 none, Cond.classLink RX5 180 "java/lang/IllegalStateException"]
def wsL_add_r2 : List Cond := [Cond.initialized "java/lang/IllegalStateException", Cond.methodLink RX5 57 yX4_append, Cond.instanceMethod yX4_append, Cond.selects RX4 yX4_append yX4_append, Cond.code yX4_append cX4_append 3 (some .int), Cond.fieldLink RX4 15 "JoinDesk$Table" "keys" "[I", Cond.fieldLink RX4 19 "JoinDesk$Table" "values" "[I", Cond.methodLink RX4 40 yX4_hasRoom]
def wsL_add : List Cond := .codeWith yL_add cL_add 6 (some .int) [(0, 12, 15, 13)] :: ((wsL_add_r1 ++ wsL_add_r2) ++ wsX50 ++ wsX40 ++ (vx_atS RX5 184 "java/lang/IllegalStateException" ["java/lang/RuntimeException", "java/lang/Exception"]).filter goodWord)
def wsL_kind_r1 : List Cond := [Cond.classLink RL 19 "java/lang/IllegalArgumentException", Cond.methodLink RL 15 yX5_kind, Cond.instanceMethod yX5_kind, Cond.selects RX5 yX5_kind yX5_kind, Cond.initialized RX5, Cond.code yX5_kind cX5_kind 2 none, Cond.fieldLink RX5 30 "JoinDesk" "cursor" "LJoinDesk$Cursor;", Cond.methodLink RX5 77 yX5_isBelow, Cond.static yX5_isBelow, Cond.code yX5_isBelow cX5_isBelow 2 (some .boolean), Cond.methodLink RX5 81 yX5_requireArgument, Cond.static yX5_requireArgument, Cond.code yX5_requireArgument cX5_requireArgument 1 none, Cond.classLink RX5 175 "java/lang/IllegalArgumentException", Cond.initialized "java/lang/IllegalArgumentException", Cond.methodLink RX5 84 yX0_useKind, Cond.instanceMethod yX0_useKind, Cond.selects RX0 yX0_useKind yX0_useKind, Cond.initialized RX0, Cond.code yX0_useKind cX0_useKind 2 none, Cond.fieldLink RX0 32 "JoinDesk$Cursor" "kind" "I", Cond.methodLink RX5 68 yX0_restart, Cond.instanceMethod yX0_restart, Cond.selects RX0 yX0_restart yX0_restart]
def wsL_kind_r2 : List Cond := [Cond.code yX0_restart cX0_restart 1 none, Cond.fieldLink RX0 21 "JoinDesk$Cursor" "here" "LJoinDesk$Position;", Cond.fieldLink RX0 36 "JoinDesk$Cursor" "cells" "J", Cond.methodLink RX0 46 yX2_stand, Cond.instanceMethod yX2_stand, Cond.selects RX2 yX2_stand yX2_stand, Cond.initialized RX2, Cond.code yX2_stand cX2_stand 4 none, Cond.fieldLink RX2 18 "JoinDesk$Position" "leftFrom" "I", Cond.fieldLink RX2 21 "JoinDesk$Position" "leftTo" "I", Cond.fieldLink RX2 24 "JoinDesk$Position" "rightFrom" "I", Cond.fieldLink RX2 27 "JoinDesk$Position" "rightTo" "I", Cond.fieldLink RX2 9 "JoinDesk$Position" "leftAt" "I", Cond.fieldLink RX2 15 "JoinDesk$Position" "rightAt" "I", Cond.fieldLink RX2 30 "JoinDesk$Position" "passed" "I", Cond.methodLink RX5 71 yX0_forgetMark, Cond.instanceMethod yX0_forgetMark, Cond.selects RX0 yX0_forgetMark yX0_forgetMark, Cond.code yX0_forgetMark cX0_forgetMark 1 none, Cond.fieldLink RX0 28 "JoinDesk$Cursor" "hasMark" "Z"]
def wsL_kind : List Cond := .codeWith yL_kind cL_kind 3 (some .int) [(0, 5, 8, 19)] :: ((wsL_kind_r1 ++ wsL_kind_r2) ++ wsX50 ++ wsX00 ++ wsX20 ++ (vx_atS RX5 179 "java/lang/IllegalArgumentException" ["java/lang/RuntimeException", "java/lang/Exception"]).filter goodWord)
def wsL_next_r1 : List Cond := [Cond.classLink RL 13 "java/lang/IllegalStateException", Cond.methodLink RL 21 yX5_next, Cond.instanceMethod yX5_next, Cond.selects RX5 yX5_next yX5_next, Cond.initialized RX5, Cond.code yX5_next cX5_next 1 (some .boolean), Cond.fieldLink RX5 41 "JoinDesk" "prepared" "Z", Cond.fieldLink RX5 30 "JoinDesk" "cursor" "LJoinDesk$Cursor;", Cond.methodLink RX5 53 yX5_requireState, Cond.static yX5_requireState, Cond.code yX5_requireState cX5_requireState 1 none, Cond.classLink RX5 180 "java/lang/IllegalStateException", Cond.initialized "java/lang/IllegalStateException", Cond.methodLink RX5 87 yX0_goOn, Cond.instanceMethod yX0_goOn, Cond.selects RX0 yX0_goOn yX0_goOn, Cond.initialized RX0, Cond.code yX0_goOn cX0_goOn 2 (some .boolean), Cond.fieldLink RX0 21 "JoinDesk$Cursor" "here" "LJoinDesk$Position;", Cond.fieldLink RX0 32 "JoinDesk$Cursor" "kind" "I", Cond.methodLink RX0 57 yX2_enterNextPair, Cond.instanceMethod yX2_enterNextPair, Cond.selects RX2 yX2_enterNextPair yX2_enterNextPair, Cond.initialized RX2]
def wsL_next_r2 : List Cond := [Cond.code yX2_enterNextPair cX2_enterNextPair 1 (some .boolean), Cond.fieldLink RX2 15 "JoinDesk$Position" "rightAt" "I", Cond.fieldLink RX2 27 "JoinDesk$Position" "rightTo" "I", Cond.fieldLink RX2 9 "JoinDesk$Position" "leftAt" "I", Cond.fieldLink RX2 21 "JoinDesk$Position" "leftTo" "I", Cond.fieldLink RX2 24 "JoinDesk$Position" "rightFrom" "I", Cond.fieldLink RX2 30 "JoinDesk$Position" "passed" "I", Cond.methodLink RX2 33 yX2_hasRightRows, Cond.instanceMethod yX2_hasRightRows, Cond.selects RX2 yX2_hasRightRows yX2_hasRightRows, Cond.code yX2_hasRightRows cX2_hasRightRows 1 (some .boolean), Cond.methodLink RX0 61 yX0_rowsAhead, Cond.instanceMethod yX0_rowsAhead, Cond.selects RX0 yX0_rowsAhead yX0_rowsAhead, Cond.code yX0_rowsAhead cX0_rowsAhead 1 (some .int), Cond.fieldLink RX0 9 "JoinDesk$Cursor" "left" "LJoinDesk$Table;", Cond.fieldLink RX0 15 "JoinDesk$Cursor" "right" "LJoinDesk$Table;", Cond.methodLink RX0 89 yX4_size, Cond.instanceMethod yX4_size, Cond.selects RX4 yX4_size yX4_size, Cond.initialized RX4, Cond.code yX4_size cX4_size 1 (some .int), Cond.fieldLink RX4 34 "JoinDesk$Table" "size" "I", Cond.methodLink RX0 65 yX0_comeToNewKeys]
def wsL_next_r3 : List Cond := [Cond.instanceMethod yX0_comeToNewKeys, Cond.selects RX0 yX0_comeToNewKeys yX0_comeToNewKeys, Cond.code yX0_comeToNewKeys cX0_comeToNewKeys 5 none, Cond.methodLink RX0 94 yX4_has, Cond.instanceMethod yX4_has, Cond.selects RX4 yX4_has yX4_has, Cond.code yX4_has cX4_has 2 (some .boolean), Cond.methodLink RX0 97 yX0_readKey, Cond.instanceMethod yX0_readKey, Cond.selects RX0 yX0_readKey yX0_readKey, Cond.code yX0_readKey cX0_readKey 3 (some .int), Cond.fieldLink RX0 36 "JoinDesk$Cursor" "cells" "J", Cond.methodLink RX0 109 yX4_keyAt, Cond.instanceMethod yX4_keyAt, Cond.selects RX4 yX4_keyAt yX4_keyAt, Cond.code yX4_keyAt cX4_keyAt 2 (some .int), Cond.fieldLink RX4 15 "JoinDesk$Table" "keys" "[I", Cond.fieldLink RX4 22 "JoinDesk$Table" "order" "[I", Cond.methodLink RX4 44 yX4_has, Cond.methodLink RX0 106 yX0_firstOtherKey, Cond.instanceMethod yX0_firstOtherKey, Cond.selects RX0 yX0_firstOtherKey yX0_firstOtherKey, Cond.code yX0_firstOtherKey cX0_firstOtherKey 5 (some .int), Cond.methodLink RX0 68 yX2_fits]
def wsL_next_r4 : List Cond := [Cond.instanceMethod yX2_fits, Cond.selects RX2 yX2_fits yX2_fits, Cond.code yX2_fits cX2_fits 2 (some .boolean), Cond.methodLink RX2 37 yX2_hasLeftRows, Cond.instanceMethod yX2_hasLeftRows, Cond.selects RX2 yX2_hasLeftRows yX2_hasLeftRows, Cond.code yX2_hasLeftRows cX2_hasLeftRows 1 (some .boolean), Cond.fieldLink RX2 18 "JoinDesk$Position" "leftFrom" "I", Cond.methodLink RX0 72 yX2_enterFirstPair, Cond.instanceMethod yX2_enterFirstPair, Cond.selects RX2 yX2_enterFirstPair yX2_enterFirstPair, Cond.code yX2_enterFirstPair cX2_enterFirstPair 1 none, Cond.methodLink RX0 46 yX2_stand, Cond.instanceMethod yX2_stand, Cond.selects RX2 yX2_stand yX2_stand, Cond.code yX2_stand cX2_stand 4 none]
def wsL_next : List Cond := .codeWith yL_next cL_next 3 (some .int) [(0, 15, 18, 13)] :: ((wsL_next_r1 ++ (wsL_next_r2 ++ (wsL_next_r3 ++ wsL_next_r4))) ++ wsX50 ++ wsX00 ++ wsX20 ++ wsX40 ++ (vx_atS RX5 184 "java/lang/IllegalStateException" ["java/lang/RuntimeException", "java/lang/Exception"]).filter goodWord)
def wsL_pair_r1 : List Cond := [Cond.classLink RL 19 "java/lang/IllegalArgumentException", Cond.methodLink RL 25 yX5_pair, Cond.instanceMethod yX5_pair, Cond.selects RX5 yX5_pair yX5_pair, Cond.initialized RX5, Cond.code yX5_pair cX5_pair 4 (some .int), Cond.fieldLink RX5 41 "JoinDesk" "prepared" "Z", Cond.fieldLink RX5 30 "JoinDesk" "cursor" "LJoinDesk$Cursor;", Cond.fieldLink RX5 18 "JoinDesk" "left" "LJoinDesk$Table;", Cond.fieldLink RX5 22 "JoinDesk" "right" "LJoinDesk$Table;", Cond.methodLink RX5 77 yX5_isBelow, Cond.static yX5_isBelow, Cond.code yX5_isBelow cX5_isBelow 2 (some .boolean), Cond.methodLink RX5 81 yX5_requireArgument, Cond.static yX5_requireArgument, Cond.code yX5_requireArgument cX5_requireArgument 1 none, Cond.classLink RX5 175 "java/lang/IllegalArgumentException", Cond.initialized "java/lang/IllegalArgumentException", Cond.methodLink RX5 90 yX0_leftPlace, Cond.instanceMethod yX0_leftPlace, Cond.selects RX0 yX0_leftPlace yX0_leftPlace, Cond.initialized RX0, Cond.code yX0_leftPlace cX0_leftPlace 1 (some .int), Cond.fieldLink RX0 21 "JoinDesk$Cursor" "here" "LJoinDesk$Position;"]
def wsL_pair_r2 : List Cond := [Cond.methodLink RX5 94 yX0_rightPlace, Cond.instanceMethod yX0_rightPlace, Cond.selects RX0 yX0_rightPlace yX0_rightPlace, Cond.code yX0_rightPlace cX0_rightPlace 1 (some .int), Cond.methodLink RX5 97 yX4_has, Cond.instanceMethod yX4_has, Cond.selects RX4 yX4_has yX4_has, Cond.initialized RX4, Cond.code yX4_has cX4_has 2 (some .boolean), Cond.fieldLink RX4 34 "JoinDesk$Table" "size" "I", Cond.methodLink RX5 101 yX4_keyAt, Cond.instanceMethod yX4_keyAt, Cond.selects RX4 yX4_keyAt yX4_keyAt, Cond.code yX4_keyAt cX4_keyAt 2 (some .int), Cond.fieldLink RX4 15 "JoinDesk$Table" "keys" "[I", Cond.fieldLink RX4 22 "JoinDesk$Table" "order" "[I", Cond.methodLink RX4 44 yX4_has, Cond.methodLink RX5 104 yX4_valueAt, Cond.instanceMethod yX4_valueAt, Cond.selects RX4 yX4_valueAt yX4_valueAt, Cond.code yX4_valueAt cX4_valueAt 2 (some .int), Cond.fieldLink RX4 19 "JoinDesk$Table" "values" "[I", Cond.methodLink RX5 107 yX4_numberAt, Cond.instanceMethod yX4_numberAt]
def wsL_pair_r3 : List Cond := [Cond.selects RX4 yX4_numberAt yX4_numberAt, Cond.code yX4_numberAt cX4_numberAt 2 (some .int)]
def wsL_pair : List Cond := .codeWith yL_pair cL_pair 4 (some .int) [(0, 9, 12, 19)] :: ((wsL_pair_r1 ++ (wsL_pair_r2 ++ wsL_pair_r3)) ++ wsX50 ++ wsX00 ++ wsX20 ++ wsX40 ++ (vx_atS RX5 179 "java/lang/IllegalArgumentException" ["java/lang/RuntimeException", "java/lang/Exception"]).filter goodWord)
def wsL_mark_r1 : List Cond := [Cond.classLink RL 13 "java/lang/IllegalStateException", Cond.methodLink RL 29 yX5_mark, Cond.instanceMethod yX5_mark, Cond.selects RX5 yX5_mark yX5_mark, Cond.initialized RX5, Cond.code yX5_mark cX5_mark 1 (some .int), Cond.fieldLink RX5 41 "JoinDesk" "prepared" "Z", Cond.fieldLink RX5 30 "JoinDesk" "cursor" "LJoinDesk$Cursor;", Cond.methodLink RX5 53 yX5_requireState, Cond.static yX5_requireState, Cond.code yX5_requireState cX5_requireState 1 none, Cond.classLink RX5 180 "java/lang/IllegalStateException", Cond.initialized "java/lang/IllegalStateException", Cond.methodLink RX5 110 yX0_setMark, Cond.instanceMethod yX0_setMark, Cond.selects RX0 yX0_setMark yX0_setMark, Cond.initialized RX0, Cond.code yX0_setMark cX0_setMark 1 (some .int), Cond.fieldLink RX0 25 "JoinDesk$Cursor" "marked" "LJoinDesk$Position;", Cond.fieldLink RX0 21 "JoinDesk$Cursor" "here" "LJoinDesk$Position;", Cond.fieldLink RX0 28 "JoinDesk$Cursor" "hasMark" "Z", Cond.methodLink RX0 50 yX2_copy, Cond.instanceMethod yX2_copy, Cond.selects RX2 yX2_copy yX2_copy]
def wsL_mark_r2 : List Cond := [Cond.initialized RX2, Cond.code yX2_copy cX2_copy 2 none, Cond.fieldLink RX2 18 "JoinDesk$Position" "leftFrom" "I", Cond.fieldLink RX2 21 "JoinDesk$Position" "leftTo" "I", Cond.fieldLink RX2 24 "JoinDesk$Position" "rightFrom" "I", Cond.fieldLink RX2 27 "JoinDesk$Position" "rightTo" "I", Cond.fieldLink RX2 9 "JoinDesk$Position" "leftAt" "I", Cond.fieldLink RX2 15 "JoinDesk$Position" "rightAt" "I", Cond.fieldLink RX2 30 "JoinDesk$Position" "passed" "I"]
def wsL_mark : List Cond := .codeWith yL_mark cL_mark 3 (some .int) [(0, 8, 11, 13)] :: ((wsL_mark_r1 ++ wsL_mark_r2) ++ wsX50 ++ wsX00 ++ wsX20 ++ (vx_atS RX5 184 "java/lang/IllegalStateException" ["java/lang/RuntimeException", "java/lang/Exception"]).filter goodWord)
def wsL_back_r1 : List Cond := [Cond.classLink RL 13 "java/lang/IllegalStateException", Cond.methodLink RL 33 yX5_back, Cond.instanceMethod yX5_back, Cond.selects RX5 yX5_back yX5_back, Cond.initialized RX5, Cond.code yX5_back cX5_back 1 (some .int), Cond.fieldLink RX5 41 "JoinDesk" "prepared" "Z", Cond.fieldLink RX5 30 "JoinDesk" "cursor" "LJoinDesk$Cursor;", Cond.methodLink RX5 113 yX0_hasMark, Cond.instanceMethod yX0_hasMark, Cond.selects RX0 yX0_hasMark yX0_hasMark, Cond.initialized RX0, Cond.code yX0_hasMark cX0_hasMark 1 (some .boolean), Cond.fieldLink RX0 28 "JoinDesk$Cursor" "hasMark" "Z", Cond.methodLink RX5 53 yX5_requireState, Cond.static yX5_requireState, Cond.code yX5_requireState cX5_requireState 1 none, Cond.classLink RX5 180 "java/lang/IllegalStateException", Cond.initialized "java/lang/IllegalStateException", Cond.methodLink RX5 116 yX0_goToMark, Cond.instanceMethod yX0_goToMark, Cond.selects RX0 yX0_goToMark yX0_goToMark, Cond.code yX0_goToMark cX0_goToMark 1 (some .int), Cond.fieldLink RX0 21 "JoinDesk$Cursor" "here" "LJoinDesk$Position;"]
def wsL_back_r2 : List Cond := [Cond.fieldLink RX0 25 "JoinDesk$Cursor" "marked" "LJoinDesk$Position;", Cond.methodLink RX0 50 yX2_copy, Cond.instanceMethod yX2_copy, Cond.selects RX2 yX2_copy yX2_copy, Cond.initialized RX2, Cond.code yX2_copy cX2_copy 2 none, Cond.fieldLink RX2 18 "JoinDesk$Position" "leftFrom" "I", Cond.fieldLink RX2 21 "JoinDesk$Position" "leftTo" "I", Cond.fieldLink RX2 24 "JoinDesk$Position" "rightFrom" "I", Cond.fieldLink RX2 27 "JoinDesk$Position" "rightTo" "I", Cond.fieldLink RX2 9 "JoinDesk$Position" "leftAt" "I", Cond.fieldLink RX2 15 "JoinDesk$Position" "rightAt" "I", Cond.fieldLink RX2 30 "JoinDesk$Position" "passed" "I"]
def wsL_back : List Cond := .codeWith yL_back cL_back 3 (some .int) [(0, 8, 11, 13)] :: ((wsL_back_r1 ++ wsL_back_r2) ++ wsX50 ++ wsX00 ++ wsX20 ++ (vx_atS RX5 184 "java/lang/IllegalStateException" ["java/lang/RuntimeException", "java/lang/Exception"]).filter goodWord)
def wsL_seek_r1 : List Cond := [Cond.classLink RL 13 "java/lang/IllegalStateException", Cond.methodLink RL 36 yX5_seek, Cond.instanceMethod yX5_seek, Cond.selects RX5 yX5_seek yX5_seek, Cond.initialized RX5, Cond.code yX5_seek cX5_seek 2 (some .boolean), Cond.fieldLink RX5 41 "JoinDesk" "prepared" "Z", Cond.fieldLink RX5 30 "JoinDesk" "cursor" "LJoinDesk$Cursor;", Cond.methodLink RX5 53 yX5_requireState, Cond.static yX5_requireState, Cond.code yX5_requireState cX5_requireState 1 none, Cond.classLink RX5 180 "java/lang/IllegalStateException", Cond.initialized "java/lang/IllegalStateException", Cond.methodLink RX5 119 yX0_goBefore, Cond.instanceMethod yX0_goBefore, Cond.selects RX0 yX0_goBefore yX0_goBefore, Cond.initialized RX0, Cond.code yX0_goBefore cX0_goBefore 5 (some .boolean), Cond.fieldLink RX0 9 "JoinDesk$Cursor" "left" "LJoinDesk$Table;", Cond.fieldLink RX0 15 "JoinDesk$Cursor" "right" "LJoinDesk$Table;", Cond.fieldLink RX0 32 "JoinDesk$Cursor" "kind" "I", Cond.fieldLink RX0 21 "JoinDesk$Cursor" "here" "LJoinDesk$Position;", Cond.methodLink RX0 81 yX0_firstNotBelow, Cond.instanceMethod yX0_firstNotBelow]
def wsL_seek_r2 : List Cond := [Cond.selects RX0 yX0_firstNotBelow yX0_firstNotBelow, Cond.code yX0_firstNotBelow cX0_firstNotBelow 7 (some .int), Cond.methodLink RX0 89 yX4_size, Cond.instanceMethod yX4_size, Cond.selects RX4 yX4_size yX4_size, Cond.initialized RX4, Cond.code yX4_size cX4_size 1 (some .int), Cond.fieldLink RX4 34 "JoinDesk$Table" "size" "I", Cond.methodLink RX0 97 yX0_readKey, Cond.instanceMethod yX0_readKey, Cond.selects RX0 yX0_readKey yX0_readKey, Cond.code yX0_readKey cX0_readKey 3 (some .int), Cond.fieldLink RX0 36 "JoinDesk$Cursor" "cells" "J", Cond.methodLink RX0 109 yX4_keyAt, Cond.instanceMethod yX4_keyAt, Cond.selects RX4 yX4_keyAt yX4_keyAt, Cond.code yX4_keyAt cX4_keyAt 2 (some .int), Cond.fieldLink RX4 15 "JoinDesk$Table" "keys" "[I", Cond.fieldLink RX4 22 "JoinDesk$Table" "order" "[I", Cond.methodLink RX4 44 yX4_has, Cond.instanceMethod yX4_has, Cond.selects RX4 yX4_has yX4_has, Cond.code yX4_has cX4_has 2 (some .boolean), Cond.static yX5_pairsBefore]
def wsL_seek_r3 : List Cond := [Cond.code yX5_pairsBefore cX5_pairsBefore 6 (some .int), Cond.methodLink RX5 185 yX4_partnersBefore, Cond.instanceMethod yX4_partnersBefore, Cond.selects RX4 yX4_partnersBefore yX4_partnersBefore, Cond.code yX4_partnersBefore cX4_partnersBefore 2 (some .int), Cond.fieldLink RX4 25 "JoinDesk$Table" "partnerSums" "[I", Cond.methodLink RX5 129 yX4_loneBefore, Cond.instanceMethod yX4_loneBefore, Cond.selects RX4 yX4_loneBefore yX4_loneBefore, Cond.code yX4_loneBefore cX4_loneBefore 2 (some .int), Cond.fieldLink RX4 28 "JoinDesk$Table" "loneSums" "[I", Cond.methodLink RX0 46 yX2_stand, Cond.instanceMethod yX2_stand, Cond.selects RX2 yX2_stand yX2_stand, Cond.initialized RX2, Cond.code yX2_stand cX2_stand 4 none, Cond.fieldLink RX2 18 "JoinDesk$Position" "leftFrom" "I", Cond.fieldLink RX2 21 "JoinDesk$Position" "leftTo" "I", Cond.fieldLink RX2 24 "JoinDesk$Position" "rightFrom" "I", Cond.fieldLink RX2 27 "JoinDesk$Position" "rightTo" "I", Cond.fieldLink RX2 9 "JoinDesk$Position" "leftAt" "I", Cond.fieldLink RX2 15 "JoinDesk$Position" "rightAt" "I", Cond.fieldLink RX2 30 "JoinDesk$Position" "passed" "I"]
def wsL_seek : List Cond := .codeWith yL_seek cL_seek 4 (some .int) [(0, 16, 19, 13)] :: ((wsL_seek_r1 ++ (wsL_seek_r2 ++ wsL_seek_r3)) ++ wsX50 ++ wsX00 ++ wsX40 ++ wsX20 ++ (vx_atS RX5 184 "java/lang/IllegalStateException" ["java/lang/RuntimeException", "java/lang/Exception"]).filter goodWord)
def wsL_rewind_r1 : List Cond := [Cond.classLink RL 13 "java/lang/IllegalStateException", Cond.methodLink RL 40 yX5_rewind, Cond.instanceMethod yX5_rewind, Cond.selects RX5 yX5_rewind yX5_rewind, Cond.initialized RX5, Cond.code yX5_rewind cX5_rewind 1 none, Cond.fieldLink RX5 41 "JoinDesk" "prepared" "Z", Cond.fieldLink RX5 30 "JoinDesk" "cursor" "LJoinDesk$Cursor;", Cond.methodLink RX5 53 yX5_requireState, Cond.static yX5_requireState, Cond.code yX5_requireState cX5_requireState 1 none, Cond.classLink RX5 180 "java/lang/IllegalStateException", Cond.initialized "java/lang/IllegalStateException", Cond.methodLink RX5 68 yX0_restart, Cond.instanceMethod yX0_restart, Cond.selects RX0 yX0_restart yX0_restart, Cond.initialized RX0, Cond.code yX0_restart cX0_restart 1 none, Cond.fieldLink RX0 21 "JoinDesk$Cursor" "here" "LJoinDesk$Position;", Cond.fieldLink RX0 36 "JoinDesk$Cursor" "cells" "J", Cond.methodLink RX0 46 yX2_stand, Cond.instanceMethod yX2_stand, Cond.selects RX2 yX2_stand yX2_stand, Cond.initialized RX2]
def wsL_rewind_r2 : List Cond := [Cond.code yX2_stand cX2_stand 4 none, Cond.fieldLink RX2 18 "JoinDesk$Position" "leftFrom" "I", Cond.fieldLink RX2 21 "JoinDesk$Position" "leftTo" "I", Cond.fieldLink RX2 24 "JoinDesk$Position" "rightFrom" "I", Cond.fieldLink RX2 27 "JoinDesk$Position" "rightTo" "I", Cond.fieldLink RX2 9 "JoinDesk$Position" "leftAt" "I", Cond.fieldLink RX2 15 "JoinDesk$Position" "rightAt" "I", Cond.fieldLink RX2 30 "JoinDesk$Position" "passed" "I"]
def wsL_rewind : List Cond := .codeWith yL_rewind cL_rewind 2 (some .int) [(0, 4, 7, 13)] :: ((wsL_rewind_r1 ++ wsL_rewind_r2) ++ wsX50 ++ wsX00 ++ wsX20 ++ (vx_atS RX5 184 "java/lang/IllegalStateException" ["java/lang/RuntimeException", "java/lang/Exception"]).filter goodWord)
def wsL_count_r1 : List Cond := [Cond.classLink RL 19 "java/lang/IllegalArgumentException", Cond.classLink RL 13 "java/lang/IllegalStateException", Cond.methodLink RL 43 yX5_count, Cond.instanceMethod yX5_count, Cond.selects RX5 yX5_count yX5_count, Cond.initialized RX5, Cond.code yX5_count cX5_count 2 (some .long), Cond.fieldLink RX5 41 "JoinDesk" "prepared" "Z", Cond.fieldLink RX5 18 "JoinDesk" "left" "LJoinDesk$Table;", Cond.fieldLink RX5 22 "JoinDesk" "right" "LJoinDesk$Table;", Cond.methodLink RX5 77 yX5_isBelow, Cond.static yX5_isBelow, Cond.code yX5_isBelow cX5_isBelow 2 (some .boolean), Cond.methodLink RX5 81 yX5_requireArgument, Cond.static yX5_requireArgument, Cond.code yX5_requireArgument cX5_requireArgument 1 none, Cond.classLink RX5 175 "java/lang/IllegalArgumentException", Cond.initialized "java/lang/IllegalArgumentException", Cond.methodLink RX5 53 yX5_requireState, Cond.static yX5_requireState, Cond.code yX5_requireState cX5_requireState 1 none, Cond.classLink RX5 180 "java/lang/IllegalStateException", Cond.initialized "java/lang/IllegalStateException", Cond.methodLink RX5 122 yX4_size]
def wsL_count_r2 : List Cond := [Cond.instanceMethod yX4_size, Cond.selects RX4 yX4_size yX4_size, Cond.initialized RX4, Cond.code yX4_size cX4_size 1 (some .int), Cond.fieldLink RX4 34 "JoinDesk$Table" "size" "I", Cond.methodLink RX5 125 yX5_pairsBefore, Cond.static yX5_pairsBefore, Cond.code yX5_pairsBefore cX5_pairsBefore 6 (some .int), Cond.methodLink RX5 185 yX4_partnersBefore, Cond.instanceMethod yX4_partnersBefore, Cond.selects RX4 yX4_partnersBefore yX4_partnersBefore, Cond.code yX4_partnersBefore cX4_partnersBefore 2 (some .int), Cond.fieldLink RX4 25 "JoinDesk$Table" "partnerSums" "[I", Cond.methodLink RX5 129 yX4_loneBefore, Cond.instanceMethod yX4_loneBefore, Cond.selects RX4 yX4_loneBefore yX4_loneBefore, Cond.code yX4_loneBefore cX4_loneBefore 2 (some .int), Cond.fieldLink RX4 28 "JoinDesk$Table" "loneSums" "[I"]
def wsL_count : List Cond := .codeWith yL_count cL_count 4 (some .int) [(0, 8, 11, 19), (0, 8, 14, 13)] :: ((wsL_count_r1 ++ wsL_count_r2) ++ wsX50 ++ wsX40 ++ (vx_atS RX5 179 "java/lang/IllegalArgumentException" ["java/lang/RuntimeException", "java/lang/Exception"]).filter goodWord ++ (vx_atS RX5 184 "java/lang/IllegalStateException" ["java/lang/RuntimeException", "java/lang/Exception"]).filter goodWord)
def wsL_rows_r1 : List Cond := [Cond.classLink RL 13 "java/lang/IllegalStateException", Cond.methodLink RL 47 yX5_rows, Cond.instanceMethod yX5_rows, Cond.selects RX5 yX5_rows yX5_rows, Cond.initialized RX5, Cond.code yX5_rows cX5_rows 5 (some .int), Cond.fieldLink RX5 41 "JoinDesk" "prepared" "Z", Cond.methodLink RX5 53 yX5_requireState, Cond.static yX5_requireState, Cond.code yX5_requireState cX5_requireState 1 none, Cond.classLink RX5 180 "java/lang/IllegalStateException", Cond.initialized "java/lang/IllegalStateException", Cond.methodLink RX5 45 yX5_tableOf, Cond.instanceMethod yX5_tableOf, Cond.selects RX5 yX5_tableOf yX5_tableOf, Cond.code yX5_tableOf cX5_tableOf 2 (some (.object "JoinDesk$Table")), Cond.fieldLink RX5 18 "JoinDesk" "left" "LJoinDesk$Table;", Cond.fieldLink RX5 22 "JoinDesk" "right" "LJoinDesk$Table;", Cond.methodLink RX5 122 yX4_size, Cond.instanceMethod yX4_size, Cond.selects RX4 yX4_size yX4_size, Cond.initialized RX4, Cond.code yX4_size cX4_size 1 (some .int), Cond.fieldLink RX4 34 "JoinDesk$Table" "size" "I"]
def wsL_rows_r2 : List Cond := [Cond.methodLink RX5 129 yX4_loneBefore, Cond.instanceMethod yX4_loneBefore, Cond.selects RX4 yX4_loneBefore yX4_loneBefore, Cond.code yX4_loneBefore cX4_loneBefore 2 (some .int), Cond.fieldLink RX4 28 "JoinDesk$Table" "loneSums" "[I"]
def wsL_rows : List Cond := .codeWith yL_rows cL_rows 5 (some .int) [(0, 10, 13, 13)] :: ((wsL_rows_r1 ++ wsL_rows_r2) ++ wsX50 ++ wsX40 ++ (vx_atS RX5 184 "java/lang/IllegalStateException" ["java/lang/RuntimeException", "java/lang/Exception"]).filter goodWord)
def wsL_groups_r1 : List Cond := [Cond.classLink RL 13 "java/lang/IllegalStateException", Cond.classLink RL 54 "java/lang/UnsupportedOperationException", Cond.methodLink RL 51 yX5_groups, Cond.instanceMethod yX5_groups, Cond.selects RX5 yX5_groups yX5_groups, Cond.initialized RX5, Cond.code yX5_groups cX5_groups 1 (some .int), Cond.classLink RX5 138 "java/lang/UnsupportedOperationException", Cond.initialized "java/lang/UnsupportedOperationException", Cond.fieldLink RX5 41 "JoinDesk" "prepared" "Z", Cond.fieldLink RX5 18 "JoinDesk" "left" "LJoinDesk$Table;", Cond.fieldLink RX5 37 "JoinDesk" "book" "LJoinDesk$GroupBook;", Cond.fieldLink RX5 22 "JoinDesk" "right" "LJoinDesk$Table;", Cond.methodLink RX5 53 yX5_requireState, Cond.static yX5_requireState, Cond.code yX5_requireState cX5_requireState 1 none, Cond.classLink RX5 180 "java/lang/IllegalStateException", Cond.initialized "java/lang/IllegalStateException", Cond.methodLink RX5 132 yX4_groupStarts, Cond.instanceMethod yX4_groupStarts, Cond.selects RX4 yX4_groupStarts yX4_groupStarts, Cond.initialized RX4, Cond.code yX4_groupStarts cX4_groupStarts 3 (some .int), Cond.fieldLink RX4 34 "JoinDesk$Table" "size" "I"]
def wsL_groups_r2 : List Cond := [Cond.methodLink RX4 59 yX4_startsGroup, Cond.instanceMethod yX4_startsGroup, Cond.selects RX4 yX4_startsGroup yX4_startsGroup, Cond.code yX4_startsGroup cX4_startsGroup 3 (some .boolean), Cond.methodLink RX4 52 yX4_keyAt, Cond.instanceMethod yX4_keyAt, Cond.selects RX4 yX4_keyAt yX4_keyAt, Cond.code yX4_keyAt cX4_keyAt 2 (some .int), Cond.fieldLink RX4 15 "JoinDesk$Table" "keys" "[I", Cond.fieldLink RX4 22 "JoinDesk$Table" "order" "[I", Cond.methodLink RX4 44 yX4_has, Cond.instanceMethod yX4_has, Cond.selects RX4 yX4_has yX4_has, Cond.code yX4_has cX4_has 2 (some .boolean), Cond.methodLink RX4 56 yX4_partnersBefore, Cond.instanceMethod yX4_partnersBefore, Cond.selects RX4 yX4_partnersBefore yX4_partnersBefore, Cond.code yX4_partnersBefore cX4_partnersBefore 2 (some .int), Cond.fieldLink RX4 25 "JoinDesk$Table" "partnerSums" "[I", Cond.methodLink RX5 135 yX1_room, Cond.instanceMethod yX1_room, Cond.selects RX1 yX1_room yX1_room, Cond.initialized RX1, Cond.code yX1_room cX1_room 1 (some .int)]
def wsL_groups_r3 : List Cond := [Cond.fieldLink RX1 9 "JoinDesk$GroupBook" "room" "I", Cond.methodLink RX5 145 yX1_tell, Cond.instanceMethod yX1_tell, Cond.selects RX1 yX1_tell yX1_tell, Cond.code yX1_tell cX1_tell 4 (some .int), Cond.fieldLink RX1 30 "JoinDesk$GroupBook" "size" "I", Cond.fieldLink RX1 23 "JoinDesk$GroupBook" "leftSpan" "LJoinDesk$Span;", Cond.fieldLink RX1 27 "JoinDesk$GroupBook" "rightSpan" "LJoinDesk$Span;", Cond.fieldLink RX1 33 "JoinDesk$GroupBook" "told" "Z", Cond.methodLink RX1 45 yX4_size, Cond.instanceMethod yX4_size, Cond.selects RX4 yX4_size yX4_size, Cond.code yX4_size cX4_size 1 (some .int), Cond.methodLink RX1 50 yX4_startsGroup, Cond.methodLink RX1 53 yX3_measure, Cond.instanceMethod yX3_measure, Cond.selects RX3 yX3_measure yX3_measure, Cond.initialized RX3, Cond.code yX3_measure cX3_measure 7 none, Cond.fieldLink RX3 7 "JoinDesk$Span" "rows" "I", Cond.fieldLink RX3 13 "JoinDesk$Span" "sum" "J", Cond.fieldLink RX3 23 "JoinDesk$Span" "least" "J", Cond.fieldLink RX3 26 "JoinDesk$Span" "greatest" "J", Cond.methodLink RX3 36 Lib.MathLoose.min_long.x]
def wsL_groups_r4 : List Cond := [Cond.static Lib.MathLoose.min_long.x, Cond.initialized "java/lang/Math", Cond.code Lib.MathLoose.min_long.x Lib.MathLoose.min_long.code 4 (some .long), Cond.methodLink RX3 42 Lib.MathLoose.max_long.x, Cond.static Lib.MathLoose.max_long.x, Cond.code Lib.MathLoose.max_long.x Lib.MathLoose.max_long.code 4 (some .long), Cond.methodLink RX3 17 yX4_valueAt, Cond.instanceMethod yX4_valueAt, Cond.selects RX4 yX4_valueAt yX4_valueAt, Cond.code yX4_valueAt cX4_valueAt 2 (some .int), Cond.fieldLink RX4 19 "JoinDesk$Table" "values" "[I", Cond.methodLink RX3 29 yX4_keyAt, Cond.methodLink RX3 32 yX4_size, Cond.methodLink RX1 57 yX4_firstPartnerOf, Cond.instanceMethod yX4_firstPartnerOf, Cond.selects RX4 yX4_firstPartnerOf yX4_firstPartnerOf, Cond.code yX4_firstPartnerOf cX4_firstPartnerOf 2 (some .int), Cond.fieldLink RX4 31 "JoinDesk$Table" "firstPartners" "[I", Cond.methodLink RX1 61 yX4_keyAt, Cond.methodLink RX1 64 yX1_write, Cond.instanceMethod yX1_write, Cond.selects RX1 yX1_write yX1_write, Cond.code yX1_write cX1_write 11 none, Cond.fieldLink RX1 17 "JoinDesk$GroupBook" "facts" "[[J"]
def wsL_groups_r5 : List Cond := [Cond.methodLink RX1 81 Lib.MathLoose.min_long.x, Cond.methodLink RX1 87 Lib.MathLoose.max_long.x]
def wsL_groups : List Cond := .codeWith yL_groups cL_groups 3 (some .int) [(0, 8, 11, 13), (0, 8, 14, 54)] :: ((wsL_groups_r1 ++ (wsL_groups_r2 ++ (wsL_groups_r3 ++ (wsL_groups_r4 ++ wsL_groups_r5)))) ++ wsX50 ++ wsX40 ++ wsX10 ++ wsX30 ++ (vx_atS RX5 142 "java/lang/UnsupportedOperationException" ["java/lang/RuntimeException", "java/lang/Exception"]).filter goodWord ++ (vx_atS RX5 184 "java/lang/IllegalStateException" ["java/lang/RuntimeException", "java/lang/Exception"]).filter goodWord)
def wsL_group_r1 : List Cond := [Cond.classLink RL 19 "java/lang/IllegalArgumentException", Cond.classLink RL 13 "java/lang/IllegalStateException", Cond.methodLink RL 56 yX5_group, Cond.instanceMethod yX5_group, Cond.selects RX5 yX5_group yX5_group, Cond.initialized RX5, Cond.code yX5_group cX5_group 4 (some .long), Cond.fieldLink RX5 41 "JoinDesk" "prepared" "Z", Cond.fieldLink RX5 37 "JoinDesk" "book" "LJoinDesk$GroupBook;", Cond.methodLink RX5 149 yX1_isTold, Cond.instanceMethod yX1_isTold, Cond.selects RX1 yX1_isTold yX1_isTold, Cond.initialized RX1, Cond.code yX1_isTold cX1_isTold 1 (some .boolean), Cond.fieldLink RX1 33 "JoinDesk$GroupBook" "told" "Z", Cond.methodLink RX5 152 yX1_has, Cond.instanceMethod yX1_has, Cond.selects RX1 yX1_has yX1_has, Cond.code yX1_has cX1_has 2 (some .boolean), Cond.fieldLink RX1 30 "JoinDesk$GroupBook" "size" "I", Cond.methodLink RX5 77 yX5_isBelow, Cond.static yX5_isBelow, Cond.code yX5_isBelow cX5_isBelow 2 (some .boolean), Cond.methodLink RX5 81 yX5_requireArgument]
def wsL_group_r2 : List Cond := [Cond.static yX5_requireArgument, Cond.code yX5_requireArgument cX5_requireArgument 1 none, Cond.classLink RX5 175 "java/lang/IllegalArgumentException", Cond.initialized "java/lang/IllegalArgumentException", Cond.methodLink RX5 53 yX5_requireState, Cond.static yX5_requireState, Cond.code yX5_requireState cX5_requireState 1 none, Cond.classLink RX5 180 "java/lang/IllegalStateException", Cond.initialized "java/lang/IllegalStateException", Cond.methodLink RX5 153 yX1_fact, Cond.instanceMethod yX1_fact, Cond.selects RX1 yX1_fact yX1_fact, Cond.code yX1_fact cX1_fact 3 (some .long), Cond.fieldLink RX1 17 "JoinDesk$GroupBook" "facts" "[[J", Cond.methodLink RX1 37 yX1_has]
def wsL_group : List Cond := .codeWith yL_group cL_group 5 (some .int) [(0, 9, 12, 19), (0, 9, 16, 13)] :: ((wsL_group_r1 ++ wsL_group_r2) ++ wsX50 ++ wsX10 ++ (vx_atS RX5 179 "java/lang/IllegalArgumentException" ["java/lang/RuntimeException", "java/lang/Exception"]).filter goodWord ++ (vx_atS RX5 184 "java/lang/IllegalStateException" ["java/lang/RuntimeException", "java/lang/Exception"]).filter goodWord)
def wsL_sorted_r1 : List Cond := [Cond.classLink RL 19 "java/lang/IllegalArgumentException", Cond.classLink RL 13 "java/lang/IllegalStateException", Cond.methodLink RL 60 yX5_sorted, Cond.instanceMethod yX5_sorted, Cond.selects RX5 yX5_sorted yX5_sorted, Cond.initialized RX5, Cond.code yX5_sorted cX5_sorted 5 (some .int), Cond.fieldLink RX5 41 "JoinDesk" "prepared" "Z", Cond.methodLink RX5 45 yX5_tableOf, Cond.instanceMethod yX5_tableOf, Cond.selects RX5 yX5_tableOf yX5_tableOf, Cond.code yX5_tableOf cX5_tableOf 2 (some (.object "JoinDesk$Table")), Cond.fieldLink RX5 18 "JoinDesk" "left" "LJoinDesk$Table;", Cond.fieldLink RX5 22 "JoinDesk" "right" "LJoinDesk$Table;", Cond.methodLink RX5 97 yX4_has, Cond.instanceMethod yX4_has, Cond.selects RX4 yX4_has yX4_has, Cond.initialized RX4, Cond.code yX4_has cX4_has 2 (some .boolean), Cond.fieldLink RX4 34 "JoinDesk$Table" "size" "I", Cond.methodLink RX5 77 yX5_isBelow, Cond.static yX5_isBelow, Cond.code yX5_isBelow cX5_isBelow 2 (some .boolean), Cond.methodLink RX5 81 yX5_requireArgument]
def wsL_sorted_r2 : List Cond := [Cond.static yX5_requireArgument, Cond.code yX5_requireArgument cX5_requireArgument 1 none, Cond.classLink RX5 175 "java/lang/IllegalArgumentException", Cond.initialized "java/lang/IllegalArgumentException", Cond.methodLink RX5 53 yX5_requireState, Cond.static yX5_requireState, Cond.code yX5_requireState cX5_requireState 1 none, Cond.classLink RX5 180 "java/lang/IllegalStateException", Cond.initialized "java/lang/IllegalStateException", Cond.methodLink RX5 101 yX4_keyAt, Cond.instanceMethod yX4_keyAt, Cond.selects RX4 yX4_keyAt yX4_keyAt, Cond.code yX4_keyAt cX4_keyAt 2 (some .int), Cond.fieldLink RX4 15 "JoinDesk$Table" "keys" "[I", Cond.fieldLink RX4 22 "JoinDesk$Table" "order" "[I", Cond.methodLink RX4 44 yX4_has, Cond.methodLink RX5 104 yX4_valueAt, Cond.instanceMethod yX4_valueAt, Cond.selects RX4 yX4_valueAt yX4_valueAt, Cond.code yX4_valueAt cX4_valueAt 2 (some .int), Cond.fieldLink RX4 19 "JoinDesk$Table" "values" "[I", Cond.methodLink RX5 107 yX4_numberAt, Cond.instanceMethod yX4_numberAt, Cond.selects RX4 yX4_numberAt yX4_numberAt]
def wsL_sorted_r3 : List Cond := [Cond.code yX4_numberAt cX4_numberAt 2 (some .int)]
def wsL_sorted : List Cond := .codeWith yL_sorted cL_sorted 6 (some .int) [(0, 12, 15, 19), (0, 12, 19, 13)] :: ((wsL_sorted_r1 ++ (wsL_sorted_r2 ++ wsL_sorted_r3)) ++ wsX50 ++ wsX40 ++ (vx_atS RX5 179 "java/lang/IllegalArgumentException" ["java/lang/RuntimeException", "java/lang/Exception"]).filter goodWord ++ (vx_atS RX5 184 "java/lang/IllegalStateException" ["java/lang/RuntimeException", "java/lang/Exception"]).filter goodWord)
def wsL_about_r1 : List Cond := [Cond.classLink RL 19 "java/lang/IllegalArgumentException", Cond.methodLink RL 63 yX5_about, Cond.instanceMethod yX5_about, Cond.selects RX5 yX5_about yX5_about, Cond.initialized RX5, Cond.code yX5_about cX5_about 2 (some .long), Cond.fieldLink RX5 30 "JoinDesk" "cursor" "LJoinDesk$Cursor;", Cond.fieldLink RX5 18 "JoinDesk" "left" "LJoinDesk$Table;", Cond.fieldLink RX5 22 "JoinDesk" "right" "LJoinDesk$Table;", Cond.fieldLink RX5 41 "JoinDesk" "prepared" "Z", Cond.methodLink RX5 77 yX5_isBelow, Cond.static yX5_isBelow, Cond.code yX5_isBelow cX5_isBelow 2 (some .boolean), Cond.methodLink RX5 81 yX5_requireArgument, Cond.static yX5_requireArgument, Cond.code yX5_requireArgument cX5_requireArgument 1 none, Cond.classLink RX5 175 "java/lang/IllegalArgumentException", Cond.initialized "java/lang/IllegalArgumentException", Cond.methodLink RX5 157 yX0_cellsRead, Cond.instanceMethod yX0_cellsRead, Cond.selects RX0 yX0_cellsRead yX0_cellsRead, Cond.initialized RX0, Cond.code yX0_cellsRead cX0_cellsRead 1 (some .long), Cond.fieldLink RX0 36 "JoinDesk$Cursor" "cells" "J"]
def wsL_about_r2 : List Cond := [Cond.methodLink RX5 122 yX4_size, Cond.instanceMethod yX4_size, Cond.selects RX4 yX4_size yX4_size, Cond.initialized RX4, Cond.code yX4_size cX4_size 1 (some .int), Cond.fieldLink RX4 34 "JoinDesk$Table" "size" "I", Cond.methodLink RX5 161 yX0_kindInUse, Cond.instanceMethod yX0_kindInUse, Cond.selects RX0 yX0_kindInUse yX0_kindInUse, Cond.code yX0_kindInUse cX0_kindInUse 1 (some .int), Cond.fieldLink RX0 32 "JoinDesk$Cursor" "kind" "I"]
def wsL_about : List Cond := .codeWith yL_about cL_about 4 (some .int) [(0, 8, 11, 19)] :: ((wsL_about_r1 ++ wsL_about_r2) ++ wsX50 ++ wsX00 ++ wsX40 ++ (vx_atS RX5 179 "java/lang/IllegalArgumentException" ["java/lang/RuntimeException", "java/lang/Exception"]).filter goodWord)
def wsL_law0_r1 : List Cond := [Cond.classLink RL 8 RX5, Cond.instantiable RX5 5, Cond.initialized RX5, Cond.classLink RL 75 RX6, Cond.instantiable RX6 15, Cond.initialized RX6, Cond.arrayClass .long, Cond.methodLink RL 66 yL_cell, Cond.static yL_cell, Cond.initialized RL, Cond.code yL_cell cL_cell 2 (some .int), Cond.methodLink RL 72 yX5_init, Cond.instanceMethod yX5_init, Cond.code yX5_init cX5_init 6 none, Cond.methodLink RX5 1 objectInit, Cond.instanceMethod objectInit, Cond.code objectInit ⟨#[0xb1]⟩ 1 none, Cond.classLink RX5 7 RX4, Cond.instantiable RX4 9, Cond.initialized RX4, Cond.fieldLink RX5 18 "JoinDesk" "left" "LJoinDesk$Table;", Cond.fieldLink RX5 22 "JoinDesk" "right" "LJoinDesk$Table;", Cond.classLink RX5 25 RX0, Cond.instantiable RX0 7]
def wsL_law0_r2 : List Cond := [Cond.initialized RX0, Cond.fieldLink RX5 30 "JoinDesk" "cursor" "LJoinDesk$Cursor;", Cond.classLink RX5 34 RX1, Cond.instantiable RX1 6, Cond.initialized RX1, Cond.fieldLink RX5 37 "JoinDesk" "book" "LJoinDesk$GroupBook;", Cond.fieldLink RX5 41 "JoinDesk" "prepared" "Z", Cond.methodLink RX5 9 yX5_roomFor, Cond.static yX5_roomFor, Cond.code yX5_roomFor cX5_roomFor 1 (some .int), Cond.methodLink RX5 167 Lib.Math.min.name, Cond.static Lib.Math.min.name, Cond.initialized "java/lang/Math", Cond.code Lib.Math.min.name Lib.Math.min.code 2 (some .int), Cond.methodLink RX5 172 Lib.Math.max.name, Cond.static Lib.Math.max.name, Cond.code Lib.Math.max.name Lib.Math.max.code 2 (some .int), Cond.methodLink RX5 15 yX4_init, Cond.instanceMethod yX4_init, Cond.code yX4_init cX4_init 2 none, Cond.methodLink RX4 3 objectInit, Cond.fieldLink RX4 9 "JoinDesk$Table" "room" "I", Cond.arrayClass .int, Cond.fieldLink RX4 15 "JoinDesk$Table" "keys" "[I"]
def wsL_law0_r3 : List Cond := [Cond.fieldLink RX4 19 "JoinDesk$Table" "values" "[I", Cond.fieldLink RX4 22 "JoinDesk$Table" "order" "[I", Cond.fieldLink RX4 25 "JoinDesk$Table" "partnerSums" "[I", Cond.fieldLink RX4 28 "JoinDesk$Table" "loneSums" "[I", Cond.fieldLink RX4 31 "JoinDesk$Table" "firstPartners" "[I", Cond.fieldLink RX4 34 "JoinDesk$Table" "size" "I", Cond.fieldLink RX4 37 "JoinDesk$Table" "placed" "I", Cond.methodLink RX5 27 yX0_init, Cond.instanceMethod yX0_init, Cond.code yX0_init cX0_init 3 none, Cond.methodLink RX0 3 objectInit, Cond.fieldLink RX0 9 "JoinDesk$Cursor" "left" "LJoinDesk$Table;", Cond.fieldLink RX0 15 "JoinDesk$Cursor" "right" "LJoinDesk$Table;", Cond.classLink RX0 18 RX2, Cond.instantiable RX2 7, Cond.initialized RX2, Cond.fieldLink RX0 21 "JoinDesk$Cursor" "here" "LJoinDesk$Position;", Cond.fieldLink RX0 25 "JoinDesk$Cursor" "marked" "LJoinDesk$Position;", Cond.fieldLink RX0 28 "JoinDesk$Cursor" "hasMark" "Z", Cond.fieldLink RX0 32 "JoinDesk$Cursor" "kind" "I", Cond.fieldLink RX0 36 "JoinDesk$Cursor" "cells" "J", Cond.methodLink RX0 20 yX2_init, Cond.instanceMethod yX2_init, Cond.code yX2_init cX2_init 1 none]
def wsL_law0_r4 : List Cond := [Cond.methodLink RX2 3 objectInit, Cond.fieldLink RX2 9 "JoinDesk$Position" "leftAt" "I", Cond.fieldLink RX2 15 "JoinDesk$Position" "rightAt" "I", Cond.methodLink RX5 36 yX1_init, Cond.instanceMethod yX1_init, Cond.code yX1_init cX1_init 2 none, Cond.methodLink RX1 3 objectInit, Cond.fieldLink RX1 9 "JoinDesk$GroupBook" "room" "I", Cond.classLink RX1 15 "[[J", Cond.fieldLink RX1 17 "JoinDesk$GroupBook" "facts" "[[J", Cond.classLink RX1 20 RX3, Cond.instantiable RX3 4, Cond.initialized RX3, Cond.fieldLink RX1 23 "JoinDesk$GroupBook" "leftSpan" "LJoinDesk$Span;", Cond.fieldLink RX1 27 "JoinDesk$GroupBook" "rightSpan" "LJoinDesk$Span;", Cond.fieldLink RX1 30 "JoinDesk$GroupBook" "size" "I", Cond.fieldLink RX1 33 "JoinDesk$GroupBook" "told" "Z", Cond.instanceMethod yX3_init, Cond.code yX3_init cX3_init 1 none, Cond.methodLink RX3 1 objectInit, Cond.methodLink RL 77 yX6_init, Cond.instanceMethod yX6_init, Cond.code yX6_init cX6_init 4 none, Cond.methodLink RX6 1 objectInit]
def wsL_law0_r5 : List Cond := [Cond.fieldLink RX6 7 "JoinDeskModel" "most" "[I", Cond.fieldLink RX6 13 "JoinDeskModel" "keys" "[I", Cond.fieldLink RX6 16 "JoinDeskModel" "values" "[I", Cond.fieldLink RX6 19 "JoinDeskModel" "order" "[I", Cond.fieldLink RX6 22 "JoinDeskModel" "many" "[I", Cond.fieldLink RX6 25 "JoinDeskModel" "at" "[I", Cond.fieldLink RX6 32 "JoinDeskModel" "room" "I", Cond.methodLink RX6 28 yX6_between, Cond.static yX6_between, Cond.code yX6_between cX6_between 1 (some .int), Cond.methodLink RL 78 yL_add, Cond.static yL_add, Cond.codeWith yL_add cL_add 6 (some .int) [(0, 12, 15, 13)], Cond.classLink RL 13 "java/lang/IllegalStateException", Cond.methodLink RL 7 yX5_add, Cond.instanceMethod yX5_add, Cond.selects RX5 yX5_add yX5_add, Cond.code yX5_add cX5_add 5 (some .int), Cond.methodLink RX5 45 yX5_tableOf, Cond.instanceMethod yX5_tableOf, Cond.selects RX5 yX5_tableOf yX5_tableOf, Cond.code yX5_tableOf cX5_tableOf 2 (some (.object "JoinDesk$Table")), Cond.methodLink RX5 49 yX4_hasRoom, Cond.instanceMethod yX4_hasRoom]
def wsL_law0_r6 : List Cond := [Cond.selects RX4 yX4_hasRoom yX4_hasRoom, Cond.code yX4_hasRoom cX4_hasRoom 1 (some .boolean), Cond.methodLink RX5 53 yX5_requireState, Cond.static yX5_requireState, Cond.code yX5_requireState cX5_requireState 1 none, Cond.classLink RX5 180 "java/lang/IllegalStateException", Cond.initialized "java/lang/IllegalStateException", Cond.methodLink RX5 57 yX4_append, Cond.instanceMethod yX4_append, Cond.selects RX4 yX4_append yX4_append, Cond.code yX4_append cX4_append 3 (some .int), Cond.methodLink RX4 40 yX4_hasRoom, Cond.methodLink RL 81 yX6_add, Cond.instanceMethod yX6_add, Cond.selects RX6 yX6_add yX6_add, Cond.code yX6_add cX6_add 6 (some .int), Cond.fieldLink RX6 43 "JoinDeskModel" "prepared" "Z", Cond.fieldLink RX6 47 "JoinDeskModel" "grouped" "Z", Cond.methodLink RX6 39 yX6_refuses, Cond.instanceMethod yX6_refuses, Cond.selects RX6 yX6_refuses yX6_refuses, Cond.code yX6_refuses cX6_refuses 2 (some .boolean), Cond.fieldLink RX6 36 "JoinDeskModel" "code" "I", Cond.methodLink RL 82 yX6_thrown]
def wsL_law0_r7 : List Cond := [Cond.instanceMethod yX6_thrown, Cond.selects RX6 yX6_thrown yX6_thrown, Cond.code yX6_thrown cX6_thrown 1 (some .int), Cond.methodLink RL 85 yX5_prepare, Cond.instanceMethod yX5_prepare, Cond.selects RX5 yX5_prepare yX5_prepare, Cond.code yX5_prepare cX5_prepare 1 none, Cond.methodLink RX5 61 yX4_sortRows, Cond.instanceMethod yX4_sortRows, Cond.selects RX4 yX4_sortRows yX4_sortRows, Cond.code yX4_sortRows cX4_sortRows 2 none, Cond.methodLink RX4 48 yX4_putInOrder, Cond.instanceMethod yX4_putInOrder, Cond.selects RX4 yX4_putInOrder yX4_putInOrder, Cond.code yX4_putInOrder cX4_putInOrder 3 none, Cond.methodLink RX5 64 yX4_findPartners, Cond.instanceMethod yX4_findPartners, Cond.selects RX4 yX4_findPartners yX4_findPartners, Cond.code yX4_findPartners cX4_findPartners 6 none, Cond.methodLink RX4 52 yX4_keyAt, Cond.instanceMethod yX4_keyAt, Cond.selects RX4 yX4_keyAt yX4_keyAt, Cond.code yX4_keyAt cX4_keyAt 2 (some .int), Cond.methodLink RX4 44 yX4_has]
def wsL_law0_r8 : List Cond := [Cond.instanceMethod yX4_has, Cond.selects RX4 yX4_has yX4_has, Cond.code yX4_has cX4_has 2 (some .boolean), Cond.methodLink RX5 68 yX0_restart, Cond.instanceMethod yX0_restart, Cond.selects RX0 yX0_restart yX0_restart, Cond.code yX0_restart cX0_restart 1 none, Cond.methodLink RX0 46 yX2_stand, Cond.instanceMethod yX2_stand, Cond.selects RX2 yX2_stand yX2_stand, Cond.code yX2_stand cX2_stand 4 none, Cond.fieldLink RX2 18 "JoinDesk$Position" "leftFrom" "I", Cond.fieldLink RX2 21 "JoinDesk$Position" "leftTo" "I", Cond.fieldLink RX2 24 "JoinDesk$Position" "rightFrom" "I", Cond.fieldLink RX2 27 "JoinDesk$Position" "rightTo" "I", Cond.fieldLink RX2 30 "JoinDesk$Position" "passed" "I", Cond.methodLink RX5 71 yX0_forgetMark, Cond.instanceMethod yX0_forgetMark, Cond.selects RX0 yX0_forgetMark yX0_forgetMark, Cond.code yX0_forgetMark cX0_forgetMark 1 none, Cond.methodLink RX5 74 yX1_forget, Cond.instanceMethod yX1_forget, Cond.selects RX1 yX1_forget yX1_forget, Cond.code yX1_forget cX1_forget 1 none]
def wsL_law0_r9 : List Cond := [Cond.methodLink RL 88 yX6_prepare, Cond.instanceMethod yX6_prepare, Cond.selects RX6 yX6_prepare yX6_prepare, Cond.code yX6_prepare cX6_prepare 4 none, Cond.fieldLink RX6 53 "JoinDeskModel" "cells" "J", Cond.fieldLink RX6 57 "JoinDeskModel" "marked" "Z", Cond.methodLink RX6 50 yX6_begins, Cond.instanceMethod yX6_begins, Cond.selects RX6 yX6_begins yX6_begins, Cond.code yX6_begins cX6_begins 2 none, Cond.methodLink RL 89 yL_kind, Cond.static yL_kind, Cond.codeWith yL_kind cL_kind 3 (some .int) [(0, 5, 8, 19)], Cond.classLink RL 19 "java/lang/IllegalArgumentException", Cond.methodLink RL 15 yX5_kind, Cond.instanceMethod yX5_kind, Cond.selects RX5 yX5_kind yX5_kind, Cond.code yX5_kind cX5_kind 2 none, Cond.methodLink RX5 77 yX5_isBelow, Cond.static yX5_isBelow, Cond.code yX5_isBelow cX5_isBelow 2 (some .boolean), Cond.methodLink RX5 81 yX5_requireArgument, Cond.static yX5_requireArgument, Cond.code yX5_requireArgument cX5_requireArgument 1 none]
def wsL_law0_r10 : List Cond := [Cond.classLink RX5 175 "java/lang/IllegalArgumentException", Cond.initialized "java/lang/IllegalArgumentException", Cond.methodLink RX5 84 yX0_useKind, Cond.instanceMethod yX0_useKind, Cond.selects RX0 yX0_useKind yX0_useKind, Cond.code yX0_useKind cX0_useKind 2 none, Cond.methodLink RL 92 yX6_kind, Cond.instanceMethod yX6_kind, Cond.selects RX6 yX6_kind yX6_kind, Cond.code yX6_kind cX6_kind 2 none, Cond.fieldLink RX6 60 "JoinDeskModel" "kind" "I", Cond.methodLink RL 93 yL_next, Cond.static yL_next, Cond.codeWith yL_next cL_next 3 (some .int) [(0, 15, 18, 13)], Cond.methodLink RL 21 yX5_next, Cond.instanceMethod yX5_next, Cond.selects RX5 yX5_next yX5_next, Cond.code yX5_next cX5_next 1 (some .boolean), Cond.methodLink RX5 87 yX0_goOn, Cond.instanceMethod yX0_goOn, Cond.selects RX0 yX0_goOn yX0_goOn, Cond.code yX0_goOn cX0_goOn 2 (some .boolean), Cond.methodLink RX0 57 yX2_enterNextPair, Cond.instanceMethod yX2_enterNextPair]
def wsL_law0_r11 : List Cond := [Cond.selects RX2 yX2_enterNextPair yX2_enterNextPair, Cond.code yX2_enterNextPair cX2_enterNextPair 1 (some .boolean), Cond.methodLink RX2 33 yX2_hasRightRows, Cond.instanceMethod yX2_hasRightRows, Cond.selects RX2 yX2_hasRightRows yX2_hasRightRows, Cond.code yX2_hasRightRows cX2_hasRightRows 1 (some .boolean), Cond.methodLink RX0 61 yX0_rowsAhead, Cond.instanceMethod yX0_rowsAhead, Cond.selects RX0 yX0_rowsAhead yX0_rowsAhead, Cond.code yX0_rowsAhead cX0_rowsAhead 1 (some .int), Cond.methodLink RX0 89 yX4_size, Cond.instanceMethod yX4_size, Cond.selects RX4 yX4_size yX4_size, Cond.code yX4_size cX4_size 1 (some .int), Cond.methodLink RX0 65 yX0_comeToNewKeys, Cond.instanceMethod yX0_comeToNewKeys, Cond.selects RX0 yX0_comeToNewKeys yX0_comeToNewKeys, Cond.code yX0_comeToNewKeys cX0_comeToNewKeys 5 none, Cond.methodLink RX0 94 yX4_has, Cond.methodLink RX0 97 yX0_readKey, Cond.instanceMethod yX0_readKey, Cond.selects RX0 yX0_readKey yX0_readKey, Cond.code yX0_readKey cX0_readKey 3 (some .int), Cond.methodLink RX0 109 yX4_keyAt]
def wsL_law0_r12 : List Cond := [Cond.methodLink RX0 106 yX0_firstOtherKey, Cond.instanceMethod yX0_firstOtherKey, Cond.selects RX0 yX0_firstOtherKey yX0_firstOtherKey, Cond.code yX0_firstOtherKey cX0_firstOtherKey 5 (some .int), Cond.methodLink RX0 68 yX2_fits, Cond.instanceMethod yX2_fits, Cond.selects RX2 yX2_fits yX2_fits, Cond.code yX2_fits cX2_fits 2 (some .boolean), Cond.methodLink RX2 37 yX2_hasLeftRows, Cond.instanceMethod yX2_hasLeftRows, Cond.selects RX2 yX2_hasLeftRows yX2_hasLeftRows, Cond.code yX2_hasLeftRows cX2_hasLeftRows 1 (some .boolean), Cond.methodLink RX0 72 yX2_enterFirstPair, Cond.instanceMethod yX2_enterFirstPair, Cond.selects RX2 yX2_enterFirstPair yX2_enterFirstPair, Cond.code yX2_enterFirstPair cX2_enterFirstPair 1 none, Cond.methodLink RL 96 yX6_next, Cond.instanceMethod yX6_next, Cond.selects RX6 yX6_next yX6_next, Cond.code yX6_next cX6_next 5 (some .boolean), Cond.constantLong RX6 71 (2), Cond.methodLink RX6 67 yX6_steps, Cond.instanceMethod yX6_steps, Cond.selects RX6 yX6_steps yX6_steps]
def wsL_law0_r13 : List Cond := [Cond.code yX6_steps cX6_steps 2 (some .boolean), Cond.methodLink RX6 63 yX6_key, Cond.instanceMethod yX6_key, Cond.selects RX6 yX6_key yX6_key, Cond.code yX6_key cX6_key 3 (some .int), Cond.methodLink RX6 73 yX6_goes, Cond.instanceMethod yX6_goes, Cond.selects RX6 yX6_goes yX6_goes, Cond.code yX6_goes cX6_goes 4 none, Cond.methodLink RX6 77 yX6_tells, Cond.static yX6_tells, Cond.code yX6_tells cX6_tells 2 (some .boolean), Cond.methodLink RL 97 yL_pair, Cond.static yL_pair, Cond.codeWith yL_pair cL_pair 4 (some .int) [(0, 9, 12, 19)], Cond.methodLink RL 25 yX5_pair, Cond.instanceMethod yX5_pair, Cond.selects RX5 yX5_pair yX5_pair, Cond.code yX5_pair cX5_pair 4 (some .int), Cond.methodLink RX5 90 yX0_leftPlace, Cond.instanceMethod yX0_leftPlace, Cond.selects RX0 yX0_leftPlace yX0_leftPlace, Cond.code yX0_leftPlace cX0_leftPlace 1 (some .int), Cond.methodLink RX5 94 yX0_rightPlace]
def wsL_law0_r14 : List Cond := [Cond.instanceMethod yX0_rightPlace, Cond.selects RX0 yX0_rightPlace yX0_rightPlace, Cond.code yX0_rightPlace cX0_rightPlace 1 (some .int), Cond.methodLink RX5 97 yX4_has, Cond.methodLink RX5 101 yX4_keyAt, Cond.methodLink RX5 104 yX4_valueAt, Cond.instanceMethod yX4_valueAt, Cond.selects RX4 yX4_valueAt yX4_valueAt, Cond.code yX4_valueAt cX4_valueAt 2 (some .int), Cond.methodLink RX5 107 yX4_numberAt, Cond.instanceMethod yX4_numberAt, Cond.selects RX4 yX4_numberAt yX4_numberAt, Cond.code yX4_numberAt cX4_numberAt 2 (some .int), Cond.methodLink RL 100 yX6_pair, Cond.instanceMethod yX6_pair, Cond.selects RX6 yX6_pair yX6_pair, Cond.code yX6_pair cX6_pair 5 (some .int), Cond.methodLink RX6 81 yX6_value, Cond.instanceMethod yX6_value, Cond.selects RX6 yX6_value yX6_value, Cond.code yX6_value cX6_value 3 (some .int), Cond.methodLink RL 101 yL_mark, Cond.static yL_mark, Cond.codeWith yL_mark cL_mark 3 (some .int) [(0, 8, 11, 13)]]
def wsL_law0_r15 : List Cond := [Cond.methodLink RL 29 yX5_mark, Cond.instanceMethod yX5_mark, Cond.selects RX5 yX5_mark yX5_mark, Cond.code yX5_mark cX5_mark 1 (some .int), Cond.methodLink RX5 110 yX0_setMark, Cond.instanceMethod yX0_setMark, Cond.selects RX0 yX0_setMark yX0_setMark, Cond.code yX0_setMark cX0_setMark 1 (some .int), Cond.methodLink RX0 50 yX2_copy, Cond.instanceMethod yX2_copy, Cond.selects RX2 yX2_copy yX2_copy, Cond.code yX2_copy cX2_copy 2 none, Cond.methodLink RL 103 yX6_mark, Cond.instanceMethod yX6_mark, Cond.selects RX6 yX6_mark yX6_mark, Cond.code yX6_mark cX6_mark 2 (some .int), Cond.methodLink RL 104 yL_back, Cond.static yL_back, Cond.codeWith yL_back cL_back 3 (some .int) [(0, 8, 11, 13)], Cond.methodLink RL 33 yX5_back, Cond.instanceMethod yX5_back, Cond.selects RX5 yX5_back yX5_back, Cond.code yX5_back cX5_back 1 (some .int), Cond.methodLink RX5 113 yX0_hasMark]
def wsL_law0_r16 : List Cond := [Cond.instanceMethod yX0_hasMark, Cond.selects RX0 yX0_hasMark yX0_hasMark, Cond.code yX0_hasMark cX0_hasMark 1 (some .boolean), Cond.methodLink RX5 116 yX0_goToMark, Cond.instanceMethod yX0_goToMark, Cond.selects RX0 yX0_goToMark yX0_goToMark, Cond.code yX0_goToMark cX0_goToMark 1 (some .int), Cond.methodLink RL 106 yX6_back, Cond.instanceMethod yX6_back, Cond.selects RX6 yX6_back yX6_back, Cond.code yX6_back cX6_back 2 (some .int), Cond.methodLink RL 107 yL_seek, Cond.static yL_seek, Cond.codeWith yL_seek cL_seek 4 (some .int) [(0, 16, 19, 13)], Cond.methodLink RL 36 yX5_seek, Cond.instanceMethod yX5_seek, Cond.selects RX5 yX5_seek yX5_seek, Cond.code yX5_seek cX5_seek 2 (some .boolean), Cond.methodLink RX5 119 yX0_goBefore, Cond.instanceMethod yX0_goBefore, Cond.selects RX0 yX0_goBefore yX0_goBefore, Cond.code yX0_goBefore cX0_goBefore 5 (some .boolean), Cond.methodLink RX0 81 yX0_firstNotBelow, Cond.instanceMethod yX0_firstNotBelow]
def wsL_law0_r17 : List Cond := [Cond.selects RX0 yX0_firstNotBelow yX0_firstNotBelow, Cond.code yX0_firstNotBelow cX0_firstNotBelow 7 (some .int), Cond.static yX5_pairsBefore, Cond.code yX5_pairsBefore cX5_pairsBefore 6 (some .int), Cond.methodLink RX5 185 yX4_partnersBefore, Cond.instanceMethod yX4_partnersBefore, Cond.selects RX4 yX4_partnersBefore yX4_partnersBefore, Cond.code yX4_partnersBefore cX4_partnersBefore 2 (some .int), Cond.methodLink RX5 129 yX4_loneBefore, Cond.instanceMethod yX4_loneBefore, Cond.selects RX4 yX4_loneBefore yX4_loneBefore, Cond.code yX4_loneBefore cX4_loneBefore 2 (some .int), Cond.methodLink RL 109 yX6_seek, Cond.instanceMethod yX6_seek, Cond.selects RX6 yX6_seek yX6_seek, Cond.code yX6_seek cX6_seek 6 (some .boolean), Cond.methodLink RX6 87 yX6_pairs, Cond.instanceMethod yX6_pairs, Cond.selects RX6 yX6_pairs yX6_pairs, Cond.code yX6_pairs cX6_pairs 11 (some .long), Cond.methodLink RX6 84 yX6_rowsOf, Cond.instanceMethod yX6_rowsOf, Cond.selects RX6 yX6_rowsOf yX6_rowsOf, Cond.code yX6_rowsOf cX6_rowsOf 5 (some .int)]
def wsL_law0_r18 : List Cond := [Cond.methodLink RL 110 yL_rewind, Cond.static yL_rewind, Cond.codeWith yL_rewind cL_rewind 2 (some .int) [(0, 4, 7, 13)], Cond.methodLink RL 40 yX5_rewind, Cond.instanceMethod yX5_rewind, Cond.selects RX5 yX5_rewind yX5_rewind, Cond.code yX5_rewind cX5_rewind 1 none, Cond.methodLink RL 113 yX6_rewind, Cond.instanceMethod yX6_rewind, Cond.selects RX6 yX6_rewind yX6_rewind, Cond.code yX6_rewind cX6_rewind 1 none, Cond.methodLink RL 114 yL_count, Cond.static yL_count, Cond.codeWith yL_count cL_count 4 (some .int) [(0, 8, 11, 19), (0, 8, 14, 13)], Cond.methodLink RL 43 yX5_count, Cond.instanceMethod yX5_count, Cond.selects RX5 yX5_count yX5_count, Cond.code yX5_count cX5_count 2 (some .long), Cond.methodLink RX5 122 yX4_size, Cond.methodLink RX5 125 yX5_pairsBefore, Cond.methodLink RL 116 yX6_count, Cond.instanceMethod yX6_count, Cond.selects RX6 yX6_count yX6_count, Cond.code yX6_count cX6_count 2 (some .long)]
def wsL_law0_r19 : List Cond := [Cond.constantLong RX6 91 (3000000000), Cond.methodLink RL 117 yL_rows, Cond.static yL_rows, Cond.codeWith yL_rows cL_rows 5 (some .int) [(0, 10, 13, 13)], Cond.methodLink RL 47 yX5_rows, Cond.instanceMethod yX5_rows, Cond.selects RX5 yX5_rows yX5_rows, Cond.code yX5_rows cX5_rows 5 (some .int), Cond.methodLink RL 120 yX6_rows, Cond.instanceMethod yX6_rows, Cond.selects RX6 yX6_rows yX6_rows, Cond.code yX6_rows cX6_rows 6 (some .int), Cond.methodLink RL 121 yL_groups, Cond.static yL_groups, Cond.codeWith yL_groups cL_groups 3 (some .int) [(0, 8, 11, 13), (0, 8, 14, 54)], Cond.classLink RL 54 "java/lang/UnsupportedOperationException", Cond.methodLink RL 51 yX5_groups, Cond.instanceMethod yX5_groups, Cond.selects RX5 yX5_groups yX5_groups, Cond.code yX5_groups cX5_groups 1 (some .int), Cond.classLink RX5 138 "java/lang/UnsupportedOperationException", Cond.initialized "java/lang/UnsupportedOperationException", Cond.methodLink RX5 132 yX4_groupStarts, Cond.instanceMethod yX4_groupStarts]
def wsL_law0_r20 : List Cond := [Cond.selects RX4 yX4_groupStarts yX4_groupStarts, Cond.code yX4_groupStarts cX4_groupStarts 3 (some .int), Cond.methodLink RX4 59 yX4_startsGroup, Cond.instanceMethod yX4_startsGroup, Cond.selects RX4 yX4_startsGroup yX4_startsGroup, Cond.code yX4_startsGroup cX4_startsGroup 3 (some .boolean), Cond.methodLink RX4 56 yX4_partnersBefore, Cond.methodLink RX5 135 yX1_room, Cond.instanceMethod yX1_room, Cond.selects RX1 yX1_room yX1_room, Cond.code yX1_room cX1_room 1 (some .int), Cond.methodLink RX5 145 yX1_tell, Cond.instanceMethod yX1_tell, Cond.selects RX1 yX1_tell yX1_tell, Cond.code yX1_tell cX1_tell 4 (some .int), Cond.methodLink RX1 45 yX4_size, Cond.methodLink RX1 50 yX4_startsGroup, Cond.methodLink RX1 53 yX3_measure, Cond.instanceMethod yX3_measure, Cond.selects RX3 yX3_measure yX3_measure, Cond.code yX3_measure cX3_measure 7 none, Cond.fieldLink RX3 7 "JoinDesk$Span" "rows" "I", Cond.fieldLink RX3 13 "JoinDesk$Span" "sum" "J", Cond.fieldLink RX3 23 "JoinDesk$Span" "least" "J"]
def wsL_law0_r21 : List Cond := [Cond.fieldLink RX3 26 "JoinDesk$Span" "greatest" "J", Cond.methodLink RX3 36 Lib.MathLoose.min_long.x, Cond.static Lib.MathLoose.min_long.x, Cond.code Lib.MathLoose.min_long.x Lib.MathLoose.min_long.code 4 (some .long), Cond.methodLink RX3 42 Lib.MathLoose.max_long.x, Cond.static Lib.MathLoose.max_long.x, Cond.code Lib.MathLoose.max_long.x Lib.MathLoose.max_long.code 4 (some .long), Cond.methodLink RX3 17 yX4_valueAt, Cond.methodLink RX3 29 yX4_keyAt, Cond.methodLink RX3 32 yX4_size, Cond.methodLink RX1 57 yX4_firstPartnerOf, Cond.instanceMethod yX4_firstPartnerOf, Cond.selects RX4 yX4_firstPartnerOf yX4_firstPartnerOf, Cond.code yX4_firstPartnerOf cX4_firstPartnerOf 2 (some .int), Cond.methodLink RX1 61 yX4_keyAt, Cond.methodLink RX1 64 yX1_write, Cond.instanceMethod yX1_write, Cond.selects RX1 yX1_write yX1_write, Cond.code yX1_write cX1_write 11 none, Cond.methodLink RX1 81 Lib.MathLoose.min_long.x, Cond.methodLink RX1 87 Lib.MathLoose.max_long.x, Cond.methodLink RL 123 yX6_groups, Cond.instanceMethod yX6_groups, Cond.selects RX6 yX6_groups yX6_groups]
def wsL_law0_r22 : List Cond := [Cond.code yX6_groups cX6_groups 2 (some .int), Cond.methodLink RX6 93 yX6_groupAt, Cond.instanceMethod yX6_groupAt, Cond.selects RX6 yX6_groupAt yX6_groupAt, Cond.code yX6_groupAt cX6_groupAt 5 (some .int), Cond.methodLink RL 124 yL_group, Cond.static yL_group, Cond.codeWith yL_group cL_group 5 (some .int) [(0, 9, 12, 19), (0, 9, 16, 13)], Cond.methodLink RL 56 yX5_group, Cond.instanceMethod yX5_group, Cond.selects RX5 yX5_group yX5_group, Cond.code yX5_group cX5_group 4 (some .long), Cond.methodLink RX5 149 yX1_isTold, Cond.instanceMethod yX1_isTold, Cond.selects RX1 yX1_isTold yX1_isTold, Cond.code yX1_isTold cX1_isTold 1 (some .boolean), Cond.methodLink RX5 152 yX1_has, Cond.instanceMethod yX1_has, Cond.selects RX1 yX1_has yX1_has, Cond.code yX1_has cX1_has 2 (some .boolean), Cond.methodLink RX5 153 yX1_fact, Cond.instanceMethod yX1_fact, Cond.selects RX1 yX1_fact yX1_fact, Cond.code yX1_fact cX1_fact 3 (some .long)]
def wsL_law0_r23 : List Cond := [Cond.methodLink RX1 37 yX1_has, Cond.methodLink RL 127 yX6_group, Cond.instanceMethod yX6_group, Cond.selects RX6 yX6_group yX6_group, Cond.code yX6_group cX6_group 13 (some .long), Cond.constantLong RX6 96 (9223372036854775807), Cond.fieldLink RX6 98 "JoinDeskModel" "least" "J", Cond.constantLong RX6 101 (-9223372036854775808), Cond.fieldLink RX6 103 "JoinDeskModel" "greatest" "J", Cond.methodLink RL 128 yL_sorted, Cond.static yL_sorted, Cond.codeWith yL_sorted cL_sorted 6 (some .int) [(0, 12, 15, 19), (0, 12, 19, 13)], Cond.methodLink RL 60 yX5_sorted, Cond.instanceMethod yX5_sorted, Cond.selects RX5 yX5_sorted yX5_sorted, Cond.code yX5_sorted cX5_sorted 5 (some .int), Cond.methodLink RL 130 yX6_sorted, Cond.instanceMethod yX6_sorted, Cond.selects RX6 yX6_sorted yX6_sorted, Cond.code yX6_sorted cX6_sorted 5 (some .int), Cond.methodLink RL 131 yL_about, Cond.static yL_about, Cond.codeWith yL_about cL_about 4 (some .int) [(0, 8, 11, 19)], Cond.methodLink RL 63 yX5_about]
def wsL_law0_r24 : List Cond := [Cond.instanceMethod yX5_about, Cond.selects RX5 yX5_about yX5_about, Cond.code yX5_about cX5_about 2 (some .long), Cond.methodLink RX5 157 yX0_cellsRead, Cond.instanceMethod yX0_cellsRead, Cond.selects RX0 yX0_cellsRead yX0_cellsRead, Cond.code yX0_cellsRead cX0_cellsRead 1 (some .long), Cond.methodLink RX5 161 yX0_kindInUse, Cond.instanceMethod yX0_kindInUse, Cond.selects RX0 yX0_kindInUse yX0_kindInUse, Cond.code yX0_kindInUse cX0_kindInUse 1 (some .int), Cond.methodLink RL 133 yX6_about, Cond.instanceMethod yX6_about, Cond.selects RX6 yX6_about yX6_about, Cond.code yX6_about cX6_about 2 (some .long), Cond.methodLink RL 134 yX5_clear, Cond.instanceMethod yX5_clear, Cond.selects RX5 yX5_clear yX5_clear, Cond.code yX5_clear cX5_clear 1 none, Cond.methodLink RX5 164 yX4_empty, Cond.instanceMethod yX4_empty, Cond.selects RX4 yX4_empty yX4_empty, Cond.code yX4_empty cX4_empty 1 none, Cond.methodLink RL 137 yX6_clear]
def wsL_law0_r25 : List Cond := [Cond.instanceMethod yX6_clear, Cond.selects RX6 yX6_clear yX6_clear, Cond.code yX6_clear cX6_clear 1 none]
def wsL_law0 : List Cond := (wsL_law0_r1 ++ (wsL_law0_r2 ++ (wsL_law0_r3 ++ (wsL_law0_r4 ++ (wsL_law0_r5 ++ (wsL_law0_r6 ++ (wsL_law0_r7 ++ (wsL_law0_r8 ++ (wsL_law0_r9 ++ (wsL_law0_r10 ++ (wsL_law0_r11 ++ (wsL_law0_r12 ++ (wsL_law0_r13 ++ (wsL_law0_r14 ++ (wsL_law0_r15 ++ (wsL_law0_r16 ++ (wsL_law0_r17 ++ (wsL_law0_r18 ++ (wsL_law0_r19 ++ (wsL_law0_r20 ++ (wsL_law0_r21 ++ (wsL_law0_r22 ++ (wsL_law0_r23 ++ (wsL_law0_r24 ++ wsL_law0_r25)))))))))))))))))))))))) ++ wsX50 ++ wsX60 ++ wsX40 ++ wsX00 ++ wsX10 ++ wsX20 ++ wsX30 ++ ([] : List Cond)
def wsL_law : List Cond := wsL_law0 ++ (vx_atS RX5 184 "java/lang/IllegalStateException" ["java/lang/RuntimeException", "java/lang/Exception"]).filter goodWord ++ (vx_atS RX5 179 "java/lang/IllegalArgumentException" ["java/lang/RuntimeException", "java/lang/Exception"]).filter goodWord ++ (vx_atS RX5 142 "java/lang/UnsupportedOperationException" ["java/lang/RuntimeException", "java/lang/Exception"]).filter goodWord
set_option maxRecDepth 20000 in
theorem wsL_law_in0 : ∀ w ∈ wsL_law0, w ∈ lw_tbl := fun w h => (goodIn_p wsL_law0 [269, 37, 40, 45, 48, 51, 54, 89, 95, 152, 160, 663, 667, 277, 281, 285, 288, 360, 721, 725, 717, 218, 222, 226, 230, 234, 238, 242, 246, 250, 254, 729, 733, 369, 372, 375, 266, 737, 398, 402, 406, 410, 414, 418, 422, 427, 432, 436, 440, 444, 741, 745, 749, 754, 757, 451, 455, 459, 465, 469, 761, 765, 476, 480, 484, 769, 491, 495, 499, 773, 506, 510, 514, 517, 521, 525, 777, 781, 785, 532, 789, 539, 793, 548, 798, 556, 560, 564, 569, 589, 595, 601, 604, 608, 613, 802, 806, 622, 626, 630, 634, 810, 643, 816, 650, 654, 658, 820, 258, 262, 824] (by decide +kernel) (by decide +kernel) w h).1
theorem wsL_law_x0 : ∀ w ∈ (vx_atS RX5 184 "java/lang/IllegalStateException" ["java/lang/RuntimeException", "java/lang/Exception"]).filter goodWord, w ∈ lw_tbl := by decide +kernel
theorem wsL_law_x1 : ∀ w ∈ (vx_atS RX5 179 "java/lang/IllegalArgumentException" ["java/lang/RuntimeException", "java/lang/Exception"]).filter goodWord, w ∈ lw_tbl := by decide +kernel
theorem wsL_law_x2 : ∀ w ∈ (vx_atS RX5 142 "java/lang/UnsupportedOperationException" ["java/lang/RuntimeException", "java/lang/Exception"]).filter goodWord, w ∈ lw_tbl := by decide +kernel
theorem wsL_law_in : ∀ w ∈ wsL_law, w ∈ lw_tbl := fun w h => (List.mem_append.mp h).elim (fun h => (List.mem_append.mp h).elim (fun h => (List.mem_append.mp h).elim (fun h => wsL_law_in0 w h) (fun h => wsL_law_x0 w h)) (fun h => wsL_law_x1 w h)) (fun h => wsL_law_x2 w h)
theorem inlX0 : ∀ w ∈ wsX00, w ∈ wsL_law := fun _ h => List.mem_append_left _ (List.mem_append_left _ (List.mem_append_left _ (List.mem_append_left _ (List.mem_append_left _ (List.mem_append_left _ (List.mem_append_left _ (List.mem_append_right _ h)))))))
theorem inX0 : ∀ w ∈ wsX00, w ∈ lw_tbl := fun w h => wsL_law_in w (inlX0 w h)
theorem inlX1 : ∀ w ∈ wsX10, w ∈ wsL_law := fun _ h => List.mem_append_left _ (List.mem_append_left _ (List.mem_append_left _ (List.mem_append_left _ (List.mem_append_left _ (List.mem_append_left _ (List.mem_append_right _ h))))))
theorem inX1 : ∀ w ∈ wsX10, w ∈ lw_tbl := fun w h => wsL_law_in w (inlX1 w h)
theorem inlX2 : ∀ w ∈ wsX20, w ∈ wsL_law := fun _ h => List.mem_append_left _ (List.mem_append_left _ (List.mem_append_left _ (List.mem_append_left _ (List.mem_append_left _ (List.mem_append_right _ h)))))
theorem inX2 : ∀ w ∈ wsX20, w ∈ lw_tbl := fun w h => wsL_law_in w (inlX2 w h)
theorem inlX3 : ∀ w ∈ wsX30, w ∈ wsL_law := fun _ h => List.mem_append_left _ (List.mem_append_left _ (List.mem_append_left _ (List.mem_append_left _ (List.mem_append_right _ h))))
theorem inX3 : ∀ w ∈ wsX30, w ∈ lw_tbl := fun w h => wsL_law_in w (inlX3 w h)
theorem inlX4 : ∀ w ∈ wsX40, w ∈ wsL_law := fun _ h => List.mem_append_left _ (List.mem_append_left _ (List.mem_append_left _ (List.mem_append_left _ (List.mem_append_left _ (List.mem_append_left _ (List.mem_append_left _ (List.mem_append_left _ (List.mem_append_right _ h))))))))
theorem inX4 : ∀ w ∈ wsX40, w ∈ lw_tbl := fun w h => wsL_law_in w (inlX4 w h)
theorem inlX5 : ∀ w ∈ wsX50, w ∈ wsL_law := fun _ h => List.mem_append_left _ (List.mem_append_left _ (List.mem_append_left _ (List.mem_append_left _ (List.mem_append_left _ (List.mem_append_left _ (List.mem_append_left _ (List.mem_append_left _ (List.mem_append_left _ (List.mem_append_left _ (List.mem_append_right _ h))))))))))
theorem inX5 : ∀ w ∈ wsX50, w ∈ lw_tbl := fun w h => wsL_law_in w (inlX5 w h)
theorem inlX6 : ∀ w ∈ wsX60, w ∈ wsL_law := fun _ h => List.mem_append_left _ (List.mem_append_left _ (List.mem_append_left _ (List.mem_append_left _ (List.mem_append_left _ (List.mem_append_left _ (List.mem_append_left _ (List.mem_append_left _ (List.mem_append_left _ (List.mem_append_right _ h)))))))))
theorem inX6 : ∀ w ∈ wsX60, w ∈ lw_tbl := fun w h => wsL_law_in w (inlX6 w h)
theorem inJ9 : ∀ w ∈ wsJ90, w ∈ lw_tbl := by decide +kernel
theorem inJ0 : ∀ w ∈ wsJ00, w ∈ lw_tbl := by decide +kernel
set_option maxRecDepth 20000 in
theorem ggX0_init_X2_init : GoodIn wsX0_init wsX2_init := goodIn_r _ [16, 17, 2, 3, 18, 19, 27, 28, 29, 30, 31, 32, 33] (by decide +kernel) (by decide +kernel)
set_option maxRecDepth 20000 in
theorem gX0_init_X2_init : GoodIn wsX0_init (wsX2_init) := ggX0_init_X2_init
set_option maxRecDepth 20000 in
theorem ggX0_restart_X2_stand : GoodIn wsX0_restart wsX2_stand := goodIn_r _ [7, 8, 9, 10, 11, 12, 13, 14, 22, 23, 24, 25, 26, 27, 28] (by decide +kernel) (by decide +kernel)
set_option maxRecDepth 20000 in
theorem gX0_restart_X2_stand : GoodIn wsX0_restart (wsV RX0 46 RX2 yX2_stand wsX2_stand) := goodIn_app (goodIn_of _ (by decide +kernel)) ggX0_restart_X2_stand
set_option maxRecDepth 20000 in
theorem ggX0_setMark_X2_copy : GoodIn wsX0_setMark wsX2_copy := goodIn_r _ [8, 9, 10, 11, 12, 13, 14, 15, 23, 24, 25, 26, 27, 28, 29] (by decide +kernel) (by decide +kernel)
set_option maxRecDepth 20000 in
theorem gX0_setMark_X2_copy : GoodIn wsX0_setMark (wsV RX0 50 RX2 yX2_copy wsX2_copy) := goodIn_app (goodIn_of _ (by decide +kernel)) ggX0_setMark_X2_copy
set_option maxRecDepth 20000 in
theorem ggX0_goToMark_X2_copy : GoodIn wsX0_goToMark wsX2_copy := goodIn_r _ [7, 8, 9, 10, 11, 12, 13, 14, 22, 23, 24, 25, 26, 27, 28] (by decide +kernel) (by decide +kernel)
set_option maxRecDepth 20000 in
theorem gX0_goToMark_X2_copy : GoodIn wsX0_goToMark (wsV RX0 50 RX2 yX2_copy wsX2_copy) := goodIn_app (goodIn_of _ (by decide +kernel)) ggX0_goToMark_X2_copy
set_option maxRecDepth 20000 in
theorem ggX0_goOn_X2_enterNextPair : GoodIn wsX0_goOn wsX2_enterNextPair := goodIn_r _ [7, 8, 9, 10, 11, 12, 13, 14, 15, 16, 6, 17, 79, 80, 81, 82, 83, 84, 85] (by decide +kernel) (by decide +kernel)
set_option maxRecDepth 20000 in
theorem gX0_goOn_X2_enterNextPair : GoodIn wsX0_goOn (wsV RX0 57 RX2 yX2_enterNextPair wsX2_enterNextPair) := goodIn_app (goodIn_of _ (by decide +kernel)) ggX0_goOn_X2_enterNextPair
set_option maxRecDepth 20000 in
theorem ggX0_goOn_X0_rowsAhead : GoodIn wsX0_goOn wsX0_rowsAhead := goodIn_r _ [22, 23, 1, 24, 25, 26, 27, 28, 29, 30, 72, 73, 74, 75, 76, 77, 78, 79, 80, 81, 82, 83, 84, 85, 86, 87, 88, 89, 90, 91, 92, 93, 94] (by decide +kernel) (by decide +kernel)
set_option maxRecDepth 20000 in
theorem gX0_goOn_X0_rowsAhead : GoodIn wsX0_goOn (wsV RX0 61 RX0 yX0_rowsAhead wsX0_rowsAhead) := goodIn_app (goodIn_of _ (by decide +kernel)) ggX0_goOn_X0_rowsAhead
set_option maxRecDepth 20000 in
theorem ggX0_goOn_X0_comeToNewKeys : GoodIn wsX0_goOn wsX0_comeToNewKeys := goodIn_r _ [34, 23, 1, 24, 35, 36, 37, 28, 38, 30, 39, 40, 41, 21, 42, 43, 44, 45, 46, 47, 48, 49, 50, 51, 52, 53, 54, 25, 26, 27, 29, 72, 73, 74, 75, 76, 77, 78, 79, 80, 81, 82, 83, 84, 85, 86, 87, 88, 89, 90, 91, 92, 93, 94] (by decide +kernel) (by decide +kernel)
set_option maxRecDepth 20000 in
theorem gX0_goOn_X0_comeToNewKeys : GoodIn wsX0_goOn (wsV RX0 65 RX0 yX0_comeToNewKeys wsX0_comeToNewKeys) := goodIn_app (goodIn_of _ (by decide +kernel)) ggX0_goOn_X0_comeToNewKeys
set_option maxRecDepth 20000 in
theorem ggX0_goOn_X2_fits : GoodIn wsX0_goOn wsX2_fits := goodIn_r _ [58, 14, 15, 16, 6, 17, 12, 9, 59, 60, 61, 62, 63, 11, 79, 80, 81, 82, 83, 84, 85] (by decide +kernel) (by decide +kernel)
set_option maxRecDepth 20000 in
theorem gX0_goOn_X2_fits : GoodIn wsX0_goOn (wsV RX0 68 RX2 yX2_fits wsX2_fits) := goodIn_app (goodIn_of _ (by decide +kernel)) ggX0_goOn_X2_fits
set_option maxRecDepth 20000 in
theorem ggX0_goOn_X2_enterFirstPair : GoodIn wsX0_goOn wsX2_enterFirstPair := goodIn_r _ [67, 63, 10, 12, 8, 13, 59, 60, 61, 6, 62, 11, 14, 15, 16, 17, 9, 79, 80, 81, 82, 83, 84, 85] (by decide +kernel) (by decide +kernel)
set_option maxRecDepth 20000 in
theorem gX0_goOn_X2_enterFirstPair : GoodIn wsX0_goOn (wsV RX0 72 RX2 yX2_enterFirstPair wsX2_enterFirstPair) := goodIn_app (goodIn_of _ (by decide +kernel)) ggX0_goOn_X2_enterFirstPair
set_option maxRecDepth 20000 in
theorem ggX0_goOn_X2_stand : GoodIn wsX0_goOn wsX2_stand := goodIn_r _ [71, 63, 11, 12, 9, 10, 8, 13, 79, 80, 81, 82, 83, 84, 85] (by decide +kernel) (by decide +kernel)
set_option maxRecDepth 20000 in
theorem gX0_goOn_X2_stand : GoodIn wsX0_goOn (wsV RX0 46 RX2 yX2_stand wsX2_stand) := goodIn_app (goodIn_of _ (by decide +kernel)) ggX0_goOn_X2_stand
set_option maxRecDepth 20000 in
theorem ggX0_goBefore_X0_firstNotBelow : GoodIn wsX0_goBefore wsX0_firstNotBelow := goodIn_r _ [9, 10, 11, 12, 13, 14, 15, 16, 17, 18, 8, 19, 20, 21, 22, 23, 24, 25, 26, 27, 28, 29, 30, 63, 64, 65, 66, 67, 68, 69, 70, 71, 56, 57, 58, 59, 60, 61, 62] (by decide +kernel) (by decide +kernel)
set_option maxRecDepth 20000 in
theorem gX0_goBefore_X0_firstNotBelow : GoodIn wsX0_goBefore (wsV RX0 81 RX0 yX0_firstNotBelow wsX0_firstNotBelow) := goodIn_app (goodIn_of _ (by decide +kernel)) ggX0_goBefore_X0_firstNotBelow
set_option maxRecDepth 20000 in
theorem ggX0_goBefore_X5_pairsBefore : GoodIn wsX0_goBefore wsX5_pairsBefore := goodIn_r _ [33, 34, 35, 36, 13, 37, 15, 38, 39, 40, 41, 42, 43, 63, 64, 65, 66, 67, 68, 69, 70, 71] (by decide +kernel) (by decide +kernel)
set_option maxRecDepth 20000 in
theorem gX0_goBefore_X5_pairsBefore_n85 : GoodIn wsX0_goBefore (wsX5_pairsBefore) := ggX0_goBefore_X5_pairsBefore
set_option maxRecDepth 20000 in
theorem ggX0_goBefore_X2_stand : GoodIn wsX0_goBefore wsX2_stand := goodIn_r _ [48, 49, 50, 51, 52, 53, 54, 55, 72, 73, 74, 75, 76, 77, 78] (by decide +kernel) (by decide +kernel)
set_option maxRecDepth 20000 in
theorem gX0_goBefore_X2_stand : GoodIn wsX0_goBefore (wsV RX0 46 RX2 yX2_stand wsX2_stand) := goodIn_app (goodIn_of _ (by decide +kernel)) ggX0_goBefore_X2_stand
set_option maxRecDepth 20000 in
theorem ggX0_goBefore_X4_size : GoodIn wsX0_goBefore wsX4_size := goodIn_r _ [14, 15, 63, 64, 65, 66, 67, 68, 69, 70, 71] (by decide +kernel) (by decide +kernel)
set_option maxRecDepth 20000 in
theorem gX0_goBefore_X4_size : GoodIn wsX0_goBefore (wsV RX0 89 RX4 yX4_size wsX4_size) := goodIn_app (goodIn_of _ (by decide +kernel)) ggX0_goBefore_X4_size
set_option maxRecDepth 20000 in
theorem ggX0_rowsAhead_X4_size : GoodIn wsX0_rowsAhead wsX4_size := goodIn_r _ [8, 9, 24, 25, 26, 27, 28, 29, 30, 31, 32] (by decide +kernel) (by decide +kernel)
set_option maxRecDepth 20000 in
theorem gX0_rowsAhead_X4_size : GoodIn wsX0_rowsAhead (wsV RX0 89 RX4 yX4_size wsX4_size) := goodIn_app (goodIn_of _ (by decide +kernel)) ggX0_rowsAhead_X4_size
set_option maxRecDepth 20000 in
theorem ggX0_comeToNewKeys_X4_has : GoodIn wsX0_comeToNewKeys wsX4_has := goodIn_r _ [8, 9, 45, 46, 47, 48, 49, 50, 51, 52, 53] (by decide +kernel) (by decide +kernel)
set_option maxRecDepth 20000 in
theorem gX0_comeToNewKeys_X4_has : GoodIn wsX0_comeToNewKeys (wsV RX0 94 RX4 yX4_has wsX4_has) := goodIn_app (goodIn_of _ (by decide +kernel)) ggX0_comeToNewKeys_X4_has
set_option maxRecDepth 20000 in
theorem ggX0_comeToNewKeys_X0_readKey : GoodIn wsX0_comeToNewKeys wsX0_readKey := goodIn_r _ [14, 15, 16, 17, 18, 7, 19, 20, 21, 22, 5, 6, 8, 9, 31, 32, 33, 34, 35, 36, 37, 45, 46, 47, 48, 49, 50, 51, 52, 53] (by decide +kernel) (by decide +kernel)
set_option maxRecDepth 20000 in
theorem gX0_comeToNewKeys_X0_readKey : GoodIn wsX0_comeToNewKeys (wsV RX0 97 RX0 yX0_readKey wsX0_readKey) := goodIn_app (goodIn_of _ (by decide +kernel)) ggX0_comeToNewKeys_X0_readKey
set_option maxRecDepth 20000 in
theorem ggX0_comeToNewKeys_X0_firstOtherKey : GoodIn wsX0_comeToNewKeys wsX0_firstOtherKey := goodIn_r _ [26, 10, 11, 12, 13, 14, 15, 16, 17, 18, 7, 19, 20, 21, 22, 5, 6, 8, 9, 27, 28, 29, 30, 31, 32, 33, 34, 35, 36, 37, 45, 46, 47, 48, 49, 50, 51, 52, 53] (by decide +kernel) (by decide +kernel)
set_option maxRecDepth 20000 in
theorem gX0_comeToNewKeys_X0_firstOtherKey : GoodIn wsX0_comeToNewKeys (wsV RX0 106 RX0 yX0_firstOtherKey wsX0_firstOtherKey) := goodIn_app (goodIn_of _ (by decide +kernel)) ggX0_comeToNewKeys_X0_firstOtherKey
set_option maxRecDepth 20000 in
theorem ggX0_firstOtherKey_X0_readKey : GoodIn wsX0_firstOtherKey wsX0_readKey := goodIn_r _ [5, 6, 7, 8, 9, 10, 11, 12, 13, 14, 15, 16, 17, 18, 23, 24, 25, 26, 27, 28, 29, 30, 31, 32, 33, 34, 35, 36, 37, 38] (by decide +kernel) (by decide +kernel)
set_option maxRecDepth 20000 in
theorem gX0_firstOtherKey_X0_readKey : GoodIn wsX0_firstOtherKey (wsV RX0 97 RX0 yX0_readKey wsX0_readKey) := goodIn_app (goodIn_of _ (by decide +kernel)) ggX0_firstOtherKey_X0_readKey
set_option maxRecDepth 20000 in
theorem ggX0_firstOtherKey_X4_size : GoodIn wsX0_firstOtherKey wsX4_size := goodIn_r _ [22, 18, 30, 31, 32, 33, 34, 35, 36, 37, 38] (by decide +kernel) (by decide +kernel)
set_option maxRecDepth 20000 in
theorem gX0_firstOtherKey_X4_size : GoodIn wsX0_firstOtherKey (wsV RX0 89 RX4 yX4_size wsX4_size) := goodIn_app (goodIn_of _ (by decide +kernel)) ggX0_firstOtherKey_X4_size
set_option maxRecDepth 20000 in
theorem ggX0_firstNotBelow_X4_size : GoodIn wsX0_firstNotBelow wsX4_size := goodIn_r _ [5, 6, 23, 24, 25, 26, 27, 28, 29, 30, 31] (by decide +kernel) (by decide +kernel)
set_option maxRecDepth 20000 in
theorem gX0_firstNotBelow_X4_size : GoodIn wsX0_firstNotBelow (wsV RX0 89 RX4 yX4_size wsX4_size) := goodIn_app (goodIn_of _ (by decide +kernel)) ggX0_firstNotBelow_X4_size
set_option maxRecDepth 20000 in
theorem ggX0_firstNotBelow_X0_readKey : GoodIn wsX0_firstNotBelow wsX0_readKey := goodIn_r _ [11, 12, 13, 14, 15, 4, 16, 17, 18, 19, 20, 21, 22, 6, 32, 33, 34, 35, 36, 37, 38, 23, 24, 25, 26, 27, 28, 29, 30, 31] (by decide +kernel) (by decide +kernel)
set_option maxRecDepth 20000 in
theorem gX0_firstNotBelow_X0_readKey : GoodIn wsX0_firstNotBelow (wsV RX0 97 RX0 yX0_readKey wsX0_readKey) := goodIn_app (goodIn_of _ (by decide +kernel)) ggX0_firstNotBelow_X0_readKey
set_option maxRecDepth 20000 in
theorem ggX0_readKey_X4_keyAt : GoodIn wsX0_readKey wsX4_keyAt := goodIn_r _ [6, 7, 8, 9, 10, 11, 5, 12, 13, 21, 22, 23, 24, 25, 26, 27, 28, 29] (by decide +kernel) (by decide +kernel)
set_option maxRecDepth 20000 in
theorem gX0_readKey_X4_keyAt : GoodIn wsX0_readKey (wsV RX0 109 RX4 yX4_keyAt wsX4_keyAt) := goodIn_app (goodIn_of _ (by decide +kernel)) ggX0_readKey_X4_keyAt
set_option maxRecDepth 20000 in
theorem ggX1_init_X3_init : GoodIn wsX1_init wsX3_init := goodIn_r _ [16, 17, 2, 3] (by decide +kernel) (by decide +kernel)
set_option maxRecDepth 20000 in
theorem gX1_init_X3_init_n22 : GoodIn wsX1_init (wsX3_init) := ggX1_init_X3_init
set_option maxRecDepth 20000 in
theorem ggX1_fact_X1_has : GoodIn wsX1_fact wsX1_has := goodIn_r _ [6, 7, 11, 12, 13, 14, 15, 16] (by decide +kernel) (by decide +kernel)
set_option maxRecDepth 20000 in
theorem gX1_fact_X1_has : GoodIn wsX1_fact (wsV RX1 37 RX1 yX1_has wsX1_has) := goodIn_app (goodIn_of _ (by decide +kernel)) ggX1_fact_X1_has
set_option maxRecDepth 20000 in
theorem ggX1_fact_X5_isBelow : GoodIn wsX1_fact wsX5_isBelow := goodIn_r _ [10] (by decide +kernel) (by decide +kernel)
set_option maxRecDepth 20000 in
theorem gX1_fact_X5_isBelow_n41 : GoodIn wsX1_fact (wsX5_isBelow) := ggX1_fact_X5_isBelow
set_option maxRecDepth 20000 in
theorem ggX1_tell_X4_size : GoodIn wsX1_tell wsX4_size := goodIn_r _ [10, 11, 74, 75, 76, 77, 78, 79, 80, 81, 82] (by decide +kernel) (by decide +kernel)
set_option maxRecDepth 20000 in
theorem gX1_tell_X4_size : GoodIn wsX1_tell (wsV RX1 45 RX4 yX4_size wsX4_size) := goodIn_app (goodIn_of _ (by decide +kernel)) ggX1_tell_X4_size
set_option maxRecDepth 20000 in
theorem ggX1_tell_X4_startsGroup : GoodIn wsX1_tell wsX4_startsGroup := goodIn_r _ [15, 16, 17, 18, 9, 19, 20, 21, 22, 23, 24, 25, 11, 26, 27, 28, 29, 30, 74, 75, 76, 77, 78, 79, 80, 81, 82] (by decide +kernel) (by decide +kernel)
set_option maxRecDepth 20000 in
theorem gX1_tell_X4_startsGroup : GoodIn wsX1_tell (wsV RX1 50 RX4 yX4_startsGroup wsX4_startsGroup) := goodIn_app (goodIn_of _ (by decide +kernel)) ggX1_tell_X4_startsGroup
set_option maxRecDepth 20000 in
theorem ggX1_tell_X3_measure : GoodIn wsX1_tell wsX3_measure := goodIn_r _ [35, 36, 37, 38, 39, 40, 41, 42, 43, 44, 45, 46, 47, 48, 49, 9, 50, 51, 21, 22, 23, 24, 25, 11, 52, 17, 18, 19, 20, 53, 7, 8, 10, 83, 84, 85, 86, 74, 75, 76, 77, 78, 79, 80, 81, 82] (by decide +kernel) (by decide +kernel)
set_option maxRecDepth 20000 in
theorem gX1_tell_X3_measure : GoodIn wsX1_tell (wsV RX1 53 RX3 yX3_measure wsX3_measure) := goodIn_app (goodIn_of _ (by decide +kernel)) ggX1_tell_X3_measure
set_option maxRecDepth 20000 in
theorem ggX1_tell_X4_firstPartnerOf : GoodIn wsX1_tell wsX4_firstPartnerOf := goodIn_r _ [57, 58, 22, 23, 24, 9, 25, 11, 74, 75, 76, 77, 78, 79, 80, 81, 82] (by decide +kernel) (by decide +kernel)
set_option maxRecDepth 20000 in
theorem gX1_tell_X4_firstPartnerOf : GoodIn wsX1_tell (wsV RX1 57 RX4 yX4_firstPartnerOf wsX4_firstPartnerOf) := goodIn_app (goodIn_of _ (by decide +kernel)) ggX1_tell_X4_firstPartnerOf
set_option maxRecDepth 20000 in
theorem ggX1_tell_X4_keyAt : GoodIn wsX1_tell wsX4_keyAt := goodIn_r _ [19, 20, 21, 22, 23, 24, 9, 25, 11, 74, 75, 76, 77, 78, 79, 80, 81, 82] (by decide +kernel) (by decide +kernel)
set_option maxRecDepth 20000 in
theorem gX1_tell_X4_keyAt : GoodIn wsX1_tell (wsV RX1 61 RX4 yX4_keyAt wsX4_keyAt) := goodIn_app (goodIn_of _ (by decide +kernel)) ggX1_tell_X4_keyAt
set_option maxRecDepth 20000 in
theorem ggX1_tell_X1_write : GoodIn wsX1_tell wsX1_write := goodIn_r _ [64, 3, 4, 65, 66, 41, 42, 43, 67, 45, 46, 68, 69, 70, 71, 72, 73, 83, 84, 85, 86] (by decide +kernel) (by decide +kernel)
set_option maxRecDepth 20000 in
theorem gX1_tell_X1_write : GoodIn wsX1_tell (wsV RX1 64 RX1 yX1_write wsX1_write) := goodIn_app (goodIn_of _ (by decide +kernel)) ggX1_tell_X1_write
set_option maxRecDepth 20000 in
theorem ggX2_fits_X2_hasRightRows : GoodIn wsX2_fits wsX2_hasRightRows := goodIn_r _ [5, 6, 7, 14, 15, 16, 17, 18, 19, 20] (by decide +kernel) (by decide +kernel)
set_option maxRecDepth 20000 in
theorem gX2_fits_X2_hasRightRows : GoodIn wsX2_fits (wsV RX2 33 RX2 yX2_hasRightRows wsX2_hasRightRows) := goodIn_app (goodIn_of _ (by decide +kernel)) ggX2_fits_X2_hasRightRows
set_option maxRecDepth 20000 in
theorem ggX2_fits_X2_hasLeftRows : GoodIn wsX2_fits wsX2_hasLeftRows := goodIn_r _ [11, 12, 13, 14, 15, 16, 17, 18, 19, 20] (by decide +kernel) (by decide +kernel)
set_option maxRecDepth 20000 in
theorem gX2_fits_X2_hasLeftRows : GoodIn wsX2_fits (wsV RX2 37 RX2 yX2_hasLeftRows wsX2_hasLeftRows) := goodIn_app (goodIn_of _ (by decide +kernel)) ggX2_fits_X2_hasLeftRows
set_option maxRecDepth 20000 in
theorem ggX2_enterFirstPair_X2_hasLeftRows : GoodIn wsX2_enterFirstPair wsX2_hasLeftRows := goodIn_r _ [10, 1, 11, 17, 18, 19, 20, 21, 22, 23] (by decide +kernel) (by decide +kernel)
set_option maxRecDepth 20000 in
theorem gX2_enterFirstPair_X2_hasLeftRows : GoodIn wsX2_enterFirstPair (wsV RX2 37 RX2 yX2_hasLeftRows wsX2_hasLeftRows) := goodIn_app (goodIn_of _ (by decide +kernel)) ggX2_enterFirstPair_X2_hasLeftRows
set_option maxRecDepth 20000 in
theorem ggX2_enterFirstPair_X2_hasRightRows : GoodIn wsX2_enterFirstPair wsX2_hasRightRows := goodIn_r _ [15, 3, 16, 17, 18, 19, 20, 21, 22, 23] (by decide +kernel) (by decide +kernel)
set_option maxRecDepth 20000 in
theorem gX2_enterFirstPair_X2_hasRightRows : GoodIn wsX2_enterFirstPair (wsV RX2 33 RX2 yX2_hasRightRows wsX2_hasRightRows) := goodIn_app (goodIn_of _ (by decide +kernel)) ggX2_enterFirstPair_X2_hasRightRows
set_option maxRecDepth 20000 in
theorem ggX2_enterNextPair_X2_hasRightRows : GoodIn wsX2_enterNextPair wsX2_hasRightRows := goodIn_r _ [11, 5, 2, 12, 13, 14, 15, 16, 17, 18] (by decide +kernel) (by decide +kernel)
set_option maxRecDepth 20000 in
theorem gX2_enterNextPair_X2_hasRightRows : GoodIn wsX2_enterNextPair (wsV RX2 33 RX2 yX2_hasRightRows wsX2_hasRightRows) := goodIn_app (goodIn_of _ (by decide +kernel)) ggX2_enterNextPair_X2_hasRightRows
set_option maxRecDepth 20000 in
theorem ggX3_measure_X4_valueAt : GoodIn wsX3_measure wsX4_valueAt := goodIn_r _ [16, 17, 18, 19, 20, 21, 15, 22, 23, 37, 38, 39, 40, 41, 42, 43, 44, 45] (by decide +kernel) (by decide +kernel)
set_option maxRecDepth 20000 in
theorem gX3_measure_X4_valueAt : GoodIn wsX3_measure (wsV RX3 17 RX4 yX4_valueAt wsX4_valueAt) := goodIn_app (goodIn_of _ (by decide +kernel)) ggX3_measure_X4_valueAt
set_option maxRecDepth 20000 in
theorem ggX3_measure_X4_keyAt : GoodIn wsX3_measure wsX4_keyAt := goodIn_r _ [27, 28, 18, 19, 20, 21, 15, 22, 23, 37, 38, 39, 40, 41, 42, 43, 44, 45] (by decide +kernel) (by decide +kernel)
set_option maxRecDepth 20000 in
theorem gX3_measure_X4_keyAt : GoodIn wsX3_measure (wsV RX3 29 RX4 yX4_keyAt wsX4_keyAt) := goodIn_app (goodIn_of _ (by decide +kernel)) ggX3_measure_X4_keyAt
set_option maxRecDepth 20000 in
theorem ggX3_measure_X4_size : GoodIn wsX3_measure wsX4_size := goodIn_r _ [32, 23, 37, 38, 39, 40, 41, 42, 43, 44, 45] (by decide +kernel) (by decide +kernel)
set_option maxRecDepth 20000 in
theorem gX3_measure_X4_size : GoodIn wsX3_measure (wsV RX3 32 RX4 yX4_size wsX4_size) := goodIn_app (goodIn_of _ (by decide +kernel)) ggX3_measure_X4_size
set_option maxRecDepth 20000 in
theorem ggX4_append_X4_hasRoom : GoodIn wsX4_append wsX4_hasRoom := goodIn_r _ [8, 2, 9, 10, 11, 12, 13, 14, 15, 16, 17, 18] (by decide +kernel) (by decide +kernel)
set_option maxRecDepth 20000 in
theorem gX4_append_X4_hasRoom : GoodIn wsX4_append (wsV RX4 40 RX4 yX4_hasRoom wsX4_hasRoom) := goodIn_app (goodIn_of _ (by decide +kernel)) ggX4_append_X4_hasRoom
set_option maxRecDepth 20000 in
theorem ggX4_keyAt_X4_has : GoodIn wsX4_keyAt wsX4_has := goodIn_r _ [7, 8, 9, 10, 11, 12, 13, 14, 15, 16, 17] (by decide +kernel) (by decide +kernel)
set_option maxRecDepth 20000 in
theorem gX4_keyAt_X4_has : GoodIn wsX4_keyAt (wsV RX4 44 RX4 yX4_has wsX4_has) := goodIn_app (goodIn_of _ (by decide +kernel)) ggX4_keyAt_X4_has
set_option maxRecDepth 20000 in
theorem ggX4_valueAt_X4_has : GoodIn wsX4_valueAt wsX4_has := goodIn_r _ [7, 8, 9, 10, 11, 12, 13, 14, 15, 16, 17] (by decide +kernel) (by decide +kernel)
set_option maxRecDepth 20000 in
theorem gX4_valueAt_X4_has : GoodIn wsX4_valueAt (wsV RX4 44 RX4 yX4_has wsX4_has) := goodIn_app (goodIn_of _ (by decide +kernel)) ggX4_valueAt_X4_has
set_option maxRecDepth 20000 in
theorem ggX4_numberAt_X4_has : GoodIn wsX4_numberAt wsX4_has := goodIn_r _ [6, 7, 8, 9, 10, 11, 12, 13, 14, 15, 16] (by decide +kernel) (by decide +kernel)
set_option maxRecDepth 20000 in
theorem gX4_numberAt_X4_has : GoodIn wsX4_numberAt (wsV RX4 44 RX4 yX4_has wsX4_has) := goodIn_app (goodIn_of _ (by decide +kernel)) ggX4_numberAt_X4_has
set_option maxRecDepth 20000 in
theorem ggX4_sortRows_X4_putInOrder : GoodIn wsX4_sortRows wsX4_putInOrder := goodIn_r _ [7, 8, 9, 10, 11, 12, 13, 14, 15, 16, 17, 18] (by decide +kernel) (by decide +kernel)
set_option maxRecDepth 20000 in
theorem gX4_sortRows_X4_putInOrder : GoodIn wsX4_sortRows (wsV RX4 48 RX4 yX4_putInOrder wsX4_putInOrder) := goodIn_app (goodIn_of _ (by decide +kernel)) ggX4_sortRows_X4_putInOrder
set_option maxRecDepth 20000 in
theorem ggX4_findPartners_X4_keyAt : GoodIn wsX4_findPartners wsX4_keyAt := goodIn_r _ [9, 10, 11, 12, 13, 14, 8, 15, 1, 16, 17, 18, 19, 20, 21, 22, 23, 24] (by decide +kernel) (by decide +kernel)
set_option maxRecDepth 20000 in
theorem gX4_findPartners_X4_keyAt : GoodIn wsX4_findPartners (wsV RX4 52 RX4 yX4_keyAt wsX4_keyAt) := goodIn_app (goodIn_of _ (by decide +kernel)) ggX4_findPartners_X4_keyAt
set_option maxRecDepth 20000 in
theorem ggX4_firstPartnerOf_X4_has : GoodIn wsX4_firstPartnerOf wsX4_has := goodIn_r _ [6, 7, 8, 9, 10, 11, 12, 13, 14, 15, 16] (by decide +kernel) (by decide +kernel)
set_option maxRecDepth 20000 in
theorem gX4_firstPartnerOf_X4_has : GoodIn wsX4_firstPartnerOf (wsV RX4 44 RX4 yX4_has wsX4_has) := goodIn_app (goodIn_of _ (by decide +kernel)) ggX4_firstPartnerOf_X4_has
set_option maxRecDepth 20000 in
theorem ggX4_startsGroup_X4_keyAt : GoodIn wsX4_startsGroup wsX4_keyAt := goodIn_r _ [5, 6, 7, 8, 9, 10, 4, 11, 12, 18, 19, 20, 21, 22, 23, 24, 25, 26] (by decide +kernel) (by decide +kernel)
set_option maxRecDepth 20000 in
theorem gX4_startsGroup_X4_keyAt : GoodIn wsX4_startsGroup (wsV RX4 52 RX4 yX4_keyAt wsX4_keyAt) := goodIn_app (goodIn_of _ (by decide +kernel)) ggX4_startsGroup_X4_keyAt
set_option maxRecDepth 20000 in
theorem ggX4_startsGroup_X4_partnersBefore : GoodIn wsX4_startsGroup wsX4_partnersBefore := goodIn_r _ [16, 12, 17, 18, 19, 20, 21, 22, 23, 24, 25, 26] (by decide +kernel) (by decide +kernel)
set_option maxRecDepth 20000 in
theorem gX4_startsGroup_X4_partnersBefore : GoodIn wsX4_startsGroup (wsV RX4 56 RX4 yX4_partnersBefore wsX4_partnersBefore) := goodIn_app (goodIn_of _ (by decide +kernel)) ggX4_startsGroup_X4_partnersBefore
set_option maxRecDepth 20000 in
theorem ggX4_groupStarts_X4_startsGroup : GoodIn wsX4_groupStarts wsX4_startsGroup := goodIn_r _ [6, 7, 8, 9, 5, 10, 11, 12, 13, 14, 15, 16, 1, 17, 18, 19, 20, 21, 22, 23, 24, 25, 26, 27, 28, 29, 30] (by decide +kernel) (by decide +kernel)
set_option maxRecDepth 20000 in
theorem gX4_groupStarts_X4_startsGroup : GoodIn wsX4_groupStarts (wsV RX4 59 RX4 yX4_startsGroup wsX4_startsGroup) := goodIn_app (goodIn_of _ (by decide +kernel)) ggX4_groupStarts_X4_startsGroup
set_option maxRecDepth 20000 in
theorem ggX5_init_X5_roomFor : GoodIn wsX5_init wsX5_roomFor := goodIn_r _ [21, 22, 23, 24, 25, 26, 27, 28] (by decide +kernel) (by decide +kernel)
set_option maxRecDepth 20000 in
theorem gX5_init_X5_roomFor : GoodIn wsX5_init (va_wsS RX5 9 yX5_roomFor wsX5_roomFor) := goodIn_app (goodIn_of _ (by decide +kernel)) ggX5_init_X5_roomFor
set_option maxRecDepth 20000 in
theorem ggX5_init_X4_init : GoodIn wsX5_init wsX4_init := goodIn_r _ [31, 32, 2, 3, 33, 34, 35, 36, 37, 38, 39, 40, 41, 42, 81, 82, 83, 84, 85, 86, 87, 88, 89] (by decide +kernel) (by decide +kernel)
set_option maxRecDepth 20000 in
theorem gX5_init_X4_init : GoodIn wsX5_init (wsX4_init) := ggX5_init_X4_init
set_option maxRecDepth 20000 in
theorem ggX5_init_X0_init : GoodIn wsX5_init wsX0_init := goodIn_r _ [45, 46, 2, 3, 47, 48, 49, 50, 51, 52, 53, 54, 55, 56, 57, 58, 59, 60, 61, 62, 95, 96, 97, 98, 99, 100, 101, 108, 109, 110, 111, 112, 113, 114] (by decide +kernel) (by decide +kernel)
set_option maxRecDepth 20000 in
theorem gX5_init_X0_init : GoodIn wsX5_init (wsX0_init) := ggX5_init_X0_init
set_option maxRecDepth 20000 in
theorem ggX5_init_X1_init : GoodIn wsX5_init wsX1_init := goodIn_r _ [65, 66, 2, 3, 67, 68, 69, 70, 71, 72, 73, 74, 75, 76, 77, 78, 79, 80, 102, 103, 104, 105, 106, 107, 115, 116, 117, 118] (by decide +kernel) (by decide +kernel)
set_option maxRecDepth 20000 in
theorem gX5_init_X1_init : GoodIn wsX5_init (wsX1_init) := ggX5_init_X1_init
set_option maxRecDepth 20000 in
theorem ggX5_add_X5_tableOf : GoodIn wsX5_add wsX5_tableOf := goodIn_r _ [6, 7, 8, 28, 29, 30, 31, 32] (by decide +kernel) (by decide +kernel)
set_option maxRecDepth 20000 in
theorem gX5_add_X5_tableOf : GoodIn wsX5_add (wsV RX5 45 RX5 yX5_tableOf wsX5_tableOf) := goodIn_app (goodIn_of _ (by decide +kernel)) ggX5_add_X5_tableOf
set_option maxRecDepth 20000 in
theorem ggX5_add_X4_hasRoom : GoodIn wsX5_add wsX4_hasRoom := goodIn_r _ [13, 14, 15, 33, 34, 35, 36, 37, 38, 39, 40, 41] (by decide +kernel) (by decide +kernel)
set_option maxRecDepth 20000 in
theorem gX5_add_X4_hasRoom : GoodIn wsX5_add (wsV RX5 49 RX4 yX4_hasRoom wsX4_hasRoom) := goodIn_app (goodIn_of _ (by decide +kernel)) ggX5_add_X4_hasRoom
set_option maxRecDepth 20000 in
theorem ggX5_add_X5_requireState : GoodIn wsX5_add wsX5_requireState := goodIn_ca (goodIn_r _ [18, 19, 20] (by decide +kernel) (by decide +kernel)) (goodIn_sub (fun _ h => List.mem_cons_of_mem _ (List.mem_append_right _ h)) (by decide +kernel))
set_option maxRecDepth 20000 in
theorem gX5_add_X5_requireState : GoodIn wsX5_add (va_wsS RX5 53 yX5_requireState wsX5_requireState) := goodIn_app (goodIn_of _ (by decide +kernel)) ggX5_add_X5_requireState
set_option maxRecDepth 20000 in
theorem ggX5_add_X4_append : GoodIn wsX5_add wsX4_append := goodIn_r _ [24, 25, 14, 26, 27, 10, 11, 12, 13, 15, 33, 34, 35, 36, 37, 38, 39, 40, 41] (by decide +kernel) (by decide +kernel)
set_option maxRecDepth 20000 in
theorem gX5_add_X4_append : GoodIn wsX5_add (wsV RX5 57 RX4 yX4_append wsX4_append) := goodIn_app (goodIn_of _ (by decide +kernel)) ggX5_add_X4_append
set_option maxRecDepth 20000 in
theorem ggX5_prepare_X4_sortRows : GoodIn wsX5_prepare wsX4_sortRows := goodIn_r _ [10, 11, 12, 13, 14, 15, 9, 16, 17, 18, 70, 71, 72, 73, 74, 75, 76, 77, 78] (by decide +kernel) (by decide +kernel)
set_option maxRecDepth 20000 in
theorem gX5_prepare_X4_sortRows : GoodIn wsX5_prepare (wsV RX5 61 RX4 yX4_sortRows wsX4_sortRows) := goodIn_app (goodIn_of _ (by decide +kernel)) ggX5_prepare_X4_sortRows
set_option maxRecDepth 20000 in
theorem ggX5_prepare_X4_findPartners : GoodIn wsX5_prepare wsX4_findPartners := goodIn_r _ [22, 12, 23, 24, 25, 26, 27, 28, 9, 29, 17, 18, 30, 31, 32, 33, 70, 71, 72, 73, 74, 75, 76, 77, 78] (by decide +kernel) (by decide +kernel)
set_option maxRecDepth 20000 in
theorem gX5_prepare_X4_findPartners : GoodIn wsX5_prepare (wsV RX5 64 RX4 yX4_findPartners wsX4_findPartners) := goodIn_app (goodIn_of _ (by decide +kernel)) ggX5_prepare_X4_findPartners
set_option maxRecDepth 20000 in
theorem ggX5_prepare_X0_restart : GoodIn wsX5_prepare wsX0_restart := goodIn_r _ [38, 39, 40, 41, 42, 43, 44, 45, 46, 47, 48, 49, 50, 51, 52, 79, 80, 81, 82, 83, 84, 85, 86, 87, 88, 89, 90, 91, 92] (by decide +kernel) (by decide +kernel)
set_option maxRecDepth 20000 in
theorem gX5_prepare_X0_restart : GoodIn wsX5_prepare (wsV RX5 68 RX0 yX0_restart wsX0_restart) := goodIn_app (goodIn_of _ (by decide +kernel)) ggX5_prepare_X0_restart
set_option maxRecDepth 20000 in
theorem ggX5_prepare_X0_forgetMark : GoodIn wsX5_prepare wsX0_forgetMark := goodIn_r _ [56, 57, 79, 80, 81, 82, 83, 84, 85] (by decide +kernel) (by decide +kernel)
set_option maxRecDepth 20000 in
theorem gX5_prepare_X0_forgetMark : GoodIn wsX5_prepare (wsV RX5 71 RX0 yX0_forgetMark wsX0_forgetMark) := goodIn_app (goodIn_of _ (by decide +kernel)) ggX5_prepare_X0_forgetMark
set_option maxRecDepth 20000 in
theorem ggX5_prepare_X1_forget : GoodIn wsX5_prepare wsX1_forget := goodIn_r _ [62, 63, 64, 93, 94, 95, 96, 97, 98] (by decide +kernel) (by decide +kernel)
set_option maxRecDepth 20000 in
theorem gX5_prepare_X1_forget : GoodIn wsX5_prepare (wsV RX5 74 RX1 yX1_forget wsX1_forget) := goodIn_app (goodIn_of _ (by decide +kernel)) ggX5_prepare_X1_forget
set_option maxRecDepth 20000 in
theorem ggX5_kind_X5_isBelow : GoodIn wsX5_kind wsX5_isBelow := goodIn_r _ [5] (by decide +kernel) (by decide +kernel)
set_option maxRecDepth 20000 in
theorem gX5_kind_X5_isBelow : GoodIn wsX5_kind (va_wsS RX5 77 yX5_isBelow wsX5_isBelow) := goodIn_app (goodIn_of _ (by decide +kernel)) ggX5_kind_X5_isBelow
set_option maxRecDepth 20000 in
theorem ggX5_kind_X5_requireArgument : GoodIn wsX5_kind wsX5_requireArgument := goodIn_ca (goodIn_r _ [8, 9, 10] (by decide +kernel) (by decide +kernel)) (goodIn_sub (fun _ h => List.mem_cons_of_mem _ (List.mem_append_right _ h)) (by decide +kernel))
set_option maxRecDepth 20000 in
theorem gX5_kind_X5_requireArgument : GoodIn wsX5_kind (va_wsS RX5 81 yX5_requireArgument wsX5_requireArgument) := goodIn_app (goodIn_of _ (by decide +kernel)) ggX5_kind_X5_requireArgument
set_option maxRecDepth 20000 in
theorem ggX5_kind_X0_useKind : GoodIn wsX5_kind wsX0_useKind := goodIn_r _ [15, 16, 45, 46, 47, 48, 49, 50, 51] (by decide +kernel) (by decide +kernel)
set_option maxRecDepth 20000 in
theorem gX5_kind_X0_useKind : GoodIn wsX5_kind (wsV RX5 84 RX0 yX0_useKind wsX0_useKind) := goodIn_app (goodIn_of _ (by decide +kernel)) ggX5_kind_X0_useKind
set_option maxRecDepth 20000 in
theorem ggX5_kind_X0_restart : GoodIn wsX5_kind wsX0_restart := goodIn_r _ [20, 21, 22, 23, 24, 25, 26, 27, 28, 29, 30, 31, 32, 33, 34, 45, 46, 47, 48, 49, 50, 51, 52, 53, 54, 55, 56, 57, 58] (by decide +kernel) (by decide +kernel)
set_option maxRecDepth 20000 in
theorem gX5_kind_X0_restart : GoodIn wsX5_kind (wsV RX5 68 RX0 yX0_restart wsX0_restart) := goodIn_app (goodIn_of _ (by decide +kernel)) ggX5_kind_X0_restart
set_option maxRecDepth 20000 in
theorem ggX5_kind_X0_forgetMark : GoodIn wsX5_kind wsX0_forgetMark := goodIn_r _ [38, 39, 45, 46, 47, 48, 49, 50, 51] (by decide +kernel) (by decide +kernel)
set_option maxRecDepth 20000 in
theorem gX5_kind_X0_forgetMark : GoodIn wsX5_kind (wsV RX5 71 RX0 yX0_forgetMark wsX0_forgetMark) := goodIn_app (goodIn_of _ (by decide +kernel)) ggX5_kind_X0_forgetMark
set_option maxRecDepth 20000 in
theorem ggX5_next_X5_requireState : GoodIn wsX5_next wsX5_requireState := goodIn_ca (goodIn_r _ [6, 7, 8] (by decide +kernel) (by decide +kernel)) (goodIn_sub (fun _ h => List.mem_cons_of_mem _ (List.mem_append_right _ h)) (by decide +kernel))
set_option maxRecDepth 20000 in
theorem gX5_next_X5_requireState : GoodIn wsX5_next (va_wsS RX5 53 yX5_requireState wsX5_requireState) := goodIn_app (goodIn_of _ (by decide +kernel)) ggX5_next_X5_requireState
set_option maxRecDepth 20000 in
theorem ggX5_next_X0_goOn : GoodIn wsX5_next wsX0_goOn := goodIn_r _ [13, 14, 15, 16, 17, 18, 19, 20, 21, 22, 23, 24, 25, 26, 27, 28, 29, 30, 31, 32, 33, 12, 34, 35, 36, 37, 38, 39, 40, 41, 42, 43, 44, 45, 46, 47, 48, 49, 50, 51, 52, 53, 54, 55, 56, 57, 58, 59, 60, 61, 62, 63, 64, 65, 66, 67, 68, 69, 70, 71, 72, 73, 74, 75, 76, 77, 78, 79, 80, 81, 82, 83, 89, 90, 91, 92, 93, 94, 95, 96, 97, 98, 99, 100, 101, 102, 103, 104, 105, 106, 107, 108, 109, 110, 111] (by decide +kernel) (by decide +kernel)
set_option maxRecDepth 20000 in
theorem gX5_next_X0_goOn : GoodIn wsX5_next (wsV RX5 87 RX0 yX0_goOn wsX0_goOn) := goodIn_app (goodIn_of _ (by decide +kernel)) ggX5_next_X0_goOn
set_option maxRecDepth 20000 in
theorem ggX5_pair_X5_isBelow : GoodIn wsX5_pair wsX5_isBelow := goodIn_r _ [8] (by decide +kernel) (by decide +kernel)
set_option maxRecDepth 20000 in
theorem gX5_pair_X5_isBelow : GoodIn wsX5_pair (va_wsS RX5 77 yX5_isBelow wsX5_isBelow) := goodIn_app (goodIn_of _ (by decide +kernel)) ggX5_pair_X5_isBelow
set_option maxRecDepth 20000 in
theorem ggX5_pair_X5_requireArgument : GoodIn wsX5_pair wsX5_requireArgument := goodIn_ca (goodIn_r _ [11, 12, 13] (by decide +kernel) (by decide +kernel)) (goodIn_sub (fun _ h => List.mem_cons_of_mem _ (List.mem_append_right _ h)) (by decide +kernel))
set_option maxRecDepth 20000 in
theorem gX5_pair_X5_requireArgument : GoodIn wsX5_pair (va_wsS RX5 81 yX5_requireArgument wsX5_requireArgument) := goodIn_app (goodIn_of _ (by decide +kernel)) ggX5_pair_X5_requireArgument
set_option maxRecDepth 20000 in
theorem ggX5_pair_X0_leftPlace : GoodIn wsX5_pair wsX0_leftPlace := goodIn_r _ [18, 19, 51, 52, 53, 54, 55, 56, 57, 58, 59, 60, 61, 62, 63, 64] (by decide +kernel) (by decide +kernel)
set_option maxRecDepth 20000 in
theorem gX5_pair_X0_leftPlace : GoodIn wsX5_pair (wsV RX5 90 RX0 yX0_leftPlace wsX0_leftPlace) := goodIn_app (goodIn_of _ (by decide +kernel)) ggX5_pair_X0_leftPlace
set_option maxRecDepth 20000 in
theorem ggX5_pair_X0_rightPlace : GoodIn wsX5_pair wsX0_rightPlace := goodIn_r _ [23, 19, 51, 52, 53, 54, 55, 56, 57, 58, 59, 60, 61, 62, 63, 64] (by decide +kernel) (by decide +kernel)
set_option maxRecDepth 20000 in
theorem gX5_pair_X0_rightPlace : GoodIn wsX5_pair (wsV RX5 94 RX0 yX0_rightPlace wsX0_rightPlace) := goodIn_app (goodIn_of _ (by decide +kernel)) ggX5_pair_X0_rightPlace
set_option maxRecDepth 20000 in
theorem ggX5_pair_X4_has : GoodIn wsX5_pair wsX4_has := goodIn_r _ [28, 29, 65, 66, 67, 68, 69, 70, 71, 72, 73] (by decide +kernel) (by decide +kernel)
set_option maxRecDepth 20000 in
theorem gX5_pair_X4_has : GoodIn wsX5_pair (wsV RX5 97 RX4 yX4_has wsX4_has) := goodIn_app (goodIn_of _ (by decide +kernel)) ggX5_pair_X4_has
set_option maxRecDepth 20000 in
theorem ggX5_pair_X4_keyAt : GoodIn wsX5_pair wsX4_keyAt := goodIn_r _ [33, 34, 35, 36, 25, 26, 27, 28, 29, 65, 66, 67, 68, 69, 70, 71, 72, 73] (by decide +kernel) (by decide +kernel)
set_option maxRecDepth 20000 in
theorem gX5_pair_X4_keyAt : GoodIn wsX5_pair (wsV RX5 101 RX4 yX4_keyAt wsX4_keyAt) := goodIn_app (goodIn_of _ (by decide +kernel)) ggX5_pair_X4_keyAt
set_option maxRecDepth 20000 in
theorem ggX5_pair_X4_valueAt : GoodIn wsX5_pair wsX4_valueAt := goodIn_r _ [40, 41, 35, 36, 25, 26, 27, 28, 29, 65, 66, 67, 68, 69, 70, 71, 72, 73] (by decide +kernel) (by decide +kernel)
set_option maxRecDepth 20000 in
theorem gX5_pair_X4_valueAt : GoodIn wsX5_pair (wsV RX5 104 RX4 yX4_valueAt wsX4_valueAt) := goodIn_app (goodIn_of _ (by decide +kernel)) ggX5_pair_X4_valueAt
set_option maxRecDepth 20000 in
theorem ggX5_pair_X4_numberAt : GoodIn wsX5_pair wsX4_numberAt := goodIn_r _ [45, 35, 36, 25, 26, 27, 28, 29, 65, 66, 67, 68, 69, 70, 71, 72, 73] (by decide +kernel) (by decide +kernel)
set_option maxRecDepth 20000 in
theorem gX5_pair_X4_numberAt : GoodIn wsX5_pair (wsV RX5 107 RX4 yX4_numberAt wsX4_numberAt) := goodIn_app (goodIn_of _ (by decide +kernel)) ggX5_pair_X4_numberAt
set_option maxRecDepth 20000 in
theorem ggX5_mark_X5_requireState : GoodIn wsX5_mark wsX5_requireState := goodIn_ca (goodIn_r _ [6, 7, 8] (by decide +kernel) (by decide +kernel)) (goodIn_sub (fun _ h => List.mem_cons_of_mem _ (List.mem_append_right _ h)) (by decide +kernel))
set_option maxRecDepth 20000 in
theorem gX5_mark_X5_requireState : GoodIn wsX5_mark (va_wsS RX5 53 yX5_requireState wsX5_requireState) := goodIn_app (goodIn_of _ (by decide +kernel)) ggX5_mark_X5_requireState
set_option maxRecDepth 20000 in
theorem ggX5_mark_X0_setMark : GoodIn wsX5_mark wsX0_setMark := goodIn_r _ [13, 14, 15, 16, 17, 18, 19, 20, 21, 22, 23, 24, 25, 26, 27, 28, 34, 35, 36, 37, 38, 39, 40, 41, 42, 43, 44, 45, 46, 47] (by decide +kernel) (by decide +kernel)
set_option maxRecDepth 20000 in
theorem gX5_mark_X0_setMark : GoodIn wsX5_mark (wsV RX5 110 RX0 yX0_setMark wsX0_setMark) := goodIn_app (goodIn_of _ (by decide +kernel)) ggX5_mark_X0_setMark
set_option maxRecDepth 20000 in
theorem ggX5_back_X0_hasMark : GoodIn wsX5_back wsX0_hasMark := goodIn_r _ [7, 8, 38, 39, 40, 41, 42, 43, 44] (by decide +kernel) (by decide +kernel)
set_option maxRecDepth 20000 in
theorem gX5_back_X0_hasMark : GoodIn wsX5_back (wsV RX5 113 RX0 yX0_hasMark wsX0_hasMark) := goodIn_app (goodIn_of _ (by decide +kernel)) ggX5_back_X0_hasMark
set_option maxRecDepth 20000 in
theorem ggX5_back_X5_requireState : GoodIn wsX5_back wsX5_requireState := goodIn_ca (goodIn_r _ [12, 13, 14] (by decide +kernel) (by decide +kernel)) (goodIn_sub (fun _ h => List.mem_cons_of_mem _ (List.mem_append_right _ h)) (by decide +kernel))
set_option maxRecDepth 20000 in
theorem gX5_back_X5_requireState : GoodIn wsX5_back (va_wsS RX5 53 yX5_requireState wsX5_requireState) := goodIn_app (goodIn_of _ (by decide +kernel)) ggX5_back_X5_requireState
set_option maxRecDepth 20000 in
theorem ggX5_back_X0_goToMark : GoodIn wsX5_back wsX0_goToMark := goodIn_r _ [18, 19, 20, 21, 22, 23, 24, 25, 26, 27, 28, 29, 30, 31, 32, 38, 39, 40, 41, 42, 43, 44, 45, 46, 47, 48, 49, 50, 51] (by decide +kernel) (by decide +kernel)
set_option maxRecDepth 20000 in
theorem gX5_back_X0_goToMark : GoodIn wsX5_back (wsV RX5 116 RX0 yX0_goToMark wsX0_goToMark) := goodIn_app (goodIn_of _ (by decide +kernel)) ggX5_back_X0_goToMark
set_option maxRecDepth 20000 in
theorem ggX5_seek_X5_requireState : GoodIn wsX5_seek wsX5_requireState := goodIn_ca (goodIn_r _ [6, 7, 8] (by decide +kernel) (by decide +kernel)) (goodIn_sub (fun _ h => List.mem_cons_of_mem _ (List.mem_append_right _ h)) (by decide +kernel))
set_option maxRecDepth 20000 in
theorem gX5_seek_X5_requireState : GoodIn wsX5_seek (va_wsS RX5 53 yX5_requireState wsX5_requireState) := goodIn_app (goodIn_of _ (by decide +kernel)) ggX5_seek_X5_requireState
set_option maxRecDepth 20000 in
theorem ggX5_seek_X0_goBefore : GoodIn wsX5_seek wsX0_goBefore := goodIn_r _ [13, 14, 15, 16, 17, 18, 19, 20, 12, 21, 22, 23, 24, 25, 26, 27, 28, 29, 30, 31, 32, 33, 34, 35, 36, 37, 38, 39, 40, 41, 42, 43, 5, 44, 45, 46, 47, 48, 49, 50, 51, 52, 53, 54, 55, 56, 57, 58, 59, 60, 61, 62, 63, 64, 65, 66, 72, 73, 74, 75, 76, 77, 78, 79, 80, 81, 82, 83, 84, 85, 86, 87, 88, 89, 90, 91, 92, 93, 94] (by decide +kernel) (by decide +kernel)
set_option maxRecDepth 20000 in
theorem gX5_seek_X0_goBefore : GoodIn wsX5_seek (wsV RX5 119 RX0 yX0_goBefore wsX0_goBefore) := goodIn_app (goodIn_of _ (by decide +kernel)) ggX5_seek_X0_goBefore
set_option maxRecDepth 20000 in
theorem ggX5_rewind_X5_requireState : GoodIn wsX5_rewind wsX5_requireState := goodIn_ca (goodIn_r _ [6, 7, 8] (by decide +kernel) (by decide +kernel)) (goodIn_sub (fun _ h => List.mem_cons_of_mem _ (List.mem_append_right _ h)) (by decide +kernel))
set_option maxRecDepth 20000 in
theorem gX5_rewind_X5_requireState : GoodIn wsX5_rewind (va_wsS RX5 53 yX5_requireState wsX5_requireState) := goodIn_app (goodIn_of _ (by decide +kernel)) ggX5_rewind_X5_requireState
set_option maxRecDepth 20000 in
theorem ggX5_rewind_X0_restart : GoodIn wsX5_rewind wsX0_restart := goodIn_r _ [13, 14, 15, 16, 17, 18, 19, 20, 21, 22, 23, 24, 25, 26, 27, 33, 34, 35, 36, 37, 38, 39, 40, 41, 42, 43, 44, 45, 46] (by decide +kernel) (by decide +kernel)
set_option maxRecDepth 20000 in
theorem gX5_rewind_X0_restart : GoodIn wsX5_rewind (wsV RX5 68 RX0 yX0_restart wsX0_restart) := goodIn_app (goodIn_of _ (by decide +kernel)) ggX5_rewind_X0_restart
set_option maxRecDepth 20000 in
theorem ggX5_count_X5_isBelow : GoodIn wsX5_count wsX5_isBelow := goodIn_r _ [7] (by decide +kernel) (by decide +kernel)
set_option maxRecDepth 20000 in
theorem gX5_count_X5_isBelow : GoodIn wsX5_count (va_wsS RX5 77 yX5_isBelow wsX5_isBelow) := goodIn_app (goodIn_of _ (by decide +kernel)) ggX5_count_X5_isBelow
set_option maxRecDepth 20000 in
theorem ggX5_count_X5_requireArgument : GoodIn wsX5_count wsX5_requireArgument := goodIn_ca (goodIn_r _ [10, 11, 12] (by decide +kernel) (by decide +kernel)) (goodIn_sub (fun _ h => List.mem_cons_of_mem _ (List.mem_append_left _ (List.mem_append_right _ h))) (by decide +kernel))
set_option maxRecDepth 20000 in
theorem gX5_count_X5_requireArgument : GoodIn wsX5_count (va_wsS RX5 81 yX5_requireArgument wsX5_requireArgument) := goodIn_app (goodIn_of _ (by decide +kernel)) ggX5_count_X5_requireArgument
set_option maxRecDepth 20000 in
theorem ggX5_count_X5_requireState : GoodIn wsX5_count wsX5_requireState := goodIn_ca (goodIn_r _ [15, 16, 17] (by decide +kernel) (by decide +kernel)) (goodIn_sub (fun _ h => List.mem_cons_of_mem _ (List.mem_append_right _ h)) (by decide +kernel))
set_option maxRecDepth 20000 in
theorem gX5_count_X5_requireState : GoodIn wsX5_count (va_wsS RX5 53 yX5_requireState wsX5_requireState) := goodIn_app (goodIn_of _ (by decide +kernel)) ggX5_count_X5_requireState
set_option maxRecDepth 20000 in
theorem ggX5_count_X4_size : GoodIn wsX5_count wsX4_size := goodIn_r _ [22, 23, 42, 43, 44, 45, 46, 47, 48, 49, 50] (by decide +kernel) (by decide +kernel)
set_option maxRecDepth 20000 in
theorem gX5_count_X4_size : GoodIn wsX5_count (wsV RX5 122 RX4 yX4_size wsX4_size) := goodIn_app (goodIn_of _ (by decide +kernel)) ggX5_count_X4_size
set_option maxRecDepth 20000 in
theorem ggX5_count_X5_pairsBefore : GoodIn wsX5_count wsX5_pairsBefore := goodIn_r _ [26, 27, 28, 29, 21, 30, 23, 31, 32, 33, 34, 35, 36, 42, 43, 44, 45, 46, 47, 48, 49, 50] (by decide +kernel) (by decide +kernel)
set_option maxRecDepth 20000 in
theorem gX5_count_X5_pairsBefore : GoodIn wsX5_count (va_wsS RX5 125 yX5_pairsBefore wsX5_pairsBefore) := goodIn_app (goodIn_of _ (by decide +kernel)) ggX5_count_X5_pairsBefore
set_option maxRecDepth 20000 in
theorem ggX5_rows_X5_requireState : GoodIn wsX5_rows wsX5_requireState := goodIn_ca (goodIn_r _ [5, 6, 7] (by decide +kernel) (by decide +kernel)) (goodIn_sub (fun _ h => List.mem_cons_of_mem _ (List.mem_append_right _ h)) (by decide +kernel))
set_option maxRecDepth 20000 in
theorem gX5_rows_X5_requireState : GoodIn wsX5_rows (va_wsS RX5 53 yX5_requireState wsX5_requireState) := goodIn_app (goodIn_of _ (by decide +kernel)) ggX5_rows_X5_requireState
set_option maxRecDepth 20000 in
theorem ggX5_rows_X5_tableOf : GoodIn wsX5_rows wsX5_tableOf := goodIn_r _ [11, 12, 13, 25, 26, 27, 28, 29] (by decide +kernel) (by decide +kernel)
set_option maxRecDepth 20000 in
theorem gX5_rows_X5_tableOf : GoodIn wsX5_rows (wsV RX5 45 RX5 yX5_tableOf wsX5_tableOf) := goodIn_app (goodIn_of _ (by decide +kernel)) ggX5_rows_X5_tableOf
set_option maxRecDepth 20000 in
theorem ggX5_rows_X4_size : GoodIn wsX5_rows wsX4_size := goodIn_r _ [18, 19, 30, 31, 32, 33, 34, 35, 36, 37, 38] (by decide +kernel) (by decide +kernel)
set_option maxRecDepth 20000 in
theorem gX5_rows_X4_size : GoodIn wsX5_rows (wsV RX5 122 RX4 yX4_size wsX4_size) := goodIn_app (goodIn_of _ (by decide +kernel)) ggX5_rows_X4_size
set_option maxRecDepth 20000 in
theorem ggX5_rows_X4_loneBefore : GoodIn wsX5_rows wsX4_loneBefore := goodIn_r _ [23, 19, 24, 30, 31, 32, 33, 34, 35, 36, 37, 38] (by decide +kernel) (by decide +kernel)
set_option maxRecDepth 20000 in
theorem gX5_rows_X4_loneBefore : GoodIn wsX5_rows (wsV RX5 129 RX4 yX4_loneBefore wsX4_loneBefore) := goodIn_app (goodIn_of _ (by decide +kernel)) ggX5_rows_X4_loneBefore
set_option maxRecDepth 20000 in
theorem ggX5_groups_X5_requireState : GoodIn wsX5_groups wsX5_requireState := goodIn_ca (goodIn_r _ [10, 11, 12] (by decide +kernel) (by decide +kernel)) (goodIn_sub (fun _ h => List.mem_cons_of_mem _ (List.mem_append_right _ h)) (by decide +kernel))
set_option maxRecDepth 20000 in
theorem gX5_groups_X5_requireState : GoodIn wsX5_groups (va_wsS RX5 53 yX5_requireState wsX5_requireState) := goodIn_app (goodIn_of _ (by decide +kernel)) ggX5_groups_X5_requireState
set_option maxRecDepth 20000 in
theorem ggX5_groups_X4_groupStarts : GoodIn wsX5_groups wsX4_groupStarts := goodIn_r _ [17, 18, 19, 20, 21, 16, 22, 23, 24, 25, 26, 27, 28, 29, 30, 31, 32, 33, 34, 35, 36, 37, 98, 99, 100, 101, 102, 103, 104, 105, 106] (by decide +kernel) (by decide +kernel)
set_option maxRecDepth 20000 in
theorem gX5_groups_X4_groupStarts : GoodIn wsX5_groups (wsV RX5 132 RX4 yX4_groupStarts wsX4_groupStarts) := goodIn_app (goodIn_of _ (by decide +kernel)) ggX5_groups_X4_groupStarts
set_option maxRecDepth 20000 in
theorem ggX5_groups_X1_room : GoodIn wsX5_groups wsX1_room := goodIn_r _ [42, 43, 107, 108, 109, 110, 111, 112] (by decide +kernel) (by decide +kernel)
set_option maxRecDepth 20000 in
theorem gX5_groups_X1_room : GoodIn wsX5_groups (wsV RX5 135 RX1 yX1_room wsX1_room) := goodIn_app (goodIn_of _ (by decide +kernel)) ggX5_groups_X1_room
set_option maxRecDepth 20000 in
theorem ggX5_groups_X1_tell : GoodIn wsX5_groups wsX1_tell := goodIn_r _ [47, 48, 43, 49, 50, 51, 52, 53, 54, 16, 55, 18, 56, 20, 21, 22, 23, 24, 25, 26, 27, 28, 29, 30, 31, 32, 33, 34, 35, 36, 37, 57, 58, 59, 60, 61, 62, 63, 64, 65, 66, 67, 68, 69, 70, 71, 72, 73, 74, 75, 76, 77, 78, 79, 80, 81, 82, 83, 84, 85, 86, 87, 88, 41, 89, 90, 91, 92, 107, 108, 109, 110, 111, 112, 98, 99, 100, 101, 102, 103, 104, 105, 106, 113, 114, 115, 116] (by decide +kernel) (by decide +kernel)
set_option maxRecDepth 20000 in
theorem gX5_groups_X1_tell : GoodIn wsX5_groups (wsV RX5 145 RX1 yX1_tell wsX1_tell) := goodIn_app (goodIn_of _ (by decide +kernel)) ggX5_groups_X1_tell
set_option maxRecDepth 20000 in
theorem ggX5_group_X1_isTold : GoodIn wsX5_group wsX1_isTold := goodIn_r _ [7, 8, 39, 40, 41, 42, 43, 44] (by decide +kernel) (by decide +kernel)
set_option maxRecDepth 20000 in
theorem gX5_group_X1_isTold : GoodIn wsX5_group (wsV RX5 149 RX1 yX1_isTold wsX1_isTold) := goodIn_app (goodIn_of _ (by decide +kernel)) ggX5_group_X1_isTold
set_option maxRecDepth 20000 in
theorem ggX5_group_X1_has : GoodIn wsX5_group wsX1_has := goodIn_r _ [12, 13, 39, 40, 41, 42, 43, 44] (by decide +kernel) (by decide +kernel)
set_option maxRecDepth 20000 in
theorem gX5_group_X1_has : GoodIn wsX5_group (wsV RX5 152 RX1 yX1_has wsX1_has) := goodIn_app (goodIn_of _ (by decide +kernel)) ggX5_group_X1_has
set_option maxRecDepth 20000 in
theorem ggX5_group_X5_isBelow : GoodIn wsX5_group wsX5_isBelow := goodIn_r _ [17] (by decide +kernel) (by decide +kernel)
set_option maxRecDepth 20000 in
theorem gX5_group_X5_isBelow : GoodIn wsX5_group (va_wsS RX5 77 yX5_isBelow wsX5_isBelow) := goodIn_app (goodIn_of _ (by decide +kernel)) ggX5_group_X5_isBelow
set_option maxRecDepth 20000 in
theorem ggX5_group_X5_requireArgument : GoodIn wsX5_group wsX5_requireArgument := goodIn_ca (goodIn_r _ [20, 21, 22] (by decide +kernel) (by decide +kernel)) (goodIn_sub (fun _ h => List.mem_cons_of_mem _ (List.mem_append_left _ (List.mem_append_right _ h))) (by decide +kernel))
set_option maxRecDepth 20000 in
theorem gX5_group_X5_requireArgument : GoodIn wsX5_group (va_wsS RX5 81 yX5_requireArgument wsX5_requireArgument) := goodIn_app (goodIn_of _ (by decide +kernel)) ggX5_group_X5_requireArgument
set_option maxRecDepth 20000 in
theorem ggX5_group_X5_requireState : GoodIn wsX5_group wsX5_requireState := goodIn_ca (goodIn_r _ [25, 26, 27] (by decide +kernel) (by decide +kernel)) (goodIn_sub (fun _ h => List.mem_cons_of_mem _ (List.mem_append_right _ h)) (by decide +kernel))
set_option maxRecDepth 20000 in
theorem gX5_group_X5_requireState : GoodIn wsX5_group (va_wsS RX5 53 yX5_requireState wsX5_requireState) := goodIn_app (goodIn_of _ (by decide +kernel)) ggX5_group_X5_requireState
set_option maxRecDepth 20000 in
theorem ggX5_group_X1_fact : GoodIn wsX5_group wsX1_fact := goodIn_r _ [31, 32, 33, 10, 11, 6, 12, 13, 15, 16, 17, 39, 40, 41, 42, 43, 44] (by decide +kernel) (by decide +kernel)
set_option maxRecDepth 20000 in
theorem gX5_group_X1_fact : GoodIn wsX5_group (wsV RX5 153 RX1 yX1_fact wsX1_fact) := goodIn_app (goodIn_of _ (by decide +kernel)) ggX5_group_X1_fact
set_option maxRecDepth 20000 in
theorem ggX5_sorted_X5_tableOf : GoodIn wsX5_sorted wsX5_tableOf := goodIn_r _ [6, 7, 8, 44, 45, 46, 47, 48] (by decide +kernel) (by decide +kernel)
set_option maxRecDepth 20000 in
theorem gX5_sorted_X5_tableOf : GoodIn wsX5_sorted (wsV RX5 45 RX5 yX5_tableOf wsX5_tableOf) := goodIn_app (goodIn_of _ (by decide +kernel)) ggX5_sorted_X5_tableOf
set_option maxRecDepth 20000 in
theorem ggX5_sorted_X4_has : GoodIn wsX5_sorted wsX4_has := goodIn_r _ [13, 14, 49, 50, 51, 52, 53, 54, 55, 56, 57] (by decide +kernel) (by decide +kernel)
set_option maxRecDepth 20000 in
theorem gX5_sorted_X4_has : GoodIn wsX5_sorted (wsV RX5 97 RX4 yX4_has wsX4_has) := goodIn_app (goodIn_of _ (by decide +kernel)) ggX5_sorted_X4_has
set_option maxRecDepth 20000 in
theorem ggX5_sorted_X5_isBelow : GoodIn wsX5_sorted wsX5_isBelow := goodIn_r _ [17] (by decide +kernel) (by decide +kernel)
set_option maxRecDepth 20000 in
theorem gX5_sorted_X5_isBelow : GoodIn wsX5_sorted (va_wsS RX5 77 yX5_isBelow wsX5_isBelow) := goodIn_app (goodIn_of _ (by decide +kernel)) ggX5_sorted_X5_isBelow
set_option maxRecDepth 20000 in
theorem ggX5_sorted_X5_requireArgument : GoodIn wsX5_sorted wsX5_requireArgument := goodIn_ca (goodIn_r _ [20, 21, 22] (by decide +kernel) (by decide +kernel)) (goodIn_sub (fun _ h => List.mem_cons_of_mem _ (List.mem_append_left _ (List.mem_append_right _ h))) (by decide +kernel))
set_option maxRecDepth 20000 in
theorem gX5_sorted_X5_requireArgument : GoodIn wsX5_sorted (va_wsS RX5 81 yX5_requireArgument wsX5_requireArgument) := goodIn_app (goodIn_of _ (by decide +kernel)) ggX5_sorted_X5_requireArgument
set_option maxRecDepth 20000 in
theorem ggX5_sorted_X5_requireState : GoodIn wsX5_sorted wsX5_requireState := goodIn_ca (goodIn_r _ [25, 26, 27] (by decide +kernel) (by decide +kernel)) (goodIn_sub (fun _ h => List.mem_cons_of_mem _ (List.mem_append_right _ h)) (by decide +kernel))
set_option maxRecDepth 20000 in
theorem gX5_sorted_X5_requireState : GoodIn wsX5_sorted (va_wsS RX5 53 yX5_requireState wsX5_requireState) := goodIn_app (goodIn_of _ (by decide +kernel)) ggX5_sorted_X5_requireState
set_option maxRecDepth 20000 in
theorem ggX5_sorted_X4_keyAt : GoodIn wsX5_sorted wsX4_keyAt := goodIn_r _ [31, 32, 33, 34, 10, 11, 12, 13, 14, 49, 50, 51, 52, 53, 54, 55, 56, 57] (by decide +kernel) (by decide +kernel)
set_option maxRecDepth 20000 in
theorem gX5_sorted_X4_keyAt : GoodIn wsX5_sorted (wsV RX5 101 RX4 yX4_keyAt wsX4_keyAt) := goodIn_app (goodIn_of _ (by decide +kernel)) ggX5_sorted_X4_keyAt
set_option maxRecDepth 20000 in
theorem ggX5_sorted_X4_valueAt : GoodIn wsX5_sorted wsX4_valueAt := goodIn_r _ [38, 39, 33, 34, 10, 11, 12, 13, 14, 49, 50, 51, 52, 53, 54, 55, 56, 57] (by decide +kernel) (by decide +kernel)
set_option maxRecDepth 20000 in
theorem gX5_sorted_X4_valueAt : GoodIn wsX5_sorted (wsV RX5 104 RX4 yX4_valueAt wsX4_valueAt) := goodIn_app (goodIn_of _ (by decide +kernel)) ggX5_sorted_X4_valueAt
set_option maxRecDepth 20000 in
theorem ggX5_sorted_X4_numberAt : GoodIn wsX5_sorted wsX4_numberAt := goodIn_r _ [43, 33, 34, 10, 11, 12, 13, 14, 49, 50, 51, 52, 53, 54, 55, 56, 57] (by decide +kernel) (by decide +kernel)
set_option maxRecDepth 20000 in
theorem gX5_sorted_X4_numberAt : GoodIn wsX5_sorted (wsV RX5 107 RX4 yX4_numberAt wsX4_numberAt) := goodIn_app (goodIn_of _ (by decide +kernel)) ggX5_sorted_X4_numberAt
set_option maxRecDepth 20000 in
theorem ggX5_about_X5_isBelow : GoodIn wsX5_about wsX5_isBelow := goodIn_r _ [8] (by decide +kernel) (by decide +kernel)
set_option maxRecDepth 20000 in
theorem gX5_about_X5_isBelow : GoodIn wsX5_about (va_wsS RX5 77 yX5_isBelow wsX5_isBelow) := goodIn_app (goodIn_of _ (by decide +kernel)) ggX5_about_X5_isBelow
set_option maxRecDepth 20000 in
theorem ggX5_about_X5_requireArgument : GoodIn wsX5_about wsX5_requireArgument := goodIn_ca (goodIn_r _ [11, 12, 13] (by decide +kernel) (by decide +kernel)) (goodIn_sub (fun _ h => List.mem_cons_of_mem _ (List.mem_append_right _ h)) (by decide +kernel))
set_option maxRecDepth 20000 in
theorem gX5_about_X5_requireArgument : GoodIn wsX5_about (va_wsS RX5 81 yX5_requireArgument wsX5_requireArgument) := goodIn_app (goodIn_of _ (by decide +kernel)) ggX5_about_X5_requireArgument
set_option maxRecDepth 20000 in
theorem ggX5_about_X0_cellsRead : GoodIn wsX5_about wsX0_cellsRead := goodIn_r _ [18, 19, 36, 37, 38, 39, 40, 41, 42] (by decide +kernel) (by decide +kernel)
set_option maxRecDepth 20000 in
theorem gX5_about_X0_cellsRead : GoodIn wsX5_about (wsV RX5 157 RX0 yX0_cellsRead wsX0_cellsRead) := goodIn_app (goodIn_of _ (by decide +kernel)) ggX5_about_X0_cellsRead
set_option maxRecDepth 20000 in
theorem ggX5_about_X4_size : GoodIn wsX5_about wsX4_size := goodIn_r _ [24, 25, 43, 44, 45, 46, 47, 48, 49, 50, 51] (by decide +kernel) (by decide +kernel)
set_option maxRecDepth 20000 in
theorem gX5_about_X4_size : GoodIn wsX5_about (wsV RX5 122 RX4 yX4_size wsX4_size) := goodIn_app (goodIn_of _ (by decide +kernel)) ggX5_about_X4_size
set_option maxRecDepth 20000 in
theorem ggX5_about_X0_kindInUse : GoodIn wsX5_about wsX0_kindInUse := goodIn_r _ [29, 30, 36, 37, 38, 39, 40, 41, 42] (by decide +kernel) (by decide +kernel)
set_option maxRecDepth 20000 in
theorem gX5_about_X0_kindInUse : GoodIn wsX5_about (wsV RX5 161 RX0 yX0_kindInUse wsX0_kindInUse) := goodIn_app (goodIn_of _ (by decide +kernel)) ggX5_about_X0_kindInUse
set_option maxRecDepth 20000 in
theorem ggX5_clear_X4_empty : GoodIn wsX5_clear wsX4_empty := goodIn_r _ [9, 10, 11, 23, 24, 25, 26, 27, 28, 29, 30, 31] (by decide +kernel) (by decide +kernel)
set_option maxRecDepth 20000 in
theorem gX5_clear_X4_empty : GoodIn wsX5_clear (wsV RX5 164 RX4 yX4_empty wsX4_empty) := goodIn_app (goodIn_of _ (by decide +kernel)) ggX5_clear_X4_empty
set_option maxRecDepth 20000 in
theorem ggX5_clear_X0_useKind : GoodIn wsX5_clear wsX0_useKind := goodIn_r _ [16, 17, 32, 33, 34, 35, 36, 37, 38] (by decide +kernel) (by decide +kernel)
set_option maxRecDepth 20000 in
theorem gX5_clear_X0_useKind : GoodIn wsX5_clear (wsV RX5 84 RX0 yX0_useKind wsX0_useKind) := goodIn_app (goodIn_of _ (by decide +kernel)) ggX5_clear_X0_useKind
set_option maxRecDepth 20000 in
theorem ggX5_pairsBefore_X4_partnersBefore : GoodIn wsX5_pairsBefore wsX4_partnersBefore := goodIn_r _ [5, 6, 7, 13, 14, 15, 16, 17, 18, 19, 20, 21] (by decide +kernel) (by decide +kernel)
set_option maxRecDepth 20000 in
theorem gX5_pairsBefore_X4_partnersBefore : GoodIn wsX5_pairsBefore (wsV RX5 185 RX4 yX4_partnersBefore wsX4_partnersBefore) := goodIn_app (goodIn_of _ (by decide +kernel)) ggX5_pairsBefore_X4_partnersBefore
set_option maxRecDepth 20000 in
theorem ggX5_pairsBefore_X4_loneBefore : GoodIn wsX5_pairsBefore wsX4_loneBefore := goodIn_r _ [11, 6, 12, 13, 14, 15, 16, 17, 18, 19, 20, 21] (by decide +kernel) (by decide +kernel)
set_option maxRecDepth 20000 in
theorem gX5_pairsBefore_X4_loneBefore : GoodIn wsX5_pairsBefore (wsV RX5 129 RX4 yX4_loneBefore wsX4_loneBefore) := goodIn_app (goodIn_of _ (by decide +kernel)) ggX5_pairsBefore_X4_loneBefore
set_option maxRecDepth 20000 in
theorem ggX6_init_X6_between : GoodIn wsX6_init wsX6_between := goodIn_r _ [15] (by decide +kernel) (by decide +kernel)
set_option maxRecDepth 20000 in
theorem gX6_init_X6_between : GoodIn wsX6_init (va_wsS RX6 28 yX6_between wsX6_between) := goodIn_app (goodIn_of _ (by decide +kernel)) ggX6_init_X6_between
set_option maxRecDepth 20000 in
theorem ggX6_add_X6_refuses : GoodIn wsX6_add wsX6_refuses := goodIn_r _ [11, 12, 13, 14, 15, 16, 17, 18, 19, 20, 21, 22, 23, 24, 25, 26, 27] (by decide +kernel) (by decide +kernel)
set_option maxRecDepth 20000 in
theorem gX6_add_X6_refuses : GoodIn wsX6_add (wsV RX6 39 RX6 yX6_refuses wsX6_refuses) := goodIn_app (goodIn_of _ (by decide +kernel)) ggX6_add_X6_refuses
set_option maxRecDepth 20000 in
theorem ggX6_prepare_X6_begins : GoodIn wsX6_prepare wsX6_begins := goodIn_r _ [13, 14, 15, 16, 17, 18, 19, 20, 21, 22, 23, 24, 25, 26, 27, 28, 29] (by decide +kernel) (by decide +kernel)
set_option maxRecDepth 20000 in
theorem gX6_prepare_X6_begins : GoodIn wsX6_prepare (wsV RX6 50 RX6 yX6_begins wsX6_begins) := goodIn_app (goodIn_of _ (by decide +kernel)) ggX6_prepare_X6_begins
set_option maxRecDepth 20000 in
theorem ggX6_kind_X6_refuses : GoodIn wsX6_kind wsX6_refuses := goodIn_r _ [8, 9, 15, 16, 17, 18, 19, 20, 21, 22, 23, 24, 25, 26, 27, 28, 29] (by decide +kernel) (by decide +kernel)
set_option maxRecDepth 20000 in
theorem gX6_kind_X6_refuses : GoodIn wsX6_kind (wsV RX6 39 RX6 yX6_refuses wsX6_refuses) := goodIn_app (goodIn_of _ (by decide +kernel)) ggX6_kind_X6_refuses
set_option maxRecDepth 20000 in
theorem ggX6_kind_X6_begins : GoodIn wsX6_kind wsX6_begins := goodIn_r _ [13, 14, 15, 16, 17, 18, 19, 20, 21, 22, 23, 24, 25, 26, 27, 28, 29] (by decide +kernel) (by decide +kernel)
set_option maxRecDepth 20000 in
theorem gX6_kind_X6_begins : GoodIn wsX6_kind (wsV RX6 50 RX6 yX6_begins wsX6_begins) := goodIn_app (goodIn_of _ (by decide +kernel)) ggX6_kind_X6_begins
set_option maxRecDepth 20000 in
theorem ggX6_goes_X6_key : GoodIn wsX6_goes wsX6_key := goodIn_r _ [8, 9, 10, 11, 12, 13, 14, 15, 16, 17, 18, 19, 20, 21, 22, 23, 24, 25] (by decide +kernel) (by decide +kernel)
set_option maxRecDepth 20000 in
theorem gX6_goes_X6_key : GoodIn wsX6_goes (wsV RX6 63 RX6 yX6_key wsX6_key) := goodIn_app (goodIn_of _ (by decide +kernel)) ggX6_goes_X6_key
set_option maxRecDepth 20000 in
theorem ggX6_next_X6_refuses : GoodIn wsX6_next wsX6_refuses := goodIn_r _ [11, 12, 30, 31, 32, 33, 34, 35, 36, 37, 38, 39, 40, 41, 42, 43, 44] (by decide +kernel) (by decide +kernel)
set_option maxRecDepth 20000 in
theorem gX6_next_X6_refuses : GoodIn wsX6_next (wsV RX6 39 RX6 yX6_refuses wsX6_refuses) := goodIn_app (goodIn_of _ (by decide +kernel)) ggX6_next_X6_refuses
set_option maxRecDepth 20000 in
theorem ggX6_next_X6_steps : GoodIn wsX6_next wsX6_steps := goodIn_r _ [16, 2, 30, 31, 32, 33, 34, 35, 36, 37, 38, 39, 40, 41, 42, 43, 44] (by decide +kernel) (by decide +kernel)
set_option maxRecDepth 20000 in
theorem gX6_next_X6_steps : GoodIn wsX6_next (wsV RX6 67 RX6 yX6_steps wsX6_steps) := goodIn_app (goodIn_of _ (by decide +kernel)) ggX6_next_X6_steps
set_option maxRecDepth 20000 in
theorem ggX6_next_X6_key : GoodIn wsX6_next wsX6_key := goodIn_r _ [20, 21, 22, 30, 31, 32, 33, 34, 35, 36, 37, 38, 39, 40, 41, 42, 43, 44] (by decide +kernel) (by decide +kernel)
set_option maxRecDepth 20000 in
theorem gX6_next_X6_key : GoodIn wsX6_next (wsV RX6 63 RX6 yX6_key wsX6_key) := goodIn_app (goodIn_of _ (by decide +kernel)) ggX6_next_X6_key
set_option maxRecDepth 20000 in
theorem ggX6_next_X6_goes : GoodIn wsX6_next wsX6_goes := goodIn_r _ [26, 2, 4, 3, 17, 18, 19, 10, 20, 21, 22, 30, 31, 32, 33, 34, 35, 36, 37, 38, 39, 40, 41, 42, 43, 44] (by decide +kernel) (by decide +kernel)
set_option maxRecDepth 20000 in
theorem gX6_next_X6_goes : GoodIn wsX6_next (wsV RX6 73 RX6 yX6_goes wsX6_goes) := goodIn_app (goodIn_of _ (by decide +kernel)) ggX6_next_X6_goes
set_option maxRecDepth 20000 in
theorem ggX6_next_X6_tells : GoodIn wsX6_next wsX6_tells := goodIn_r _ [29] (by decide +kernel) (by decide +kernel)
set_option maxRecDepth 20000 in
theorem gX6_next_X6_tells : GoodIn wsX6_next (va_wsS RX6 77 yX6_tells wsX6_tells) := goodIn_app (goodIn_of _ (by decide +kernel)) ggX6_next_X6_tells
set_option maxRecDepth 20000 in
theorem ggX6_pair_X6_refuses : GoodIn wsX6_pair wsX6_refuses := goodIn_r _ [8, 9, 20, 21, 22, 23, 24, 25, 26, 27, 28, 29, 30, 31, 32, 33, 34] (by decide +kernel) (by decide +kernel)
set_option maxRecDepth 20000 in
theorem gX6_pair_X6_refuses : GoodIn wsX6_pair (wsV RX6 39 RX6 yX6_refuses wsX6_refuses) := goodIn_app (goodIn_of _ (by decide +kernel)) ggX6_pair_X6_refuses
set_option maxRecDepth 20000 in
theorem ggX6_pair_X6_key : GoodIn wsX6_pair wsX6_key := goodIn_r _ [13, 14, 3, 20, 21, 22, 23, 24, 25, 26, 27, 28, 29, 30, 31, 32, 33, 34] (by decide +kernel) (by decide +kernel)
set_option maxRecDepth 20000 in
theorem gX6_pair_X6_key : GoodIn wsX6_pair (wsV RX6 63 RX6 yX6_key wsX6_key) := goodIn_app (goodIn_of _ (by decide +kernel)) ggX6_pair_X6_key
set_option maxRecDepth 20000 in
theorem ggX6_pair_X6_value : GoodIn wsX6_pair wsX6_value := goodIn_r _ [18, 19, 3, 20, 21, 22, 23, 24, 25, 26, 27, 28, 29, 30, 31, 32, 33, 34] (by decide +kernel) (by decide +kernel)
set_option maxRecDepth 20000 in
theorem gX6_pair_X6_value : GoodIn wsX6_pair (wsV RX6 81 RX6 yX6_value wsX6_value) := goodIn_app (goodIn_of _ (by decide +kernel)) ggX6_pair_X6_value
set_option maxRecDepth 20000 in
theorem ggX6_mark_X6_refuses : GoodIn wsX6_mark wsX6_refuses := goodIn_r _ [8, 9, 10, 11, 12, 13, 14, 15, 16, 17, 18, 19, 20, 21, 22, 23, 24] (by decide +kernel) (by decide +kernel)
set_option maxRecDepth 20000 in
theorem gX6_mark_X6_refuses : GoodIn wsX6_mark (wsV RX6 39 RX6 yX6_refuses wsX6_refuses) := goodIn_app (goodIn_of _ (by decide +kernel)) ggX6_mark_X6_refuses
set_option maxRecDepth 20000 in
theorem ggX6_back_X6_refuses : GoodIn wsX6_back wsX6_refuses := goodIn_r _ [8, 9, 10, 11, 12, 13, 14, 15, 16, 17, 18, 19, 20, 21, 22, 23, 24] (by decide +kernel) (by decide +kernel)
set_option maxRecDepth 20000 in
theorem gX6_back_X6_refuses : GoodIn wsX6_back (wsV RX6 39 RX6 yX6_refuses wsX6_refuses) := goodIn_app (goodIn_of _ (by decide +kernel)) ggX6_back_X6_refuses
set_option maxRecDepth 20000 in
theorem ggX6_pairs_X6_rowsOf : GoodIn wsX6_pairs wsX6_rowsOf := goodIn_r _ [7, 1, 2, 11, 12, 13, 14, 15, 16, 17, 18, 19, 20, 21, 22, 23, 24, 25] (by decide +kernel) (by decide +kernel)
set_option maxRecDepth 20000 in
theorem gX6_pairs_X6_rowsOf : GoodIn wsX6_pairs (wsV RX6 84 RX6 yX6_rowsOf wsX6_rowsOf) := goodIn_app (goodIn_of _ (by decide +kernel)) ggX6_pairs_X6_rowsOf
set_option maxRecDepth 20000 in
theorem ggX6_pairs_X6_tells : GoodIn wsX6_pairs wsX6_tells := goodIn_r _ [10] (by decide +kernel) (by decide +kernel)
set_option maxRecDepth 20000 in
theorem gX6_pairs_X6_tells : GoodIn wsX6_pairs (va_wsS RX6 77 yX6_tells wsX6_tells) := goodIn_app (goodIn_of _ (by decide +kernel)) ggX6_pairs_X6_tells
set_option maxRecDepth 20000 in
theorem ggX6_seek_X6_refuses : GoodIn wsX6_seek wsX6_refuses := goodIn_r _ [10, 11, 33, 34, 35, 36, 37, 38, 39, 40, 41, 42, 43, 44, 45, 46, 47] (by decide +kernel) (by decide +kernel)
set_option maxRecDepth 20000 in
theorem gX6_seek_X6_refuses : GoodIn wsX6_seek (wsV RX6 39 RX6 yX6_refuses wsX6_refuses) := goodIn_app (goodIn_of _ (by decide +kernel)) ggX6_seek_X6_refuses
set_option maxRecDepth 20000 in
theorem ggX6_seek_X6_begins : GoodIn wsX6_seek wsX6_begins := goodIn_r _ [15, 4, 33, 34, 35, 36, 37, 38, 39, 40, 41, 42, 43, 44, 45, 46, 47] (by decide +kernel) (by decide +kernel)
set_option maxRecDepth 20000 in
theorem gX6_seek_X6_begins : GoodIn wsX6_seek (wsV RX6 50 RX6 yX6_begins wsX6_begins) := goodIn_app (goodIn_of _ (by decide +kernel)) ggX6_seek_X6_begins
set_option maxRecDepth 20000 in
theorem ggX6_seek_X6_key : GoodIn wsX6_seek wsX6_key := goodIn_r _ [19, 20, 21, 33, 34, 35, 36, 37, 38, 39, 40, 41, 42, 43, 44, 45, 46, 47] (by decide +kernel) (by decide +kernel)
set_option maxRecDepth 20000 in
theorem gX6_seek_X6_key : GoodIn wsX6_seek (wsV RX6 63 RX6 yX6_key wsX6_key) := goodIn_app (goodIn_of _ (by decide +kernel)) ggX6_seek_X6_key
set_option maxRecDepth 20000 in
theorem ggX6_seek_X6_pairs : GoodIn wsX6_seek wsX6_pairs := goodIn_r _ [25, 2, 20, 26, 27, 28, 9, 29, 30, 31, 32, 33, 34, 35, 36, 37, 38, 39, 40, 41, 42, 43, 44, 45, 46, 47] (by decide +kernel) (by decide +kernel)
set_option maxRecDepth 20000 in
theorem gX6_seek_X6_pairs : GoodIn wsX6_seek (wsV RX6 87 RX6 yX6_pairs wsX6_pairs) := goodIn_app (goodIn_of _ (by decide +kernel)) ggX6_seek_X6_pairs
set_option maxRecDepth 20000 in
theorem ggX6_rewind_X6_refuses : GoodIn wsX6_rewind wsX6_refuses := goodIn_r _ [7, 8, 14, 15, 16, 17, 18, 19, 20, 21, 22, 23, 24, 25, 26, 27, 28] (by decide +kernel) (by decide +kernel)
set_option maxRecDepth 20000 in
theorem gX6_rewind_X6_refuses : GoodIn wsX6_rewind (wsV RX6 39 RX6 yX6_refuses wsX6_refuses) := goodIn_app (goodIn_of _ (by decide +kernel)) ggX6_rewind_X6_refuses
set_option maxRecDepth 20000 in
theorem ggX6_rewind_X6_begins : GoodIn wsX6_rewind wsX6_begins := goodIn_r _ [12, 13, 14, 15, 16, 17, 18, 19, 20, 21, 22, 23, 24, 25, 26, 27, 28] (by decide +kernel) (by decide +kernel)
set_option maxRecDepth 20000 in
theorem gX6_rewind_X6_begins : GoodIn wsX6_rewind (wsV RX6 50 RX6 yX6_begins wsX6_begins) := goodIn_app (goodIn_of _ (by decide +kernel)) ggX6_rewind_X6_begins
set_option maxRecDepth 20000 in
theorem ggX6_count_X6_refuses : GoodIn wsX6_count wsX6_refuses := goodIn_r _ [7, 8, 22, 23, 24, 25, 26, 27, 28, 29, 30, 31, 32, 33, 34, 35, 36] (by decide +kernel) (by decide +kernel)
set_option maxRecDepth 20000 in
theorem gX6_count_X6_refuses : GoodIn wsX6_count (wsV RX6 39 RX6 yX6_refuses wsX6_refuses) := goodIn_app (goodIn_of _ (by decide +kernel)) ggX6_count_X6_refuses
set_option maxRecDepth 20000 in
theorem ggX6_count_X6_pairs : GoodIn wsX6_count wsX6_pairs := goodIn_r _ [12, 13, 14, 15, 16, 17, 6, 18, 19, 20, 21, 22, 23, 24, 25, 26, 27, 28, 29, 30, 31, 32, 33, 34, 35, 36] (by decide +kernel) (by decide +kernel)
set_option maxRecDepth 20000 in
theorem gX6_count_X6_pairs : GoodIn wsX6_count (wsV RX6 87 RX6 yX6_pairs wsX6_pairs) := goodIn_app (goodIn_of _ (by decide +kernel)) ggX6_count_X6_pairs
set_option maxRecDepth 20000 in
theorem ggX6_rows_X6_refuses : GoodIn wsX6_rows wsX6_refuses := goodIn_r _ [8, 9, 14, 15, 16, 17, 18, 19, 20, 21, 22, 23, 24, 25, 26, 27, 28] (by decide +kernel) (by decide +kernel)
set_option maxRecDepth 20000 in
theorem gX6_rows_X6_refuses : GoodIn wsX6_rows (wsV RX6 39 RX6 yX6_refuses wsX6_refuses) := goodIn_app (goodIn_of _ (by decide +kernel)) ggX6_rows_X6_refuses
set_option maxRecDepth 20000 in
theorem ggX6_rows_X6_rowsOf : GoodIn wsX6_rows wsX6_rowsOf := goodIn_r _ [13, 2, 3, 14, 15, 16, 17, 18, 19, 20, 21, 22, 23, 24, 25, 26, 27, 28] (by decide +kernel) (by decide +kernel)
set_option maxRecDepth 20000 in
theorem gX6_rows_X6_rowsOf : GoodIn wsX6_rows (wsV RX6 84 RX6 yX6_rowsOf wsX6_rowsOf) := goodIn_app (goodIn_of _ (by decide +kernel)) ggX6_rows_X6_rowsOf
set_option maxRecDepth 20000 in
theorem ggX6_groupAt_X6_key : GoodIn wsX6_groupAt wsX6_key := goodIn_r _ [6, 7, 8, 13, 14, 15, 16, 17, 18, 19, 20, 21, 22, 23, 24, 25, 26, 27] (by decide +kernel) (by decide +kernel)
set_option maxRecDepth 20000 in
theorem gX6_groupAt_X6_key : GoodIn wsX6_groupAt (wsV RX6 63 RX6 yX6_key wsX6_key) := goodIn_app (goodIn_of _ (by decide +kernel)) ggX6_groupAt_X6_key
set_option maxRecDepth 20000 in
theorem ggX6_groupAt_X6_rowsOf : GoodIn wsX6_groupAt wsX6_rowsOf := goodIn_r _ [12, 1, 7, 13, 14, 15, 16, 17, 18, 19, 20, 21, 22, 23, 24, 25, 26, 27] (by decide +kernel) (by decide +kernel)
set_option maxRecDepth 20000 in
theorem gX6_groupAt_X6_rowsOf : GoodIn wsX6_groupAt (wsV RX6 84 RX6 yX6_rowsOf wsX6_rowsOf) := goodIn_app (goodIn_of _ (by decide +kernel)) ggX6_groupAt_X6_rowsOf
set_option maxRecDepth 20000 in
theorem ggX6_groups_X6_refuses : GoodIn wsX6_groups wsX6_refuses := goodIn_r _ [8, 9, 25, 26, 27, 28, 29, 30, 31, 32, 33, 34, 35, 36, 37, 38, 39] (by decide +kernel) (by decide +kernel)
set_option maxRecDepth 20000 in
theorem gX6_groups_X6_refuses : GoodIn wsX6_groups (wsV RX6 39 RX6 yX6_refuses wsX6_refuses) := goodIn_app (goodIn_of _ (by decide +kernel)) ggX6_groups_X6_refuses
set_option maxRecDepth 20000 in
theorem ggX6_groups_X6_groupAt : GoodIn wsX6_groups wsX6_groupAt := goodIn_r _ [13, 14, 15, 16, 17, 7, 18, 19, 20, 21, 22, 23, 24, 25, 26, 27, 28, 29, 30, 31, 32, 33, 34, 35, 36, 37, 38, 39] (by decide +kernel) (by decide +kernel)
set_option maxRecDepth 20000 in
theorem gX6_groups_X6_groupAt : GoodIn wsX6_groups (wsV RX6 93 RX6 yX6_groupAt wsX6_groupAt) := goodIn_app (goodIn_of _ (by decide +kernel)) ggX6_groups_X6_groupAt
set_option maxRecDepth 20000 in
theorem ggX6_group_X6_groupAt : GoodIn wsX6_group wsX6_groupAt := goodIn_r _ [14, 7, 15, 16, 17, 13, 18, 8, 19, 20, 21, 22, 23, 29, 30, 31, 32, 33, 34, 35, 36, 37, 38, 39, 40, 41, 42, 43] (by decide +kernel) (by decide +kernel)
set_option maxRecDepth 20000 in
theorem gX6_group_X6_groupAt : GoodIn wsX6_group (wsV RX6 93 RX6 yX6_groupAt wsX6_groupAt) := goodIn_app (goodIn_of _ (by decide +kernel)) ggX6_group_X6_groupAt
set_option maxRecDepth 20000 in
theorem ggX6_group_X6_refuses : GoodIn wsX6_group wsX6_refuses := goodIn_r _ [27, 28, 29, 30, 31, 32, 33, 34, 35, 36, 37, 38, 39, 40, 41, 42, 43] (by decide +kernel) (by decide +kernel)
set_option maxRecDepth 20000 in
theorem gX6_group_X6_refuses : GoodIn wsX6_group (wsV RX6 39 RX6 yX6_refuses wsX6_refuses) := goodIn_app (goodIn_of _ (by decide +kernel)) ggX6_group_X6_refuses
set_option maxRecDepth 20000 in
theorem ggX6_group_X6_key : GoodIn wsX6_group wsX6_key := goodIn_r _ [18, 8, 19, 29, 30, 31, 32, 33, 34, 35, 36, 37, 38, 39, 40, 41, 42, 43] (by decide +kernel) (by decide +kernel)
set_option maxRecDepth 20000 in
theorem gX6_group_X6_key : GoodIn wsX6_group (wsV RX6 63 RX6 yX6_key wsX6_key) := goodIn_app (goodIn_of _ (by decide +kernel)) ggX6_group_X6_key
set_option maxRecDepth 20000 in
theorem ggX6_sorted_X6_refuses : GoodIn wsX6_sorted wsX6_refuses := goodIn_r _ [8, 9, 20, 21, 22, 23, 24, 25, 26, 27, 28, 29, 30, 31, 32, 33, 34] (by decide +kernel) (by decide +kernel)
set_option maxRecDepth 20000 in
theorem gX6_sorted_X6_refuses : GoodIn wsX6_sorted (wsV RX6 39 RX6 yX6_refuses wsX6_refuses) := goodIn_app (goodIn_of _ (by decide +kernel)) ggX6_sorted_X6_refuses
set_option maxRecDepth 20000 in
theorem ggX6_sorted_X6_key : GoodIn wsX6_sorted wsX6_key := goodIn_r _ [13, 14, 3, 20, 21, 22, 23, 24, 25, 26, 27, 28, 29, 30, 31, 32, 33, 34] (by decide +kernel) (by decide +kernel)
set_option maxRecDepth 20000 in
theorem gX6_sorted_X6_key : GoodIn wsX6_sorted (wsV RX6 63 RX6 yX6_key wsX6_key) := goodIn_app (goodIn_of _ (by decide +kernel)) ggX6_sorted_X6_key
set_option maxRecDepth 20000 in
theorem ggX6_sorted_X6_value : GoodIn wsX6_sorted wsX6_value := goodIn_r _ [18, 19, 3, 20, 21, 22, 23, 24, 25, 26, 27, 28, 29, 30, 31, 32, 33, 34] (by decide +kernel) (by decide +kernel)
set_option maxRecDepth 20000 in
theorem gX6_sorted_X6_value : GoodIn wsX6_sorted (wsV RX6 81 RX6 yX6_value wsX6_value) := goodIn_app (goodIn_of _ (by decide +kernel)) ggX6_sorted_X6_value
set_option maxRecDepth 20000 in
theorem ggX6_about_X6_refuses : GoodIn wsX6_about wsX6_refuses := goodIn_r _ [9, 10, 11, 12, 13, 14, 15, 16, 17, 18, 19, 20, 21, 22, 23, 24, 25] (by decide +kernel) (by decide +kernel)
set_option maxRecDepth 20000 in
theorem gX6_about_X6_refuses : GoodIn wsX6_about (wsV RX6 39 RX6 yX6_refuses wsX6_refuses) := goodIn_app (goodIn_of _ (by decide +kernel)) ggX6_about_X6_refuses
set_option maxRecDepth 20000 in
theorem ggX6_clear_X6_begins : GoodIn wsX6_clear wsX6_begins := goodIn_r _ [12, 13, 14, 15, 16, 17, 18, 19, 20, 21, 22, 23, 24, 25, 26, 27, 28] (by decide +kernel) (by decide +kernel)
set_option maxRecDepth 20000 in
theorem gX6_clear_X6_begins : GoodIn wsX6_clear (wsV RX6 50 RX6 yX6_begins wsX6_begins) := goodIn_app (goodIn_of _ (by decide +kernel)) ggX6_clear_X6_begins
set_option maxRecDepth 20000 in
theorem ggL_add_X5_add : GoodIn wsL_add wsX5_add := goodIn_ca (goodIn_r _ [6, 7, 8, 9, 10, 5, 11, 12, 13, 14, 15, 16, 17, 18, 19, 20, 21, 22, 23, 24, 25, 26, 27, 28, 29, 30, 31, 32, 33, 34, 35, 36, 37, 38, 39, 40, 41, 42, 43, 44, 45, 46] (by decide +kernel) (by decide +kernel)) (goodIn_sub (fun _ h => List.mem_cons_of_mem _ (List.mem_append_right _ h)) (by decide +kernel))
set_option maxRecDepth 20000 in
theorem gL_add_X5_add : GoodIn wsL_add (wsV RL 7 RX5 yX5_add wsX5_add) := goodIn_app (goodIn_of _ (by decide +kernel)) ggL_add_X5_add
set_option maxRecDepth 20000 in
theorem ggL_kind_X5_kind : GoodIn wsL_kind wsX5_kind := goodIn_ca (goodIn_r _ [6, 7, 8, 9, 5, 10, 11, 12, 13, 14, 15, 16, 17, 18, 19, 20, 21, 22, 23, 24, 25, 26, 27, 28, 29, 30, 31, 32, 33, 34, 35, 36, 37, 38, 39, 40, 41, 42, 43, 44, 45, 46, 47, 48, 49, 50, 51, 52, 53, 54, 55, 56, 57, 58, 59, 60, 61, 62, 63] (by decide +kernel) (by decide +kernel)) (goodIn_sub (fun _ h => List.mem_cons_of_mem _ (List.mem_append_right _ h)) (by decide +kernel))
set_option maxRecDepth 20000 in
theorem gL_kind_X5_kind : GoodIn wsL_kind (wsV RL 15 RX5 yX5_kind wsX5_kind) := goodIn_app (goodIn_of _ (by decide +kernel)) ggL_kind_X5_kind
set_option maxRecDepth 20000 in
theorem ggL_next_X5_next : GoodIn wsL_next wsX5_next := goodIn_ca (goodIn_r _ [6, 7, 8, 9, 10, 5, 11, 12, 13, 14, 15, 16, 17, 18, 19, 20, 21, 22, 23, 24, 25, 26, 27, 28, 29, 30, 31, 32, 33, 34, 35, 36, 37, 38, 39, 40, 41, 42, 43, 44, 45, 46, 47, 48, 49, 50, 51, 52, 53, 54, 55, 56, 57, 58, 59, 60, 61, 62, 63, 64, 65, 66, 67, 68, 69, 70, 71, 72, 73, 74, 75, 76, 77, 78, 79, 80, 81, 82, 83, 84, 85, 86, 87, 88, 89, 90, 91, 92, 93, 94, 95, 96, 97, 98, 99, 100, 101, 102, 103, 104, 105, 106, 107, 108, 109, 110, 111, 112, 113, 114, 115, 116] (by decide +kernel) (by decide +kernel)) (goodIn_sub (fun _ h => List.mem_cons_of_mem _ (List.mem_append_right _ h)) (by decide +kernel))
set_option maxRecDepth 20000 in
theorem gL_next_X5_next : GoodIn wsL_next (wsV RL 21 RX5 yX5_next wsX5_next) := goodIn_app (goodIn_of _ (by decide +kernel)) ggL_next_X5_next
set_option maxRecDepth 20000 in
theorem ggL_pair_X5_pair : GoodIn wsL_pair wsX5_pair := goodIn_ca (goodIn_r _ [6, 7, 8, 9, 10, 11, 12, 5, 13, 14, 15, 16, 17, 18, 19, 20, 21, 22, 23, 24, 25, 26, 27, 28, 29, 30, 31, 32, 33, 34, 35, 36, 37, 38, 39, 40, 41, 42, 43, 44, 45, 46, 47, 48, 49, 50, 51, 52, 53, 54, 55, 56, 57, 58, 59, 60, 61, 62, 63, 64, 65, 66, 67, 68, 69, 70, 71, 72, 73, 74, 75, 76, 77, 78] (by decide +kernel) (by decide +kernel)) (goodIn_sub (fun _ h => List.mem_cons_of_mem _ (List.mem_append_right _ h)) (by decide +kernel))
set_option maxRecDepth 20000 in
theorem gL_pair_X5_pair : GoodIn wsL_pair (wsV RL 25 RX5 yX5_pair wsX5_pair) := goodIn_app (goodIn_of _ (by decide +kernel)) ggL_pair_X5_pair
set_option maxRecDepth 20000 in
theorem ggL_mark_X5_mark : GoodIn wsL_mark wsX5_mark := goodIn_ca (goodIn_r _ [6, 7, 8, 9, 10, 5, 11, 12, 13, 14, 15, 16, 17, 18, 19, 20, 21, 22, 23, 24, 25, 26, 27, 28, 29, 30, 31, 32, 33, 34, 35, 36, 37, 38, 39, 40, 41, 42, 43, 44, 45, 46, 47, 48, 49, 50, 51, 52] (by decide +kernel) (by decide +kernel)) (goodIn_sub (fun _ h => List.mem_cons_of_mem _ (List.mem_append_right _ h)) (by decide +kernel))
set_option maxRecDepth 20000 in
theorem gL_mark_X5_mark : GoodIn wsL_mark (wsV RL 29 RX5 yX5_mark wsX5_mark) := goodIn_app (goodIn_of _ (by decide +kernel)) ggL_mark_X5_mark
set_option maxRecDepth 20000 in
theorem ggL_back_X5_back : GoodIn wsL_back wsX5_back := goodIn_ca (goodIn_r _ [6, 7, 8, 9, 10, 11, 12, 13, 14, 15, 16, 5, 17, 18, 19, 20, 21, 22, 23, 24, 25, 26, 27, 28, 29, 30, 31, 32, 33, 34, 35, 36, 37, 38, 39, 40, 41, 42, 43, 44, 45, 46, 47, 48, 49, 50, 51, 52, 53, 54, 55, 56] (by decide +kernel) (by decide +kernel)) (goodIn_sub (fun _ h => List.mem_cons_of_mem _ (List.mem_append_right _ h)) (by decide +kernel))
set_option maxRecDepth 20000 in
theorem gL_back_X5_back : GoodIn wsL_back (wsV RL 33 RX5 yX5_back wsX5_back) := goodIn_app (goodIn_of _ (by decide +kernel)) ggL_back_X5_back
set_option maxRecDepth 20000 in
theorem ggL_seek_X5_seek : GoodIn wsL_seek wsX5_seek := goodIn_ca (goodIn_r _ [6, 7, 8, 9, 10, 5, 11, 12, 13, 14, 15, 16, 17, 18, 19, 20, 21, 22, 23, 24, 25, 26, 27, 28, 29, 30, 31, 32, 33, 34, 35, 36, 37, 38, 39, 40, 41, 42, 43, 44, 45, 46, 47, 48, 49, 50, 51, 52, 53, 54, 55, 56, 57, 58, 59, 60, 61, 62, 63, 64, 65, 66, 67, 68, 69, 70, 71, 72, 73, 74, 75, 76, 77, 78, 79, 80, 81, 82, 83, 84, 85, 86, 87, 88, 89, 90, 91, 92, 93, 94, 95, 96, 97, 98, 99] (by decide +kernel) (by decide +kernel)) (goodIn_sub (fun _ h => List.mem_cons_of_mem _ (List.mem_append_right _ h)) (by decide +kernel))
set_option maxRecDepth 20000 in
theorem gL_seek_X5_seek : GoodIn wsL_seek (wsV RL 36 RX5 yX5_seek wsX5_seek) := goodIn_app (goodIn_of _ (by decide +kernel)) ggL_seek_X5_seek
set_option maxRecDepth 20000 in
theorem ggL_rewind_X5_rewind : GoodIn wsL_rewind wsX5_rewind := goodIn_ca (goodIn_r _ [6, 7, 8, 9, 10, 5, 11, 12, 13, 14, 15, 16, 17, 18, 19, 20, 21, 22, 23, 24, 25, 26, 27, 28, 29, 30, 31, 32, 33, 34, 35, 36, 37, 38, 39, 40, 41, 42, 43, 44, 45, 46, 47, 48, 49, 50, 51] (by decide +kernel) (by decide +kernel)) (goodIn_sub (fun _ h => List.mem_cons_of_mem _ (List.mem_append_right _ h)) (by decide +kernel))
set_option maxRecDepth 20000 in
theorem gL_rewind_X5_rewind : GoodIn wsL_rewind (wsV RL 40 RX5 yX5_rewind wsX5_rewind) := goodIn_app (goodIn_of _ (by decide +kernel)) ggL_rewind_X5_rewind
set_option maxRecDepth 20000 in
theorem ggL_count_X5_count : GoodIn wsL_count wsX5_count := goodIn_ca (goodIn_ca (goodIn_r _ [7, 8, 9, 10, 11, 12, 6, 13, 14, 15, 16, 17, 18, 19, 20, 21, 22, 23, 24, 25, 26, 27, 28, 29, 30, 31, 32, 33, 34, 35, 36, 37, 38, 39, 40, 41, 42, 43, 44, 45, 46, 47, 48, 49, 50, 51, 52, 53, 54, 55, 56] (by decide +kernel) (by decide +kernel)) (goodIn_sub (fun _ h => List.mem_cons_of_mem _ (List.mem_append_left _ (List.mem_append_right _ h))) (by decide +kernel))) (goodIn_sub (fun _ h => List.mem_cons_of_mem _ (List.mem_append_right _ h)) (by decide +kernel))
set_option maxRecDepth 20000 in
theorem gL_count_X5_count : GoodIn wsL_count (wsV RL 43 RX5 yX5_count wsX5_count) := goodIn_app (goodIn_of _ (by decide +kernel)) ggL_count_X5_count
set_option maxRecDepth 20000 in
theorem ggL_rows_X5_rows : GoodIn wsL_rows wsX5_rows := goodIn_ca (goodIn_r _ [6, 7, 8, 9, 5, 10, 11, 12, 13, 14, 15, 16, 17, 18, 19, 20, 21, 22, 23, 24, 25, 26, 27, 28, 29, 30, 31, 32, 33, 34, 35, 36, 37, 38, 39, 40, 41, 42, 43] (by decide +kernel) (by decide +kernel)) (goodIn_sub (fun _ h => List.mem_cons_of_mem _ (List.mem_append_right _ h)) (by decide +kernel))
set_option maxRecDepth 20000 in
theorem gL_rows_X5_rows : GoodIn wsL_rows (wsV RL 47 RX5 yX5_rows wsX5_rows) := goodIn_app (goodIn_of _ (by decide +kernel)) ggL_rows_X5_rows
set_option maxRecDepth 20000 in
theorem ggL_groups_X5_groups : GoodIn wsL_groups wsX5_groups := goodIn_ca (goodIn_ca (goodIn_r _ [7, 8, 9, 10, 11, 12, 13, 14, 15, 6, 16, 17, 18, 19, 20, 21, 22, 23, 24, 25, 26, 27, 28, 29, 30, 31, 32, 33, 34, 35, 36, 37, 38, 39, 40, 41, 42, 43, 44, 45, 46, 47, 48, 49, 50, 51, 52, 53, 54, 55, 56, 57, 58, 59, 60, 61, 62, 63, 64, 65, 66, 67, 68, 69, 70, 71, 72, 73, 74, 75, 76, 77, 78, 79, 80, 81, 82, 83, 84, 85, 86, 87, 88, 89, 90, 91, 92, 93, 94, 95, 96, 97, 98, 99, 100, 101, 102, 103, 104, 105, 106, 107, 108, 109, 110, 111, 112, 113, 114, 115, 116, 117, 118, 119, 120, 121, 122] (by decide +kernel) (by decide +kernel)) (goodIn_sub (fun _ h => List.mem_cons_of_mem _ (List.mem_append_left _ (List.mem_append_right _ h))) (by decide +kernel))) (goodIn_sub (fun _ h => List.mem_cons_of_mem _ (List.mem_append_right _ h)) (by decide +kernel))
set_option maxRecDepth 20000 in
theorem gL_groups_X5_groups : GoodIn wsL_groups (wsV RL 51 RX5 yX5_groups wsX5_groups) := goodIn_app (goodIn_of _ (by decide +kernel)) ggL_groups_X5_groups
set_option maxRecDepth 20000 in
theorem ggL_group_X5_group : GoodIn wsL_group wsX5_group := goodIn_ca (goodIn_ca (goodIn_r _ [7, 8, 9, 10, 11, 12, 13, 14, 15, 16, 17, 18, 19, 20, 21, 22, 6, 23, 24, 25, 26, 27, 28, 29, 30, 31, 32, 33, 34, 35, 36, 37, 38, 39, 40, 41, 42, 43, 44, 45, 46, 47, 48, 49, 50] (by decide +kernel) (by decide +kernel)) (goodIn_sub (fun _ h => List.mem_cons_of_mem _ (List.mem_append_left _ (List.mem_append_right _ h))) (by decide +kernel))) (goodIn_sub (fun _ h => List.mem_cons_of_mem _ (List.mem_append_right _ h)) (by decide +kernel))
set_option maxRecDepth 20000 in
theorem gL_group_X5_group : GoodIn wsL_group (wsV RL 56 RX5 yX5_group wsX5_group) := goodIn_app (goodIn_of _ (by decide +kernel)) ggL_group_X5_group
set_option maxRecDepth 20000 in
theorem ggL_sorted_X5_sorted : GoodIn wsL_sorted wsX5_sorted := goodIn_ca (goodIn_ca (goodIn_r _ [7, 8, 9, 10, 11, 6, 12, 13, 14, 15, 16, 17, 18, 19, 20, 21, 22, 23, 24, 25, 26, 27, 28, 29, 30, 31, 32, 33, 34, 35, 36, 37, 38, 39, 40, 41, 42, 43, 44, 45, 46, 47, 48, 49, 50, 51, 52, 53, 54, 55, 56, 57, 58, 59, 60, 61, 62, 63] (by decide +kernel) (by decide +kernel)) (goodIn_sub (fun _ h => List.mem_cons_of_mem _ (List.mem_append_left _ (List.mem_append_right _ h))) (by decide +kernel))) (goodIn_sub (fun _ h => List.mem_cons_of_mem _ (List.mem_append_right _ h)) (by decide +kernel))
set_option maxRecDepth 20000 in
theorem gL_sorted_X5_sorted : GoodIn wsL_sorted (wsV RL 60 RX5 yX5_sorted wsX5_sorted) := goodIn_app (goodIn_of _ (by decide +kernel)) ggL_sorted_X5_sorted
set_option maxRecDepth 20000 in
theorem ggL_about_X5_about : GoodIn wsL_about wsX5_about := goodIn_ca (goodIn_r _ [6, 7, 8, 9, 10, 11, 12, 5, 13, 14, 15, 16, 17, 18, 19, 20, 21, 22, 23, 24, 25, 26, 27, 28, 29, 30, 31, 32, 33, 34, 35, 36, 37, 38, 39, 40, 41, 42, 43, 44, 45, 46, 47, 48, 49, 50, 51, 52, 53, 54, 55, 56] (by decide +kernel) (by decide +kernel)) (goodIn_sub (fun _ h => List.mem_cons_of_mem _ (List.mem_append_right _ h)) (by decide +kernel))
set_option maxRecDepth 20000 in
theorem gL_about_X5_about : GoodIn wsL_about (wsV RL 63 RX5 yX5_about wsX5_about) := goodIn_app (goodIn_of _ (by decide +kernel)) ggL_about_X5_about
set_option maxRecDepth 20000 in
theorem ggL_law_L_cell : GoodIn wsL_law wsL_cell := goodIn_r _ [10] (by decide +kernel) (by decide +kernel)
set_option maxRecDepth 20000 in
theorem gL_law_L_cell : GoodIn wsL_law (va_wsS RL 66 yL_cell wsL_cell) := goodIn_app (goodIn_of _ (by decide +kernel)) ggL_law_L_cell
set_option maxRecDepth 20000 in
theorem ggL_law_X5_init : GoodIn wsL_law wsX5_init := goodIn_r _ [13, 14, 15, 16, 17, 18, 19, 20, 21, 22, 23, 24, 25, 26, 27, 28, 29, 30, 31, 32, 2, 33, 34, 35, 36, 37, 38, 39, 40, 41, 42, 43, 44, 45, 46, 47, 48, 49, 50, 51, 52, 53, 54, 55, 56, 57, 58, 59, 60, 61, 62, 63, 64, 65, 66, 67, 68, 69, 70, 71, 72, 73, 74, 75, 76, 77, 78, 79, 80, 6, 81, 82, 83, 84, 85, 86, 87, 88, 89, 90, 91, 599, 600, 601, 602, 603, 604, 605, 606, 607, 579, 580, 581, 582, 583, 608, 609, 610, 611, 612, 613, 614, 615, 616, 617, 618, 619, 620, 621, 622, 623, 624, 625, 626, 627, 628, 629, 630, 631] (by decide +kernel) (by decide +kernel)
set_option maxRecDepth 20000 in
theorem gL_law_X5_init : GoodIn wsL_law (wsX5_init) := ggL_law_X5_init
set_option maxRecDepth 20000 in
theorem ggL_law_X6_init : GoodIn wsL_law wsX6_init := goodIn_r _ [94, 95, 15, 16, 46, 96, 97, 98, 99, 100, 101, 102, 103, 104, 5, 105, 584, 585, 586, 587, 588, 589, 590, 591, 592, 593, 594, 595, 596, 597, 598] (by decide +kernel) (by decide +kernel)
set_option maxRecDepth 20000 in
theorem gL_law_X6_init : GoodIn wsL_law (wsX6_init) := ggL_law_X6_init
set_option maxRecDepth 20000 in
theorem ggL_law_L_add : GoodIn wsL_law wsL_add := goodIn_ca (goodIn_r _ [108, 109, 110, 111, 112, 2, 113, 30, 114, 115, 116, 117, 20, 21, 118, 119, 120, 19, 121, 53, 45, 122, 123, 124, 125, 126, 127, 128, 129, 130, 47, 48, 131, 579, 580, 581, 582, 583, 599, 600, 601, 602, 603, 604, 605, 606, 607] (by decide +kernel) (by decide +kernel)) (goodIn_sub (fun _ h => List.mem_append_left _ (List.mem_append_left _ (List.mem_append_right _ h))) (by decide +kernel))
set_option maxRecDepth 20000 in
theorem gL_law_L_add : GoodIn wsL_law (va_wsS RL 78 yL_add wsL_add) := goodIn_app (goodIn_of _ (by decide +kernel)) ggL_law_L_add
set_option maxRecDepth 20000 in
theorem ggL_law_X6_add : GoodIn wsL_law wsX6_add := goodIn_r _ [135, 100, 96, 97, 98, 136, 137, 138, 139, 140, 5, 141, 142, 584, 585, 586, 587, 588, 589, 590, 591, 592, 593, 594, 595, 596, 597, 598] (by decide +kernel) (by decide +kernel)
set_option maxRecDepth 20000 in
theorem gL_law_X6_add : GoodIn wsL_law (wsV RL 81 RX6 yX6_add wsX6_add) := goodIn_app (goodIn_of _ (by decide +kernel)) ggL_law_X6_add
set_option maxRecDepth 20000 in
theorem ggL_law_X6_thrown : GoodIn wsL_law wsX6_thrown := goodIn_r _ [146, 142, 584, 585, 586, 587, 588, 589, 590, 591, 592, 593, 594, 595, 596, 597, 598] (by decide +kernel) (by decide +kernel)
set_option maxRecDepth 20000 in
theorem gL_law_X6_thrown : GoodIn wsL_law (wsV RL 82 RX6 yX6_thrown wsX6_thrown) := goodIn_app (goodIn_of _ (by decide +kernel)) ggL_law_X6_thrown
set_option maxRecDepth 20000 in
theorem ggL_law_X5_prepare : GoodIn wsL_law wsX5_prepare := goodIn_r _ [150, 20, 21, 25, 29, 30, 151, 152, 153, 19, 154, 54, 53, 155, 156, 157, 158, 47, 49, 159, 160, 161, 162, 52, 50, 51, 163, 164, 165, 166, 167, 168, 169, 170, 171, 172, 173, 24, 174, 64, 68, 175, 176, 177, 63, 178, 179, 180, 181, 182, 73, 74, 183, 184, 185, 186, 187, 66, 188, 189, 190, 28, 191, 87, 88, 579, 580, 581, 582, 583, 599, 600, 601, 602, 603, 604, 605, 606, 607, 608, 609, 610, 611, 612, 613, 614, 621, 622, 623, 624, 625, 626, 627, 615, 616, 617, 618, 619, 620] (by decide +kernel) (by decide +kernel)
set_option maxRecDepth 20000 in
theorem gL_law_X5_prepare : GoodIn wsL_law (wsV RL 85 RX5 yX5_prepare wsX5_prepare) := goodIn_app (goodIn_of _ (by decide +kernel)) ggL_law_X5_prepare
set_option maxRecDepth 20000 in
theorem ggL_law_X6_prepare : GoodIn wsL_law wsX6_prepare := goodIn_r _ [195, 142, 100, 97, 99, 196, 197, 137, 136, 198, 199, 200, 5, 201, 101, 584, 585, 586, 587, 588, 589, 590, 591, 592, 593, 594, 595, 596, 597, 598] (by decide +kernel) (by decide +kernel)
set_option maxRecDepth 20000 in
theorem gL_law_X6_prepare : GoodIn wsL_law (wsV RL 88 RX6 yX6_prepare wsX6_prepare) := goodIn_app (goodIn_of _ (by decide +kernel)) ggL_law_X6_prepare
set_option maxRecDepth 20000 in
theorem ggL_law_L_kind : GoodIn wsL_law wsL_kind := goodIn_ca (goodIn_r _ [204, 205, 206, 207, 208, 2, 209, 25, 210, 211, 212, 213, 214, 215, 216, 217, 218, 219, 220, 24, 221, 67, 171, 172, 173, 174, 64, 68, 175, 176, 177, 63, 178, 179, 180, 181, 182, 73, 74, 183, 184, 185, 186, 187, 66, 579, 580, 581, 582, 583, 608, 609, 610, 611, 612, 613, 614, 621, 622, 623, 624, 625, 626, 627] (by decide +kernel) (by decide +kernel)) (goodIn_sub (fun _ h => List.mem_append_left _ (List.mem_append_right _ h)) (by decide +kernel))
set_option maxRecDepth 20000 in
theorem gL_law_L_kind : GoodIn wsL_law (va_wsS RL 89 yL_kind wsL_kind) := goodIn_app (goodIn_of _ (by decide +kernel)) ggL_law_L_kind
set_option maxRecDepth 20000 in
theorem ggL_law_X6_kind : GoodIn wsL_law wsX6_kind := goodIn_r _ [225, 226, 196, 197, 138, 139, 140, 5, 141, 142, 198, 199, 200, 201, 101, 584, 585, 586, 587, 588, 589, 590, 591, 592, 593, 594, 595, 596, 597, 598] (by decide +kernel) (by decide +kernel)
set_option maxRecDepth 20000 in
theorem gL_law_X6_kind : GoodIn wsL_law (wsV RL 92 RX6 yX6_kind wsX6_kind) := goodIn_app (goodIn_of _ (by decide +kernel)) ggL_law_X6_kind
set_option maxRecDepth 20000 in
theorem ggL_law_L_next : GoodIn wsL_law wsL_next := goodIn_ca (goodIn_r _ [229, 109, 230, 231, 232, 2, 233, 30, 25, 122, 123, 124, 125, 126, 234, 235, 236, 24, 237, 64, 67, 238, 239, 240, 63, 241, 74, 182, 73, 180, 181, 183, 242, 243, 244, 245, 246, 247, 248, 249, 59, 60, 250, 251, 252, 19, 253, 53, 254, 255, 256, 257, 258, 168, 169, 170, 259, 260, 261, 262, 68, 263, 164, 165, 166, 47, 49, 167, 264, 265, 266, 267, 268, 269, 270, 271, 272, 273, 274, 275, 179, 276, 277, 278, 279, 175, 176, 177, 178, 579, 580, 581, 582, 583, 608, 609, 610, 611, 612, 613, 614, 621, 622, 623, 624, 625, 626, 627, 599, 600, 601, 602, 603, 604, 605, 606, 607] (by decide +kernel) (by decide +kernel)) (goodIn_sub (fun _ h => List.mem_append_left _ (List.mem_append_left _ (List.mem_append_right _ h))) (by decide +kernel))
set_option maxRecDepth 20000 in
theorem gL_law_L_next : GoodIn wsL_law (va_wsS RL 93 yL_next wsL_next) := goodIn_app (goodIn_of _ (by decide +kernel)) ggL_law_L_next
set_option maxRecDepth 20000 in
theorem ggL_law_X6_next : GoodIn wsL_law wsX6_next := goodIn_r _ [283, 136, 101, 100, 196, 284, 226, 138, 139, 140, 5, 141, 142, 285, 286, 287, 288, 289, 290, 291, 292, 97, 99, 293, 294, 295, 296, 297, 298, 299, 584, 585, 586, 587, 588, 589, 590, 591, 592, 593, 594, 595, 596, 597, 598] (by decide +kernel) (by decide +kernel)
set_option maxRecDepth 20000 in
theorem gL_law_X6_next : GoodIn wsL_law (wsV RL 96 RX6 yX6_next wsX6_next) := goodIn_app (goodIn_of _ (by decide +kernel)) ggL_law_X6_next
set_option maxRecDepth 20000 in
theorem ggL_law_L_pair : GoodIn wsL_law wsL_pair := goodIn_ca (goodIn_r _ [302, 205, 303, 304, 305, 2, 306, 30, 25, 20, 21, 210, 211, 212, 213, 214, 215, 216, 217, 307, 308, 309, 24, 310, 64, 311, 312, 313, 314, 315, 168, 169, 19, 170, 53, 316, 164, 165, 166, 47, 49, 167, 317, 318, 319, 320, 48, 321, 322, 323, 324, 579, 580, 581, 582, 583, 608, 609, 610, 611, 612, 613, 614, 621, 622, 623, 624, 625, 626, 627, 599, 600, 601, 602, 603, 604, 605, 606, 607] (by decide +kernel) (by decide +kernel)) (goodIn_sub (fun _ h => List.mem_append_left _ (List.mem_append_right _ h)) (by decide +kernel))
set_option maxRecDepth 20000 in
theorem gL_law_L_pair : GoodIn wsL_law (va_wsS RL 97 yL_pair wsL_pair) := goodIn_app (goodIn_of _ (by decide +kernel)) ggL_law_L_pair
set_option maxRecDepth 20000 in
theorem ggL_law_X6_pair : GoodIn wsL_law wsX6_pair := goodIn_r _ [328, 136, 101, 99, 138, 139, 140, 5, 141, 142, 289, 290, 291, 292, 97, 329, 330, 331, 332, 98, 584, 585, 586, 587, 588, 589, 590, 591, 592, 593, 594, 595, 596, 597, 598] (by decide +kernel) (by decide +kernel)
set_option maxRecDepth 20000 in
theorem gL_law_X6_pair : GoodIn wsL_law (wsV RL 100 RX6 yX6_pair wsX6_pair) := goodIn_app (goodIn_of _ (by decide +kernel)) ggL_law_X6_pair
set_option maxRecDepth 20000 in
theorem ggL_law_L_mark : GoodIn wsL_law wsL_mark := goodIn_ca (goodIn_r _ [335, 109, 336, 337, 338, 2, 339, 30, 25, 122, 123, 124, 125, 126, 340, 341, 342, 24, 343, 65, 64, 66, 344, 345, 346, 63, 347, 179, 180, 181, 182, 73, 74, 183, 579, 580, 581, 582, 583, 608, 609, 610, 611, 612, 613, 614, 621, 622, 623, 624, 625, 626, 627] (by decide +kernel) (by decide +kernel)) (goodIn_sub (fun _ h => List.mem_append_left _ (List.mem_append_left _ (List.mem_append_right _ h))) (by decide +kernel))
set_option maxRecDepth 20000 in
theorem gL_law_L_mark : GoodIn wsL_law (va_wsS RL 101 yL_mark wsL_mark) := goodIn_app (goodIn_of _ (by decide +kernel)) ggL_law_L_mark
set_option maxRecDepth 20000 in
theorem ggL_law_X6_mark : GoodIn wsL_law wsX6_mark := goodIn_r _ [351, 136, 101, 197, 138, 139, 140, 5, 141, 142, 584, 585, 586, 587, 588, 589, 590, 591, 592, 593, 594, 595, 596, 597, 598] (by decide +kernel) (by decide +kernel)
set_option maxRecDepth 20000 in
theorem gL_law_X6_mark : GoodIn wsL_law (wsV RL 103 RX6 yX6_mark wsX6_mark) := goodIn_app (goodIn_of _ (by decide +kernel)) ggL_law_X6_mark
set_option maxRecDepth 20000 in
theorem ggL_law_L_back : GoodIn wsL_law wsL_back := goodIn_ca (goodIn_r _ [354, 109, 355, 356, 357, 2, 358, 30, 25, 359, 360, 361, 24, 362, 66, 122, 123, 124, 125, 126, 363, 364, 365, 366, 64, 65, 344, 345, 346, 63, 347, 179, 180, 181, 182, 73, 74, 183, 579, 580, 581, 582, 583, 608, 609, 610, 611, 612, 613, 614, 621, 622, 623, 624, 625, 626, 627] (by decide +kernel) (by decide +kernel)) (goodIn_sub (fun _ h => List.mem_append_left _ (List.mem_append_left _ (List.mem_append_right _ h))) (by decide +kernel))
set_option maxRecDepth 20000 in
theorem gL_law_L_back : GoodIn wsL_law (va_wsS RL 104 yL_back wsL_back) := goodIn_app (goodIn_of _ (by decide +kernel)) ggL_law_L_back
set_option maxRecDepth 20000 in
theorem ggL_law_X6_back : GoodIn wsL_law wsX6_back := goodIn_r _ [370, 136, 197, 101, 138, 139, 140, 5, 141, 142, 584, 585, 586, 587, 588, 589, 590, 591, 592, 593, 594, 595, 596, 597, 598] (by decide +kernel) (by decide +kernel)
set_option maxRecDepth 20000 in
theorem gL_law_X6_back : GoodIn wsL_law (wsV RL 106 RX6 yX6_back wsX6_back) := goodIn_app (goodIn_of _ (by decide +kernel)) ggL_law_X6_back
set_option maxRecDepth 20000 in
theorem ggL_law_L_seek : GoodIn wsL_law wsL_seek := goodIn_ca (goodIn_r _ [373, 109, 374, 375, 376, 2, 377, 30, 25, 122, 123, 124, 125, 126, 378, 379, 380, 24, 381, 59, 60, 67, 64, 382, 383, 384, 385, 250, 251, 252, 19, 253, 53, 259, 260, 261, 262, 68, 263, 164, 165, 166, 47, 49, 167, 168, 169, 170, 386, 387, 388, 389, 390, 391, 50, 392, 393, 394, 395, 51, 175, 176, 177, 63, 178, 179, 180, 181, 182, 73, 74, 183, 579, 580, 581, 582, 583, 608, 609, 610, 611, 612, 613, 614, 599, 600, 601, 602, 603, 604, 605, 606, 607, 621, 622, 623, 624, 625, 626, 627] (by decide +kernel) (by decide +kernel)) (goodIn_sub (fun _ h => List.mem_append_left _ (List.mem_append_left _ (List.mem_append_right _ h))) (by decide +kernel))
set_option maxRecDepth 20000 in
theorem gL_law_L_seek : GoodIn wsL_law (va_wsS RL 107 yL_seek wsL_seek) := goodIn_app (goodIn_of _ (by decide +kernel)) ggL_law_L_seek
set_option maxRecDepth 20000 in
theorem ggL_law_X6_seek : GoodIn wsL_law wsX6_seek := goodIn_r _ [399, 136, 100, 196, 101, 226, 138, 139, 140, 5, 141, 142, 198, 199, 200, 201, 289, 290, 291, 292, 97, 99, 400, 401, 402, 403, 404, 405, 406, 407, 297, 298, 299, 584, 585, 586, 587, 588, 589, 590, 591, 592, 593, 594, 595, 596, 597, 598] (by decide +kernel) (by decide +kernel)
set_option maxRecDepth 20000 in
theorem gL_law_X6_seek : GoodIn wsL_law (wsV RL 109 RX6 yX6_seek wsX6_seek) := goodIn_app (goodIn_of _ (by decide +kernel)) ggL_law_X6_seek
set_option maxRecDepth 20000 in
theorem ggL_law_L_rewind : GoodIn wsL_law wsL_rewind := goodIn_ca (goodIn_r _ [410, 109, 411, 412, 413, 2, 414, 30, 25, 122, 123, 124, 125, 126, 171, 172, 173, 24, 174, 64, 68, 175, 176, 177, 63, 178, 179, 180, 181, 182, 73, 74, 183, 579, 580, 581, 582, 583, 608, 609, 610, 611, 612, 613, 614, 621, 622, 623, 624, 625, 626, 627] (by decide +kernel) (by decide +kernel)) (goodIn_sub (fun _ h => List.mem_append_left _ (List.mem_append_left _ (List.mem_append_right _ h))) (by decide +kernel))
set_option maxRecDepth 20000 in
theorem gL_law_L_rewind : GoodIn wsL_law (va_wsS RL 110 yL_rewind wsL_rewind) := goodIn_app (goodIn_of _ (by decide +kernel)) ggL_law_L_rewind
set_option maxRecDepth 20000 in
theorem ggL_law_X6_rewind : GoodIn wsL_law wsX6_rewind := goodIn_r _ [418, 136, 196, 138, 139, 140, 5, 141, 142, 198, 199, 200, 201, 101, 584, 585, 586, 587, 588, 589, 590, 591, 592, 593, 594, 595, 596, 597, 598] (by decide +kernel) (by decide +kernel)
set_option maxRecDepth 20000 in
theorem gL_law_X6_rewind : GoodIn wsL_law (wsV RL 113 RX6 yX6_rewind wsX6_rewind) := goodIn_app (goodIn_of _ (by decide +kernel)) ggL_law_X6_rewind
set_option maxRecDepth 20000 in
theorem ggL_law_L_count : GoodIn wsL_law wsL_count := goodIn_ca (goodIn_ca (goodIn_r _ [421, 205, 109, 422, 423, 424, 2, 425, 30, 20, 21, 210, 211, 212, 213, 214, 215, 216, 217, 122, 123, 124, 125, 126, 426, 251, 252, 19, 253, 53, 427, 386, 387, 388, 389, 390, 391, 50, 392, 393, 394, 395, 51, 579, 580, 581, 582, 583, 599, 600, 601, 602, 603, 604, 605, 606, 607] (by decide +kernel) (by decide +kernel)) (goodIn_sub (fun _ h => List.mem_append_left _ (List.mem_append_right _ h)) (by decide +kernel))) (goodIn_sub (fun _ h => List.mem_append_left _ (List.mem_append_left _ (List.mem_append_right _ h))) (by decide +kernel))
set_option maxRecDepth 20000 in
theorem gL_law_L_count : GoodIn wsL_law (va_wsS RL 114 yL_count wsL_count) := goodIn_app (goodIn_of _ (by decide +kernel)) ggL_law_L_count
set_option maxRecDepth 20000 in
theorem ggL_law_X6_count : GoodIn wsL_law wsX6_count := goodIn_r _ [431, 136, 432, 138, 139, 140, 5, 141, 142, 400, 401, 402, 403, 100, 97, 404, 405, 406, 407, 297, 298, 299, 584, 585, 586, 587, 588, 589, 590, 591, 592, 593, 594, 595, 596, 597, 598] (by decide +kernel) (by decide +kernel)
set_option maxRecDepth 20000 in
theorem gL_law_X6_count : GoodIn wsL_law (wsV RL 116 RX6 yX6_count wsX6_count) := goodIn_app (goodIn_of _ (by decide +kernel)) ggL_law_X6_count
set_option maxRecDepth 20000 in
theorem ggL_law_L_rows : GoodIn wsL_law wsL_rows := goodIn_ca (goodIn_r _ [435, 109, 436, 437, 438, 2, 439, 30, 122, 123, 124, 125, 126, 114, 115, 116, 117, 20, 21, 426, 251, 252, 19, 253, 53, 392, 393, 394, 395, 51, 579, 580, 581, 582, 583, 599, 600, 601, 602, 603, 604, 605, 606, 607] (by decide +kernel) (by decide +kernel)) (goodIn_sub (fun _ h => List.mem_append_left _ (List.mem_append_left _ (List.mem_append_right _ h))) (by decide +kernel))
set_option maxRecDepth 20000 in
theorem gL_law_L_rows : GoodIn wsL_law (va_wsS RL 117 yL_rows wsL_rows) := goodIn_app (goodIn_of _ (by decide +kernel)) ggL_law_L_rows
set_option maxRecDepth 20000 in
theorem ggL_law_X6_rows : GoodIn wsL_law wsX6_rows := goodIn_r _ [443, 136, 100, 97, 138, 139, 140, 5, 141, 142, 404, 405, 406, 407, 584, 585, 586, 587, 588, 589, 590, 591, 592, 593, 594, 595, 596, 597, 598] (by decide +kernel) (by decide +kernel)
set_option maxRecDepth 20000 in
theorem gL_law_X6_rows : GoodIn wsL_law (wsV RL 120 RX6 yX6_rows wsX6_rows) := goodIn_app (goodIn_of _ (by decide +kernel)) ggL_law_X6_rows
set_option maxRecDepth 20000 in
theorem ggL_law_L_groups : GoodIn wsL_law wsL_groups := goodIn_ca (goodIn_ca (goodIn_r _ [446, 109, 447, 448, 449, 450, 2, 451, 452, 453, 30, 20, 29, 21, 122, 123, 124, 125, 126, 454, 455, 456, 19, 457, 53, 458, 459, 460, 461, 163, 164, 165, 166, 47, 49, 167, 168, 169, 170, 462, 389, 390, 391, 50, 463, 464, 465, 28, 466, 79, 467, 468, 469, 470, 87, 85, 86, 88, 471, 251, 252, 253, 472, 473, 474, 475, 84, 476, 477, 478, 479, 480, 481, 482, 36, 483, 484, 485, 486, 487, 318, 319, 320, 48, 488, 489, 490, 491, 492, 493, 52, 494, 495, 496, 497, 498, 81, 499, 500, 579, 580, 581, 582, 583, 599, 600, 601, 602, 603, 604, 605, 606, 607, 615, 616, 617, 618, 619, 620, 628, 629, 630, 631] (by decide +kernel) (by decide +kernel)) (goodIn_sub (fun _ h => List.mem_append_right _ h) (by decide +kernel))) (goodIn_sub (fun _ h => List.mem_append_left _ (List.mem_append_left _ (List.mem_append_right _ h))) (by decide +kernel))
set_option maxRecDepth 20000 in
theorem gL_law_L_groups : GoodIn wsL_law (va_wsS RL 121 yL_groups wsL_groups) := goodIn_app (goodIn_of _ (by decide +kernel)) ggL_law_L_groups
set_option maxRecDepth 20000 in
theorem ggL_law_X6_groups : GoodIn wsL_law wsX6_groups := goodIn_r _ [504, 136, 102, 137, 138, 139, 140, 5, 141, 142, 505, 506, 507, 508, 100, 289, 290, 291, 292, 97, 99, 404, 405, 406, 407, 584, 585, 586, 587, 588, 589, 590, 591, 592, 593, 594, 595, 596, 597, 598] (by decide +kernel) (by decide +kernel)
set_option maxRecDepth 20000 in
theorem gL_law_X6_groups : GoodIn wsL_law (wsV RL 123 RX6 yX6_groups wsX6_groups) := goodIn_app (goodIn_of _ (by decide +kernel)) ggL_law_X6_groups
set_option maxRecDepth 20000 in
theorem ggL_law_L_group : GoodIn wsL_law wsL_group := goodIn_ca (goodIn_ca (goodIn_r _ [511, 205, 109, 512, 513, 514, 2, 515, 30, 29, 516, 517, 518, 28, 519, 88, 520, 521, 522, 523, 87, 210, 211, 212, 213, 214, 215, 216, 217, 122, 123, 124, 125, 126, 524, 525, 526, 527, 81, 528, 579, 580, 581, 582, 583, 615, 616, 617, 618, 619, 620] (by decide +kernel) (by decide +kernel)) (goodIn_sub (fun _ h => List.mem_append_left _ (List.mem_append_right _ h)) (by decide +kernel))) (goodIn_sub (fun _ h => List.mem_append_left _ (List.mem_append_left _ (List.mem_append_right _ h))) (by decide +kernel))
set_option maxRecDepth 20000 in
theorem gL_law_L_group : GoodIn wsL_law (va_wsS RL 124 yL_group wsL_group) := goodIn_app (goodIn_of _ (by decide +kernel)) ggL_law_L_group
set_option maxRecDepth 20000 in
theorem ggL_law_X6_group : GoodIn wsL_law wsX6_group := goodIn_r _ [532, 136, 137, 533, 534, 535, 536, 100, 97, 98, 505, 506, 507, 5, 508, 289, 290, 291, 292, 99, 404, 405, 406, 407, 138, 139, 140, 141, 142, 584, 585, 586, 587, 588, 589, 590, 591, 592, 593, 594, 595, 596, 597, 598] (by decide +kernel) (by decide +kernel)
set_option maxRecDepth 20000 in
theorem gL_law_X6_group : GoodIn wsL_law (wsV RL 127 RX6 yX6_group wsX6_group) := goodIn_app (goodIn_of _ (by decide +kernel)) ggL_law_X6_group
set_option maxRecDepth 20000 in
theorem ggL_law_L_sorted : GoodIn wsL_law wsL_sorted := goodIn_ca (goodIn_ca (goodIn_r _ [539, 205, 109, 540, 541, 542, 2, 543, 30, 114, 115, 116, 117, 20, 21, 315, 168, 169, 19, 170, 53, 210, 211, 212, 213, 214, 215, 216, 217, 122, 123, 124, 125, 126, 316, 164, 165, 166, 47, 49, 167, 317, 318, 319, 320, 48, 321, 322, 323, 324, 579, 580, 581, 582, 583, 599, 600, 601, 602, 603, 604, 605, 606, 607] (by decide +kernel) (by decide +kernel)) (goodIn_sub (fun _ h => List.mem_append_left _ (List.mem_append_right _ h)) (by decide +kernel))) (goodIn_sub (fun _ h => List.mem_append_left _ (List.mem_append_left _ (List.mem_append_right _ h))) (by decide +kernel))
set_option maxRecDepth 20000 in
theorem gL_law_L_sorted : GoodIn wsL_law (va_wsS RL 128 yL_sorted wsL_sorted) := goodIn_app (goodIn_of _ (by decide +kernel)) ggL_law_L_sorted
set_option maxRecDepth 20000 in
theorem ggL_law_X6_sorted : GoodIn wsL_law wsX6_sorted := goodIn_r _ [547, 100, 136, 99, 138, 139, 140, 5, 141, 142, 289, 290, 291, 292, 97, 329, 330, 331, 332, 98, 584, 585, 586, 587, 588, 589, 590, 591, 592, 593, 594, 595, 596, 597, 598] (by decide +kernel) (by decide +kernel)
set_option maxRecDepth 20000 in
theorem gL_law_X6_sorted : GoodIn wsL_law (wsV RL 130 RX6 yX6_sorted wsX6_sorted) := goodIn_app (goodIn_of _ (by decide +kernel)) ggL_law_X6_sorted
set_option maxRecDepth 20000 in
theorem ggL_law_L_about : GoodIn wsL_law wsL_about := goodIn_ca (goodIn_r _ [550, 205, 551, 552, 553, 2, 554, 25, 20, 21, 30, 210, 211, 212, 213, 214, 215, 216, 217, 555, 556, 557, 24, 558, 68, 426, 251, 252, 19, 253, 53, 559, 560, 561, 562, 67, 579, 580, 581, 582, 583, 608, 609, 610, 611, 612, 613, 614, 599, 600, 601, 602, 603, 604, 605, 606, 607] (by decide +kernel) (by decide +kernel)) (goodIn_sub (fun _ h => List.mem_append_left _ (List.mem_append_right _ h)) (by decide +kernel))
set_option maxRecDepth 20000 in
theorem gL_law_L_about : GoodIn wsL_law (va_wsS RL 131 yL_about wsL_about) := goodIn_app (goodIn_of _ (by decide +kernel)) ggL_law_L_about
set_option maxRecDepth 20000 in
theorem ggL_law_X6_about : GoodIn wsL_law wsX6_about := goodIn_r _ [566, 196, 100, 136, 226, 138, 139, 140, 5, 141, 142, 584, 585, 586, 587, 588, 589, 590, 591, 592, 593, 594, 595, 596, 597, 598] (by decide +kernel) (by decide +kernel)
set_option maxRecDepth 20000 in
theorem gL_law_X6_about : GoodIn wsL_law (wsV RL 133 RX6 yX6_about wsX6_about) := goodIn_app (goodIn_of _ (by decide +kernel)) ggL_law_X6_about
set_option maxRecDepth 20000 in
theorem ggL_law_X5_clear : GoodIn wsL_law wsX5_clear := goodIn_r _ [570, 20, 21, 25, 30, 571, 572, 573, 19, 574, 53, 54, 218, 219, 220, 24, 221, 67, 579, 580, 581, 582, 583, 599, 600, 601, 602, 603, 604, 605, 606, 607, 608, 609, 610, 611, 612, 613, 614] (by decide +kernel) (by decide +kernel)
set_option maxRecDepth 20000 in
theorem gL_law_X5_clear : GoodIn wsL_law (wsV RL 134 RX5 yX5_clear wsX5_clear) := goodIn_app (goodIn_of _ (by decide +kernel)) ggL_law_X5_clear
set_option maxRecDepth 20000 in
theorem ggL_law_X6_clear : GoodIn wsL_law wsX6_clear := goodIn_r _ [578, 142, 100, 226, 136, 137, 197, 196, 198, 199, 200, 5, 201, 101, 584, 585, 586, 587, 588, 589, 590, 591, 592, 593, 594, 595, 596, 597, 598] (by decide +kernel) (by decide +kernel)
set_option maxRecDepth 20000 in
theorem gL_law_X6_clear : GoodIn wsL_law (wsV RL 137 RX6 yX6_clear wsX6_clear) := goodIn_app (goodIn_of _ (by decide +kernel)) ggL_law_X6_clear
abbrev vwCl : List vw_C := [(RX0, TX0, 7), (RX1, TX1, 6), (RX2, TX2, 7), (RX3, TX3, 4), (RX4, TX4, 9), (RX5, TX5, 5), (RX6, TX6, 15)]

