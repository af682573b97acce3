def RX0 : String := "Zfsmill$Cells"
def TX0 : u_T := fun k => match k with
  | 0 => ("Zfsmill$Cells", "used", "[Z", true)
  | 1 => ("Zfsmill$Cells", "spoilt", "[Z", true)
  | 2 => ("Zfsmill$Cells", "away", "[Z", true)
  | _ => ("Zfsmill$Cells", "outage", "[I", true)
def tyX0 : Nat → FieldType := fun k => match k with
  | 0 => .array .boolean
  | 1 => .array .boolean
  | 2 => .array .boolean
  | _ => .array .int
abbrev wsX00 : List Cond := u_ws RX0 TX0 4
theorem nmX0 : ∀ a, a < 4 → ∀ b, b < 4 → a ≠ b → (TX0 a).2.1 ≠ (TX0 b).2.1 := by decide +kernel
theorem tyX0_ok : ∀ k, k < 4 → parseFieldDescriptor (TX0 k).2.2.1 = some (tyX0 k) := by decide +kernel
abbrev cX0_init : ByteArray := prog_2_method_1_code
def yX0_init : MethodName := ⟨RX0, "<init>", "()V"⟩
abbrev cX0_hasOnline : ByteArray := prog_2_method_2_code
def yX0_hasOnline : MethodName := ⟨RX0, "hasOnline", "(II)Z"⟩
abbrev cX0_outageOf : ByteArray := prog_2_method_3_code
def yX0_outageOf : MethodName := ⟨RX0, "outageOf", "(II)I"⟩
abbrev cX0_takeOffline : ByteArray := prog_2_method_4_code
def yX0_takeOffline : MethodName := ⟨RX0, "takeOffline", "(III)V"⟩
abbrev cX0_bringOnline : ByteArray := prog_2_method_5_code
def yX0_bringOnline : MethodName := ⟨RX0, "bringOnline", "(II)V"⟩
abbrev cX0_isUsed : ByteArray := prog_2_method_6_code
def yX0_isUsed : MethodName := ⟨RX0, "isUsed", "(I)Z"⟩
abbrev cX0_use : ByteArray := prog_2_method_7_code
def yX0_use : MethodName := ⟨RX0, "use", "(I)V"⟩
abbrev cX0_freeAll : ByteArray := prog_2_method_8_code
def yX0_freeAll : MethodName := ⟨RX0, "freeAll", "()V"⟩
abbrev cX0_countFree : ByteArray := prog_2_method_9_code
def yX0_countFree : MethodName := ⟨RX0, "countFree", "(I)I"⟩
abbrev cX0_hasSpoilt : ByteArray := prog_2_method_10_code
def yX0_hasSpoilt : MethodName := ⟨RX0, "hasSpoilt", "(II)Z"⟩
abbrev cX0_isGood : ByteArray := prog_2_method_11_code
def yX0_isGood : MethodName := ⟨RX0, "isGood", "(II)Z"⟩
abbrev cX0_mark : ByteArray := prog_2_method_12_code
def yX0_mark : MethodName := ⟨RX0, "mark", "(IIZ)V"⟩
abbrev cX0_heal : ByteArray := prog_2_method_13_code
def yX0_heal : MethodName := ⟨RX0, "heal", "(II)I"⟩
abbrev cX0_fill : ByteArray := prog_2_method_14_code
def yX0_fill : MethodName := ⟨RX0, "fill", "(I)V"⟩
def RX1 : String := "Zfsmill$Choice"
def TX1 : u_T := fun k => match k with
  | 0 => ("Zfsmill$Choice", "room", "[I", true)
  | 1 => ("Zfsmill$Choice", "nextCell", "[I", true)
  | 2 => ("Zfsmill$Choice", "first", "[I", true)
  | _ => ("Zfsmill$Choice", "second", "[I", true)
def tyX1 : Nat → FieldType := fun k => match k with
  | 0 => .array .int
  | 1 => .array .int
  | 2 => .array .int
  | _ => .array .int
abbrev wsX10 : List Cond := u_ws RX1 TX1 4
theorem nmX1 : ∀ a, a < 4 → ∀ b, b < 4 → a ≠ b → (TX1 a).2.1 ≠ (TX1 b).2.1 := by decide +kernel
theorem tyX1_ok : ∀ k, k < 4 → parseFieldDescriptor (TX1 k).2.2.1 = some (tyX1 k) := by decide +kernel
abbrev cX1_init : ByteArray := prog_3_method_1_code
def yX1_init : MethodName := ⟨RX1, "<init>", "()V"⟩
abbrev cX1_begin : ByteArray := prog_3_method_2_code
def yX1_begin : MethodName := ⟨RX1, "begin", "(LZfsmill$Cells;)V"⟩
abbrev cX1_firstFor : ByteArray := prog_3_method_3_code
def yX1_firstFor : MethodName := ⟨RX1, "firstFor", "(I)I"⟩
abbrev cX1_secondFor : ByteArray := prog_3_method_4_code
def yX1_secondFor : MethodName := ⟨RX1, "secondFor", "(I)I"⟩
abbrev cX1_choose : ByteArray := prog_3_method_5_code
def yX1_choose : MethodName := ⟨RX1, "choose", "(LZfsmill$Cells;II)Z"⟩
abbrev cX1_takeBeside : ByteArray := prog_3_method_6_code
def yX1_takeBeside : MethodName := ⟨RX1, "takeBeside", "(LZfsmill$Cells;I)I"⟩
abbrev cX1_roomiestBeside : ByteArray := prog_3_method_7_code
def yX1_roomiestBeside : MethodName := ⟨RX1, "roomiestBeside", "(I)I"⟩
def RX2 : String := "Zfsmill$OpenGroup"
def TX2 : u_T := fun k => match k with
  | 0 => ("Zfsmill$OpenGroup", "change", "[I", true)
  | _ => ("Zfsmill$OpenGroup", "number", "I", false)
def tyX2 : Nat → FieldType := fun k => match k with
  | 0 => .array .int
  | _ => .int
abbrev wsX20 : List Cond := u_ws RX2 TX2 2
theorem nmX2 : ∀ a, a < 2 → ∀ b, b < 2 → a ≠ b → (TX2 a).2.1 ≠ (TX2 b).2.1 := by decide +kernel
theorem tyX2_ok : ∀ k, k < 2 → parseFieldDescriptor (TX2 k).2.2.1 = some (tyX2 k) := by decide +kernel
abbrev cX2_init : ByteArray := prog_4_method_1_code
def yX2_init : MethodName := ⟨RX2, "<init>", "()V"⟩
abbrev cX2_holds : ByteArray := prog_4_method_2_code
def yX2_holds : MethodName := ⟨RX2, "holds", "(I)Z"⟩
abbrev cX2_changeOf : ByteArray := prog_4_method_3_code
def yX2_changeOf : MethodName := ⟨RX2, "changeOf", "(I)I"⟩
abbrev cX2_change : ByteArray := prog_4_method_4_code
def yX2_change : MethodName := ⟨RX2, "change", "(II)V"⟩
abbrev cX2_changes : ByteArray := prog_4_method_5_code
def yX2_changes : MethodName := ⟨RX2, "changes", "(I)Z"⟩
abbrev cX2_count : ByteArray := prog_4_method_6_code
def yX2_count : MethodName := ⟨RX2, "count", "()I"⟩
abbrev cX2_dropChanges : ByteArray := prog_4_method_7_code
def yX2_dropChanges : MethodName := ⟨RX2, "dropChanges", "()V"⟩
abbrev cX2_close : ByteArray := prog_4_method_8_code
def yX2_close : MethodName := ⟨RX2, "close", "()V"⟩
def RX3 : String := "Zfsmill$Tree"
def TX3 : u_T := fun k => match k with
  | 0 => ("Zfsmill$Tree", "value", "[I", true)
  | 1 => ("Zfsmill$Tree", "first", "[I", true)
  | 2 => ("Zfsmill$Tree", "second", "[I", true)
  | 3 => ("Zfsmill$Tree", "checksum", "[I", true)
  | _ => ("Zfsmill$Tree", "birth", "[I", true)
def tyX3 : Nat → FieldType := fun k => match k with
  | 0 => .array .int
  | 1 => .array .int
  | 2 => .array .int
  | 3 => .array .int
  | _ => .array .int
abbrev wsX30 : List Cond := u_ws RX3 TX3 5
theorem nmX3 : ∀ a, a < 5 → ∀ b, b < 5 → a ≠ b → (TX3 a).2.1 ≠ (TX3 b).2.1 := by decide +kernel
theorem tyX3_ok : ∀ k, k < 5 → parseFieldDescriptor (TX3 k).2.2.1 = some (tyX3 k) := by decide +kernel
abbrev cX3_init : ByteArray := prog_5_method_1_code
def yX3_init : MethodName := ⟨RX3, "<init>", "()V"⟩
abbrev cX3_valueOf : ByteArray := prog_5_method_2_code
def yX3_valueOf : MethodName := ⟨RX3, "valueOf", "(I)I"⟩
abbrev cX3_keepValue : ByteArray := prog_5_method_3_code
def yX3_keepValue : MethodName := ⟨RX3, "keepValue", "(II)V"⟩
abbrev cX3_isMissing : ByteArray := prog_5_method_4_code
def yX3_isMissing : MethodName := ⟨RX3, "isMissing", "(I)Z"⟩
abbrev cX3_placeOf : ByteArray := prog_5_method_5_code
def yX3_placeOf : MethodName := ⟨RX3, "placeOf", "(II)I"⟩
abbrev cX3_countPlaces : ByteArray := prog_5_method_6_code
def yX3_countPlaces : MethodName := ⟨RX3, "countPlaces", "(I)I"⟩
abbrev cX3_checksumOf : ByteArray := prog_5_method_7_code
def yX3_checksumOf : MethodName := ⟨RX3, "checksumOf", "(I)I"⟩
abbrev cX3_birthOf : ByteArray := prog_5_method_8_code
def yX3_birthOf : MethodName := ⟨RX3, "birthOf", "(I)I"⟩
abbrev cX3_checksumOfNode : ByteArray := prog_5_method_9_code
def yX3_checksumOfNode : MethodName := ⟨RX3, "checksumOfNode", "(II)I"⟩
abbrev cX3_point : ByteArray := prog_5_method_10_code
def yX3_point : MethodName := ⟨RX3, "point", "(III)V"⟩
abbrev cX3_sign : ByteArray := prog_5_method_11_code
def yX3_sign : MethodName := ⟨RX3, "sign", "(III)V"⟩
abbrev cX3_drop : ByteArray := prog_5_method_12_code
def yX3_drop : MethodName := ⟨RX3, "drop", "(I)V"⟩
def RX4 : String := "Zfsmill"
def TX4 : u_T := fun k => match k with
  | 0 => ("Zfsmill", "cells", "LZfsmill$Cells;", true)
  | 1 => ("Zfsmill", "tree", "LZfsmill$Tree;", true)
  | 2 => ("Zfsmill", "open", "LZfsmill$OpenGroup;", true)
  | 3 => ("Zfsmill", "choice", "LZfsmill$Choice;", true)
  | 4 => ("Zfsmill", "copiesOfFile", "[I", true)
  | _ => ("Zfsmill", "healedSoFar", "I", false)
def tyX4 : Nat → FieldType := fun k => match k with
  | 0 => .object "Zfsmill$Cells"
  | 1 => .object "Zfsmill$Tree"
  | 2 => .object "Zfsmill$OpenGroup"
  | 3 => .object "Zfsmill$Choice"
  | 4 => .array .int
  | _ => .int
abbrev wsX40 : List Cond := u_ws RX4 TX4 6
theorem nmX4 : ∀ a, a < 6 → ∀ b, b < 6 → a ≠ b → (TX4 a).2.1 ≠ (TX4 b).2.1 := by decide +kernel
theorem tyX4_ok : ∀ k, k < 6 → parseFieldDescriptor (TX4 k).2.2.1 = some (tyX4 k) := by decide +kernel
abbrev cX4_init : ByteArray := prog_1_method_1_code
def yX4_init : MethodName := ⟨RX4, "<init>", "()V"⟩
abbrev cX4_write : ByteArray := prog_1_method_2_code
def yX4_write : MethodName := ⟨RX4, "write", "(III)I"⟩
abbrev cX4_punch : ByteArray := prog_1_method_3_code
def yX4_punch : MethodName := ⟨RX4, "punch", "(III)I"⟩
abbrev cX4_setCopies : ByteArray := prog_1_method_4_code
def yX4_setCopies : MethodName := ⟨RX4, "setCopies", "(II)I"⟩
abbrev cX4_read : ByteArray := prog_1_method_5_code
def yX4_read : MethodName := ⟨RX4, "read", "(II)I"⟩
abbrev cX4_nextData : ByteArray := prog_1_method_6_code
def yX4_nextData : MethodName := ⟨RX4, "nextData", "(II)I"⟩
abbrev cX4_nextHole : ByteArray := prog_1_method_7_code
def yX4_nextHole : MethodName := ⟨RX4, "nextHole", "(II)I"⟩
abbrev cX4_sync : ByteArray := prog_1_method_8_code
def yX4_sync : MethodName := ⟨RX4, "sync", "()I"⟩
abbrev cX4_abandon : ByteArray := prog_1_method_9_code
def yX4_abandon : MethodName := ⟨RX4, "abandon", "()I"⟩
abbrev cX4_group : ByteArray := prog_1_method_10_code
def yX4_group : MethodName := ⟨RX4, "group", "()I"⟩
abbrev cX4_buffered : ByteArray := prog_1_method_11_code
def yX4_buffered : MethodName := ⟨RX4, "buffered", "()I"⟩
abbrev cX4_offline : ByteArray := prog_1_method_12_code
def yX4_offline : MethodName := ⟨RX4, "offline", "(II)V"⟩
abbrev cX4_online : ByteArray := prog_1_method_13_code
def yX4_online : MethodName := ⟨RX4, "online", "(II)I"⟩
abbrev cX4_spoil : ByteArray := prog_1_method_14_code
def yX4_spoil : MethodName := ⟨RX4, "spoil", "(III)Z"⟩
abbrev cX4_isSpoilt : ByteArray := prog_1_method_15_code
def yX4_isSpoilt : MethodName := ⟨RX4, "isSpoilt", "(III)Z"⟩
abbrev cX4_isFree : ByteArray := prog_1_method_16_code
def yX4_isFree : MethodName := ⟨RX4, "isFree", "(II)Z"⟩
abbrev cX4_free : ByteArray := prog_1_method_17_code
def yX4_free : MethodName := ⟨RX4, "free", "(I)I"⟩
abbrev cX4_scrub : ByteArray := prog_1_method_18_code
def yX4_scrub : MethodName := ⟨RX4, "scrub", "()I"⟩
abbrev cX4_healed : ByteArray := prog_1_method_19_code
def yX4_healed : MethodName := ⟨RX4, "healed", "()I"⟩
abbrev cX4_lost : ByteArray := prog_1_method_20_code
def yX4_lost : MethodName := ⟨RX4, "lost", "()I"⟩
abbrev cX4_places : ByteArray := prog_1_method_21_code
def yX4_places : MethodName := ⟨RX4, "places", "(II)I"⟩
abbrev cX4_place : ByteArray := prog_1_method_22_code
def yX4_place : MethodName := ⟨RX4, "place", "(III)I"⟩
abbrev cX4_nodePlace : ByteArray := prog_1_method_23_code
def yX4_nodePlace : MethodName := ⟨RX4, "nodePlace", "(II)I"⟩
abbrev cX4_rootPlace : ByteArray := prog_1_method_24_code
def yX4_rootPlace : MethodName := ⟨RX4, "rootPlace", "(I)I"⟩
abbrev cX4_birth : ByteArray := prog_1_method_25_code
def yX4_birth : MethodName := ⟨RX4, "birth", "(II)I"⟩
abbrev cX4_checksum : ByteArray := prog_1_method_26_code
def yX4_checksum : MethodName := ⟨RX4, "checksum", "(I)I"⟩
abbrev cX4_rootChecksum : ByteArray := prog_1_method_27_code
def yX4_rootChecksum : MethodName := ⟨RX4, "rootChecksum", "()I"⟩
abbrev cX4_isFile : ByteArray := prog_1_method_28_code
def yX4_isFile : MethodName := ⟨RX4, "isFile", "(I)Z"⟩
abbrev cX4_isBlock : ByteArray := prog_1_method_29_code
def yX4_isBlock : MethodName := ⟨RX4, "isBlock", "(I)Z"⟩
abbrev cX4_isBlockOfFile : ByteArray := prog_1_method_30_code
def yX4_isBlockOfFile : MethodName := ⟨RX4, "isBlockOfFile", "(II)Z"⟩
abbrev cX4_isMirror : ByteArray := prog_1_method_31_code
def yX4_isMirror : MethodName := ⟨RX4, "isMirror", "(I)Z"⟩
abbrev cX4_isSideOfMirror : ByteArray := prog_1_method_32_code
def yX4_isSideOfMirror : MethodName := ⟨RX4, "isSideOfMirror", "(II)Z"⟩
abbrev cX4_isCell : ByteArray := prog_1_method_33_code
def yX4_isCell : MethodName := ⟨RX4, "isCell", "(I)Z"⟩
abbrev cX4_isPlaceNumber : ByteArray := prog_1_method_34_code
def yX4_isPlaceNumber : MethodName := ⟨RX4, "isPlaceNumber", "(I)Z"⟩
abbrev cX4_isCellOnSide : ByteArray := prog_1_method_35_code
def yX4_isCellOnSide : MethodName := ⟨RX4, "isCellOnSide", "(II)Z"⟩
abbrev cX4_isPointer : ByteArray := prog_1_method_36_code
def yX4_isPointer : MethodName := ⟨RX4, "isPointer", "(I)Z"⟩
abbrev cX4_isBlockPointer : ByteArray := prog_1_method_37_code
def yX4_isBlockPointer : MethodName := ⟨RX4, "isBlockPointer", "(I)Z"⟩
abbrev cX4_blockPointer : ByteArray := prog_1_method_38_code
def yX4_blockPointer : MethodName := ⟨RX4, "blockPointer", "(II)I"⟩
abbrev cX4_filePointer : ByteArray := prog_1_method_39_code
def yX4_filePointer : MethodName := ⟨RX4, "filePointer", "(I)I"⟩
abbrev cX4_placeNumber : ByteArray := prog_1_method_40_code
def yX4_placeNumber : MethodName := ⟨RX4, "placeNumber", "(II)I"⟩
abbrev cX4_mirrorOf : ByteArray := prog_1_method_41_code
def yX4_mirrorOf : MethodName := ⟨RX4, "mirrorOf", "(I)I"⟩
abbrev cX4_told : ByteArray := prog_1_method_42_code
def yX4_told : MethodName := ⟨RX4, "told", "(I)I"⟩
abbrev cX4_valueNow : ByteArray := prog_1_method_43_code
def yX4_valueNow : MethodName := ⟨RX4, "valueNow", "(II)I"⟩
abbrev cX4_hasData : ByteArray := prog_1_method_44_code
def yX4_hasData : MethodName := ⟨RX4, "hasData", "(I)Z"⟩
abbrev cX4_hasDataAnywhere : ByteArray := prog_1_method_45_code
def yX4_hasDataAnywhere : MethodName := ⟨RX4, "hasDataAnywhere", "()Z"⟩
abbrev cX4_canFetch : ByteArray := prog_1_method_46_code
def yX4_canFetch : MethodName := ⟨RX4, "canFetch", "(I)Z"⟩
abbrev cX4_isUnreadable : ByteArray := prog_1_method_47_code
def yX4_isUnreadable : MethodName := ⟨RX4, "isUnreadable", "(I)Z"⟩
abbrev cX4_healUpToGoodCell : ByteArray := prog_1_method_48_code
def yX4_healUpToGoodCell : MethodName := ⟨RX4, "healUpToGoodCell", "(I)I"⟩
abbrev cX4_healEveryCell : ByteArray := prog_1_method_49_code
def yX4_healEveryCell : MethodName := ⟨RX4, "healEveryCell", "(I)I"⟩
abbrev cX4_scrubFile : ByteArray := prog_1_method_50_code
def yX4_scrubFile : MethodName := ⟨RX4, "scrubFile", "(I)I"⟩
abbrev cX4_choosePlaces : ByteArray := prog_1_method_51_code
def yX4_choosePlaces : MethodName := ⟨RX4, "choosePlaces", "()Z"⟩
abbrev cX4_chooseForFile : ByteArray := prog_1_method_52_code
def yX4_chooseForFile : MethodName := ⟨RX4, "chooseForFile", "(I)Z"⟩
abbrev cX4_writeChanges : ByteArray := prog_1_method_53_code
def yX4_writeChanges : MethodName := ⟨RX4, "writeChanges", "()I"⟩
abbrev cX4_writeFile : ByteArray := prog_1_method_54_code
def yX4_writeFile : MethodName := ⟨RX4, "writeFile", "(I)I"⟩
abbrev cX4_repoint : ByteArray := prog_1_method_55_code
def yX4_repoint : MethodName := ⟨RX4, "repoint", "(II)I"⟩
abbrev cX4_freeWhatIsNotPointedTo : ByteArray := prog_1_method_56_code
def yX4_freeWhatIsNotPointedTo : MethodName := ⟨RX4, "freeWhatIsNotPointedTo", "()V"⟩
abbrev cX4_resilver : ByteArray := prog_1_method_57_code
def yX4_resilver : MethodName := ⟨RX4, "resilver", "(II)I"⟩
abbrev cX4_resilverFile : ByteArray := prog_1_method_58_code
def yX4_resilverFile : MethodName := ⟨RX4, "resilverFile", "(III)I"⟩
abbrev cX4_copyToSide : ByteArray := prog_1_method_59_code
def yX4_copyToSide : MethodName := ⟨RX4, "copyToSide", "(III)I"⟩
def RX5 : String := "ZfsmillModel"
def TX5 : u_T := fun k => match k with
  | _ => ("", "", "", false)
def tyX5 : Nat → FieldType := fun k => match k with
  | _ => .int
abbrev wsX50 : List Cond := u_ws RX5 TX5 0
theorem nmX5 : ∀ a, a < 0 → ∀ b, b < 0 → a ≠ b → (TX5 a).2.1 ≠ (TX5 b).2.1 := by decide +kernel
theorem tyX5_ok : ∀ k, k < 0 → parseFieldDescriptor (TX5 k).2.2.1 = some (tyX5 k) := by decide +kernel
def RJx145de : String := "java/io/Serializable"
def TJx145de : u_T := fun k => match k with
  | _ => ("", "", "", false)
def tyJx145de : Nat → FieldType := fun k => match k with
  | _ => .int
abbrev wsJx145de0 : List Cond := u_ws RJx145de TJx145de 0
theorem nmJx145de : ∀ a, a < 0 → ∀ b, b < 0 → a ≠ b → (TJx145de a).2.1 ≠ (TJx145de b).2.1 := by decide +kernel
theorem tyJx145de_ok : ∀ k, k < 0 → parseFieldDescriptor (TJx145de k).2.2.1 = some (tyJx145de k) := by decide +kernel
def RJ0 : String := "java/lang/String"
def TJ0 : u_T := fun k => match k with
  | _ => ("", "", "", false)
def tyJ0 : Nat → FieldType := fun k => match k with
  | _ => .int
abbrev wsJ00 : List Cond := u_ws RJ0 TJ0 0
theorem nmJ0 : ∀ a, a < 0 → ∀ b, b < 0 → a ≠ b → (TJ0 a).2.1 ≠ (TJ0 b).2.1 := by decide +kernel
theorem tyJ0_ok : ∀ k, k < 0 → parseFieldDescriptor (TJ0 k).2.2.1 = some (tyJ0 k) := by decide +kernel
def RJ7 : String := "java/util/Arrays"
def TJ7 : u_T := fun k => match k with
  | _ => ("", "", "", false)
def tyJ7 : Nat → FieldType := fun k => match k with
  | _ => .int
abbrev wsJ70 : List Cond := u_ws RJ7 TJ7 0
theorem nmJ7 : ∀ a, a < 0 → ∀ b, b < 0 → a ≠ b → (TJ7 a).2.1 ≠ (TJ7 b).2.1 := by decide +kernel
theorem tyJ7_ok : ∀ k, k < 0 → parseFieldDescriptor (TJ7 k).2.2.1 = some (tyJ7 k) := by decide +kernel
abbrev cJ7_fill_53178 : ByteArray := prog_15_method_103_code
def yJ7_fill_53178 : MethodName := ⟨RJ7, "fill", "([II)V"⟩
def RL : String := "ZfsmillLaw"
abbrev cL_writes : ByteArray := method_2_code
def yL_writes : MethodName := ⟨RL, "writes", "(LZfsmill;III)I"⟩
abbrev cL_punches : ByteArray := method_3_code
def yL_punches : MethodName := ⟨RL, "punches", "(LZfsmill;III)I"⟩
abbrev cL_doubles : ByteArray := method_4_code
def yL_doubles : MethodName := ⟨RL, "doubles", "(LZfsmill;II)I"⟩
abbrev cL_reads : ByteArray := method_5_code
def yL_reads : MethodName := ⟨RL, "reads", "(LZfsmill;II)I"⟩
abbrev cL_data : ByteArray := method_6_code
def yL_data : MethodName := ⟨RL, "data", "(LZfsmill;II)I"⟩
abbrev cL_hole : ByteArray := method_7_code
def yL_hole : MethodName := ⟨RL, "hole", "(LZfsmill;II)I"⟩
abbrev cL_syncs : ByteArray := method_8_code
def yL_syncs : MethodName := ⟨RL, "syncs", "(LZfsmill;)I"⟩
abbrev cL_leaves : ByteArray := method_9_code
def yL_leaves : MethodName := ⟨RL, "leaves", "(LZfsmill;II)I"⟩
abbrev cL_returns : ByteArray := method_10_code
def yL_returns : MethodName := ⟨RL, "returns", "(LZfsmill;II)I"⟩
abbrev cL_spoils : ByteArray := method_11_code
def yL_spoils : MethodName := ⟨RL, "spoils", "(LZfsmill;III)I"⟩
abbrev cL_spoilt : ByteArray := method_12_code
def yL_spoilt : MethodName := ⟨RL, "spoilt", "(LZfsmill;III)I"⟩
abbrev cL_isFree : ByteArray := method_13_code
def yL_isFree : MethodName := ⟨RL, "isFree", "(LZfsmill;II)I"⟩
abbrev cL_free : ByteArray := method_14_code
def yL_free : MethodName := ⟨RL, "free", "(LZfsmill;I)I"⟩
abbrev cL_places : ByteArray := method_15_code
def yL_places : MethodName := ⟨RL, "places", "(LZfsmill;II)I"⟩
abbrev cL_place : ByteArray := method_16_code
def yL_place : MethodName := ⟨RL, "place", "(LZfsmill;III)I"⟩
abbrev cL_nodePlace : ByteArray := method_17_code
def yL_nodePlace : MethodName := ⟨RL, "nodePlace", "(LZfsmill;II)I"⟩
abbrev cL_rootPlace : ByteArray := method_18_code
def yL_rootPlace : MethodName := ⟨RL, "rootPlace", "(LZfsmill;I)I"⟩
abbrev cL_birth : ByteArray := method_19_code
def yL_birth : MethodName := ⟨RL, "birth", "(LZfsmill;II)I"⟩
abbrev cL_sum : ByteArray := method_20_code
def yL_sum : MethodName := ⟨RL, "sum", "(LZfsmill;I)I"⟩
abbrev cL_drawn : ByteArray := method_21_code
def yL_drawn : MethodName := ⟨RL, "drawn", "([II)I"⟩
abbrev cL_refuses : ByteArray := method_22_code
def yL_refuses : MethodName := ⟨RL, "refuses", "(LZfsmill;I)Z"⟩
abbrev cL_act : ByteArray := method_23_code
def yL_act : MethodName := ⟨RL, "act", "(LZfsmill;I[I[I)I"⟩
abbrev cL_alike : ByteArray := method_24_code
def yL_alike : MethodName := ⟨RL, "alike", "(LZfsmill;LZfsmill;I)Z"⟩
abbrev cL_isOwn : ByteArray := method_25_code
def yL_isOwn : MethodName := ⟨RL, "isOwn", "(LZfsmill;[JI)Z"⟩
abbrev cL_holds : ByteArray := method_26_code
def yL_holds : MethodName := ⟨RL, "holds", "(LZfsmill;[I[I[J)Z"⟩
abbrev cL_isTrue : ByteArray := method_27_code
def yL_isTrue : MethodName := ⟨RL, "isTrue", "(LZfsmill;[I)Z"⟩
abbrev cL_law : ByteArray := code
def yL_law : MethodName := ⟨RL, "law", "([I)Z"⟩
abbrev cL_sides : ByteArray := method_29_code
def yL_sides : MethodName := ⟨RL, "sides", "(I)Z"⟩
theorem dJ7_fill_53178_0 : decode cJ7_fill_53178 0 = .ok (.iconst 0, 1) := by decide +kernel
theorem dJ7_fill_53178_1 : decode cJ7_fill_53178 1 = .ok (.istore_n 2, 1) := by decide +kernel
theorem dJ7_fill_53178_2 : decode cJ7_fill_53178 2 = .ok (.aload_n 0, 1) := by decide +kernel
theorem dJ7_fill_53178_3 : decode cJ7_fill_53178 3 = .ok (.arraylength, 1) := by decide +kernel
theorem dJ7_fill_53178_4 : decode cJ7_fill_53178 4 = .ok (.istore_n 3, 1) := by decide +kernel
theorem dJ7_fill_53178_5 : decode cJ7_fill_53178 5 = .ok (.iload_n 2, 1) := by decide +kernel
theorem dJ7_fill_53178_6 : decode cJ7_fill_53178 6 = .ok (.iload_n 3, 1) := by decide +kernel
theorem dJ7_fill_53178_7 : decode cJ7_fill_53178 7 = .ok (.if_icmp .ge 13, 3) := by decide +kernel
theorem dJ7_fill_53178_10 : decode cJ7_fill_53178 10 = .ok (.aload_n 0, 1) := by decide +kernel
theorem dJ7_fill_53178_11 : decode cJ7_fill_53178 11 = .ok (.iload_n 2, 1) := by decide +kernel
theorem dJ7_fill_53178_12 : decode cJ7_fill_53178 12 = .ok (.iload_n 1, 1) := by decide +kernel
theorem dJ7_fill_53178_13 : decode cJ7_fill_53178 13 = .ok (.iastore, 1) := by decide +kernel
theorem dJ7_fill_53178_14 : decode cJ7_fill_53178 14 = .ok (.iinc 2 1, 3) := by decide +kernel
theorem dJ7_fill_53178_17 : decode cJ7_fill_53178 17 = .ok (.goto (-12), 3) := by decide +kernel
theorem dJ7_fill_53178_20 : decode cJ7_fill_53178 20 = .ok (.return_, 1) := by decide +kernel
abbrev vwCl : List vw_C := [(RX0, TX0, 4), (RX1, TX1, 4), (RX2, TX2, 2), (RX3, TX3, 5), (RX4, TX4, 6)]
