def RX0 : String := "TalePlay$Acts"
def TX0 : u_T := fun k => match k with
  | 0 => ("TalePlay$Acts", "world", "LTalePlay$World;", true)
  | 1 => ("TalePlay$Acts", "book", "LTalePlay$Book;", true)
  | 2 => ("TalePlay$Acts", "roads", "LTalePlay$Roads;", true)
  | 3 => ("TalePlay$Acts", "bulks", "LTalePlay$Bulks;", true)
  | 4 => ("TalePlay$Acts", "scene", "LTalePlay$Scene;", true)
  | 5 => ("TalePlay$Acts", "sight", "LTalePlay$Sight;", true)
  | _ => ("TalePlay$Acts", "player", "I", false)
def tyX0 : Nat → FieldType := fun k => match k with
  | 0 => .object "TalePlay$World"
  | 1 => .object "TalePlay$Book"
  | 2 => .object "TalePlay$Roads"
  | 3 => .object "TalePlay$Bulks"
  | 4 => .object "TalePlay$Scene"
  | 5 => .object "TalePlay$Sight"
  | _ => .int
abbrev wsX00 : List Cond := u_ws RX0 TX0 7
theorem nmX0 : ∀ a, a < 7 → ∀ b, b < 7 → a ≠ b → (TX0 a).2.1 ≠ (TX0 b).2.1 := by decide +kernel
theorem tyX0_ok : ∀ k, k < 7 → parseFieldDescriptor (TX0 k).2.2.1 = some (tyX0 k) := by decide +kernel
abbrev cX0_init : ByteArray := prog_2_method_1_code
def yX0_init : MethodName := ⟨RX0, "<init>", "(LTalePlay$World;LTalePlay$Book;LTalePlay$Roads;LTalePlay$Bulks;LTalePlay$Sight;)V"⟩
abbrev cX0_hasX : ByteArray := prog_2_method_2_code
def yX0_hasX : MethodName := ⟨RX0, "hasX", "(I)Z"⟩
abbrev cX0_hasY : ByteArray := prog_2_method_3_code
def yX0_hasY : MethodName := ⟨RX0, "hasY", "(I)Z"⟩
abbrev cX0_reasonOfX : ByteArray := prog_2_method_4_code
def yX0_reasonOfX : MethodName := ⟨RX0, "reasonOfX", "(II)I"⟩
abbrev cX0_reasonOfY : ByteArray := prog_2_method_5_code
def yX0_reasonOfY : MethodName := ⟨RX0, "reasonOfY", "(III)I"⟩
abbrev cX0_isHeld : ByteArray := prog_2_method_6_code
def yX0_isHeld : MethodName := ⟨RX0, "isHeld", "(I)Z"⟩
abbrev cX0_isByRoom : ByteArray := prog_2_method_7_code
def yX0_isByRoom : MethodName := ⟨RX0, "isByRoom", "()Z"⟩
abbrev cX0_reasonToGo : ByteArray := prog_2_method_8_code
def yX0_reasonToGo : MethodName := ⟨RX0, "reasonToGo", "(I)I"⟩
abbrev cX0_reasonToTake : ByteArray := prog_2_method_9_code
def yX0_reasonToTake : MethodName := ⟨RX0, "reasonToTake", "(I)I"⟩
abbrev cX0_isAnothers : ByteArray := prog_2_method_10_code
def yX0_isAnothers : MethodName := ⟨RX0, "isAnothers", "(I)Z"⟩
abbrev cX0_reasonToPut : ByteArray := prog_2_method_11_code
def yX0_reasonToPut : MethodName := ⟨RX0, "reasonToPut", "(III)I"⟩
abbrev cX0_reasonOfShutter : ByteArray := prog_2_method_12_code
def yX0_reasonOfShutter : MethodName := ⟨RX0, "reasonOfShutter", "(II)I"⟩
abbrev cX0_reasonOfLeaf : ByteArray := prog_2_method_13_code
def yX0_reasonOfLeaf : MethodName := ⟨RX0, "reasonOfLeaf", "(IZZ)I"⟩
abbrev cX0_reasonOfKey : ByteArray := prog_2_method_14_code
def yX0_reasonOfKey : MethodName := ⟨RX0, "reasonOfKey", "(II)I"⟩
abbrev cX0_reasonToWear : ByteArray := prog_2_method_15_code
def yX0_reasonToWear : MethodName := ⟨RX0, "reasonToWear", "(I)I"⟩
abbrev cX0_reasonToEnter : ByteArray := prog_2_method_16_code
def yX0_reasonToEnter : MethodName := ⟨RX0, "reasonToEnter", "(I)I"⟩
abbrev cX0_reasonToLeave : ByteArray := prog_2_method_17_code
def yX0_reasonToLeave : MethodName := ⟨RX0, "reasonToLeave", "()I"⟩
abbrev cX0_subjectOf : ByteArray := prog_2_method_18_code
def yX0_subjectOf : MethodName := ⟨RX0, "subjectOf", "(II)I"⟩
abbrev cX0_outcomeOf : ByteArray := prog_2_method_19_code
def yX0_outcomeOf : MethodName := ⟨RX0, "outcomeOf", "(III)I"⟩
abbrev cX0_placedAs : ByteArray := prog_2_method_20_code
def yX0_placedAs : MethodName := ⟨RX0, "placedAs", "(II)I"⟩
def RX1 : String := "TalePlay$Book"
def TX1 : u_T := fun k => match k with
  | 0 => ("TalePlay$Book", "world", "LTalePlay$World;", true)
  | 1 => ("TalePlay$Book", "places", "LTalePlay$Scene;", true)
  | 2 => ("TalePlay$Book", "forms", "[I", true)
  | 3 => ("TalePlay$Book", "as", "[I", true)
  | 4 => ("TalePlay$Book", "bs", "[I", true)
  | 5 => ("TalePlay$Book", "cs", "[I", true)
  | 6 => ("TalePlay$Book", "said", "[Z", true)
  | 7 => ("TalePlay$Book", "placeBy", "[I", true)
  | 8 => ("TalePlay$Book", "exitBy", "[I", true)
  | 9 => ("TalePlay$Book", "flagBy", "[I", true)
  | 10 => ("TalePlay$Book", "keyBy", "[I", true)
  | 11 => ("TalePlay$Book", "clashRow", "[I", true)
  | 12 => ("TalePlay$Book", "clashes", "I", false)
  | 13 => ("TalePlay$Book", "total", "I", false)
  | _ => ("TalePlay$Book", "standing", "I", false)
def tyX1 : Nat → FieldType := fun k => match k with
  | 0 => .object "TalePlay$World"
  | 1 => .object "TalePlay$Scene"
  | 2 => .array .int
  | 3 => .array .int
  | 4 => .array .int
  | 5 => .array .int
  | 6 => .array .boolean
  | 7 => .array .int
  | 8 => .array .int
  | 9 => .array .int
  | 10 => .array .int
  | 11 => .array .int
  | 12 => .int
  | 13 => .int
  | _ => .int
abbrev wsX10 : List Cond := u_ws RX1 TX1 15
theorem nmX1 : ∀ a, a < 15 → ∀ b, b < 15 → a ≠ b → (TX1 a).2.1 ≠ (TX1 b).2.1 := by decide +kernel
theorem tyX1_ok : ∀ k, k < 15 → parseFieldDescriptor (TX1 k).2.2.1 = some (tyX1 k) := by decide +kernel
abbrev cX1_init : ByteArray := prog_3_method_1_code
def yX1_init : MethodName := ⟨RX1, "<init>", "(LTalePlay$World;)V"⟩
abbrev cX1_isWellFormed : ByteArray := prog_3_method_2_code
def yX1_isWellFormed : MethodName := ⟨RX1, "isWellFormed", "(IIII)Z"⟩
abbrev cX1_isFitting : ByteArray := prog_3_method_3_code
def yX1_isFitting : MethodName := ⟨RX1, "isFitting", "(III)Z"⟩
abbrev cX1_standingFor : ByteArray := prog_3_method_4_code
def yX1_standingFor : MethodName := ⟨RX1, "standingFor", "(IIII)I"⟩
abbrev cX1_findSame : ByteArray := prog_3_method_5_code
def yX1_findSame : MethodName := ⟨RX1, "findSame", "(IIII)I"⟩
abbrev cX1_write : ByteArray := prog_3_method_6_code
def yX1_write : MethodName := ⟨RX1, "write", "(IIII)I"⟩
abbrev cX1_strike : ByteArray := prog_3_method_7_code
def yX1_strike : MethodName := ⟨RX1, "strike", "(I)V"⟩
abbrev cX1_point : ByteArray := prog_3_method_8_code
def yX1_point : MethodName := ⟨RX1, "point", "(II)V"⟩
abbrev cX1_part : ByteArray := prog_3_method_9_code
def yX1_part : MethodName := ⟨RX1, "part", "(II)I"⟩
abbrev cX1_saidFlag : ByteArray := prog_3_method_10_code
def yX1_saidFlag : MethodName := ⟨RX1, "saidFlag", "(II)I"⟩
abbrev cX1_keyOf : ByteArray := prog_3_method_11_code
def yX1_keyOf : MethodName := ⟨RX1, "keyOf", "(I)I"⟩
abbrev cX1_clearClash : ByteArray := prog_3_method_12_code
def yX1_clearClash : MethodName := ⟨RX1, "clearClash", "()V"⟩
abbrev cX1_addClash : ByteArray := prog_3_method_13_code
def yX1_addClash : MethodName := ⟨RX1, "addClash", "(I)Z"⟩
abbrev cX1_isClashing : ByteArray := prog_3_method_14_code
def yX1_isClashing : MethodName := ⟨RX1, "isClashing", "(IIII)Z"⟩
abbrev cX1_isPlaceClashing : ByteArray := prog_3_method_15_code
def yX1_isPlaceClashing : MethodName := ⟨RX1, "isPlaceClashing", "(III)Z"⟩
abbrev cX1_addChain : ByteArray := prog_3_method_16_code
def yX1_addChain : MethodName := ⟨RX1, "addChain", "(II)V"⟩
abbrev cX1_isDoorClashing : ByteArray := prog_3_method_17_code
def yX1_isDoorClashing : MethodName := ⟨RX1, "isDoorClashing", "(II)Z"⟩
abbrev cX1_isFlagClashing : ByteArray := prog_3_method_18_code
def yX1_isFlagClashing : MethodName := ⟨RX1, "isFlagClashing", "(III)Z"⟩
abbrev cX1_saying : ByteArray := prog_3_method_19_code
def yX1_saying : MethodName := ⟨RX1, "saying", "(III)I"⟩
def RX2 : String := "TalePlay$Bulks"
def TX2 : u_T := fun k => match k with
  | 0 => ("TalePlay$Bulks", "world", "LTalePlay$World;", true)
  | 1 => ("TalePlay$Bulks", "trace", "[I", true)
  | 2 => ("TalePlay$Bulks", "traced", "I", false)
  | _ => ("TalePlay$Bulks", "tracing", "Z", false)
def tyX2 : Nat → FieldType := fun k => match k with
  | 0 => .object "TalePlay$World"
  | 1 => .array .int
  | 2 => .int
  | _ => .boolean
abbrev wsX20 : List Cond := u_ws RX2 TX2 4
theorem nmX2 : ∀ a, a < 4 → ∀ b, b < 4 → a ≠ b → (TX2 a).2.1 ≠ (TX2 b).2.1 := by decide +kernel
theorem tyX2_ok : ∀ k, k < 4 → parseFieldDescriptor (TX2 k).2.2.1 = some (tyX2 k) := by decide +kernel
abbrev cX2_init : ByteArray := prog_4_method_1_code
def yX2_init : MethodName := ⟨RX2, "<init>", "(LTalePlay$World;)V"⟩
abbrev cX2_clearTrace : ByteArray := prog_4_method_2_code
def yX2_clearTrace : MethodName := ⟨RX2, "clearTrace", "()V"⟩
abbrev cX2_weigh : ByteArray := prog_4_method_3_code
def yX2_weigh : MethodName := ⟨RX2, "weigh", "(LTalePlay$Scene;I)I"⟩
abbrev cX2_weighTraced : ByteArray := prog_4_method_4_code
def yX2_weighTraced : MethodName := ⟨RX2, "weighTraced", "(LTalePlay$Scene;I)I"⟩
abbrev cX2_weighAllOf : ByteArray := prog_4_method_5_code
def yX2_weighAllOf : MethodName := ⟨RX2, "weighAllOf", "(LTalePlay$Scene;I)I"⟩
abbrev cX2_weighBy : ByteArray := prog_4_method_6_code
def yX2_weighBy : MethodName := ⟨RX2, "weighBy", "(LTalePlay$Scene;II)I"⟩
abbrev cX2_weighThose : ByteArray := prog_4_method_7_code
def yX2_weighThose : MethodName := ⟨RX2, "weighThose", "(LTalePlay$Scene;III)I"⟩
abbrev cX2_noteBodies : ByteArray := prog_4_method_8_code
def yX2_noteBodies : MethodName := ⟨RX2, "noteBodies", "(I)V"⟩
abbrev cX2_note : ByteArray := prog_4_method_9_code
def yX2_note : MethodName := ⟨RX2, "note", "(I)V"⟩
def RX3 : String := "TalePlay$Casts"
def TX3 : u_T := fun k => match k with
  | 0 => ("TalePlay$Casts", "sorts", "[I", true)
  | 1 => ("TalePlay$Casts", "lengths", "[I", true)
  | 2 => ("TalePlay$Casts", "roles", "[I", true)
  | _ => ("TalePlay$Casts", "made", "I", false)
def tyX3 : Nat → FieldType := fun k => match k with
  | 0 => .array .int
  | 1 => .array .int
  | 2 => .array .int
  | _ => .int
abbrev wsX30 : List Cond := u_ws RX3 TX3 4
theorem nmX3 : ∀ a, a < 4 → ∀ b, b < 4 → a ≠ b → (TX3 a).2.1 ≠ (TX3 b).2.1 := by decide +kernel
theorem tyX3_ok : ∀ k, k < 4 → parseFieldDescriptor (TX3 k).2.2.1 = some (tyX3 k) := by decide +kernel
abbrev cX3_init : ByteArray := prog_5_method_1_code
def yX3_init : MethodName := ⟨RX3, "<init>", "()V"⟩
abbrev cX3_open : ByteArray := prog_5_method_2_code
def yX3_open : MethodName := ⟨RX3, "open", "(II)I"⟩
def RX4 : String := "TalePlay$Lines"
def TX4 : u_T := fun k => match k with
  | 0 => ("TalePlay$Lines", "sorts", "[I", true)
  | 1 => ("TalePlay$Lines", "lengths", "[I", true)
  | _ => ("TalePlay$Lines", "items", "[J", true)
def tyX4 : Nat → FieldType := fun k => match k with
  | 0 => .array .int
  | 1 => .array .int
  | _ => .array .long
abbrev wsX40 : List Cond := u_ws RX4 TX4 3
theorem nmX4 : ∀ a, a < 3 → ∀ b, b < 3 → a ≠ b → (TX4 a).2.1 ≠ (TX4 b).2.1 := by decide +kernel
theorem tyX4_ok : ∀ k, k < 3 → parseFieldDescriptor (TX4 k).2.2.1 = some (tyX4 k) := by decide +kernel
abbrev cX4_init : ByteArray := prog_6_method_1_code
def yX4_init : MethodName := ⟨RX4, "<init>", "()V"⟩
abbrev cX4_lay : ByteArray := prog_6_method_2_code
def yX4_lay : MethodName := ⟨RX4, "lay", "(III)V"⟩
abbrev cX4_isOther : ByteArray := prog_6_method_3_code
def yX4_isOther : MethodName := ⟨RX4, "isOther", "(II)Z"⟩
abbrev cX4_hasRun : ByteArray := prog_6_method_4_code
def yX4_hasRun : MethodName := ⟨RX4, "hasRun", "(III)Z"⟩
abbrev cX4_cutTo : ByteArray := prog_6_method_5_code
def yX4_cutTo : MethodName := ⟨RX4, "cutTo", "(IJ)J"⟩
abbrev cX4_floatBits : ByteArray := prog_6_method_6_code
def yX4_floatBits : MethodName := ⟨RX4, "floatBits", "(I)I"⟩
def RX5 : String := "TalePlay$Roads"
def TX5 : u_T := fun k => match k with
  | 0 => ("TalePlay$Roads", "world", "LTalePlay$World;", true)
  | 1 => ("TalePlay$Roads", "book", "LTalePlay$Book;", true)
  | 2 => ("TalePlay$Roads", "leads", "[I", true)
  | 3 => ("TalePlay$Roads", "doors", "[I", true)
  | 4 => ("TalePlay$Roads", "bys", "[I", true)
  | 5 => ("TalePlay$Roads", "implied", "[I", true)
  | 6 => ("TalePlay$Roads", "firstSides", "[I", true)
  | 7 => ("TalePlay$Roads", "secondSides", "[I", true)
  | 8 => ("TalePlay$Roads", "steps", "[I", true)
  | 9 => ("TalePlay$Roads", "firsts", "[I", true)
  | _ => ("TalePlay$Roads", "queue", "[I", true)
def tyX5 : Nat → FieldType := fun k => match k with
  | 0 => .object "TalePlay$World"
  | 1 => .object "TalePlay$Book"
  | 2 => .array .int
  | 3 => .array .int
  | 4 => .array .int
  | 5 => .array .int
  | 6 => .array .int
  | 7 => .array .int
  | 8 => .array .int
  | 9 => .array .int
  | _ => .array .int
abbrev wsX50 : List Cond := u_ws RX5 TX5 11
theorem nmX5 : ∀ a, a < 11 → ∀ b, b < 11 → a ≠ b → (TX5 a).2.1 ≠ (TX5 b).2.1 := by decide +kernel
theorem tyX5_ok : ∀ k, k < 11 → parseFieldDescriptor (TX5 k).2.2.1 = some (tyX5 k) := by decide +kernel
abbrev cX5_init : ByteArray := prog_7_method_1_code
def yX5_init : MethodName := ⟨RX5, "<init>", "(LTalePlay$World;LTalePlay$Book;)V"⟩
abbrev cX5_wipe : ByteArray := prog_7_method_2_code
def yX5_wipe : MethodName := ⟨RX5, "wipe", "()V"⟩
abbrev cX5_redrawFor : ByteArray := prog_7_method_3_code
def yX5_redrawFor : MethodName := ⟨RX5, "redrawFor", "(I)V"⟩
abbrev cX5_isDrawn : ByteArray := prog_7_method_4_code
def yX5_isDrawn : MethodName := ⟨RX5, "isDrawn", "(I)Z"⟩
abbrev cX5_drawSaid : ByteArray := prog_7_method_5_code
def yX5_drawSaid : MethodName := ⟨RX5, "drawSaid", "()V"⟩
abbrev cX5_drawTarget : ByteArray := prog_7_method_6_code
def yX5_drawTarget : MethodName := ⟨RX5, "drawTarget", "(III)V"⟩
abbrev cX5_drawImplied : ByteArray := prog_7_method_7_code
def yX5_drawImplied : MethodName := ⟨RX5, "drawImplied", "()V"⟩
abbrev cX5_drawThroughDoors : ByteArray := prog_7_method_8_code
def yX5_drawThroughDoors : MethodName := ⟨RX5, "drawThroughDoors", "()V"⟩
abbrev cX5_tellOf : ByteArray := prog_7_method_9_code
def yX5_tellOf : MethodName := ⟨RX5, "tellOf", "(II)I"⟩
abbrev cX5_isSide : ByteArray := prog_7_method_10_code
def yX5_isSide : MethodName := ⟨RX5, "isSide", "(II)Z"⟩
abbrev cX5_walkFrom : ByteArray := prog_7_method_11_code
def yX5_walkFrom : MethodName := ⟨RX5, "walkFrom", "(IZ)V"⟩
abbrev cX5_isPassable : ByteArray := prog_7_method_12_code
def yX5_isPassable : MethodName := ⟨RX5, "isPassable", "(IZ)Z"⟩
def RX6 : String := "TalePlay$Scene"
def TX6 : u_T := fun k => match k with
  | 0 => ("TalePlay$Scene", "world", "LTalePlay$World;", true)
  | _ => ("TalePlay$Scene", "cells", "[I", true)
def tyX6 : Nat → FieldType := fun k => match k with
  | 0 => .object "TalePlay$World"
  | _ => .array .int
abbrev wsX60 : List Cond := u_ws RX6 TX6 2
theorem nmX6 : ∀ a, a < 2 → ∀ b, b < 2 → a ≠ b → (TX6 a).2.1 ≠ (TX6 b).2.1 := by decide +kernel
theorem tyX6_ok : ∀ k, k < 2 → parseFieldDescriptor (TX6 k).2.2.1 = some (tyX6 k) := by decide +kernel
abbrev cX6_init : ByteArray := prog_8_method_1_code
def yX6_init : MethodName := ⟨RX6, "<init>", "(LTalePlay$World;)V"⟩
abbrev cX6_placed : ByteArray := prog_8_method_2_code
def yX6_placed : MethodName := ⟨RX6, "placed", "(III)I"⟩
abbrev cX6_flagged : ByteArray := prog_8_method_3_code
def yX6_flagged : MethodName := ⟨RX6, "flagged", "(IIZ)I"⟩
abbrev cX6_formOf : ByteArray := prog_8_method_4_code
def yX6_formOf : MethodName := ⟨RX6, "formOf", "(I)I"⟩
abbrev cX6_holderOf : ByteArray := prog_8_method_5_code
def yX6_holderOf : MethodName := ⟨RX6, "holderOf", "(I)I"⟩
abbrev cX6_lies : ByteArray := prog_8_method_6_code
def yX6_lies : MethodName := ⟨RX6, "lies", "(III)Z"⟩
abbrev cX6_has : ByteArray := prog_8_method_7_code
def yX6_has : MethodName := ⟨RX6, "has", "(II)Z"⟩
abbrev cX6_isUp : ByteArray := prog_8_method_8_code
def yX6_isUp : MethodName := ⟨RX6, "isUp", "(II)Z"⟩
abbrev cX6_roomOf : ByteArray := prog_8_method_9_code
def yX6_roomOf : MethodName := ⟨RX6, "roomOf", "(I)I"⟩
abbrev cX6_countOf : ByteArray := prog_8_method_10_code
def yX6_countOf : MethodName := ⟨RX6, "countOf", "(II)I"⟩
def RX7 : String := "TalePlay$Seeker"
def TX7 : u_T := fun k => match k with
  | 0 => ("TalePlay$Seeker", "world", "LTalePlay$World;", true)
  | 1 => ("TalePlay$Seeker", "scene", "LTalePlay$Scene;", true)
  | 2 => ("TalePlay$Seeker", "sight", "LTalePlay$Sight;", true)
  | 3 => ("TalePlay$Seeker", "acts", "LTalePlay$Acts;", true)
  | 4 => ("TalePlay$Seeker", "kept", "[I", true)
  | 5 => ("TalePlay$Seeker", "marks", "[I", true)
  | 6 => ("TalePlay$Seeker", "slots", "[I", true)
  | 7 => ("TalePlay$Seeker", "parents", "[I", true)
  | 8 => ("TalePlay$Seeker", "deeds", "[I", true)
  | 9 => ("TalePlay$Seeker", "play", "[I", true)
  | 10 => ("TalePlay$Seeker", "playLength", "I", false)
  | 11 => ("TalePlay$Seeker", "states", "I", false)
  | 12 => ("TalePlay$Seeker", "found", "I", false)
  | 13 => ("TalePlay$Seeker", "goalThing", "I", false)
  | _ => ("TalePlay$Seeker", "goalHolder", "I", false)
def tyX7 : Nat → FieldType := fun k => match k with
  | 0 => .object "TalePlay$World"
  | 1 => .object "TalePlay$Scene"
  | 2 => .object "TalePlay$Sight"
  | 3 => .object "TalePlay$Acts"
  | 4 => .array .int
  | 5 => .array .int
  | 6 => .array .int
  | 7 => .array .int
  | 8 => .array .int
  | 9 => .array .int
  | 10 => .int
  | 11 => .int
  | 12 => .int
  | 13 => .int
  | _ => .int
abbrev wsX70 : List Cond := u_ws RX7 TX7 15
theorem nmX7 : ∀ a, a < 15 → ∀ b, b < 15 → a ≠ b → (TX7 a).2.1 ≠ (TX7 b).2.1 := by decide +kernel
theorem tyX7_ok : ∀ k, k < 15 → parseFieldDescriptor (TX7 k).2.2.1 = some (tyX7 k) := by decide +kernel
abbrev cX7_init : ByteArray := prog_9_method_1_code
def yX7_init : MethodName := ⟨RX7, "<init>", "(LTalePlay$World;LTalePlay$Book;LTalePlay$Roads;LTalePlay$Bulks;)V"⟩
abbrev cX7_startFrom : ByteArray := prog_9_method_2_code
def yX7_startFrom : MethodName := ⟨RX7, "startFrom", "(LTalePlay$Scene;I)V"⟩
abbrev cX7_search : ByteArray := prog_9_method_3_code
def yX7_search : MethodName := ⟨RX7, "search", "(III)I"⟩
abbrev cX7_isEnded : ByteArray := prog_9_method_4_code
def yX7_isEnded : MethodName := ⟨RX7, "isEnded", "()Z"⟩
abbrev cX7_tryFrom : ByteArray := prog_9_method_5_code
def yX7_tryFrom : MethodName := ⟨RX7, "tryFrom", "(I)V"⟩
abbrev cX7_tryWith : ByteArray := prog_9_method_6_code
def yX7_tryWith : MethodName := ⟨RX7, "tryWith", "(III)V"⟩
abbrev cX7_step : ByteArray := prog_9_method_7_code
def yX7_step : MethodName := ⟨RX7, "step", "(IIII)V"⟩
abbrev cX7_keep : ByteArray := prog_9_method_8_code
def yX7_keep : MethodName := ⟨RX7, "keep", "(IIII)V"⟩
abbrev cX7_weightOf : ByteArray := prog_9_method_9_code
def yX7_weightOf : MethodName := ⟨RX7, "weightOf", "(I)I"⟩
abbrev cX7_markOfScene : ByteArray := prog_9_method_10_code
def yX7_markOfScene : MethodName := ⟨RX7, "markOfScene", "()I"⟩
abbrev cX7_slotFor : ByteArray := prog_9_method_11_code
def yX7_slotFor : MethodName := ⟨RX7, "slotFor", "(I)I"⟩
abbrev cX7_isScene : ByteArray := prog_9_method_12_code
def yX7_isScene : MethodName := ⟨RX7, "isScene", "(I)Z"⟩
abbrev cX7_tellPlay : ByteArray := prog_9_method_13_code
def yX7_tellPlay : MethodName := ⟨RX7, "tellPlay", "()V"⟩
def RX8 : String := "TalePlay$Sight"
def TX8 : u_T := fun k => match k with
  | 0 => ("TalePlay$Sight", "world", "LTalePlay$World;", true)
  | 1 => ("TalePlay$Sight", "roads", "LTalePlay$Roads;", true)
  | 2 => ("TalePlay$Sight", "scene", "LTalePlay$Scene;", true)
  | 3 => ("TalePlay$Sight", "seen", "[Z", true)
  | 4 => ("TalePlay$Sight", "reached", "[Z", true)
  | _ => ("TalePlay$Sight", "bright", "Z", false)
def tyX8 : Nat → FieldType := fun k => match k with
  | 0 => .object "TalePlay$World"
  | 1 => .object "TalePlay$Roads"
  | 2 => .object "TalePlay$Scene"
  | 3 => .array .boolean
  | 4 => .array .boolean
  | _ => .boolean
abbrev wsX80 : List Cond := u_ws RX8 TX8 6
theorem nmX8 : ∀ a, a < 6 → ∀ b, b < 6 → a ≠ b → (TX8 a).2.1 ≠ (TX8 b).2.1 := by decide +kernel
theorem tyX8_ok : ∀ k, k < 6 → parseFieldDescriptor (TX8 k).2.2.1 = some (tyX8 k) := by decide +kernel
abbrev cX8_init : ByteArray := prog_10_method_1_code
def yX8_init : MethodName := ⟨RX8, "<init>", "(LTalePlay$World;LTalePlay$Roads;LTalePlay$Scene;)V"⟩
abbrev cX8_look : ByteArray := prog_10_method_2_code
def yX8_look : MethodName := ⟨RX8, "look", "(I)V"⟩
abbrev cX8_isCover : ByteArray := prog_10_method_3_code
def yX8_isCover : MethodName := ⟨RX8, "isCover", "(IZ)Z"⟩
abbrev cX8_shellOf : ByteArray := prog_10_method_4_code
def yX8_shellOf : MethodName := ⟨RX8, "shellOf", "(IZ)I"⟩
abbrev cX8_isInView : ByteArray := prog_10_method_5_code
def yX8_isInView : MethodName := ⟨RX8, "isInView", "(IIZ)Z"⟩
def RX9 : String := "TalePlay$Tale"
def TX9 : u_T := fun k => match k with
  | 0 => ("TalePlay$Tale", "world", "LTalePlay$World;", true)
  | 1 => ("TalePlay$Tale", "book", "LTalePlay$Book;", true)
  | 2 => ("TalePlay$Tale", "scene", "LTalePlay$Scene;", true)
  | 3 => ("TalePlay$Tale", "sight", "LTalePlay$Sight;", true)
  | 4 => ("TalePlay$Tale", "acts", "LTalePlay$Acts;", true)
  | 5 => ("TalePlay$Tale", "deeds", "[I", true)
  | 6 => ("TalePlay$Tale", "subjects", "[I", true)
  | 7 => ("TalePlay$Tale", "formerCells", "[I", true)
  | 8 => ("TalePlay$Tale", "there", "Z", false)
  | 9 => ("TalePlay$Tale", "player", "I", false)
  | _ => ("TalePlay$Tale", "turns", "I", false)
def tyX9 : Nat → FieldType := fun k => match k with
  | 0 => .object "TalePlay$World"
  | 1 => .object "TalePlay$Book"
  | 2 => .object "TalePlay$Scene"
  | 3 => .object "TalePlay$Sight"
  | 4 => .object "TalePlay$Acts"
  | 5 => .array .int
  | 6 => .array .int
  | 7 => .array .int
  | 8 => .boolean
  | 9 => .int
  | _ => .int
abbrev wsX90 : List Cond := u_ws RX9 TX9 11
theorem nmX9 : ∀ a, a < 11 → ∀ b, b < 11 → a ≠ b → (TX9 a).2.1 ≠ (TX9 b).2.1 := by decide +kernel
theorem tyX9_ok : ∀ k, k < 11 → parseFieldDescriptor (TX9 k).2.2.1 = some (tyX9 k) := by decide +kernel
abbrev cX9_init : ByteArray := prog_11_method_1_code
def yX9_init : MethodName := ⟨RX9, "<init>", "(LTalePlay$World;LTalePlay$Book;LTalePlay$Roads;LTalePlay$Bulks;)V"⟩
abbrev cX9_start : ByteArray := prog_11_method_2_code
def yX9_start : MethodName := ⟨RX9, "start", "(I)V"⟩
abbrev cX9_cellAsSaid : ByteArray := prog_11_method_3_code
def yX9_cellAsSaid : MethodName := ⟨RX9, "cellAsSaid", "(I)I"⟩
abbrev cX9_end : ByteArray := prog_11_method_4_code
def yX9_end : MethodName := ⟨RX9, "end", "()V"⟩
abbrev cX9_isAct : ByteArray := prog_11_method_5_code
def yX9_isAct : MethodName := ⟨RX9, "isAct", "(III)Z"⟩
abbrev cX9_play : ByteArray := prog_11_method_6_code
def yX9_play : MethodName := ⟨RX9, "play", "(III)I"⟩
abbrev cX9_doIt : ByteArray := prog_11_method_7_code
def yX9_doIt : MethodName := ⟨RX9, "doIt", "(III)V"⟩
abbrev cX9_undo : ByteArray := prog_11_method_8_code
def yX9_undo : MethodName := ⟨RX9, "undo", "()V"⟩
abbrev cX9_tellOf : ByteArray := prog_11_method_9_code
def yX9_tellOf : MethodName := ⟨RX9, "tellOf", "(II)I"⟩
def RX10 : String := "TalePlay$World"
def TX10 : u_T := fun k => match k with
  | 0 => ("TalePlay$World", "parents", "[I", true)
  | 1 => ("TalePlay$World", "sorts", "[I", true)
  | 2 => ("TalePlay$World", "standards", "[I", true)
  | 3 => ("TalePlay$World", "kindOf", "[I", true)
  | 4 => ("TalePlay$World", "sizeOf", "[I", true)
  | 5 => ("TalePlay$World", "kinds", "I", false)
  | _ => ("TalePlay$World", "objects", "I", false)
def tyX10 : Nat → FieldType := fun k => match k with
  | 0 => .array .int
  | 1 => .array .int
  | 2 => .array .int
  | 3 => .array .int
  | 4 => .array .int
  | 5 => .int
  | _ => .int
abbrev wsX100 : List Cond := u_ws RX10 TX10 7
theorem nmX10 : ∀ a, a < 7 → ∀ b, b < 7 → a ≠ b → (TX10 a).2.1 ≠ (TX10 b).2.1 := by decide +kernel
theorem tyX10_ok : ∀ k, k < 7 → parseFieldDescriptor (TX10 k).2.2.1 = some (tyX10 k) := by decide +kernel
abbrev cX10_init : ByteArray := prog_12_method_1_code
def yX10_init : MethodName := ⟨RX10, "<init>", "()V"⟩
abbrev cX10_hasKind : ByteArray := prog_12_method_2_code
def yX10_hasKind : MethodName := ⟨RX10, "hasKind", "(I)Z"⟩
abbrev cX10_hasObject : ByteArray := prog_12_method_3_code
def yX10_hasObject : MethodName := ⟨RX10, "hasObject", "(I)Z"⟩
abbrev cX10_addKind : ByteArray := prog_12_method_4_code
def yX10_addKind : MethodName := ⟨RX10, "addKind", "(I)I"⟩
abbrev cX10_addObject : ByteArray := prog_12_method_5_code
def yX10_addObject : MethodName := ⟨RX10, "addObject", "(II)I"⟩
abbrev cX10_changeStandard : ByteArray := prog_12_method_6_code
def yX10_changeStandard : MethodName := ⟨RX10, "changeStandard", "(III)I"⟩
abbrev cX10_kindIs : ByteArray := prog_12_method_7_code
def yX10_kindIs : MethodName := ⟨RX10, "kindIs", "(II)Z"⟩
abbrev cX10_sortOf : ByteArray := prog_12_method_8_code
def yX10_sortOf : MethodName := ⟨RX10, "sortOf", "(I)I"⟩
abbrev cX10_isOfSort : ByteArray := prog_12_method_9_code
def yX10_isOfSort : MethodName := ⟨RX10, "isOfSort", "(II)Z"⟩
abbrev cX10_isMovable : ByteArray := prog_12_method_10_code
def yX10_isMovable : MethodName := ⟨RX10, "isMovable", "(I)Z"⟩
abbrev cX10_isGoods : ByteArray := prog_12_method_11_code
def yX10_isGoods : MethodName := ⟨RX10, "isGoods", "(I)Z"⟩
abbrev cX10_isShutter : ByteArray := prog_12_method_12_code
def yX10_isShutter : MethodName := ⟨RX10, "isShutter", "(I)Z"⟩
abbrev cX10_canHave : ByteArray := prog_12_method_13_code
def yX10_canHave : MethodName := ⟨RX10, "canHave", "(II)Z"⟩
abbrev cX10_standardFor : ByteArray := prog_12_method_14_code
def yX10_standardFor : MethodName := ⟨RX10, "standardFor", "(II)I"⟩
def RX11 : String := "TalePlay"
def TX11 : u_T := fun k => match k with
  | 0 => ("TalePlay", "world", "LTalePlay$World;", true)
  | 1 => ("TalePlay", "book", "LTalePlay$Book;", true)
  | 2 => ("TalePlay", "roads", "LTalePlay$Roads;", true)
  | 3 => ("TalePlay", "bulks", "LTalePlay$Bulks;", true)
  | 4 => ("TalePlay", "tale", "LTalePlay$Tale;", true)
  | 5 => ("TalePlay", "lines", "LTalePlay$Lines;", true)
  | 6 => ("TalePlay", "casts", "LTalePlay$Casts;", true)
  | 7 => ("TalePlay", "seeker", "LTalePlay$Seeker;", false)
  | 8 => ("TalePlay", "findingCounts", "[I", true)
  | 9 => ("TalePlay", "latestFinding", "I", false)
  | _ => ("TalePlay", "told", "J", false)
def tyX11 : Nat → FieldType := fun k => match k with
  | 0 => .object "TalePlay$World"
  | 1 => .object "TalePlay$Book"
  | 2 => .object "TalePlay$Roads"
  | 3 => .object "TalePlay$Bulks"
  | 4 => .object "TalePlay$Tale"
  | 5 => .object "TalePlay$Lines"
  | 6 => .object "TalePlay$Casts"
  | 7 => .object "TalePlay$Seeker"
  | 8 => .array .int
  | 9 => .int
  | _ => .long
abbrev wsX110 : List Cond := u_ws RX11 TX11 11
theorem nmX11 : ∀ a, a < 11 → ∀ b, b < 11 → a ≠ b → (TX11 a).2.1 ≠ (TX11 b).2.1 := by decide +kernel
theorem tyX11_ok : ∀ k, k < 11 → parseFieldDescriptor (TX11 k).2.2.1 = some (tyX11 k) := by decide +kernel
abbrev cX11_init : ByteArray := prog_1_method_1_code
def yX11_init : MethodName := ⟨RX11, "<init>", "()V"⟩
abbrev cX11_kind : ByteArray := prog_1_method_2_code
def yX11_kind : MethodName := ⟨RX11, "kind", "(I)I"⟩
abbrev cX11_standard : ByteArray := prog_1_method_3_code
def yX11_standard : MethodName := ⟨RX11, "standard", "(III)I"⟩
abbrev cX11_make : ByteArray := prog_1_method_4_code
def yX11_make : MethodName := ⟨RX11, "make", "(II)I"⟩
abbrev cX11_is : ByteArray := prog_1_method_5_code
def yX11_is : MethodName := ⟨RX11, "is", "(II)I"⟩
abbrev cX11_bulk : ByteArray := prog_1_method_6_code
def yX11_bulk : MethodName := ⟨RX11, "bulk", "(I)I"⟩
abbrev cX11_asked : ByteArray := prog_1_method_7_code
def yX11_asked : MethodName := ⟨RX11, "asked", "()J"⟩
abbrev cX11_trace : ByteArray := prog_1_method_8_code
def yX11_trace : MethodName := ⟨RX11, "trace", "(I)I"⟩
abbrev cX11_share : ByteArray := prog_1_method_9_code
def yX11_share : MethodName := ⟨RX11, "share", "(II)I"⟩
abbrev cX11_say : ByteArray := prog_1_method_10_code
def yX11_say : MethodName := ⟨RX11, "say", "(IIII)I"⟩
abbrev cX11_unsay : ByteArray := prog_1_method_11_code
def yX11_unsay : MethodName := ⟨RX11, "unsay", "(I)I"⟩
abbrev cX11_clash : ByteArray := prog_1_method_12_code
def yX11_clash : MethodName := ⟨RX11, "clash", "(I)I"⟩
abbrev cX11_sentence : ByteArray := prog_1_method_13_code
def yX11_sentence : MethodName := ⟨RX11, "sentence", "(II)I"⟩
abbrev cX11_place : ByteArray := prog_1_method_14_code
def yX11_place : MethodName := ⟨RX11, "place", "(II)I"⟩
abbrev cX11_exit : ByteArray := prog_1_method_15_code
def yX11_exit : MethodName := ⟨RX11, "exit", "(III)I"⟩
abbrev cX11_flag : ByteArray := prog_1_method_16_code
def yX11_flag : MethodName := ⟨RX11, "flag", "(II)I"⟩
abbrev cX11_key : ByteArray := prog_1_method_17_code
def yX11_key : MethodName := ⟨RX11, "key", "(I)I"⟩
abbrev cX11_way : ByteArray := prog_1_method_18_code
def yX11_way : MethodName := ⟨RX11, "way", "(IIZ)I"⟩
abbrev cX11_toward : ByteArray := prog_1_method_19_code
def yX11_toward : MethodName := ⟨RX11, "toward", "(IIZ)I"⟩
abbrev cX11_begin : ByteArray := prog_1_method_20_code
def yX11_begin : MethodName := ⟨RX11, "begin", "(I)I"⟩
abbrev cX11_act : ByteArray := prog_1_method_21_code
def yX11_act : MethodName := ⟨RX11, "act", "(III)I"⟩
abbrev cX11_back : ByteArray := prog_1_method_22_code
def yX11_back : MethodName := ⟨RX11, "back", "()I"⟩
abbrev cX11_now : ByteArray := prog_1_method_23_code
def yX11_now : MethodName := ⟨RX11, "now", "(II)I"⟩
abbrev cX11_turn : ByteArray := prog_1_method_24_code
def yX11_turn : MethodName := ⟨RX11, "turn", "(II)I"⟩
abbrev cX11_light : ByteArray := prog_1_method_25_code
def yX11_light : MethodName := ⟨RX11, "light", "()I"⟩
abbrev cX11_seek : ByteArray := prog_1_method_26_code
def yX11_seek : MethodName := ⟨RX11, "seek", "(III)I"⟩
abbrev cX11_sought : ByteArray := prog_1_method_27_code
def yX11_sought : MethodName := ⟨RX11, "sought", "(II)I"⟩
abbrev cX11_line : ByteArray := prog_1_method_28_code
def yX11_line : MethodName := ⟨RX11, "line", "(III)I"⟩
abbrev cX11_put : ByteArray := prog_1_method_29_code
def yX11_put : MethodName := ⟨RX11, "put", "(IIIJ)I"⟩
abbrev cX11_item : ByteArray := prog_1_method_30_code
def yX11_item : MethodName := ⟨RX11, "item", "(III)I"⟩
abbrev cX11_copy : ByteArray := prog_1_method_31_code
def yX11_copy : MethodName := ⟨RX11, "copy", "(IIIIII)I"⟩
abbrev cX11_cast : ByteArray := prog_1_method_32_code
def yX11_cast : MethodName := ⟨RX11, "cast", "(II)I"⟩
abbrev cX11_role : ByteArray := prog_1_method_33_code
def yX11_role : MethodName := ⟨RX11, "role", "(III)I"⟩
abbrev cX11_who : ByteArray := prog_1_method_34_code
def yX11_who : MethodName := ⟨RX11, "who", "(II)I"⟩
abbrev cX11_count : ByteArray := prog_1_method_35_code
def yX11_count : MethodName := ⟨RX11, "count", "(I)I"⟩
abbrev cX11_finding : ByteArray := prog_1_method_36_code
def yX11_finding : MethodName := ⟨RX11, "finding", "()I"⟩
abbrev cX11_findings : ByteArray := prog_1_method_37_code
def yX11_findings : MethodName := ⟨RX11, "findings", "(I)I"⟩
abbrev cX11_digest : ByteArray := prog_1_method_38_code
def yX11_digest : MethodName := ⟨RX11, "digest", "()J"⟩
abbrev cX11_digestKinds : ByteArray := prog_1_method_39_code
def yX11_digestKinds : MethodName := ⟨RX11, "digestKinds", "(J)J"⟩
abbrev cX11_digestObjects : ByteArray := prog_1_method_40_code
def yX11_digestObjects : MethodName := ⟨RX11, "digestObjects", "(J)J"⟩
abbrev cX11_digestSentences : ByteArray := prog_1_method_41_code
def yX11_digestSentences : MethodName := ⟨RX11, "digestSentences", "(J)J"⟩
abbrev cX11_answerFinding : ByteArray := prog_1_method_42_code
def yX11_answerFinding : MethodName := ⟨RX11, "answerFinding", "(I)I"⟩
abbrev cX11_places : ByteArray := prog_1_method_43_code
def yX11_places : MethodName := ⟨RX11, "places", "()LTalePlay$Scene;"⟩
abbrev cX11_refuseRooms : ByteArray := prog_1_method_44_code
def yX11_refuseRooms : MethodName := ⟨RX11, "refuseRooms", "(II)I"⟩
abbrev cX11_refuseItem : ByteArray := prog_1_method_45_code
def yX11_refuseItem : MethodName := ⟨RX11, "refuseItem", "(III)I"⟩
abbrev cX11_isBelow : ByteArray := prog_1_method_46_code
def yX11_isBelow : MethodName := ⟨RX11, "isBelow", "(II)Z"⟩
abbrev cX11_oneIf : ByteArray := prog_1_method_47_code
def yX11_oneIf : MethodName := ⟨RX11, "oneIf", "(Z)I"⟩
abbrev cX11_deedOf : ByteArray := prog_1_method_48_code
def yX11_deedOf : MethodName := ⟨RX11, "deedOf", "(III)I"⟩
abbrev cX11_deedPart : ByteArray := prog_1_method_49_code
def yX11_deedPart : MethodName := ⟨RX11, "deedPart", "(II)I"⟩
def RX12 : String := "TalePlayModel"
def TX12 : u_T := fun k => match k with
  | 0 => ("TalePlayModel", "latest", "I", false)
  | 1 => ("TalePlayModel", "came", "[I", true)
  | 2 => ("TalePlayModel", "kinds", "I", false)
  | 3 => ("TalePlayModel", "parentOf", "[I", true)
  | 4 => ("TalePlayModel", "defaults", "[I", true)
  | 5 => ("TalePlayModel", "objects", "I", false)
  | 6 => ("TalePlayModel", "kindOf", "[I", true)
  | 7 => ("TalePlayModel", "sizeOf", "[I", true)
  | 8 => ("TalePlayModel", "sentences", "I", false)
  | 9 => ("TalePlayModel", "form", "[I", true)
  | 10 => ("TalePlayModel", "left", "[I", true)
  | 11 => ("TalePlayModel", "middle", "[I", true)
  | 12 => ("TalePlayModel", "right", "[I", true)
  | 13 => ("TalePlayModel", "isSaid", "[Z", true)
  | 14 => ("TalePlayModel", "row", "[I", true)
  | 15 => ("TalePlayModel", "rowMany", "I", false)
  | 16 => ("TalePlayModel", "leads", "I", false)
  | 17 => ("TalePlayModel", "byDoor", "I", false)
  | 18 => ("TalePlayModel", "bySentence", "I", false)
  | 19 => ("TalePlayModel", "isImplied", "Z", false)
  | 20 => ("TalePlayModel", "far", "[I", true)
  | 21 => ("TalePlayModel", "line", "[I", true)
  | 22 => ("TalePlayModel", "player", "I", false)
  | 23 => ("TalePlayModel", "nForm", "[I", true)
  | 24 => ("TalePlayModel", "nAt", "[I", true)
  | 25 => ("TalePlayModel", "nOpen", "[Z", true)
  | 26 => ("TalePlayModel", "nLocked", "[Z", true)
  | 27 => ("TalePlayModel", "turns", "I", false)
  | 28 => ("TalePlayModel", "turnRow", "[I", true)
  | 29 => ("TalePlayModel", "wasForm", "[I", true)
  | 30 => ("TalePlayModel", "wasAt", "[I", true)
  | 31 => ("TalePlayModel", "wasOpen", "[Z", true)
  | 32 => ("TalePlayModel", "wasLocked", "[Z", true)
  | 33 => ("TalePlayModel", "traces", "Z", false)
  | 34 => ("TalePlayModel", "trace", "[I", true)
  | 35 => ("TalePlayModel", "traced", "I", false)
  | 36 => ("TalePlayModel", "isNought", "Z", false)
  | 37 => ("TalePlayModel", "asked", "J", false)
  | 38 => ("TalePlayModel", "pile", "[I", true)
  | 39 => ("TalePlayModel", "nextIn", "[I", true)
  | 40 => ("TalePlayModel", "shell", "I", false)
  | 41 => ("TalePlayModel", "handShell", "I", false)
  | 42 => ("TalePlayModel", "isLight", "Z", false)
  | 43 => ("TalePlayModel", "seen", "[Z", true)
  | 44 => ("TalePlayModel", "reached", "[Z", true)
  | 45 => ("TalePlayModel", "lit", "[Z", true)
  | 46 => ("TalePlayModel", "glass", "[Z", true)
  | 47 => ("TalePlayModel", "isBox", "[Z", true)
  | 48 => ("TalePlayModel", "isRoom", "[Z", true)
  | 49 => ("TalePlayModel", "isDoor", "[Z", true)
  | 50 => ("TalePlayModel", "states", "I", false)
  | 51 => ("TalePlayModel", "stateForm", "[B", true)
  | 52 => ("TalePlayModel", "stateAt", "[B", true)
  | 53 => ("TalePlayModel", "stateShut", "[B", true)
  | 54 => ("TalePlayModel", "stateFrom", "[I", true)
  | 55 => ("TalePlayModel", "stateAct", "[I", true)
  | 56 => ("TalePlayModel", "soughtRow", "[I", true)
  | 57 => ("TalePlayModel", "soughtMany", "I", false)
  | 58 => ("TalePlayModel", "goalX", "I", false)
  | 59 => ("TalePlayModel", "goalY", "I", false)
  | 60 => ("TalePlayModel", "lineSort", "[I", true)
  | 61 => ("TalePlayModel", "lineMany", "[I", true)
  | 62 => ("TalePlayModel", "items", "[J", true)
  | 63 => ("TalePlayModel", "hasLine", "[Z", true)
  | 64 => ("TalePlayModel", "casts", "I", false)
  | 65 => ("TalePlayModel", "castSort", "[I", true)
  | 66 => ("TalePlayModel", "castMany", "[I", true)
  | 67 => ("TalePlayModel", "roles", "[I", true)
  | _ => ("TalePlayModel", "held", "[J", true)
def tyX12 : Nat → FieldType := fun k => match k with
  | 0 => .int
  | 1 => .array .int
  | 2 => .int
  | 3 => .array .int
  | 4 => .array .int
  | 5 => .int
  | 6 => .array .int
  | 7 => .array .int
  | 8 => .int
  | 9 => .array .int
  | 10 => .array .int
  | 11 => .array .int
  | 12 => .array .int
  | 13 => .array .boolean
  | 14 => .array .int
  | 15 => .int
  | 16 => .int
  | 17 => .int
  | 18 => .int
  | 19 => .boolean
  | 20 => .array .int
  | 21 => .array .int
  | 22 => .int
  | 23 => .array .int
  | 24 => .array .int
  | 25 => .array .boolean
  | 26 => .array .boolean
  | 27 => .int
  | 28 => .array .int
  | 29 => .array .int
  | 30 => .array .int
  | 31 => .array .boolean
  | 32 => .array .boolean
  | 33 => .boolean
  | 34 => .array .int
  | 35 => .int
  | 36 => .boolean
  | 37 => .long
  | 38 => .array .int
  | 39 => .array .int
  | 40 => .int
  | 41 => .int
  | 42 => .boolean
  | 43 => .array .boolean
  | 44 => .array .boolean
  | 45 => .array .boolean
  | 46 => .array .boolean
  | 47 => .array .boolean
  | 48 => .array .boolean
  | 49 => .array .boolean
  | 50 => .int
  | 51 => .array .byte
  | 52 => .array .byte
  | 53 => .array .byte
  | 54 => .array .int
  | 55 => .array .int
  | 56 => .array .int
  | 57 => .int
  | 58 => .int
  | 59 => .int
  | 60 => .array .int
  | 61 => .array .int
  | 62 => .array .long
  | 63 => .array .boolean
  | 64 => .int
  | 65 => .array .int
  | 66 => .array .int
  | 67 => .array .int
  | _ => .array .long
abbrev wsX120 : List Cond := u_ws RX12 TX12 69
theorem nmX12 : ∀ a, a < 69 → ∀ b, b < 69 → a ≠ b → (TX12 a).2.1 ≠ (TX12 b).2.1 := by decide +kernel
theorem tyX12_ok : ∀ k, k < 69 → parseFieldDescriptor (TX12 k).2.2.1 = some (tyX12 k) := by decide +kernel
abbrev cX12_init : ByteArray := prog_14_method_1_code
def yX12_init : MethodName := ⟨RX12, "<init>", "()V"⟩
abbrev cX12_in : ByteArray := prog_14_method_2_code
def yX12_in : MethodName := ⟨RX12, "in", "(JJJ)Z"⟩
abbrev cX12_meets : ByteArray := prog_14_method_3_code
def yX12_meets : MethodName := ⟨RX12, "meets", "(I)I"⟩
abbrev cX12_finding : ByteArray := prog_14_method_4_code
def yX12_finding : MethodName := ⟨RX12, "finding", "()I"⟩
abbrev cX12_findings : ByteArray := prog_14_method_5_code
def yX12_findings : MethodName := ⟨RX12, "findings", "(I)I"⟩
abbrev cX12_kind : ByteArray := prog_14_method_6_code
def yX12_kind : MethodName := ⟨RX12, "kind", "(I)I"⟩
abbrev cX12_standard : ByteArray := prog_14_method_7_code
def yX12_standard : MethodName := ⟨RX12, "standard", "(III)I"⟩
abbrev cX12_make : ByteArray := prog_14_method_8_code
def yX12_make : MethodName := ⟨RX12, "make", "(II)I"⟩
abbrev cX12_isObject : ByteArray := prog_14_method_9_code
def yX12_isObject : MethodName := ⟨RX12, "isObject", "(I)Z"⟩
abbrev cX12_isOf : ByteArray := prog_14_method_10_code
def yX12_isOf : MethodName := ⟨RX12, "isOf", "(II)Z"⟩
abbrev cX12_is : ByteArray := prog_14_method_11_code
def yX12_is : MethodName := ⟨RX12, "is", "(II)I"⟩
abbrev cX12_isMovable : ByteArray := prog_14_method_12_code
def yX12_isMovable : MethodName := ⟨RX12, "isMovable", "(I)Z"⟩
abbrev cX12_isGoods : ByteArray := prog_14_method_13_code
def yX12_isGoods : MethodName := ⟨RX12, "isGoods", "(I)Z"⟩
abbrev cX12_isShutter : ByteArray := prog_14_method_14_code
def yX12_isShutter : MethodName := ⟨RX12, "isShutter", "(I)Z"⟩
abbrev cX12_mayHave : ByteArray := prog_14_method_15_code
def yX12_mayHave : MethodName := ⟨RX12, "mayHave", "(II)Z"⟩
abbrev cX12_areNumbers : ByteArray := prog_14_method_16_code
def yX12_areNumbers : MethodName := ⟨RX12, "areNumbers", "(IIII)Z"⟩
abbrev cX12_fitsLeft : ByteArray := prog_14_method_17_code
def yX12_fitsLeft : MethodName := ⟨RX12, "fitsLeft", "(III)Z"⟩
abbrev cX12_fitsRight : ByteArray := prog_14_method_18_code
def yX12_fitsRight : MethodName := ⟨RX12, "fitsRight", "(II)Z"⟩
abbrev cX12_saidSo : ByteArray := prog_14_method_19_code
def yX12_saidSo : MethodName := ⟨RX12, "saidSo", "(IIII)I"⟩
abbrev cX12_clashes : ByteArray := prog_14_method_20_code
def yX12_clashes : MethodName := ⟨RX12, "clashes", "(I)V"⟩
abbrev cX12_placing : ByteArray := prog_14_method_21_code
def yX12_placing : MethodName := ⟨RX12, "placing", "(I)I"⟩
abbrev cX12_isPlaceBarred : ByteArray := prog_14_method_22_code
def yX12_isPlaceBarred : MethodName := ⟨RX12, "isPlaceBarred", "(III)Z"⟩
abbrev cX12_isExitBarred : ByteArray := prog_14_method_23_code
def yX12_isExitBarred : MethodName := ⟨RX12, "isExitBarred", "(III)Z"⟩
abbrev cX12_isFlagBarred : ByteArray := prog_14_method_24_code
def yX12_isFlagBarred : MethodName := ⟨RX12, "isFlagBarred", "(III)Z"⟩
abbrev cX12_isKeyBarred : ByteArray := prog_14_method_25_code
def yX12_isKeyBarred : MethodName := ⟨RX12, "isKeyBarred", "(I)Z"⟩
abbrev cX12_say : ByteArray := prog_14_method_26_code
def yX12_say : MethodName := ⟨RX12, "say", "(IIII)I"⟩
abbrev cX12_saidMany : ByteArray := prog_14_method_27_code
def yX12_saidMany : MethodName := ⟨RX12, "saidMany", "()I"⟩
abbrev cX12_unsay : ByteArray := prog_14_method_28_code
def yX12_unsay : MethodName := ⟨RX12, "unsay", "(I)I"⟩
abbrev cX12_clash : ByteArray := prog_14_method_29_code
def yX12_clash : MethodName := ⟨RX12, "clash", "(I)I"⟩
abbrev cX12_sentence : ByteArray := prog_14_method_30_code
def yX12_sentence : MethodName := ⟨RX12, "sentence", "(II)I"⟩
abbrev cX12_place : ByteArray := prog_14_method_31_code
def yX12_place : MethodName := ⟨RX12, "place", "(II)I"⟩
abbrev cX12_saidFlag : ByteArray := prog_14_method_32_code
def yX12_saidFlag : MethodName := ⟨RX12, "saidFlag", "(II)I"⟩
abbrev cX12_flag : ByteArray := prog_14_method_33_code
def yX12_flag : MethodName := ⟨RX12, "flag", "(II)I"⟩
abbrev cX12_keyOf : ByteArray := prog_14_method_34_code
def yX12_keyOf : MethodName := ⟨RX12, "keyOf", "(I)I"⟩
abbrev cX12_key : ByteArray := prog_14_method_35_code
def yX12_key : MethodName := ⟨RX12, "key", "(I)I"⟩
abbrev cX12_findExit : ByteArray := prog_14_method_36_code
def yX12_findExit : MethodName := ⟨RX12, "findExit", "(II)Z"⟩
abbrev cX12_otherSide : ByteArray := prog_14_method_37_code
def yX12_otherSide : MethodName := ⟨RX12, "otherSide", "(II)I"⟩
abbrev cX12_isSide : ByteArray := prog_14_method_38_code
def yX12_isSide : MethodName := ⟨RX12, "isSide", "(II)Z"⟩
abbrev cX12_exit : ByteArray := prog_14_method_39_code
def yX12_exit : MethodName := ⟨RX12, "exit", "(III)I"⟩
abbrev cX12_walk : ByteArray := prog_14_method_40_code
def yX12_walk : MethodName := ⟨RX12, "walk", "(IZ)V"⟩
abbrev cX12_wayRefused : ByteArray := prog_14_method_41_code
def yX12_wayRefused : MethodName := ⟨RX12, "wayRefused", "(II)I"⟩
abbrev cX12_way : ByteArray := prog_14_method_42_code
def yX12_way : MethodName := ⟨RX12, "way", "(IIZ)I"⟩
abbrev cX12_toward : ByteArray := prog_14_method_43_code
def yX12_toward : MethodName := ⟨RX12, "toward", "(IIZ)I"⟩
abbrev cX12_endTale : ByteArray := prog_14_method_44_code
def yX12_endTale : MethodName := ⟨RX12, "endTale", "()V"⟩
abbrev cX12_formNow : ByteArray := prog_14_method_45_code
def yX12_formNow : MethodName := ⟨RX12, "formNow", "(I)I"⟩
abbrev cX12_atNow : ByteArray := prog_14_method_46_code
def yX12_atNow : MethodName := ⟨RX12, "atNow", "(I)I"⟩
abbrev cX12_body : ByteArray := prog_14_method_47_code
def yX12_body : MethodName := ⟨RX12, "body", "(I)V"⟩
abbrev cX12_bulkOf : ByteArray := prog_14_method_48_code
def yX12_bulkOf : MethodName := ⟨RX12, "bulkOf", "(I)I"⟩
abbrev cX12_beginBulk : ByteArray := prog_14_method_49_code
def yX12_beginBulk : MethodName := ⟨RX12, "beginBulk", "(II)I"⟩
abbrev cX12_bulk : ByteArray := prog_14_method_50_code
def yX12_bulk : MethodName := ⟨RX12, "bulk", "(I)I"⟩
abbrev cX12_asked : ByteArray := prog_14_method_51_code
def yX12_asked : MethodName := ⟨RX12, "asked", "()J"⟩
abbrev cX12_trace : ByteArray := prog_14_method_52_code
def yX12_trace : MethodName := ⟨RX12, "trace", "(I)I"⟩
abbrev cX12_share : ByteArray := prog_14_method_53_code
def yX12_share : MethodName := ⟨RX12, "share", "(II)I"⟩
abbrev cX12_lookAtKinds : ByteArray := prog_14_method_54_code
def yX12_lookAtKinds : MethodName := ⟨RX12, "lookAtKinds", "()V"⟩
abbrev cX12_shuts : ByteArray := prog_14_method_55_code
def yX12_shuts : MethodName := ⟨RX12, "shuts", "(IZ)Z"⟩
abbrev cX12_shellOf : ByteArray := prog_14_method_56_code
def yX12_shellOf : MethodName := ⟨RX12, "shellOf", "(Z)I"⟩
abbrev cX12_isInView : ByteArray := prog_14_method_57_code
def yX12_isInView : MethodName := ⟨RX12, "isInView", "(IIZ)Z"⟩
abbrev cX12_lookAround : ByteArray := prog_14_method_58_code
def yX12_lookAround : MethodName := ⟨RX12, "lookAround", "()V"⟩
abbrev cX12_roomOf : ByteArray := prog_14_method_59_code
def yX12_roomOf : MethodName := ⟨RX12, "roomOf", "(I)I"⟩
abbrev cX12_begin : ByteArray := prog_14_method_60_code
def yX12_begin : MethodName := ⟨RX12, "begin", "(I)I"⟩
abbrev cX12_isUpFrom : ByteArray := prog_14_method_61_code
def yX12_isUpFrom : MethodName := ⟨RX12, "isUpFrom", "(II)Z"⟩
abbrev cX12_holds : ByteArray := prog_14_method_62_code
def yX12_holds : MethodName := ⟨RX12, "holds", "(I)Z"⟩
abbrev cX12_lying : ByteArray := prog_14_method_63_code
def yX12_lying : MethodName := ⟨RX12, "lying", "(II)I"⟩
abbrev cX12_isInRoom : ByteArray := prog_14_method_64_code
def yX12_isInRoom : MethodName := ⟨RX12, "isInRoom", "()Z"⟩
abbrev cX12_whyNotGo : ByteArray := prog_14_method_65_code
def yX12_whyNotGo : MethodName := ⟨RX12, "whyNotGo", "(I)I"⟩
abbrev cX12_whyNotTake : ByteArray := prog_14_method_66_code
def yX12_whyNotTake : MethodName := ⟨RX12, "whyNotTake", "(I)I"⟩
abbrev cX12_whyNotPut : ByteArray := prog_14_method_67_code
def yX12_whyNotPut : MethodName := ⟨RX12, "whyNotPut", "(IIZ)I"⟩
abbrev cX12_whyNotTurn : ByteArray := prog_14_method_68_code
def yX12_whyNotTurn : MethodName := ⟨RX12, "whyNotTurn", "(III)I"⟩
abbrev cX12_whyNotEnter : ByteArray := prog_14_method_69_code
def yX12_whyNotEnter : MethodName := ⟨RX12, "whyNotEnter", "(I)I"⟩
abbrev cX12_whyNotLeave : ByteArray := prog_14_method_70_code
def yX12_whyNotLeave : MethodName := ⟨RX12, "whyNotLeave", "()I"⟩
abbrev cX12_whyNot : ByteArray := prog_14_method_71_code
def yX12_whyNot : MethodName := ⟨RX12, "whyNot", "(III)I"⟩
abbrev cX12_lay : ByteArray := prog_14_method_72_code
def yX12_lay : MethodName := ⟨RX12, "lay", "(III)V"⟩
abbrev cX12_acts : ByteArray := prog_14_method_73_code
def yX12_acts : MethodName := ⟨RX12, "acts", "(III)V"⟩
abbrev cX12_hasSecond : ByteArray := prog_14_method_74_code
def yX12_hasSecond : MethodName := ⟨RX12, "hasSecond", "(I)Z"⟩
abbrev cX12_act : ByteArray := prog_14_method_75_code
def yX12_act : MethodName := ⟨RX12, "act", "(III)I"⟩
abbrev cX12_back : ByteArray := prog_14_method_76_code
def yX12_back : MethodName := ⟨RX12, "back", "()I"⟩
abbrev cX12_told : ByteArray := prog_14_method_77_code
def yX12_told : MethodName := ⟨RX12, "told", "(II)I"⟩
abbrev cX12_now : ByteArray := prog_14_method_78_code
def yX12_now : MethodName := ⟨RX12, "now", "(II)I"⟩
abbrev cX12_turn : ByteArray := prog_14_method_79_code
def yX12_turn : MethodName := ⟨RX12, "turn", "(II)I"⟩
abbrev cX12_light : ByteArray := prog_14_method_80_code
def yX12_light : MethodName := ⟨RX12, "light", "()I"⟩
abbrev cX12_keepState : ByteArray := prog_14_method_81_code
def yX12_keepState : MethodName := ⟨RX12, "keepState", "(I)V"⟩
abbrev cX12_giveState : ByteArray := prog_14_method_82_code
def yX12_giveState : MethodName := ⟨RX12, "giveState", "(I)V"⟩
abbrev cX12_isState : ByteArray := prog_14_method_83_code
def yX12_isState : MethodName := ⟨RX12, "isState", "(I)Z"⟩
abbrev cX12_tried : ByteArray := prog_14_method_84_code
def yX12_tried : MethodName := ⟨RX12, "tried", "(IIII)Z"⟩
abbrev cX12_triedAll : ByteArray := prog_14_method_85_code
def yX12_triedAll : MethodName := ⟨RX12, "triedAll", "(I)Z"⟩
abbrev cX12_found : ByteArray := prog_14_method_86_code
def yX12_found : MethodName := ⟨RX12, "found", "(I)I"⟩
abbrev cX12_seek : ByteArray := prog_14_method_87_code
def yX12_seek : MethodName := ⟨RX12, "seek", "(III)I"⟩
abbrev cX12_sought : ByteArray := prog_14_method_88_code
def yX12_sought : MethodName := ⟨RX12, "sought", "(II)I"⟩
abbrev cX12_line : ByteArray := prog_14_method_89_code
def yX12_line : MethodName := ⟨RX12, "line", "(III)I"⟩
abbrev cX12_lacks : ByteArray := prog_14_method_90_code
def yX12_lacks : MethodName := ⟨RX12, "lacks", "(III)I"⟩
abbrev cX12_cut : ByteArray := prog_14_method_91_code
def yX12_cut : MethodName := ⟨RX12, "cut", "(IJ)J"⟩
abbrev cX12_put : ByteArray := prog_14_method_92_code
def yX12_put : MethodName := ⟨RX12, "put", "(IIIJ)I"⟩
abbrev cX12_item : ByteArray := prog_14_method_93_code
def yX12_item : MethodName := ⟨RX12, "item", "(III)I"⟩
abbrev cX12_copy : ByteArray := prog_14_method_94_code
def yX12_copy : MethodName := ⟨RX12, "copy", "(IIIIII)I"⟩
abbrev cX12_cast : ByteArray := prog_14_method_95_code
def yX12_cast : MethodName := ⟨RX12, "cast", "(II)I"⟩
abbrev cX12_role : ByteArray := prog_14_method_96_code
def yX12_role : MethodName := ⟨RX12, "role", "(III)I"⟩
abbrev cX12_who : ByteArray := prog_14_method_97_code
def yX12_who : MethodName := ⟨RX12, "who", "(II)I"⟩
abbrev cX12_count : ByteArray := prog_14_method_98_code
def yX12_count : MethodName := ⟨RX12, "count", "(I)I"⟩
abbrev cX12_digest : ByteArray := prog_14_method_99_code
def yX12_digest : MethodName := ⟨RX12, "digest", "()J"⟩
def RJ7 : String := "java/util/Arrays"
abbrev cJ7_fill_53178 : ByteArray := prog_16_method_103_code
def yJ7_fill_53178 : MethodName := ⟨RJ7, "fill", "([II)V"⟩
def RL : String := "TalePlayLaw"
abbrev cL_law : ByteArray := code
theorem hc_X0_init_0 : ((bL cX0_init).drop 0).take 18 = [42, 183, 0, 3, 42, 43, 181, 0, 9, 42, 44, 181, 0, 15, 42, 45, 181, 0] := by decide +kernel
theorem dX0_init_0 : decode cX0_init 0 = .ok (.aload_n 0, 1) := o_42 (u1_0 hc_X0_init_0 rfl) rfl
theorem dX0_init_1 : decode cX0_init 1 = .ok (.invokespecial 3, 3) := o_183 (u1_1 hc_X0_init_0 rfl) (u2_d (u1_2 hc_X0_init_0 rfl) (u1_3 hc_X0_init_0 rfl) rfl) rfl
theorem dX0_init_4 : decode cX0_init 4 = .ok (.aload_n 0, 1) := o_42 (u1_4 hc_X0_init_0 rfl) rfl
theorem dX0_init_5 : decode cX0_init 5 = .ok (.aload_n 1, 1) := o_43 (u1_5 hc_X0_init_0 rfl) rfl
theorem dX0_init_6 : decode cX0_init 6 = .ok (.putfield 9, 3) := o_181 (u1_6 hc_X0_init_0 rfl) (u2_d (u1_7 hc_X0_init_0 rfl) (u1_8 hc_X0_init_0 rfl) rfl) rfl
theorem dX0_init_9 : decode cX0_init 9 = .ok (.aload_n 0, 1) := o_42 (u1_9 hc_X0_init_0 rfl) rfl
theorem dX0_init_10 : decode cX0_init 10 = .ok (.aload_n 2, 1) := o_44 (u1_10 hc_X0_init_0 rfl) rfl
theorem dX0_init_11 : decode cX0_init 11 = .ok (.putfield 15, 3) := o_181 (u1_11 hc_X0_init_0 rfl) (u2_d (u1_12 hc_X0_init_0 rfl) (u1_13 hc_X0_init_0 rfl) rfl) rfl
theorem dX0_init_14 : decode cX0_init 14 = .ok (.aload_n 0, 1) := o_42 (u1_14 hc_X0_init_0 rfl) rfl
theorem dX0_init_15 : decode cX0_init 15 = .ok (.aload_n 3, 1) := o_45 (u1_15 hc_X0_init_0 rfl) rfl
theorem hc_X0_init_16 : ((bL cX0_init).drop 16).take 18 = [181, 0, 19, 42, 25, 4, 181, 0, 23, 42, 25, 5, 180, 0, 27, 181, 0, 33] := by decide +kernel
theorem dX0_init_16 : decode cX0_init 16 = .ok (.putfield 19, 3) := o_181 (u1_0 hc_X0_init_16 rfl) (u2_d (u1_1 hc_X0_init_16 rfl) (u1_2 hc_X0_init_16 rfl) rfl) rfl
theorem dX0_init_19 : decode cX0_init 19 = .ok (.aload_n 0, 1) := o_42 (u1_3 hc_X0_init_16 rfl) rfl
theorem dX0_init_20 : decode cX0_init 20 = .ok (.aload 4, 2) := o_25 (u1_4 hc_X0_init_16 rfl) (u1_5 hc_X0_init_16 rfl) rfl
theorem dX0_init_22 : decode cX0_init 22 = .ok (.putfield 23, 3) := o_181 (u1_6 hc_X0_init_16 rfl) (u2_d (u1_7 hc_X0_init_16 rfl) (u1_8 hc_X0_init_16 rfl) rfl) rfl
theorem dX0_init_25 : decode cX0_init 25 = .ok (.aload_n 0, 1) := o_42 (u1_9 hc_X0_init_16 rfl) rfl
theorem dX0_init_26 : decode cX0_init 26 = .ok (.aload 5, 2) := o_25 (u1_10 hc_X0_init_16 rfl) (u1_11 hc_X0_init_16 rfl) rfl
theorem dX0_init_28 : decode cX0_init 28 = .ok (.getfield 27, 3) := o_180 (u1_12 hc_X0_init_16 rfl) (u2_d (u1_13 hc_X0_init_16 rfl) (u1_14 hc_X0_init_16 rfl) rfl) rfl
theorem dX0_init_31 : decode cX0_init 31 = .ok (.putfield 33, 3) := o_181 (u1_15 hc_X0_init_16 rfl) (u2_d (u1_16 hc_X0_init_16 rfl) (u1_17 hc_X0_init_16 rfl) rfl) rfl
theorem hc_X0_init_32 : ((bL cX0_init).drop 32).take 18 = [0, 33, 42, 25, 5, 181, 0, 34, 42, 16, 247, 181, 0, 38, 177] := by decide +kernel
theorem dX0_init_34 : decode cX0_init 34 = .ok (.aload_n 0, 1) := o_42 (u1_2 hc_X0_init_32 rfl) rfl
theorem dX0_init_35 : decode cX0_init 35 = .ok (.aload 5, 2) := o_25 (u1_3 hc_X0_init_32 rfl) (u1_4 hc_X0_init_32 rfl) rfl
theorem dX0_init_37 : decode cX0_init 37 = .ok (.putfield 34, 3) := o_181 (u1_5 hc_X0_init_32 rfl) (u2_d (u1_6 hc_X0_init_32 rfl) (u1_7 hc_X0_init_32 rfl) rfl) rfl
theorem dX0_init_40 : decode cX0_init 40 = .ok (.aload_n 0, 1) := o_42 (u1_8 hc_X0_init_32 rfl) rfl
theorem dX0_init_41 : decode cX0_init 41 = .ok (.bipush (-9), 2) := o_16 (u1_9 hc_X0_init_32 rfl) (s1_d (u1_10 hc_X0_init_32 rfl) rfl) rfl
theorem dX0_init_43 : decode cX0_init 43 = .ok (.putfield 38, 3) := o_181 (u1_11 hc_X0_init_32 rfl) (u2_d (u1_12 hc_X0_init_32 rfl) (u1_13 hc_X0_init_32 rfl) rfl) rfl
theorem dX0_init_46 : decode cX0_init 46 = .ok (.return_, 1) := o_177 (u1_14 hc_X0_init_32 rfl) rfl
theorem hc_X0_hasX_0 : ((bL cX0_hasX).drop 0).take 18 = [26, 16, 11, 162, 0, 7, 4, 167, 0, 4, 3, 172] := by decide +kernel
theorem dX0_hasX_0 : decode cX0_hasX 0 = .ok (.iload_n 0, 1) := o_26 (u1_0 hc_X0_hasX_0 rfl) rfl
theorem dX0_hasX_1 : decode cX0_hasX 1 = .ok (.bipush 11, 2) := o_16 (u1_1 hc_X0_hasX_0 rfl) (s1_d (u1_2 hc_X0_hasX_0 rfl) rfl) rfl
theorem dX0_hasX_3 : decode cX0_hasX 3 = .ok (.if_icmp .ge 7, 3) := o_162 (u1_3 hc_X0_hasX_0 rfl) (s2_d (u2_d (u1_4 hc_X0_hasX_0 rfl) (u1_5 hc_X0_hasX_0 rfl) rfl) rfl) rfl
theorem dX0_hasX_6 : decode cX0_hasX 6 = .ok (.iconst 1, 1) := o_4 (u1_6 hc_X0_hasX_0 rfl) rfl
theorem dX0_hasX_7 : decode cX0_hasX 7 = .ok (.goto 4, 3) := o_167 (u1_7 hc_X0_hasX_0 rfl) (s2_d (u2_d (u1_8 hc_X0_hasX_0 rfl) (u1_9 hc_X0_hasX_0 rfl) rfl) rfl) rfl
theorem dX0_hasX_10 : decode cX0_hasX 10 = .ok (.iconst 0, 1) := o_3 (u1_10 hc_X0_hasX_0 rfl) rfl
theorem dX0_hasX_11 : decode cX0_hasX 11 = .ok (.ireturn, 1) := o_172 (u1_11 hc_X0_hasX_0 rfl) rfl
theorem hc_X0_hasY_0 : ((bL cX0_hasY).drop 0).take 18 = [26, 6, 159, 0, 20, 26, 7, 159, 0, 15, 26, 16, 7, 159, 0, 9, 26, 16] := by decide +kernel
theorem dX0_hasY_0 : decode cX0_hasY 0 = .ok (.iload_n 0, 1) := o_26 (u1_0 hc_X0_hasY_0 rfl) rfl
theorem dX0_hasY_1 : decode cX0_hasY 1 = .ok (.iconst 3, 1) := o_6 (u1_1 hc_X0_hasY_0 rfl) rfl
theorem dX0_hasY_2 : decode cX0_hasY 2 = .ok (.if_icmp .eq 20, 3) := o_159 (u1_2 hc_X0_hasY_0 rfl) (s2_d (u2_d (u1_3 hc_X0_hasY_0 rfl) (u1_4 hc_X0_hasY_0 rfl) rfl) rfl) rfl
theorem dX0_hasY_5 : decode cX0_hasY 5 = .ok (.iload_n 0, 1) := o_26 (u1_5 hc_X0_hasY_0 rfl) rfl
theorem dX0_hasY_6 : decode cX0_hasY 6 = .ok (.iconst 4, 1) := o_7 (u1_6 hc_X0_hasY_0 rfl) rfl
theorem dX0_hasY_7 : decode cX0_hasY 7 = .ok (.if_icmp .eq 15, 3) := o_159 (u1_7 hc_X0_hasY_0 rfl) (s2_d (u2_d (u1_8 hc_X0_hasY_0 rfl) (u1_9 hc_X0_hasY_0 rfl) rfl) rfl) rfl
theorem dX0_hasY_10 : decode cX0_hasY 10 = .ok (.iload_n 0, 1) := o_26 (u1_10 hc_X0_hasY_0 rfl) rfl
theorem dX0_hasY_11 : decode cX0_hasY 11 = .ok (.bipush 7, 2) := o_16 (u1_11 hc_X0_hasY_0 rfl) (s1_d (u1_12 hc_X0_hasY_0 rfl) rfl) rfl
theorem dX0_hasY_13 : decode cX0_hasY 13 = .ok (.if_icmp .eq 9, 3) := o_159 (u1_13 hc_X0_hasY_0 rfl) (s2_d (u2_d (u1_14 hc_X0_hasY_0 rfl) (u1_15 hc_X0_hasY_0 rfl) rfl) rfl) rfl
theorem hc_X0_hasY_16 : ((bL cX0_hasY).drop 16).take 18 = [26, 16, 8, 160, 0, 7, 4, 167, 0, 4, 3, 172] := by decide +kernel
theorem dX0_hasY_16 : decode cX0_hasY 16 = .ok (.iload_n 0, 1) := o_26 (u1_0 hc_X0_hasY_16 rfl) rfl
theorem dX0_hasY_17 : decode cX0_hasY 17 = .ok (.bipush 8, 2) := o_16 (u1_1 hc_X0_hasY_16 rfl) (s1_d (u1_2 hc_X0_hasY_16 rfl) rfl) rfl
theorem dX0_hasY_19 : decode cX0_hasY 19 = .ok (.if_icmp .ne 7, 3) := o_160 (u1_3 hc_X0_hasY_16 rfl) (s2_d (u2_d (u1_4 hc_X0_hasY_16 rfl) (u1_5 hc_X0_hasY_16 rfl) rfl) rfl) rfl
theorem dX0_hasY_22 : decode cX0_hasY 22 = .ok (.iconst 1, 1) := o_4 (u1_6 hc_X0_hasY_16 rfl) rfl
theorem dX0_hasY_23 : decode cX0_hasY 23 = .ok (.goto 4, 3) := o_167 (u1_7 hc_X0_hasY_16 rfl) (s2_d (u2_d (u1_8 hc_X0_hasY_16 rfl) (u1_9 hc_X0_hasY_16 rfl) rfl) rfl) rfl
theorem dX0_hasY_26 : decode cX0_hasY 26 = .ok (.iconst 0, 1) := o_3 (u1_10 hc_X0_hasY_16 rfl) rfl
theorem dX0_hasY_27 : decode cX0_hasY 27 = .ok (.ireturn, 1) := o_172 (u1_11 hc_X0_hasY_16 rfl) rfl
theorem hc_X0_reasonOfX_0 : ((bL cX0_reasonOfX).drop 0).take 18 = [27, 170, 0, 0, 0, 0, 0, 128, 0, 0, 0, 0, 0, 0, 0, 11, 0, 0] := by decide +kernel
theorem dX0_reasonOfX_0 : decode cX0_reasonOfX 0 = .ok (.iload_n 1, 1) := o_27 (u1_0 hc_X0_reasonOfX_0 rfl) rfl
theorem dX0_reasonOfX_1 : decode cX0_reasonOfX 1 = .ok (.tableswitch 128 0 11 #[63, 71, 79, 79, 79, 96, 96, 96, 96, 105, 113, 121], 63) := by decide +kernel
theorem hc_X0_reasonOfX_64 : ((bL cX0_reasonOfX).drop 64).take 18 = [42, 28, 182, 0, 42, 167, 0, 61, 42, 28, 182, 0, 46, 167, 0, 53, 42, 28] := by decide +kernel
theorem dX0_reasonOfX_64 : decode cX0_reasonOfX 64 = .ok (.aload_n 0, 1) := o_42 (u1_0 hc_X0_reasonOfX_64 rfl) rfl
theorem dX0_reasonOfX_65 : decode cX0_reasonOfX 65 = .ok (.iload_n 2, 1) := o_28 (u1_1 hc_X0_reasonOfX_64 rfl) rfl
theorem dX0_reasonOfX_66 : decode cX0_reasonOfX 66 = .ok (.invokevirtual 42, 3) := o_182 (u1_2 hc_X0_reasonOfX_64 rfl) (u2_d (u1_3 hc_X0_reasonOfX_64 rfl) (u1_4 hc_X0_reasonOfX_64 rfl) rfl) rfl
theorem dX0_reasonOfX_69 : decode cX0_reasonOfX 69 = .ok (.goto 61, 3) := o_167 (u1_5 hc_X0_reasonOfX_64 rfl) (s2_d (u2_d (u1_6 hc_X0_reasonOfX_64 rfl) (u1_7 hc_X0_reasonOfX_64 rfl) rfl) rfl) rfl
theorem dX0_reasonOfX_72 : decode cX0_reasonOfX 72 = .ok (.aload_n 0, 1) := o_42 (u1_8 hc_X0_reasonOfX_64 rfl) rfl
theorem dX0_reasonOfX_73 : decode cX0_reasonOfX 73 = .ok (.iload_n 2, 1) := o_28 (u1_9 hc_X0_reasonOfX_64 rfl) rfl
theorem dX0_reasonOfX_74 : decode cX0_reasonOfX 74 = .ok (.invokevirtual 46, 3) := o_182 (u1_10 hc_X0_reasonOfX_64 rfl) (u2_d (u1_11 hc_X0_reasonOfX_64 rfl) (u1_12 hc_X0_reasonOfX_64 rfl) rfl) rfl
theorem dX0_reasonOfX_77 : decode cX0_reasonOfX 77 = .ok (.goto 53, 3) := o_167 (u1_13 hc_X0_reasonOfX_64 rfl) (s2_d (u2_d (u1_14 hc_X0_reasonOfX_64 rfl) (u1_15 hc_X0_reasonOfX_64 rfl) rfl) rfl) rfl
theorem hc_X0_reasonOfX_80 : ((bL cX0_reasonOfX).drop 80).take 18 = [42, 28, 182, 0, 49, 153, 0, 7, 3, 167, 0, 41, 16, 11, 167, 0, 36, 42] := by decide +kernel
theorem dX0_reasonOfX_80 : decode cX0_reasonOfX 80 = .ok (.aload_n 0, 1) := o_42 (u1_0 hc_X0_reasonOfX_80 rfl) rfl
theorem dX0_reasonOfX_81 : decode cX0_reasonOfX 81 = .ok (.iload_n 2, 1) := o_28 (u1_1 hc_X0_reasonOfX_80 rfl) rfl
theorem dX0_reasonOfX_82 : decode cX0_reasonOfX 82 = .ok (.invokevirtual 49, 3) := o_182 (u1_2 hc_X0_reasonOfX_80 rfl) (u2_d (u1_3 hc_X0_reasonOfX_80 rfl) (u1_4 hc_X0_reasonOfX_80 rfl) rfl) rfl
theorem dX0_reasonOfX_85 : decode cX0_reasonOfX 85 = .ok (.ifCond .eq 7, 3) := o_153 (u1_5 hc_X0_reasonOfX_80 rfl) (s2_d (u2_d (u1_6 hc_X0_reasonOfX_80 rfl) (u1_7 hc_X0_reasonOfX_80 rfl) rfl) rfl) rfl
theorem dX0_reasonOfX_88 : decode cX0_reasonOfX 88 = .ok (.iconst 0, 1) := o_3 (u1_8 hc_X0_reasonOfX_80 rfl) rfl
theorem dX0_reasonOfX_89 : decode cX0_reasonOfX 89 = .ok (.goto 41, 3) := o_167 (u1_9 hc_X0_reasonOfX_80 rfl) (s2_d (u2_d (u1_10 hc_X0_reasonOfX_80 rfl) (u1_11 hc_X0_reasonOfX_80 rfl) rfl) rfl) rfl
theorem dX0_reasonOfX_92 : decode cX0_reasonOfX 92 = .ok (.bipush 11, 2) := o_16 (u1_12 hc_X0_reasonOfX_80 rfl) (s1_d (u1_13 hc_X0_reasonOfX_80 rfl) rfl) rfl
theorem dX0_reasonOfX_94 : decode cX0_reasonOfX 94 = .ok (.goto 36, 3) := o_167 (u1_14 hc_X0_reasonOfX_80 rfl) (s2_d (u2_d (u1_15 hc_X0_reasonOfX_80 rfl) (u1_16 hc_X0_reasonOfX_80 rfl) rfl) rfl) rfl
theorem hc_X0_reasonOfX_96 : ((bL cX0_reasonOfX).drop 96).take 18 = [36, 42, 27, 28, 182, 0, 53, 167, 0, 27, 42, 28, 182, 0, 57, 167, 0, 19] := by decide +kernel
theorem dX0_reasonOfX_97 : decode cX0_reasonOfX 97 = .ok (.aload_n 0, 1) := o_42 (u1_1 hc_X0_reasonOfX_96 rfl) rfl
theorem dX0_reasonOfX_98 : decode cX0_reasonOfX 98 = .ok (.iload_n 1, 1) := o_27 (u1_2 hc_X0_reasonOfX_96 rfl) rfl
theorem dX0_reasonOfX_99 : decode cX0_reasonOfX 99 = .ok (.iload_n 2, 1) := o_28 (u1_3 hc_X0_reasonOfX_96 rfl) rfl
theorem dX0_reasonOfX_100 : decode cX0_reasonOfX 100 = .ok (.invokevirtual 53, 3) := o_182 (u1_4 hc_X0_reasonOfX_96 rfl) (u2_d (u1_5 hc_X0_reasonOfX_96 rfl) (u1_6 hc_X0_reasonOfX_96 rfl) rfl) rfl
theorem dX0_reasonOfX_103 : decode cX0_reasonOfX 103 = .ok (.goto 27, 3) := o_167 (u1_7 hc_X0_reasonOfX_96 rfl) (s2_d (u2_d (u1_8 hc_X0_reasonOfX_96 rfl) (u1_9 hc_X0_reasonOfX_96 rfl) rfl) rfl) rfl
theorem dX0_reasonOfX_106 : decode cX0_reasonOfX 106 = .ok (.aload_n 0, 1) := o_42 (u1_10 hc_X0_reasonOfX_96 rfl) rfl
theorem dX0_reasonOfX_107 : decode cX0_reasonOfX 107 = .ok (.iload_n 2, 1) := o_28 (u1_11 hc_X0_reasonOfX_96 rfl) rfl
theorem dX0_reasonOfX_108 : decode cX0_reasonOfX 108 = .ok (.invokevirtual 57, 3) := o_182 (u1_12 hc_X0_reasonOfX_96 rfl) (u2_d (u1_13 hc_X0_reasonOfX_96 rfl) (u1_14 hc_X0_reasonOfX_96 rfl) rfl) rfl
theorem dX0_reasonOfX_111 : decode cX0_reasonOfX 111 = .ok (.goto 19, 3) := o_167 (u1_15 hc_X0_reasonOfX_96 rfl) (s2_d (u2_d (u1_16 hc_X0_reasonOfX_96 rfl) (u1_17 hc_X0_reasonOfX_96 rfl) rfl) rfl) rfl
theorem hc_X0_reasonOfX_112 : ((bL cX0_reasonOfX).drop 112).take 18 = [0, 19, 42, 28, 182, 0, 60, 167, 0, 11, 42, 182, 0, 63, 167, 0, 4, 3] := by decide +kernel
theorem dX0_reasonOfX_114 : decode cX0_reasonOfX 114 = .ok (.aload_n 0, 1) := o_42 (u1_2 hc_X0_reasonOfX_112 rfl) rfl
theorem dX0_reasonOfX_115 : decode cX0_reasonOfX 115 = .ok (.iload_n 2, 1) := o_28 (u1_3 hc_X0_reasonOfX_112 rfl) rfl
theorem dX0_reasonOfX_116 : decode cX0_reasonOfX 116 = .ok (.invokevirtual 60, 3) := o_182 (u1_4 hc_X0_reasonOfX_112 rfl) (u2_d (u1_5 hc_X0_reasonOfX_112 rfl) (u1_6 hc_X0_reasonOfX_112 rfl) rfl) rfl
theorem dX0_reasonOfX_119 : decode cX0_reasonOfX 119 = .ok (.goto 11, 3) := o_167 (u1_7 hc_X0_reasonOfX_112 rfl) (s2_d (u2_d (u1_8 hc_X0_reasonOfX_112 rfl) (u1_9 hc_X0_reasonOfX_112 rfl) rfl) rfl) rfl
theorem dX0_reasonOfX_122 : decode cX0_reasonOfX 122 = .ok (.aload_n 0, 1) := o_42 (u1_10 hc_X0_reasonOfX_112 rfl) rfl
theorem dX0_reasonOfX_123 : decode cX0_reasonOfX 123 = .ok (.invokevirtual 63, 3) := o_182 (u1_11 hc_X0_reasonOfX_112 rfl) (u2_d (u1_12 hc_X0_reasonOfX_112 rfl) (u1_13 hc_X0_reasonOfX_112 rfl) rfl) rfl
theorem dX0_reasonOfX_126 : decode cX0_reasonOfX 126 = .ok (.goto 4, 3) := o_167 (u1_14 hc_X0_reasonOfX_112 rfl) (s2_d (u2_d (u1_15 hc_X0_reasonOfX_112 rfl) (u1_16 hc_X0_reasonOfX_112 rfl) rfl) rfl) rfl
theorem hc_X0_reasonOfX_128 : ((bL cX0_reasonOfX).drop 128).take 18 = [4, 3, 172] := by decide +kernel
theorem dX0_reasonOfX_129 : decode cX0_reasonOfX 129 = .ok (.iconst 0, 1) := o_3 (u1_1 hc_X0_reasonOfX_128 rfl) rfl
theorem dX0_reasonOfX_130 : decode cX0_reasonOfX 130 = .ok (.ireturn, 1) := o_172 (u1_2 hc_X0_reasonOfX_128 rfl) rfl
theorem hc_X0_reasonOfY_0 : ((bL cX0_reasonOfY).drop 0).take 18 = [27, 170, 0, 0, 0, 0, 0, 68, 0, 0, 0, 3, 0, 0, 0, 8, 0, 0] := by decide +kernel
theorem dX0_reasonOfY_0 : decode cX0_reasonOfY 0 = .ok (.iload_n 1, 1) := o_27 (u1_0 hc_X0_reasonOfY_0 rfl) rfl
theorem dX0_reasonOfY_1 : decode cX0_reasonOfY 1 = .ok (.tableswitch 68 3 8 #[39, 49, 68, 68, 59, 59], 39) := by decide +kernel
theorem hc_X0_reasonOfY_32 : ((bL cX0_reasonOfY).drop 32).take 18 = [0, 0, 0, 59, 0, 0, 0, 59, 42, 28, 3, 29, 182, 0, 67, 167, 0, 23] := by decide +kernel
theorem dX0_reasonOfY_40 : decode cX0_reasonOfY 40 = .ok (.aload_n 0, 1) := o_42 (u1_8 hc_X0_reasonOfY_32 rfl) rfl
theorem dX0_reasonOfY_41 : decode cX0_reasonOfY 41 = .ok (.iload_n 2, 1) := o_28 (u1_9 hc_X0_reasonOfY_32 rfl) rfl
theorem dX0_reasonOfY_42 : decode cX0_reasonOfY 42 = .ok (.iconst 0, 1) := o_3 (u1_10 hc_X0_reasonOfY_32 rfl) rfl
theorem dX0_reasonOfY_43 : decode cX0_reasonOfY 43 = .ok (.iload_n 3, 1) := o_29 (u1_11 hc_X0_reasonOfY_32 rfl) rfl
theorem dX0_reasonOfY_44 : decode cX0_reasonOfY 44 = .ok (.invokevirtual 67, 3) := o_182 (u1_12 hc_X0_reasonOfY_32 rfl) (u2_d (u1_13 hc_X0_reasonOfY_32 rfl) (u1_14 hc_X0_reasonOfY_32 rfl) rfl) rfl
theorem dX0_reasonOfY_47 : decode cX0_reasonOfY 47 = .ok (.goto 23, 3) := o_167 (u1_15 hc_X0_reasonOfY_32 rfl) (s2_d (u2_d (u1_16 hc_X0_reasonOfY_32 rfl) (u1_17 hc_X0_reasonOfY_32 rfl) rfl) rfl) rfl
theorem hc_X0_reasonOfY_48 : ((bL cX0_reasonOfY).drop 48).take 18 = [0, 23, 42, 28, 4, 29, 182, 0, 67, 167, 0, 13, 42, 28, 29, 182, 0, 71] := by decide +kernel
theorem dX0_reasonOfY_50 : decode cX0_reasonOfY 50 = .ok (.aload_n 0, 1) := o_42 (u1_2 hc_X0_reasonOfY_48 rfl) rfl
theorem dX0_reasonOfY_51 : decode cX0_reasonOfY 51 = .ok (.iload_n 2, 1) := o_28 (u1_3 hc_X0_reasonOfY_48 rfl) rfl
theorem dX0_reasonOfY_52 : decode cX0_reasonOfY 52 = .ok (.iconst 1, 1) := o_4 (u1_4 hc_X0_reasonOfY_48 rfl) rfl
theorem dX0_reasonOfY_53 : decode cX0_reasonOfY 53 = .ok (.iload_n 3, 1) := o_29 (u1_5 hc_X0_reasonOfY_48 rfl) rfl
theorem dX0_reasonOfY_54 : decode cX0_reasonOfY 54 = .ok (.invokevirtual 67, 3) := o_182 (u1_6 hc_X0_reasonOfY_48 rfl) (u2_d (u1_7 hc_X0_reasonOfY_48 rfl) (u1_8 hc_X0_reasonOfY_48 rfl) rfl) rfl
theorem dX0_reasonOfY_57 : decode cX0_reasonOfY 57 = .ok (.goto 13, 3) := o_167 (u1_9 hc_X0_reasonOfY_48 rfl) (s2_d (u2_d (u1_10 hc_X0_reasonOfY_48 rfl) (u1_11 hc_X0_reasonOfY_48 rfl) rfl) rfl) rfl
theorem dX0_reasonOfY_60 : decode cX0_reasonOfY 60 = .ok (.aload_n 0, 1) := o_42 (u1_12 hc_X0_reasonOfY_48 rfl) rfl
theorem dX0_reasonOfY_61 : decode cX0_reasonOfY 61 = .ok (.iload_n 2, 1) := o_28 (u1_13 hc_X0_reasonOfY_48 rfl) rfl
theorem dX0_reasonOfY_62 : decode cX0_reasonOfY 62 = .ok (.iload_n 3, 1) := o_29 (u1_14 hc_X0_reasonOfY_48 rfl) rfl
theorem dX0_reasonOfY_63 : decode cX0_reasonOfY 63 = .ok (.invokevirtual 71, 3) := o_182 (u1_15 hc_X0_reasonOfY_48 rfl) (u2_d (u1_16 hc_X0_reasonOfY_48 rfl) (u1_17 hc_X0_reasonOfY_48 rfl) rfl) rfl
theorem hc_X0_reasonOfY_64 : ((bL cX0_reasonOfY).drop 64).take 18 = [0, 71, 167, 0, 4, 3, 172] := by decide +kernel
theorem dX0_reasonOfY_66 : decode cX0_reasonOfY 66 = .ok (.goto 4, 3) := o_167 (u1_2 hc_X0_reasonOfY_64 rfl) (s2_d (u2_d (u1_3 hc_X0_reasonOfY_64 rfl) (u1_4 hc_X0_reasonOfY_64 rfl) rfl) rfl) rfl
theorem dX0_reasonOfY_69 : decode cX0_reasonOfY 69 = .ok (.iconst 0, 1) := o_3 (u1_5 hc_X0_reasonOfY_64 rfl) rfl
theorem dX0_reasonOfY_70 : decode cX0_reasonOfY 70 = .ok (.ireturn, 1) := o_172 (u1_6 hc_X0_reasonOfY_64 rfl) rfl
theorem hc_X0_isHeld_0 : ((bL cX0_isHeld).drop 0).take 18 = [42, 180, 0, 33, 27, 5, 42, 180, 0, 38, 182, 0, 74, 172] := by decide +kernel
theorem dX0_isHeld_0 : decode cX0_isHeld 0 = .ok (.aload_n 0, 1) := o_42 (u1_0 hc_X0_isHeld_0 rfl) rfl
theorem dX0_isHeld_1 : decode cX0_isHeld 1 = .ok (.getfield 33, 3) := o_180 (u1_1 hc_X0_isHeld_0 rfl) (u2_d (u1_2 hc_X0_isHeld_0 rfl) (u1_3 hc_X0_isHeld_0 rfl) rfl) rfl
theorem dX0_isHeld_4 : decode cX0_isHeld 4 = .ok (.iload_n 1, 1) := o_27 (u1_4 hc_X0_isHeld_0 rfl) rfl
theorem dX0_isHeld_5 : decode cX0_isHeld 5 = .ok (.iconst 2, 1) := o_5 (u1_5 hc_X0_isHeld_0 rfl) rfl
theorem dX0_isHeld_6 : decode cX0_isHeld 6 = .ok (.aload_n 0, 1) := o_42 (u1_6 hc_X0_isHeld_0 rfl) rfl
theorem dX0_isHeld_7 : decode cX0_isHeld 7 = .ok (.getfield 38, 3) := o_180 (u1_7 hc_X0_isHeld_0 rfl) (u2_d (u1_8 hc_X0_isHeld_0 rfl) (u1_9 hc_X0_isHeld_0 rfl) rfl) rfl
theorem dX0_isHeld_10 : decode cX0_isHeld 10 = .ok (.invokevirtual 74, 3) := o_182 (u1_10 hc_X0_isHeld_0 rfl) (u2_d (u1_11 hc_X0_isHeld_0 rfl) (u1_12 hc_X0_isHeld_0 rfl) rfl) rfl
theorem dX0_isHeld_13 : decode cX0_isHeld 13 = .ok (.ireturn, 1) := o_172 (u1_13 hc_X0_isHeld_0 rfl) rfl
theorem hc_X0_isByRoom_0 : ((bL cX0_isByRoom).drop 0).take 18 = [42, 180, 0, 33, 42, 180, 0, 38, 182, 0, 80, 154, 0, 28, 42, 180, 0, 9] := by decide +kernel
theorem dX0_isByRoom_0 : decode cX0_isByRoom 0 = .ok (.aload_n 0, 1) := o_42 (u1_0 hc_X0_isByRoom_0 rfl) rfl
theorem dX0_isByRoom_1 : decode cX0_isByRoom 1 = .ok (.getfield 33, 3) := o_180 (u1_1 hc_X0_isByRoom_0 rfl) (u2_d (u1_2 hc_X0_isByRoom_0 rfl) (u1_3 hc_X0_isByRoom_0 rfl) rfl) rfl
theorem dX0_isByRoom_4 : decode cX0_isByRoom 4 = .ok (.aload_n 0, 1) := o_42 (u1_4 hc_X0_isByRoom_0 rfl) rfl
theorem dX0_isByRoom_5 : decode cX0_isByRoom 5 = .ok (.getfield 38, 3) := o_180 (u1_5 hc_X0_isByRoom_0 rfl) (u2_d (u1_6 hc_X0_isByRoom_0 rfl) (u1_7 hc_X0_isByRoom_0 rfl) rfl) rfl
theorem dX0_isByRoom_8 : decode cX0_isByRoom 8 = .ok (.invokevirtual 80, 3) := o_182 (u1_8 hc_X0_isByRoom_0 rfl) (u2_d (u1_9 hc_X0_isByRoom_0 rfl) (u1_10 hc_X0_isByRoom_0 rfl) rfl) rfl
theorem dX0_isByRoom_11 : decode cX0_isByRoom 11 = .ok (.ifCond .ne 28, 3) := o_154 (u1_11 hc_X0_isByRoom_0 rfl) (s2_d (u2_d (u1_12 hc_X0_isByRoom_0 rfl) (u1_13 hc_X0_isByRoom_0 rfl) rfl) rfl) rfl
theorem dX0_isByRoom_14 : decode cX0_isByRoom 14 = .ok (.aload_n 0, 1) := o_42 (u1_14 hc_X0_isByRoom_0 rfl) rfl
theorem dX0_isByRoom_15 : decode cX0_isByRoom 15 = .ok (.getfield 9, 3) := o_180 (u1_15 hc_X0_isByRoom_0 rfl) (u2_d (u1_16 hc_X0_isByRoom_0 rfl) (u1_17 hc_X0_isByRoom_0 rfl) rfl) rfl
theorem hc_X0_isByRoom_16 : ((bL cX0_isByRoom).drop 16).take 18 = [0, 9, 42, 180, 0, 33, 42, 180, 0, 38, 182, 0, 83, 182, 0, 86, 154, 0] := by decide +kernel
theorem dX0_isByRoom_18 : decode cX0_isByRoom 18 = .ok (.aload_n 0, 1) := o_42 (u1_2 hc_X0_isByRoom_16 rfl) rfl
theorem dX0_isByRoom_19 : decode cX0_isByRoom 19 = .ok (.getfield 33, 3) := o_180 (u1_3 hc_X0_isByRoom_16 rfl) (u2_d (u1_4 hc_X0_isByRoom_16 rfl) (u1_5 hc_X0_isByRoom_16 rfl) rfl) rfl
theorem dX0_isByRoom_22 : decode cX0_isByRoom 22 = .ok (.aload_n 0, 1) := o_42 (u1_6 hc_X0_isByRoom_16 rfl) rfl
theorem dX0_isByRoom_23 : decode cX0_isByRoom 23 = .ok (.getfield 38, 3) := o_180 (u1_7 hc_X0_isByRoom_16 rfl) (u2_d (u1_8 hc_X0_isByRoom_16 rfl) (u1_9 hc_X0_isByRoom_16 rfl) rfl) rfl
theorem dX0_isByRoom_26 : decode cX0_isByRoom 26 = .ok (.invokevirtual 83, 3) := o_182 (u1_10 hc_X0_isByRoom_16 rfl) (u2_d (u1_11 hc_X0_isByRoom_16 rfl) (u1_12 hc_X0_isByRoom_16 rfl) rfl) rfl
theorem dX0_isByRoom_29 : decode cX0_isByRoom 29 = .ok (.invokevirtual 86, 3) := o_182 (u1_13 hc_X0_isByRoom_16 rfl) (u2_d (u1_14 hc_X0_isByRoom_16 rfl) (u1_15 hc_X0_isByRoom_16 rfl) rfl) rfl
theorem hc_X0_isByRoom_32 : ((bL cX0_isByRoom).drop 32).take 18 = [154, 0, 7, 4, 167, 0, 4, 3, 172] := by decide +kernel
theorem dX0_isByRoom_32 : decode cX0_isByRoom 32 = .ok (.ifCond .ne 7, 3) := o_154 (u1_0 hc_X0_isByRoom_32 rfl) (s2_d (u2_d (u1_1 hc_X0_isByRoom_32 rfl) (u1_2 hc_X0_isByRoom_32 rfl) rfl) rfl) rfl
theorem dX0_isByRoom_35 : decode cX0_isByRoom 35 = .ok (.iconst 1, 1) := o_4 (u1_3 hc_X0_isByRoom_32 rfl) rfl
theorem dX0_isByRoom_36 : decode cX0_isByRoom 36 = .ok (.goto 4, 3) := o_167 (u1_4 hc_X0_isByRoom_32 rfl) (s2_d (u2_d (u1_5 hc_X0_isByRoom_32 rfl) (u1_6 hc_X0_isByRoom_32 rfl) rfl) rfl) rfl
theorem dX0_isByRoom_39 : decode cX0_isByRoom 39 = .ok (.iconst 0, 1) := o_3 (u1_7 hc_X0_isByRoom_32 rfl) rfl
theorem dX0_isByRoom_40 : decode cX0_isByRoom 40 = .ok (.ireturn, 1) := o_172 (u1_8 hc_X0_isByRoom_32 rfl) rfl
theorem hc_X0_reasonToGo_0 : ((bL cX0_reasonToGo).drop 0).take 18 = [42, 182, 0, 91, 154, 0, 5, 4, 172, 42, 180, 0, 33, 42, 180, 0, 38, 182] := by decide +kernel
theorem dX0_reasonToGo_0 : decode cX0_reasonToGo 0 = .ok (.aload_n 0, 1) := o_42 (u1_0 hc_X0_reasonToGo_0 rfl) rfl
theorem dX0_reasonToGo_1 : decode cX0_reasonToGo 1 = .ok (.invokevirtual 91, 3) := o_182 (u1_1 hc_X0_reasonToGo_0 rfl) (u2_d (u1_2 hc_X0_reasonToGo_0 rfl) (u1_3 hc_X0_reasonToGo_0 rfl) rfl) rfl
theorem dX0_reasonToGo_4 : decode cX0_reasonToGo 4 = .ok (.ifCond .ne 5, 3) := o_154 (u1_4 hc_X0_reasonToGo_0 rfl) (s2_d (u2_d (u1_5 hc_X0_reasonToGo_0 rfl) (u1_6 hc_X0_reasonToGo_0 rfl) rfl) rfl) rfl
theorem dX0_reasonToGo_7 : decode cX0_reasonToGo 7 = .ok (.iconst 1, 1) := o_4 (u1_7 hc_X0_reasonToGo_0 rfl) rfl
theorem dX0_reasonToGo_8 : decode cX0_reasonToGo 8 = .ok (.ireturn, 1) := o_172 (u1_8 hc_X0_reasonToGo_0 rfl) rfl
theorem dX0_reasonToGo_9 : decode cX0_reasonToGo 9 = .ok (.aload_n 0, 1) := o_42 (u1_9 hc_X0_reasonToGo_0 rfl) rfl
theorem dX0_reasonToGo_10 : decode cX0_reasonToGo 10 = .ok (.getfield 33, 3) := o_180 (u1_10 hc_X0_reasonToGo_0 rfl) (u2_d (u1_11 hc_X0_reasonToGo_0 rfl) (u1_12 hc_X0_reasonToGo_0 rfl) rfl) rfl
theorem dX0_reasonToGo_13 : decode cX0_reasonToGo 13 = .ok (.aload_n 0, 1) := o_42 (u1_13 hc_X0_reasonToGo_0 rfl) rfl
theorem dX0_reasonToGo_14 : decode cX0_reasonToGo 14 = .ok (.getfield 38, 3) := o_180 (u1_14 hc_X0_reasonToGo_0 rfl) (u2_d (u1_15 hc_X0_reasonToGo_0 rfl) (u1_16 hc_X0_reasonToGo_0 rfl) rfl) rfl
theorem hc_X0_reasonToGo_16 : ((bL cX0_reasonToGo).drop 16).take 18 = [38, 182, 0, 83, 16, 10, 104, 27, 96, 61, 42, 180, 0, 19, 180, 0, 95, 28] := by decide +kernel
theorem dX0_reasonToGo_17 : decode cX0_reasonToGo 17 = .ok (.invokevirtual 83, 3) := o_182 (u1_1 hc_X0_reasonToGo_16 rfl) (u2_d (u1_2 hc_X0_reasonToGo_16 rfl) (u1_3 hc_X0_reasonToGo_16 rfl) rfl) rfl
theorem dX0_reasonToGo_20 : decode cX0_reasonToGo 20 = .ok (.bipush 10, 2) := o_16 (u1_4 hc_X0_reasonToGo_16 rfl) (s1_d (u1_5 hc_X0_reasonToGo_16 rfl) rfl) rfl
theorem dX0_reasonToGo_22 : decode cX0_reasonToGo 22 = .ok (.imul, 1) := o_104 (u1_6 hc_X0_reasonToGo_16 rfl) rfl
theorem dX0_reasonToGo_23 : decode cX0_reasonToGo 23 = .ok (.iload_n 1, 1) := o_27 (u1_7 hc_X0_reasonToGo_16 rfl) rfl
theorem dX0_reasonToGo_24 : decode cX0_reasonToGo 24 = .ok (.iadd, 1) := o_96 (u1_8 hc_X0_reasonToGo_16 rfl) rfl
theorem dX0_reasonToGo_25 : decode cX0_reasonToGo 25 = .ok (.istore_n 2, 1) := o_61 (u1_9 hc_X0_reasonToGo_16 rfl) rfl
theorem dX0_reasonToGo_26 : decode cX0_reasonToGo 26 = .ok (.aload_n 0, 1) := o_42 (u1_10 hc_X0_reasonToGo_16 rfl) rfl
theorem dX0_reasonToGo_27 : decode cX0_reasonToGo 27 = .ok (.getfield 19, 3) := o_180 (u1_11 hc_X0_reasonToGo_16 rfl) (u2_d (u1_12 hc_X0_reasonToGo_16 rfl) (u1_13 hc_X0_reasonToGo_16 rfl) rfl) rfl
theorem dX0_reasonToGo_30 : decode cX0_reasonToGo 30 = .ok (.getfield 95, 3) := o_180 (u1_14 hc_X0_reasonToGo_16 rfl) (u2_d (u1_15 hc_X0_reasonToGo_16 rfl) (u1_16 hc_X0_reasonToGo_16 rfl) rfl) rfl
theorem hc_X0_reasonToGo_32 : ((bL cX0_reasonToGo).drop 32).take 18 = [95, 28, 46, 16, 247, 160, 0, 5, 5, 172, 42, 180, 0, 19, 180, 0, 101, 28] := by decide +kernel
theorem dX0_reasonToGo_33 : decode cX0_reasonToGo 33 = .ok (.iload_n 2, 1) := o_28 (u1_1 hc_X0_reasonToGo_32 rfl) rfl
theorem dX0_reasonToGo_34 : decode cX0_reasonToGo 34 = .ok (.iaload, 1) := o_46 (u1_2 hc_X0_reasonToGo_32 rfl) rfl
theorem dX0_reasonToGo_35 : decode cX0_reasonToGo 35 = .ok (.bipush (-9), 2) := o_16 (u1_3 hc_X0_reasonToGo_32 rfl) (s1_d (u1_4 hc_X0_reasonToGo_32 rfl) rfl) rfl
theorem dX0_reasonToGo_37 : decode cX0_reasonToGo 37 = .ok (.if_icmp .ne 5, 3) := o_160 (u1_5 hc_X0_reasonToGo_32 rfl) (s2_d (u2_d (u1_6 hc_X0_reasonToGo_32 rfl) (u1_7 hc_X0_reasonToGo_32 rfl) rfl) rfl) rfl
theorem dX0_reasonToGo_40 : decode cX0_reasonToGo 40 = .ok (.iconst 2, 1) := o_5 (u1_8 hc_X0_reasonToGo_32 rfl) rfl
theorem dX0_reasonToGo_41 : decode cX0_reasonToGo 41 = .ok (.ireturn, 1) := o_172 (u1_9 hc_X0_reasonToGo_32 rfl) rfl
theorem dX0_reasonToGo_42 : decode cX0_reasonToGo 42 = .ok (.aload_n 0, 1) := o_42 (u1_10 hc_X0_reasonToGo_32 rfl) rfl
theorem dX0_reasonToGo_43 : decode cX0_reasonToGo 43 = .ok (.getfield 19, 3) := o_180 (u1_11 hc_X0_reasonToGo_32 rfl) (u2_d (u1_12 hc_X0_reasonToGo_32 rfl) (u1_13 hc_X0_reasonToGo_32 rfl) rfl) rfl
theorem dX0_reasonToGo_46 : decode cX0_reasonToGo 46 = .ok (.getfield 101, 3) := o_180 (u1_14 hc_X0_reasonToGo_32 rfl) (u2_d (u1_15 hc_X0_reasonToGo_32 rfl) (u1_16 hc_X0_reasonToGo_32 rfl) rfl) rfl
theorem hc_X0_reasonToGo_48 : ((bL cX0_reasonToGo).drop 48).take 18 = [101, 28, 46, 62, 29, 16, 247, 159, 0, 19, 42, 180, 0, 33, 29, 3, 182, 0] := by decide +kernel
theorem dX0_reasonToGo_49 : decode cX0_reasonToGo 49 = .ok (.iload_n 2, 1) := o_28 (u1_1 hc_X0_reasonToGo_48 rfl) rfl
theorem dX0_reasonToGo_50 : decode cX0_reasonToGo 50 = .ok (.iaload, 1) := o_46 (u1_2 hc_X0_reasonToGo_48 rfl) rfl
theorem dX0_reasonToGo_51 : decode cX0_reasonToGo 51 = .ok (.istore_n 3, 1) := o_62 (u1_3 hc_X0_reasonToGo_48 rfl) rfl
theorem dX0_reasonToGo_52 : decode cX0_reasonToGo 52 = .ok (.iload_n 3, 1) := o_29 (u1_4 hc_X0_reasonToGo_48 rfl) rfl
theorem dX0_reasonToGo_53 : decode cX0_reasonToGo 53 = .ok (.bipush (-9), 2) := o_16 (u1_5 hc_X0_reasonToGo_48 rfl) (s1_d (u1_6 hc_X0_reasonToGo_48 rfl) rfl) rfl
theorem dX0_reasonToGo_55 : decode cX0_reasonToGo 55 = .ok (.if_icmp .eq 19, 3) := o_159 (u1_7 hc_X0_reasonToGo_48 rfl) (s2_d (u2_d (u1_8 hc_X0_reasonToGo_48 rfl) (u1_9 hc_X0_reasonToGo_48 rfl) rfl) rfl) rfl
theorem dX0_reasonToGo_58 : decode cX0_reasonToGo 58 = .ok (.aload_n 0, 1) := o_42 (u1_10 hc_X0_reasonToGo_48 rfl) rfl
theorem dX0_reasonToGo_59 : decode cX0_reasonToGo 59 = .ok (.getfield 33, 3) := o_180 (u1_11 hc_X0_reasonToGo_48 rfl) (u2_d (u1_12 hc_X0_reasonToGo_48 rfl) (u1_13 hc_X0_reasonToGo_48 rfl) rfl) rfl
theorem dX0_reasonToGo_62 : decode cX0_reasonToGo 62 = .ok (.iload_n 3, 1) := o_29 (u1_14 hc_X0_reasonToGo_48 rfl) rfl
theorem dX0_reasonToGo_63 : decode cX0_reasonToGo 63 = .ok (.iconst 0, 1) := o_3 (u1_15 hc_X0_reasonToGo_48 rfl) rfl
theorem hc_X0_reasonToGo_64 : ((bL cX0_reasonToGo).drop 64).take 18 = [182, 0, 104, 154, 0, 7, 6, 167, 0, 4, 3, 172] := by decide +kernel
theorem dX0_reasonToGo_64 : decode cX0_reasonToGo 64 = .ok (.invokevirtual 104, 3) := o_182 (u1_0 hc_X0_reasonToGo_64 rfl) (u2_d (u1_1 hc_X0_reasonToGo_64 rfl) (u1_2 hc_X0_reasonToGo_64 rfl) rfl) rfl
theorem dX0_reasonToGo_67 : decode cX0_reasonToGo 67 = .ok (.ifCond .ne 7, 3) := o_154 (u1_3 hc_X0_reasonToGo_64 rfl) (s2_d (u2_d (u1_4 hc_X0_reasonToGo_64 rfl) (u1_5 hc_X0_reasonToGo_64 rfl) rfl) rfl) rfl
theorem dX0_reasonToGo_70 : decode cX0_reasonToGo 70 = .ok (.iconst 3, 1) := o_6 (u1_6 hc_X0_reasonToGo_64 rfl) rfl
theorem dX0_reasonToGo_71 : decode cX0_reasonToGo 71 = .ok (.goto 4, 3) := o_167 (u1_7 hc_X0_reasonToGo_64 rfl) (s2_d (u2_d (u1_8 hc_X0_reasonToGo_64 rfl) (u1_9 hc_X0_reasonToGo_64 rfl) rfl) rfl) rfl
theorem dX0_reasonToGo_74 : decode cX0_reasonToGo 74 = .ok (.iconst 0, 1) := o_3 (u1_10 hc_X0_reasonToGo_64 rfl) rfl
theorem dX0_reasonToGo_75 : decode cX0_reasonToGo 75 = .ok (.ireturn, 1) := o_172 (u1_11 hc_X0_reasonToGo_64 rfl) rfl
theorem hc_X0_reasonToTake_0 : ((bL cX0_reasonToTake).drop 0).take 18 = [42, 180, 0, 34, 180, 0, 108, 27, 51, 154, 0, 5, 7, 172, 27, 42, 180, 0] := by decide +kernel
theorem dX0_reasonToTake_0 : decode cX0_reasonToTake 0 = .ok (.aload_n 0, 1) := o_42 (u1_0 hc_X0_reasonToTake_0 rfl) rfl
theorem dX0_reasonToTake_1 : decode cX0_reasonToTake 1 = .ok (.getfield 34, 3) := o_180 (u1_1 hc_X0_reasonToTake_0 rfl) (u2_d (u1_2 hc_X0_reasonToTake_0 rfl) (u1_3 hc_X0_reasonToTake_0 rfl) rfl) rfl
theorem dX0_reasonToTake_4 : decode cX0_reasonToTake 4 = .ok (.getfield 108, 3) := o_180 (u1_4 hc_X0_reasonToTake_0 rfl) (u2_d (u1_5 hc_X0_reasonToTake_0 rfl) (u1_6 hc_X0_reasonToTake_0 rfl) rfl) rfl
theorem dX0_reasonToTake_7 : decode cX0_reasonToTake 7 = .ok (.iload_n 1, 1) := o_27 (u1_7 hc_X0_reasonToTake_0 rfl) rfl
theorem dX0_reasonToTake_8 : decode cX0_reasonToTake 8 = .ok (.baload, 1) := o_51 (u1_8 hc_X0_reasonToTake_0 rfl) rfl
theorem dX0_reasonToTake_9 : decode cX0_reasonToTake 9 = .ok (.ifCond .ne 5, 3) := o_154 (u1_9 hc_X0_reasonToTake_0 rfl) (s2_d (u2_d (u1_10 hc_X0_reasonToTake_0 rfl) (u1_11 hc_X0_reasonToTake_0 rfl) rfl) rfl) rfl
theorem dX0_reasonToTake_12 : decode cX0_reasonToTake 12 = .ok (.iconst 4, 1) := o_7 (u1_12 hc_X0_reasonToTake_0 rfl) rfl
theorem dX0_reasonToTake_13 : decode cX0_reasonToTake 13 = .ok (.ireturn, 1) := o_172 (u1_13 hc_X0_reasonToTake_0 rfl) rfl
theorem dX0_reasonToTake_14 : decode cX0_reasonToTake 14 = .ok (.iload_n 1, 1) := o_27 (u1_14 hc_X0_reasonToTake_0 rfl) rfl
theorem dX0_reasonToTake_15 : decode cX0_reasonToTake 15 = .ok (.aload_n 0, 1) := o_42 (u1_15 hc_X0_reasonToTake_0 rfl) rfl
theorem hc_X0_reasonToTake_16 : ((bL cX0_reasonToTake).drop 16).take 18 = [180, 0, 38, 159, 0, 18, 42, 180, 0, 33, 27, 42, 180, 0, 38, 182, 0, 112] := by decide +kernel
theorem dX0_reasonToTake_16 : decode cX0_reasonToTake 16 = .ok (.getfield 38, 3) := o_180 (u1_0 hc_X0_reasonToTake_16 rfl) (u2_d (u1_1 hc_X0_reasonToTake_16 rfl) (u1_2 hc_X0_reasonToTake_16 rfl) rfl) rfl
theorem dX0_reasonToTake_19 : decode cX0_reasonToTake 19 = .ok (.if_icmp .eq 18, 3) := o_159 (u1_3 hc_X0_reasonToTake_16 rfl) (s2_d (u2_d (u1_4 hc_X0_reasonToTake_16 rfl) (u1_5 hc_X0_reasonToTake_16 rfl) rfl) rfl) rfl
theorem dX0_reasonToTake_22 : decode cX0_reasonToTake 22 = .ok (.aload_n 0, 1) := o_42 (u1_6 hc_X0_reasonToTake_16 rfl) rfl
theorem dX0_reasonToTake_23 : decode cX0_reasonToTake 23 = .ok (.getfield 33, 3) := o_180 (u1_7 hc_X0_reasonToTake_16 rfl) (u2_d (u1_8 hc_X0_reasonToTake_16 rfl) (u1_9 hc_X0_reasonToTake_16 rfl) rfl) rfl
theorem dX0_reasonToTake_26 : decode cX0_reasonToTake 26 = .ok (.iload_n 1, 1) := o_27 (u1_10 hc_X0_reasonToTake_16 rfl) rfl
theorem dX0_reasonToTake_27 : decode cX0_reasonToTake 27 = .ok (.aload_n 0, 1) := o_42 (u1_11 hc_X0_reasonToTake_16 rfl) rfl
theorem dX0_reasonToTake_28 : decode cX0_reasonToTake 28 = .ok (.getfield 38, 3) := o_180 (u1_12 hc_X0_reasonToTake_16 rfl) (u2_d (u1_13 hc_X0_reasonToTake_16 rfl) (u1_14 hc_X0_reasonToTake_16 rfl) rfl) rfl
theorem dX0_reasonToTake_31 : decode cX0_reasonToTake 31 = .ok (.invokevirtual 112, 3) := o_182 (u1_15 hc_X0_reasonToTake_16 rfl) (u2_d (u1_16 hc_X0_reasonToTake_16 rfl) (u1_17 hc_X0_reasonToTake_16 rfl) rfl) rfl
theorem hc_X0_reasonToTake_32 : ((bL cX0_reasonToTake).drop 32).take 18 = [0, 112, 153, 0, 5, 8, 172, 42, 27, 182, 0, 49, 153, 0, 6, 16, 6, 172] := by decide +kernel
theorem dX0_reasonToTake_34 : decode cX0_reasonToTake 34 = .ok (.ifCond .eq 5, 3) := o_153 (u1_2 hc_X0_reasonToTake_32 rfl) (s2_d (u2_d (u1_3 hc_X0_reasonToTake_32 rfl) (u1_4 hc_X0_reasonToTake_32 rfl) rfl) rfl) rfl
theorem dX0_reasonToTake_37 : decode cX0_reasonToTake 37 = .ok (.iconst 5, 1) := o_8 (u1_5 hc_X0_reasonToTake_32 rfl) rfl
theorem dX0_reasonToTake_38 : decode cX0_reasonToTake 38 = .ok (.ireturn, 1) := o_172 (u1_6 hc_X0_reasonToTake_32 rfl) rfl
theorem dX0_reasonToTake_39 : decode cX0_reasonToTake 39 = .ok (.aload_n 0, 1) := o_42 (u1_7 hc_X0_reasonToTake_32 rfl) rfl
theorem dX0_reasonToTake_40 : decode cX0_reasonToTake 40 = .ok (.iload_n 1, 1) := o_27 (u1_8 hc_X0_reasonToTake_32 rfl) rfl
theorem dX0_reasonToTake_41 : decode cX0_reasonToTake 41 = .ok (.invokevirtual 49, 3) := o_182 (u1_9 hc_X0_reasonToTake_32 rfl) (u2_d (u1_10 hc_X0_reasonToTake_32 rfl) (u1_11 hc_X0_reasonToTake_32 rfl) rfl) rfl
theorem dX0_reasonToTake_44 : decode cX0_reasonToTake 44 = .ok (.ifCond .eq 6, 3) := o_153 (u1_12 hc_X0_reasonToTake_32 rfl) (s2_d (u2_d (u1_13 hc_X0_reasonToTake_32 rfl) (u1_14 hc_X0_reasonToTake_32 rfl) rfl) rfl) rfl
theorem dX0_reasonToTake_47 : decode cX0_reasonToTake 47 = .ok (.bipush 6, 2) := o_16 (u1_15 hc_X0_reasonToTake_32 rfl) (s1_d (u1_16 hc_X0_reasonToTake_32 rfl) rfl) rfl
theorem hc_X0_reasonToTake_48 : ((bL cX0_reasonToTake).drop 48).take 18 = [6, 172, 42, 180, 0, 9, 27, 182, 0, 115, 153, 0, 27, 42, 180, 0, 33, 27] := by decide +kernel
theorem dX0_reasonToTake_49 : decode cX0_reasonToTake 49 = .ok (.ireturn, 1) := o_172 (u1_1 hc_X0_reasonToTake_48 rfl) rfl
theorem dX0_reasonToTake_50 : decode cX0_reasonToTake 50 = .ok (.aload_n 0, 1) := o_42 (u1_2 hc_X0_reasonToTake_48 rfl) rfl
theorem dX0_reasonToTake_51 : decode cX0_reasonToTake 51 = .ok (.getfield 9, 3) := o_180 (u1_3 hc_X0_reasonToTake_48 rfl) (u2_d (u1_4 hc_X0_reasonToTake_48 rfl) (u1_5 hc_X0_reasonToTake_48 rfl) rfl) rfl
theorem dX0_reasonToTake_54 : decode cX0_reasonToTake 54 = .ok (.iload_n 1, 1) := o_27 (u1_6 hc_X0_reasonToTake_48 rfl) rfl
theorem dX0_reasonToTake_55 : decode cX0_reasonToTake 55 = .ok (.invokevirtual 115, 3) := o_182 (u1_7 hc_X0_reasonToTake_48 rfl) (u2_d (u1_8 hc_X0_reasonToTake_48 rfl) (u1_9 hc_X0_reasonToTake_48 rfl) rfl) rfl
theorem dX0_reasonToTake_58 : decode cX0_reasonToTake 58 = .ok (.ifCond .eq 27, 3) := o_153 (u1_10 hc_X0_reasonToTake_48 rfl) (s2_d (u2_d (u1_11 hc_X0_reasonToTake_48 rfl) (u1_12 hc_X0_reasonToTake_48 rfl) rfl) rfl) rfl
theorem dX0_reasonToTake_61 : decode cX0_reasonToTake 61 = .ok (.aload_n 0, 1) := o_42 (u1_13 hc_X0_reasonToTake_48 rfl) rfl
theorem dX0_reasonToTake_62 : decode cX0_reasonToTake 62 = .ok (.getfield 33, 3) := o_180 (u1_14 hc_X0_reasonToTake_48 rfl) (u2_d (u1_15 hc_X0_reasonToTake_48 rfl) (u1_16 hc_X0_reasonToTake_48 rfl) rfl) rfl
theorem hc_X0_reasonToTake_64 : ((bL cX0_reasonToTake).drop 64).take 18 = [33, 27, 6, 182, 0, 104, 154, 0, 15, 42, 180, 0, 33, 27, 182, 0, 80, 7] := by decide +kernel
theorem dX0_reasonToTake_65 : decode cX0_reasonToTake 65 = .ok (.iload_n 1, 1) := o_27 (u1_1 hc_X0_reasonToTake_64 rfl) rfl
theorem dX0_reasonToTake_66 : decode cX0_reasonToTake 66 = .ok (.iconst 3, 1) := o_6 (u1_2 hc_X0_reasonToTake_64 rfl) rfl
theorem dX0_reasonToTake_67 : decode cX0_reasonToTake 67 = .ok (.invokevirtual 104, 3) := o_182 (u1_3 hc_X0_reasonToTake_64 rfl) (u2_d (u1_4 hc_X0_reasonToTake_64 rfl) (u1_5 hc_X0_reasonToTake_64 rfl) rfl) rfl
theorem dX0_reasonToTake_70 : decode cX0_reasonToTake 70 = .ok (.ifCond .ne 15, 3) := o_154 (u1_6 hc_X0_reasonToTake_64 rfl) (s2_d (u2_d (u1_7 hc_X0_reasonToTake_64 rfl) (u1_8 hc_X0_reasonToTake_64 rfl) rfl) rfl) rfl
theorem dX0_reasonToTake_73 : decode cX0_reasonToTake 73 = .ok (.aload_n 0, 1) := o_42 (u1_9 hc_X0_reasonToTake_64 rfl) rfl
theorem dX0_reasonToTake_74 : decode cX0_reasonToTake 74 = .ok (.getfield 33, 3) := o_180 (u1_10 hc_X0_reasonToTake_64 rfl) (u2_d (u1_11 hc_X0_reasonToTake_64 rfl) (u1_12 hc_X0_reasonToTake_64 rfl) rfl) rfl
theorem dX0_reasonToTake_77 : decode cX0_reasonToTake 77 = .ok (.iload_n 1, 1) := o_27 (u1_13 hc_X0_reasonToTake_64 rfl) rfl
theorem dX0_reasonToTake_78 : decode cX0_reasonToTake 78 = .ok (.invokevirtual 80, 3) := o_182 (u1_14 hc_X0_reasonToTake_64 rfl) (u2_d (u1_15 hc_X0_reasonToTake_64 rfl) (u1_16 hc_X0_reasonToTake_64 rfl) rfl) rfl
theorem hc_X0_reasonToTake_80 : ((bL cX0_reasonToTake).drop 80).take 18 = [80, 7, 160, 0, 6, 16, 7, 172, 42, 180, 0, 34, 180, 0, 118, 27, 51, 154] := by decide +kernel
theorem dX0_reasonToTake_81 : decode cX0_reasonToTake 81 = .ok (.iconst 4, 1) := o_7 (u1_1 hc_X0_reasonToTake_80 rfl) rfl
theorem dX0_reasonToTake_82 : decode cX0_reasonToTake 82 = .ok (.if_icmp .ne 6, 3) := o_160 (u1_2 hc_X0_reasonToTake_80 rfl) (s2_d (u2_d (u1_3 hc_X0_reasonToTake_80 rfl) (u1_4 hc_X0_reasonToTake_80 rfl) rfl) rfl) rfl
theorem dX0_reasonToTake_85 : decode cX0_reasonToTake 85 = .ok (.bipush 7, 2) := o_16 (u1_5 hc_X0_reasonToTake_80 rfl) (s1_d (u1_6 hc_X0_reasonToTake_80 rfl) rfl) rfl
theorem dX0_reasonToTake_87 : decode cX0_reasonToTake 87 = .ok (.ireturn, 1) := o_172 (u1_7 hc_X0_reasonToTake_80 rfl) rfl
theorem dX0_reasonToTake_88 : decode cX0_reasonToTake 88 = .ok (.aload_n 0, 1) := o_42 (u1_8 hc_X0_reasonToTake_80 rfl) rfl
theorem dX0_reasonToTake_89 : decode cX0_reasonToTake 89 = .ok (.getfield 34, 3) := o_180 (u1_9 hc_X0_reasonToTake_80 rfl) (u2_d (u1_10 hc_X0_reasonToTake_80 rfl) (u1_11 hc_X0_reasonToTake_80 rfl) rfl) rfl
theorem dX0_reasonToTake_92 : decode cX0_reasonToTake 92 = .ok (.getfield 118, 3) := o_180 (u1_12 hc_X0_reasonToTake_80 rfl) (u2_d (u1_13 hc_X0_reasonToTake_80 rfl) (u1_14 hc_X0_reasonToTake_80 rfl) rfl) rfl
theorem dX0_reasonToTake_95 : decode cX0_reasonToTake 95 = .ok (.iload_n 1, 1) := o_27 (u1_15 hc_X0_reasonToTake_80 rfl) rfl
theorem hc_X0_reasonToTake_96 : ((bL cX0_reasonToTake).drop 96).take 18 = [51, 154, 0, 6, 16, 8, 172, 42, 27, 182, 0, 121, 153, 0, 6, 16, 9, 172] := by decide +kernel
theorem dX0_reasonToTake_96 : decode cX0_reasonToTake 96 = .ok (.baload, 1) := o_51 (u1_0 hc_X0_reasonToTake_96 rfl) rfl
theorem dX0_reasonToTake_97 : decode cX0_reasonToTake 97 = .ok (.ifCond .ne 6, 3) := o_154 (u1_1 hc_X0_reasonToTake_96 rfl) (s2_d (u2_d (u1_2 hc_X0_reasonToTake_96 rfl) (u1_3 hc_X0_reasonToTake_96 rfl) rfl) rfl) rfl
theorem dX0_reasonToTake_100 : decode cX0_reasonToTake 100 = .ok (.bipush 8, 2) := o_16 (u1_4 hc_X0_reasonToTake_96 rfl) (s1_d (u1_5 hc_X0_reasonToTake_96 rfl) rfl) rfl
theorem dX0_reasonToTake_102 : decode cX0_reasonToTake 102 = .ok (.ireturn, 1) := o_172 (u1_6 hc_X0_reasonToTake_96 rfl) rfl
theorem dX0_reasonToTake_103 : decode cX0_reasonToTake 103 = .ok (.aload_n 0, 1) := o_42 (u1_7 hc_X0_reasonToTake_96 rfl) rfl
theorem dX0_reasonToTake_104 : decode cX0_reasonToTake 104 = .ok (.iload_n 1, 1) := o_27 (u1_8 hc_X0_reasonToTake_96 rfl) rfl
theorem dX0_reasonToTake_105 : decode cX0_reasonToTake 105 = .ok (.invokevirtual 121, 3) := o_182 (u1_9 hc_X0_reasonToTake_96 rfl) (u2_d (u1_10 hc_X0_reasonToTake_96 rfl) (u1_11 hc_X0_reasonToTake_96 rfl) rfl) rfl
theorem dX0_reasonToTake_108 : decode cX0_reasonToTake 108 = .ok (.ifCond .eq 6, 3) := o_153 (u1_12 hc_X0_reasonToTake_96 rfl) (s2_d (u2_d (u1_13 hc_X0_reasonToTake_96 rfl) (u1_14 hc_X0_reasonToTake_96 rfl) rfl) rfl) rfl
theorem dX0_reasonToTake_111 : decode cX0_reasonToTake 111 = .ok (.bipush 9, 2) := o_16 (u1_15 hc_X0_reasonToTake_96 rfl) (s1_d (u1_16 hc_X0_reasonToTake_96 rfl) rfl) rfl
theorem hc_X0_reasonToTake_112 : ((bL cX0_reasonToTake).drop 112).take 18 = [9, 172, 42, 180, 0, 23, 42, 180, 0, 33, 27, 3, 182, 0, 124, 42, 180, 0] := by decide +kernel
theorem dX0_reasonToTake_113 : decode cX0_reasonToTake 113 = .ok (.ireturn, 1) := o_172 (u1_1 hc_X0_reasonToTake_112 rfl) rfl
theorem dX0_reasonToTake_114 : decode cX0_reasonToTake 114 = .ok (.aload_n 0, 1) := o_42 (u1_2 hc_X0_reasonToTake_112 rfl) rfl
theorem dX0_reasonToTake_115 : decode cX0_reasonToTake 115 = .ok (.getfield 23, 3) := o_180 (u1_3 hc_X0_reasonToTake_112 rfl) (u2_d (u1_4 hc_X0_reasonToTake_112 rfl) (u1_5 hc_X0_reasonToTake_112 rfl) rfl) rfl
theorem dX0_reasonToTake_118 : decode cX0_reasonToTake 118 = .ok (.aload_n 0, 1) := o_42 (u1_6 hc_X0_reasonToTake_112 rfl) rfl
theorem dX0_reasonToTake_119 : decode cX0_reasonToTake 119 = .ok (.getfield 33, 3) := o_180 (u1_7 hc_X0_reasonToTake_112 rfl) (u2_d (u1_8 hc_X0_reasonToTake_112 rfl) (u1_9 hc_X0_reasonToTake_112 rfl) rfl) rfl
theorem dX0_reasonToTake_122 : decode cX0_reasonToTake 122 = .ok (.iload_n 1, 1) := o_27 (u1_10 hc_X0_reasonToTake_112 rfl) rfl
theorem dX0_reasonToTake_123 : decode cX0_reasonToTake 123 = .ok (.iconst 0, 1) := o_3 (u1_11 hc_X0_reasonToTake_112 rfl) rfl
theorem dX0_reasonToTake_124 : decode cX0_reasonToTake 124 = .ok (.invokevirtual 124, 3) := o_182 (u1_12 hc_X0_reasonToTake_112 rfl) (u2_d (u1_13 hc_X0_reasonToTake_112 rfl) (u1_14 hc_X0_reasonToTake_112 rfl) rfl) rfl
theorem dX0_reasonToTake_127 : decode cX0_reasonToTake 127 = .ok (.aload_n 0, 1) := o_42 (u1_15 hc_X0_reasonToTake_112 rfl) rfl
theorem hc_X0_reasonToTake_128 : ((bL cX0_reasonToTake).drop 128).take 18 = [180, 0, 23, 42, 180, 0, 33, 5, 42, 180, 0, 38, 3, 182, 0, 130, 96, 61] := by decide +kernel
theorem dX0_reasonToTake_128 : decode cX0_reasonToTake 128 = .ok (.getfield 23, 3) := o_180 (u1_0 hc_X0_reasonToTake_128 rfl) (u2_d (u1_1 hc_X0_reasonToTake_128 rfl) (u1_2 hc_X0_reasonToTake_128 rfl) rfl) rfl
theorem dX0_reasonToTake_131 : decode cX0_reasonToTake 131 = .ok (.aload_n 0, 1) := o_42 (u1_3 hc_X0_reasonToTake_128 rfl) rfl
theorem dX0_reasonToTake_132 : decode cX0_reasonToTake 132 = .ok (.getfield 33, 3) := o_180 (u1_4 hc_X0_reasonToTake_128 rfl) (u2_d (u1_5 hc_X0_reasonToTake_128 rfl) (u1_6 hc_X0_reasonToTake_128 rfl) rfl) rfl
theorem dX0_reasonToTake_135 : decode cX0_reasonToTake 135 = .ok (.iconst 2, 1) := o_5 (u1_7 hc_X0_reasonToTake_128 rfl) rfl
theorem dX0_reasonToTake_136 : decode cX0_reasonToTake 136 = .ok (.aload_n 0, 1) := o_42 (u1_8 hc_X0_reasonToTake_128 rfl) rfl
theorem dX0_reasonToTake_137 : decode cX0_reasonToTake 137 = .ok (.getfield 38, 3) := o_180 (u1_9 hc_X0_reasonToTake_128 rfl) (u2_d (u1_10 hc_X0_reasonToTake_128 rfl) (u1_11 hc_X0_reasonToTake_128 rfl) rfl) rfl
theorem dX0_reasonToTake_140 : decode cX0_reasonToTake 140 = .ok (.iconst 0, 1) := o_3 (u1_12 hc_X0_reasonToTake_128 rfl) rfl
theorem dX0_reasonToTake_141 : decode cX0_reasonToTake 141 = .ok (.invokevirtual 130, 3) := o_182 (u1_13 hc_X0_reasonToTake_128 rfl) (u2_d (u1_14 hc_X0_reasonToTake_128 rfl) (u1_15 hc_X0_reasonToTake_128 rfl) rfl) rfl
theorem hc_X0_reasonToTake_144 : ((bL cX0_reasonToTake).drop 144).take 18 = [96, 61, 28, 16, 100, 164, 0, 8, 16, 10, 167, 0, 4, 3, 172] := by decide +kernel
theorem dX0_reasonToTake_144 : decode cX0_reasonToTake 144 = .ok (.iadd, 1) := o_96 (u1_0 hc_X0_reasonToTake_144 rfl) rfl
theorem dX0_reasonToTake_145 : decode cX0_reasonToTake 145 = .ok (.istore_n 2, 1) := o_61 (u1_1 hc_X0_reasonToTake_144 rfl) rfl
theorem dX0_reasonToTake_146 : decode cX0_reasonToTake 146 = .ok (.iload_n 2, 1) := o_28 (u1_2 hc_X0_reasonToTake_144 rfl) rfl
theorem dX0_reasonToTake_147 : decode cX0_reasonToTake 147 = .ok (.bipush 100, 2) := o_16 (u1_3 hc_X0_reasonToTake_144 rfl) (s1_d (u1_4 hc_X0_reasonToTake_144 rfl) rfl) rfl
theorem dX0_reasonToTake_149 : decode cX0_reasonToTake 149 = .ok (.if_icmp .le 8, 3) := o_164 (u1_5 hc_X0_reasonToTake_144 rfl) (s2_d (u2_d (u1_6 hc_X0_reasonToTake_144 rfl) (u1_7 hc_X0_reasonToTake_144 rfl) rfl) rfl) rfl
theorem dX0_reasonToTake_152 : decode cX0_reasonToTake 152 = .ok (.bipush 10, 2) := o_16 (u1_8 hc_X0_reasonToTake_144 rfl) (s1_d (u1_9 hc_X0_reasonToTake_144 rfl) rfl) rfl
theorem dX0_reasonToTake_154 : decode cX0_reasonToTake 154 = .ok (.goto 4, 3) := o_167 (u1_10 hc_X0_reasonToTake_144 rfl) (s2_d (u2_d (u1_11 hc_X0_reasonToTake_144 rfl) (u1_12 hc_X0_reasonToTake_144 rfl) rfl) rfl) rfl
theorem dX0_reasonToTake_157 : decode cX0_reasonToTake 157 = .ok (.iconst 0, 1) := o_3 (u1_13 hc_X0_reasonToTake_144 rfl) rfl
theorem dX0_reasonToTake_158 : decode cX0_reasonToTake 158 = .ok (.ireturn, 1) := o_172 (u1_14 hc_X0_reasonToTake_144 rfl) rfl
theorem hc_X0_isAnothers_0 : ((bL cX0_isAnothers).drop 0).take 18 = [42, 180, 0, 33, 27, 182, 0, 83, 61, 3, 62, 29, 16, 30, 162, 0, 46, 28] := by decide +kernel
theorem dX0_isAnothers_0 : decode cX0_isAnothers 0 = .ok (.aload_n 0, 1) := o_42 (u1_0 hc_X0_isAnothers_0 rfl) rfl
theorem dX0_isAnothers_1 : decode cX0_isAnothers 1 = .ok (.getfield 33, 3) := o_180 (u1_1 hc_X0_isAnothers_0 rfl) (u2_d (u1_2 hc_X0_isAnothers_0 rfl) (u1_3 hc_X0_isAnothers_0 rfl) rfl) rfl
theorem dX0_isAnothers_4 : decode cX0_isAnothers 4 = .ok (.iload_n 1, 1) := o_27 (u1_4 hc_X0_isAnothers_0 rfl) rfl
theorem dX0_isAnothers_5 : decode cX0_isAnothers 5 = .ok (.invokevirtual 83, 3) := o_182 (u1_5 hc_X0_isAnothers_0 rfl) (u2_d (u1_6 hc_X0_isAnothers_0 rfl) (u1_7 hc_X0_isAnothers_0 rfl) rfl) rfl
theorem dX0_isAnothers_8 : decode cX0_isAnothers 8 = .ok (.istore_n 2, 1) := o_61 (u1_8 hc_X0_isAnothers_0 rfl) rfl
theorem dX0_isAnothers_9 : decode cX0_isAnothers 9 = .ok (.iconst 0, 1) := o_3 (u1_9 hc_X0_isAnothers_0 rfl) rfl
theorem dX0_isAnothers_10 : decode cX0_isAnothers 10 = .ok (.istore_n 3, 1) := o_62 (u1_10 hc_X0_isAnothers_0 rfl) rfl
theorem dX0_isAnothers_11 : decode cX0_isAnothers 11 = .ok (.iload_n 3, 1) := o_29 (u1_11 hc_X0_isAnothers_0 rfl) rfl
theorem dX0_isAnothers_12 : decode cX0_isAnothers 12 = .ok (.bipush 30, 2) := o_16 (u1_12 hc_X0_isAnothers_0 rfl) (s1_d (u1_13 hc_X0_isAnothers_0 rfl) rfl) rfl
theorem dX0_isAnothers_14 : decode cX0_isAnothers 14 = .ok (.if_icmp .ge 46, 3) := o_162 (u1_14 hc_X0_isAnothers_0 rfl) (s2_d (u2_d (u1_15 hc_X0_isAnothers_0 rfl) (u1_16 hc_X0_isAnothers_0 rfl) rfl) rfl) rfl
theorem hc_X0_isAnothers_16 : ((bL cX0_isAnothers).drop 16).take 18 = [46, 28, 16, 247, 159, 0, 40, 28, 42, 180, 0, 38, 159, 0, 17, 42, 180, 0] := by decide +kernel
theorem dX0_isAnothers_17 : decode cX0_isAnothers 17 = .ok (.iload_n 2, 1) := o_28 (u1_1 hc_X0_isAnothers_16 rfl) rfl
theorem dX0_isAnothers_18 : decode cX0_isAnothers 18 = .ok (.bipush (-9), 2) := o_16 (u1_2 hc_X0_isAnothers_16 rfl) (s1_d (u1_3 hc_X0_isAnothers_16 rfl) rfl) rfl
theorem dX0_isAnothers_20 : decode cX0_isAnothers 20 = .ok (.if_icmp .eq 40, 3) := o_159 (u1_4 hc_X0_isAnothers_16 rfl) (s2_d (u2_d (u1_5 hc_X0_isAnothers_16 rfl) (u1_6 hc_X0_isAnothers_16 rfl) rfl) rfl) rfl
theorem dX0_isAnothers_23 : decode cX0_isAnothers 23 = .ok (.iload_n 2, 1) := o_28 (u1_7 hc_X0_isAnothers_16 rfl) rfl
theorem dX0_isAnothers_24 : decode cX0_isAnothers 24 = .ok (.aload_n 0, 1) := o_42 (u1_8 hc_X0_isAnothers_16 rfl) rfl
theorem dX0_isAnothers_25 : decode cX0_isAnothers 25 = .ok (.getfield 38, 3) := o_180 (u1_9 hc_X0_isAnothers_16 rfl) (u2_d (u1_10 hc_X0_isAnothers_16 rfl) (u1_11 hc_X0_isAnothers_16 rfl) rfl) rfl
theorem dX0_isAnothers_28 : decode cX0_isAnothers 28 = .ok (.if_icmp .eq 17, 3) := o_159 (u1_12 hc_X0_isAnothers_16 rfl) (s2_d (u2_d (u1_13 hc_X0_isAnothers_16 rfl) (u1_14 hc_X0_isAnothers_16 rfl) rfl) rfl) rfl
theorem dX0_isAnothers_31 : decode cX0_isAnothers 31 = .ok (.aload_n 0, 1) := o_42 (u1_15 hc_X0_isAnothers_16 rfl) rfl
theorem hc_X0_isAnothers_32 : ((bL cX0_isAnothers).drop 32).take 18 = [180, 0, 9, 28, 182, 0, 86, 8, 160, 0, 5, 4, 172, 42, 180, 0, 33, 28] := by decide +kernel
theorem dX0_isAnothers_32 : decode cX0_isAnothers 32 = .ok (.getfield 9, 3) := o_180 (u1_0 hc_X0_isAnothers_32 rfl) (u2_d (u1_1 hc_X0_isAnothers_32 rfl) (u1_2 hc_X0_isAnothers_32 rfl) rfl) rfl
theorem dX0_isAnothers_35 : decode cX0_isAnothers 35 = .ok (.iload_n 2, 1) := o_28 (u1_3 hc_X0_isAnothers_32 rfl) rfl
theorem dX0_isAnothers_36 : decode cX0_isAnothers 36 = .ok (.invokevirtual 86, 3) := o_182 (u1_4 hc_X0_isAnothers_32 rfl) (u2_d (u1_5 hc_X0_isAnothers_32 rfl) (u1_6 hc_X0_isAnothers_32 rfl) rfl) rfl
theorem dX0_isAnothers_39 : decode cX0_isAnothers 39 = .ok (.iconst 5, 1) := o_8 (u1_7 hc_X0_isAnothers_32 rfl) rfl
theorem dX0_isAnothers_40 : decode cX0_isAnothers 40 = .ok (.if_icmp .ne 5, 3) := o_160 (u1_8 hc_X0_isAnothers_32 rfl) (s2_d (u2_d (u1_9 hc_X0_isAnothers_32 rfl) (u1_10 hc_X0_isAnothers_32 rfl) rfl) rfl) rfl
theorem dX0_isAnothers_43 : decode cX0_isAnothers 43 = .ok (.iconst 1, 1) := o_4 (u1_11 hc_X0_isAnothers_32 rfl) rfl
theorem dX0_isAnothers_44 : decode cX0_isAnothers 44 = .ok (.ireturn, 1) := o_172 (u1_12 hc_X0_isAnothers_32 rfl) rfl
theorem dX0_isAnothers_45 : decode cX0_isAnothers 45 = .ok (.aload_n 0, 1) := o_42 (u1_13 hc_X0_isAnothers_32 rfl) rfl
theorem dX0_isAnothers_46 : decode cX0_isAnothers 46 = .ok (.getfield 33, 3) := o_180 (u1_14 hc_X0_isAnothers_32 rfl) (u2_d (u1_15 hc_X0_isAnothers_32 rfl) (u1_16 hc_X0_isAnothers_32 rfl) rfl) rfl
theorem hc_X0_isAnothers_48 : ((bL cX0_isAnothers).drop 48).take 18 = [33, 28, 182, 0, 83, 61, 132, 3, 1, 167, 255, 210, 3, 172] := by decide +kernel
theorem dX0_isAnothers_49 : decode cX0_isAnothers 49 = .ok (.iload_n 2, 1) := o_28 (u1_1 hc_X0_isAnothers_48 rfl) rfl
theorem dX0_isAnothers_50 : decode cX0_isAnothers 50 = .ok (.invokevirtual 83, 3) := o_182 (u1_2 hc_X0_isAnothers_48 rfl) (u2_d (u1_3 hc_X0_isAnothers_48 rfl) (u1_4 hc_X0_isAnothers_48 rfl) rfl) rfl
theorem dX0_isAnothers_53 : decode cX0_isAnothers 53 = .ok (.istore_n 2, 1) := o_61 (u1_5 hc_X0_isAnothers_48 rfl) rfl
theorem dX0_isAnothers_54 : decode cX0_isAnothers 54 = .ok (.iinc 3 1, 3) := o_132 (u1_6 hc_X0_isAnothers_48 rfl) (u1_7 hc_X0_isAnothers_48 rfl) (s1_d (u1_8 hc_X0_isAnothers_48 rfl) rfl) rfl
theorem dX0_isAnothers_57 : decode cX0_isAnothers 57 = .ok (.goto (-46), 3) := o_167 (u1_9 hc_X0_isAnothers_48 rfl) (s2_d (u2_d (u1_10 hc_X0_isAnothers_48 rfl) (u1_11 hc_X0_isAnothers_48 rfl) rfl) rfl) rfl
theorem dX0_isAnothers_60 : decode cX0_isAnothers 60 = .ok (.iconst 0, 1) := o_3 (u1_12 hc_X0_isAnothers_48 rfl) rfl
theorem dX0_isAnothers_61 : decode cX0_isAnothers 61 = .ok (.ireturn, 1) := o_172 (u1_13 hc_X0_isAnothers_48 rfl) rfl
theorem hc_X0_reasonToPut_0 : ((bL cX0_reasonToPut).drop 0).take 18 = [42, 180, 0, 34, 180, 0, 108, 29, 51, 154, 0, 5, 7, 172, 42, 180, 0, 9] := by decide +kernel
theorem dX0_reasonToPut_0 : decode cX0_reasonToPut 0 = .ok (.aload_n 0, 1) := o_42 (u1_0 hc_X0_reasonToPut_0 rfl) rfl
theorem dX0_reasonToPut_1 : decode cX0_reasonToPut 1 = .ok (.getfield 34, 3) := o_180 (u1_1 hc_X0_reasonToPut_0 rfl) (u2_d (u1_2 hc_X0_reasonToPut_0 rfl) (u1_3 hc_X0_reasonToPut_0 rfl) rfl) rfl
theorem dX0_reasonToPut_4 : decode cX0_reasonToPut 4 = .ok (.getfield 108, 3) := o_180 (u1_4 hc_X0_reasonToPut_0 rfl) (u2_d (u1_5 hc_X0_reasonToPut_0 rfl) (u1_6 hc_X0_reasonToPut_0 rfl) rfl) rfl
theorem dX0_reasonToPut_7 : decode cX0_reasonToPut 7 = .ok (.iload_n 3, 1) := o_29 (u1_7 hc_X0_reasonToPut_0 rfl) rfl
theorem dX0_reasonToPut_8 : decode cX0_reasonToPut 8 = .ok (.baload, 1) := o_51 (u1_8 hc_X0_reasonToPut_0 rfl) rfl
theorem dX0_reasonToPut_9 : decode cX0_reasonToPut 9 = .ok (.ifCond .ne 5, 3) := o_154 (u1_9 hc_X0_reasonToPut_0 rfl) (s2_d (u2_d (u1_10 hc_X0_reasonToPut_0 rfl) (u1_11 hc_X0_reasonToPut_0 rfl) rfl) rfl) rfl
theorem dX0_reasonToPut_12 : decode cX0_reasonToPut 12 = .ok (.iconst 4, 1) := o_7 (u1_12 hc_X0_reasonToPut_0 rfl) rfl
theorem dX0_reasonToPut_13 : decode cX0_reasonToPut 13 = .ok (.ireturn, 1) := o_172 (u1_13 hc_X0_reasonToPut_0 rfl) rfl
theorem dX0_reasonToPut_14 : decode cX0_reasonToPut 14 = .ok (.aload_n 0, 1) := o_42 (u1_14 hc_X0_reasonToPut_0 rfl) rfl
theorem dX0_reasonToPut_15 : decode cX0_reasonToPut 15 = .ok (.getfield 9, 3) := o_180 (u1_15 hc_X0_reasonToPut_0 rfl) (u2_d (u1_16 hc_X0_reasonToPut_0 rfl) (u1_17 hc_X0_reasonToPut_0 rfl) rfl) rfl
theorem hc_X0_reasonToPut_16 : ((bL cX0_reasonToPut).drop 16).take 18 = [0, 9, 29, 182, 0, 86, 28, 154, 0, 7, 6, 167, 0, 4, 7, 159, 0, 6] := by decide +kernel
theorem dX0_reasonToPut_18 : decode cX0_reasonToPut 18 = .ok (.iload_n 3, 1) := o_29 (u1_2 hc_X0_reasonToPut_16 rfl) rfl
theorem dX0_reasonToPut_19 : decode cX0_reasonToPut 19 = .ok (.invokevirtual 86, 3) := o_182 (u1_3 hc_X0_reasonToPut_16 rfl) (u2_d (u1_4 hc_X0_reasonToPut_16 rfl) (u1_5 hc_X0_reasonToPut_16 rfl) rfl) rfl
theorem dX0_reasonToPut_22 : decode cX0_reasonToPut 22 = .ok (.iload_n 2, 1) := o_28 (u1_6 hc_X0_reasonToPut_16 rfl) rfl
theorem dX0_reasonToPut_23 : decode cX0_reasonToPut 23 = .ok (.ifCond .ne 7, 3) := o_154 (u1_7 hc_X0_reasonToPut_16 rfl) (s2_d (u2_d (u1_8 hc_X0_reasonToPut_16 rfl) (u1_9 hc_X0_reasonToPut_16 rfl) rfl) rfl) rfl
theorem dX0_reasonToPut_26 : decode cX0_reasonToPut 26 = .ok (.iconst 3, 1) := o_6 (u1_10 hc_X0_reasonToPut_16 rfl) rfl
theorem dX0_reasonToPut_27 : decode cX0_reasonToPut 27 = .ok (.goto 4, 3) := o_167 (u1_11 hc_X0_reasonToPut_16 rfl) (s2_d (u2_d (u1_12 hc_X0_reasonToPut_16 rfl) (u1_13 hc_X0_reasonToPut_16 rfl) rfl) rfl) rfl
theorem dX0_reasonToPut_30 : decode cX0_reasonToPut 30 = .ok (.iconst 4, 1) := o_7 (u1_14 hc_X0_reasonToPut_16 rfl) rfl
theorem dX0_reasonToPut_31 : decode cX0_reasonToPut 31 = .ok (.if_icmp .eq 6, 3) := o_159 (u1_15 hc_X0_reasonToPut_16 rfl) (s2_d (u2_d (u1_16 hc_X0_reasonToPut_16 rfl) (u1_17 hc_X0_reasonToPut_16 rfl) rfl) rfl) rfl
theorem hc_X0_reasonToPut_32 : ((bL cX0_reasonToPut).drop 32).take 18 = [0, 6, 16, 12, 172, 29, 27, 159, 0, 15, 42, 180, 0, 33, 27, 29, 182, 0] := by decide +kernel
theorem dX0_reasonToPut_34 : decode cX0_reasonToPut 34 = .ok (.bipush 12, 2) := o_16 (u1_2 hc_X0_reasonToPut_32 rfl) (s1_d (u1_3 hc_X0_reasonToPut_32 rfl) rfl) rfl
theorem dX0_reasonToPut_36 : decode cX0_reasonToPut 36 = .ok (.ireturn, 1) := o_172 (u1_4 hc_X0_reasonToPut_32 rfl) rfl
theorem dX0_reasonToPut_37 : decode cX0_reasonToPut 37 = .ok (.iload_n 3, 1) := o_29 (u1_5 hc_X0_reasonToPut_32 rfl) rfl
theorem dX0_reasonToPut_38 : decode cX0_reasonToPut 38 = .ok (.iload_n 1, 1) := o_27 (u1_6 hc_X0_reasonToPut_32 rfl) rfl
theorem dX0_reasonToPut_39 : decode cX0_reasonToPut 39 = .ok (.if_icmp .eq 15, 3) := o_159 (u1_7 hc_X0_reasonToPut_32 rfl) (s2_d (u2_d (u1_8 hc_X0_reasonToPut_32 rfl) (u1_9 hc_X0_reasonToPut_32 rfl) rfl) rfl) rfl
theorem dX0_reasonToPut_42 : decode cX0_reasonToPut 42 = .ok (.aload_n 0, 1) := o_42 (u1_10 hc_X0_reasonToPut_32 rfl) rfl
theorem dX0_reasonToPut_43 : decode cX0_reasonToPut 43 = .ok (.getfield 33, 3) := o_180 (u1_11 hc_X0_reasonToPut_32 rfl) (u2_d (u1_12 hc_X0_reasonToPut_32 rfl) (u1_13 hc_X0_reasonToPut_32 rfl) rfl) rfl
theorem dX0_reasonToPut_46 : decode cX0_reasonToPut 46 = .ok (.iload_n 1, 1) := o_27 (u1_14 hc_X0_reasonToPut_32 rfl) rfl
theorem dX0_reasonToPut_47 : decode cX0_reasonToPut 47 = .ok (.iload_n 3, 1) := o_29 (u1_15 hc_X0_reasonToPut_32 rfl) rfl
theorem hc_X0_reasonToPut_48 : ((bL cX0_reasonToPut).drop 48).take 18 = [182, 0, 112, 153, 0, 6, 16, 13, 172, 28, 154, 0, 17, 42, 180, 0, 33, 29] := by decide +kernel
theorem dX0_reasonToPut_48 : decode cX0_reasonToPut 48 = .ok (.invokevirtual 112, 3) := o_182 (u1_0 hc_X0_reasonToPut_48 rfl) (u2_d (u1_1 hc_X0_reasonToPut_48 rfl) (u1_2 hc_X0_reasonToPut_48 rfl) rfl) rfl
theorem dX0_reasonToPut_51 : decode cX0_reasonToPut 51 = .ok (.ifCond .eq 6, 3) := o_153 (u1_3 hc_X0_reasonToPut_48 rfl) (s2_d (u2_d (u1_4 hc_X0_reasonToPut_48 rfl) (u1_5 hc_X0_reasonToPut_48 rfl) rfl) rfl) rfl
theorem dX0_reasonToPut_54 : decode cX0_reasonToPut 54 = .ok (.bipush 13, 2) := o_16 (u1_6 hc_X0_reasonToPut_48 rfl) (s1_d (u1_7 hc_X0_reasonToPut_48 rfl) rfl) rfl
theorem dX0_reasonToPut_56 : decode cX0_reasonToPut 56 = .ok (.ireturn, 1) := o_172 (u1_8 hc_X0_reasonToPut_48 rfl) rfl
theorem dX0_reasonToPut_57 : decode cX0_reasonToPut 57 = .ok (.iload_n 2, 1) := o_28 (u1_9 hc_X0_reasonToPut_48 rfl) rfl
theorem dX0_reasonToPut_58 : decode cX0_reasonToPut 58 = .ok (.ifCond .ne 17, 3) := o_154 (u1_10 hc_X0_reasonToPut_48 rfl) (s2_d (u2_d (u1_11 hc_X0_reasonToPut_48 rfl) (u1_12 hc_X0_reasonToPut_48 rfl) rfl) rfl) rfl
theorem dX0_reasonToPut_61 : decode cX0_reasonToPut 61 = .ok (.aload_n 0, 1) := o_42 (u1_13 hc_X0_reasonToPut_48 rfl) rfl
theorem dX0_reasonToPut_62 : decode cX0_reasonToPut 62 = .ok (.getfield 33, 3) := o_180 (u1_14 hc_X0_reasonToPut_48 rfl) (u2_d (u1_15 hc_X0_reasonToPut_48 rfl) (u1_16 hc_X0_reasonToPut_48 rfl) rfl) rfl
theorem hc_X0_reasonToPut_64 : ((bL cX0_reasonToPut).drop 64).take 18 = [33, 29, 3, 182, 0, 104, 154, 0, 5, 6, 172, 42, 180, 0, 34, 180, 0, 118] := by decide +kernel
theorem dX0_reasonToPut_65 : decode cX0_reasonToPut 65 = .ok (.iload_n 3, 1) := o_29 (u1_1 hc_X0_reasonToPut_64 rfl) rfl
theorem dX0_reasonToPut_66 : decode cX0_reasonToPut 66 = .ok (.iconst 0, 1) := o_3 (u1_2 hc_X0_reasonToPut_64 rfl) rfl
theorem dX0_reasonToPut_67 : decode cX0_reasonToPut 67 = .ok (.invokevirtual 104, 3) := o_182 (u1_3 hc_X0_reasonToPut_64 rfl) (u2_d (u1_4 hc_X0_reasonToPut_64 rfl) (u1_5 hc_X0_reasonToPut_64 rfl) rfl) rfl
theorem dX0_reasonToPut_70 : decode cX0_reasonToPut 70 = .ok (.ifCond .ne 5, 3) := o_154 (u1_6 hc_X0_reasonToPut_64 rfl) (s2_d (u2_d (u1_7 hc_X0_reasonToPut_64 rfl) (u1_8 hc_X0_reasonToPut_64 rfl) rfl) rfl) rfl
theorem dX0_reasonToPut_73 : decode cX0_reasonToPut 73 = .ok (.iconst 3, 1) := o_6 (u1_9 hc_X0_reasonToPut_64 rfl) rfl
theorem dX0_reasonToPut_74 : decode cX0_reasonToPut 74 = .ok (.ireturn, 1) := o_172 (u1_10 hc_X0_reasonToPut_64 rfl) rfl
theorem dX0_reasonToPut_75 : decode cX0_reasonToPut 75 = .ok (.aload_n 0, 1) := o_42 (u1_11 hc_X0_reasonToPut_64 rfl) rfl
theorem dX0_reasonToPut_76 : decode cX0_reasonToPut 76 = .ok (.getfield 34, 3) := o_180 (u1_12 hc_X0_reasonToPut_64 rfl) (u2_d (u1_13 hc_X0_reasonToPut_64 rfl) (u1_14 hc_X0_reasonToPut_64 rfl) rfl) rfl
theorem dX0_reasonToPut_79 : decode cX0_reasonToPut 79 = .ok (.getfield 118, 3) := o_180 (u1_15 hc_X0_reasonToPut_64 rfl) (u2_d (u1_16 hc_X0_reasonToPut_64 rfl) (u1_17 hc_X0_reasonToPut_64 rfl) rfl) rfl
theorem hc_X0_reasonToPut_80 : ((bL cX0_reasonToPut).drop 80).take 18 = [0, 118, 29, 51, 154, 0, 6, 16, 8, 172, 42, 180, 0, 33, 28, 29, 182, 0] := by decide +kernel
theorem dX0_reasonToPut_82 : decode cX0_reasonToPut 82 = .ok (.iload_n 3, 1) := o_29 (u1_2 hc_X0_reasonToPut_80 rfl) rfl
theorem dX0_reasonToPut_83 : decode cX0_reasonToPut 83 = .ok (.baload, 1) := o_51 (u1_3 hc_X0_reasonToPut_80 rfl) rfl
theorem dX0_reasonToPut_84 : decode cX0_reasonToPut 84 = .ok (.ifCond .ne 6, 3) := o_154 (u1_4 hc_X0_reasonToPut_80 rfl) (s2_d (u2_d (u1_5 hc_X0_reasonToPut_80 rfl) (u1_6 hc_X0_reasonToPut_80 rfl) rfl) rfl) rfl
theorem dX0_reasonToPut_87 : decode cX0_reasonToPut 87 = .ok (.bipush 8, 2) := o_16 (u1_7 hc_X0_reasonToPut_80 rfl) (s1_d (u1_8 hc_X0_reasonToPut_80 rfl) rfl) rfl
theorem dX0_reasonToPut_89 : decode cX0_reasonToPut 89 = .ok (.ireturn, 1) := o_172 (u1_9 hc_X0_reasonToPut_80 rfl) rfl
theorem dX0_reasonToPut_90 : decode cX0_reasonToPut 90 = .ok (.aload_n 0, 1) := o_42 (u1_10 hc_X0_reasonToPut_80 rfl) rfl
theorem dX0_reasonToPut_91 : decode cX0_reasonToPut 91 = .ok (.getfield 33, 3) := o_180 (u1_11 hc_X0_reasonToPut_80 rfl) (u2_d (u1_12 hc_X0_reasonToPut_80 rfl) (u1_13 hc_X0_reasonToPut_80 rfl) rfl) rfl
theorem dX0_reasonToPut_94 : decode cX0_reasonToPut 94 = .ok (.iload_n 2, 1) := o_28 (u1_14 hc_X0_reasonToPut_80 rfl) rfl
theorem dX0_reasonToPut_95 : decode cX0_reasonToPut 95 = .ok (.iload_n 3, 1) := o_29 (u1_15 hc_X0_reasonToPut_80 rfl) rfl
theorem hc_X0_reasonToPut_96 : ((bL cX0_reasonToPut).drop 96).take 18 = [182, 0, 134, 16, 8, 161, 0, 8, 16, 14, 167, 0, 4, 3, 172] := by decide +kernel
theorem dX0_reasonToPut_96 : decode cX0_reasonToPut 96 = .ok (.invokevirtual 134, 3) := o_182 (u1_0 hc_X0_reasonToPut_96 rfl) (u2_d (u1_1 hc_X0_reasonToPut_96 rfl) (u1_2 hc_X0_reasonToPut_96 rfl) rfl) rfl
theorem dX0_reasonToPut_99 : decode cX0_reasonToPut 99 = .ok (.bipush 8, 2) := o_16 (u1_3 hc_X0_reasonToPut_96 rfl) (s1_d (u1_4 hc_X0_reasonToPut_96 rfl) rfl) rfl
theorem dX0_reasonToPut_101 : decode cX0_reasonToPut 101 = .ok (.if_icmp .lt 8, 3) := o_161 (u1_5 hc_X0_reasonToPut_96 rfl) (s2_d (u2_d (u1_6 hc_X0_reasonToPut_96 rfl) (u1_7 hc_X0_reasonToPut_96 rfl) rfl) rfl) rfl
theorem dX0_reasonToPut_104 : decode cX0_reasonToPut 104 = .ok (.bipush 14, 2) := o_16 (u1_8 hc_X0_reasonToPut_96 rfl) (s1_d (u1_9 hc_X0_reasonToPut_96 rfl) rfl) rfl
theorem dX0_reasonToPut_106 : decode cX0_reasonToPut 106 = .ok (.goto 4, 3) := o_167 (u1_10 hc_X0_reasonToPut_96 rfl) (s2_d (u2_d (u1_11 hc_X0_reasonToPut_96 rfl) (u1_12 hc_X0_reasonToPut_96 rfl) rfl) rfl) rfl
theorem dX0_reasonToPut_109 : decode cX0_reasonToPut 109 = .ok (.iconst 0, 1) := o_3 (u1_13 hc_X0_reasonToPut_96 rfl) rfl
theorem dX0_reasonToPut_110 : decode cX0_reasonToPut 110 = .ok (.ireturn, 1) := o_172 (u1_14 hc_X0_reasonToPut_96 rfl) rfl
theorem hc_X0_reasonOfShutter_0 : ((bL cX0_reasonOfShutter).drop 0).take 18 = [42, 180, 0, 34, 180, 0, 108, 28, 51, 154, 0, 5, 7, 172, 42, 180, 0, 9] := by decide +kernel
theorem dX0_reasonOfShutter_0 : decode cX0_reasonOfShutter 0 = .ok (.aload_n 0, 1) := o_42 (u1_0 hc_X0_reasonOfShutter_0 rfl) rfl
theorem dX0_reasonOfShutter_1 : decode cX0_reasonOfShutter 1 = .ok (.getfield 34, 3) := o_180 (u1_1 hc_X0_reasonOfShutter_0 rfl) (u2_d (u1_2 hc_X0_reasonOfShutter_0 rfl) (u1_3 hc_X0_reasonOfShutter_0 rfl) rfl) rfl
theorem dX0_reasonOfShutter_4 : decode cX0_reasonOfShutter 4 = .ok (.getfield 108, 3) := o_180 (u1_4 hc_X0_reasonOfShutter_0 rfl) (u2_d (u1_5 hc_X0_reasonOfShutter_0 rfl) (u1_6 hc_X0_reasonOfShutter_0 rfl) rfl) rfl
theorem dX0_reasonOfShutter_7 : decode cX0_reasonOfShutter 7 = .ok (.iload_n 2, 1) := o_28 (u1_7 hc_X0_reasonOfShutter_0 rfl) rfl
theorem dX0_reasonOfShutter_8 : decode cX0_reasonOfShutter 8 = .ok (.baload, 1) := o_51 (u1_8 hc_X0_reasonOfShutter_0 rfl) rfl
theorem dX0_reasonOfShutter_9 : decode cX0_reasonOfShutter 9 = .ok (.ifCond .ne 5, 3) := o_154 (u1_9 hc_X0_reasonOfShutter_0 rfl) (s2_d (u2_d (u1_10 hc_X0_reasonOfShutter_0 rfl) (u1_11 hc_X0_reasonOfShutter_0 rfl) rfl) rfl) rfl
theorem dX0_reasonOfShutter_12 : decode cX0_reasonOfShutter 12 = .ok (.iconst 4, 1) := o_7 (u1_12 hc_X0_reasonOfShutter_0 rfl) rfl
theorem dX0_reasonOfShutter_13 : decode cX0_reasonOfShutter 13 = .ok (.ireturn, 1) := o_172 (u1_13 hc_X0_reasonOfShutter_0 rfl) rfl
theorem dX0_reasonOfShutter_14 : decode cX0_reasonOfShutter 14 = .ok (.aload_n 0, 1) := o_42 (u1_14 hc_X0_reasonOfShutter_0 rfl) rfl
theorem dX0_reasonOfShutter_15 : decode cX0_reasonOfShutter 15 = .ok (.getfield 9, 3) := o_180 (u1_15 hc_X0_reasonOfShutter_0 rfl) (u2_d (u1_16 hc_X0_reasonOfShutter_0 rfl) (u1_17 hc_X0_reasonOfShutter_0 rfl) rfl) rfl
theorem hc_X0_reasonOfShutter_16 : ((bL cX0_reasonOfShutter).drop 16).take 18 = [0, 9, 28, 182, 0, 137, 154, 0, 6, 16, 12, 172, 27, 42, 180, 0, 33, 28] := by decide +kernel
theorem dX0_reasonOfShutter_18 : decode cX0_reasonOfShutter 18 = .ok (.iload_n 2, 1) := o_28 (u1_2 hc_X0_reasonOfShutter_16 rfl) rfl
theorem dX0_reasonOfShutter_19 : decode cX0_reasonOfShutter 19 = .ok (.invokevirtual 137, 3) := o_182 (u1_3 hc_X0_reasonOfShutter_16 rfl) (u2_d (u1_4 hc_X0_reasonOfShutter_16 rfl) (u1_5 hc_X0_reasonOfShutter_16 rfl) rfl) rfl
theorem dX0_reasonOfShutter_22 : decode cX0_reasonOfShutter 22 = .ok (.ifCond .ne 6, 3) := o_154 (u1_6 hc_X0_reasonOfShutter_16 rfl) (s2_d (u2_d (u1_7 hc_X0_reasonOfShutter_16 rfl) (u1_8 hc_X0_reasonOfShutter_16 rfl) rfl) rfl) rfl
theorem dX0_reasonOfShutter_25 : decode cX0_reasonOfShutter 25 = .ok (.bipush 12, 2) := o_16 (u1_9 hc_X0_reasonOfShutter_16 rfl) (s1_d (u1_10 hc_X0_reasonOfShutter_16 rfl) rfl) rfl
theorem dX0_reasonOfShutter_27 : decode cX0_reasonOfShutter 27 = .ok (.ireturn, 1) := o_172 (u1_11 hc_X0_reasonOfShutter_16 rfl) rfl
theorem dX0_reasonOfShutter_28 : decode cX0_reasonOfShutter 28 = .ok (.iload_n 1, 1) := o_27 (u1_12 hc_X0_reasonOfShutter_16 rfl) rfl
theorem dX0_reasonOfShutter_29 : decode cX0_reasonOfShutter 29 = .ok (.aload_n 0, 1) := o_42 (u1_13 hc_X0_reasonOfShutter_16 rfl) rfl
theorem dX0_reasonOfShutter_30 : decode cX0_reasonOfShutter 30 = .ok (.getfield 33, 3) := o_180 (u1_14 hc_X0_reasonOfShutter_16 rfl) (u2_d (u1_15 hc_X0_reasonOfShutter_16 rfl) (u1_16 hc_X0_reasonOfShutter_16 rfl) rfl) rfl
theorem hc_X0_reasonOfShutter_32 : ((bL cX0_reasonOfShutter).drop 32).take 18 = [33, 28, 3, 182, 0, 104, 42, 180, 0, 33, 28, 4, 182, 0, 104, 184, 0, 140] := by decide +kernel
theorem dX0_reasonOfShutter_33 : decode cX0_reasonOfShutter 33 = .ok (.iload_n 2, 1) := o_28 (u1_1 hc_X0_reasonOfShutter_32 rfl) rfl
theorem dX0_reasonOfShutter_34 : decode cX0_reasonOfShutter 34 = .ok (.iconst 0, 1) := o_3 (u1_2 hc_X0_reasonOfShutter_32 rfl) rfl
theorem dX0_reasonOfShutter_35 : decode cX0_reasonOfShutter 35 = .ok (.invokevirtual 104, 3) := o_182 (u1_3 hc_X0_reasonOfShutter_32 rfl) (u2_d (u1_4 hc_X0_reasonOfShutter_32 rfl) (u1_5 hc_X0_reasonOfShutter_32 rfl) rfl) rfl
theorem dX0_reasonOfShutter_38 : decode cX0_reasonOfShutter 38 = .ok (.aload_n 0, 1) := o_42 (u1_6 hc_X0_reasonOfShutter_32 rfl) rfl
theorem dX0_reasonOfShutter_39 : decode cX0_reasonOfShutter 39 = .ok (.getfield 33, 3) := o_180 (u1_7 hc_X0_reasonOfShutter_32 rfl) (u2_d (u1_8 hc_X0_reasonOfShutter_32 rfl) (u1_9 hc_X0_reasonOfShutter_32 rfl) rfl) rfl
theorem dX0_reasonOfShutter_42 : decode cX0_reasonOfShutter 42 = .ok (.iload_n 2, 1) := o_28 (u1_10 hc_X0_reasonOfShutter_32 rfl) rfl
theorem dX0_reasonOfShutter_43 : decode cX0_reasonOfShutter 43 = .ok (.iconst 1, 1) := o_4 (u1_11 hc_X0_reasonOfShutter_32 rfl) rfl
theorem dX0_reasonOfShutter_44 : decode cX0_reasonOfShutter 44 = .ok (.invokevirtual 104, 3) := o_182 (u1_12 hc_X0_reasonOfShutter_32 rfl) (u2_d (u1_13 hc_X0_reasonOfShutter_32 rfl) (u1_14 hc_X0_reasonOfShutter_32 rfl) rfl) rfl
theorem dX0_reasonOfShutter_47 : decode cX0_reasonOfShutter 47 = .ok (.invokestatic 140, 3) := o_184 (u1_15 hc_X0_reasonOfShutter_32 rfl) (u2_d (u1_16 hc_X0_reasonOfShutter_32 rfl) (u1_17 hc_X0_reasonOfShutter_32 rfl) rfl) rfl
theorem hc_X0_reasonOfShutter_48 : ((bL cX0_reasonOfShutter).drop 48).take 18 = [0, 140, 62, 29, 153, 0, 5, 29, 172, 42, 180, 0, 34, 180, 0, 118, 28, 51] := by decide +kernel
theorem dX0_reasonOfShutter_50 : decode cX0_reasonOfShutter 50 = .ok (.istore_n 3, 1) := o_62 (u1_2 hc_X0_reasonOfShutter_48 rfl) rfl
theorem dX0_reasonOfShutter_51 : decode cX0_reasonOfShutter 51 = .ok (.iload_n 3, 1) := o_29 (u1_3 hc_X0_reasonOfShutter_48 rfl) rfl
theorem dX0_reasonOfShutter_52 : decode cX0_reasonOfShutter 52 = .ok (.ifCond .eq 5, 3) := o_153 (u1_4 hc_X0_reasonOfShutter_48 rfl) (s2_d (u2_d (u1_5 hc_X0_reasonOfShutter_48 rfl) (u1_6 hc_X0_reasonOfShutter_48 rfl) rfl) rfl) rfl
theorem dX0_reasonOfShutter_55 : decode cX0_reasonOfShutter 55 = .ok (.iload_n 3, 1) := o_29 (u1_7 hc_X0_reasonOfShutter_48 rfl) rfl
theorem dX0_reasonOfShutter_56 : decode cX0_reasonOfShutter 56 = .ok (.ireturn, 1) := o_172 (u1_8 hc_X0_reasonOfShutter_48 rfl) rfl
theorem dX0_reasonOfShutter_57 : decode cX0_reasonOfShutter 57 = .ok (.aload_n 0, 1) := o_42 (u1_9 hc_X0_reasonOfShutter_48 rfl) rfl
theorem dX0_reasonOfShutter_58 : decode cX0_reasonOfShutter 58 = .ok (.getfield 34, 3) := o_180 (u1_10 hc_X0_reasonOfShutter_48 rfl) (u2_d (u1_11 hc_X0_reasonOfShutter_48 rfl) (u1_12 hc_X0_reasonOfShutter_48 rfl) rfl) rfl
theorem dX0_reasonOfShutter_61 : decode cX0_reasonOfShutter 61 = .ok (.getfield 118, 3) := o_180 (u1_13 hc_X0_reasonOfShutter_48 rfl) (u2_d (u1_14 hc_X0_reasonOfShutter_48 rfl) (u1_15 hc_X0_reasonOfShutter_48 rfl) rfl) rfl
theorem hc_X0_reasonOfShutter_64 : ((bL cX0_reasonOfShutter).drop 64).take 18 = [28, 51, 153, 0, 7, 3, 167, 0, 5, 16, 8, 172] := by decide +kernel
theorem dX0_reasonOfShutter_64 : decode cX0_reasonOfShutter 64 = .ok (.iload_n 2, 1) := o_28 (u1_0 hc_X0_reasonOfShutter_64 rfl) rfl
theorem dX0_reasonOfShutter_65 : decode cX0_reasonOfShutter 65 = .ok (.baload, 1) := o_51 (u1_1 hc_X0_reasonOfShutter_64 rfl) rfl
theorem dX0_reasonOfShutter_66 : decode cX0_reasonOfShutter 66 = .ok (.ifCond .eq 7, 3) := o_153 (u1_2 hc_X0_reasonOfShutter_64 rfl) (s2_d (u2_d (u1_3 hc_X0_reasonOfShutter_64 rfl) (u1_4 hc_X0_reasonOfShutter_64 rfl) rfl) rfl) rfl
theorem dX0_reasonOfShutter_69 : decode cX0_reasonOfShutter 69 = .ok (.iconst 0, 1) := o_3 (u1_5 hc_X0_reasonOfShutter_64 rfl) rfl
theorem dX0_reasonOfShutter_70 : decode cX0_reasonOfShutter 70 = .ok (.goto 5, 3) := o_167 (u1_6 hc_X0_reasonOfShutter_64 rfl) (s2_d (u2_d (u1_7 hc_X0_reasonOfShutter_64 rfl) (u1_8 hc_X0_reasonOfShutter_64 rfl) rfl) rfl) rfl
theorem dX0_reasonOfShutter_73 : decode cX0_reasonOfShutter 73 = .ok (.bipush 8, 2) := o_16 (u1_9 hc_X0_reasonOfShutter_64 rfl) (s1_d (u1_10 hc_X0_reasonOfShutter_64 rfl) rfl) rfl
theorem dX0_reasonOfShutter_75 : decode cX0_reasonOfShutter 75 = .ok (.ireturn, 1) := o_172 (u1_11 hc_X0_reasonOfShutter_64 rfl) rfl
theorem hc_X0_reasonOfLeaf_0 : ((bL cX0_reasonOfLeaf).drop 0).take 18 = [26, 170, 0, 0, 0, 0, 0, 74, 0, 0, 0, 5, 0, 0, 0, 7, 0, 0] := by decide +kernel
theorem dX0_reasonOfLeaf_0 : decode cX0_reasonOfLeaf 0 = .ok (.iload_n 0, 1) := o_26 (u1_0 hc_X0_reasonOfLeaf_0 rfl) rfl
theorem dX0_reasonOfLeaf_1 : decode cX0_reasonOfLeaf 1 = .ok (.tableswitch 74 5 7 #[27, 49, 61], 27) := by decide +kernel
theorem hc_X0_reasonOfLeaf_16 : ((bL cX0_reasonOfLeaf).drop 16).take 18 = [0, 0, 0, 27, 0, 0, 0, 49, 0, 0, 0, 61, 27, 153, 0, 8, 16, 15] := by decide +kernel
theorem dX0_reasonOfLeaf_28 : decode cX0_reasonOfLeaf 28 = .ok (.iload_n 1, 1) := o_27 (u1_12 hc_X0_reasonOfLeaf_16 rfl) rfl
theorem dX0_reasonOfLeaf_29 : decode cX0_reasonOfLeaf 29 = .ok (.ifCond .eq 8, 3) := o_153 (u1_13 hc_X0_reasonOfLeaf_16 rfl) (s2_d (u2_d (u1_14 hc_X0_reasonOfLeaf_16 rfl) (u1_15 hc_X0_reasonOfLeaf_16 rfl) rfl) rfl) rfl
theorem hc_X0_reasonOfLeaf_32 : ((bL cX0_reasonOfLeaf).drop 32).take 18 = [16, 15, 167, 0, 60, 28, 153, 0, 8, 16, 16, 167, 0, 51, 3, 167, 0, 47] := by decide +kernel
theorem dX0_reasonOfLeaf_32 : decode cX0_reasonOfLeaf 32 = .ok (.bipush 15, 2) := o_16 (u1_0 hc_X0_reasonOfLeaf_32 rfl) (s1_d (u1_1 hc_X0_reasonOfLeaf_32 rfl) rfl) rfl
theorem dX0_reasonOfLeaf_34 : decode cX0_reasonOfLeaf 34 = .ok (.goto 60, 3) := o_167 (u1_2 hc_X0_reasonOfLeaf_32 rfl) (s2_d (u2_d (u1_3 hc_X0_reasonOfLeaf_32 rfl) (u1_4 hc_X0_reasonOfLeaf_32 rfl) rfl) rfl) rfl
theorem dX0_reasonOfLeaf_37 : decode cX0_reasonOfLeaf 37 = .ok (.iload_n 2, 1) := o_28 (u1_5 hc_X0_reasonOfLeaf_32 rfl) rfl
theorem dX0_reasonOfLeaf_38 : decode cX0_reasonOfLeaf 38 = .ok (.ifCond .eq 8, 3) := o_153 (u1_6 hc_X0_reasonOfLeaf_32 rfl) (s2_d (u2_d (u1_7 hc_X0_reasonOfLeaf_32 rfl) (u1_8 hc_X0_reasonOfLeaf_32 rfl) rfl) rfl) rfl
theorem dX0_reasonOfLeaf_41 : decode cX0_reasonOfLeaf 41 = .ok (.bipush 16, 2) := o_16 (u1_9 hc_X0_reasonOfLeaf_32 rfl) (s1_d (u1_10 hc_X0_reasonOfLeaf_32 rfl) rfl) rfl
theorem dX0_reasonOfLeaf_43 : decode cX0_reasonOfLeaf 43 = .ok (.goto 51, 3) := o_167 (u1_11 hc_X0_reasonOfLeaf_32 rfl) (s2_d (u2_d (u1_12 hc_X0_reasonOfLeaf_32 rfl) (u1_13 hc_X0_reasonOfLeaf_32 rfl) rfl) rfl) rfl
theorem dX0_reasonOfLeaf_46 : decode cX0_reasonOfLeaf 46 = .ok (.iconst 0, 1) := o_3 (u1_14 hc_X0_reasonOfLeaf_32 rfl) rfl
theorem dX0_reasonOfLeaf_47 : decode cX0_reasonOfLeaf 47 = .ok (.goto 47, 3) := o_167 (u1_15 hc_X0_reasonOfLeaf_32 rfl) (s2_d (u2_d (u1_16 hc_X0_reasonOfLeaf_32 rfl) (u1_17 hc_X0_reasonOfLeaf_32 rfl) rfl) rfl) rfl
theorem hc_X0_reasonOfLeaf_48 : ((bL cX0_reasonOfLeaf).drop 48).take 18 = [0, 47, 27, 153, 0, 7, 3, 167, 0, 39, 6, 167, 0, 35, 28, 153, 0, 7] := by decide +kernel
theorem dX0_reasonOfLeaf_50 : decode cX0_reasonOfLeaf 50 = .ok (.iload_n 1, 1) := o_27 (u1_2 hc_X0_reasonOfLeaf_48 rfl) rfl
theorem dX0_reasonOfLeaf_51 : decode cX0_reasonOfLeaf 51 = .ok (.ifCond .eq 7, 3) := o_153 (u1_3 hc_X0_reasonOfLeaf_48 rfl) (s2_d (u2_d (u1_4 hc_X0_reasonOfLeaf_48 rfl) (u1_5 hc_X0_reasonOfLeaf_48 rfl) rfl) rfl) rfl
theorem dX0_reasonOfLeaf_54 : decode cX0_reasonOfLeaf 54 = .ok (.iconst 0, 1) := o_3 (u1_6 hc_X0_reasonOfLeaf_48 rfl) rfl
theorem dX0_reasonOfLeaf_55 : decode cX0_reasonOfLeaf 55 = .ok (.goto 39, 3) := o_167 (u1_7 hc_X0_reasonOfLeaf_48 rfl) (s2_d (u2_d (u1_8 hc_X0_reasonOfLeaf_48 rfl) (u1_9 hc_X0_reasonOfLeaf_48 rfl) rfl) rfl) rfl
theorem dX0_reasonOfLeaf_58 : decode cX0_reasonOfLeaf 58 = .ok (.iconst 3, 1) := o_6 (u1_10 hc_X0_reasonOfLeaf_48 rfl) rfl
theorem dX0_reasonOfLeaf_59 : decode cX0_reasonOfLeaf 59 = .ok (.goto 35, 3) := o_167 (u1_11 hc_X0_reasonOfLeaf_48 rfl) (s2_d (u2_d (u1_12 hc_X0_reasonOfLeaf_48 rfl) (u1_13 hc_X0_reasonOfLeaf_48 rfl) rfl) rfl) rfl
theorem dX0_reasonOfLeaf_62 : decode cX0_reasonOfLeaf 62 = .ok (.iload_n 2, 1) := o_28 (u1_14 hc_X0_reasonOfLeaf_48 rfl) rfl
theorem dX0_reasonOfLeaf_63 : decode cX0_reasonOfLeaf 63 = .ok (.ifCond .eq 7, 3) := o_153 (u1_15 hc_X0_reasonOfLeaf_48 rfl) (s2_d (u2_d (u1_16 hc_X0_reasonOfLeaf_48 rfl) (u1_17 hc_X0_reasonOfLeaf_48 rfl) rfl) rfl) rfl
theorem hc_X0_reasonOfLeaf_64 : ((bL cX0_reasonOfLeaf).drop 64).take 18 = [0, 7, 3, 167, 0, 27, 16, 17, 167, 0, 22, 28, 153, 0, 8, 16, 16, 167] := by decide +kernel
theorem dX0_reasonOfLeaf_66 : decode cX0_reasonOfLeaf 66 = .ok (.iconst 0, 1) := o_3 (u1_2 hc_X0_reasonOfLeaf_64 rfl) rfl
theorem dX0_reasonOfLeaf_67 : decode cX0_reasonOfLeaf 67 = .ok (.goto 27, 3) := o_167 (u1_3 hc_X0_reasonOfLeaf_64 rfl) (s2_d (u2_d (u1_4 hc_X0_reasonOfLeaf_64 rfl) (u1_5 hc_X0_reasonOfLeaf_64 rfl) rfl) rfl) rfl
theorem dX0_reasonOfLeaf_70 : decode cX0_reasonOfLeaf 70 = .ok (.bipush 17, 2) := o_16 (u1_6 hc_X0_reasonOfLeaf_64 rfl) (s1_d (u1_7 hc_X0_reasonOfLeaf_64 rfl) rfl) rfl
theorem dX0_reasonOfLeaf_72 : decode cX0_reasonOfLeaf 72 = .ok (.goto 22, 3) := o_167 (u1_8 hc_X0_reasonOfLeaf_64 rfl) (s2_d (u2_d (u1_9 hc_X0_reasonOfLeaf_64 rfl) (u1_10 hc_X0_reasonOfLeaf_64 rfl) rfl) rfl) rfl
theorem dX0_reasonOfLeaf_75 : decode cX0_reasonOfLeaf 75 = .ok (.iload_n 2, 1) := o_28 (u1_11 hc_X0_reasonOfLeaf_64 rfl) rfl
theorem dX0_reasonOfLeaf_76 : decode cX0_reasonOfLeaf 76 = .ok (.ifCond .eq 8, 3) := o_153 (u1_12 hc_X0_reasonOfLeaf_64 rfl) (s2_d (u2_d (u1_13 hc_X0_reasonOfLeaf_64 rfl) (u1_14 hc_X0_reasonOfLeaf_64 rfl) rfl) rfl) rfl
theorem dX0_reasonOfLeaf_79 : decode cX0_reasonOfLeaf 79 = .ok (.bipush 16, 2) := o_16 (u1_15 hc_X0_reasonOfLeaf_64 rfl) (s1_d (u1_16 hc_X0_reasonOfLeaf_64 rfl) rfl) rfl
theorem hc_X0_reasonOfLeaf_80 : ((bL cX0_reasonOfLeaf).drop 80).take 18 = [16, 167, 0, 13, 27, 153, 0, 8, 16, 15, 167, 0, 4, 3, 172] := by decide +kernel
theorem dX0_reasonOfLeaf_81 : decode cX0_reasonOfLeaf 81 = .ok (.goto 13, 3) := o_167 (u1_1 hc_X0_reasonOfLeaf_80 rfl) (s2_d (u2_d (u1_2 hc_X0_reasonOfLeaf_80 rfl) (u1_3 hc_X0_reasonOfLeaf_80 rfl) rfl) rfl) rfl
theorem dX0_reasonOfLeaf_84 : decode cX0_reasonOfLeaf 84 = .ok (.iload_n 1, 1) := o_27 (u1_4 hc_X0_reasonOfLeaf_80 rfl) rfl
theorem dX0_reasonOfLeaf_85 : decode cX0_reasonOfLeaf 85 = .ok (.ifCond .eq 8, 3) := o_153 (u1_5 hc_X0_reasonOfLeaf_80 rfl) (s2_d (u2_d (u1_6 hc_X0_reasonOfLeaf_80 rfl) (u1_7 hc_X0_reasonOfLeaf_80 rfl) rfl) rfl) rfl
theorem dX0_reasonOfLeaf_88 : decode cX0_reasonOfLeaf 88 = .ok (.bipush 15, 2) := o_16 (u1_8 hc_X0_reasonOfLeaf_80 rfl) (s1_d (u1_9 hc_X0_reasonOfLeaf_80 rfl) rfl) rfl
theorem dX0_reasonOfLeaf_90 : decode cX0_reasonOfLeaf 90 = .ok (.goto 4, 3) := o_167 (u1_10 hc_X0_reasonOfLeaf_80 rfl) (s2_d (u2_d (u1_11 hc_X0_reasonOfLeaf_80 rfl) (u1_12 hc_X0_reasonOfLeaf_80 rfl) rfl) rfl) rfl
theorem dX0_reasonOfLeaf_93 : decode cX0_reasonOfLeaf 93 = .ok (.iconst 0, 1) := o_3 (u1_13 hc_X0_reasonOfLeaf_80 rfl) rfl
theorem dX0_reasonOfLeaf_94 : decode cX0_reasonOfLeaf 94 = .ok (.ireturn, 1) := o_172 (u1_14 hc_X0_reasonOfLeaf_80 rfl) rfl
theorem hc_X0_reasonOfKey_0 : ((bL cX0_reasonOfKey).drop 0).take 18 = [42, 28, 182, 0, 49, 154, 0, 6, 16, 11, 172, 42, 180, 0, 15, 27, 182, 0] := by decide +kernel
theorem dX0_reasonOfKey_0 : decode cX0_reasonOfKey 0 = .ok (.aload_n 0, 1) := o_42 (u1_0 hc_X0_reasonOfKey_0 rfl) rfl
theorem dX0_reasonOfKey_1 : decode cX0_reasonOfKey 1 = .ok (.iload_n 2, 1) := o_28 (u1_1 hc_X0_reasonOfKey_0 rfl) rfl
theorem dX0_reasonOfKey_2 : decode cX0_reasonOfKey 2 = .ok (.invokevirtual 49, 3) := o_182 (u1_2 hc_X0_reasonOfKey_0 rfl) (u2_d (u1_3 hc_X0_reasonOfKey_0 rfl) (u1_4 hc_X0_reasonOfKey_0 rfl) rfl) rfl
theorem dX0_reasonOfKey_5 : decode cX0_reasonOfKey 5 = .ok (.ifCond .ne 6, 3) := o_154 (u1_5 hc_X0_reasonOfKey_0 rfl) (s2_d (u2_d (u1_6 hc_X0_reasonOfKey_0 rfl) (u1_7 hc_X0_reasonOfKey_0 rfl) rfl) rfl) rfl
theorem dX0_reasonOfKey_8 : decode cX0_reasonOfKey 8 = .ok (.bipush 11, 2) := o_16 (u1_8 hc_X0_reasonOfKey_0 rfl) (s1_d (u1_9 hc_X0_reasonOfKey_0 rfl) rfl) rfl
theorem dX0_reasonOfKey_10 : decode cX0_reasonOfKey 10 = .ok (.ireturn, 1) := o_172 (u1_10 hc_X0_reasonOfKey_0 rfl) rfl
theorem dX0_reasonOfKey_11 : decode cX0_reasonOfKey 11 = .ok (.aload_n 0, 1) := o_42 (u1_11 hc_X0_reasonOfKey_0 rfl) rfl
theorem dX0_reasonOfKey_12 : decode cX0_reasonOfKey 12 = .ok (.getfield 15, 3) := o_180 (u1_12 hc_X0_reasonOfKey_0 rfl) (u2_d (u1_13 hc_X0_reasonOfKey_0 rfl) (u1_14 hc_X0_reasonOfKey_0 rfl) rfl) rfl
theorem dX0_reasonOfKey_15 : decode cX0_reasonOfKey 15 = .ok (.iload_n 1, 1) := o_27 (u1_15 hc_X0_reasonOfKey_0 rfl) rfl
theorem hc_X0_reasonOfKey_16 : ((bL cX0_reasonOfKey).drop 16).take 18 = [182, 0, 144, 28, 160, 0, 7, 3, 167, 0, 5, 16, 18, 172] := by decide +kernel
theorem dX0_reasonOfKey_16 : decode cX0_reasonOfKey 16 = .ok (.invokevirtual 144, 3) := o_182 (u1_0 hc_X0_reasonOfKey_16 rfl) (u2_d (u1_1 hc_X0_reasonOfKey_16 rfl) (u1_2 hc_X0_reasonOfKey_16 rfl) rfl) rfl
theorem dX0_reasonOfKey_19 : decode cX0_reasonOfKey 19 = .ok (.iload_n 2, 1) := o_28 (u1_3 hc_X0_reasonOfKey_16 rfl) rfl
theorem dX0_reasonOfKey_20 : decode cX0_reasonOfKey 20 = .ok (.if_icmp .ne 7, 3) := o_160 (u1_4 hc_X0_reasonOfKey_16 rfl) (s2_d (u2_d (u1_5 hc_X0_reasonOfKey_16 rfl) (u1_6 hc_X0_reasonOfKey_16 rfl) rfl) rfl) rfl
theorem dX0_reasonOfKey_23 : decode cX0_reasonOfKey 23 = .ok (.iconst 0, 1) := o_3 (u1_7 hc_X0_reasonOfKey_16 rfl) rfl
theorem dX0_reasonOfKey_24 : decode cX0_reasonOfKey 24 = .ok (.goto 5, 3) := o_167 (u1_8 hc_X0_reasonOfKey_16 rfl) (s2_d (u2_d (u1_9 hc_X0_reasonOfKey_16 rfl) (u1_10 hc_X0_reasonOfKey_16 rfl) rfl) rfl) rfl
theorem dX0_reasonOfKey_27 : decode cX0_reasonOfKey 27 = .ok (.bipush 18, 2) := o_16 (u1_11 hc_X0_reasonOfKey_16 rfl) (s1_d (u1_12 hc_X0_reasonOfKey_16 rfl) rfl) rfl
theorem dX0_reasonOfKey_29 : decode cX0_reasonOfKey 29 = .ok (.ireturn, 1) := o_172 (u1_13 hc_X0_reasonOfKey_16 rfl) rfl
theorem hc_X0_reasonToWear_0 : ((bL cX0_reasonToWear).drop 0).take 18 = [42, 27, 182, 0, 49, 154, 0, 6, 16, 11, 172, 42, 180, 0, 33, 27, 7, 182] := by decide +kernel
theorem dX0_reasonToWear_0 : decode cX0_reasonToWear 0 = .ok (.aload_n 0, 1) := o_42 (u1_0 hc_X0_reasonToWear_0 rfl) rfl
theorem dX0_reasonToWear_1 : decode cX0_reasonToWear 1 = .ok (.iload_n 1, 1) := o_27 (u1_1 hc_X0_reasonToWear_0 rfl) rfl
theorem dX0_reasonToWear_2 : decode cX0_reasonToWear 2 = .ok (.invokevirtual 49, 3) := o_182 (u1_2 hc_X0_reasonToWear_0 rfl) (u2_d (u1_3 hc_X0_reasonToWear_0 rfl) (u1_4 hc_X0_reasonToWear_0 rfl) rfl) rfl
theorem dX0_reasonToWear_5 : decode cX0_reasonToWear 5 = .ok (.ifCond .ne 6, 3) := o_154 (u1_5 hc_X0_reasonToWear_0 rfl) (s2_d (u2_d (u1_6 hc_X0_reasonToWear_0 rfl) (u1_7 hc_X0_reasonToWear_0 rfl) rfl) rfl) rfl
theorem dX0_reasonToWear_8 : decode cX0_reasonToWear 8 = .ok (.bipush 11, 2) := o_16 (u1_8 hc_X0_reasonToWear_0 rfl) (s1_d (u1_9 hc_X0_reasonToWear_0 rfl) rfl) rfl
theorem dX0_reasonToWear_10 : decode cX0_reasonToWear 10 = .ok (.ireturn, 1) := o_172 (u1_10 hc_X0_reasonToWear_0 rfl) rfl
theorem dX0_reasonToWear_11 : decode cX0_reasonToWear 11 = .ok (.aload_n 0, 1) := o_42 (u1_11 hc_X0_reasonToWear_0 rfl) rfl
theorem dX0_reasonToWear_12 : decode cX0_reasonToWear 12 = .ok (.getfield 33, 3) := o_180 (u1_12 hc_X0_reasonToWear_0 rfl) (u2_d (u1_13 hc_X0_reasonToWear_0 rfl) (u1_14 hc_X0_reasonToWear_0 rfl) rfl) rfl
theorem dX0_reasonToWear_15 : decode cX0_reasonToWear 15 = .ok (.iload_n 1, 1) := o_27 (u1_15 hc_X0_reasonToWear_0 rfl) rfl
theorem hc_X0_reasonToWear_16 : ((bL cX0_reasonToWear).drop 16).take 18 = [7, 182, 0, 104, 153, 0, 7, 3, 167, 0, 5, 16, 19, 172] := by decide +kernel
theorem dX0_reasonToWear_16 : decode cX0_reasonToWear 16 = .ok (.iconst 4, 1) := o_7 (u1_0 hc_X0_reasonToWear_16 rfl) rfl
theorem dX0_reasonToWear_17 : decode cX0_reasonToWear 17 = .ok (.invokevirtual 104, 3) := o_182 (u1_1 hc_X0_reasonToWear_16 rfl) (u2_d (u1_2 hc_X0_reasonToWear_16 rfl) (u1_3 hc_X0_reasonToWear_16 rfl) rfl) rfl
theorem dX0_reasonToWear_20 : decode cX0_reasonToWear 20 = .ok (.ifCond .eq 7, 3) := o_153 (u1_4 hc_X0_reasonToWear_16 rfl) (s2_d (u2_d (u1_5 hc_X0_reasonToWear_16 rfl) (u1_6 hc_X0_reasonToWear_16 rfl) rfl) rfl) rfl
theorem dX0_reasonToWear_23 : decode cX0_reasonToWear 23 = .ok (.iconst 0, 1) := o_3 (u1_7 hc_X0_reasonToWear_16 rfl) rfl
theorem dX0_reasonToWear_24 : decode cX0_reasonToWear 24 = .ok (.goto 5, 3) := o_167 (u1_8 hc_X0_reasonToWear_16 rfl) (s2_d (u2_d (u1_9 hc_X0_reasonToWear_16 rfl) (u1_10 hc_X0_reasonToWear_16 rfl) rfl) rfl) rfl
theorem dX0_reasonToWear_27 : decode cX0_reasonToWear 27 = .ok (.bipush 19, 2) := o_16 (u1_11 hc_X0_reasonToWear_16 rfl) (s1_d (u1_12 hc_X0_reasonToWear_16 rfl) rfl) rfl
theorem dX0_reasonToWear_29 : decode cX0_reasonToWear 29 = .ok (.ireturn, 1) := o_172 (u1_13 hc_X0_reasonToWear_16 rfl) rfl
theorem hc_X0_reasonToEnter_0 : ((bL cX0_reasonToEnter).drop 0).take 18 = [42, 180, 0, 34, 180, 0, 108, 27, 51, 154, 0, 5, 7, 172, 42, 180, 0, 9] := by decide +kernel
theorem dX0_reasonToEnter_0 : decode cX0_reasonToEnter 0 = .ok (.aload_n 0, 1) := o_42 (u1_0 hc_X0_reasonToEnter_0 rfl) rfl
theorem dX0_reasonToEnter_1 : decode cX0_reasonToEnter 1 = .ok (.getfield 34, 3) := o_180 (u1_1 hc_X0_reasonToEnter_0 rfl) (u2_d (u1_2 hc_X0_reasonToEnter_0 rfl) (u1_3 hc_X0_reasonToEnter_0 rfl) rfl) rfl
theorem dX0_reasonToEnter_4 : decode cX0_reasonToEnter 4 = .ok (.getfield 108, 3) := o_180 (u1_4 hc_X0_reasonToEnter_0 rfl) (u2_d (u1_5 hc_X0_reasonToEnter_0 rfl) (u1_6 hc_X0_reasonToEnter_0 rfl) rfl) rfl
theorem dX0_reasonToEnter_7 : decode cX0_reasonToEnter 7 = .ok (.iload_n 1, 1) := o_27 (u1_7 hc_X0_reasonToEnter_0 rfl) rfl
theorem dX0_reasonToEnter_8 : decode cX0_reasonToEnter 8 = .ok (.baload, 1) := o_51 (u1_8 hc_X0_reasonToEnter_0 rfl) rfl
theorem dX0_reasonToEnter_9 : decode cX0_reasonToEnter 9 = .ok (.ifCond .ne 5, 3) := o_154 (u1_9 hc_X0_reasonToEnter_0 rfl) (s2_d (u2_d (u1_10 hc_X0_reasonToEnter_0 rfl) (u1_11 hc_X0_reasonToEnter_0 rfl) rfl) rfl) rfl
theorem dX0_reasonToEnter_12 : decode cX0_reasonToEnter 12 = .ok (.iconst 4, 1) := o_7 (u1_12 hc_X0_reasonToEnter_0 rfl) rfl
theorem dX0_reasonToEnter_13 : decode cX0_reasonToEnter 13 = .ok (.ireturn, 1) := o_172 (u1_13 hc_X0_reasonToEnter_0 rfl) rfl
theorem dX0_reasonToEnter_14 : decode cX0_reasonToEnter 14 = .ok (.aload_n 0, 1) := o_42 (u1_14 hc_X0_reasonToEnter_0 rfl) rfl
theorem dX0_reasonToEnter_15 : decode cX0_reasonToEnter 15 = .ok (.getfield 9, 3) := o_180 (u1_15 hc_X0_reasonToEnter_0 rfl) (u2_d (u1_16 hc_X0_reasonToEnter_0 rfl) (u1_17 hc_X0_reasonToEnter_0 rfl) rfl) rfl
theorem hc_X0_reasonToEnter_16 : ((bL cX0_reasonToEnter).drop 16).take 18 = [0, 9, 27, 182, 0, 86, 61, 28, 6, 159, 0, 11, 28, 7, 159, 0, 6, 16] := by decide +kernel
theorem dX0_reasonToEnter_18 : decode cX0_reasonToEnter 18 = .ok (.iload_n 1, 1) := o_27 (u1_2 hc_X0_reasonToEnter_16 rfl) rfl
theorem dX0_reasonToEnter_19 : decode cX0_reasonToEnter 19 = .ok (.invokevirtual 86, 3) := o_182 (u1_3 hc_X0_reasonToEnter_16 rfl) (u2_d (u1_4 hc_X0_reasonToEnter_16 rfl) (u1_5 hc_X0_reasonToEnter_16 rfl) rfl) rfl
theorem dX0_reasonToEnter_22 : decode cX0_reasonToEnter 22 = .ok (.istore_n 2, 1) := o_61 (u1_6 hc_X0_reasonToEnter_16 rfl) rfl
theorem dX0_reasonToEnter_23 : decode cX0_reasonToEnter 23 = .ok (.iload_n 2, 1) := o_28 (u1_7 hc_X0_reasonToEnter_16 rfl) rfl
theorem dX0_reasonToEnter_24 : decode cX0_reasonToEnter 24 = .ok (.iconst 3, 1) := o_6 (u1_8 hc_X0_reasonToEnter_16 rfl) rfl
theorem dX0_reasonToEnter_25 : decode cX0_reasonToEnter 25 = .ok (.if_icmp .eq 11, 3) := o_159 (u1_9 hc_X0_reasonToEnter_16 rfl) (s2_d (u2_d (u1_10 hc_X0_reasonToEnter_16 rfl) (u1_11 hc_X0_reasonToEnter_16 rfl) rfl) rfl) rfl
theorem dX0_reasonToEnter_28 : decode cX0_reasonToEnter 28 = .ok (.iload_n 2, 1) := o_28 (u1_12 hc_X0_reasonToEnter_16 rfl) rfl
theorem dX0_reasonToEnter_29 : decode cX0_reasonToEnter 29 = .ok (.iconst 4, 1) := o_7 (u1_13 hc_X0_reasonToEnter_16 rfl) rfl
theorem dX0_reasonToEnter_30 : decode cX0_reasonToEnter 30 = .ok (.if_icmp .eq 6, 3) := o_159 (u1_14 hc_X0_reasonToEnter_16 rfl) (s2_d (u2_d (u1_15 hc_X0_reasonToEnter_16 rfl) (u1_16 hc_X0_reasonToEnter_16 rfl) rfl) rfl) rfl
theorem hc_X0_reasonToEnter_32 : ((bL cX0_reasonToEnter).drop 32).take 18 = [6, 16, 12, 172, 42, 180, 0, 33, 42, 180, 0, 38, 27, 182, 0, 112, 153, 0] := by decide +kernel
theorem dX0_reasonToEnter_33 : decode cX0_reasonToEnter 33 = .ok (.bipush 12, 2) := o_16 (u1_1 hc_X0_reasonToEnter_32 rfl) (s1_d (u1_2 hc_X0_reasonToEnter_32 rfl) rfl) rfl
theorem dX0_reasonToEnter_35 : decode cX0_reasonToEnter 35 = .ok (.ireturn, 1) := o_172 (u1_3 hc_X0_reasonToEnter_32 rfl) rfl
theorem dX0_reasonToEnter_36 : decode cX0_reasonToEnter 36 = .ok (.aload_n 0, 1) := o_42 (u1_4 hc_X0_reasonToEnter_32 rfl) rfl
theorem dX0_reasonToEnter_37 : decode cX0_reasonToEnter 37 = .ok (.getfield 33, 3) := o_180 (u1_5 hc_X0_reasonToEnter_32 rfl) (u2_d (u1_6 hc_X0_reasonToEnter_32 rfl) (u1_7 hc_X0_reasonToEnter_32 rfl) rfl) rfl
theorem dX0_reasonToEnter_40 : decode cX0_reasonToEnter 40 = .ok (.aload_n 0, 1) := o_42 (u1_8 hc_X0_reasonToEnter_32 rfl) rfl
theorem dX0_reasonToEnter_41 : decode cX0_reasonToEnter 41 = .ok (.getfield 38, 3) := o_180 (u1_9 hc_X0_reasonToEnter_32 rfl) (u2_d (u1_10 hc_X0_reasonToEnter_32 rfl) (u1_11 hc_X0_reasonToEnter_32 rfl) rfl) rfl
theorem dX0_reasonToEnter_44 : decode cX0_reasonToEnter 44 = .ok (.iload_n 1, 1) := o_27 (u1_12 hc_X0_reasonToEnter_32 rfl) rfl
theorem dX0_reasonToEnter_45 : decode cX0_reasonToEnter 45 = .ok (.invokevirtual 112, 3) := o_182 (u1_13 hc_X0_reasonToEnter_32 rfl) (u2_d (u1_14 hc_X0_reasonToEnter_32 rfl) (u1_15 hc_X0_reasonToEnter_32 rfl) rfl) rfl
theorem hc_X0_reasonToEnter_48 : ((bL cX0_reasonToEnter).drop 48).take 18 = [153, 0, 6, 16, 13, 172, 28, 6, 160, 0, 17, 42, 180, 0, 33, 27, 3, 182] := by decide +kernel
theorem dX0_reasonToEnter_48 : decode cX0_reasonToEnter 48 = .ok (.ifCond .eq 6, 3) := o_153 (u1_0 hc_X0_reasonToEnter_48 rfl) (s2_d (u2_d (u1_1 hc_X0_reasonToEnter_48 rfl) (u1_2 hc_X0_reasonToEnter_48 rfl) rfl) rfl) rfl
theorem dX0_reasonToEnter_51 : decode cX0_reasonToEnter 51 = .ok (.bipush 13, 2) := o_16 (u1_3 hc_X0_reasonToEnter_48 rfl) (s1_d (u1_4 hc_X0_reasonToEnter_48 rfl) rfl) rfl
theorem dX0_reasonToEnter_53 : decode cX0_reasonToEnter 53 = .ok (.ireturn, 1) := o_172 (u1_5 hc_X0_reasonToEnter_48 rfl) rfl
theorem dX0_reasonToEnter_54 : decode cX0_reasonToEnter 54 = .ok (.iload_n 2, 1) := o_28 (u1_6 hc_X0_reasonToEnter_48 rfl) rfl
theorem dX0_reasonToEnter_55 : decode cX0_reasonToEnter 55 = .ok (.iconst 3, 1) := o_6 (u1_7 hc_X0_reasonToEnter_48 rfl) rfl
theorem dX0_reasonToEnter_56 : decode cX0_reasonToEnter 56 = .ok (.if_icmp .ne 17, 3) := o_160 (u1_8 hc_X0_reasonToEnter_48 rfl) (s2_d (u2_d (u1_9 hc_X0_reasonToEnter_48 rfl) (u1_10 hc_X0_reasonToEnter_48 rfl) rfl) rfl) rfl
theorem dX0_reasonToEnter_59 : decode cX0_reasonToEnter 59 = .ok (.aload_n 0, 1) := o_42 (u1_11 hc_X0_reasonToEnter_48 rfl) rfl
theorem dX0_reasonToEnter_60 : decode cX0_reasonToEnter 60 = .ok (.getfield 33, 3) := o_180 (u1_12 hc_X0_reasonToEnter_48 rfl) (u2_d (u1_13 hc_X0_reasonToEnter_48 rfl) (u1_14 hc_X0_reasonToEnter_48 rfl) rfl) rfl
theorem dX0_reasonToEnter_63 : decode cX0_reasonToEnter 63 = .ok (.iload_n 1, 1) := o_27 (u1_15 hc_X0_reasonToEnter_48 rfl) rfl
theorem hc_X0_reasonToEnter_64 : ((bL cX0_reasonToEnter).drop 64).take 18 = [3, 182, 0, 104, 154, 0, 5, 6, 172, 42, 180, 0, 34, 180, 0, 118, 27, 51] := by decide +kernel
theorem dX0_reasonToEnter_64 : decode cX0_reasonToEnter 64 = .ok (.iconst 0, 1) := o_3 (u1_0 hc_X0_reasonToEnter_64 rfl) rfl
theorem dX0_reasonToEnter_65 : decode cX0_reasonToEnter 65 = .ok (.invokevirtual 104, 3) := o_182 (u1_1 hc_X0_reasonToEnter_64 rfl) (u2_d (u1_2 hc_X0_reasonToEnter_64 rfl) (u1_3 hc_X0_reasonToEnter_64 rfl) rfl) rfl
theorem dX0_reasonToEnter_68 : decode cX0_reasonToEnter 68 = .ok (.ifCond .ne 5, 3) := o_154 (u1_4 hc_X0_reasonToEnter_64 rfl) (s2_d (u2_d (u1_5 hc_X0_reasonToEnter_64 rfl) (u1_6 hc_X0_reasonToEnter_64 rfl) rfl) rfl) rfl
theorem dX0_reasonToEnter_71 : decode cX0_reasonToEnter 71 = .ok (.iconst 3, 1) := o_6 (u1_7 hc_X0_reasonToEnter_64 rfl) rfl
theorem dX0_reasonToEnter_72 : decode cX0_reasonToEnter 72 = .ok (.ireturn, 1) := o_172 (u1_8 hc_X0_reasonToEnter_64 rfl) rfl
theorem dX0_reasonToEnter_73 : decode cX0_reasonToEnter 73 = .ok (.aload_n 0, 1) := o_42 (u1_9 hc_X0_reasonToEnter_64 rfl) rfl
theorem dX0_reasonToEnter_74 : decode cX0_reasonToEnter 74 = .ok (.getfield 34, 3) := o_180 (u1_10 hc_X0_reasonToEnter_64 rfl) (u2_d (u1_11 hc_X0_reasonToEnter_64 rfl) (u1_12 hc_X0_reasonToEnter_64 rfl) rfl) rfl
theorem dX0_reasonToEnter_77 : decode cX0_reasonToEnter 77 = .ok (.getfield 118, 3) := o_180 (u1_13 hc_X0_reasonToEnter_64 rfl) (u2_d (u1_14 hc_X0_reasonToEnter_64 rfl) (u1_15 hc_X0_reasonToEnter_64 rfl) rfl) rfl
theorem hc_X0_reasonToEnter_80 : ((bL cX0_reasonToEnter).drop 80).take 18 = [27, 51, 154, 0, 6, 16, 8, 172, 42, 180, 0, 33, 42, 180, 0, 38, 182, 0] := by decide +kernel
theorem dX0_reasonToEnter_80 : decode cX0_reasonToEnter 80 = .ok (.iload_n 1, 1) := o_27 (u1_0 hc_X0_reasonToEnter_80 rfl) rfl
theorem dX0_reasonToEnter_81 : decode cX0_reasonToEnter 81 = .ok (.baload, 1) := o_51 (u1_1 hc_X0_reasonToEnter_80 rfl) rfl
theorem dX0_reasonToEnter_82 : decode cX0_reasonToEnter 82 = .ok (.ifCond .ne 6, 3) := o_154 (u1_2 hc_X0_reasonToEnter_80 rfl) (s2_d (u2_d (u1_3 hc_X0_reasonToEnter_80 rfl) (u1_4 hc_X0_reasonToEnter_80 rfl) rfl) rfl) rfl
theorem dX0_reasonToEnter_85 : decode cX0_reasonToEnter 85 = .ok (.bipush 8, 2) := o_16 (u1_5 hc_X0_reasonToEnter_80 rfl) (s1_d (u1_6 hc_X0_reasonToEnter_80 rfl) rfl) rfl
theorem dX0_reasonToEnter_87 : decode cX0_reasonToEnter 87 = .ok (.ireturn, 1) := o_172 (u1_7 hc_X0_reasonToEnter_80 rfl) rfl
theorem dX0_reasonToEnter_88 : decode cX0_reasonToEnter 88 = .ok (.aload_n 0, 1) := o_42 (u1_8 hc_X0_reasonToEnter_80 rfl) rfl
theorem dX0_reasonToEnter_89 : decode cX0_reasonToEnter 89 = .ok (.getfield 33, 3) := o_180 (u1_9 hc_X0_reasonToEnter_80 rfl) (u2_d (u1_10 hc_X0_reasonToEnter_80 rfl) (u1_11 hc_X0_reasonToEnter_80 rfl) rfl) rfl
theorem dX0_reasonToEnter_92 : decode cX0_reasonToEnter 92 = .ok (.aload_n 0, 1) := o_42 (u1_12 hc_X0_reasonToEnter_80 rfl) rfl
theorem dX0_reasonToEnter_93 : decode cX0_reasonToEnter 93 = .ok (.getfield 38, 3) := o_180 (u1_13 hc_X0_reasonToEnter_80 rfl) (u2_d (u1_14 hc_X0_reasonToEnter_80 rfl) (u1_15 hc_X0_reasonToEnter_80 rfl) rfl) rfl
theorem hc_X0_reasonToEnter_96 : ((bL cX0_reasonToEnter).drop 96).take 18 = [182, 0, 83, 27, 160, 0, 8, 16, 20, 167, 0, 4, 3, 172] := by decide +kernel
theorem dX0_reasonToEnter_96 : decode cX0_reasonToEnter 96 = .ok (.invokevirtual 83, 3) := o_182 (u1_0 hc_X0_reasonToEnter_96 rfl) (u2_d (u1_1 hc_X0_reasonToEnter_96 rfl) (u1_2 hc_X0_reasonToEnter_96 rfl) rfl) rfl
theorem dX0_reasonToEnter_99 : decode cX0_reasonToEnter 99 = .ok (.iload_n 1, 1) := o_27 (u1_3 hc_X0_reasonToEnter_96 rfl) rfl
theorem dX0_reasonToEnter_100 : decode cX0_reasonToEnter 100 = .ok (.if_icmp .ne 8, 3) := o_160 (u1_4 hc_X0_reasonToEnter_96 rfl) (s2_d (u2_d (u1_5 hc_X0_reasonToEnter_96 rfl) (u1_6 hc_X0_reasonToEnter_96 rfl) rfl) rfl) rfl
theorem dX0_reasonToEnter_103 : decode cX0_reasonToEnter 103 = .ok (.bipush 20, 2) := o_16 (u1_7 hc_X0_reasonToEnter_96 rfl) (s1_d (u1_8 hc_X0_reasonToEnter_96 rfl) rfl) rfl
theorem dX0_reasonToEnter_105 : decode cX0_reasonToEnter 105 = .ok (.goto 4, 3) := o_167 (u1_9 hc_X0_reasonToEnter_96 rfl) (s2_d (u2_d (u1_10 hc_X0_reasonToEnter_96 rfl) (u1_11 hc_X0_reasonToEnter_96 rfl) rfl) rfl) rfl
theorem dX0_reasonToEnter_108 : decode cX0_reasonToEnter 108 = .ok (.iconst 0, 1) := o_3 (u1_12 hc_X0_reasonToEnter_96 rfl) rfl
theorem dX0_reasonToEnter_109 : decode cX0_reasonToEnter 109 = .ok (.ireturn, 1) := o_172 (u1_13 hc_X0_reasonToEnter_96 rfl) rfl
theorem hc_X0_reasonToLeave_0 : ((bL cX0_reasonToLeave).drop 0).take 18 = [42, 180, 0, 33, 42, 180, 0, 38, 182, 0, 83, 60, 27, 16, 247, 159, 0, 10] := by decide +kernel
theorem dX0_reasonToLeave_0 : decode cX0_reasonToLeave 0 = .ok (.aload_n 0, 1) := o_42 (u1_0 hc_X0_reasonToLeave_0 rfl) rfl
theorem dX0_reasonToLeave_1 : decode cX0_reasonToLeave 1 = .ok (.getfield 33, 3) := o_180 (u1_1 hc_X0_reasonToLeave_0 rfl) (u2_d (u1_2 hc_X0_reasonToLeave_0 rfl) (u1_3 hc_X0_reasonToLeave_0 rfl) rfl) rfl
theorem dX0_reasonToLeave_4 : decode cX0_reasonToLeave 4 = .ok (.aload_n 0, 1) := o_42 (u1_4 hc_X0_reasonToLeave_0 rfl) rfl
theorem dX0_reasonToLeave_5 : decode cX0_reasonToLeave 5 = .ok (.getfield 38, 3) := o_180 (u1_5 hc_X0_reasonToLeave_0 rfl) (u2_d (u1_6 hc_X0_reasonToLeave_0 rfl) (u1_7 hc_X0_reasonToLeave_0 rfl) rfl) rfl
theorem dX0_reasonToLeave_8 : decode cX0_reasonToLeave 8 = .ok (.invokevirtual 83, 3) := o_182 (u1_8 hc_X0_reasonToLeave_0 rfl) (u2_d (u1_9 hc_X0_reasonToLeave_0 rfl) (u1_10 hc_X0_reasonToLeave_0 rfl) rfl) rfl
theorem dX0_reasonToLeave_11 : decode cX0_reasonToLeave 11 = .ok (.istore_n 1, 1) := o_60 (u1_11 hc_X0_reasonToLeave_0 rfl) rfl
theorem dX0_reasonToLeave_12 : decode cX0_reasonToLeave 12 = .ok (.iload_n 1, 1) := o_27 (u1_12 hc_X0_reasonToLeave_0 rfl) rfl
theorem dX0_reasonToLeave_13 : decode cX0_reasonToLeave 13 = .ok (.bipush (-9), 2) := o_16 (u1_13 hc_X0_reasonToLeave_0 rfl) (s1_d (u1_14 hc_X0_reasonToLeave_0 rfl) rfl) rfl
theorem dX0_reasonToLeave_15 : decode cX0_reasonToLeave 15 = .ok (.if_icmp .eq 10, 3) := o_159 (u1_15 hc_X0_reasonToLeave_0 rfl) (s2_d (u2_d (u1_16 hc_X0_reasonToLeave_0 rfl) (u1_17 hc_X0_reasonToLeave_0 rfl) rfl) rfl) rfl
theorem hc_X0_reasonToLeave_16 : ((bL cX0_reasonToLeave).drop 16).take 18 = [0, 10, 42, 182, 0, 91, 153, 0, 5, 4, 172, 42, 180, 0, 9, 27, 182, 0] := by decide +kernel
theorem dX0_reasonToLeave_18 : decode cX0_reasonToLeave 18 = .ok (.aload_n 0, 1) := o_42 (u1_2 hc_X0_reasonToLeave_16 rfl) rfl
theorem dX0_reasonToLeave_19 : decode cX0_reasonToLeave 19 = .ok (.invokevirtual 91, 3) := o_182 (u1_3 hc_X0_reasonToLeave_16 rfl) (u2_d (u1_4 hc_X0_reasonToLeave_16 rfl) (u1_5 hc_X0_reasonToLeave_16 rfl) rfl) rfl
theorem dX0_reasonToLeave_22 : decode cX0_reasonToLeave 22 = .ok (.ifCond .eq 5, 3) := o_153 (u1_6 hc_X0_reasonToLeave_16 rfl) (s2_d (u2_d (u1_7 hc_X0_reasonToLeave_16 rfl) (u1_8 hc_X0_reasonToLeave_16 rfl) rfl) rfl) rfl
theorem dX0_reasonToLeave_25 : decode cX0_reasonToLeave 25 = .ok (.iconst 1, 1) := o_4 (u1_9 hc_X0_reasonToLeave_16 rfl) rfl
theorem dX0_reasonToLeave_26 : decode cX0_reasonToLeave 26 = .ok (.ireturn, 1) := o_172 (u1_10 hc_X0_reasonToLeave_16 rfl) rfl
theorem dX0_reasonToLeave_27 : decode cX0_reasonToLeave 27 = .ok (.aload_n 0, 1) := o_42 (u1_11 hc_X0_reasonToLeave_16 rfl) rfl
theorem dX0_reasonToLeave_28 : decode cX0_reasonToLeave 28 = .ok (.getfield 9, 3) := o_180 (u1_12 hc_X0_reasonToLeave_16 rfl) (u2_d (u1_13 hc_X0_reasonToLeave_16 rfl) (u1_14 hc_X0_reasonToLeave_16 rfl) rfl) rfl
theorem dX0_reasonToLeave_31 : decode cX0_reasonToLeave 31 = .ok (.iload_n 1, 1) := o_27 (u1_15 hc_X0_reasonToLeave_16 rfl) rfl
theorem hc_X0_reasonToLeave_32 : ((bL cX0_reasonToLeave).drop 32).take 18 = [182, 0, 86, 6, 160, 0, 17, 42, 180, 0, 33, 27, 3, 182, 0, 104, 154, 0] := by decide +kernel
theorem dX0_reasonToLeave_32 : decode cX0_reasonToLeave 32 = .ok (.invokevirtual 86, 3) := o_182 (u1_0 hc_X0_reasonToLeave_32 rfl) (u2_d (u1_1 hc_X0_reasonToLeave_32 rfl) (u1_2 hc_X0_reasonToLeave_32 rfl) rfl) rfl
theorem dX0_reasonToLeave_35 : decode cX0_reasonToLeave 35 = .ok (.iconst 3, 1) := o_6 (u1_3 hc_X0_reasonToLeave_32 rfl) rfl
theorem dX0_reasonToLeave_36 : decode cX0_reasonToLeave 36 = .ok (.if_icmp .ne 17, 3) := o_160 (u1_4 hc_X0_reasonToLeave_32 rfl) (s2_d (u2_d (u1_5 hc_X0_reasonToLeave_32 rfl) (u1_6 hc_X0_reasonToLeave_32 rfl) rfl) rfl) rfl
theorem dX0_reasonToLeave_39 : decode cX0_reasonToLeave 39 = .ok (.aload_n 0, 1) := o_42 (u1_7 hc_X0_reasonToLeave_32 rfl) rfl
theorem dX0_reasonToLeave_40 : decode cX0_reasonToLeave 40 = .ok (.getfield 33, 3) := o_180 (u1_8 hc_X0_reasonToLeave_32 rfl) (u2_d (u1_9 hc_X0_reasonToLeave_32 rfl) (u1_10 hc_X0_reasonToLeave_32 rfl) rfl) rfl
theorem dX0_reasonToLeave_43 : decode cX0_reasonToLeave 43 = .ok (.iload_n 1, 1) := o_27 (u1_11 hc_X0_reasonToLeave_32 rfl) rfl
theorem dX0_reasonToLeave_44 : decode cX0_reasonToLeave 44 = .ok (.iconst 0, 1) := o_3 (u1_12 hc_X0_reasonToLeave_32 rfl) rfl
theorem dX0_reasonToLeave_45 : decode cX0_reasonToLeave 45 = .ok (.invokevirtual 104, 3) := o_182 (u1_13 hc_X0_reasonToLeave_32 rfl) (u2_d (u1_14 hc_X0_reasonToLeave_32 rfl) (u1_15 hc_X0_reasonToLeave_32 rfl) rfl) rfl
theorem hc_X0_reasonToLeave_48 : ((bL cX0_reasonToLeave).drop 48).take 18 = [154, 0, 5, 6, 172, 42, 180, 0, 33, 27, 182, 0, 80, 61, 28, 153, 0, 8] := by decide +kernel
theorem dX0_reasonToLeave_48 : decode cX0_reasonToLeave 48 = .ok (.ifCond .ne 5, 3) := o_154 (u1_0 hc_X0_reasonToLeave_48 rfl) (s2_d (u2_d (u1_1 hc_X0_reasonToLeave_48 rfl) (u1_2 hc_X0_reasonToLeave_48 rfl) rfl) rfl) rfl
theorem dX0_reasonToLeave_51 : decode cX0_reasonToLeave 51 = .ok (.iconst 3, 1) := o_6 (u1_3 hc_X0_reasonToLeave_48 rfl) rfl
theorem dX0_reasonToLeave_52 : decode cX0_reasonToLeave 52 = .ok (.ireturn, 1) := o_172 (u1_4 hc_X0_reasonToLeave_48 rfl) rfl
theorem dX0_reasonToLeave_53 : decode cX0_reasonToLeave 53 = .ok (.aload_n 0, 1) := o_42 (u1_5 hc_X0_reasonToLeave_48 rfl) rfl
theorem dX0_reasonToLeave_54 : decode cX0_reasonToLeave 54 = .ok (.getfield 33, 3) := o_180 (u1_6 hc_X0_reasonToLeave_48 rfl) (u2_d (u1_7 hc_X0_reasonToLeave_48 rfl) (u1_8 hc_X0_reasonToLeave_48 rfl) rfl) rfl
theorem dX0_reasonToLeave_57 : decode cX0_reasonToLeave 57 = .ok (.iload_n 1, 1) := o_27 (u1_9 hc_X0_reasonToLeave_48 rfl) rfl
theorem dX0_reasonToLeave_58 : decode cX0_reasonToLeave 58 = .ok (.invokevirtual 80, 3) := o_182 (u1_10 hc_X0_reasonToLeave_48 rfl) (u2_d (u1_11 hc_X0_reasonToLeave_48 rfl) (u1_12 hc_X0_reasonToLeave_48 rfl) rfl) rfl
theorem dX0_reasonToLeave_61 : decode cX0_reasonToLeave 61 = .ok (.istore_n 2, 1) := o_61 (u1_13 hc_X0_reasonToLeave_48 rfl) rfl
theorem dX0_reasonToLeave_62 : decode cX0_reasonToLeave 62 = .ok (.iload_n 2, 1) := o_28 (u1_14 hc_X0_reasonToLeave_48 rfl) rfl
theorem dX0_reasonToLeave_63 : decode cX0_reasonToLeave 63 = .ok (.ifCond .eq 8, 3) := o_153 (u1_15 hc_X0_reasonToLeave_48 rfl) (s2_d (u2_d (u1_16 hc_X0_reasonToLeave_48 rfl) (u1_17 hc_X0_reasonToLeave_48 rfl) rfl) rfl) rfl
theorem hc_X0_reasonToLeave_64 : ((bL cX0_reasonToLeave).drop 64).take 18 = [0, 8, 28, 4, 160, 0, 7, 3, 167, 0, 5, 16, 21, 172] := by decide +kernel
theorem dX0_reasonToLeave_66 : decode cX0_reasonToLeave 66 = .ok (.iload_n 2, 1) := o_28 (u1_2 hc_X0_reasonToLeave_64 rfl) rfl
theorem dX0_reasonToLeave_67 : decode cX0_reasonToLeave 67 = .ok (.iconst 1, 1) := o_4 (u1_3 hc_X0_reasonToLeave_64 rfl) rfl
theorem dX0_reasonToLeave_68 : decode cX0_reasonToLeave 68 = .ok (.if_icmp .ne 7, 3) := o_160 (u1_4 hc_X0_reasonToLeave_64 rfl) (s2_d (u2_d (u1_5 hc_X0_reasonToLeave_64 rfl) (u1_6 hc_X0_reasonToLeave_64 rfl) rfl) rfl) rfl
theorem dX0_reasonToLeave_71 : decode cX0_reasonToLeave 71 = .ok (.iconst 0, 1) := o_3 (u1_7 hc_X0_reasonToLeave_64 rfl) rfl
theorem dX0_reasonToLeave_72 : decode cX0_reasonToLeave 72 = .ok (.goto 5, 3) := o_167 (u1_8 hc_X0_reasonToLeave_64 rfl) (s2_d (u2_d (u1_9 hc_X0_reasonToLeave_64 rfl) (u1_10 hc_X0_reasonToLeave_64 rfl) rfl) rfl) rfl
theorem dX0_reasonToLeave_75 : decode cX0_reasonToLeave 75 = .ok (.bipush 21, 2) := o_16 (u1_11 hc_X0_reasonToLeave_64 rfl) (s1_d (u1_12 hc_X0_reasonToLeave_64 rfl) rfl) rfl
theorem dX0_reasonToLeave_77 : decode cX0_reasonToLeave 77 = .ok (.ireturn, 1) := o_172 (u1_13 hc_X0_reasonToLeave_64 rfl) rfl
theorem hc_X0_subjectOf_0 : ((bL cX0_subjectOf).drop 0).take 18 = [27, 153, 0, 9, 27, 16, 10, 161, 0, 10, 42, 180, 0, 38, 167, 0, 4, 28] := by decide +kernel
theorem dX0_subjectOf_0 : decode cX0_subjectOf 0 = .ok (.iload_n 1, 1) := o_27 (u1_0 hc_X0_subjectOf_0 rfl) rfl
theorem dX0_subjectOf_1 : decode cX0_subjectOf 1 = .ok (.ifCond .eq 9, 3) := o_153 (u1_1 hc_X0_subjectOf_0 rfl) (s2_d (u2_d (u1_2 hc_X0_subjectOf_0 rfl) (u1_3 hc_X0_subjectOf_0 rfl) rfl) rfl) rfl
theorem dX0_subjectOf_4 : decode cX0_subjectOf 4 = .ok (.iload_n 1, 1) := o_27 (u1_4 hc_X0_subjectOf_0 rfl) rfl
theorem dX0_subjectOf_5 : decode cX0_subjectOf 5 = .ok (.bipush 10, 2) := o_16 (u1_5 hc_X0_subjectOf_0 rfl) (s1_d (u1_6 hc_X0_subjectOf_0 rfl) rfl) rfl
theorem dX0_subjectOf_7 : decode cX0_subjectOf 7 = .ok (.if_icmp .lt 10, 3) := o_161 (u1_7 hc_X0_subjectOf_0 rfl) (s2_d (u2_d (u1_8 hc_X0_subjectOf_0 rfl) (u1_9 hc_X0_subjectOf_0 rfl) rfl) rfl) rfl
theorem dX0_subjectOf_10 : decode cX0_subjectOf 10 = .ok (.aload_n 0, 1) := o_42 (u1_10 hc_X0_subjectOf_0 rfl) rfl
theorem dX0_subjectOf_11 : decode cX0_subjectOf 11 = .ok (.getfield 38, 3) := o_180 (u1_11 hc_X0_subjectOf_0 rfl) (u2_d (u1_12 hc_X0_subjectOf_0 rfl) (u1_13 hc_X0_subjectOf_0 rfl) rfl) rfl
theorem dX0_subjectOf_14 : decode cX0_subjectOf 14 = .ok (.goto 4, 3) := o_167 (u1_14 hc_X0_subjectOf_0 rfl) (s2_d (u2_d (u1_15 hc_X0_subjectOf_0 rfl) (u1_16 hc_X0_subjectOf_0 rfl) rfl) rfl) rfl
theorem hc_X0_subjectOf_16 : ((bL cX0_subjectOf).drop 16).take 18 = [4, 28, 172] := by decide +kernel
theorem dX0_subjectOf_17 : decode cX0_subjectOf 17 = .ok (.iload_n 2, 1) := o_28 (u1_1 hc_X0_subjectOf_16 rfl) rfl
theorem dX0_subjectOf_18 : decode cX0_subjectOf 18 = .ok (.ireturn, 1) := o_172 (u1_2 hc_X0_subjectOf_16 rfl) rfl
theorem hc_X0_outcomeOf_0 : ((bL cX0_outcomeOf).drop 0).take 18 = [42, 180, 0, 33, 180, 0, 149, 42, 27, 28, 182, 0, 152, 46, 54, 4, 27, 170] := by decide +kernel
theorem dX0_outcomeOf_0 : decode cX0_outcomeOf 0 = .ok (.aload_n 0, 1) := o_42 (u1_0 hc_X0_outcomeOf_0 rfl) rfl
theorem dX0_outcomeOf_1 : decode cX0_outcomeOf 1 = .ok (.getfield 33, 3) := o_180 (u1_1 hc_X0_outcomeOf_0 rfl) (u2_d (u1_2 hc_X0_outcomeOf_0 rfl) (u1_3 hc_X0_outcomeOf_0 rfl) rfl) rfl
theorem dX0_outcomeOf_4 : decode cX0_outcomeOf 4 = .ok (.getfield 149, 3) := o_180 (u1_4 hc_X0_outcomeOf_0 rfl) (u2_d (u1_5 hc_X0_outcomeOf_0 rfl) (u1_6 hc_X0_outcomeOf_0 rfl) rfl) rfl
theorem dX0_outcomeOf_7 : decode cX0_outcomeOf 7 = .ok (.aload_n 0, 1) := o_42 (u1_7 hc_X0_outcomeOf_0 rfl) rfl
theorem dX0_outcomeOf_8 : decode cX0_outcomeOf 8 = .ok (.iload_n 1, 1) := o_27 (u1_8 hc_X0_outcomeOf_0 rfl) rfl
theorem dX0_outcomeOf_9 : decode cX0_outcomeOf 9 = .ok (.iload_n 2, 1) := o_28 (u1_9 hc_X0_outcomeOf_0 rfl) rfl
theorem dX0_outcomeOf_10 : decode cX0_outcomeOf 10 = .ok (.invokevirtual 152, 3) := o_182 (u1_10 hc_X0_outcomeOf_0 rfl) (u2_d (u1_11 hc_X0_outcomeOf_0 rfl) (u1_12 hc_X0_outcomeOf_0 rfl) rfl) rfl
theorem dX0_outcomeOf_13 : decode cX0_outcomeOf 13 = .ok (.iaload, 1) := o_46 (u1_13 hc_X0_outcomeOf_0 rfl) rfl
