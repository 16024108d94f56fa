def RX0 : String := "TalePlay$Acts"
def TX0 : u_T := fun k => match k with
  | 0 => ("TalePlay$Acts", "world", "LTalePlay$World;", true)
  | 1 => ("TalePlay$Acts", "book", "LTalePlay$Book;", true)
  | 2 => ("TalePlay$Acts", "roads", "LTalePlay$Roads;", true)
  | 3 => ("TalePlay$Acts", "bulks", "LTalePlay$Bulks;", true)
  | 4 => ("TalePlay$Acts", "scene", "LTalePlay$Scene;", true)
  | 5 => ("TalePlay$Acts", "sight", "LTalePlay$Sight;", true)
  | _ => ("TalePlay$Acts", "player", "I", false)
def tyX0 : Nat → FieldType := fun k => match k with
  | 0 => .object "TalePlay$World"
  | 1 => .object "TalePlay$Book"
  | 2 => .object "TalePlay$Roads"
  | 3 => .object "TalePlay$Bulks"
  | 4 => .object "TalePlay$Scene"
  | 5 => .object "TalePlay$Sight"
  | _ => .int
abbrev wsX00 : List Cond := u_ws RX0 TX0 7
theorem nmX0 : ∀ a, a < 7 → ∀ b, b < 7 → a ≠ b → (TX0 a).2.1 ≠ (TX0 b).2.1 := by decide +kernel
theorem tyX0_ok : ∀ k, k < 7 → parseFieldDescriptor (TX0 k).2.2.1 = some (tyX0 k) := by decide +kernel
abbrev cX0_init : ByteArray := prog_2_method_1_code
def yX0_init : MethodName := ⟨RX0, "<init>", "(LTalePlay$World;LTalePlay$Book;LTalePlay$Roads;LTalePlay$Bulks;LTalePlay$Sight;)V"⟩
abbrev cX0_hasX : ByteArray := prog_2_method_2_code
def yX0_hasX : MethodName := ⟨RX0, "hasX", "(I)Z"⟩
abbrev cX0_hasY : ByteArray := prog_2_method_3_code
def yX0_hasY : MethodName := ⟨RX0, "hasY", "(I)Z"⟩
abbrev cX0_reasonOfX : ByteArray := prog_2_method_4_code
def yX0_reasonOfX : MethodName := ⟨RX0, "reasonOfX", "(II)I"⟩
abbrev cX0_reasonOfY : ByteArray := prog_2_method_5_code
def yX0_reasonOfY : MethodName := ⟨RX0, "reasonOfY", "(III)I"⟩
abbrev cX0_isHeld : ByteArray := prog_2_method_6_code
def yX0_isHeld : MethodName := ⟨RX0, "isHeld", "(I)Z"⟩
abbrev cX0_isByRoom : ByteArray := prog_2_method_7_code
def yX0_isByRoom : MethodName := ⟨RX0, "isByRoom", "()Z"⟩
abbrev cX0_reasonToGo : ByteArray := prog_2_method_8_code
def yX0_reasonToGo : MethodName := ⟨RX0, "reasonToGo", "(I)I"⟩
abbrev cX0_reasonToTake : ByteArray := prog_2_method_9_code
def yX0_reasonToTake : MethodName := ⟨RX0, "reasonToTake", "(I)I"⟩
abbrev cX0_isAnothers : ByteArray := prog_2_method_10_code
def yX0_isAnothers : MethodName := ⟨RX0, "isAnothers", "(I)Z"⟩
abbrev cX0_reasonToPut : ByteArray := prog_2_method_11_code
def yX0_reasonToPut : MethodName := ⟨RX0, "reasonToPut", "(III)I"⟩
abbrev cX0_reasonOfShutter : ByteArray := prog_2_method_12_code
def yX0_reasonOfShutter : MethodName := ⟨RX0, "reasonOfShutter", "(II)I"⟩
abbrev cX0_reasonOfLeaf : ByteArray := prog_2_method_13_code
def yX0_reasonOfLeaf : MethodName := ⟨RX0, "reasonOfLeaf", "(IZZ)I"⟩
abbrev cX0_reasonOfKey : ByteArray := prog_2_method_14_code
def yX0_reasonOfKey : MethodName := ⟨RX0, "reasonOfKey", "(II)I"⟩
abbrev cX0_reasonToWear : ByteArray := prog_2_method_15_code
def yX0_reasonToWear : MethodName := ⟨RX0, "reasonToWear", "(I)I"⟩
abbrev cX0_reasonToEnter : ByteArray := prog_2_method_16_code
def yX0_reasonToEnter : MethodName := ⟨RX0, "reasonToEnter", "(I)I"⟩
abbrev cX0_reasonToLeave : ByteArray := prog_2_method_17_code
def yX0_reasonToLeave : MethodName := ⟨RX0, "reasonToLeave", "()I"⟩
abbrev cX0_subjectOf : ByteArray := prog_2_method_18_code
def yX0_subjectOf : MethodName := ⟨RX0, "subjectOf", "(II)I"⟩
abbrev cX0_outcomeOf : ByteArray := prog_2_method_19_code
def yX0_outcomeOf : MethodName := ⟨RX0, "outcomeOf", "(III)I"⟩
abbrev cX0_placedAs : ByteArray := prog_2_method_20_code
def yX0_placedAs : MethodName := ⟨RX0, "placedAs", "(II)I"⟩
def RX1 : String := "TalePlay$Book"
def TX1 : u_T := fun k => match k with
  | 0 => ("TalePlay$Book", "world", "LTalePlay$World;", true)
  | 1 => ("TalePlay$Book", "places", "LTalePlay$Scene;", true)
  | 2 => ("TalePlay$Book", "forms", "[I", true)
  | 3 => ("TalePlay$Book", "as", "[I", true)
  | 4 => ("TalePlay$Book", "bs", "[I", true)
  | 5 => ("TalePlay$Book", "cs", "[I", true)
  | 6 => ("TalePlay$Book", "said", "[Z", true)
  | 7 => ("TalePlay$Book", "placeBy", "[I", true)
  | 8 => ("TalePlay$Book", "exitBy", "[I", true)
  | 9 => ("TalePlay$Book", "flagBy", "[I", true)
  | 10 => ("TalePlay$Book", "keyBy", "[I", true)
  | 11 => ("TalePlay$Book", "clashRow", "[I", true)
  | 12 => ("TalePlay$Book", "clashes", "I", false)
  | 13 => ("TalePlay$Book", "total", "I", false)
  | _ => ("TalePlay$Book", "standing", "I", false)
def tyX1 : Nat → FieldType := fun k => match k with
  | 0 => .object "TalePlay$World"
  | 1 => .object "TalePlay$Scene"
  | 2 => .array .int
  | 3 => .array .int
  | 4 => .array .int
  | 5 => .array .int
  | 6 => .array .boolean
  | 7 => .array .int
  | 8 => .array .int
  | 9 => .array .int
  | 10 => .array .int
  | 11 => .array .int
  | 12 => .int
  | 13 => .int
  | _ => .int
abbrev wsX10 : List Cond := u_ws RX1 TX1 15
theorem nmX1 : ∀ a, a < 15 → ∀ b, b < 15 → a ≠ b → (TX1 a).2.1 ≠ (TX1 b).2.1 := by decide +kernel
theorem tyX1_ok : ∀ k, k < 15 → parseFieldDescriptor (TX1 k).2.2.1 = some (tyX1 k) := by decide +kernel
abbrev cX1_init : ByteArray := prog_3_method_1_code
def yX1_init : MethodName := ⟨RX1, "<init>", "(LTalePlay$World;)V"⟩
abbrev cX1_isWellFormed : ByteArray := prog_3_method_2_code
def yX1_isWellFormed : MethodName := ⟨RX1, "isWellFormed", "(IIII)Z"⟩
abbrev cX1_isFitting : ByteArray := prog_3_method_3_code
def yX1_isFitting : MethodName := ⟨RX1, "isFitting", "(III)Z"⟩
abbrev cX1_standingFor : ByteArray := prog_3_method_4_code
def yX1_standingFor : MethodName := ⟨RX1, "standingFor", "(IIII)I"⟩
abbrev cX1_findSame : ByteArray := prog_3_method_5_code
def yX1_findSame : MethodName := ⟨RX1, "findSame", "(IIII)I"⟩
abbrev cX1_write : ByteArray := prog_3_method_6_code
def yX1_write : MethodName := ⟨RX1, "write", "(IIII)I"⟩
abbrev cX1_strike : ByteArray := prog_3_method_7_code
def yX1_strike : MethodName := ⟨RX1, "strike", "(I)V"⟩
abbrev cX1_point : ByteArray := prog_3_method_8_code
def yX1_point : MethodName := ⟨RX1, "point", "(II)V"⟩
abbrev cX1_part : ByteArray := prog_3_method_9_code
def yX1_part : MethodName := ⟨RX1, "part", "(II)I"⟩
abbrev cX1_saidFlag : ByteArray := prog_3_method_10_code
def yX1_saidFlag : MethodName := ⟨RX1, "saidFlag", "(II)I"⟩
abbrev cX1_keyOf : ByteArray := prog_3_method_11_code
def yX1_keyOf : MethodName := ⟨RX1, "keyOf", "(I)I"⟩
abbrev cX1_clearClash : ByteArray := prog_3_method_12_code
def yX1_clearClash : MethodName := ⟨RX1, "clearClash", "()V"⟩
abbrev cX1_addClash : ByteArray := prog_3_method_13_code
def yX1_addClash : MethodName := ⟨RX1, "addClash", "(I)Z"⟩
abbrev cX1_isClashing : ByteArray := prog_3_method_14_code
def yX1_isClashing : MethodName := ⟨RX1, "isClashing", "(IIII)Z"⟩
abbrev cX1_isPlaceClashing : ByteArray := prog_3_method_15_code
def yX1_isPlaceClashing : MethodName := ⟨RX1, "isPlaceClashing", "(III)Z"⟩
abbrev cX1_addChain : ByteArray := prog_3_method_16_code
def yX1_addChain : MethodName := ⟨RX1, "addChain", "(II)V"⟩
abbrev cX1_isDoorClashing : ByteArray := prog_3_method_17_code
def yX1_isDoorClashing : MethodName := ⟨RX1, "isDoorClashing", "(II)Z"⟩
abbrev cX1_isFlagClashing : ByteArray := prog_3_method_18_code
def yX1_isFlagClashing : MethodName := ⟨RX1, "isFlagClashing", "(III)Z"⟩
abbrev cX1_saying : ByteArray := prog_3_method_19_code
def yX1_saying : MethodName := ⟨RX1, "saying", "(III)I"⟩
def RX2 : String := "TalePlay$Bulks"
def TX2 : u_T := fun k => match k with
  | 0 => ("TalePlay$Bulks", "world", "LTalePlay$World;", true)
  | 1 => ("TalePlay$Bulks", "trace", "[I", true)
  | 2 => ("TalePlay$Bulks", "traced", "I", false)
  | _ => ("TalePlay$Bulks", "tracing", "Z", false)
def tyX2 : Nat → FieldType := fun k => match k with
  | 0 => .object "TalePlay$World"
  | 1 => .array .int
  | 2 => .int
  | _ => .boolean
abbrev wsX20 : List Cond := u_ws RX2 TX2 4
theorem nmX2 : ∀ a, a < 4 → ∀ b, b < 4 → a ≠ b → (TX2 a).2.1 ≠ (TX2 b).2.1 := by decide +kernel
theorem tyX2_ok : ∀ k, k < 4 → parseFieldDescriptor (TX2 k).2.2.1 = some (tyX2 k) := by decide +kernel
abbrev cX2_init : ByteArray := prog_4_method_1_code
def yX2_init : MethodName := ⟨RX2, "<init>", "(LTalePlay$World;)V"⟩
abbrev cX2_clearTrace : ByteArray := prog_4_method_2_code
def yX2_clearTrace : MethodName := ⟨RX2, "clearTrace", "()V"⟩
abbrev cX2_weigh : ByteArray := prog_4_method_3_code
def yX2_weigh : MethodName := ⟨RX2, "weigh", "(LTalePlay$Scene;I)I"⟩
abbrev cX2_weighTraced : ByteArray := prog_4_method_4_code
def yX2_weighTraced : MethodName := ⟨RX2, "weighTraced", "(LTalePlay$Scene;I)I"⟩
abbrev cX2_weighAllOf : ByteArray := prog_4_method_5_code
def yX2_weighAllOf : MethodName := ⟨RX2, "weighAllOf", "(LTalePlay$Scene;I)I"⟩
abbrev cX2_weighBy : ByteArray := prog_4_method_6_code
def yX2_weighBy : MethodName := ⟨RX2, "weighBy", "(LTalePlay$Scene;II)I"⟩
abbrev cX2_weighThose : ByteArray := prog_4_method_7_code
def yX2_weighThose : MethodName := ⟨RX2, "weighThose", "(LTalePlay$Scene;III)I"⟩
abbrev cX2_noteBodies : ByteArray := prog_4_method_8_code
def yX2_noteBodies : MethodName := ⟨RX2, "noteBodies", "(I)V"⟩
abbrev cX2_note : ByteArray := prog_4_method_9_code
def yX2_note : MethodName := ⟨RX2, "note", "(I)V"⟩
def RX3 : String := "TalePlay$Casts"
def TX3 : u_T := fun k => match k with
  | 0 => ("TalePlay$Casts", "sorts", "[I", true)
  | 1 => ("TalePlay$Casts", "lengths", "[I", true)
  | 2 => ("TalePlay$Casts", "roles", "[I", true)
  | _ => ("TalePlay$Casts", "made", "I", false)
def tyX3 : Nat → FieldType := fun k => match k with
  | 0 => .array .int
  | 1 => .array .int
  | 2 => .array .int
  | _ => .int
abbrev wsX30 : List Cond := u_ws RX3 TX3 4
theorem nmX3 : ∀ a, a < 4 → ∀ b, b < 4 → a ≠ b → (TX3 a).2.1 ≠ (TX3 b).2.1 := by decide +kernel
theorem tyX3_ok : ∀ k, k < 4 → parseFieldDescriptor (TX3 k).2.2.1 = some (tyX3 k) := by decide +kernel
abbrev cX3_init : ByteArray := prog_5_method_1_code
def yX3_init : MethodName := ⟨RX3, "<init>", "()V"⟩
abbrev cX3_open : ByteArray := prog_5_method_2_code
def yX3_open : MethodName := ⟨RX3, "open", "(II)I"⟩
def RX4 : String := "TalePlay$Lines"
def TX4 : u_T := fun k => match k with
  | 0 => ("TalePlay$Lines", "sorts", "[I", true)
  | 1 => ("TalePlay$Lines", "lengths", "[I", true)
  | _ => ("TalePlay$Lines", "items", "[J", true)
def tyX4 : Nat → FieldType := fun k => match k with
  | 0 => .array .int
  | 1 => .array .int
  | _ => .array .long
abbrev wsX40 : List Cond := u_ws RX4 TX4 3
theorem nmX4 : ∀ a, a < 3 → ∀ b, b < 3 → a ≠ b → (TX4 a).2.1 ≠ (TX4 b).2.1 := by decide +kernel
theorem tyX4_ok : ∀ k, k < 3 → parseFieldDescriptor (TX4 k).2.2.1 = some (tyX4 k) := by decide +kernel
abbrev cX4_init : ByteArray := prog_6_method_1_code
def yX4_init : MethodName := ⟨RX4, "<init>", "()V"⟩
abbrev cX4_lay : ByteArray := prog_6_method_2_code
def yX4_lay : MethodName := ⟨RX4, "lay", "(III)V"⟩
abbrev cX4_isOther : ByteArray := prog_6_method_3_code
def yX4_isOther : MethodName := ⟨RX4, "isOther", "(II)Z"⟩
abbrev cX4_hasRun : ByteArray := prog_6_method_4_code
def yX4_hasRun : MethodName := ⟨RX4, "hasRun", "(III)Z"⟩
abbrev cX4_cutTo : ByteArray := prog_6_method_5_code
def yX4_cutTo : MethodName := ⟨RX4, "cutTo", "(IJ)J"⟩
abbrev cX4_floatBits : ByteArray := prog_6_method_6_code
def yX4_floatBits : MethodName := ⟨RX4, "floatBits", "(I)I"⟩
def RX5 : String := "TalePlay$Roads"
def TX5 : u_T := fun k => match k with
  | 0 => ("TalePlay$Roads", "world", "LTalePlay$World;", true)
  | 1 => ("TalePlay$Roads", "book", "LTalePlay$Book;", true)
  | 2 => ("TalePlay$Roads", "leads", "[I", true)
  | 3 => ("TalePlay$Roads", "doors", "[I", true)
  | 4 => ("TalePlay$Roads", "bys", "[I", true)
  | 5 => ("TalePlay$Roads", "implied", "[I", true)
  | 6 => ("TalePlay$Roads", "firstSides", "[I", true)
  | 7 => ("TalePlay$Roads", "secondSides", "[I", true)
  | 8 => ("TalePlay$Roads", "steps", "[I", true)
  | 9 => ("TalePlay$Roads", "firsts", "[I", true)
  | _ => ("TalePlay$Roads", "queue", "[I", true)
def tyX5 : Nat → FieldType := fun k => match k with
  | 0 => .object "TalePlay$World"
  | 1 => .object "TalePlay$Book"
  | 2 => .array .int
  | 3 => .array .int
  | 4 => .array .int
  | 5 => .array .int
  | 6 => .array .int
  | 7 => .array .int
  | 8 => .array .int
  | 9 => .array .int
  | _ => .array .int
abbrev wsX50 : List Cond := u_ws RX5 TX5 11
theorem nmX5 : ∀ a, a < 11 → ∀ b, b < 11 → a ≠ b → (TX5 a).2.1 ≠ (TX5 b).2.1 := by decide +kernel
theorem tyX5_ok : ∀ k, k < 11 → parseFieldDescriptor (TX5 k).2.2.1 = some (tyX5 k) := by decide +kernel
abbrev cX5_init : ByteArray := prog_7_method_1_code
def yX5_init : MethodName := ⟨RX5, "<init>", "(LTalePlay$World;LTalePlay$Book;)V"⟩
abbrev cX5_wipe : ByteArray := prog_7_method_2_code
def yX5_wipe : MethodName := ⟨RX5, "wipe", "()V"⟩
abbrev cX5_redrawFor : ByteArray := prog_7_method_3_code
def yX5_redrawFor : MethodName := ⟨RX5, "redrawFor", "(I)V"⟩
abbrev cX5_isDrawn : ByteArray := prog_7_method_4_code
def yX5_isDrawn : MethodName := ⟨RX5, "isDrawn", "(I)Z"⟩
abbrev cX5_drawSaid : ByteArray := prog_7_method_5_code
def yX5_drawSaid : MethodName := ⟨RX5, "drawSaid", "()V"⟩
abbrev cX5_drawTarget : ByteArray := prog_7_method_6_code
def yX5_drawTarget : MethodName := ⟨RX5, "drawTarget", "(III)V"⟩
abbrev cX5_drawImplied : ByteArray := prog_7_method_7_code
def yX5_drawImplied : MethodName := ⟨RX5, "drawImplied", "()V"⟩
abbrev cX5_drawThroughDoors : ByteArray := prog_7_method_8_code
def yX5_drawThroughDoors : MethodName := ⟨RX5, "drawThroughDoors", "()V"⟩
abbrev cX5_tellOf : ByteArray := prog_7_method_9_code
def yX5_tellOf : MethodName := ⟨RX5, "tellOf", "(II)I"⟩
abbrev cX5_isSide : ByteArray := prog_7_method_10_code
def yX5_isSide : MethodName := ⟨RX5, "isSide", "(II)Z"⟩
abbrev cX5_walkFrom : ByteArray := prog_7_method_11_code
def yX5_walkFrom : MethodName := ⟨RX5, "walkFrom", "(IZ)V"⟩
abbrev cX5_isPassable : ByteArray := prog_7_method_12_code
def yX5_isPassable : MethodName := ⟨RX5, "isPassable", "(IZ)Z"⟩
def RX6 : String := "TalePlay$Scene"
def TX6 : u_T := fun k => match k with
  | 0 => ("TalePlay$Scene", "world", "LTalePlay$World;", true)
  | _ => ("TalePlay$Scene", "cells", "[I", true)
def tyX6 : Nat → FieldType := fun k => match k with
  | 0 => .object "TalePlay$World"
  | _ => .array .int
abbrev wsX60 : List Cond := u_ws RX6 TX6 2
theorem nmX6 : ∀ a, a < 2 → ∀ b, b < 2 → a ≠ b → (TX6 a).2.1 ≠ (TX6 b).2.1 := by decide +kernel
theorem tyX6_ok : ∀ k, k < 2 → parseFieldDescriptor (TX6 k).2.2.1 = some (tyX6 k) := by decide +kernel
abbrev cX6_init : ByteArray := prog_8_method_1_code
def yX6_init : MethodName := ⟨RX6, "<init>", "(LTalePlay$World;)V"⟩
abbrev cX6_placed : ByteArray := prog_8_method_2_code
def yX6_placed : MethodName := ⟨RX6, "placed", "(III)I"⟩
abbrev cX6_flagged : ByteArray := prog_8_method_3_code
def yX6_flagged : MethodName := ⟨RX6, "flagged", "(IIZ)I"⟩
abbrev cX6_formOf : ByteArray := prog_8_method_4_code
def yX6_formOf : MethodName := ⟨RX6, "formOf", "(I)I"⟩
abbrev cX6_holderOf : ByteArray := prog_8_method_5_code
def yX6_holderOf : MethodName := ⟨RX6, "holderOf", "(I)I"⟩
abbrev cX6_lies : ByteArray := prog_8_method_6_code
def yX6_lies : MethodName := ⟨RX6, "lies", "(III)Z"⟩
abbrev cX6_has : ByteArray := prog_8_method_7_code
def yX6_has : MethodName := ⟨RX6, "has", "(II)Z"⟩
abbrev cX6_isUp : ByteArray := prog_8_method_8_code
def yX6_isUp : MethodName := ⟨RX6, "isUp", "(II)Z"⟩
abbrev cX6_roomOf : ByteArray := prog_8_method_9_code
def yX6_roomOf : MethodName := ⟨RX6, "roomOf", "(I)I"⟩
abbrev cX6_countOf : ByteArray := prog_8_method_10_code
def yX6_countOf : MethodName := ⟨RX6, "countOf", "(II)I"⟩
def RX7 : String := "TalePlay$Seeker"
def TX7 : u_T := fun k => match k with
  | 0 => ("TalePlay$Seeker", "world", "LTalePlay$World;", true)
  | 1 => ("TalePlay$Seeker", "scene", "LTalePlay$Scene;", true)
  | 2 => ("TalePlay$Seeker", "sight", "LTalePlay$Sight;", true)
  | 3 => ("TalePlay$Seeker", "acts", "LTalePlay$Acts;", true)
  | 4 => ("TalePlay$Seeker", "kept", "[I", true)
  | 5 => ("TalePlay$Seeker", "marks", "[I", true)
  | 6 => ("TalePlay$Seeker", "slots", "[I", true)
  | 7 => ("TalePlay$Seeker", "parents", "[I", true)
  | 8 => ("TalePlay$Seeker", "deeds", "[I", true)
  | 9 => ("TalePlay$Seeker", "play", "[I", true)
  | 10 => ("TalePlay$Seeker", "playLength", "I", false)
  | 11 => ("TalePlay$Seeker", "states", "I", false)
  | 12 => ("TalePlay$Seeker", "found", "I", false)
  | 13 => ("TalePlay$Seeker", "goalThing", "I", false)
  | _ => ("TalePlay$Seeker", "goalHolder", "I", false)
def tyX7 : Nat → FieldType := fun k => match k with
  | 0 => .object "TalePlay$World"
  | 1 => .object "TalePlay$Scene"
  | 2 => .object "TalePlay$Sight"
  | 3 => .object "TalePlay$Acts"
  | 4 => .array .int
  | 5 => .array .int
  | 6 => .array .int
  | 7 => .array .int
  | 8 => .array .int
  | 9 => .array .int
  | 10 => .int
  | 11 => .int
  | 12 => .int
  | 13 => .int
  | _ => .int
abbrev wsX70 : List Cond := u_ws RX7 TX7 15
theorem nmX7 : ∀ a, a < 15 → ∀ b, b < 15 → a ≠ b → (TX7 a).2.1 ≠ (TX7 b).2.1 := by decide +kernel
theorem tyX7_ok : ∀ k, k < 15 → parseFieldDescriptor (TX7 k).2.2.1 = some (tyX7 k) := by decide +kernel
abbrev cX7_init : ByteArray := prog_9_method_1_code
def yX7_init : MethodName := ⟨RX7, "<init>", "(LTalePlay$World;LTalePlay$Book;LTalePlay$Roads;LTalePlay$Bulks;)V"⟩
abbrev cX7_startFrom : ByteArray := prog_9_method_2_code
def yX7_startFrom : MethodName := ⟨RX7, "startFrom", "(LTalePlay$Scene;I)V"⟩
abbrev cX7_search : ByteArray := prog_9_method_3_code
def yX7_search : MethodName := ⟨RX7, "search", "(III)I"⟩
abbrev cX7_isEnded : ByteArray := prog_9_method_4_code
def yX7_isEnded : MethodName := ⟨RX7, "isEnded", "()Z"⟩
abbrev cX7_tryFrom : ByteArray := prog_9_method_5_code
def yX7_tryFrom : MethodName := ⟨RX7, "tryFrom", "(I)V"⟩
abbrev cX7_tryWith : ByteArray := prog_9_method_6_code
def yX7_tryWith : MethodName := ⟨RX7, "tryWith", "(III)V"⟩
abbrev cX7_step : ByteArray := prog_9_method_7_code
def yX7_step : MethodName := ⟨RX7, "step", "(IIII)V"⟩
abbrev cX7_keep : ByteArray := prog_9_method_8_code
def yX7_keep : MethodName := ⟨RX7, "keep", "(IIII)V"⟩
abbrev cX7_weightOf : ByteArray := prog_9_method_9_code
def yX7_weightOf : MethodName := ⟨RX7, "weightOf", "(I)I"⟩
abbrev cX7_markOfScene : ByteArray := prog_9_method_10_code
def yX7_markOfScene : MethodName := ⟨RX7, "markOfScene", "()I"⟩
abbrev cX7_slotFor : ByteArray := prog_9_method_11_code
def yX7_slotFor : MethodName := ⟨RX7, "slotFor", "(I)I"⟩
abbrev cX7_isScene : ByteArray := prog_9_method_12_code
def yX7_isScene : MethodName := ⟨RX7, "isScene", "(I)Z"⟩
abbrev cX7_tellPlay : ByteArray := prog_9_method_13_code
def yX7_tellPlay : MethodName := ⟨RX7, "tellPlay", "()V"⟩
def RX8 : String := "TalePlay$Sight"
def TX8 : u_T := fun k => match k with
  | 0 => ("TalePlay$Sight", "world", "LTalePlay$World;", true)
  | 1 => ("TalePlay$Sight", "roads", "LTalePlay$Roads;", true)
  | 2 => ("TalePlay$Sight", "scene", "LTalePlay$Scene;", true)
  | 3 => ("TalePlay$Sight", "seen", "[Z", true)
  | 4 => ("TalePlay$Sight", "reached", "[Z", true)
  | _ => ("TalePlay$Sight", "bright", "Z", false)
def tyX8 : Nat → FieldType := fun k => match k with
  | 0 => .object "TalePlay$World"
  | 1 => .object "TalePlay$Roads"
  | 2 => .object "TalePlay$Scene"
  | 3 => .array .boolean
  | 4 => .array .boolean
  | _ => .boolean
abbrev wsX80 : List Cond := u_ws RX8 TX8 6
theorem nmX8 : ∀ a, a < 6 → ∀ b, b < 6 → a ≠ b → (TX8 a).2.1 ≠ (TX8 b).2.1 := by decide +kernel
theorem tyX8_ok : ∀ k, k < 6 → parseFieldDescriptor (TX8 k).2.2.1 = some (tyX8 k) := by decide +kernel
abbrev cX8_init : ByteArray := prog_10_method_1_code
def yX8_init : MethodName := ⟨RX8, "<init>", "(LTalePlay$World;LTalePlay$Roads;LTalePlay$Scene;)V"⟩
abbrev cX8_look : ByteArray := prog_10_method_2_code
def yX8_look : MethodName := ⟨RX8, "look", "(I)V"⟩
abbrev cX8_isCover : ByteArray := prog_10_method_3_code
def yX8_isCover : MethodName := ⟨RX8, "isCover", "(IZ)Z"⟩
abbrev cX8_shellOf : ByteArray := prog_10_method_4_code
def yX8_shellOf : MethodName := ⟨RX8, "shellOf", "(IZ)I"⟩
abbrev cX8_isInView : ByteArray := prog_10_method_5_code
def yX8_isInView : MethodName := ⟨RX8, "isInView", "(IIZ)Z"⟩
def RX9 : String := "TalePlay$Tale"
def TX9 : u_T := fun k => match k with
  | 0 => ("TalePlay$Tale", "world", "LTalePlay$World;", true)
  | 1 => ("TalePlay$Tale", "book", "LTalePlay$Book;", true)
  | 2 => ("TalePlay$Tale", "scene", "LTalePlay$Scene;", true)
  | 3 => ("TalePlay$Tale", "sight", "LTalePlay$Sight;", true)
  | 4 => ("TalePlay$Tale", "acts", "LTalePlay$Acts;", true)
  | 5 => ("TalePlay$Tale", "deeds", "[I", true)
  | 6 => ("TalePlay$Tale", "subjects", "[I", true)
  | 7 => ("TalePlay$Tale", "formerCells", "[I", true)
  | 8 => ("TalePlay$Tale", "there", "Z", false)
  | 9 => ("TalePlay$Tale", "player", "I", false)
  | _ => ("TalePlay$Tale", "turns", "I", false)
def tyX9 : Nat → FieldType := fun k => match k with
  | 0 => .object "TalePlay$World"
  | 1 => .object "TalePlay$Book"
  | 2 => .object "TalePlay$Scene"
  | 3 => .object "TalePlay$Sight"
  | 4 => .object "TalePlay$Acts"
  | 5 => .array .int
  | 6 => .array .int
  | 7 => .array .int
  | 8 => .boolean
  | 9 => .int
  | _ => .int
abbrev wsX90 : List Cond := u_ws RX9 TX9 11
theorem nmX9 : ∀ a, a < 11 → ∀ b, b < 11 → a ≠ b → (TX9 a).2.1 ≠ (TX9 b).2.1 := by decide +kernel
theorem tyX9_ok : ∀ k, k < 11 → parseFieldDescriptor (TX9 k).2.2.1 = some (tyX9 k) := by decide +kernel
abbrev cX9_init : ByteArray := prog_11_method_1_code
def yX9_init : MethodName := ⟨RX9, "<init>", "(LTalePlay$World;LTalePlay$Book;LTalePlay$Roads;LTalePlay$Bulks;)V"⟩
abbrev cX9_start : ByteArray := prog_11_method_2_code
def yX9_start : MethodName := ⟨RX9, "start", "(I)V"⟩
abbrev cX9_cellAsSaid : ByteArray := prog_11_method_3_code
def yX9_cellAsSaid : MethodName := ⟨RX9, "cellAsSaid", "(I)I"⟩
abbrev cX9_end : ByteArray := prog_11_method_4_code
def yX9_end : MethodName := ⟨RX9, "end", "()V"⟩
abbrev cX9_isAct : ByteArray := prog_11_method_5_code
def yX9_isAct : MethodName := ⟨RX9, "isAct", "(III)Z"⟩
abbrev cX9_play : ByteArray := prog_11_method_6_code
def yX9_play : MethodName := ⟨RX9, "play", "(III)I"⟩
abbrev cX9_doIt : ByteArray := prog_11_method_7_code
def yX9_doIt : MethodName := ⟨RX9, "doIt", "(III)V"⟩
abbrev cX9_undo : ByteArray := prog_11_method_8_code
def yX9_undo : MethodName := ⟨RX9, "undo", "()V"⟩
abbrev cX9_tellOf : ByteArray := prog_11_method_9_code
def yX9_tellOf : MethodName := ⟨RX9, "tellOf", "(II)I"⟩
def RX10 : String := "TalePlay$World"
def TX10 : u_T := fun k => match k with
  | 0 => ("TalePlay$World", "parents", "[I", true)
  | 1 => ("TalePlay$World", "sorts", "[I", true)
  | 2 => ("TalePlay$World", "standards", "[I", true)
  | 3 => ("TalePlay$World", "kindOf", "[I", true)
  | 4 => ("TalePlay$World", "sizeOf", "[I", true)
  | 5 => ("TalePlay$World", "kinds", "I", false)
  | _ => ("TalePlay$World", "objects", "I", false)
def tyX10 : Nat → FieldType := fun k => match k with
  | 0 => .array .int
  | 1 => .array .int
  | 2 => .array .int
  | 3 => .array .int
  | 4 => .array .int
  | 5 => .int
  | _ => .int
abbrev wsX100 : List Cond := u_ws RX10 TX10 7
theorem nmX10 : ∀ a, a < 7 → ∀ b, b < 7 → a ≠ b → (TX10 a).2.1 ≠ (TX10 b).2.1 := by decide +kernel
theorem tyX10_ok : ∀ k, k < 7 → parseFieldDescriptor (TX10 k).2.2.1 = some (tyX10 k) := by decide +kernel
abbrev cX10_init : ByteArray := prog_12_method_1_code
def yX10_init : MethodName := ⟨RX10, "<init>", "()V"⟩
abbrev cX10_hasKind : ByteArray := prog_12_method_2_code
def yX10_hasKind : MethodName := ⟨RX10, "hasKind", "(I)Z"⟩
abbrev cX10_hasObject : ByteArray := prog_12_method_3_code
def yX10_hasObject : MethodName := ⟨RX10, "hasObject", "(I)Z"⟩
abbrev cX10_addKind : ByteArray := prog_12_method_4_code
def yX10_addKind : MethodName := ⟨RX10, "addKind", "(I)I"⟩
abbrev cX10_addObject : ByteArray := prog_12_method_5_code
def yX10_addObject : MethodName := ⟨RX10, "addObject", "(II)I"⟩
abbrev cX10_changeStandard : ByteArray := prog_12_method_6_code
def yX10_changeStandard : MethodName := ⟨RX10, "changeStandard", "(III)I"⟩
abbrev cX10_kindIs : ByteArray := prog_12_method_7_code
def yX10_kindIs : MethodName := ⟨RX10, "kindIs", "(II)Z"⟩
abbrev cX10_sortOf : ByteArray := prog_12_method_8_code
def yX10_sortOf : MethodName := ⟨RX10, "sortOf", "(I)I"⟩
abbrev cX10_isOfSort : ByteArray := prog_12_method_9_code
def yX10_isOfSort : MethodName := ⟨RX10, "isOfSort", "(II)Z"⟩
abbrev cX10_isMovable : ByteArray := prog_12_method_10_code
def yX10_isMovable : MethodName := ⟨RX10, "isMovable", "(I)Z"⟩
abbrev cX10_isGoods : ByteArray := prog_12_method_11_code
def yX10_isGoods : MethodName := ⟨RX10, "isGoods", "(I)Z"⟩
abbrev cX10_isShutter : ByteArray := prog_12_method_12_code
def yX10_isShutter : MethodName := ⟨RX10, "isShutter", "(I)Z"⟩
abbrev cX10_canHave : ByteArray := prog_12_method_13_code
def yX10_canHave : MethodName := ⟨RX10, "canHave", "(II)Z"⟩
abbrev cX10_standardFor : ByteArray := prog_12_method_14_code
def yX10_standardFor : MethodName := ⟨RX10, "standardFor", "(II)I"⟩
def RX11 : String := "TalePlay"
def TX11 : u_T := fun k => match k with
  | 0 => ("TalePlay", "world", "LTalePlay$World;", true)
  | 1 => ("TalePlay", "book", "LTalePlay$Book;", true)
  | 2 => ("TalePlay", "roads", "LTalePlay$Roads;", true)
  | 3 => ("TalePlay", "bulks", "LTalePlay$Bulks;", true)
  | 4 => ("TalePlay", "tale", "LTalePlay$Tale;", true)
  | 5 => ("TalePlay", "lines", "LTalePlay$Lines;", true)
  | 6 => ("TalePlay", "casts", "LTalePlay$Casts;", true)
  | 7 => ("TalePlay", "seeker", "LTalePlay$Seeker;", false)
  | 8 => ("TalePlay", "findingCounts", "[I", true)
  | 9 => ("TalePlay", "latestFinding", "I", false)
  | _ => ("TalePlay", "told", "J", false)
def tyX11 : Nat → FieldType := fun k => match k with
  | 0 => .object "TalePlay$World"
  | 1 => .object "TalePlay$Book"
  | 2 => .object "TalePlay$Roads"
  | 3 => .object "TalePlay$Bulks"
  | 4 => .object "TalePlay$Tale"
  | 5 => .object "TalePlay$Lines"
  | 6 => .object "TalePlay$Casts"
  | 7 => .object "TalePlay$Seeker"
  | 8 => .array .int
  | 9 => .int
  | _ => .long
abbrev wsX110 : List Cond := u_ws RX11 TX11 11
theorem nmX11 : ∀ a, a < 11 → ∀ b, b < 11 → a ≠ b → (TX11 a).2.1 ≠ (TX11 b).2.1 := by decide +kernel
theorem tyX11_ok : ∀ k, k < 11 → parseFieldDescriptor (TX11 k).2.2.1 = some (tyX11 k) := by decide +kernel
abbrev cX11_init : ByteArray := prog_1_method_1_code
def yX11_init : MethodName := ⟨RX11, "<init>", "()V"⟩
abbrev cX11_kind : ByteArray := prog_1_method_2_code
def yX11_kind : MethodName := ⟨RX11, "kind", "(I)I"⟩
abbrev cX11_standard : ByteArray := prog_1_method_3_code
def yX11_standard : MethodName := ⟨RX11, "standard", "(III)I"⟩
abbrev cX11_make : ByteArray := prog_1_method_4_code
def yX11_make : MethodName := ⟨RX11, "make", "(II)I"⟩
abbrev cX11_is : ByteArray := prog_1_method_5_code
def yX11_is : MethodName := ⟨RX11, "is", "(II)I"⟩
abbrev cX11_bulk : ByteArray := prog_1_method_6_code
def yX11_bulk : MethodName := ⟨RX11, "bulk", "(I)I"⟩
abbrev cX11_asked : ByteArray := prog_1_method_7_code
def yX11_asked : MethodName := ⟨RX11, "asked", "()J"⟩
abbrev cX11_trace : ByteArray := prog_1_method_8_code
def yX11_trace : MethodName := ⟨RX11, "trace", "(I)I"⟩
abbrev cX11_share : ByteArray := prog_1_method_9_code
def yX11_share : MethodName := ⟨RX11, "share", "(II)I"⟩
abbrev cX11_say : ByteArray := prog_1_method_10_code
def yX11_say : MethodName := ⟨RX11, "say", "(IIII)I"⟩
abbrev cX11_unsay : ByteArray := prog_1_method_11_code
def yX11_unsay : MethodName := ⟨RX11, "unsay", "(I)I"⟩
abbrev cX11_clash : ByteArray := prog_1_method_12_code
def yX11_clash : MethodName := ⟨RX11, "clash", "(I)I"⟩
abbrev cX11_sentence : ByteArray := prog_1_method_13_code
def yX11_sentence : MethodName := ⟨RX11, "sentence", "(II)I"⟩
abbrev cX11_place : ByteArray := prog_1_method_14_code
def yX11_place : MethodName := ⟨RX11, "place", "(II)I"⟩
abbrev cX11_exit : ByteArray := prog_1_method_15_code
def yX11_exit : MethodName := ⟨RX11, "exit", "(III)I"⟩
abbrev cX11_flag : ByteArray := prog_1_method_16_code
def yX11_flag : MethodName := ⟨RX11, "flag", "(II)I"⟩
abbrev cX11_key : ByteArray := prog_1_method_17_code
def yX11_key : MethodName := ⟨RX11, "key", "(I)I"⟩
abbrev cX11_way : ByteArray := prog_1_method_18_code
def yX11_way : MethodName := ⟨RX11, "way", "(IIZ)I"⟩
abbrev cX11_toward : ByteArray := prog_1_method_19_code
def yX11_toward : MethodName := ⟨RX11, "toward", "(IIZ)I"⟩
abbrev cX11_begin : ByteArray := prog_1_method_20_code
def yX11_begin : MethodName := ⟨RX11, "begin", "(I)I"⟩
abbrev cX11_act : ByteArray := prog_1_method_21_code
def yX11_act : MethodName := ⟨RX11, "act", "(III)I"⟩
abbrev cX11_back : ByteArray := prog_1_method_22_code
def yX11_back : MethodName := ⟨RX11, "back", "()I"⟩
abbrev cX11_now : ByteArray := prog_1_method_23_code
def yX11_now : MethodName := ⟨RX11, "now", "(II)I"⟩
abbrev cX11_turn : ByteArray := prog_1_method_24_code
def yX11_turn : MethodName := ⟨RX11, "turn", "(II)I"⟩
abbrev cX11_light : ByteArray := prog_1_method_25_code
def yX11_light : MethodName := ⟨RX11, "light", "()I"⟩
abbrev cX11_seek : ByteArray := prog_1_method_26_code
def yX11_seek : MethodName := ⟨RX11, "seek", "(III)I"⟩
abbrev cX11_sought : ByteArray := prog_1_method_27_code
def yX11_sought : MethodName := ⟨RX11, "sought", "(II)I"⟩
abbrev cX11_line : ByteArray := prog_1_method_28_code
def yX11_line : MethodName := ⟨RX11, "line", "(III)I"⟩
abbrev cX11_put : ByteArray := prog_1_method_29_code
def yX11_put : MethodName := ⟨RX11, "put", "(IIIJ)I"⟩
abbrev cX11_item : ByteArray := prog_1_method_30_code
def yX11_item : MethodName := ⟨RX11, "item", "(III)I"⟩
abbrev cX11_copy : ByteArray := prog_1_method_31_code
def yX11_copy : MethodName := ⟨RX11, "copy", "(IIIIII)I"⟩
abbrev cX11_cast : ByteArray := prog_1_method_32_code
def yX11_cast : MethodName := ⟨RX11, "cast", "(II)I"⟩
abbrev cX11_role : ByteArray := prog_1_method_33_code
def yX11_role : MethodName := ⟨RX11, "role", "(III)I"⟩
abbrev cX11_who : ByteArray := prog_1_method_34_code
def yX11_who : MethodName := ⟨RX11, "who", "(II)I"⟩
abbrev cX11_count : ByteArray := prog_1_method_35_code
def yX11_count : MethodName := ⟨RX11, "count", "(I)I"⟩
abbrev cX11_finding : ByteArray := prog_1_method_36_code
def yX11_finding : MethodName := ⟨RX11, "finding", "()I"⟩
abbrev cX11_findings : ByteArray := prog_1_method_37_code
def yX11_findings : MethodName := ⟨RX11, "findings", "(I)I"⟩
abbrev cX11_digest : ByteArray := prog_1_method_38_code
def yX11_digest : MethodName := ⟨RX11, "digest", "()J"⟩
abbrev cX11_digestKinds : ByteArray := prog_1_method_39_code
def yX11_digestKinds : MethodName := ⟨RX11, "digestKinds", "(J)J"⟩
abbrev cX11_digestObjects : ByteArray := prog_1_method_40_code
def yX11_digestObjects : MethodName := ⟨RX11, "digestObjects", "(J)J"⟩
abbrev cX11_digestSentences : ByteArray := prog_1_method_41_code
def yX11_digestSentences : MethodName := ⟨RX11, "digestSentences", "(J)J"⟩
abbrev cX11_answerFinding : ByteArray := prog_1_method_42_code
def yX11_answerFinding : MethodName := ⟨RX11, "answerFinding", "(I)I"⟩
abbrev cX11_places : ByteArray := prog_1_method_43_code
def yX11_places : MethodName := ⟨RX11, "places", "()LTalePlay$Scene;"⟩
abbrev cX11_refuseRooms : ByteArray := prog_1_method_44_code
def yX11_refuseRooms : MethodName := ⟨RX11, "refuseRooms", "(II)I"⟩
abbrev cX11_refuseItem : ByteArray := prog_1_method_45_code
def yX11_refuseItem : MethodName := ⟨RX11, "refuseItem", "(III)I"⟩
abbrev cX11_isBelow : ByteArray := prog_1_method_46_code
def yX11_isBelow : MethodName := ⟨RX11, "isBelow", "(II)Z"⟩
abbrev cX11_oneIf : ByteArray := prog_1_method_47_code
def yX11_oneIf : MethodName := ⟨RX11, "oneIf", "(Z)I"⟩
abbrev cX11_deedOf : ByteArray := prog_1_method_48_code
def yX11_deedOf : MethodName := ⟨RX11, "deedOf", "(III)I"⟩
abbrev cX11_deedPart : ByteArray := prog_1_method_49_code
def yX11_deedPart : MethodName := ⟨RX11, "deedPart", "(II)I"⟩
def RX12 : String := "TalePlayModel"
def TX12 : u_T := fun k => match k with
  | 0 => ("TalePlayModel", "latest", "I", false)
  | 1 => ("TalePlayModel", "came", "[I", true)
  | 2 => ("TalePlayModel", "kinds", "I", false)
  | 3 => ("TalePlayModel", "parentOf", "[I", true)
  | 4 => ("TalePlayModel", "defaults", "[I", true)
  | 5 => ("TalePlayModel", "objects", "I", false)
  | 6 => ("TalePlayModel", "kindOf", "[I", true)
  | 7 => ("TalePlayModel", "sizeOf", "[I", true)
  | 8 => ("TalePlayModel", "sentences", "I", false)
  | 9 => ("TalePlayModel", "form", "[I", true)
  | 10 => ("TalePlayModel", "left", "[I", true)
  | 11 => ("TalePlayModel", "middle", "[I", true)
  | 12 => ("TalePlayModel", "right", "[I", true)
  | 13 => ("TalePlayModel", "isSaid", "[Z", true)
  | 14 => ("TalePlayModel", "row", "[I", true)
  | 15 => ("TalePlayModel", "rowMany", "I", false)
  | 16 => ("TalePlayModel", "leads", "I", false)
  | 17 => ("TalePlayModel", "byDoor", "I", false)
  | 18 => ("TalePlayModel", "bySentence", "I", false)
  | 19 => ("TalePlayModel", "isImplied", "Z", false)
  | 20 => ("TalePlayModel", "far", "[I", true)
  | 21 => ("TalePlayModel", "line", "[I", true)
  | 22 => ("TalePlayModel", "player", "I", false)
  | 23 => ("TalePlayModel", "nForm", "[I", true)
  | 24 => ("TalePlayModel", "nAt", "[I", true)
  | 25 => ("TalePlayModel", "nOpen", "[Z", true)
  | 26 => ("TalePlayModel", "nLocked", "[Z", true)
  | 27 => ("TalePlayModel", "turns", "I", false)
  | 28 => ("TalePlayModel", "turnRow", "[I", true)
  | 29 => ("TalePlayModel", "wasForm", "[I", true)
  | 30 => ("TalePlayModel", "wasAt", "[I", true)
  | 31 => ("TalePlayModel", "wasOpen", "[Z", true)
  | 32 => ("TalePlayModel", "wasLocked", "[Z", true)
  | 33 => ("TalePlayModel", "traces", "Z", false)
  | 34 => ("TalePlayModel", "trace", "[I", true)
  | 35 => ("TalePlayModel", "traced", "I", false)
  | 36 => ("TalePlayModel", "isNought", "Z", false)
  | 37 => ("TalePlayModel", "asked", "J", false)
  | 38 => ("TalePlayModel", "pile", "[I", true)
  | 39 => ("TalePlayModel", "nextIn", "[I", true)
  | 40 => ("TalePlayModel", "shell", "I", false)
  | 41 => ("TalePlayModel", "handShell", "I", false)
  | 42 => ("TalePlayModel", "isLight", "Z", false)
  | 43 => ("TalePlayModel", "seen", "[Z", true)
  | 44 => ("TalePlayModel", "reached", "[Z", true)
  | 45 => ("TalePlayModel", "lit", "[Z", true)
  | 46 => ("TalePlayModel", "glass", "[Z", true)
  | 47 => ("TalePlayModel", "isBox", "[Z", true)
  | 48 => ("TalePlayModel", "isRoom", "[Z", true)
  | 49 => ("TalePlayModel", "isDoor", "[Z", true)
  | 50 => ("TalePlayModel", "states", "I", false)
  | 51 => ("TalePlayModel", "stateForm", "[B", true)
  | 52 => ("TalePlayModel", "stateAt", "[B", true)
  | 53 => ("TalePlayModel", "stateShut", "[B", true)
  | 54 => ("TalePlayModel", "stateFrom", "[I", true)
  | 55 => ("TalePlayModel", "stateAct", "[I", true)
  | 56 => ("TalePlayModel", "soughtRow", "[I", true)
  | 57 => ("TalePlayModel", "soughtMany", "I", false)
  | 58 => ("TalePlayModel", "goalX", "I", false)
  | 59 => ("TalePlayModel", "goalY", "I", false)
  | 60 => ("TalePlayModel", "lineSort", "[I", true)
  | 61 => ("TalePlayModel", "lineMany", "[I", true)
  | 62 => ("TalePlayModel", "items", "[J", true)
  | 63 => ("TalePlayModel", "hasLine", "[Z", true)
  | 64 => ("TalePlayModel", "casts", "I", false)
  | 65 => ("TalePlayModel", "castSort", "[I", true)
  | 66 => ("TalePlayModel", "castMany", "[I", true)
  | 67 => ("TalePlayModel", "roles", "[I", true)
  | _ => ("TalePlayModel", "held", "[J", true)
def tyX12 : Nat → FieldType := fun k => match k with
  | 0 => .int
  | 1 => .array .int
  | 2 => .int
  | 3 => .array .int
  | 4 => .array .int
  | 5 => .int
  | 6 => .array .int
  | 7 => .array .int
  | 8 => .int
  | 9 => .array .int
  | 10 => .array .int
  | 11 => .array .int
  | 12 => .array .int
  | 13 => .array .boolean
  | 14 => .array .int
  | 15 => .int
  | 16 => .int
  | 17 => .int
  | 18 => .int
  | 19 => .boolean
  | 20 => .array .int
  | 21 => .array .int
  | 22 => .int
  | 23 => .array .int
  | 24 => .array .int
  | 25 => .array .boolean
  | 26 => .array .boolean
  | 27 => .int
  | 28 => .array .int
  | 29 => .array .int
  | 30 => .array .int
  | 31 => .array .boolean
  | 32 => .array .boolean
  | 33 => .boolean
  | 34 => .array .int
  | 35 => .int
  | 36 => .boolean
  | 37 => .long
  | 38 => .array .int
  | 39 => .array .int
  | 40 => .int
  | 41 => .int
  | 42 => .boolean
  | 43 => .array .boolean
  | 44 => .array .boolean
  | 45 => .array .boolean
  | 46 => .array .boolean
  | 47 => .array .boolean
  | 48 => .array .boolean
  | 49 => .array .boolean
  | 50 => .int
  | 51 => .array .byte
  | 52 => .array .byte
  | 53 => .array .byte
  | 54 => .array .int
  | 55 => .array .int
  | 56 => .array .int
  | 57 => .int
  | 58 => .int
  | 59 => .int
  | 60 => .array .int
  | 61 => .array .int
  | 62 => .array .long
  | 63 => .array .boolean
  | 64 => .int
  | 65 => .array .int
  | 66 => .array .int
  | 67 => .array .int
  | _ => .array .long
abbrev wsX120 : List Cond := u_ws RX12 TX12 69
theorem nmX12 : ∀ a, a < 69 → ∀ b, b < 69 → a ≠ b → (TX12 a).2.1 ≠ (TX12 b).2.1 := by decide +kernel
theorem tyX12_ok : ∀ k, k < 69 → parseFieldDescriptor (TX12 k).2.2.1 = some (tyX12 k) := by decide +kernel
abbrev cX12_init : ByteArray := prog_14_method_1_code
def yX12_init : MethodName := ⟨RX12, "<init>", "()V"⟩
abbrev cX12_in : ByteArray := prog_14_method_2_code
def yX12_in : MethodName := ⟨RX12, "in", "(JJJ)Z"⟩
abbrev cX12_meets : ByteArray := prog_14_method_3_code
def yX12_meets : MethodName := ⟨RX12, "meets", "(I)I"⟩
abbrev cX12_finding : ByteArray := prog_14_method_4_code
def yX12_finding : MethodName := ⟨RX12, "finding", "()I"⟩
abbrev cX12_findings : ByteArray := prog_14_method_5_code
def yX12_findings : MethodName := ⟨RX12, "findings", "(I)I"⟩
abbrev cX12_kind : ByteArray := prog_14_method_6_code
def yX12_kind : MethodName := ⟨RX12, "kind", "(I)I"⟩
abbrev cX12_standard : ByteArray := prog_14_method_7_code
def yX12_standard : MethodName := ⟨RX12, "standard", "(III)I"⟩
abbrev cX12_make : ByteArray := prog_14_method_8_code
def yX12_make : MethodName := ⟨RX12, "make", "(II)I"⟩
abbrev cX12_isObject : ByteArray := prog_14_method_9_code
def yX12_isObject : MethodName := ⟨RX12, "isObject", "(I)Z"⟩
abbrev cX12_isOf : ByteArray := prog_14_method_10_code
def yX12_isOf : MethodName := ⟨RX12, "isOf", "(II)Z"⟩
abbrev cX12_is : ByteArray := prog_14_method_11_code
def yX12_is : MethodName := ⟨RX12, "is", "(II)I"⟩
abbrev cX12_isMovable : ByteArray := prog_14_method_12_code
def yX12_isMovable : MethodName := ⟨RX12, "isMovable", "(I)Z"⟩
abbrev cX12_isGoods : ByteArray := prog_14_method_13_code
def yX12_isGoods : MethodName := ⟨RX12, "isGoods", "(I)Z"⟩
abbrev cX12_isShutter : ByteArray := prog_14_method_14_code
def yX12_isShutter : MethodName := ⟨RX12, "isShutter", "(I)Z"⟩
abbrev cX12_mayHave : ByteArray := prog_14_method_15_code
def yX12_mayHave : MethodName := ⟨RX12, "mayHave", "(II)Z"⟩
abbrev cX12_areNumbers : ByteArray := prog_14_method_16_code
def yX12_areNumbers : MethodName := ⟨RX12, "areNumbers", "(IIII)Z"⟩
abbrev cX12_fitsLeft : ByteArray := prog_14_method_17_code
def yX12_fitsLeft : MethodName := ⟨RX12, "fitsLeft", "(III)Z"⟩
abbrev cX12_fitsRight : ByteArray := prog_14_method_18_code
def yX12_fitsRight : MethodName := ⟨RX12, "fitsRight", "(II)Z"⟩
abbrev cX12_saidSo : ByteArray := prog_14_method_19_code
def yX12_saidSo : MethodName := ⟨RX12, "saidSo", "(IIII)I"⟩
abbrev cX12_clashes : ByteArray := prog_14_method_20_code
def yX12_clashes : MethodName := ⟨RX12, "clashes", "(I)V"⟩
abbrev cX12_placing : ByteArray := prog_14_method_21_code
def yX12_placing : MethodName := ⟨RX12, "placing", "(I)I"⟩
abbrev cX12_isPlaceBarred : ByteArray := prog_14_method_22_code
def yX12_isPlaceBarred : MethodName := ⟨RX12, "isPlaceBarred", "(III)Z"⟩
abbrev cX12_isExitBarred : ByteArray := prog_14_method_23_code
def yX12_isExitBarred : MethodName := ⟨RX12, "isExitBarred", "(III)Z"⟩
abbrev cX12_isFlagBarred : ByteArray := prog_14_method_24_code
def yX12_isFlagBarred : MethodName := ⟨RX12, "isFlagBarred", "(III)Z"⟩
abbrev cX12_isKeyBarred : ByteArray := prog_14_method_25_code
def yX12_isKeyBarred : MethodName := ⟨RX12, "isKeyBarred", "(I)Z"⟩
abbrev cX12_say : ByteArray := prog_14_method_26_code
def yX12_say : MethodName := ⟨RX12, "say", "(IIII)I"⟩
abbrev cX12_saidMany : ByteArray := prog_14_method_27_code
def yX12_saidMany : MethodName := ⟨RX12, "saidMany", "()I"⟩
abbrev cX12_unsay : ByteArray := prog_14_method_28_code
def yX12_unsay : MethodName := ⟨RX12, "unsay", "(I)I"⟩
abbrev cX12_clash : ByteArray := prog_14_method_29_code
def yX12_clash : MethodName := ⟨RX12, "clash", "(I)I"⟩
abbrev cX12_sentence : ByteArray := prog_14_method_30_code
def yX12_sentence : MethodName := ⟨RX12, "sentence", "(II)I"⟩
abbrev cX12_place : ByteArray := prog_14_method_31_code
def yX12_place : MethodName := ⟨RX12, "place", "(II)I"⟩
abbrev cX12_saidFlag : ByteArray := prog_14_method_32_code
def yX12_saidFlag : MethodName := ⟨RX12, "saidFlag", "(II)I"⟩
abbrev cX12_flag : ByteArray := prog_14_method_33_code
def yX12_flag : MethodName := ⟨RX12, "flag", "(II)I"⟩
abbrev cX12_keyOf : ByteArray := prog_14_method_34_code
def yX12_keyOf : MethodName := ⟨RX12, "keyOf", "(I)I"⟩
abbrev cX12_key : ByteArray := prog_14_method_35_code
def yX12_key : MethodName := ⟨RX12, "key", "(I)I"⟩
abbrev cX12_findExit : ByteArray := prog_14_method_36_code
def yX12_findExit : MethodName := ⟨RX12, "findExit", "(II)Z"⟩
abbrev cX12_otherSide : ByteArray := prog_14_method_37_code
def yX12_otherSide : MethodName := ⟨RX12, "otherSide", "(II)I"⟩
abbrev cX12_isSide : ByteArray := prog_14_method_38_code
def yX12_isSide : MethodName := ⟨RX12, "isSide", "(II)Z"⟩
abbrev cX12_exit : ByteArray := prog_14_method_39_code
def yX12_exit : MethodName := ⟨RX12, "exit", "(III)I"⟩
abbrev cX12_walk : ByteArray := prog_14_method_40_code
def yX12_walk : MethodName := ⟨RX12, "walk", "(IZ)V"⟩
abbrev cX12_wayRefused : ByteArray := prog_14_method_41_code
def yX12_wayRefused : MethodName := ⟨RX12, "wayRefused", "(II)I"⟩
abbrev cX12_way : ByteArray := prog_14_method_42_code
def yX12_way : MethodName := ⟨RX12, "way", "(IIZ)I"⟩
abbrev cX12_toward : ByteArray := prog_14_method_43_code
def yX12_toward : MethodName := ⟨RX12, "toward", "(IIZ)I"⟩
abbrev cX12_endTale : ByteArray := prog_14_method_44_code
def yX12_endTale : MethodName := ⟨RX12, "endTale", "()V"⟩
abbrev cX12_formNow : ByteArray := prog_14_method_45_code
def yX12_formNow : MethodName := ⟨RX12, "formNow", "(I)I"⟩
abbrev cX12_atNow : ByteArray := prog_14_method_46_code
def yX12_atNow : MethodName := ⟨RX12, "atNow", "(I)I"⟩
abbrev cX12_body : ByteArray := prog_14_method_47_code
def yX12_body : MethodName := ⟨RX12, "body", "(I)V"⟩
abbrev cX12_bulkOf : ByteArray := prog_14_method_48_code
def yX12_bulkOf : MethodName := ⟨RX12, "bulkOf", "(I)I"⟩
abbrev cX12_beginBulk : ByteArray := prog_14_method_49_code
def yX12_beginBulk : MethodName := ⟨RX12, "beginBulk", "(II)I"⟩
abbrev cX12_bulk : ByteArray := prog_14_method_50_code
def yX12_bulk : MethodName := ⟨RX12, "bulk", "(I)I"⟩
abbrev cX12_asked : ByteArray := prog_14_method_51_code
def yX12_asked : MethodName := ⟨RX12, "asked", "()J"⟩
abbrev cX12_trace : ByteArray := prog_14_method_52_code
def yX12_trace : MethodName := ⟨RX12, "trace", "(I)I"⟩
abbrev cX12_share : ByteArray := prog_14_method_53_code
def yX12_share : MethodName := ⟨RX12, "share", "(II)I"⟩
abbrev cX12_lookAtKinds : ByteArray := prog_14_method_54_code
def yX12_lookAtKinds : MethodName := ⟨RX12, "lookAtKinds", "()V"⟩
abbrev cX12_shuts : ByteArray := prog_14_method_55_code
def yX12_shuts : MethodName := ⟨RX12, "shuts", "(IZ)Z"⟩
abbrev cX12_shellOf : ByteArray := prog_14_method_56_code
def yX12_shellOf : MethodName := ⟨RX12, "shellOf", "(Z)I"⟩
abbrev cX12_isInView : ByteArray := prog_14_method_57_code
def yX12_isInView : MethodName := ⟨RX12, "isInView", "(IIZ)Z"⟩
abbrev cX12_lookAround : ByteArray := prog_14_method_58_code
def yX12_lookAround : MethodName := ⟨RX12, "lookAround", "()V"⟩
abbrev cX12_roomOf : ByteArray := prog_14_method_59_code
def yX12_roomOf : MethodName := ⟨RX12, "roomOf", "(I)I"⟩
abbrev cX12_begin : ByteArray := prog_14_method_60_code
def yX12_begin : MethodName := ⟨RX12, "begin", "(I)I"⟩
abbrev cX12_isUpFrom : ByteArray := prog_14_method_61_code
def yX12_isUpFrom : MethodName := ⟨RX12, "isUpFrom", "(II)Z"⟩
abbrev cX12_holds : ByteArray := prog_14_method_62_code
def yX12_holds : MethodName := ⟨RX12, "holds", "(I)Z"⟩
abbrev cX12_lying : ByteArray := prog_14_method_63_code
def yX12_lying : MethodName := ⟨RX12, "lying", "(II)I"⟩
abbrev cX12_isInRoom : ByteArray := prog_14_method_64_code
def yX12_isInRoom : MethodName := ⟨RX12, "isInRoom", "()Z"⟩
abbrev cX12_whyNotGo : ByteArray := prog_14_method_65_code
def yX12_whyNotGo : MethodName := ⟨RX12, "whyNotGo", "(I)I"⟩
abbrev cX12_whyNotTake : ByteArray := prog_14_method_66_code
def yX12_whyNotTake : MethodName := ⟨RX12, "whyNotTake", "(I)I"⟩
abbrev cX12_whyNotPut : ByteArray := prog_14_method_67_code
def yX12_whyNotPut : MethodName := ⟨RX12, "whyNotPut", "(IIZ)I"⟩
abbrev cX12_whyNotTurn : ByteArray := prog_14_method_68_code
def yX12_whyNotTurn : MethodName := ⟨RX12, "whyNotTurn", "(III)I"⟩
abbrev cX12_whyNotEnter : ByteArray := prog_14_method_69_code
def yX12_whyNotEnter : MethodName := ⟨RX12, "whyNotEnter", "(I)I"⟩
abbrev cX12_whyNotLeave : ByteArray := prog_14_method_70_code
def yX12_whyNotLeave : MethodName := ⟨RX12, "whyNotLeave", "()I"⟩
abbrev cX12_whyNot : ByteArray := prog_14_method_71_code
def yX12_whyNot : MethodName := ⟨RX12, "whyNot", "(III)I"⟩
abbrev cX12_lay : ByteArray := prog_14_method_72_code
def yX12_lay : MethodName := ⟨RX12, "lay", "(III)V"⟩
abbrev cX12_acts : ByteArray := prog_14_method_73_code
def yX12_acts : MethodName := ⟨RX12, "acts", "(III)V"⟩
abbrev cX12_hasSecond : ByteArray := prog_14_method_74_code
def yX12_hasSecond : MethodName := ⟨RX12, "hasSecond", "(I)Z"⟩
abbrev cX12_act : ByteArray := prog_14_method_75_code
def yX12_act : MethodName := ⟨RX12, "act", "(III)I"⟩
abbrev cX12_back : ByteArray := prog_14_method_76_code
def yX12_back : MethodName := ⟨RX12, "back", "()I"⟩
abbrev cX12_told : ByteArray := prog_14_method_77_code
def yX12_told : MethodName := ⟨RX12, "told", "(II)I"⟩
abbrev cX12_now : ByteArray := prog_14_method_78_code
def yX12_now : MethodName := ⟨RX12, "now", "(II)I"⟩
abbrev cX12_turn : ByteArray := prog_14_method_79_code
def yX12_turn : MethodName := ⟨RX12, "turn", "(II)I"⟩
abbrev cX12_light : ByteArray := prog_14_method_80_code
def yX12_light : MethodName := ⟨RX12, "light", "()I"⟩
abbrev cX12_keepState : ByteArray := prog_14_method_81_code
def yX12_keepState : MethodName := ⟨RX12, "keepState", "(I)V"⟩
abbrev cX12_giveState : ByteArray := prog_14_method_82_code
def yX12_giveState : MethodName := ⟨RX12, "giveState", "(I)V"⟩
abbrev cX12_isState : ByteArray := prog_14_method_83_code
def yX12_isState : MethodName := ⟨RX12, "isState", "(I)Z"⟩
abbrev cX12_tried : ByteArray := prog_14_method_84_code
def yX12_tried : MethodName := ⟨RX12, "tried", "(IIII)Z"⟩
abbrev cX12_triedAll : ByteArray := prog_14_method_85_code
def yX12_triedAll : MethodName := ⟨RX12, "triedAll", "(I)Z"⟩
abbrev cX12_found : ByteArray := prog_14_method_86_code
def yX12_found : MethodName := ⟨RX12, "found", "(I)I"⟩
abbrev cX12_seek : ByteArray := prog_14_method_87_code
def yX12_seek : MethodName := ⟨RX12, "seek", "(III)I"⟩
abbrev cX12_sought : ByteArray := prog_14_method_88_code
def yX12_sought : MethodName := ⟨RX12, "sought", "(II)I"⟩
abbrev cX12_line : ByteArray := prog_14_method_89_code
def yX12_line : MethodName := ⟨RX12, "line", "(III)I"⟩
abbrev cX12_lacks : ByteArray := prog_14_method_90_code
def yX12_lacks : MethodName := ⟨RX12, "lacks", "(III)I"⟩
abbrev cX12_cut : ByteArray := prog_14_method_91_code
def yX12_cut : MethodName := ⟨RX12, "cut", "(IJ)J"⟩
abbrev cX12_put : ByteArray := prog_14_method_92_code
def yX12_put : MethodName := ⟨RX12, "put", "(IIIJ)I"⟩
abbrev cX12_item : ByteArray := prog_14_method_93_code
def yX12_item : MethodName := ⟨RX12, "item", "(III)I"⟩
abbrev cX12_copy : ByteArray := prog_14_method_94_code
def yX12_copy : MethodName := ⟨RX12, "copy", "(IIIIII)I"⟩
abbrev cX12_cast : ByteArray := prog_14_method_95_code
def yX12_cast : MethodName := ⟨RX12, "cast", "(II)I"⟩
abbrev cX12_role : ByteArray := prog_14_method_96_code
def yX12_role : MethodName := ⟨RX12, "role", "(III)I"⟩
abbrev cX12_who : ByteArray := prog_14_method_97_code
def yX12_who : MethodName := ⟨RX12, "who", "(II)I"⟩
abbrev cX12_count : ByteArray := prog_14_method_98_code
def yX12_count : MethodName := ⟨RX12, "count", "(I)I"⟩
abbrev cX12_digest : ByteArray := prog_14_method_99_code
def yX12_digest : MethodName := ⟨RX12, "digest", "()J"⟩
def RJ10 : String := "java/lang/System"
def RJ7 : String := "java/util/Arrays"
abbrev cJ7_fill_53178 : ByteArray := prog_16_method_103_code
def yJ7_fill_53178 : MethodName := ⟨RJ7, "fill", "([II)V"⟩
def RL : String := "TalePlayLaw"
abbrev cL_law : ByteArray := code
def yL_law : MethodName := ⟨RL, "law", "([I)Z"⟩
theorem dX0_init_0 : decode cX0_init 0 = .ok (.aload_n 0, 1) := by decide +kernel
theorem dX0_init_1 : decode cX0_init 1 = .ok (.invokespecial 3, 3) := by decide +kernel
theorem dX0_init_4 : decode cX0_init 4 = .ok (.aload_n 0, 1) := by decide +kernel
theorem dX0_init_5 : decode cX0_init 5 = .ok (.aload_n 1, 1) := by decide +kernel
theorem dX0_init_6 : decode cX0_init 6 = .ok (.putfield 9, 3) := by decide +kernel
theorem dX0_init_9 : decode cX0_init 9 = .ok (.aload_n 0, 1) := by decide +kernel
theorem dX0_init_10 : decode cX0_init 10 = .ok (.aload_n 2, 1) := by decide +kernel
theorem dX0_init_11 : decode cX0_init 11 = .ok (.putfield 15, 3) := by decide +kernel
theorem dX0_init_14 : decode cX0_init 14 = .ok (.aload_n 0, 1) := by decide +kernel
theorem dX0_init_15 : decode cX0_init 15 = .ok (.aload_n 3, 1) := by decide +kernel
theorem dX0_init_16 : decode cX0_init 16 = .ok (.putfield 19, 3) := by decide +kernel
theorem dX0_init_19 : decode cX0_init 19 = .ok (.aload_n 0, 1) := by decide +kernel
theorem dX0_init_20 : decode cX0_init 20 = .ok (.aload 4, 2) := by decide +kernel
theorem dX0_init_22 : decode cX0_init 22 = .ok (.putfield 23, 3) := by decide +kernel
theorem dX0_init_25 : decode cX0_init 25 = .ok (.aload_n 0, 1) := by decide +kernel
theorem dX0_init_26 : decode cX0_init 26 = .ok (.aload 5, 2) := by decide +kernel
theorem dX0_init_28 : decode cX0_init 28 = .ok (.getfield 27, 3) := by decide +kernel
theorem dX0_init_31 : decode cX0_init 31 = .ok (.putfield 33, 3) := by decide +kernel
theorem dX0_init_34 : decode cX0_init 34 = .ok (.aload_n 0, 1) := by decide +kernel
theorem dX0_init_35 : decode cX0_init 35 = .ok (.aload 5, 2) := by decide +kernel
theorem dX0_init_37 : decode cX0_init 37 = .ok (.putfield 34, 3) := by decide +kernel
theorem dX0_init_40 : decode cX0_init 40 = .ok (.aload_n 0, 1) := by decide +kernel
theorem dX0_init_41 : decode cX0_init 41 = .ok (.bipush (-9), 2) := by decide +kernel
theorem dX0_init_43 : decode cX0_init 43 = .ok (.putfield 38, 3) := by decide +kernel
theorem dX0_init_46 : decode cX0_init 46 = .ok (.return_, 1) := by decide +kernel
theorem dX0_hasX_0 : decode cX0_hasX 0 = .ok (.iload_n 0, 1) := by decide +kernel
theorem dX0_hasX_1 : decode cX0_hasX 1 = .ok (.bipush 11, 2) := by decide +kernel
theorem dX0_hasX_3 : decode cX0_hasX 3 = .ok (.if_icmp .ge 7, 3) := by decide +kernel
theorem dX0_hasX_6 : decode cX0_hasX 6 = .ok (.iconst 1, 1) := by decide +kernel
theorem dX0_hasX_7 : decode cX0_hasX 7 = .ok (.goto 4, 3) := by decide +kernel
theorem dX0_hasX_10 : decode cX0_hasX 10 = .ok (.iconst 0, 1) := by decide +kernel
theorem dX0_hasX_11 : decode cX0_hasX 11 = .ok (.ireturn, 1) := by decide +kernel
theorem dX0_hasY_0 : decode cX0_hasY 0 = .ok (.iload_n 0, 1) := by decide +kernel
theorem dX0_hasY_1 : decode cX0_hasY 1 = .ok (.iconst 3, 1) := by decide +kernel
theorem dX0_hasY_2 : decode cX0_hasY 2 = .ok (.if_icmp .eq 20, 3) := by decide +kernel
theorem dX0_hasY_5 : decode cX0_hasY 5 = .ok (.iload_n 0, 1) := by decide +kernel
theorem dX0_hasY_6 : decode cX0_hasY 6 = .ok (.iconst 4, 1) := by decide +kernel
theorem dX0_hasY_7 : decode cX0_hasY 7 = .ok (.if_icmp .eq 15, 3) := by decide +kernel
theorem dX0_hasY_10 : decode cX0_hasY 10 = .ok (.iload_n 0, 1) := by decide +kernel
theorem dX0_hasY_11 : decode cX0_hasY 11 = .ok (.bipush 7, 2) := by decide +kernel
theorem dX0_hasY_13 : decode cX0_hasY 13 = .ok (.if_icmp .eq 9, 3) := by decide +kernel
theorem dX0_hasY_16 : decode cX0_hasY 16 = .ok (.iload_n 0, 1) := by decide +kernel
theorem dX0_hasY_17 : decode cX0_hasY 17 = .ok (.bipush 8, 2) := by decide +kernel
theorem dX0_hasY_19 : decode cX0_hasY 19 = .ok (.if_icmp .ne 7, 3) := by decide +kernel
theorem dX0_hasY_22 : decode cX0_hasY 22 = .ok (.iconst 1, 1) := by decide +kernel
theorem dX0_hasY_23 : decode cX0_hasY 23 = .ok (.goto 4, 3) := by decide +kernel
theorem dX0_hasY_26 : decode cX0_hasY 26 = .ok (.iconst 0, 1) := by decide +kernel
theorem dX0_hasY_27 : decode cX0_hasY 27 = .ok (.ireturn, 1) := by decide +kernel
theorem dX0_reasonOfX_0 : decode cX0_reasonOfX 0 = .ok (.iload_n 1, 1) := by decide +kernel
theorem dX0_reasonOfX_1 : decode cX0_reasonOfX 1 = .ok (.tableswitch 128 0 11 #[63, 71, 79, 79, 79, 96, 96, 96, 96, 105, 113, 121], 63) := by decide +kernel
theorem dX0_reasonOfX_64 : decode cX0_reasonOfX 64 = .ok (.aload_n 0, 1) := by decide +kernel
theorem dX0_reasonOfX_65 : decode cX0_reasonOfX 65 = .ok (.iload_n 2, 1) := by decide +kernel
theorem dX0_reasonOfX_66 : decode cX0_reasonOfX 66 = .ok (.invokevirtual 42, 3) := by decide +kernel
theorem dX0_reasonOfX_69 : decode cX0_reasonOfX 69 = .ok (.goto 61, 3) := by decide +kernel
theorem dX0_reasonOfX_72 : decode cX0_reasonOfX 72 = .ok (.aload_n 0, 1) := by decide +kernel
theorem dX0_reasonOfX_73 : decode cX0_reasonOfX 73 = .ok (.iload_n 2, 1) := by decide +kernel
theorem dX0_reasonOfX_74 : decode cX0_reasonOfX 74 = .ok (.invokevirtual 46, 3) := by decide +kernel
theorem dX0_reasonOfX_77 : decode cX0_reasonOfX 77 = .ok (.goto 53, 3) := by decide +kernel
theorem dX0_reasonOfX_80 : decode cX0_reasonOfX 80 = .ok (.aload_n 0, 1) := by decide +kernel
theorem dX0_reasonOfX_81 : decode cX0_reasonOfX 81 = .ok (.iload_n 2, 1) := by decide +kernel
theorem dX0_reasonOfX_82 : decode cX0_reasonOfX 82 = .ok (.invokevirtual 49, 3) := by decide +kernel
theorem dX0_reasonOfX_85 : decode cX0_reasonOfX 85 = .ok (.ifCond .eq 7, 3) := by decide +kernel
theorem dX0_reasonOfX_88 : decode cX0_reasonOfX 88 = .ok (.iconst 0, 1) := by decide +kernel
theorem dX0_reasonOfX_89 : decode cX0_reasonOfX 89 = .ok (.goto 41, 3) := by decide +kernel
theorem dX0_reasonOfX_92 : decode cX0_reasonOfX 92 = .ok (.bipush 11, 2) := by decide +kernel
theorem dX0_reasonOfX_94 : decode cX0_reasonOfX 94 = .ok (.goto 36, 3) := by decide +kernel
theorem dX0_reasonOfX_97 : decode cX0_reasonOfX 97 = .ok (.aload_n 0, 1) := by decide +kernel
theorem dX0_reasonOfX_98 : decode cX0_reasonOfX 98 = .ok (.iload_n 1, 1) := by decide +kernel
theorem dX0_reasonOfX_99 : decode cX0_reasonOfX 99 = .ok (.iload_n 2, 1) := by decide +kernel
theorem dX0_reasonOfX_100 : decode cX0_reasonOfX 100 = .ok (.invokevirtual 53, 3) := by decide +kernel
theorem dX0_reasonOfX_103 : decode cX0_reasonOfX 103 = .ok (.goto 27, 3) := by decide +kernel
theorem dX0_reasonOfX_106 : decode cX0_reasonOfX 106 = .ok (.aload_n 0, 1) := by decide +kernel
theorem dX0_reasonOfX_107 : decode cX0_reasonOfX 107 = .ok (.iload_n 2, 1) := by decide +kernel
theorem dX0_reasonOfX_108 : decode cX0_reasonOfX 108 = .ok (.invokevirtual 57, 3) := by decide +kernel
theorem dX0_reasonOfX_111 : decode cX0_reasonOfX 111 = .ok (.goto 19, 3) := by decide +kernel
theorem dX0_reasonOfX_114 : decode cX0_reasonOfX 114 = .ok (.aload_n 0, 1) := by decide +kernel
theorem dX0_reasonOfX_115 : decode cX0_reasonOfX 115 = .ok (.iload_n 2, 1) := by decide +kernel
theorem dX0_reasonOfX_116 : decode cX0_reasonOfX 116 = .ok (.invokevirtual 60, 3) := by decide +kernel
theorem dX0_reasonOfX_119 : decode cX0_reasonOfX 119 = .ok (.goto 11, 3) := by decide +kernel
theorem dX0_reasonOfX_122 : decode cX0_reasonOfX 122 = .ok (.aload_n 0, 1) := by decide +kernel
theorem dX0_reasonOfX_123 : decode cX0_reasonOfX 123 = .ok (.invokevirtual 63, 3) := by decide +kernel
theorem dX0_reasonOfX_126 : decode cX0_reasonOfX 126 = .ok (.goto 4, 3) := by decide +kernel
theorem dX0_reasonOfX_129 : decode cX0_reasonOfX 129 = .ok (.iconst 0, 1) := by decide +kernel
theorem dX0_reasonOfX_130 : decode cX0_reasonOfX 130 = .ok (.ireturn, 1) := by decide +kernel
theorem dX0_reasonOfY_0 : decode cX0_reasonOfY 0 = .ok (.iload_n 1, 1) := by decide +kernel
theorem dX0_reasonOfY_1 : decode cX0_reasonOfY 1 = .ok (.tableswitch 68 3 8 #[39, 49, 68, 68, 59, 59], 39) := by decide +kernel
theorem dX0_reasonOfY_40 : decode cX0_reasonOfY 40 = .ok (.aload_n 0, 1) := by decide +kernel
theorem dX0_reasonOfY_41 : decode cX0_reasonOfY 41 = .ok (.iload_n 2, 1) := by decide +kernel
theorem dX0_reasonOfY_42 : decode cX0_reasonOfY 42 = .ok (.iconst 0, 1) := by decide +kernel
theorem dX0_reasonOfY_43 : decode cX0_reasonOfY 43 = .ok (.iload_n 3, 1) := by decide +kernel
theorem dX0_reasonOfY_44 : decode cX0_reasonOfY 44 = .ok (.invokevirtual 67, 3) := by decide +kernel
theorem dX0_reasonOfY_47 : decode cX0_reasonOfY 47 = .ok (.goto 23, 3) := by decide +kernel
theorem dX0_reasonOfY_50 : decode cX0_reasonOfY 50 = .ok (.aload_n 0, 1) := by decide +kernel
theorem dX0_reasonOfY_51 : decode cX0_reasonOfY 51 = .ok (.iload_n 2, 1) := by decide +kernel
theorem dX0_reasonOfY_52 : decode cX0_reasonOfY 52 = .ok (.iconst 1, 1) := by decide +kernel
theorem dX0_reasonOfY_53 : decode cX0_reasonOfY 53 = .ok (.iload_n 3, 1) := by decide +kernel
theorem dX0_reasonOfY_54 : decode cX0_reasonOfY 54 = .ok (.invokevirtual 67, 3) := by decide +kernel
theorem dX0_reasonOfY_57 : decode cX0_reasonOfY 57 = .ok (.goto 13, 3) := by decide +kernel
theorem dX0_reasonOfY_60 : decode cX0_reasonOfY 60 = .ok (.aload_n 0, 1) := by decide +kernel
theorem dX0_reasonOfY_61 : decode cX0_reasonOfY 61 = .ok (.iload_n 2, 1) := by decide +kernel
theorem dX0_reasonOfY_62 : decode cX0_reasonOfY 62 = .ok (.iload_n 3, 1) := by decide +kernel
theorem dX0_reasonOfY_63 : decode cX0_reasonOfY 63 = .ok (.invokevirtual 71, 3) := by decide +kernel
theorem dX0_reasonOfY_66 : decode cX0_reasonOfY 66 = .ok (.goto 4, 3) := by decide +kernel
theorem dX0_reasonOfY_69 : decode cX0_reasonOfY 69 = .ok (.iconst 0, 1) := by decide +kernel
theorem dX0_reasonOfY_70 : decode cX0_reasonOfY 70 = .ok (.ireturn, 1) := by decide +kernel
theorem dX0_isHeld_0 : decode cX0_isHeld 0 = .ok (.aload_n 0, 1) := by decide +kernel
theorem dX0_isHeld_1 : decode cX0_isHeld 1 = .ok (.getfield 33, 3) := by decide +kernel
theorem dX0_isHeld_4 : decode cX0_isHeld 4 = .ok (.iload_n 1, 1) := by decide +kernel
theorem dX0_isHeld_5 : decode cX0_isHeld 5 = .ok (.iconst 2, 1) := by decide +kernel
theorem dX0_isHeld_6 : decode cX0_isHeld 6 = .ok (.aload_n 0, 1) := by decide +kernel
theorem dX0_isHeld_7 : decode cX0_isHeld 7 = .ok (.getfield 38, 3) := by decide +kernel
theorem dX0_isHeld_10 : decode cX0_isHeld 10 = .ok (.invokevirtual 74, 3) := by decide +kernel
theorem dX0_isHeld_13 : decode cX0_isHeld 13 = .ok (.ireturn, 1) := by decide +kernel
theorem dX0_isByRoom_0 : decode cX0_isByRoom 0 = .ok (.aload_n 0, 1) := by decide +kernel
theorem dX0_isByRoom_1 : decode cX0_isByRoom 1 = .ok (.getfield 33, 3) := by decide +kernel
theorem dX0_isByRoom_4 : decode cX0_isByRoom 4 = .ok (.aload_n 0, 1) := by decide +kernel
theorem dX0_isByRoom_5 : decode cX0_isByRoom 5 = .ok (.getfield 38, 3) := by decide +kernel
theorem dX0_isByRoom_8 : decode cX0_isByRoom 8 = .ok (.invokevirtual 80, 3) := by decide +kernel
theorem dX0_isByRoom_11 : decode cX0_isByRoom 11 = .ok (.ifCond .ne 28, 3) := by decide +kernel
theorem dX0_isByRoom_14 : decode cX0_isByRoom 14 = .ok (.aload_n 0, 1) := by decide +kernel
theorem dX0_isByRoom_15 : decode cX0_isByRoom 15 = .ok (.getfield 9, 3) := by decide +kernel
theorem dX0_isByRoom_18 : decode cX0_isByRoom 18 = .ok (.aload_n 0, 1) := by decide +kernel
theorem dX0_isByRoom_19 : decode cX0_isByRoom 19 = .ok (.getfield 33, 3) := by decide +kernel
theorem dX0_isByRoom_22 : decode cX0_isByRoom 22 = .ok (.aload_n 0, 1) := by decide +kernel
theorem dX0_isByRoom_23 : decode cX0_isByRoom 23 = .ok (.getfield 38, 3) := by decide +kernel
theorem dX0_isByRoom_26 : decode cX0_isByRoom 26 = .ok (.invokevirtual 83, 3) := by decide +kernel
theorem dX0_isByRoom_29 : decode cX0_isByRoom 29 = .ok (.invokevirtual 86, 3) := by decide +kernel
theorem dX0_isByRoom_32 : decode cX0_isByRoom 32 = .ok (.ifCond .ne 7, 3) := by decide +kernel
theorem dX0_isByRoom_35 : decode cX0_isByRoom 35 = .ok (.iconst 1, 1) := by decide +kernel
theorem dX0_isByRoom_36 : decode cX0_isByRoom 36 = .ok (.goto 4, 3) := by decide +kernel
theorem dX0_isByRoom_39 : decode cX0_isByRoom 39 = .ok (.iconst 0, 1) := by decide +kernel
theorem dX0_isByRoom_40 : decode cX0_isByRoom 40 = .ok (.ireturn, 1) := by decide +kernel
theorem dX0_reasonToGo_0 : decode cX0_reasonToGo 0 = .ok (.aload_n 0, 1) := by decide +kernel
theorem dX0_reasonToGo_1 : decode cX0_reasonToGo 1 = .ok (.invokevirtual 91, 3) := by decide +kernel
