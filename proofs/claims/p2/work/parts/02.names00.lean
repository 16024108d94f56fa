theorem goodIn_r {big : List Cond} (ws : List Cond) (ps : List Nat) (hp : ws = ps.filterMap (fun i => big[i]?)) (h : ws.all goodWord = true) : GoodIn big ws := by
  intro w hw
  have h1 := List.all_eq_true.mp h w hw
  rw [hp] at hw
  obtain ⟨i, -, hi⟩ := List.mem_filterMap.mp hw
  have hm : w ∈ big := by first | exact List.mem_of_getElem? hi | exact List.getElem?_mem hi
  exact ⟨hm, good_of_word h1⟩
theorem goodIn_app {big a b : List Cond} (ha : GoodIn big a) (hb : GoodIn big b) : GoodIn big (a ++ b) := fun w h => (List.mem_append.mp h).elim (ha w) (hb w)
def RX0 : String := "TalePlay$Acts"
def TX0 : u_T := fun k => match k with
  | 0 => ("TalePlay$Acts", "world", "LTalePlay$World;", true)
  | 1 => ("TalePlay$Acts", "book", "LTalePlay$Book;", true)
  | 2 => ("TalePlay$Acts", "roads", "LTalePlay$Roads;", true)
  | 3 => ("TalePlay$Acts", "bulks", "LTalePlay$Bulks;", true)
  | 4 => ("TalePlay$Acts", "scene", "LTalePlay$Scene;", true)
  | 5 => ("TalePlay$Acts", "sight", "LTalePlay$Sight;", true)
  | _ => ("TalePlay$Acts", "player", "I", false)
def RX1 : String := "TalePlay$Book"
def TX1 : u_T := fun k => match k with
  | 0 => ("TalePlay$Book", "world", "LTalePlay$World;", true)
  | 1 => ("TalePlay$Book", "places", "LTalePlay$Scene;", true)
  | 2 => ("TalePlay$Book", "forms", "[I", true)
  | 3 => ("TalePlay$Book", "as", "[I", true)
  | 4 => ("TalePlay$Book", "bs", "[I", true)
  | 5 => ("TalePlay$Book", "cs", "[I", true)
  | 6 => ("TalePlay$Book", "said", "[Z", true)
  | 7 => ("TalePlay$Book", "placeBy", "[I", true)
  | 8 => ("TalePlay$Book", "exitBy", "[I", true)
  | 9 => ("TalePlay$Book", "flagBy", "[I", true)
  | 10 => ("TalePlay$Book", "keyBy", "[I", true)
  | 11 => ("TalePlay$Book", "clashRow", "[I", true)
  | 12 => ("TalePlay$Book", "clashes", "I", false)
  | 13 => ("TalePlay$Book", "total", "I", false)
  | _ => ("TalePlay$Book", "standing", "I", false)
def RX2 : String := "TalePlay$Bulks"
def TX2 : u_T := fun k => match k with
  | 0 => ("TalePlay$Bulks", "world", "LTalePlay$World;", true)
  | 1 => ("TalePlay$Bulks", "trace", "[I", true)
  | 2 => ("TalePlay$Bulks", "traced", "I", false)
  | _ => ("TalePlay$Bulks", "tracing", "Z", false)
def RX3 : String := "TalePlay$Casts"
def TX3 : u_T := fun k => match k with
  | 0 => ("TalePlay$Casts", "sorts", "[I", true)
  | 1 => ("TalePlay$Casts", "lengths", "[I", true)
  | 2 => ("TalePlay$Casts", "roles", "[I", true)
  | _ => ("TalePlay$Casts", "made", "I", false)
def RX4 : String := "TalePlay$Lines"
def TX4 : u_T := fun k => match k with
  | 0 => ("TalePlay$Lines", "sorts", "[I", true)
  | 1 => ("TalePlay$Lines", "lengths", "[I", true)
  | _ => ("TalePlay$Lines", "items", "[J", true)
def RX5 : String := "TalePlay$Roads"
def TX5 : u_T := fun k => match k with
  | 0 => ("TalePlay$Roads", "world", "LTalePlay$World;", true)
  | 1 => ("TalePlay$Roads", "book", "LTalePlay$Book;", true)
  | 2 => ("TalePlay$Roads", "leads", "[I", true)
  | 3 => ("TalePlay$Roads", "doors", "[I", true)
  | 4 => ("TalePlay$Roads", "bys", "[I", true)
  | 5 => ("TalePlay$Roads", "implied", "[I", true)
  | 6 => ("TalePlay$Roads", "firstSides", "[I", true)
  | 7 => ("TalePlay$Roads", "secondSides", "[I", true)
  | 8 => ("TalePlay$Roads", "steps", "[I", true)
  | 9 => ("TalePlay$Roads", "firsts", "[I", true)
  | _ => ("TalePlay$Roads", "queue", "[I", true)
def RX6 : String := "TalePlay$Scene"
def TX6 : u_T := fun k => match k with
  | 0 => ("TalePlay$Scene", "world", "LTalePlay$World;", true)
  | _ => ("TalePlay$Scene", "cells", "[I", true)
def RX7 : String := "TalePlay$Seeker"
def TX7 : u_T := fun k => match k with
  | 0 => ("TalePlay$Seeker", "world", "LTalePlay$World;", true)
  | 1 => ("TalePlay$Seeker", "scene", "LTalePlay$Scene;", true)
  | 2 => ("TalePlay$Seeker", "sight", "LTalePlay$Sight;", true)
  | 3 => ("TalePlay$Seeker", "acts", "LTalePlay$Acts;", true)
  | 4 => ("TalePlay$Seeker", "kept", "[I", true)
  | 5 => ("TalePlay$Seeker", "marks", "[I", true)
  | 6 => ("TalePlay$Seeker", "slots", "[I", true)
  | 7 => ("TalePlay$Seeker", "parents", "[I", true)
  | 8 => ("TalePlay$Seeker", "deeds", "[I", true)
  | 9 => ("TalePlay$Seeker", "play", "[I", true)
  | 10 => ("TalePlay$Seeker", "playLength", "I", false)
  | 11 => ("TalePlay$Seeker", "states", "I", false)
  | 12 => ("TalePlay$Seeker", "found", "I", false)
  | 13 => ("TalePlay$Seeker", "goalThing", "I", false)
  | _ => ("TalePlay$Seeker", "goalHolder", "I", false)
def RX8 : String := "TalePlay$Sight"
def TX8 : u_T := fun k => match k with
  | 0 => ("TalePlay$Sight", "world", "LTalePlay$World;", true)
  | 1 => ("TalePlay$Sight", "roads", "LTalePlay$Roads;", true)
  | 2 => ("TalePlay$Sight", "scene", "LTalePlay$Scene;", true)
  | 3 => ("TalePlay$Sight", "seen", "[Z", true)
  | 4 => ("TalePlay$Sight", "reached", "[Z", true)
  | _ => ("TalePlay$Sight", "bright", "Z", false)
def RX9 : String := "TalePlay$Tale"
def TX9 : u_T := fun k => match k with
  | 0 => ("TalePlay$Tale", "world", "LTalePlay$World;", true)
  | 1 => ("TalePlay$Tale", "book", "LTalePlay$Book;", true)
  | 2 => ("TalePlay$Tale", "scene", "LTalePlay$Scene;", true)
  | 3 => ("TalePlay$Tale", "sight", "LTalePlay$Sight;", true)
  | 4 => ("TalePlay$Tale", "acts", "LTalePlay$Acts;", true)
  | 5 => ("TalePlay$Tale", "deeds", "[I", true)
  | 6 => ("TalePlay$Tale", "subjects", "[I", true)
  | 7 => ("TalePlay$Tale", "formerCells", "[I", true)
  | 8 => ("TalePlay$Tale", "there", "Z", false)
  | 9 => ("TalePlay$Tale", "player", "I", false)
  | _ => ("TalePlay$Tale", "turns", "I", false)
def RX10 : String := "TalePlay$World"
def TX10 : u_T := fun k => match k with
  | 0 => ("TalePlay$World", "parents", "[I", true)
  | 1 => ("TalePlay$World", "sorts", "[I", true)
  | 2 => ("TalePlay$World", "standards", "[I", true)
  | 3 => ("TalePlay$World", "kindOf", "[I", true)
  | 4 => ("TalePlay$World", "sizeOf", "[I", true)
  | 5 => ("TalePlay$World", "kinds", "I", false)
  | _ => ("TalePlay$World", "objects", "I", false)
def RX11 : String := "TalePlay"
def TX11 : u_T := fun k => match k with
  | 0 => ("TalePlay", "world", "LTalePlay$World;", true)
  | 1 => ("TalePlay", "book", "LTalePlay$Book;", true)
  | 2 => ("TalePlay", "roads", "LTalePlay$Roads;", true)
  | 3 => ("TalePlay", "bulks", "LTalePlay$Bulks;", true)
  | 4 => ("TalePlay", "tale", "LTalePlay$Tale;", true)
  | 5 => ("TalePlay", "lines", "LTalePlay$Lines;", true)
  | 6 => ("TalePlay", "casts", "LTalePlay$Casts;", true)
  | 7 => ("TalePlay", "seeker", "LTalePlay$Seeker;", false)
  | 8 => ("TalePlay", "findingCounts", "[I", true)
  | 9 => ("TalePlay", "latestFinding", "I", false)
  | _ => ("TalePlay", "told", "J", false)
def RX12 : String := "TalePlayModel"
def TX12 : u_T := fun k => match k with
  | 0 => ("TalePlayModel", "latest", "I", false)
  | 1 => ("TalePlayModel", "came", "[I", true)
  | 2 => ("TalePlayModel", "kinds", "I", false)
  | 3 => ("TalePlayModel", "parentOf", "[I", true)
  | 4 => ("TalePlayModel", "defaults", "[I", true)
  | 5 => ("TalePlayModel", "objects", "I", false)
  | 6 => ("TalePlayModel", "kindOf", "[I", true)
  | 7 => ("TalePlayModel", "sizeOf", "[I", true)
  | 8 => ("TalePlayModel", "sentences", "I", false)
  | 9 => ("TalePlayModel", "form", "[I", true)
  | 10 => ("TalePlayModel", "left", "[I", true)
  | 11 => ("TalePlayModel", "middle", "[I", true)
  | 12 => ("TalePlayModel", "right", "[I", true)
  | 13 => ("TalePlayModel", "isSaid", "[Z", true)
  | 14 => ("TalePlayModel", "row", "[I", true)
  | 15 => ("TalePlayModel", "rowMany", "I", false)
  | 16 => ("TalePlayModel", "leads", "I", false)
  | 17 => ("TalePlayModel", "byDoor", "I", false)
  | 18 => ("TalePlayModel", "bySentence", "I", false)
  | 19 => ("TalePlayModel", "isImplied", "Z", false)
  | 20 => ("TalePlayModel", "far", "[I", true)
  | 21 => ("TalePlayModel", "line", "[I", true)
  | 22 => ("TalePlayModel", "player", "I", false)
  | 23 => ("TalePlayModel", "nForm", "[I", true)
  | 24 => ("TalePlayModel", "nAt", "[I", true)
  | 25 => ("TalePlayModel", "nOpen", "[Z", true)
  | 26 => ("TalePlayModel", "nLocked", "[Z", true)
  | 27 => ("TalePlayModel", "turns", "I", false)
  | 28 => ("TalePlayModel", "turnRow", "[I", true)
  | 29 => ("TalePlayModel", "wasForm", "[I", true)
  | 30 => ("TalePlayModel", "wasAt", "[I", true)
  | 31 => ("TalePlayModel", "wasOpen", "[Z", true)
  | 32 => ("TalePlayModel", "wasLocked", "[Z", true)
  | 33 => ("TalePlayModel", "traces", "Z", false)
  | 34 => ("TalePlayModel", "trace", "[I", true)
  | 35 => ("TalePlayModel", "traced", "I", false)
  | 36 => ("TalePlayModel", "isNought", "Z", false)
  | 37 => ("TalePlayModel", "asked", "J", false)
  | 38 => ("TalePlayModel", "pile", "[I", true)
  | 39 => ("TalePlayModel", "nextIn", "[I", true)
  | 40 => ("TalePlayModel", "shell", "I", false)
  | 41 => ("TalePlayModel", "handShell", "I", false)
  | 42 => ("TalePlayModel", "isLight", "Z", false)
  | 43 => ("TalePlayModel", "seen", "[Z", true)
  | 44 => ("TalePlayModel", "reached", "[Z", true)
  | 45 => ("TalePlayModel", "lit", "[Z", true)
  | 46 => ("TalePlayModel", "glass", "[Z", true)
  | 47 => ("TalePlayModel", "isBox", "[Z", true)
  | 48 => ("TalePlayModel", "isRoom", "[Z", true)
  | 49 => ("TalePlayModel", "isDoor", "[Z", true)
  | 50 => ("TalePlayModel", "states", "I", false)
  | 51 => ("TalePlayModel", "stateForm", "[B", true)
  | 52 => ("TalePlayModel", "stateAt", "[B", true)
  | 53 => ("TalePlayModel", "stateShut", "[B", true)
  | 54 => ("TalePlayModel", "stateFrom", "[I", true)
  | 55 => ("TalePlayModel", "stateAct", "[I", true)
  | 56 => ("TalePlayModel", "soughtRow", "[I", true)
  | 57 => ("TalePlayModel", "soughtMany", "I", false)
  | 58 => ("TalePlayModel", "goalX", "I", false)
  | 59 => ("TalePlayModel", "goalY", "I", false)
  | 60 => ("TalePlayModel", "lineSort", "[I", true)
  | 61 => ("TalePlayModel", "lineMany", "[I", true)
  | 62 => ("TalePlayModel", "items", "[J", true)
  | 63 => ("TalePlayModel", "hasLine", "[Z", true)
  | 64 => ("TalePlayModel", "casts", "I", false)
  | 65 => ("TalePlayModel", "castSort", "[I", true)
  | 66 => ("TalePlayModel", "castMany", "[I", true)
  | 67 => ("TalePlayModel", "roles", "[I", true)
  | _ => ("TalePlayModel", "held", "[J", true)
def tyX12 : Nat → FieldType := fun k => match k with
  | 0 => .int
  | 1 => .array .int
  | 2 => .int
  | 3 => .array .int
  | 4 => .array .int
  | 5 => .int
  | 6 => .array .int
  | 7 => .array .int
  | 8 => .int
  | 9 => .array .int
  | 10 => .array .int
  | 11 => .array .int
  | 12 => .array .int
  | 13 => .array .boolean
  | 14 => .array .int
  | 15 => .int
  | 16 => .int
  | 17 => .int
  | 18 => .int
  | 19 => .boolean
  | 20 => .array .int
  | 21 => .array .int
  | 22 => .int
  | 23 => .array .int
  | 24 => .array .int
  | 25 => .array .boolean
  | 26 => .array .boolean
  | 27 => .int
  | 28 => .array .int
  | 29 => .array .int
  | 30 => .array .int
  | 31 => .array .boolean
  | 32 => .array .boolean
  | 33 => .boolean
  | 34 => .array .int
  | 35 => .int
  | 36 => .boolean
  | 37 => .long
  | 38 => .array .int
  | 39 => .array .int
  | 40 => .int
  | 41 => .int
  | 42 => .boolean
  | 43 => .array .boolean
  | 44 => .array .boolean
  | 45 => .array .boolean
  | 46 => .array .boolean
  | 47 => .array .boolean
  | 48 => .array .boolean
  | 49 => .array .boolean
  | 50 => .int
  | 51 => .array .byte
  | 52 => .array .byte
  | 53 => .array .byte
  | 54 => .array .int
  | 55 => .array .int
  | 56 => .array .int
  | 57 => .int
  | 58 => .int
  | 59 => .int
  | 60 => .array .int
  | 61 => .array .int
  | 62 => .array .long
  | 63 => .array .boolean
  | 64 => .int
  | 65 => .array .int
  | 66 => .array .int
  | 67 => .array .int
  | _ => .array .long
abbrev wsX120 : List Cond := u_ws RX12 TX12 69
theorem nmX12 : ∀ a, a < 69 → ∀ b, b < 69 → a ≠ b → (TX12 a).2.1 ≠ (TX12 b).2.1 := by decide +kernel
theorem tyX12_ok : ∀ k, k < 69 → parseFieldDescriptor (TX12 k).2.2.1 = some (tyX12 k) := by decide +kernel
abbrev cX12_in : ByteArray := prog_14_method_2_code
def yX12_in : MethodName := ⟨RX12, "in", "(JJJ)Z"⟩
abbrev cX12_meets : ByteArray := prog_14_method_3_code
def yX12_meets : MethodName := ⟨RX12, "meets", "(I)I"⟩
abbrev cX12_isObject : ByteArray := prog_14_method_9_code
def yX12_isObject : MethodName := ⟨RX12, "isObject", "(I)Z"⟩
abbrev cX12_isOf : ByteArray := prog_14_method_10_code
def yX12_isOf : MethodName := ⟨RX12, "isOf", "(II)Z"⟩
abbrev cX12_isMovable : ByteArray := prog_14_method_12_code
def yX12_isMovable : MethodName := ⟨RX12, "isMovable", "(I)Z"⟩
abbrev cX12_isGoods : ByteArray := prog_14_method_13_code
def yX12_isGoods : MethodName := ⟨RX12, "isGoods", "(I)Z"⟩
abbrev cX12_isShutter : ByteArray := prog_14_method_14_code
def yX12_isShutter : MethodName := ⟨RX12, "isShutter", "(I)Z"⟩
abbrev cX12_mayHave : ByteArray := prog_14_method_15_code
def yX12_mayHave : MethodName := ⟨RX12, "mayHave", "(II)Z"⟩
abbrev cX12_areNumbers : ByteArray := prog_14_method_16_code
def yX12_areNumbers : MethodName := ⟨RX12, "areNumbers", "(IIII)Z"⟩
abbrev cX12_fitsLeft : ByteArray := prog_14_method_17_code
def yX12_fitsLeft : MethodName := ⟨RX12, "fitsLeft", "(III)Z"⟩
abbrev cX12_fitsRight : ByteArray := prog_14_method_18_code
def yX12_fitsRight : MethodName := ⟨RX12, "fitsRight", "(II)Z"⟩
abbrev cX12_saidSo : ByteArray := prog_14_method_19_code
def yX12_saidSo : MethodName := ⟨RX12, "saidSo", "(IIII)I"⟩
abbrev cX12_clashes : ByteArray := prog_14_method_20_code
def yX12_clashes : MethodName := ⟨RX12, "clashes", "(I)V"⟩
abbrev cX12_placing : ByteArray := prog_14_method_21_code
def yX12_placing : MethodName := ⟨RX12, "placing", "(I)I"⟩
abbrev cX12_isExitBarred : ByteArray := prog_14_method_23_code
def yX12_isExitBarred : MethodName := ⟨RX12, "isExitBarred", "(III)Z"⟩
abbrev cX12_isFlagBarred : ByteArray := prog_14_method_24_code
def yX12_isFlagBarred : MethodName := ⟨RX12, "isFlagBarred", "(III)Z"⟩
abbrev cX12_isKeyBarred : ByteArray := prog_14_method_25_code
def yX12_isKeyBarred : MethodName := ⟨RX12, "isKeyBarred", "(I)Z"⟩
abbrev cX12_saidMany : ByteArray := prog_14_method_27_code
def yX12_saidMany : MethodName := ⟨RX12, "saidMany", "()I"⟩
abbrev cX12_saidFlag : ByteArray := prog_14_method_32_code
def yX12_saidFlag : MethodName := ⟨RX12, "saidFlag", "(II)I"⟩
abbrev cX12_keyOf : ByteArray := prog_14_method_34_code
def yX12_keyOf : MethodName := ⟨RX12, "keyOf", "(I)I"⟩
abbrev cX12_findExit : ByteArray := prog_14_method_36_code
def yX12_findExit : MethodName := ⟨RX12, "findExit", "(II)Z"⟩
abbrev cX12_otherSide : ByteArray := prog_14_method_37_code
def yX12_otherSide : MethodName := ⟨RX12, "otherSide", "(II)I"⟩
abbrev cX12_isSide : ByteArray := prog_14_method_38_code
def yX12_isSide : MethodName := ⟨RX12, "isSide", "(II)Z"⟩
abbrev cX12_endTale : ByteArray := prog_14_method_44_code
def yX12_endTale : MethodName := ⟨RX12, "endTale", "()V"⟩
abbrev cX12_formNow : ByteArray := prog_14_method_45_code
def yX12_formNow : MethodName := ⟨RX12, "formNow", "(I)I"⟩
abbrev cX12_atNow : ByteArray := prog_14_method_46_code
def yX12_atNow : MethodName := ⟨RX12, "atNow", "(I)I"⟩
abbrev cX12_body : ByteArray := prog_14_method_47_code
def yX12_body : MethodName := ⟨RX12, "body", "(I)V"⟩
abbrev cX12_lookAtKinds : ByteArray := prog_14_method_54_code
def yX12_lookAtKinds : MethodName := ⟨RX12, "lookAtKinds", "()V"⟩
abbrev cX12_shuts : ByteArray := prog_14_method_55_code
def yX12_shuts : MethodName := ⟨RX12, "shuts", "(IZ)Z"⟩
abbrev cX12_holds : ByteArray := prog_14_method_62_code
def yX12_holds : MethodName := ⟨RX12, "holds", "(I)Z"⟩
abbrev cX12_lying : ByteArray := prog_14_method_63_code
def yX12_lying : MethodName := ⟨RX12, "lying", "(II)I"⟩
abbrev cX12_lay : ByteArray := prog_14_method_72_code
def yX12_lay : MethodName := ⟨RX12, "lay", "(III)V"⟩
abbrev cX12_hasSecond : ByteArray := prog_14_method_74_code
def yX12_hasSecond : MethodName := ⟨RX12, "hasSecond", "(I)Z"⟩
abbrev cX12_keepState : ByteArray := prog_14_method_81_code
def yX12_keepState : MethodName := ⟨RX12, "keepState", "(I)V"⟩
abbrev cX12_giveState : ByteArray := prog_14_method_82_code
def yX12_giveState : MethodName := ⟨RX12, "giveState", "(I)V"⟩
abbrev cX12_isState : ByteArray := prog_14_method_83_code
def yX12_isState : MethodName := ⟨RX12, "isState", "(I)Z"⟩
theorem dX12_in_0 : decode cX12_in 0 = .ok (.lload_n 0, 1) := by decide +kernel
theorem dX12_in_1 : decode cX12_in 1 = .ok (.lload_n 2, 1) := by decide +kernel
theorem dX12_in_2 : decode cX12_in 2 = .ok (.lcmp, 1) := by decide +kernel
theorem dX12_in_3 : decode cX12_in 3 = .ok (.ifCond .lt 14, 3) := by decide +kernel
theorem dX12_in_6 : decode cX12_in 6 = .ok (.lload_n 0, 1) := by decide +kernel
theorem dX12_in_7 : decode cX12_in 7 = .ok (.lload 4, 2) := by decide +kernel
theorem dX12_in_9 : decode cX12_in 9 = .ok (.lcmp, 1) := by decide +kernel
theorem dX12_in_10 : decode cX12_in 10 = .ok (.ifCond .gt 7, 3) := by decide +kernel
theorem dX12_in_13 : decode cX12_in 13 = .ok (.iconst 1, 1) := by decide +kernel
theorem dX12_in_14 : decode cX12_in 14 = .ok (.goto 4, 3) := by decide +kernel
theorem dX12_in_17 : decode cX12_in 17 = .ok (.iconst 0, 1) := by decide +kernel
theorem dX12_in_18 : decode cX12_in 18 = .ok (.ireturn, 1) := by decide +kernel
theorem dX12_meets_0 : decode cX12_meets 0 = .ok (.aload_n 0, 1) := by decide +kernel
theorem dX12_meets_1 : decode cX12_meets 1 = .ok (.iload_n 1, 1) := by decide +kernel
theorem dX12_meets_2 : decode cX12_meets 2 = .ok (.putfield 161, 3) := by decide +kernel
theorem dX12_meets_5 : decode cX12_meets 5 = .ok (.aload_n 0, 1) := by decide +kernel
theorem dX12_meets_6 : decode cX12_meets 6 = .ok (.getfield 7, 3) := by decide +kernel
theorem dX12_meets_9 : decode cX12_meets 9 = .ok (.iload_n 1, 1) := by decide +kernel
theorem dX12_meets_10 : decode cX12_meets 10 = .ok (.dup2, 1) := by decide +kernel
theorem dX12_meets_11 : decode cX12_meets 11 = .ok (.iaload, 1) := by decide +kernel
theorem dX12_meets_12 : decode cX12_meets 12 = .ok (.iconst 1, 1) := by decide +kernel
theorem dX12_meets_13 : decode cX12_meets 13 = .ok (.iadd, 1) := by decide +kernel
theorem dX12_meets_14 : decode cX12_meets 14 = .ok (.iastore, 1) := by decide +kernel
theorem dX12_meets_15 : decode cX12_meets 15 = .ok (.bipush (-3), 2) := by decide +kernel
theorem dX12_meets_17 : decode cX12_meets 17 = .ok (.ireturn, 1) := by decide +kernel
theorem dX12_isObject_0 : decode cX12_isObject 0 = .ok (.iload_n 1, 1) := by decide +kernel
theorem dX12_isObject_1 : decode cX12_isObject 1 = .ok (.i2l, 1) := by decide +kernel
theorem dX12_isObject_2 : decode cX12_isObject 2 = .ok (.lconst 0, 1) := by decide +kernel
theorem dX12_isObject_3 : decode cX12_isObject 3 = .ok (.aload_n 0, 1) := by decide +kernel
theorem dX12_isObject_4 : decode cX12_isObject 4 = .ok (.getfield 177, 3) := by decide +kernel
theorem dX12_isObject_7 : decode cX12_isObject 7 = .ok (.iconst 1, 1) := by decide +kernel
theorem dX12_isObject_8 : decode cX12_isObject 8 = .ok (.isub, 1) := by decide +kernel
theorem dX12_isObject_9 : decode cX12_isObject 9 = .ok (.i2l, 1) := by decide +kernel
theorem dX12_isObject_10 : decode cX12_isObject 10 = .ok (.invokestatic 166, 3) := by decide +kernel
theorem dX12_isObject_13 : decode cX12_isObject 13 = .ok (.ireturn, 1) := by decide +kernel
theorem dX12_isOf_0 : decode cX12_isOf 0 = .ok (.aload_n 0, 1) := by decide +kernel
theorem dX12_isOf_1 : decode cX12_isOf 1 = .ok (.getfield 19, 3) := by decide +kernel
theorem dX12_isOf_4 : decode cX12_isOf 4 = .ok (.iload_n 1, 1) := by decide +kernel
theorem dX12_isOf_5 : decode cX12_isOf 5 = .ok (.iaload, 1) := by decide +kernel
theorem dX12_isOf_6 : decode cX12_isOf 6 = .ok (.istore_n 3, 1) := by decide +kernel
theorem dX12_isOf_7 : decode cX12_isOf 7 = .ok (.iload_n 3, 1) := by decide +kernel
theorem dX12_isOf_8 : decode cX12_isOf 8 = .ok (.bipush (-9), 2) := by decide +kernel
theorem dX12_isOf_10 : decode cX12_isOf 10 = .ok (.if_icmp .eq 18, 3) := by decide +kernel
theorem dX12_isOf_13 : decode cX12_isOf 13 = .ok (.iload_n 3, 1) := by decide +kernel
theorem dX12_isOf_14 : decode cX12_isOf 14 = .ok (.iload_n 2, 1) := by decide +kernel
theorem dX12_isOf_15 : decode cX12_isOf 15 = .ok (.if_icmp .eq 13, 3) := by decide +kernel
theorem dX12_isOf_18 : decode cX12_isOf 18 = .ok (.aload_n 0, 1) := by decide +kernel
theorem dX12_isOf_19 : decode cX12_isOf 19 = .ok (.getfield 13, 3) := by decide +kernel
theorem dX12_isOf_22 : decode cX12_isOf 22 = .ok (.iload_n 3, 1) := by decide +kernel
theorem dX12_isOf_23 : decode cX12_isOf 23 = .ok (.iaload, 1) := by decide +kernel
theorem dX12_isOf_24 : decode cX12_isOf 24 = .ok (.istore_n 3, 1) := by decide +kernel
theorem dX12_isOf_25 : decode cX12_isOf 25 = .ok (.goto (-18), 3) := by decide +kernel
theorem dX12_isOf_28 : decode cX12_isOf 28 = .ok (.iload_n 3, 1) := by decide +kernel
theorem dX12_isOf_29 : decode cX12_isOf 29 = .ok (.iload_n 2, 1) := by decide +kernel
theorem dX12_isOf_30 : decode cX12_isOf 30 = .ok (.if_icmp .ne 7, 3) := by decide +kernel
theorem dX12_isOf_33 : decode cX12_isOf 33 = .ok (.iconst 1, 1) := by decide +kernel
theorem dX12_isOf_34 : decode cX12_isOf 34 = .ok (.goto 4, 3) := by decide +kernel
theorem dX12_isOf_37 : decode cX12_isOf 37 = .ok (.iconst 0, 1) := by decide +kernel
theorem dX12_isOf_38 : decode cX12_isOf 38 = .ok (.ireturn, 1) := by decide +kernel
theorem dX12_isMovable_0 : decode cX12_isMovable 0 = .ok (.aload_n 0, 1) := by decide +kernel
theorem dX12_isMovable_1 : decode cX12_isMovable 1 = .ok (.iload_n 1, 1) := by decide +kernel
theorem dX12_isMovable_2 : decode cX12_isMovable 2 = .ok (.iconst 1, 1) := by decide +kernel
theorem dX12_isMovable_3 : decode cX12_isMovable 3 = .ok (.invokevirtual 184, 3) := by decide +kernel
theorem dX12_isMovable_6 : decode cX12_isMovable 6 = .ok (.ifCond .eq 16, 3) := by decide +kernel
theorem dX12_isMovable_9 : decode cX12_isMovable 9 = .ok (.aload_n 0, 1) := by decide +kernel
theorem dX12_isMovable_10 : decode cX12_isMovable 10 = .ok (.iload_n 1, 1) := by decide +kernel
theorem dX12_isMovable_11 : decode cX12_isMovable 11 = .ok (.iconst 2, 1) := by decide +kernel
theorem dX12_isMovable_12 : decode cX12_isMovable 12 = .ok (.invokevirtual 184, 3) := by decide +kernel
theorem dX12_isMovable_15 : decode cX12_isMovable 15 = .ok (.ifCond .ne 7, 3) := by decide +kernel
theorem dX12_isMovable_18 : decode cX12_isMovable 18 = .ok (.iconst 1, 1) := by decide +kernel
theorem dX12_isMovable_19 : decode cX12_isMovable 19 = .ok (.goto 4, 3) := by decide +kernel
theorem dX12_isMovable_22 : decode cX12_isMovable 22 = .ok (.iconst 0, 1) := by decide +kernel
theorem dX12_isMovable_23 : decode cX12_isMovable 23 = .ok (.ireturn, 1) := by decide +kernel
theorem dX12_isGoods_0 : decode cX12_isGoods 0 = .ok (.aload_n 0, 1) := by decide +kernel
theorem dX12_isGoods_1 : decode cX12_isGoods 1 = .ok (.iload_n 1, 1) := by decide +kernel
theorem dX12_isGoods_2 : decode cX12_isGoods 2 = .ok (.invokevirtual 188, 3) := by decide +kernel
theorem dX12_isGoods_5 : decode cX12_isGoods 5 = .ok (.ifCond .eq 16, 3) := by decide +kernel
theorem dX12_isGoods_8 : decode cX12_isGoods 8 = .ok (.aload_n 0, 1) := by decide +kernel
theorem dX12_isGoods_9 : decode cX12_isGoods 9 = .ok (.iload_n 1, 1) := by decide +kernel
theorem dX12_isGoods_10 : decode cX12_isGoods 10 = .ok (.iconst 5, 1) := by decide +kernel
theorem dX12_isGoods_11 : decode cX12_isGoods 11 = .ok (.invokevirtual 184, 3) := by decide +kernel
theorem dX12_isGoods_14 : decode cX12_isGoods 14 = .ok (.ifCond .ne 7, 3) := by decide +kernel
theorem dX12_isGoods_17 : decode cX12_isGoods 17 = .ok (.iconst 1, 1) := by decide +kernel
theorem dX12_isGoods_18 : decode cX12_isGoods 18 = .ok (.goto 4, 3) := by decide +kernel
theorem dX12_isGoods_21 : decode cX12_isGoods 21 = .ok (.iconst 0, 1) := by decide +kernel
theorem dX12_isGoods_22 : decode cX12_isGoods 22 = .ok (.ireturn, 1) := by decide +kernel
theorem dX12_isShutter_0 : decode cX12_isShutter 0 = .ok (.aload_n 0, 1) := by decide +kernel
theorem dX12_isShutter_1 : decode cX12_isShutter 1 = .ok (.iload_n 1, 1) := by decide +kernel
theorem dX12_isShutter_2 : decode cX12_isShutter 2 = .ok (.iconst 2, 1) := by decide +kernel
theorem dX12_isShutter_3 : decode cX12_isShutter 3 = .ok (.invokevirtual 184, 3) := by decide +kernel
theorem dX12_isShutter_6 : decode cX12_isShutter 6 = .ok (.ifCond .ne 12, 3) := by decide +kernel
theorem dX12_isShutter_9 : decode cX12_isShutter 9 = .ok (.aload_n 0, 1) := by decide +kernel
theorem dX12_isShutter_10 : decode cX12_isShutter 10 = .ok (.iload_n 1, 1) := by decide +kernel
theorem dX12_isShutter_11 : decode cX12_isShutter 11 = .ok (.iconst 3, 1) := by decide +kernel
theorem dX12_isShutter_12 : decode cX12_isShutter 12 = .ok (.invokevirtual 184, 3) := by decide +kernel
theorem dX12_isShutter_15 : decode cX12_isShutter 15 = .ok (.ifCond .eq 7, 3) := by decide +kernel
theorem dX12_isShutter_18 : decode cX12_isShutter 18 = .ok (.iconst 1, 1) := by decide +kernel
theorem dX12_isShutter_19 : decode cX12_isShutter 19 = .ok (.goto 4, 3) := by decide +kernel
theorem dX12_isShutter_22 : decode cX12_isShutter 22 = .ok (.iconst 0, 1) := by decide +kernel
theorem dX12_isShutter_23 : decode cX12_isShutter 23 = .ok (.ireturn, 1) := by decide +kernel
theorem dX12_mayHave_0 : decode cX12_mayHave 0 = .ok (.iload_n 2, 1) := by decide +kernel
theorem dX12_mayHave_1 : decode cX12_mayHave 1 = .ok (.tableswitch 55 0 4 #[35, 35, 41, 43, 49], 35) := by decide +kernel
theorem dX12_mayHave_36 : decode cX12_mayHave 36 = .ok (.aload_n 0, 1) := by decide +kernel
theorem dX12_mayHave_37 : decode cX12_mayHave 37 = .ok (.iload_n 1, 1) := by decide +kernel
theorem dX12_mayHave_38 : decode cX12_mayHave 38 = .ok (.invokevirtual 191, 3) := by decide +kernel
theorem dX12_mayHave_41 : decode cX12_mayHave 41 = .ok (.ireturn, 1) := by decide +kernel
theorem dX12_mayHave_42 : decode cX12_mayHave 42 = .ok (.iconst 1, 1) := by decide +kernel
theorem dX12_mayHave_43 : decode cX12_mayHave 43 = .ok (.ireturn, 1) := by decide +kernel
theorem dX12_mayHave_44 : decode cX12_mayHave 44 = .ok (.aload_n 0, 1) := by decide +kernel
theorem dX12_mayHave_45 : decode cX12_mayHave 45 = .ok (.iload_n 1, 1) := by decide +kernel
theorem dX12_mayHave_46 : decode cX12_mayHave 46 = .ok (.invokevirtual 188, 3) := by decide +kernel
theorem dX12_mayHave_49 : decode cX12_mayHave 49 = .ok (.ireturn, 1) := by decide +kernel
theorem dX12_mayHave_50 : decode cX12_mayHave 50 = .ok (.aload_n 0, 1) := by decide +kernel
theorem dX12_mayHave_51 : decode cX12_mayHave 51 = .ok (.iload_n 1, 1) := by decide +kernel
theorem dX12_mayHave_52 : decode cX12_mayHave 52 = .ok (.invokevirtual 194, 3) := by decide +kernel
theorem dX12_mayHave_55 : decode cX12_mayHave 55 = .ok (.ireturn, 1) := by decide +kernel
theorem dX12_mayHave_56 : decode cX12_mayHave 56 = .ok (.aload_n 0, 1) := by decide +kernel
theorem dX12_mayHave_57 : decode cX12_mayHave 57 = .ok (.iload_n 1, 1) := by decide +kernel
theorem dX12_mayHave_58 : decode cX12_mayHave 58 = .ok (.iconst 3, 1) := by decide +kernel
theorem dX12_mayHave_59 : decode cX12_mayHave 59 = .ok (.invokevirtual 184, 3) := by decide +kernel
theorem dX12_mayHave_62 : decode cX12_mayHave 62 = .ok (.ireturn, 1) := by decide +kernel
theorem dX12_areNumbers_0 : decode cX12_areNumbers 0 = .ok (.iload_n 1, 1) := by decide +kernel
theorem dX12_areNumbers_1 : decode cX12_areNumbers 1 = .ok (.bipush 6, 2) := by decide +kernel
theorem dX12_areNumbers_3 : decode cX12_areNumbers 3 = .ok (.if_icmp .ne 40, 3) := by decide +kernel
theorem dX12_areNumbers_6 : decode cX12_areNumbers 6 = .ok (.aload_n 0, 1) := by decide +kernel
theorem dX12_areNumbers_7 : decode cX12_areNumbers 7 = .ok (.iload_n 2, 1) := by decide +kernel
theorem dX12_areNumbers_8 : decode cX12_areNumbers 8 = .ok (.invokevirtual 180, 3) := by decide +kernel
theorem dX12_areNumbers_11 : decode cX12_areNumbers 11 = .ok (.ifCond .eq 30, 3) := by decide +kernel
theorem dX12_areNumbers_14 : decode cX12_areNumbers 14 = .ok (.iload_n 3, 1) := by decide +kernel
theorem dX12_areNumbers_15 : decode cX12_areNumbers 15 = .ok (.i2l, 1) := by decide +kernel
theorem dX12_areNumbers_16 : decode cX12_areNumbers 16 = .ok (.lconst 0, 1) := by decide +kernel
theorem dX12_areNumbers_17 : decode cX12_areNumbers 17 = .ok (.ldc2_w 170, 3) := by decide +kernel
theorem dX12_areNumbers_20 : decode cX12_areNumbers 20 = .ok (.invokestatic 166, 3) := by decide +kernel
theorem dX12_areNumbers_23 : decode cX12_areNumbers 23 = .ok (.ifCond .eq 18, 3) := by decide +kernel
theorem dX12_areNumbers_26 : decode cX12_areNumbers 26 = .ok (.iload 4, 2) := by decide +kernel
theorem dX12_areNumbers_28 : decode cX12_areNumbers 28 = .ok (.i2l, 1) := by decide +kernel
theorem dX12_areNumbers_29 : decode cX12_areNumbers 29 = .ok (.lconst 0, 1) := by decide +kernel
theorem dX12_areNumbers_30 : decode cX12_areNumbers 30 = .ok (.lconst 1, 1) := by decide +kernel
theorem dX12_areNumbers_31 : decode cX12_areNumbers 31 = .ok (.invokestatic 166, 3) := by decide +kernel
theorem dX12_areNumbers_34 : decode cX12_areNumbers 34 = .ok (.ifCond .eq 7, 3) := by decide +kernel
theorem dX12_areNumbers_37 : decode cX12_areNumbers 37 = .ok (.iconst 1, 1) := by decide +kernel
theorem dX12_areNumbers_38 : decode cX12_areNumbers 38 = .ok (.goto 4, 3) := by decide +kernel
theorem dX12_areNumbers_41 : decode cX12_areNumbers 41 = .ok (.iconst 0, 1) := by decide +kernel
theorem dX12_areNumbers_42 : decode cX12_areNumbers 42 = .ok (.ireturn, 1) := by decide +kernel
theorem dX12_areNumbers_43 : decode cX12_areNumbers 43 = .ok (.aload_n 0, 1) := by decide +kernel
theorem dX12_areNumbers_44 : decode cX12_areNumbers 44 = .ok (.iload_n 2, 1) := by decide +kernel
theorem dX12_areNumbers_45 : decode cX12_areNumbers 45 = .ok (.invokevirtual 180, 3) := by decide +kernel
theorem dX12_areNumbers_48 : decode cX12_areNumbers 48 = .ok (.ifCond .eq 33, 3) := by decide +kernel
theorem dX12_areNumbers_51 : decode cX12_areNumbers 51 = .ok (.aload_n 0, 1) := by decide +kernel
theorem dX12_areNumbers_52 : decode cX12_areNumbers 52 = .ok (.iload_n 3, 1) := by decide +kernel
theorem dX12_areNumbers_53 : decode cX12_areNumbers 53 = .ok (.invokevirtual 180, 3) := by decide +kernel
theorem dX12_areNumbers_56 : decode cX12_areNumbers 56 = .ok (.ifCond .eq 25, 3) := by decide +kernel
theorem dX12_areNumbers_59 : decode cX12_areNumbers 59 = .ok (.iload_n 1, 1) := by decide +kernel
theorem dX12_areNumbers_60 : decode cX12_areNumbers 60 = .ok (.iconst 5, 1) := by decide +kernel
theorem dX12_areNumbers_61 : decode cX12_areNumbers 61 = .ok (.if_icmp .ne 16, 3) := by decide +kernel
theorem dX12_areNumbers_64 : decode cX12_areNumbers 64 = .ok (.iload 4, 2) := by decide +kernel
theorem dX12_areNumbers_66 : decode cX12_areNumbers 66 = .ok (.i2l, 1) := by decide +kernel
theorem dX12_areNumbers_67 : decode cX12_areNumbers 67 = .ok (.lconst 0, 1) := by decide +kernel
theorem dX12_areNumbers_68 : decode cX12_areNumbers 68 = .ok (.ldc2_w 197, 3) := by decide +kernel
theorem dX12_areNumbers_71 : decode cX12_areNumbers 71 = .ok (.invokestatic 166, 3) := by decide +kernel
theorem dX12_areNumbers_74 : decode cX12_areNumbers 74 = .ok (.ifCond .eq 7, 3) := by decide +kernel
theorem dX12_areNumbers_77 : decode cX12_areNumbers 77 = .ok (.iconst 1, 1) := by decide +kernel
theorem dX12_areNumbers_78 : decode cX12_areNumbers 78 = .ok (.goto 4, 3) := by decide +kernel
theorem dX12_areNumbers_81 : decode cX12_areNumbers 81 = .ok (.iconst 0, 1) := by decide +kernel
theorem dX12_areNumbers_82 : decode cX12_areNumbers 82 = .ok (.ireturn, 1) := by decide +kernel
theorem dX12_fitsLeft_0 : decode cX12_fitsLeft 0 = .ok (.iload_n 1, 1) := by decide +kernel
theorem dX12_fitsLeft_1 : decode cX12_fitsLeft 1 = .ok (.tableswitch 63 0 6 #[43, 43, 63, 63, 63, 49, 56], 43) := by decide +kernel
theorem dX12_fitsLeft_44 : decode cX12_fitsLeft 44 = .ok (.aload_n 0, 1) := by decide +kernel
theorem dX12_fitsLeft_45 : decode cX12_fitsLeft 45 = .ok (.iload_n 2, 1) := by decide +kernel
theorem dX12_fitsLeft_46 : decode cX12_fitsLeft 46 = .ok (.invokevirtual 188, 3) := by decide +kernel
theorem dX12_fitsLeft_49 : decode cX12_fitsLeft 49 = .ok (.ireturn, 1) := by decide +kernel
theorem dX12_fitsLeft_50 : decode cX12_fitsLeft 50 = .ok (.aload_n 0, 1) := by decide +kernel
theorem dX12_fitsLeft_51 : decode cX12_fitsLeft 51 = .ok (.iload_n 2, 1) := by decide +kernel
theorem dX12_fitsLeft_52 : decode cX12_fitsLeft 52 = .ok (.iconst 0, 1) := by decide +kernel
theorem dX12_fitsLeft_53 : decode cX12_fitsLeft 53 = .ok (.invokevirtual 184, 3) := by decide +kernel
theorem dX12_fitsLeft_56 : decode cX12_fitsLeft 56 = .ok (.ireturn, 1) := by decide +kernel
theorem dX12_fitsLeft_57 : decode cX12_fitsLeft 57 = .ok (.aload_n 0, 1) := by decide +kernel
theorem dX12_fitsLeft_58 : decode cX12_fitsLeft 58 = .ok (.iload_n 2, 1) := by decide +kernel
theorem dX12_fitsLeft_59 : decode cX12_fitsLeft 59 = .ok (.iload_n 3, 1) := by decide +kernel
theorem dX12_fitsLeft_60 : decode cX12_fitsLeft 60 = .ok (.invokevirtual 199, 3) := by decide +kernel
theorem dX12_fitsLeft_63 : decode cX12_fitsLeft 63 = .ok (.ireturn, 1) := by decide +kernel
theorem dX12_fitsLeft_64 : decode cX12_fitsLeft 64 = .ok (.aload_n 0, 1) := by decide +kernel
theorem dX12_fitsLeft_65 : decode cX12_fitsLeft 65 = .ok (.iload_n 2, 1) := by decide +kernel
theorem dX12_fitsLeft_66 : decode cX12_fitsLeft 66 = .ok (.invokevirtual 194, 3) := by decide +kernel
theorem dX12_fitsLeft_69 : decode cX12_fitsLeft 69 = .ok (.ireturn, 1) := by decide +kernel
theorem dX12_fitsRight_0 : decode cX12_fitsRight 0 = .ok (.iload_n 1, 1) := by decide +kernel
theorem dX12_fitsRight_1 : decode cX12_fitsRight 1 = .ok (.tableswitch 122 0 7 #[47, 71, 78, 78, 85, 92, 122, 116], 47) := by decide +kernel
theorem dX12_fitsRight_48 : decode cX12_fitsRight 48 = .ok (.aload_n 0, 1) := by decide +kernel
theorem dX12_fitsRight_49 : decode cX12_fitsRight 49 = .ok (.iload_n 2, 1) := by decide +kernel
theorem dX12_fitsRight_50 : decode cX12_fitsRight 50 = .ok (.iconst 0, 1) := by decide +kernel
theorem dX12_fitsRight_51 : decode cX12_fitsRight 51 = .ok (.invokevirtual 184, 3) := by decide +kernel
theorem dX12_fitsRight_54 : decode cX12_fitsRight 54 = .ok (.ifCond .ne 12, 3) := by decide +kernel
theorem dX12_fitsRight_57 : decode cX12_fitsRight 57 = .ok (.aload_n 0, 1) := by decide +kernel
theorem dX12_fitsRight_58 : decode cX12_fitsRight 58 = .ok (.iload_n 2, 1) := by decide +kernel
theorem dX12_fitsRight_59 : decode cX12_fitsRight 59 = .ok (.iconst 3, 1) := by decide +kernel
theorem dX12_fitsRight_60 : decode cX12_fitsRight 60 = .ok (.invokevirtual 184, 3) := by decide +kernel
theorem dX12_fitsRight_63 : decode cX12_fitsRight 63 = .ok (.ifCond .eq 7, 3) := by decide +kernel
theorem dX12_fitsRight_66 : decode cX12_fitsRight 66 = .ok (.iconst 1, 1) := by decide +kernel
theorem dX12_fitsRight_67 : decode cX12_fitsRight 67 = .ok (.goto 4, 3) := by decide +kernel
theorem dX12_fitsRight_70 : decode cX12_fitsRight 70 = .ok (.iconst 0, 1) := by decide +kernel
theorem dX12_fitsRight_71 : decode cX12_fitsRight 71 = .ok (.ireturn, 1) := by decide +kernel
theorem dX12_fitsRight_72 : decode cX12_fitsRight 72 = .ok (.aload_n 0, 1) := by decide +kernel
theorem dX12_fitsRight_73 : decode cX12_fitsRight 73 = .ok (.iload_n 2, 1) := by decide +kernel
theorem dX12_fitsRight_74 : decode cX12_fitsRight 74 = .ok (.iconst 4, 1) := by decide +kernel
theorem dX12_fitsRight_75 : decode cX12_fitsRight 75 = .ok (.invokevirtual 184, 3) := by decide +kernel
theorem dX12_fitsRight_78 : decode cX12_fitsRight 78 = .ok (.ireturn, 1) := by decide +kernel
theorem dX12_fitsRight_79 : decode cX12_fitsRight 79 = .ok (.aload_n 0, 1) := by decide +kernel
theorem dX12_fitsRight_80 : decode cX12_fitsRight 80 = .ok (.iload_n 2, 1) := by decide +kernel
theorem dX12_fitsRight_81 : decode cX12_fitsRight 81 = .ok (.iconst 5, 1) := by decide +kernel
theorem dX12_fitsRight_82 : decode cX12_fitsRight 82 = .ok (.invokevirtual 184, 3) := by decide +kernel
theorem dX12_fitsRight_85 : decode cX12_fitsRight 85 = .ok (.ireturn, 1) := by decide +kernel
theorem dX12_fitsRight_86 : decode cX12_fitsRight 86 = .ok (.aload_n 0, 1) := by decide +kernel
theorem dX12_fitsRight_87 : decode cX12_fitsRight 87 = .ok (.iload_n 2, 1) := by decide +kernel
theorem dX12_fitsRight_88 : decode cX12_fitsRight 88 = .ok (.iconst 1, 1) := by decide +kernel
theorem dX12_fitsRight_89 : decode cX12_fitsRight 89 = .ok (.invokevirtual 184, 3) := by decide +kernel
theorem dX12_fitsRight_92 : decode cX12_fitsRight 92 = .ok (.ireturn, 1) := by decide +kernel
theorem dX12_fitsRight_93 : decode cX12_fitsRight 93 = .ok (.aload_n 0, 1) := by decide +kernel
theorem dX12_fitsRight_94 : decode cX12_fitsRight 94 = .ok (.iload_n 2, 1) := by decide +kernel
theorem dX12_fitsRight_95 : decode cX12_fitsRight 95 = .ok (.iconst 0, 1) := by decide +kernel
theorem dX12_fitsRight_96 : decode cX12_fitsRight 96 = .ok (.invokevirtual 184, 3) := by decide +kernel
theorem dX12_fitsRight_99 : decode cX12_fitsRight 99 = .ok (.ifCond .ne 12, 3) := by decide +kernel
theorem dX12_fitsRight_102 : decode cX12_fitsRight 102 = .ok (.aload_n 0, 1) := by decide +kernel
theorem dX12_fitsRight_103 : decode cX12_fitsRight 103 = .ok (.iload_n 2, 1) := by decide +kernel
theorem dX12_fitsRight_104 : decode cX12_fitsRight 104 = .ok (.iconst 2, 1) := by decide +kernel
theorem dX12_fitsRight_105 : decode cX12_fitsRight 105 = .ok (.invokevirtual 184, 3) := by decide +kernel
theorem dX12_fitsRight_108 : decode cX12_fitsRight 108 = .ok (.ifCond .eq 7, 3) := by decide +kernel
theorem dX12_fitsRight_111 : decode cX12_fitsRight 111 = .ok (.iconst 1, 1) := by decide +kernel
theorem dX12_fitsRight_112 : decode cX12_fitsRight 112 = .ok (.goto 4, 3) := by decide +kernel
theorem dX12_fitsRight_115 : decode cX12_fitsRight 115 = .ok (.iconst 0, 1) := by decide +kernel
theorem dX12_fitsRight_116 : decode cX12_fitsRight 116 = .ok (.ireturn, 1) := by decide +kernel
theorem dX12_fitsRight_117 : decode cX12_fitsRight 117 = .ok (.aload_n 0, 1) := by decide +kernel
theorem dX12_fitsRight_118 : decode cX12_fitsRight 118 = .ok (.iload_n 2, 1) := by decide +kernel
theorem dX12_fitsRight_119 : decode cX12_fitsRight 119 = .ok (.invokevirtual 191, 3) := by decide +kernel
theorem dX12_fitsRight_122 : decode cX12_fitsRight 122 = .ok (.ireturn, 1) := by decide +kernel
theorem dX12_fitsRight_123 : decode cX12_fitsRight 123 = .ok (.iconst 1, 1) := by decide +kernel
theorem dX12_fitsRight_124 : decode cX12_fitsRight 124 = .ok (.ireturn, 1) := by decide +kernel
theorem dX12_saidSo_0 : decode cX12_saidSo 0 = .ok (.iconst 0, 1) := by decide +kernel
theorem dX12_saidSo_1 : decode cX12_saidSo 1 = .ok (.istore 5, 2) := by decide +kernel
theorem dX12_saidSo_3 : decode cX12_saidSo 3 = .ok (.iload 5, 2) := by decide +kernel
theorem dX12_saidSo_5 : decode cX12_saidSo 5 = .ok (.aload_n 0, 1) := by decide +kernel
theorem dX12_saidSo_6 : decode cX12_saidSo 6 = .ok (.getfield 202, 3) := by decide +kernel
theorem dX12_saidSo_9 : decode cX12_saidSo 9 = .ok (.if_icmp .ge 67, 3) := by decide +kernel
theorem dX12_saidSo_12 : decode cX12_saidSo 12 = .ok (.aload_n 0, 1) := by decide +kernel
theorem dX12_saidSo_13 : decode cX12_saidSo 13 = .ok (.getfield 37, 3) := by decide +kernel
theorem dX12_saidSo_16 : decode cX12_saidSo 16 = .ok (.iload 5, 2) := by decide +kernel
theorem dX12_saidSo_18 : decode cX12_saidSo 18 = .ok (.baload, 1) := by decide +kernel
theorem dX12_saidSo_19 : decode cX12_saidSo 19 = .ok (.ifCond .eq 51, 3) := by decide +kernel
theorem dX12_saidSo_22 : decode cX12_saidSo 22 = .ok (.aload_n 0, 1) := by decide +kernel
theorem dX12_saidSo_23 : decode cX12_saidSo 23 = .ok (.getfield 25, 3) := by decide +kernel
theorem dX12_saidSo_26 : decode cX12_saidSo 26 = .ok (.iload 5, 2) := by decide +kernel
theorem dX12_saidSo_28 : decode cX12_saidSo 28 = .ok (.iaload, 1) := by decide +kernel
theorem dX12_saidSo_29 : decode cX12_saidSo 29 = .ok (.iload_n 1, 1) := by decide +kernel
theorem dX12_saidSo_30 : decode cX12_saidSo 30 = .ok (.if_icmp .ne 40, 3) := by decide +kernel
theorem dX12_saidSo_33 : decode cX12_saidSo 33 = .ok (.aload_n 0, 1) := by decide +kernel
theorem dX12_saidSo_34 : decode cX12_saidSo 34 = .ok (.getfield 28, 3) := by decide +kernel
theorem dX12_saidSo_37 : decode cX12_saidSo 37 = .ok (.iload 5, 2) := by decide +kernel
theorem dX12_saidSo_39 : decode cX12_saidSo 39 = .ok (.iaload, 1) := by decide +kernel
theorem dX12_saidSo_40 : decode cX12_saidSo 40 = .ok (.iload_n 2, 1) := by decide +kernel
theorem dX12_saidSo_41 : decode cX12_saidSo 41 = .ok (.if_icmp .ne 29, 3) := by decide +kernel
