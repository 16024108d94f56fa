theorem goodIn_r {big : List Cond} (ws : List Cond) (ps : List Nat) (hp : ws = ps.filterMap (fun i => big[i]?)) (h : ws.all goodWord = true) : GoodIn big ws := by
  intro w hw
  have h1 := List.all_eq_true.mp h w hw
  rw [hp] at hw
  obtain ⟨i, -, hi⟩ := List.mem_filterMap.mp hw
  have hm : w ∈ big := by first | exact List.mem_of_getElem? hi | exact List.getElem?_mem hi
  exact ⟨hm, good_of_word h1⟩
theorem goodIn_app {big a b : List Cond} (ha : GoodIn big a) (hb : GoodIn big b) : GoodIn big (a ++ b) := fun w h => (List.mem_append.mp h).elim (ha w) (hb w)
def RX0 : String := "TalePlay$Acts"
def TX0 : u_T := fun k => match k with
  | 0 => ("TalePlay$Acts", "world", "LTalePlay$World;", true)
  | 1 => ("TalePlay$Acts", "book", "LTalePlay$Book;", true)
  | 2 => ("TalePlay$Acts", "roads", "LTalePlay$Roads;", true)
  | 3 => ("TalePlay$Acts", "bulks", "LTalePlay$Bulks;", true)
  | 4 => ("TalePlay$Acts", "scene", "LTalePlay$Scene;", true)
  | 5 => ("TalePlay$Acts", "sight", "LTalePlay$Sight;", true)
  | _ => ("TalePlay$Acts", "player", "I", false)
def RX1 : String := "TalePlay$Book"
def TX1 : u_T := fun k => match k with
  | 0 => ("TalePlay$Book", "world", "LTalePlay$World;", true)
  | 1 => ("TalePlay$Book", "places", "LTalePlay$Scene;", true)
  | 2 => ("TalePlay$Book", "forms", "[I", true)
  | 3 => ("TalePlay$Book", "as", "[I", true)
  | 4 => ("TalePlay$Book", "bs", "[I", true)
  | 5 => ("TalePlay$Book", "cs", "[I", true)
  | 6 => ("TalePlay$Book", "said", "[Z", true)
  | 7 => ("TalePlay$Book", "placeBy", "[I", true)
  | 8 => ("TalePlay$Book", "exitBy", "[I", true)
  | 9 => ("TalePlay$Book", "flagBy", "[I", true)
  | 10 => ("TalePlay$Book", "keyBy", "[I", true)
  | 11 => ("TalePlay$Book", "clashRow", "[I", true)
  | 12 => ("TalePlay$Book", "clashes", "I", false)
  | 13 => ("TalePlay$Book", "total", "I", false)
  | _ => ("TalePlay$Book", "standing", "I", false)
def RX2 : String := "TalePlay$Bulks"
def TX2 : u_T := fun k => match k with
  | 0 => ("TalePlay$Bulks", "world", "LTalePlay$World;", true)
  | 1 => ("TalePlay$Bulks", "trace", "[I", true)
  | 2 => ("TalePlay$Bulks", "traced", "I", false)
  | _ => ("TalePlay$Bulks", "tracing", "Z", false)
def RX3 : String := "TalePlay$Casts"
def TX3 : u_T := fun k => match k with
  | 0 => ("TalePlay$Casts", "sorts", "[I", true)
  | 1 => ("TalePlay$Casts", "lengths", "[I", true)
  | 2 => ("TalePlay$Casts", "roles", "[I", true)
  | _ => ("TalePlay$Casts", "made", "I", false)
def RX4 : String := "TalePlay$Lines"
def TX4 : u_T := fun k => match k with
  | 0 => ("TalePlay$Lines", "sorts", "[I", true)
  | 1 => ("TalePlay$Lines", "lengths", "[I", true)
  | _ => ("TalePlay$Lines", "items", "[J", true)
def RX5 : String := "TalePlay$Roads"
def TX5 : u_T := fun k => match k with
  | 0 => ("TalePlay$Roads", "world", "LTalePlay$World;", true)
  | 1 => ("TalePlay$Roads", "book", "LTalePlay$Book;", true)
  | 2 => ("TalePlay$Roads", "leads", "[I", true)
  | 3 => ("TalePlay$Roads", "doors", "[I", true)
  | 4 => ("TalePlay$Roads", "bys", "[I", true)
  | 5 => ("TalePlay$Roads", "implied", "[I", true)
  | 6 => ("TalePlay$Roads", "firstSides", "[I", true)
  | 7 => ("TalePlay$Roads", "secondSides", "[I", true)
  | 8 => ("TalePlay$Roads", "steps", "[I", true)
  | 9 => ("TalePlay$Roads", "firsts", "[I", true)
  | _ => ("TalePlay$Roads", "queue", "[I", true)
def RX6 : String := "TalePlay$Scene"
def TX6 : u_T := fun k => match k with
  | 0 => ("TalePlay$Scene", "world", "LTalePlay$World;", true)
  | _ => ("TalePlay$Scene", "cells", "[I", true)
def RX7 : String := "TalePlay$Seeker"
def TX7 : u_T := fun k => match k with
  | 0 => ("TalePlay$Seeker", "world", "LTalePlay$World;", true)
  | 1 => ("TalePlay$Seeker", "scene", "LTalePlay$Scene;", true)
  | 2 => ("TalePlay$Seeker", "sight", "LTalePlay$Sight;", true)
  | 3 => ("TalePlay$Seeker", "acts", "LTalePlay$Acts;", true)
  | 4 => ("TalePlay$Seeker", "kept", "[I", true)
  | 5 => ("TalePlay$Seeker", "marks", "[I", true)
  | 6 => ("TalePlay$Seeker", "slots", "[I", true)
  | 7 => ("TalePlay$Seeker", "parents", "[I", true)
  | 8 => ("TalePlay$Seeker", "deeds", "[I", true)
  | 9 => ("TalePlay$Seeker", "play", "[I", true)
  | 10 => ("TalePlay$Seeker", "playLength", "I", false)
  | 11 => ("TalePlay$Seeker", "states", "I", false)
  | 12 => ("TalePlay$Seeker", "found", "I", false)
  | 13 => ("TalePlay$Seeker", "goalThing", "I", false)
  | _ => ("TalePlay$Seeker", "goalHolder", "I", false)
def RX8 : String := "TalePlay$Sight"
def TX8 : u_T := fun k => match k with
  | 0 => ("TalePlay$Sight", "world", "LTalePlay$World;", true)
  | 1 => ("TalePlay$Sight", "roads", "LTalePlay$Roads;", true)
  | 2 => ("TalePlay$Sight", "scene", "LTalePlay$Scene;", true)
  | 3 => ("TalePlay$Sight", "seen", "[Z", true)
  | 4 => ("TalePlay$Sight", "reached", "[Z", true)
  | _ => ("TalePlay$Sight", "bright", "Z", false)
def RX9 : String := "TalePlay$Tale"
def TX9 : u_T := fun k => match k with
  | 0 => ("TalePlay$Tale", "world", "LTalePlay$World;", true)
  | 1 => ("TalePlay$Tale", "book", "LTalePlay$Book;", true)
  | 2 => ("TalePlay$Tale", "scene", "LTalePlay$Scene;", true)
  | 3 => ("TalePlay$Tale", "sight", "LTalePlay$Sight;", true)
  | 4 => ("TalePlay$Tale", "acts", "LTalePlay$Acts;", true)
  | 5 => ("TalePlay$Tale", "deeds", "[I", true)
  | 6 => ("TalePlay$Tale", "subjects", "[I", true)
  | 7 => ("TalePlay$Tale", "formerCells", "[I", true)
  | 8 => ("TalePlay$Tale", "there", "Z", false)
  | 9 => ("TalePlay$Tale", "player", "I", false)
  | _ => ("TalePlay$Tale", "turns", "I", false)
def RX10 : String := "TalePlay$World"
def TX10 : u_T := fun k => match k with
  | 0 => ("TalePlay$World", "parents", "[I", true)
  | 1 => ("TalePlay$World", "sorts", "[I", true)
  | 2 => ("TalePlay$World", "standards", "[I", true)
  | 3 => ("TalePlay$World", "kindOf", "[I", true)
  | 4 => ("TalePlay$World", "sizeOf", "[I", true)
  | 5 => ("TalePlay$World", "kinds", "I", false)
  | _ => ("TalePlay$World", "objects", "I", false)
def RX11 : String := "TalePlay"
def TX11 : u_T := fun k => match k with
  | 0 => ("TalePlay", "world", "LTalePlay$World;", true)
  | 1 => ("TalePlay", "book", "LTalePlay$Book;", true)
  | 2 => ("TalePlay", "roads", "LTalePlay$Roads;", true)
  | 3 => ("TalePlay", "bulks", "LTalePlay$Bulks;", true)
  | 4 => ("TalePlay", "tale", "LTalePlay$Tale;", true)
  | 5 => ("TalePlay", "lines", "LTalePlay$Lines;", true)
  | 6 => ("TalePlay", "casts", "LTalePlay$Casts;", true)
  | 7 => ("TalePlay", "seeker", "LTalePlay$Seeker;", false)
  | 8 => ("TalePlay", "findingCounts", "[I", true)
  | 9 => ("TalePlay", "latestFinding", "I", false)
  | _ => ("TalePlay", "told", "J", false)
def RX12 : String := "TalePlayModel"
def TX12 : u_T := fun k => match k with
  | 0 => ("TalePlayModel", "latest", "I", false)
  | 1 => ("TalePlayModel", "came", "[I", true)
  | 2 => ("TalePlayModel", "kinds", "I", false)
  | 3 => ("TalePlayModel", "parentOf", "[I", true)
  | 4 => ("TalePlayModel", "defaults", "[I", true)
  | 5 => ("TalePlayModel", "objects", "I", false)
  | 6 => ("TalePlayModel", "kindOf", "[I", true)
  | 7 => ("TalePlayModel", "sizeOf", "[I", true)
  | 8 => ("TalePlayModel", "sentences", "I", false)
  | 9 => ("TalePlayModel", "form", "[I", true)
  | 10 => ("TalePlayModel", "left", "[I", true)
  | 11 => ("TalePlayModel", "middle", "[I", true)
  | 12 => ("TalePlayModel", "right", "[I", true)
  | 13 => ("TalePlayModel", "isSaid", "[Z", true)
  | 14 => ("TalePlayModel", "row", "[I", true)
  | 15 => ("TalePlayModel", "rowMany", "I", false)
  | 16 => ("TalePlayModel", "leads", "I", false)
  | 17 => ("TalePlayModel", "byDoor", "I", false)
  | 18 => ("TalePlayModel", "bySentence", "I", false)
  | 19 => ("TalePlayModel", "isImplied", "Z", false)
  | 20 => ("TalePlayModel", "far", "[I", true)
  | 21 => ("TalePlayModel", "line", "[I", true)
  | 22 => ("TalePlayModel", "player", "I", false)
  | 23 => ("TalePlayModel", "nForm", "[I", true)
  | 24 => ("TalePlayModel", "nAt", "[I", true)
  | 25 => ("TalePlayModel", "nOpen", "[Z", true)
  | 26 => ("TalePlayModel", "nLocked", "[Z", true)
  | 27 => ("TalePlayModel", "turns", "I", false)
  | 28 => ("TalePlayModel", "turnRow", "[I", true)
  | 29 => ("TalePlayModel", "wasForm", "[I", true)
  | 30 => ("TalePlayModel", "wasAt", "[I", true)
  | 31 => ("TalePlayModel", "wasOpen", "[Z", true)
  | 32 => ("TalePlayModel", "wasLocked", "[Z", true)
  | 33 => ("TalePlayModel", "traces", "Z", false)
  | 34 => ("TalePlayModel", "trace", "[I", true)
  | 35 => ("TalePlayModel", "traced", "I", false)
  | 36 => ("TalePlayModel", "isNought", "Z", false)
  | 37 => ("TalePlayModel", "asked", "J", false)
  | 38 => ("TalePlayModel", "pile", "[I", true)
  | 39 => ("TalePlayModel", "nextIn", "[I", true)
  | 40 => ("TalePlayModel", "shell", "I", false)
  | 41 => ("TalePlayModel", "handShell", "I", false)
  | 42 => ("TalePlayModel", "isLight", "Z", false)
  | 43 => ("TalePlayModel", "seen", "[Z", true)
  | 44 => ("TalePlayModel", "reached", "[Z", true)
  | 45 => ("TalePlayModel", "lit", "[Z", true)
  | 46 => ("TalePlayModel", "glass", "[Z", true)
  | 47 => ("TalePlayModel", "isBox", "[Z", true)
  | 48 => ("TalePlayModel", "isRoom", "[Z", true)
  | 49 => ("TalePlayModel", "isDoor", "[Z", true)
  | 50 => ("TalePlayModel", "states", "I", false)
  | 51 => ("TalePlayModel", "stateForm", "[B", true)
  | 52 => ("TalePlayModel", "stateAt", "[B", true)
  | 53 => ("TalePlayModel", "stateShut", "[B", true)
  | 54 => ("TalePlayModel", "stateFrom", "[I", true)
  | 55 => ("TalePlayModel", "stateAct", "[I", true)
  | 56 => ("TalePlayModel", "soughtRow", "[I", true)
  | 57 => ("TalePlayModel", "soughtMany", "I", false)
  | 58 => ("TalePlayModel", "goalX", "I", false)
  | 59 => ("TalePlayModel", "goalY", "I", false)
  | 60 => ("TalePlayModel", "lineSort", "[I", true)
  | 61 => ("TalePlayModel", "lineMany", "[I", true)
  | 62 => ("TalePlayModel", "items", "[J", true)
  | 63 => ("TalePlayModel", "hasLine", "[Z", true)
  | 64 => ("TalePlayModel", "casts", "I", false)
  | 65 => ("TalePlayModel", "castSort", "[I", true)
  | 66 => ("TalePlayModel", "castMany", "[I", true)
  | 67 => ("TalePlayModel", "roles", "[I", true)
  | _ => ("TalePlayModel", "held", "[J", true)
def tyX12 : Nat → FieldType := fun k => match k with
  | 0 => .int
  | 1 => .array .int
  | 2 => .int
  | 3 => .array .int
  | 4 => .array .int
  | 5 => .int
  | 6 => .array .int
  | 7 => .array .int
  | 8 => .int
  | 9 => .array .int
  | 10 => .array .int
  | 11 => .array .int
  | 12 => .array .int
  | 13 => .array .boolean
  | 14 => .array .int
  | 15 => .int
  | 16 => .int
  | 17 => .int
  | 18 => .int
  | 19 => .boolean
  | 20 => .array .int
  | 21 => .array .int
  | 22 => .int
  | 23 => .array .int
  | 24 => .array .int
  | 25 => .array .boolean
  | 26 => .array .boolean
  | 27 => .int
  | 28 => .array .int
  | 29 => .array .int
  | 30 => .array .int
  | 31 => .array .boolean
  | 32 => .array .boolean
  | 33 => .boolean
  | 34 => .array .int
  | 35 => .int
  | 36 => .boolean
  | 37 => .long
  | 38 => .array .int
  | 39 => .array .int
  | 40 => .int
  | 41 => .int
  | 42 => .boolean
  | 43 => .array .boolean
  | 44 => .array .boolean
  | 45 => .array .boolean
  | 46 => .array .boolean
  | 47 => .array .boolean
  | 48 => .array .boolean
  | 49 => .array .boolean
  | 50 => .int
  | 51 => .array .byte
  | 52 => .array .byte
  | 53 => .array .byte
  | 54 => .array .int
  | 55 => .array .int
  | 56 => .array .int
  | 57 => .int
  | 58 => .int
  | 59 => .int
  | 60 => .array .int
  | 61 => .array .int
  | 62 => .array .long
  | 63 => .array .boolean
  | 64 => .int
  | 65 => .array .int
  | 66 => .array .int
  | 67 => .array .int
  | _ => .array .long
abbrev wsX120 : List Cond := u_ws RX12 TX12 69
theorem nmX12 : ∀ a, a < 69 → ∀ b, b < 69 → a ≠ b → (TX12 a).2.1 ≠ (TX12 b).2.1 := by decide +kernel
theorem tyX12_ok : ∀ k, k < 69 → parseFieldDescriptor (TX12 k).2.2.1 = some (tyX12 k) := by decide +kernel
abbrev cX12_in : ByteArray := prog_14_method_2_code
def yX12_in : MethodName := ⟨RX12, "in", "(JJJ)Z"⟩
abbrev cX12_meets : ByteArray := prog_14_method_3_code
def yX12_meets : MethodName := ⟨RX12, "meets", "(I)I"⟩
abbrev cX12_isObject : ByteArray := prog_14_method_9_code
def yX12_isObject : MethodName := ⟨RX12, "isObject", "(I)Z"⟩
abbrev cX12_isOf : ByteArray := prog_14_method_10_code
def yX12_isOf : MethodName := ⟨RX12, "isOf", "(II)Z"⟩
abbrev cX12_isMovable : ByteArray := prog_14_method_12_code
def yX12_isMovable : MethodName := ⟨RX12, "isMovable", "(I)Z"⟩
abbrev cX12_isGoods : ByteArray := prog_14_method_13_code
def yX12_isGoods : MethodName := ⟨RX12, "isGoods", "(I)Z"⟩
abbrev cX12_isShutter : ByteArray := prog_14_method_14_code
def yX12_isShutter : MethodName := ⟨RX12, "isShutter", "(I)Z"⟩
abbrev cX12_mayHave : ByteArray := prog_14_method_15_code
def yX12_mayHave : MethodName := ⟨RX12, "mayHave", "(II)Z"⟩
abbrev cX12_saidSo : ByteArray := prog_14_method_19_code
def yX12_saidSo : MethodName := ⟨RX12, "saidSo", "(IIII)I"⟩
abbrev cX12_placing : ByteArray := prog_14_method_21_code
def yX12_placing : MethodName := ⟨RX12, "placing", "(I)I"⟩
abbrev cX12_saidMany : ByteArray := prog_14_method_27_code
def yX12_saidMany : MethodName := ⟨RX12, "saidMany", "()I"⟩
abbrev cX12_keyOf : ByteArray := prog_14_method_34_code
def yX12_keyOf : MethodName := ⟨RX12, "keyOf", "(I)I"⟩
abbrev cX12_otherSide : ByteArray := prog_14_method_37_code
def yX12_otherSide : MethodName := ⟨RX12, "otherSide", "(II)I"⟩
abbrev cX12_isSide : ByteArray := prog_14_method_38_code
def yX12_isSide : MethodName := ⟨RX12, "isSide", "(II)Z"⟩
abbrev cX12_endTale : ByteArray := prog_14_method_44_code
def yX12_endTale : MethodName := ⟨RX12, "endTale", "()V"⟩
abbrev cX12_hasSecond : ByteArray := prog_14_method_74_code
def yX12_hasSecond : MethodName := ⟨RX12, "hasSecond", "(I)Z"⟩
theorem dX12_in_0 : decode cX12_in 0 = .ok (.lload_n 0, 1) := by decide +kernel
theorem dX12_in_1 : decode cX12_in 1 = .ok (.lload_n 2, 1) := by decide +kernel
theorem dX12_in_2 : decode cX12_in 2 = .ok (.lcmp, 1) := by decide +kernel
theorem dX12_in_3 : decode cX12_in 3 = .ok (.ifCond .lt 14, 3) := by decide +kernel
theorem dX12_in_6 : decode cX12_in 6 = .ok (.lload_n 0, 1) := by decide +kernel
theorem dX12_in_7 : decode cX12_in 7 = .ok (.lload 4, 2) := by decide +kernel
theorem dX12_in_9 : decode cX12_in 9 = .ok (.lcmp, 1) := by decide +kernel
theorem dX12_in_10 : decode cX12_in 10 = .ok (.ifCond .gt 7, 3) := by decide +kernel
theorem dX12_in_13 : decode cX12_in 13 = .ok (.iconst 1, 1) := by decide +kernel
theorem dX12_in_14 : decode cX12_in 14 = .ok (.goto 4, 3) := by decide +kernel
theorem dX12_in_17 : decode cX12_in 17 = .ok (.iconst 0, 1) := by decide +kernel
theorem dX12_in_18 : decode cX12_in 18 = .ok (.ireturn, 1) := by decide +kernel
theorem dX12_meets_0 : decode cX12_meets 0 = .ok (.aload_n 0, 1) := by decide +kernel
theorem dX12_meets_1 : decode cX12_meets 1 = .ok (.iload_n 1, 1) := by decide +kernel
theorem dX12_meets_2 : decode cX12_meets 2 = .ok (.putfield 161, 3) := by decide +kernel
theorem dX12_meets_5 : decode cX12_meets 5 = .ok (.aload_n 0, 1) := by decide +kernel
theorem dX12_meets_6 : decode cX12_meets 6 = .ok (.getfield 7, 3) := by decide +kernel
theorem dX12_meets_9 : decode cX12_meets 9 = .ok (.iload_n 1, 1) := by decide +kernel
theorem dX12_meets_10 : decode cX12_meets 10 = .ok (.dup2, 1) := by decide +kernel
theorem dX12_meets_11 : decode cX12_meets 11 = .ok (.iaload, 1) := by decide +kernel
theorem dX12_meets_12 : decode cX12_meets 12 = .ok (.iconst 1, 1) := by decide +kernel
theorem dX12_meets_13 : decode cX12_meets 13 = .ok (.iadd, 1) := by decide +kernel
theorem dX12_meets_14 : decode cX12_meets 14 = .ok (.iastore, 1) := by decide +kernel
theorem dX12_meets_15 : decode cX12_meets 15 = .ok (.bipush (-3), 2) := by decide +kernel
theorem dX12_meets_17 : decode cX12_meets 17 = .ok (.ireturn, 1) := by decide +kernel
theorem dX12_isObject_0 : decode cX12_isObject 0 = .ok (.iload_n 1, 1) := by decide +kernel
theorem dX12_isObject_1 : decode cX12_isObject 1 = .ok (.i2l, 1) := by decide +kernel
theorem dX12_isObject_2 : decode cX12_isObject 2 = .ok (.lconst 0, 1) := by decide +kernel
theorem dX12_isObject_3 : decode cX12_isObject 3 = .ok (.aload_n 0, 1) := by decide +kernel
theorem dX12_isObject_4 : decode cX12_isObject 4 = .ok (.getfield 177, 3) := by decide +kernel
theorem dX12_isObject_7 : decode cX12_isObject 7 = .ok (.iconst 1, 1) := by decide +kernel
theorem dX12_isObject_8 : decode cX12_isObject 8 = .ok (.isub, 1) := by decide +kernel
theorem dX12_isObject_9 : decode cX12_isObject 9 = .ok (.i2l, 1) := by decide +kernel
theorem dX12_isObject_10 : decode cX12_isObject 10 = .ok (.invokestatic 166, 3) := by decide +kernel
theorem dX12_isObject_13 : decode cX12_isObject 13 = .ok (.ireturn, 1) := by decide +kernel
theorem dX12_isOf_0 : decode cX12_isOf 0 = .ok (.aload_n 0, 1) := by decide +kernel
theorem dX12_isOf_1 : decode cX12_isOf 1 = .ok (.getfield 19, 3) := by decide +kernel
theorem dX12_isOf_4 : decode cX12_isOf 4 = .ok (.iload_n 1, 1) := by decide +kernel
theorem dX12_isOf_5 : decode cX12_isOf 5 = .ok (.iaload, 1) := by decide +kernel
theorem dX12_isOf_6 : decode cX12_isOf 6 = .ok (.istore_n 3, 1) := by decide +kernel
theorem dX12_isOf_7 : decode cX12_isOf 7 = .ok (.iload_n 3, 1) := by decide +kernel
theorem dX12_isOf_8 : decode cX12_isOf 8 = .ok (.bipush (-9), 2) := by decide +kernel
theorem dX12_isOf_10 : decode cX12_isOf 10 = .ok (.if_icmp .eq 18, 3) := by decide +kernel
theorem dX12_isOf_13 : decode cX12_isOf 13 = .ok (.iload_n 3, 1) := by decide +kernel
theorem dX12_isOf_14 : decode cX12_isOf 14 = .ok (.iload_n 2, 1) := by decide +kernel
theorem dX12_isOf_15 : decode cX12_isOf 15 = .ok (.if_icmp .eq 13, 3) := by decide +kernel
theorem dX12_isOf_18 : decode cX12_isOf 18 = .ok (.aload_n 0, 1) := by decide +kernel
theorem dX12_isOf_19 : decode cX12_isOf 19 = .ok (.getfield 13, 3) := by decide +kernel
theorem dX12_isOf_22 : decode cX12_isOf 22 = .ok (.iload_n 3, 1) := by decide +kernel
theorem dX12_isOf_23 : decode cX12_isOf 23 = .ok (.iaload, 1) := by decide +kernel
theorem dX12_isOf_24 : decode cX12_isOf 24 = .ok (.istore_n 3, 1) := by decide +kernel
theorem dX12_isOf_25 : decode cX12_isOf 25 = .ok (.goto (-18), 3) := by decide +kernel
theorem dX12_isOf_28 : decode cX12_isOf 28 = .ok (.iload_n 3, 1) := by decide +kernel
theorem dX12_isOf_29 : decode cX12_isOf 29 = .ok (.iload_n 2, 1) := by decide +kernel
theorem dX12_isOf_30 : decode cX12_isOf 30 = .ok (.if_icmp .ne 7, 3) := by decide +kernel
theorem dX12_isOf_33 : decode cX12_isOf 33 = .ok (.iconst 1, 1) := by decide +kernel
theorem dX12_isOf_34 : decode cX12_isOf 34 = .ok (.goto 4, 3) := by decide +kernel
theorem dX12_isOf_37 : decode cX12_isOf 37 = .ok (.iconst 0, 1) := by decide +kernel
theorem dX12_isOf_38 : decode cX12_isOf 38 = .ok (.ireturn, 1) := by decide +kernel
theorem dX12_isMovable_0 : decode cX12_isMovable 0 = .ok (.aload_n 0, 1) := by decide +kernel
theorem dX12_isMovable_1 : decode cX12_isMovable 1 = .ok (.iload_n 1, 1) := by decide +kernel
theorem dX12_isMovable_2 : decode cX12_isMovable 2 = .ok (.iconst 1, 1) := by decide +kernel
theorem dX12_isMovable_3 : decode cX12_isMovable 3 = .ok (.invokevirtual 184, 3) := by decide +kernel
theorem dX12_isMovable_6 : decode cX12_isMovable 6 = .ok (.ifCond .eq 16, 3) := by decide +kernel
theorem dX12_isMovable_9 : decode cX12_isMovable 9 = .ok (.aload_n 0, 1) := by decide +kernel
theorem dX12_isMovable_10 : decode cX12_isMovable 10 = .ok (.iload_n 1, 1) := by decide +kernel
theorem dX12_isMovable_11 : decode cX12_isMovable 11 = .ok (.iconst 2, 1) := by decide +kernel
theorem dX12_isMovable_12 : decode cX12_isMovable 12 = .ok (.invokevirtual 184, 3) := by decide +kernel
theorem dX12_isMovable_15 : decode cX12_isMovable 15 = .ok (.ifCond .ne 7, 3) := by decide +kernel
theorem dX12_isMovable_18 : decode cX12_isMovable 18 = .ok (.iconst 1, 1) := by decide +kernel
theorem dX12_isMovable_19 : decode cX12_isMovable 19 = .ok (.goto 4, 3) := by decide +kernel
theorem dX12_isMovable_22 : decode cX12_isMovable 22 = .ok (.iconst 0, 1) := by decide +kernel
theorem dX12_isMovable_23 : decode cX12_isMovable 23 = .ok (.ireturn, 1) := by decide +kernel
theorem dX12_isGoods_0 : decode cX12_isGoods 0 = .ok (.aload_n 0, 1) := by decide +kernel
theorem dX12_isGoods_1 : decode cX12_isGoods 1 = .ok (.iload_n 1, 1) := by decide +kernel
theorem dX12_isGoods_2 : decode cX12_isGoods 2 = .ok (.invokevirtual 188, 3) := by decide +kernel
theorem dX12_isGoods_5 : decode cX12_isGoods 5 = .ok (.ifCond .eq 16, 3) := by decide +kernel
theorem dX12_isGoods_8 : decode cX12_isGoods 8 = .ok (.aload_n 0, 1) := by decide +kernel
theorem dX12_isGoods_9 : decode cX12_isGoods 9 = .ok (.iload_n 1, 1) := by decide +kernel
theorem dX12_isGoods_10 : decode cX12_isGoods 10 = .ok (.iconst 5, 1) := by decide +kernel
theorem dX12_isGoods_11 : decode cX12_isGoods 11 = .ok (.invokevirtual 184, 3) := by decide +kernel
theorem dX12_isGoods_14 : decode cX12_isGoods 14 = .ok (.ifCond .ne 7, 3) := by decide +kernel
theorem dX12_isGoods_17 : decode cX12_isGoods 17 = .ok (.iconst 1, 1) := by decide +kernel
theorem dX12_isGoods_18 : decode cX12_isGoods 18 = .ok (.goto 4, 3) := by decide +kernel
theorem dX12_isGoods_21 : decode cX12_isGoods 21 = .ok (.iconst 0, 1) := by decide +kernel
theorem dX12_isGoods_22 : decode cX12_isGoods 22 = .ok (.ireturn, 1) := by decide +kernel
theorem dX12_isShutter_0 : decode cX12_isShutter 0 = .ok (.aload_n 0, 1) := by decide +kernel
theorem dX12_isShutter_1 : decode cX12_isShutter 1 = .ok (.iload_n 1, 1) := by decide +kernel
theorem dX12_isShutter_2 : decode cX12_isShutter 2 = .ok (.iconst 2, 1) := by decide +kernel
theorem dX12_isShutter_3 : decode cX12_isShutter 3 = .ok (.invokevirtual 184, 3) := by decide +kernel
theorem dX12_isShutter_6 : decode cX12_isShutter 6 = .ok (.ifCond .ne 12, 3) := by decide +kernel
theorem dX12_isShutter_9 : decode cX12_isShutter 9 = .ok (.aload_n 0, 1) := by decide +kernel
theorem dX12_isShutter_10 : decode cX12_isShutter 10 = .ok (.iload_n 1, 1) := by decide +kernel
theorem dX12_isShutter_11 : decode cX12_isShutter 11 = .ok (.iconst 3, 1) := by decide +kernel
theorem dX12_isShutter_12 : decode cX12_isShutter 12 = .ok (.invokevirtual 184, 3) := by decide +kernel
theorem dX12_isShutter_15 : decode cX12_isShutter 15 = .ok (.ifCond .eq 7, 3) := by decide +kernel
theorem dX12_isShutter_18 : decode cX12_isShutter 18 = .ok (.iconst 1, 1) := by decide +kernel
theorem dX12_isShutter_19 : decode cX12_isShutter 19 = .ok (.goto 4, 3) := by decide +kernel
theorem dX12_isShutter_22 : decode cX12_isShutter 22 = .ok (.iconst 0, 1) := by decide +kernel
theorem dX12_isShutter_23 : decode cX12_isShutter 23 = .ok (.ireturn, 1) := by decide +kernel
theorem dX12_mayHave_0 : decode cX12_mayHave 0 = .ok (.iload_n 2, 1) := by decide +kernel
theorem dX12_mayHave_1 : decode cX12_mayHave 1 = .ok (.tableswitch 55 0 4 #[35, 35, 41, 43, 49], 35) := by decide +kernel
theorem dX12_mayHave_36 : decode cX12_mayHave 36 = .ok (.aload_n 0, 1) := by decide +kernel
theorem dX12_mayHave_37 : decode cX12_mayHave 37 = .ok (.iload_n 1, 1) := by decide +kernel
theorem dX12_mayHave_38 : decode cX12_mayHave 38 = .ok (.invokevirtual 191, 3) := by decide +kernel
theorem dX12_mayHave_41 : decode cX12_mayHave 41 = .ok (.ireturn, 1) := by decide +kernel
theorem dX12_mayHave_42 : decode cX12_mayHave 42 = .ok (.iconst 1, 1) := by decide +kernel
theorem dX12_mayHave_43 : decode cX12_mayHave 43 = .ok (.ireturn, 1) := by decide +kernel
theorem dX12_mayHave_44 : decode cX12_mayHave 44 = .ok (.aload_n 0, 1) := by decide +kernel
theorem dX12_mayHave_45 : decode cX12_mayHave 45 = .ok (.iload_n 1, 1) := by decide +kernel
theorem dX12_mayHave_46 : decode cX12_mayHave 46 = .ok (.invokevirtual 188, 3) := by decide +kernel
theorem dX12_mayHave_49 : decode cX12_mayHave 49 = .ok (.ireturn, 1) := by decide +kernel
theorem dX12_mayHave_50 : decode cX12_mayHave 50 = .ok (.aload_n 0, 1) := by decide +kernel
theorem dX12_mayHave_51 : decode cX12_mayHave 51 = .ok (.iload_n 1, 1) := by decide +kernel
theorem dX12_mayHave_52 : decode cX12_mayHave 52 = .ok (.invokevirtual 194, 3) := by decide +kernel
theorem dX12_mayHave_55 : decode cX12_mayHave 55 = .ok (.ireturn, 1) := by decide +kernel
theorem dX12_mayHave_56 : decode cX12_mayHave 56 = .ok (.aload_n 0, 1) := by decide +kernel
theorem dX12_mayHave_57 : decode cX12_mayHave 57 = .ok (.iload_n 1, 1) := by decide +kernel
theorem dX12_mayHave_58 : decode cX12_mayHave 58 = .ok (.iconst 3, 1) := by decide +kernel
theorem dX12_mayHave_59 : decode cX12_mayHave 59 = .ok (.invokevirtual 184, 3) := by decide +kernel
theorem dX12_mayHave_62 : decode cX12_mayHave 62 = .ok (.ireturn, 1) := by decide +kernel
theorem dX12_saidSo_0 : decode cX12_saidSo 0 = .ok (.iconst 0, 1) := by decide +kernel
theorem dX12_saidSo_1 : decode cX12_saidSo 1 = .ok (.istore 5, 2) := by decide +kernel
theorem dX12_saidSo_3 : decode cX12_saidSo 3 = .ok (.iload 5, 2) := by decide +kernel
theorem dX12_saidSo_5 : decode cX12_saidSo 5 = .ok (.aload_n 0, 1) := by decide +kernel
theorem dX12_saidSo_6 : decode cX12_saidSo 6 = .ok (.getfield 202, 3) := by decide +kernel
theorem dX12_saidSo_9 : decode cX12_saidSo 9 = .ok (.if_icmp .ge 67, 3) := by decide +kernel
theorem dX12_saidSo_12 : decode cX12_saidSo 12 = .ok (.aload_n 0, 1) := by decide +kernel
theorem dX12_saidSo_13 : decode cX12_saidSo 13 = .ok (.getfield 37, 3) := by decide +kernel
theorem dX12_saidSo_16 : decode cX12_saidSo 16 = .ok (.iload 5, 2) := by decide +kernel
theorem dX12_saidSo_18 : decode cX12_saidSo 18 = .ok (.baload, 1) := by decide +kernel
theorem dX12_saidSo_19 : decode cX12_saidSo 19 = .ok (.ifCond .eq 51, 3) := by decide +kernel
theorem dX12_saidSo_22 : decode cX12_saidSo 22 = .ok (.aload_n 0, 1) := by decide +kernel
theorem dX12_saidSo_23 : decode cX12_saidSo 23 = .ok (.getfield 25, 3) := by decide +kernel
theorem dX12_saidSo_26 : decode cX12_saidSo 26 = .ok (.iload 5, 2) := by decide +kernel
theorem dX12_saidSo_28 : decode cX12_saidSo 28 = .ok (.iaload, 1) := by decide +kernel
theorem dX12_saidSo_29 : decode cX12_saidSo 29 = .ok (.iload_n 1, 1) := by decide +kernel
theorem dX12_saidSo_30 : decode cX12_saidSo 30 = .ok (.if_icmp .ne 40, 3) := by decide +kernel
theorem dX12_saidSo_33 : decode cX12_saidSo 33 = .ok (.aload_n 0, 1) := by decide +kernel
theorem dX12_saidSo_34 : decode cX12_saidSo 34 = .ok (.getfield 28, 3) := by decide +kernel
theorem dX12_saidSo_37 : decode cX12_saidSo 37 = .ok (.iload 5, 2) := by decide +kernel
theorem dX12_saidSo_39 : decode cX12_saidSo 39 = .ok (.iaload, 1) := by decide +kernel
theorem dX12_saidSo_40 : decode cX12_saidSo 40 = .ok (.iload_n 2, 1) := by decide +kernel
theorem dX12_saidSo_41 : decode cX12_saidSo 41 = .ok (.if_icmp .ne 29, 3) := by decide +kernel
theorem dX12_saidSo_44 : decode cX12_saidSo 44 = .ok (.aload_n 0, 1) := by decide +kernel
theorem dX12_saidSo_45 : decode cX12_saidSo 45 = .ok (.getfield 31, 3) := by decide +kernel
theorem dX12_saidSo_48 : decode cX12_saidSo 48 = .ok (.iload 5, 2) := by decide +kernel
theorem dX12_saidSo_50 : decode cX12_saidSo 50 = .ok (.iaload, 1) := by decide +kernel
theorem dX12_saidSo_51 : decode cX12_saidSo 51 = .ok (.iload_n 3, 1) := by decide +kernel
theorem dX12_saidSo_52 : decode cX12_saidSo 52 = .ok (.if_icmp .ne 18, 3) := by decide +kernel
theorem dX12_saidSo_55 : decode cX12_saidSo 55 = .ok (.aload_n 0, 1) := by decide +kernel
theorem dX12_saidSo_56 : decode cX12_saidSo 56 = .ok (.getfield 34, 3) := by decide +kernel
theorem dX12_saidSo_59 : decode cX12_saidSo 59 = .ok (.iload 5, 2) := by decide +kernel
theorem dX12_saidSo_61 : decode cX12_saidSo 61 = .ok (.iaload, 1) := by decide +kernel
theorem dX12_saidSo_62 : decode cX12_saidSo 62 = .ok (.iload 4, 2) := by decide +kernel
theorem dX12_saidSo_64 : decode cX12_saidSo 64 = .ok (.if_icmp .ne 6, 3) := by decide +kernel
theorem dX12_saidSo_67 : decode cX12_saidSo 67 = .ok (.iload 5, 2) := by decide +kernel
theorem dX12_saidSo_69 : decode cX12_saidSo 69 = .ok (.ireturn, 1) := by decide +kernel
theorem dX12_saidSo_70 : decode cX12_saidSo 70 = .ok (.iinc 5 1, 3) := by decide +kernel
theorem dX12_saidSo_73 : decode cX12_saidSo 73 = .ok (.goto (-70), 3) := by decide +kernel
theorem dX12_saidSo_76 : decode cX12_saidSo 76 = .ok (.bipush (-9), 2) := by decide +kernel
theorem dX12_saidSo_78 : decode cX12_saidSo 78 = .ok (.ireturn, 1) := by decide +kernel
theorem dX12_placing_0 : decode cX12_placing 0 = .ok (.iconst 0, 1) := by decide +kernel
theorem dX12_placing_1 : decode cX12_placing 1 = .ok (.istore_n 2, 1) := by decide +kernel
theorem dX12_placing_2 : decode cX12_placing 2 = .ok (.iload_n 2, 1) := by decide +kernel
theorem dX12_placing_3 : decode cX12_placing 3 = .ok (.aload_n 0, 1) := by decide +kernel
theorem dX12_placing_4 : decode cX12_placing 4 = .ok (.getfield 202, 3) := by decide +kernel
theorem dX12_placing_7 : decode cX12_placing 7 = .ok (.if_icmp .ge 40, 3) := by decide +kernel
theorem dX12_placing_10 : decode cX12_placing 10 = .ok (.aload_n 0, 1) := by decide +kernel
theorem dX12_placing_11 : decode cX12_placing 11 = .ok (.getfield 37, 3) := by decide +kernel
theorem dX12_placing_14 : decode cX12_placing 14 = .ok (.iload_n 2, 1) := by decide +kernel
theorem dX12_placing_15 : decode cX12_placing 15 = .ok (.baload, 1) := by decide +kernel
theorem dX12_placing_16 : decode cX12_placing 16 = .ok (.ifCond .eq 25, 3) := by decide +kernel
theorem dX12_placing_19 : decode cX12_placing 19 = .ok (.aload_n 0, 1) := by decide +kernel
theorem dX12_placing_20 : decode cX12_placing 20 = .ok (.getfield 25, 3) := by decide +kernel
theorem dX12_placing_23 : decode cX12_placing 23 = .ok (.iload_n 2, 1) := by decide +kernel
theorem dX12_placing_24 : decode cX12_placing 24 = .ok (.iaload, 1) := by decide +kernel
theorem dX12_placing_25 : decode cX12_placing 25 = .ok (.iconst 5, 1) := by decide +kernel
theorem dX12_placing_26 : decode cX12_placing 26 = .ok (.if_icmp .ge 15, 3) := by decide +kernel
theorem dX12_placing_29 : decode cX12_placing 29 = .ok (.aload_n 0, 1) := by decide +kernel
theorem dX12_placing_30 : decode cX12_placing 30 = .ok (.getfield 28, 3) := by decide +kernel
theorem dX12_placing_33 : decode cX12_placing 33 = .ok (.iload_n 2, 1) := by decide +kernel
theorem dX12_placing_34 : decode cX12_placing 34 = .ok (.iaload, 1) := by decide +kernel
theorem dX12_placing_35 : decode cX12_placing 35 = .ok (.iload_n 1, 1) := by decide +kernel
theorem dX12_placing_36 : decode cX12_placing 36 = .ok (.if_icmp .ne 5, 3) := by decide +kernel
theorem dX12_placing_39 : decode cX12_placing 39 = .ok (.iload_n 2, 1) := by decide +kernel
theorem dX12_placing_40 : decode cX12_placing 40 = .ok (.ireturn, 1) := by decide +kernel
theorem dX12_placing_41 : decode cX12_placing 41 = .ok (.iinc 2 1, 3) := by decide +kernel
theorem dX12_placing_44 : decode cX12_placing 44 = .ok (.goto (-42), 3) := by decide +kernel
theorem dX12_placing_47 : decode cX12_placing 47 = .ok (.bipush (-9), 2) := by decide +kernel
theorem dX12_placing_49 : decode cX12_placing 49 = .ok (.ireturn, 1) := by decide +kernel
theorem dX12_saidMany_0 : decode cX12_saidMany 0 = .ok (.iconst 0, 1) := by decide +kernel
theorem dX12_saidMany_1 : decode cX12_saidMany 1 = .ok (.istore_n 1, 1) := by decide +kernel
theorem dX12_saidMany_2 : decode cX12_saidMany 2 = .ok (.iconst 0, 1) := by decide +kernel
theorem dX12_saidMany_3 : decode cX12_saidMany 3 = .ok (.istore_n 2, 1) := by decide +kernel
theorem dX12_saidMany_4 : decode cX12_saidMany 4 = .ok (.iload_n 2, 1) := by decide +kernel
theorem dX12_saidMany_5 : decode cX12_saidMany 5 = .ok (.aload_n 0, 1) := by decide +kernel
theorem dX12_saidMany_6 : decode cX12_saidMany 6 = .ok (.getfield 202, 3) := by decide +kernel
theorem dX12_saidMany_9 : decode cX12_saidMany 9 = .ok (.if_icmp .ge 26, 3) := by decide +kernel
theorem dX12_saidMany_12 : decode cX12_saidMany 12 = .ok (.iload_n 1, 1) := by decide +kernel
theorem dX12_saidMany_13 : decode cX12_saidMany 13 = .ok (.aload_n 0, 1) := by decide +kernel
theorem dX12_saidMany_14 : decode cX12_saidMany 14 = .ok (.getfield 37, 3) := by decide +kernel
theorem dX12_saidMany_17 : decode cX12_saidMany 17 = .ok (.iload_n 2, 1) := by decide +kernel
theorem dX12_saidMany_18 : decode cX12_saidMany 18 = .ok (.baload, 1) := by decide +kernel
theorem dX12_saidMany_19 : decode cX12_saidMany 19 = .ok (.ifCond .eq 7, 3) := by decide +kernel
theorem dX12_saidMany_22 : decode cX12_saidMany 22 = .ok (.iconst 1, 1) := by decide +kernel
theorem dX12_saidMany_23 : decode cX12_saidMany 23 = .ok (.goto 4, 3) := by decide +kernel
theorem dX12_saidMany_26 : decode cX12_saidMany 26 = .ok (.iconst 0, 1) := by decide +kernel
theorem dX12_saidMany_27 : decode cX12_saidMany 27 = .ok (.iadd, 1) := by decide +kernel
theorem dX12_saidMany_28 : decode cX12_saidMany 28 = .ok (.istore_n 1, 1) := by decide +kernel
theorem dX12_saidMany_29 : decode cX12_saidMany 29 = .ok (.iinc 2 1, 3) := by decide +kernel
theorem dX12_saidMany_32 : decode cX12_saidMany 32 = .ok (.goto (-28), 3) := by decide +kernel
theorem dX12_saidMany_35 : decode cX12_saidMany 35 = .ok (.iload_n 1, 1) := by decide +kernel
theorem dX12_saidMany_36 : decode cX12_saidMany 36 = .ok (.ireturn, 1) := by decide +kernel
theorem dX12_keyOf_0 : decode cX12_keyOf 0 = .ok (.iconst 0, 1) := by decide +kernel
theorem dX12_keyOf_1 : decode cX12_keyOf 1 = .ok (.istore_n 2, 1) := by decide +kernel
theorem dX12_keyOf_2 : decode cX12_keyOf 2 = .ok (.iload_n 2, 1) := by decide +kernel
theorem dX12_keyOf_3 : decode cX12_keyOf 3 = .ok (.aload_n 0, 1) := by decide +kernel
theorem dX12_keyOf_4 : decode cX12_keyOf 4 = .ok (.getfield 202, 3) := by decide +kernel
theorem dX12_keyOf_7 : decode cX12_keyOf 7 = .ok (.if_icmp .ge 46, 3) := by decide +kernel
theorem dX12_keyOf_10 : decode cX12_keyOf 10 = .ok (.aload_n 0, 1) := by decide +kernel
theorem dX12_keyOf_11 : decode cX12_keyOf 11 = .ok (.getfield 37, 3) := by decide +kernel
theorem dX12_keyOf_14 : decode cX12_keyOf 14 = .ok (.iload_n 2, 1) := by decide +kernel
theorem dX12_keyOf_15 : decode cX12_keyOf 15 = .ok (.baload, 1) := by decide +kernel
theorem dX12_keyOf_16 : decode cX12_keyOf 16 = .ok (.ifCond .eq 31, 3) := by decide +kernel
theorem dX12_keyOf_19 : decode cX12_keyOf 19 = .ok (.aload_n 0, 1) := by decide +kernel
theorem dX12_keyOf_20 : decode cX12_keyOf 20 = .ok (.getfield 25, 3) := by decide +kernel
theorem dX12_keyOf_23 : decode cX12_keyOf 23 = .ok (.iload_n 2, 1) := by decide +kernel
theorem dX12_keyOf_24 : decode cX12_keyOf 24 = .ok (.iaload, 1) := by decide +kernel
theorem dX12_keyOf_25 : decode cX12_keyOf 25 = .ok (.bipush 7, 2) := by decide +kernel
theorem dX12_keyOf_27 : decode cX12_keyOf 27 = .ok (.if_icmp .ne 20, 3) := by decide +kernel
theorem dX12_keyOf_30 : decode cX12_keyOf 30 = .ok (.aload_n 0, 1) := by decide +kernel
theorem dX12_keyOf_31 : decode cX12_keyOf 31 = .ok (.getfield 31, 3) := by decide +kernel
theorem dX12_keyOf_34 : decode cX12_keyOf 34 = .ok (.iload_n 2, 1) := by decide +kernel
theorem dX12_keyOf_35 : decode cX12_keyOf 35 = .ok (.iaload, 1) := by decide +kernel
theorem dX12_keyOf_36 : decode cX12_keyOf 36 = .ok (.iload_n 1, 1) := by decide +kernel
theorem dX12_keyOf_37 : decode cX12_keyOf 37 = .ok (.if_icmp .ne 10, 3) := by decide +kernel
theorem dX12_keyOf_40 : decode cX12_keyOf 40 = .ok (.aload_n 0, 1) := by decide +kernel
theorem dX12_keyOf_41 : decode cX12_keyOf 41 = .ok (.getfield 28, 3) := by decide +kernel
theorem dX12_keyOf_44 : decode cX12_keyOf 44 = .ok (.iload_n 2, 1) := by decide +kernel
theorem dX12_keyOf_45 : decode cX12_keyOf 45 = .ok (.iaload, 1) := by decide +kernel
theorem dX12_keyOf_46 : decode cX12_keyOf 46 = .ok (.ireturn, 1) := by decide +kernel
theorem dX12_keyOf_47 : decode cX12_keyOf 47 = .ok (.iinc 2 1, 3) := by decide +kernel
theorem dX12_keyOf_50 : decode cX12_keyOf 50 = .ok (.goto (-48), 3) := by decide +kernel
theorem dX12_keyOf_53 : decode cX12_keyOf 53 = .ok (.bipush (-9), 2) := by decide +kernel
theorem dX12_keyOf_55 : decode cX12_keyOf 55 = .ok (.ireturn, 1) := by decide +kernel
theorem dX12_otherSide_0 : decode cX12_otherSide 0 = .ok (.iconst 0, 1) := by decide +kernel
theorem dX12_otherSide_1 : decode cX12_otherSide 1 = .ok (.istore_n 3, 1) := by decide +kernel
theorem dX12_otherSide_2 : decode cX12_otherSide 2 = .ok (.iload_n 3, 1) := by decide +kernel
theorem dX12_otherSide_3 : decode cX12_otherSide 3 = .ok (.aload_n 0, 1) := by decide +kernel
theorem dX12_otherSide_4 : decode cX12_otherSide 4 = .ok (.getfield 202, 3) := by decide +kernel
theorem dX12_otherSide_7 : decode cX12_otherSide 7 = .ok (.if_icmp .ge 55, 3) := by decide +kernel
theorem dX12_otherSide_10 : decode cX12_otherSide 10 = .ok (.aload_n 0, 1) := by decide +kernel
theorem dX12_otherSide_11 : decode cX12_otherSide 11 = .ok (.getfield 37, 3) := by decide +kernel
theorem dX12_otherSide_14 : decode cX12_otherSide 14 = .ok (.iload_n 3, 1) := by decide +kernel
theorem dX12_otherSide_15 : decode cX12_otherSide 15 = .ok (.baload, 1) := by decide +kernel
theorem dX12_otherSide_16 : decode cX12_otherSide 16 = .ok (.ifCond .eq 40, 3) := by decide +kernel
theorem dX12_otherSide_19 : decode cX12_otherSide 19 = .ok (.aload_n 0, 1) := by decide +kernel
theorem dX12_otherSide_20 : decode cX12_otherSide 20 = .ok (.getfield 25, 3) := by decide +kernel
theorem dX12_otherSide_23 : decode cX12_otherSide 23 = .ok (.iload_n 3, 1) := by decide +kernel
theorem dX12_otherSide_24 : decode cX12_otherSide 24 = .ok (.iaload, 1) := by decide +kernel
theorem dX12_otherSide_25 : decode cX12_otherSide 25 = .ok (.iconst 5, 1) := by decide +kernel
theorem dX12_otherSide_26 : decode cX12_otherSide 26 = .ok (.if_icmp .ne 30, 3) := by decide +kernel
theorem dX12_otherSide_29 : decode cX12_otherSide 29 = .ok (.aload_n 0, 1) := by decide +kernel
theorem dX12_otherSide_30 : decode cX12_otherSide 30 = .ok (.getfield 31, 3) := by decide +kernel
theorem dX12_otherSide_33 : decode cX12_otherSide 33 = .ok (.iload_n 3, 1) := by decide +kernel
theorem dX12_otherSide_34 : decode cX12_otherSide 34 = .ok (.iaload, 1) := by decide +kernel
theorem dX12_otherSide_35 : decode cX12_otherSide 35 = .ok (.iload_n 1, 1) := by decide +kernel
theorem dX12_otherSide_36 : decode cX12_otherSide 36 = .ok (.if_icmp .ne 20, 3) := by decide +kernel
theorem dX12_otherSide_39 : decode cX12_otherSide 39 = .ok (.aload_n 0, 1) := by decide +kernel
theorem dX12_otherSide_40 : decode cX12_otherSide 40 = .ok (.getfield 28, 3) := by decide +kernel
theorem dX12_otherSide_43 : decode cX12_otherSide 43 = .ok (.iload_n 3, 1) := by decide +kernel
theorem dX12_otherSide_44 : decode cX12_otherSide 44 = .ok (.iaload, 1) := by decide +kernel
theorem dX12_otherSide_45 : decode cX12_otherSide 45 = .ok (.iload_n 2, 1) := by decide +kernel
theorem dX12_otherSide_46 : decode cX12_otherSide 46 = .ok (.if_icmp .eq 10, 3) := by decide +kernel
theorem dX12_otherSide_49 : decode cX12_otherSide 49 = .ok (.aload_n 0, 1) := by decide +kernel
theorem dX12_otherSide_50 : decode cX12_otherSide 50 = .ok (.getfield 28, 3) := by decide +kernel
theorem dX12_otherSide_53 : decode cX12_otherSide 53 = .ok (.iload_n 3, 1) := by decide +kernel
theorem dX12_otherSide_54 : decode cX12_otherSide 54 = .ok (.iaload, 1) := by decide +kernel
theorem dX12_otherSide_55 : decode cX12_otherSide 55 = .ok (.ireturn, 1) := by decide +kernel
theorem dX12_otherSide_56 : decode cX12_otherSide 56 = .ok (.iinc 3 1, 3) := by decide +kernel
theorem dX12_otherSide_59 : decode cX12_otherSide 59 = .ok (.goto (-57), 3) := by decide +kernel
theorem dX12_otherSide_62 : decode cX12_otherSide 62 = .ok (.bipush (-9), 2) := by decide +kernel
theorem dX12_otherSide_64 : decode cX12_otherSide 64 = .ok (.ireturn, 1) := by decide +kernel
theorem dX12_isSide_0 : decode cX12_isSide 0 = .ok (.iconst 0, 1) := by decide +kernel
theorem dX12_isSide_1 : decode cX12_isSide 1 = .ok (.istore_n 3, 1) := by decide +kernel
theorem dX12_isSide_2 : decode cX12_isSide 2 = .ok (.iload_n 3, 1) := by decide +kernel
theorem dX12_isSide_3 : decode cX12_isSide 3 = .ok (.aload_n 0, 1) := by decide +kernel
theorem dX12_isSide_4 : decode cX12_isSide 4 = .ok (.getfield 202, 3) := by decide +kernel
theorem dX12_isSide_7 : decode cX12_isSide 7 = .ok (.if_icmp .ge 50, 3) := by decide +kernel
theorem dX12_isSide_10 : decode cX12_isSide 10 = .ok (.aload_n 0, 1) := by decide +kernel
theorem dX12_isSide_11 : decode cX12_isSide 11 = .ok (.getfield 37, 3) := by decide +kernel
theorem dX12_isSide_14 : decode cX12_isSide 14 = .ok (.iload_n 3, 1) := by decide +kernel
