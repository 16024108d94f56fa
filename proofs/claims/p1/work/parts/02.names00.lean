def RX0 : String := "TalePlay$Acts"
def TX0 : u_T := fun k => match k with
  | 0 => ("TalePlay$Acts", "world", "LTalePlay$World;", true)
  | 1 => ("TalePlay$Acts", "book", "LTalePlay$Book;", true)
  | 2 => ("TalePlay$Acts", "roads", "LTalePlay$Roads;", true)
  | 3 => ("TalePlay$Acts", "bulks", "LTalePlay$Bulks;", true)
  | 4 => ("TalePlay$Acts", "scene", "LTalePlay$Scene;", true)
  | 5 => ("TalePlay$Acts", "sight", "LTalePlay$Sight;", true)
  | _ => ("TalePlay$Acts", "player", "I", false)
def RX1 : String := "TalePlay$Book"
def TX1 : u_T := fun k => match k with
  | 0 => ("TalePlay$Book", "world", "LTalePlay$World;", true)
  | 1 => ("TalePlay$Book", "places", "LTalePlay$Scene;", true)
  | 2 => ("TalePlay$Book", "forms", "[I", true)
  | 3 => ("TalePlay$Book", "as", "[I", true)
  | 4 => ("TalePlay$Book", "bs", "[I", true)
  | 5 => ("TalePlay$Book", "cs", "[I", true)
  | 6 => ("TalePlay$Book", "said", "[Z", true)
  | 7 => ("TalePlay$Book", "placeBy", "[I", true)
  | 8 => ("TalePlay$Book", "exitBy", "[I", true)
  | 9 => ("TalePlay$Book", "flagBy", "[I", true)
  | 10 => ("TalePlay$Book", "keyBy", "[I", true)
  | 11 => ("TalePlay$Book", "clashRow", "[I", true)
  | 12 => ("TalePlay$Book", "clashes", "I", false)
  | 13 => ("TalePlay$Book", "total", "I", false)
  | _ => ("TalePlay$Book", "standing", "I", false)
def RX2 : String := "TalePlay$Bulks"
def TX2 : u_T := fun k => match k with
  | 0 => ("TalePlay$Bulks", "world", "LTalePlay$World;", true)
  | 1 => ("TalePlay$Bulks", "trace", "[I", true)
  | 2 => ("TalePlay$Bulks", "traced", "I", false)
  | _ => ("TalePlay$Bulks", "tracing", "Z", false)
def RX3 : String := "TalePlay$Casts"
def TX3 : u_T := fun k => match k with
  | 0 => ("TalePlay$Casts", "sorts", "[I", true)
  | 1 => ("TalePlay$Casts", "lengths", "[I", true)
  | 2 => ("TalePlay$Casts", "roles", "[I", true)
  | _ => ("TalePlay$Casts", "made", "I", false)
def RX4 : String := "TalePlay$Lines"
def TX4 : u_T := fun k => match k with
  | 0 => ("TalePlay$Lines", "sorts", "[I", true)
  | 1 => ("TalePlay$Lines", "lengths", "[I", true)
  | _ => ("TalePlay$Lines", "items", "[J", true)
def RX5 : String := "TalePlay$Roads"
def TX5 : u_T := fun k => match k with
  | 0 => ("TalePlay$Roads", "world", "LTalePlay$World;", true)
  | 1 => ("TalePlay$Roads", "book", "LTalePlay$Book;", true)
  | 2 => ("TalePlay$Roads", "leads", "[I", true)
  | 3 => ("TalePlay$Roads", "doors", "[I", true)
  | 4 => ("TalePlay$Roads", "bys", "[I", true)
  | 5 => ("TalePlay$Roads", "implied", "[I", true)
  | 6 => ("TalePlay$Roads", "firstSides", "[I", true)
  | 7 => ("TalePlay$Roads", "secondSides", "[I", true)
  | 8 => ("TalePlay$Roads", "steps", "[I", true)
  | 9 => ("TalePlay$Roads", "firsts", "[I", true)
  | _ => ("TalePlay$Roads", "queue", "[I", true)
def RX6 : String := "TalePlay$Scene"
def TX6 : u_T := fun k => match k with
  | 0 => ("TalePlay$Scene", "world", "LTalePlay$World;", true)
  | _ => ("TalePlay$Scene", "cells", "[I", true)
def RX7 : String := "TalePlay$Seeker"
def TX7 : u_T := fun k => match k with
  | 0 => ("TalePlay$Seeker", "world", "LTalePlay$World;", true)
  | 1 => ("TalePlay$Seeker", "scene", "LTalePlay$Scene;", true)
  | 2 => ("TalePlay$Seeker", "sight", "LTalePlay$Sight;", true)
  | 3 => ("TalePlay$Seeker", "acts", "LTalePlay$Acts;", true)
  | 4 => ("TalePlay$Seeker", "kept", "[I", true)
  | 5 => ("TalePlay$Seeker", "marks", "[I", true)
  | 6 => ("TalePlay$Seeker", "slots", "[I", true)
  | 7 => ("TalePlay$Seeker", "parents", "[I", true)
  | 8 => ("TalePlay$Seeker", "deeds", "[I", true)
  | 9 => ("TalePlay$Seeker", "play", "[I", true)
  | 10 => ("TalePlay$Seeker", "playLength", "I", false)
  | 11 => ("TalePlay$Seeker", "states", "I", false)
  | 12 => ("TalePlay$Seeker", "found", "I", false)
  | 13 => ("TalePlay$Seeker", "goalThing", "I", false)
  | _ => ("TalePlay$Seeker", "goalHolder", "I", false)
def RX8 : String := "TalePlay$Sight"
def TX8 : u_T := fun k => match k with
  | 0 => ("TalePlay$Sight", "world", "LTalePlay$World;", true)
  | 1 => ("TalePlay$Sight", "roads", "LTalePlay$Roads;", true)
  | 2 => ("TalePlay$Sight", "scene", "LTalePlay$Scene;", true)
  | 3 => ("TalePlay$Sight", "seen", "[Z", true)
  | 4 => ("TalePlay$Sight", "reached", "[Z", true)
  | _ => ("TalePlay$Sight", "bright", "Z", false)
def RX9 : String := "TalePlay$Tale"
def TX9 : u_T := fun k => match k with
  | 0 => ("TalePlay$Tale", "world", "LTalePlay$World;", true)
  | 1 => ("TalePlay$Tale", "book", "LTalePlay$Book;", true)
  | 2 => ("TalePlay$Tale", "scene", "LTalePlay$Scene;", true)
  | 3 => ("TalePlay$Tale", "sight", "LTalePlay$Sight;", true)
  | 4 => ("TalePlay$Tale", "acts", "LTalePlay$Acts;", true)
  | 5 => ("TalePlay$Tale", "deeds", "[I", true)
  | 6 => ("TalePlay$Tale", "subjects", "[I", true)
  | 7 => ("TalePlay$Tale", "formerCells", "[I", true)
  | 8 => ("TalePlay$Tale", "there", "Z", false)
  | 9 => ("TalePlay$Tale", "player", "I", false)
  | _ => ("TalePlay$Tale", "turns", "I", false)
def RX10 : String := "TalePlay$World"
def TX10 : u_T := fun k => match k with
  | 0 => ("TalePlay$World", "parents", "[I", true)
  | 1 => ("TalePlay$World", "sorts", "[I", true)
  | 2 => ("TalePlay$World", "standards", "[I", true)
  | 3 => ("TalePlay$World", "kindOf", "[I", true)
  | 4 => ("TalePlay$World", "sizeOf", "[I", true)
  | 5 => ("TalePlay$World", "kinds", "I", false)
  | _ => ("TalePlay$World", "objects", "I", false)
def RX11 : String := "TalePlay"
def TX11 : u_T := fun k => match k with
  | 0 => ("TalePlay", "world", "LTalePlay$World;", true)
  | 1 => ("TalePlay", "book", "LTalePlay$Book;", true)
  | 2 => ("TalePlay", "roads", "LTalePlay$Roads;", true)
  | 3 => ("TalePlay", "bulks", "LTalePlay$Bulks;", true)
  | 4 => ("TalePlay", "tale", "LTalePlay$Tale;", true)
  | 5 => ("TalePlay", "lines", "LTalePlay$Lines;", true)
  | 6 => ("TalePlay", "casts", "LTalePlay$Casts;", true)
  | 7 => ("TalePlay", "seeker", "LTalePlay$Seeker;", false)
  | 8 => ("TalePlay", "findingCounts", "[I", true)
  | 9 => ("TalePlay", "latestFinding", "I", false)
  | _ => ("TalePlay", "told", "J", false)
def RX12 : String := "TalePlayModel"
def TX12 : u_T := fun k => match k with
  | 0 => ("TalePlayModel", "latest", "I", false)
  | 1 => ("TalePlayModel", "came", "[I", true)
  | 2 => ("TalePlayModel", "kinds", "I", false)
  | 3 => ("TalePlayModel", "parentOf", "[I", true)
  | 4 => ("TalePlayModel", "defaults", "[I", true)
  | 5 => ("TalePlayModel", "objects", "I", false)
  | 6 => ("TalePlayModel", "kindOf", "[I", true)
  | 7 => ("TalePlayModel", "sizeOf", "[I", true)
  | 8 => ("TalePlayModel", "sentences", "I", false)
  | 9 => ("TalePlayModel", "form", "[I", true)
  | 10 => ("TalePlayModel", "left", "[I", true)
  | 11 => ("TalePlayModel", "middle", "[I", true)
  | 12 => ("TalePlayModel", "right", "[I", true)
  | 13 => ("TalePlayModel", "isSaid", "[Z", true)
  | 14 => ("TalePlayModel", "row", "[I", true)
  | 15 => ("TalePlayModel", "rowMany", "I", false)
  | 16 => ("TalePlayModel", "leads", "I", false)
  | 17 => ("TalePlayModel", "byDoor", "I", false)
  | 18 => ("TalePlayModel", "bySentence", "I", false)
  | 19 => ("TalePlayModel", "isImplied", "Z", false)
  | 20 => ("TalePlayModel", "far", "[I", true)
  | 21 => ("TalePlayModel", "line", "[I", true)
  | 22 => ("TalePlayModel", "player", "I", false)
  | 23 => ("TalePlayModel", "nForm", "[I", true)
  | 24 => ("TalePlayModel", "nAt", "[I", true)
  | 25 => ("TalePlayModel", "nOpen", "[Z", true)
  | 26 => ("TalePlayModel", "nLocked", "[Z", true)
  | 27 => ("TalePlayModel", "turns", "I", false)
  | 28 => ("TalePlayModel", "turnRow", "[I", true)
  | 29 => ("TalePlayModel", "wasForm", "[I", true)
  | 30 => ("TalePlayModel", "wasAt", "[I", true)
  | 31 => ("TalePlayModel", "wasOpen", "[Z", true)
  | 32 => ("TalePlayModel", "wasLocked", "[Z", true)
  | 33 => ("TalePlayModel", "traces", "Z", false)
  | 34 => ("TalePlayModel", "trace", "[I", true)
  | 35 => ("TalePlayModel", "traced", "I", false)
  | 36 => ("TalePlayModel", "isNought", "Z", false)
  | 37 => ("TalePlayModel", "asked", "J", false)
  | 38 => ("TalePlayModel", "pile", "[I", true)
  | 39 => ("TalePlayModel", "nextIn", "[I", true)
  | 40 => ("TalePlayModel", "shell", "I", false)
  | 41 => ("TalePlayModel", "handShell", "I", false)
  | 42 => ("TalePlayModel", "isLight", "Z", false)
  | 43 => ("TalePlayModel", "seen", "[Z", true)
  | 44 => ("TalePlayModel", "reached", "[Z", true)
  | 45 => ("TalePlayModel", "lit", "[Z", true)
  | 46 => ("TalePlayModel", "glass", "[Z", true)
  | 47 => ("TalePlayModel", "isBox", "[Z", true)
  | 48 => ("TalePlayModel", "isRoom", "[Z", true)
  | 49 => ("TalePlayModel", "isDoor", "[Z", true)
  | 50 => ("TalePlayModel", "states", "I", false)
  | 51 => ("TalePlayModel", "stateForm", "[B", true)
  | 52 => ("TalePlayModel", "stateAt", "[B", true)
  | 53 => ("TalePlayModel", "stateShut", "[B", true)
  | 54 => ("TalePlayModel", "stateFrom", "[I", true)
  | 55 => ("TalePlayModel", "stateAct", "[I", true)
  | 56 => ("TalePlayModel", "soughtRow", "[I", true)
  | 57 => ("TalePlayModel", "soughtMany", "I", false)
  | 58 => ("TalePlayModel", "goalX", "I", false)
  | 59 => ("TalePlayModel", "goalY", "I", false)
  | 60 => ("TalePlayModel", "lineSort", "[I", true)
  | 61 => ("TalePlayModel", "lineMany", "[I", true)
  | 62 => ("TalePlayModel", "items", "[J", true)
  | 63 => ("TalePlayModel", "hasLine", "[Z", true)
  | 64 => ("TalePlayModel", "casts", "I", false)
  | 65 => ("TalePlayModel", "castSort", "[I", true)
  | 66 => ("TalePlayModel", "castMany", "[I", true)
  | 67 => ("TalePlayModel", "roles", "[I", true)
  | _ => ("TalePlayModel", "held", "[J", true)
def tyX12 : Nat → FieldType := fun k => match k with
  | 0 => .int
  | 1 => .array .int
  | 2 => .int
  | 3 => .array .int
  | 4 => .array .int
  | 5 => .int
  | 6 => .array .int
  | 7 => .array .int
  | 8 => .int
  | 9 => .array .int
  | 10 => .array .int
  | 11 => .array .int
  | 12 => .array .int
  | 13 => .array .boolean
  | 14 => .array .int
  | 15 => .int
  | 16 => .int
  | 17 => .int
  | 18 => .int
  | 19 => .boolean
  | 20 => .array .int
  | 21 => .array .int
  | 22 => .int
  | 23 => .array .int
  | 24 => .array .int
  | 25 => .array .boolean
  | 26 => .array .boolean
  | 27 => .int
  | 28 => .array .int
  | 29 => .array .int
  | 30 => .array .int
  | 31 => .array .boolean
  | 32 => .array .boolean
  | 33 => .boolean
  | 34 => .array .int
  | 35 => .int
  | 36 => .boolean
  | 37 => .long
  | 38 => .array .int
  | 39 => .array .int
  | 40 => .int
  | 41 => .int
  | 42 => .boolean
  | 43 => .array .boolean
  | 44 => .array .boolean
  | 45 => .array .boolean
  | 46 => .array .boolean
  | 47 => .array .boolean
  | 48 => .array .boolean
  | 49 => .array .boolean
  | 50 => .int
  | 51 => .array .byte
  | 52 => .array .byte
  | 53 => .array .byte
  | 54 => .array .int
  | 55 => .array .int
  | 56 => .array .int
  | 57 => .int
  | 58 => .int
  | 59 => .int
  | 60 => .array .int
  | 61 => .array .int
  | 62 => .array .long
  | 63 => .array .boolean
  | 64 => .int
  | 65 => .array .int
  | 66 => .array .int
  | 67 => .array .int
  | _ => .array .long
abbrev wsX120 : List Cond := u_ws RX12 TX12 69
theorem nmX12 : ∀ a, a < 69 → ∀ b, b < 69 → a ≠ b → (TX12 a).2.1 ≠ (TX12 b).2.1 := by decide +kernel
theorem tyX12_ok : ∀ k, k < 69 → parseFieldDescriptor (TX12 k).2.2.1 = some (tyX12 k) := by decide +kernel
abbrev cX12_init : ByteArray := prog_14_method_1_code
def yX12_init : MethodName := ⟨RX12, "<init>", "()V"⟩
def RJ7 : String := "java/util/Arrays"
abbrev cJ7_fill_53178 : ByteArray := prog_16_method_103_code
def yJ7_fill_53178 : MethodName := ⟨RJ7, "fill", "([II)V"⟩
def wsJ7_fill_53178 : List Cond := .code yJ7_fill_53178 cJ7_fill_53178 4 none :: ([])
def wsX12_init_r1 : List Cond := [Cond.methodLink RX12 1 objectInit, Cond.instanceMethod objectInit, Cond.code objectInit ⟨#[0xb1]⟩ 1 none, Cond.arrayClass .int, Cond.fieldLink RX12 7 "TalePlayModel" "came" "[I", Cond.fieldLink RX12 13 "TalePlayModel" "parentOf" "[I", Cond.fieldLink RX12 16 "TalePlayModel" "defaults" "[I", Cond.fieldLink RX12 19 "TalePlayModel" "kindOf" "[I", Cond.fieldLink RX12 22 "TalePlayModel" "sizeOf" "[I", Cond.fieldLink RX12 25 "TalePlayModel" "form" "[I", Cond.fieldLink RX12 28 "TalePlayModel" "left" "[I", Cond.fieldLink RX12 31 "TalePlayModel" "middle" "[I", Cond.fieldLink RX12 34 "TalePlayModel" "right" "[I", Cond.arrayClass .boolean, Cond.fieldLink RX12 37 "TalePlayModel" "isSaid" "[Z", Cond.fieldLink RX12 41 "TalePlayModel" "row" "[I", Cond.fieldLink RX12 44 "TalePlayModel" "far" "[I", Cond.fieldLink RX12 47 "TalePlayModel" "line" "[I", Cond.fieldLink RX12 50 "TalePlayModel" "nForm" "[I", Cond.fieldLink RX12 53 "TalePlayModel" "nAt" "[I", Cond.fieldLink RX12 56 "TalePlayModel" "nOpen" "[Z", Cond.fieldLink RX12 59 "TalePlayModel" "nLocked" "[Z", Cond.fieldLink RX12 62 "TalePlayModel" "turnRow" "[I", Cond.fieldLink RX12 65 "TalePlayModel" "wasForm" "[I"]
def wsX12_init_r2 : List Cond := [Cond.fieldLink RX12 68 "TalePlayModel" "wasAt" "[I", Cond.fieldLink RX12 71 "TalePlayModel" "wasOpen" "[Z", Cond.fieldLink RX12 74 "TalePlayModel" "wasLocked" "[Z", Cond.fieldLink RX12 77 "TalePlayModel" "trace" "[I", Cond.fieldLink RX12 80 "TalePlayModel" "pile" "[I", Cond.fieldLink RX12 83 "TalePlayModel" "nextIn" "[I", Cond.fieldLink RX12 86 "TalePlayModel" "seen" "[Z", Cond.fieldLink RX12 89 "TalePlayModel" "reached" "[Z", Cond.fieldLink RX12 92 "TalePlayModel" "lit" "[Z", Cond.fieldLink RX12 95 "TalePlayModel" "glass" "[Z", Cond.fieldLink RX12 98 "TalePlayModel" "isBox" "[Z", Cond.fieldLink RX12 101 "TalePlayModel" "isRoom" "[Z", Cond.fieldLink RX12 104 "TalePlayModel" "isDoor" "[Z", Cond.arrayClass .byte, Cond.fieldLink RX12 107 "TalePlayModel" "stateForm" "[B", Cond.fieldLink RX12 111 "TalePlayModel" "stateAt" "[B", Cond.fieldLink RX12 114 "TalePlayModel" "stateShut" "[B", Cond.fieldLink RX12 117 "TalePlayModel" "stateFrom" "[I", Cond.fieldLink RX12 120 "TalePlayModel" "stateAct" "[I", Cond.fieldLink RX12 123 "TalePlayModel" "soughtRow" "[I", Cond.fieldLink RX12 126 "TalePlayModel" "lineSort" "[I", Cond.fieldLink RX12 129 "TalePlayModel" "lineMany" "[I", Cond.arrayClass .long, Cond.fieldLink RX12 132 "TalePlayModel" "items" "[J"]
def wsX12_init_r3 : List Cond := [Cond.fieldLink RX12 136 "TalePlayModel" "hasLine" "[Z", Cond.fieldLink RX12 139 "TalePlayModel" "castSort" "[I", Cond.fieldLink RX12 142 "TalePlayModel" "castMany" "[I", Cond.fieldLink RX12 145 "TalePlayModel" "roles" "[I", Cond.fieldLink RX12 148 "TalePlayModel" "held" "[J", Cond.fieldLink RX12 151 "TalePlayModel" "kinds" "I", Cond.fieldLink RX12 155 "TalePlayModel" "player" "I", Cond.fieldLink RX12 158 "TalePlayModel" "soughtMany" "I"]
def wsX12_init : List Cond := .code yX12_init cX12_init 2 none :: ((wsX12_init_r1 ++ (wsX12_init_r2 ++ wsX12_init_r3)) ++ wsX120)
theorem dX12_init_0 : decode cX12_init 0 = .ok (.aload_n 0, 1) := by decide +kernel
theorem dX12_init_1 : decode cX12_init 1 = .ok (.invokespecial 1, 3) := by decide +kernel
theorem dX12_init_4 : decode cX12_init 4 = .ok (.aload_n 0, 1) := by decide +kernel
theorem dX12_init_5 : decode cX12_init 5 = .ok (.bipush 7, 2) := by decide +kernel
theorem dX12_init_7 : decode cX12_init 7 = .ok (.newarray .int, 2) := by decide +kernel
theorem dX12_init_9 : decode cX12_init 9 = .ok (.putfield 7, 3) := by decide +kernel
theorem dX12_init_12 : decode cX12_init 12 = .ok (.aload_n 0, 1) := by decide +kernel
theorem dX12_init_13 : decode cX12_init 13 = .ok (.bipush 24, 2) := by decide +kernel
theorem dX12_init_15 : decode cX12_init 15 = .ok (.newarray .int, 2) := by decide +kernel
theorem dX12_init_17 : decode cX12_init 17 = .ok (.putfield 13, 3) := by decide +kernel
theorem dX12_init_20 : decode cX12_init 20 = .ok (.aload_n 0, 1) := by decide +kernel
theorem dX12_init_21 : decode cX12_init 21 = .ok (.sipush 144, 3) := by decide +kernel
theorem dX12_init_24 : decode cX12_init 24 = .ok (.newarray .int, 2) := by decide +kernel
theorem dX12_init_26 : decode cX12_init 26 = .ok (.putfield 16, 3) := by decide +kernel
theorem dX12_init_29 : decode cX12_init 29 = .ok (.aload_n 0, 1) := by decide +kernel
theorem dX12_init_30 : decode cX12_init 30 = .ok (.bipush 30, 2) := by decide +kernel
theorem dX12_init_32 : decode cX12_init 32 = .ok (.newarray .int, 2) := by decide +kernel
theorem dX12_init_34 : decode cX12_init 34 = .ok (.putfield 19, 3) := by decide +kernel
theorem dX12_init_37 : decode cX12_init 37 = .ok (.aload_n 0, 1) := by decide +kernel
theorem dX12_init_38 : decode cX12_init 38 = .ok (.bipush 30, 2) := by decide +kernel
theorem dX12_init_40 : decode cX12_init 40 = .ok (.newarray .int, 2) := by decide +kernel
theorem dX12_init_42 : decode cX12_init 42 = .ok (.putfield 22, 3) := by decide +kernel
theorem dX12_init_45 : decode cX12_init 45 = .ok (.aload_n 0, 1) := by decide +kernel
theorem dX12_init_46 : decode cX12_init 46 = .ok (.sipush 200, 3) := by decide +kernel
theorem dX12_init_49 : decode cX12_init 49 = .ok (.newarray .int, 2) := by decide +kernel
theorem dX12_init_51 : decode cX12_init 51 = .ok (.putfield 25, 3) := by decide +kernel
theorem dX12_init_54 : decode cX12_init 54 = .ok (.aload_n 0, 1) := by decide +kernel
theorem dX12_init_55 : decode cX12_init 55 = .ok (.sipush 200, 3) := by decide +kernel
theorem dX12_init_58 : decode cX12_init 58 = .ok (.newarray .int, 2) := by decide +kernel
theorem dX12_init_60 : decode cX12_init 60 = .ok (.putfield 28, 3) := by decide +kernel
theorem dX12_init_63 : decode cX12_init 63 = .ok (.aload_n 0, 1) := by decide +kernel
theorem dX12_init_64 : decode cX12_init 64 = .ok (.sipush 200, 3) := by decide +kernel
theorem dX12_init_67 : decode cX12_init 67 = .ok (.newarray .int, 2) := by decide +kernel
theorem dX12_init_69 : decode cX12_init 69 = .ok (.putfield 31, 3) := by decide +kernel
theorem dX12_init_72 : decode cX12_init 72 = .ok (.aload_n 0, 1) := by decide +kernel
theorem dX12_init_73 : decode cX12_init 73 = .ok (.sipush 200, 3) := by decide +kernel
theorem dX12_init_76 : decode cX12_init 76 = .ok (.newarray .int, 2) := by decide +kernel
theorem dX12_init_78 : decode cX12_init 78 = .ok (.putfield 34, 3) := by decide +kernel
theorem dX12_init_81 : decode cX12_init 81 = .ok (.aload_n 0, 1) := by decide +kernel
theorem dX12_init_82 : decode cX12_init 82 = .ok (.sipush 200, 3) := by decide +kernel
theorem dX12_init_85 : decode cX12_init 85 = .ok (.newarray .boolean, 2) := by decide +kernel
theorem dX12_init_87 : decode cX12_init 87 = .ok (.putfield 37, 3) := by decide +kernel
theorem dX12_init_90 : decode cX12_init 90 = .ok (.aload_n 0, 1) := by decide +kernel
theorem dX12_init_91 : decode cX12_init 91 = .ok (.sipush 200, 3) := by decide +kernel
theorem dX12_init_94 : decode cX12_init 94 = .ok (.newarray .int, 2) := by decide +kernel
theorem dX12_init_96 : decode cX12_init 96 = .ok (.putfield 41, 3) := by decide +kernel
theorem dX12_init_99 : decode cX12_init 99 = .ok (.aload_n 0, 1) := by decide +kernel
theorem dX12_init_100 : decode cX12_init 100 = .ok (.bipush 30, 2) := by decide +kernel
theorem dX12_init_102 : decode cX12_init 102 = .ok (.newarray .int, 2) := by decide +kernel
theorem dX12_init_104 : decode cX12_init 104 = .ok (.putfield 44, 3) := by decide +kernel
theorem dX12_init_107 : decode cX12_init 107 = .ok (.aload_n 0, 1) := by decide +kernel
theorem dX12_init_108 : decode cX12_init 108 = .ok (.bipush 30, 2) := by decide +kernel
theorem dX12_init_110 : decode cX12_init 110 = .ok (.newarray .int, 2) := by decide +kernel
theorem dX12_init_112 : decode cX12_init 112 = .ok (.putfield 47, 3) := by decide +kernel
theorem dX12_init_115 : decode cX12_init 115 = .ok (.aload_n 0, 1) := by decide +kernel
theorem dX12_init_116 : decode cX12_init 116 = .ok (.bipush 30, 2) := by decide +kernel
theorem dX12_init_118 : decode cX12_init 118 = .ok (.newarray .int, 2) := by decide +kernel
theorem dX12_init_120 : decode cX12_init 120 = .ok (.putfield 50, 3) := by decide +kernel
theorem dX12_init_123 : decode cX12_init 123 = .ok (.aload_n 0, 1) := by decide +kernel
theorem dX12_init_124 : decode cX12_init 124 = .ok (.bipush 30, 2) := by decide +kernel
theorem dX12_init_126 : decode cX12_init 126 = .ok (.newarray .int, 2) := by decide +kernel
theorem dX12_init_128 : decode cX12_init 128 = .ok (.putfield 53, 3) := by decide +kernel
theorem dX12_init_131 : decode cX12_init 131 = .ok (.aload_n 0, 1) := by decide +kernel
theorem dX12_init_132 : decode cX12_init 132 = .ok (.bipush 30, 2) := by decide +kernel
theorem dX12_init_134 : decode cX12_init 134 = .ok (.newarray .boolean, 2) := by decide +kernel
theorem dX12_init_136 : decode cX12_init 136 = .ok (.putfield 56, 3) := by decide +kernel
theorem dX12_init_139 : decode cX12_init 139 = .ok (.aload_n 0, 1) := by decide +kernel
theorem dX12_init_140 : decode cX12_init 140 = .ok (.bipush 30, 2) := by decide +kernel
theorem dX12_init_142 : decode cX12_init 142 = .ok (.newarray .boolean, 2) := by decide +kernel
theorem dX12_init_144 : decode cX12_init 144 = .ok (.putfield 59, 3) := by decide +kernel
theorem dX12_init_147 : decode cX12_init 147 = .ok (.aload_n 0, 1) := by decide +kernel
theorem dX12_init_148 : decode cX12_init 148 = .ok (.sipush 300, 3) := by decide +kernel
theorem dX12_init_151 : decode cX12_init 151 = .ok (.newarray .int, 2) := by decide +kernel
theorem dX12_init_153 : decode cX12_init 153 = .ok (.putfield 62, 3) := by decide +kernel
theorem dX12_init_156 : decode cX12_init 156 = .ok (.aload_n 0, 1) := by decide +kernel
theorem dX12_init_157 : decode cX12_init 157 = .ok (.sipush 3000, 3) := by decide +kernel
theorem dX12_init_160 : decode cX12_init 160 = .ok (.newarray .int, 2) := by decide +kernel
theorem dX12_init_162 : decode cX12_init 162 = .ok (.putfield 65, 3) := by decide +kernel
theorem dX12_init_165 : decode cX12_init 165 = .ok (.aload_n 0, 1) := by decide +kernel
theorem dX12_init_166 : decode cX12_init 166 = .ok (.sipush 3000, 3) := by decide +kernel
theorem dX12_init_169 : decode cX12_init 169 = .ok (.newarray .int, 2) := by decide +kernel
theorem dX12_init_171 : decode cX12_init 171 = .ok (.putfield 68, 3) := by decide +kernel
theorem dX12_init_174 : decode cX12_init 174 = .ok (.aload_n 0, 1) := by decide +kernel
theorem dX12_init_175 : decode cX12_init 175 = .ok (.sipush 3000, 3) := by decide +kernel
theorem dX12_init_178 : decode cX12_init 178 = .ok (.newarray .boolean, 2) := by decide +kernel
theorem dX12_init_180 : decode cX12_init 180 = .ok (.putfield 71, 3) := by decide +kernel
theorem dX12_init_183 : decode cX12_init 183 = .ok (.aload_n 0, 1) := by decide +kernel
theorem dX12_init_184 : decode cX12_init 184 = .ok (.sipush 3000, 3) := by decide +kernel
theorem dX12_init_187 : decode cX12_init 187 = .ok (.newarray .boolean, 2) := by decide +kernel
theorem dX12_init_189 : decode cX12_init 189 = .ok (.putfield 74, 3) := by decide +kernel
theorem dX12_init_192 : decode cX12_init 192 = .ok (.aload_n 0, 1) := by decide +kernel
theorem dX12_init_193 : decode cX12_init 193 = .ok (.bipush 100, 2) := by decide +kernel
theorem dX12_init_195 : decode cX12_init 195 = .ok (.newarray .int, 2) := by decide +kernel
theorem dX12_init_197 : decode cX12_init 197 = .ok (.putfield 77, 3) := by decide +kernel
theorem dX12_init_200 : decode cX12_init 200 = .ok (.aload_n 0, 1) := by decide +kernel
theorem dX12_init_201 : decode cX12_init 201 = .ok (.bipush 30, 2) := by decide +kernel
theorem dX12_init_203 : decode cX12_init 203 = .ok (.newarray .int, 2) := by decide +kernel
theorem dX12_init_205 : decode cX12_init 205 = .ok (.putfield 80, 3) := by decide +kernel
theorem dX12_init_208 : decode cX12_init 208 = .ok (.aload_n 0, 1) := by decide +kernel
theorem dX12_init_209 : decode cX12_init 209 = .ok (.bipush 30, 2) := by decide +kernel
theorem dX12_init_211 : decode cX12_init 211 = .ok (.newarray .int, 2) := by decide +kernel
theorem dX12_init_213 : decode cX12_init 213 = .ok (.putfield 83, 3) := by decide +kernel
theorem dX12_init_216 : decode cX12_init 216 = .ok (.aload_n 0, 1) := by decide +kernel
theorem dX12_init_217 : decode cX12_init 217 = .ok (.bipush 30, 2) := by decide +kernel
theorem dX12_init_219 : decode cX12_init 219 = .ok (.newarray .boolean, 2) := by decide +kernel
theorem dX12_init_221 : decode cX12_init 221 = .ok (.putfield 86, 3) := by decide +kernel
theorem dX12_init_224 : decode cX12_init 224 = .ok (.aload_n 0, 1) := by decide +kernel
theorem dX12_init_225 : decode cX12_init 225 = .ok (.bipush 30, 2) := by decide +kernel
theorem dX12_init_227 : decode cX12_init 227 = .ok (.newarray .boolean, 2) := by decide +kernel
theorem dX12_init_229 : decode cX12_init 229 = .ok (.putfield 89, 3) := by decide +kernel
theorem dX12_init_232 : decode cX12_init 232 = .ok (.aload_n 0, 1) := by decide +kernel
theorem dX12_init_233 : decode cX12_init 233 = .ok (.bipush 30, 2) := by decide +kernel
theorem dX12_init_235 : decode cX12_init 235 = .ok (.newarray .boolean, 2) := by decide +kernel
theorem dX12_init_237 : decode cX12_init 237 = .ok (.putfield 92, 3) := by decide +kernel
theorem dX12_init_240 : decode cX12_init 240 = .ok (.aload_n 0, 1) := by decide +kernel
theorem dX12_init_241 : decode cX12_init 241 = .ok (.bipush 30, 2) := by decide +kernel
theorem dX12_init_243 : decode cX12_init 243 = .ok (.newarray .boolean, 2) := by decide +kernel
theorem dX12_init_245 : decode cX12_init 245 = .ok (.putfield 95, 3) := by decide +kernel
theorem dX12_init_248 : decode cX12_init 248 = .ok (.aload_n 0, 1) := by decide +kernel
theorem dX12_init_249 : decode cX12_init 249 = .ok (.bipush 30, 2) := by decide +kernel
theorem dX12_init_251 : decode cX12_init 251 = .ok (.newarray .boolean, 2) := by decide +kernel
theorem dX12_init_253 : decode cX12_init 253 = .ok (.putfield 98, 3) := by decide +kernel
theorem dX12_init_256 : decode cX12_init 256 = .ok (.aload_n 0, 1) := by decide +kernel
theorem dX12_init_257 : decode cX12_init 257 = .ok (.bipush 30, 2) := by decide +kernel
theorem dX12_init_259 : decode cX12_init 259 = .ok (.newarray .boolean, 2) := by decide +kernel
theorem dX12_init_261 : decode cX12_init 261 = .ok (.putfield 101, 3) := by decide +kernel
theorem dX12_init_264 : decode cX12_init 264 = .ok (.aload_n 0, 1) := by decide +kernel
theorem dX12_init_265 : decode cX12_init 265 = .ok (.bipush 30, 2) := by decide +kernel
theorem dX12_init_267 : decode cX12_init 267 = .ok (.newarray .boolean, 2) := by decide +kernel
theorem dX12_init_269 : decode cX12_init 269 = .ok (.putfield 104, 3) := by decide +kernel
theorem dX12_init_272 : decode cX12_init 272 = .ok (.aload_n 0, 1) := by decide +kernel
theorem dX12_init_273 : decode cX12_init 273 = .ok (.sipush 9030, 3) := by decide +kernel
theorem dX12_init_276 : decode cX12_init 276 = .ok (.newarray .byte, 2) := by decide +kernel
theorem dX12_init_278 : decode cX12_init 278 = .ok (.putfield 107, 3) := by decide +kernel
theorem dX12_init_281 : decode cX12_init 281 = .ok (.aload_n 0, 1) := by decide +kernel
theorem dX12_init_282 : decode cX12_init 282 = .ok (.sipush 9030, 3) := by decide +kernel
theorem dX12_init_285 : decode cX12_init 285 = .ok (.newarray .byte, 2) := by decide +kernel
theorem dX12_init_287 : decode cX12_init 287 = .ok (.putfield 111, 3) := by decide +kernel
theorem dX12_init_290 : decode cX12_init 290 = .ok (.aload_n 0, 1) := by decide +kernel
theorem dX12_init_291 : decode cX12_init 291 = .ok (.sipush 9030, 3) := by decide +kernel
theorem dX12_init_294 : decode cX12_init 294 = .ok (.newarray .byte, 2) := by decide +kernel
theorem dX12_init_296 : decode cX12_init 296 = .ok (.putfield 114, 3) := by decide +kernel
theorem dX12_init_299 : decode cX12_init 299 = .ok (.aload_n 0, 1) := by decide +kernel
theorem dX12_init_300 : decode cX12_init 300 = .ok (.sipush 300, 3) := by decide +kernel
theorem dX12_init_303 : decode cX12_init 303 = .ok (.newarray .int, 2) := by decide +kernel
theorem dX12_init_305 : decode cX12_init 305 = .ok (.putfield 117, 3) := by decide +kernel
theorem dX12_init_308 : decode cX12_init 308 = .ok (.aload_n 0, 1) := by decide +kernel
theorem dX12_init_309 : decode cX12_init 309 = .ok (.sipush 900, 3) := by decide +kernel
theorem dX12_init_312 : decode cX12_init 312 = .ok (.newarray .int, 2) := by decide +kernel
theorem dX12_init_314 : decode cX12_init 314 = .ok (.putfield 120, 3) := by decide +kernel
theorem dX12_init_317 : decode cX12_init 317 = .ok (.aload_n 0, 1) := by decide +kernel
theorem dX12_init_318 : decode cX12_init 318 = .ok (.sipush 900, 3) := by decide +kernel
theorem dX12_init_321 : decode cX12_init 321 = .ok (.newarray .int, 2) := by decide +kernel
theorem dX12_init_323 : decode cX12_init 323 = .ok (.putfield 123, 3) := by decide +kernel
theorem dX12_init_326 : decode cX12_init 326 = .ok (.aload_n 0, 1) := by decide +kernel
theorem dX12_init_327 : decode cX12_init 327 = .ok (.bipush 30, 2) := by decide +kernel
theorem dX12_init_329 : decode cX12_init 329 = .ok (.newarray .int, 2) := by decide +kernel
theorem dX12_init_331 : decode cX12_init 331 = .ok (.putfield 126, 3) := by decide +kernel
theorem dX12_init_334 : decode cX12_init 334 = .ok (.aload_n 0, 1) := by decide +kernel
theorem dX12_init_335 : decode cX12_init 335 = .ok (.bipush 30, 2) := by decide +kernel
theorem dX12_init_337 : decode cX12_init 337 = .ok (.newarray .int, 2) := by decide +kernel
theorem dX12_init_339 : decode cX12_init 339 = .ok (.putfield 129, 3) := by decide +kernel
theorem dX12_init_342 : decode cX12_init 342 = .ok (.aload_n 0, 1) := by decide +kernel
theorem dX12_init_343 : decode cX12_init 343 = .ok (.sipush 360, 3) := by decide +kernel
theorem dX12_init_346 : decode cX12_init 346 = .ok (.newarray .long, 2) := by decide +kernel
theorem dX12_init_348 : decode cX12_init 348 = .ok (.putfield 132, 3) := by decide +kernel
theorem dX12_init_351 : decode cX12_init 351 = .ok (.aload_n 0, 1) := by decide +kernel
theorem dX12_init_352 : decode cX12_init 352 = .ok (.bipush 30, 2) := by decide +kernel
theorem dX12_init_354 : decode cX12_init 354 = .ok (.newarray .boolean, 2) := by decide +kernel
theorem dX12_init_356 : decode cX12_init 356 = .ok (.putfield 136, 3) := by decide +kernel
theorem dX12_init_359 : decode cX12_init 359 = .ok (.aload_n 0, 1) := by decide +kernel
theorem dX12_init_360 : decode cX12_init 360 = .ok (.bipush 10, 2) := by decide +kernel
theorem dX12_init_362 : decode cX12_init 362 = .ok (.newarray .int, 2) := by decide +kernel
theorem dX12_init_364 : decode cX12_init 364 = .ok (.putfield 139, 3) := by decide +kernel
theorem dX12_init_367 : decode cX12_init 367 = .ok (.aload_n 0, 1) := by decide +kernel
theorem dX12_init_368 : decode cX12_init 368 = .ok (.bipush 10, 2) := by decide +kernel
theorem dX12_init_370 : decode cX12_init 370 = .ok (.newarray .int, 2) := by decide +kernel
theorem dX12_init_372 : decode cX12_init 372 = .ok (.putfield 142, 3) := by decide +kernel
theorem dX12_init_375 : decode cX12_init 375 = .ok (.aload_n 0, 1) := by decide +kernel
theorem dX12_init_376 : decode cX12_init 376 = .ok (.bipush 120, 2) := by decide +kernel
theorem dX12_init_378 : decode cX12_init 378 = .ok (.newarray .int, 2) := by decide +kernel
theorem dX12_init_380 : decode cX12_init 380 = .ok (.putfield 145, 3) := by decide +kernel
theorem dX12_init_383 : decode cX12_init 383 = .ok (.aload_n 0, 1) := by decide +kernel
theorem dX12_init_384 : decode cX12_init 384 = .ok (.bipush 12, 2) := by decide +kernel
theorem dX12_init_386 : decode cX12_init 386 = .ok (.newarray .long, 2) := by decide +kernel
theorem dX12_init_388 : decode cX12_init 388 = .ok (.putfield 148, 3) := by decide +kernel
theorem dX12_init_391 : decode cX12_init 391 = .ok (.aload_n 0, 1) := by decide +kernel
theorem dX12_init_392 : decode cX12_init 392 = .ok (.getfield 13, 3) := by decide +kernel
theorem dX12_init_395 : decode cX12_init 395 = .ok (.iconst 0, 1) := by decide +kernel
theorem dX12_init_396 : decode cX12_init 396 = .ok (.bipush (-9), 2) := by decide +kernel
theorem dX12_init_398 : decode cX12_init 398 = .ok (.iastore, 1) := by decide +kernel
theorem dX12_init_399 : decode cX12_init 399 = .ok (.aload_n 0, 1) := by decide +kernel
theorem dX12_init_400 : decode cX12_init 400 = .ok (.getfield 13, 3) := by decide +kernel
theorem dX12_init_403 : decode cX12_init 403 = .ok (.iconst 1, 1) := by decide +kernel
theorem dX12_init_404 : decode cX12_init 404 = .ok (.bipush (-9), 2) := by decide +kernel
theorem dX12_init_406 : decode cX12_init 406 = .ok (.iastore, 1) := by decide +kernel
theorem dX12_init_407 : decode cX12_init 407 = .ok (.iconst 2, 1) := by decide +kernel
theorem dX12_init_408 : decode cX12_init 408 = .ok (.istore_n 1, 1) := by decide +kernel
theorem dX12_init_409 : decode cX12_init 409 = .ok (.iload_n 1, 1) := by decide +kernel
theorem dX12_init_410 : decode cX12_init 410 = .ok (.bipush 6, 2) := by decide +kernel
theorem dX12_init_412 : decode cX12_init 412 = .ok (.if_icmp .ge 16, 3) := by decide +kernel
theorem dX12_init_415 : decode cX12_init 415 = .ok (.aload_n 0, 1) := by decide +kernel
theorem dX12_init_416 : decode cX12_init 416 = .ok (.getfield 13, 3) := by decide +kernel
theorem dX12_init_419 : decode cX12_init 419 = .ok (.iload_n 1, 1) := by decide +kernel
theorem dX12_init_420 : decode cX12_init 420 = .ok (.iconst 1, 1) := by decide +kernel
theorem dX12_init_421 : decode cX12_init 421 = .ok (.iastore, 1) := by decide +kernel
theorem dX12_init_422 : decode cX12_init 422 = .ok (.iinc 1 1, 3) := by decide +kernel
theorem dX12_init_425 : decode cX12_init 425 = .ok (.goto (-16), 3) := by decide +kernel
theorem dX12_init_428 : decode cX12_init 428 = .ok (.aload_n 0, 1) := by decide +kernel
theorem dX12_init_429 : decode cX12_init 429 = .ok (.bipush 6, 2) := by decide +kernel
theorem dX12_init_431 : decode cX12_init 431 = .ok (.putfield 151, 3) := by decide +kernel
theorem dX12_init_434 : decode cX12_init 434 = .ok (.iconst 0, 1) := by decide +kernel
theorem dX12_init_435 : decode cX12_init 435 = .ok (.istore_n 1, 1) := by decide +kernel
theorem dX12_init_436 : decode cX12_init 436 = .ok (.iload_n 1, 1) := by decide +kernel
theorem dX12_init_437 : decode cX12_init 437 = .ok (.sipush 144, 3) := by decide +kernel
theorem dX12_init_440 : decode cX12_init 440 = .ok (.if_icmp .ge 17, 3) := by decide +kernel
theorem dX12_init_443 : decode cX12_init 443 = .ok (.aload_n 0, 1) := by decide +kernel
theorem dX12_init_444 : decode cX12_init 444 = .ok (.getfield 16, 3) := by decide +kernel
theorem dX12_init_447 : decode cX12_init 447 = .ok (.iload_n 1, 1) := by decide +kernel
theorem dX12_init_448 : decode cX12_init 448 = .ok (.bipush (-9), 2) := by decide +kernel
theorem dX12_init_450 : decode cX12_init 450 = .ok (.iastore, 1) := by decide +kernel
theorem dX12_init_451 : decode cX12_init 451 = .ok (.iinc 1 1, 3) := by decide +kernel
theorem dX12_init_454 : decode cX12_init 454 = .ok (.goto (-18), 3) := by decide +kernel
theorem dX12_init_457 : decode cX12_init 457 = .ok (.aload_n 0, 1) := by decide +kernel
theorem dX12_init_458 : decode cX12_init 458 = .ok (.bipush (-9), 2) := by decide +kernel
theorem dX12_init_460 : decode cX12_init 460 = .ok (.putfield 155, 3) := by decide +kernel
theorem dX12_init_463 : decode cX12_init 463 = .ok (.aload_n 0, 1) := by decide +kernel
theorem dX12_init_464 : decode cX12_init 464 = .ok (.bipush (-9), 2) := by decide +kernel
theorem dX12_init_466 : decode cX12_init 466 = .ok (.putfield 158, 3) := by decide +kernel
theorem dX12_init_469 : decode cX12_init 469 = .ok (.return_, 1) := by decide +kernel
theorem dJ7_fill_53178_0 : decode cJ7_fill_53178 0 = .ok (.iconst 0, 1) := by decide +kernel
theorem dJ7_fill_53178_1 : decode cJ7_fill_53178 1 = .ok (.istore_n 2, 1) := by decide +kernel
theorem dJ7_fill_53178_2 : decode cJ7_fill_53178 2 = .ok (.aload_n 0, 1) := by decide +kernel
theorem dJ7_fill_53178_3 : decode cJ7_fill_53178 3 = .ok (.arraylength, 1) := by decide +kernel
theorem dJ7_fill_53178_4 : decode cJ7_fill_53178 4 = .ok (.istore_n 3, 1) := by decide +kernel
theorem dJ7_fill_53178_5 : decode cJ7_fill_53178 5 = .ok (.iload_n 2, 1) := by decide +kernel
theorem dJ7_fill_53178_6 : decode cJ7_fill_53178 6 = .ok (.iload_n 3, 1) := by decide +kernel
theorem dJ7_fill_53178_7 : decode cJ7_fill_53178 7 = .ok (.if_icmp .ge 13, 3) := by decide +kernel
theorem dJ7_fill_53178_10 : decode cJ7_fill_53178 10 = .ok (.aload_n 0, 1) := by decide +kernel
theorem dJ7_fill_53178_11 : decode cJ7_fill_53178 11 = .ok (.iload_n 2, 1) := by decide +kernel
theorem dJ7_fill_53178_12 : decode cJ7_fill_53178 12 = .ok (.iload_n 1, 1) := by decide +kernel
theorem dJ7_fill_53178_13 : decode cJ7_fill_53178 13 = .ok (.iastore, 1) := by decide +kernel
theorem dJ7_fill_53178_14 : decode cJ7_fill_53178 14 = .ok (.iinc 2 1, 3) := by decide +kernel
theorem dJ7_fill_53178_17 : decode cJ7_fill_53178 17 = .ok (.goto (-12), 3) := by decide +kernel
theorem dJ7_fill_53178_20 : decode cJ7_fill_53178 20 = .ok (.return_, 1) := by decide +kernel
abbrev vwCl : List vw_C := [(RX0, TX0, 7), (RX1, TX1, 15), (RX2, TX2, 4), (RX3, TX3, 4), (RX4, TX4, 3), (RX5, TX5, 11), (RX6, TX6, 2), (RX7, TX7, 15), (RX8, TX8, 6), (RX9, TX9, 11), (RX10, TX10, 7), (RX11, TX11, 11), (RX12, TX12, 69)]
