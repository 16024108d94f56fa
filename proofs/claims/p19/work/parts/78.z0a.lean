def wm_X5_redrawFor_e : List Cond := .code yX5_redrawFor cX5_redrawFor 2 none :: ((([.methodLink RX5 47 yX5_wipe, .instanceMethod yX5_wipe, .selects RX5 yX5_wipe yX5_wipe, .initialized RX5, .code yX5_wipe cX5_wipe 1 none, .fieldLink RX5 9 "TalePlay$Roads" "leads" "[I", .methodLink RX5 50 yJ7_fill_53178, .static yJ7_fill_53178, .initialized RJ7, .code yJ7_fill_53178 cJ7_fill_53178 4 none, .fieldLink RX5 15 "TalePlay$Roads" "doors" "[I", .fieldLink RX5 18 "TalePlay$Roads" "bys" "[I", .fieldLink RX5 21 "TalePlay$Roads" "implied" "[I", .fieldLink RX5 24 "TalePlay$Roads" "firstSides" "[I", .fieldLink RX5 27 "TalePlay$Roads" "secondSides" "[I", .methodLink RX5 56 yX5_drawSaid] : List Cond) ++ (([.instanceMethod yX5_drawSaid, .selects RX5 yX5_drawSaid yX5_drawSaid, .code yX5_drawSaid cX5_drawSaid 3 none, .fieldLink RX5 43 "TalePlay$Roads" "book" "LTalePlay$Book;", .fieldLink RX5 74 "TalePlay$Book" "total" "I", .methodLink RX5 78 yX5_isDrawn, .instanceMethod yX5_isDrawn, .selects RX5 yX5_isDrawn yX5_isDrawn, .code yX5_isDrawn cX5_isDrawn 2 (some .boolean), .fieldLink RX5 65 "TalePlay$Book" "said" "[Z", .fieldLink RX5 71 "TalePlay$Book" "forms" "[I", .fieldLink RX5 82 "TalePlay$Book" "as" "[I", .fieldLink RX5 85 "TalePlay$Book" "cs" "[I", .fieldLink RX5 88 "TalePlay$Book" "bs" "[I", .methodLink RX5 91 yX5_drawTarget, .instanceMethod yX5_drawTarget] : List Cond) ++ (([.selects RX5 yX5_drawTarget yX5_drawTarget, .code yX5_drawTarget cX5_drawTarget 4 none, .fieldLink RX5 39 "TalePlay$Roads" "world" "LTalePlay$World;", .methodLink RX5 95 yX10_sortOf, .instanceMethod yX10_sortOf, .selects RX10 yX10_sortOf yX10_sortOf, .initialized RX10, .code yX10_sortOf cX10_sortOf 2 (some .int), .fieldLink RX10 37 "TalePlay$World" "objects" "I", .fieldLink RX10 15 "TalePlay$World" "sorts" "[I", .fieldLink RX10 21 "TalePlay$World" "kindOf" "[I", .methodLink RX5 59 yX5_drawImplied, .instanceMethod yX5_drawImplied, .selects RX5 yX5_drawImplied yX5_drawImplied, .code yX5_drawImplied cX5_drawImplied 3 none, .methodLink RX5 62 yX5_drawThroughDoors] : List Cond) ++ ([.instanceMethod yX5_drawThroughDoors, .selects RX5 yX5_drawThroughDoors yX5_drawThroughDoors, .code yX5_drawThroughDoors cX5_drawThroughDoors 4 none] : List Cond)))) ++ wsX50 ++ wsX10 ++ wsX100)
set_option maxRecDepth 20000 in
theorem gm_X5_redrawFor_e_X5_wipe_e_47 : GoodIn wm_X5_redrawFor_e (wsV RX5 47 RX5 yX5_wipe wm_X5_wipe_e) := goodIn_w (List.forall_mem_append.mpr ⟨List.forall_mem_cons.mpr ⟨List.mem_cons_of_mem _ (List.mem_append_left _ (List.mem_append_left _ (List.mem_append_left _ (List.mem_append_left _ (List.mem_of_getElem? (i := 0) rfl))))), List.forall_mem_cons.mpr ⟨List.mem_cons_of_mem _ (List.mem_append_left _ (List.mem_append_left _ (List.mem_append_left _ (List.mem_append_left _ (List.mem_of_getElem? (i := 1) rfl))))), List.forall_mem_cons.mpr ⟨List.mem_cons_of_mem _ (List.mem_append_left _ (List.mem_append_left _ (List.mem_append_left _ (List.mem_append_left _ (List.mem_of_getElem? (i := 2) rfl))))), List.forall_mem_cons.mpr ⟨List.mem_cons_of_mem _ (List.mem_append_left _ (List.mem_append_left _ (List.mem_append_left _ (List.mem_append_left _ (List.mem_of_getElem? (i := 3) rfl))))), (fun _ h => absurd h List.not_mem_nil)⟩⟩⟩⟩, List.forall_mem_cons.mpr ⟨List.mem_cons_of_mem _ (List.mem_append_left _ (List.mem_append_left _ (List.mem_append_left _ (List.mem_append_left _ (List.mem_of_getElem? (i := 4) rfl))))), List.forall_mem_append.mpr ⟨List.forall_mem_cons.mpr ⟨List.mem_cons_of_mem _ (List.mem_append_left _ (List.mem_append_left _ (List.mem_append_left _ (List.mem_append_left _ (List.mem_of_getElem? (i := 5) rfl))))), List.forall_mem_cons.mpr ⟨List.mem_cons_of_mem _ (List.mem_append_left _ (List.mem_append_left _ (List.mem_append_left _ (List.mem_append_left _ (List.mem_of_getElem? (i := 6) rfl))))), List.forall_mem_cons.mpr ⟨List.mem_cons_of_mem _ (List.mem_append_left _ (List.mem_append_left _ (List.mem_append_left _ (List.mem_append_left _ (List.mem_of_getElem? (i := 7) rfl))))), List.forall_mem_cons.mpr ⟨List.mem_cons_of_mem _ (List.mem_append_left _ (List.mem_append_left _ (List.mem_append_left _ (List.mem_append_left _ (List.mem_of_getElem? (i := 8) rfl))))), List.forall_mem_cons.mpr ⟨List.mem_cons_of_mem _ (List.mem_append_left _ (List.mem_append_left _ (List.mem_append_left _ (List.mem_append_left _ (List.mem_of_getElem? (i := 9) rfl))))), List.forall_mem_cons.mpr ⟨List.mem_cons_of_mem _ (List.mem_append_left _ (List.mem_append_left _ (List.mem_append_left _ (List.mem_append_left _ (List.mem_of_getElem? (i := 10) rfl))))), List.forall_mem_cons.mpr ⟨List.mem_cons_of_mem _ (List.mem_append_left _ (List.mem_append_left _ (List.mem_append_left _ (List.mem_append_left _ (List.mem_of_getElem? (i := 11) rfl))))), List.forall_mem_cons.mpr ⟨List.mem_cons_of_mem _ (List.mem_append_left _ (List.mem_append_left _ (List.mem_append_left _ (List.mem_append_left _ (List.mem_of_getElem? (i := 12) rfl))))), List.forall_mem_cons.mpr ⟨List.mem_cons_of_mem _ (List.mem_append_left _ (List.mem_append_left _ (List.mem_append_left _ (List.mem_append_left _ (List.mem_of_getElem? (i := 13) rfl))))), List.forall_mem_cons.mpr ⟨List.mem_cons_of_mem _ (List.mem_append_left _ (List.mem_append_left _ (List.mem_append_left _ (List.mem_append_left _ (List.mem_of_getElem? (i := 14) rfl))))), (fun _ h => absurd h List.not_mem_nil)⟩⟩⟩⟩⟩⟩⟩⟩⟩⟩, (fun _ h => List.mem_cons_of_mem _ (List.mem_append_left _ (List.mem_append_left _ (List.mem_append_right _ h))))⟩⟩⟩) (by decide +kernel)
set_option maxRecDepth 20000 in
theorem gm_X5_redrawFor_e_X5_drawSaid_e_56 : GoodIn wm_X5_redrawFor_e (wsV RX5 56 RX5 yX5_drawSaid wm_X5_drawSaid_e) := goodIn_w (List.forall_mem_append.mpr ⟨List.forall_mem_cons.mpr ⟨List.mem_cons_of_mem _ (List.mem_append_left _ (List.mem_append_left _ (List.mem_append_left _ (List.mem_append_left _ (List.mem_of_getElem? (i := 15) rfl))))), List.forall_mem_cons.mpr ⟨List.mem_cons_of_mem _ (List.mem_append_left _ (List.mem_append_left _ (List.mem_append_left _ (List.mem_append_right _ (List.mem_append_left _ (List.mem_of_getElem? (i := 0) rfl)))))), List.forall_mem_cons.mpr ⟨List.mem_cons_of_mem _ (List.mem_append_left _ (List.mem_append_left _ (List.mem_append_left _ (List.mem_append_right _ (List.mem_append_left _ (List.mem_of_getElem? (i := 1) rfl)))))), List.forall_mem_cons.mpr ⟨List.mem_cons_of_mem _ (List.mem_append_left _ (List.mem_append_left _ (List.mem_append_left _ (List.mem_append_left _ (List.mem_of_getElem? (i := 3) rfl))))), (fun _ h => absurd h List.not_mem_nil)⟩⟩⟩⟩, List.forall_mem_cons.mpr ⟨List.mem_cons_of_mem _ (List.mem_append_left _ (List.mem_append_left _ (List.mem_append_left _ (List.mem_append_right _ (List.mem_append_left _ (List.mem_of_getElem? (i := 2) rfl)))))), List.forall_mem_append.mpr ⟨List.forall_mem_append.mpr ⟨List.forall_mem_append.mpr ⟨List.forall_mem_append.mpr ⟨List.forall_mem_cons.mpr ⟨List.mem_cons_of_mem _ (List.mem_append_left _ (List.mem_append_left _ (List.mem_append_left _ (List.mem_append_right _ (List.mem_append_left _ (List.mem_of_getElem? (i := 3) rfl)))))), List.forall_mem_cons.mpr ⟨List.mem_cons_of_mem _ (List.mem_append_left _ (List.mem_append_left _ (List.mem_append_left _ (List.mem_append_right _ (List.mem_append_left _ (List.mem_of_getElem? (i := 4) rfl)))))), List.forall_mem_cons.mpr ⟨List.mem_cons_of_mem _ (List.mem_append_left _ (List.mem_append_left _ (List.mem_append_left _ (List.mem_append_right _ (List.mem_append_left _ (List.mem_of_getElem? (i := 5) rfl)))))), List.forall_mem_cons.mpr ⟨List.mem_cons_of_mem _ (List.mem_append_left _ (List.mem_append_left _ (List.mem_append_left _ (List.mem_append_right _ (List.mem_append_left _ (List.mem_of_getElem? (i := 6) rfl)))))), List.forall_mem_cons.mpr ⟨List.mem_cons_of_mem _ (List.mem_append_left _ (List.mem_append_left _ (List.mem_append_left _ (List.mem_append_right _ (List.mem_append_left _ (List.mem_of_getElem? (i := 7) rfl)))))), List.forall_mem_cons.mpr ⟨List.mem_cons_of_mem _ (List.mem_append_left _ (List.mem_append_left _ (List.mem_append_left _ (List.mem_append_left _ (List.mem_of_getElem? (i := 3) rfl))))), List.forall_mem_cons.mpr ⟨List.mem_cons_of_mem _ (List.mem_append_left _ (List.mem_append_left _ (List.mem_append_left _ (List.mem_append_right _ (List.mem_append_left _ (List.mem_of_getElem? (i := 8) rfl)))))), List.forall_mem_cons.mpr ⟨List.mem_cons_of_mem _ (List.mem_append_left _ (List.mem_append_left _ (List.mem_append_left _ (List.mem_append_right _ (List.mem_append_left _ (List.mem_of_getElem? (i := 9) rfl)))))), List.forall_mem_cons.mpr ⟨List.mem_cons_of_mem _ (List.mem_append_left _ (List.mem_append_left _ (List.mem_append_left _ (List.mem_append_right _ (List.mem_append_left _ (List.mem_of_getElem? (i := 10) rfl)))))), List.forall_mem_cons.mpr ⟨List.mem_cons_of_mem _ (List.mem_append_left _ (List.mem_append_left _ (List.mem_append_left _ (List.mem_append_right _ (List.mem_append_left _ (List.mem_of_getElem? (i := 11) rfl)))))), List.forall_mem_cons.mpr ⟨List.mem_cons_of_mem _ (List.mem_append_left _ (List.mem_append_left _ (List.mem_append_left _ (List.mem_append_right _ (List.mem_append_left _ (List.mem_of_getElem? (i := 12) rfl)))))), List.forall_mem_cons.mpr ⟨List.mem_cons_of_mem _ (List.mem_append_left _ (List.mem_append_left _ (List.mem_append_left _ (List.mem_append_left _ (List.mem_of_getElem? (i := 11) rfl))))), List.forall_mem_cons.mpr ⟨List.mem_cons_of_mem _ (List.mem_append_left _ (List.mem_append_left _ (List.mem_append_left _ (List.mem_append_right _ (List.mem_append_left _ (List.mem_of_getElem? (i := 13) rfl)))))), List.forall_mem_cons.mpr ⟨List.mem_cons_of_mem _ (List.mem_append_left _ (List.mem_append_left _ (List.mem_append_left _ (List.mem_append_right _ (List.mem_append_left _ (List.mem_of_getElem? (i := 14) rfl)))))), List.forall_mem_cons.mpr ⟨List.mem_cons_of_mem _ (List.mem_append_left _ (List.mem_append_left _ (List.mem_append_left _ (List.mem_append_right _ (List.mem_append_left _ (List.mem_of_getElem? (i := 15) rfl)))))), List.forall_mem_cons.mpr ⟨List.mem_cons_of_mem _ (List.mem_append_left _ (List.mem_append_left _ (List.mem_append_left _ (List.mem_append_right _ (List.mem_append_right _ (List.mem_append_left _ (List.mem_of_getElem? (i := 0) rfl))))))), (fun _ h => absurd h List.not_mem_nil)⟩⟩⟩⟩⟩⟩⟩⟩⟩⟩⟩⟩⟩⟩⟩⟩, List.forall_mem_cons.mpr ⟨List.mem_cons_of_mem _ (List.mem_append_left _ (List.mem_append_left _ (List.mem_append_left _ (List.mem_append_right _ (List.mem_append_right _ (List.mem_append_left _ (List.mem_of_getElem? (i := 1) rfl))))))), List.forall_mem_cons.mpr ⟨List.mem_cons_of_mem _ (List.mem_append_left _ (List.mem_append_left _ (List.mem_append_left _ (List.mem_append_right _ (List.mem_append_right _ (List.mem_append_left _ (List.mem_of_getElem? (i := 2) rfl))))))), List.forall_mem_cons.mpr ⟨List.mem_cons_of_mem _ (List.mem_append_left _ (List.mem_append_left _ (List.mem_append_left _ (List.mem_append_right _ (List.mem_append_right _ (List.mem_append_left _ (List.mem_of_getElem? (i := 3) rfl))))))), List.forall_mem_cons.mpr ⟨List.mem_cons_of_mem _ (List.mem_append_left _ (List.mem_append_left _ (List.mem_append_left _ (List.mem_append_right _ (List.mem_append_right _ (List.mem_append_left _ (List.mem_of_getElem? (i := 4) rfl))))))), List.forall_mem_cons.mpr ⟨List.mem_cons_of_mem _ (List.mem_append_left _ (List.mem_append_left _ (List.mem_append_left _ (List.mem_append_right _ (List.mem_append_right _ (List.mem_append_left _ (List.mem_of_getElem? (i := 5) rfl))))))), List.forall_mem_cons.mpr ⟨List.mem_cons_of_mem _ (List.mem_append_left _ (List.mem_append_left _ (List.mem_append_left _ (List.mem_append_right _ (List.mem_append_right _ (List.mem_append_left _ (List.mem_of_getElem? (i := 6) rfl))))))), List.forall_mem_cons.mpr ⟨List.mem_cons_of_mem _ (List.mem_append_left _ (List.mem_append_left _ (List.mem_append_left _ (List.mem_append_right _ (List.mem_append_right _ (List.mem_append_left _ (List.mem_of_getElem? (i := 7) rfl))))))), List.forall_mem_cons.mpr ⟨List.mem_cons_of_mem _ (List.mem_append_left _ (List.mem_append_left _ (List.mem_append_left _ (List.mem_append_right _ (List.mem_append_right _ (List.mem_append_left _ (List.mem_of_getElem? (i := 8) rfl))))))), List.forall_mem_cons.mpr ⟨List.mem_cons_of_mem _ (List.mem_append_left _ (List.mem_append_left _ (List.mem_append_left _ (List.mem_append_right _ (List.mem_append_right _ (List.mem_append_left _ (List.mem_of_getElem? (i := 9) rfl))))))), List.forall_mem_cons.mpr ⟨List.mem_cons_of_mem _ (List.mem_append_left _ (List.mem_append_left _ (List.mem_append_left _ (List.mem_append_right _ (List.mem_append_right _ (List.mem_append_left _ (List.mem_of_getElem? (i := 10) rfl))))))), List.forall_mem_cons.mpr ⟨List.mem_cons_of_mem _ (List.mem_append_left _ (List.mem_append_left _ (List.mem_append_left _ (List.mem_append_left _ (List.mem_of_getElem? (i := 10) rfl))))), List.forall_mem_cons.mpr ⟨List.mem_cons_of_mem _ (List.mem_append_left _ (List.mem_append_left _ (List.mem_append_left _ (List.mem_append_left _ (List.mem_of_getElem? (i := 13) rfl))))), List.forall_mem_cons.mpr ⟨List.mem_cons_of_mem _ (List.mem_append_left _ (List.mem_append_left _ (List.mem_append_left _ (List.mem_append_left _ (List.mem_of_getElem? (i := 14) rfl))))), List.forall_mem_cons.mpr ⟨List.mem_cons_of_mem _ (List.mem_append_left _ (List.mem_append_left _ (List.mem_append_left _ (List.mem_append_left _ (List.mem_of_getElem? (i := 5) rfl))))), (fun _ h => absurd h List.not_mem_nil)⟩⟩⟩⟩⟩⟩⟩⟩⟩⟩⟩⟩⟩⟩⟩, (fun _ h => List.mem_cons_of_mem _ (List.mem_append_left _ (List.mem_append_left _ (List.mem_append_right _ h))))⟩, (fun _ h => List.mem_cons_of_mem _ (List.mem_append_left _ (List.mem_append_right _ h)))⟩, (fun _ h => List.mem_cons_of_mem _ (List.mem_append_right _ h))⟩⟩⟩) (by decide +kernel)
set_option maxRecDepth 20000 in
theorem gm_X5_redrawFor_e_X5_drawImplied_e_59 : GoodIn wm_X5_redrawFor_e (wsV RX5 59 RX5 yX5_drawImplied wm_X5_drawImplied_e) := goodIn_w (List.forall_mem_append.mpr ⟨List.forall_mem_cons.mpr ⟨List.mem_cons_of_mem _ (List.mem_append_left _ (List.mem_append_left _ (List.mem_append_left _ (List.mem_append_right _ (List.mem_append_right _ (List.mem_append_left _ (List.mem_of_getElem? (i := 11) rfl))))))), List.forall_mem_cons.mpr ⟨List.mem_cons_of_mem _ (List.mem_append_left _ (List.mem_append_left _ (List.mem_append_left _ (List.mem_append_right _ (List.mem_append_right _ (List.mem_append_left _ (List.mem_of_getElem? (i := 12) rfl))))))), List.forall_mem_cons.mpr ⟨List.mem_cons_of_mem _ (List.mem_append_left _ (List.mem_append_left _ (List.mem_append_left _ (List.mem_append_right _ (List.mem_append_right _ (List.mem_append_left _ (List.mem_of_getElem? (i := 13) rfl))))))), List.forall_mem_cons.mpr ⟨List.mem_cons_of_mem _ (List.mem_append_left _ (List.mem_append_left _ (List.mem_append_left _ (List.mem_append_left _ (List.mem_of_getElem? (i := 3) rfl))))), (fun _ h => absurd h List.not_mem_nil)⟩⟩⟩⟩, List.forall_mem_cons.mpr ⟨List.mem_cons_of_mem _ (List.mem_append_left _ (List.mem_append_left _ (List.mem_append_left _ (List.mem_append_right _ (List.mem_append_right _ (List.mem_append_left _ (List.mem_of_getElem? (i := 14) rfl))))))), List.forall_mem_append.mpr ⟨List.forall_mem_append.mpr ⟨List.forall_mem_append.mpr ⟨List.forall_mem_append.mpr ⟨List.forall_mem_cons.mpr ⟨List.mem_cons_of_mem _ (List.mem_append_left _ (List.mem_append_left _ (List.mem_append_left _ (List.mem_append_right _ (List.mem_append_left _ (List.mem_of_getElem? (i := 3) rfl)))))), List.forall_mem_cons.mpr ⟨List.mem_cons_of_mem _ (List.mem_append_left _ (List.mem_append_left _ (List.mem_append_left _ (List.mem_append_right _ (List.mem_append_left _ (List.mem_of_getElem? (i := 4) rfl)))))), List.forall_mem_cons.mpr ⟨List.mem_cons_of_mem _ (List.mem_append_left _ (List.mem_append_left _ (List.mem_append_left _ (List.mem_append_right _ (List.mem_append_left _ (List.mem_of_getElem? (i := 5) rfl)))))), List.forall_mem_cons.mpr ⟨List.mem_cons_of_mem _ (List.mem_append_left _ (List.mem_append_left _ (List.mem_append_left _ (List.mem_append_right _ (List.mem_append_left _ (List.mem_of_getElem? (i := 6) rfl)))))), List.forall_mem_cons.mpr ⟨List.mem_cons_of_mem _ (List.mem_append_left _ (List.mem_append_left _ (List.mem_append_left _ (List.mem_append_right _ (List.mem_append_left _ (List.mem_of_getElem? (i := 7) rfl)))))), List.forall_mem_cons.mpr ⟨List.mem_cons_of_mem _ (List.mem_append_left _ (List.mem_append_left _ (List.mem_append_left _ (List.mem_append_left _ (List.mem_of_getElem? (i := 3) rfl))))), List.forall_mem_cons.mpr ⟨List.mem_cons_of_mem _ (List.mem_append_left _ (List.mem_append_left _ (List.mem_append_left _ (List.mem_append_right _ (List.mem_append_left _ (List.mem_of_getElem? (i := 8) rfl)))))), List.forall_mem_cons.mpr ⟨List.mem_cons_of_mem _ (List.mem_append_left _ (List.mem_append_left _ (List.mem_append_left _ (List.mem_append_right _ (List.mem_append_left _ (List.mem_of_getElem? (i := 9) rfl)))))), List.forall_mem_cons.mpr ⟨List.mem_cons_of_mem _ (List.mem_append_left _ (List.mem_append_left _ (List.mem_append_left _ (List.mem_append_right _ (List.mem_append_left _ (List.mem_of_getElem? (i := 10) rfl)))))), List.forall_mem_cons.mpr ⟨List.mem_cons_of_mem _ (List.mem_append_left _ (List.mem_append_left _ (List.mem_append_left _ (List.mem_append_right _ (List.mem_append_right _ (List.mem_append_left _ (List.mem_of_getElem? (i := 2) rfl))))))), List.forall_mem_cons.mpr ⟨List.mem_cons_of_mem _ (List.mem_append_left _ (List.mem_append_left _ (List.mem_append_left _ (List.mem_append_right _ (List.mem_append_left _ (List.mem_of_getElem? (i := 13) rfl)))))), List.forall_mem_cons.mpr ⟨List.mem_cons_of_mem _ (List.mem_append_left _ (List.mem_append_left _ (List.mem_append_left _ (List.mem_append_right _ (List.mem_append_right _ (List.mem_append_left _ (List.mem_of_getElem? (i := 3) rfl))))))), List.forall_mem_cons.mpr ⟨List.mem_cons_of_mem _ (List.mem_append_left _ (List.mem_append_left _ (List.mem_append_left _ (List.mem_append_right _ (List.mem_append_right _ (List.mem_append_left _ (List.mem_of_getElem? (i := 4) rfl))))))), List.forall_mem_cons.mpr ⟨List.mem_cons_of_mem _ (List.mem_append_left _ (List.mem_append_left _ (List.mem_append_left _ (List.mem_append_right _ (List.mem_append_right _ (List.mem_append_left _ (List.mem_of_getElem? (i := 5) rfl))))))), List.forall_mem_cons.mpr ⟨List.mem_cons_of_mem _ (List.mem_append_left _ (List.mem_append_left _ (List.mem_append_left _ (List.mem_append_right _ (List.mem_append_right _ (List.mem_append_left _ (List.mem_of_getElem? (i := 6) rfl))))))), List.forall_mem_cons.mpr ⟨List.mem_cons_of_mem _ (List.mem_append_left _ (List.mem_append_left _ (List.mem_append_left _ (List.mem_append_right _ (List.mem_append_right _ (List.mem_append_left _ (List.mem_of_getElem? (i := 7) rfl))))))), (fun _ h => absurd h List.not_mem_nil)⟩⟩⟩⟩⟩⟩⟩⟩⟩⟩⟩⟩⟩⟩⟩⟩, List.forall_mem_cons.mpr ⟨List.mem_cons_of_mem _ (List.mem_append_left _ (List.mem_append_left _ (List.mem_append_left _ (List.mem_append_right _ (List.mem_append_right _ (List.mem_append_left _ (List.mem_of_getElem? (i := 8) rfl))))))), List.forall_mem_cons.mpr ⟨List.mem_cons_of_mem _ (List.mem_append_left _ (List.mem_append_left _ (List.mem_append_left _ (List.mem_append_right _ (List.mem_append_right _ (List.mem_append_left _ (List.mem_of_getElem? (i := 9) rfl))))))), List.forall_mem_cons.mpr ⟨List.mem_cons_of_mem _ (List.mem_append_left _ (List.mem_append_left _ (List.mem_append_left _ (List.mem_append_right _ (List.mem_append_right _ (List.mem_append_left _ (List.mem_of_getElem? (i := 10) rfl))))))), List.forall_mem_cons.mpr ⟨List.mem_cons_of_mem _ (List.mem_append_left _ (List.mem_append_left _ (List.mem_append_left _ (List.mem_append_right _ (List.mem_append_left _ (List.mem_of_getElem? (i := 12) rfl)))))), List.forall_mem_cons.mpr ⟨List.mem_cons_of_mem _ (List.mem_append_left _ (List.mem_append_left _ (List.mem_append_left _ (List.mem_append_left _ (List.mem_of_getElem? (i := 11) rfl))))), List.forall_mem_cons.mpr ⟨List.mem_cons_of_mem _ (List.mem_append_left _ (List.mem_append_left _ (List.mem_append_left _ (List.mem_append_left _ (List.mem_of_getElem? (i := 5) rfl))))), List.forall_mem_cons.mpr ⟨List.mem_cons_of_mem _ (List.mem_append_left _ (List.mem_append_left _ (List.mem_append_left _ (List.mem_append_right _ (List.mem_append_left _ (List.mem_of_getElem? (i := 11) rfl)))))), List.forall_mem_cons.mpr ⟨List.mem_cons_of_mem _ (List.mem_append_left _ (List.mem_append_left _ (List.mem_append_left _ (List.mem_append_left _ (List.mem_of_getElem? (i := 12) rfl))))), (fun _ h => absurd h List.not_mem_nil)⟩⟩⟩⟩⟩⟩⟩⟩⟩, (fun _ h => List.mem_cons_of_mem _ (List.mem_append_left _ (List.mem_append_left _ (List.mem_append_right _ h))))⟩, (fun _ h => List.mem_cons_of_mem _ (List.mem_append_left _ (List.mem_append_right _ h)))⟩, (fun _ h => List.mem_cons_of_mem _ (List.mem_append_right _ h))⟩⟩⟩) (by decide +kernel)
set_option maxRecDepth 20000 in
theorem gm_X5_redrawFor_e_X5_drawThroughDoors_e_62 : GoodIn wm_X5_redrawFor_e (wsV RX5 62 RX5 yX5_drawThroughDoors wm_X5_drawThroughDoors_e) := goodIn_w (List.forall_mem_append.mpr ⟨List.forall_mem_cons.mpr ⟨List.mem_cons_of_mem _ (List.mem_append_left _ (List.mem_append_left _ (List.mem_append_left _ (List.mem_append_right _ (List.mem_append_right _ (List.mem_append_left _ (List.mem_of_getElem? (i := 15) rfl))))))), List.forall_mem_cons.mpr ⟨List.mem_cons_of_mem _ (List.mem_append_left _ (List.mem_append_left _ (List.mem_append_left _ (List.mem_append_right _ (List.mem_append_right _ (List.mem_append_right _ (List.mem_of_getElem? (i := 0) rfl))))))), List.forall_mem_cons.mpr ⟨List.mem_cons_of_mem _ (List.mem_append_left _ (List.mem_append_left _ (List.mem_append_left _ (List.mem_append_right _ (List.mem_append_right _ (List.mem_append_right _ (List.mem_of_getElem? (i := 1) rfl))))))), List.forall_mem_cons.mpr ⟨List.mem_cons_of_mem _ (List.mem_append_left _ (List.mem_append_left _ (List.mem_append_left _ (List.mem_append_left _ (List.mem_of_getElem? (i := 3) rfl))))), (fun _ h => absurd h List.not_mem_nil)⟩⟩⟩⟩, List.forall_mem_cons.mpr ⟨List.mem_cons_of_mem _ (List.mem_append_left _ (List.mem_append_left _ (List.mem_append_left _ (List.mem_append_right _ (List.mem_append_right _ (List.mem_append_right _ (List.mem_of_getElem? (i := 2) rfl))))))), List.forall_mem_append.mpr ⟨List.forall_mem_cons.mpr ⟨List.mem_cons_of_mem _ (List.mem_append_left _ (List.mem_append_left _ (List.mem_append_left _ (List.mem_append_left _ (List.mem_of_getElem? (i := 10) rfl))))), List.forall_mem_cons.mpr ⟨List.mem_cons_of_mem _ (List.mem_append_left _ (List.mem_append_left _ (List.mem_append_left _ (List.mem_append_left _ (List.mem_of_getElem? (i := 13) rfl))))), List.forall_mem_cons.mpr ⟨List.mem_cons_of_mem _ (List.mem_append_left _ (List.mem_append_left _ (List.mem_append_left _ (List.mem_append_left _ (List.mem_of_getElem? (i := 5) rfl))))), List.forall_mem_cons.mpr ⟨List.mem_cons_of_mem _ (List.mem_append_left _ (List.mem_append_left _ (List.mem_append_left _ (List.mem_append_left _ (List.mem_of_getElem? (i := 14) rfl))))), (fun _ h => absurd h List.not_mem_nil)⟩⟩⟩⟩, (fun _ h => List.mem_cons_of_mem _ (List.mem_append_left _ (List.mem_append_left _ (List.mem_append_right _ h))))⟩⟩⟩) (by decide +kernel)
set_option maxHeartbeats 4000000 in
set_option maxRecDepth 100000 in
theorem x_X5_redrawFor_e (l : Launch) (D : va_G) (sz : Nat) (sk : Value) (a : Nat → Nat) (t : Nat → ClassId) (i : Nat → Int32) (q : Int64) (c : Nat → Nat → Int32) (d : Nat → Nat → Int64) (f : Int32) (hI : xInv i c) : Met l yX5_redrawFor wm_X5_redrawFor_e ({ frames := 3, cells := 0, slots := 0, locals := 66 }) (va_Pc [.ref (a 128), .int f] (yB (a 186) D sz (xwT sk a t i q c d) (xtT t))) (va_Qv (fun (u : MS) => True ∧ xInv u.1 u.2.2.1 ∧ (∀ k, k ∉ ([] : List Nat) → u.1 k = i k) ∧ (∀ k, k ∉ ([129, 130, 131, 132, 133, 134] : List Nat) → u.2.2.1 k = c k) ∧ (RdW (zX (c 106) (c 108) (i 111).toInt) (c 113) (c 114) (c 115) (c 116) (c 117) (c 129) (c 130) (c 131) (c 132) (c 133) (c 134) (u.2.2.1 129) (u.2.2.1 130) (u.2.2.1 131) (u.2.2.1 132) (u.2.2.1 133) (u.2.2.1 134) (i 124).toInt f.toInt)) (oC D (va_A (xwT sk a t i q c d) sz) (fun u : MS => xwT sk a t u.1 u.2.1 u.2.2.1 u.2.2.2) (fun _ => [])) (va_A (xwT sk a t i q c d) sz)) 0 0 (va_A (xwT sk a t i q c d) sz) := by
  refine Met.ofW (cc := cX5_redrawFor) (maxL := 2) (ret := none) (by decide +kernel) rfl ?_
  intro p e s m args below meth cd s₁ B hml hv
  obtain ⟨rfl, ⟨hsz, hP, hK, hD0⟩, hN, hZ, hBW⟩ := hv
  have hx := B.exec
  have hb := B.bytes
  have hr := B.returns
  have hts := atoms_spec (ws := wm_X5_redrawFor_e) B.pre
  have hown : s.vm.findClass RX5 = some m.cls := findClass_of_methodNamed B.named
  have hlocks := B.notSynchronized
  subst hsz
  have hD := hD0.self (sz := s.heap.size)
  have hZ := xZ_A hZ hP hBW
  generalize hAe : va_A (xwT sk a t i q c d) s.heap.size = A at hD hZ ⊢
  have hA : ∀ q : Nat, s.heap.size ≤ q → A q := fun q h => by rw [← hAe]; exact Or.inr h
  have hS : va_S A s.heap s.heap [] := va_S.rf
  have hfi : ∀ k, k ∉ ([] : List Nat) → i k = i k := fun _ _ => rfl
  have hfc : ∀ k, k ∉ ([] : List Nat) → c k = c k := fun _ _ => rfl
  have hl := lv_entry ([.ref (a 128), .int f]) (n := 2) (Nat.le_of_ble_eq_true rfl)
  rw [lg_entry_eq]
  generalize (lg_sl ([.ref (a 128), .int f]) ++ List.replicate (2 - (lg_sl ([.ref (a 128), .int f])).length) Slot.unset).toArray = ls at hl ⊢
  have hl : lv_has ls 2 [(0, .ref (a 128)), (1, .int f)] := hl
  refine lv_iload_n hx hb dX5_redrawFor_0 rfl (lv_at hl 1 rfl) ?_
  refine lv_iconst (v := 5) hx hb dX5_redrawFor_1 (by decide +kernel) ?_
  refine lv_icmp_eq (tgt := 6) hx hb dX5_redrawFor_2 (by decide +kernel) (fun c1 => ?_) (fun c1 => ?_)
  · have f1 := (ti_eq (a := f.toInt) (b := 5) rfl (by decide +kernel)).mp c1
    refine lv_aload_n hx hb dX5_redrawFor_6 rfl (lv_at hl 0 rfl) ?_
    refine al_callv (va_runV (As := []) (rest := []) ⟨hx, hb, hml, hown, hts⟩ (x_X5_wipe_e l D s.heap.size sk a t i q c d  hI ) (cwV 0 hts gm_X5_redrawFor_e_X5_wipe_e_47 rfl rfl rfl (by decide +kernel) ⟨Nat.le_of_ble_eq_true rfl, Nat.le_of_ble_eq_true rfl⟩) (yB_V hN (xZ_k hZ hS hA) (xZ_n hZ hD) hK hP hD (ci := 5) (q0 := 21) rfl rfl) rfl rfl hl.1 rfl (lv_room (Nat.le_of_ble_eq_true rfl)) dX5_redrawFor_7 ⟨Nat.le_of_ble_eq_true rfl, Nat.le_of_ble_eq_true rfl⟩) hS hA hP hD (fun u2 H locs hw2 hP hD hS => ?_)
    obtain ⟨i2, q2, c2, d2⟩ := u2
    have hw2 : True ∧ xInv i2 c2 ∧ (∀ k, k ∉ ([] : List Nat) → i2 k = i k) ∧ (∀ k, k ∉ ([129, 130, 131, 132, 133, 134] : List Nat) → c2 k = c k) ∧ (WpD (c2 131) (c2 129) (c2 130) (c2 133) (c2 134)) ∧ (Zr (c2 132)) := hw2
    obtain ⟨hw2, hI, hei2, hec2, hxp2_0, hxp2_1⟩ := hw2
    have hxp2_0 : WpD (c2 131) (c2 129) (c2 130) (c2 133) (c2 134) := hxp2_0
    have hxp2_1 : Zr (c2 132) := hxp2_1
    have hfi : ∀ k, k ∉ ([] : List Nat) → i2 k = i k := fr_z hfi hei2 (by decide +kernel) (by decide +kernel)
    have hfc : ∀ k, k ∉ ([129, 130, 131, 132, 133, 134] : List Nat) → c2 k = c k := fr_z hfc hec2 (by decide +kernel) (by decide +kernel)
    have hs_W : WpD (c2 131) (c2 129) (c2 130) (c2 133) (c2 134) := hxp2_0
    have hs_V : Zr (c2 132) := hxp2_1
    refine lv_aload_n hx hb dX5_redrawFor_10 rfl (lv_at hl 0 rfl) ?_
    have rb111_i2 : 0 ≤ (i2 111).toInt ∧ (i2 111).toInt ≤ 30 := hI.1 111
    have re111_i2 : (i2 111).toInt = (i 111).toInt := congrArg Int32.toInt (hfi 111 (by decide +kernel))
    have rb124_i2 : 0 ≤ (i2 124).toInt ∧ (i2 124).toInt ≤ 200 := hI.1 124
    have re124_i2 : (i2 124).toInt = (i 124).toInt := congrArg Int32.toInt (hfi 124 (by decide +kernel))
    refine al_callv (va_runV (As := []) (rest := []) ⟨hx, hb, hml, hown, hts⟩ (x_X5_drawSaid_e l D H.size sk a t i2 q2 c2 d2  hI hs_W) (cwV 0 hts gm_X5_redrawFor_e_X5_drawSaid_e_56 rfl rfl rfl (by decide +kernel) ⟨Nat.le_of_ble_eq_true rfl, Nat.le_of_ble_eq_true rfl⟩) (yB_V hN (xZ_k hZ hS hA) (xZ_n hZ hD) hK hP hD (ci := 5) (q0 := 21) rfl rfl) rfl rfl hl.1 rfl (lv_room (Nat.le_of_ble_eq_true rfl)) dX5_redrawFor_11 ⟨Nat.le_of_ble_eq_true rfl, Nat.le_of_ble_eq_true rfl⟩) hS hA hP hD (fun u3 H locs hw3 hP hD hS => ?_)
    obtain ⟨i3, q3, c3, d3⟩ := u3
    have hw3 : True ∧ xInv i3 c3 ∧ (∀ k, k ∉ ([] : List Nat) → i3 k = i2 k) ∧ (∀ k, k ∉ ([129, 130, 131, 133, 134] : List Nat) → c3 k = c2 k) ∧ (D1 (zX (c2 106) (c2 108) (i2 111).toInt) (c2 113) (c2 114) (c2 115) (c2 116) (c2 117) (i2 124).toInt.toNat (c3 131) (c3 129) (c3 130) (c3 133) (c3 134)) := hw3
    obtain ⟨hw3, hI, hei3, hec3, hxp3_0⟩ := hw3
    have hxp3_0 : D1 (zX (c 106) (c 108) (i 111).toInt) (c 113) (c 114) (c 115) (c 116) (c 117) (i 124).toInt.toNat (c3 131) (c3 129) (c3 130) (c3 133) (c3 134) := by have h9 := hxp3_0; rw [show c2 106 = c 106 from hfc 106 (by decide +kernel), show c2 108 = c 108 from hfc 108 (by decide +kernel), show c2 113 = c 113 from hfc 113 (by decide +kernel), show c2 114 = c 114 from hfc 114 (by decide +kernel), show c2 115 = c 115 from hfc 115 (by decide +kernel), show c2 116 = c 116 from hfc 116 (by decide +kernel), show c2 117 = c 117 from hfc 117 (by decide +kernel), show i2 111 = i 111 from hfi 111 (by decide +kernel), show i2 124 = i 124 from hfi 124 (by decide +kernel)] at h9; exact h9
    have hfi : ∀ k, k ∉ ([] : List Nat) → i3 k = i k := fr_z hfi hei3 (by decide +kernel) (by decide +kernel)
    have hfc : ∀ k, k ∉ ([129, 130, 131, 132, 133, 134] : List Nat) → c3 k = c k := fr_z hfc hec3 (by decide +kernel) (by decide +kernel)
    have hs_V : Zr (c3 132) := by rw [show c3 132 = c2 132 from hec3 132 (by decide +kernel)]; exact hs_V
    refine lv_aload_n hx hb dX5_redrawFor_14 rfl (lv_at hl 0 rfl) ?_
    have rb111_i3 : 0 ≤ (i3 111).toInt ∧ (i3 111).toInt ≤ 30 := hI.1 111
    have re111_i3 : (i3 111).toInt = (i 111).toInt := congrArg Int32.toInt (hfi 111 (by decide +kernel))
    have rb124_i3 : 0 ≤ (i3 124).toInt ∧ (i3 124).toInt ≤ 200 := hI.1 124
    have re124_i3 : (i3 124).toInt = (i 124).toInt := congrArg Int32.toInt (hfi 124 (by decide +kernel))
    refine al_callv (va_runV (As := []) (rest := []) ⟨hx, hb, hml, hown, hts⟩ (x_X5_drawImplied_e l D H.size sk a t i3 q3 c3 d3  hI hs_V) (cwV 0 hts gm_X5_redrawFor_e_X5_drawImplied_e_59 rfl rfl rfl (by decide +kernel) ⟨Nat.le_of_ble_eq_true rfl, Nat.le_of_ble_eq_true rfl⟩) (yB_V hN (xZ_k hZ hS hA) (xZ_n hZ hD) hK hP hD (ci := 5) (q0 := 21) rfl rfl) rfl rfl hl.1 rfl (lv_room (Nat.le_of_ble_eq_true rfl)) dX5_redrawFor_15 ⟨Nat.le_of_ble_eq_true rfl, Nat.le_of_ble_eq_true rfl⟩) hS hA hP hD (fun u4 H locs hw4 hP hD hS => ?_)
    obtain ⟨i4, q4, c4, d4⟩ := u4
    have hw4 : True ∧ xInv i4 c4 ∧ (∀ k, k ∉ ([] : List Nat) → i4 k = i3 k) ∧ (∀ k, k ∉ ([129, 131, 132] : List Nat) → c4 k = c3 k) ∧ (D2 (zX (c3 106) (c3 108) (i3 111).toInt) (c3 113) (c3 114) (c3 115) (c3 116) (c3 117) (i3 124).toInt.toNat (c3 131) (c3 129) (c4 131) (c4 129) (c4 132)) := hw4
    obtain ⟨hw4, hI, hei4, hec4, hxp4_0⟩ := hw4
    have hxp4_0 : D2 (zX (c 106) (c 108) (i 111).toInt) (c 113) (c 114) (c 115) (c 116) (c 117) (i 124).toInt.toNat (c3 131) (c3 129) (c4 131) (c4 129) (c4 132) := by have h9 := hxp4_0; rw [show c3 106 = c 106 from hfc 106 (by decide +kernel), show c3 108 = c 108 from hfc 108 (by decide +kernel), show c3 113 = c 113 from hfc 113 (by decide +kernel), show c3 114 = c 114 from hfc 114 (by decide +kernel), show c3 115 = c 115 from hfc 115 (by decide +kernel), show c3 116 = c 116 from hfc 116 (by decide +kernel), show c3 117 = c 117 from hfc 117 (by decide +kernel), show i3 111 = i 111 from hfi 111 (by decide +kernel), show i3 124 = i 124 from hfi 124 (by decide +kernel)] at h9; exact h9
    have hfi : ∀ k, k ∉ ([] : List Nat) → i4 k = i k := fr_z hfi hei4 (by decide +kernel) (by decide +kernel)
    have hfc : ∀ k, k ∉ ([129, 130, 131, 132, 133, 134] : List Nat) → c4 k = c k := fr_z hfc hec4 (by decide +kernel) (by decide +kernel)
    refine lv_aload_n hx hb dX5_redrawFor_18 rfl (lv_at hl 0 rfl) ?_
    refine al_callv (va_runV (As := []) (rest := []) ⟨hx, hb, hml, hown, hts⟩ (x_X5_drawThroughDoors_e l D H.size sk a t i4 q4 c4 d4  hI ) (cwV 0 hts gm_X5_redrawFor_e_X5_drawThroughDoors_e_62 rfl rfl rfl (by decide +kernel) ⟨Nat.le_of_ble_eq_true rfl, Nat.le_of_ble_eq_true rfl⟩) (yB_V hN (xZ_k hZ hS hA) (xZ_n hZ hD) hK hP hD (ci := 5) (q0 := 21) rfl rfl) rfl rfl hl.1 rfl (lv_room (Nat.le_of_ble_eq_true rfl)) dX5_redrawFor_19 ⟨Nat.le_of_ble_eq_true rfl, Nat.le_of_ble_eq_true rfl⟩) hS hA hP hD (fun u5 H locs hw5 hP hD hS => ?_)
    obtain ⟨i5, q5, c5, d5⟩ := u5
    have hw5 : True ∧ xInv i5 c5 ∧ (∀ k, k ∉ ([] : List Nat) → i5 k = i4 k) ∧ (∀ k, k ∉ ([129] : List Nat) → c5 k = c4 k) ∧ (D3 300 (c4 129) (c4 130) (c4 133) (c4 134) (c5 129)) := hw5
    obtain ⟨hw5, hI, hei5, hec5, hxp5_0⟩ := hw5
    have hxp5_0 : D3 300 (c4 129) (c4 130) (c4 133) (c4 134) (c5 129) := hxp5_0
    have hfi : ∀ k, k ∉ ([] : List Nat) → i5 k = i k := fr_z hfi hei5 (by decide +kernel) (by decide +kernel)
    have hfc : ∀ k, k ∉ ([129, 130, 131, 132, 133, 134] : List Nat) → c5 k = c k := fr_z hfc hec5 (by decide +kernel) (by decide +kernel)
    exact rw_vret (i5, q5, c5, d5) hx hb hr hlocks hS (hK.sub (tys' := []) [] rfl) hP hD dX5_redrawFor_22 ⟨trivial, hI, fr_w hfi (by decide +kernel), fr_w hfc (by decide +kernel), (show RdW (zX (c 106) (c 108) (i 111).toInt) (c 113) (c 114) (c 115) (c 116) (c 117) (c 129) (c 130) (c 131) (c 132) (c 133) (c 134) (c5 129) (c5 130) (c5 131) (c5 132) (c5 133) (c5 134) (i 124).toInt f.toInt from Or.inr ⟨by omega, by rw [show c5 130 = c4 130 from hec5 130 (by decide +kernel), show c5 131 = c4 131 from hec5 131 (by decide +kernel), show c5 132 = c4 132 from hec5 132 (by decide +kernel), show c5 133 = c4 133 from hec5 133 (by decide +kernel), show c5 134 = c4 134 from hec5 134 (by decide +kernel)]; exact ⟨c3 131, c3 129, c4 129, by rw [show c4 130 = c3 130 from hec4 130 (by decide +kernel), show c4 133 = c3 133 from hec4 133 (by decide +kernel), show c4 134 = c3 134 from hec4 134 (by decide +kernel)]; exact hxp3_0, hxp4_0, hxp5_0⟩⟩)⟩
  · have f1 := mt (ti_eq (a := f.toInt) (b := 5) rfl (by decide +kernel)).mpr c1
    exact rw_vret (i, q, c, d) hx hb hr hlocks hS (hK.sub (tys' := []) [] rfl) hP hD dX5_redrawFor_5 ⟨trivial, hI, fr_w hfi (by decide +kernel), fr_w hfc (by decide +kernel), (show RdW (zX (c 106) (c 108) (i 111).toInt) (c 113) (c 114) (c 115) (c 116) (c 117) (c 129) (c 130) (c 131) (c 132) (c 133) (c 134) (c 129) (c 130) (c 131) (c 132) (c 133) (c 134) (i 124).toInt f.toInt from Or.inl ⟨by omega, rfl, rfl, rfl, rfl, rfl, rfl⟩)⟩

set_option maxHeartbeats 4000000 in
set_option maxRecDepth 100000 in
theorem s_X12_isOf_e (l : Launch) (D : va_G) (sz : Nat) (o : Nat) (a : Nat → Nat) (t : Nat → ClassId) (i : Nat → Int32) (q : Int64) (c : Nat → Nat → Int32) (d : Nat → Nat → Int64) (w : Int32) (k : Int32) (hI : mInv i c) (hw : 0 ≤ w.toInt ∧ w.toInt ≤ 29) (hk : 0 ≤ k.toInt ∧ k.toInt ≤ 5) : Met l yX12_isOf wm_X12_isOf ({ frames := 0, cells := 0, slots := 0, locals := 0 }) (va_Pc [.ref o, .int w, .int k] (pA D sz (mW o a t i q c d) (mT t))) (va_Qi (fun (r : Int32) (_ : Unit) => ((0 ≤ r.toInt ∧ r.toInt ≤ 1) ∧ (0 ≤ kS (c 3) (c 6) w.toInt ∧ kS (c 3) (c 6) w.toInt ≤ 5 ∧ ((r.toInt = 1 ∧ (kS (c 3) (c 6) w.toInt = k.toInt ∨ ((1 : Int) = k.toInt ∧ 1 < kS (c 3) (c 6) w.toInt))) ∨ (r.toInt = 0 ∧ ¬ (kS (c 3) (c 6) w.toInt = k.toInt ∨ ((1 : Int) = k.toInt ∧ 1 < kS (c 3) (c 6) w.toInt))))))) oA (ro sz)) 0 0 (ro sz) := by
  refine Met.ofW (cc := cX12_isOf) (maxL := 4) (ret := (some .boolean)) (by decide +kernel) rfl ?_
  intro p e s m args below meth cd s₁ B hml hv
  obtain ⟨rfl, hsz, hP, hK⟩ := hv
  have hx := B.exec
  have hb := B.bytes
  have hr := B.returns
  have hts := atoms_spec (ws := wm_X12_isOf) B.pre
  have hown : s.vm.findClass RX12 = some m.cls := findClass_of_methodNamed B.named
  have hlocks := B.notSynchronized
  subst hsz
  have hA : ∀ q : Nat, s.heap.size ≤ q → ro s.heap.size q := fun _ h => h
  have hS : va_S (ro s.heap.size) s.heap s.heap [] := va_S.rf
  have hl := lv_entry ([.ref o, .int w, .int k]) (n := 4) (Nat.le_of_ble_eq_true rfl)
  rw [lg_entry_eq]
  generalize (lg_sl ([.ref o, .int w, .int k]) ++ List.replicate (4 - (lg_sl ([.ref o, .int w, .int k])).length) Slot.unset).toArray = ls at hl ⊢
  have hl : lv_has ls 4 [(0, .ref o), (1, .int w), (2, .int k)] := hl
  refine lv_aload_n hx hb dX12_isOf_0 rfl (lv_at hl 0 rfl) ?_
  refine mget_6 hx hb hts (fun _ h => List.mem_cons_of_mem _ (List.mem_append_right _ h)) hown hK hP (hts (.fieldLink RX12 19 "TalePlayModel" "kindOf" "[I") (List.mem_cons_of_mem _ (List.mem_append_left _ (List.mem_of_getElem? (i := 0) rfl)))) dX12_isOf_1 ?_
  refine lv_iload_n hx hb dX12_isOf_4 rfl (lv_at hl 1 rfl) ?_
  refine mld_6 hx hb hK hP (vp_in_iff.mpr (by have h9 : w.toInt = w.toInt := rfl; omega)) dX12_isOf_5 (fun x1 ex1 => ?_)
  have rx1 : 0 ≤ x1.toInt ∧ x1.toInt ≤ 23 := by rw [ex1]; exact hI.2 6 _
  refine lv_istore_n (lv' := [(3, .int x1), (0, .ref o), (1, .int w), (2, .int k)]) hx hb dX12_isOf_6 rfl hl (by decide +kernel) rfl (fun ls hl => ?_)
  have lp2 : ∀ (fu : Nat) (y2_3 : Int32), (y2_3.toInt = -9 ∨ (0 ≤ y2_3.toInt ∧ y2_3.toInt ≤ 23)) → (Ch (kF (c 3)) (c 6 w.toInt.toNat).toInt k.toInt ↔ Ch (kF (c 3)) y2_3.toInt k.toInt) → (y2_3.toInt + 10).toNat < fu → ∀ (H : Heap) (locs : List Loc) (ls : Array Slot), va_P D vwCl (mW o a t i q c d) H → va_S (ro s.heap.size) s.heap H locs → lv_has ls 4 [(3, .int y2_3), (0, .ref o), (1, .int w), (2, .int k)] → W p l e (headSpec wm_X12_isOf ({ frames := 0, cells := 0, slots := 0, locals := 0 })).room s m ([.ref o, .int w, .int k] : List Value).toArray below meth cd H locs 0 0 (MQ below (va_Qi (fun (r : Int32) (_ : Unit) => ((0 ≤ r.toInt ∧ r.toInt ≤ 1) ∧ (0 ≤ kS (c 3) (c 6) w.toInt ∧ kS (c 3) (c 6) w.toInt ≤ 5 ∧ ((r.toInt = 1 ∧ (kS (c 3) (c 6) w.toInt = k.toInt ∨ ((1 : Int) = k.toInt ∧ 1 < kS (c 3) (c 6) w.toInt))) ∨ (r.toInt = 0 ∧ ¬ (kS (c 3) (c 6) w.toInt = k.toInt ∨ ((1 : Int) = k.toInt ∧ 1 < kS (c 3) (c 6) w.toInt))))))) oA (ro s.heap.size)) ([.ref o, .int w, .int k] : List Value).toArray s 0 0 (ro s.heap.size)) (F0 m 7 ls []) := by
    intro fu
    induction fu with
    | zero => intro y2_3 hy2_3 hz2_0 hm; exact absurd hm (Nat.not_lt_zero _)
    | succ fu ih =>
      intro y2_3 hy2_3 hz2_0 hm H locs ls hP hS hl
      have ih2 := ih
      refine lv_iload_n hx hb dX12_isOf_7 rfl (lv_at hl 0 rfl) ?_
      refine lv_bipush (v := (-9)) hx hb dX12_isOf_8 (by decide +kernel) ?_
      refine lv_icmp_eq (tgt := 28) hx hb dX12_isOf_10 (by decide +kernel) (fun c3 => ?_) (fun c3 => ?_)
      · have f3 := (ti_eq (a := y2_3.toInt) (b := (-9)) rfl (by decide +kernel)).mp c3
        refine lv_iload_n hx hb dX12_isOf_28 rfl (lv_at hl 0 rfl) ?_
        refine lv_iload_n hx hb dX12_isOf_29 rfl (lv_at hl 3 rfl) ?_
        refine lv_icmp_ne (tgt := 37) hx hb dX12_isOf_30 (by decide +kernel) (fun c4 => ?_) (fun c4 => ?_)
        · have f4 := mt (ti_eq (a := y2_3.toInt) (b := k.toInt) rfl rfl).mpr c4
          refine lv_iconst (v := 0) hx hb dX12_isOf_37 (by decide +kernel) ?_
          exact ro_zret hx hb hr hlocks hS rfl dX12_isOf_38 ⟨(show 0 ≤ (0 : Int32).toInt ∧ (0 : Int32).toInt ≤ 1 from by decide +kernel), (show 0 ≤ kS (c 3) (c 6) w.toInt ∧ kS (c 3) (c 6) w.toInt ≤ 5 ∧ (((0 : Int32).toInt = 1 ∧ (kS (c 3) (c 6) w.toInt = k.toInt ∨ ((1 : Int) = k.toInt ∧ 1 < kS (c 3) (c 6) w.toInt))) ∨ ((0 : Int32).toInt = 0 ∧ ¬ (kS (c 3) (c 6) w.toInt = k.toInt ∨ ((1 : Int) = k.toInt ∧ 1 < kS (c 3) (c 6) w.toInt)))) from kS_sm hI hk (sm_0 (fun h9 => by have h8 := hz2_0.mp h9; rw [show y2_3.toInt = -9 by omega] at h8; have h7 := Ch_nd kF_9 h8; omega)))⟩
        · have f4 := (ti_eq (a := y2_3.toInt) (b := k.toInt) rfl rfl).mp c4
          refine lv_iconst (v := 1) hx hb dX12_isOf_33 (by decide +kernel) ?_
          refine lv_goto (tgt := 38) hx hb dX12_isOf_34 (by decide +kernel) ?_
          exact ro_zret hx hb hr hlocks hS rfl dX12_isOf_38 ⟨(show 0 ≤ (1 : Int32).toInt ∧ (1 : Int32).toInt ≤ 1 from by decide +kernel), (show 0 ≤ kS (c 3) (c 6) w.toInt ∧ kS (c 3) (c 6) w.toInt ≤ 5 ∧ (((1 : Int32).toInt = 1 ∧ (kS (c 3) (c 6) w.toInt = k.toInt ∨ ((1 : Int) = k.toInt ∧ 1 < kS (c 3) (c 6) w.toInt))) ∨ ((1 : Int32).toInt = 0 ∧ ¬ (kS (c 3) (c 6) w.toInt = k.toInt ∨ ((1 : Int) = k.toInt ∧ 1 < kS (c 3) (c 6) w.toInt)))) from kS_sm hI hk (sm_1 (hz2_0.mpr (by rw [show y2_3.toInt = k.toInt by omega]; exact Ch_rf))))⟩
      · have f3 := mt (ti_eq (a := y2_3.toInt) (b := (-9)) rfl (by decide +kernel)).mpr c3
        refine lv_iload_n hx hb dX12_isOf_13 rfl (lv_at hl 0 rfl) ?_
        refine lv_iload_n hx hb dX12_isOf_14 rfl (lv_at hl 3 rfl) ?_
        refine lv_icmp_eq (tgt := 28) hx hb dX12_isOf_15 (by decide +kernel) (fun c5 => ?_) (fun c5 => ?_)
        · have f5 := (ti_eq (a := y2_3.toInt) (b := k.toInt) rfl rfl).mp c5
          refine lv_iload_n hx hb dX12_isOf_28 rfl (lv_at hl 0 rfl) ?_
          refine lv_iload_n hx hb dX12_isOf_29 rfl (lv_at hl 3 rfl) ?_
          refine lv_icmp_ne (tgt := 37) hx hb dX12_isOf_30 (by decide +kernel) (fun c6 => ?_) (fun c6 => ?_)
          · have f6 := mt (ti_eq (a := y2_3.toInt) (b := k.toInt) rfl rfl).mpr c6
            refine lv_iconst (v := 0) hx hb dX12_isOf_37 (by decide +kernel) ?_
            exact ro_zret hx hb hr hlocks hS rfl dX12_isOf_38 ⟨(show 0 ≤ (0 : Int32).toInt ∧ (0 : Int32).toInt ≤ 1 from by decide +kernel), (show 0 ≤ kS (c 3) (c 6) w.toInt ∧ kS (c 3) (c 6) w.toInt ≤ 5 ∧ (((0 : Int32).toInt = 1 ∧ (kS (c 3) (c 6) w.toInt = k.toInt ∨ ((1 : Int) = k.toInt ∧ 1 < kS (c 3) (c 6) w.toInt))) ∨ ((0 : Int32).toInt = 0 ∧ ¬ (kS (c 3) (c 6) w.toInt = k.toInt ∨ ((1 : Int) = k.toInt ∧ 1 < kS (c 3) (c 6) w.toInt)))) from kS_sm hI hk (sm_0 (fun h9 => by have h8 := hz2_0.mp h9; rw [show y2_3.toInt = -9 by omega] at h8; have h7 := Ch_nd kF_9 h8; omega)))⟩
          · have f6 := (ti_eq (a := y2_3.toInt) (b := k.toInt) rfl rfl).mp c6
            refine lv_iconst (v := 1) hx hb dX12_isOf_33 (by decide +kernel) ?_
            refine lv_goto (tgt := 38) hx hb dX12_isOf_34 (by decide +kernel) ?_
            exact ro_zret hx hb hr hlocks hS rfl dX12_isOf_38 ⟨(show 0 ≤ (1 : Int32).toInt ∧ (1 : Int32).toInt ≤ 1 from by decide +kernel), (show 0 ≤ kS (c 3) (c 6) w.toInt ∧ kS (c 3) (c 6) w.toInt ≤ 5 ∧ (((1 : Int32).toInt = 1 ∧ (kS (c 3) (c 6) w.toInt = k.toInt ∨ ((1 : Int) = k.toInt ∧ 1 < kS (c 3) (c 6) w.toInt))) ∨ ((1 : Int32).toInt = 0 ∧ ¬ (kS (c 3) (c 6) w.toInt = k.toInt ∨ ((1 : Int) = k.toInt ∧ 1 < kS (c 3) (c 6) w.toInt)))) from kS_sm hI hk (sm_1 (hz2_0.mpr (by rw [show y2_3.toInt = k.toInt by omega]; exact Ch_rf))))⟩
        · have f5 := mt (ti_eq (a := y2_3.toInt) (b := k.toInt) rfl rfl).mpr c5
          refine lv_aload_n hx hb dX12_isOf_18 rfl (lv_at hl 1 rfl) ?_
          refine mget_3 hx hb hts (fun _ h => List.mem_cons_of_mem _ (List.mem_append_right _ h)) hown hK hP (hts (.fieldLink RX12 13 "TalePlayModel" "parentOf" "[I") (List.mem_cons_of_mem _ (List.mem_append_left _ (List.mem_of_getElem? (i := 1) rfl)))) dX12_isOf_19 ?_
          refine lv_iload_n hx hb dX12_isOf_22 rfl (lv_at hl 0 rfl) ?_
          refine mld_3 hx hb hK hP (vp_in_iff.mpr (by have h9 : y2_3.toInt = y2_3.toInt := rfl; omega)) dX12_isOf_23 (fun x7 ex7 => ?_)
          have rx7 : ((((y2_3 : Int32).toNatClampNeg : Nat) : Int) ≤ 1 ∧ x7.toInt = -9) ∨ (2 ≤ (((y2_3 : Int32).toNatClampNeg : Nat) : Int) ∧ (((y2_3 : Int32).toNatClampNeg : Nat) : Int) ≤ 5 ∧ x7.toInt = 1) ∨ (6 ≤ (((y2_3 : Int32).toNatClampNeg : Nat) : Int) ∧ 0 ≤ x7.toInt ∧ x7.toInt ≤ 23 ∧ x7.toInt < (((y2_3 : Int32).toNatClampNeg : Nat) : Int)) := by rw [ex7]; exact hI.2 3 _
          have rc7 : (((y2_3 : Int32).toNatClampNeg : Nat) : Int) = (y2_3 : Int32).toInt := cl_nn (by have h9 : y2_3.toInt = y2_3.toInt := rfl; omega)
          refine lv_istore_n (lv' := [(3, .int x7), (0, .ref o), (1, .int w), (2, .int k)]) hx hb dX12_isOf_24 rfl hl (by decide +kernel) rfl (fun ls hl => ?_)
          refine lv_goto (tgt := 7) hx hb dX12_isOf_25 (by decide +kernel) ?_
          exact ih2 x7 (show x7.toInt = -9 ∨ (0 ≤ x7.toInt ∧ x7.toInt ≤ 23) from by omega) (show Ch (kF (c 3)) (c 6 w.toInt.toNat).toInt k.toInt ↔ Ch (kF (c 3)) x7.toInt k.toInt from hz2_0.trans (by rw [Ch_nx (f := kF (c 3)) (x := y2_3.toInt) (by omega), kF_at (by omega) ex7])) (by omega) _ _ _ hP hS (lv_sub hl [0, 1, 2, 3] rfl)
  exact lp2 _ x1 (show x1.toInt = -9 ∨ (0 ≤ x1.toInt ∧ x1.toInt ≤ 23) from by omega) (show Ch (kF (c 3)) (c 6 w.toInt.toNat).toInt k.toInt ↔ Ch (kF (c 3)) x1.toInt k.toInt from by rw [ex1]; exact Iff.rfl) (Nat.lt_succ_self _) _ _ _ hP hS (lv_sub hl [0, 1, 2, 3] rfl)

set_option maxHeartbeats 4000000 in
set_option maxRecDepth 100000 in
theorem s_X12_isMovable_e (l : Launch) (D : va_G) (sz : Nat) (o : Nat) (a : Nat → Nat) (t : Nat → ClassId) (i : Nat → Int32) (q : Int64) (c : Nat → Nat → Int32) (d : Nat → Nat → Int64) (w : Int32) (hI : mInv i c) (hw : 0 ≤ w.toInt ∧ w.toInt ≤ 29) : Met l yX12_isMovable wm_X12_isMovable ({ frames := 1, cells := 0, slots := 0, locals := 23 }) (va_Pc [.ref o, .int w] (pA D sz (mW o a t i q c d) (mT t))) (va_Qi (fun (r : Int32) (_ : Unit) => (0 ≤ kS (c 3) (c 6) w.toInt ∧ kS (c 3) (c 6) w.toInt ≤ 5 ∧ ((r.toInt = 1 ∧ (kS (c 3) (c 6) w.toInt = 1 ∨ 3 ≤ kS (c 3) (c 6) w.toInt)) ∨ (r.toInt = 0 ∧ ¬ (kS (c 3) (c 6) w.toInt = 1 ∨ 3 ≤ kS (c 3) (c 6) w.toInt))))) oA (ro sz)) 0 0 (ro sz) := by
  refine Met.ofW (cc := cX12_isMovable) (maxL := 2) (ret := (some .boolean)) (by decide +kernel) rfl ?_
  intro p e s m args below meth cd s₁ B hml hv
  obtain ⟨rfl, hsz, hP, hK⟩ := hv
  have hx := B.exec
  have hb := B.bytes
  have hr := B.returns
  have hts := atoms_spec (ws := wm_X12_isMovable) B.pre
  have hown : s.vm.findClass RX12 = some m.cls := findClass_of_methodNamed B.named
  have hlocks := B.notSynchronized
  subst hsz
  have hA : ∀ q : Nat, s.heap.size ≤ q → ro s.heap.size q := fun _ h => h
  have hS : va_S (ro s.heap.size) s.heap s.heap [] := va_S.rf
  have hl := lv_entry ([.ref o, .int w]) (n := 2) (Nat.le_of_ble_eq_true rfl)
  rw [lg_entry_eq]
  generalize (lg_sl ([.ref o, .int w]) ++ List.replicate (2 - (lg_sl ([.ref o, .int w])).length) Slot.unset).toArray = ls at hl ⊢
  have hl : lv_has ls 2 [(0, .ref o), (1, .int w)] := hl
  refine lv_aload_n hx hb dX12_isMovable_0 rfl (lv_at hl 0 rfl) ?_
  refine lv_iload_n hx hb dX12_isMovable_1 rfl (lv_at hl 1 rfl) ?_
  refine lv_iconst (v := 1) hx hb dX12_isMovable_2 (by decide +kernel) ?_
  refine ro_calli (va_runV (As := [.int w, .int 1]) (rest := []) ⟨hx, hb, hml, hown, hts⟩ (s_X12_isOf_e l D s.heap.size o a t i q c d w 1 hI (show 0 ≤ w.toInt ∧ w.toInt ≤ 29 from by have h91 : (1 : Int32).toInt = 1 := (by decide +kernel); omega) (show 0 ≤ 1 ∧ 1 ≤ 5 from by decide +kernel)) (cwV 2 hts gm_X12_isMovable_X12_isOf rfl rfl rfl (by decide +kernel) ⟨Nat.le_of_ble_eq_true rfl, Nat.le_of_ble_eq_true rfl⟩) (pA_V hK hP (ci := 12) (q0 := 0) rfl rfl) rfl rfl hl.1 rfl (lv_room (Nat.le_of_ble_eq_true rfl)) dX12_isMovable_3 ⟨Nat.le_of_ble_eq_true rfl, Nat.le_of_ble_eq_true rfl⟩) hS hA hP (fun r1 u1 H locs hw1 hP hS => ?_)
  have hw1 : ((0 ≤ r1.toInt ∧ r1.toInt ≤ 1) ∧ (0 ≤ kS (c 3) (c 6) w.toInt ∧ kS (c 3) (c 6) w.toInt ≤ 5 ∧ ((r1.toInt = 1 ∧ (kS (c 3) (c 6) w.toInt = 1 ∨ ((1 : Int) = 1 ∧ 1 < kS (c 3) (c 6) w.toInt))) ∨ (r1.toInt = 0 ∧ ¬ (kS (c 3) (c 6) w.toInt = 1 ∨ ((1 : Int) = 1 ∧ 1 < kS (c 3) (c 6) w.toInt)))))) := hw1
  obtain ⟨hw1, hr1_0⟩ := hw1
  have hr1_0 : 0 ≤ kS (c 3) (c 6) w.toInt ∧ kS (c 3) (c 6) w.toInt ≤ 5 ∧ ((r1.toInt = 1 ∧ (kS (c 3) (c 6) w.toInt = 1 ∨ ((1 : Int) = 1 ∧ 1 < kS (c 3) (c 6) w.toInt))) ∨ (r1.toInt = 0 ∧ ¬ (kS (c 3) (c 6) w.toInt = 1 ∨ ((1 : Int) = 1 ∧ 1 < kS (c 3) (c 6) w.toInt)))) := hr1_0
  refine lv_if_eq (tgt := 22) hx hb dX12_isMovable_6 (by decide +kernel) (fun c2 => ?_) (fun c2 => ?_)
  · have f2 := (ti_eq (a := r1.toInt) (b := 0) rfl (by decide +kernel)).mp c2
    refine lv_iconst (v := 0) hx hb dX12_isMovable_22 (by decide +kernel) ?_
    exact ro_zret hx hb hr hlocks hS rfl dX12_isMovable_23 (show 0 ≤ kS (c 3) (c 6) w.toInt ∧ kS (c 3) (c 6) w.toInt ≤ 5 ∧ (((0 : Int32).toInt = 1 ∧ (kS (c 3) (c 6) w.toInt = 1 ∨ 3 ≤ kS (c 3) (c 6) w.toInt)) ∨ ((0 : Int32).toInt = 0 ∧ ¬ (kS (c 3) (c 6) w.toInt = 1 ∨ 3 ≤ kS (c 3) (c 6) w.toInt))) from by have h9 : (0 : Int32).toInt = 0 := (by decide +kernel); omega)
  · have f2 := mt (ti_eq (a := r1.toInt) (b := 0) rfl (by decide +kernel)).mpr c2
    refine lv_aload_n hx hb dX12_isMovable_9 rfl (lv_at hl 0 rfl) ?_
    refine lv_iload_n hx hb dX12_isMovable_10 rfl (lv_at hl 1 rfl) ?_
    refine lv_iconst (v := 2) hx hb dX12_isMovable_11 (by decide +kernel) ?_
    refine ro_calli (va_runV (As := [.int w, .int 2]) (rest := []) ⟨hx, hb, hml, hown, hts⟩ (s_X12_isOf_e l D H.size o a t i q c d w 2 hI (show 0 ≤ w.toInt ∧ w.toInt ≤ 29 from by have h91 : (2 : Int32).toInt = 2 := (by decide +kernel); omega) (show 0 ≤ 2 ∧ 2 ≤ 5 from by decide +kernel)) (cwV 2 hts gm_X12_isMovable_X12_isOf rfl rfl rfl (by decide +kernel) ⟨Nat.le_of_ble_eq_true rfl, Nat.le_of_ble_eq_true rfl⟩) (pA_V hK hP (ci := 12) (q0 := 0) rfl rfl) rfl rfl hl.1 rfl (lv_room (Nat.le_of_ble_eq_true rfl)) dX12_isMovable_12 ⟨Nat.le_of_ble_eq_true rfl, Nat.le_of_ble_eq_true rfl⟩) hS hA hP (fun r3 u3 H locs hw3 hP hS => ?_)
    have hw3 : ((0 ≤ r3.toInt ∧ r3.toInt ≤ 1) ∧ (0 ≤ kS (c 3) (c 6) w.toInt ∧ kS (c 3) (c 6) w.toInt ≤ 5 ∧ ((r3.toInt = 1 ∧ (kS (c 3) (c 6) w.toInt = 2 ∨ ((1 : Int) = 2 ∧ 1 < kS (c 3) (c 6) w.toInt))) ∨ (r3.toInt = 0 ∧ ¬ (kS (c 3) (c 6) w.toInt = 2 ∨ ((1 : Int) = 2 ∧ 1 < kS (c 3) (c 6) w.toInt)))))) := hw3
    obtain ⟨hw3, hr3_0⟩ := hw3
    have hr3_0 : 0 ≤ kS (c 3) (c 6) w.toInt ∧ kS (c 3) (c 6) w.toInt ≤ 5 ∧ ((r3.toInt = 1 ∧ (kS (c 3) (c 6) w.toInt = 2 ∨ ((1 : Int) = 2 ∧ 1 < kS (c 3) (c 6) w.toInt))) ∨ (r3.toInt = 0 ∧ ¬ (kS (c 3) (c 6) w.toInt = 2 ∨ ((1 : Int) = 2 ∧ 1 < kS (c 3) (c 6) w.toInt)))) := hr3_0
    refine lv_if_ne (tgt := 22) hx hb dX12_isMovable_15 (by decide +kernel) (fun c4 => ?_) (fun c4 => ?_)
    · have f4 := mt (ti_eq (a := r3.toInt) (b := 0) rfl (by decide +kernel)).mpr c4
      refine lv_iconst (v := 0) hx hb dX12_isMovable_22 (by decide +kernel) ?_
      exact ro_zret hx hb hr hlocks hS rfl dX12_isMovable_23 (show 0 ≤ kS (c 3) (c 6) w.toInt ∧ kS (c 3) (c 6) w.toInt ≤ 5 ∧ (((0 : Int32).toInt = 1 ∧ (kS (c 3) (c 6) w.toInt = 1 ∨ 3 ≤ kS (c 3) (c 6) w.toInt)) ∨ ((0 : Int32).toInt = 0 ∧ ¬ (kS (c 3) (c 6) w.toInt = 1 ∨ 3 ≤ kS (c 3) (c 6) w.toInt))) from by have h9 : (0 : Int32).toInt = 0 := (by decide +kernel); omega)
    · have f4 := (ti_eq (a := r3.toInt) (b := 0) rfl (by decide +kernel)).mp c4
      refine lv_iconst (v := 1) hx hb dX12_isMovable_18 (by decide +kernel) ?_
      refine lv_goto (tgt := 23) hx hb dX12_isMovable_19 (by decide +kernel) ?_
      exact ro_zret hx hb hr hlocks hS rfl dX12_isMovable_23 (show 0 ≤ kS (c 3) (c 6) w.toInt ∧ kS (c 3) (c 6) w.toInt ≤ 5 ∧ (((1 : Int32).toInt = 1 ∧ (kS (c 3) (c 6) w.toInt = 1 ∨ 3 ≤ kS (c 3) (c 6) w.toInt)) ∨ ((1 : Int32).toInt = 0 ∧ ¬ (kS (c 3) (c 6) w.toInt = 1 ∨ 3 ≤ kS (c 3) (c 6) w.toInt))) from by have h9 : (1 : Int32).toInt = 1 := (by decide +kernel); omega)

set_option maxHeartbeats 4000000 in
set_option maxRecDepth 100000 in
theorem s_X12_isGoods_e (l : Launch) (D : va_G) (sz : Nat) (o : Nat) (a : Nat → Nat) (t : Nat → ClassId) (i : Nat → Int32) (q : Int64) (c : Nat → Nat → Int32) (d : Nat → Nat → Int64) (w : Int32) (hI : mInv i c) (hw : 0 ≤ w.toInt ∧ w.toInt ≤ 29) : Met l yX12_isGoods wm_X12_isGoods ({ frames := 2, cells := 0, slots := 0, locals := 44 }) (va_Pc [.ref o, .int w] (pA D sz (mW o a t i q c d) (mT t))) (va_Qi (fun (r : Int32) (_ : Unit) => (0 ≤ kS (c 3) (c 6) w.toInt ∧ kS (c 3) (c 6) w.toInt ≤ 5 ∧ ((r.toInt = 1 ∧ ((kS (c 3) (c 6) w.toInt = 1 ∨ 3 ≤ kS (c 3) (c 6) w.toInt) ∧ ¬ kS (c 3) (c 6) w.toInt = 5)) ∨ (r.toInt = 0 ∧ ¬ ((kS (c 3) (c 6) w.toInt = 1 ∨ 3 ≤ kS (c 3) (c 6) w.toInt) ∧ ¬ kS (c 3) (c 6) w.toInt = 5))))) oA (ro sz)) 0 0 (ro sz) := by
  refine Met.ofW (cc := cX12_isGoods) (maxL := 2) (ret := (some .boolean)) (by decide +kernel) rfl ?_
  intro p e s m args below meth cd s₁ B hml hv
  obtain ⟨rfl, hsz, hP, hK⟩ := hv
  have hx := B.exec
  have hb := B.bytes
  have hr := B.returns
  have hts := atoms_spec (ws := wm_X12_isGoods) B.pre
  have hown : s.vm.findClass RX12 = some m.cls := findClass_of_methodNamed B.named
  have hlocks := B.notSynchronized
  subst hsz
  have hA : ∀ q : Nat, s.heap.size ≤ q → ro s.heap.size q := fun _ h => h
  have hS : va_S (ro s.heap.size) s.heap s.heap [] := va_S.rf
  have hl := lv_entry ([.ref o, .int w]) (n := 2) (Nat.le_of_ble_eq_true rfl)
  rw [lg_entry_eq]
  generalize (lg_sl ([.ref o, .int w]) ++ List.replicate (2 - (lg_sl ([.ref o, .int w])).length) Slot.unset).toArray = ls at hl ⊢
  have hl : lv_has ls 2 [(0, .ref o), (1, .int w)] := hl
  refine lv_aload_n hx hb dX12_isGoods_0 rfl (lv_at hl 0 rfl) ?_
  refine lv_iload_n hx hb dX12_isGoods_1 rfl (lv_at hl 1 rfl) ?_
  refine ro_calli (va_runV (As := [.int w]) (rest := []) ⟨hx, hb, hml, hown, hts⟩ (s_X12_isMovable_e l D s.heap.size o a t i q c d w hI (show 0 ≤ w.toInt ∧ w.toInt ≤ 29 from by omega)) (cwV 1 hts gm_X12_isGoods_X12_isMovable rfl rfl rfl (by decide +kernel) ⟨Nat.le_of_ble_eq_true rfl, Nat.le_of_ble_eq_true rfl⟩) (pA_V hK hP (ci := 12) (q0 := 0) rfl rfl) rfl rfl hl.1 rfl (lv_room (Nat.le_of_ble_eq_true rfl)) dX12_isGoods_2 ⟨Nat.le_of_ble_eq_true rfl, Nat.le_of_ble_eq_true rfl⟩) hS hA hP (fun r1 u1 H locs hw1 hP hS => ?_)
  have hw1 : (0 ≤ kS (c 3) (c 6) w.toInt ∧ kS (c 3) (c 6) w.toInt ≤ 5 ∧ ((r1.toInt = 1 ∧ (kS (c 3) (c 6) w.toInt = 1 ∨ 3 ≤ kS (c 3) (c 6) w.toInt)) ∨ (r1.toInt = 0 ∧ ¬ (kS (c 3) (c 6) w.toInt = 1 ∨ 3 ≤ kS (c 3) (c 6) w.toInt)))) := hw1
  refine lv_if_eq (tgt := 21) hx hb dX12_isGoods_5 (by decide +kernel) (fun c2 => ?_) (fun c2 => ?_)
  · have f2 := (ti_eq (a := r1.toInt) (b := 0) rfl (by decide +kernel)).mp c2
    refine lv_iconst (v := 0) hx hb dX12_isGoods_21 (by decide +kernel) ?_
    exact ro_zret hx hb hr hlocks hS rfl dX12_isGoods_22 (show 0 ≤ kS (c 3) (c 6) w.toInt ∧ kS (c 3) (c 6) w.toInt ≤ 5 ∧ (((0 : Int32).toInt = 1 ∧ ((kS (c 3) (c 6) w.toInt = 1 ∨ 3 ≤ kS (c 3) (c 6) w.toInt) ∧ ¬ kS (c 3) (c 6) w.toInt = 5)) ∨ ((0 : Int32).toInt = 0 ∧ ¬ ((kS (c 3) (c 6) w.toInt = 1 ∨ 3 ≤ kS (c 3) (c 6) w.toInt) ∧ ¬ kS (c 3) (c 6) w.toInt = 5))) from by have h9 : (0 : Int32).toInt = 0 := (by decide +kernel); omega)
  · have f2 := mt (ti_eq (a := r1.toInt) (b := 0) rfl (by decide +kernel)).mpr c2
    refine lv_aload_n hx hb dX12_isGoods_8 rfl (lv_at hl 0 rfl) ?_
    refine lv_iload_n hx hb dX12_isGoods_9 rfl (lv_at hl 1 rfl) ?_
    refine lv_iconst (v := 5) hx hb dX12_isGoods_10 (by decide +kernel) ?_
    refine ro_calli (va_runV (As := [.int w, .int 5]) (rest := []) ⟨hx, hb, hml, hown, hts⟩ (s_X12_isOf_e l D H.size o a t i q c d w 5 hI (show 0 ≤ w.toInt ∧ w.toInt ≤ 29 from by have h91 : (5 : Int32).toInt = 5 := (by decide +kernel); omega) (show 0 ≤ 5 ∧ 5 ≤ 5 from by decide +kernel)) (cwV 2 hts gm_X12_isGoods_X12_isOf rfl rfl rfl (by decide +kernel) ⟨Nat.le_of_ble_eq_true rfl, Nat.le_of_ble_eq_true rfl⟩) (pA_V hK hP (ci := 12) (q0 := 0) rfl rfl) rfl rfl hl.1 rfl (lv_room (Nat.le_of_ble_eq_true rfl)) dX12_isGoods_11 ⟨Nat.le_of_ble_eq_true rfl, Nat.le_of_ble_eq_true rfl⟩) hS hA hP (fun r3 u3 H locs hw3 hP hS => ?_)
    have hw3 : ((0 ≤ r3.toInt ∧ r3.toInt ≤ 1) ∧ (0 ≤ kS (c 3) (c 6) w.toInt ∧ kS (c 3) (c 6) w.toInt ≤ 5 ∧ ((r3.toInt = 1 ∧ (kS (c 3) (c 6) w.toInt = 5 ∨ ((1 : Int) = 5 ∧ 1 < kS (c 3) (c 6) w.toInt))) ∨ (r3.toInt = 0 ∧ ¬ (kS (c 3) (c 6) w.toInt = 5 ∨ ((1 : Int) = 5 ∧ 1 < kS (c 3) (c 6) w.toInt)))))) := hw3
    obtain ⟨hw3, hr3_0⟩ := hw3
    have hr3_0 : 0 ≤ kS (c 3) (c 6) w.toInt ∧ kS (c 3) (c 6) w.toInt ≤ 5 ∧ ((r3.toInt = 1 ∧ (kS (c 3) (c 6) w.toInt = 5 ∨ ((1 : Int) = 5 ∧ 1 < kS (c 3) (c 6) w.toInt))) ∨ (r3.toInt = 0 ∧ ¬ (kS (c 3) (c 6) w.toInt = 5 ∨ ((1 : Int) = 5 ∧ 1 < kS (c 3) (c 6) w.toInt)))) := hr3_0
    refine lv_if_ne (tgt := 21) hx hb dX12_isGoods_14 (by decide +kernel) (fun c4 => ?_) (fun c4 => ?_)
    · have f4 := mt (ti_eq (a := r3.toInt) (b := 0) rfl (by decide +kernel)).mpr c4
      refine lv_iconst (v := 0) hx hb dX12_isGoods_21 (by decide +kernel) ?_
      exact ro_zret hx hb hr hlocks hS rfl dX12_isGoods_22 (show 0 ≤ kS (c 3) (c 6) w.toInt ∧ kS (c 3) (c 6) w.toInt ≤ 5 ∧ (((0 : Int32).toInt = 1 ∧ ((kS (c 3) (c 6) w.toInt = 1 ∨ 3 ≤ kS (c 3) (c 6) w.toInt) ∧ ¬ kS (c 3) (c 6) w.toInt = 5)) ∨ ((0 : Int32).toInt = 0 ∧ ¬ ((kS (c 3) (c 6) w.toInt = 1 ∨ 3 ≤ kS (c 3) (c 6) w.toInt) ∧ ¬ kS (c 3) (c 6) w.toInt = 5))) from by have h9 : (0 : Int32).toInt = 0 := (by decide +kernel); omega)
    · have f4 := (ti_eq (a := r3.toInt) (b := 0) rfl (by decide +kernel)).mp c4
      refine lv_iconst (v := 1) hx hb dX12_isGoods_17 (by decide +kernel) ?_
      refine lv_goto (tgt := 22) hx hb dX12_isGoods_18 (by decide +kernel) ?_
      exact ro_zret hx hb hr hlocks hS rfl dX12_isGoods_22 (show 0 ≤ kS (c 3) (c 6) w.toInt ∧ kS (c 3) (c 6) w.toInt ≤ 5 ∧ (((1 : Int32).toInt = 1 ∧ ((kS (c 3) (c 6) w.toInt = 1 ∨ 3 ≤ kS (c 3) (c 6) w.toInt) ∧ ¬ kS (c 3) (c 6) w.toInt = 5)) ∨ ((1 : Int32).toInt = 0 ∧ ¬ ((kS (c 3) (c 6) w.toInt = 1 ∨ 3 ≤ kS (c 3) (c 6) w.toInt) ∧ ¬ kS (c 3) (c 6) w.toInt = 5))) from by have h9 : (1 : Int32).toInt = 1 := (by decide +kernel); omega)

set_option maxHeartbeats 4000000 in
set_option maxRecDepth 100000 in
theorem s_X12_isShutter_e (l : Launch) (D : va_G) (sz : Nat) (o : Nat) (a : Nat → Nat) (t : Nat → ClassId) (i : Nat → Int32) (q : Int64) (c : Nat → Nat → Int32) (d : Nat → Nat → Int64) (w : Int32) (hI : mInv i c) (hw : 0 ≤ w.toInt ∧ w.toInt ≤ 29) : Met l yX12_isShutter wm_X12_isShutter ({ frames := 1, cells := 0, slots := 0, locals := 23 }) (va_Pc [.ref o, .int w] (pA D sz (mW o a t i q c d) (mT t))) (va_Qi (fun (r : Int32) (_ : Unit) => (0 ≤ kS (c 3) (c 6) w.toInt ∧ kS (c 3) (c 6) w.toInt ≤ 5 ∧ ((r.toInt = 1 ∧ (kS (c 3) (c 6) w.toInt = 2 ∨ kS (c 3) (c 6) w.toInt = 3)) ∨ (r.toInt = 0 ∧ ¬ (kS (c 3) (c 6) w.toInt = 2 ∨ kS (c 3) (c 6) w.toInt = 3))))) oA (ro sz)) 0 0 (ro sz) := by
  refine Met.ofW (cc := cX12_isShutter) (maxL := 2) (ret := (some .boolean)) (by decide +kernel) rfl ?_
  intro p e s m args below meth cd s₁ B hml hv
  obtain ⟨rfl, hsz, hP, hK⟩ := hv
  have hx := B.exec
  have hb := B.bytes
  have hr := B.returns
  have hts := atoms_spec (ws := wm_X12_isShutter) B.pre
  have hown : s.vm.findClass RX12 = some m.cls := findClass_of_methodNamed B.named
  have hlocks := B.notSynchronized
  subst hsz
  have hA : ∀ q : Nat, s.heap.size ≤ q → ro s.heap.size q := fun _ h => h
  have hS : va_S (ro s.heap.size) s.heap s.heap [] := va_S.rf
  have hl := lv_entry ([.ref o, .int w]) (n := 2) (Nat.le_of_ble_eq_true rfl)
  rw [lg_entry_eq]
  generalize (lg_sl ([.ref o, .int w]) ++ List.replicate (2 - (lg_sl ([.ref o, .int w])).length) Slot.unset).toArray = ls at hl ⊢
  have hl : lv_has ls 2 [(0, .ref o), (1, .int w)] := hl
  refine lv_aload_n hx hb dX12_isShutter_0 rfl (lv_at hl 0 rfl) ?_
  refine lv_iload_n hx hb dX12_isShutter_1 rfl (lv_at hl 1 rfl) ?_
  refine lv_iconst (v := 2) hx hb dX12_isShutter_2 (by decide +kernel) ?_
  refine ro_calli (va_runV (As := [.int w, .int 2]) (rest := []) ⟨hx, hb, hml, hown, hts⟩ (s_X12_isOf_e l D s.heap.size o a t i q c d w 2 hI (show 0 ≤ w.toInt ∧ w.toInt ≤ 29 from by have h91 : (2 : Int32).toInt = 2 := (by decide +kernel); omega) (show 0 ≤ 2 ∧ 2 ≤ 5 from by decide +kernel)) (cwV 2 hts gm_X12_isShutter_X12_isOf rfl rfl rfl (by decide +kernel) ⟨Nat.le_of_ble_eq_true rfl, Nat.le_of_ble_eq_true rfl⟩) (pA_V hK hP (ci := 12) (q0 := 0) rfl rfl) rfl rfl hl.1 rfl (lv_room (Nat.le_of_ble_eq_true rfl)) dX12_isShutter_3 ⟨Nat.le_of_ble_eq_true rfl, Nat.le_of_ble_eq_true rfl⟩) hS hA hP (fun r1 u1 H locs hw1 hP hS => ?_)
  have hw1 : ((0 ≤ r1.toInt ∧ r1.toInt ≤ 1) ∧ (0 ≤ kS (c 3) (c 6) w.toInt ∧ kS (c 3) (c 6) w.toInt ≤ 5 ∧ ((r1.toInt = 1 ∧ (kS (c 3) (c 6) w.toInt = 2 ∨ ((1 : Int) = 2 ∧ 1 < kS (c 3) (c 6) w.toInt))) ∨ (r1.toInt = 0 ∧ ¬ (kS (c 3) (c 6) w.toInt = 2 ∨ ((1 : Int) = 2 ∧ 1 < kS (c 3) (c 6) w.toInt)))))) := hw1
  obtain ⟨hw1, hr1_0⟩ := hw1
  have hr1_0 : 0 ≤ kS (c 3) (c 6) w.toInt ∧ kS (c 3) (c 6) w.toInt ≤ 5 ∧ ((r1.toInt = 1 ∧ (kS (c 3) (c 6) w.toInt = 2 ∨ ((1 : Int) = 2 ∧ 1 < kS (c 3) (c 6) w.toInt))) ∨ (r1.toInt = 0 ∧ ¬ (kS (c 3) (c 6) w.toInt = 2 ∨ ((1 : Int) = 2 ∧ 1 < kS (c 3) (c 6) w.toInt)))) := hr1_0
  refine lv_if_ne (tgt := 18) hx hb dX12_isShutter_6 (by decide +kernel) (fun c2 => ?_) (fun c2 => ?_)
  · have f2 := mt (ti_eq (a := r1.toInt) (b := 0) rfl (by decide +kernel)).mpr c2
    refine lv_iconst (v := 1) hx hb dX12_isShutter_18 (by decide +kernel) ?_
    refine lv_goto (tgt := 23) hx hb dX12_isShutter_19 (by decide +kernel) ?_
    exact ro_zret hx hb hr hlocks hS rfl dX12_isShutter_23 (show 0 ≤ kS (c 3) (c 6) w.toInt ∧ kS (c 3) (c 6) w.toInt ≤ 5 ∧ (((1 : Int32).toInt = 1 ∧ (kS (c 3) (c 6) w.toInt = 2 ∨ kS (c 3) (c 6) w.toInt = 3)) ∨ ((1 : Int32).toInt = 0 ∧ ¬ (kS (c 3) (c 6) w.toInt = 2 ∨ kS (c 3) (c 6) w.toInt = 3))) from by have h9 : (1 : Int32).toInt = 1 := (by decide +kernel); omega)
  · have f2 := (ti_eq (a := r1.toInt) (b := 0) rfl (by decide +kernel)).mp c2
    refine lv_aload_n hx hb dX12_isShutter_9 rfl (lv_at hl 0 rfl) ?_
    refine lv_iload_n hx hb dX12_isShutter_10 rfl (lv_at hl 1 rfl) ?_
    refine lv_iconst (v := 3) hx hb dX12_isShutter_11 (by decide +kernel) ?_
    refine ro_calli (va_runV (As := [.int w, .int 3]) (rest := []) ⟨hx, hb, hml, hown, hts⟩ (s_X12_isOf_e l D H.size o a t i q c d w 3 hI (show 0 ≤ w.toInt ∧ w.toInt ≤ 29 from by have h91 : (3 : Int32).toInt = 3 := (by decide +kernel); omega) (show 0 ≤ 3 ∧ 3 ≤ 5 from by decide +kernel)) (cwV 2 hts gm_X12_isShutter_X12_isOf rfl rfl rfl (by decide +kernel) ⟨Nat.le_of_ble_eq_true rfl, Nat.le_of_ble_eq_true rfl⟩) (pA_V hK hP (ci := 12) (q0 := 0) rfl rfl) rfl rfl hl.1 rfl (lv_room (Nat.le_of_ble_eq_true rfl)) dX12_isShutter_12 ⟨Nat.le_of_ble_eq_true rfl, Nat.le_of_ble_eq_true rfl⟩) hS hA hP (fun r3 u3 H locs hw3 hP hS => ?_)
    have hw3 : ((0 ≤ r3.toInt ∧ r3.toInt ≤ 1) ∧ (0 ≤ kS (c 3) (c 6) w.toInt ∧ kS (c 3) (c 6) w.toInt ≤ 5 ∧ ((r3.toInt = 1 ∧ (kS (c 3) (c 6) w.toInt = 3 ∨ ((1 : Int) = 3 ∧ 1 < kS (c 3) (c 6) w.toInt))) ∨ (r3.toInt = 0 ∧ ¬ (kS (c 3) (c 6) w.toInt = 3 ∨ ((1 : Int) = 3 ∧ 1 < kS (c 3) (c 6) w.toInt)))))) := hw3
    obtain ⟨hw3, hr3_0⟩ := hw3
    have hr3_0 : 0 ≤ kS (c 3) (c 6) w.toInt ∧ kS (c 3) (c 6) w.toInt ≤ 5 ∧ ((r3.toInt = 1 ∧ (kS (c 3) (c 6) w.toInt = 3 ∨ ((1 : Int) = 3 ∧ 1 < kS (c 3) (c 6) w.toInt))) ∨ (r3.toInt = 0 ∧ ¬ (kS (c 3) (c 6) w.toInt = 3 ∨ ((1 : Int) = 3 ∧ 1 < kS (c 3) (c 6) w.toInt)))) := hr3_0
    refine lv_if_eq (tgt := 22) hx hb dX12_isShutter_15 (by decide +kernel) (fun c4 => ?_) (fun c4 => ?_)
    · have f4 := (ti_eq (a := r3.toInt) (b := 0) rfl (by decide +kernel)).mp c4
      refine lv_iconst (v := 0) hx hb dX12_isShutter_22 (by decide +kernel) ?_
      exact ro_zret hx hb hr hlocks hS rfl dX12_isShutter_23 (show 0 ≤ kS (c 3) (c 6) w.toInt ∧ kS (c 3) (c 6) w.toInt ≤ 5 ∧ (((0 : Int32).toInt = 1 ∧ (kS (c 3) (c 6) w.toInt = 2 ∨ kS (c 3) (c 6) w.toInt = 3)) ∨ ((0 : Int32).toInt = 0 ∧ ¬ (kS (c 3) (c 6) w.toInt = 2 ∨ kS (c 3) (c 6) w.toInt = 3))) from by have h9 : (0 : Int32).toInt = 0 := (by decide +kernel); omega)
    · have f4 := mt (ti_eq (a := r3.toInt) (b := 0) rfl (by decide +kernel)).mpr c4
      refine lv_iconst (v := 1) hx hb dX12_isShutter_18 (by decide +kernel) ?_
      refine lv_goto (tgt := 23) hx hb dX12_isShutter_19 (by decide +kernel) ?_
      exact ro_zret hx hb hr hlocks hS rfl dX12_isShutter_23 (show 0 ≤ kS (c 3) (c 6) w.toInt ∧ kS (c 3) (c 6) w.toInt ≤ 5 ∧ (((1 : Int32).toInt = 1 ∧ (kS (c 3) (c 6) w.toInt = 2 ∨ kS (c 3) (c 6) w.toInt = 3)) ∨ ((1 : Int32).toInt = 0 ∧ ¬ (kS (c 3) (c 6) w.toInt = 2 ∨ kS (c 3) (c 6) w.toInt = 3))) from by have h9 : (1 : Int32).toInt = 1 := (by decide +kernel); omega)

set_option maxHeartbeats 4000000 in
set_option maxRecDepth 100000 in
theorem s_X12_mayHave_e (l : Launch) (D : va_G) (sz : Nat) (o : Nat) (a : Nat → Nat) (t : Nat → ClassId) (i : Nat → Int32) (q : Int64) (c : Nat → Nat → Int32) (d : Nat → Nat → Int64) (w : Int32) (f : Int32) (hI : mInv i c) (hw : 0 ≤ w.toInt ∧ w.toInt ≤ 29) (hf : 0 ≤ f.toInt ∧ f.toInt ≤ 5) : Met l yX12_mayHave wm_X12_mayHave ({ frames := 3, cells := 0, slots := 0, locals := 65 }) (va_Pc [.ref o, .int w, .int f] (pA D sz (mW o a t i q c d) (mT t))) (va_Qi (fun (r : Int32) (_ : Unit) => (((r.toInt = 1 ∧ ((f.toInt ≤ 1 ∧ (kS (c 3) (c 6) w.toInt = 2 ∨ kS (c 3) (c 6) w.toInt = 3)) ∨ f.toInt = 2 ∨ (f.toInt = 3 ∧ (kS (c 3) (c 6) w.toInt = 1 ∨ 3 ≤ kS (c 3) (c 6) w.toInt)) ∨ (f.toInt = 4 ∧ ((kS (c 3) (c 6) w.toInt = 1 ∨ 3 ≤ kS (c 3) (c 6) w.toInt) ∧ ¬ kS (c 3) (c 6) w.toInt = 5)) ∨ (5 ≤ f.toInt ∧ kS (c 3) (c 6) w.toInt = 3))) ∨ (r.toInt = 0 ∧ ¬ ((f.toInt ≤ 1 ∧ (kS (c 3) (c 6) w.toInt = 2 ∨ kS (c 3) (c 6) w.toInt = 3)) ∨ f.toInt = 2 ∨ (f.toInt = 3 ∧ (kS (c 3) (c 6) w.toInt = 1 ∨ 3 ≤ kS (c 3) (c 6) w.toInt)) ∨ (f.toInt = 4 ∧ ((kS (c 3) (c 6) w.toInt = 1 ∨ 3 ≤ kS (c 3) (c 6) w.toInt) ∧ ¬ kS (c 3) (c 6) w.toInt = 5)) ∨ (5 ≤ f.toInt ∧ kS (c 3) (c 6) w.toInt = 3)))))) oA (ro sz)) 0 0 (ro sz) := by
  refine Met.ofW (cc := cX12_mayHave) (maxL := 3) (ret := (some .boolean)) (by decide +kernel) rfl ?_
  intro p e s m args below meth cd s₁ B hml hv
  obtain ⟨rfl, hsz, hP, hK⟩ := hv
  have hx := B.exec
  have hb := B.bytes
  have hr := B.returns
  have hts := atoms_spec (ws := wm_X12_mayHave) B.pre
  have hown : s.vm.findClass RX12 = some m.cls := findClass_of_methodNamed B.named
  have hlocks := B.notSynchronized
  subst hsz
  have hA : ∀ q : Nat, s.heap.size ≤ q → ro s.heap.size q := fun _ h => h
  have hS : va_S (ro s.heap.size) s.heap s.heap [] := va_S.rf
  have hl := lv_entry ([.ref o, .int w, .int f]) (n := 3) (Nat.le_of_ble_eq_true rfl)
  rw [lg_entry_eq]
  generalize (lg_sl ([.ref o, .int w, .int f]) ++ List.replicate (3 - (lg_sl ([.ref o, .int w, .int f])).length) Slot.unset).toArray = ls at hl ⊢
  have hl : lv_has ls 3 [(0, .ref o), (1, .int w), (2, .int f)] := hl
  refine lv_iload_n hx hb dX12_mayHave_0 rfl (lv_at hl 2 rfl) ?_
  rcases (show (f.toInt < 0 ∨ 4 < f.toInt) ∨ f.toInt = 0 ∨ f.toInt = 1 ∨ f.toInt = 2 ∨ f.toInt = 3 ∨ f.toInt = 4 by omega) with f1 | f1 | f1 | f1 | f1 | f1
  · refine lv_tableOut (tgt := 56) hx hb dX12_mayHave_1 f1 (by decide +kernel) ?_
    refine lv_aload_n hx hb dX12_mayHave_56 rfl (lv_at hl 0 rfl) ?_
    refine lv_iload_n hx hb dX12_mayHave_57 rfl (lv_at hl 1 rfl) ?_
    refine lv_iconst (v := 3) hx hb dX12_mayHave_58 (by decide +kernel) ?_
    refine ro_calli (va_runV (As := [.int w, .int 3]) (rest := []) ⟨hx, hb, hml, hown, hts⟩ (s_X12_isOf_e l D s.heap.size o a t i q c d w 3 hI (show 0 ≤ w.toInt ∧ w.toInt ≤ 29 from by have h91 : (3 : Int32).toInt = 3 := (by decide +kernel); omega) (show 0 ≤ 3 ∧ 3 ≤ 5 from by decide +kernel)) (cwV 2 hts gm_X12_mayHave_X12_isOf rfl rfl rfl (by decide +kernel) ⟨Nat.le_of_ble_eq_true rfl, Nat.le_of_ble_eq_true rfl⟩) (pA_V hK hP (ci := 12) (q0 := 0) rfl rfl) rfl rfl hl.1 rfl (lv_room (Nat.le_of_ble_eq_true rfl)) dX12_mayHave_59 ⟨Nat.le_of_ble_eq_true rfl, Nat.le_of_ble_eq_true rfl⟩) hS hA hP (fun r2 u2 H locs hw2 hP hS => ?_)
    have hw2 : ((0 ≤ r2.toInt ∧ r2.toInt ≤ 1) ∧ (0 ≤ kS (c 3) (c 6) w.toInt ∧ kS (c 3) (c 6) w.toInt ≤ 5 ∧ ((r2.toInt = 1 ∧ (kS (c 3) (c 6) w.toInt = 3 ∨ ((1 : Int) = 3 ∧ 1 < kS (c 3) (c 6) w.toInt))) ∨ (r2.toInt = 0 ∧ ¬ (kS (c 3) (c 6) w.toInt = 3 ∨ ((1 : Int) = 3 ∧ 1 < kS (c 3) (c 6) w.toInt)))))) := hw2
    obtain ⟨hw2, hr2_0⟩ := hw2
    have hr2_0 : 0 ≤ kS (c 3) (c 6) w.toInt ∧ kS (c 3) (c 6) w.toInt ≤ 5 ∧ ((r2.toInt = 1 ∧ (kS (c 3) (c 6) w.toInt = 3 ∨ ((1 : Int) = 3 ∧ 1 < kS (c 3) (c 6) w.toInt))) ∨ (r2.toInt = 0 ∧ ¬ (kS (c 3) (c 6) w.toInt = 3 ∨ ((1 : Int) = 3 ∧ 1 < kS (c 3) (c 6) w.toInt)))) := hr2_0
    exact ro_zret hx hb hr hlocks hS (nb_n (show 0 ≤ r2.toInt ∧ r2.toInt ≤ 1 from by omega)) dX12_mayHave_62 (show ((r2.toInt = 1 ∧ ((f.toInt ≤ 1 ∧ (kS (c 3) (c 6) w.toInt = 2 ∨ kS (c 3) (c 6) w.toInt = 3)) ∨ f.toInt = 2 ∨ (f.toInt = 3 ∧ (kS (c 3) (c 6) w.toInt = 1 ∨ 3 ≤ kS (c 3) (c 6) w.toInt)) ∨ (f.toInt = 4 ∧ ((kS (c 3) (c 6) w.toInt = 1 ∨ 3 ≤ kS (c 3) (c 6) w.toInt) ∧ ¬ kS (c 3) (c 6) w.toInt = 5)) ∨ (5 ≤ f.toInt ∧ kS (c 3) (c 6) w.toInt = 3))) ∨ (r2.toInt = 0 ∧ ¬ ((f.toInt ≤ 1 ∧ (kS (c 3) (c 6) w.toInt = 2 ∨ kS (c 3) (c 6) w.toInt = 3)) ∨ f.toInt = 2 ∨ (f.toInt = 3 ∧ (kS (c 3) (c 6) w.toInt = 1 ∨ 3 ≤ kS (c 3) (c 6) w.toInt)) ∨ (f.toInt = 4 ∧ ((kS (c 3) (c 6) w.toInt = 1 ∨ 3 ≤ kS (c 3) (c 6) w.toInt) ∧ ¬ kS (c 3) (c 6) w.toInt = 5)) ∨ (5 ≤ f.toInt ∧ kS (c 3) (c 6) w.toInt = 3)))) from by omega)
  · refine lv_tableIn (off := 35) (tgt := 36) hx hb dX12_mayHave_1 (by omega) (by omega) (by rw [f1]; rfl) (by decide +kernel) ?_
    refine lv_aload_n hx hb dX12_mayHave_36 rfl (lv_at hl 0 rfl) ?_
    refine lv_iload_n hx hb dX12_mayHave_37 rfl (lv_at hl 1 rfl) ?_
    refine ro_calli (va_runV (As := [.int w]) (rest := []) ⟨hx, hb, hml, hown, hts⟩ (s_X12_isShutter_e l D s.heap.size o a t i q c d w hI (show 0 ≤ w.toInt ∧ w.toInt ≤ 29 from by omega)) (cwV 1 hts gm_X12_mayHave_X12_isShutter rfl rfl rfl (by decide +kernel) ⟨Nat.le_of_ble_eq_true rfl, Nat.le_of_ble_eq_true rfl⟩) (pA_V hK hP (ci := 12) (q0 := 0) rfl rfl) rfl rfl hl.1 rfl (lv_room (Nat.le_of_ble_eq_true rfl)) dX12_mayHave_38 ⟨Nat.le_of_ble_eq_true rfl, Nat.le_of_ble_eq_true rfl⟩) hS hA hP (fun r3 u3 H locs hw3 hP hS => ?_)
    have hw3 : (0 ≤ kS (c 3) (c 6) w.toInt ∧ kS (c 3) (c 6) w.toInt ≤ 5 ∧ ((r3.toInt = 1 ∧ (kS (c 3) (c 6) w.toInt = 2 ∨ kS (c 3) (c 6) w.toInt = 3)) ∨ (r3.toInt = 0 ∧ ¬ (kS (c 3) (c 6) w.toInt = 2 ∨ kS (c 3) (c 6) w.toInt = 3)))) := hw3
    exact ro_zret hx hb hr hlocks hS (nb_n (show 0 ≤ r3.toInt ∧ r3.toInt ≤ 1 from by omega)) dX12_mayHave_41 (show ((r3.toInt = 1 ∧ ((f.toInt ≤ 1 ∧ (kS (c 3) (c 6) w.toInt = 2 ∨ kS (c 3) (c 6) w.toInt = 3)) ∨ f.toInt = 2 ∨ (f.toInt = 3 ∧ (kS (c 3) (c 6) w.toInt = 1 ∨ 3 ≤ kS (c 3) (c 6) w.toInt)) ∨ (f.toInt = 4 ∧ ((kS (c 3) (c 6) w.toInt = 1 ∨ 3 ≤ kS (c 3) (c 6) w.toInt) ∧ ¬ kS (c 3) (c 6) w.toInt = 5)) ∨ (5 ≤ f.toInt ∧ kS (c 3) (c 6) w.toInt = 3))) ∨ (r3.toInt = 0 ∧ ¬ ((f.toInt ≤ 1 ∧ (kS (c 3) (c 6) w.toInt = 2 ∨ kS (c 3) (c 6) w.toInt = 3)) ∨ f.toInt = 2 ∨ (f.toInt = 3 ∧ (kS (c 3) (c 6) w.toInt = 1 ∨ 3 ≤ kS (c 3) (c 6) w.toInt)) ∨ (f.toInt = 4 ∧ ((kS (c 3) (c 6) w.toInt = 1 ∨ 3 ≤ kS (c 3) (c 6) w.toInt) ∧ ¬ kS (c 3) (c 6) w.toInt = 5)) ∨ (5 ≤ f.toInt ∧ kS (c 3) (c 6) w.toInt = 3)))) from by omega)
  · refine lv_tableIn (off := 35) (tgt := 36) hx hb dX12_mayHave_1 (by omega) (by omega) (by rw [f1]; rfl) (by decide +kernel) ?_
    refine lv_aload_n hx hb dX12_mayHave_36 rfl (lv_at hl 0 rfl) ?_
    refine lv_iload_n hx hb dX12_mayHave_37 rfl (lv_at hl 1 rfl) ?_
    refine ro_calli (va_runV (As := [.int w]) (rest := []) ⟨hx, hb, hml, hown, hts⟩ (s_X12_isShutter_e l D s.heap.size o a t i q c d w hI (show 0 ≤ w.toInt ∧ w.toInt ≤ 29 from by omega)) (cwV 1 hts gm_X12_mayHave_X12_isShutter rfl rfl rfl (by decide +kernel) ⟨Nat.le_of_ble_eq_true rfl, Nat.le_of_ble_eq_true rfl⟩) (pA_V hK hP (ci := 12) (q0 := 0) rfl rfl) rfl rfl hl.1 rfl (lv_room (Nat.le_of_ble_eq_true rfl)) dX12_mayHave_38 ⟨Nat.le_of_ble_eq_true rfl, Nat.le_of_ble_eq_true rfl⟩) hS hA hP (fun r4 u4 H locs hw4 hP hS => ?_)
    have hw4 : (0 ≤ kS (c 3) (c 6) w.toInt ∧ kS (c 3) (c 6) w.toInt ≤ 5 ∧ ((r4.toInt = 1 ∧ (kS (c 3) (c 6) w.toInt = 2 ∨ kS (c 3) (c 6) w.toInt = 3)) ∨ (r4.toInt = 0 ∧ ¬ (kS (c 3) (c 6) w.toInt = 2 ∨ kS (c 3) (c 6) w.toInt = 3)))) := hw4
    exact ro_zret hx hb hr hlocks hS (nb_n (show 0 ≤ r4.toInt ∧ r4.toInt ≤ 1 from by omega)) dX12_mayHave_41 (show ((r4.toInt = 1 ∧ ((f.toInt ≤ 1 ∧ (kS (c 3) (c 6) w.toInt = 2 ∨ kS (c 3) (c 6) w.toInt = 3)) ∨ f.toInt = 2 ∨ (f.toInt = 3 ∧ (kS (c 3) (c 6) w.toInt = 1 ∨ 3 ≤ kS (c 3) (c 6) w.toInt)) ∨ (f.toInt = 4 ∧ ((kS (c 3) (c 6) w.toInt = 1 ∨ 3 ≤ kS (c 3) (c 6) w.toInt) ∧ ¬ kS (c 3) (c 6) w.toInt = 5)) ∨ (5 ≤ f.toInt ∧ kS (c 3) (c 6) w.toInt = 3))) ∨ (r4.toInt = 0 ∧ ¬ ((f.toInt ≤ 1 ∧ (kS (c 3) (c 6) w.toInt = 2 ∨ kS (c 3) (c 6) w.toInt = 3)) ∨ f.toInt = 2 ∨ (f.toInt = 3 ∧ (kS (c 3) (c 6) w.toInt = 1 ∨ 3 ≤ kS (c 3) (c 6) w.toInt)) ∨ (f.toInt = 4 ∧ ((kS (c 3) (c 6) w.toInt = 1 ∨ 3 ≤ kS (c 3) (c 6) w.toInt) ∧ ¬ kS (c 3) (c 6) w.toInt = 5)) ∨ (5 ≤ f.toInt ∧ kS (c 3) (c 6) w.toInt = 3)))) from by omega)
  · refine lv_tableIn (off := 41) (tgt := 42) hx hb dX12_mayHave_1 (by omega) (by omega) (by rw [f1]; rfl) (by decide +kernel) ?_
    refine lv_iconst (v := 1) hx hb dX12_mayHave_42 (by decide +kernel) ?_
    exact ro_zret hx hb hr hlocks hS rfl dX12_mayHave_43 (show (((1 : Int32).toInt = 1 ∧ ((f.toInt ≤ 1 ∧ (kS (c 3) (c 6) w.toInt = 2 ∨ kS (c 3) (c 6) w.toInt = 3)) ∨ f.toInt = 2 ∨ (f.toInt = 3 ∧ (kS (c 3) (c 6) w.toInt = 1 ∨ 3 ≤ kS (c 3) (c 6) w.toInt)) ∨ (f.toInt = 4 ∧ ((kS (c 3) (c 6) w.toInt = 1 ∨ 3 ≤ kS (c 3) (c 6) w.toInt) ∧ ¬ kS (c 3) (c 6) w.toInt = 5)) ∨ (5 ≤ f.toInt ∧ kS (c 3) (c 6) w.toInt = 3))) ∨ ((1 : Int32).toInt = 0 ∧ ¬ ((f.toInt ≤ 1 ∧ (kS (c 3) (c 6) w.toInt = 2 ∨ kS (c 3) (c 6) w.toInt = 3)) ∨ f.toInt = 2 ∨ (f.toInt = 3 ∧ (kS (c 3) (c 6) w.toInt = 1 ∨ 3 ≤ kS (c 3) (c 6) w.toInt)) ∨ (f.toInt = 4 ∧ ((kS (c 3) (c 6) w.toInt = 1 ∨ 3 ≤ kS (c 3) (c 6) w.toInt) ∧ ¬ kS (c 3) (c 6) w.toInt = 5)) ∨ (5 ≤ f.toInt ∧ kS (c 3) (c 6) w.toInt = 3)))) from by have h9 : (1 : Int32).toInt = 1 := (by decide +kernel); omega)
  · refine lv_tableIn (off := 43) (tgt := 44) hx hb dX12_mayHave_1 (by omega) (by omega) (by rw [f1]; rfl) (by decide +kernel) ?_
    refine lv_aload_n hx hb dX12_mayHave_44 rfl (lv_at hl 0 rfl) ?_
    refine lv_iload_n hx hb dX12_mayHave_45 rfl (lv_at hl 1 rfl) ?_
    refine ro_calli (va_runV (As := [.int w]) (rest := []) ⟨hx, hb, hml, hown, hts⟩ (s_X12_isMovable_e l D s.heap.size o a t i q c d w hI (show 0 ≤ w.toInt ∧ w.toInt ≤ 29 from by omega)) (cwV 1 hts gm_X12_mayHave_X12_isMovable rfl rfl rfl (by decide +kernel) ⟨Nat.le_of_ble_eq_true rfl, Nat.le_of_ble_eq_true rfl⟩) (pA_V hK hP (ci := 12) (q0 := 0) rfl rfl) rfl rfl hl.1 rfl (lv_room (Nat.le_of_ble_eq_true rfl)) dX12_mayHave_46 ⟨Nat.le_of_ble_eq_true rfl, Nat.le_of_ble_eq_true rfl⟩) hS hA hP (fun r5 u5 H locs hw5 hP hS => ?_)
    have hw5 : (0 ≤ kS (c 3) (c 6) w.toInt ∧ kS (c 3) (c 6) w.toInt ≤ 5 ∧ ((r5.toInt = 1 ∧ (kS (c 3) (c 6) w.toInt = 1 ∨ 3 ≤ kS (c 3) (c 6) w.toInt)) ∨ (r5.toInt = 0 ∧ ¬ (kS (c 3) (c 6) w.toInt = 1 ∨ 3 ≤ kS (c 3) (c 6) w.toInt)))) := hw5
    exact ro_zret hx hb hr hlocks hS (nb_n (show 0 ≤ r5.toInt ∧ r5.toInt ≤ 1 from by omega)) dX12_mayHave_49 (show ((r5.toInt = 1 ∧ ((f.toInt ≤ 1 ∧ (kS (c 3) (c 6) w.toInt = 2 ∨ kS (c 3) (c 6) w.toInt = 3)) ∨ f.toInt = 2 ∨ (f.toInt = 3 ∧ (kS (c 3) (c 6) w.toInt = 1 ∨ 3 ≤ kS (c 3) (c 6) w.toInt)) ∨ (f.toInt = 4 ∧ ((kS (c 3) (c 6) w.toInt = 1 ∨ 3 ≤ kS (c 3) (c 6) w.toInt) ∧ ¬ kS (c 3) (c 6) w.toInt = 5)) ∨ (5 ≤ f.toInt ∧ kS (c 3) (c 6) w.toInt = 3))) ∨ (r5.toInt = 0 ∧ ¬ ((f.toInt ≤ 1 ∧ (kS (c 3) (c 6) w.toInt = 2 ∨ kS (c 3) (c 6) w.toInt = 3)) ∨ f.toInt = 2 ∨ (f.toInt = 3 ∧ (kS (c 3) (c 6) w.toInt = 1 ∨ 3 ≤ kS (c 3) (c 6) w.toInt)) ∨ (f.toInt = 4 ∧ ((kS (c 3) (c 6) w.toInt = 1 ∨ 3 ≤ kS (c 3) (c 6) w.toInt) ∧ ¬ kS (c 3) (c 6) w.toInt = 5)) ∨ (5 ≤ f.toInt ∧ kS (c 3) (c 6) w.toInt = 3)))) from by omega)
  · refine lv_tableIn (off := 49) (tgt := 50) hx hb dX12_mayHave_1 (by omega) (by omega) (by rw [f1]; rfl) (by decide +kernel) ?_
    refine lv_aload_n hx hb dX12_mayHave_50 rfl (lv_at hl 0 rfl) ?_
    refine lv_iload_n hx hb dX12_mayHave_51 rfl (lv_at hl 1 rfl) ?_
    refine ro_calli (va_runV (As := [.int w]) (rest := []) ⟨hx, hb, hml, hown, hts⟩ (s_X12_isGoods_e l D s.heap.size o a t i q c d w hI (show 0 ≤ w.toInt ∧ w.toInt ≤ 29 from by omega)) (cwV 1 hts gm_X12_mayHave_X12_isGoods rfl rfl rfl (by decide +kernel) ⟨Nat.le_of_ble_eq_true rfl, Nat.le_of_ble_eq_true rfl⟩) (pA_V hK hP (ci := 12) (q0 := 0) rfl rfl) rfl rfl hl.1 rfl (lv_room (Nat.le_of_ble_eq_true rfl)) dX12_mayHave_52 ⟨Nat.le_of_ble_eq_true rfl, Nat.le_of_ble_eq_true rfl⟩) hS hA hP (fun r6 u6 H locs hw6 hP hS => ?_)
    have hw6 : (0 ≤ kS (c 3) (c 6) w.toInt ∧ kS (c 3) (c 6) w.toInt ≤ 5 ∧ ((r6.toInt = 1 ∧ ((kS (c 3) (c 6) w.toInt = 1 ∨ 3 ≤ kS (c 3) (c 6) w.toInt) ∧ ¬ kS (c 3) (c 6) w.toInt = 5)) ∨ (r6.toInt = 0 ∧ ¬ ((kS (c 3) (c 6) w.toInt = 1 ∨ 3 ≤ kS (c 3) (c 6) w.toInt) ∧ ¬ kS (c 3) (c 6) w.toInt = 5)))) := hw6
    exact ro_zret hx hb hr hlocks hS (nb_n (show 0 ≤ r6.toInt ∧ r6.toInt ≤ 1 from by omega)) dX12_mayHave_55 (show ((r6.toInt = 1 ∧ ((f.toInt ≤ 1 ∧ (kS (c 3) (c 6) w.toInt = 2 ∨ kS (c 3) (c 6) w.toInt = 3)) ∨ f.toInt = 2 ∨ (f.toInt = 3 ∧ (kS (c 3) (c 6) w.toInt = 1 ∨ 3 ≤ kS (c 3) (c 6) w.toInt)) ∨ (f.toInt = 4 ∧ ((kS (c 3) (c 6) w.toInt = 1 ∨ 3 ≤ kS (c 3) (c 6) w.toInt) ∧ ¬ kS (c 3) (c 6) w.toInt = 5)) ∨ (5 ≤ f.toInt ∧ kS (c 3) (c 6) w.toInt = 3))) ∨ (r6.toInt = 0 ∧ ¬ ((f.toInt ≤ 1 ∧ (kS (c 3) (c 6) w.toInt = 2 ∨ kS (c 3) (c 6) w.toInt = 3)) ∨ f.toInt = 2 ∨ (f.toInt = 3 ∧ (kS (c 3) (c 6) w.toInt = 1 ∨ 3 ≤ kS (c 3) (c 6) w.toInt)) ∨ (f.toInt = 4 ∧ ((kS (c 3) (c 6) w.toInt = 1 ∨ 3 ≤ kS (c 3) (c 6) w.toInt) ∧ ¬ kS (c 3) (c 6) w.toInt = 5)) ∨ (5 ≤ f.toInt ∧ kS (c 3) (c 6) w.toInt = 3)))) from by omega)

set_option maxHeartbeats 4000000 in
set_option maxRecDepth 100000 in
theorem s_X12_fitsLeft_e (l : Launch) (D : va_G) (sz : Nat) (o : Nat) (a : Nat → Nat) (t : Nat → ClassId) (i : Nat → Int32) (q : Int64) (c : Nat → Nat → Int32) (d : Nat → Nat → Int64) (f : Int32) (w1 : Int32) (w2 : Int32) (hI : mInv i c) (hw1 : 0 ≤ w1.toInt ∧ w1.toInt ≤ 29) (hf : 0 ≤ f.toInt ∧ f.toInt ≤ 7) (hb6 : ¬ f.toInt = 6 ∨ (0 ≤ w2.toInt ∧ w2.toInt ≤ 5)) : Met l yX12_fitsLeft wm_X12_fitsLeft ({ frames := 4, cells := 0, slots := 0, locals := 87 }) (va_Pc [.ref o, .int f, .int w1, .int w2] (pA D sz (mW o a t i q c d) (mT t))) (va_Qi (fun (r : Int32) (_ : Unit) => ((0 ≤ r.toInt ∧ r.toInt ≤ 1) ∧ (Sm r (FtL f.toInt (kS (c 3) (c 6) w1.toInt) w2.toInt)))) oA (ro sz)) 0 0 (ro sz) := by
  refine Met.ofW (cc := cX12_fitsLeft) (maxL := 4) (ret := (some .boolean)) (by decide +kernel) rfl ?_
  intro p e s m args below meth cd s₁ B hml hv
  obtain ⟨rfl, hsz, hP, hK⟩ := hv
  have hx := B.exec
  have hb := B.bytes
  have hr := B.returns
  have hts := atoms_spec (ws := wm_X12_fitsLeft) B.pre
  have hown : s.vm.findClass RX12 = some m.cls := findClass_of_methodNamed B.named
  have hlocks := B.notSynchronized
  subst hsz
  have hA : ∀ q : Nat, s.heap.size ≤ q → ro s.heap.size q := fun _ h => h
  have hS : va_S (ro s.heap.size) s.heap s.heap [] := va_S.rf
  have hl := lv_entry ([.ref o, .int f, .int w1, .int w2]) (n := 4) (Nat.le_of_ble_eq_true rfl)
  rw [lg_entry_eq]
  generalize (lg_sl ([.ref o, .int f, .int w1, .int w2]) ++ List.replicate (4 - (lg_sl ([.ref o, .int f, .int w1, .int w2])).length) Slot.unset).toArray = ls at hl ⊢
  have hl : lv_has ls 4 [(0, .ref o), (1, .int f), (2, .int w1), (3, .int w2)] := hl
  refine lv_iload_n hx hb dX12_fitsLeft_0 rfl (lv_at hl 1 rfl) ?_
  rcases (show (f.toInt < 0 ∨ 6 < f.toInt) ∨ f.toInt = 0 ∨ f.toInt = 1 ∨ f.toInt = 2 ∨ f.toInt = 3 ∨ f.toInt = 4 ∨ f.toInt = 5 ∨ f.toInt = 6 by omega) with f1 | f1 | f1 | f1 | f1 | f1 | f1 | f1
  · refine lv_tableOut (tgt := 64) hx hb dX12_fitsLeft_1 f1 (by decide +kernel) ?_
    refine lv_aload_n hx hb dX12_fitsLeft_64 rfl (lv_at hl 0 rfl) ?_
    refine lv_iload_n hx hb dX12_fitsLeft_65 rfl (lv_at hl 2 rfl) ?_
    refine ro_calli (va_runV (As := [.int w1]) (rest := []) ⟨hx, hb, hml, hown, hts⟩ (s_X12_isGoods_e l D s.heap.size o a t i q c d w1 hI (show 0 ≤ w1.toInt ∧ w1.toInt ≤ 29 from by omega)) (cwV 1 hts gm_X12_fitsLeft_X12_isGoods rfl rfl rfl (by decide +kernel) ⟨Nat.le_of_ble_eq_true rfl, Nat.le_of_ble_eq_true rfl⟩) (pA_V hK hP (ci := 12) (q0 := 0) rfl rfl) rfl rfl hl.1 rfl (lv_room (Nat.le_of_ble_eq_true rfl)) dX12_fitsLeft_66 ⟨Nat.le_of_ble_eq_true rfl, Nat.le_of_ble_eq_true rfl⟩) hS hA hP (fun r2 u2 H locs hw2 hP hS => ?_)
    have hw2 : (0 ≤ kS (c 3) (c 6) w1.toInt ∧ kS (c 3) (c 6) w1.toInt ≤ 5 ∧ ((r2.toInt = 1 ∧ ((kS (c 3) (c 6) w1.toInt = 1 ∨ 3 ≤ kS (c 3) (c 6) w1.toInt) ∧ ¬ kS (c 3) (c 6) w1.toInt = 5)) ∨ (r2.toInt = 0 ∧ ¬ ((kS (c 3) (c 6) w1.toInt = 1 ∨ 3 ≤ kS (c 3) (c 6) w1.toInt) ∧ ¬ kS (c 3) (c 6) w1.toInt = 5)))) := hw2
    exact ro_zret hx hb hr hlocks hS (nb_n (show 0 ≤ r2.toInt ∧ r2.toInt ≤ 1 from by omega)) dX12_fitsLeft_69 ⟨(show 0 ≤ r2.toInt ∧ r2.toInt ≤ 1 from by omega), (show Sm r2 (FtL f.toInt (kS (c 3) (c 6) w1.toInt) w2.toInt) from by unfold Sm FtL; omega)⟩
  · refine lv_tableIn (off := 43) (tgt := 44) hx hb dX12_fitsLeft_1 (by omega) (by omega) (by rw [f1]; rfl) (by decide +kernel) ?_
    refine lv_aload_n hx hb dX12_fitsLeft_44 rfl (lv_at hl 0 rfl) ?_
    refine lv_iload_n hx hb dX12_fitsLeft_45 rfl (lv_at hl 2 rfl) ?_
    refine ro_calli (va_runV (As := [.int w1]) (rest := []) ⟨hx, hb, hml, hown, hts⟩ (s_X12_isMovable_e l D s.heap.size o a t i q c d w1 hI (show 0 ≤ w1.toInt ∧ w1.toInt ≤ 29 from by omega)) (cwV 1 hts gm_X12_fitsLeft_X12_isMovable rfl rfl rfl (by decide +kernel) ⟨Nat.le_of_ble_eq_true rfl, Nat.le_of_ble_eq_true rfl⟩) (pA_V hK hP (ci := 12) (q0 := 0) rfl rfl) rfl rfl hl.1 rfl (lv_room (Nat.le_of_ble_eq_true rfl)) dX12_fitsLeft_46 ⟨Nat.le_of_ble_eq_true rfl, Nat.le_of_ble_eq_true rfl⟩) hS hA hP (fun r3 u3 H locs hw3 hP hS => ?_)
    have hw3 : (0 ≤ kS (c 3) (c 6) w1.toInt ∧ kS (c 3) (c 6) w1.toInt ≤ 5 ∧ ((r3.toInt = 1 ∧ (kS (c 3) (c 6) w1.toInt = 1 ∨ 3 ≤ kS (c 3) (c 6) w1.toInt)) ∨ (r3.toInt = 0 ∧ ¬ (kS (c 3) (c 6) w1.toInt = 1 ∨ 3 ≤ kS (c 3) (c 6) w1.toInt)))) := hw3
    exact ro_zret hx hb hr hlocks hS (nb_n (show 0 ≤ r3.toInt ∧ r3.toInt ≤ 1 from by omega)) dX12_fitsLeft_49 ⟨(show 0 ≤ r3.toInt ∧ r3.toInt ≤ 1 from by omega), (show Sm r3 (FtL f.toInt (kS (c 3) (c 6) w1.toInt) w2.toInt) from by unfold Sm; rw [propext (FtL_0 (by omega))]; omega)⟩
  · refine lv_tableIn (off := 43) (tgt := 44) hx hb dX12_fitsLeft_1 (by omega) (by omega) (by rw [f1]; rfl) (by decide +kernel) ?_
    refine lv_aload_n hx hb dX12_fitsLeft_44 rfl (lv_at hl 0 rfl) ?_
    refine lv_iload_n hx hb dX12_fitsLeft_45 rfl (lv_at hl 2 rfl) ?_
    refine ro_calli (va_runV (As := [.int w1]) (rest := []) ⟨hx, hb, hml, hown, hts⟩ (s_X12_isMovable_e l D s.heap.size o a t i q c d w1 hI (show 0 ≤ w1.toInt ∧ w1.toInt ≤ 29 from by omega)) (cwV 1 hts gm_X12_fitsLeft_X12_isMovable rfl rfl rfl (by decide +kernel) ⟨Nat.le_of_ble_eq_true rfl, Nat.le_of_ble_eq_true rfl⟩) (pA_V hK hP (ci := 12) (q0 := 0) rfl rfl) rfl rfl hl.1 rfl (lv_room (Nat.le_of_ble_eq_true rfl)) dX12_fitsLeft_46 ⟨Nat.le_of_ble_eq_true rfl, Nat.le_of_ble_eq_true rfl⟩) hS hA hP (fun r4 u4 H locs hw4 hP hS => ?_)
    have hw4 : (0 ≤ kS (c 3) (c 6) w1.toInt ∧ kS (c 3) (c 6) w1.toInt ≤ 5 ∧ ((r4.toInt = 1 ∧ (kS (c 3) (c 6) w1.toInt = 1 ∨ 3 ≤ kS (c 3) (c 6) w1.toInt)) ∨ (r4.toInt = 0 ∧ ¬ (kS (c 3) (c 6) w1.toInt = 1 ∨ 3 ≤ kS (c 3) (c 6) w1.toInt)))) := hw4
    exact ro_zret hx hb hr hlocks hS (nb_n (show 0 ≤ r4.toInt ∧ r4.toInt ≤ 1 from by omega)) dX12_fitsLeft_49 ⟨(show 0 ≤ r4.toInt ∧ r4.toInt ≤ 1 from by omega), (show Sm r4 (FtL f.toInt (kS (c 3) (c 6) w1.toInt) w2.toInt) from by unfold Sm; rw [propext (FtL_1 (by omega))]; omega)⟩
  · refine lv_tableIn (off := 63) (tgt := 64) hx hb dX12_fitsLeft_1 (by omega) (by omega) (by rw [f1]; rfl) (by decide +kernel) ?_
    refine lv_aload_n hx hb dX12_fitsLeft_64 rfl (lv_at hl 0 rfl) ?_
    refine lv_iload_n hx hb dX12_fitsLeft_65 rfl (lv_at hl 2 rfl) ?_
    refine ro_calli (va_runV (As := [.int w1]) (rest := []) ⟨hx, hb, hml, hown, hts⟩ (s_X12_isGoods_e l D s.heap.size o a t i q c d w1 hI (show 0 ≤ w1.toInt ∧ w1.toInt ≤ 29 from by omega)) (cwV 1 hts gm_X12_fitsLeft_X12_isGoods rfl rfl rfl (by decide +kernel) ⟨Nat.le_of_ble_eq_true rfl, Nat.le_of_ble_eq_true rfl⟩) (pA_V hK hP (ci := 12) (q0 := 0) rfl rfl) rfl rfl hl.1 rfl (lv_room (Nat.le_of_ble_eq_true rfl)) dX12_fitsLeft_66 ⟨Nat.le_of_ble_eq_true rfl, Nat.le_of_ble_eq_true rfl⟩) hS hA hP (fun r5 u5 H locs hw5 hP hS => ?_)
    have hw5 : (0 ≤ kS (c 3) (c 6) w1.toInt ∧ kS (c 3) (c 6) w1.toInt ≤ 5 ∧ ((r5.toInt = 1 ∧ ((kS (c 3) (c 6) w1.toInt = 1 ∨ 3 ≤ kS (c 3) (c 6) w1.toInt) ∧ ¬ kS (c 3) (c 6) w1.toInt = 5)) ∨ (r5.toInt = 0 ∧ ¬ ((kS (c 3) (c 6) w1.toInt = 1 ∨ 3 ≤ kS (c 3) (c 6) w1.toInt) ∧ ¬ kS (c 3) (c 6) w1.toInt = 5)))) := hw5
    exact ro_zret hx hb hr hlocks hS (nb_n (show 0 ≤ r5.toInt ∧ r5.toInt ≤ 1 from by omega)) dX12_fitsLeft_69 ⟨(show 0 ≤ r5.toInt ∧ r5.toInt ≤ 1 from by omega), (show Sm r5 (FtL f.toInt (kS (c 3) (c 6) w1.toInt) w2.toInt) from by unfold Sm; rw [propext (FtL_2 (by omega))]; omega)⟩
  · refine lv_tableIn (off := 63) (tgt := 64) hx hb dX12_fitsLeft_1 (by omega) (by omega) (by rw [f1]; rfl) (by decide +kernel) ?_
    refine lv_aload_n hx hb dX12_fitsLeft_64 rfl (lv_at hl 0 rfl) ?_
    refine lv_iload_n hx hb dX12_fitsLeft_65 rfl (lv_at hl 2 rfl) ?_
    refine ro_calli (va_runV (As := [.int w1]) (rest := []) ⟨hx, hb, hml, hown, hts⟩ (s_X12_isGoods_e l D s.heap.size o a t i q c d w1 hI (show 0 ≤ w1.toInt ∧ w1.toInt ≤ 29 from by omega)) (cwV 1 hts gm_X12_fitsLeft_X12_isGoods rfl rfl rfl (by decide +kernel) ⟨Nat.le_of_ble_eq_true rfl, Nat.le_of_ble_eq_true rfl⟩) (pA_V hK hP (ci := 12) (q0 := 0) rfl rfl) rfl rfl hl.1 rfl (lv_room (Nat.le_of_ble_eq_true rfl)) dX12_fitsLeft_66 ⟨Nat.le_of_ble_eq_true rfl, Nat.le_of_ble_eq_true rfl⟩) hS hA hP (fun r6 u6 H locs hw6 hP hS => ?_)
    have hw6 : (0 ≤ kS (c 3) (c 6) w1.toInt ∧ kS (c 3) (c 6) w1.toInt ≤ 5 ∧ ((r6.toInt = 1 ∧ ((kS (c 3) (c 6) w1.toInt = 1 ∨ 3 ≤ kS (c 3) (c 6) w1.toInt) ∧ ¬ kS (c 3) (c 6) w1.toInt = 5)) ∨ (r6.toInt = 0 ∧ ¬ ((kS (c 3) (c 6) w1.toInt = 1 ∨ 3 ≤ kS (c 3) (c 6) w1.toInt) ∧ ¬ kS (c 3) (c 6) w1.toInt = 5)))) := hw6
    exact ro_zret hx hb hr hlocks hS (nb_n (show 0 ≤ r6.toInt ∧ r6.toInt ≤ 1 from by omega)) dX12_fitsLeft_69 ⟨(show 0 ≤ r6.toInt ∧ r6.toInt ≤ 1 from by omega), (show Sm r6 (FtL f.toInt (kS (c 3) (c 6) w1.toInt) w2.toInt) from by unfold Sm; rw [propext (FtL_3 (by omega))]; omega)⟩
  · refine lv_tableIn (off := 63) (tgt := 64) hx hb dX12_fitsLeft_1 (by omega) (by omega) (by rw [f1]; rfl) (by decide +kernel) ?_
    refine lv_aload_n hx hb dX12_fitsLeft_64 rfl (lv_at hl 0 rfl) ?_
    refine lv_iload_n hx hb dX12_fitsLeft_65 rfl (lv_at hl 2 rfl) ?_
    refine ro_calli (va_runV (As := [.int w1]) (rest := []) ⟨hx, hb, hml, hown, hts⟩ (s_X12_isGoods_e l D s.heap.size o a t i q c d w1 hI (show 0 ≤ w1.toInt ∧ w1.toInt ≤ 29 from by omega)) (cwV 1 hts gm_X12_fitsLeft_X12_isGoods rfl rfl rfl (by decide +kernel) ⟨Nat.le_of_ble_eq_true rfl, Nat.le_of_ble_eq_true rfl⟩) (pA_V hK hP (ci := 12) (q0 := 0) rfl rfl) rfl rfl hl.1 rfl (lv_room (Nat.le_of_ble_eq_true rfl)) dX12_fitsLeft_66 ⟨Nat.le_of_ble_eq_true rfl, Nat.le_of_ble_eq_true rfl⟩) hS hA hP (fun r7 u7 H locs hw7 hP hS => ?_)
    have hw7 : (0 ≤ kS (c 3) (c 6) w1.toInt ∧ kS (c 3) (c 6) w1.toInt ≤ 5 ∧ ((r7.toInt = 1 ∧ ((kS (c 3) (c 6) w1.toInt = 1 ∨ 3 ≤ kS (c 3) (c 6) w1.toInt) ∧ ¬ kS (c 3) (c 6) w1.toInt = 5)) ∨ (r7.toInt = 0 ∧ ¬ ((kS (c 3) (c 6) w1.toInt = 1 ∨ 3 ≤ kS (c 3) (c 6) w1.toInt) ∧ ¬ kS (c 3) (c 6) w1.toInt = 5)))) := hw7
    exact ro_zret hx hb hr hlocks hS (nb_n (show 0 ≤ r7.toInt ∧ r7.toInt ≤ 1 from by omega)) dX12_fitsLeft_69 ⟨(show 0 ≤ r7.toInt ∧ r7.toInt ≤ 1 from by omega), (show Sm r7 (FtL f.toInt (kS (c 3) (c 6) w1.toInt) w2.toInt) from by unfold Sm; rw [propext (FtL_4 (by omega))]; omega)⟩
  · refine lv_tableIn (off := 49) (tgt := 50) hx hb dX12_fitsLeft_1 (by omega) (by omega) (by rw [f1]; rfl) (by decide +kernel) ?_
    refine lv_aload_n hx hb dX12_fitsLeft_50 rfl (lv_at hl 0 rfl) ?_
    refine lv_iload_n hx hb dX12_fitsLeft_51 rfl (lv_at hl 2 rfl) ?_
    refine lv_iconst (v := 0) hx hb dX12_fitsLeft_52 (by decide +kernel) ?_
    refine ro_calli (va_runV (As := [.int w1, .int 0]) (rest := []) ⟨hx, hb, hml, hown, hts⟩ (s_X12_isOf_e l D s.heap.size o a t i q c d w1 0 hI (show 0 ≤ w1.toInt ∧ w1.toInt ≤ 29 from by have h91 : (0 : Int32).toInt = 0 := (by decide +kernel); omega) (show 0 ≤ 0 ∧ 0 ≤ 5 from by decide +kernel)) (cwV 2 hts gm_X12_fitsLeft_X12_isOf rfl rfl rfl (by decide +kernel) ⟨Nat.le_of_ble_eq_true rfl, Nat.le_of_ble_eq_true rfl⟩) (pA_V hK hP (ci := 12) (q0 := 0) rfl rfl) rfl rfl hl.1 rfl (lv_room (Nat.le_of_ble_eq_true rfl)) dX12_fitsLeft_53 ⟨Nat.le_of_ble_eq_true rfl, Nat.le_of_ble_eq_true rfl⟩) hS hA hP (fun r8 u8 H locs hw8 hP hS => ?_)
    have hw8 : ((0 ≤ r8.toInt ∧ r8.toInt ≤ 1) ∧ (0 ≤ kS (c 3) (c 6) w1.toInt ∧ kS (c 3) (c 6) w1.toInt ≤ 5 ∧ ((r8.toInt = 1 ∧ (kS (c 3) (c 6) w1.toInt = 0 ∨ ((1 : Int) = 0 ∧ 1 < kS (c 3) (c 6) w1.toInt))) ∨ (r8.toInt = 0 ∧ ¬ (kS (c 3) (c 6) w1.toInt = 0 ∨ ((1 : Int) = 0 ∧ 1 < kS (c 3) (c 6) w1.toInt)))))) := hw8
    obtain ⟨hw8, hr8_0⟩ := hw8
    have hr8_0 : 0 ≤ kS (c 3) (c 6) w1.toInt ∧ kS (c 3) (c 6) w1.toInt ≤ 5 ∧ ((r8.toInt = 1 ∧ (kS (c 3) (c 6) w1.toInt = 0 ∨ ((1 : Int) = 0 ∧ 1 < kS (c 3) (c 6) w1.toInt))) ∨ (r8.toInt = 0 ∧ ¬ (kS (c 3) (c 6) w1.toInt = 0 ∨ ((1 : Int) = 0 ∧ 1 < kS (c 3) (c 6) w1.toInt)))) := hr8_0
    exact ro_zret hx hb hr hlocks hS (nb_n (show 0 ≤ r8.toInt ∧ r8.toInt ≤ 1 from by omega)) dX12_fitsLeft_56 ⟨(show 0 ≤ r8.toInt ∧ r8.toInt ≤ 1 from by omega), (show Sm r8 (FtL f.toInt (kS (c 3) (c 6) w1.toInt) w2.toInt) from by unfold Sm; rw [propext (FtL_5 (by omega))]; omega)⟩
  · refine lv_tableIn (off := 56) (tgt := 57) hx hb dX12_fitsLeft_1 (by omega) (by omega) (by rw [f1]; rfl) (by decide +kernel) ?_
    refine lv_aload_n hx hb dX12_fitsLeft_57 rfl (lv_at hl 0 rfl) ?_
    refine lv_iload_n hx hb dX12_fitsLeft_58 rfl (lv_at hl 2 rfl) ?_
    refine lv_iload_n hx hb dX12_fitsLeft_59 rfl (lv_at hl 3 rfl) ?_
    refine ro_calli (va_runV (As := [.int w1, .int w2]) (rest := []) ⟨hx, hb, hml, hown, hts⟩ (s_X12_mayHave_e l D s.heap.size o a t i q c d w1 w2 hI (show 0 ≤ w1.toInt ∧ w1.toInt ≤ 29 from by omega) (show 0 ≤ w2.toInt ∧ w2.toInt ≤ 5 from by omega)) (cwV 2 hts gm_X12_fitsLeft_X12_mayHave rfl rfl rfl (by decide +kernel) ⟨Nat.le_of_ble_eq_true rfl, Nat.le_of_ble_eq_true rfl⟩) (pA_V hK hP (ci := 12) (q0 := 0) rfl rfl) rfl rfl hl.1 rfl (lv_room (Nat.le_of_ble_eq_true rfl)) dX12_fitsLeft_60 ⟨Nat.le_of_ble_eq_true rfl, Nat.le_of_ble_eq_true rfl⟩) hS hA hP (fun r9 u9 H locs hw9 hP hS => ?_)
    have hw9 : (((r9.toInt = 1 ∧ ((w2.toInt ≤ 1 ∧ (kS (c 3) (c 6) w1.toInt = 2 ∨ kS (c 3) (c 6) w1.toInt = 3)) ∨ w2.toInt = 2 ∨ (w2.toInt = 3 ∧ (kS (c 3) (c 6) w1.toInt = 1 ∨ 3 ≤ kS (c 3) (c 6) w1.toInt)) ∨ (w2.toInt = 4 ∧ ((kS (c 3) (c 6) w1.toInt = 1 ∨ 3 ≤ kS (c 3) (c 6) w1.toInt) ∧ ¬ kS (c 3) (c 6) w1.toInt = 5)) ∨ (5 ≤ w2.toInt ∧ kS (c 3) (c 6) w1.toInt = 3))) ∨ (r9.toInt = 0 ∧ ¬ ((w2.toInt ≤ 1 ∧ (kS (c 3) (c 6) w1.toInt = 2 ∨ kS (c 3) (c 6) w1.toInt = 3)) ∨ w2.toInt = 2 ∨ (w2.toInt = 3 ∧ (kS (c 3) (c 6) w1.toInt = 1 ∨ 3 ≤ kS (c 3) (c 6) w1.toInt)) ∨ (w2.toInt = 4 ∧ ((kS (c 3) (c 6) w1.toInt = 1 ∨ 3 ≤ kS (c 3) (c 6) w1.toInt) ∧ ¬ kS (c 3) (c 6) w1.toInt = 5)) ∨ (5 ≤ w2.toInt ∧ kS (c 3) (c 6) w1.toInt = 3))))) := hw9
    exact ro_zret hx hb hr hlocks hS (nb_n (show 0 ≤ r9.toInt ∧ r9.toInt ≤ 1 from by omega)) dX12_fitsLeft_63 ⟨(show 0 ≤ r9.toInt ∧ r9.toInt ≤ 1 from by omega), (show Sm r9 (FtL f.toInt (kS (c 3) (c 6) w1.toInt) w2.toInt) from by unfold Sm; rw [propext (FtL_6 (by omega))]; omega)⟩

set_option maxHeartbeats 4000000 in
set_option maxRecDepth 100000 in
theorem s_X12_fitsRight_e (l : Launch) (D : va_G) (sz : Nat) (o : Nat) (a : Nat → Nat) (t : Nat → ClassId) (i : Nat → Int32) (q : Int64) (c : Nat → Nat → Int32) (d : Nat → Nat → Int64) (f : Int32) (w2 : Int32) (hI : mInv i c) (hw2 : 0 ≤ w2.toInt ∧ w2.toInt ≤ 29) (hf : 0 ≤ f.toInt ∧ f.toInt ≤ 7) : Met l yX12_fitsRight wm_X12_fitsRight ({ frames := 2, cells := 0, slots := 0, locals := 44 }) (va_Pc [.ref o, .int f, .int w2] (pA D sz (mW o a t i q c d) (mT t))) (va_Qi (fun (r : Int32) (_ : Unit) => ((0 ≤ r.toInt ∧ r.toInt ≤ 1) ∧ (Sm r (FtR f.toInt (kS (c 3) (c 6) w2.toInt))))) oA (ro sz)) 0 0 (ro sz) := by
  refine Met.ofW (cc := cX12_fitsRight) (maxL := 3) (ret := (some .boolean)) (by decide +kernel) rfl ?_
  intro p e s m args below meth cd s₁ B hml hv
  obtain ⟨rfl, hsz, hP, hK⟩ := hv
  have hx := B.exec
  have hb := B.bytes
  have hr := B.returns
  have hts := atoms_spec (ws := wm_X12_fitsRight) B.pre
  have hown : s.vm.findClass RX12 = some m.cls := findClass_of_methodNamed B.named
  have hlocks := B.notSynchronized
  subst hsz
  have hA : ∀ q : Nat, s.heap.size ≤ q → ro s.heap.size q := fun _ h => h
  have hS : va_S (ro s.heap.size) s.heap s.heap [] := va_S.rf
  have hl := lv_entry ([.ref o, .int f, .int w2]) (n := 3) (Nat.le_of_ble_eq_true rfl)
  rw [lg_entry_eq]
  generalize (lg_sl ([.ref o, .int f, .int w2]) ++ List.replicate (3 - (lg_sl ([.ref o, .int f, .int w2])).length) Slot.unset).toArray = ls at hl ⊢
  have hl : lv_has ls 3 [(0, .ref o), (1, .int f), (2, .int w2)] := hl
  refine lv_iload_n hx hb dX12_fitsRight_0 rfl (lv_at hl 1 rfl) ?_
  rcases (show (f.toInt < 0 ∨ 7 < f.toInt) ∨ f.toInt = 0 ∨ f.toInt = 1 ∨ f.toInt = 2 ∨ f.toInt = 3 ∨ f.toInt = 4 ∨ f.toInt = 5 ∨ f.toInt = 6 ∨ f.toInt = 7 by omega) with f1 | f1 | f1 | f1 | f1 | f1 | f1 | f1 | f1
  · refine lv_tableOut (tgt := 123) hx hb dX12_fitsRight_1 f1 (by decide +kernel) ?_
    refine lv_iconst (v := 1) hx hb dX12_fitsRight_123 (by decide +kernel) ?_
    exact ro_zret hx hb hr hlocks hS rfl dX12_fitsRight_124 ⟨(show 0 ≤ (1 : Int32).toInt ∧ (1 : Int32).toInt ≤ 1 from by decide +kernel), (show Sm (1 : Int32) (FtR f.toInt (kS (c 3) (c 6) w2.toInt)) from sm_1 (by unfold FtR; omega))⟩
  · refine lv_tableIn (off := 47) (tgt := 48) hx hb dX12_fitsRight_1 (by omega) (by omega) (by rw [f1]; rfl) (by decide +kernel) ?_
    refine lv_aload_n hx hb dX12_fitsRight_48 rfl (lv_at hl 0 rfl) ?_
    refine lv_iload_n hx hb dX12_fitsRight_49 rfl (lv_at hl 2 rfl) ?_
    refine lv_iconst (v := 0) hx hb dX12_fitsRight_50 (by decide +kernel) ?_
    refine ro_calli (va_runV (As := [.int w2, .int 0]) (rest := []) ⟨hx, hb, hml, hown, hts⟩ (s_X12_isOf_e l D s.heap.size o a t i q c d w2 0 hI (show 0 ≤ w2.toInt ∧ w2.toInt ≤ 29 from by have h91 : (0 : Int32).toInt = 0 := (by decide +kernel); omega) (show 0 ≤ 0 ∧ 0 ≤ 5 from by decide +kernel)) (cwV 2 hts gm_X12_fitsRight_X12_isOf rfl rfl rfl (by decide +kernel) ⟨Nat.le_of_ble_eq_true rfl, Nat.le_of_ble_eq_true rfl⟩) (pA_V hK hP (ci := 12) (q0 := 0) rfl rfl) rfl rfl hl.1 rfl (lv_room (Nat.le_of_ble_eq_true rfl)) dX12_fitsRight_51 ⟨Nat.le_of_ble_eq_true rfl, Nat.le_of_ble_eq_true rfl⟩) hS hA hP (fun r2 u2 H locs hw2 hP hS => ?_)
    have hw2 : ((0 ≤ r2.toInt ∧ r2.toInt ≤ 1) ∧ (0 ≤ kS (c 3) (c 6) w2.toInt ∧ kS (c 3) (c 6) w2.toInt ≤ 5 ∧ ((r2.toInt = 1 ∧ (kS (c 3) (c 6) w2.toInt = 0 ∨ ((1 : Int) = 0 ∧ 1 < kS (c 3) (c 6) w2.toInt))) ∨ (r2.toInt = 0 ∧ ¬ (kS (c 3) (c 6) w2.toInt = 0 ∨ ((1 : Int) = 0 ∧ 1 < kS (c 3) (c 6) w2.toInt)))))) := hw2
    obtain ⟨hw2, hr2_0⟩ := hw2
    have hr2_0 : 0 ≤ kS (c 3) (c 6) w2.toInt ∧ kS (c 3) (c 6) w2.toInt ≤ 5 ∧ ((r2.toInt = 1 ∧ (kS (c 3) (c 6) w2.toInt = 0 ∨ ((1 : Int) = 0 ∧ 1 < kS (c 3) (c 6) w2.toInt))) ∨ (r2.toInt = 0 ∧ ¬ (kS (c 3) (c 6) w2.toInt = 0 ∨ ((1 : Int) = 0 ∧ 1 < kS (c 3) (c 6) w2.toInt)))) := hr2_0
    refine lv_if_ne (tgt := 66) hx hb dX12_fitsRight_54 (by decide +kernel) (fun c3 => ?_) (fun c3 => ?_)
    · have f3 := mt (ti_eq (a := r2.toInt) (b := 0) rfl (by decide +kernel)).mpr c3
      refine lv_iconst (v := 1) hx hb dX12_fitsRight_66 (by decide +kernel) ?_
      refine lv_goto (tgt := 71) hx hb dX12_fitsRight_67 (by decide +kernel) ?_
      exact ro_zret hx hb hr hlocks hS rfl dX12_fitsRight_71 ⟨(show 0 ≤ (1 : Int32).toInt ∧ (1 : Int32).toInt ≤ 1 from by decide +kernel), (show Sm (1 : Int32) (FtR f.toInt (kS (c 3) (c 6) w2.toInt)) from sm_1 ((FtR_0 (by omega)).mpr (by omega)))⟩
    · have f3 := (ti_eq (a := r2.toInt) (b := 0) rfl (by decide +kernel)).mp c3
      refine lv_aload_n hx hb dX12_fitsRight_57 rfl (lv_at hl 0 rfl) ?_
      refine lv_iload_n hx hb dX12_fitsRight_58 rfl (lv_at hl 2 rfl) ?_
      refine lv_iconst (v := 3) hx hb dX12_fitsRight_59 (by decide +kernel) ?_
      refine ro_calli (va_runV (As := [.int w2, .int 3]) (rest := []) ⟨hx, hb, hml, hown, hts⟩ (s_X12_isOf_e l D H.size o a t i q c d w2 3 hI (show 0 ≤ w2.toInt ∧ w2.toInt ≤ 29 from by have h91 : (3 : Int32).toInt = 3 := (by decide +kernel); omega) (show 0 ≤ 3 ∧ 3 ≤ 5 from by decide +kernel)) (cwV 2 hts gm_X12_fitsRight_X12_isOf rfl rfl rfl (by decide +kernel) ⟨Nat.le_of_ble_eq_true rfl, Nat.le_of_ble_eq_true rfl⟩) (pA_V hK hP (ci := 12) (q0 := 0) rfl rfl) rfl rfl hl.1 rfl (lv_room (Nat.le_of_ble_eq_true rfl)) dX12_fitsRight_60 ⟨Nat.le_of_ble_eq_true rfl, Nat.le_of_ble_eq_true rfl⟩) hS hA hP (fun r4 u4 H locs hw4 hP hS => ?_)
      have hw4 : ((0 ≤ r4.toInt ∧ r4.toInt ≤ 1) ∧ (0 ≤ kS (c 3) (c 6) w2.toInt ∧ kS (c 3) (c 6) w2.toInt ≤ 5 ∧ ((r4.toInt = 1 ∧ (kS (c 3) (c 6) w2.toInt = 3 ∨ ((1 : Int) = 3 ∧ 1 < kS (c 3) (c 6) w2.toInt))) ∨ (r4.toInt = 0 ∧ ¬ (kS (c 3) (c 6) w2.toInt = 3 ∨ ((1 : Int) = 3 ∧ 1 < kS (c 3) (c 6) w2.toInt)))))) := hw4
      obtain ⟨hw4, hr4_0⟩ := hw4
      have hr4_0 : 0 ≤ kS (c 3) (c 6) w2.toInt ∧ kS (c 3) (c 6) w2.toInt ≤ 5 ∧ ((r4.toInt = 1 ∧ (kS (c 3) (c 6) w2.toInt = 3 ∨ ((1 : Int) = 3 ∧ 1 < kS (c 3) (c 6) w2.toInt))) ∨ (r4.toInt = 0 ∧ ¬ (kS (c 3) (c 6) w2.toInt = 3 ∨ ((1 : Int) = 3 ∧ 1 < kS (c 3) (c 6) w2.toInt)))) := hr4_0
      refine lv_if_eq (tgt := 70) hx hb dX12_fitsRight_63 (by decide +kernel) (fun c5 => ?_) (fun c5 => ?_)
      · have f5 := (ti_eq (a := r4.toInt) (b := 0) rfl (by decide +kernel)).mp c5
        refine lv_iconst (v := 0) hx hb dX12_fitsRight_70 (by decide +kernel) ?_
        exact ro_zret hx hb hr hlocks hS rfl dX12_fitsRight_71 ⟨(show 0 ≤ (0 : Int32).toInt ∧ (0 : Int32).toInt ≤ 1 from by decide +kernel), (show Sm (0 : Int32) (FtR f.toInt (kS (c 3) (c 6) w2.toInt)) from sm_0 (mt (FtR_0 (by omega)).mp (by omega)))⟩
      · have f5 := mt (ti_eq (a := r4.toInt) (b := 0) rfl (by decide +kernel)).mpr c5
        refine lv_iconst (v := 1) hx hb dX12_fitsRight_66 (by decide +kernel) ?_
        refine lv_goto (tgt := 71) hx hb dX12_fitsRight_67 (by decide +kernel) ?_
        exact ro_zret hx hb hr hlocks hS rfl dX12_fitsRight_71 ⟨(show 0 ≤ (1 : Int32).toInt ∧ (1 : Int32).toInt ≤ 1 from by decide +kernel), (show Sm (1 : Int32) (FtR f.toInt (kS (c 3) (c 6) w2.toInt)) from sm_1 ((FtR_0 (by omega)).mpr (by omega)))⟩
  · refine lv_tableIn (off := 71) (tgt := 72) hx hb dX12_fitsRight_1 (by omega) (by omega) (by rw [f1]; rfl) (by decide +kernel) ?_
    refine lv_aload_n hx hb dX12_fitsRight_72 rfl (lv_at hl 0 rfl) ?_
    refine lv_iload_n hx hb dX12_fitsRight_73 rfl (lv_at hl 2 rfl) ?_
    refine lv_iconst (v := 4) hx hb dX12_fitsRight_74 (by decide +kernel) ?_
    refine ro_calli (va_runV (As := [.int w2, .int 4]) (rest := []) ⟨hx, hb, hml, hown, hts⟩ (s_X12_isOf_e l D s.heap.size o a t i q c d w2 4 hI (show 0 ≤ w2.toInt ∧ w2.toInt ≤ 29 from by have h91 : (4 : Int32).toInt = 4 := (by decide +kernel); omega) (show 0 ≤ 4 ∧ 4 ≤ 5 from by decide +kernel)) (cwV 2 hts gm_X12_fitsRight_X12_isOf rfl rfl rfl (by decide +kernel) ⟨Nat.le_of_ble_eq_true rfl, Nat.le_of_ble_eq_true rfl⟩) (pA_V hK hP (ci := 12) (q0 := 0) rfl rfl) rfl rfl hl.1 rfl (lv_room (Nat.le_of_ble_eq_true rfl)) dX12_fitsRight_75 ⟨Nat.le_of_ble_eq_true rfl, Nat.le_of_ble_eq_true rfl⟩) hS hA hP (fun r6 u6 H locs hw6 hP hS => ?_)
    have hw6 : ((0 ≤ r6.toInt ∧ r6.toInt ≤ 1) ∧ (0 ≤ kS (c 3) (c 6) w2.toInt ∧ kS (c 3) (c 6) w2.toInt ≤ 5 ∧ ((r6.toInt = 1 ∧ (kS (c 3) (c 6) w2.toInt = 4 ∨ ((1 : Int) = 4 ∧ 1 < kS (c 3) (c 6) w2.toInt))) ∨ (r6.toInt = 0 ∧ ¬ (kS (c 3) (c 6) w2.toInt = 4 ∨ ((1 : Int) = 4 ∧ 1 < kS (c 3) (c 6) w2.toInt)))))) := hw6
    obtain ⟨hw6, hr6_0⟩ := hw6
    have hr6_0 : 0 ≤ kS (c 3) (c 6) w2.toInt ∧ kS (c 3) (c 6) w2.toInt ≤ 5 ∧ ((r6.toInt = 1 ∧ (kS (c 3) (c 6) w2.toInt = 4 ∨ ((1 : Int) = 4 ∧ 1 < kS (c 3) (c 6) w2.toInt))) ∨ (r6.toInt = 0 ∧ ¬ (kS (c 3) (c 6) w2.toInt = 4 ∨ ((1 : Int) = 4 ∧ 1 < kS (c 3) (c 6) w2.toInt)))) := hr6_0
    exact ro_zret hx hb hr hlocks hS (nb_n (show 0 ≤ r6.toInt ∧ r6.toInt ≤ 1 from by omega)) dX12_fitsRight_78 ⟨(show 0 ≤ r6.toInt ∧ r6.toInt ≤ 1 from by omega), (show Sm r6 (FtR f.toInt (kS (c 3) (c 6) w2.toInt)) from by unfold Sm; rw [propext (FtR_1 (by omega))]; omega)⟩
  · refine lv_tableIn (off := 78) (tgt := 79) hx hb dX12_fitsRight_1 (by omega) (by omega) (by rw [f1]; rfl) (by decide +kernel) ?_
    refine lv_aload_n hx hb dX12_fitsRight_79 rfl (lv_at hl 0 rfl) ?_
    refine lv_iload_n hx hb dX12_fitsRight_80 rfl (lv_at hl 2 rfl) ?_
    refine lv_iconst (v := 5) hx hb dX12_fitsRight_81 (by decide +kernel) ?_
    refine ro_calli (va_runV (As := [.int w2, .int 5]) (rest := []) ⟨hx, hb, hml, hown, hts⟩ (s_X12_isOf_e l D s.heap.size o a t i q c d w2 5 hI (show 0 ≤ w2.toInt ∧ w2.toInt ≤ 29 from by have h91 : (5 : Int32).toInt = 5 := (by decide +kernel); omega) (show 0 ≤ 5 ∧ 5 ≤ 5 from by decide +kernel)) (cwV 2 hts gm_X12_fitsRight_X12_isOf rfl rfl rfl (by decide +kernel) ⟨Nat.le_of_ble_eq_true rfl, Nat.le_of_ble_eq_true rfl⟩) (pA_V hK hP (ci := 12) (q0 := 0) rfl rfl) rfl rfl hl.1 rfl (lv_room (Nat.le_of_ble_eq_true rfl)) dX12_fitsRight_82 ⟨Nat.le_of_ble_eq_true rfl, Nat.le_of_ble_eq_true rfl⟩) hS hA hP (fun r7 u7 H locs hw7 hP hS => ?_)
    have hw7 : ((0 ≤ r7.toInt ∧ r7.toInt ≤ 1) ∧ (0 ≤ kS (c 3) (c 6) w2.toInt ∧ kS (c 3) (c 6) w2.toInt ≤ 5 ∧ ((r7.toInt = 1 ∧ (kS (c 3) (c 6) w2.toInt = 5 ∨ ((1 : Int) = 5 ∧ 1 < kS (c 3) (c 6) w2.toInt))) ∨ (r7.toInt = 0 ∧ ¬ (kS (c 3) (c 6) w2.toInt = 5 ∨ ((1 : Int) = 5 ∧ 1 < kS (c 3) (c 6) w2.toInt)))))) := hw7
    obtain ⟨hw7, hr7_0⟩ := hw7
    have hr7_0 : 0 ≤ kS (c 3) (c 6) w2.toInt ∧ kS (c 3) (c 6) w2.toInt ≤ 5 ∧ ((r7.toInt = 1 ∧ (kS (c 3) (c 6) w2.toInt = 5 ∨ ((1 : Int) = 5 ∧ 1 < kS (c 3) (c 6) w2.toInt))) ∨ (r7.toInt = 0 ∧ ¬ (kS (c 3) (c 6) w2.toInt = 5 ∨ ((1 : Int) = 5 ∧ 1 < kS (c 3) (c 6) w2.toInt)))) := hr7_0
    exact ro_zret hx hb hr hlocks hS (nb_n (show 0 ≤ r7.toInt ∧ r7.toInt ≤ 1 from by omega)) dX12_fitsRight_85 ⟨(show 0 ≤ r7.toInt ∧ r7.toInt ≤ 1 from by omega), (show Sm r7 (FtR f.toInt (kS (c 3) (c 6) w2.toInt)) from by unfold Sm; rw [propext (FtR_2 (by omega))]; omega)⟩
  · refine lv_tableIn (off := 78) (tgt := 79) hx hb dX12_fitsRight_1 (by omega) (by omega) (by rw [f1]; rfl) (by decide +kernel) ?_
    refine lv_aload_n hx hb dX12_fitsRight_79 rfl (lv_at hl 0 rfl) ?_
    refine lv_iload_n hx hb dX12_fitsRight_80 rfl (lv_at hl 2 rfl) ?_
    refine lv_iconst (v := 5) hx hb dX12_fitsRight_81 (by decide +kernel) ?_
    refine ro_calli (va_runV (As := [.int w2, .int 5]) (rest := []) ⟨hx, hb, hml, hown, hts⟩ (s_X12_isOf_e l D s.heap.size o a t i q c d w2 5 hI (show 0 ≤ w2.toInt ∧ w2.toInt ≤ 29 from by have h91 : (5 : Int32).toInt = 5 := (by decide +kernel); omega) (show 0 ≤ 5 ∧ 5 ≤ 5 from by decide +kernel)) (cwV 2 hts gm_X12_fitsRight_X12_isOf rfl rfl rfl (by decide +kernel) ⟨Nat.le_of_ble_eq_true rfl, Nat.le_of_ble_eq_true rfl⟩) (pA_V hK hP (ci := 12) (q0 := 0) rfl rfl) rfl rfl hl.1 rfl (lv_room (Nat.le_of_ble_eq_true rfl)) dX12_fitsRight_82 ⟨Nat.le_of_ble_eq_true rfl, Nat.le_of_ble_eq_true rfl⟩) hS hA hP (fun r8 u8 H locs hw8 hP hS => ?_)
    have hw8 : ((0 ≤ r8.toInt ∧ r8.toInt ≤ 1) ∧ (0 ≤ kS (c 3) (c 6) w2.toInt ∧ kS (c 3) (c 6) w2.toInt ≤ 5 ∧ ((r8.toInt = 1 ∧ (kS (c 3) (c 6) w2.toInt = 5 ∨ ((1 : Int) = 5 ∧ 1 < kS (c 3) (c 6) w2.toInt))) ∨ (r8.toInt = 0 ∧ ¬ (kS (c 3) (c 6) w2.toInt = 5 ∨ ((1 : Int) = 5 ∧ 1 < kS (c 3) (c 6) w2.toInt)))))) := hw8
    obtain ⟨hw8, hr8_0⟩ := hw8
    have hr8_0 : 0 ≤ kS (c 3) (c 6) w2.toInt ∧ kS (c 3) (c 6) w2.toInt ≤ 5 ∧ ((r8.toInt = 1 ∧ (kS (c 3) (c 6) w2.toInt = 5 ∨ ((1 : Int) = 5 ∧ 1 < kS (c 3) (c 6) w2.toInt))) ∨ (r8.toInt = 0 ∧ ¬ (kS (c 3) (c 6) w2.toInt = 5 ∨ ((1 : Int) = 5 ∧ 1 < kS (c 3) (c 6) w2.toInt)))) := hr8_0
    exact ro_zret hx hb hr hlocks hS (nb_n (show 0 ≤ r8.toInt ∧ r8.toInt ≤ 1 from by omega)) dX12_fitsRight_85 ⟨(show 0 ≤ r8.toInt ∧ r8.toInt ≤ 1 from by omega), (show Sm r8 (FtR f.toInt (kS (c 3) (c 6) w2.toInt)) from by unfold Sm; rw [propext (FtR_3 (by omega))]; omega)⟩
  · refine lv_tableIn (off := 85) (tgt := 86) hx hb dX12_fitsRight_1 (by omega) (by omega) (by rw [f1]; rfl) (by decide +kernel) ?_
    refine lv_aload_n hx hb dX12_fitsRight_86 rfl (lv_at hl 0 rfl) ?_
    refine lv_iload_n hx hb dX12_fitsRight_87 rfl (lv_at hl 2 rfl) ?_
    refine lv_iconst (v := 1) hx hb dX12_fitsRight_88 (by decide +kernel) ?_
    refine ro_calli (va_runV (As := [.int w2, .int 1]) (rest := []) ⟨hx, hb, hml, hown, hts⟩ (s_X12_isOf_e l D s.heap.size o a t i q c d w2 1 hI (show 0 ≤ w2.toInt ∧ w2.toInt ≤ 29 from by have h91 : (1 : Int32).toInt = 1 := (by decide +kernel); omega) (show 0 ≤ 1 ∧ 1 ≤ 5 from by decide +kernel)) (cwV 2 hts gm_X12_fitsRight_X12_isOf rfl rfl rfl (by decide +kernel) ⟨Nat.le_of_ble_eq_true rfl, Nat.le_of_ble_eq_true rfl⟩) (pA_V hK hP (ci := 12) (q0 := 0) rfl rfl) rfl rfl hl.1 rfl (lv_room (Nat.le_of_ble_eq_true rfl)) dX12_fitsRight_89 ⟨Nat.le_of_ble_eq_true rfl, Nat.le_of_ble_eq_true rfl⟩) hS hA hP (fun r9 u9 H locs hw9 hP hS => ?_)
    have hw9 : ((0 ≤ r9.toInt ∧ r9.toInt ≤ 1) ∧ (0 ≤ kS (c 3) (c 6) w2.toInt ∧ kS (c 3) (c 6) w2.toInt ≤ 5 ∧ ((r9.toInt = 1 ∧ (kS (c 3) (c 6) w2.toInt = 1 ∨ ((1 : Int) = 1 ∧ 1 < kS (c 3) (c 6) w2.toInt))) ∨ (r9.toInt = 0 ∧ ¬ (kS (c 3) (c 6) w2.toInt = 1 ∨ ((1 : Int) = 1 ∧ 1 < kS (c 3) (c 6) w2.toInt)))))) := hw9
    obtain ⟨hw9, hr9_0⟩ := hw9
    have hr9_0 : 0 ≤ kS (c 3) (c 6) w2.toInt ∧ kS (c 3) (c 6) w2.toInt ≤ 5 ∧ ((r9.toInt = 1 ∧ (kS (c 3) (c 6) w2.toInt = 1 ∨ ((1 : Int) = 1 ∧ 1 < kS (c 3) (c 6) w2.toInt))) ∨ (r9.toInt = 0 ∧ ¬ (kS (c 3) (c 6) w2.toInt = 1 ∨ ((1 : Int) = 1 ∧ 1 < kS (c 3) (c 6) w2.toInt)))) := hr9_0
    exact ro_zret hx hb hr hlocks hS (nb_n (show 0 ≤ r9.toInt ∧ r9.toInt ≤ 1 from by omega)) dX12_fitsRight_92 ⟨(show 0 ≤ r9.toInt ∧ r9.toInt ≤ 1 from by omega), (show Sm r9 (FtR f.toInt (kS (c 3) (c 6) w2.toInt)) from by unfold Sm; rw [propext (FtR_4 (by omega))]; omega)⟩
  · refine lv_tableIn (off := 92) (tgt := 93) hx hb dX12_fitsRight_1 (by omega) (by omega) (by rw [f1]; rfl) (by decide +kernel) ?_
    refine lv_aload_n hx hb dX12_fitsRight_93 rfl (lv_at hl 0 rfl) ?_
    refine lv_iload_n hx hb dX12_fitsRight_94 rfl (lv_at hl 2 rfl) ?_
    refine lv_iconst (v := 0) hx hb dX12_fitsRight_95 (by decide +kernel) ?_
    refine ro_calli (va_runV (As := [.int w2, .int 0]) (rest := []) ⟨hx, hb, hml, hown, hts⟩ (s_X12_isOf_e l D s.heap.size o a t i q c d w2 0 hI (show 0 ≤ w2.toInt ∧ w2.toInt ≤ 29 from by have h91 : (0 : Int32).toInt = 0 := (by decide +kernel); omega) (show 0 ≤ 0 ∧ 0 ≤ 5 from by decide +kernel)) (cwV 2 hts gm_X12_fitsRight_X12_isOf rfl rfl rfl (by decide +kernel) ⟨Nat.le_of_ble_eq_true rfl, Nat.le_of_ble_eq_true rfl⟩) (pA_V hK hP (ci := 12) (q0 := 0) rfl rfl) rfl rfl hl.1 rfl (lv_room (Nat.le_of_ble_eq_true rfl)) dX12_fitsRight_96 ⟨Nat.le_of_ble_eq_true rfl, Nat.le_of_ble_eq_true rfl⟩) hS hA hP (fun r10 u10 H locs hw10 hP hS => ?_)
    have hw10 : ((0 ≤ r10.toInt ∧ r10.toInt ≤ 1) ∧ (0 ≤ kS (c 3) (c 6) w2.toInt ∧ kS (c 3) (c 6) w2.toInt ≤ 5 ∧ ((r10.toInt = 1 ∧ (kS (c 3) (c 6) w2.toInt = 0 ∨ ((1 : Int) = 0 ∧ 1 < kS (c 3) (c 6) w2.toInt))) ∨ (r10.toInt = 0 ∧ ¬ (kS (c 3) (c 6) w2.toInt = 0 ∨ ((1 : Int) = 0 ∧ 1 < kS (c 3) (c 6) w2.toInt)))))) := hw10
    obtain ⟨hw10, hr10_0⟩ := hw10
    have hr10_0 : 0 ≤ kS (c 3) (c 6) w2.toInt ∧ kS (c 3) (c 6) w2.toInt ≤ 5 ∧ ((r10.toInt = 1 ∧ (kS (c 3) (c 6) w2.toInt = 0 ∨ ((1 : Int) = 0 ∧ 1 < kS (c 3) (c 6) w2.toInt))) ∨ (r10.toInt = 0 ∧ ¬ (kS (c 3) (c 6) w2.toInt = 0 ∨ ((1 : Int) = 0 ∧ 1 < kS (c 3) (c 6) w2.toInt)))) := hr10_0
    refine lv_if_ne (tgt := 111) hx hb dX12_fitsRight_99 (by decide +kernel) (fun c11 => ?_) (fun c11 => ?_)
    · have f11 := mt (ti_eq (a := r10.toInt) (b := 0) rfl (by decide +kernel)).mpr c11
      refine lv_iconst (v := 1) hx hb dX12_fitsRight_111 (by decide +kernel) ?_
      refine lv_goto (tgt := 116) hx hb dX12_fitsRight_112 (by decide +kernel) ?_
      exact ro_zret hx hb hr hlocks hS rfl dX12_fitsRight_116 ⟨(show 0 ≤ (1 : Int32).toInt ∧ (1 : Int32).toInt ≤ 1 from by decide +kernel), (show Sm (1 : Int32) (FtR f.toInt (kS (c 3) (c 6) w2.toInt)) from sm_1 ((FtR_5 (by omega)).mpr (by omega)))⟩
    · have f11 := (ti_eq (a := r10.toInt) (b := 0) rfl (by decide +kernel)).mp c11
      refine lv_aload_n hx hb dX12_fitsRight_102 rfl (lv_at hl 0 rfl) ?_
      refine lv_iload_n hx hb dX12_fitsRight_103 rfl (lv_at hl 2 rfl) ?_
      refine lv_iconst (v := 2) hx hb dX12_fitsRight_104 (by decide +kernel) ?_
      refine ro_calli (va_runV (As := [.int w2, .int 2]) (rest := []) ⟨hx, hb, hml, hown, hts⟩ (s_X12_isOf_e l D H.size o a t i q c d w2 2 hI (show 0 ≤ w2.toInt ∧ w2.toInt ≤ 29 from by have h91 : (2 : Int32).toInt = 2 := (by decide +kernel); omega) (show 0 ≤ 2 ∧ 2 ≤ 5 from by decide +kernel)) (cwV 2 hts gm_X12_fitsRight_X12_isOf rfl rfl rfl (by decide +kernel) ⟨Nat.le_of_ble_eq_true rfl, Nat.le_of_ble_eq_true rfl⟩) (pA_V hK hP (ci := 12) (q0 := 0) rfl rfl) rfl rfl hl.1 rfl (lv_room (Nat.le_of_ble_eq_true rfl)) dX12_fitsRight_105 ⟨Nat.le_of_ble_eq_true rfl, Nat.le_of_ble_eq_true rfl⟩) hS hA hP (fun r12 u12 H locs hw12 hP hS => ?_)
      have hw12 : ((0 ≤ r12.toInt ∧ r12.toInt ≤ 1) ∧ (0 ≤ kS (c 3) (c 6) w2.toInt ∧ kS (c 3) (c 6) w2.toInt ≤ 5 ∧ ((r12.toInt = 1 ∧ (kS (c 3) (c 6) w2.toInt = 2 ∨ ((1 : Int) = 2 ∧ 1 < kS (c 3) (c 6) w2.toInt))) ∨ (r12.toInt = 0 ∧ ¬ (kS (c 3) (c 6) w2.toInt = 2 ∨ ((1 : Int) = 2 ∧ 1 < kS (c 3) (c 6) w2.toInt)))))) := hw12
      obtain ⟨hw12, hr12_0⟩ := hw12
      have hr12_0 : 0 ≤ kS (c 3) (c 6) w2.toInt ∧ kS (c 3) (c 6) w2.toInt ≤ 5 ∧ ((r12.toInt = 1 ∧ (kS (c 3) (c 6) w2.toInt = 2 ∨ ((1 : Int) = 2 ∧ 1 < kS (c 3) (c 6) w2.toInt))) ∨ (r12.toInt = 0 ∧ ¬ (kS (c 3) (c 6) w2.toInt = 2 ∨ ((1 : Int) = 2 ∧ 1 < kS (c 3) (c 6) w2.toInt)))) := hr12_0
      refine lv_if_eq (tgt := 115) hx hb dX12_fitsRight_108 (by decide +kernel) (fun c13 => ?_) (fun c13 => ?_)
      · have f13 := (ti_eq (a := r12.toInt) (b := 0) rfl (by decide +kernel)).mp c13
        refine lv_iconst (v := 0) hx hb dX12_fitsRight_115 (by decide +kernel) ?_
        exact ro_zret hx hb hr hlocks hS rfl dX12_fitsRight_116 ⟨(show 0 ≤ (0 : Int32).toInt ∧ (0 : Int32).toInt ≤ 1 from by decide +kernel), (show Sm (0 : Int32) (FtR f.toInt (kS (c 3) (c 6) w2.toInt)) from sm_0 (mt (FtR_5 (by omega)).mp (by omega)))⟩
      · have f13 := mt (ti_eq (a := r12.toInt) (b := 0) rfl (by decide +kernel)).mpr c13
        refine lv_iconst (v := 1) hx hb dX12_fitsRight_111 (by decide +kernel) ?_
        refine lv_goto (tgt := 116) hx hb dX12_fitsRight_112 (by decide +kernel) ?_
        exact ro_zret hx hb hr hlocks hS rfl dX12_fitsRight_116 ⟨(show 0 ≤ (1 : Int32).toInt ∧ (1 : Int32).toInt ≤ 1 from by decide +kernel), (show Sm (1 : Int32) (FtR f.toInt (kS (c 3) (c 6) w2.toInt)) from sm_1 ((FtR_5 (by omega)).mpr (by omega)))⟩
  · refine lv_tableIn (off := 122) (tgt := 123) hx hb dX12_fitsRight_1 (by omega) (by omega) (by rw [f1]; rfl) (by decide +kernel) ?_
    refine lv_iconst (v := 1) hx hb dX12_fitsRight_123 (by decide +kernel) ?_
    exact ro_zret hx hb hr hlocks hS rfl dX12_fitsRight_124 ⟨(show 0 ≤ (1 : Int32).toInt ∧ (1 : Int32).toInt ≤ 1 from by decide +kernel), (show Sm (1 : Int32) (FtR f.toInt (kS (c 3) (c 6) w2.toInt)) from sm_1 ((FtR_6 (by omega)).mpr trivial))⟩
  · refine lv_tableIn (off := 116) (tgt := 117) hx hb dX12_fitsRight_1 (by omega) (by omega) (by rw [f1]; rfl) (by decide +kernel) ?_
    refine lv_aload_n hx hb dX12_fitsRight_117 rfl (lv_at hl 0 rfl) ?_
    refine lv_iload_n hx hb dX12_fitsRight_118 rfl (lv_at hl 2 rfl) ?_
    refine ro_calli (va_runV (As := [.int w2]) (rest := []) ⟨hx, hb, hml, hown, hts⟩ (s_X12_isShutter_e l D s.heap.size o a t i q c d w2 hI (show 0 ≤ w2.toInt ∧ w2.toInt ≤ 29 from by omega)) (cwV 1 hts gm_X12_fitsRight_X12_isShutter rfl rfl rfl (by decide +kernel) ⟨Nat.le_of_ble_eq_true rfl, Nat.le_of_ble_eq_true rfl⟩) (pA_V hK hP (ci := 12) (q0 := 0) rfl rfl) rfl rfl hl.1 rfl (lv_room (Nat.le_of_ble_eq_true rfl)) dX12_fitsRight_119 ⟨Nat.le_of_ble_eq_true rfl, Nat.le_of_ble_eq_true rfl⟩) hS hA hP (fun r14 u14 H locs hw14 hP hS => ?_)
    have hw14 : (0 ≤ kS (c 3) (c 6) w2.toInt ∧ kS (c 3) (c 6) w2.toInt ≤ 5 ∧ ((r14.toInt = 1 ∧ (kS (c 3) (c 6) w2.toInt = 2 ∨ kS (c 3) (c 6) w2.toInt = 3)) ∨ (r14.toInt = 0 ∧ ¬ (kS (c 3) (c 6) w2.toInt = 2 ∨ kS (c 3) (c 6) w2.toInt = 3)))) := hw14
    exact ro_zret hx hb hr hlocks hS (nb_n (show 0 ≤ r14.toInt ∧ r14.toInt ≤ 1 from by omega)) dX12_fitsRight_122 ⟨(show 0 ≤ r14.toInt ∧ r14.toInt ≤ 1 from by omega), (show Sm r14 (FtR f.toInt (kS (c 3) (c 6) w2.toInt)) from by unfold Sm; rw [propext (FtR_7 (by omega))]; omega)⟩

set_option maxHeartbeats 4000000 in
set_option maxRecDepth 100000 in
theorem s_X12_areNumbers_e (l : Launch) (D : va_G) (sz : Nat) (o : Nat) (a : Nat → Nat) (t : Nat → ClassId) (i : Nat → Int32) (q : Int64) (c : Nat → Nat → Int32) (d : Nat → Nat → Int64) (f : Int32) (w1 : Int32) (w2 : Int32) (w3 : Int32) (hI : mInv i c) (hf : 0 ≤ f.toInt ∧ f.toInt ≤ 7) : Met l yX12_areNumbers wm_X12_areNumbers ({ frames := 2, cells := 0, slots := 0, locals := 46 }) (va_Pc [.ref o, .int f, .int w1, .int w2, .int w3] (pA D sz (mW o a t i q c d) (mT t))) (va_Qi (fun (r : Int32) (_ : Unit) => ((0 ≤ r.toInt ∧ r.toInt ≤ 1) ∧ (Sm r (WF f.toInt w1.toInt w2.toInt w3.toInt (i 5).toInt)))) oA (ro sz)) 0 0 (ro sz) := by
  refine Met.ofW (cc := cX12_areNumbers) (maxL := 5) (ret := (some .boolean)) (by decide +kernel) rfl ?_
  intro p e s m args below meth cd s₁ B hml hv
  obtain ⟨rfl, hsz, hP, hK⟩ := hv
  have hx := B.exec
  have hb := B.bytes
  have hr := B.returns
  have hts := atoms_spec (ws := wm_X12_areNumbers) B.pre
  have hown : s.vm.findClass RX12 = some m.cls := findClass_of_methodNamed B.named
  have hlocks := B.notSynchronized
  subst hsz
  have hA : ∀ q : Nat, s.heap.size ≤ q → ro s.heap.size q := fun _ h => h
  have hS : va_S (ro s.heap.size) s.heap s.heap [] := va_S.rf
  have hl := lv_entry ([.ref o, .int f, .int w1, .int w2, .int w3]) (n := 5) (Nat.le_of_ble_eq_true rfl)
  rw [lg_entry_eq]
  generalize (lg_sl ([.ref o, .int f, .int w1, .int w2, .int w3]) ++ List.replicate (5 - (lg_sl ([.ref o, .int f, .int w1, .int w2, .int w3])).length) Slot.unset).toArray = ls at hl ⊢
  have hl : lv_has ls 5 [(0, .ref o), (1, .int f), (2, .int w1), (3, .int w2), (4, .int w3)] := hl
  refine lv_iload_n hx hb dX12_areNumbers_0 rfl (lv_at hl 1 rfl) ?_
  refine lv_bipush (v := 6) hx hb dX12_areNumbers_1 (by decide +kernel) ?_
  refine lv_icmp_ne (tgt := 43) hx hb dX12_areNumbers_3 (by decide +kernel) (fun c1 => ?_) (fun c1 => ?_)
  · have f1 := mt (ti_eq (a := f.toInt) (b := 6) rfl (by decide +kernel)).mpr c1
    refine lv_aload_n hx hb dX12_areNumbers_43 rfl (lv_at hl 0 rfl) ?_
    refine lv_iload_n hx hb dX12_areNumbers_44 rfl (lv_at hl 2 rfl) ?_
    have rb5_i : 0 ≤ (i 5).toInt ∧ (i 5).toInt ≤ 30 := hI.1 5
    refine ro_calli (va_runV (As := [.int w1]) (rest := []) ⟨hx, hb, hml, hown, hts⟩ (s_X12_isObject l D s.heap.size o a t i q c d w1 hI ) (cwV 1 hts gm_X12_areNumbers_X12_isObject rfl rfl rfl (by decide +kernel) ⟨Nat.le_of_ble_eq_true rfl, Nat.le_of_ble_eq_true rfl⟩) (pA_V hK hP (ci := 12) (q0 := 0) rfl rfl) rfl rfl hl.1 rfl (lv_room (Nat.le_of_ble_eq_true rfl)) dX12_areNumbers_45 ⟨Nat.le_of_ble_eq_true rfl, Nat.le_of_ble_eq_true rfl⟩) hS hA hP (fun r2 u2 H locs hw2 hP hS => ?_)
    have hw2 : r2 = if (0 ≤ w1.toInt ∧ w1.toInt ≤ (i 5).toInt - 1) then 1 else 0 := hw2
    refine lv_if_eq (tgt := 81) hx hb dX12_areNumbers_48 (by decide +kernel) (fun c3 => ?_) (fun c3 => ?_)
    · have f3 := fl_f hw2 c3
      refine lv_iconst (v := 0) hx hb dX12_areNumbers_81 (by decide +kernel) ?_
      exact ro_zret hx hb hr hlocks hS rfl dX12_areNumbers_82 ⟨(show 0 ≤ (0 : Int32).toInt ∧ (0 : Int32).toInt ≤ 1 from by decide +kernel), (show Sm (0 : Int32) (WF f.toInt w1.toInt w2.toInt w3.toInt (i 5).toInt) from sm_0 (by unfold WF; omega))⟩
    · have f3 := fl_t hw2 c3
      refine lv_aload_n hx hb dX12_areNumbers_51 rfl (lv_at hl 0 rfl) ?_
      refine lv_iload_n hx hb dX12_areNumbers_52 rfl (lv_at hl 3 rfl) ?_
      refine ro_calli (va_runV (As := [.int w2]) (rest := []) ⟨hx, hb, hml, hown, hts⟩ (s_X12_isObject l D H.size o a t i q c d w2 hI ) (cwV 1 hts gm_X12_areNumbers_X12_isObject rfl rfl rfl (by decide +kernel) ⟨Nat.le_of_ble_eq_true rfl, Nat.le_of_ble_eq_true rfl⟩) (pA_V hK hP (ci := 12) (q0 := 0) rfl rfl) rfl rfl hl.1 rfl (lv_room (Nat.le_of_ble_eq_true rfl)) dX12_areNumbers_53 ⟨Nat.le_of_ble_eq_true rfl, Nat.le_of_ble_eq_true rfl⟩) hS hA hP (fun r4 u4 H locs hw4 hP hS => ?_)
      have hw4 : r4 = if (0 ≤ w2.toInt ∧ w2.toInt ≤ (i 5).toInt - 1) then 1 else 0 := hw4
      refine lv_if_eq (tgt := 81) hx hb dX12_areNumbers_56 (by decide +kernel) (fun c5 => ?_) (fun c5 => ?_)
      · have f5 := fl_f hw4 c5
        refine lv_iconst (v := 0) hx hb dX12_areNumbers_81 (by decide +kernel) ?_
        exact ro_zret hx hb hr hlocks hS rfl dX12_areNumbers_82 ⟨(show 0 ≤ (0 : Int32).toInt ∧ (0 : Int32).toInt ≤ 1 from by decide +kernel), (show Sm (0 : Int32) (WF f.toInt w1.toInt w2.toInt w3.toInt (i 5).toInt) from sm_0 (by unfold WF; omega))⟩
      · have f5 := fl_t hw4 c5
        refine lv_iload_n hx hb dX12_areNumbers_59 rfl (lv_at hl 1 rfl) ?_
        refine lv_iconst (v := 5) hx hb dX12_areNumbers_60 (by decide +kernel) ?_
        refine lv_icmp_ne (tgt := 77) hx hb dX12_areNumbers_61 (by decide +kernel) (fun c6 => ?_) (fun c6 => ?_)
        · have f6 := mt (ti_eq (a := f.toInt) (b := 5) rfl (by decide +kernel)).mpr c6
          refine lv_iconst (v := 1) hx hb dX12_areNumbers_77 (by decide +kernel) ?_
          refine lv_goto (tgt := 82) hx hb dX12_areNumbers_78 (by decide +kernel) ?_
          exact ro_zret hx hb hr hlocks hS rfl dX12_areNumbers_82 ⟨(show 0 ≤ (1 : Int32).toInt ∧ (1 : Int32).toInt ≤ 1 from by decide +kernel), (show Sm (1 : Int32) (WF f.toInt w1.toInt w2.toInt w3.toInt (i 5).toInt) from sm_1 (by unfold WF; omega))⟩
        · have f6 := (ti_eq (a := f.toInt) (b := 5) rfl (by decide +kernel)).mp c6
          refine lv_iload hx hb dX12_areNumbers_64 (lv_at hl 4 rfl) ?_
          refine lv_i2l (v := w3.toInt64) hx hb dX12_areNumbers_66 rfl ?_
          refine lv_lconst (v := 0) hx hb dX12_areNumbers_67 (by decide +kernel) ?_
          refine lv_ldc2 (v := 9) hx hb hown (hts (.constantLong RX12 197 (9)) (List.mem_cons_of_mem _ (List.mem_append_left _ (List.mem_of_getElem? (i := 9) rfl)))) dX12_areNumbers_68 ?_
          have hPc := hP.sub (ws' := []) [] rfl
          have hKc := hK.sub (tys' := []) [] rfl
          refine ro_calli (va_runS (As := [.long w3.toInt64, .long 0, .long 9]) (rest := []) ⟨hx, hb, hml, hown, hts⟩ (c_X12_in l D H.size w3.toInt64 0 9 w3.toInt 0 9 ((Int32.toInt_toInt64 w3).trans rfl) (by decide +kernel) (by decide +kernel)) (va_cwS 3 hts gm_X12_areNumbers_X12_in rfl rfl rfl (by decide +kernel) ⟨Nat.le_of_ble_eq_true rfl, Nat.le_of_ble_eq_true rfl⟩) (pA_S hKc hPc) rfl rfl hl.1 rfl (lv_room (Nat.le_of_ble_eq_true rfl)) dX12_areNumbers_71 ⟨Nat.le_of_ble_eq_true rfl, Nat.le_of_ble_eq_true rfl⟩) hS hA hP (fun r7 u7 H locs hw7 hP hS => ?_)
          have hw7 : r7 = if (0 ≤ w3.toInt ∧ w3.toInt ≤ 9) then 1 else 0 := hw7
          refine lv_if_eq (tgt := 81) hx hb dX12_areNumbers_74 (by decide +kernel) (fun c8 => ?_) (fun c8 => ?_)
          · have f8 := fl_f hw7 c8
            refine lv_iconst (v := 0) hx hb dX12_areNumbers_81 (by decide +kernel) ?_
            exact ro_zret hx hb hr hlocks hS rfl dX12_areNumbers_82 ⟨(show 0 ≤ (0 : Int32).toInt ∧ (0 : Int32).toInt ≤ 1 from by decide +kernel), (show Sm (0 : Int32) (WF f.toInt w1.toInt w2.toInt w3.toInt (i 5).toInt) from sm_0 (by unfold WF; omega))⟩
          · have f8 := fl_t hw7 c8
            refine lv_iconst (v := 1) hx hb dX12_areNumbers_77 (by decide +kernel) ?_
            refine lv_goto (tgt := 82) hx hb dX12_areNumbers_78 (by decide +kernel) ?_
            exact ro_zret hx hb hr hlocks hS rfl dX12_areNumbers_82 ⟨(show 0 ≤ (1 : Int32).toInt ∧ (1 : Int32).toInt ≤ 1 from by decide +kernel), (show Sm (1 : Int32) (WF f.toInt w1.toInt w2.toInt w3.toInt (i 5).toInt) from sm_1 (by unfold WF; omega))⟩
  · have f1 := (ti_eq (a := f.toInt) (b := 6) rfl (by decide +kernel)).mp c1
    refine lv_aload_n hx hb dX12_areNumbers_6 rfl (lv_at hl 0 rfl) ?_
    refine lv_iload_n hx hb dX12_areNumbers_7 rfl (lv_at hl 2 rfl) ?_
    have rb5_i : 0 ≤ (i 5).toInt ∧ (i 5).toInt ≤ 30 := hI.1 5
    refine ro_calli (va_runV (As := [.int w1]) (rest := []) ⟨hx, hb, hml, hown, hts⟩ (s_X12_isObject l D s.heap.size o a t i q c d w1 hI ) (cwV 1 hts gm_X12_areNumbers_X12_isObject rfl rfl rfl (by decide +kernel) ⟨Nat.le_of_ble_eq_true rfl, Nat.le_of_ble_eq_true rfl⟩) (pA_V hK hP (ci := 12) (q0 := 0) rfl rfl) rfl rfl hl.1 rfl (lv_room (Nat.le_of_ble_eq_true rfl)) dX12_areNumbers_8 ⟨Nat.le_of_ble_eq_true rfl, Nat.le_of_ble_eq_true rfl⟩) hS hA hP (fun r9 u9 H locs hw9 hP hS => ?_)
    have hw9 : r9 = if (0 ≤ w1.toInt ∧ w1.toInt ≤ (i 5).toInt - 1) then 1 else 0 := hw9
    refine lv_if_eq (tgt := 41) hx hb dX12_areNumbers_11 (by decide +kernel) (fun c10 => ?_) (fun c10 => ?_)
    · have f10 := fl_f hw9 c10
      refine lv_iconst (v := 0) hx hb dX12_areNumbers_41 (by decide +kernel) ?_
      exact ro_zret hx hb hr hlocks hS rfl dX12_areNumbers_42 ⟨(show 0 ≤ (0 : Int32).toInt ∧ (0 : Int32).toInt ≤ 1 from by decide +kernel), (show Sm (0 : Int32) (WF f.toInt w1.toInt w2.toInt w3.toInt (i 5).toInt) from sm_0 (by unfold WF; omega))⟩
    · have f10 := fl_t hw9 c10
      refine lv_iload_n hx hb dX12_areNumbers_14 rfl (lv_at hl 3 rfl) ?_
      refine lv_i2l (v := w2.toInt64) hx hb dX12_areNumbers_15 rfl ?_
      refine lv_lconst (v := 0) hx hb dX12_areNumbers_16 (by decide +kernel) ?_
      refine lv_ldc2 (v := 5) hx hb hown (hts (.constantLong RX12 170 (5)) (List.mem_cons_of_mem _ (List.mem_append_left _ (List.mem_of_getElem? (i := 10) rfl)))) dX12_areNumbers_17 ?_
      have hPc := hP.sub (ws' := []) [] rfl
      have hKc := hK.sub (tys' := []) [] rfl
      refine ro_calli (va_runS (As := [.long w2.toInt64, .long 0, .long 5]) (rest := []) ⟨hx, hb, hml, hown, hts⟩ (c_X12_in l D H.size w2.toInt64 0 5 w2.toInt 0 5 ((Int32.toInt_toInt64 w2).trans rfl) (by decide +kernel) (by decide +kernel)) (va_cwS 3 hts gm_X12_areNumbers_X12_in rfl rfl rfl (by decide +kernel) ⟨Nat.le_of_ble_eq_true rfl, Nat.le_of_ble_eq_true rfl⟩) (pA_S hKc hPc) rfl rfl hl.1 rfl (lv_room (Nat.le_of_ble_eq_true rfl)) dX12_areNumbers_20 ⟨Nat.le_of_ble_eq_true rfl, Nat.le_of_ble_eq_true rfl⟩) hS hA hP (fun r11 u11 H locs hw11 hP hS => ?_)
      have hw11 : r11 = if (0 ≤ w2.toInt ∧ w2.toInt ≤ 5) then 1 else 0 := hw11
      refine lv_if_eq (tgt := 41) hx hb dX12_areNumbers_23 (by decide +kernel) (fun c12 => ?_) (fun c12 => ?_)
      · have f12 := fl_f hw11 c12
        refine lv_iconst (v := 0) hx hb dX12_areNumbers_41 (by decide +kernel) ?_
        exact ro_zret hx hb hr hlocks hS rfl dX12_areNumbers_42 ⟨(show 0 ≤ (0 : Int32).toInt ∧ (0 : Int32).toInt ≤ 1 from by decide +kernel), (show Sm (0 : Int32) (WF f.toInt w1.toInt w2.toInt w3.toInt (i 5).toInt) from sm_0 (by unfold WF; omega))⟩
      · have f12 := fl_t hw11 c12
        refine lv_iload hx hb dX12_areNumbers_26 (lv_at hl 4 rfl) ?_
        refine lv_i2l (v := w3.toInt64) hx hb dX12_areNumbers_28 rfl ?_
        refine lv_lconst (v := 0) hx hb dX12_areNumbers_29 (by decide +kernel) ?_
        refine lv_lconst (v := 1) hx hb dX12_areNumbers_30 (by decide +kernel) ?_
        have hPc := hP.sub (ws' := []) [] rfl
        have hKc := hK.sub (tys' := []) [] rfl
        refine ro_calli (va_runS (As := [.long w3.toInt64, .long 0, .long 1]) (rest := []) ⟨hx, hb, hml, hown, hts⟩ (c_X12_in l D H.size w3.toInt64 0 1 w3.toInt 0 1 ((Int32.toInt_toInt64 w3).trans rfl) (by decide +kernel) (by decide +kernel)) (va_cwS 3 hts gm_X12_areNumbers_X12_in rfl rfl rfl (by decide +kernel) ⟨Nat.le_of_ble_eq_true rfl, Nat.le_of_ble_eq_true rfl⟩) (pA_S hKc hPc) rfl rfl hl.1 rfl (lv_room (Nat.le_of_ble_eq_true rfl)) dX12_areNumbers_31 ⟨Nat.le_of_ble_eq_true rfl, Nat.le_of_ble_eq_true rfl⟩) hS hA hP (fun r13 u13 H locs hw13 hP hS => ?_)
        have hw13 : r13 = if (0 ≤ w3.toInt ∧ w3.toInt ≤ 1) then 1 else 0 := hw13
        refine lv_if_eq (tgt := 41) hx hb dX12_areNumbers_34 (by decide +kernel) (fun c14 => ?_) (fun c14 => ?_)
        · have f14 := fl_f hw13 c14
          refine lv_iconst (v := 0) hx hb dX12_areNumbers_41 (by decide +kernel) ?_
          exact ro_zret hx hb hr hlocks hS rfl dX12_areNumbers_42 ⟨(show 0 ≤ (0 : Int32).toInt ∧ (0 : Int32).toInt ≤ 1 from by decide +kernel), (show Sm (0 : Int32) (WF f.toInt w1.toInt w2.toInt w3.toInt (i 5).toInt) from sm_0 (by unfold WF; omega))⟩
        · have f14 := fl_t hw13 c14
          refine lv_iconst (v := 1) hx hb dX12_areNumbers_37 (by decide +kernel) ?_
          refine lv_goto (tgt := 42) hx hb dX12_areNumbers_38 (by decide +kernel) ?_
          exact ro_zret hx hb hr hlocks hS rfl dX12_areNumbers_42 ⟨(show 0 ≤ (1 : Int32).toInt ∧ (1 : Int32).toInt ≤ 1 from by decide +kernel), (show Sm (1 : Int32) (WF f.toInt w1.toInt w2.toInt w3.toInt (i 5).toInt) from sm_1 (by unfold WF; omega))⟩

set_option maxHeartbeats 4000000 in
set_option maxRecDepth 100000 in
theorem s_X12_saidSo_e (l : Launch) (D : va_G) (sz : Nat) (o : Nat) (a : Nat → Nat) (t : Nat → ClassId) (i : Nat → Int32) (q : Int64) (c : Nat → Nat → Int32) (d : Nat → Nat → Int64) (f : Int32) (w1 : Int32) (w2 : Int32) (w3 : Int32) (hI : mInv i c) : Met l yX12_saidSo wm_X12_saidSo ({ frames := 0, cells := 0, slots := 0, locals := 0 }) (va_Pc [.ref o, .int f, .int w1, .int w2, .int w3] (pA D sz (mW o a t i q c d) (mT t))) (va_Qi (fun (r : Int32) (_ : Unit) => ((r.toInt = -9 ∨ (0 ≤ r.toInt ∧ r.toInt ≤ 199)) ∧ (r.toInt = fsF (sE (c 9) (c 10) (c 11) (c 12) (c 13) f.toInt w1.toInt w2.toInt w3.toInt) (i 8).toInt.toNat))) oA (ro sz)) 0 0 (ro sz) := by
  refine Met.ofW (cc := cX12_saidSo) (maxL := 6) (ret := (some .int)) (by decide +kernel) rfl ?_
  intro p e s m args below meth cd s₁ B hml hv
  obtain ⟨rfl, hsz, hP, hK⟩ := hv
  have hx := B.exec
  have hb := B.bytes
  have hr := B.returns
  have hts := atoms_spec (ws := wm_X12_saidSo) B.pre
  have hown : s.vm.findClass RX12 = some m.cls := findClass_of_methodNamed B.named
  have hlocks := B.notSynchronized
  subst hsz
  have hA : ∀ q : Nat, s.heap.size ≤ q → ro s.heap.size q := fun _ h => h
  have hS : va_S (ro s.heap.size) s.heap s.heap [] := va_S.rf
  have hl := lv_entry ([.ref o, .int f, .int w1, .int w2, .int w3]) (n := 6) (Nat.le_of_ble_eq_true rfl)
  rw [lg_entry_eq]
  generalize (lg_sl ([.ref o, .int f, .int w1, .int w2, .int w3]) ++ List.replicate (6 - (lg_sl ([.ref o, .int f, .int w1, .int w2, .int w3])).length) Slot.unset).toArray = ls at hl ⊢
  have hl : lv_has ls 6 [(0, .ref o), (1, .int f), (2, .int w1), (3, .int w2), (4, .int w3)] := hl
  refine lv_iconst (v := 0) hx hb dX12_saidSo_0 (by decide +kernel) ?_
  refine lv_istore (lv' := [(5, .int 0), (0, .ref o), (1, .int f), (2, .int w1), (3, .int w2), (4, .int w3)]) hx hb dX12_saidSo_1 hl (by decide +kernel) rfl (fun ls hl => ?_)
  have lp1 : ∀ (fu : Nat) (y1_5 : Int32), (0 ≤ y1_5.toInt ∧ y1_5.toInt ≤ 200) → (∀ s : Nat, (s : Int) < y1_5.toInt → ¬ sE (c 9) (c 10) (c 11) (c 12) (c 13) f.toInt w1.toInt w2.toInt w3.toInt s) → (200 - y1_5.toInt).toNat < fu → ∀ (H : Heap) (locs : List Loc) (ls : Array Slot), va_P D vwCl (mW o a t i q c d) H → va_S (ro s.heap.size) s.heap H locs → lv_has ls 6 [(5, .int y1_5), (0, .ref o), (1, .int f), (2, .int w1), (3, .int w2), (4, .int w3)] → W p l e (headSpec wm_X12_saidSo ({ frames := 0, cells := 0, slots := 0, locals := 0 })).room s m ([.ref o, .int f, .int w1, .int w2, .int w3] : List Value).toArray below meth cd H locs 0 0 (MQ below (va_Qi (fun (r : Int32) (_ : Unit) => ((r.toInt = -9 ∨ (0 ≤ r.toInt ∧ r.toInt ≤ 199)) ∧ (r.toInt = fsF (sE (c 9) (c 10) (c 11) (c 12) (c 13) f.toInt w1.toInt w2.toInt w3.toInt) (i 8).toInt.toNat))) oA (ro s.heap.size)) ([.ref o, .int f, .int w1, .int w2, .int w3] : List Value).toArray s 0 0 (ro s.heap.size)) (F0 m 3 ls []) := by
    intro fu
    induction fu with
    | zero => intro y1_5 hy1_5 hz1_0 hm; exact absurd hm (Nat.not_lt_zero _)
    | succ fu ih =>
      intro y1_5 hy1_5 hz1_0 hm H locs ls hP hS hl
      have ih1 := ih
      refine lv_iload hx hb dX12_saidSo_3 (lv_at hl 0 rfl) ?_
      refine lv_aload_n hx hb dX12_saidSo_5 rfl (lv_at hl 1 rfl) ?_
      refine mget_8 (v := (i 8)) rfl hx hb hts (fun _ h => List.mem_cons_of_mem _ (List.mem_append_right _ h)) hown hK hP (hts (.fieldLink RX12 202 "TalePlayModel" "sentences" "I") (List.mem_cons_of_mem _ (List.mem_append_left _ (List.mem_of_getElem? (i := 0) rfl)))) dX12_saidSo_6 ?_
      have rb8_i : 0 ≤ (i 8).toInt ∧ (i 8).toInt ≤ 200 := hI.1 8
      refine lv_icmp_ge (tgt := 76) hx hb dX12_saidSo_9 (by decide +kernel) (fun c2 => ?_) (fun c2 => ?_)
      · have f2 := (ti_le (a := (i 8).toInt) (b := y1_5.toInt) rfl rfl).mp c2
        refine lv_bipush (v := (-9)) hx hb dX12_saidSo_76 (by decide +kernel) ?_
        exact ro_iret hx hb hr hlocks hS dX12_saidSo_78 ⟨(show ((-9) : Int32).toInt = -9 ∨ (0 ≤ ((-9) : Int32).toInt ∧ ((-9) : Int32).toInt ≤ 199) from by decide +kernel), (show ((-9) : Int32).toInt = fsF (sE (c 9) (c 10) (c 11) (c 12) (c 13) f.toInt w1.toInt w2.toInt w3.toInt) (i 8).toInt.toNat from by rw [show ((-9) : Int32).toInt = -9 by decide]; exact fs_no hz1_0 (by omega))⟩
      · have f2 := mt (ti_le (a := (i 8).toInt) (b := y1_5.toInt) rfl rfl).mpr c2
        refine lv_aload_n hx hb dX12_saidSo_12 rfl (lv_at hl 1 rfl) ?_
        refine mget_13 hx hb hts (fun _ h => List.mem_cons_of_mem _ (List.mem_append_right _ h)) hown hK hP (hts (.fieldLink RX12 37 "TalePlayModel" "isSaid" "[Z") (List.mem_cons_of_mem _ (List.mem_append_left _ (List.mem_of_getElem? (i := 1) rfl)))) dX12_saidSo_13 ?_
        refine lv_iload hx hb dX12_saidSo_16 (lv_at hl 0 rfl) ?_
        refine mld_13 hx hb hK hP (vp_in_iff.mpr (by have h9 : y1_5.toInt = y1_5.toInt := rfl; omega)) dX12_saidSo_18 (fun x3 ex3 => ?_)
        have rx3 : 0 ≤ x3.toInt ∧ x3.toInt ≤ 1 := by rw [ex3]; exact hI.2 13 _
        have gx3 : (c 13 (y1_5 : Int32).toNatClampNeg).toInt = x3.toInt := by rw [ex3]
        have jn4 : (¬ sE (c 9) (c 10) (c 11) (c 12) (c 13) f.toInt w1.toInt w2.toInt w3.toInt y1_5.toNatClampNeg) → ∀ (H : Heap) (locs : List Loc) (ls : Array Slot), va_P D vwCl (mW o a t i q c d) H → va_S (ro s.heap.size) s.heap H locs → lv_has ls 6 [(5, .int y1_5), (0, .ref o), (1, .int f), (2, .int w1), (3, .int w2), (4, .int w3)] → W p l e (headSpec wm_X12_saidSo ({ frames := 0, cells := 0, slots := 0, locals := 0 })).room s m ([.ref o, .int f, .int w1, .int w2, .int w3] : List Value).toArray below meth cd H locs 0 0 (MQ below (va_Qi (fun (r : Int32) (_ : Unit) => ((r.toInt = -9 ∨ (0 ≤ r.toInt ∧ r.toInt ≤ 199)) ∧ (r.toInt = fsF (sE (c 9) (c 10) (c 11) (c 12) (c 13) f.toInt w1.toInt w2.toInt w3.toInt) (i 8).toInt.toNat))) oA (ro s.heap.size)) ([.ref o, .int f, .int w1, .int w2, .int w3] : List Value).toArray s 0 0 (ro s.heap.size)) (F0 m 70 ls []) := by
          intro hz4_0 H locs ls hP hS hl
          obtain ⟨x5, ex5⟩ : ∃ y : Int32, y = y1_5 + 1 := ⟨_, rfl⟩
          have tx5 := ti_add (a := y1_5.toInt) (b := 1) ex5 rfl (by decide +kernel) (by omega) (by omega)
          refine lv_iinc (v := x5) (lv' := [(5, .int x5), (0, .ref o), (1, .int f), (2, .int w1), (3, .int w2), (4, .int w3)]) hx hb dX12_saidSo_70 hl (k := 0) rfl (by rw [ex5]; rfl) (by decide +kernel) rfl (fun ls hl => ?_)
          refine lv_goto (tgt := 3) hx hb dX12_saidSo_73 (by decide +kernel) ?_
          exact ih1 x5 (show 0 ≤ x5.toInt ∧ x5.toInt ≤ 200 from by have h50 : x5.toInt = (y1_5.toInt + 1) := tx5; omega) (show ∀ s : Nat, (s : Int) < x5.toInt → ¬ sE (c 9) (c 10) (c 11) (c 12) (c 13) f.toInt w1.toInt w2.toInt w3.toInt s from fs_go hz1_0 (by omega) hz4_0 tx5) (by have h50 : x5.toInt = (y1_5.toInt + 1) := tx5; omega) _ _ _ hP hS (lv_sub hl [0, 1, 2, 3, 4, 5] rfl)
        refine lv_if_eq (tgt := 70) hx hb dX12_saidSo_19 (by decide +kernel) (fun c6 => ?_) (fun c6 => ?_)
        · have f6 := (ti_eq (a := x3.toInt) (b := 0) rfl (by decide +kernel)).mp c6
          exact jn4   (show ¬ sE (c 9) (c 10) (c 11) (c 12) (c 13) f.toInt w1.toInt w2.toInt w3.toInt y1_5.toNatClampNeg from by first | omega | (unfold sE; omega)) _ _ _ hP hS (lv_sub hl [0, 1, 2, 3, 4, 5] rfl)
        · have f6 := mt (ti_eq (a := x3.toInt) (b := 0) rfl (by decide +kernel)).mpr c6
          refine lv_aload_n hx hb dX12_saidSo_22 rfl (lv_at hl 1 rfl) ?_
          refine mget_9 hx hb hts (fun _ h => List.mem_cons_of_mem _ (List.mem_append_right _ h)) hown hK hP (hts (.fieldLink RX12 25 "TalePlayModel" "form" "[I") (List.mem_cons_of_mem _ (List.mem_append_left _ (List.mem_of_getElem? (i := 2) rfl)))) dX12_saidSo_23 ?_
          refine lv_iload hx hb dX12_saidSo_26 (lv_at hl 0 rfl) ?_
          refine mld_9 hx hb hK hP (vp_in_iff.mpr (by have h9 : y1_5.toInt = y1_5.toInt := rfl; omega)) dX12_saidSo_28 (fun x7 ex7 => ?_)
          have rx7 : 0 ≤ x7.toInt ∧ x7.toInt ≤ 7 := by rw [ex7]; exact hI.2 9 _
          have gx7 : (c 9 (y1_5 : Int32).toNatClampNeg).toInt = x7.toInt := by rw [ex7]
          refine lv_iload_n hx hb dX12_saidSo_29 rfl (lv_at hl 2 rfl) ?_
          refine lv_icmp_ne (tgt := 70) hx hb dX12_saidSo_30 (by decide +kernel) (fun c8 => ?_) (fun c8 => ?_)
          · have f8 := mt (ti_eq (a := x7.toInt) (b := f.toInt) rfl rfl).mpr c8
            exact jn4   (show ¬ sE (c 9) (c 10) (c 11) (c 12) (c 13) f.toInt w1.toInt w2.toInt w3.toInt y1_5.toNatClampNeg from by first | omega | (unfold sE; omega)) _ _ _ hP hS (lv_sub hl [0, 1, 2, 3, 4, 5] rfl)
          · have f8 := (ti_eq (a := x7.toInt) (b := f.toInt) rfl rfl).mp c8
            refine lv_aload_n hx hb dX12_saidSo_33 rfl (lv_at hl 1 rfl) ?_
            refine mget_10 hx hb hts (fun _ h => List.mem_cons_of_mem _ (List.mem_append_right _ h)) hown hK hP (hts (.fieldLink RX12 28 "TalePlayModel" "left" "[I") (List.mem_cons_of_mem _ (List.mem_append_left _ (List.mem_of_getElem? (i := 3) rfl)))) dX12_saidSo_34 ?_
            refine lv_iload hx hb dX12_saidSo_37 (lv_at hl 0 rfl) ?_
            refine mld_10 hx hb hK hP (vp_in_iff.mpr (by have h9 : y1_5.toInt = y1_5.toInt := rfl; omega)) dX12_saidSo_39 (fun x9 ex9 => ?_)
            have rx9 : 0 ≤ x9.toInt ∧ x9.toInt ≤ 29 := by rw [ex9]; exact hI.2 10 _
            have gx9 : (c 10 (y1_5 : Int32).toNatClampNeg).toInt = x9.toInt := by rw [ex9]
            refine lv_iload_n hx hb dX12_saidSo_40 rfl (lv_at hl 3 rfl) ?_
            refine lv_icmp_ne (tgt := 70) hx hb dX12_saidSo_41 (by decide +kernel) (fun c10 => ?_) (fun c10 => ?_)
            · have f10 := mt (ti_eq (a := x9.toInt) (b := w1.toInt) rfl rfl).mpr c10
              exact jn4   (show ¬ sE (c 9) (c 10) (c 11) (c 12) (c 13) f.toInt w1.toInt w2.toInt w3.toInt y1_5.toNatClampNeg from by first | omega | (unfold sE; omega)) _ _ _ hP hS (lv_sub hl [0, 1, 2, 3, 4, 5] rfl)
            · have f10 := (ti_eq (a := x9.toInt) (b := w1.toInt) rfl rfl).mp c10
              refine lv_aload_n hx hb dX12_saidSo_44 rfl (lv_at hl 1 rfl) ?_
              refine mget_11 hx hb hts (fun _ h => List.mem_cons_of_mem _ (List.mem_append_right _ h)) hown hK hP (hts (.fieldLink RX12 31 "TalePlayModel" "middle" "[I") (List.mem_cons_of_mem _ (List.mem_append_left _ (List.mem_of_getElem? (i := 4) rfl)))) dX12_saidSo_45 ?_
              refine lv_iload hx hb dX12_saidSo_48 (lv_at hl 0 rfl) ?_
              refine mld_11 hx hb hK hP (vp_in_iff.mpr (by have h9 : y1_5.toInt = y1_5.toInt := rfl; omega)) dX12_saidSo_50 (fun x11 ex11 => ?_)
              have rx11 : 0 ≤ x11.toInt ∧ x11.toInt ≤ 29 := by rw [ex11]; exact hI.2 11 _
              have gx11 : (c 11 (y1_5 : Int32).toNatClampNeg).toInt = x11.toInt := by rw [ex11]
              refine lv_iload_n hx hb dX12_saidSo_51 rfl (lv_at hl 4 rfl) ?_
              refine lv_icmp_ne (tgt := 70) hx hb dX12_saidSo_52 (by decide +kernel) (fun c12 => ?_) (fun c12 => ?_)
              · have f12 := mt (ti_eq (a := x11.toInt) (b := w2.toInt) rfl rfl).mpr c12
                exact jn4   (show ¬ sE (c 9) (c 10) (c 11) (c 12) (c 13) f.toInt w1.toInt w2.toInt w3.toInt y1_5.toNatClampNeg from by first | omega | (unfold sE; omega)) _ _ _ hP hS (lv_sub hl [0, 1, 2, 3, 4, 5] rfl)
              · have f12 := (ti_eq (a := x11.toInt) (b := w2.toInt) rfl rfl).mp c12
                refine lv_aload_n hx hb dX12_saidSo_55 rfl (lv_at hl 1 rfl) ?_
                refine mget_12 hx hb hts (fun _ h => List.mem_cons_of_mem _ (List.mem_append_right _ h)) hown hK hP (hts (.fieldLink RX12 34 "TalePlayModel" "right" "[I") (List.mem_cons_of_mem _ (List.mem_append_left _ (List.mem_of_getElem? (i := 5) rfl)))) dX12_saidSo_56 ?_
                refine lv_iload hx hb dX12_saidSo_59 (lv_at hl 0 rfl) ?_
                refine mld_12 hx hb hK hP (vp_in_iff.mpr (by have h9 : y1_5.toInt = y1_5.toInt := rfl; omega)) dX12_saidSo_61 (fun x13 ex13 => ?_)
                have rx13 : 0 ≤ x13.toInt ∧ x13.toInt ≤ 9 := by rw [ex13]; exact hI.2 12 _
                have gx13 : (c 12 (y1_5 : Int32).toNatClampNeg).toInt = x13.toInt := by rw [ex13]
                refine lv_iload hx hb dX12_saidSo_62 (lv_at hl 5 rfl) ?_
                refine lv_icmp_ne (tgt := 70) hx hb dX12_saidSo_64 (by decide +kernel) (fun c14 => ?_) (fun c14 => ?_)
                · have f14 := mt (ti_eq (a := x13.toInt) (b := w3.toInt) rfl rfl).mpr c14
                  exact jn4   (show ¬ sE (c 9) (c 10) (c 11) (c 12) (c 13) f.toInt w1.toInt w2.toInt w3.toInt y1_5.toNatClampNeg from by first | omega | (unfold sE; omega)) _ _ _ hP hS (lv_sub hl [0, 1, 2, 3, 4, 5] rfl)
                · have f14 := (ti_eq (a := x13.toInt) (b := w3.toInt) rfl rfl).mp c14
                  refine lv_iload hx hb dX12_saidSo_67 (lv_at hl 0 rfl) ?_
                  exact ro_iret hx hb hr hlocks hS dX12_saidSo_69 ⟨(show y1_5.toInt = -9 ∨ (0 ≤ y1_5.toInt ∧ y1_5.toInt ≤ 199) from by omega), (show y1_5.toInt = fsF (sE (c 9) (c 10) (c 11) (c 12) (c 13) f.toInt w1.toInt w2.toInt w3.toInt) (i 8).toInt.toNat from fs_yes hz1_0 (by omega) (by omega) (by unfold sE; omega))⟩
  exact lp1 _ (0 : Int32) (show 0 ≤ (0 : Int32).toInt ∧ (0 : Int32).toInt ≤ 200 from by decide +kernel) (show ∀ s : Nat, (s : Int) < (0 : Int32).toInt → ¬ sE (c 9) (c 10) (c 11) (c 12) (c 13) f.toInt w1.toInt w2.toInt w3.toInt s from fs_0 (by decide +kernel)) (Nat.lt_succ_self _) _ _ _ hP hS (lv_sub hl [0, 1, 2, 3, 4, 5] rfl)

set_option maxHeartbeats 4000000 in
set_option maxRecDepth 100000 in
theorem s_X12_isPlaceBarred_e (l : Launch) (D : va_G) (sz : Nat) (o : Nat) (a : Nat → Nat) (t : Nat → ClassId) (i : Nat → Int32) (q : Int64) (c : Nat → Nat → Int32) (d : Nat → Nat → Int64) (f : Int32) (w1 : Int32) (w2 : Int32) (hI : mInv i c) (hw1 : 0 ≤ w1.toInt ∧ w1.toInt ≤ 29) (hw2 : 0 ≤ w2.toInt ∧ w2.toInt ≤ 29) (hrm : (i 15).toInt = 0) (hs_S : SJ (c 3) (c 6) (c 9) (c 10) (c 11) (c 13) (i 2).toInt (i 5).toInt (i 8).toInt) : Met l yX12_isPlaceBarred wm_X12_isPlaceBarred ({ frames := 1, cells := 0, slots := 0, locals := 25 }) (va_Pc [.ref o, .int f, .int w1, .int w2] (pB D sz (mW o a t i q c d) (mT t))) (va_Qi (fun (r : Int32) (u : MS) => ((0 ≤ r.toInt ∧ r.toInt ≤ 1) ∧ (Sm r (PbM (c 9) (c 10) (c 11) (c 12) (c 13) (i 8).toInt f.toInt w1.toInt w2.toInt))) ∧ mInv u.1 u.2.2.1 ∧ (∀ k, k ∉ ([15] : List Nat) → u.1 k = i k) ∧ (∀ k, k ∉ ([14] : List Nat) → u.2.2.1 k = c k)) (oC D (va_A (mW o a t i q c d) sz) (fun u : MS => mW o a t u.1 u.2.1 u.2.2.1 u.2.2.2) (fun _ => [])) (va_A (mW o a t i q c d) sz)) 0 0 (va_A (mW o a t i q c d) sz) := by
  refine Met.ofW (cc := cX12_isPlaceBarred) (maxL := 7) (ret := (some .boolean)) (by decide +kernel) rfl ?_
  intro p e s m args below meth cd s₁ B hml hv
  obtain ⟨rfl, hsz, hP, hK, hD0⟩ := hv
  have hx := B.exec
  have hb := B.bytes
  have hr := B.returns
  have hts := atoms_spec (ws := wm_X12_isPlaceBarred) B.pre
  have hown : s.vm.findClass RX12 = some m.cls := findClass_of_methodNamed B.named
  have hlocks := B.notSynchronized
  subst hsz
  have hD := hD0.self (sz := s.heap.size)
  generalize hAe : va_A (mW o a t i q c d) s.heap.size = A at hD ⊢
  have hA : ∀ q : Nat, s.heap.size ≤ q → A q := fun q h => by rw [← hAe]; exact Or.inr h
  have hS : va_S A s.heap s.heap [] := va_S.rf
  have hfi : ∀ k, k ∉ ([] : List Nat) → i k = i k := fun _ _ => rfl
  have hfc : ∀ k, k ∉ ([] : List Nat) → c k = c k := fun _ _ => rfl
  have hl := lv_entry ([.ref o, .int f, .int w1, .int w2]) (n := 7) (Nat.le_of_ble_eq_true rfl)
  rw [lg_entry_eq]
  generalize (lg_sl ([.ref o, .int f, .int w1, .int w2]) ++ List.replicate (7 - (lg_sl ([.ref o, .int f, .int w1, .int w2])).length) Slot.unset).toArray = ls at hl ⊢
  have hl : lv_has ls 7 [(0, .ref o), (1, .int f), (2, .int w1), (3, .int w2)] := hl
  obtain ⟨rk, hrk⟩ := hs_S.2.2.2
  have hr0 := hrk.1 w2.toInt
  refine lv_aload_n hx hb dX12_isPlaceBarred_0 rfl (lv_at hl 0 rfl) ?_
  refine lv_iload_n hx hb dX12_isPlaceBarred_1 rfl (lv_at hl 2 rfl) ?_
  have rb8_i : 0 ≤ (i 8).toInt ∧ (i 8).toInt ≤ 200 := hI.1 8
  refine ro_calli (va_runV (As := [.int w1]) (rest := []) ⟨hx, hb, hml, hown, hts⟩ (s_X12_placing l D s.heap.size o a t i q c d w1 hI ) (cwV 1 hts gm_X12_isPlaceBarred_X12_placing rfl rfl rfl (by decide +kernel) ⟨Nat.le_of_ble_eq_true rfl, Nat.le_of_ble_eq_true rfl⟩) (pA_V hK hP (ci := 12) (q0 := 0) rfl rfl) rfl rfl hl.1 rfl (lv_room (Nat.le_of_ble_eq_true rfl)) dX12_isPlaceBarred_2 ⟨Nat.le_of_ble_eq_true rfl, Nat.le_of_ble_eq_true rfl⟩) hS hA hP (fun r1 u1 H locs hw1 hP hS => ?_)
  have hw1 : ((r1.toInt = -9 ∨ (0 ≤ r1.toInt ∧ r1.toInt ≤ 199)) ∧ (r1.toInt = pL (c 9) (c 10) (c 13) (i 8).toInt w1.toInt)) := hw1
  obtain ⟨hw1, hr1_0⟩ := hw1
  have hr1_0 : r1.toInt = pL (c 9) (c 10) (c 13) (i 8).toInt w1.toInt := hr1_0
  refine lv_istore (lv' := [(4, .int r1), (0, .ref o), (1, .int f), (2, .int w1), (3, .int w2)]) hx hb dX12_isPlaceBarred_5 hl (by decide +kernel) rfl (fun ls hl => ?_)
  refine lv_iload hx hb dX12_isPlaceBarred_7 (lv_at hl 0 rfl) ?_
  refine lv_bipush (v := (-9)) hx hb dX12_isPlaceBarred_9 (by decide +kernel) ?_
  refine lv_icmp_eq (tgt := 22) hx hb dX12_isPlaceBarred_11 (by decide +kernel) (fun c2 => ?_) (fun c2 => ?_)
  · have f2 := (ti_eq (a := r1.toInt) (b := (-9)) rfl (by decide +kernel)).mp c2
    refine lv_iload_n hx hb dX12_isPlaceBarred_22 rfl (lv_at hl 4 rfl) ?_
    refine lv_istore (lv' := [(5, .int w2), (4, .int r1), (0, .ref o), (1, .int f), (2, .int w1), (3, .int w2)]) hx hb dX12_isPlaceBarred_23 hl (by decide +kernel) rfl (fun ls hl => ?_)
    have lp3 : ∀ (fu : Nat) (i3 : Nat → Int32) (q3 : Int64) (c3 : Nat → Nat → Int32) (d3 : Nat → Nat → Int64) (y3_5 : Int32), mInv i3 c3 → (∀ k, k ∉ ([15] : List Nat) → i3 k = i k) → (∀ k, k ∉ ([14] : List Nat) → c3 k = c k) → (0 ≤ y3_5.toInt ∧ y3_5.toInt ≤ 29) → (((i3 15) : Int32).toInt + (rk y3_5.toInt : Int) ≤ 29) → (Ch (fP (c 9) (c 10) (c 11) (c 13) (i 8).toInt) w2.toInt w1.toInt ↔ Ch (fP (c 9) (c 10) (c 11) (c 13) (i 8).toInt) y3_5.toInt w1.toInt) → rk y3_5.toInt < fu → ∀ (H : Heap) (locs : List Loc) (ls : Array Slot), va_P D vwCl (mW o a t i3 q3 c3 d3) H → va_D A (mW o a t i3 q3 c3 d3) → va_S A s.heap H locs → lv_has ls 7 [(5, .int y3_5), (4, .int r1), (0, .ref o), (1, .int f), (2, .int w1), (3, .int w2)] → W p l e (headSpec wm_X12_isPlaceBarred ({ frames := 1, cells := 0, slots := 0, locals := 25 })).room s m ([.ref o, .int f, .int w1, .int w2] : List Value).toArray below meth cd H locs 0 0 (MQ below (va_Qi (fun (r : Int32) (u : MS) => ((0 ≤ r.toInt ∧ r.toInt ≤ 1) ∧ (Sm r (PbM (c 9) (c 10) (c 11) (c 12) (c 13) (i 8).toInt f.toInt w1.toInt w2.toInt))) ∧ mInv u.1 u.2.2.1 ∧ (∀ k, k ∉ ([15] : List Nat) → u.1 k = i k) ∧ (∀ k, k ∉ ([14] : List Nat) → u.2.2.1 k = c k)) (oC D A (fun u : MS => mW o a t u.1 u.2.1 u.2.2.1 u.2.2.2) (fun _ => [])) A) ([.ref o, .int f, .int w1, .int w2] : List Value).toArray s 0 0 A) (F0 m 25 ls []) := by
      intro fu
      induction fu with
      | zero => intro i3 q3 c3 d3 y3_5 hI hfi hfc hy3_5 hz3_0 hz3_1 hm; exact absurd hm (Nat.not_lt_zero _)
      | succ fu ih =>
        intro i3 q3 c3 d3 y3_5 hI hfi hfc hy3_5 hz3_0 hz3_1 hm H locs ls hP hD hS hl
        have ih3 := ih
        refine lv_iload hx hb dX12_isPlaceBarred_25 (lv_at hl 0 rfl) ?_
        refine lv_iload_n hx hb dX12_isPlaceBarred_27 rfl (lv_at hl 4 rfl) ?_
        have jn4 : (y3_5.toInt = w1.toInt ∨ pL (c 9) (c 10) (c 13) (i 8).toInt y3_5.toInt = -9) → ∀ (H : Heap) (locs : List Loc) (ls : Array Slot), va_P D vwCl (mW o a t i3 q3 c3 d3) H → va_D A (mW o a t i3 q3 c3 d3) → va_S A s.heap H locs → lv_has ls 7 [(5, .int y3_5), (4, .int r1), (0, .ref o), (1, .int f), (2, .int w1), (3, .int w2)] → W p l e (headSpec wm_X12_isPlaceBarred ({ frames := 1, cells := 0, slots := 0, locals := 25 })).room s m ([.ref o, .int f, .int w1, .int w2] : List Value).toArray below meth cd H locs 0 0 (MQ below (va_Qi (fun (r : Int32) (u : MS) => ((0 ≤ r.toInt ∧ r.toInt ≤ 1) ∧ (Sm r (PbM (c 9) (c 10) (c 11) (c 12) (c 13) (i 8).toInt f.toInt w1.toInt w2.toInt))) ∧ mInv u.1 u.2.2.1 ∧ (∀ k, k ∉ ([15] : List Nat) → u.1 k = i k) ∧ (∀ k, k ∉ ([14] : List Nat) → u.2.2.1 k = c k)) (oC D A (fun u : MS => mW o a t u.1 u.2.1 u.2.2.1 u.2.2.2) (fun _ => [])) A) ([.ref o, .int f, .int w1, .int w2] : List Value).toArray s 0 0 A) (F0 m 68 ls []) := by
          intro hz4_0 H locs ls hP hD hS hl
          refine lv_iload hx hb dX12_isPlaceBarred_68 (lv_at hl 0 rfl) ?_
          refine lv_iload_n hx hb dX12_isPlaceBarred_70 rfl (lv_at hl 4 rfl) ?_
          refine lv_icmp_ne (tgt := 76) hx hb dX12_isPlaceBarred_71 (by decide +kernel) (fun c5 => ?_) (fun c5 => ?_)
          · have f5 := mt (ti_eq (a := y3_5.toInt) (b := w1.toInt) rfl rfl).mpr c5
            refine lv_aload_n hx hb dX12_isPlaceBarred_76 rfl (lv_at hl 2 rfl) ?_
            refine lv_iconst (v := 0) hx hb dX12_isPlaceBarred_77 (by decide +kernel) ?_
            refine mput_15 hx hb hts (fun _ h => List.mem_cons_of_mem _ (List.mem_append_right _ h)) hown hK hP hD hS (hts (.fieldLink RX12 205 "TalePlayModel" "rowMany" "I") (List.mem_cons_of_mem _ (List.mem_append_left _ (List.mem_append_left _ (List.mem_of_getElem? (i := 9) rfl))))) rfl rfl dX12_isPlaceBarred_78 (fun H locs hP hD hS => ?_)
            have hI := mInv_i hI (k := 15) (v := 0) (show 0 ≤ (0 : Int32).toInt ∧ (0 : Int32).toInt ≤ 200 from by decide +kernel)
            have hfi := fr_i hfi (k := 15) (v := 0) (by decide +kernel)
            refine lv_iload_n hx hb dX12_isPlaceBarred_81 rfl (lv_at hl 3 rfl) ?_
            refine lv_iconst (v := 3) hx hb dX12_isPlaceBarred_82 (by decide +kernel) ?_
            refine lv_icmp_ne (tgt := 98) hx hb dX12_isPlaceBarred_83 (by decide +kernel) (fun c6 => ?_) (fun c6 => ?_)
            · have f6 := mt (ti_eq (a := f.toInt) (b := 3) rfl (by decide +kernel)).mpr c6
              refine lv_bipush (v := (-9)) hx hb dX12_isPlaceBarred_98 (by decide +kernel) ?_
              refine lv_istore (lv' := [(6, .int (-9)), (5, .int y3_5), (4, .int r1), (0, .ref o), (1, .int f), (2, .int w1), (3, .int w2)]) hx hb dX12_isPlaceBarred_100 hl (by decide +kernel) rfl (fun ls hl => ?_)
              refine lv_iload hx hb dX12_isPlaceBarred_102 (lv_at hl 0 rfl) ?_
              refine lv_bipush (v := (-9)) hx hb dX12_isPlaceBarred_104 (by decide +kernel) ?_
              refine lv_icmp_eq (tgt := 115) hx hb dX12_isPlaceBarred_106 (by decide +kernel) (fun _ => ?_) (fun q9 => absurd (by decide +kernel) q9)
              refine lv_iload hx hb dX12_isPlaceBarred_115 (lv_at hl 0 rfl) ?_
              refine lv_bipush (v := (-9)) hx hb dX12_isPlaceBarred_117 (by decide +kernel) ?_
              refine lv_icmp_eq (tgt := 126) hx hb dX12_isPlaceBarred_119 (by decide +kernel) (fun _ => ?_) (fun q9 => absurd (by decide +kernel) q9)
              refine lv_iconst (v := 0) hx hb dX12_isPlaceBarred_126 (by decide +kernel) ?_
              exact rw_zret ((upd i3 15 0), q3, c3, d3) hx hb hr hlocks hS (hK.sub (tys' := []) [] rfl) hP hD rfl dX12_isPlaceBarred_127 ⟨⟨(show 0 ≤ (0 : Int32).toInt ∧ (0 : Int32).toInt ≤ 1 from by decide +kernel), (show Sm (0 : Int32) (PbM (c 9) (c 10) (c 11) (c 12) (c 13) (i 8).toInt f.toInt w1.toInt w2.toInt) from by first | (exfalso; omega; done) | exact sm_0 (fun h9 => by rcases h9 with h9 | h9 | h9; (· omega); (· have h7 := (Ch_nx (f := fP (c 9) (c 10) (c 11) (c 13) (i 8).toInt) (show ¬ y3_5.toInt = w1.toInt by omega)).mp (hz3_1.mp h9); rw [fP_no (by omega)] at h7; have h6 := Ch_nd fP_9 h7; omega); (· omega)))⟩, hI, fr_w hfi (by decide +kernel), fr_w hfc (by decide +kernel)⟩
            · have f6 := (ti_eq (a := f.toInt) (b := 3) rfl (by decide +kernel)).mp c6
              refine lv_aload_n hx hb dX12_isPlaceBarred_86 rfl (lv_at hl 2 rfl) ?_
              refine lv_bipush (v := 6) hx hb dX12_isPlaceBarred_87 (by decide +kernel) ?_
              refine lv_iload_n hx hb dX12_isPlaceBarred_89 rfl (lv_at hl 4 rfl) ?_
              refine lv_iconst (v := 4) hx hb dX12_isPlaceBarred_90 (by decide +kernel) ?_
              refine lv_iconst (v := 0) hx hb dX12_isPlaceBarred_91 (by decide +kernel) ?_
              have rb8_i3 : 0 ≤ (i3 8).toInt ∧ (i3 8).toInt ≤ 200 := hI.1 8
              have re8_i3 : (i3 8).toInt = (i 8).toInt := congrArg Int32.toInt (hfi 8 (by decide +kernel))
              refine ro_calli (va_runV (As := [.int 6, .int w1, .int 4, .int 0]) (rest := []) ⟨hx, hb, hml, hown, hts⟩ (s_X12_saidSo_e l D H.size o a t (upd i3 15 0) q3 c3 d3 6 w1 4 0 hI ) (cwV 4 hts gm_X12_isPlaceBarred_X12_saidSo rfl rfl rfl (by decide +kernel) ⟨Nat.le_of_ble_eq_true rfl, Nat.le_of_ble_eq_true rfl⟩) (pA_V hK hP (ci := 12) (q0 := 0) rfl rfl) rfl rfl hl.1 rfl (lv_room (Nat.le_of_ble_eq_true rfl)) dX12_isPlaceBarred_92 ⟨Nat.le_of_ble_eq_true rfl, Nat.le_of_ble_eq_true rfl⟩) hS hA hP (fun r7 u7 H locs hw7 hP hS => ?_)
              have hw7 : ((r7.toInt = -9 ∨ (0 ≤ r7.toInt ∧ r7.toInt ≤ 199)) ∧ (r7.toInt = fsF (sE (c3 9) (c3 10) (c3 11) (c3 12) (c3 13) 6 w1.toInt 4 0) ((upd i3 15 0) 8).toInt.toNat)) := hw7
              obtain ⟨hw7, hr7_0⟩ := hw7
              have hr7_0 : r7.toInt = fsF (sE (c 9) (c 10) (c 11) (c 12) (c 13) 6 w1.toInt 4 0) (i 8).toInt.toNat := by have h9 := hr7_0; rw [show c3 9 = c 9 from hfc 9 (by decide +kernel), show c3 10 = c 10 from hfc 10 (by decide +kernel), show c3 11 = c 11 from hfc 11 (by decide +kernel), show c3 12 = c 12 from hfc 12 (by decide +kernel), show c3 13 = c 13 from hfc 13 (by decide +kernel), show (upd i3 15 0) 8 = i 8 from hfi 8 (by decide +kernel)] at h9; exact h9
              refine lv_goto (tgt := 100) hx hb dX12_isPlaceBarred_95 (by decide +kernel) ?_
              refine lv_istore (lv' := [(6, .int r7), (5, .int y3_5), (4, .int r1), (0, .ref o), (1, .int f), (2, .int w1), (3, .int w2)]) hx hb dX12_isPlaceBarred_100 hl (by decide +kernel) rfl (fun ls hl => ?_)
              refine lv_iload hx hb dX12_isPlaceBarred_102 (lv_at hl 0 rfl) ?_
              refine lv_bipush (v := (-9)) hx hb dX12_isPlaceBarred_104 (by decide +kernel) ?_
              refine lv_icmp_eq (tgt := 115) hx hb dX12_isPlaceBarred_106 (by decide +kernel) (fun c8 => ?_) (fun c8 => ?_)
              · have f8 := (ti_eq (a := r7.toInt) (b := (-9)) rfl (by decide +kernel)).mp c8
                refine lv_iload hx hb dX12_isPlaceBarred_115 (lv_at hl 0 rfl) ?_
                refine lv_bipush (v := (-9)) hx hb dX12_isPlaceBarred_117 (by decide +kernel) ?_
                refine lv_icmp_eq (tgt := 126) hx hb dX12_isPlaceBarred_119 (by decide +kernel) (fun c9 => ?_) (fun c9 => ?_)
                · have f9 := (ti_eq (a := r7.toInt) (b := (-9)) rfl (by decide +kernel)).mp c9
                  refine lv_iconst (v := 0) hx hb dX12_isPlaceBarred_126 (by decide +kernel) ?_
                  exact rw_zret ((upd i3 15 0), q3, c3, d3) hx hb hr hlocks hS (hK.sub (tys' := []) [] rfl) hP hD rfl dX12_isPlaceBarred_127 ⟨⟨(show 0 ≤ (0 : Int32).toInt ∧ (0 : Int32).toInt ≤ 1 from by decide +kernel), (show Sm (0 : Int32) (PbM (c 9) (c 10) (c 11) (c 12) (c 13) (i 8).toInt f.toInt w1.toInt w2.toInt) from by first | (exfalso; omega; done) | exact sm_0 (fun h9 => by rcases h9 with h9 | h9 | h9; (· omega); (· have h7 := (Ch_nx (f := fP (c 9) (c 10) (c 11) (c 13) (i 8).toInt) (show ¬ y3_5.toInt = w1.toInt by omega)).mp (hz3_1.mp h9); rw [fP_no (by omega)] at h7; have h6 := Ch_nd fP_9 h7; omega); (· omega)))⟩, hI, fr_w hfi (by decide +kernel), fr_w hfc (by decide +kernel)⟩
                · have f9 := mt (ti_eq (a := r7.toInt) (b := (-9)) rfl (by decide +kernel)).mpr c9
                  refine lv_iconst (v := 1) hx hb dX12_isPlaceBarred_122 (by decide +kernel) ?_
                  refine lv_goto (tgt := 127) hx hb dX12_isPlaceBarred_123 (by decide +kernel) ?_
                  exact rw_zret ((upd i3 15 0), q3, c3, d3) hx hb hr hlocks hS (hK.sub (tys' := []) [] rfl) hP hD rfl dX12_isPlaceBarred_127 ⟨⟨(show 0 ≤ (1 : Int32).toInt ∧ (1 : Int32).toInt ≤ 1 from by decide +kernel), (show Sm (1 : Int32) (PbM (c 9) (c 10) (c 11) (c 12) (c 13) (i 8).toInt f.toInt w1.toInt w2.toInt) from by first | (exfalso; omega; done) | exact sm_1 (Or.inr (Or.inr ⟨by omega, by omega⟩)))⟩, hI, fr_w hfi (by decide +kernel), fr_w hfc (by decide +kernel)⟩
              · have f8 := mt (ti_eq (a := r7.toInt) (b := (-9)) rfl (by decide +kernel)).mpr c8
                refine lv_aload_n hx hb dX12_isPlaceBarred_109 rfl (lv_at hl 3 rfl) ?_
                refine lv_iload hx hb dX12_isPlaceBarred_110 (lv_at hl 0 rfl) ?_
                refine al_callv (va_runV (As := [.int r7]) (rest := []) ⟨hx, hb, hml, hown, hts⟩ (s_X12_clashes l D H.size o a t (upd i3 15 0) q3 c3 d3 r7 hI (show 0 ≤ r7.toInt ∧ r7.toInt ≤ 199 from by have h60 : (0 : Int32).toInt = 0 := (by decide +kernel); omega) (show (0 : Int32).toInt ≤ 199 from by decide +kernel)) (cwV 1 hts gm_X12_isPlaceBarred_X12_clashes rfl rfl rfl (by decide +kernel) ⟨Nat.le_of_ble_eq_true rfl, Nat.le_of_ble_eq_true rfl⟩) (pB_V hK hP hD (ci := 12) (q0 := 0) rfl rfl) rfl rfl hl.1 rfl (lv_room (Nat.le_of_ble_eq_true rfl)) dX12_isPlaceBarred_112 ⟨Nat.le_of_ble_eq_true rfl, Nat.le_of_ble_eq_true rfl⟩) hS hA hP hD (fun u10 H locs hw10 hP hD hS => ?_)
                obtain ⟨i10, q10, c10, d10⟩ := u10
                have hw10 : True ∧ mInv i10 c10 ∧ (∀ k, k ∉ ([15] : List Nat) → i10 k = (upd i3 15 0) k) ∧ (∀ k, k ∉ ([14] : List Nat) → c10 k = c3 k) ∧ ((i10 15).toInt = ((upd i3 15 0) 15).toInt + 1) := hw10
                obtain ⟨hw10, hI, hei10, hec10, hxp10_0⟩ := hw10
                have hxp10_0 : (i10 15).toInt = ((upd i3 15 0) 15).toInt + 1 := hxp10_0
                have hfi : ∀ k, k ∉ ([15] : List Nat) → i10 k = i k := fr_z hfi hei10 (by decide +kernel) (by decide +kernel)
                have hfc : ∀ k, k ∉ ([14] : List Nat) → c10 k = c k := fr_z hfc hec10 (by decide +kernel) (by decide +kernel)
                have hP : va_P D vwCl (mW o a t i10 q10 c10 d10) H := hP
                have hD : va_D A (mW o a t i10 q10 c10 d10) := hD
                refine lv_iload hx hb dX12_isPlaceBarred_115 (lv_at hl 0 rfl) ?_
                refine lv_bipush (v := (-9)) hx hb dX12_isPlaceBarred_117 (by decide +kernel) ?_
                refine lv_icmp_eq (tgt := 126) hx hb dX12_isPlaceBarred_119 (by decide +kernel) (fun c11 => ?_) (fun c11 => ?_)
                · have f11 := (ti_eq (a := r7.toInt) (b := (-9)) rfl (by decide +kernel)).mp c11
                  refine lv_iconst (v := 0) hx hb dX12_isPlaceBarred_126 (by decide +kernel) ?_
                  exact rw_zret (i10, q10, c10, d10) hx hb hr hlocks hS (hK.sub (tys' := []) [] rfl) hP hD rfl dX12_isPlaceBarred_127 ⟨⟨(show 0 ≤ (0 : Int32).toInt ∧ (0 : Int32).toInt ≤ 1 from by decide +kernel), (show Sm (0 : Int32) (PbM (c 9) (c 10) (c 11) (c 12) (c 13) (i 8).toInt f.toInt w1.toInt w2.toInt) from by first | (exfalso; omega; done) | exact sm_0 (fun h9 => by rcases h9 with h9 | h9 | h9; (· omega); (· have h7 := (Ch_nx (f := fP (c 9) (c 10) (c 11) (c 13) (i 8).toInt) (show ¬ y3_5.toInt = w1.toInt by omega)).mp (hz3_1.mp h9); rw [fP_no (by omega)] at h7; have h6 := Ch_nd fP_9 h7; omega); (· omega)))⟩, hI, fr_w hfi (by decide +kernel), fr_w hfc (by decide +kernel)⟩
                · have f11 := mt (ti_eq (a := r7.toInt) (b := (-9)) rfl (by decide +kernel)).mpr c11
                  refine lv_iconst (v := 1) hx hb dX12_isPlaceBarred_122 (by decide +kernel) ?_
                  refine lv_goto (tgt := 127) hx hb dX12_isPlaceBarred_123 (by decide +kernel) ?_
                  exact rw_zret (i10, q10, c10, d10) hx hb hr hlocks hS (hK.sub (tys' := []) [] rfl) hP hD rfl dX12_isPlaceBarred_127 ⟨⟨(show 0 ≤ (1 : Int32).toInt ∧ (1 : Int32).toInt ≤ 1 from by decide +kernel), (show Sm (1 : Int32) (PbM (c 9) (c 10) (c 11) (c 12) (c 13) (i 8).toInt f.toInt w1.toInt w2.toInt) from by first | (exfalso; omega; done) | exact sm_1 (Or.inr (Or.inr ⟨by omega, by omega⟩)))⟩, hI, fr_w hfi (by decide +kernel), fr_w hfc (by decide +kernel)⟩
          · have f5 := (ti_eq (a := y3_5.toInt) (b := w1.toInt) rfl rfl).mp c5
            refine lv_iconst (v := 1) hx hb dX12_isPlaceBarred_74 (by decide +kernel) ?_
            exact rw_zret (i3, q3, c3, d3) hx hb hr hlocks hS (hK.sub (tys' := []) [] rfl) hP hD rfl dX12_isPlaceBarred_75 ⟨⟨(show 0 ≤ (1 : Int32).toInt ∧ (1 : Int32).toInt ≤ 1 from by decide +kernel), (show Sm (1 : Int32) (PbM (c 9) (c 10) (c 11) (c 12) (c 13) (i 8).toInt f.toInt w1.toInt w2.toInt) from sm_1 (Or.inr (Or.inl (hz3_1.mpr (by rw [show y3_5.toInt = w1.toInt by omega]; exact Ch_rf)))))⟩, hI, fr_w hfi (by decide +kernel), fr_w hfc (by decide +kernel)⟩
        refine lv_icmp_eq (tgt := 68) hx hb dX12_isPlaceBarred_28 (by decide +kernel) (fun c12 => ?_) (fun c12 => ?_)
        · have f12 := (ti_eq (a := y3_5.toInt) (b := w1.toInt) rfl rfl).mp c12
          exact jn4   (show y3_5.toInt = w1.toInt ∨ pL (c 9) (c 10) (c 13) (i 8).toInt y3_5.toInt = -9 from by omega) _ _ _ hP hD hS (lv_sub hl [0, 1, 2, 3, 4, 5] rfl)
        · have f12 := mt (ti_eq (a := y3_5.toInt) (b := w1.toInt) rfl rfl).mpr c12
          refine lv_aload_n hx hb dX12_isPlaceBarred_31 rfl (lv_at hl 2 rfl) ?_
          refine lv_iload hx hb dX12_isPlaceBarred_32 (lv_at hl 0 rfl) ?_
          have rb8_i3 : 0 ≤ (i3 8).toInt ∧ (i3 8).toInt ≤ 200 := hI.1 8
          have re8_i3 : (i3 8).toInt = (i 8).toInt := congrArg Int32.toInt (hfi 8 (by decide +kernel))
          refine ro_calli (va_runV (As := [.int y3_5]) (rest := []) ⟨hx, hb, hml, hown, hts⟩ (s_X12_placing l D H.size o a t i3 q3 c3 d3 y3_5 hI ) (cwV 1 hts gm_X12_isPlaceBarred_X12_placing rfl rfl rfl (by decide +kernel) ⟨Nat.le_of_ble_eq_true rfl, Nat.le_of_ble_eq_true rfl⟩) (pA_V hK hP (ci := 12) (q0 := 0) rfl rfl) rfl rfl hl.1 rfl (lv_room (Nat.le_of_ble_eq_true rfl)) dX12_isPlaceBarred_34 ⟨Nat.le_of_ble_eq_true rfl, Nat.le_of_ble_eq_true rfl⟩) hS hA hP (fun r13 u13 H locs hw13 hP hS => ?_)
          have hw13 : ((r13.toInt = -9 ∨ (0 ≤ r13.toInt ∧ r13.toInt ≤ 199)) ∧ (r13.toInt = pL (c3 9) (c3 10) (c3 13) (i3 8).toInt y3_5.toInt)) := hw13
          obtain ⟨hw13, hr13_0⟩ := hw13
          have hr13_0 : r13.toInt = pL (c 9) (c 10) (c 13) (i 8).toInt y3_5.toInt := by have h9 := hr13_0; rw [show c3 9 = c 9 from hfc 9 (by decide +kernel), show c3 10 = c 10 from hfc 10 (by decide +kernel), show c3 13 = c 13 from hfc 13 (by decide +kernel), show i3 8 = i 8 from hfi 8 (by decide +kernel)] at h9; exact h9
          refine lv_bipush (v := (-9)) hx hb dX12_isPlaceBarred_37 (by decide +kernel) ?_
          refine lv_icmp_eq (tgt := 68) hx hb dX12_isPlaceBarred_39 (by decide +kernel) (fun c14 => ?_) (fun c14 => ?_)
          · have f14 := (ti_eq (a := r13.toInt) (b := (-9)) rfl (by decide +kernel)).mp c14
            exact jn4   (show y3_5.toInt = w1.toInt ∨ pL (c 9) (c 10) (c 13) (i 8).toInt y3_5.toInt = -9 from by omega) _ _ _ hP hD hS (lv_sub hl [0, 1, 2, 3, 4, 5] rfl)
          · have f14 := mt (ti_eq (a := r13.toInt) (b := (-9)) rfl (by decide +kernel)).mpr c14
            refine lv_aload_n hx hb dX12_isPlaceBarred_42 rfl (lv_at hl 2 rfl) ?_
            refine lv_aload_n hx hb dX12_isPlaceBarred_43 rfl (lv_at hl 2 rfl) ?_
            refine lv_iload hx hb dX12_isPlaceBarred_44 (lv_at hl 0 rfl) ?_
            refine ro_calli (va_runV (As := [.int y3_5]) (rest := [.ref o]) ⟨hx, hb, hml, hown, hts⟩ (s_X12_placing l D H.size o a t i3 q3 c3 d3 y3_5 hI ) (cwV 1 hts gm_X12_isPlaceBarred_X12_placing rfl rfl rfl (by decide +kernel) ⟨Nat.le_of_ble_eq_true rfl, Nat.le_of_ble_eq_true rfl⟩) (pA_V hK hP (ci := 12) (q0 := 0) rfl rfl) rfl rfl hl.1 rfl (lv_room (Nat.le_of_ble_eq_true rfl)) dX12_isPlaceBarred_46 ⟨Nat.le_of_ble_eq_true rfl, Nat.le_of_ble_eq_true rfl⟩) hS hA hP (fun r15 u15 H locs hw15 hP hS => ?_)
            have hw15 : ((r15.toInt = -9 ∨ (0 ≤ r15.toInt ∧ r15.toInt ≤ 199)) ∧ (r15.toInt = pL (c3 9) (c3 10) (c3 13) (i3 8).toInt y3_5.toInt)) := hw15
            obtain ⟨hw15, hr15_0⟩ := hw15
            have hr15_0 : r15.toInt = pL (c 9) (c 10) (c 13) (i 8).toInt y3_5.toInt := by have h9 := hr15_0; rw [show c3 9 = c 9 from hfc 9 (by decide +kernel), show c3 10 = c 10 from hfc 10 (by decide +kernel), show c3 13 = c 13 from hfc 13 (by decide +kernel), show i3 8 = i 8 from hfi 8 (by decide +kernel)] at h9; exact h9
            have rb15_i3 : 0 ≤ (i3 15).toInt ∧ (i3 15).toInt ≤ 200 := hI.1 15
            refine al_callv (va_runV (As := [.int r15]) (rest := []) ⟨hx, hb, hml, hown, hts⟩ (s_X12_clashes l D H.size o a t i3 q3 c3 d3 r15 hI (show 0 ≤ r15.toInt ∧ r15.toInt ≤ 199 from by omega) (show ((i3 15) : Int32).toInt ≤ 199 from by omega)) (cwV 1 hts gm_X12_isPlaceBarred_X12_clashes rfl rfl rfl (by decide +kernel) ⟨Nat.le_of_ble_eq_true rfl, Nat.le_of_ble_eq_true rfl⟩) (pB_V hK hP hD (ci := 12) (q0 := 0) rfl rfl) rfl rfl hl.1 rfl (lv_room (Nat.le_of_ble_eq_true rfl)) dX12_isPlaceBarred_49 ⟨Nat.le_of_ble_eq_true rfl, Nat.le_of_ble_eq_true rfl⟩) hS hA hP hD (fun u16 H locs hw16 hP hD hS => ?_)
            obtain ⟨i16, q16, c16, d16⟩ := u16
            have hw16 : True ∧ mInv i16 c16 ∧ (∀ k, k ∉ ([15] : List Nat) → i16 k = i3 k) ∧ (∀ k, k ∉ ([14] : List Nat) → c16 k = c3 k) ∧ ((i16 15).toInt = (i3 15).toInt + 1) := hw16
            obtain ⟨hw16, hI, hei16, hec16, hxp16_0⟩ := hw16
            have hxp16_0 : (i16 15).toInt = (i3 15).toInt + 1 := hxp16_0
            have hfi : ∀ k, k ∉ ([15] : List Nat) → i16 k = i k := fr_z hfi hei16 (by decide +kernel) (by decide +kernel)
            have hfc : ∀ k, k ∉ ([14] : List Nat) → c16 k = c k := fr_z hfc hec16 (by decide +kernel) (by decide +kernel)
            have hP : va_P D vwCl (mW o a t i16 q16 c16 d16) H := hP
            have hD : va_D A (mW o a t i16 q16 c16 d16) := hD
            refine lv_aload_n hx hb dX12_isPlaceBarred_52 rfl (lv_at hl 2 rfl) ?_
            refine mget_11 hx hb hts (fun _ h => List.mem_cons_of_mem _ (List.mem_append_right _ h)) hown hK hP (hts (.fieldLink RX12 31 "TalePlayModel" "middle" "[I") (List.mem_cons_of_mem _ (List.mem_append_left _ (List.mem_append_right _ (List.mem_of_getElem? (i := 3) rfl))))) dX12_isPlaceBarred_53 ?_
            refine lv_aload_n hx hb dX12_isPlaceBarred_56 rfl (lv_at hl 2 rfl) ?_
            refine lv_iload hx hb dX12_isPlaceBarred_57 (lv_at hl 0 rfl) ?_
            have rb8_i16 : 0 ≤ (i16 8).toInt ∧ (i16 8).toInt ≤ 200 := hI.1 8
            have re8_i16 : (i16 8).toInt = (i 8).toInt := congrArg Int32.toInt (hfi 8 (by decide +kernel))
            refine ro_calli (va_runV (As := [.int y3_5]) (rest := [.ref (a 11)]) ⟨hx, hb, hml, hown, hts⟩ (s_X12_placing l D H.size o a t i16 q16 c16 d16 y3_5 hI ) (cwV 1 hts gm_X12_isPlaceBarred_X12_placing rfl rfl rfl (by decide +kernel) ⟨Nat.le_of_ble_eq_true rfl, Nat.le_of_ble_eq_true rfl⟩) (pA_V hK hP (ci := 12) (q0 := 0) rfl rfl) rfl rfl hl.1 rfl (lv_room (Nat.le_of_ble_eq_true rfl)) dX12_isPlaceBarred_59 ⟨Nat.le_of_ble_eq_true rfl, Nat.le_of_ble_eq_true rfl⟩) hS hA hP (fun r17 u17 H locs hw17 hP hS => ?_)
            have hw17 : ((r17.toInt = -9 ∨ (0 ≤ r17.toInt ∧ r17.toInt ≤ 199)) ∧ (r17.toInt = pL (c16 9) (c16 10) (c16 13) (i16 8).toInt y3_5.toInt)) := hw17
            obtain ⟨hw17, hr17_0⟩ := hw17
            have hr17_0 : r17.toInt = pL (c 9) (c 10) (c 13) (i 8).toInt y3_5.toInt := by have h9 := hr17_0; rw [show c16 9 = c 9 from hfc 9 (by decide +kernel), show c16 10 = c 10 from hfc 10 (by decide +kernel), show c16 13 = c 13 from hfc 13 (by decide +kernel), show i16 8 = i 8 from hfi 8 (by decide +kernel)] at h9; exact h9
            refine mld_11 hx hb hK hP (vp_in_iff.mpr (by have h9 : r17.toInt = r17.toInt := rfl; omega)) dX12_isPlaceBarred_62 (fun x18 ex18 => ?_)
            have rx18 : 0 ≤ x18.toInt ∧ x18.toInt ≤ 29 := by rw [ex18]; exact hI.2 11 _
            have gx18 : (c 11 (r17 : Int32).toNatClampNeg).toInt = x18.toInt := by rw [ex18, show c16 11 = c 11 from hfc 11 (by decide +kernel)]
            refine lv_istore (lv' := [(5, .int x18), (4, .int r1), (0, .ref o), (1, .int f), (2, .int w1), (3, .int w2)]) hx hb dX12_isPlaceBarred_63 hl (by decide +kernel) rfl (fun ls hl => ?_)
            have hfx : fP (c 9) (c 10) (c 11) (c 13) (i 8).toInt y3_5.toInt = x18.toInt := fP_at (by omega) hr17_0 (by omega) gx18
            have hrx := hrk.2 y3_5.toInt (by omega) (by omega) (by rw [hfx]; omega)
            rw [hfx] at hrx
            refine lv_goto (tgt := 25) hx hb dX12_isPlaceBarred_65 (by decide +kernel) ?_
            exact ih3 i16 q16 c16 d16 x18 hI (fr_w hfi (by decide +kernel)) (fr_w hfc (by decide +kernel)) (show 0 ≤ x18.toInt ∧ x18.toInt ≤ 29 from by omega) (show ((i16 15) : Int32).toInt + (rk x18.toInt : Int) ≤ 29 from by omega) (show Ch (fP (c 9) (c 10) (c 11) (c 13) (i 8).toInt) w2.toInt w1.toInt ↔ Ch (fP (c 9) (c 10) (c 11) (c 13) (i 8).toInt) x18.toInt w1.toInt from hz3_1.trans (by rw [Ch_nx (f := fP (c 9) (c 10) (c 11) (c 13) (i 8).toInt) (x := y3_5.toInt) (by omega), hfx])) (by omega) _ _ _ hP hD hS (lv_sub hl [0, 1, 2, 3, 4, 5] rfl)
    exact lp3 _ i q c d w2 hI (fr_w hfi (by decide +kernel)) (fr_w hfc (by decide +kernel)) (show 0 ≤ w2.toInt ∧ w2.toInt ≤ 29 from by omega) (show ((i 15) : Int32).toInt + (rk w2.toInt : Int) ≤ 29 from by omega) (show Ch (fP (c 9) (c 10) (c 11) (c 13) (i 8).toInt) w2.toInt w1.toInt ↔ Ch (fP (c 9) (c 10) (c 11) (c 13) (i 8).toInt) w2.toInt w1.toInt from Iff.rfl) (Nat.lt_succ_self _) _ _ _ hP hD hS (lv_sub hl [0, 1, 2, 3, 4, 5] rfl)
  · have f2 := mt (ti_eq (a := r1.toInt) (b := (-9)) rfl (by decide +kernel)).mpr c2
    refine lv_aload_n hx hb dX12_isPlaceBarred_14 rfl (lv_at hl 1 rfl) ?_
    refine lv_iload hx hb dX12_isPlaceBarred_15 (lv_at hl 0 rfl) ?_
    have rb15_i : 0 ≤ (i 15).toInt ∧ (i 15).toInt ≤ 200 := hI.1 15
    refine al_callv (va_runV (As := [.int r1]) (rest := []) ⟨hx, hb, hml, hown, hts⟩ (s_X12_clashes l D H.size o a t i q c d r1 hI (show 0 ≤ r1.toInt ∧ r1.toInt ≤ 199 from by omega) (show ((i 15) : Int32).toInt ≤ 199 from by omega)) (cwV 1 hts gm_X12_isPlaceBarred_X12_clashes rfl rfl rfl (by decide +kernel) ⟨Nat.le_of_ble_eq_true rfl, Nat.le_of_ble_eq_true rfl⟩) (pB_V hK hP hD (ci := 12) (q0 := 0) rfl rfl) rfl rfl hl.1 rfl (lv_room (Nat.le_of_ble_eq_true rfl)) dX12_isPlaceBarred_17 ⟨Nat.le_of_ble_eq_true rfl, Nat.le_of_ble_eq_true rfl⟩) hS hA hP hD (fun u19 H locs hw19 hP hD hS => ?_)
    obtain ⟨i19, q19, c19, d19⟩ := u19
    have hw19 : True ∧ mInv i19 c19 ∧ (∀ k, k ∉ ([15] : List Nat) → i19 k = i k) ∧ (∀ k, k ∉ ([14] : List Nat) → c19 k = c k) ∧ ((i19 15).toInt = (i 15).toInt + 1) := hw19
    obtain ⟨hw19, hI, hei19, hec19, hxp19_0⟩ := hw19
    have hxp19_0 : (i19 15).toInt = (i 15).toInt + 1 := hxp19_0
    have hfi : ∀ k, k ∉ ([15] : List Nat) → i19 k = i k := fr_z hfi hei19 (by decide +kernel) (by decide +kernel)
    have hfc : ∀ k, k ∉ ([14] : List Nat) → c19 k = c k := fr_z hfc hec19 (by decide +kernel) (by decide +kernel)
    have hP : va_P D vwCl (mW o a t i19 q19 c19 d19) H := hP
    have hD : va_D A (mW o a t i19 q19 c19 d19) := hD
    refine lv_iconst (v := 1) hx hb dX12_isPlaceBarred_20 (by decide +kernel) ?_
    exact rw_zret (i19, q19, c19, d19) hx hb hr hlocks hS (hK.sub (tys' := []) [] rfl) hP hD rfl dX12_isPlaceBarred_21 ⟨⟨(show 0 ≤ (1 : Int32).toInt ∧ (1 : Int32).toInt ≤ 1 from by decide +kernel), (show Sm (1 : Int32) (PbM (c 9) (c 10) (c 11) (c 12) (c 13) (i 8).toInt f.toInt w1.toInt w2.toInt) from sm_1 (Or.inl (by omega)))⟩, hI, fr_w hfi (by decide +kernel), fr_w hfc (by decide +kernel)⟩

set_option maxHeartbeats 4000000 in
set_option maxRecDepth 100000 in
theorem s_X12_isExitBarred_e (l : Launch) (D : va_G) (sz : Nat) (o : Nat) (a : Nat → Nat) (t : Nat → ClassId) (i : Nat → Int32) (q : Int64) (c : Nat → Nat → Int32) (d : Nat → Nat → Int64) (w1 : Int32) (w2 : Int32) (w3 : Int32) (hI : mInv i c) (hw1 : 0 ≤ w1.toInt ∧ w1.toInt ≤ 29) (hw2 : 0 ≤ w2.toInt ∧ w2.toInt ≤ 29) (hrm : (i 15).toInt = 0) : Met l yX12_isExitBarred wm_X12_isExitBarred ({ frames := 1, cells := 0, slots := 0, locals := 23 }) (va_Pc [.ref o, .int w1, .int w2, .int w3] (pB D sz (mW o a t i q c d) (mT t))) (va_Qi (fun (r : Int32) (u : MS) => ((0 ≤ r.toInt ∧ r.toInt ≤ 1) ∧ (Sm r (XbM (c 9) (c 10) (c 11) (c 12) (c 13) (i 8).toInt (kS (c 3) (c 6) w2.toInt) w1.toInt w2.toInt w3.toInt))) ∧ mInv u.1 u.2.2.1 ∧ (∀ k, k ∉ ([15] : List Nat) → u.1 k = i k) ∧ (∀ k, k ∉ ([14] : List Nat) → u.2.2.1 k = c k)) (oC D (va_A (mW o a t i q c d) sz) (fun u : MS => mW o a t u.1 u.2.1 u.2.2.1 u.2.2.2) (fun _ => [])) (va_A (mW o a t i q c d) sz)) 0 0 (va_A (mW o a t i q c d) sz) := by
  refine Met.ofW (cc := cX12_isExitBarred) (maxL := 5) (ret := (some .boolean)) (by decide +kernel) rfl ?_
  intro p e s m args below meth cd s₁ B hml hv
  obtain ⟨rfl, hsz, hP, hK, hD0⟩ := hv
  have hx := B.exec
  have hb := B.bytes
  have hr := B.returns
  have hts := atoms_spec (ws := wm_X12_isExitBarred) B.pre
  have hown : s.vm.findClass RX12 = some m.cls := findClass_of_methodNamed B.named
  have hlocks := B.notSynchronized
  subst hsz
  have hD := hD0.self (sz := s.heap.size)
  generalize hAe : va_A (mW o a t i q c d) s.heap.size = A at hD ⊢
  have hA : ∀ q : Nat, s.heap.size ≤ q → A q := fun q h => by rw [← hAe]; exact Or.inr h
  have hS : va_S A s.heap s.heap [] := va_S.rf
  have hfi : ∀ k, k ∉ ([] : List Nat) → i k = i k := fun _ _ => rfl
  have hfc : ∀ k, k ∉ ([] : List Nat) → c k = c k := fun _ _ => rfl
  have hl := lv_entry ([.ref o, .int w1, .int w2, .int w3]) (n := 5) (Nat.le_of_ble_eq_true rfl)
  rw [lg_entry_eq]
  generalize (lg_sl ([.ref o, .int w1, .int w2, .int w3]) ++ List.replicate (5 - (lg_sl ([.ref o, .int w1, .int w2, .int w3])).length) Slot.unset).toArray = ls at hl ⊢
  have hl : lv_has ls 5 [(0, .ref o), (1, .int w1), (2, .int w2), (3, .int w3)] := hl
  have rb8_i : 0 ≤ (i 8).toInt ∧ (i 8).toInt ≤ 200 := hI.1 8
  have rb15_i : 0 ≤ (i 15).toInt ∧ (i 15).toInt ≤ 200 := hI.1 15
  refine lv_iconst (v := 0) hx hb dX12_isExitBarred_0 (by decide +kernel) ?_
  refine lv_istore (lv' := [(4, .int 0), (0, .ref o), (1, .int w1), (2, .int w2), (3, .int w3)]) hx hb dX12_isExitBarred_1 hl (by decide +kernel) rfl (fun ls hl => ?_)
  have lp1 : ∀ (fu : Nat) (y1_4 : Int32), (0 ≤ y1_4.toInt ∧ y1_4.toInt ≤ 200 ∧ y1_4.toInt ≤ (i 8).toInt) → (((i 15) : Int32).toInt = 0) → (∀ s : Nat, (s : Int) < y1_4.toInt → ¬ bP (c 9) (c 10) (c 12) (c 13) w1.toInt w3.toInt s) → (200 - y1_4.toInt).toNat < fu → ∀ (H : Heap) (locs : List Loc) (ls : Array Slot), va_P D vwCl (mW o a t i q c d) H → va_D A (mW o a t i q c d) → va_S A s.heap H locs → lv_has ls 5 [(4, .int y1_4), (0, .ref o), (1, .int w1), (2, .int w2), (3, .int w3)] → W p l e (headSpec wm_X12_isExitBarred ({ frames := 1, cells := 0, slots := 0, locals := 23 })).room s m ([.ref o, .int w1, .int w2, .int w3] : List Value).toArray below meth cd H locs 0 0 (MQ below (va_Qi (fun (r : Int32) (u : MS) => ((0 ≤ r.toInt ∧ r.toInt ≤ 1) ∧ (Sm r (XbM (c 9) (c 10) (c 11) (c 12) (c 13) (i 8).toInt (kS (c 3) (c 6) w2.toInt) w1.toInt w2.toInt w3.toInt))) ∧ mInv u.1 u.2.2.1 ∧ (∀ k, k ∉ ([15] : List Nat) → u.1 k = i k) ∧ (∀ k, k ∉ ([14] : List Nat) → u.2.2.1 k = c k)) (oC D A (fun u : MS => mW o a t u.1 u.2.1 u.2.2.1 u.2.2.2) (fun _ => [])) A) ([.ref o, .int w1, .int w2, .int w3] : List Value).toArray s 0 0 A) (F0 m 3 ls []) := by
    intro fu
    induction fu with
    | zero => intro y1_4 hy1_4 hz1_0 hz1_1 hm; exact absurd hm (Nat.not_lt_zero _)
    | succ fu ih =>
      intro y1_4 hy1_4 hz1_0 hz1_1 hm H locs ls hP hD hS hl
      have ih1 := ih
      refine lv_iload hx hb dX12_isExitBarred_3 (lv_at hl 0 rfl) ?_
      refine lv_aload_n hx hb dX12_isExitBarred_5 rfl (lv_at hl 1 rfl) ?_
      refine mget_8 (v := (i 8)) rfl hx hb hts (fun _ h => List.mem_cons_of_mem _ (List.mem_append_right _ h)) hown hK hP (hts (.fieldLink RX12 202 "TalePlayModel" "sentences" "I") (List.mem_cons_of_mem _ (List.mem_append_left _ (List.mem_append_left _ (List.mem_of_getElem? (i := 0) rfl))))) dX12_isExitBarred_6 ?_
      refine lv_icmp_ge (tgt := 69) hx hb dX12_isExitBarred_9 (by decide +kernel) (fun c2 => ?_) (fun c2 => ?_)
      · have f2 := (ti_le (a := (i 8).toInt) (b := y1_4.toInt) rfl rfl).mp c2
        refine lv_aload_n hx hb dX12_isExitBarred_69 rfl (lv_at hl 1 rfl) ?_
        refine lv_iload_n hx hb dX12_isExitBarred_70 rfl (lv_at hl 3 rfl) ?_
        refine lv_iconst (v := 2) hx hb dX12_isExitBarred_71 (by decide +kernel) ?_
        refine ro_calli (va_runV (As := [.int w2, .int 2]) (rest := []) ⟨hx, hb, hml, hown, hts⟩ (s_X12_isOf_e l D H.size o a t i q c d w2 2 hI (show 0 ≤ w2.toInt ∧ w2.toInt ≤ 29 from by have h91 : (2 : Int32).toInt = 2 := (by decide +kernel); omega) (show 0 ≤ 2 ∧ 2 ≤ 5 from by decide +kernel)) (cwV 2 hts gm_X12_isExitBarred_X12_isOf rfl rfl rfl (by decide +kernel) ⟨Nat.le_of_ble_eq_true rfl, Nat.le_of_ble_eq_true rfl⟩) (pA_V hK hP (ci := 12) (q0 := 0) rfl rfl) rfl rfl hl.1 rfl (lv_room (Nat.le_of_ble_eq_true rfl)) dX12_isExitBarred_72 ⟨Nat.le_of_ble_eq_true rfl, Nat.le_of_ble_eq_true rfl⟩) hS hA hP (fun r3 u3 H locs hw3 hP hS => ?_)
        have hw3 : ((0 ≤ r3.toInt ∧ r3.toInt ≤ 1) ∧ (0 ≤ kS (c 3) (c 6) w2.toInt ∧ kS (c 3) (c 6) w2.toInt ≤ 5 ∧ ((r3.toInt = 1 ∧ (kS (c 3) (c 6) w2.toInt = 2 ∨ ((1 : Int) = 2 ∧ 1 < kS (c 3) (c 6) w2.toInt))) ∨ (r3.toInt = 0 ∧ ¬ (kS (c 3) (c 6) w2.toInt = 2 ∨ ((1 : Int) = 2 ∧ 1 < kS (c 3) (c 6) w2.toInt)))))) := hw3
        obtain ⟨hw3, hr3_0⟩ := hw3
        have hr3_0 : 0 ≤ kS (c 3) (c 6) w2.toInt ∧ kS (c 3) (c 6) w2.toInt ≤ 5 ∧ ((r3.toInt = 1 ∧ (kS (c 3) (c 6) w2.toInt = 2 ∨ ((1 : Int) = 2 ∧ 1 < kS (c 3) (c 6) w2.toInt))) ∨ (r3.toInt = 0 ∧ ¬ (kS (c 3) (c 6) w2.toInt = 2 ∨ ((1 : Int) = 2 ∧ 1 < kS (c 3) (c 6) w2.toInt)))) := hr3_0
        refine lv_if_ne (tgt := 80) hx hb dX12_isExitBarred_75 (by decide +kernel) (fun c4 => ?_) (fun c4 => ?_)
        · have f4 := mt (ti_eq (a := r3.toInt) (b := 0) rfl (by decide +kernel)).mpr c4
          refine lv_iconst (v := 0) hx hb dX12_isExitBarred_80 (by decide +kernel) ?_
          refine lv_istore (lv' := [(4, .int 0), (0, .ref o), (1, .int w1), (2, .int w2), (3, .int w3)]) hx hb dX12_isExitBarred_81 hl (by decide +kernel) rfl (fun ls hl => ?_)
          have lp5 : ∀ (fu : Nat) (y5_4 : Int32), (0 ≤ y5_4.toInt ∧ y5_4.toInt ≤ 200 ∧ y5_4.toInt ≤ (i 8).toInt) → (((i 15) : Int32).toInt = 0) → (∀ s : Nat, (s : Int) < y5_4.toInt → ¬ aP (c 9) (c 10) (c 11) (c 13) w1.toInt w2.toInt s) → (200 - y5_4.toInt).toNat < fu → ∀ (H : Heap) (locs : List Loc) (ls : Array Slot), va_P D vwCl (mW o a t i q c d) H → va_D A (mW o a t i q c d) → va_S A s.heap H locs → lv_has ls 5 [(4, .int y5_4), (0, .ref o), (1, .int w1), (2, .int w2), (3, .int w3)] → W p l e (headSpec wm_X12_isExitBarred ({ frames := 1, cells := 0, slots := 0, locals := 23 })).room s m ([.ref o, .int w1, .int w2, .int w3] : List Value).toArray below meth cd H locs 0 0 (MQ below (va_Qi (fun (r : Int32) (u : MS) => ((0 ≤ r.toInt ∧ r.toInt ≤ 1) ∧ (Sm r (XbM (c 9) (c 10) (c 11) (c 12) (c 13) (i 8).toInt (kS (c 3) (c 6) w2.toInt) w1.toInt w2.toInt w3.toInt))) ∧ mInv u.1 u.2.2.1 ∧ (∀ k, k ∉ ([15] : List Nat) → u.1 k = i k) ∧ (∀ k, k ∉ ([14] : List Nat) → u.2.2.1 k = c k)) (oC D A (fun u : MS => mW o a t u.1 u.2.1 u.2.2.1 u.2.2.2) (fun _ => [])) A) ([.ref o, .int w1, .int w2, .int w3] : List Value).toArray s 0 0 A) (F0 m 83 ls []) := by
            intro fu
            induction fu with
            | zero => intro y5_4 hy5_4 hz5_0 hz5_1 hm; exact absurd hm (Nat.not_lt_zero _)
            | succ fu ih =>
              intro y5_4 hy5_4 hz5_0 hz5_1 hm H locs ls hP hD hS hl
              have ih5 := ih
              refine lv_iload hx hb dX12_isExitBarred_83 (lv_at hl 0 rfl) ?_
              refine lv_aload_n hx hb dX12_isExitBarred_85 rfl (lv_at hl 1 rfl) ?_
              refine mget_8 (v := (i 8)) rfl hx hb hts (fun _ h => List.mem_cons_of_mem _ (List.mem_append_right _ h)) hown hK hP (hts (.fieldLink RX12 202 "TalePlayModel" "sentences" "I") (List.mem_cons_of_mem _ (List.mem_append_left _ (List.mem_append_left _ (List.mem_of_getElem? (i := 0) rfl))))) dX12_isExitBarred_86 ?_
              refine lv_icmp_ge (tgt := 149) hx hb dX12_isExitBarred_89 (by decide +kernel) (fun c6 => ?_) (fun c6 => ?_)
              · have f6 := (ti_le (a := (i 8).toInt) (b := y5_4.toInt) rfl rfl).mp c6
                refine lv_iconst (v := 0) hx hb dX12_isExitBarred_149 (by decide +kernel) ?_
                refine lv_istore (lv' := [(4, .int 0), (0, .ref o), (1, .int w1), (2, .int w2), (3, .int w3)]) hx hb dX12_isExitBarred_150 hl (by decide +kernel) rfl (fun ls hl => ?_)
                have lp7 : ∀ (fu : Nat) (i7 : Nat → Int32) (q7 : Int64) (c7 : Nat → Nat → Int32) (d7 : Nat → Nat → Int64) (y7_4 : Int32), mInv i7 c7 → (∀ k, k ∉ ([15] : List Nat) → i7 k = i k) → (∀ k, k ∉ ([14] : List Nat) → c7 k = c k) → (0 ≤ y7_4.toInt ∧ y7_4.toInt ≤ 200 ∧ y7_4.toInt ≤ (i 8).toInt) → (((i7 15) : Int32).toInt ≤ y7_4.toInt) → (CN (EB (c 9) (c 11) (c 13) w2.toInt) y7_4.toInt ((i7 15) : Int32).toInt) → (200 - y7_4.toInt).toNat < fu → ∀ (H : Heap) (locs : List Loc) (ls : Array Slot), va_P D vwCl (mW o a t i7 q7 c7 d7) H → va_D A (mW o a t i7 q7 c7 d7) → va_S A s.heap H locs → lv_has ls 5 [(4, .int y7_4), (0, .ref o), (1, .int w1), (2, .int w2), (3, .int w3)] → W p l e (headSpec wm_X12_isExitBarred ({ frames := 1, cells := 0, slots := 0, locals := 23 })).room s m ([.ref o, .int w1, .int w2, .int w3] : List Value).toArray below meth cd H locs 0 0 (MQ below (va_Qi (fun (r : Int32) (u : MS) => ((0 ≤ r.toInt ∧ r.toInt ≤ 1) ∧ (Sm r (XbM (c 9) (c 10) (c 11) (c 12) (c 13) (i 8).toInt (kS (c 3) (c 6) w2.toInt) w1.toInt w2.toInt w3.toInt))) ∧ mInv u.1 u.2.2.1 ∧ (∀ k, k ∉ ([15] : List Nat) → u.1 k = i k) ∧ (∀ k, k ∉ ([14] : List Nat) → u.2.2.1 k = c k)) (oC D A (fun u : MS => mW o a t u.1 u.2.1 u.2.2.1 u.2.2.2) (fun _ => [])) A) ([.ref o, .int w1, .int w2, .int w3] : List Value).toArray s 0 0 A) (F0 m 152 ls []) := by
                  intro fu
                  induction fu with
                  | zero => intro i7 q7 c7 d7 y7_4 hI hfi hfc hy7_4 hz7_0 hz7_1 hm; exact absurd hm (Nat.not_lt_zero _)
                  | succ fu ih =>
                    intro i7 q7 c7 d7 y7_4 hI hfi hfc hy7_4 hz7_0 hz7_1 hm H locs ls hP hD hS hl
                    have ih7 := ih
                    refine lv_iload hx hb dX12_isExitBarred_152 (lv_at hl 0 rfl) ?_
                    refine lv_aload_n hx hb dX12_isExitBarred_154 rfl (lv_at hl 1 rfl) ?_
                    refine mget_8 (v := (i7 8)) rfl hx hb hts (fun _ h => List.mem_cons_of_mem _ (List.mem_append_right _ h)) hown hK hP (hts (.fieldLink RX12 202 "TalePlayModel" "sentences" "I") (List.mem_cons_of_mem _ (List.mem_append_left _ (List.mem_append_left _ (List.mem_of_getElem? (i := 0) rfl))))) dX12_isExitBarred_155 ?_
                    have rb8_i7 : 0 ≤ (i7 8).toInt ∧ (i7 8).toInt ≤ 200 := hI.1 8
                    have re8_i7 : (i7 8).toInt = (i 8).toInt := congrArg Int32.toInt (hfi 8 (by decide +kernel))
                    refine lv_icmp_ge (tgt := 205) hx hb dX12_isExitBarred_158 (by decide +kernel) (fun c8 => ?_) (fun c8 => ?_)
                    · have f8 := (ti_le (a := (i7 8).toInt) (b := y7_4.toInt) rfl rfl).mp c8
                      refine lv_aload_n hx hb dX12_isExitBarred_205 rfl (lv_at hl 1 rfl) ?_
                      refine mget_15 (v := (i7 15)) rfl hx hb hts (fun _ h => List.mem_cons_of_mem _ (List.mem_append_right _ h)) hown hK hP (hts (.fieldLink RX12 205 "TalePlayModel" "rowMany" "I") (List.mem_cons_of_mem _ (List.mem_append_left _ (List.mem_append_left _ (List.mem_of_getElem? (i := 8) rfl))))) dX12_isExitBarred_206 ?_
                      have rb15_i7 : 0 ≤ (i7 15).toInt ∧ (i7 15).toInt ≤ 200 := hI.1 15
                      refine lv_iconst (v := 2) hx hb dX12_isExitBarred_209 (by decide +kernel) ?_
                      refine lv_icmp_ge (tgt := 218) hx hb dX12_isExitBarred_210 (by decide +kernel) (fun c9 => ?_) (fun c9 => ?_)
                      · have f9 := (ti_le (a := 2) (b := (i7 15).toInt) (by decide +kernel) rfl).mp c9
                        refine lv_aload_n hx hb dX12_isExitBarred_218 rfl (lv_at hl 1 rfl) ?_
                        refine mget_15 (v := (i7 15)) rfl hx hb hts (fun _ h => List.mem_cons_of_mem _ (List.mem_append_right _ h)) hown hK hP (hts (.fieldLink RX12 205 "TalePlayModel" "rowMany" "I") (List.mem_cons_of_mem _ (List.mem_append_left _ (List.mem_append_left _ (List.mem_of_getElem? (i := 8) rfl))))) dX12_isExitBarred_219 ?_
                        refine lv_if_le (tgt := 229) hx hb dX12_isExitBarred_222 (by decide +kernel) (fun c10 => ?_) (fun c10 => ?_)
                        · have f10 := (ti_le (a := (i7 15).toInt) (b := 0) rfl (by decide +kernel)).mp c10
                          refine lv_iconst (v := 0) hx hb dX12_isExitBarred_229 (by decide +kernel) ?_
                          exact rw_zret (i7, q7, c7, d7) hx hb hr hlocks hS (hK.sub (tys' := []) [] rfl) hP hD rfl dX12_isExitBarred_230 ⟨⟨(show 0 ≤ (0 : Int32).toInt ∧ (0 : Int32).toInt ≤ 1 from by decide +kernel), (show Sm (0 : Int32) (XbM (c 9) (c 10) (c 11) (c 12) (c 13) (i 8).toInt (kS (c 3) (c 6) w2.toInt) w1.toInt w2.toInt w3.toInt) from by first | (exfalso; omega; done) | exact sm_0 (fun h9 => by rcases h9 with h9 | ⟨_, h9 | h9⟩; (· exact h9 ((fs_no hz1_1 (by omega)).symm)); (· exact h9 ((fs_no hz5_1 (by omega)).symm)); (· rw [show (i 8).toInt = y7_4.toInt by omega] at h9; exact CN_1 hz7_1 (by omega) h9)))⟩, hI, fr_w hfi (by decide +kernel), fr_w hfc (by decide +kernel)⟩
                        · have f10 := mt (ti_le (a := (i7 15).toInt) (b := 0) rfl (by decide +kernel)).mpr c10
                          refine lv_iconst (v := 1) hx hb dX12_isExitBarred_225 (by decide +kernel) ?_
                          refine lv_goto (tgt := 230) hx hb dX12_isExitBarred_226 (by decide +kernel) ?_
                          exact rw_zret (i7, q7, c7, d7) hx hb hr hlocks hS (hK.sub (tys' := []) [] rfl) hP hD rfl dX12_isExitBarred_230 ⟨⟨(show 0 ≤ (1 : Int32).toInt ∧ (1 : Int32).toInt ≤ 1 from by decide +kernel), (show Sm (1 : Int32) (XbM (c 9) (c 10) (c 11) (c 12) (c 13) (i 8).toInt (kS (c 3) (c 6) w2.toInt) w1.toInt w2.toInt w3.toInt) from by first | (exfalso; omega; done) | exact sm_1 (Or.inr ⟨by omega, Or.inr (by rw [show (i 8).toInt = y7_4.toInt by omega]; exact CN_2 hz7_1 (by omega))⟩))⟩, hI, fr_w hfi (by decide +kernel), fr_w hfc (by decide +kernel)⟩
                      · have f9 := mt (ti_le (a := 2) (b := (i7 15).toInt) (by decide +kernel) rfl).mpr c9
                        refine lv_aload_n hx hb dX12_isExitBarred_213 rfl (lv_at hl 1 rfl) ?_
                        refine lv_iconst (v := 0) hx hb dX12_isExitBarred_214 (by decide +kernel) ?_
                        refine mput_15 hx hb hts (fun _ h => List.mem_cons_of_mem _ (List.mem_append_right _ h)) hown hK hP hD hS (hts (.fieldLink RX12 205 "TalePlayModel" "rowMany" "I") (List.mem_cons_of_mem _ (List.mem_append_left _ (List.mem_append_left _ (List.mem_of_getElem? (i := 8) rfl))))) rfl rfl dX12_isExitBarred_215 (fun H locs hP hD hS => ?_)
                        have hI := mInv_i hI (k := 15) (v := 0) (show 0 ≤ (0 : Int32).toInt ∧ (0 : Int32).toInt ≤ 200 from by decide +kernel)
                        have hfi := fr_i hfi (k := 15) (v := 0) (by decide +kernel)
                        refine lv_aload_n hx hb dX12_isExitBarred_218 rfl (lv_at hl 1 rfl) ?_
                        refine mget_15 (i := (upd i7 15 0)) (v := 0) rfl hx hb hts (fun _ h => List.mem_cons_of_mem _ (List.mem_append_right _ h)) hown hK hP (hts (.fieldLink RX12 205 "TalePlayModel" "rowMany" "I") (List.mem_cons_of_mem _ (List.mem_append_left _ (List.mem_append_left _ (List.mem_of_getElem? (i := 8) rfl))))) dX12_isExitBarred_219 ?_
                        refine lv_if_le (tgt := 229) hx hb dX12_isExitBarred_222 (by decide +kernel) (fun _ => ?_) (fun q9 => absurd (by decide +kernel) q9)
                        refine lv_iconst (v := 0) hx hb dX12_isExitBarred_229 (by decide +kernel) ?_
                        exact rw_zret ((upd i7 15 0), q7, c7, d7) hx hb hr hlocks hS (hK.sub (tys' := []) [] rfl) hP hD rfl dX12_isExitBarred_230 ⟨⟨(show 0 ≤ (0 : Int32).toInt ∧ (0 : Int32).toInt ≤ 1 from by decide +kernel), (show Sm (0 : Int32) (XbM (c 9) (c 10) (c 11) (c 12) (c 13) (i 8).toInt (kS (c 3) (c 6) w2.toInt) w1.toInt w2.toInt w3.toInt) from by first | (exfalso; omega; done) | exact sm_0 (fun h9 => by rcases h9 with h9 | ⟨_, h9 | h9⟩; (· exact h9 ((fs_no hz1_1 (by omega)).symm)); (· exact h9 ((fs_no hz5_1 (by omega)).symm)); (· rw [show (i 8).toInt = y7_4.toInt by omega] at h9; exact CN_1 hz7_1 (by omega) h9)))⟩, hI, fr_w hfi (by decide +kernel), fr_w hfc (by decide +kernel)⟩
                    · have f8 := mt (ti_le (a := (i7 8).toInt) (b := y7_4.toInt) rfl rfl).mpr c8
                      refine lv_aload_n hx hb dX12_isExitBarred_161 rfl (lv_at hl 1 rfl) ?_
                      refine mget_13 hx hb hts (fun _ h => List.mem_cons_of_mem _ (List.mem_append_right _ h)) hown hK hP (hts (.fieldLink RX12 37 "TalePlayModel" "isSaid" "[Z") (List.mem_cons_of_mem _ (List.mem_append_left _ (List.mem_append_left _ (List.mem_of_getElem? (i := 9) rfl))))) dX12_isExitBarred_162 ?_
                      refine lv_iload hx hb dX12_isExitBarred_165 (lv_at hl 0 rfl) ?_
                      refine mld_13 hx hb hK hP (vp_in_iff.mpr (by have h9 : y7_4.toInt = y7_4.toInt := rfl; omega)) dX12_isExitBarred_167 (fun x11 ex11 => ?_)
                      have rx11 : 0 ≤ x11.toInt ∧ x11.toInt ≤ 1 := by rw [ex11]; exact hI.2 13 _
                      have gx11 : (c 13 (y7_4 : Int32).toNatClampNeg).toInt = x11.toInt := by rw [ex11, show c7 13 = c 13 from hfc 13 (by decide +kernel)]
                      refine lv_if_eq (tgt := 199) hx hb dX12_isExitBarred_168 (by decide +kernel) (fun c12 => ?_) (fun c12 => ?_)
                      · have f12 := (ti_eq (a := x11.toInt) (b := 0) rfl (by decide +kernel)).mp c12
                        obtain ⟨x13, ex13⟩ : ∃ y : Int32, y = y7_4 + 1 := ⟨_, rfl⟩
                        have tx13 := ti_add (a := y7_4.toInt) (b := 1) ex13 rfl (by decide +kernel) (by omega) (by omega)
                        refine lv_iinc (v := x13) (lv' := [(4, .int x13), (0, .ref o), (1, .int w1), (2, .int w2), (3, .int w3)]) hx hb dX12_isExitBarred_199 hl (k := 0) rfl (by rw [ex13]; rfl) (by decide +kernel) rfl (fun ls hl => ?_)
                        refine lv_goto (tgt := 152) hx hb dX12_isExitBarred_202 (by decide +kernel) ?_
                        exact ih7 i7 q7 c7 d7 x13 hI (fr_w hfi (by decide +kernel)) (fr_w hfc (by decide +kernel)) (show 0 ≤ x13.toInt ∧ x13.toInt ≤ 200 ∧ x13.toInt ≤ (i 8).toInt from by have h50 : x13.toInt = (y7_4.toInt + 1) := tx13; omega) (show ((i7 15) : Int32).toInt ≤ x13.toInt from by have h50 : x13.toInt = (y7_4.toInt + 1) := tx13; omega) (show CN (EB (c 9) (c 11) (c 13) w2.toInt) x13.toInt ((i7 15) : Int32).toInt from CN_n hz7_1 (by omega) (by unfold EB; omega) tx13) (by have h50 : x13.toInt = (y7_4.toInt + 1) := tx13; omega) _ _ _ hP hD hS (lv_sub hl [0, 1, 2, 3, 4] rfl)
                      · have f12 := mt (ti_eq (a := x11.toInt) (b := 0) rfl (by decide +kernel)).mpr c12
                        refine lv_aload_n hx hb dX12_isExitBarred_171 rfl (lv_at hl 1 rfl) ?_
                        refine mget_9 hx hb hts (fun _ h => List.mem_cons_of_mem _ (List.mem_append_right _ h)) hown hK hP (hts (.fieldLink RX12 25 "TalePlayModel" "form" "[I") (List.mem_cons_of_mem _ (List.mem_append_left _ (List.mem_append_left _ (List.mem_of_getElem? (i := 10) rfl))))) dX12_isExitBarred_172 ?_
                        refine lv_iload hx hb dX12_isExitBarred_175 (lv_at hl 0 rfl) ?_
                        refine mld_9 hx hb hK hP (vp_in_iff.mpr (by have h9 : y7_4.toInt = y7_4.toInt := rfl; omega)) dX12_isExitBarred_177 (fun x14 ex14 => ?_)
                        have rx14 : 0 ≤ x14.toInt ∧ x14.toInt ≤ 7 := by rw [ex14]; exact hI.2 9 _
                        have gx14 : (c 9 (y7_4 : Int32).toNatClampNeg).toInt = x14.toInt := by rw [ex14, show c7 9 = c 9 from hfc 9 (by decide +kernel)]
                        refine lv_iconst (v := 5) hx hb dX12_isExitBarred_178 (by decide +kernel) ?_
                        refine lv_icmp_ne (tgt := 199) hx hb dX12_isExitBarred_179 (by decide +kernel) (fun c15 => ?_) (fun c15 => ?_)
                        · have f15 := mt (ti_eq (a := x14.toInt) (b := 5) rfl (by decide +kernel)).mpr c15
                          obtain ⟨x16, ex16⟩ : ∃ y : Int32, y = y7_4 + 1 := ⟨_, rfl⟩
                          have tx16 := ti_add (a := y7_4.toInt) (b := 1) ex16 rfl (by decide +kernel) (by omega) (by omega)
                          refine lv_iinc (v := x16) (lv' := [(4, .int x16), (0, .ref o), (1, .int w1), (2, .int w2), (3, .int w3)]) hx hb dX12_isExitBarred_199 hl (k := 0) rfl (by rw [ex16]; rfl) (by decide +kernel) rfl (fun ls hl => ?_)
                          refine lv_goto (tgt := 152) hx hb dX12_isExitBarred_202 (by decide +kernel) ?_
                          exact ih7 i7 q7 c7 d7 x16 hI (fr_w hfi (by decide +kernel)) (fr_w hfc (by decide +kernel)) (show 0 ≤ x16.toInt ∧ x16.toInt ≤ 200 ∧ x16.toInt ≤ (i 8).toInt from by have h50 : x16.toInt = (y7_4.toInt + 1) := tx16; omega) (show ((i7 15) : Int32).toInt ≤ x16.toInt from by have h50 : x16.toInt = (y7_4.toInt + 1) := tx16; omega) (show CN (EB (c 9) (c 11) (c 13) w2.toInt) x16.toInt ((i7 15) : Int32).toInt from CN_n hz7_1 (by omega) (by unfold EB; omega) tx16) (by have h50 : x16.toInt = (y7_4.toInt + 1) := tx16; omega) _ _ _ hP hD hS (lv_sub hl [0, 1, 2, 3, 4] rfl)
                        · have f15 := (ti_eq (a := x14.toInt) (b := 5) rfl (by decide +kernel)).mp c15
                          refine lv_aload_n hx hb dX12_isExitBarred_182 rfl (lv_at hl 1 rfl) ?_
                          refine mget_11 hx hb hts (fun _ h => List.mem_cons_of_mem _ (List.mem_append_right _ h)) hown hK hP (hts (.fieldLink RX12 31 "TalePlayModel" "middle" "[I") (List.mem_cons_of_mem _ (List.mem_append_left _ (List.mem_append_left _ (List.mem_of_getElem? (i := 11) rfl))))) dX12_isExitBarred_183 ?_
                          refine lv_iload hx hb dX12_isExitBarred_186 (lv_at hl 0 rfl) ?_
                          refine mld_11 hx hb hK hP (vp_in_iff.mpr (by have h9 : y7_4.toInt = y7_4.toInt := rfl; omega)) dX12_isExitBarred_188 (fun x17 ex17 => ?_)
                          have rx17 : 0 ≤ x17.toInt ∧ x17.toInt ≤ 29 := by rw [ex17]; exact hI.2 11 _
                          have gx17 : (c 11 (y7_4 : Int32).toNatClampNeg).toInt = x17.toInt := by rw [ex17, show c7 11 = c 11 from hfc 11 (by decide +kernel)]
                          refine lv_iload_n hx hb dX12_isExitBarred_189 rfl (lv_at hl 3 rfl) ?_
                          refine lv_icmp_ne (tgt := 199) hx hb dX12_isExitBarred_190 (by decide +kernel) (fun c18 => ?_) (fun c18 => ?_)
                          · have f18 := mt (ti_eq (a := x17.toInt) (b := w2.toInt) rfl rfl).mpr c18
                            obtain ⟨x19, ex19⟩ : ∃ y : Int32, y = y7_4 + 1 := ⟨_, rfl⟩
                            have tx19 := ti_add (a := y7_4.toInt) (b := 1) ex19 rfl (by decide +kernel) (by omega) (by omega)
                            refine lv_iinc (v := x19) (lv' := [(4, .int x19), (0, .ref o), (1, .int w1), (2, .int w2), (3, .int w3)]) hx hb dX12_isExitBarred_199 hl (k := 0) rfl (by rw [ex19]; rfl) (by decide +kernel) rfl (fun ls hl => ?_)
                            refine lv_goto (tgt := 152) hx hb dX12_isExitBarred_202 (by decide +kernel) ?_
                            exact ih7 i7 q7 c7 d7 x19 hI (fr_w hfi (by decide +kernel)) (fr_w hfc (by decide +kernel)) (show 0 ≤ x19.toInt ∧ x19.toInt ≤ 200 ∧ x19.toInt ≤ (i 8).toInt from by have h50 : x19.toInt = (y7_4.toInt + 1) := tx19; omega) (show ((i7 15) : Int32).toInt ≤ x19.toInt from by have h50 : x19.toInt = (y7_4.toInt + 1) := tx19; omega) (show CN (EB (c 9) (c 11) (c 13) w2.toInt) x19.toInt ((i7 15) : Int32).toInt from CN_n hz7_1 (by omega) (by unfold EB; omega) tx19) (by have h50 : x19.toInt = (y7_4.toInt + 1) := tx19; omega) _ _ _ hP hD hS (lv_sub hl [0, 1, 2, 3, 4] rfl)
                          · have f18 := (ti_eq (a := x17.toInt) (b := w2.toInt) rfl rfl).mp c18
                            refine lv_aload_n hx hb dX12_isExitBarred_193 rfl (lv_at hl 1 rfl) ?_
                            refine lv_iload hx hb dX12_isExitBarred_194 (lv_at hl 0 rfl) ?_
                            have rb15_i7 : 0 ≤ (i7 15).toInt ∧ (i7 15).toInt ≤ 200 := hI.1 15
                            refine al_callv (va_runV (As := [.int y7_4]) (rest := []) ⟨hx, hb, hml, hown, hts⟩ (s_X12_clashes l D H.size o a t i7 q7 c7 d7 y7_4 hI (show 0 ≤ y7_4.toInt ∧ y7_4.toInt ≤ 199 from by omega) (show ((i7 15) : Int32).toInt ≤ 199 from by omega)) (cwV 1 hts gm_X12_isExitBarred_X12_clashes rfl rfl rfl (by decide +kernel) ⟨Nat.le_of_ble_eq_true rfl, Nat.le_of_ble_eq_true rfl⟩) (pB_V hK hP hD (ci := 12) (q0 := 0) rfl rfl) rfl rfl hl.1 rfl (lv_room (Nat.le_of_ble_eq_true rfl)) dX12_isExitBarred_196 ⟨Nat.le_of_ble_eq_true rfl, Nat.le_of_ble_eq_true rfl⟩) hS hA hP hD (fun u20 H locs hw20 hP hD hS => ?_)
                            obtain ⟨i20, q20, c20, d20⟩ := u20
                            have hw20 : True ∧ mInv i20 c20 ∧ (∀ k, k ∉ ([15] : List Nat) → i20 k = i7 k) ∧ (∀ k, k ∉ ([14] : List Nat) → c20 k = c7 k) ∧ ((i20 15).toInt = (i7 15).toInt + 1) := hw20
                            obtain ⟨hw20, hI, hei20, hec20, hxp20_0⟩ := hw20
                            have hxp20_0 : (i20 15).toInt = (i7 15).toInt + 1 := hxp20_0
                            have hfi : ∀ k, k ∉ ([15] : List Nat) → i20 k = i k := fr_z hfi hei20 (by decide +kernel) (by decide +kernel)
                            have hfc : ∀ k, k ∉ ([14] : List Nat) → c20 k = c k := fr_z hfc hec20 (by decide +kernel) (by decide +kernel)
                            have hP : va_P D vwCl (mW o a t i20 q20 c20 d20) H := hP
                            have hD : va_D A (mW o a t i20 q20 c20 d20) := hD
                            obtain ⟨x21, ex21⟩ : ∃ y : Int32, y = y7_4 + 1 := ⟨_, rfl⟩
                            have tx21 := ti_add (a := y7_4.toInt) (b := 1) ex21 rfl (by decide +kernel) (by omega) (by omega)
                            refine lv_iinc (v := x21) (lv' := [(4, .int x21), (0, .ref o), (1, .int w1), (2, .int w2), (3, .int w3)]) hx hb dX12_isExitBarred_199 hl (k := 0) rfl (by rw [ex21]; rfl) (by decide +kernel) rfl (fun ls hl => ?_)
                            refine lv_goto (tgt := 152) hx hb dX12_isExitBarred_202 (by decide +kernel) ?_
                            exact ih7 i20 q20 c20 d20 x21 hI (fr_w hfi (by decide +kernel)) (fr_w hfc (by decide +kernel)) (show 0 ≤ x21.toInt ∧ x21.toInt ≤ 200 ∧ x21.toInt ≤ (i 8).toInt from by have h50 : x21.toInt = (y7_4.toInt + 1) := tx21; omega) (show ((i20 15) : Int32).toInt ≤ x21.toInt from by have h50 : x21.toInt = (y7_4.toInt + 1) := tx21; omega) (show CN (EB (c 9) (c 11) (c 13) w2.toInt) x21.toInt ((i20 15) : Int32).toInt from CN_y hz7_1 (by omega) (by unfold EB; omega) tx21 (Or.inl hxp20_0)) (by have h50 : x21.toInt = (y7_4.toInt + 1) := tx21; omega) _ _ _ hP hD hS (lv_sub hl [0, 1, 2, 3, 4] rfl)
                exact lp7 _ i q c d (0 : Int32) hI (fr_w hfi (by decide +kernel)) (fr_w hfc (by decide +kernel)) (show 0 ≤ (0 : Int32).toInt ∧ (0 : Int32).toInt ≤ 200 ∧ (0 : Int32).toInt ≤ (i 8).toInt from by have h50 : (0 : Int32).toInt = 0 := (by decide +kernel); omega) (show ((i 15) : Int32).toInt ≤ (0 : Int32).toInt from by have h50 : (0 : Int32).toInt = 0 := (by decide +kernel); omega) (show CN (EB (c 9) (c 11) (c 13) w2.toInt) (0 : Int32).toInt ((i 15) : Int32).toInt from CN_0 (by decide +kernel) (by omega)) (Nat.lt_succ_self _) _ _ _ hP hD hS (lv_sub hl [0, 1, 2, 3, 4] rfl)
              · have f6 := mt (ti_le (a := (i 8).toInt) (b := y5_4.toInt) rfl rfl).mpr c6
                refine lv_aload_n hx hb dX12_isExitBarred_92 rfl (lv_at hl 1 rfl) ?_
                refine mget_13 hx hb hts (fun _ h => List.mem_cons_of_mem _ (List.mem_append_right _ h)) hown hK hP (hts (.fieldLink RX12 37 "TalePlayModel" "isSaid" "[Z") (List.mem_cons_of_mem _ (List.mem_append_left _ (List.mem_append_left _ (List.mem_of_getElem? (i := 9) rfl))))) dX12_isExitBarred_93 ?_
                refine lv_iload hx hb dX12_isExitBarred_96 (lv_at hl 0 rfl) ?_
                refine mld_13 hx hb hK hP (vp_in_iff.mpr (by have h9 : y5_4.toInt = y5_4.toInt := rfl; omega)) dX12_isExitBarred_98 (fun x22 ex22 => ?_)
                have rx22 : 0 ≤ x22.toInt ∧ x22.toInt ≤ 1 := by rw [ex22]; exact hI.2 13 _
                have gx22 : (c 13 (y5_4 : Int32).toNatClampNeg).toInt = x22.toInt := by rw [ex22]
                refine lv_if_eq (tgt := 143) hx hb dX12_isExitBarred_99 (by decide +kernel) (fun c23 => ?_) (fun c23 => ?_)
                · have f23 := (ti_eq (a := x22.toInt) (b := 0) rfl (by decide +kernel)).mp c23
                  obtain ⟨x24, ex24⟩ : ∃ y : Int32, y = y5_4 + 1 := ⟨_, rfl⟩
                  have tx24 := ti_add (a := y5_4.toInt) (b := 1) ex24 rfl (by decide +kernel) (by omega) (by omega)
                  refine lv_iinc (v := x24) (lv' := [(4, .int x24), (0, .ref o), (1, .int w1), (2, .int w2), (3, .int w3)]) hx hb dX12_isExitBarred_143 hl (k := 0) rfl (by rw [ex24]; rfl) (by decide +kernel) rfl (fun ls hl => ?_)
                  refine lv_goto (tgt := 83) hx hb dX12_isExitBarred_146 (by decide +kernel) ?_
                  exact ih5 x24 (show 0 ≤ x24.toInt ∧ x24.toInt ≤ 200 ∧ x24.toInt ≤ (i 8).toInt from by have h50 : x24.toInt = (y5_4.toInt + 1) := tx24; omega) (show ((i 15) : Int32).toInt = 0 from by have h50 : x24.toInt = (y5_4.toInt + 1) := tx24; omega) (show ∀ s : Nat, (s : Int) < x24.toInt → ¬ aP (c 9) (c 10) (c 11) (c 13) w1.toInt w2.toInt s from fs_go hz5_1 (by omega) (by unfold aP; omega) tx24) (by have h50 : x24.toInt = (y5_4.toInt + 1) := tx24; omega) _ _ _ hP hD hS (lv_sub hl [0, 1, 2, 3, 4] rfl)
                · have f23 := mt (ti_eq (a := x22.toInt) (b := 0) rfl (by decide +kernel)).mpr c23
                  refine lv_aload_n hx hb dX12_isExitBarred_102 rfl (lv_at hl 1 rfl) ?_
                  refine mget_9 hx hb hts (fun _ h => List.mem_cons_of_mem _ (List.mem_append_right _ h)) hown hK hP (hts (.fieldLink RX12 25 "TalePlayModel" "form" "[I") (List.mem_cons_of_mem _ (List.mem_append_left _ (List.mem_append_left _ (List.mem_of_getElem? (i := 10) rfl))))) dX12_isExitBarred_103 ?_
                  refine lv_iload hx hb dX12_isExitBarred_106 (lv_at hl 0 rfl) ?_
                  refine mld_9 hx hb hK hP (vp_in_iff.mpr (by have h9 : y5_4.toInt = y5_4.toInt := rfl; omega)) dX12_isExitBarred_108 (fun x25 ex25 => ?_)
                  have rx25 : 0 ≤ x25.toInt ∧ x25.toInt ≤ 7 := by rw [ex25]; exact hI.2 9 _
                  have gx25 : (c 9 (y5_4 : Int32).toNatClampNeg).toInt = x25.toInt := by rw [ex25]
                  refine lv_iconst (v := 5) hx hb dX12_isExitBarred_109 (by decide +kernel) ?_
                  refine lv_icmp_ne (tgt := 143) hx hb dX12_isExitBarred_110 (by decide +kernel) (fun c26 => ?_) (fun c26 => ?_)
                  · have f26 := mt (ti_eq (a := x25.toInt) (b := 5) rfl (by decide +kernel)).mpr c26
                    obtain ⟨x27, ex27⟩ : ∃ y : Int32, y = y5_4 + 1 := ⟨_, rfl⟩
                    have tx27 := ti_add (a := y5_4.toInt) (b := 1) ex27 rfl (by decide +kernel) (by omega) (by omega)
                    refine lv_iinc (v := x27) (lv' := [(4, .int x27), (0, .ref o), (1, .int w1), (2, .int w2), (3, .int w3)]) hx hb dX12_isExitBarred_143 hl (k := 0) rfl (by rw [ex27]; rfl) (by decide +kernel) rfl (fun ls hl => ?_)
                    refine lv_goto (tgt := 83) hx hb dX12_isExitBarred_146 (by decide +kernel) ?_
                    exact ih5 x27 (show 0 ≤ x27.toInt ∧ x27.toInt ≤ 200 ∧ x27.toInt ≤ (i 8).toInt from by have h50 : x27.toInt = (y5_4.toInt + 1) := tx27; omega) (show ((i 15) : Int32).toInt = 0 from by have h50 : x27.toInt = (y5_4.toInt + 1) := tx27; omega) (show ∀ s : Nat, (s : Int) < x27.toInt → ¬ aP (c 9) (c 10) (c 11) (c 13) w1.toInt w2.toInt s from fs_go hz5_1 (by omega) (by unfold aP; omega) tx27) (by have h50 : x27.toInt = (y5_4.toInt + 1) := tx27; omega) _ _ _ hP hD hS (lv_sub hl [0, 1, 2, 3, 4] rfl)
                  · have f26 := (ti_eq (a := x25.toInt) (b := 5) rfl (by decide +kernel)).mp c26
                    refine lv_aload_n hx hb dX12_isExitBarred_113 rfl (lv_at hl 1 rfl) ?_
                    refine mget_10 hx hb hts (fun _ h => List.mem_cons_of_mem _ (List.mem_append_right _ h)) hown hK hP (hts (.fieldLink RX12 28 "TalePlayModel" "left" "[I") (List.mem_cons_of_mem _ (List.mem_append_left _ (List.mem_append_right _ (List.mem_of_getElem? (i := 1) rfl))))) dX12_isExitBarred_114 ?_
                    refine lv_iload hx hb dX12_isExitBarred_117 (lv_at hl 0 rfl) ?_
                    refine mld_10 hx hb hK hP (vp_in_iff.mpr (by have h9 : y5_4.toInt = y5_4.toInt := rfl; omega)) dX12_isExitBarred_119 (fun x28 ex28 => ?_)
                    have rx28 : 0 ≤ x28.toInt ∧ x28.toInt ≤ 29 := by rw [ex28]; exact hI.2 10 _
                    have gx28 : (c 10 (y5_4 : Int32).toNatClampNeg).toInt = x28.toInt := by rw [ex28]
                    refine lv_iload_n hx hb dX12_isExitBarred_120 rfl (lv_at hl 2 rfl) ?_
                    refine lv_icmp_ne (tgt := 143) hx hb dX12_isExitBarred_121 (by decide +kernel) (fun c29 => ?_) (fun c29 => ?_)
                    · have f29 := mt (ti_eq (a := x28.toInt) (b := w1.toInt) rfl rfl).mpr c29
                      obtain ⟨x30, ex30⟩ : ∃ y : Int32, y = y5_4 + 1 := ⟨_, rfl⟩
                      have tx30 := ti_add (a := y5_4.toInt) (b := 1) ex30 rfl (by decide +kernel) (by omega) (by omega)
                      refine lv_iinc (v := x30) (lv' := [(4, .int x30), (0, .ref o), (1, .int w1), (2, .int w2), (3, .int w3)]) hx hb dX12_isExitBarred_143 hl (k := 0) rfl (by rw [ex30]; rfl) (by decide +kernel) rfl (fun ls hl => ?_)
                      refine lv_goto (tgt := 83) hx hb dX12_isExitBarred_146 (by decide +kernel) ?_
                      exact ih5 x30 (show 0 ≤ x30.toInt ∧ x30.toInt ≤ 200 ∧ x30.toInt ≤ (i 8).toInt from by have h50 : x30.toInt = (y5_4.toInt + 1) := tx30; omega) (show ((i 15) : Int32).toInt = 0 from by have h50 : x30.toInt = (y5_4.toInt + 1) := tx30; omega) (show ∀ s : Nat, (s : Int) < x30.toInt → ¬ aP (c 9) (c 10) (c 11) (c 13) w1.toInt w2.toInt s from fs_go hz5_1 (by omega) (by unfold aP; omega) tx30) (by have h50 : x30.toInt = (y5_4.toInt + 1) := tx30; omega) _ _ _ hP hD hS (lv_sub hl [0, 1, 2, 3, 4] rfl)
                    · have f29 := (ti_eq (a := x28.toInt) (b := w1.toInt) rfl rfl).mp c29
                      refine lv_aload_n hx hb dX12_isExitBarred_124 rfl (lv_at hl 1 rfl) ?_
                      refine mget_11 hx hb hts (fun _ h => List.mem_cons_of_mem _ (List.mem_append_right _ h)) hown hK hP (hts (.fieldLink RX12 31 "TalePlayModel" "middle" "[I") (List.mem_cons_of_mem _ (List.mem_append_left _ (List.mem_append_left _ (List.mem_of_getElem? (i := 11) rfl))))) dX12_isExitBarred_125 ?_
                      refine lv_iload hx hb dX12_isExitBarred_128 (lv_at hl 0 rfl) ?_
                      refine mld_11 hx hb hK hP (vp_in_iff.mpr (by have h9 : y5_4.toInt = y5_4.toInt := rfl; omega)) dX12_isExitBarred_130 (fun x31 ex31 => ?_)
                      have rx31 : 0 ≤ x31.toInt ∧ x31.toInt ≤ 29 := by rw [ex31]; exact hI.2 11 _
                      have gx31 : (c 11 (y5_4 : Int32).toNatClampNeg).toInt = x31.toInt := by rw [ex31]
                      refine lv_iload_n hx hb dX12_isExitBarred_131 rfl (lv_at hl 3 rfl) ?_
                      refine lv_icmp_ne (tgt := 143) hx hb dX12_isExitBarred_132 (by decide +kernel) (fun c32 => ?_) (fun c32 => ?_)
                      · have f32 := mt (ti_eq (a := x31.toInt) (b := w2.toInt) rfl rfl).mpr c32
                        obtain ⟨x33, ex33⟩ : ∃ y : Int32, y = y5_4 + 1 := ⟨_, rfl⟩
                        have tx33 := ti_add (a := y5_4.toInt) (b := 1) ex33 rfl (by decide +kernel) (by omega) (by omega)
                        refine lv_iinc (v := x33) (lv' := [(4, .int x33), (0, .ref o), (1, .int w1), (2, .int w2), (3, .int w3)]) hx hb dX12_isExitBarred_143 hl (k := 0) rfl (by rw [ex33]; rfl) (by decide +kernel) rfl (fun ls hl => ?_)
                        refine lv_goto (tgt := 83) hx hb dX12_isExitBarred_146 (by decide +kernel) ?_
                        exact ih5 x33 (show 0 ≤ x33.toInt ∧ x33.toInt ≤ 200 ∧ x33.toInt ≤ (i 8).toInt from by have h50 : x33.toInt = (y5_4.toInt + 1) := tx33; omega) (show ((i 15) : Int32).toInt = 0 from by have h50 : x33.toInt = (y5_4.toInt + 1) := tx33; omega) (show ∀ s : Nat, (s : Int) < x33.toInt → ¬ aP (c 9) (c 10) (c 11) (c 13) w1.toInt w2.toInt s from fs_go hz5_1 (by omega) (by unfold aP; omega) tx33) (by have h50 : x33.toInt = (y5_4.toInt + 1) := tx33; omega) _ _ _ hP hD hS (lv_sub hl [0, 1, 2, 3, 4] rfl)
                      · have f32 := (ti_eq (a := x31.toInt) (b := w2.toInt) rfl rfl).mp c32
                        refine lv_aload_n hx hb dX12_isExitBarred_135 rfl (lv_at hl 1 rfl) ?_
                        refine lv_iload hx hb dX12_isExitBarred_136 (lv_at hl 0 rfl) ?_
                        refine al_callv (va_runV (As := [.int y5_4]) (rest := []) ⟨hx, hb, hml, hown, hts⟩ (s_X12_clashes l D H.size o a t i q c d y5_4 hI (show 0 ≤ y5_4.toInt ∧ y5_4.toInt ≤ 199 from by omega) (show ((i 15) : Int32).toInt ≤ 199 from by omega)) (cwV 1 hts gm_X12_isExitBarred_X12_clashes rfl rfl rfl (by decide +kernel) ⟨Nat.le_of_ble_eq_true rfl, Nat.le_of_ble_eq_true rfl⟩) (pB_V hK hP hD (ci := 12) (q0 := 0) rfl rfl) rfl rfl hl.1 rfl (lv_room (Nat.le_of_ble_eq_true rfl)) dX12_isExitBarred_138 ⟨Nat.le_of_ble_eq_true rfl, Nat.le_of_ble_eq_true rfl⟩) hS hA hP hD (fun u34 H locs hw34 hP hD hS => ?_)
                        obtain ⟨i34, q34, c34, d34⟩ := u34
                        have hw34 : True ∧ mInv i34 c34 ∧ (∀ k, k ∉ ([15] : List Nat) → i34 k = i k) ∧ (∀ k, k ∉ ([14] : List Nat) → c34 k = c k) ∧ ((i34 15).toInt = (i 15).toInt + 1) := hw34
                        obtain ⟨hw34, hI, hei34, hec34, hxp34_0⟩ := hw34
                        have hxp34_0 : (i34 15).toInt = (i 15).toInt + 1 := hxp34_0
                        have hfi : ∀ k, k ∉ ([15] : List Nat) → i34 k = i k := fr_z hfi hei34 (by decide +kernel) (by decide +kernel)
                        have hfc : ∀ k, k ∉ ([14] : List Nat) → c34 k = c k := fr_z hfc hec34 (by decide +kernel) (by decide +kernel)
                        have hP : va_P D vwCl (mW o a t i34 q34 c34 d34) H := hP
                        have hD : va_D A (mW o a t i34 q34 c34 d34) := hD
                        refine lv_iconst (v := 1) hx hb dX12_isExitBarred_141 (by decide +kernel) ?_
                        exact rw_zret (i34, q34, c34, d34) hx hb hr hlocks hS (hK.sub (tys' := []) [] rfl) hP hD rfl dX12_isExitBarred_142 ⟨⟨(show 0 ≤ (1 : Int32).toInt ∧ (1 : Int32).toInt ≤ 1 from by decide +kernel), (show Sm (1 : Int32) (XbM (c 9) (c 10) (c 11) (c 12) (c 13) (i 8).toInt (kS (c 3) (c 6) w2.toInt) w1.toInt w2.toInt w3.toInt) from sm_1 (Or.inr ⟨by omega, Or.inl (fsF_x.mpr ⟨y5_4.toNatClampNeg, by rw [cl_nn (by omega)]; omega, by unfold aP; omega⟩)⟩))⟩, hI, fr_w hfi (by decide +kernel), fr_w hfc (by decide +kernel)⟩
          exact lp5 _ (0 : Int32) (show 0 ≤ (0 : Int32).toInt ∧ (0 : Int32).toInt ≤ 200 ∧ (0 : Int32).toInt ≤ (i 8).toInt from by have h50 : (0 : Int32).toInt = 0 := (by decide +kernel); omega) (show ((i 15) : Int32).toInt = 0 from by have h50 : (0 : Int32).toInt = 0 := (by decide +kernel); omega) (show ∀ s : Nat, (s : Int) < (0 : Int32).toInt → ¬ aP (c 9) (c 10) (c 11) (c 13) w1.toInt w2.toInt s from fs_0 (by decide +kernel)) (Nat.lt_succ_self _) _ _ _ hP hD hS (lv_sub hl [0, 1, 2, 3, 4] rfl)
        · have f4 := (ti_eq (a := r3.toInt) (b := 0) rfl (by decide +kernel)).mp c4
          refine lv_iconst (v := 0) hx hb dX12_isExitBarred_78 (by decide +kernel) ?_
          exact rw_zret (i, q, c, d) hx hb hr hlocks hS (hK.sub (tys' := []) [] rfl) hP hD rfl dX12_isExitBarred_79 ⟨⟨(show 0 ≤ (0 : Int32).toInt ∧ (0 : Int32).toInt ≤ 1 from by decide +kernel), (show Sm (0 : Int32) (XbM (c 9) (c 10) (c 11) (c 12) (c 13) (i 8).toInt (kS (c 3) (c 6) w2.toInt) w1.toInt w2.toInt w3.toInt) from sm_0 (fun h9 => by rcases h9 with h9 | h9; (· exact h9 ((fs_no hz1_1 (by omega)).symm)); (· omega)))⟩, hI, fr_w hfi (by decide +kernel), fr_w hfc (by decide +kernel)⟩
      · have f2 := mt (ti_le (a := (i 8).toInt) (b := y1_4.toInt) rfl rfl).mpr c2
        refine lv_aload_n hx hb dX12_isExitBarred_12 rfl (lv_at hl 1 rfl) ?_
        refine mget_13 hx hb hts (fun _ h => List.mem_cons_of_mem _ (List.mem_append_right _ h)) hown hK hP (hts (.fieldLink RX12 37 "TalePlayModel" "isSaid" "[Z") (List.mem_cons_of_mem _ (List.mem_append_left _ (List.mem_append_left _ (List.mem_of_getElem? (i := 9) rfl))))) dX12_isExitBarred_13 ?_
        refine lv_iload hx hb dX12_isExitBarred_16 (lv_at hl 0 rfl) ?_
        refine mld_13 hx hb hK hP (vp_in_iff.mpr (by have h9 : y1_4.toInt = y1_4.toInt := rfl; omega)) dX12_isExitBarred_18 (fun x35 ex35 => ?_)
        have rx35 : 0 ≤ x35.toInt ∧ x35.toInt ≤ 1 := by rw [ex35]; exact hI.2 13 _
        have gx35 : (c 13 (y1_4 : Int32).toNatClampNeg).toInt = x35.toInt := by rw [ex35]
        refine lv_if_eq (tgt := 63) hx hb dX12_isExitBarred_19 (by decide +kernel) (fun c36 => ?_) (fun c36 => ?_)
        · have f36 := (ti_eq (a := x35.toInt) (b := 0) rfl (by decide +kernel)).mp c36
          obtain ⟨x37, ex37⟩ : ∃ y : Int32, y = y1_4 + 1 := ⟨_, rfl⟩
          have tx37 := ti_add (a := y1_4.toInt) (b := 1) ex37 rfl (by decide +kernel) (by omega) (by omega)
          refine lv_iinc (v := x37) (lv' := [(4, .int x37), (0, .ref o), (1, .int w1), (2, .int w2), (3, .int w3)]) hx hb dX12_isExitBarred_63 hl (k := 0) rfl (by rw [ex37]; rfl) (by decide +kernel) rfl (fun ls hl => ?_)
          refine lv_goto (tgt := 3) hx hb dX12_isExitBarred_66 (by decide +kernel) ?_
          exact ih1 x37 (show 0 ≤ x37.toInt ∧ x37.toInt ≤ 200 ∧ x37.toInt ≤ (i 8).toInt from by have h50 : x37.toInt = (y1_4.toInt + 1) := tx37; omega) (show ((i 15) : Int32).toInt = 0 from by have h50 : x37.toInt = (y1_4.toInt + 1) := tx37; omega) (show ∀ s : Nat, (s : Int) < x37.toInt → ¬ bP (c 9) (c 10) (c 12) (c 13) w1.toInt w3.toInt s from fs_go hz1_1 (by omega) (by unfold bP; omega) tx37) (by have h50 : x37.toInt = (y1_4.toInt + 1) := tx37; omega) _ _ _ hP hD hS (lv_sub hl [0, 1, 2, 3, 4] rfl)
        · have f36 := mt (ti_eq (a := x35.toInt) (b := 0) rfl (by decide +kernel)).mpr c36
          refine lv_aload_n hx hb dX12_isExitBarred_22 rfl (lv_at hl 1 rfl) ?_
          refine mget_9 hx hb hts (fun _ h => List.mem_cons_of_mem _ (List.mem_append_right _ h)) hown hK hP (hts (.fieldLink RX12 25 "TalePlayModel" "form" "[I") (List.mem_cons_of_mem _ (List.mem_append_left _ (List.mem_append_left _ (List.mem_of_getElem? (i := 10) rfl))))) dX12_isExitBarred_23 ?_
          refine lv_iload hx hb dX12_isExitBarred_26 (lv_at hl 0 rfl) ?_
          refine mld_9 hx hb hK hP (vp_in_iff.mpr (by have h9 : y1_4.toInt = y1_4.toInt := rfl; omega)) dX12_isExitBarred_28 (fun x38 ex38 => ?_)
          have rx38 : 0 ≤ x38.toInt ∧ x38.toInt ≤ 7 := by rw [ex38]; exact hI.2 9 _
          have gx38 : (c 9 (y1_4 : Int32).toNatClampNeg).toInt = x38.toInt := by rw [ex38]
          refine lv_iconst (v := 5) hx hb dX12_isExitBarred_29 (by decide +kernel) ?_
          refine lv_icmp_ne (tgt := 63) hx hb dX12_isExitBarred_30 (by decide +kernel) (fun c39 => ?_) (fun c39 => ?_)
          · have f39 := mt (ti_eq (a := x38.toInt) (b := 5) rfl (by decide +kernel)).mpr c39
            obtain ⟨x40, ex40⟩ : ∃ y : Int32, y = y1_4 + 1 := ⟨_, rfl⟩
            have tx40 := ti_add (a := y1_4.toInt) (b := 1) ex40 rfl (by decide +kernel) (by omega) (by omega)
            refine lv_iinc (v := x40) (lv' := [(4, .int x40), (0, .ref o), (1, .int w1), (2, .int w2), (3, .int w3)]) hx hb dX12_isExitBarred_63 hl (k := 0) rfl (by rw [ex40]; rfl) (by decide +kernel) rfl (fun ls hl => ?_)
            refine lv_goto (tgt := 3) hx hb dX12_isExitBarred_66 (by decide +kernel) ?_
            exact ih1 x40 (show 0 ≤ x40.toInt ∧ x40.toInt ≤ 200 ∧ x40.toInt ≤ (i 8).toInt from by have h50 : x40.toInt = (y1_4.toInt + 1) := tx40; omega) (show ((i 15) : Int32).toInt = 0 from by have h50 : x40.toInt = (y1_4.toInt + 1) := tx40; omega) (show ∀ s : Nat, (s : Int) < x40.toInt → ¬ bP (c 9) (c 10) (c 12) (c 13) w1.toInt w3.toInt s from fs_go hz1_1 (by omega) (by unfold bP; omega) tx40) (by have h50 : x40.toInt = (y1_4.toInt + 1) := tx40; omega) _ _ _ hP hD hS (lv_sub hl [0, 1, 2, 3, 4] rfl)
          · have f39 := (ti_eq (a := x38.toInt) (b := 5) rfl (by decide +kernel)).mp c39
            refine lv_aload_n hx hb dX12_isExitBarred_33 rfl (lv_at hl 1 rfl) ?_
            refine mget_10 hx hb hts (fun _ h => List.mem_cons_of_mem _ (List.mem_append_right _ h)) hown hK hP (hts (.fieldLink RX12 28 "TalePlayModel" "left" "[I") (List.mem_cons_of_mem _ (List.mem_append_left _ (List.mem_append_right _ (List.mem_of_getElem? (i := 1) rfl))))) dX12_isExitBarred_34 ?_
            refine lv_iload hx hb dX12_isExitBarred_37 (lv_at hl 0 rfl) ?_
            refine mld_10 hx hb hK hP (vp_in_iff.mpr (by have h9 : y1_4.toInt = y1_4.toInt := rfl; omega)) dX12_isExitBarred_39 (fun x41 ex41 => ?_)
            have rx41 : 0 ≤ x41.toInt ∧ x41.toInt ≤ 29 := by rw [ex41]; exact hI.2 10 _
            have gx41 : (c 10 (y1_4 : Int32).toNatClampNeg).toInt = x41.toInt := by rw [ex41]
            refine lv_iload_n hx hb dX12_isExitBarred_40 rfl (lv_at hl 2 rfl) ?_
            refine lv_icmp_ne (tgt := 63) hx hb dX12_isExitBarred_41 (by decide +kernel) (fun c42 => ?_) (fun c42 => ?_)
            · have f42 := mt (ti_eq (a := x41.toInt) (b := w1.toInt) rfl rfl).mpr c42
              obtain ⟨x43, ex43⟩ : ∃ y : Int32, y = y1_4 + 1 := ⟨_, rfl⟩
              have tx43 := ti_add (a := y1_4.toInt) (b := 1) ex43 rfl (by decide +kernel) (by omega) (by omega)
              refine lv_iinc (v := x43) (lv' := [(4, .int x43), (0, .ref o), (1, .int w1), (2, .int w2), (3, .int w3)]) hx hb dX12_isExitBarred_63 hl (k := 0) rfl (by rw [ex43]; rfl) (by decide +kernel) rfl (fun ls hl => ?_)
              refine lv_goto (tgt := 3) hx hb dX12_isExitBarred_66 (by decide +kernel) ?_
              exact ih1 x43 (show 0 ≤ x43.toInt ∧ x43.toInt ≤ 200 ∧ x43.toInt ≤ (i 8).toInt from by have h50 : x43.toInt = (y1_4.toInt + 1) := tx43; omega) (show ((i 15) : Int32).toInt = 0 from by have h50 : x43.toInt = (y1_4.toInt + 1) := tx43; omega) (show ∀ s : Nat, (s : Int) < x43.toInt → ¬ bP (c 9) (c 10) (c 12) (c 13) w1.toInt w3.toInt s from fs_go hz1_1 (by omega) (by unfold bP; omega) tx43) (by have h50 : x43.toInt = (y1_4.toInt + 1) := tx43; omega) _ _ _ hP hD hS (lv_sub hl [0, 1, 2, 3, 4] rfl)
            · have f42 := (ti_eq (a := x41.toInt) (b := w1.toInt) rfl rfl).mp c42
              refine lv_aload_n hx hb dX12_isExitBarred_44 rfl (lv_at hl 1 rfl) ?_
              refine mget_12 hx hb hts (fun _ h => List.mem_cons_of_mem _ (List.mem_append_right _ h)) hown hK hP (hts (.fieldLink RX12 34 "TalePlayModel" "right" "[I") (List.mem_cons_of_mem _ (List.mem_append_left _ (List.mem_append_right _ (List.mem_of_getElem? (i := 2) rfl))))) dX12_isExitBarred_45 ?_
              refine lv_iload hx hb dX12_isExitBarred_48 (lv_at hl 0 rfl) ?_
              refine mld_12 hx hb hK hP (vp_in_iff.mpr (by have h9 : y1_4.toInt = y1_4.toInt := rfl; omega)) dX12_isExitBarred_50 (fun x44 ex44 => ?_)
              have rx44 : 0 ≤ x44.toInt ∧ x44.toInt ≤ 9 := by rw [ex44]; exact hI.2 12 _
              have gx44 : (c 12 (y1_4 : Int32).toNatClampNeg).toInt = x44.toInt := by rw [ex44]
              refine lv_iload_n hx hb dX12_isExitBarred_51 rfl (lv_at hl 4 rfl) ?_
              refine lv_icmp_ne (tgt := 63) hx hb dX12_isExitBarred_52 (by decide +kernel) (fun c45 => ?_) (fun c45 => ?_)
              · have f45 := mt (ti_eq (a := x44.toInt) (b := w3.toInt) rfl rfl).mpr c45
                obtain ⟨x46, ex46⟩ : ∃ y : Int32, y = y1_4 + 1 := ⟨_, rfl⟩
                have tx46 := ti_add (a := y1_4.toInt) (b := 1) ex46 rfl (by decide +kernel) (by omega) (by omega)
                refine lv_iinc (v := x46) (lv' := [(4, .int x46), (0, .ref o), (1, .int w1), (2, .int w2), (3, .int w3)]) hx hb dX12_isExitBarred_63 hl (k := 0) rfl (by rw [ex46]; rfl) (by decide +kernel) rfl (fun ls hl => ?_)
                refine lv_goto (tgt := 3) hx hb dX12_isExitBarred_66 (by decide +kernel) ?_
                exact ih1 x46 (show 0 ≤ x46.toInt ∧ x46.toInt ≤ 200 ∧ x46.toInt ≤ (i 8).toInt from by have h50 : x46.toInt = (y1_4.toInt + 1) := tx46; omega) (show ((i 15) : Int32).toInt = 0 from by have h50 : x46.toInt = (y1_4.toInt + 1) := tx46; omega) (show ∀ s : Nat, (s : Int) < x46.toInt → ¬ bP (c 9) (c 10) (c 12) (c 13) w1.toInt w3.toInt s from fs_go hz1_1 (by omega) (by unfold bP; omega) tx46) (by have h50 : x46.toInt = (y1_4.toInt + 1) := tx46; omega) _ _ _ hP hD hS (lv_sub hl [0, 1, 2, 3, 4] rfl)
              · have f45 := (ti_eq (a := x44.toInt) (b := w3.toInt) rfl rfl).mp c45
                refine lv_aload_n hx hb dX12_isExitBarred_55 rfl (lv_at hl 1 rfl) ?_
                refine lv_iload hx hb dX12_isExitBarred_56 (lv_at hl 0 rfl) ?_
                refine al_callv (va_runV (As := [.int y1_4]) (rest := []) ⟨hx, hb, hml, hown, hts⟩ (s_X12_clashes l D H.size o a t i q c d y1_4 hI (show 0 ≤ y1_4.toInt ∧ y1_4.toInt ≤ 199 from by omega) (show ((i 15) : Int32).toInt ≤ 199 from by omega)) (cwV 1 hts gm_X12_isExitBarred_X12_clashes rfl rfl rfl (by decide +kernel) ⟨Nat.le_of_ble_eq_true rfl, Nat.le_of_ble_eq_true rfl⟩) (pB_V hK hP hD (ci := 12) (q0 := 0) rfl rfl) rfl rfl hl.1 rfl (lv_room (Nat.le_of_ble_eq_true rfl)) dX12_isExitBarred_58 ⟨Nat.le_of_ble_eq_true rfl, Nat.le_of_ble_eq_true rfl⟩) hS hA hP hD (fun u47 H locs hw47 hP hD hS => ?_)
                obtain ⟨i47, q47, c47, d47⟩ := u47
                have hw47 : True ∧ mInv i47 c47 ∧ (∀ k, k ∉ ([15] : List Nat) → i47 k = i k) ∧ (∀ k, k ∉ ([14] : List Nat) → c47 k = c k) ∧ ((i47 15).toInt = (i 15).toInt + 1) := hw47
                obtain ⟨hw47, hI, hei47, hec47, hxp47_0⟩ := hw47
                have hxp47_0 : (i47 15).toInt = (i 15).toInt + 1 := hxp47_0
                have hfi : ∀ k, k ∉ ([15] : List Nat) → i47 k = i k := fr_z hfi hei47 (by decide +kernel) (by decide +kernel)
                have hfc : ∀ k, k ∉ ([14] : List Nat) → c47 k = c k := fr_z hfc hec47 (by decide +kernel) (by decide +kernel)
                have hP : va_P D vwCl (mW o a t i47 q47 c47 d47) H := hP
                have hD : va_D A (mW o a t i47 q47 c47 d47) := hD
                refine lv_iconst (v := 1) hx hb dX12_isExitBarred_61 (by decide +kernel) ?_
                exact rw_zret (i47, q47, c47, d47) hx hb hr hlocks hS (hK.sub (tys' := []) [] rfl) hP hD rfl dX12_isExitBarred_62 ⟨⟨(show 0 ≤ (1 : Int32).toInt ∧ (1 : Int32).toInt ≤ 1 from by decide +kernel), (show Sm (1 : Int32) (XbM (c 9) (c 10) (c 11) (c 12) (c 13) (i 8).toInt (kS (c 3) (c 6) w2.toInt) w1.toInt w2.toInt w3.toInt) from sm_1 (Or.inl (fsF_x.mpr ⟨y1_4.toNatClampNeg, by rw [cl_nn (by omega)]; omega, by unfold bP; omega⟩)))⟩, hI, fr_w hfi (by decide +kernel), fr_w hfc (by decide +kernel)⟩
  exact lp1 _ (0 : Int32) (show 0 ≤ (0 : Int32).toInt ∧ (0 : Int32).toInt ≤ 200 ∧ (0 : Int32).toInt ≤ (i 8).toInt from by have h50 : (0 : Int32).toInt = 0 := (by decide +kernel); omega) (show ((i 15) : Int32).toInt = 0 from by have h50 : (0 : Int32).toInt = 0 := (by decide +kernel); omega) (show ∀ s : Nat, (s : Int) < (0 : Int32).toInt → ¬ bP (c 9) (c 10) (c 12) (c 13) w1.toInt w3.toInt s from fs_0 (by decide +kernel)) (Nat.lt_succ_self _) _ _ _ hP hD hS (lv_sub hl [0, 1, 2, 3, 4] rfl)

set_option maxHeartbeats 4000000 in
set_option maxRecDepth 100000 in
theorem s_X12_isFlagBarred_e (l : Launch) (D : va_G) (sz : Nat) (o : Nat) (a : Nat → Nat) (t : Nat → ClassId) (i : Nat → Int32) (q : Int64) (c : Nat → Nat → Int32) (d : Nat → Nat → Int64) (w1 : Int32) (f : Int32) (v1 : Int32) (hI : mInv i c) (hw1 : 0 ≤ w1.toInt ∧ w1.toInt ≤ 29) (hf : 0 ≤ f.toInt ∧ f.toInt ≤ 5) (hv1 : 0 ≤ v1.toInt ∧ v1.toInt ≤ 1) (hrm : (i 15).toInt = 0) : Met l yX12_isFlagBarred wm_X12_isFlagBarred ({ frames := 1, cells := 0, slots := 0, locals := 25 }) (va_Pc [.ref o, .int w1, .int f, .int v1] (pB D sz (mW o a t i q c d) (mT t))) (va_Qi (fun (r : Int32) (u : MS) => ((0 ≤ r.toInt ∧ r.toInt ≤ 1) ∧ (Sm r (FbM (c 9) (c 10) (c 11) (c 12) (c 13) (i 8).toInt w1.toInt f.toInt v1.toInt))) ∧ mInv u.1 u.2.2.1 ∧ (∀ k, k ∉ ([15] : List Nat) → u.1 k = i k) ∧ (∀ k, k ∉ ([14] : List Nat) → u.2.2.1 k = c k)) (oC D (va_A (mW o a t i q c d) sz) (fun u : MS => mW o a t u.1 u.2.1 u.2.2.1 u.2.2.2) (fun _ => [])) (va_A (mW o a t i q c d) sz)) 0 0 (va_A (mW o a t i q c d) sz) := by
  refine Met.ofW (cc := cX12_isFlagBarred) (maxL := 5) (ret := (some .boolean)) (by decide +kernel) rfl ?_
  intro p e s m args below meth cd s₁ B hml hv
  obtain ⟨rfl, hsz, hP, hK, hD0⟩ := hv
  have hx := B.exec
  have hb := B.bytes
  have hr := B.returns
  have hts := atoms_spec (ws := wm_X12_isFlagBarred) B.pre
  have hown : s.vm.findClass RX12 = some m.cls := findClass_of_methodNamed B.named
  have hlocks := B.notSynchronized
  subst hsz
  have hD := hD0.self (sz := s.heap.size)
  generalize hAe : va_A (mW o a t i q c d) s.heap.size = A at hD ⊢
  have hA : ∀ q : Nat, s.heap.size ≤ q → A q := fun q h => by rw [← hAe]; exact Or.inr h
  have hS : va_S A s.heap s.heap [] := va_S.rf
  have hfi : ∀ k, k ∉ ([] : List Nat) → i k = i k := fun _ _ => rfl
  have hfc : ∀ k, k ∉ ([] : List Nat) → c k = c k := fun _ _ => rfl
  have hl := lv_entry ([.ref o, .int w1, .int f, .int v1]) (n := 5) (Nat.le_of_ble_eq_true rfl)
  rw [lg_entry_eq]
  generalize (lg_sl ([.ref o, .int w1, .int f, .int v1]) ++ List.replicate (5 - (lg_sl ([.ref o, .int w1, .int f, .int v1])).length) Slot.unset).toArray = ls at hl ⊢
  have hl : lv_has ls 5 [(0, .ref o), (1, .int w1), (2, .int f), (3, .int v1)] := hl
  refine lv_aload_n hx hb dX12_isFlagBarred_0 rfl (lv_at hl 0 rfl) ?_
  refine lv_bipush (v := 6) hx hb dX12_isFlagBarred_1 (by decide +kernel) ?_
  refine lv_iload_n hx hb dX12_isFlagBarred_3 rfl (lv_at hl 1 rfl) ?_
  refine lv_iload_n hx hb dX12_isFlagBarred_4 rfl (lv_at hl 2 rfl) ?_
  refine lv_iconst (v := 1) hx hb dX12_isFlagBarred_5 (by decide +kernel) ?_
  refine lv_iload_n hx hb dX12_isFlagBarred_6 rfl (lv_at hl 3 rfl) ?_
  refine lv_isub hx hb dX12_isFlagBarred_7 ?_
  refine lv_topi (fun x1 ex1 => ?_)
  have tx1 := ti_sub (a := 1) (b := v1.toInt) ex1 (by decide +kernel) rfl (by omega) (by omega)
  have rb8_i : 0 ≤ (i 8).toInt ∧ (i 8).toInt ≤ 200 := hI.1 8
  refine ro_calli (va_runV (As := [.int 6, .int w1, .int f, .int x1]) (rest := []) ⟨hx, hb, hml, hown, hts⟩ (s_X12_saidSo_e l D s.heap.size o a t i q c d 6 w1 f x1 hI ) (cwV 4 hts gm_X12_isFlagBarred_X12_saidSo rfl rfl rfl (by decide +kernel) ⟨Nat.le_of_ble_eq_true rfl, Nat.le_of_ble_eq_true rfl⟩) (pA_V hK hP (ci := 12) (q0 := 0) rfl rfl) rfl rfl hl.1 rfl (lv_room (Nat.le_of_ble_eq_true rfl)) dX12_isFlagBarred_8 ⟨Nat.le_of_ble_eq_true rfl, Nat.le_of_ble_eq_true rfl⟩) hS hA hP (fun r2 u2 H locs hw2 hP hS => ?_)
  have hw2 : ((r2.toInt = -9 ∨ (0 ≤ r2.toInt ∧ r2.toInt ≤ 199)) ∧ (r2.toInt = fsF (sE (c 9) (c 10) (c 11) (c 12) (c 13) 6 w1.toInt f.toInt x1.toInt) (i 8).toInt.toNat)) := hw2
  obtain ⟨hw2, hr2_0⟩ := hw2
  have hr2_0 : r2.toInt = fsF (sE (c 9) (c 10) (c 11) (c 12) (c 13) 6 w1.toInt f.toInt x1.toInt) (i 8).toInt.toNat := hr2_0
  have hA1 : r2.toInt = fsF (sE (c 9) (c 10) (c 11) (c 12) (c 13) 6 w1.toInt f.toInt (1 - v1.toInt)) (i 8).toInt.toNat := by have h9 := hr2_0; rw [show x1.toInt = 1 - v1.toInt from tx1] at h9; exact h9
  refine lv_istore (lv' := [(4, .int r2), (0, .ref o), (1, .int w1), (2, .int f), (3, .int v1)]) hx hb dX12_isFlagBarred_11 hl (by decide +kernel) rfl (fun ls hl => ?_)
  refine lv_iload hx hb dX12_isFlagBarred_13 (lv_at hl 0 rfl) ?_
  refine lv_bipush (v := (-9)) hx hb dX12_isFlagBarred_15 (by decide +kernel) ?_
  have jn3 : ∀ (y3_4 : Int32), (y3_4.toInt = -9 ∨ (0 ≤ y3_4.toInt ∧ y3_4.toInt ≤ 199)) → ((y3_4.toInt = -9 ∧ fsF (sE (c 9) (c 10) (c 11) (c 12) (c 13) 6 w1.toInt f.toInt (1 - v1.toInt)) (i 8).toInt.toNat = -9 ∧ ¬ (v1.toInt = 1 ∧ (f.toInt = 0 ∨ f.toInt = 1) ∧ ¬ fsF (sE (c 9) (c 10) (c 11) (c 12) (c 13) 6 w1.toInt (1 - f.toInt) 1) (i 8).toInt.toNat = -9)) ∨ (¬ y3_4.toInt = -9 ∧ ((¬ fsF (sE (c 9) (c 10) (c 11) (c 12) (c 13) 6 w1.toInt f.toInt (1 - v1.toInt)) (i 8).toInt.toNat = -9 ∧ y3_4.toInt = fsF (sE (c 9) (c 10) (c 11) (c 12) (c 13) 6 w1.toInt f.toInt (1 - v1.toInt)) (i 8).toInt.toNat) ∨ (fsF (sE (c 9) (c 10) (c 11) (c 12) (c 13) 6 w1.toInt f.toInt (1 - v1.toInt)) (i 8).toInt.toNat = -9 ∧ v1.toInt = 1 ∧ (f.toInt = 0 ∨ f.toInt = 1) ∧ y3_4.toInt = fsF (sE (c 9) (c 10) (c 11) (c 12) (c 13) 6 w1.toInt (1 - f.toInt) 1) (i 8).toInt.toNat)))) → ∀ (H : Heap) (locs : List Loc) (ls : Array Slot), va_P D vwCl (mW o a t i q c d) H → va_D A (mW o a t i q c d) → va_S A s.heap H locs → lv_has ls 5 [(0, .ref o), (1, .int w1), (2, .int f), (3, .int v1), (4, .int y3_4)] → W p l e (headSpec wm_X12_isFlagBarred ({ frames := 1, cells := 0, slots := 0, locals := 25 })).room s m ([.ref o, .int w1, .int f, .int v1] : List Value).toArray below meth cd H locs 0 0 (MQ below (va_Qi (fun (r : Int32) (u : MS) => ((0 ≤ r.toInt ∧ r.toInt ≤ 1) ∧ (Sm r (FbM (c 9) (c 10) (c 11) (c 12) (c 13) (i 8).toInt w1.toInt f.toInt v1.toInt))) ∧ mInv u.1 u.2.2.1 ∧ (∀ k, k ∉ ([15] : List Nat) → u.1 k = i k) ∧ (∀ k, k ∉ ([14] : List Nat) → u.2.2.1 k = c k)) (oC D A (fun u : MS => mW o a t u.1 u.2.1 u.2.2.1 u.2.2.2) (fun _ => [])) A) ([.ref o, .int w1, .int f, .int v1] : List Value).toArray s 0 0 A) (F0 m 47 ls []) := by
    intro y3_4 hy3_4 hz3_0 H locs ls hP hD hS hl
    refine lv_iload hx hb dX12_isFlagBarred_47 (lv_at hl 4 rfl) ?_
    refine lv_bipush (v := (-9)) hx hb dX12_isFlagBarred_49 (by decide +kernel) ?_
    have jn4 : ∀ (y4_4 : Int32), (y4_4.toInt = -9 ∨ (0 ≤ y4_4.toInt ∧ y4_4.toInt ≤ 199)) → ((y4_4.toInt = -9 ∧ ¬ FbM (c 9) (c 10) (c 11) (c 12) (c 13) (i 8).toInt w1.toInt f.toInt v1.toInt) ∨ (¬ y4_4.toInt = -9 ∧ FbM (c 9) (c 10) (c 11) (c 12) (c 13) (i 8).toInt w1.toInt f.toInt v1.toInt)) → ∀ (H : Heap) (locs : List Loc) (ls : Array Slot), va_P D vwCl (mW o a t i q c d) H → va_D A (mW o a t i q c d) → va_S A s.heap H locs → lv_has ls 5 [(0, .ref o), (1, .int w1), (2, .int f), (3, .int v1), (4, .int y4_4)] → W p l e (headSpec wm_X12_isFlagBarred ({ frames := 1, cells := 0, slots := 0, locals := 25 })).room s m ([.ref o, .int w1, .int f, .int v1] : List Value).toArray below meth cd H locs 0 0 (MQ below (va_Qi (fun (r : Int32) (u : MS) => ((0 ≤ r.toInt ∧ r.toInt ≤ 1) ∧ (Sm r (FbM (c 9) (c 10) (c 11) (c 12) (c 13) (i 8).toInt w1.toInt f.toInt v1.toInt))) ∧ mInv u.1 u.2.2.1 ∧ (∀ k, k ∉ ([15] : List Nat) → u.1 k = i k) ∧ (∀ k, k ∉ ([14] : List Nat) → u.2.2.1 k = c k)) (oC D A (fun u : MS => mW o a t u.1 u.2.1 u.2.2.1 u.2.2.2) (fun _ => [])) A) ([.ref o, .int w1, .int f, .int v1] : List Value).toArray s 0 0 A) (F0 m 94 ls []) := by
      intro y4_4 hy4_4 hz4_0 H locs ls hP hD hS hl
      refine lv_iload hx hb dX12_isFlagBarred_94 (lv_at hl 4 rfl) ?_
      refine lv_bipush (v := (-9)) hx hb dX12_isFlagBarred_96 (by decide +kernel) ?_
      refine lv_icmp_eq (tgt := 107) hx hb dX12_isFlagBarred_98 (by decide +kernel) (fun c5 => ?_) (fun c5 => ?_)
      · have f5 := (ti_eq (a := y4_4.toInt) (b := (-9)) rfl (by decide +kernel)).mp c5
        refine lv_iload hx hb dX12_isFlagBarred_107 (lv_at hl 4 rfl) ?_
        refine lv_bipush (v := (-9)) hx hb dX12_isFlagBarred_109 (by decide +kernel) ?_
        refine lv_icmp_eq (tgt := 118) hx hb dX12_isFlagBarred_111 (by decide +kernel) (fun c6 => ?_) (fun c6 => ?_)
        · have f6 := (ti_eq (a := y4_4.toInt) (b := (-9)) rfl (by decide +kernel)).mp c6
          refine lv_iconst (v := 0) hx hb dX12_isFlagBarred_118 (by decide +kernel) ?_
          exact rw_zret (i, q, c, d) hx hb hr hlocks hS (hK.sub (tys' := []) [] rfl) hP hD rfl dX12_isFlagBarred_119 ⟨⟨(show 0 ≤ (0 : Int32).toInt ∧ (0 : Int32).toInt ≤ 1 from by decide +kernel), (show Sm (0 : Int32) (FbM (c 9) (c 10) (c 11) (c 12) (c 13) (i 8).toInt w1.toInt f.toInt v1.toInt) from sm_0 (by rcases hz4_0 with h9 | h9; (· exact h9.2); (· exfalso; omega)))⟩, hI, fr_w hfi (by decide +kernel), fr_w hfc (by decide +kernel)⟩
        · have f6 := mt (ti_eq (a := y4_4.toInt) (b := (-9)) rfl (by decide +kernel)).mpr c6
          refine lv_iconst (v := 1) hx hb dX12_isFlagBarred_114 (by decide +kernel) ?_
          refine lv_goto (tgt := 119) hx hb dX12_isFlagBarred_115 (by decide +kernel) ?_
          exact rw_zret (i, q, c, d) hx hb hr hlocks hS (hK.sub (tys' := []) [] rfl) hP hD rfl dX12_isFlagBarred_119 ⟨⟨(show 0 ≤ (1 : Int32).toInt ∧ (1 : Int32).toInt ≤ 1 from by decide +kernel), (show Sm (1 : Int32) (FbM (c 9) (c 10) (c 11) (c 12) (c 13) (i 8).toInt w1.toInt f.toInt v1.toInt) from sm_1 (by rcases hz4_0 with h9 | h9; (· exfalso; omega); (· exact h9.2)))⟩, hI, fr_w hfi (by decide +kernel), fr_w hfc (by decide +kernel)⟩
      · have f5 := mt (ti_eq (a := y4_4.toInt) (b := (-9)) rfl (by decide +kernel)).mpr c5
        refine lv_aload_n hx hb dX12_isFlagBarred_101 rfl (lv_at hl 0 rfl) ?_
        refine lv_iload hx hb dX12_isFlagBarred_102 (lv_at hl 4 rfl) ?_
        have rb15_i : 0 ≤ (i 15).toInt ∧ (i 15).toInt ≤ 200 := hI.1 15
        refine al_callv (va_runV (As := [.int y4_4]) (rest := []) ⟨hx, hb, hml, hown, hts⟩ (s_X12_clashes l D H.size o a t i q c d y4_4 hI (show 0 ≤ y4_4.toInt ∧ y4_4.toInt ≤ 199 from by omega) (show ((i 15) : Int32).toInt ≤ 199 from by omega)) (cwV 1 hts gm_X12_isFlagBarred_X12_clashes rfl rfl rfl (by decide +kernel) ⟨Nat.le_of_ble_eq_true rfl, Nat.le_of_ble_eq_true rfl⟩) (pB_V hK hP hD (ci := 12) (q0 := 0) rfl rfl) rfl rfl hl.1 rfl (lv_room (Nat.le_of_ble_eq_true rfl)) dX12_isFlagBarred_104 ⟨Nat.le_of_ble_eq_true rfl, Nat.le_of_ble_eq_true rfl⟩) hS hA hP hD (fun u7 H locs hw7 hP hD hS => ?_)
        obtain ⟨i7, q7, c7, d7⟩ := u7
        have hw7 : True ∧ mInv i7 c7 ∧ (∀ k, k ∉ ([15] : List Nat) → i7 k = i k) ∧ (∀ k, k ∉ ([14] : List Nat) → c7 k = c k) ∧ ((i7 15).toInt = (i 15).toInt + 1) := hw7
        obtain ⟨hw7, hI, hei7, hec7, hxp7_0⟩ := hw7
        have hxp7_0 : (i7 15).toInt = (i 15).toInt + 1 := hxp7_0
        have hfi : ∀ k, k ∉ ([15] : List Nat) → i7 k = i k := fr_z hfi hei7 (by decide +kernel) (by decide +kernel)
        have hfc : ∀ k, k ∉ ([14] : List Nat) → c7 k = c k := fr_z hfc hec7 (by decide +kernel) (by decide +kernel)
        have hP : va_P D vwCl (mW o a t i7 q7 c7 d7) H := hP
        have hD : va_D A (mW o a t i7 q7 c7 d7) := hD
        refine lv_iload hx hb dX12_isFlagBarred_107 (lv_at hl 4 rfl) ?_
        refine lv_bipush (v := (-9)) hx hb dX12_isFlagBarred_109 (by decide +kernel) ?_
        refine lv_icmp_eq (tgt := 118) hx hb dX12_isFlagBarred_111 (by decide +kernel) (fun c8 => ?_) (fun c8 => ?_)
        · have f8 := (ti_eq (a := y4_4.toInt) (b := (-9)) rfl (by decide +kernel)).mp c8
          refine lv_iconst (v := 0) hx hb dX12_isFlagBarred_118 (by decide +kernel) ?_
          exact rw_zret (i7, q7, c7, d7) hx hb hr hlocks hS (hK.sub (tys' := []) [] rfl) hP hD rfl dX12_isFlagBarred_119 ⟨⟨(show 0 ≤ (0 : Int32).toInt ∧ (0 : Int32).toInt ≤ 1 from by decide +kernel), (show Sm (0 : Int32) (FbM (c 9) (c 10) (c 11) (c 12) (c 13) (i 8).toInt w1.toInt f.toInt v1.toInt) from sm_0 (by rcases hz4_0 with h9 | h9; (· exact h9.2); (· exfalso; omega)))⟩, hI, fr_w hfi (by decide +kernel), fr_w hfc (by decide +kernel)⟩
        · have f8 := mt (ti_eq (a := y4_4.toInt) (b := (-9)) rfl (by decide +kernel)).mpr c8
          refine lv_iconst (v := 1) hx hb dX12_isFlagBarred_114 (by decide +kernel) ?_
          refine lv_goto (tgt := 119) hx hb dX12_isFlagBarred_115 (by decide +kernel) ?_
          exact rw_zret (i7, q7, c7, d7) hx hb hr hlocks hS (hK.sub (tys' := []) [] rfl) hP hD rfl dX12_isFlagBarred_119 ⟨⟨(show 0 ≤ (1 : Int32).toInt ∧ (1 : Int32).toInt ≤ 1 from by decide +kernel), (show Sm (1 : Int32) (FbM (c 9) (c 10) (c 11) (c 12) (c 13) (i 8).toInt w1.toInt f.toInt v1.toInt) from sm_1 (by rcases hz4_0 with h9 | h9; (· exfalso; omega); (· exact h9.2)))⟩, hI, fr_w hfi (by decide +kernel), fr_w hfc (by decide +kernel)⟩
    refine lv_icmp_ne (tgt := 94) hx hb dX12_isFlagBarred_51 (by decide +kernel) (fun c9 => ?_) (fun c9 => ?_)
    · have f9 := mt (ti_eq (a := y3_4.toInt) (b := (-9)) rfl (by decide +kernel)).mpr c9
      exact jn4 y3_4  (show y3_4.toInt = -9 ∨ (0 ≤ y3_4.toInt ∧ y3_4.toInt ≤ 199) from by omega) (show (y3_4.toInt = -9 ∧ ¬ FbM (c 9) (c 10) (c 11) (c 12) (c 13) (i 8).toInt w1.toInt f.toInt v1.toInt) ∨ (¬ y3_4.toInt = -9 ∧ FbM (c 9) (c 10) (c 11) (c 12) (c 13) (i 8).toInt w1.toInt f.toInt v1.toInt) from by unfold FbM; omega) _ _ _ hP hD hS (lv_sub hl [0, 1, 2, 3, 4] rfl)
    · have f9 := (ti_eq (a := y3_4.toInt) (b := (-9)) rfl (by decide +kernel)).mp c9
      refine lv_iload_n hx hb dX12_isFlagBarred_54 rfl (lv_at hl 2 rfl) ?_
      refine lv_iconst (v := 4) hx hb dX12_isFlagBarred_55 (by decide +kernel) ?_
      refine lv_icmp_ne (tgt := 94) hx hb dX12_isFlagBarred_56 (by decide +kernel) (fun c10 => ?_) (fun c10 => ?_)
      · have f10 := mt (ti_eq (a := f.toInt) (b := 4) rfl (by decide +kernel)).mpr c10
        exact jn4 y3_4  (show y3_4.toInt = -9 ∨ (0 ≤ y3_4.toInt ∧ y3_4.toInt ≤ 199) from by omega) (show (y3_4.toInt = -9 ∧ ¬ FbM (c 9) (c 10) (c 11) (c 12) (c 13) (i 8).toInt w1.toInt f.toInt v1.toInt) ∨ (¬ y3_4.toInt = -9 ∧ FbM (c 9) (c 10) (c 11) (c 12) (c 13) (i 8).toInt w1.toInt f.toInt v1.toInt) from by unfold FbM; omega) _ _ _ hP hD hS (lv_sub hl [0, 1, 2, 3, 4] rfl)
      · have f10 := (ti_eq (a := f.toInt) (b := 4) rfl (by decide +kernel)).mp c10
        refine lv_iload_n hx hb dX12_isFlagBarred_59 rfl (lv_at hl 3 rfl) ?_
        refine lv_if_ne (tgt := 94) hx hb dX12_isFlagBarred_60 (by decide +kernel) (fun c11 => ?_) (fun c11 => ?_)
        · have f11 := mt (ti_eq (a := v1.toInt) (b := 0) rfl (by decide +kernel)).mpr c11
          exact jn4 y3_4  (show y3_4.toInt = -9 ∨ (0 ≤ y3_4.toInt ∧ y3_4.toInt ≤ 199) from by omega) (show (y3_4.toInt = -9 ∧ ¬ FbM (c 9) (c 10) (c 11) (c 12) (c 13) (i 8).toInt w1.toInt f.toInt v1.toInt) ∨ (¬ y3_4.toInt = -9 ∧ FbM (c 9) (c 10) (c 11) (c 12) (c 13) (i 8).toInt w1.toInt f.toInt v1.toInt) from by unfold FbM; omega) _ _ _ hP hD hS (lv_sub hl [0, 1, 2, 3, 4] rfl)
        · have f11 := (ti_eq (a := v1.toInt) (b := 0) rfl (by decide +kernel)).mp c11
          refine lv_aload_n hx hb dX12_isFlagBarred_63 rfl (lv_at hl 0 rfl) ?_
          refine lv_iload_n hx hb dX12_isFlagBarred_64 rfl (lv_at hl 1 rfl) ?_
          refine ro_calli (va_runV (As := [.int w1]) (rest := []) ⟨hx, hb, hml, hown, hts⟩ (s_X12_placing l D H.size o a t i q c d w1 hI ) (cwV 1 hts gm_X12_isFlagBarred_X12_placing rfl rfl rfl (by decide +kernel) ⟨Nat.le_of_ble_eq_true rfl, Nat.le_of_ble_eq_true rfl⟩) (pA_V hK hP (ci := 12) (q0 := 0) rfl rfl) rfl rfl hl.1 rfl (lv_room (Nat.le_of_ble_eq_true rfl)) dX12_isFlagBarred_65 ⟨Nat.le_of_ble_eq_true rfl, Nat.le_of_ble_eq_true rfl⟩) hS hA hP (fun r12 u12 H locs hw12 hP hS => ?_)
          have hw12 : ((r12.toInt = -9 ∨ (0 ≤ r12.toInt ∧ r12.toInt ≤ 199)) ∧ (r12.toInt = pL (c 9) (c 10) (c 13) (i 8).toInt w1.toInt)) := hw12
          obtain ⟨hw12, hr12_0⟩ := hw12
          have hr12_0 : r12.toInt = pL (c 9) (c 10) (c 13) (i 8).toInt w1.toInt := hr12_0
          refine lv_bipush (v := (-9)) hx hb dX12_isFlagBarred_68 (by decide +kernel) ?_
          refine lv_icmp_eq (tgt := 94) hx hb dX12_isFlagBarred_70 (by decide +kernel) (fun c13 => ?_) (fun c13 => ?_)
          · have f13 := (ti_eq (a := r12.toInt) (b := (-9)) rfl (by decide +kernel)).mp c13
            exact jn4 y3_4  (show y3_4.toInt = -9 ∨ (0 ≤ y3_4.toInt ∧ y3_4.toInt ≤ 199) from by omega) (show (y3_4.toInt = -9 ∧ ¬ FbM (c 9) (c 10) (c 11) (c 12) (c 13) (i 8).toInt w1.toInt f.toInt v1.toInt) ∨ (¬ y3_4.toInt = -9 ∧ FbM (c 9) (c 10) (c 11) (c 12) (c 13) (i 8).toInt w1.toInt f.toInt v1.toInt) from by unfold FbM; omega) _ _ _ hP hD hS (lv_sub hl [0, 1, 2, 3, 4] rfl)
          · have f13 := mt (ti_eq (a := r12.toInt) (b := (-9)) rfl (by decide +kernel)).mpr c13
            refine lv_aload_n hx hb dX12_isFlagBarred_73 rfl (lv_at hl 0 rfl) ?_
            refine mget_9 hx hb hts (fun _ h => List.mem_cons_of_mem _ (List.mem_append_right _ h)) hown hK hP (hts (.fieldLink RX12 25 "TalePlayModel" "form" "[I") (List.mem_cons_of_mem _ (List.mem_append_left _ (List.mem_append_left _ (List.mem_of_getElem? (i := 7) rfl))))) dX12_isFlagBarred_74 ?_
            refine lv_aload_n hx hb dX12_isFlagBarred_77 rfl (lv_at hl 0 rfl) ?_
            refine lv_iload_n hx hb dX12_isFlagBarred_78 rfl (lv_at hl 1 rfl) ?_
            refine ro_calli (va_runV (As := [.int w1]) (rest := [.ref (a 9)]) ⟨hx, hb, hml, hown, hts⟩ (s_X12_placing l D H.size o a t i q c d w1 hI ) (cwV 1 hts gm_X12_isFlagBarred_X12_placing rfl rfl rfl (by decide +kernel) ⟨Nat.le_of_ble_eq_true rfl, Nat.le_of_ble_eq_true rfl⟩) (pA_V hK hP (ci := 12) (q0 := 0) rfl rfl) rfl rfl hl.1 rfl (lv_room (Nat.le_of_ble_eq_true rfl)) dX12_isFlagBarred_79 ⟨Nat.le_of_ble_eq_true rfl, Nat.le_of_ble_eq_true rfl⟩) hS hA hP (fun r14 u14 H locs hw14 hP hS => ?_)
            have hw14 : ((r14.toInt = -9 ∨ (0 ≤ r14.toInt ∧ r14.toInt ≤ 199)) ∧ (r14.toInt = pL (c 9) (c 10) (c 13) (i 8).toInt w1.toInt)) := hw14
            obtain ⟨hw14, hr14_0⟩ := hw14
            have hr14_0 : r14.toInt = pL (c 9) (c 10) (c 13) (i 8).toInt w1.toInt := hr14_0
            refine mld_9 hx hb hK hP (vp_in_iff.mpr (by have h9 : r14.toInt = r14.toInt := rfl; omega)) dX12_isFlagBarred_82 (fun x15 ex15 => ?_)
            have rx15 : 0 ≤ x15.toInt ∧ x15.toInt ≤ 7 := by rw [ex15]; exact hI.2 9 _
            have gx15 : (c 9 (r14 : Int32).toNatClampNeg).toInt = x15.toInt := by rw [ex15]
            have hA3 : (c 9 (pL (c 9) (c 10) (c 13) (i 8).toInt w1.toInt).toNat).toInt = x15.toInt := by rw [← hr14_0]; exact gx15
            refine lv_iconst (v := 3) hx hb dX12_isFlagBarred_83 (by decide +kernel) ?_
            refine lv_icmp_ne (tgt := 94) hx hb dX12_isFlagBarred_84 (by decide +kernel) (fun c16 => ?_) (fun c16 => ?_)
            · have f16 := mt (ti_eq (a := x15.toInt) (b := 3) rfl (by decide +kernel)).mpr c16
              exact jn4 y3_4  (show y3_4.toInt = -9 ∨ (0 ≤ y3_4.toInt ∧ y3_4.toInt ≤ 199) from by omega) (show (y3_4.toInt = -9 ∧ ¬ FbM (c 9) (c 10) (c 11) (c 12) (c 13) (i 8).toInt w1.toInt f.toInt v1.toInt) ∨ (¬ y3_4.toInt = -9 ∧ FbM (c 9) (c 10) (c 11) (c 12) (c 13) (i 8).toInt w1.toInt f.toInt v1.toInt) from by unfold FbM; omega) _ _ _ hP hD hS (lv_sub hl [0, 1, 2, 3, 4] rfl)
            · have f16 := (ti_eq (a := x15.toInt) (b := 3) rfl (by decide +kernel)).mp c16
              refine lv_aload_n hx hb dX12_isFlagBarred_87 rfl (lv_at hl 0 rfl) ?_
              refine lv_iload_n hx hb dX12_isFlagBarred_88 rfl (lv_at hl 1 rfl) ?_
              refine ro_calli (va_runV (As := [.int w1]) (rest := []) ⟨hx, hb, hml, hown, hts⟩ (s_X12_placing l D H.size o a t i q c d w1 hI ) (cwV 1 hts gm_X12_isFlagBarred_X12_placing rfl rfl rfl (by decide +kernel) ⟨Nat.le_of_ble_eq_true rfl, Nat.le_of_ble_eq_true rfl⟩) (pA_V hK hP (ci := 12) (q0 := 0) rfl rfl) rfl rfl hl.1 rfl (lv_room (Nat.le_of_ble_eq_true rfl)) dX12_isFlagBarred_89 ⟨Nat.le_of_ble_eq_true rfl, Nat.le_of_ble_eq_true rfl⟩) hS hA hP (fun r17 u17 H locs hw17 hP hS => ?_)
              have hw17 : ((r17.toInt = -9 ∨ (0 ≤ r17.toInt ∧ r17.toInt ≤ 199)) ∧ (r17.toInt = pL (c 9) (c 10) (c 13) (i 8).toInt w1.toInt)) := hw17
              obtain ⟨hw17, hr17_0⟩ := hw17
              have hr17_0 : r17.toInt = pL (c 9) (c 10) (c 13) (i 8).toInt w1.toInt := hr17_0
              refine lv_istore (lv' := [(4, .int r17), (0, .ref o), (1, .int w1), (2, .int f), (3, .int v1)]) hx hb dX12_isFlagBarred_92 hl (by decide +kernel) rfl (fun ls hl => ?_)
              exact jn4 r17  (show r17.toInt = -9 ∨ (0 ≤ r17.toInt ∧ r17.toInt ≤ 199) from by omega) (show (r17.toInt = -9 ∧ ¬ FbM (c 9) (c 10) (c 11) (c 12) (c 13) (i 8).toInt w1.toInt f.toInt v1.toInt) ∨ (¬ r17.toInt = -9 ∧ FbM (c 9) (c 10) (c 11) (c 12) (c 13) (i 8).toInt w1.toInt f.toInt v1.toInt) from by unfold FbM; omega) _ _ _ hP hD hS (lv_sub hl [1, 2, 3, 4, 0] rfl)
  refine lv_icmp_ne (tgt := 47) hx hb dX12_isFlagBarred_17 (by decide +kernel) (fun c18 => ?_) (fun c18 => ?_)
  · have f18 := mt (ti_eq (a := r2.toInt) (b := (-9)) rfl (by decide +kernel)).mpr c18
    exact jn3 r2  (show r2.toInt = -9 ∨ (0 ≤ r2.toInt ∧ r2.toInt ≤ 199) from by omega) (show (r2.toInt = -9 ∧ fsF (sE (c 9) (c 10) (c 11) (c 12) (c 13) 6 w1.toInt f.toInt (1 - v1.toInt)) (i 8).toInt.toNat = -9 ∧ ¬ (v1.toInt = 1 ∧ (f.toInt = 0 ∨ f.toInt = 1) ∧ ¬ fsF (sE (c 9) (c 10) (c 11) (c 12) (c 13) 6 w1.toInt (1 - f.toInt) 1) (i 8).toInt.toNat = -9)) ∨ (¬ r2.toInt = -9 ∧ ((¬ fsF (sE (c 9) (c 10) (c 11) (c 12) (c 13) 6 w1.toInt f.toInt (1 - v1.toInt)) (i 8).toInt.toNat = -9 ∧ r2.toInt = fsF (sE (c 9) (c 10) (c 11) (c 12) (c 13) 6 w1.toInt f.toInt (1 - v1.toInt)) (i 8).toInt.toNat) ∨ (fsF (sE (c 9) (c 10) (c 11) (c 12) (c 13) 6 w1.toInt f.toInt (1 - v1.toInt)) (i 8).toInt.toNat = -9 ∧ v1.toInt = 1 ∧ (f.toInt = 0 ∨ f.toInt = 1) ∧ r2.toInt = fsF (sE (c 9) (c 10) (c 11) (c 12) (c 13) 6 w1.toInt (1 - f.toInt) 1) (i 8).toInt.toNat))) from by omega) _ _ _ hP hD hS (lv_sub hl [1, 2, 3, 4, 0] rfl)
  · have f18 := (ti_eq (a := r2.toInt) (b := (-9)) rfl (by decide +kernel)).mp c18
    refine lv_iload_n hx hb dX12_isFlagBarred_20 rfl (lv_at hl 4 rfl) ?_
    refine lv_iconst (v := 1) hx hb dX12_isFlagBarred_21 (by decide +kernel) ?_
    refine lv_icmp_ne (tgt := 47) hx hb dX12_isFlagBarred_22 (by decide +kernel) (fun c19 => ?_) (fun c19 => ?_)
    · have f19 := mt (ti_eq (a := v1.toInt) (b := 1) rfl (by decide +kernel)).mpr c19
      exact jn3 r2  (show r2.toInt = -9 ∨ (0 ≤ r2.toInt ∧ r2.toInt ≤ 199) from by omega) (show (r2.toInt = -9 ∧ fsF (sE (c 9) (c 10) (c 11) (c 12) (c 13) 6 w1.toInt f.toInt (1 - v1.toInt)) (i 8).toInt.toNat = -9 ∧ ¬ (v1.toInt = 1 ∧ (f.toInt = 0 ∨ f.toInt = 1) ∧ ¬ fsF (sE (c 9) (c 10) (c 11) (c 12) (c 13) 6 w1.toInt (1 - f.toInt) 1) (i 8).toInt.toNat = -9)) ∨ (¬ r2.toInt = -9 ∧ ((¬ fsF (sE (c 9) (c 10) (c 11) (c 12) (c 13) 6 w1.toInt f.toInt (1 - v1.toInt)) (i 8).toInt.toNat = -9 ∧ r2.toInt = fsF (sE (c 9) (c 10) (c 11) (c 12) (c 13) 6 w1.toInt f.toInt (1 - v1.toInt)) (i 8).toInt.toNat) ∨ (fsF (sE (c 9) (c 10) (c 11) (c 12) (c 13) 6 w1.toInt f.toInt (1 - v1.toInt)) (i 8).toInt.toNat = -9 ∧ v1.toInt = 1 ∧ (f.toInt = 0 ∨ f.toInt = 1) ∧ r2.toInt = fsF (sE (c 9) (c 10) (c 11) (c 12) (c 13) 6 w1.toInt (1 - f.toInt) 1) (i 8).toInt.toNat))) from by omega) _ _ _ hP hD hS (lv_sub hl [1, 2, 3, 4, 0] rfl)
    · have f19 := (ti_eq (a := v1.toInt) (b := 1) rfl (by decide +kernel)).mp c19
      refine lv_iload_n hx hb dX12_isFlagBarred_25 rfl (lv_at hl 3 rfl) ?_
      refine lv_if_eq (tgt := 34) hx hb dX12_isFlagBarred_26 (by decide +kernel) (fun c20 => ?_) (fun c20 => ?_)
      · have f20 := (ti_eq (a := f.toInt) (b := 0) rfl (by decide +kernel)).mp c20
        refine lv_aload_n hx hb dX12_isFlagBarred_34 rfl (lv_at hl 1 rfl) ?_
        refine lv_bipush (v := 6) hx hb dX12_isFlagBarred_35 (by decide +kernel) ?_
        refine lv_iload_n hx hb dX12_isFlagBarred_37 rfl (lv_at hl 2 rfl) ?_
        refine lv_iconst (v := 1) hx hb dX12_isFlagBarred_38 (by decide +kernel) ?_
        refine lv_iload_n hx hb dX12_isFlagBarred_39 rfl (lv_at hl 3 rfl) ?_
        refine lv_isub hx hb dX12_isFlagBarred_40 ?_
        refine lv_topi (fun x21 ex21 => ?_)
        have tx21 := ti_sub (a := 1) (b := f.toInt) ex21 (by decide +kernel) rfl (by omega) (by omega)
        refine lv_iconst (v := 1) hx hb dX12_isFlagBarred_41 (by decide +kernel) ?_
        refine ro_calli (va_runV (As := [.int 6, .int w1, .int x21, .int 1]) (rest := []) ⟨hx, hb, hml, hown, hts⟩ (s_X12_saidSo_e l D H.size o a t i q c d 6 w1 x21 1 hI ) (cwV 4 hts gm_X12_isFlagBarred_X12_saidSo rfl rfl rfl (by decide +kernel) ⟨Nat.le_of_ble_eq_true rfl, Nat.le_of_ble_eq_true rfl⟩) (pA_V hK hP (ci := 12) (q0 := 0) rfl rfl) rfl rfl hl.1 rfl (lv_room (Nat.le_of_ble_eq_true rfl)) dX12_isFlagBarred_42 ⟨Nat.le_of_ble_eq_true rfl, Nat.le_of_ble_eq_true rfl⟩) hS hA hP (fun r22 u22 H locs hw22 hP hS => ?_)
        have hw22 : ((r22.toInt = -9 ∨ (0 ≤ r22.toInt ∧ r22.toInt ≤ 199)) ∧ (r22.toInt = fsF (sE (c 9) (c 10) (c 11) (c 12) (c 13) 6 w1.toInt x21.toInt 1) (i 8).toInt.toNat)) := hw22
        obtain ⟨hw22, hr22_0⟩ := hw22
        have hr22_0 : r22.toInt = fsF (sE (c 9) (c 10) (c 11) (c 12) (c 13) 6 w1.toInt x21.toInt 1) (i 8).toInt.toNat := hr22_0
        have hA2 : r22.toInt = fsF (sE (c 9) (c 10) (c 11) (c 12) (c 13) 6 w1.toInt (1 - f.toInt) 1) (i 8).toInt.toNat := by have h9 := hr22_0; rw [show x21.toInt = 1 - f.toInt from tx21] at h9; exact h9
        refine lv_istore (lv' := [(4, .int r22), (0, .ref o), (1, .int w1), (2, .int f), (3, .int v1)]) hx hb dX12_isFlagBarred_45 hl (by decide +kernel) rfl (fun ls hl => ?_)
        exact jn3 r22  (show r22.toInt = -9 ∨ (0 ≤ r22.toInt ∧ r22.toInt ≤ 199) from by omega) (show (r22.toInt = -9 ∧ fsF (sE (c 9) (c 10) (c 11) (c 12) (c 13) 6 w1.toInt f.toInt (1 - v1.toInt)) (i 8).toInt.toNat = -9 ∧ ¬ (v1.toInt = 1 ∧ (f.toInt = 0 ∨ f.toInt = 1) ∧ ¬ fsF (sE (c 9) (c 10) (c 11) (c 12) (c 13) 6 w1.toInt (1 - f.toInt) 1) (i 8).toInt.toNat = -9)) ∨ (¬ r22.toInt = -9 ∧ ((¬ fsF (sE (c 9) (c 10) (c 11) (c 12) (c 13) 6 w1.toInt f.toInt (1 - v1.toInt)) (i 8).toInt.toNat = -9 ∧ r22.toInt = fsF (sE (c 9) (c 10) (c 11) (c 12) (c 13) 6 w1.toInt f.toInt (1 - v1.toInt)) (i 8).toInt.toNat) ∨ (fsF (sE (c 9) (c 10) (c 11) (c 12) (c 13) 6 w1.toInt f.toInt (1 - v1.toInt)) (i 8).toInt.toNat = -9 ∧ v1.toInt = 1 ∧ (f.toInt = 0 ∨ f.toInt = 1) ∧ r22.toInt = fsF (sE (c 9) (c 10) (c 11) (c 12) (c 13) 6 w1.toInt (1 - f.toInt) 1) (i 8).toInt.toNat))) from by omega) _ _ _ hP hD hS (lv_sub hl [1, 2, 3, 4, 0] rfl)
      · have f20 := mt (ti_eq (a := f.toInt) (b := 0) rfl (by decide +kernel)).mpr c20
        refine lv_iload_n hx hb dX12_isFlagBarred_29 rfl (lv_at hl 3 rfl) ?_
        refine lv_iconst (v := 1) hx hb dX12_isFlagBarred_30 (by decide +kernel) ?_
        refine lv_icmp_ne (tgt := 47) hx hb dX12_isFlagBarred_31 (by decide +kernel) (fun c23 => ?_) (fun c23 => ?_)
        · have f23 := mt (ti_eq (a := f.toInt) (b := 1) rfl (by decide +kernel)).mpr c23
          exact jn3 r2  (show r2.toInt = -9 ∨ (0 ≤ r2.toInt ∧ r2.toInt ≤ 199) from by omega) (show (r2.toInt = -9 ∧ fsF (sE (c 9) (c 10) (c 11) (c 12) (c 13) 6 w1.toInt f.toInt (1 - v1.toInt)) (i 8).toInt.toNat = -9 ∧ ¬ (v1.toInt = 1 ∧ (f.toInt = 0 ∨ f.toInt = 1) ∧ ¬ fsF (sE (c 9) (c 10) (c 11) (c 12) (c 13) 6 w1.toInt (1 - f.toInt) 1) (i 8).toInt.toNat = -9)) ∨ (¬ r2.toInt = -9 ∧ ((¬ fsF (sE (c 9) (c 10) (c 11) (c 12) (c 13) 6 w1.toInt f.toInt (1 - v1.toInt)) (i 8).toInt.toNat = -9 ∧ r2.toInt = fsF (sE (c 9) (c 10) (c 11) (c 12) (c 13) 6 w1.toInt f.toInt (1 - v1.toInt)) (i 8).toInt.toNat) ∨ (fsF (sE (c 9) (c 10) (c 11) (c 12) (c 13) 6 w1.toInt f.toInt (1 - v1.toInt)) (i 8).toInt.toNat = -9 ∧ v1.toInt = 1 ∧ (f.toInt = 0 ∨ f.toInt = 1) ∧ r2.toInt = fsF (sE (c 9) (c 10) (c 11) (c 12) (c 13) 6 w1.toInt (1 - f.toInt) 1) (i 8).toInt.toNat))) from by omega) _ _ _ hP hD hS (lv_sub hl [1, 2, 3, 4, 0] rfl)
        · have f23 := (ti_eq (a := f.toInt) (b := 1) rfl (by decide +kernel)).mp c23
          refine lv_aload_n hx hb dX12_isFlagBarred_34 rfl (lv_at hl 1 rfl) ?_
          refine lv_bipush (v := 6) hx hb dX12_isFlagBarred_35 (by decide +kernel) ?_
          refine lv_iload_n hx hb dX12_isFlagBarred_37 rfl (lv_at hl 2 rfl) ?_
          refine lv_iconst (v := 1) hx hb dX12_isFlagBarred_38 (by decide +kernel) ?_
          refine lv_iload_n hx hb dX12_isFlagBarred_39 rfl (lv_at hl 3 rfl) ?_
          refine lv_isub hx hb dX12_isFlagBarred_40 ?_
          refine lv_topi (fun x24 ex24 => ?_)
          have tx24 := ti_sub (a := 1) (b := f.toInt) ex24 (by decide +kernel) rfl (by omega) (by omega)
          refine lv_iconst (v := 1) hx hb dX12_isFlagBarred_41 (by decide +kernel) ?_
          refine ro_calli (va_runV (As := [.int 6, .int w1, .int x24, .int 1]) (rest := []) ⟨hx, hb, hml, hown, hts⟩ (s_X12_saidSo_e l D H.size o a t i q c d 6 w1 x24 1 hI ) (cwV 4 hts gm_X12_isFlagBarred_X12_saidSo rfl rfl rfl (by decide +kernel) ⟨Nat.le_of_ble_eq_true rfl, Nat.le_of_ble_eq_true rfl⟩) (pA_V hK hP (ci := 12) (q0 := 0) rfl rfl) rfl rfl hl.1 rfl (lv_room (Nat.le_of_ble_eq_true rfl)) dX12_isFlagBarred_42 ⟨Nat.le_of_ble_eq_true rfl, Nat.le_of_ble_eq_true rfl⟩) hS hA hP (fun r25 u25 H locs hw25 hP hS => ?_)
          have hw25 : ((r25.toInt = -9 ∨ (0 ≤ r25.toInt ∧ r25.toInt ≤ 199)) ∧ (r25.toInt = fsF (sE (c 9) (c 10) (c 11) (c 12) (c 13) 6 w1.toInt x24.toInt 1) (i 8).toInt.toNat)) := hw25
          obtain ⟨hw25, hr25_0⟩ := hw25
          have hr25_0 : r25.toInt = fsF (sE (c 9) (c 10) (c 11) (c 12) (c 13) 6 w1.toInt x24.toInt 1) (i 8).toInt.toNat := hr25_0
          have hA2 : r25.toInt = fsF (sE (c 9) (c 10) (c 11) (c 12) (c 13) 6 w1.toInt (1 - f.toInt) 1) (i 8).toInt.toNat := by have h9 := hr25_0; rw [show x24.toInt = 1 - f.toInt from tx24] at h9; exact h9
          refine lv_istore (lv' := [(4, .int r25), (0, .ref o), (1, .int w1), (2, .int f), (3, .int v1)]) hx hb dX12_isFlagBarred_45 hl (by decide +kernel) rfl (fun ls hl => ?_)
          exact jn3 r25  (show r25.toInt = -9 ∨ (0 ≤ r25.toInt ∧ r25.toInt ≤ 199) from by omega) (show (r25.toInt = -9 ∧ fsF (sE (c 9) (c 10) (c 11) (c 12) (c 13) 6 w1.toInt f.toInt (1 - v1.toInt)) (i 8).toInt.toNat = -9 ∧ ¬ (v1.toInt = 1 ∧ (f.toInt = 0 ∨ f.toInt = 1) ∧ ¬ fsF (sE (c 9) (c 10) (c 11) (c 12) (c 13) 6 w1.toInt (1 - f.toInt) 1) (i 8).toInt.toNat = -9)) ∨ (¬ r25.toInt = -9 ∧ ((¬ fsF (sE (c 9) (c 10) (c 11) (c 12) (c 13) 6 w1.toInt f.toInt (1 - v1.toInt)) (i 8).toInt.toNat = -9 ∧ r25.toInt = fsF (sE (c 9) (c 10) (c 11) (c 12) (c 13) 6 w1.toInt f.toInt (1 - v1.toInt)) (i 8).toInt.toNat) ∨ (fsF (sE (c 9) (c 10) (c 11) (c 12) (c 13) 6 w1.toInt f.toInt (1 - v1.toInt)) (i 8).toInt.toNat = -9 ∧ v1.toInt = 1 ∧ (f.toInt = 0 ∨ f.toInt = 1) ∧ r25.toInt = fsF (sE (c 9) (c 10) (c 11) (c 12) (c 13) 6 w1.toInt (1 - f.toInt) 1) (i 8).toInt.toNat))) from by omega) _ _ _ hP hD hS (lv_sub hl [1, 2, 3, 4, 0] rfl)

set_option maxHeartbeats 4000000 in
set_option maxRecDepth 100000 in
theorem s_X12_isKeyBarred_e (l : Launch) (D : va_G) (sz : Nat) (o : Nat) (a : Nat → Nat) (t : Nat → ClassId) (i : Nat → Int32) (q : Int64) (c : Nat → Nat → Int32) (d : Nat → Nat → Int64) (w2 : Int32) (hI : mInv i c) (hw2 : 0 ≤ w2.toInt ∧ w2.toInt ≤ 29) (hrm : (i 15).toInt = 0) : Met l yX12_isKeyBarred wm_X12_isKeyBarred ({ frames := 1, cells := 0, slots := 0, locals := 21 }) (va_Pc [.ref o, .int w2] (pB D sz (mW o a t i q c d) (mT t))) (va_Qi (fun (r : Int32) (u : MS) => ((0 ≤ r.toInt ∧ r.toInt ≤ 1) ∧ (Sm r (∃ s : Nat, (s : Int) < (i 8).toInt ∧ KB (c 9) (c 11) (c 13) w2.toInt s))) ∧ mInv u.1 u.2.2.1 ∧ (∀ k, k ∉ ([15] : List Nat) → u.1 k = i k) ∧ (∀ k, k ∉ ([14] : List Nat) → u.2.2.1 k = c k)) (oC D (va_A (mW o a t i q c d) sz) (fun u : MS => mW o a t u.1 u.2.1 u.2.2.1 u.2.2.2) (fun _ => [])) (va_A (mW o a t i q c d) sz)) 0 0 (va_A (mW o a t i q c d) sz) := by
  refine Met.ofW (cc := cX12_isKeyBarred) (maxL := 3) (ret := (some .boolean)) (by decide +kernel) rfl ?_
  intro p e s m args below meth cd s₁ B hml hv
  obtain ⟨rfl, hsz, hP, hK, hD0⟩ := hv
  have hx := B.exec
  have hb := B.bytes
  have hr := B.returns
  have hts := atoms_spec (ws := wm_X12_isKeyBarred) B.pre
  have hown : s.vm.findClass RX12 = some m.cls := findClass_of_methodNamed B.named
  have hlocks := B.notSynchronized
  subst hsz
  have hD := hD0.self (sz := s.heap.size)
  generalize hAe : va_A (mW o a t i q c d) s.heap.size = A at hD ⊢
  have hA : ∀ q : Nat, s.heap.size ≤ q → A q := fun q h => by rw [← hAe]; exact Or.inr h
  have hS : va_S A s.heap s.heap [] := va_S.rf
  have hfi : ∀ k, k ∉ ([] : List Nat) → i k = i k := fun _ _ => rfl
  have hfc : ∀ k, k ∉ ([] : List Nat) → c k = c k := fun _ _ => rfl
  have hl := lv_entry ([.ref o, .int w2]) (n := 3) (Nat.le_of_ble_eq_true rfl)
  rw [lg_entry_eq]
  generalize (lg_sl ([.ref o, .int w2]) ++ List.replicate (3 - (lg_sl ([.ref o, .int w2])).length) Slot.unset).toArray = ls at hl ⊢
  have hl : lv_has ls 3 [(0, .ref o), (1, .int w2)] := hl
  have rb8_i : 0 ≤ (i 8).toInt ∧ (i 8).toInt ≤ 200 := hI.1 8
  have rb15_i : 0 ≤ (i 15).toInt ∧ (i 15).toInt ≤ 200 := hI.1 15
  refine lv_iconst (v := 0) hx hb dX12_isKeyBarred_0 (by decide +kernel) ?_
  refine lv_istore_n (lv' := [(2, .int 0), (0, .ref o), (1, .int w2)]) hx hb dX12_isKeyBarred_1 rfl hl (by decide +kernel) rfl (fun ls hl => ?_)
  have lp1 : ∀ (fu : Nat) (i1 : Nat → Int32) (q1 : Int64) (c1 : Nat → Nat → Int32) (d1 : Nat → Nat → Int64) (y1_2 : Int32), mInv i1 c1 → (∀ k, k ∉ ([15] : List Nat) → i1 k = i k) → (∀ k, k ∉ ([14] : List Nat) → c1 k = c k) → (0 ≤ y1_2.toInt ∧ y1_2.toInt ≤ 200 ∧ y1_2.toInt ≤ (i 8).toInt) → (((i1 15) : Int32).toInt ≤ y1_2.toInt) → (CN (KB (c 9) (c 11) (c 13) w2.toInt) y1_2.toInt ((i1 15) : Int32).toInt) → (200 - y1_2.toInt).toNat < fu → ∀ (H : Heap) (locs : List Loc) (ls : Array Slot), va_P D vwCl (mW o a t i1 q1 c1 d1) H → va_D A (mW o a t i1 q1 c1 d1) → va_S A s.heap H locs → lv_has ls 3 [(2, .int y1_2), (0, .ref o), (1, .int w2)] → W p l e (headSpec wm_X12_isKeyBarred ({ frames := 1, cells := 0, slots := 0, locals := 21 })).room s m ([.ref o, .int w2] : List Value).toArray below meth cd H locs 0 0 (MQ below (va_Qi (fun (r : Int32) (u : MS) => ((0 ≤ r.toInt ∧ r.toInt ≤ 1) ∧ (Sm r (∃ s : Nat, (s : Int) < (i 8).toInt ∧ KB (c 9) (c 11) (c 13) w2.toInt s))) ∧ mInv u.1 u.2.2.1 ∧ (∀ k, k ∉ ([15] : List Nat) → u.1 k = i k) ∧ (∀ k, k ∉ ([14] : List Nat) → u.2.2.1 k = c k)) (oC D A (fun u : MS => mW o a t u.1 u.2.1 u.2.2.1 u.2.2.2) (fun _ => [])) A) ([.ref o, .int w2] : List Value).toArray s 0 0 A) (F0 m 2 ls []) := by
    intro fu
    induction fu with
    | zero => intro i1 q1 c1 d1 y1_2 hI hfi hfc hy1_2 hz1_0 hz1_1 hm; exact absurd hm (Nat.not_lt_zero _)
    | succ fu ih =>
      intro i1 q1 c1 d1 y1_2 hI hfi hfc hy1_2 hz1_0 hz1_1 hm H locs ls hP hD hS hl
      have ih1 := ih
      refine lv_iload_n hx hb dX12_isKeyBarred_2 rfl (lv_at hl 0 rfl) ?_
      refine lv_aload_n hx hb dX12_isKeyBarred_3 rfl (lv_at hl 1 rfl) ?_
      refine mget_8 (v := (i1 8)) rfl hx hb hts (fun _ h => List.mem_cons_of_mem _ (List.mem_append_right _ h)) hown hK hP (hts (.fieldLink RX12 202 "TalePlayModel" "sentences" "I") (List.mem_cons_of_mem _ (List.mem_append_left _ (List.mem_of_getElem? (i := 0) rfl)))) dX12_isKeyBarred_4 ?_
      have rb8_i1 : 0 ≤ (i1 8).toInt ∧ (i1 8).toInt ≤ 200 := hI.1 8
      have re8_i1 : (i1 8).toInt = (i 8).toInt := congrArg Int32.toInt (hfi 8 (by decide +kernel))
      refine lv_icmp_ge (tgt := 51) hx hb dX12_isKeyBarred_7 (by decide +kernel) (fun c2 => ?_) (fun c2 => ?_)
      · have f2 := (ti_le (a := (i1 8).toInt) (b := y1_2.toInt) rfl rfl).mp c2
        refine lv_aload_n hx hb dX12_isKeyBarred_51 rfl (lv_at hl 1 rfl) ?_
        refine mget_15 (v := (i1 15)) rfl hx hb hts (fun _ h => List.mem_cons_of_mem _ (List.mem_append_right _ h)) hown hK hP (hts (.fieldLink RX12 205 "TalePlayModel" "rowMany" "I") (List.mem_cons_of_mem _ (List.mem_append_left _ (List.mem_of_getElem? (i := 1) rfl)))) dX12_isKeyBarred_52 ?_
        have rb15_i1 : 0 ≤ (i1 15).toInt ∧ (i1 15).toInt ≤ 200 := hI.1 15
        refine lv_if_le (tgt := 62) hx hb dX12_isKeyBarred_55 (by decide +kernel) (fun c3 => ?_) (fun c3 => ?_)
        · have f3 := (ti_le (a := (i1 15).toInt) (b := 0) rfl (by decide +kernel)).mp c3
          refine lv_iconst (v := 0) hx hb dX12_isKeyBarred_62 (by decide +kernel) ?_
          exact rw_zret (i1, q1, c1, d1) hx hb hr hlocks hS (hK.sub (tys' := []) [] rfl) hP hD rfl dX12_isKeyBarred_63 ⟨⟨(show 0 ≤ (0 : Int32).toInt ∧ (0 : Int32).toInt ≤ 1 from by decide +kernel), (show Sm (0 : Int32) (∃ s : Nat, (s : Int) < (i 8).toInt ∧ KB (c 9) (c 11) (c 13) w2.toInt s) from sm_0 (by rw [show (i 8).toInt = y1_2.toInt by omega]; exact CN_z hz1_1 (by omega)))⟩, hI, fr_w hfi (by decide +kernel), fr_w hfc (by decide +kernel)⟩
        · have f3 := mt (ti_le (a := (i1 15).toInt) (b := 0) rfl (by decide +kernel)).mpr c3
          refine lv_iconst (v := 1) hx hb dX12_isKeyBarred_58 (by decide +kernel) ?_
          refine lv_goto (tgt := 63) hx hb dX12_isKeyBarred_59 (by decide +kernel) ?_
          exact rw_zret (i1, q1, c1, d1) hx hb hr hlocks hS (hK.sub (tys' := []) [] rfl) hP hD rfl dX12_isKeyBarred_63 ⟨⟨(show 0 ≤ (1 : Int32).toInt ∧ (1 : Int32).toInt ≤ 1 from by decide +kernel), (show Sm (1 : Int32) (∃ s : Nat, (s : Int) < (i 8).toInt ∧ KB (c 9) (c 11) (c 13) w2.toInt s) from sm_1 (by rw [show (i 8).toInt = y1_2.toInt by omega]; exact CN_p hz1_1 (by omega)))⟩, hI, fr_w hfi (by decide +kernel), fr_w hfc (by decide +kernel)⟩
      · have f2 := mt (ti_le (a := (i1 8).toInt) (b := y1_2.toInt) rfl rfl).mpr c2
        refine lv_aload_n hx hb dX12_isKeyBarred_10 rfl (lv_at hl 1 rfl) ?_
        refine mget_13 hx hb hts (fun _ h => List.mem_cons_of_mem _ (List.mem_append_right _ h)) hown hK hP (hts (.fieldLink RX12 37 "TalePlayModel" "isSaid" "[Z") (List.mem_cons_of_mem _ (List.mem_append_left _ (List.mem_of_getElem? (i := 2) rfl)))) dX12_isKeyBarred_11 ?_
        refine lv_iload_n hx hb dX12_isKeyBarred_14 rfl (lv_at hl 0 rfl) ?_
        refine mld_13 hx hb hK hP (vp_in_iff.mpr (by have h9 : y1_2.toInt = y1_2.toInt := rfl; omega)) dX12_isKeyBarred_15 (fun x4 ex4 => ?_)
        have rx4 : 0 ≤ x4.toInt ∧ x4.toInt ≤ 1 := by rw [ex4]; exact hI.2 13 _
        have gx4 : (c 13 (y1_2 : Int32).toNatClampNeg).toInt = x4.toInt := by rw [ex4, show c1 13 = c 13 from hfc 13 (by decide +kernel)]
        refine lv_if_eq (tgt := 45) hx hb dX12_isKeyBarred_16 (by decide +kernel) (fun c5 => ?_) (fun c5 => ?_)
        · have f5 := (ti_eq (a := x4.toInt) (b := 0) rfl (by decide +kernel)).mp c5
          obtain ⟨x6, ex6⟩ : ∃ y : Int32, y = y1_2 + 1 := ⟨_, rfl⟩
          have tx6 := ti_add (a := y1_2.toInt) (b := 1) ex6 rfl (by decide +kernel) (by omega) (by omega)
          refine lv_iinc (v := x6) (lv' := [(2, .int x6), (0, .ref o), (1, .int w2)]) hx hb dX12_isKeyBarred_45 hl (k := 0) rfl (by rw [ex6]; rfl) (by decide +kernel) rfl (fun ls hl => ?_)
          refine lv_goto (tgt := 2) hx hb dX12_isKeyBarred_48 (by decide +kernel) ?_
          exact ih1 i1 q1 c1 d1 x6 hI (fr_w hfi (by decide +kernel)) (fr_w hfc (by decide +kernel)) (show 0 ≤ x6.toInt ∧ x6.toInt ≤ 200 ∧ x6.toInt ≤ (i 8).toInt from by have h50 : x6.toInt = (y1_2.toInt + 1) := tx6; omega) (show ((i1 15) : Int32).toInt ≤ x6.toInt from by have h50 : x6.toInt = (y1_2.toInt + 1) := tx6; omega) (show CN (KB (c 9) (c 11) (c 13) w2.toInt) x6.toInt ((i1 15) : Int32).toInt from CN_n hz1_1 (by omega) (by unfold KB; omega) tx6) (by have h50 : x6.toInt = (y1_2.toInt + 1) := tx6; omega) _ _ _ hP hD hS (lv_sub hl [0, 1, 2] rfl)
        · have f5 := mt (ti_eq (a := x4.toInt) (b := 0) rfl (by decide +kernel)).mpr c5
          refine lv_aload_n hx hb dX12_isKeyBarred_19 rfl (lv_at hl 1 rfl) ?_
          refine mget_9 hx hb hts (fun _ h => List.mem_cons_of_mem _ (List.mem_append_right _ h)) hown hK hP (hts (.fieldLink RX12 25 "TalePlayModel" "form" "[I") (List.mem_cons_of_mem _ (List.mem_append_left _ (List.mem_of_getElem? (i := 3) rfl)))) dX12_isKeyBarred_20 ?_
          refine lv_iload_n hx hb dX12_isKeyBarred_23 rfl (lv_at hl 0 rfl) ?_
          refine mld_9 hx hb hK hP (vp_in_iff.mpr (by have h9 : y1_2.toInt = y1_2.toInt := rfl; omega)) dX12_isKeyBarred_24 (fun x7 ex7 => ?_)
          have rx7 : 0 ≤ x7.toInt ∧ x7.toInt ≤ 7 := by rw [ex7]; exact hI.2 9 _
          have gx7 : (c 9 (y1_2 : Int32).toNatClampNeg).toInt = x7.toInt := by rw [ex7, show c1 9 = c 9 from hfc 9 (by decide +kernel)]
          refine lv_bipush (v := 7) hx hb dX12_isKeyBarred_25 (by decide +kernel) ?_
          refine lv_icmp_ne (tgt := 45) hx hb dX12_isKeyBarred_27 (by decide +kernel) (fun c8 => ?_) (fun c8 => ?_)
          · have f8 := mt (ti_eq (a := x7.toInt) (b := 7) rfl (by decide +kernel)).mpr c8
            obtain ⟨x9, ex9⟩ : ∃ y : Int32, y = y1_2 + 1 := ⟨_, rfl⟩
            have tx9 := ti_add (a := y1_2.toInt) (b := 1) ex9 rfl (by decide +kernel) (by omega) (by omega)
            refine lv_iinc (v := x9) (lv' := [(2, .int x9), (0, .ref o), (1, .int w2)]) hx hb dX12_isKeyBarred_45 hl (k := 0) rfl (by rw [ex9]; rfl) (by decide +kernel) rfl (fun ls hl => ?_)
            refine lv_goto (tgt := 2) hx hb dX12_isKeyBarred_48 (by decide +kernel) ?_
            exact ih1 i1 q1 c1 d1 x9 hI (fr_w hfi (by decide +kernel)) (fr_w hfc (by decide +kernel)) (show 0 ≤ x9.toInt ∧ x9.toInt ≤ 200 ∧ x9.toInt ≤ (i 8).toInt from by have h50 : x9.toInt = (y1_2.toInt + 1) := tx9; omega) (show ((i1 15) : Int32).toInt ≤ x9.toInt from by have h50 : x9.toInt = (y1_2.toInt + 1) := tx9; omega) (show CN (KB (c 9) (c 11) (c 13) w2.toInt) x9.toInt ((i1 15) : Int32).toInt from CN_n hz1_1 (by omega) (by unfold KB; omega) tx9) (by have h50 : x9.toInt = (y1_2.toInt + 1) := tx9; omega) _ _ _ hP hD hS (lv_sub hl [0, 1, 2] rfl)
          · have f8 := (ti_eq (a := x7.toInt) (b := 7) rfl (by decide +kernel)).mp c8
            refine lv_aload_n hx hb dX12_isKeyBarred_30 rfl (lv_at hl 1 rfl) ?_
            refine mget_11 hx hb hts (fun _ h => List.mem_cons_of_mem _ (List.mem_append_right _ h)) hown hK hP (hts (.fieldLink RX12 31 "TalePlayModel" "middle" "[I") (List.mem_cons_of_mem _ (List.mem_append_left _ (List.mem_of_getElem? (i := 4) rfl)))) dX12_isKeyBarred_31 ?_
            refine lv_iload_n hx hb dX12_isKeyBarred_34 rfl (lv_at hl 0 rfl) ?_
            refine mld_11 hx hb hK hP (vp_in_iff.mpr (by have h9 : y1_2.toInt = y1_2.toInt := rfl; omega)) dX12_isKeyBarred_35 (fun x10 ex10 => ?_)
            have rx10 : 0 ≤ x10.toInt ∧ x10.toInt ≤ 29 := by rw [ex10]; exact hI.2 11 _
            have gx10 : (c 11 (y1_2 : Int32).toNatClampNeg).toInt = x10.toInt := by rw [ex10, show c1 11 = c 11 from hfc 11 (by decide +kernel)]
            refine lv_iload_n hx hb dX12_isKeyBarred_36 rfl (lv_at hl 2 rfl) ?_
            refine lv_icmp_ne (tgt := 45) hx hb dX12_isKeyBarred_37 (by decide +kernel) (fun c11 => ?_) (fun c11 => ?_)
            · have f11 := mt (ti_eq (a := x10.toInt) (b := w2.toInt) rfl rfl).mpr c11
              obtain ⟨x12, ex12⟩ : ∃ y : Int32, y = y1_2 + 1 := ⟨_, rfl⟩
              have tx12 := ti_add (a := y1_2.toInt) (b := 1) ex12 rfl (by decide +kernel) (by omega) (by omega)
              refine lv_iinc (v := x12) (lv' := [(2, .int x12), (0, .ref o), (1, .int w2)]) hx hb dX12_isKeyBarred_45 hl (k := 0) rfl (by rw [ex12]; rfl) (by decide +kernel) rfl (fun ls hl => ?_)
              refine lv_goto (tgt := 2) hx hb dX12_isKeyBarred_48 (by decide +kernel) ?_
              exact ih1 i1 q1 c1 d1 x12 hI (fr_w hfi (by decide +kernel)) (fr_w hfc (by decide +kernel)) (show 0 ≤ x12.toInt ∧ x12.toInt ≤ 200 ∧ x12.toInt ≤ (i 8).toInt from by have h50 : x12.toInt = (y1_2.toInt + 1) := tx12; omega) (show ((i1 15) : Int32).toInt ≤ x12.toInt from by have h50 : x12.toInt = (y1_2.toInt + 1) := tx12; omega) (show CN (KB (c 9) (c 11) (c 13) w2.toInt) x12.toInt ((i1 15) : Int32).toInt from CN_n hz1_1 (by omega) (by unfold KB; omega) tx12) (by have h50 : x12.toInt = (y1_2.toInt + 1) := tx12; omega) _ _ _ hP hD hS (lv_sub hl [0, 1, 2] rfl)
            · have f11 := (ti_eq (a := x10.toInt) (b := w2.toInt) rfl rfl).mp c11
              refine lv_aload_n hx hb dX12_isKeyBarred_40 rfl (lv_at hl 1 rfl) ?_
              refine lv_iload_n hx hb dX12_isKeyBarred_41 rfl (lv_at hl 0 rfl) ?_
              have rb15_i1 : 0 ≤ (i1 15).toInt ∧ (i1 15).toInt ≤ 200 := hI.1 15
              refine al_callv (va_runV (As := [.int y1_2]) (rest := []) ⟨hx, hb, hml, hown, hts⟩ (s_X12_clashes l D H.size o a t i1 q1 c1 d1 y1_2 hI (show 0 ≤ y1_2.toInt ∧ y1_2.toInt ≤ 199 from by omega) (show ((i1 15) : Int32).toInt ≤ 199 from by omega)) (cwV 1 hts gm_X12_isKeyBarred_X12_clashes rfl rfl rfl (by decide +kernel) ⟨Nat.le_of_ble_eq_true rfl, Nat.le_of_ble_eq_true rfl⟩) (pB_V hK hP hD (ci := 12) (q0 := 0) rfl rfl) rfl rfl hl.1 rfl (lv_room (Nat.le_of_ble_eq_true rfl)) dX12_isKeyBarred_42 ⟨Nat.le_of_ble_eq_true rfl, Nat.le_of_ble_eq_true rfl⟩) hS hA hP hD (fun u13 H locs hw13 hP hD hS => ?_)
              obtain ⟨i13, q13, c13, d13⟩ := u13
              have hw13 : True ∧ mInv i13 c13 ∧ (∀ k, k ∉ ([15] : List Nat) → i13 k = i1 k) ∧ (∀ k, k ∉ ([14] : List Nat) → c13 k = c1 k) ∧ ((i13 15).toInt = (i1 15).toInt + 1) := hw13
              obtain ⟨hw13, hI, hei13, hec13, hxp13_0⟩ := hw13
              have hxp13_0 : (i13 15).toInt = (i1 15).toInt + 1 := hxp13_0
              have hfi : ∀ k, k ∉ ([15] : List Nat) → i13 k = i k := fr_z hfi hei13 (by decide +kernel) (by decide +kernel)
              have hfc : ∀ k, k ∉ ([14] : List Nat) → c13 k = c k := fr_z hfc hec13 (by decide +kernel) (by decide +kernel)
              have hP : va_P D vwCl (mW o a t i13 q13 c13 d13) H := hP
              have hD : va_D A (mW o a t i13 q13 c13 d13) := hD
              obtain ⟨x14, ex14⟩ : ∃ y : Int32, y = y1_2 + 1 := ⟨_, rfl⟩
              have tx14 := ti_add (a := y1_2.toInt) (b := 1) ex14 rfl (by decide +kernel) (by omega) (by omega)
              refine lv_iinc (v := x14) (lv' := [(2, .int x14), (0, .ref o), (1, .int w2)]) hx hb dX12_isKeyBarred_45 hl (k := 0) rfl (by rw [ex14]; rfl) (by decide +kernel) rfl (fun ls hl => ?_)
              refine lv_goto (tgt := 2) hx hb dX12_isKeyBarred_48 (by decide +kernel) ?_
              exact ih1 i13 q13 c13 d13 x14 hI (fr_w hfi (by decide +kernel)) (fr_w hfc (by decide +kernel)) (show 0 ≤ x14.toInt ∧ x14.toInt ≤ 200 ∧ x14.toInt ≤ (i 8).toInt from by have h50 : x14.toInt = (y1_2.toInt + 1) := tx14; omega) (show ((i13 15) : Int32).toInt ≤ x14.toInt from by have h50 : x14.toInt = (y1_2.toInt + 1) := tx14; omega) (show CN (KB (c 9) (c 11) (c 13) w2.toInt) x14.toInt ((i13 15) : Int32).toInt from CN_y hz1_1 (by omega) (by unfold KB; omega) tx14 (Or.inl hxp13_0)) (by have h50 : x14.toInt = (y1_2.toInt + 1) := tx14; omega) _ _ _ hP hD hS (lv_sub hl [0, 1, 2] rfl)
  exact lp1 _ i q c d (0 : Int32) hI (fr_w hfi (by decide +kernel)) (fr_w hfc (by decide +kernel)) (show 0 ≤ (0 : Int32).toInt ∧ (0 : Int32).toInt ≤ 200 ∧ (0 : Int32).toInt ≤ (i 8).toInt from by have h50 : (0 : Int32).toInt = 0 := (by decide +kernel); omega) (show ((i 15) : Int32).toInt ≤ (0 : Int32).toInt from by have h50 : (0 : Int32).toInt = 0 := (by decide +kernel); omega) (show CN (KB (c 9) (c 11) (c 13) w2.toInt) (0 : Int32).toInt ((i 15) : Int32).toInt from CN_0 (by decide +kernel) (by omega)) (Nat.lt_succ_self _) _ _ _ hP hD hS (lv_sub hl [0, 1, 2] rfl)

set_option maxHeartbeats 4000000 in
set_option maxRecDepth 100000 in
theorem s_X12_say_e (l : Launch) (D : va_G) (sz : Nat) (o : Nat) (a : Nat → Nat) (t : Nat → ClassId) (i : Nat → Int32) (q : Int64) (c : Nat → Nat → Int32) (d : Nat → Nat → Int64) (f : Int32) (w1 : Int32) (w2 : Int32) (w3 : Int32) (hI : mInv i c) (hs_S : SJ (c 3) (c 6) (c 9) (c 10) (c 11) (c 13) (i 2).toInt (i 5).toInt (i 8).toInt) (hs_J : TJ (c 3) (c 6) (c 23) (c 24) (c 29) (c 30) (i 5).toInt (i 22).toInt (i 27).toInt) : Met l yX12_say wm_X12_say ({ frames := 5, cells := 0, slots := 0, locals := 110 }) (va_Pc [.ref o, .int f, .int w1, .int w2, .int w3] (pB D sz (mW o a t i q c d) (mT t))) (va_Qi (fun (r : Int32) (u : MS) => True ∧ mInv u.1 u.2.2.1 ∧ (∀ k, k ∉ ([0, 8, 15, 22, 27] : List Nat) → u.1 k = i k) ∧ (∀ k, k ∉ ([1, 9, 10, 11, 12, 13, 14] : List Nat) → u.2.2.1 k = c k) ∧ (SJ (u.2.2.1 3) (u.2.2.1 6) (u.2.2.1 9) (u.2.2.1 10) (u.2.2.1 11) (u.2.2.1 13) (u.1 2).toInt (u.1 5).toInt (u.1 8).toInt) ∧ (TJ (u.2.2.1 3) (u.2.2.1 6) (u.2.2.1 23) (u.2.2.1 24) (u.2.2.1 29) (u.2.2.1 30) (u.1 5).toInt (u.1 22).toInt (u.1 27).toInt) ∧ (SyW (AcM (c 9) (c 10) (c 11) (c 12) (c 13) (i 8).toInt (i 5).toInt (kS (c 3) (c 6) w1.toInt) (kS (c 3) (c 6) w2.toInt) f.toInt w1.toInt w2.toInt w3.toInt (lI f w3).toInt) (c 9) (c 10) (c 11) (c 12) (c 13) (u.2.2.1 9) (u.2.2.1 10) (u.2.2.1 11) (u.2.2.1 12) (u.2.2.1 13) (i 8) (u.1 8) f w1 w2 (lI f w3))) (oC D (va_A (mW o a t i q c d) sz) (fun u : MS => mW o a t u.1 u.2.1 u.2.2.1 u.2.2.2) (fun _ => [])) (va_A (mW o a t i q c d) sz)) 0 0 (va_A (mW o a t i q c d) sz) := by
  refine Met.ofW (cc := cX12_say) (maxL := 9) (ret := (some .int)) (by decide +kernel) rfl ?_
  intro p e s m args below meth cd s₁ B hml hv
  obtain ⟨rfl, hsz, hP, hK, hD0⟩ := hv
  have hx := B.exec
  have hb := B.bytes
  have hr := B.returns
  have hts := atoms_spec (ws := wm_X12_say) B.pre
  have hown : s.vm.findClass RX12 = some m.cls := findClass_of_methodNamed B.named
  have hlocks := B.notSynchronized
  subst hsz
  have hD := hD0.self (sz := s.heap.size)
  generalize hAe : va_A (mW o a t i q c d) s.heap.size = A at hD ⊢
  have hA : ∀ q : Nat, s.heap.size ≤ q → A q := fun q h => by rw [← hAe]; exact Or.inr h
  have hS : va_S A s.heap s.heap [] := va_S.rf
  have hfi : ∀ k, k ∉ ([] : List Nat) → i k = i k := fun _ _ => rfl
  have hfc : ∀ k, k ∉ ([] : List Nat) → c k = c k := fun _ _ => rfl
  have hl := lv_entry ([.ref o, .int f, .int w1, .int w2, .int w3]) (n := 9) (Nat.le_of_ble_eq_true rfl)
  rw [lg_entry_eq]
  generalize (lg_sl ([.ref o, .int f, .int w1, .int w2, .int w3]) ++ List.replicate (9 - (lg_sl ([.ref o, .int f, .int w1, .int w2, .int w3])).length) Slot.unset).toArray = ls at hl ⊢
  have hl : lv_has ls 9 [(0, .ref o), (1, .int f), (2, .int w1), (3, .int w2), (4, .int w3)] := hl
  have hI0 := hI
  have rb5_i : 0 ≤ (i 5).toInt ∧ (i 5).toInt ≤ 30 := hI.1 5
  have rb8_i : 0 ≤ (i 8).toInt ∧ (i 8).toInt ≤ 200 := hI.1 8
  refine lv_aload_n hx hb dX12_say_0 rfl (lv_at hl 0 rfl) ?_
  refine lv_iconst (v := 0) hx hb dX12_say_1 (by decide +kernel) ?_
  refine mput_15 hx hb hts (fun _ h => List.mem_cons_of_mem _ (List.mem_append_right _ h)) hown hK hP hD hS (hts (.fieldLink RX12 205 "TalePlayModel" "rowMany" "I") (List.mem_cons_of_mem _ (List.mem_append_left _ (List.mem_append_left _ (List.mem_of_getElem? (i := 0) rfl))))) rfl rfl dX12_say_2 (fun H locs hP hD hS => ?_)
  have hI := mInv_i hI (k := 15) (v := 0) (show 0 ≤ (0 : Int32).toInt ∧ (0 : Int32).toInt ≤ 200 from by decide +kernel)
  have hfi : ∀ k, k ∉ ([15] : List Nat) → (upd i 15 0) k = i k := fr_iz hfi (by decide +kernel) (by decide +kernel)
  refine lv_iload_n hx hb dX12_say_5 rfl (lv_at hl 1 rfl) ?_
  refine lv_i2l (v := f.toInt64) hx hb dX12_say_6 rfl ?_
  refine lv_lconst (v := 0) hx hb dX12_say_7 (by decide +kernel) ?_
  refine lv_ldc2 (v := 7) hx hb hown (hts (.constantLong RX12 220 (7)) (List.mem_cons_of_mem _ (List.mem_append_left _ (List.mem_append_left _ (List.mem_of_getElem? (i := 1) rfl))))) dX12_say_8 ?_
  have hPc := hP.sub (ws' := []) [] rfl
  have hKc := hK.sub (tys' := []) [] rfl
  refine ro_calli (va_runS (As := [.long f.toInt64, .long 0, .long 7]) (rest := []) ⟨hx, hb, hml, hown, hts⟩ (c_X12_in l D H.size f.toInt64 0 7 f.toInt 0 7 ((Int32.toInt_toInt64 f).trans rfl) (by decide +kernel) (by decide +kernel)) (va_cwS 3 hts gm_X12_say_X12_in rfl rfl rfl (by decide +kernel) ⟨Nat.le_of_ble_eq_true rfl, Nat.le_of_ble_eq_true rfl⟩) (pA_S hKc hPc) rfl rfl hl.1 rfl (lv_room (Nat.le_of_ble_eq_true rfl)) dX12_say_11 ⟨Nat.le_of_ble_eq_true rfl, Nat.le_of_ble_eq_true rfl⟩) hS hA hP (fun r1 u1 H locs hw1 hP hS => ?_)
  have hw1 : r1 = if (0 ≤ f.toInt ∧ f.toInt ≤ 7) then 1 else 0 := hw1
  refine lv_if_eq (tgt := 29) hx hb dX12_say_14 (by decide +kernel) (fun c2 => ?_) (fun c2 => ?_)
  · have f2 := fl_f hw1 c2
    refine lv_iconst (v := (-1)) hx hb dX12_say_29 (by decide +kernel) ?_
    exact rw_iret ((upd i 15 0), q, c, d) hx hb hr hlocks hS (hK.sub (tys' := []) [] rfl) hP hD dX12_say_30 ⟨trivial, hI, fr_w hfi (by decide +kernel), fr_w hfc (by decide +kernel), (show SJ (c 3) (c 6) (c 9) (c 10) (c 11) (c 13) ((i 2) : Int32).toInt ((i 5) : Int32).toInt ((i 8) : Int32).toInt from hs_S), (show TJ (c 3) (c 6) (c 23) (c 24) (c 29) (c 30) ((i 5) : Int32).toInt ((i 22) : Int32).toInt ((i 27) : Int32).toInt from hs_J), (show SyW (AcM (c 9) (c 10) (c 11) (c 12) (c 13) (i 8).toInt (i 5).toInt (kS (c 3) (c 6) w1.toInt) (kS (c 3) (c 6) w2.toInt) f.toInt w1.toInt w2.toInt w3.toInt (lI f w3).toInt) (c 9) (c 10) (c 11) (c 12) (c 13) (c 9) (c 10) (c 11) (c 12) (c 13) (i 8) ((i 8) : Int32) f w1 w2 (lI f w3) from Or.inl ⟨fun h9 => by have h8 := h9.1; unfold WF at h8; omega, rfl, rfl, rfl, rfl, rfl, by first | rfl | rw [show (upd i 15 0) 8 = i 8 from hfi 8 (by decide +kernel)]⟩)⟩
  · have f2 := fl_t hw1 c2
    refine lv_aload_n hx hb dX12_say_17 rfl (lv_at hl 0 rfl) ?_
    refine lv_iload_n hx hb dX12_say_18 rfl (lv_at hl 1 rfl) ?_
    refine lv_iload_n hx hb dX12_say_19 rfl (lv_at hl 2 rfl) ?_
    refine lv_iload_n hx hb dX12_say_20 rfl (lv_at hl 3 rfl) ?_
    refine lv_iload hx hb dX12_say_21 (lv_at hl 4 rfl) ?_
    refine ro_calli (va_runV (As := [.int f, .int w1, .int w2, .int w3]) (rest := []) ⟨hx, hb, hml, hown, hts⟩ (s_X12_areNumbers_e l D H.size o a t (upd i 15 0) q c d f w1 w2 w3 hI (show 0 ≤ f.toInt ∧ f.toInt ≤ 7 from by have h60 : (0 : Int32).toInt = 0 := (by decide +kernel); omega)) (cwV 4 hts gm_X12_say_X12_areNumbers rfl rfl rfl (by decide +kernel) ⟨Nat.le_of_ble_eq_true rfl, Nat.le_of_ble_eq_true rfl⟩) (pA_V hK hP (ci := 12) (q0 := 0) rfl rfl) rfl rfl hl.1 rfl (lv_room (Nat.le_of_ble_eq_true rfl)) dX12_say_23 ⟨Nat.le_of_ble_eq_true rfl, Nat.le_of_ble_eq_true rfl⟩) hS hA hP (fun r3 u3 H locs hw3 hP hS => ?_)
    have hw3 : ((0 ≤ r3.toInt ∧ r3.toInt ≤ 1) ∧ (Sm r3 (WF f.toInt w1.toInt w2.toInt w3.toInt ((upd i 15 0) 5).toInt))) := hw3
    obtain ⟨hw3, hr3_0⟩ := hw3
    have hr3_0 : Sm r3 (WF f.toInt w1.toInt w2.toInt w3.toInt (i 5).toInt) := by have h9 := hr3_0; rw [show (upd i 15 0) 5 = i 5 from hfi 5 (by decide +kernel)] at h9; exact h9
    refine lv_if_ne (tgt := 31) hx hb dX12_say_26 (by decide +kernel) (fun c4 => ?_) (fun c4 => ?_)
    · have f4 := mt (ti_eq (a := r3.toInt) (b := 0) rfl (by decide +kernel)).mpr c4
      have s4 := sm_t hr3_0 c4
      have hWF : WF f.toInt w1.toInt w2.toInt w3.toInt (i 5).toInt := s4
      have hWF2 := hWF
      unfold WF at hWF2
      refine lv_iload_n hx hb dX12_say_31 rfl (lv_at hl 1 rfl) ?_
      refine lv_iconst (v := 5) hx hb dX12_say_32 (by decide +kernel) ?_
      have jn5 : ∀ (z5_0 : Int32), (0 ≤ z5_0.toInt ∧ z5_0.toInt ≤ 9) → (z5_0 = lI f w3) → ∀ (H : Heap) (locs : List Loc) (ls : Array Slot), va_P D vwCl (mW o a t (upd i 15 0) q c d) H → va_D A (mW o a t (upd i 15 0) q c d) → va_S A s.heap H locs → lv_has ls 9 [(0, .ref o), (1, .int f), (2, .int w1), (3, .int w2), (4, .int w3)] → W p l e (headSpec wm_X12_say ({ frames := 5, cells := 0, slots := 0, locals := 110 })).room s m ([.ref o, .int f, .int w1, .int w2, .int w3] : List Value).toArray below meth cd H locs 0 0 (MQ below (va_Qi (fun (r : Int32) (u : MS) => True ∧ mInv u.1 u.2.2.1 ∧ (∀ k, k ∉ ([0, 8, 15, 22, 27] : List Nat) → u.1 k = i k) ∧ (∀ k, k ∉ ([1, 9, 10, 11, 12, 13, 14] : List Nat) → u.2.2.1 k = c k) ∧ (SJ (u.2.2.1 3) (u.2.2.1 6) (u.2.2.1 9) (u.2.2.1 10) (u.2.2.1 11) (u.2.2.1 13) (u.1 2).toInt (u.1 5).toInt (u.1 8).toInt) ∧ (TJ (u.2.2.1 3) (u.2.2.1 6) (u.2.2.1 23) (u.2.2.1 24) (u.2.2.1 29) (u.2.2.1 30) (u.1 5).toInt (u.1 22).toInt (u.1 27).toInt) ∧ (SyW (AcM (c 9) (c 10) (c 11) (c 12) (c 13) (i 8).toInt (i 5).toInt (kS (c 3) (c 6) w1.toInt) (kS (c 3) (c 6) w2.toInt) f.toInt w1.toInt w2.toInt w3.toInt (lI f w3).toInt) (c 9) (c 10) (c 11) (c 12) (c 13) (u.2.2.1 9) (u.2.2.1 10) (u.2.2.1 11) (u.2.2.1 12) (u.2.2.1 13) (i 8) (u.1 8) f w1 w2 (lI f w3))) (oC D A (fun u : MS => mW o a t u.1 u.2.1 u.2.2.1 u.2.2.2) (fun _ => [])) A) ([.ref o, .int f, .int w1, .int w2, .int w3] : List Value).toArray s 0 0 A) (F0 m 48 ls [.int z5_0]) := by
        intro z5_0 hs5_0 hz5_0 H locs ls hP hD hS hl
        refine lv_istore (lv' := [(5, .int z5_0), (0, .ref o), (1, .int f), (2, .int w1), (3, .int w2), (4, .int w3)]) hx hb dX12_say_48 hl (by decide +kernel) rfl (fun ls hl => ?_)
        refine lv_aload_n hx hb dX12_say_50 rfl (lv_at hl 1 rfl) ?_
        refine lv_iload_n hx hb dX12_say_51 rfl (lv_at hl 2 rfl) ?_
        refine lv_iload_n hx hb dX12_say_52 rfl (lv_at hl 3 rfl) ?_
        refine lv_iload_n hx hb dX12_say_53 rfl (lv_at hl 4 rfl) ?_
        refine ro_calli (va_runV (As := [.int f, .int w1, .int w2]) (rest := []) ⟨hx, hb, hml, hown, hts⟩ (s_X12_fitsLeft_e l D H.size o a t (upd i 15 0) q c d f w1 w2 hI (show 0 ≤ w1.toInt ∧ w1.toInt ≤ 29 from by have h60 : (0 : Int32).toInt = 0 := (by decide +kernel); omega) (show 0 ≤ f.toInt ∧ f.toInt ≤ 7 from by have h60 : (0 : Int32).toInt = 0 := (by decide +kernel); omega) (show ¬ f.toInt = 6 ∨ (0 ≤ w2.toInt ∧ w2.toInt ≤ 5) from by have h60 : (0 : Int32).toInt = 0 := (by decide +kernel); omega)) (cwV 3 hts gm_X12_say_X12_fitsLeft rfl rfl rfl (by decide +kernel) ⟨Nat.le_of_ble_eq_true rfl, Nat.le_of_ble_eq_true rfl⟩) (pA_V hK hP (ci := 12) (q0 := 0) rfl rfl) rfl rfl hl.1 rfl (lv_room (Nat.le_of_ble_eq_true rfl)) dX12_say_54 ⟨Nat.le_of_ble_eq_true rfl, Nat.le_of_ble_eq_true rfl⟩) hS hA hP (fun r6 u6 H locs hw6 hP hS => ?_)
        have hw6 : ((0 ≤ r6.toInt ∧ r6.toInt ≤ 1) ∧ (Sm r6 (FtL f.toInt (kS (c 3) (c 6) w1.toInt) w2.toInt))) := hw6
        obtain ⟨hw6, hr6_0⟩ := hw6
        have hr6_0 : Sm r6 (FtL f.toInt (kS (c 3) (c 6) w1.toInt) w2.toInt) := hr6_0
        have jn7 : ∀ (z7_0 : Int32), (0 ≤ z7_0.toInt ∧ z7_0.toInt ≤ 1) → (Sm z7_0 (Fit f.toInt (kS (c 3) (c 6) w1.toInt) w2.toInt (kS (c 3) (c 6) w2.toInt))) → ∀ (H : Heap) (locs : List Loc) (ls : Array Slot), va_P D vwCl (mW o a t (upd i 15 0) q c d) H → va_D A (mW o a t (upd i 15 0) q c d) → va_S A s.heap H locs → lv_has ls 9 [(5, .int z5_0), (0, .ref o), (1, .int f), (2, .int w1), (3, .int w2), (4, .int w3)] → W p l e (headSpec wm_X12_say ({ frames := 5, cells := 0, slots := 0, locals := 110 })).room s m ([.ref o, .int f, .int w1, .int w2, .int w3] : List Value).toArray below meth cd H locs 0 0 (MQ below (va_Qi (fun (r : Int32) (u : MS) => True ∧ mInv u.1 u.2.2.1 ∧ (∀ k, k ∉ ([0, 8, 15, 22, 27] : List Nat) → u.1 k = i k) ∧ (∀ k, k ∉ ([1, 9, 10, 11, 12, 13, 14] : List Nat) → u.2.2.1 k = c k) ∧ (SJ (u.2.2.1 3) (u.2.2.1 6) (u.2.2.1 9) (u.2.2.1 10) (u.2.2.1 11) (u.2.2.1 13) (u.1 2).toInt (u.1 5).toInt (u.1 8).toInt) ∧ (TJ (u.2.2.1 3) (u.2.2.1 6) (u.2.2.1 23) (u.2.2.1 24) (u.2.2.1 29) (u.2.2.1 30) (u.1 5).toInt (u.1 22).toInt (u.1 27).toInt) ∧ (SyW (AcM (c 9) (c 10) (c 11) (c 12) (c 13) (i 8).toInt (i 5).toInt (kS (c 3) (c 6) w1.toInt) (kS (c 3) (c 6) w2.toInt) f.toInt w1.toInt w2.toInt w3.toInt (lI f w3).toInt) (c 9) (c 10) (c 11) (c 12) (c 13) (u.2.2.1 9) (u.2.2.1 10) (u.2.2.1 11) (u.2.2.1 12) (u.2.2.1 13) (i 8) (u.1 8) f w1 w2 (lI f w3))) (oC D A (fun u : MS => mW o a t u.1 u.2.1 u.2.2.1 u.2.2.2) (fun _ => [])) A) ([.ref o, .int f, .int w1, .int w2, .int w3] : List Value).toArray s 0 0 A) (F0 m 80 ls [.int z7_0]) := by
          intro z7_0 hs7_0 hz7_0 H locs ls hP hD hS hl
          refine lv_istore (lv' := [(6, .int z7_0), (5, .int z5_0), (0, .ref o), (1, .int f), (2, .int w1), (3, .int w2), (4, .int w3)]) hx hb dX12_say_80 hl (by decide +kernel) rfl (fun ls hl => ?_)
          refine lv_iload hx hb dX12_say_82 (lv_at hl 0 rfl) ?_
          refine lv_if_eq (tgt := 99) hx hb dX12_say_84 (by decide +kernel) (fun c8 => ?_) (fun c8 => ?_)
          · have f8 := (ti_eq (a := z7_0.toInt) (b := 0) rfl (by decide +kernel)).mp c8
            have hNF : ¬ Fit f.toInt (kS (c 3) (c 6) w1.toInt) w2.toInt (kS (c 3) (c 6) w2.toInt) := sm_x hz7_0 (by omega)
            refine lv_bipush (v := (-9)) hx hb dX12_say_99 (by decide +kernel) ?_
            refine lv_istore (lv' := [(7, .int (-9)), (6, .int z7_0), (5, .int z5_0), (0, .ref o), (1, .int f), (2, .int w1), (3, .int w2), (4, .int w3)]) hx hb dX12_say_101 hl (by decide +kernel) rfl (fun ls hl => ?_)
            refine lv_iload hx hb dX12_say_103 (lv_at hl 0 rfl) ?_
            refine lv_bipush (v := (-9)) hx hb dX12_say_105 (by decide +kernel) ?_
            refine lv_icmp_eq (tgt := 113) hx hb dX12_say_107 (by decide +kernel) (fun _ => ?_) (fun q9 => absurd (by decide +kernel) q9)
            refine lv_aload_n hx hb dX12_say_113 rfl (lv_at hl 3 rfl) ?_
            refine mget_8 (i := (upd i 15 0)) (v := (i 8)) rfl hx hb hts (fun _ h => List.mem_cons_of_mem _ (List.mem_append_right _ h)) hown hK hP (hts (.fieldLink RX12 202 "TalePlayModel" "sentences" "I") (List.mem_cons_of_mem _ (List.mem_append_left _ (List.mem_append_right _ (List.mem_append_right _ (List.mem_append_left _ (List.mem_of_getElem? (i := 11) rfl))))))) dX12_say_114 ?_
            refine lv_sipush (v := 200) hx hb dX12_say_117 (by decide +kernel) ?_
            refine lv_icmp_ne (tgt := 126) hx hb dX12_say_120 (by decide +kernel) (fun c9 => ?_) (fun c9 => ?_)
            · have f9 := mt (ti_eq (a := (i 8).toInt) (b := 200) rfl (by decide +kernel)).mpr c9
              refine lv_iload hx hb dX12_say_126 (lv_at hl 1 rfl) ?_
              refine lv_if_ne (tgt := 137) hx hb dX12_say_128 (by decide +kernel) (fun c10 => ?_) (fun c10 => ?_)
              · have f10 := mt (ti_eq (a := z7_0.toInt) (b := 0) rfl (by decide +kernel)).mpr c10
                exfalso; omega
              · have f10 := (ti_eq (a := z7_0.toInt) (b := 0) rfl (by decide +kernel)).mp c10
                refine lv_aload_n hx hb dX12_say_131 rfl (lv_at hl 3 rfl) ?_
                refine lv_iconst (v := 3) hx hb dX12_say_132 (by decide +kernel) ?_
                refine al_calli (va_runV (As := [.int 3]) (rest := []) ⟨hx, hb, hml, hown, hts⟩ (s_X12_meets l D H.size o a t (upd i 15 0) q c d 3 hI (show 1 ≤ 3 ∧ 3 ≤ 6 from by decide +kernel)) (cwV 1 hts gm_X12_say_X12_meets rfl rfl rfl (by decide +kernel) ⟨Nat.le_of_ble_eq_true rfl, Nat.le_of_ble_eq_true rfl⟩) (pB_V hK hP hD (ci := 12) (q0 := 0) rfl rfl) rfl rfl hl.1 rfl (lv_room (Nat.le_of_ble_eq_true rfl)) dX12_say_133 ⟨Nat.le_of_ble_eq_true rfl, Nat.le_of_ble_eq_true rfl⟩) hS hA hP hD (fun r11 u11 H locs hw11 hP hD hS => ?_)
                obtain ⟨i11, q11, c11, d11⟩ := u11
                have hw11 : r11 = (-3) ∧ mInv i11 c11 ∧ (∀ k, k ∉ ([0] : List Nat) → i11 k = (upd i 15 0) k) ∧ (∀ k, k ∉ ([1] : List Nat) → c11 k = c k) := hw11
                obtain ⟨hw11, hI, hei11, hec11⟩ := hw11
                have hfi : ∀ k, k ∉ ([0, 15] : List Nat) → i11 k = i k := fr_z hfi hei11 (by decide +kernel) (by decide +kernel)
                have hfc : ∀ k, k ∉ ([1] : List Nat) → c11 k = c k := fr_z hfc hec11 (by decide +kernel) (by decide +kernel)
                have hP : va_P D vwCl (mW o a t i11 q11 c11 d11) H := hP
                have hD : va_D A (mW o a t i11 q11 c11 d11) := hD
                have hw11 : r11 = (-3) := hw11
                subst hw11
                exact rw_iret (i11, q11, c11, d11) hx hb hr hlocks hS (hK.sub (tys' := []) [] rfl) hP hD dX12_say_136 ⟨trivial, hI, fr_w hfi (by decide +kernel), fr_w hfc (by decide +kernel), (show SJ (c11 3) (c11 6) (c11 9) (c11 10) (c11 11) (c11 13) ((i11 2) : Int32).toInt ((i11 5) : Int32).toInt ((i11 8) : Int32).toInt from by rw [show c11 3 = c 3 from hfc 3 (by decide +kernel), show c11 6 = c 6 from hfc 6 (by decide +kernel), show c11 9 = c 9 from hfc 9 (by decide +kernel), show c11 10 = c 10 from hfc 10 (by decide +kernel), show c11 11 = c 11 from hfc 11 (by decide +kernel), show c11 13 = c 13 from hfc 13 (by decide +kernel), show i11 2 = i 2 from hfi 2 (by decide +kernel), show i11 5 = i 5 from hfi 5 (by decide +kernel), show i11 8 = i 8 from hfi 8 (by decide +kernel)]; exact hs_S), (show TJ (c11 3) (c11 6) (c11 23) (c11 24) (c11 29) (c11 30) ((i11 5) : Int32).toInt ((i11 22) : Int32).toInt ((i11 27) : Int32).toInt from by rw [show c11 3 = c 3 from hfc 3 (by decide +kernel), show c11 6 = c 6 from hfc 6 (by decide +kernel), show c11 23 = c 23 from hfc 23 (by decide +kernel), show c11 24 = c 24 from hfc 24 (by decide +kernel), show c11 29 = c 29 from hfc 29 (by decide +kernel), show c11 30 = c 30 from hfc 30 (by decide +kernel), show i11 5 = i 5 from hfi 5 (by decide +kernel), show i11 22 = i 22 from hfi 22 (by decide +kernel), show i11 27 = i 27 from hfi 27 (by decide +kernel)]; exact hs_J), (show SyW (AcM (c 9) (c 10) (c 11) (c 12) (c 13) (i 8).toInt (i 5).toInt (kS (c 3) (c 6) w1.toInt) (kS (c 3) (c 6) w2.toInt) f.toInt w1.toInt w2.toInt w3.toInt (lI f w3).toInt) (c 9) (c 10) (c 11) (c 12) (c 13) (c11 9) (c11 10) (c11 11) (c11 12) (c11 13) (i 8) ((i11 8) : Int32) f w1 w2 (lI f w3) from Or.inl ⟨fun h9 => hNF h9.2.1, hfc 9 (by decide +kernel), hfc 10 (by decide +kernel), hfc 11 (by decide +kernel), hfc 12 (by decide +kernel), hfc 13 (by decide +kernel), by first | rfl | rw [show i11 8 = i 8 from hfi 8 (by decide +kernel)]⟩)⟩
            · have f9 := (ti_eq (a := (i 8).toInt) (b := 200) rfl (by decide +kernel)).mp c9
              refine lv_bipush (v := (-2)) hx hb dX12_say_123 (by decide +kernel) ?_
              exact rw_iret ((upd i 15 0), q, c, d) hx hb hr hlocks hS (hK.sub (tys' := []) [] rfl) hP hD dX12_say_125 ⟨trivial, hI, fr_w hfi (by decide +kernel), fr_w hfc (by decide +kernel), (show SJ (c 3) (c 6) (c 9) (c 10) (c 11) (c 13) ((i 2) : Int32).toInt ((i 5) : Int32).toInt ((i 8) : Int32).toInt from hs_S), (show TJ (c 3) (c 6) (c 23) (c 24) (c 29) (c 30) ((i 5) : Int32).toInt ((i 22) : Int32).toInt ((i 27) : Int32).toInt from hs_J), (show SyW (AcM (c 9) (c 10) (c 11) (c 12) (c 13) (i 8).toInt (i 5).toInt (kS (c 3) (c 6) w1.toInt) (kS (c 3) (c 6) w2.toInt) f.toInt w1.toInt w2.toInt w3.toInt (lI f w3).toInt) (c 9) (c 10) (c 11) (c 12) (c 13) (c 9) (c 10) (c 11) (c 12) (c 13) (i 8) ((i 8) : Int32) f w1 w2 (lI f w3) from Or.inl ⟨fun h9 => hNF h9.2.1, rfl, rfl, rfl, rfl, rfl, by first | rfl | rw [show (upd i 15 0) 8 = i 8 from hfi 8 (by decide +kernel)]⟩)⟩
          · have f8 := mt (ti_eq (a := z7_0.toInt) (b := 0) rfl (by decide +kernel)).mpr c8
            have hFit : Fit f.toInt (kS (c 3) (c 6) w1.toInt) w2.toInt (kS (c 3) (c 6) w2.toInt) := sm_1t hz7_0 (by omega)
            refine lv_aload_n hx hb dX12_say_87 rfl (lv_at hl 2 rfl) ?_
            refine lv_iload_n hx hb dX12_say_88 rfl (lv_at hl 3 rfl) ?_
            refine lv_iload_n hx hb dX12_say_89 rfl (lv_at hl 4 rfl) ?_
            refine lv_iload_n hx hb dX12_say_90 rfl (lv_at hl 5 rfl) ?_
            refine lv_iload hx hb dX12_say_91 (lv_at hl 1 rfl) ?_
            refine ro_calli (va_runV (As := [.int f, .int w1, .int w2, .int z5_0]) (rest := []) ⟨hx, hb, hml, hown, hts⟩ (s_X12_saidSo_e l D H.size o a t (upd i 15 0) q c d f w1 w2 z5_0 hI ) (cwV 4 hts gm_X12_say_X12_saidSo rfl rfl rfl (by decide +kernel) ⟨Nat.le_of_ble_eq_true rfl, Nat.le_of_ble_eq_true rfl⟩) (pA_V hK hP (ci := 12) (q0 := 0) rfl rfl) rfl rfl hl.1 rfl (lv_room (Nat.le_of_ble_eq_true rfl)) dX12_say_93 ⟨Nat.le_of_ble_eq_true rfl, Nat.le_of_ble_eq_true rfl⟩) hS hA hP (fun r12 u12 H locs hw12 hP hS => ?_)
            have hw12 : ((r12.toInt = -9 ∨ (0 ≤ r12.toInt ∧ r12.toInt ≤ 199)) ∧ (r12.toInt = fsF (sE (c 9) (c 10) (c 11) (c 12) (c 13) f.toInt w1.toInt w2.toInt z5_0.toInt) ((upd i 15 0) 8).toInt.toNat)) := hw12
            obtain ⟨hw12, hr12_0⟩ := hw12
            have hr12_0 : r12.toInt = fsF (sE (c 9) (c 10) (c 11) (c 12) (c 13) f.toInt w1.toInt w2.toInt z5_0.toInt) (i 8).toInt.toNat := by have h9 := hr12_0; rw [show (upd i 15 0) 8 = i 8 from hfi 8 (by decide +kernel)] at h9; exact h9
            have hSo : r12.toInt = fsF (sE (c 9) (c 10) (c 11) (c 12) (c 13) f.toInt w1.toInt w2.toInt (lI f w3).toInt) (i 8).toInt.toNat := by have h9 := hr12_0; rw [hz5_0] at h9; exact h9
            refine lv_goto (tgt := 101) hx hb dX12_say_96 (by decide +kernel) ?_
            refine lv_istore (lv' := [(7, .int r12), (6, .int z7_0), (5, .int z5_0), (0, .ref o), (1, .int f), (2, .int w1), (3, .int w2), (4, .int w3)]) hx hb dX12_say_101 hl (by decide +kernel) rfl (fun ls hl => ?_)
            refine lv_iload hx hb dX12_say_103 (lv_at hl 0 rfl) ?_
            refine lv_bipush (v := (-9)) hx hb dX12_say_105 (by decide +kernel) ?_
            refine lv_icmp_eq (tgt := 113) hx hb dX12_say_107 (by decide +kernel) (fun c13 => ?_) (fun c13 => ?_)
            · have f13 := (ti_eq (a := r12.toInt) (b := (-9)) rfl (by decide +kernel)).mp c13
              refine lv_aload_n hx hb dX12_say_113 rfl (lv_at hl 3 rfl) ?_
              refine mget_8 (i := (upd i 15 0)) (v := (i 8)) rfl hx hb hts (fun _ h => List.mem_cons_of_mem _ (List.mem_append_right _ h)) hown hK hP (hts (.fieldLink RX12 202 "TalePlayModel" "sentences" "I") (List.mem_cons_of_mem _ (List.mem_append_left _ (List.mem_append_right _ (List.mem_append_right _ (List.mem_append_left _ (List.mem_of_getElem? (i := 11) rfl))))))) dX12_say_114 ?_
              refine lv_sipush (v := 200) hx hb dX12_say_117 (by decide +kernel) ?_
              refine lv_icmp_ne (tgt := 126) hx hb dX12_say_120 (by decide +kernel) (fun c14 => ?_) (fun c14 => ?_)
              · have f14 := mt (ti_eq (a := (i 8).toInt) (b := 200) rfl (by decide +kernel)).mpr c14
                refine lv_iload hx hb dX12_say_126 (lv_at hl 1 rfl) ?_
                refine lv_if_ne (tgt := 137) hx hb dX12_say_128 (by decide +kernel) (fun c15 => ?_) (fun c15 => ?_)
                · have f15 := mt (ti_eq (a := z7_0.toInt) (b := 0) rfl (by decide +kernel)).mpr c15
                  refine lv_iload_n hx hb dX12_say_137 rfl (lv_at hl 4 rfl) ?_
                  refine lv_iconst (v := 5) hx hb dX12_say_138 (by decide +kernel) ?_
                  have jn16 : ∀ (i16 : Nat → Int32) (q16 : Int64) (c16 : Nat → Nat → Int32) (d16 : Nat → Nat → Int64) (z16_0 : Int32), mInv i16 c16 → (∀ k, k ∉ ([15] : List Nat) → i16 k = i k) → (∀ k, k ∉ ([14] : List Nat) → c16 k = c k) → (0 ≤ z16_0.toInt ∧ z16_0.toInt ≤ 1) → (Sm z16_0 (BaM (c 9) (c 10) (c 11) (c 12) (c 13) (i 8).toInt (kS (c 3) (c 6) w2.toInt) f.toInt w1.toInt w2.toInt (lI f w3).toInt)) → ∀ (H : Heap) (locs : List Loc) (ls : Array Slot), va_P D vwCl (mW o a t i16 q16 c16 d16) H → va_D A (mW o a t i16 q16 c16 d16) → va_S A s.heap H locs → lv_has ls 9 [(7, .int r12), (6, .int z7_0), (5, .int z5_0), (0, .ref o), (1, .int f), (2, .int w1), (3, .int w2), (4, .int w3)] → W p l e (headSpec wm_X12_say ({ frames := 5, cells := 0, slots := 0, locals := 110 })).room s m ([.ref o, .int f, .int w1, .int w2, .int w3] : List Value).toArray below meth cd H locs 0 0 (MQ below (va_Qi (fun (r : Int32) (u : MS) => True ∧ mInv u.1 u.2.2.1 ∧ (∀ k, k ∉ ([0, 8, 15, 22, 27] : List Nat) → u.1 k = i k) ∧ (∀ k, k ∉ ([1, 9, 10, 11, 12, 13, 14] : List Nat) → u.2.2.1 k = c k) ∧ (SJ (u.2.2.1 3) (u.2.2.1 6) (u.2.2.1 9) (u.2.2.1 10) (u.2.2.1 11) (u.2.2.1 13) (u.1 2).toInt (u.1 5).toInt (u.1 8).toInt) ∧ (TJ (u.2.2.1 3) (u.2.2.1 6) (u.2.2.1 23) (u.2.2.1 24) (u.2.2.1 29) (u.2.2.1 30) (u.1 5).toInt (u.1 22).toInt (u.1 27).toInt) ∧ (SyW (AcM (c 9) (c 10) (c 11) (c 12) (c 13) (i 8).toInt (i 5).toInt (kS (c 3) (c 6) w1.toInt) (kS (c 3) (c 6) w2.toInt) f.toInt w1.toInt w2.toInt w3.toInt (lI f w3).toInt) (c 9) (c 10) (c 11) (c 12) (c 13) (u.2.2.1 9) (u.2.2.1 10) (u.2.2.1 11) (u.2.2.1 12) (u.2.2.1 13) (i 8) (u.1 8) f w1 w2 (lI f w3))) (oC D A (fun u : MS => mW o a t u.1 u.2.1 u.2.2.1 u.2.2.2) (fun _ => [])) A) ([.ref o, .int f, .int w1, .int w2, .int w3] : List Value).toArray s 0 0 A) (F0 m 190 ls [.int z16_0]) := by
                    intro i16 q16 c16 d16 z16_0 hI hfi hfc hs16_0 hz16_0 H locs ls hP hD hS hl
                    refine lv_istore (lv' := [(8, .int z16_0), (7, .int r12), (6, .int z7_0), (5, .int z5_0), (0, .ref o), (1, .int f), (2, .int w1), (3, .int w2), (4, .int w3)]) hx hb dX12_say_190 hl (by decide +kernel) rfl (fun ls hl => ?_)
                    refine lv_iload hx hb dX12_say_192 (lv_at hl 0 rfl) ?_
                    refine lv_if_eq (tgt := 200) hx hb dX12_say_194 (by decide +kernel) (fun c17 => ?_) (fun c17 => ?_)
                    · have f17 := (ti_eq (a := z16_0.toInt) (b := 0) rfl (by decide +kernel)).mp c17
                      have hc0 := hfc
                      have hi0 := hfi
                      have hFF := FF_of hI0 hFit
                      have hNB : ¬ BaM (c 9) (c 10) (c 11) (c 12) (c 13) (i 8).toInt (kS (c 3) (c 6) w2.toInt) f.toInt w1.toInt w2.toInt (lI f w3).toInt := sm_x hz16_0 (by omega)
                      have hBar : Im (f.toInt < 5) (pL (c 9) (c 10) (c 13) (i 8).toInt w1.toInt = -9 ∧ ¬ Ch (fP (c 9) (c 10) (c 11) (c 13) (i 8).toInt) w2.toInt w1.toInt) := fun h9 => ⟨Decidable.byContradiction (fun h8 => hNB ((Ba_4 h9).mp (Or.inl h8))), fun h8 => hNB ((Ba_4 h9).mp (Or.inr (Or.inl h8)))⟩
                      have rb5_i16 : 0 ≤ (i16 5).toInt ∧ (i16 5).toInt ≤ 30 := hI.1 5
                      have re5_i16 : (i16 5).toInt = (i 5).toInt := congrArg Int32.toInt (hfi 5 (by decide +kernel))
                      have rb8_i16 : 0 ≤ (i16 8).toInt ∧ (i16 8).toInt ≤ 200 := hI.1 8
                      have re8_i16 : (i16 8).toInt = (i 8).toInt := congrArg Int32.toInt (hfi 8 (by decide +kernel))
                      refine lv_aload_n hx hb dX12_say_200 rfl (lv_at hl 4 rfl) ?_
                      refine mget_9 hx hb hts (fun _ h => List.mem_cons_of_mem _ (List.mem_append_right _ h)) hown hK hP (hts (.fieldLink RX12 25 "TalePlayModel" "form" "[I") (List.mem_cons_of_mem _ (List.mem_append_left _ (List.mem_append_right _ (List.mem_append_right _ (List.mem_append_left _ (List.mem_of_getElem? (i := 12) rfl))))))) dX12_say_201 ?_
                      refine lv_aload_n hx hb dX12_say_204 rfl (lv_at hl 4 rfl) ?_
                      refine mget_8 (v := (i16 8)) rfl hx hb hts (fun _ h => List.mem_cons_of_mem _ (List.mem_append_right _ h)) hown hK hP (hts (.fieldLink RX12 202 "TalePlayModel" "sentences" "I") (List.mem_cons_of_mem _ (List.mem_append_left _ (List.mem_append_right _ (List.mem_append_right _ (List.mem_append_left _ (List.mem_of_getElem? (i := 11) rfl))))))) dX12_say_205 ?_
                      refine lv_iload_n hx hb dX12_say_208 rfl (lv_at hl 5 rfl) ?_
                      refine mst_9 hx hb hK hP hD hS (vp_in_iff.mpr (by have h9 : (i16 8).toInt = (i16 8).toInt := rfl; omega)) dX12_say_209 (fun H locs hP hD hS => ?_)
                      have hI := mInv_c hI (k := 9) (j := ((i16 8) : Int32).toNatClampNeg) (x := f) (show 0 ≤ (f : Int32).toInt ∧ (f : Int32).toInt ≤ 7 from by omega)
                      have hfc : ∀ k, k ∉ ([9, 14] : List Nat) → (updA c16 9 ((i16 8) : Int32).toNatClampNeg f) k = c k := fr_cz hfc (by decide +kernel) (by decide +kernel)
                      refine lv_aload_n hx hb dX12_say_210 rfl (lv_at hl 4 rfl) ?_
                      refine mget_10 hx hb hts (fun _ h => List.mem_cons_of_mem _ (List.mem_append_right _ h)) hown hK hP (hts (.fieldLink RX12 28 "TalePlayModel" "left" "[I") (List.mem_cons_of_mem _ (List.mem_append_left _ (List.mem_append_right _ (List.mem_append_right _ (List.mem_append_left _ (List.mem_of_getElem? (i := 13) rfl))))))) dX12_say_211 ?_
                      refine lv_aload_n hx hb dX12_say_214 rfl (lv_at hl 4 rfl) ?_
                      refine mget_8 (v := (i16 8)) rfl hx hb hts (fun _ h => List.mem_cons_of_mem _ (List.mem_append_right _ h)) hown hK hP (hts (.fieldLink RX12 202 "TalePlayModel" "sentences" "I") (List.mem_cons_of_mem _ (List.mem_append_left _ (List.mem_append_right _ (List.mem_append_right _ (List.mem_append_left _ (List.mem_of_getElem? (i := 11) rfl))))))) dX12_say_215 ?_
                      refine lv_iload_n hx hb dX12_say_218 rfl (lv_at hl 6 rfl) ?_
                      refine mst_10 hx hb hK hP hD hS (vp_in_iff.mpr (by have h9 : (i16 8).toInt = (i16 8).toInt := rfl; omega)) dX12_say_219 (fun H locs hP hD hS => ?_)
                      have hI := mInv_c hI (k := 10) (j := ((i16 8) : Int32).toNatClampNeg) (x := w1) (show 0 ≤ (w1 : Int32).toInt ∧ (w1 : Int32).toInt ≤ 29 from by omega)
                      have hfc : ∀ k, k ∉ ([9, 10, 14] : List Nat) → (updA (updA c16 9 ((i16 8) : Int32).toNatClampNeg f) 10 ((i16 8) : Int32).toNatClampNeg w1) k = c k := fr_cz hfc (by decide +kernel) (by decide +kernel)
                      refine lv_aload_n hx hb dX12_say_220 rfl (lv_at hl 4 rfl) ?_
                      refine mget_11 hx hb hts (fun _ h => List.mem_cons_of_mem _ (List.mem_append_right _ h)) hown hK hP (hts (.fieldLink RX12 31 "TalePlayModel" "middle" "[I") (List.mem_cons_of_mem _ (List.mem_append_left _ (List.mem_append_right _ (List.mem_append_right _ (List.mem_append_left _ (List.mem_of_getElem? (i := 14) rfl))))))) dX12_say_221 ?_
                      refine lv_aload_n hx hb dX12_say_224 rfl (lv_at hl 4 rfl) ?_
                      refine mget_8 (v := (i16 8)) rfl hx hb hts (fun _ h => List.mem_cons_of_mem _ (List.mem_append_right _ h)) hown hK hP (hts (.fieldLink RX12 202 "TalePlayModel" "sentences" "I") (List.mem_cons_of_mem _ (List.mem_append_left _ (List.mem_append_right _ (List.mem_append_right _ (List.mem_append_left _ (List.mem_of_getElem? (i := 11) rfl))))))) dX12_say_225 ?_
                      refine lv_iload_n hx hb dX12_say_228 rfl (lv_at hl 7 rfl) ?_
                      refine mst_11 hx hb hK hP hD hS (vp_in_iff.mpr (by have h9 : (i16 8).toInt = (i16 8).toInt := rfl; omega)) dX12_say_229 (fun H locs hP hD hS => ?_)
                      have hI := mInv_c hI (k := 11) (j := ((i16 8) : Int32).toNatClampNeg) (x := w2) (show 0 ≤ (w2 : Int32).toInt ∧ (w2 : Int32).toInt ≤ 29 from by omega)
                      have hfc : ∀ k, k ∉ ([9, 10, 11, 14] : List Nat) → (updA (updA (updA c16 9 ((i16 8) : Int32).toNatClampNeg f) 10 ((i16 8) : Int32).toNatClampNeg w1) 11 ((i16 8) : Int32).toNatClampNeg w2) k = c k := fr_cz hfc (by decide +kernel) (by decide +kernel)
                      refine lv_aload_n hx hb dX12_say_230 rfl (lv_at hl 4 rfl) ?_
                      refine mget_12 hx hb hts (fun _ h => List.mem_cons_of_mem _ (List.mem_append_right _ h)) hown hK hP (hts (.fieldLink RX12 34 "TalePlayModel" "right" "[I") (List.mem_cons_of_mem _ (List.mem_append_left _ (List.mem_append_right _ (List.mem_append_right _ (List.mem_append_left _ (List.mem_of_getElem? (i := 15) rfl))))))) dX12_say_231 ?_
                      refine lv_aload_n hx hb dX12_say_234 rfl (lv_at hl 4 rfl) ?_
                      refine mget_8 (v := (i16 8)) rfl hx hb hts (fun _ h => List.mem_cons_of_mem _ (List.mem_append_right _ h)) hown hK hP (hts (.fieldLink RX12 202 "TalePlayModel" "sentences" "I") (List.mem_cons_of_mem _ (List.mem_append_left _ (List.mem_append_right _ (List.mem_append_right _ (List.mem_append_left _ (List.mem_of_getElem? (i := 11) rfl))))))) dX12_say_235 ?_
                      refine lv_iload hx hb dX12_say_238 (lv_at hl 3 rfl) ?_
                      refine mst_12 hx hb hK hP hD hS (vp_in_iff.mpr (by have h9 : (i16 8).toInt = (i16 8).toInt := rfl; omega)) dX12_say_240 (fun H locs hP hD hS => ?_)
                      have hI := mInv_c hI (k := 12) (j := ((i16 8) : Int32).toNatClampNeg) (x := z5_0) (show 0 ≤ (z5_0 : Int32).toInt ∧ (z5_0 : Int32).toInt ≤ 9 from by omega)
                      have hfc : ∀ k, k ∉ ([9, 10, 11, 12, 14] : List Nat) → (updA (updA (updA (updA c16 9 ((i16 8) : Int32).toNatClampNeg f) 10 ((i16 8) : Int32).toNatClampNeg w1) 11 ((i16 8) : Int32).toNatClampNeg w2) 12 ((i16 8) : Int32).toNatClampNeg z5_0) k = c k := fr_cz hfc (by decide +kernel) (by decide +kernel)
                      refine lv_aload_n hx hb dX12_say_241 rfl (lv_at hl 4 rfl) ?_
                      refine mget_13 hx hb hts (fun _ h => List.mem_cons_of_mem _ (List.mem_append_right _ h)) hown hK hP (hts (.fieldLink RX12 37 "TalePlayModel" "isSaid" "[Z") (List.mem_cons_of_mem _ (List.mem_append_left _ (List.mem_append_right _ (List.mem_append_right _ (List.mem_append_right _ (List.mem_append_left _ (List.mem_of_getElem? (i := 0) rfl)))))))) dX12_say_242 ?_
                      refine lv_aload_n hx hb dX12_say_245 rfl (lv_at hl 4 rfl) ?_
                      refine mget_8 (v := (i16 8)) rfl hx hb hts (fun _ h => List.mem_cons_of_mem _ (List.mem_append_right _ h)) hown hK hP (hts (.fieldLink RX12 202 "TalePlayModel" "sentences" "I") (List.mem_cons_of_mem _ (List.mem_append_left _ (List.mem_append_right _ (List.mem_append_right _ (List.mem_append_left _ (List.mem_of_getElem? (i := 11) rfl))))))) dX12_say_246 ?_
                      refine lv_iconst (v := 1) hx hb dX12_say_249 (by decide +kernel) ?_
                      refine mst_13 hx hb hK hP hD hS (vp_in_iff.mpr (by have h9 : (i16 8).toInt = (i16 8).toInt := rfl; omega)) (nb_z (show 0 ≤ (1 : Int32).toInt ∧ (1 : Int32).toInt ≤ 1 from by decide +kernel)) dX12_say_250 (fun H locs hP hD hS => ?_)
                      have hI := mInv_c hI (k := 13) (j := ((i16 8) : Int32).toNatClampNeg) (x := 1) (show 0 ≤ (1 : Int32).toInt ∧ (1 : Int32).toInt ≤ 1 from by decide +kernel)
                      have hfc : ∀ k, k ∉ ([9, 10, 11, 12, 13, 14] : List Nat) → (updA (updA (updA (updA (updA c16 9 ((i16 8) : Int32).toNatClampNeg f) 10 ((i16 8) : Int32).toNatClampNeg w1) 11 ((i16 8) : Int32).toNatClampNeg w2) 12 ((i16 8) : Int32).toNatClampNeg z5_0) 13 ((i16 8) : Int32).toNatClampNeg 1) k = c k := fr_cz hfc (by decide +kernel) (by decide +kernel)
                      refine lv_aload_n hx hb dX12_say_251 rfl (lv_at hl 4 rfl) ?_
                      refine lv_dup hx hb dX12_say_252 rfl ?_
                      refine mget_8 (v := (i16 8)) rfl hx hb hts (fun _ h => List.mem_cons_of_mem _ (List.mem_append_right _ h)) hown hK hP (hts (.fieldLink RX12 202 "TalePlayModel" "sentences" "I") (List.mem_cons_of_mem _ (List.mem_append_left _ (List.mem_append_right _ (List.mem_append_right _ (List.mem_append_left _ (List.mem_of_getElem? (i := 11) rfl))))))) dX12_say_253 ?_
                      refine lv_iconst (v := 1) hx hb dX12_say_256 (by decide +kernel) ?_
                      refine lv_iadd hx hb dX12_say_257 ?_
                      refine lv_topi (fun x18 ex18 => ?_)
                      have tx18 := ti_add (a := (i16 8).toInt) (b := 1) ex18 rfl (by decide +kernel) (by omega) (by omega)
                      refine mput_8 hx hb hts (fun _ h => List.mem_cons_of_mem _ (List.mem_append_right _ h)) hown hK hP hD hS (hts (.fieldLink RX12 202 "TalePlayModel" "sentences" "I") (List.mem_cons_of_mem _ (List.mem_append_left _ (List.mem_append_right _ (List.mem_append_right _ (List.mem_append_left _ (List.mem_of_getElem? (i := 11) rfl))))))) rfl rfl dX12_say_258 (fun H locs hP hD hS => ?_)
                      have hI := mInv_i hI (k := 8) (v := x18) (show 0 ≤ (x18 : Int32).toInt ∧ (x18 : Int32).toInt ≤ 200 from by have h9 : x18.toInt = ((i16 8).toInt + 1) := tx18; omega)
                      have hfi : ∀ k, k ∉ ([8, 15] : List Nat) → (upd i16 8 x18) k = i k := fr_iz hfi (by decide +kernel) (by decide +kernel)
                      refine lv_aload_n hx hb dX12_say_261 rfl (lv_at hl 4 rfl) ?_
                      refine al_callv (va_runV (As := []) (rest := []) ⟨hx, hb, hml, hown, hts⟩ (s_X12_endTale l D H.size o a t (upd i16 8 x18) q16 (updA (updA (updA (updA (updA c16 9 ((i16 8) : Int32).toNatClampNeg f) 10 ((i16 8) : Int32).toNatClampNeg w1) 11 ((i16 8) : Int32).toNatClampNeg w2) 12 ((i16 8) : Int32).toNatClampNeg z5_0) 13 ((i16 8) : Int32).toNatClampNeg 1) d16  hI ) (cwV 0 hts gm_X12_say_X12_endTale rfl rfl rfl (by decide +kernel) ⟨Nat.le_of_ble_eq_true rfl, Nat.le_of_ble_eq_true rfl⟩) (pB_V hK hP hD (ci := 12) (q0 := 0) rfl rfl) rfl rfl hl.1 rfl (lv_room (Nat.le_of_ble_eq_true rfl)) dX12_say_262 ⟨Nat.le_of_ble_eq_true rfl, Nat.le_of_ble_eq_true rfl⟩) hS hA hP hD (fun u19 H locs hw19 hP hD hS => ?_)
                      obtain ⟨i19, q19, c19, d19⟩ := u19
                      have hw19 : True ∧ mInv i19 c19 ∧ (∀ k, k ∉ ([22, 27] : List Nat) → i19 k = (upd i16 8 x18) k) ∧ (∀ k, k ∉ ([] : List Nat) → c19 k = (updA (updA (updA (updA (updA c16 9 ((i16 8) : Int32).toNatClampNeg f) 10 ((i16 8) : Int32).toNatClampNeg w1) 11 ((i16 8) : Int32).toNatClampNeg w2) 12 ((i16 8) : Int32).toNatClampNeg z5_0) 13 ((i16 8) : Int32).toNatClampNeg 1) k) ∧ ((i19 22).toInt = -9) ∧ ((i19 27).toInt = 0) := hw19
                      obtain ⟨hw19, hI, hei19, hec19, hxp19_0, hxp19_1⟩ := hw19
                      have hxp19_0 : (i19 22).toInt = -9 := hxp19_0
                      have hxp19_1 : (i19 27).toInt = 0 := hxp19_1
                      have hfi : ∀ k, k ∉ ([8, 15, 22, 27] : List Nat) → i19 k = i k := fr_z hfi hei19 (by decide +kernel) (by decide +kernel)
                      have hfc : ∀ k, k ∉ ([9, 10, 11, 12, 13, 14] : List Nat) → c19 k = c k := fr_z hfc hec19 (by decide +kernel) (by decide +kernel)
                      have hP : va_P D vwCl (mW o a t i19 q19 c19 d19) H := hP
                      have hD : va_D A (mW o a t i19 q19 c19 d19) := hD
                      refine lv_aload_n hx hb dX12_say_265 rfl (lv_at hl 4 rfl) ?_
                      refine mget_8 (v := (i19 8)) rfl hx hb hts (fun _ h => List.mem_cons_of_mem _ (List.mem_append_right _ h)) hown hK hP (hts (.fieldLink RX12 202 "TalePlayModel" "sentences" "I") (List.mem_cons_of_mem _ (List.mem_append_left _ (List.mem_append_right _ (List.mem_append_right _ (List.mem_append_left _ (List.mem_of_getElem? (i := 11) rfl))))))) dX12_say_266 ?_
                      have rb8_i19 : 0 ≤ (i19 8).toInt ∧ (i19 8).toInt ≤ 200 := hI.1 8
                      refine lv_iconst (v := 1) hx hb dX12_say_269 (by decide +kernel) ?_
                      refine lv_isub hx hb dX12_say_270 ?_
                      refine lv_topi (fun x20 ex20 => ?_)
                      have tx20 := ti_sub (a := (i19 8).toInt) (b := 1) ex20 rfl (by decide +kernel) (by omega) (by omega)
                      exact rw_iret (i19, q19, c19, d19) hx hb hr hlocks hS (hK.sub (tys' := []) [] rfl) hP hD dX12_say_271 ⟨trivial, hI, fr_w hfi (by decide +kernel), fr_w hfc (by decide +kernel), (show SJ (c19 3) (c19 6) (c19 9) (c19 10) (c19 11) (c19 13) ((i19 2) : Int32).toInt ((i19 5) : Int32).toInt ((i19 8) : Int32).toInt from by rw [show c19 3 = (updA (updA (updA (updA (updA c16 9 ((i16 8) : Int32).toNatClampNeg f) 10 ((i16 8) : Int32).toNatClampNeg w1) 11 ((i16 8) : Int32).toNatClampNeg w2) 12 ((i16 8) : Int32).toNatClampNeg z5_0) 13 ((i16 8) : Int32).toNatClampNeg 1) 3 from hec19 3 (by decide +kernel), show c19 6 = (updA (updA (updA (updA (updA c16 9 ((i16 8) : Int32).toNatClampNeg f) 10 ((i16 8) : Int32).toNatClampNeg w1) 11 ((i16 8) : Int32).toNatClampNeg w2) 12 ((i16 8) : Int32).toNatClampNeg z5_0) 13 ((i16 8) : Int32).toNatClampNeg 1) 6 from hec19 6 (by decide +kernel), show c19 9 = (updA (updA (updA (updA (updA c16 9 ((i16 8) : Int32).toNatClampNeg f) 10 ((i16 8) : Int32).toNatClampNeg w1) 11 ((i16 8) : Int32).toNatClampNeg w2) 12 ((i16 8) : Int32).toNatClampNeg z5_0) 13 ((i16 8) : Int32).toNatClampNeg 1) 9 from hec19 9 (by decide +kernel), show c19 10 = (updA (updA (updA (updA (updA c16 9 ((i16 8) : Int32).toNatClampNeg f) 10 ((i16 8) : Int32).toNatClampNeg w1) 11 ((i16 8) : Int32).toNatClampNeg w2) 12 ((i16 8) : Int32).toNatClampNeg z5_0) 13 ((i16 8) : Int32).toNatClampNeg 1) 10 from hec19 10 (by decide +kernel), show c19 11 = (updA (updA (updA (updA (updA c16 9 ((i16 8) : Int32).toNatClampNeg f) 10 ((i16 8) : Int32).toNatClampNeg w1) 11 ((i16 8) : Int32).toNatClampNeg w2) 12 ((i16 8) : Int32).toNatClampNeg z5_0) 13 ((i16 8) : Int32).toNatClampNeg 1) 11 from hec19 11 (by decide +kernel), show c19 13 = (updA (updA (updA (updA (updA c16 9 ((i16 8) : Int32).toNatClampNeg f) 10 ((i16 8) : Int32).toNatClampNeg w1) 11 ((i16 8) : Int32).toNatClampNeg w2) 12 ((i16 8) : Int32).toNatClampNeg z5_0) 13 ((i16 8) : Int32).toNatClampNeg 1) 13 from hec19 13 (by decide +kernel), show i19 2 = (upd i16 8 x18) 2 from hei19 2 (by decide +kernel), show i19 5 = (upd i16 8 x18) 5 from hei19 5 (by decide +kernel), show i19 8 = (upd i16 8 x18) 8 from hei19 8 (by decide +kernel)]; show SJ (c16 3) (c16 6) (upd (c16 9) (i16 8 : Int32).toNatClampNeg f) (upd (c16 10) (i16 8 : Int32).toNatClampNeg w1) (upd (c16 11) (i16 8 : Int32).toNatClampNeg w2) (upd (c16 13) (i16 8 : Int32).toNatClampNeg 1) (i16 2).toInt (i16 5).toInt x18.toInt; rw [tx18, hc0 3 (by decide +kernel), hc0 6 (by decide +kernel), hc0 9 (by decide +kernel), hc0 10 (by decide +kernel), hc0 11 (by decide +kernel), hc0 13 (by decide +kernel), hi0 2 (by decide +kernel), hi0 5 (by decide +kernel), hi0 8 (by decide +kernel)]; exact SJ_add (n := (i 8).toInt) hs_S (mI_mi hI0) (by omega) (by omega) (by omega) (fun h9 => by omega) (hFF.1) (hFF.2) hBar), (show TJ (c19 3) (c19 6) (c19 23) (c19 24) (c19 29) (c19 30) ((i19 5) : Int32).toInt ((i19 22) : Int32).toInt ((i19 27) : Int32).toInt from TJ_no hxp19_0), (show SyW (AcM (c 9) (c 10) (c 11) (c 12) (c 13) (i 8).toInt (i 5).toInt (kS (c 3) (c 6) w1.toInt) (kS (c 3) (c 6) w2.toInt) f.toInt w1.toInt w2.toInt w3.toInt (lI f w3).toInt) (c 9) (c 10) (c 11) (c 12) (c 13) (c19 9) (c19 10) (c19 11) (c19 12) (c19 13) (i 8) ((i19 8) : Int32) f w1 w2 (lI f w3) from Or.inr ⟨⟨hWF, hFit, by omega, by omega, hNB⟩, by rw [show c19 9 = (updA (updA (updA (updA (updA c16 9 ((i16 8) : Int32).toNatClampNeg f) 10 ((i16 8) : Int32).toNatClampNeg w1) 11 ((i16 8) : Int32).toNatClampNeg w2) 12 ((i16 8) : Int32).toNatClampNeg z5_0) 13 ((i16 8) : Int32).toNatClampNeg 1) 9 from hec19 9 (by decide +kernel)]; show upd (c16 9) (i16 8 : Int32).toNatClampNeg f = _; rw [hc0 9 (by decide +kernel), show (i16 8 : Int32) = i 8 from hi0 8 (by decide +kernel)], by rw [show c19 10 = (updA (updA (updA (updA (updA c16 9 ((i16 8) : Int32).toNatClampNeg f) 10 ((i16 8) : Int32).toNatClampNeg w1) 11 ((i16 8) : Int32).toNatClampNeg w2) 12 ((i16 8) : Int32).toNatClampNeg z5_0) 13 ((i16 8) : Int32).toNatClampNeg 1) 10 from hec19 10 (by decide +kernel)]; show upd (c16 10) (i16 8 : Int32).toNatClampNeg w1 = _; rw [hc0 10 (by decide +kernel), show (i16 8 : Int32) = i 8 from hi0 8 (by decide +kernel)], by rw [show c19 11 = (updA (updA (updA (updA (updA c16 9 ((i16 8) : Int32).toNatClampNeg f) 10 ((i16 8) : Int32).toNatClampNeg w1) 11 ((i16 8) : Int32).toNatClampNeg w2) 12 ((i16 8) : Int32).toNatClampNeg z5_0) 13 ((i16 8) : Int32).toNatClampNeg 1) 11 from hec19 11 (by decide +kernel)]; show upd (c16 11) (i16 8 : Int32).toNatClampNeg w2 = _; rw [hc0 11 (by decide +kernel), show (i16 8 : Int32) = i 8 from hi0 8 (by decide +kernel)], by rw [show c19 12 = (updA (updA (updA (updA (updA c16 9 ((i16 8) : Int32).toNatClampNeg f) 10 ((i16 8) : Int32).toNatClampNeg w1) 11 ((i16 8) : Int32).toNatClampNeg w2) 12 ((i16 8) : Int32).toNatClampNeg z5_0) 13 ((i16 8) : Int32).toNatClampNeg 1) 12 from hec19 12 (by decide +kernel)]; show upd (c16 12) (i16 8 : Int32).toNatClampNeg z5_0 = _; rw [hc0 12 (by decide +kernel), show (i16 8 : Int32) = i 8 from hi0 8 (by decide +kernel), hz5_0], by rw [show c19 13 = (updA (updA (updA (updA (updA c16 9 ((i16 8) : Int32).toNatClampNeg f) 10 ((i16 8) : Int32).toNatClampNeg w1) 11 ((i16 8) : Int32).toNatClampNeg w2) 12 ((i16 8) : Int32).toNatClampNeg z5_0) 13 ((i16 8) : Int32).toNatClampNeg 1) 13 from hec19 13 (by decide +kernel)]; show upd (c16 13) (i16 8 : Int32).toNatClampNeg 1 = _; rw [hc0 13 (by decide +kernel), show (i16 8 : Int32) = i 8 from hi0 8 (by decide +kernel)], by rw [show i19 8 = (upd i16 8 x18) 8 from hei19 8 (by decide +kernel)]; show x18.toInt = _; rw [tx18, show (i16 8 : Int32) = i 8 from hi0 8 (by decide +kernel)]⟩)⟩
                    · have f17 := mt (ti_eq (a := z16_0.toInt) (b := 0) rfl (by decide +kernel)).mpr c17
                      have hYB : BaM (c 9) (c 10) (c 11) (c 12) (c 13) (i 8).toInt (kS (c 3) (c 6) w2.toInt) f.toInt w1.toInt w2.toInt (lI f w3).toInt := sm_1t hz16_0 (by omega)
                      refine lv_bipush (v := (-4)) hx hb dX12_say_197 (by decide +kernel) ?_
                      exact rw_iret (i16, q16, c16, d16) hx hb hr hlocks hS (hK.sub (tys' := []) [] rfl) hP hD dX12_say_199 ⟨trivial, hI, fr_w hfi (by decide +kernel), fr_w hfc (by decide +kernel), (show SJ (c16 3) (c16 6) (c16 9) (c16 10) (c16 11) (c16 13) ((i16 2) : Int32).toInt ((i16 5) : Int32).toInt ((i16 8) : Int32).toInt from by rw [show c16 3 = c 3 from hfc 3 (by decide +kernel), show c16 6 = c 6 from hfc 6 (by decide +kernel), show c16 9 = c 9 from hfc 9 (by decide +kernel), show c16 10 = c 10 from hfc 10 (by decide +kernel), show c16 11 = c 11 from hfc 11 (by decide +kernel), show c16 13 = c 13 from hfc 13 (by decide +kernel), show i16 2 = i 2 from hfi 2 (by decide +kernel), show i16 5 = i 5 from hfi 5 (by decide +kernel), show i16 8 = i 8 from hfi 8 (by decide +kernel)]; exact hs_S), (show TJ (c16 3) (c16 6) (c16 23) (c16 24) (c16 29) (c16 30) ((i16 5) : Int32).toInt ((i16 22) : Int32).toInt ((i16 27) : Int32).toInt from by rw [show c16 3 = c 3 from hfc 3 (by decide +kernel), show c16 6 = c 6 from hfc 6 (by decide +kernel), show c16 23 = c 23 from hfc 23 (by decide +kernel), show c16 24 = c 24 from hfc 24 (by decide +kernel), show c16 29 = c 29 from hfc 29 (by decide +kernel), show c16 30 = c 30 from hfc 30 (by decide +kernel), show i16 5 = i 5 from hfi 5 (by decide +kernel), show i16 22 = i 22 from hfi 22 (by decide +kernel), show i16 27 = i 27 from hfi 27 (by decide +kernel)]; exact hs_J), (show SyW (AcM (c 9) (c 10) (c 11) (c 12) (c 13) (i 8).toInt (i 5).toInt (kS (c 3) (c 6) w1.toInt) (kS (c 3) (c 6) w2.toInt) f.toInt w1.toInt w2.toInt w3.toInt (lI f w3).toInt) (c 9) (c 10) (c 11) (c 12) (c 13) (c16 9) (c16 10) (c16 11) (c16 12) (c16 13) (i 8) ((i16 8) : Int32) f w1 w2 (lI f w3) from Or.inl ⟨fun h9 => h9.2.2.2.2 hYB, hfc 9 (by decide +kernel), hfc 10 (by decide +kernel), hfc 11 (by decide +kernel), hfc 12 (by decide +kernel), hfc 13 (by decide +kernel), by first | rfl | rw [show i16 8 = i 8 from hfi 8 (by decide +kernel)]⟩)⟩
                  refine lv_icmp_ge (tgt := 152) hx hb dX12_say_139 (by decide +kernel) (fun c21 => ?_) (fun c21 => ?_)
                  · have f21 := (ti_le (a := 5) (b := f.toInt) (by decide +kernel) rfl).mp c21
                    refine lv_iload_n hx hb dX12_say_152 rfl (lv_at hl 4 rfl) ?_
                    refine lv_iconst (v := 5) hx hb dX12_say_153 (by decide +kernel) ?_
                    refine lv_icmp_ne (tgt := 168) hx hb dX12_say_154 (by decide +kernel) (fun c22 => ?_) (fun c22 => ?_)
                    · have f22 := mt (ti_eq (a := f.toInt) (b := 5) rfl (by decide +kernel)).mpr c22
                      refine lv_iload_n hx hb dX12_say_168 rfl (lv_at hl 4 rfl) ?_
                      refine lv_bipush (v := 6) hx hb dX12_say_169 (by decide +kernel) ?_
                      refine lv_icmp_ne (tgt := 185) hx hb dX12_say_171 (by decide +kernel) (fun c23 => ?_) (fun c23 => ?_)
                      · have f23 := mt (ti_eq (a := f.toInt) (b := 6) rfl (by decide +kernel)).mpr c23
                        refine lv_aload_n hx hb dX12_say_185 rfl (lv_at hl 3 rfl) ?_
                        refine lv_iload_n hx hb dX12_say_186 rfl (lv_at hl 6 rfl) ?_
                        refine al_calli (va_runV (As := [.int w2]) (rest := []) ⟨hx, hb, hml, hown, hts⟩ (s_X12_isKeyBarred_e l D H.size o a t (upd i 15 0) q c d w2 hI (show 0 ≤ w2.toInt ∧ w2.toInt ≤ 29 from by have h60 : (0 : Int32).toInt = 0 := (by decide +kernel); omega) (show (0 : Int32).toInt = 0 from by decide +kernel)) (cwV 1 hts gm_X12_say_X12_isKeyBarred rfl rfl rfl (by decide +kernel) ⟨Nat.le_of_ble_eq_true rfl, Nat.le_of_ble_eq_true rfl⟩) (pB_V hK hP hD (ci := 12) (q0 := 0) rfl rfl) rfl rfl hl.1 rfl (lv_room (Nat.le_of_ble_eq_true rfl)) dX12_say_187 ⟨Nat.le_of_ble_eq_true rfl, Nat.le_of_ble_eq_true rfl⟩) hS hA hP hD (fun r24 u24 H locs hw24 hP hD hS => ?_)
                        obtain ⟨i24, q24, c24, d24⟩ := u24
                        have hw24 : ((0 ≤ r24.toInt ∧ r24.toInt ≤ 1) ∧ (Sm r24 (∃ s : Nat, (s : Int) < ((upd i 15 0) 8).toInt ∧ KB (c 9) (c 11) (c 13) w2.toInt s))) ∧ mInv i24 c24 ∧ (∀ k, k ∉ ([15] : List Nat) → i24 k = (upd i 15 0) k) ∧ (∀ k, k ∉ ([14] : List Nat) → c24 k = c k) := hw24
                        obtain ⟨hw24, hI, hei24, hec24⟩ := hw24
                        obtain ⟨hw24, hr24_0⟩ := hw24
                        have hr24_0 : Sm r24 (∃ s : Nat, (s : Int) < (i 8).toInt ∧ KB (c 9) (c 11) (c 13) w2.toInt s) := by have h9 := hr24_0; rw [show (upd i 15 0) 8 = i 8 from hfi 8 (by decide +kernel)] at h9; exact h9
                        have hfi : ∀ k, k ∉ ([15] : List Nat) → i24 k = i k := fr_z hfi hei24 (by decide +kernel) (by decide +kernel)
                        have hfc : ∀ k, k ∉ ([14] : List Nat) → c24 k = c k := fr_z hfc hec24 (by decide +kernel) (by decide +kernel)
                        have hP : va_P D vwCl (mW o a t i24 q24 c24 d24) H := hP
                        have hD : va_D A (mW o a t i24 q24 c24 d24) := hD
                        exact jn16 i24 q24 c24 d24  r24 hI (fr_w hfi (by decide +kernel)) (fr_w hfc (by decide +kernel)) (show 0 ≤ r24.toInt ∧ r24.toInt ≤ 1 from by omega) (show Sm r24 (BaM (c 9) (c 10) (c 11) (c 12) (c 13) (i 8).toInt (kS (c 3) (c 6) w2.toInt) f.toInt w1.toInt w2.toInt (lI f w3).toInt) from sm_i hr24_0 (Ba_7 (by omega))) _ _ _ hP hD hS (lv_sub hl [0, 1, 2, 3, 4, 5, 6, 7] rfl)
                      · have f23 := (ti_eq (a := f.toInt) (b := 6) rfl (by decide +kernel)).mp c23
                        refine lv_aload_n hx hb dX12_say_174 rfl (lv_at hl 3 rfl) ?_
                        refine lv_iload_n hx hb dX12_say_175 rfl (lv_at hl 5 rfl) ?_
                        refine lv_iload_n hx hb dX12_say_176 rfl (lv_at hl 6 rfl) ?_
                        refine lv_iload hx hb dX12_say_177 (lv_at hl 7 rfl) ?_
                        refine al_calli (va_runV (As := [.int w1, .int w2, .int w3]) (rest := []) ⟨hx, hb, hml, hown, hts⟩ (s_X12_isFlagBarred_e l D H.size o a t (upd i 15 0) q c d w1 w2 w3 hI (show 0 ≤ w1.toInt ∧ w1.toInt ≤ 29 from by have h60 : (0 : Int32).toInt = 0 := (by decide +kernel); omega) (show 0 ≤ w2.toInt ∧ w2.toInt ≤ 5 from by have h60 : (0 : Int32).toInt = 0 := (by decide +kernel); omega) (show 0 ≤ w3.toInt ∧ w3.toInt ≤ 1 from by have h60 : (0 : Int32).toInt = 0 := (by decide +kernel); omega) (show (0 : Int32).toInt = 0 from by decide +kernel)) (cwV 3 hts gm_X12_say_X12_isFlagBarred rfl rfl rfl (by decide +kernel) ⟨Nat.le_of_ble_eq_true rfl, Nat.le_of_ble_eq_true rfl⟩) (pB_V hK hP hD (ci := 12) (q0 := 0) rfl rfl) rfl rfl hl.1 rfl (lv_room (Nat.le_of_ble_eq_true rfl)) dX12_say_179 ⟨Nat.le_of_ble_eq_true rfl, Nat.le_of_ble_eq_true rfl⟩) hS hA hP hD (fun r25 u25 H locs hw25 hP hD hS => ?_)
                        obtain ⟨i25, q25, c25, d25⟩ := u25
                        have hw25 : ((0 ≤ r25.toInt ∧ r25.toInt ≤ 1) ∧ (Sm r25 (FbM (c 9) (c 10) (c 11) (c 12) (c 13) ((upd i 15 0) 8).toInt w1.toInt w2.toInt w3.toInt))) ∧ mInv i25 c25 ∧ (∀ k, k ∉ ([15] : List Nat) → i25 k = (upd i 15 0) k) ∧ (∀ k, k ∉ ([14] : List Nat) → c25 k = c k) := hw25
                        obtain ⟨hw25, hI, hei25, hec25⟩ := hw25
                        obtain ⟨hw25, hr25_0⟩ := hw25
                        have hr25_0 : Sm r25 (FbM (c 9) (c 10) (c 11) (c 12) (c 13) (i 8).toInt w1.toInt w2.toInt w3.toInt) := by have h9 := hr25_0; rw [show (upd i 15 0) 8 = i 8 from hfi 8 (by decide +kernel)] at h9; exact h9
                        have hfi : ∀ k, k ∉ ([15] : List Nat) → i25 k = i k := fr_z hfi hei25 (by decide +kernel) (by decide +kernel)
                        have hfc : ∀ k, k ∉ ([14] : List Nat) → c25 k = c k := fr_z hfc hec25 (by decide +kernel) (by decide +kernel)
                        have hP : va_P D vwCl (mW o a t i25 q25 c25 d25) H := hP
                        have hD : va_D A (mW o a t i25 q25 c25 d25) := hD
                        refine lv_goto (tgt := 190) hx hb dX12_say_182 (by decide +kernel) ?_
                        exact jn16 i25 q25 c25 d25  r25 hI (fr_w hfi (by decide +kernel)) (fr_w hfc (by decide +kernel)) (show 0 ≤ r25.toInt ∧ r25.toInt ≤ 1 from by omega) (show Sm r25 (BaM (c 9) (c 10) (c 11) (c 12) (c 13) (i 8).toInt (kS (c 3) (c 6) w2.toInt) f.toInt w1.toInt w2.toInt (lI f w3).toInt) from sm_i hr25_0 (by rw [lI_y (by omega)]; exact Ba_6 (by omega))) _ _ _ hP hD hS (lv_sub hl [0, 1, 2, 3, 4, 5, 6, 7] rfl)
                    · have f22 := (ti_eq (a := f.toInt) (b := 5) rfl (by decide +kernel)).mp c22
                      refine lv_aload_n hx hb dX12_say_157 rfl (lv_at hl 3 rfl) ?_
                      refine lv_iload_n hx hb dX12_say_158 rfl (lv_at hl 5 rfl) ?_
                      refine lv_iload_n hx hb dX12_say_159 rfl (lv_at hl 6 rfl) ?_
                      refine lv_iload hx hb dX12_say_160 (lv_at hl 7 rfl) ?_
                      refine al_calli (va_runV (As := [.int w1, .int w2, .int w3]) (rest := []) ⟨hx, hb, hml, hown, hts⟩ (s_X12_isExitBarred_e l D H.size o a t (upd i 15 0) q c d w1 w2 w3 hI (show 0 ≤ w1.toInt ∧ w1.toInt ≤ 29 from by have h60 : (0 : Int32).toInt = 0 := (by decide +kernel); omega) (show 0 ≤ w2.toInt ∧ w2.toInt ≤ 29 from by have h60 : (0 : Int32).toInt = 0 := (by decide +kernel); omega) (show (0 : Int32).toInt = 0 from by decide +kernel)) (cwV 3 hts gm_X12_say_X12_isExitBarred rfl rfl rfl (by decide +kernel) ⟨Nat.le_of_ble_eq_true rfl, Nat.le_of_ble_eq_true rfl⟩) (pB_V hK hP hD (ci := 12) (q0 := 0) rfl rfl) rfl rfl hl.1 rfl (lv_room (Nat.le_of_ble_eq_true rfl)) dX12_say_162 ⟨Nat.le_of_ble_eq_true rfl, Nat.le_of_ble_eq_true rfl⟩) hS hA hP hD (fun r26 u26 H locs hw26 hP hD hS => ?_)
                      obtain ⟨i26, q26, c26, d26⟩ := u26
                      have hw26 : ((0 ≤ r26.toInt ∧ r26.toInt ≤ 1) ∧ (Sm r26 (XbM (c 9) (c 10) (c 11) (c 12) (c 13) ((upd i 15 0) 8).toInt (kS (c 3) (c 6) w2.toInt) w1.toInt w2.toInt w3.toInt))) ∧ mInv i26 c26 ∧ (∀ k, k ∉ ([15] : List Nat) → i26 k = (upd i 15 0) k) ∧ (∀ k, k ∉ ([14] : List Nat) → c26 k = c k) := hw26
                      obtain ⟨hw26, hI, hei26, hec26⟩ := hw26
                      obtain ⟨hw26, hr26_0⟩ := hw26
                      have hr26_0 : Sm r26 (XbM (c 9) (c 10) (c 11) (c 12) (c 13) (i 8).toInt (kS (c 3) (c 6) w2.toInt) w1.toInt w2.toInt w3.toInt) := by have h9 := hr26_0; rw [show (upd i 15 0) 8 = i 8 from hfi 8 (by decide +kernel)] at h9; exact h9
                      have hfi : ∀ k, k ∉ ([15] : List Nat) → i26 k = i k := fr_z hfi hei26 (by decide +kernel) (by decide +kernel)
                      have hfc : ∀ k, k ∉ ([14] : List Nat) → c26 k = c k := fr_z hfc hec26 (by decide +kernel) (by decide +kernel)
                      have hP : va_P D vwCl (mW o a t i26 q26 c26 d26) H := hP
                      have hD : va_D A (mW o a t i26 q26 c26 d26) := hD
                      refine lv_goto (tgt := 190) hx hb dX12_say_165 (by decide +kernel) ?_
                      exact jn16 i26 q26 c26 d26  r26 hI (fr_w hfi (by decide +kernel)) (fr_w hfc (by decide +kernel)) (show 0 ≤ r26.toInt ∧ r26.toInt ≤ 1 from by omega) (show Sm r26 (BaM (c 9) (c 10) (c 11) (c 12) (c 13) (i 8).toInt (kS (c 3) (c 6) w2.toInt) f.toInt w1.toInt w2.toInt (lI f w3).toInt) from sm_i hr26_0 (by rw [lI_y (by omega)]; exact Ba_5 (by omega))) _ _ _ hP hD hS (lv_sub hl [0, 1, 2, 3, 4, 5, 6, 7] rfl)
                  · have f21 := mt (ti_le (a := 5) (b := f.toInt) (by decide +kernel) rfl).mpr c21
                    refine lv_aload_n hx hb dX12_say_142 rfl (lv_at hl 3 rfl) ?_
                    refine lv_iload_n hx hb dX12_say_143 rfl (lv_at hl 4 rfl) ?_
                    refine lv_iload_n hx hb dX12_say_144 rfl (lv_at hl 5 rfl) ?_
                    refine lv_iload_n hx hb dX12_say_145 rfl (lv_at hl 6 rfl) ?_
                    have rb2_i : 6 ≤ (i 2).toInt ∧ (i 2).toInt ≤ 24 := hI.1 2
                    refine al_calli (va_runV (As := [.int f, .int w1, .int w2]) (rest := []) ⟨hx, hb, hml, hown, hts⟩ (s_X12_isPlaceBarred_e l D H.size o a t (upd i 15 0) q c d f w1 w2 hI (show 0 ≤ w1.toInt ∧ w1.toInt ≤ 29 from by have h60 : (0 : Int32).toInt = 0 := (by decide +kernel); omega) (show 0 ≤ w2.toInt ∧ w2.toInt ≤ 29 from by have h60 : (0 : Int32).toInt = 0 := (by decide +kernel); omega) (show (0 : Int32).toInt = 0 from by decide +kernel) (by rw [show (upd i 15 0) 2 = i 2 from hfi 2 (by decide +kernel), show (upd i 15 0) 5 = i 5 from hfi 5 (by decide +kernel), show (upd i 15 0) 8 = i 8 from hfi 8 (by decide +kernel)]; exact hs_S)) (cwV 3 hts gm_X12_say_X12_isPlaceBarred rfl rfl rfl (by decide +kernel) ⟨Nat.le_of_ble_eq_true rfl, Nat.le_of_ble_eq_true rfl⟩) (pB_V hK hP hD (ci := 12) (q0 := 0) rfl rfl) rfl rfl hl.1 rfl (lv_room (Nat.le_of_ble_eq_true rfl)) dX12_say_146 ⟨Nat.le_of_ble_eq_true rfl, Nat.le_of_ble_eq_true rfl⟩) hS hA hP hD (fun r27 u27 H locs hw27 hP hD hS => ?_)
                    obtain ⟨i27, q27, c27, d27⟩ := u27
                    have hw27 : ((0 ≤ r27.toInt ∧ r27.toInt ≤ 1) ∧ (Sm r27 (PbM (c 9) (c 10) (c 11) (c 12) (c 13) ((upd i 15 0) 8).toInt f.toInt w1.toInt w2.toInt))) ∧ mInv i27 c27 ∧ (∀ k, k ∉ ([15] : List Nat) → i27 k = (upd i 15 0) k) ∧ (∀ k, k ∉ ([14] : List Nat) → c27 k = c k) := hw27
                    obtain ⟨hw27, hI, hei27, hec27⟩ := hw27
                    obtain ⟨hw27, hr27_0⟩ := hw27
                    have hr27_0 : Sm r27 (PbM (c 9) (c 10) (c 11) (c 12) (c 13) (i 8).toInt f.toInt w1.toInt w2.toInt) := by have h9 := hr27_0; rw [show (upd i 15 0) 8 = i 8 from hfi 8 (by decide +kernel)] at h9; exact h9
                    have hfi : ∀ k, k ∉ ([15] : List Nat) → i27 k = i k := fr_z hfi hei27 (by decide +kernel) (by decide +kernel)
                    have hfc : ∀ k, k ∉ ([14] : List Nat) → c27 k = c k := fr_z hfc hec27 (by decide +kernel) (by decide +kernel)
                    have hP : va_P D vwCl (mW o a t i27 q27 c27 d27) H := hP
                    have hD : va_D A (mW o a t i27 q27 c27 d27) := hD
                    refine lv_goto (tgt := 190) hx hb dX12_say_149 (by decide +kernel) ?_
                    exact jn16 i27 q27 c27 d27  r27 hI (fr_w hfi (by decide +kernel)) (fr_w hfc (by decide +kernel)) (show 0 ≤ r27.toInt ∧ r27.toInt ≤ 1 from by omega) (show Sm r27 (BaM (c 9) (c 10) (c 11) (c 12) (c 13) (i 8).toInt (kS (c 3) (c 6) w2.toInt) f.toInt w1.toInt w2.toInt (lI f w3).toInt) from sm_i hr27_0 (Ba_4 (by omega))) _ _ _ hP hD hS (lv_sub hl [0, 1, 2, 3, 4, 5, 6, 7] rfl)
                · have f15 := (ti_eq (a := z7_0.toInt) (b := 0) rfl (by decide +kernel)).mp c15
                  refine lv_aload_n hx hb dX12_say_131 rfl (lv_at hl 3 rfl) ?_
                  refine lv_iconst (v := 3) hx hb dX12_say_132 (by decide +kernel) ?_
                  refine al_calli (va_runV (As := [.int 3]) (rest := []) ⟨hx, hb, hml, hown, hts⟩ (s_X12_meets l D H.size o a t (upd i 15 0) q c d 3 hI (show 1 ≤ 3 ∧ 3 ≤ 6 from by decide +kernel)) (cwV 1 hts gm_X12_say_X12_meets rfl rfl rfl (by decide +kernel) ⟨Nat.le_of_ble_eq_true rfl, Nat.le_of_ble_eq_true rfl⟩) (pB_V hK hP hD (ci := 12) (q0 := 0) rfl rfl) rfl rfl hl.1 rfl (lv_room (Nat.le_of_ble_eq_true rfl)) dX12_say_133 ⟨Nat.le_of_ble_eq_true rfl, Nat.le_of_ble_eq_true rfl⟩) hS hA hP hD (fun r28 u28 H locs hw28 hP hD hS => ?_)
                  obtain ⟨i28, q28, c28, d28⟩ := u28
                  have hw28 : r28 = (-3) ∧ mInv i28 c28 ∧ (∀ k, k ∉ ([0] : List Nat) → i28 k = (upd i 15 0) k) ∧ (∀ k, k ∉ ([1] : List Nat) → c28 k = c k) := hw28
                  obtain ⟨hw28, hI, hei28, hec28⟩ := hw28
                  have hfi : ∀ k, k ∉ ([0, 15] : List Nat) → i28 k = i k := fr_z hfi hei28 (by decide +kernel) (by decide +kernel)
                  have hfc : ∀ k, k ∉ ([1] : List Nat) → c28 k = c k := fr_z hfc hec28 (by decide +kernel) (by decide +kernel)
                  have hP : va_P D vwCl (mW o a t i28 q28 c28 d28) H := hP
                  have hD : va_D A (mW o a t i28 q28 c28 d28) := hD
                  have hw28 : r28 = (-3) := hw28
                  subst hw28
                  exact rw_iret (i28, q28, c28, d28) hx hb hr hlocks hS (hK.sub (tys' := []) [] rfl) hP hD dX12_say_136 ⟨trivial, hI, fr_w hfi (by decide +kernel), fr_w hfc (by decide +kernel), (show SJ (c28 3) (c28 6) (c28 9) (c28 10) (c28 11) (c28 13) ((i28 2) : Int32).toInt ((i28 5) : Int32).toInt ((i28 8) : Int32).toInt from by rw [show c28 3 = c 3 from hfc 3 (by decide +kernel), show c28 6 = c 6 from hfc 6 (by decide +kernel), show c28 9 = c 9 from hfc 9 (by decide +kernel), show c28 10 = c 10 from hfc 10 (by decide +kernel), show c28 11 = c 11 from hfc 11 (by decide +kernel), show c28 13 = c 13 from hfc 13 (by decide +kernel), show i28 2 = i 2 from hfi 2 (by decide +kernel), show i28 5 = i 5 from hfi 5 (by decide +kernel), show i28 8 = i 8 from hfi 8 (by decide +kernel)]; exact hs_S), (show TJ (c28 3) (c28 6) (c28 23) (c28 24) (c28 29) (c28 30) ((i28 5) : Int32).toInt ((i28 22) : Int32).toInt ((i28 27) : Int32).toInt from by rw [show c28 3 = c 3 from hfc 3 (by decide +kernel), show c28 6 = c 6 from hfc 6 (by decide +kernel), show c28 23 = c 23 from hfc 23 (by decide +kernel), show c28 24 = c 24 from hfc 24 (by decide +kernel), show c28 29 = c 29 from hfc 29 (by decide +kernel), show c28 30 = c 30 from hfc 30 (by decide +kernel), show i28 5 = i 5 from hfi 5 (by decide +kernel), show i28 22 = i 22 from hfi 22 (by decide +kernel), show i28 27 = i 27 from hfi 27 (by decide +kernel)]; exact hs_J), (show SyW (AcM (c 9) (c 10) (c 11) (c 12) (c 13) (i 8).toInt (i 5).toInt (kS (c 3) (c 6) w1.toInt) (kS (c 3) (c 6) w2.toInt) f.toInt w1.toInt w2.toInt w3.toInt (lI f w3).toInt) (c 9) (c 10) (c 11) (c 12) (c 13) (c28 9) (c28 10) (c28 11) (c28 12) (c28 13) (i 8) ((i28 8) : Int32) f w1 w2 (lI f w3) from Or.inl ⟨fun h9 => by have h8 := h9.2.2.1; have h7 := h9.2.2.2.1; omega, hfc 9 (by decide +kernel), hfc 10 (by decide +kernel), hfc 11 (by decide +kernel), hfc 12 (by decide +kernel), hfc 13 (by decide +kernel), by first | rfl | rw [show i28 8 = i 8 from hfi 8 (by decide +kernel)]⟩)⟩
              · have f14 := (ti_eq (a := (i 8).toInt) (b := 200) rfl (by decide +kernel)).mp c14
                refine lv_bipush (v := (-2)) hx hb dX12_say_123 (by decide +kernel) ?_
                exact rw_iret ((upd i 15 0), q, c, d) hx hb hr hlocks hS (hK.sub (tys' := []) [] rfl) hP hD dX12_say_125 ⟨trivial, hI, fr_w hfi (by decide +kernel), fr_w hfc (by decide +kernel), (show SJ (c 3) (c 6) (c 9) (c 10) (c 11) (c 13) ((i 2) : Int32).toInt ((i 5) : Int32).toInt ((i 8) : Int32).toInt from hs_S), (show TJ (c 3) (c 6) (c 23) (c 24) (c 29) (c 30) ((i 5) : Int32).toInt ((i 22) : Int32).toInt ((i 27) : Int32).toInt from hs_J), (show SyW (AcM (c 9) (c 10) (c 11) (c 12) (c 13) (i 8).toInt (i 5).toInt (kS (c 3) (c 6) w1.toInt) (kS (c 3) (c 6) w2.toInt) f.toInt w1.toInt w2.toInt w3.toInt (lI f w3).toInt) (c 9) (c 10) (c 11) (c 12) (c 13) (c 9) (c 10) (c 11) (c 12) (c 13) (i 8) ((i 8) : Int32) f w1 w2 (lI f w3) from Or.inl ⟨fun h9 => by have h8 := h9.2.2.1; have h7 := h9.2.2.2.1; omega, rfl, rfl, rfl, rfl, rfl, by first | rfl | rw [show (upd i 15 0) 8 = i 8 from hfi 8 (by decide +kernel)]⟩)⟩
            · have f13 := mt (ti_eq (a := r12.toInt) (b := (-9)) rfl (by decide +kernel)).mpr c13
              refine lv_iload hx hb dX12_say_110 (lv_at hl 0 rfl) ?_
              exact rw_iret ((upd i 15 0), q, c, d) hx hb hr hlocks hS (hK.sub (tys' := []) [] rfl) hP hD dX12_say_112 ⟨trivial, hI, fr_w hfi (by decide +kernel), fr_w hfc (by decide +kernel), (show SJ (c 3) (c 6) (c 9) (c 10) (c 11) (c 13) ((i 2) : Int32).toInt ((i 5) : Int32).toInt ((i 8) : Int32).toInt from hs_S), (show TJ (c 3) (c 6) (c 23) (c 24) (c 29) (c 30) ((i 5) : Int32).toInt ((i 22) : Int32).toInt ((i 27) : Int32).toInt from hs_J), (show SyW (AcM (c 9) (c 10) (c 11) (c 12) (c 13) (i 8).toInt (i 5).toInt (kS (c 3) (c 6) w1.toInt) (kS (c 3) (c 6) w2.toInt) f.toInt w1.toInt w2.toInt w3.toInt (lI f w3).toInt) (c 9) (c 10) (c 11) (c 12) (c 13) (c 9) (c 10) (c 11) (c 12) (c 13) (i 8) ((i 8) : Int32) f w1 w2 (lI f w3) from Or.inl ⟨fun h9 => by have h8 := h9.2.2.1; have h7 := h9.2.2.2.1; omega, rfl, rfl, rfl, rfl, rfl, by first | rfl | rw [show (upd i 15 0) 8 = i 8 from hfi 8 (by decide +kernel)]⟩)⟩
        refine lv_if_eq (tgt := 79) hx hb dX12_say_57 (by decide +kernel) (fun c29 => ?_) (fun c29 => ?_)
        · have f29 := (ti_eq (a := r6.toInt) (b := 0) rfl (by decide +kernel)).mp c29
          have s29 := sm_f hr6_0 c29
          refine lv_iconst (v := 0) hx hb dX12_say_79 (by decide +kernel) ?_
          exact jn7  (0 : Int32) (show 0 ≤ (0 : Int32).toInt ∧ (0 : Int32).toInt ≤ 1 from by decide +kernel) (show Sm (0 : Int32) (Fit f.toInt (kS (c 3) (c 6) w1.toInt) w2.toInt (kS (c 3) (c 6) w2.toInt)) from sm_0 (fun h9 => by first | exact s29 h9.1 | exact h9.2.elim (fun h8 => by omega) s29)) _ _ _ hP hD hS (lv_sub hl [0, 1, 2, 3, 4, 5] rfl)
        · have f29 := mt (ti_eq (a := r6.toInt) (b := 0) rfl (by decide +kernel)).mpr c29
          have s29 := sm_t hr6_0 c29
          refine lv_iload_n hx hb dX12_say_60 rfl (lv_at hl 2 rfl) ?_
          refine lv_bipush (v := 6) hx hb dX12_say_61 (by decide +kernel) ?_
          refine lv_icmp_eq (tgt := 75) hx hb dX12_say_63 (by decide +kernel) (fun c30 => ?_) (fun c30 => ?_)
          · have f30 := (ti_eq (a := f.toInt) (b := 6) rfl (by decide +kernel)).mp c30
            refine lv_iconst (v := 1) hx hb dX12_say_75 (by decide +kernel) ?_
            refine lv_goto (tgt := 80) hx hb dX12_say_76 (by decide +kernel) ?_
            exact jn7  (1 : Int32) (show 0 ≤ (1 : Int32).toInt ∧ (1 : Int32).toInt ≤ 1 from by decide +kernel) (show Sm (1 : Int32) (Fit f.toInt (kS (c 3) (c 6) w1.toInt) w2.toInt (kS (c 3) (c 6) w2.toInt)) from sm_1 ⟨s29, by first | exact Or.inl (by omega) | exact Or.inr s29⟩) _ _ _ hP hD hS (lv_sub hl [0, 1, 2, 3, 4, 5] rfl)
          · have f30 := mt (ti_eq (a := f.toInt) (b := 6) rfl (by decide +kernel)).mpr c30
            refine lv_aload_n hx hb dX12_say_66 rfl (lv_at hl 1 rfl) ?_
            refine lv_iload_n hx hb dX12_say_67 rfl (lv_at hl 2 rfl) ?_
            refine lv_iload_n hx hb dX12_say_68 rfl (lv_at hl 4 rfl) ?_
            refine ro_calli (va_runV (As := [.int f, .int w2]) (rest := []) ⟨hx, hb, hml, hown, hts⟩ (s_X12_fitsRight_e l D H.size o a t (upd i 15 0) q c d f w2 hI (show 0 ≤ w2.toInt ∧ w2.toInt ≤ 29 from by have h60 : (0 : Int32).toInt = 0 := (by decide +kernel); omega) (show 0 ≤ f.toInt ∧ f.toInt ≤ 7 from by have h60 : (0 : Int32).toInt = 0 := (by decide +kernel); omega)) (cwV 2 hts gm_X12_say_X12_fitsRight rfl rfl rfl (by decide +kernel) ⟨Nat.le_of_ble_eq_true rfl, Nat.le_of_ble_eq_true rfl⟩) (pA_V hK hP (ci := 12) (q0 := 0) rfl rfl) rfl rfl hl.1 rfl (lv_room (Nat.le_of_ble_eq_true rfl)) dX12_say_69 ⟨Nat.le_of_ble_eq_true rfl, Nat.le_of_ble_eq_true rfl⟩) hS hA hP (fun r31 u31 H locs hw31 hP hS => ?_)
            have hw31 : ((0 ≤ r31.toInt ∧ r31.toInt ≤ 1) ∧ (Sm r31 (FtR f.toInt (kS (c 3) (c 6) w2.toInt)))) := hw31
            obtain ⟨hw31, hr31_0⟩ := hw31
            have hr31_0 : Sm r31 (FtR f.toInt (kS (c 3) (c 6) w2.toInt)) := hr31_0
            refine lv_if_eq (tgt := 79) hx hb dX12_say_72 (by decide +kernel) (fun c32 => ?_) (fun c32 => ?_)
            · have f32 := (ti_eq (a := r31.toInt) (b := 0) rfl (by decide +kernel)).mp c32
              have s32 := sm_f hr31_0 c32
              refine lv_iconst (v := 0) hx hb dX12_say_79 (by decide +kernel) ?_
              exact jn7  (0 : Int32) (show 0 ≤ (0 : Int32).toInt ∧ (0 : Int32).toInt ≤ 1 from by decide +kernel) (show Sm (0 : Int32) (Fit f.toInt (kS (c 3) (c 6) w1.toInt) w2.toInt (kS (c 3) (c 6) w2.toInt)) from sm_0 (fun h9 => by first | exact s32 h9.1 | exact h9.2.elim (fun h8 => by omega) s32)) _ _ _ hP hD hS (lv_sub hl [0, 1, 2, 3, 4, 5] rfl)
            · have f32 := mt (ti_eq (a := r31.toInt) (b := 0) rfl (by decide +kernel)).mpr c32
              have s32 := sm_t hr31_0 c32
              refine lv_iconst (v := 1) hx hb dX12_say_75 (by decide +kernel) ?_
              refine lv_goto (tgt := 80) hx hb dX12_say_76 (by decide +kernel) ?_
              exact jn7  (1 : Int32) (show 0 ≤ (1 : Int32).toInt ∧ (1 : Int32).toInt ≤ 1 from by decide +kernel) (show Sm (1 : Int32) (Fit f.toInt (kS (c 3) (c 6) w1.toInt) w2.toInt (kS (c 3) (c 6) w2.toInt)) from sm_1 ⟨s29, by first | exact Or.inl (by omega) | exact Or.inr s32⟩) _ _ _ hP hD hS (lv_sub hl [0, 1, 2, 3, 4, 5] rfl)
      refine lv_icmp_lt (tgt := 42) hx hb dX12_say_33 (by decide +kernel) (fun c33 => ?_) (fun c33 => ?_)
      · have f33 := (ti_lt (a := f.toInt) (b := 5) rfl (by decide +kernel)).mp c33
        refine lv_iconst (v := 0) hx hb dX12_say_42 (by decide +kernel) ?_
        refine lv_goto (tgt := 48) hx hb dX12_say_43 (by decide +kernel) ?_
        exact jn5  (0 : Int32) (show 0 ≤ (0 : Int32).toInt ∧ (0 : Int32).toInt ≤ 9 from by decide +kernel) (show (0 : Int32) = lI f w3 from (lI_n (by omega)).symm) _ _ _ hP hD hS (lv_sub hl [0, 1, 2, 3, 4] rfl)
      · have f33 := mt (ti_lt (a := f.toInt) (b := 5) rfl (by decide +kernel)).mpr c33
        refine lv_iload_n hx hb dX12_say_36 rfl (lv_at hl 1 rfl) ?_
        refine lv_bipush (v := 7) hx hb dX12_say_37 (by decide +kernel) ?_
        refine lv_icmp_ne (tgt := 46) hx hb dX12_say_39 (by decide +kernel) (fun c34 => ?_) (fun c34 => ?_)
        · have f34 := mt (ti_eq (a := f.toInt) (b := 7) rfl (by decide +kernel)).mpr c34
          refine lv_iload hx hb dX12_say_46 (lv_at hl 4 rfl) ?_
          exact jn5  w3 (show 0 ≤ w3.toInt ∧ w3.toInt ≤ 9 from by have h60 : (0 : Int32).toInt = 0 := (by decide +kernel); omega) (show w3 = lI f w3 from (lI_y (by omega)).symm) _ _ _ hP hD hS (lv_sub hl [0, 1, 2, 3, 4] rfl)
        · have f34 := (ti_eq (a := f.toInt) (b := 7) rfl (by decide +kernel)).mp c34
          refine lv_iconst (v := 0) hx hb dX12_say_42 (by decide +kernel) ?_
          refine lv_goto (tgt := 48) hx hb dX12_say_43 (by decide +kernel) ?_
          exact jn5  (0 : Int32) (show 0 ≤ (0 : Int32).toInt ∧ (0 : Int32).toInt ≤ 9 from by decide +kernel) (show (0 : Int32) = lI f w3 from (lI_n (by omega)).symm) _ _ _ hP hD hS (lv_sub hl [0, 1, 2, 3, 4] rfl)
    · have f4 := (ti_eq (a := r3.toInt) (b := 0) rfl (by decide +kernel)).mp c4
      have s4 := sm_f hr3_0 c4
      have hNW := s4
      refine lv_iconst (v := (-1)) hx hb dX12_say_29 (by decide +kernel) ?_
      exact rw_iret ((upd i 15 0), q, c, d) hx hb hr hlocks hS (hK.sub (tys' := []) [] rfl) hP hD dX12_say_30 ⟨trivial, hI, fr_w hfi (by decide +kernel), fr_w hfc (by decide +kernel), (show SJ (c 3) (c 6) (c 9) (c 10) (c 11) (c 13) ((i 2) : Int32).toInt ((i 5) : Int32).toInt ((i 8) : Int32).toInt from hs_S), (show TJ (c 3) (c 6) (c 23) (c 24) (c 29) (c 30) ((i 5) : Int32).toInt ((i 22) : Int32).toInt ((i 27) : Int32).toInt from hs_J), (show SyW (AcM (c 9) (c 10) (c 11) (c 12) (c 13) (i 8).toInt (i 5).toInt (kS (c 3) (c 6) w1.toInt) (kS (c 3) (c 6) w2.toInt) f.toInt w1.toInt w2.toInt w3.toInt (lI f w3).toInt) (c 9) (c 10) (c 11) (c 12) (c 13) (c 9) (c 10) (c 11) (c 12) (c 13) (i 8) ((i 8) : Int32) f w1 w2 (lI f w3) from Or.inl ⟨fun h9 => hNW h9.1, rfl, rfl, rfl, rfl, rfl, by first | rfl | rw [show (upd i 15 0) 8 = i 8 from hfi 8 (by decide +kernel)]⟩)⟩

set_option maxHeartbeats 4000000 in
set_option maxRecDepth 100000 in
theorem s_X12_unsay_e (l : Launch) (D : va_G) (sz : Nat) (o : Nat) (a : Nat → Nat) (t : Nat → ClassId) (i : Nat → Int32) (q : Int64) (c : Nat → Nat → Int32) (d : Nat → Nat → Int64) (s1 : Int32) (hI : mInv i c) (hs_S : SJ (c 3) (c 6) (c 9) (c 10) (c 11) (c 13) (i 2).toInt (i 5).toInt (i 8).toInt) (hs_J : TJ (c 3) (c 6) (c 23) (c 24) (c 29) (c 30) (i 5).toInt (i 22).toInt (i 27).toInt) : Met l yX12_unsay wm_X12_unsay ({ frames := 1, cells := 0, slots := 0, locals := 25 }) (va_Pc [.ref o, .int s1] (pB D sz (mW o a t i q c d) (mT t))) (va_Qi (fun (r : Int32) (u : MS) => True ∧ mInv u.1 u.2.2.1 ∧ (∀ k, k ∉ ([22, 27] : List Nat) → u.1 k = i k) ∧ (∀ k, k ∉ ([13] : List Nat) → u.2.2.1 k = c k) ∧ (SJ (u.2.2.1 3) (u.2.2.1 6) (u.2.2.1 9) (u.2.2.1 10) (u.2.2.1 11) (u.2.2.1 13) (u.1 2).toInt (u.1 5).toInt (u.1 8).toInt) ∧ (TJ (u.2.2.1 3) (u.2.2.1 6) (u.2.2.1 23) (u.2.2.1 24) (u.2.2.1 29) (u.2.2.1 30) (u.1 5).toInt (u.1 22).toInt (u.1 27).toInt) ∧ (UnW (c 13) (u.2.2.1 13) (i 8) s1)) (oC D (va_A (mW o a t i q c d) sz) (fun u : MS => mW o a t u.1 u.2.1 u.2.2.1 u.2.2.2) (fun _ => [])) (va_A (mW o a t i q c d) sz)) 0 0 (va_A (mW o a t i q c d) sz) := by
  refine Met.ofW (cc := cX12_unsay) (maxL := 2) (ret := (some .int)) (by decide +kernel) rfl ?_
  intro p e s m args below meth cd s₁ B hml hv
  obtain ⟨rfl, hsz, hP, hK, hD0⟩ := hv
  have hx := B.exec
  have hb := B.bytes
  have hr := B.returns
  have hts := atoms_spec (ws := wm_X12_unsay) B.pre
  have hown : s.vm.findClass RX12 = some m.cls := findClass_of_methodNamed B.named
  have hlocks := B.notSynchronized
  subst hsz
  have hD := hD0.self (sz := s.heap.size)
  generalize hAe : va_A (mW o a t i q c d) s.heap.size = A at hD ⊢
  have hA : ∀ q : Nat, s.heap.size ≤ q → A q := fun q h => by rw [← hAe]; exact Or.inr h
  have hS : va_S A s.heap s.heap [] := va_S.rf
  have hfi : ∀ k, k ∉ ([] : List Nat) → i k = i k := fun _ _ => rfl
  have hfc : ∀ k, k ∉ ([] : List Nat) → c k = c k := fun _ _ => rfl
  have hl := lv_entry ([.ref o, .int s1]) (n := 2) (Nat.le_of_ble_eq_true rfl)
  rw [lg_entry_eq]
  generalize (lg_sl ([.ref o, .int s1]) ++ List.replicate (2 - (lg_sl ([.ref o, .int s1])).length) Slot.unset).toArray = ls at hl ⊢
  have hl : lv_has ls 2 [(0, .ref o), (1, .int s1)] := hl
  have hI0 := hI
  have rb8_i : 0 ≤ (i 8).toInt ∧ (i 8).toInt ≤ 200 := hI.1 8
  refine lv_iload_n hx hb dX12_unsay_0 rfl (lv_at hl 1 rfl) ?_
  refine lv_i2l (v := s1.toInt64) hx hb dX12_unsay_1 rfl ?_
  refine lv_lconst (v := 0) hx hb dX12_unsay_2 (by decide +kernel) ?_
  refine lv_aload_n hx hb dX12_unsay_3 rfl (lv_at hl 0 rfl) ?_
  refine mget_8 (v := (i 8)) rfl hx hb hts (fun _ h => List.mem_cons_of_mem _ (List.mem_append_right _ h)) hown hK hP (hts (.fieldLink RX12 202 "TalePlayModel" "sentences" "I") (List.mem_cons_of_mem _ (List.mem_append_left _ (List.mem_of_getElem? (i := 0) rfl)))) dX12_unsay_4 ?_
  refine lv_iconst (v := 1) hx hb dX12_unsay_7 (by decide +kernel) ?_
  refine lv_isub hx hb dX12_unsay_8 ?_
  refine lv_topi (fun x1 ex1 => ?_)
  have tx1 := ti_sub (a := (i 8).toInt) (b := 1) ex1 rfl (by decide +kernel) (by omega) (by omega)
  refine lv_i2l (v := x1.toInt64) hx hb dX12_unsay_9 rfl ?_
  have hPc := hP.sub (ws' := []) [] rfl
  have hKc := hK.sub (tys' := []) [] rfl
  refine ro_calli (va_runS (As := [.long s1.toInt64, .long 0, .long x1.toInt64]) (rest := []) ⟨hx, hb, hml, hown, hts⟩ (c_X12_in l D s.heap.size s1.toInt64 0 x1.toInt64 s1.toInt 0 ((i 8).toInt - 1) ((Int32.toInt_toInt64 s1).trans rfl) (by decide +kernel) ((Int32.toInt_toInt64 x1).trans tx1)) (va_cwS 3 hts gm_X12_unsay_X12_in rfl rfl rfl (by decide +kernel) ⟨Nat.le_of_ble_eq_true rfl, Nat.le_of_ble_eq_true rfl⟩) (pA_S hKc hPc) rfl rfl hl.1 rfl (lv_room (Nat.le_of_ble_eq_true rfl)) dX12_unsay_10 ⟨Nat.le_of_ble_eq_true rfl, Nat.le_of_ble_eq_true rfl⟩) hS hA hP (fun r2 u2 H locs hw2 hP hS => ?_)
  have hw2 : r2 = if (0 ≤ s1.toInt ∧ s1.toInt ≤ ((i 8).toInt - 1)) then 1 else 0 := hw2
  refine lv_if_eq (tgt := 25) hx hb dX12_unsay_13 (by decide +kernel) (fun c3 => ?_) (fun c3 => ?_)
  · have f3 := fl_f hw2 c3
    refine lv_iconst (v := (-1)) hx hb dX12_unsay_25 (by decide +kernel) ?_
    exact rw_iret (i, q, c, d) hx hb hr hlocks hS (hK.sub (tys' := []) [] rfl) hP hD dX12_unsay_26 ⟨trivial, hI, fr_w hfi (by decide +kernel), fr_w hfc (by decide +kernel), (show SJ (c 3) (c 6) (c 9) (c 10) (c 11) (c 13) ((i 2) : Int32).toInt ((i 5) : Int32).toInt ((i 8) : Int32).toInt from hs_S), (show TJ (c 3) (c 6) (c 23) (c 24) (c 29) (c 30) ((i 5) : Int32).toInt ((i 22) : Int32).toInt ((i 27) : Int32).toInt from hs_J), (show UnW (c 13) (c 13) (i 8) s1 from Or.inl ⟨by unfold UnQ; omega, rfl⟩)⟩
  · have f3 := fl_t hw2 c3
    refine lv_aload_n hx hb dX12_unsay_16 rfl (lv_at hl 0 rfl) ?_
    refine mget_13 hx hb hts (fun _ h => List.mem_cons_of_mem _ (List.mem_append_right _ h)) hown hK hP (hts (.fieldLink RX12 37 "TalePlayModel" "isSaid" "[Z") (List.mem_cons_of_mem _ (List.mem_append_left _ (List.mem_of_getElem? (i := 5) rfl)))) dX12_unsay_17 ?_
    refine lv_iload_n hx hb dX12_unsay_20 rfl (lv_at hl 1 rfl) ?_
    refine mld_13 hx hb hK hP (vp_in_iff.mpr (by have h9 : s1.toInt = s1.toInt := rfl; omega)) dX12_unsay_21 (fun x4 ex4 => ?_)
    have rx4 : 0 ≤ x4.toInt ∧ x4.toInt ≤ 1 := by rw [ex4]; exact hI.2 13 _
    have gx4 : (c 13 (s1 : Int32).toNatClampNeg).toInt = x4.toInt := by rw [ex4]
    refine lv_if_ne (tgt := 27) hx hb dX12_unsay_22 (by decide +kernel) (fun c5 => ?_) (fun c5 => ?_)
    · have f5 := mt (ti_eq (a := x4.toInt) (b := 0) rfl (by decide +kernel)).mpr c5
      refine lv_aload_n hx hb dX12_unsay_27 rfl (lv_at hl 0 rfl) ?_
      refine mget_13 hx hb hts (fun _ h => List.mem_cons_of_mem _ (List.mem_append_right _ h)) hown hK hP (hts (.fieldLink RX12 37 "TalePlayModel" "isSaid" "[Z") (List.mem_cons_of_mem _ (List.mem_append_left _ (List.mem_of_getElem? (i := 5) rfl)))) dX12_unsay_28 ?_
      refine lv_iload_n hx hb dX12_unsay_31 rfl (lv_at hl 1 rfl) ?_
      refine lv_iconst (v := 0) hx hb dX12_unsay_32 (by decide +kernel) ?_
      refine mst_13 hx hb hK hP hD hS (vp_in_iff.mpr (by have h9 : s1.toInt = s1.toInt := rfl; omega)) (nb_z (show 0 ≤ (0 : Int32).toInt ∧ (0 : Int32).toInt ≤ 1 from by decide +kernel)) dX12_unsay_33 (fun H locs hP hD hS => ?_)
      have hI := mInv_c hI (k := 13) (j := (s1 : Int32).toNatClampNeg) (x := 0) (show 0 ≤ (0 : Int32).toInt ∧ (0 : Int32).toInt ≤ 1 from by decide +kernel)
      have hfc : ∀ k, k ∉ ([13] : List Nat) → (updA c 13 (s1 : Int32).toNatClampNeg 0) k = c k := fr_cz hfc (by decide +kernel) (by decide +kernel)
      refine lv_aload_n hx hb dX12_unsay_34 rfl (lv_at hl 0 rfl) ?_
      refine al_callv (va_runV (As := []) (rest := []) ⟨hx, hb, hml, hown, hts⟩ (s_X12_endTale l D H.size o a t i q (updA c 13 (s1 : Int32).toNatClampNeg 0) d  hI ) (cwV 0 hts gm_X12_unsay_X12_endTale rfl rfl rfl (by decide +kernel) ⟨Nat.le_of_ble_eq_true rfl, Nat.le_of_ble_eq_true rfl⟩) (pB_V hK hP hD (ci := 12) (q0 := 0) rfl rfl) rfl rfl hl.1 rfl (lv_room (Nat.le_of_ble_eq_true rfl)) dX12_unsay_35 ⟨Nat.le_of_ble_eq_true rfl, Nat.le_of_ble_eq_true rfl⟩) hS hA hP hD (fun u6 H locs hw6 hP hD hS => ?_)
      obtain ⟨i6, q6, c6, d6⟩ := u6
      have hw6 : True ∧ mInv i6 c6 ∧ (∀ k, k ∉ ([22, 27] : List Nat) → i6 k = i k) ∧ (∀ k, k ∉ ([] : List Nat) → c6 k = (updA c 13 (s1 : Int32).toNatClampNeg 0) k) ∧ ((i6 22).toInt = -9) ∧ ((i6 27).toInt = 0) := hw6
      obtain ⟨hw6, hI, hei6, hec6, hxp6_0, hxp6_1⟩ := hw6
      have hxp6_0 : (i6 22).toInt = -9 := hxp6_0
      have hxp6_1 : (i6 27).toInt = 0 := hxp6_1
      have hfi : ∀ k, k ∉ ([22, 27] : List Nat) → i6 k = i k := fr_z hfi hei6 (by decide +kernel) (by decide +kernel)
      have hfc : ∀ k, k ∉ ([13] : List Nat) → c6 k = c k := fr_z hfc hec6 (by decide +kernel) (by decide +kernel)
      have hP : va_P D vwCl (mW o a t i6 q6 c6 d6) H := hP
      have hD : va_D A (mW o a t i6 q6 c6 d6) := hD
      refine lv_aload_n hx hb dX12_unsay_38 rfl (lv_at hl 0 rfl) ?_
      refine ro_calli (va_runV (As := []) (rest := []) ⟨hx, hb, hml, hown, hts⟩ (s_X12_saidMany l D H.size o a t i6 q6 c6 d6  hI ) (cwV 0 hts gm_X12_unsay_X12_saidMany rfl rfl rfl (by decide +kernel) ⟨Nat.le_of_ble_eq_true rfl, Nat.le_of_ble_eq_true rfl⟩) (pA_V hK hP (ci := 12) (q0 := 0) rfl rfl) rfl rfl hl.1 rfl (lv_room (Nat.le_of_ble_eq_true rfl)) dX12_unsay_39 ⟨Nat.le_of_ble_eq_true rfl, Nat.le_of_ble_eq_true rfl⟩) hS hA hP (fun r7 u7 H locs hw7 hP hS => ?_)
      have hw7 : (0 ≤ r7.toInt ∧ r7.toInt ≤ 200) := hw7
      exact rw_iret (i6, q6, c6, d6) hx hb hr hlocks hS (hK.sub (tys' := []) [] rfl) hP hD dX12_unsay_42 ⟨trivial, hI, fr_w hfi (by decide +kernel), fr_w hfc (by decide +kernel), (show SJ (c6 3) (c6 6) (c6 9) (c6 10) (c6 11) (c6 13) ((i6 2) : Int32).toInt ((i6 5) : Int32).toInt ((i6 8) : Int32).toInt from by rw [show c6 3 = (updA c 13 (s1 : Int32).toNatClampNeg 0) 3 from hec6 3 (by decide +kernel), show c6 6 = (updA c 13 (s1 : Int32).toNatClampNeg 0) 6 from hec6 6 (by decide +kernel), show c6 9 = (updA c 13 (s1 : Int32).toNatClampNeg 0) 9 from hec6 9 (by decide +kernel), show c6 10 = (updA c 13 (s1 : Int32).toNatClampNeg 0) 10 from hec6 10 (by decide +kernel), show c6 11 = (updA c 13 (s1 : Int32).toNatClampNeg 0) 11 from hec6 11 (by decide +kernel), show c6 13 = (updA c 13 (s1 : Int32).toNatClampNeg 0) 13 from hec6 13 (by decide +kernel), show i6 2 = i 2 from hei6 2 (by decide +kernel), show i6 5 = i 5 from hei6 5 (by decide +kernel), show i6 8 = i 8 from hei6 8 (by decide +kernel)]; show SJ (c 3) (c 6) (c 9) (c 10) (c 11) (upd (c 13) (s1 : Int32).toNatClampNeg 0) (i 2).toInt (i 5).toInt (i 8).toInt; exact SJ_un hs_S), (show TJ (c6 3) (c6 6) (c6 23) (c6 24) (c6 29) (c6 30) ((i6 5) : Int32).toInt ((i6 22) : Int32).toInt ((i6 27) : Int32).toInt from TJ_no hxp6_0), (show UnW (c 13) (c6 13) (i 8) s1 from Or.inr ⟨by unfold UnQ; omega, by rw [show c6 13 = (updA c 13 (s1 : Int32).toNatClampNeg 0) 13 from hec6 13 (by decide +kernel)]; rfl⟩)⟩
    · have f5 := (ti_eq (a := x4.toInt) (b := 0) rfl (by decide +kernel)).mp c5
      refine lv_iconst (v := (-1)) hx hb dX12_unsay_25 (by decide +kernel) ?_
      exact rw_iret (i, q, c, d) hx hb hr hlocks hS (hK.sub (tys' := []) [] rfl) hP hD dX12_unsay_26 ⟨trivial, hI, fr_w hfi (by decide +kernel), fr_w hfc (by decide +kernel), (show SJ (c 3) (c 6) (c 9) (c 10) (c 11) (c 13) ((i 2) : Int32).toInt ((i 5) : Int32).toInt ((i 8) : Int32).toInt from hs_S), (show TJ (c 3) (c 6) (c 23) (c 24) (c 29) (c 30) ((i 5) : Int32).toInt ((i 22) : Int32).toInt ((i 27) : Int32).toInt from hs_J), (show UnW (c 13) (c 13) (i 8) s1 from Or.inl ⟨by unfold UnQ; omega, rfl⟩)⟩

def wm_X10_isMovable_e : List Cond := .code yX10_isMovable cX10_isMovable 3 (some .boolean) :: (([.methodLink RX10 40 yX10_sortOf, .instanceMethod yX10_sortOf, .selects RX10 yX10_sortOf yX10_sortOf, .initialized RX10, .code yX10_sortOf cX10_sortOf 2 (some .int), .fieldLink RX10 37 "TalePlay$World" "objects" "I", .fieldLink RX10 15 "TalePlay$World" "sorts" "[I", .fieldLink RX10 21 "TalePlay$World" "kindOf" "[I"] : List Cond) ++ wsX100)
set_option maxRecDepth 20000 in
theorem gm_X10_isMovable_e_X10_sortOf_e_40 : GoodIn wm_X10_isMovable_e (wsV RX10 40 RX10 yX10_sortOf wm_X10_sortOf_e) := goodIn_w (List.forall_mem_append.mpr ⟨List.forall_mem_cons.mpr ⟨List.mem_cons_of_mem _ (List.mem_append_left _ (List.mem_of_getElem? (i := 0) rfl)), List.forall_mem_cons.mpr ⟨List.mem_cons_of_mem _ (List.mem_append_left _ (List.mem_of_getElem? (i := 1) rfl)), List.forall_mem_cons.mpr ⟨List.mem_cons_of_mem _ (List.mem_append_left _ (List.mem_of_getElem? (i := 2) rfl)), List.forall_mem_cons.mpr ⟨List.mem_cons_of_mem _ (List.mem_append_left _ (List.mem_of_getElem? (i := 3) rfl)), (fun _ h => absurd h List.not_mem_nil)⟩⟩⟩⟩, List.forall_mem_cons.mpr ⟨List.mem_cons_of_mem _ (List.mem_append_left _ (List.mem_of_getElem? (i := 4) rfl)), List.forall_mem_append.mpr ⟨List.forall_mem_cons.mpr ⟨List.mem_cons_of_mem _ (List.mem_append_left _ (List.mem_of_getElem? (i := 5) rfl)), List.forall_mem_cons.mpr ⟨List.mem_cons_of_mem _ (List.mem_append_left _ (List.mem_of_getElem? (i := 6) rfl)), List.forall_mem_cons.mpr ⟨List.mem_cons_of_mem _ (List.mem_append_left _ (List.mem_of_getElem? (i := 7) rfl)), (fun _ h => absurd h List.not_mem_nil)⟩⟩⟩, (fun _ h => List.mem_cons_of_mem _ (List.mem_append_right _ h))⟩⟩⟩) (by decide +kernel)
set_option maxHeartbeats 4000000 in
set_option maxRecDepth 100000 in
theorem x_X10_isMovable_e (l : Launch) (D : va_G) (sz : Nat) (sk : Value) (a : Nat → Nat) (t : Nat → ClassId) (i : Nat → Int32) (q : Int64) (c : Nat → Nat → Int32) (d : Nat → Nat → Int64) (w : Int32) (hI : xInv i c) (hiw : 0 ≤ w.toInt ∧ w.toInt < (i 111).toInt) : Met l yX10_isMovable wm_X10_isMovable_e ({ frames := 1, cells := 0, slots := 0, locals := 21 }) (va_Pc [.ref (a 104), .int w] (yA (a 186) D sz (xwW sk a t i q c d) (xtW t))) (va_Qi (fun (r : Int32) (_ : Unit) => (((r.toInt = 1 ∧ ((c 106 (c 108 w.toInt.toNat).toNatClampNeg).toInt = 1 ∨ 3 ≤ (c 106 (c 108 w.toInt.toNat).toNatClampNeg).toInt)) ∨ (r.toInt = 0 ∧ ¬ ((c 106 (c 108 w.toInt.toNat).toNatClampNeg).toInt = 1 ∨ 3 ≤ (c 106 (c 108 w.toInt.toNat).toNatClampNeg).toInt))))) oA (ro sz)) 0 0 (ro sz) := by
  refine Met.ofW (cc := cX10_isMovable) (maxL := 3) (ret := (some .boolean)) (by decide +kernel) rfl ?_
  intro p e s m args below meth cd s₁ B hml hv
  obtain ⟨rfl, ⟨hsz, hP, hK⟩, hN, hZ⟩ := hv
  have hx := B.exec
  have hb := B.bytes
  have hr := B.returns
  have hts := atoms_spec (ws := wm_X10_isMovable_e) B.pre
  have hown : s.vm.findClass RX10 = some m.cls := findClass_of_methodNamed B.named
  have hlocks := B.notSynchronized
  subst hsz
  have hA : ∀ q : Nat, s.heap.size ≤ q → ro s.heap.size q := fun _ h => h
  have hS : va_S (ro s.heap.size) s.heap s.heap [] := va_S.rf
  have hl := lv_entry ([.ref (a 104), .int w]) (n := 3) (Nat.le_of_ble_eq_true rfl)
  rw [lg_entry_eq]
  generalize (lg_sl ([.ref (a 104), .int w]) ++ List.replicate (3 - (lg_sl ([.ref (a 104), .int w])).length) Slot.unset).toArray = ls at hl ⊢
  have hl : lv_has ls 3 [(0, .ref (a 104)), (1, .int w)] := hl
  have rb111_i : 0 ≤ (i 111).toInt ∧ (i 111).toInt ≤ 30 := hI.1 111
  refine lv_aload_n hx hb dX10_isMovable_0 rfl (lv_at hl 0 rfl) ?_
  refine lv_iload_n hx hb dX10_isMovable_1 rfl (lv_at hl 1 rfl) ?_
  refine ro_calli (va_runV (As := [.int w]) (rest := []) ⟨hx, hb, hml, hown, hts⟩ (x_X10_sortOf_e l D s.heap.size .null a t i q c d w hI ) (cwV 1 hts gm_X10_isMovable_e_X10_sortOf_e_40 rfl rfl rfl (by decide +kernel) ⟨Nat.le_of_ble_eq_true rfl, Nat.le_of_ble_eq_true rfl⟩) (yA_V hN (xZ_k hZ hS hA) hK hP (ci := 10) (q0 := 0) rfl rfl) rfl rfl hl.1 rfl (lv_room (Nat.le_of_ble_eq_true rfl)) dX10_isMovable_2 ⟨Nat.le_of_ble_eq_true rfl, Nat.le_of_ble_eq_true rfl⟩) hS hA hP (fun r1 u1 H locs hw1 hP hS => ?_)
  have hw1 : (((r1.toInt = -9 ∧ ¬ (0 ≤ w.toInt ∧ w.toInt < (i 111).toInt)) ∨ (0 ≤ r1.toInt ∧ r1.toInt ≤ 5 ∧ 0 ≤ w.toInt ∧ w.toInt < (i 111).toInt)) ∧ (SO (c 106) (c 108) (i 111).toInt w.toInt r1.toInt)) := hw1
  obtain ⟨hw1, hr1_0⟩ := hw1
  have hr1_0 : SO (c 106) (c 108) (i 111).toInt w.toInt r1.toInt := hr1_0
  have how : r1.toInt = (c 106 (c 108 w.toInt.toNat).toNatClampNeg).toInt := by rcases hr1_0 with h9 | h9; (· exact h9.2.2); (· exfalso; omega)
  refine lv_istore_n (lv' := [(2, .int r1), (0, .ref (a 104)), (1, .int w)]) hx hb dX10_isMovable_5 rfl hl (by decide +kernel) rfl (fun ls hl => ?_)
  refine lv_iload_n hx hb dX10_isMovable_6 rfl (lv_at hl 0 rfl) ?_
  refine lv_iconst (v := 1) hx hb dX10_isMovable_7 (by decide +kernel) ?_
  refine lv_icmp_eq (tgt := 16) hx hb dX10_isMovable_8 (by decide +kernel) (fun c2 => ?_) (fun c2 => ?_)
  · have f2 := (ti_eq (a := r1.toInt) (b := 1) rfl (by decide +kernel)).mp c2
    refine lv_iconst (v := 1) hx hb dX10_isMovable_16 (by decide +kernel) ?_
    refine lv_goto (tgt := 21) hx hb dX10_isMovable_17 (by decide +kernel) ?_
    exact ro_zret hx hb hr hlocks hS rfl dX10_isMovable_21 (show (((1 : Int32).toInt = 1 ∧ ((c 106 (c 108 w.toInt.toNat).toNatClampNeg).toInt = 1 ∨ 3 ≤ (c 106 (c 108 w.toInt.toNat).toNatClampNeg).toInt)) ∨ ((1 : Int32).toInt = 0 ∧ ¬ ((c 106 (c 108 w.toInt.toNat).toNatClampNeg).toInt = 1 ∨ 3 ≤ (c 106 (c 108 w.toInt.toNat).toNatClampNeg).toInt))) from by have h9 : (1 : Int32).toInt = 1 := (by decide +kernel); omega)
  · have f2 := mt (ti_eq (a := r1.toInt) (b := 1) rfl (by decide +kernel)).mpr c2
    refine lv_iload_n hx hb dX10_isMovable_11 rfl (lv_at hl 0 rfl) ?_
    refine lv_iconst (v := 3) hx hb dX10_isMovable_12 (by decide +kernel) ?_
    refine lv_icmp_lt (tgt := 20) hx hb dX10_isMovable_13 (by decide +kernel) (fun c3 => ?_) (fun c3 => ?_)
    · have f3 := (ti_lt (a := r1.toInt) (b := 3) rfl (by decide +kernel)).mp c3
      refine lv_iconst (v := 0) hx hb dX10_isMovable_20 (by decide +kernel) ?_
      exact ro_zret hx hb hr hlocks hS rfl dX10_isMovable_21 (show (((0 : Int32).toInt = 1 ∧ ((c 106 (c 108 w.toInt.toNat).toNatClampNeg).toInt = 1 ∨ 3 ≤ (c 106 (c 108 w.toInt.toNat).toNatClampNeg).toInt)) ∨ ((0 : Int32).toInt = 0 ∧ ¬ ((c 106 (c 108 w.toInt.toNat).toNatClampNeg).toInt = 1 ∨ 3 ≤ (c 106 (c 108 w.toInt.toNat).toNatClampNeg).toInt))) from by have h9 : (0 : Int32).toInt = 0 := (by decide +kernel); omega)
    · have f3 := mt (ti_lt (a := r1.toInt) (b := 3) rfl (by decide +kernel)).mpr c3
      refine lv_iconst (v := 1) hx hb dX10_isMovable_16 (by decide +kernel) ?_
      refine lv_goto (tgt := 21) hx hb dX10_isMovable_17 (by decide +kernel) ?_
      exact ro_zret hx hb hr hlocks hS rfl dX10_isMovable_21 (show (((1 : Int32).toInt = 1 ∧ ((c 106 (c 108 w.toInt.toNat).toNatClampNeg).toInt = 1 ∨ 3 ≤ (c 106 (c 108 w.toInt.toNat).toNatClampNeg).toInt)) ∨ ((1 : Int32).toInt = 0 ∧ ¬ ((c 106 (c 108 w.toInt.toNat).toNatClampNeg).toInt = 1 ∨ 3 ≤ (c 106 (c 108 w.toInt.toNat).toNatClampNeg).toInt))) from by have h9 : (1 : Int32).toInt = 1 := (by decide +kernel); omega)

def wm_X10_isGoods_e : List Cond := .code yX10_isGoods cX10_isGoods 2 (some .boolean) :: (([.methodLink RX10 44 yX10_isMovable, .instanceMethod yX10_isMovable, .selects RX10 yX10_isMovable yX10_isMovable, .initialized RX10, .code yX10_isMovable cX10_isMovable 3 (some .boolean), .methodLink RX10 40 yX10_sortOf, .instanceMethod yX10_sortOf, .selects RX10 yX10_sortOf yX10_sortOf, .code yX10_sortOf cX10_sortOf 2 (some .int), .fieldLink RX10 37 "TalePlay$World" "objects" "I", .fieldLink RX10 15 "TalePlay$World" "sorts" "[I", .fieldLink RX10 21 "TalePlay$World" "kindOf" "[I"] : List Cond) ++ wsX100)
set_option maxRecDepth 20000 in
theorem gm_X10_isGoods_e_X10_isMovable_e_44 : GoodIn wm_X10_isGoods_e (wsV RX10 44 RX10 yX10_isMovable wm_X10_isMovable_e) := goodIn_w (List.forall_mem_append.mpr ⟨List.forall_mem_cons.mpr ⟨List.mem_cons_of_mem _ (List.mem_append_left _ (List.mem_of_getElem? (i := 0) rfl)), List.forall_mem_cons.mpr ⟨List.mem_cons_of_mem _ (List.mem_append_left _ (List.mem_of_getElem? (i := 1) rfl)), List.forall_mem_cons.mpr ⟨List.mem_cons_of_mem _ (List.mem_append_left _ (List.mem_of_getElem? (i := 2) rfl)), List.forall_mem_cons.mpr ⟨List.mem_cons_of_mem _ (List.mem_append_left _ (List.mem_of_getElem? (i := 3) rfl)), (fun _ h => absurd h List.not_mem_nil)⟩⟩⟩⟩, List.forall_mem_cons.mpr ⟨List.mem_cons_of_mem _ (List.mem_append_left _ (List.mem_of_getElem? (i := 4) rfl)), List.forall_mem_append.mpr ⟨List.forall_mem_cons.mpr ⟨List.mem_cons_of_mem _ (List.mem_append_left _ (List.mem_of_getElem? (i := 5) rfl)), List.forall_mem_cons.mpr ⟨List.mem_cons_of_mem _ (List.mem_append_left _ (List.mem_of_getElem? (i := 6) rfl)), List.forall_mem_cons.mpr ⟨List.mem_cons_of_mem _ (List.mem_append_left _ (List.mem_of_getElem? (i := 7) rfl)), List.forall_mem_cons.mpr ⟨List.mem_cons_of_mem _ (List.mem_append_left _ (List.mem_of_getElem? (i := 3) rfl)), List.forall_mem_cons.mpr ⟨List.mem_cons_of_mem _ (List.mem_append_left _ (List.mem_of_getElem? (i := 8) rfl)), List.forall_mem_cons.mpr ⟨List.mem_cons_of_mem _ (List.mem_append_left _ (List.mem_of_getElem? (i := 9) rfl)), List.forall_mem_cons.mpr ⟨List.mem_cons_of_mem _ (List.mem_append_left _ (List.mem_of_getElem? (i := 10) rfl)), List.forall_mem_cons.mpr ⟨List.mem_cons_of_mem _ (List.mem_append_left _ (List.mem_of_getElem? (i := 11) rfl)), (fun _ h => absurd h List.not_mem_nil)⟩⟩⟩⟩⟩⟩⟩⟩, (fun _ h => List.mem_cons_of_mem _ (List.mem_append_right _ h))⟩⟩⟩) (by decide +kernel)
set_option maxRecDepth 20000 in
theorem gm_X10_isGoods_e_X10_sortOf_e_40 : GoodIn wm_X10_isGoods_e (wsV RX10 40 RX10 yX10_sortOf wm_X10_sortOf_e) := goodIn_w (List.forall_mem_append.mpr ⟨List.forall_mem_cons.mpr ⟨List.mem_cons_of_mem _ (List.mem_append_left _ (List.mem_of_getElem? (i := 5) rfl)), List.forall_mem_cons.mpr ⟨List.mem_cons_of_mem _ (List.mem_append_left _ (List.mem_of_getElem? (i := 6) rfl)), List.forall_mem_cons.mpr ⟨List.mem_cons_of_mem _ (List.mem_append_left _ (List.mem_of_getElem? (i := 7) rfl)), List.forall_mem_cons.mpr ⟨List.mem_cons_of_mem _ (List.mem_append_left _ (List.mem_of_getElem? (i := 3) rfl)), (fun _ h => absurd h List.not_mem_nil)⟩⟩⟩⟩, List.forall_mem_cons.mpr ⟨List.mem_cons_of_mem _ (List.mem_append_left _ (List.mem_of_getElem? (i := 8) rfl)), List.forall_mem_append.mpr ⟨List.forall_mem_cons.mpr ⟨List.mem_cons_of_mem _ (List.mem_append_left _ (List.mem_of_getElem? (i := 9) rfl)), List.forall_mem_cons.mpr ⟨List.mem_cons_of_mem _ (List.mem_append_left _ (List.mem_of_getElem? (i := 10) rfl)), List.forall_mem_cons.mpr ⟨List.mem_cons_of_mem _ (List.mem_append_left _ (List.mem_of_getElem? (i := 11) rfl)), (fun _ h => absurd h List.not_mem_nil)⟩⟩⟩, (fun _ h => List.mem_cons_of_mem _ (List.mem_append_right _ h))⟩⟩⟩) (by decide +kernel)
set_option maxHeartbeats 4000000 in
set_option maxRecDepth 100000 in
theorem x_X10_isGoods_e (l : Launch) (D : va_G) (sz : Nat) (sk : Value) (a : Nat → Nat) (t : Nat → ClassId) (i : Nat → Int32) (q : Int64) (c : Nat → Nat → Int32) (d : Nat → Nat → Int64) (w : Int32) (hI : xInv i c) (hiw : 0 ≤ w.toInt ∧ w.toInt < (i 111).toInt) : Met l yX10_isGoods wm_X10_isGoods_e ({ frames := 2, cells := 0, slots := 0, locals := 43 }) (va_Pc [.ref (a 104), .int w] (yA (a 186) D sz (xwW sk a t i q c d) (xtW t))) (va_Qi (fun (r : Int32) (_ : Unit) => (((r.toInt = 1 ∧ (((c 106 (c 108 w.toInt.toNat).toNatClampNeg).toInt = 1 ∨ 3 ≤ (c 106 (c 108 w.toInt.toNat).toNatClampNeg).toInt) ∧ ¬ (c 106 (c 108 w.toInt.toNat).toNatClampNeg).toInt = 5)) ∨ (r.toInt = 0 ∧ ¬ (((c 106 (c 108 w.toInt.toNat).toNatClampNeg).toInt = 1 ∨ 3 ≤ (c 106 (c 108 w.toInt.toNat).toNatClampNeg).toInt) ∧ ¬ (c 106 (c 108 w.toInt.toNat).toNatClampNeg).toInt = 5))))) oA (ro sz)) 0 0 (ro sz) := by
  refine Met.ofW (cc := cX10_isGoods) (maxL := 2) (ret := (some .boolean)) (by decide +kernel) rfl ?_
  intro p e s m args below meth cd s₁ B hml hv
  obtain ⟨rfl, ⟨hsz, hP, hK⟩, hN, hZ⟩ := hv
  have hx := B.exec
  have hb := B.bytes
  have hr := B.returns
  have hts := atoms_spec (ws := wm_X10_isGoods_e) B.pre
  have hown : s.vm.findClass RX10 = some m.cls := findClass_of_methodNamed B.named
  have hlocks := B.notSynchronized
  subst hsz
  have hA : ∀ q : Nat, s.heap.size ≤ q → ro s.heap.size q := fun _ h => h
  have hS : va_S (ro s.heap.size) s.heap s.heap [] := va_S.rf
  have hl := lv_entry ([.ref (a 104), .int w]) (n := 2) (Nat.le_of_ble_eq_true rfl)
  rw [lg_entry_eq]
  generalize (lg_sl ([.ref (a 104), .int w]) ++ List.replicate (2 - (lg_sl ([.ref (a 104), .int w])).length) Slot.unset).toArray = ls at hl ⊢
  have hl : lv_has ls 2 [(0, .ref (a 104)), (1, .int w)] := hl
  have rb111_i : 0 ≤ (i 111).toInt ∧ (i 111).toInt ≤ 30 := hI.1 111
  refine lv_aload_n hx hb dX10_isGoods_0 rfl (lv_at hl 0 rfl) ?_
  refine lv_iload_n hx hb dX10_isGoods_1 rfl (lv_at hl 1 rfl) ?_
  refine ro_calli (va_runV (As := [.int w]) (rest := []) ⟨hx, hb, hml, hown, hts⟩ (x_X10_isMovable_e l D s.heap.size .null a t i q c d w hI (show 0 ≤ w.toInt ∧ w.toInt < ((i 111) : Int32).toInt from by omega)) (cwV 1 hts gm_X10_isGoods_e_X10_isMovable_e_44 rfl rfl rfl (by decide +kernel) ⟨Nat.le_of_ble_eq_true rfl, Nat.le_of_ble_eq_true rfl⟩) (yA_V hN (xZ_k hZ hS hA) hK hP (ci := 10) (q0 := 0) rfl rfl) rfl rfl hl.1 rfl (lv_room (Nat.le_of_ble_eq_true rfl)) dX10_isGoods_2 ⟨Nat.le_of_ble_eq_true rfl, Nat.le_of_ble_eq_true rfl⟩) hS hA hP (fun r1 u1 H locs hw1 hP hS => ?_)
  have hw1 : (((r1.toInt = 1 ∧ ((c 106 (c 108 w.toInt.toNat).toNatClampNeg).toInt = 1 ∨ 3 ≤ (c 106 (c 108 w.toInt.toNat).toNatClampNeg).toInt)) ∨ (r1.toInt = 0 ∧ ¬ ((c 106 (c 108 w.toInt.toNat).toNatClampNeg).toInt = 1 ∨ 3 ≤ (c 106 (c 108 w.toInt.toNat).toNatClampNeg).toInt)))) := hw1
  refine lv_if_eq (tgt := 21) hx hb dX10_isGoods_5 (by decide +kernel) (fun c2 => ?_) (fun c2 => ?_)
  · have f2 := (ti_eq (a := r1.toInt) (b := 0) rfl (by decide +kernel)).mp c2
    refine lv_iconst (v := 0) hx hb dX10_isGoods_21 (by decide +kernel) ?_
    exact ro_zret hx hb hr hlocks hS rfl dX10_isGoods_22 (show (((0 : Int32).toInt = 1 ∧ (((c 106 (c 108 w.toInt.toNat).toNatClampNeg).toInt = 1 ∨ 3 ≤ (c 106 (c 108 w.toInt.toNat).toNatClampNeg).toInt) ∧ ¬ (c 106 (c 108 w.toInt.toNat).toNatClampNeg).toInt = 5)) ∨ ((0 : Int32).toInt = 0 ∧ ¬ (((c 106 (c 108 w.toInt.toNat).toNatClampNeg).toInt = 1 ∨ 3 ≤ (c 106 (c 108 w.toInt.toNat).toNatClampNeg).toInt) ∧ ¬ (c 106 (c 108 w.toInt.toNat).toNatClampNeg).toInt = 5))) from by have h9 : (0 : Int32).toInt = 0 := (by decide +kernel); omega)
  · have f2 := mt (ti_eq (a := r1.toInt) (b := 0) rfl (by decide +kernel)).mpr c2
    refine lv_aload_n hx hb dX10_isGoods_8 rfl (lv_at hl 0 rfl) ?_
    refine lv_iload_n hx hb dX10_isGoods_9 rfl (lv_at hl 1 rfl) ?_
    refine ro_calli (va_runV (As := [.int w]) (rest := []) ⟨hx, hb, hml, hown, hts⟩ (x_X10_sortOf_e l D H.size .null a t i q c d w hI ) (cwV 1 hts gm_X10_isGoods_e_X10_sortOf_e_40 rfl rfl rfl (by decide +kernel) ⟨Nat.le_of_ble_eq_true rfl, Nat.le_of_ble_eq_true rfl⟩) (yA_V hN (xZ_k hZ hS hA) hK hP (ci := 10) (q0 := 0) rfl rfl) rfl rfl hl.1 rfl (lv_room (Nat.le_of_ble_eq_true rfl)) dX10_isGoods_10 ⟨Nat.le_of_ble_eq_true rfl, Nat.le_of_ble_eq_true rfl⟩) hS hA hP (fun r3 u3 H locs hw3 hP hS => ?_)
    have hw3 : (((r3.toInt = -9 ∧ ¬ (0 ≤ w.toInt ∧ w.toInt < (i 111).toInt)) ∨ (0 ≤ r3.toInt ∧ r3.toInt ≤ 5 ∧ 0 ≤ w.toInt ∧ w.toInt < (i 111).toInt)) ∧ (SO (c 106) (c 108) (i 111).toInt w.toInt r3.toInt)) := hw3
    obtain ⟨hw3, hr3_0⟩ := hw3
    have hr3_0 : SO (c 106) (c 108) (i 111).toInt w.toInt r3.toInt := hr3_0
    have how : r3.toInt = (c 106 (c 108 w.toInt.toNat).toNatClampNeg).toInt := by rcases hr3_0 with h9 | h9; (· exact h9.2.2); (· exfalso; omega)
    refine lv_iconst (v := 5) hx hb dX10_isGoods_13 (by decide +kernel) ?_
    refine lv_icmp_eq (tgt := 21) hx hb dX10_isGoods_14 (by decide +kernel) (fun c4 => ?_) (fun c4 => ?_)
    · have f4 := (ti_eq (a := r3.toInt) (b := 5) rfl (by decide +kernel)).mp c4
      refine lv_iconst (v := 0) hx hb dX10_isGoods_21 (by decide +kernel) ?_
      exact ro_zret hx hb hr hlocks hS rfl dX10_isGoods_22 (show (((0 : Int32).toInt = 1 ∧ (((c 106 (c 108 w.toInt.toNat).toNatClampNeg).toInt = 1 ∨ 3 ≤ (c 106 (c 108 w.toInt.toNat).toNatClampNeg).toInt) ∧ ¬ (c 106 (c 108 w.toInt.toNat).toNatClampNeg).toInt = 5)) ∨ ((0 : Int32).toInt = 0 ∧ ¬ (((c 106 (c 108 w.toInt.toNat).toNatClampNeg).toInt = 1 ∨ 3 ≤ (c 106 (c 108 w.toInt.toNat).toNatClampNeg).toInt) ∧ ¬ (c 106 (c 108 w.toInt.toNat).toNatClampNeg).toInt = 5))) from by have h9 : (0 : Int32).toInt = 0 := (by decide +kernel); omega)
    · have f4 := mt (ti_eq (a := r3.toInt) (b := 5) rfl (by decide +kernel)).mpr c4
      refine lv_iconst (v := 1) hx hb dX10_isGoods_17 (by decide +kernel) ?_
      refine lv_goto (tgt := 22) hx hb dX10_isGoods_18 (by decide +kernel) ?_
      exact ro_zret hx hb hr hlocks hS rfl dX10_isGoods_22 (show (((1 : Int32).toInt = 1 ∧ (((c 106 (c 108 w.toInt.toNat).toNatClampNeg).toInt = 1 ∨ 3 ≤ (c 106 (c 108 w.toInt.toNat).toNatClampNeg).toInt) ∧ ¬ (c 106 (c 108 w.toInt.toNat).toNatClampNeg).toInt = 5)) ∨ ((1 : Int32).toInt = 0 ∧ ¬ (((c 106 (c 108 w.toInt.toNat).toNatClampNeg).toInt = 1 ∨ 3 ≤ (c 106 (c 108 w.toInt.toNat).toNatClampNeg).toInt) ∧ ¬ (c 106 (c 108 w.toInt.toNat).toNatClampNeg).toInt = 5))) from by have h9 : (1 : Int32).toInt = 1 := (by decide +kernel); omega)

def wm_X10_isShutter_e : List Cond := .code yX10_isShutter cX10_isShutter 3 (some .boolean) :: (([.methodLink RX10 40 yX10_sortOf, .instanceMethod yX10_sortOf, .selects RX10 yX10_sortOf yX10_sortOf, .initialized RX10, .code yX10_sortOf cX10_sortOf 2 (some .int), .fieldLink RX10 37 "TalePlay$World" "objects" "I", .fieldLink RX10 15 "TalePlay$World" "sorts" "[I", .fieldLink RX10 21 "TalePlay$World" "kindOf" "[I"] : List Cond) ++ wsX100)
set_option maxRecDepth 20000 in
theorem gm_X10_isShutter_e_X10_sortOf_e_40 : GoodIn wm_X10_isShutter_e (wsV RX10 40 RX10 yX10_sortOf wm_X10_sortOf_e) := goodIn_w (List.forall_mem_append.mpr ⟨List.forall_mem_cons.mpr ⟨List.mem_cons_of_mem _ (List.mem_append_left _ (List.mem_of_getElem? (i := 0) rfl)), List.forall_mem_cons.mpr ⟨List.mem_cons_of_mem _ (List.mem_append_left _ (List.mem_of_getElem? (i := 1) rfl)), List.forall_mem_cons.mpr ⟨List.mem_cons_of_mem _ (List.mem_append_left _ (List.mem_of_getElem? (i := 2) rfl)), List.forall_mem_cons.mpr ⟨List.mem_cons_of_mem _ (List.mem_append_left _ (List.mem_of_getElem? (i := 3) rfl)), (fun _ h => absurd h List.not_mem_nil)⟩⟩⟩⟩, List.forall_mem_cons.mpr ⟨List.mem_cons_of_mem _ (List.mem_append_left _ (List.mem_of_getElem? (i := 4) rfl)), List.forall_mem_append.mpr ⟨List.forall_mem_cons.mpr ⟨List.mem_cons_of_mem _ (List.mem_append_left _ (List.mem_of_getElem? (i := 5) rfl)), List.forall_mem_cons.mpr ⟨List.mem_cons_of_mem _ (List.mem_append_left _ (List.mem_of_getElem? (i := 6) rfl)), List.forall_mem_cons.mpr ⟨List.mem_cons_of_mem _ (List.mem_append_left _ (List.mem_of_getElem? (i := 7) rfl)), (fun _ h => absurd h List.not_mem_nil)⟩⟩⟩, (fun _ h => List.mem_cons_of_mem _ (List.mem_append_right _ h))⟩⟩⟩) (by decide +kernel)
set_option maxHeartbeats 4000000 in
set_option maxRecDepth 100000 in
theorem x_X10_isShutter_e (l : Launch) (D : va_G) (sz : Nat) (sk : Value) (a : Nat → Nat) (t : Nat → ClassId) (i : Nat → Int32) (q : Int64) (c : Nat → Nat → Int32) (d : Nat → Nat → Int64) (w : Int32) (hI : xInv i c) (hiw : 0 ≤ w.toInt ∧ w.toInt < (i 111).toInt) : Met l yX10_isShutter wm_X10_isShutter_e ({ frames := 1, cells := 0, slots := 0, locals := 21 }) (va_Pc [.ref (a 104), .int w] (yA (a 186) D sz (xwW sk a t i q c d) (xtW t))) (va_Qi (fun (r : Int32) (_ : Unit) => (((r.toInt = 1 ∧ ((c 106 (c 108 w.toInt.toNat).toNatClampNeg).toInt = 2 ∨ (c 106 (c 108 w.toInt.toNat).toNatClampNeg).toInt = 3)) ∨ (r.toInt = 0 ∧ ¬ ((c 106 (c 108 w.toInt.toNat).toNatClampNeg).toInt = 2 ∨ (c 106 (c 108 w.toInt.toNat).toNatClampNeg).toInt = 3))))) oA (ro sz)) 0 0 (ro sz) := by
  refine Met.ofW (cc := cX10_isShutter) (maxL := 3) (ret := (some .boolean)) (by decide +kernel) rfl ?_
  intro p e s m args below meth cd s₁ B hml hv
  obtain ⟨rfl, ⟨hsz, hP, hK⟩, hN, hZ⟩ := hv
  have hx := B.exec
  have hb := B.bytes
  have hr := B.returns
  have hts := atoms_spec (ws := wm_X10_isShutter_e) B.pre
  have hown : s.vm.findClass RX10 = some m.cls := findClass_of_methodNamed B.named
  have hlocks := B.notSynchronized
  subst hsz
  have hA : ∀ q : Nat, s.heap.size ≤ q → ro s.heap.size q := fun _ h => h
  have hS : va_S (ro s.heap.size) s.heap s.heap [] := va_S.rf
  have hl := lv_entry ([.ref (a 104), .int w]) (n := 3) (Nat.le_of_ble_eq_true rfl)
  rw [lg_entry_eq]
  generalize (lg_sl ([.ref (a 104), .int w]) ++ List.replicate (3 - (lg_sl ([.ref (a 104), .int w])).length) Slot.unset).toArray = ls at hl ⊢
  have hl : lv_has ls 3 [(0, .ref (a 104)), (1, .int w)] := hl
  have rb111_i : 0 ≤ (i 111).toInt ∧ (i 111).toInt ≤ 30 := hI.1 111
  refine lv_aload_n hx hb dX10_isShutter_0 rfl (lv_at hl 0 rfl) ?_
  refine lv_iload_n hx hb dX10_isShutter_1 rfl (lv_at hl 1 rfl) ?_
  refine ro_calli (va_runV (As := [.int w]) (rest := []) ⟨hx, hb, hml, hown, hts⟩ (x_X10_sortOf_e l D s.heap.size .null a t i q c d w hI ) (cwV 1 hts gm_X10_isShutter_e_X10_sortOf_e_40 rfl rfl rfl (by decide +kernel) ⟨Nat.le_of_ble_eq_true rfl, Nat.le_of_ble_eq_true rfl⟩) (yA_V hN (xZ_k hZ hS hA) hK hP (ci := 10) (q0 := 0) rfl rfl) rfl rfl hl.1 rfl (lv_room (Nat.le_of_ble_eq_true rfl)) dX10_isShutter_2 ⟨Nat.le_of_ble_eq_true rfl, Nat.le_of_ble_eq_true rfl⟩) hS hA hP (fun r1 u1 H locs hw1 hP hS => ?_)
  have hw1 : (((r1.toInt = -9 ∧ ¬ (0 ≤ w.toInt ∧ w.toInt < (i 111).toInt)) ∨ (0 ≤ r1.toInt ∧ r1.toInt ≤ 5 ∧ 0 ≤ w.toInt ∧ w.toInt < (i 111).toInt)) ∧ (SO (c 106) (c 108) (i 111).toInt w.toInt r1.toInt)) := hw1
  obtain ⟨hw1, hr1_0⟩ := hw1
  have hr1_0 : SO (c 106) (c 108) (i 111).toInt w.toInt r1.toInt := hr1_0
  have how : r1.toInt = (c 106 (c 108 w.toInt.toNat).toNatClampNeg).toInt := by rcases hr1_0 with h9 | h9; (· exact h9.2.2); (· exfalso; omega)
  refine lv_istore_n (lv' := [(2, .int r1), (0, .ref (a 104)), (1, .int w)]) hx hb dX10_isShutter_5 rfl hl (by decide +kernel) rfl (fun ls hl => ?_)
  refine lv_iload_n hx hb dX10_isShutter_6 rfl (lv_at hl 0 rfl) ?_
  refine lv_iconst (v := 2) hx hb dX10_isShutter_7 (by decide +kernel) ?_
  refine lv_icmp_eq (tgt := 16) hx hb dX10_isShutter_8 (by decide +kernel) (fun c2 => ?_) (fun c2 => ?_)
  · have f2 := (ti_eq (a := r1.toInt) (b := 2) rfl (by decide +kernel)).mp c2
    refine lv_iconst (v := 1) hx hb dX10_isShutter_16 (by decide +kernel) ?_
    refine lv_goto (tgt := 21) hx hb dX10_isShutter_17 (by decide +kernel) ?_
    exact ro_zret hx hb hr hlocks hS rfl dX10_isShutter_21 (show (((1 : Int32).toInt = 1 ∧ ((c 106 (c 108 w.toInt.toNat).toNatClampNeg).toInt = 2 ∨ (c 106 (c 108 w.toInt.toNat).toNatClampNeg).toInt = 3)) ∨ ((1 : Int32).toInt = 0 ∧ ¬ ((c 106 (c 108 w.toInt.toNat).toNatClampNeg).toInt = 2 ∨ (c 106 (c 108 w.toInt.toNat).toNatClampNeg).toInt = 3))) from by have h9 : (1 : Int32).toInt = 1 := (by decide +kernel); omega)
  · have f2 := mt (ti_eq (a := r1.toInt) (b := 2) rfl (by decide +kernel)).mpr c2
    refine lv_iload_n hx hb dX10_isShutter_11 rfl (lv_at hl 0 rfl) ?_
    refine lv_iconst (v := 3) hx hb dX10_isShutter_12 (by decide +kernel) ?_
    refine lv_icmp_ne (tgt := 20) hx hb dX10_isShutter_13 (by decide +kernel) (fun c3 => ?_) (fun c3 => ?_)
    · have f3 := mt (ti_eq (a := r1.toInt) (b := 3) rfl (by decide +kernel)).mpr c3
      refine lv_iconst (v := 0) hx hb dX10_isShutter_20 (by decide +kernel) ?_
      exact ro_zret hx hb hr hlocks hS rfl dX10_isShutter_21 (show (((0 : Int32).toInt = 1 ∧ ((c 106 (c 108 w.toInt.toNat).toNatClampNeg).toInt = 2 ∨ (c 106 (c 108 w.toInt.toNat).toNatClampNeg).toInt = 3)) ∨ ((0 : Int32).toInt = 0 ∧ ¬ ((c 106 (c 108 w.toInt.toNat).toNatClampNeg).toInt = 2 ∨ (c 106 (c 108 w.toInt.toNat).toNatClampNeg).toInt = 3))) from by have h9 : (0 : Int32).toInt = 0 := (by decide +kernel); omega)
    · have f3 := (ti_eq (a := r1.toInt) (b := 3) rfl (by decide +kernel)).mp c3
      refine lv_iconst (v := 1) hx hb dX10_isShutter_16 (by decide +kernel) ?_
      refine lv_goto (tgt := 21) hx hb dX10_isShutter_17 (by decide +kernel) ?_
      exact ro_zret hx hb hr hlocks hS rfl dX10_isShutter_21 (show (((1 : Int32).toInt = 1 ∧ ((c 106 (c 108 w.toInt.toNat).toNatClampNeg).toInt = 2 ∨ (c 106 (c 108 w.toInt.toNat).toNatClampNeg).toInt = 3)) ∨ ((1 : Int32).toInt = 0 ∧ ¬ ((c 106 (c 108 w.toInt.toNat).toNatClampNeg).toInt = 2 ∨ (c 106 (c 108 w.toInt.toNat).toNatClampNeg).toInt = 3))) from by have h9 : (1 : Int32).toInt = 1 := (by decide +kernel); omega)

def wm_X10_canHave_e : List Cond := .code yX10_canHave cX10_canHave 3 (some .boolean) :: ((([.methodLink RX10 48 yX10_isShutter, .instanceMethod yX10_isShutter, .selects RX10 yX10_isShutter yX10_isShutter, .initialized RX10, .code yX10_isShutter cX10_isShutter 3 (some .boolean), .methodLink RX10 40 yX10_sortOf, .instanceMethod yX10_sortOf, .selects RX10 yX10_sortOf yX10_sortOf, .code yX10_sortOf cX10_sortOf 2 (some .int), .fieldLink RX10 37 "TalePlay$World" "objects" "I", .fieldLink RX10 15 "TalePlay$World" "sorts" "[I", .fieldLink RX10 21 "TalePlay$World" "kindOf" "[I", .methodLink RX10 44 yX10_isMovable, .instanceMethod yX10_isMovable, .selects RX10 yX10_isMovable yX10_isMovable, .code yX10_isMovable cX10_isMovable 3 (some .boolean)] : List Cond) ++ ([.methodLink RX10 51 yX10_isGoods, .instanceMethod yX10_isGoods, .selects RX10 yX10_isGoods yX10_isGoods, .code yX10_isGoods cX10_isGoods 2 (some .boolean)] : List Cond)) ++ wsX100)
set_option maxRecDepth 20000 in
theorem gm_X10_canHave_e_X10_isShutter_e_48 : GoodIn wm_X10_canHave_e (wsV RX10 48 RX10 yX10_isShutter wm_X10_isShutter_e) := goodIn_w (List.forall_mem_append.mpr ⟨List.forall_mem_cons.mpr ⟨List.mem_cons_of_mem _ (List.mem_append_left _ (List.mem_append_left _ (List.mem_of_getElem? (i := 0) rfl))), List.forall_mem_cons.mpr ⟨List.mem_cons_of_mem _ (List.mem_append_left _ (List.mem_append_left _ (List.mem_of_getElem? (i := 1) rfl))), List.forall_mem_cons.mpr ⟨List.mem_cons_of_mem _ (List.mem_append_left _ (List.mem_append_left _ (List.mem_of_getElem? (i := 2) rfl))), List.forall_mem_cons.mpr ⟨List.mem_cons_of_mem _ (List.mem_append_left _ (List.mem_append_left _ (List.mem_of_getElem? (i := 3) rfl))), (fun _ h => absurd h List.not_mem_nil)⟩⟩⟩⟩, List.forall_mem_cons.mpr ⟨List.mem_cons_of_mem _ (List.mem_append_left _ (List.mem_append_left _ (List.mem_of_getElem? (i := 4) rfl))), List.forall_mem_append.mpr ⟨List.forall_mem_cons.mpr ⟨List.mem_cons_of_mem _ (List.mem_append_left _ (List.mem_append_left _ (List.mem_of_getElem? (i := 5) rfl))), List.forall_mem_cons.mpr ⟨List.mem_cons_of_mem _ (List.mem_append_left _ (List.mem_append_left _ (List.mem_of_getElem? (i := 6) rfl))), List.forall_mem_cons.mpr ⟨List.mem_cons_of_mem _ (List.mem_append_left _ (List.mem_append_left _ (List.mem_of_getElem? (i := 7) rfl))), List.forall_mem_cons.mpr ⟨List.mem_cons_of_mem _ (List.mem_append_left _ (List.mem_append_left _ (List.mem_of_getElem? (i := 3) rfl))), List.forall_mem_cons.mpr ⟨List.mem_cons_of_mem _ (List.mem_append_left _ (List.mem_append_left _ (List.mem_of_getElem? (i := 8) rfl))), List.forall_mem_cons.mpr ⟨List.mem_cons_of_mem _ (List.mem_append_left _ (List.mem_append_left _ (List.mem_of_getElem? (i := 9) rfl))), List.forall_mem_cons.mpr ⟨List.mem_cons_of_mem _ (List.mem_append_left _ (List.mem_append_left _ (List.mem_of_getElem? (i := 10) rfl))), List.forall_mem_cons.mpr ⟨List.mem_cons_of_mem _ (List.mem_append_left _ (List.mem_append_left _ (List.mem_of_getElem? (i := 11) rfl))), (fun _ h => absurd h List.not_mem_nil)⟩⟩⟩⟩⟩⟩⟩⟩, (fun _ h => List.mem_cons_of_mem _ (List.mem_append_right _ h))⟩⟩⟩) (by decide +kernel)
set_option maxRecDepth 20000 in
theorem gm_X10_canHave_e_X10_isMovable_e_44 : GoodIn wm_X10_canHave_e (wsV RX10 44 RX10 yX10_isMovable wm_X10_isMovable_e) := goodIn_w (List.forall_mem_append.mpr ⟨List.forall_mem_cons.mpr ⟨List.mem_cons_of_mem _ (List.mem_append_left _ (List.mem_append_left _ (List.mem_of_getElem? (i := 12) rfl))), List.forall_mem_cons.mpr ⟨List.mem_cons_of_mem _ (List.mem_append_left _ (List.mem_append_left _ (List.mem_of_getElem? (i := 13) rfl))), List.forall_mem_cons.mpr ⟨List.mem_cons_of_mem _ (List.mem_append_left _ (List.mem_append_left _ (List.mem_of_getElem? (i := 14) rfl))), List.forall_mem_cons.mpr ⟨List.mem_cons_of_mem _ (List.mem_append_left _ (List.mem_append_left _ (List.mem_of_getElem? (i := 3) rfl))), (fun _ h => absurd h List.not_mem_nil)⟩⟩⟩⟩, List.forall_mem_cons.mpr ⟨List.mem_cons_of_mem _ (List.mem_append_left _ (List.mem_append_left _ (List.mem_of_getElem? (i := 15) rfl))), List.forall_mem_append.mpr ⟨List.forall_mem_cons.mpr ⟨List.mem_cons_of_mem _ (List.mem_append_left _ (List.mem_append_left _ (List.mem_of_getElem? (i := 5) rfl))), List.forall_mem_cons.mpr ⟨List.mem_cons_of_mem _ (List.mem_append_left _ (List.mem_append_left _ (List.mem_of_getElem? (i := 6) rfl))), List.forall_mem_cons.mpr ⟨List.mem_cons_of_mem _ (List.mem_append_left _ (List.mem_append_left _ (List.mem_of_getElem? (i := 7) rfl))), List.forall_mem_cons.mpr ⟨List.mem_cons_of_mem _ (List.mem_append_left _ (List.mem_append_left _ (List.mem_of_getElem? (i := 3) rfl))), List.forall_mem_cons.mpr ⟨List.mem_cons_of_mem _ (List.mem_append_left _ (List.mem_append_left _ (List.mem_of_getElem? (i := 8) rfl))), List.forall_mem_cons.mpr ⟨List.mem_cons_of_mem _ (List.mem_append_left _ (List.mem_append_left _ (List.mem_of_getElem? (i := 9) rfl))), List.forall_mem_cons.mpr ⟨List.mem_cons_of_mem _ (List.mem_append_left _ (List.mem_append_left _ (List.mem_of_getElem? (i := 10) rfl))), List.forall_mem_cons.mpr ⟨List.mem_cons_of_mem _ (List.mem_append_left _ (List.mem_append_left _ (List.mem_of_getElem? (i := 11) rfl))), (fun _ h => absurd h List.not_mem_nil)⟩⟩⟩⟩⟩⟩⟩⟩, (fun _ h => List.mem_cons_of_mem _ (List.mem_append_right _ h))⟩⟩⟩) (by decide +kernel)
set_option maxRecDepth 20000 in
theorem gm_X10_canHave_e_X10_isGoods_e_51 : GoodIn wm_X10_canHave_e (wsV RX10 51 RX10 yX10_isGoods wm_X10_isGoods_e) := goodIn_w (List.forall_mem_append.mpr ⟨List.forall_mem_cons.mpr ⟨List.mem_cons_of_mem _ (List.mem_append_left _ (List.mem_append_right _ (List.mem_of_getElem? (i := 0) rfl))), List.forall_mem_cons.mpr ⟨List.mem_cons_of_mem _ (List.mem_append_left _ (List.mem_append_right _ (List.mem_of_getElem? (i := 1) rfl))), List.forall_mem_cons.mpr ⟨List.mem_cons_of_mem _ (List.mem_append_left _ (List.mem_append_right _ (List.mem_of_getElem? (i := 2) rfl))), List.forall_mem_cons.mpr ⟨List.mem_cons_of_mem _ (List.mem_append_left _ (List.mem_append_left _ (List.mem_of_getElem? (i := 3) rfl))), (fun _ h => absurd h List.not_mem_nil)⟩⟩⟩⟩, List.forall_mem_cons.mpr ⟨List.mem_cons_of_mem _ (List.mem_append_left _ (List.mem_append_right _ (List.mem_of_getElem? (i := 3) rfl))), List.forall_mem_append.mpr ⟨List.forall_mem_cons.mpr ⟨List.mem_cons_of_mem _ (List.mem_append_left _ (List.mem_append_left _ (List.mem_of_getElem? (i := 12) rfl))), List.forall_mem_cons.mpr ⟨List.mem_cons_of_mem _ (List.mem_append_left _ (List.mem_append_left _ (List.mem_of_getElem? (i := 13) rfl))), List.forall_mem_cons.mpr ⟨List.mem_cons_of_mem _ (List.mem_append_left _ (List.mem_append_left _ (List.mem_of_getElem? (i := 14) rfl))), List.forall_mem_cons.mpr ⟨List.mem_cons_of_mem _ (List.mem_append_left _ (List.mem_append_left _ (List.mem_of_getElem? (i := 3) rfl))), List.forall_mem_cons.mpr ⟨List.mem_cons_of_mem _ (List.mem_append_left _ (List.mem_append_left _ (List.mem_of_getElem? (i := 15) rfl))), List.forall_mem_cons.mpr ⟨List.mem_cons_of_mem _ (List.mem_append_left _ (List.mem_append_left _ (List.mem_of_getElem? (i := 5) rfl))), List.forall_mem_cons.mpr ⟨List.mem_cons_of_mem _ (List.mem_append_left _ (List.mem_append_left _ (List.mem_of_getElem? (i := 6) rfl))), List.forall_mem_cons.mpr ⟨List.mem_cons_of_mem _ (List.mem_append_left _ (List.mem_append_left _ (List.mem_of_getElem? (i := 7) rfl))), List.forall_mem_cons.mpr ⟨List.mem_cons_of_mem _ (List.mem_append_left _ (List.mem_append_left _ (List.mem_of_getElem? (i := 8) rfl))), List.forall_mem_cons.mpr ⟨List.mem_cons_of_mem _ (List.mem_append_left _ (List.mem_append_left _ (List.mem_of_getElem? (i := 9) rfl))), List.forall_mem_cons.mpr ⟨List.mem_cons_of_mem _ (List.mem_append_left _ (List.mem_append_left _ (List.mem_of_getElem? (i := 10) rfl))), List.forall_mem_cons.mpr ⟨List.mem_cons_of_mem _ (List.mem_append_left _ (List.mem_append_left _ (List.mem_of_getElem? (i := 11) rfl))), (fun _ h => absurd h List.not_mem_nil)⟩⟩⟩⟩⟩⟩⟩⟩⟩⟩⟩⟩, (fun _ h => List.mem_cons_of_mem _ (List.mem_append_right _ h))⟩⟩⟩) (by decide +kernel)
set_option maxRecDepth 20000 in
theorem gm_X10_canHave_e_X10_sortOf_e_40 : GoodIn wm_X10_canHave_e (wsV RX10 40 RX10 yX10_sortOf wm_X10_sortOf_e) := goodIn_w (List.forall_mem_append.mpr ⟨List.forall_mem_cons.mpr ⟨List.mem_cons_of_mem _ (List.mem_append_left _ (List.mem_append_left _ (List.mem_of_getElem? (i := 5) rfl))), List.forall_mem_cons.mpr ⟨List.mem_cons_of_mem _ (List.mem_append_left _ (List.mem_append_left _ (List.mem_of_getElem? (i := 6) rfl))), List.forall_mem_cons.mpr ⟨List.mem_cons_of_mem _ (List.mem_append_left _ (List.mem_append_left _ (List.mem_of_getElem? (i := 7) rfl))), List.forall_mem_cons.mpr ⟨List.mem_cons_of_mem _ (List.mem_append_left _ (List.mem_append_left _ (List.mem_of_getElem? (i := 3) rfl))), (fun _ h => absurd h List.not_mem_nil)⟩⟩⟩⟩, List.forall_mem_cons.mpr ⟨List.mem_cons_of_mem _ (List.mem_append_left _ (List.mem_append_left _ (List.mem_of_getElem? (i := 8) rfl))), List.forall_mem_append.mpr ⟨List.forall_mem_cons.mpr ⟨List.mem_cons_of_mem _ (List.mem_append_left _ (List.mem_append_left _ (List.mem_of_getElem? (i := 9) rfl))), List.forall_mem_cons.mpr ⟨List.mem_cons_of_mem _ (List.mem_append_left _ (List.mem_append_left _ (List.mem_of_getElem? (i := 10) rfl))), List.forall_mem_cons.mpr ⟨List.mem_cons_of_mem _ (List.mem_append_left _ (List.mem_append_left _ (List.mem_of_getElem? (i := 11) rfl))), (fun _ h => absurd h List.not_mem_nil)⟩⟩⟩, (fun _ h => List.mem_cons_of_mem _ (List.mem_append_right _ h))⟩⟩⟩) (by decide +kernel)
set_option maxHeartbeats 4000000 in
set_option maxRecDepth 100000 in
theorem x_X10_canHave_e (l : Launch) (D : va_G) (sz : Nat) (sk : Value) (a : Nat → Nat) (t : Nat → ClassId) (i : Nat → Int32) (q : Int64) (c : Nat → Nat → Int32) (d : Nat → Nat → Int64) (w : Int32) (f : Int32) (hI : xInv i c) (hiw : 0 ≤ w.toInt ∧ w.toInt < (i 111).toInt) (hf : 0 ≤ f.toInt ∧ f.toInt ≤ 5) : Met l yX10_canHave wm_X10_canHave_e ({ frames := 3, cells := 0, slots := 0, locals := 64 }) (va_Pc [.ref (a 104), .int w, .int f] (yA (a 186) D sz (xwW sk a t i q c d) (xtW t))) (va_Qi (fun (r : Int32) (_ : Unit) => (((r.toInt = 1 ∧ ((f.toInt ≤ 1 ∧ ((c 106 (c 108 w.toInt.toNat).toNatClampNeg).toInt = 2 ∨ (c 106 (c 108 w.toInt.toNat).toNatClampNeg).toInt = 3)) ∨ f.toInt = 2 ∨ (f.toInt = 3 ∧ ((c 106 (c 108 w.toInt.toNat).toNatClampNeg).toInt = 1 ∨ 3 ≤ (c 106 (c 108 w.toInt.toNat).toNatClampNeg).toInt)) ∨ (f.toInt = 4 ∧ (((c 106 (c 108 w.toInt.toNat).toNatClampNeg).toInt = 1 ∨ 3 ≤ (c 106 (c 108 w.toInt.toNat).toNatClampNeg).toInt) ∧ ¬ (c 106 (c 108 w.toInt.toNat).toNatClampNeg).toInt = 5)) ∨ (5 ≤ f.toInt ∧ (c 106 (c 108 w.toInt.toNat).toNatClampNeg).toInt = 3))) ∨ (r.toInt = 0 ∧ ¬ ((f.toInt ≤ 1 ∧ ((c 106 (c 108 w.toInt.toNat).toNatClampNeg).toInt = 2 ∨ (c 106 (c 108 w.toInt.toNat).toNatClampNeg).toInt = 3)) ∨ f.toInt = 2 ∨ (f.toInt = 3 ∧ ((c 106 (c 108 w.toInt.toNat).toNatClampNeg).toInt = 1 ∨ 3 ≤ (c 106 (c 108 w.toInt.toNat).toNatClampNeg).toInt)) ∨ (f.toInt = 4 ∧ (((c 106 (c 108 w.toInt.toNat).toNatClampNeg).toInt = 1 ∨ 3 ≤ (c 106 (c 108 w.toInt.toNat).toNatClampNeg).toInt) ∧ ¬ (c 106 (c 108 w.toInt.toNat).toNatClampNeg).toInt = 5)) ∨ (5 ≤ f.toInt ∧ (c 106 (c 108 w.toInt.toNat).toNatClampNeg).toInt = 3)))))) oA (ro sz)) 0 0 (ro sz) := by
  refine Met.ofW (cc := cX10_canHave) (maxL := 3) (ret := (some .boolean)) (by decide +kernel) rfl ?_
  intro p e s m args below meth cd s₁ B hml hv
  obtain ⟨rfl, ⟨hsz, hP, hK⟩, hN, hZ⟩ := hv
  have hx := B.exec
  have hb := B.bytes
  have hr := B.returns
  have hts := atoms_spec (ws := wm_X10_canHave_e) B.pre
  have hown : s.vm.findClass RX10 = some m.cls := findClass_of_methodNamed B.named
  have hlocks := B.notSynchronized
  subst hsz
  have hA : ∀ q : Nat, s.heap.size ≤ q → ro s.heap.size q := fun _ h => h
  have hS : va_S (ro s.heap.size) s.heap s.heap [] := va_S.rf
  have hl := lv_entry ([.ref (a 104), .int w, .int f]) (n := 3) (Nat.le_of_ble_eq_true rfl)
  rw [lg_entry_eq]
  generalize (lg_sl ([.ref (a 104), .int w, .int f]) ++ List.replicate (3 - (lg_sl ([.ref (a 104), .int w, .int f])).length) Slot.unset).toArray = ls at hl ⊢
  have hl : lv_has ls 3 [(0, .ref (a 104)), (1, .int w), (2, .int f)] := hl
  have rb111_i : 0 ≤ (i 111).toInt ∧ (i 111).toInt ≤ 30 := hI.1 111
  refine lv_iload_n hx hb dX10_canHave_0 rfl (lv_at hl 2 rfl) ?_
  rcases (show (f.toInt < 0 ∨ 5 < f.toInt) ∨ f.toInt = 0 ∨ f.toInt = 1 ∨ f.toInt = 2 ∨ f.toInt = 3 ∨ f.toInt = 4 ∨ f.toInt = 5 by omega) with f1 | f1 | f1 | f1 | f1 | f1 | f1
  · refine lv_tableOut (tgt := 81) hx hb dX10_canHave_1 f1 (by decide +kernel) ?_
    refine lv_iconst (v := 1) hx hb dX10_canHave_81 (by decide +kernel) ?_
    exact ro_zret hx hb hr hlocks hS rfl dX10_canHave_82 (show (((1 : Int32).toInt = 1 ∧ ((f.toInt ≤ 1 ∧ ((c 106 (c 108 w.toInt.toNat).toNatClampNeg).toInt = 2 ∨ (c 106 (c 108 w.toInt.toNat).toNatClampNeg).toInt = 3)) ∨ f.toInt = 2 ∨ (f.toInt = 3 ∧ ((c 106 (c 108 w.toInt.toNat).toNatClampNeg).toInt = 1 ∨ 3 ≤ (c 106 (c 108 w.toInt.toNat).toNatClampNeg).toInt)) ∨ (f.toInt = 4 ∧ (((c 106 (c 108 w.toInt.toNat).toNatClampNeg).toInt = 1 ∨ 3 ≤ (c 106 (c 108 w.toInt.toNat).toNatClampNeg).toInt) ∧ ¬ (c 106 (c 108 w.toInt.toNat).toNatClampNeg).toInt = 5)) ∨ (5 ≤ f.toInt ∧ (c 106 (c 108 w.toInt.toNat).toNatClampNeg).toInt = 3))) ∨ ((1 : Int32).toInt = 0 ∧ ¬ ((f.toInt ≤ 1 ∧ ((c 106 (c 108 w.toInt.toNat).toNatClampNeg).toInt = 2 ∨ (c 106 (c 108 w.toInt.toNat).toNatClampNeg).toInt = 3)) ∨ f.toInt = 2 ∨ (f.toInt = 3 ∧ ((c 106 (c 108 w.toInt.toNat).toNatClampNeg).toInt = 1 ∨ 3 ≤ (c 106 (c 108 w.toInt.toNat).toNatClampNeg).toInt)) ∨ (f.toInt = 4 ∧ (((c 106 (c 108 w.toInt.toNat).toNatClampNeg).toInt = 1 ∨ 3 ≤ (c 106 (c 108 w.toInt.toNat).toNatClampNeg).toInt) ∧ ¬ (c 106 (c 108 w.toInt.toNat).toNatClampNeg).toInt = 5)) ∨ (5 ≤ f.toInt ∧ (c 106 (c 108 w.toInt.toNat).toNatClampNeg).toInt = 3)))) from by have h9 : (1 : Int32).toInt = 1 := (by decide +kernel); omega)
  · refine lv_tableIn (off := 39) (tgt := 40) hx hb dX10_canHave_1 (by omega) (by omega) (by rw [f1]; rfl) (by decide +kernel) ?_
    refine lv_aload_n hx hb dX10_canHave_40 rfl (lv_at hl 0 rfl) ?_
    refine lv_iload_n hx hb dX10_canHave_41 rfl (lv_at hl 1 rfl) ?_
    refine ro_calli (va_runV (As := [.int w]) (rest := []) ⟨hx, hb, hml, hown, hts⟩ (x_X10_isShutter_e l D s.heap.size .null a t i q c d w hI (show 0 ≤ w.toInt ∧ w.toInt < ((i 111) : Int32).toInt from by omega)) (cwV 1 hts gm_X10_canHave_e_X10_isShutter_e_48 rfl rfl rfl (by decide +kernel) ⟨Nat.le_of_ble_eq_true rfl, Nat.le_of_ble_eq_true rfl⟩) (yA_V hN (xZ_k hZ hS hA) hK hP (ci := 10) (q0 := 0) rfl rfl) rfl rfl hl.1 rfl (lv_room (Nat.le_of_ble_eq_true rfl)) dX10_canHave_42 ⟨Nat.le_of_ble_eq_true rfl, Nat.le_of_ble_eq_true rfl⟩) hS hA hP (fun r2 u2 H locs hw2 hP hS => ?_)
    have hw2 : (((r2.toInt = 1 ∧ ((c 106 (c 108 w.toInt.toNat).toNatClampNeg).toInt = 2 ∨ (c 106 (c 108 w.toInt.toNat).toNatClampNeg).toInt = 3)) ∨ (r2.toInt = 0 ∧ ¬ ((c 106 (c 108 w.toInt.toNat).toNatClampNeg).toInt = 2 ∨ (c 106 (c 108 w.toInt.toNat).toNatClampNeg).toInt = 3)))) := hw2
    refine lv_goto (tgt := 82) hx hb dX10_canHave_45 (by decide +kernel) ?_
    exact ro_zret hx hb hr hlocks hS (nb_n (show 0 ≤ r2.toInt ∧ r2.toInt ≤ 1 from by omega)) dX10_canHave_82 (show ((r2.toInt = 1 ∧ ((f.toInt ≤ 1 ∧ ((c 106 (c 108 w.toInt.toNat).toNatClampNeg).toInt = 2 ∨ (c 106 (c 108 w.toInt.toNat).toNatClampNeg).toInt = 3)) ∨ f.toInt = 2 ∨ (f.toInt = 3 ∧ ((c 106 (c 108 w.toInt.toNat).toNatClampNeg).toInt = 1 ∨ 3 ≤ (c 106 (c 108 w.toInt.toNat).toNatClampNeg).toInt)) ∨ (f.toInt = 4 ∧ (((c 106 (c 108 w.toInt.toNat).toNatClampNeg).toInt = 1 ∨ 3 ≤ (c 106 (c 108 w.toInt.toNat).toNatClampNeg).toInt) ∧ ¬ (c 106 (c 108 w.toInt.toNat).toNatClampNeg).toInt = 5)) ∨ (5 ≤ f.toInt ∧ (c 106 (c 108 w.toInt.toNat).toNatClampNeg).toInt = 3))) ∨ (r2.toInt = 0 ∧ ¬ ((f.toInt ≤ 1 ∧ ((c 106 (c 108 w.toInt.toNat).toNatClampNeg).toInt = 2 ∨ (c 106 (c 108 w.toInt.toNat).toNatClampNeg).toInt = 3)) ∨ f.toInt = 2 ∨ (f.toInt = 3 ∧ ((c 106 (c 108 w.toInt.toNat).toNatClampNeg).toInt = 1 ∨ 3 ≤ (c 106 (c 108 w.toInt.toNat).toNatClampNeg).toInt)) ∨ (f.toInt = 4 ∧ (((c 106 (c 108 w.toInt.toNat).toNatClampNeg).toInt = 1 ∨ 3 ≤ (c 106 (c 108 w.toInt.toNat).toNatClampNeg).toInt) ∧ ¬ (c 106 (c 108 w.toInt.toNat).toNatClampNeg).toInt = 5)) ∨ (5 ≤ f.toInt ∧ (c 106 (c 108 w.toInt.toNat).toNatClampNeg).toInt = 3)))) from by omega)
  · refine lv_tableIn (off := 39) (tgt := 40) hx hb dX10_canHave_1 (by omega) (by omega) (by rw [f1]; rfl) (by decide +kernel) ?_
    refine lv_aload_n hx hb dX10_canHave_40 rfl (lv_at hl 0 rfl) ?_
    refine lv_iload_n hx hb dX10_canHave_41 rfl (lv_at hl 1 rfl) ?_
    refine ro_calli (va_runV (As := [.int w]) (rest := []) ⟨hx, hb, hml, hown, hts⟩ (x_X10_isShutter_e l D s.heap.size .null a t i q c d w hI (show 0 ≤ w.toInt ∧ w.toInt < ((i 111) : Int32).toInt from by omega)) (cwV 1 hts gm_X10_canHave_e_X10_isShutter_e_48 rfl rfl rfl (by decide +kernel) ⟨Nat.le_of_ble_eq_true rfl, Nat.le_of_ble_eq_true rfl⟩) (yA_V hN (xZ_k hZ hS hA) hK hP (ci := 10) (q0 := 0) rfl rfl) rfl rfl hl.1 rfl (lv_room (Nat.le_of_ble_eq_true rfl)) dX10_canHave_42 ⟨Nat.le_of_ble_eq_true rfl, Nat.le_of_ble_eq_true rfl⟩) hS hA hP (fun r3 u3 H locs hw3 hP hS => ?_)
    have hw3 : (((r3.toInt = 1 ∧ ((c 106 (c 108 w.toInt.toNat).toNatClampNeg).toInt = 2 ∨ (c 106 (c 108 w.toInt.toNat).toNatClampNeg).toInt = 3)) ∨ (r3.toInt = 0 ∧ ¬ ((c 106 (c 108 w.toInt.toNat).toNatClampNeg).toInt = 2 ∨ (c 106 (c 108 w.toInt.toNat).toNatClampNeg).toInt = 3)))) := hw3
    refine lv_goto (tgt := 82) hx hb dX10_canHave_45 (by decide +kernel) ?_
    exact ro_zret hx hb hr hlocks hS (nb_n (show 0 ≤ r3.toInt ∧ r3.toInt ≤ 1 from by omega)) dX10_canHave_82 (show ((r3.toInt = 1 ∧ ((f.toInt ≤ 1 ∧ ((c 106 (c 108 w.toInt.toNat).toNatClampNeg).toInt = 2 ∨ (c 106 (c 108 w.toInt.toNat).toNatClampNeg).toInt = 3)) ∨ f.toInt = 2 ∨ (f.toInt = 3 ∧ ((c 106 (c 108 w.toInt.toNat).toNatClampNeg).toInt = 1 ∨ 3 ≤ (c 106 (c 108 w.toInt.toNat).toNatClampNeg).toInt)) ∨ (f.toInt = 4 ∧ (((c 106 (c 108 w.toInt.toNat).toNatClampNeg).toInt = 1 ∨ 3 ≤ (c 106 (c 108 w.toInt.toNat).toNatClampNeg).toInt) ∧ ¬ (c 106 (c 108 w.toInt.toNat).toNatClampNeg).toInt = 5)) ∨ (5 ≤ f.toInt ∧ (c 106 (c 108 w.toInt.toNat).toNatClampNeg).toInt = 3))) ∨ (r3.toInt = 0 ∧ ¬ ((f.toInt ≤ 1 ∧ ((c 106 (c 108 w.toInt.toNat).toNatClampNeg).toInt = 2 ∨ (c 106 (c 108 w.toInt.toNat).toNatClampNeg).toInt = 3)) ∨ f.toInt = 2 ∨ (f.toInt = 3 ∧ ((c 106 (c 108 w.toInt.toNat).toNatClampNeg).toInt = 1 ∨ 3 ≤ (c 106 (c 108 w.toInt.toNat).toNatClampNeg).toInt)) ∨ (f.toInt = 4 ∧ (((c 106 (c 108 w.toInt.toNat).toNatClampNeg).toInt = 1 ∨ 3 ≤ (c 106 (c 108 w.toInt.toNat).toNatClampNeg).toInt) ∧ ¬ (c 106 (c 108 w.toInt.toNat).toNatClampNeg).toInt = 5)) ∨ (5 ≤ f.toInt ∧ (c 106 (c 108 w.toInt.toNat).toNatClampNeg).toInt = 3)))) from by omega)
  · refine lv_tableIn (off := 80) (tgt := 81) hx hb dX10_canHave_1 (by omega) (by omega) (by rw [f1]; rfl) (by decide +kernel) ?_
    refine lv_iconst (v := 1) hx hb dX10_canHave_81 (by decide +kernel) ?_
    exact ro_zret hx hb hr hlocks hS rfl dX10_canHave_82 (show (((1 : Int32).toInt = 1 ∧ ((f.toInt ≤ 1 ∧ ((c 106 (c 108 w.toInt.toNat).toNatClampNeg).toInt = 2 ∨ (c 106 (c 108 w.toInt.toNat).toNatClampNeg).toInt = 3)) ∨ f.toInt = 2 ∨ (f.toInt = 3 ∧ ((c 106 (c 108 w.toInt.toNat).toNatClampNeg).toInt = 1 ∨ 3 ≤ (c 106 (c 108 w.toInt.toNat).toNatClampNeg).toInt)) ∨ (f.toInt = 4 ∧ (((c 106 (c 108 w.toInt.toNat).toNatClampNeg).toInt = 1 ∨ 3 ≤ (c 106 (c 108 w.toInt.toNat).toNatClampNeg).toInt) ∧ ¬ (c 106 (c 108 w.toInt.toNat).toNatClampNeg).toInt = 5)) ∨ (5 ≤ f.toInt ∧ (c 106 (c 108 w.toInt.toNat).toNatClampNeg).toInt = 3))) ∨ ((1 : Int32).toInt = 0 ∧ ¬ ((f.toInt ≤ 1 ∧ ((c 106 (c 108 w.toInt.toNat).toNatClampNeg).toInt = 2 ∨ (c 106 (c 108 w.toInt.toNat).toNatClampNeg).toInt = 3)) ∨ f.toInt = 2 ∨ (f.toInt = 3 ∧ ((c 106 (c 108 w.toInt.toNat).toNatClampNeg).toInt = 1 ∨ 3 ≤ (c 106 (c 108 w.toInt.toNat).toNatClampNeg).toInt)) ∨ (f.toInt = 4 ∧ (((c 106 (c 108 w.toInt.toNat).toNatClampNeg).toInt = 1 ∨ 3 ≤ (c 106 (c 108 w.toInt.toNat).toNatClampNeg).toInt) ∧ ¬ (c 106 (c 108 w.toInt.toNat).toNatClampNeg).toInt = 5)) ∨ (5 ≤ f.toInt ∧ (c 106 (c 108 w.toInt.toNat).toNatClampNeg).toInt = 3)))) from by have h9 : (1 : Int32).toInt = 1 := (by decide +kernel); omega)
  · refine lv_tableIn (off := 47) (tgt := 48) hx hb dX10_canHave_1 (by omega) (by omega) (by rw [f1]; rfl) (by decide +kernel) ?_
    refine lv_aload_n hx hb dX10_canHave_48 rfl (lv_at hl 0 rfl) ?_
    refine lv_iload_n hx hb dX10_canHave_49 rfl (lv_at hl 1 rfl) ?_
    refine ro_calli (va_runV (As := [.int w]) (rest := []) ⟨hx, hb, hml, hown, hts⟩ (x_X10_isMovable_e l D s.heap.size .null a t i q c d w hI (show 0 ≤ w.toInt ∧ w.toInt < ((i 111) : Int32).toInt from by omega)) (cwV 1 hts gm_X10_canHave_e_X10_isMovable_e_44 rfl rfl rfl (by decide +kernel) ⟨Nat.le_of_ble_eq_true rfl, Nat.le_of_ble_eq_true rfl⟩) (yA_V hN (xZ_k hZ hS hA) hK hP (ci := 10) (q0 := 0) rfl rfl) rfl rfl hl.1 rfl (lv_room (Nat.le_of_ble_eq_true rfl)) dX10_canHave_50 ⟨Nat.le_of_ble_eq_true rfl, Nat.le_of_ble_eq_true rfl⟩) hS hA hP (fun r4 u4 H locs hw4 hP hS => ?_)
    have hw4 : (((r4.toInt = 1 ∧ ((c 106 (c 108 w.toInt.toNat).toNatClampNeg).toInt = 1 ∨ 3 ≤ (c 106 (c 108 w.toInt.toNat).toNatClampNeg).toInt)) ∨ (r4.toInt = 0 ∧ ¬ ((c 106 (c 108 w.toInt.toNat).toNatClampNeg).toInt = 1 ∨ 3 ≤ (c 106 (c 108 w.toInt.toNat).toNatClampNeg).toInt)))) := hw4
    refine lv_goto (tgt := 82) hx hb dX10_canHave_53 (by decide +kernel) ?_
    exact ro_zret hx hb hr hlocks hS (nb_n (show 0 ≤ r4.toInt ∧ r4.toInt ≤ 1 from by omega)) dX10_canHave_82 (show ((r4.toInt = 1 ∧ ((f.toInt ≤ 1 ∧ ((c 106 (c 108 w.toInt.toNat).toNatClampNeg).toInt = 2 ∨ (c 106 (c 108 w.toInt.toNat).toNatClampNeg).toInt = 3)) ∨ f.toInt = 2 ∨ (f.toInt = 3 ∧ ((c 106 (c 108 w.toInt.toNat).toNatClampNeg).toInt = 1 ∨ 3 ≤ (c 106 (c 108 w.toInt.toNat).toNatClampNeg).toInt)) ∨ (f.toInt = 4 ∧ (((c 106 (c 108 w.toInt.toNat).toNatClampNeg).toInt = 1 ∨ 3 ≤ (c 106 (c 108 w.toInt.toNat).toNatClampNeg).toInt) ∧ ¬ (c 106 (c 108 w.toInt.toNat).toNatClampNeg).toInt = 5)) ∨ (5 ≤ f.toInt ∧ (c 106 (c 108 w.toInt.toNat).toNatClampNeg).toInt = 3))) ∨ (r4.toInt = 0 ∧ ¬ ((f.toInt ≤ 1 ∧ ((c 106 (c 108 w.toInt.toNat).toNatClampNeg).toInt = 2 ∨ (c 106 (c 108 w.toInt.toNat).toNatClampNeg).toInt = 3)) ∨ f.toInt = 2 ∨ (f.toInt = 3 ∧ ((c 106 (c 108 w.toInt.toNat).toNatClampNeg).toInt = 1 ∨ 3 ≤ (c 106 (c 108 w.toInt.toNat).toNatClampNeg).toInt)) ∨ (f.toInt = 4 ∧ (((c 106 (c 108 w.toInt.toNat).toNatClampNeg).toInt = 1 ∨ 3 ≤ (c 106 (c 108 w.toInt.toNat).toNatClampNeg).toInt) ∧ ¬ (c 106 (c 108 w.toInt.toNat).toNatClampNeg).toInt = 5)) ∨ (5 ≤ f.toInt ∧ (c 106 (c 108 w.toInt.toNat).toNatClampNeg).toInt = 3)))) from by omega)
  · refine lv_tableIn (off := 55) (tgt := 56) hx hb dX10_canHave_1 (by omega) (by omega) (by rw [f1]; rfl) (by decide +kernel) ?_
    refine lv_aload_n hx hb dX10_canHave_56 rfl (lv_at hl 0 rfl) ?_
    refine lv_iload_n hx hb dX10_canHave_57 rfl (lv_at hl 1 rfl) ?_
    refine ro_calli (va_runV (As := [.int w]) (rest := []) ⟨hx, hb, hml, hown, hts⟩ (x_X10_isGoods_e l D s.heap.size .null a t i q c d w hI (show 0 ≤ w.toInt ∧ w.toInt < ((i 111) : Int32).toInt from by omega)) (cwV 1 hts gm_X10_canHave_e_X10_isGoods_e_51 rfl rfl rfl (by decide +kernel) ⟨Nat.le_of_ble_eq_true rfl, Nat.le_of_ble_eq_true rfl⟩) (yA_V hN (xZ_k hZ hS hA) hK hP (ci := 10) (q0 := 0) rfl rfl) rfl rfl hl.1 rfl (lv_room (Nat.le_of_ble_eq_true rfl)) dX10_canHave_58 ⟨Nat.le_of_ble_eq_true rfl, Nat.le_of_ble_eq_true rfl⟩) hS hA hP (fun r5 u5 H locs hw5 hP hS => ?_)
    have hw5 : (((r5.toInt = 1 ∧ (((c 106 (c 108 w.toInt.toNat).toNatClampNeg).toInt = 1 ∨ 3 ≤ (c 106 (c 108 w.toInt.toNat).toNatClampNeg).toInt) ∧ ¬ (c 106 (c 108 w.toInt.toNat).toNatClampNeg).toInt = 5)) ∨ (r5.toInt = 0 ∧ ¬ (((c 106 (c 108 w.toInt.toNat).toNatClampNeg).toInt = 1 ∨ 3 ≤ (c 106 (c 108 w.toInt.toNat).toNatClampNeg).toInt) ∧ ¬ (c 106 (c 108 w.toInt.toNat).toNatClampNeg).toInt = 5)))) := hw5
    refine lv_goto (tgt := 82) hx hb dX10_canHave_61 (by decide +kernel) ?_
    exact ro_zret hx hb hr hlocks hS (nb_n (show 0 ≤ r5.toInt ∧ r5.toInt ≤ 1 from by omega)) dX10_canHave_82 (show ((r5.toInt = 1 ∧ ((f.toInt ≤ 1 ∧ ((c 106 (c 108 w.toInt.toNat).toNatClampNeg).toInt = 2 ∨ (c 106 (c 108 w.toInt.toNat).toNatClampNeg).toInt = 3)) ∨ f.toInt = 2 ∨ (f.toInt = 3 ∧ ((c 106 (c 108 w.toInt.toNat).toNatClampNeg).toInt = 1 ∨ 3 ≤ (c 106 (c 108 w.toInt.toNat).toNatClampNeg).toInt)) ∨ (f.toInt = 4 ∧ (((c 106 (c 108 w.toInt.toNat).toNatClampNeg).toInt = 1 ∨ 3 ≤ (c 106 (c 108 w.toInt.toNat).toNatClampNeg).toInt) ∧ ¬ (c 106 (c 108 w.toInt.toNat).toNatClampNeg).toInt = 5)) ∨ (5 ≤ f.toInt ∧ (c 106 (c 108 w.toInt.toNat).toNatClampNeg).toInt = 3))) ∨ (r5.toInt = 0 ∧ ¬ ((f.toInt ≤ 1 ∧ ((c 106 (c 108 w.toInt.toNat).toNatClampNeg).toInt = 2 ∨ (c 106 (c 108 w.toInt.toNat).toNatClampNeg).toInt = 3)) ∨ f.toInt = 2 ∨ (f.toInt = 3 ∧ ((c 106 (c 108 w.toInt.toNat).toNatClampNeg).toInt = 1 ∨ 3 ≤ (c 106 (c 108 w.toInt.toNat).toNatClampNeg).toInt)) ∨ (f.toInt = 4 ∧ (((c 106 (c 108 w.toInt.toNat).toNatClampNeg).toInt = 1 ∨ 3 ≤ (c 106 (c 108 w.toInt.toNat).toNatClampNeg).toInt) ∧ ¬ (c 106 (c 108 w.toInt.toNat).toNatClampNeg).toInt = 5)) ∨ (5 ≤ f.toInt ∧ (c 106 (c 108 w.toInt.toNat).toNatClampNeg).toInt = 3)))) from by omega)
  · refine lv_tableIn (off := 63) (tgt := 64) hx hb dX10_canHave_1 (by omega) (by omega) (by rw [f1]; rfl) (by decide +kernel) ?_
    refine lv_aload_n hx hb dX10_canHave_64 rfl (lv_at hl 0 rfl) ?_
    refine lv_iload_n hx hb dX10_canHave_65 rfl (lv_at hl 1 rfl) ?_
    refine ro_calli (va_runV (As := [.int w]) (rest := []) ⟨hx, hb, hml, hown, hts⟩ (x_X10_sortOf_e l D s.heap.size .null a t i q c d w hI ) (cwV 1 hts gm_X10_canHave_e_X10_sortOf_e_40 rfl rfl rfl (by decide +kernel) ⟨Nat.le_of_ble_eq_true rfl, Nat.le_of_ble_eq_true rfl⟩) (yA_V hN (xZ_k hZ hS hA) hK hP (ci := 10) (q0 := 0) rfl rfl) rfl rfl hl.1 rfl (lv_room (Nat.le_of_ble_eq_true rfl)) dX10_canHave_66 ⟨Nat.le_of_ble_eq_true rfl, Nat.le_of_ble_eq_true rfl⟩) hS hA hP (fun r6 u6 H locs hw6 hP hS => ?_)
    have hw6 : (((r6.toInt = -9 ∧ ¬ (0 ≤ w.toInt ∧ w.toInt < (i 111).toInt)) ∨ (0 ≤ r6.toInt ∧ r6.toInt ≤ 5 ∧ 0 ≤ w.toInt ∧ w.toInt < (i 111).toInt)) ∧ (SO (c 106) (c 108) (i 111).toInt w.toInt r6.toInt)) := hw6
    obtain ⟨hw6, hr6_0⟩ := hw6
    have hr6_0 : SO (c 106) (c 108) (i 111).toInt w.toInt r6.toInt := hr6_0
    have how : r6.toInt = (c 106 (c 108 w.toInt.toNat).toNatClampNeg).toInt := by rcases hr6_0 with h9 | h9; (· exact h9.2.2); (· exfalso; omega)
    refine lv_iconst (v := 3) hx hb dX10_canHave_69 (by decide +kernel) ?_
    refine lv_icmp_ne (tgt := 77) hx hb dX10_canHave_70 (by decide +kernel) (fun c7 => ?_) (fun c7 => ?_)
    · have f7 := mt (ti_eq (a := r6.toInt) (b := 3) rfl (by decide +kernel)).mpr c7
      refine lv_iconst (v := 0) hx hb dX10_canHave_77 (by decide +kernel) ?_
      refine lv_goto (tgt := 82) hx hb dX10_canHave_78 (by decide +kernel) ?_
      exact ro_zret hx hb hr hlocks hS rfl dX10_canHave_82 (show (((0 : Int32).toInt = 1 ∧ ((f.toInt ≤ 1 ∧ ((c 106 (c 108 w.toInt.toNat).toNatClampNeg).toInt = 2 ∨ (c 106 (c 108 w.toInt.toNat).toNatClampNeg).toInt = 3)) ∨ f.toInt = 2 ∨ (f.toInt = 3 ∧ ((c 106 (c 108 w.toInt.toNat).toNatClampNeg).toInt = 1 ∨ 3 ≤ (c 106 (c 108 w.toInt.toNat).toNatClampNeg).toInt)) ∨ (f.toInt = 4 ∧ (((c 106 (c 108 w.toInt.toNat).toNatClampNeg).toInt = 1 ∨ 3 ≤ (c 106 (c 108 w.toInt.toNat).toNatClampNeg).toInt) ∧ ¬ (c 106 (c 108 w.toInt.toNat).toNatClampNeg).toInt = 5)) ∨ (5 ≤ f.toInt ∧ (c 106 (c 108 w.toInt.toNat).toNatClampNeg).toInt = 3))) ∨ ((0 : Int32).toInt = 0 ∧ ¬ ((f.toInt ≤ 1 ∧ ((c 106 (c 108 w.toInt.toNat).toNatClampNeg).toInt = 2 ∨ (c 106 (c 108 w.toInt.toNat).toNatClampNeg).toInt = 3)) ∨ f.toInt = 2 ∨ (f.toInt = 3 ∧ ((c 106 (c 108 w.toInt.toNat).toNatClampNeg).toInt = 1 ∨ 3 ≤ (c 106 (c 108 w.toInt.toNat).toNatClampNeg).toInt)) ∨ (f.toInt = 4 ∧ (((c 106 (c 108 w.toInt.toNat).toNatClampNeg).toInt = 1 ∨ 3 ≤ (c 106 (c 108 w.toInt.toNat).toNatClampNeg).toInt) ∧ ¬ (c 106 (c 108 w.toInt.toNat).toNatClampNeg).toInt = 5)) ∨ (5 ≤ f.toInt ∧ (c 106 (c 108 w.toInt.toNat).toNatClampNeg).toInt = 3)))) from by have h9 : (0 : Int32).toInt = 0 := (by decide +kernel); omega)
    · have f7 := (ti_eq (a := r6.toInt) (b := 3) rfl (by decide +kernel)).mp c7
      refine lv_iconst (v := 1) hx hb dX10_canHave_73 (by decide +kernel) ?_
      refine lv_goto (tgt := 82) hx hb dX10_canHave_74 (by decide +kernel) ?_
      exact ro_zret hx hb hr hlocks hS rfl dX10_canHave_82 (show (((1 : Int32).toInt = 1 ∧ ((f.toInt ≤ 1 ∧ ((c 106 (c 108 w.toInt.toNat).toNatClampNeg).toInt = 2 ∨ (c 106 (c 108 w.toInt.toNat).toNatClampNeg).toInt = 3)) ∨ f.toInt = 2 ∨ (f.toInt = 3 ∧ ((c 106 (c 108 w.toInt.toNat).toNatClampNeg).toInt = 1 ∨ 3 ≤ (c 106 (c 108 w.toInt.toNat).toNatClampNeg).toInt)) ∨ (f.toInt = 4 ∧ (((c 106 (c 108 w.toInt.toNat).toNatClampNeg).toInt = 1 ∨ 3 ≤ (c 106 (c 108 w.toInt.toNat).toNatClampNeg).toInt) ∧ ¬ (c 106 (c 108 w.toInt.toNat).toNatClampNeg).toInt = 5)) ∨ (5 ≤ f.toInt ∧ (c 106 (c 108 w.toInt.toNat).toNatClampNeg).toInt = 3))) ∨ ((1 : Int32).toInt = 0 ∧ ¬ ((f.toInt ≤ 1 ∧ ((c 106 (c 108 w.toInt.toNat).toNatClampNeg).toInt = 2 ∨ (c 106 (c 108 w.toInt.toNat).toNatClampNeg).toInt = 3)) ∨ f.toInt = 2 ∨ (f.toInt = 3 ∧ ((c 106 (c 108 w.toInt.toNat).toNatClampNeg).toInt = 1 ∨ 3 ≤ (c 106 (c 108 w.toInt.toNat).toNatClampNeg).toInt)) ∨ (f.toInt = 4 ∧ (((c 106 (c 108 w.toInt.toNat).toNatClampNeg).toInt = 1 ∨ 3 ≤ (c 106 (c 108 w.toInt.toNat).toNatClampNeg).toInt) ∧ ¬ (c 106 (c 108 w.toInt.toNat).toNatClampNeg).toInt = 5)) ∨ (5 ≤ f.toInt ∧ (c 106 (c 108 w.toInt.toNat).toNatClampNeg).toInt = 3)))) from by have h9 : (1 : Int32).toInt = 1 := (by decide +kernel); omega)

