section
-- ===== PART A: goes FIRST, ahead of the names: the tables' words, and 'selects' of the private methods out of them =====
/-- a private method of a class that the tables say can be made, by its rows of tables_1 -/
def lw_okq (q : MethodName × Nat) : Prop := (q.1.cls ≠ "java/lang/invoke/MethodHandle" ∧ q.1.cls ≠ "java/lang/invoke/VarHandle") ∧ Cond.instantiable q.1.cls q.2 ∈ tables_1 ∧ Cond.privateMethod q.1 ∈ tables_1 ∧ Cond.instanceMethod q.1 ∈ tables_1
theorem lw_p0 : lw_okq (⟨"TalePlay$Roads", "wipe", "()V"⟩, 11) := ⟨⟨by decide +kernel, by decide +kernel⟩, List.mem_of_getElem? (i := 156) (by decide +kernel), List.mem_of_getElem? (i := 162) (by decide +kernel), List.mem_of_getElem? (i := 163) (by decide +kernel)⟩
theorem lw_p1 : lw_okq (⟨"TalePlay", "answerFinding", "(I)I"⟩, 11) := ⟨⟨by decide +kernel, by decide +kernel⟩, List.mem_of_getElem? (i := 17) (by decide +kernel), List.mem_of_getElem? (i := 476) (by decide +kernel), List.mem_of_getElem? (i := 477) (by decide +kernel)⟩
theorem lw_p2 : lw_okq (⟨"TalePlay", "places", "()LTalePlay$Scene;"⟩, 11) := ⟨⟨by decide +kernel, by decide +kernel⟩, List.mem_of_getElem? (i := 17) (by decide +kernel), List.mem_of_getElem? (i := 480) (by decide +kernel), List.mem_of_getElem? (i := 481) (by decide +kernel)⟩
theorem lw_p3 : lw_okq (⟨"TalePlay$Bulks", "weighBy", "(LTalePlay$Scene;II)I"⟩, 4) := ⟨⟨by decide +kernel, by decide +kernel⟩, List.mem_of_getElem? (i := 205) (by decide +kernel), List.mem_of_getElem? (i := 488) (by decide +kernel), List.mem_of_getElem? (i := 489) (by decide +kernel)⟩
theorem lw_p4 : lw_okq (⟨"TalePlay$Bulks", "noteBodies", "(I)V"⟩, 4) := ⟨⟨by decide +kernel, by decide +kernel⟩, List.mem_of_getElem? (i := 205) (by decide +kernel), List.mem_of_getElem? (i := 493) (by decide +kernel), List.mem_of_getElem? (i := 494) (by decide +kernel)⟩
theorem lw_p5 : lw_okq (⟨"TalePlay$Bulks", "note", "(I)V"⟩, 4) := ⟨⟨by decide +kernel, by decide +kernel⟩, List.mem_of_getElem? (i := 205) (by decide +kernel), List.mem_of_getElem? (i := 499) (by decide +kernel), List.mem_of_getElem? (i := 500) (by decide +kernel)⟩
theorem lw_p6 : lw_okq (⟨"TalePlay$Bulks", "weighThose", "(LTalePlay$Scene;III)I"⟩, 4) := ⟨⟨by decide +kernel, by decide +kernel⟩, List.mem_of_getElem? (i := 205) (by decide +kernel), List.mem_of_getElem? (i := 503) (by decide +kernel), List.mem_of_getElem? (i := 504) (by decide +kernel)⟩
theorem lw_p7 : lw_okq (⟨"TalePlay$Book", "addClash", "(I)Z"⟩, 15) := ⟨⟨by decide +kernel, by decide +kernel⟩, List.mem_of_getElem? (i := 69) (by decide +kernel), List.mem_of_getElem? (i := 587) (by decide +kernel), List.mem_of_getElem? (i := 588) (by decide +kernel)⟩
theorem lw_p8 : lw_okq (⟨"TalePlay$Book", "isDoorClashing", "(II)Z"⟩, 15) := ⟨⟨by decide +kernel, by decide +kernel⟩, List.mem_of_getElem? (i := 69) (by decide +kernel), List.mem_of_getElem? (i := 591) (by decide +kernel), List.mem_of_getElem? (i := 592) (by decide +kernel)⟩
theorem lw_p9 : lw_okq (⟨"TalePlay$Book", "isFlagClashing", "(III)Z"⟩, 15) := ⟨⟨by decide +kernel, by decide +kernel⟩, List.mem_of_getElem? (i := 69) (by decide +kernel), List.mem_of_getElem? (i := 596) (by decide +kernel), List.mem_of_getElem? (i := 597) (by decide +kernel)⟩
theorem lw_p10 : lw_okq (⟨"TalePlay$Book", "saying", "(III)I"⟩, 15) := ⟨⟨by decide +kernel, by decide +kernel⟩, List.mem_of_getElem? (i := 69) (by decide +kernel), List.mem_of_getElem? (i := 600) (by decide +kernel), List.mem_of_getElem? (i := 601) (by decide +kernel)⟩
theorem lw_p11 : lw_okq (⟨"TalePlay$Book", "isPlaceClashing", "(III)Z"⟩, 15) := ⟨⟨by decide +kernel, by decide +kernel⟩, List.mem_of_getElem? (i := 69) (by decide +kernel), List.mem_of_getElem? (i := 608) (by decide +kernel), List.mem_of_getElem? (i := 609) (by decide +kernel)⟩
theorem lw_p12 : lw_okq (⟨"TalePlay$Book", "addChain", "(II)V"⟩, 15) := ⟨⟨by decide +kernel, by decide +kernel⟩, List.mem_of_getElem? (i := 69) (by decide +kernel), List.mem_of_getElem? (i := 617) (by decide +kernel), List.mem_of_getElem? (i := 618) (by decide +kernel)⟩
theorem lw_p13 : lw_okq (⟨"TalePlay$Book", "point", "(II)V"⟩, 15) := ⟨⟨by decide +kernel, by decide +kernel⟩, List.mem_of_getElem? (i := 69) (by decide +kernel), List.mem_of_getElem? (i := 626) (by decide +kernel), List.mem_of_getElem? (i := 627) (by decide +kernel)⟩
theorem lw_p14 : lw_okq (⟨"TalePlay$Roads", "drawSaid", "()V"⟩, 11) := ⟨⟨by decide +kernel, by decide +kernel⟩, List.mem_of_getElem? (i := 156) (by decide +kernel), List.mem_of_getElem? (i := 637) (by decide +kernel), List.mem_of_getElem? (i := 638) (by decide +kernel)⟩
theorem lw_p15 : lw_okq (⟨"TalePlay$Roads", "isDrawn", "(I)Z"⟩, 11) := ⟨⟨by decide +kernel, by decide +kernel⟩, List.mem_of_getElem? (i := 156) (by decide +kernel), List.mem_of_getElem? (i := 641) (by decide +kernel), List.mem_of_getElem? (i := 642) (by decide +kernel)⟩
def lw_privs_1 : List (MethodName × Nat) := [(⟨"TalePlay$Roads", "wipe", "()V"⟩, 11), (⟨"TalePlay", "answerFinding", "(I)I"⟩, 11), (⟨"TalePlay", "places", "()LTalePlay$Scene;"⟩, 11), (⟨"TalePlay$Bulks", "weighBy", "(LTalePlay$Scene;II)I"⟩, 4), (⟨"TalePlay$Bulks", "noteBodies", "(I)V"⟩, 4), (⟨"TalePlay$Bulks", "note", "(I)V"⟩, 4), (⟨"TalePlay$Bulks", "weighThose", "(LTalePlay$Scene;III)I"⟩, 4), (⟨"TalePlay$Book", "addClash", "(I)Z"⟩, 15), (⟨"TalePlay$Book", "isDoorClashing", "(II)Z"⟩, 15), (⟨"TalePlay$Book", "isFlagClashing", "(III)Z"⟩, 15), (⟨"TalePlay$Book", "saying", "(III)I"⟩, 15), (⟨"TalePlay$Book", "isPlaceClashing", "(III)Z"⟩, 15), (⟨"TalePlay$Book", "addChain", "(II)V"⟩, 15), (⟨"TalePlay$Book", "point", "(II)V"⟩, 15), (⟨"TalePlay$Roads", "drawSaid", "()V"⟩, 11), (⟨"TalePlay$Roads", "isDrawn", "(I)Z"⟩, 11)]
theorem lw_r1 : ∀ q ∈ lw_privs_1, lw_okq q := List.forall_mem_cons.mpr ⟨lw_p0, List.forall_mem_cons.mpr ⟨lw_p1, List.forall_mem_cons.mpr ⟨lw_p2, List.forall_mem_cons.mpr ⟨lw_p3, List.forall_mem_cons.mpr ⟨lw_p4, List.forall_mem_cons.mpr ⟨lw_p5, List.forall_mem_cons.mpr ⟨lw_p6, List.forall_mem_cons.mpr ⟨lw_p7, List.forall_mem_cons.mpr ⟨lw_p8, List.forall_mem_cons.mpr ⟨lw_p9, List.forall_mem_cons.mpr ⟨lw_p10, List.forall_mem_cons.mpr ⟨lw_p11, List.forall_mem_cons.mpr ⟨lw_p12, List.forall_mem_cons.mpr ⟨lw_p13, List.forall_mem_cons.mpr ⟨lw_p14, List.forall_mem_cons.mpr ⟨lw_p15, fun _ h => absurd h List.not_mem_nil⟩⟩⟩⟩⟩⟩⟩⟩⟩⟩⟩⟩⟩⟩⟩⟩
theorem lw_p16 : lw_okq (⟨"TalePlay$Roads", "drawTarget", "(III)V"⟩, 11) := ⟨⟨by decide +kernel, by decide +kernel⟩, List.mem_of_getElem? (i := 156) (by decide +kernel), List.mem_of_getElem? (i := 645) (by decide +kernel), List.mem_of_getElem? (i := 646) (by decide +kernel)⟩
theorem lw_p17 : lw_okq (⟨"TalePlay$Roads", "drawImplied", "()V"⟩, 11) := ⟨⟨by decide +kernel, by decide +kernel⟩, List.mem_of_getElem? (i := 156) (by decide +kernel), List.mem_of_getElem? (i := 650) (by decide +kernel), List.mem_of_getElem? (i := 651) (by decide +kernel)⟩
theorem lw_p18 : lw_okq (⟨"TalePlay$Roads", "drawThroughDoors", "()V"⟩, 11) := ⟨⟨by decide +kernel, by decide +kernel⟩, List.mem_of_getElem? (i := 156) (by decide +kernel), List.mem_of_getElem? (i := 654) (by decide +kernel), List.mem_of_getElem? (i := 655) (by decide +kernel)⟩
theorem lw_p19 : lw_okq (⟨"TalePlay", "refuseRooms", "(II)I"⟩, 11) := ⟨⟨by decide +kernel, by decide +kernel⟩, List.mem_of_getElem? (i := 17) (by decide +kernel), List.mem_of_getElem? (i := 719) (by decide +kernel), List.mem_of_getElem? (i := 720) (by decide +kernel)⟩
theorem lw_p20 : lw_okq (⟨"TalePlay$Roads", "isPassable", "(IZ)Z"⟩, 11) := ⟨⟨by decide +kernel, by decide +kernel⟩, List.mem_of_getElem? (i := 156) (by decide +kernel), List.mem_of_getElem? (i := 727) (by decide +kernel), List.mem_of_getElem? (i := 728) (by decide +kernel)⟩
theorem lw_p21 : lw_okq (⟨"TalePlay$Tale", "cellAsSaid", "(I)I"⟩, 11) := ⟨⟨by decide +kernel, by decide +kernel⟩, List.mem_of_getElem? (i := 226) (by decide +kernel), List.mem_of_getElem? (i := 749) (by decide +kernel), List.mem_of_getElem? (i := 750) (by decide +kernel)⟩
theorem lw_p22 : lw_okq (⟨"TalePlay$Sight", "shellOf", "(IZ)I"⟩, 6) := ⟨⟨by decide +kernel, by decide +kernel⟩, List.mem_of_getElem? (i := 234) (by decide +kernel), List.mem_of_getElem? (i := 762) (by decide +kernel), List.mem_of_getElem? (i := 763) (by decide +kernel)⟩
theorem lw_p23 : lw_okq (⟨"TalePlay$Sight", "isCover", "(IZ)Z"⟩, 6) := ⟨⟨by decide +kernel, by decide +kernel⟩, List.mem_of_getElem? (i := 234) (by decide +kernel), List.mem_of_getElem? (i := 768) (by decide +kernel), List.mem_of_getElem? (i := 769) (by decide +kernel)⟩
theorem lw_p24 : lw_okq (⟨"TalePlay$Sight", "isInView", "(IIZ)Z"⟩, 6) := ⟨⟨by decide +kernel, by decide +kernel⟩, List.mem_of_getElem? (i := 234) (by decide +kernel), List.mem_of_getElem? (i := 776) (by decide +kernel), List.mem_of_getElem? (i := 777) (by decide +kernel)⟩
theorem lw_p25 : lw_okq (⟨"TalePlay$Acts", "reasonToGo", "(I)I"⟩, 7) := ⟨⟨by decide +kernel, by decide +kernel⟩, List.mem_of_getElem? (i := 265) (by decide +kernel), List.mem_of_getElem? (i := 809) (by decide +kernel), List.mem_of_getElem? (i := 810) (by decide +kernel)⟩
theorem lw_p26 : lw_okq (⟨"TalePlay$Acts", "isByRoom", "()Z"⟩, 7) := ⟨⟨by decide +kernel, by decide +kernel⟩, List.mem_of_getElem? (i := 265) (by decide +kernel), List.mem_of_getElem? (i := 813) (by decide +kernel), List.mem_of_getElem? (i := 814) (by decide +kernel)⟩
theorem lw_p27 : lw_okq (⟨"TalePlay$Acts", "reasonToTake", "(I)I"⟩, 7) := ⟨⟨by decide +kernel, by decide +kernel⟩, List.mem_of_getElem? (i := 265) (by decide +kernel), List.mem_of_getElem? (i := 821) (by decide +kernel), List.mem_of_getElem? (i := 822) (by decide +kernel)⟩
theorem lw_p28 : lw_okq (⟨"TalePlay$Acts", "isHeld", "(I)Z"⟩, 7) := ⟨⟨by decide +kernel, by decide +kernel⟩, List.mem_of_getElem? (i := 265) (by decide +kernel), List.mem_of_getElem? (i := 826) (by decide +kernel), List.mem_of_getElem? (i := 827) (by decide +kernel)⟩
theorem lw_p29 : lw_okq (⟨"TalePlay$Acts", "isAnothers", "(I)Z"⟩, 7) := ⟨⟨by decide +kernel, by decide +kernel⟩, List.mem_of_getElem? (i := 265) (by decide +kernel), List.mem_of_getElem? (i := 832) (by decide +kernel), List.mem_of_getElem? (i := 833) (by decide +kernel)⟩
theorem lw_p30 : lw_okq (⟨"TalePlay$Acts", "reasonOfShutter", "(II)I"⟩, 7) := ⟨⟨by decide +kernel, by decide +kernel⟩, List.mem_of_getElem? (i := 265) (by decide +kernel), List.mem_of_getElem? (i := 838) (by decide +kernel), List.mem_of_getElem? (i := 839) (by decide +kernel)⟩
theorem lw_p31 : lw_okq (⟨"TalePlay$Acts", "reasonToWear", "(I)I"⟩, 7) := ⟨⟨by decide +kernel, by decide +kernel⟩, List.mem_of_getElem? (i := 265) (by decide +kernel), List.mem_of_getElem? (i := 846) (by decide +kernel), List.mem_of_getElem? (i := 847) (by decide +kernel)⟩
def lw_privs_2 : List (MethodName × Nat) := [(⟨"TalePlay$Roads", "drawTarget", "(III)V"⟩, 11), (⟨"TalePlay$Roads", "drawImplied", "()V"⟩, 11), (⟨"TalePlay$Roads", "drawThroughDoors", "()V"⟩, 11), (⟨"TalePlay", "refuseRooms", "(II)I"⟩, 11), (⟨"TalePlay$Roads", "isPassable", "(IZ)Z"⟩, 11), (⟨"TalePlay$Tale", "cellAsSaid", "(I)I"⟩, 11), (⟨"TalePlay$Sight", "shellOf", "(IZ)I"⟩, 6), (⟨"TalePlay$Sight", "isCover", "(IZ)Z"⟩, 6), (⟨"TalePlay$Sight", "isInView", "(IIZ)Z"⟩, 6), (⟨"TalePlay$Acts", "reasonToGo", "(I)I"⟩, 7), (⟨"TalePlay$Acts", "isByRoom", "()Z"⟩, 7), (⟨"TalePlay$Acts", "reasonToTake", "(I)I"⟩, 7), (⟨"TalePlay$Acts", "isHeld", "(I)Z"⟩, 7), (⟨"TalePlay$Acts", "isAnothers", "(I)Z"⟩, 7), (⟨"TalePlay$Acts", "reasonOfShutter", "(II)I"⟩, 7), (⟨"TalePlay$Acts", "reasonToWear", "(I)I"⟩, 7)]
theorem lw_r2 : ∀ q ∈ lw_privs_2, lw_okq q := List.forall_mem_cons.mpr ⟨lw_p16, List.forall_mem_cons.mpr ⟨lw_p17, List.forall_mem_cons.mpr ⟨lw_p18, List.forall_mem_cons.mpr ⟨lw_p19, List.forall_mem_cons.mpr ⟨lw_p20, List.forall_mem_cons.mpr ⟨lw_p21, List.forall_mem_cons.mpr ⟨lw_p22, List.forall_mem_cons.mpr ⟨lw_p23, List.forall_mem_cons.mpr ⟨lw_p24, List.forall_mem_cons.mpr ⟨lw_p25, List.forall_mem_cons.mpr ⟨lw_p26, List.forall_mem_cons.mpr ⟨lw_p27, List.forall_mem_cons.mpr ⟨lw_p28, List.forall_mem_cons.mpr ⟨lw_p29, List.forall_mem_cons.mpr ⟨lw_p30, List.forall_mem_cons.mpr ⟨lw_p31, fun _ h => absurd h List.not_mem_nil⟩⟩⟩⟩⟩⟩⟩⟩⟩⟩⟩⟩⟩⟩⟩⟩
theorem lw_p32 : lw_okq (⟨"TalePlay$Acts", "reasonToEnter", "(I)I"⟩, 7) := ⟨⟨by decide +kernel, by decide +kernel⟩, List.mem_of_getElem? (i := 265) (by decide +kernel), List.mem_of_getElem? (i := 850) (by decide +kernel), List.mem_of_getElem? (i := 851) (by decide +kernel)⟩
theorem lw_p33 : lw_okq (⟨"TalePlay$Acts", "reasonToLeave", "()I"⟩, 7) := ⟨⟨by decide +kernel, by decide +kernel⟩, List.mem_of_getElem? (i := 265) (by decide +kernel), List.mem_of_getElem? (i := 854) (by decide +kernel), List.mem_of_getElem? (i := 855) (by decide +kernel)⟩
theorem lw_p34 : lw_okq (⟨"TalePlay$Acts", "reasonToPut", "(III)I"⟩, 7) := ⟨⟨by decide +kernel, by decide +kernel⟩, List.mem_of_getElem? (i := 265) (by decide +kernel), List.mem_of_getElem? (i := 862) (by decide +kernel), List.mem_of_getElem? (i := 863) (by decide +kernel)⟩
theorem lw_p35 : lw_okq (⟨"TalePlay$Acts", "reasonOfKey", "(II)I"⟩, 7) := ⟨⟨by decide +kernel, by decide +kernel⟩, List.mem_of_getElem? (i := 265) (by decide +kernel), List.mem_of_getElem? (i := 871) (by decide +kernel), List.mem_of_getElem? (i := 872) (by decide +kernel)⟩
theorem lw_p36 : lw_okq (⟨"TalePlay$Tale", "doIt", "(III)V"⟩, 11) := ⟨⟨by decide +kernel, by decide +kernel⟩, List.mem_of_getElem? (i := 226) (by decide +kernel), List.mem_of_getElem? (i := 876) (by decide +kernel), List.mem_of_getElem? (i := 877) (by decide +kernel)⟩
theorem lw_p37 : lw_okq (⟨"TalePlay$Acts", "placedAs", "(II)I"⟩, 7) := ⟨⟨by decide +kernel, by decide +kernel⟩, List.mem_of_getElem? (i := 265) (by decide +kernel), List.mem_of_getElem? (i := 894) (by decide +kernel), List.mem_of_getElem? (i := 895) (by decide +kernel)⟩
theorem lw_p38 : lw_okq (⟨"TalePlay$Seeker", "markOfScene", "()I"⟩, 15) := ⟨⟨by decide +kernel, by decide +kernel⟩, List.mem_of_getElem? (i := 935) (by decide +kernel), List.mem_of_getElem? (i := 1007) (by decide +kernel), List.mem_of_getElem? (i := 1008) (by decide +kernel)⟩
theorem lw_p39 : lw_okq (⟨"TalePlay$Seeker", "slotFor", "(I)I"⟩, 15) := ⟨⟨by decide +kernel, by decide +kernel⟩, List.mem_of_getElem? (i := 935) (by decide +kernel), List.mem_of_getElem? (i := 1015) (by decide +kernel), List.mem_of_getElem? (i := 1016) (by decide +kernel)⟩
theorem lw_p40 : lw_okq (⟨"TalePlay$Seeker", "isScene", "(I)Z"⟩, 15) := ⟨⟨by decide +kernel, by decide +kernel⟩, List.mem_of_getElem? (i := 935) (by decide +kernel), List.mem_of_getElem? (i := 1019) (by decide +kernel), List.mem_of_getElem? (i := 1020) (by decide +kernel)⟩
theorem lw_p41 : lw_okq (⟨"TalePlay$Seeker", "keep", "(IIII)V"⟩, 15) := ⟨⟨by decide +kernel, by decide +kernel⟩, List.mem_of_getElem? (i := 935) (by decide +kernel), List.mem_of_getElem? (i := 1023) (by decide +kernel), List.mem_of_getElem? (i := 1024) (by decide +kernel)⟩
theorem lw_p42 : lw_okq (⟨"TalePlay$Seeker", "isEnded", "()Z"⟩, 15) := ⟨⟨by decide +kernel, by decide +kernel⟩, List.mem_of_getElem? (i := 935) (by decide +kernel), List.mem_of_getElem? (i := 1028) (by decide +kernel), List.mem_of_getElem? (i := 1029) (by decide +kernel)⟩
theorem lw_p43 : lw_okq (⟨"TalePlay$Seeker", "tryFrom", "(I)V"⟩, 15) := ⟨⟨by decide +kernel, by decide +kernel⟩, List.mem_of_getElem? (i := 935) (by decide +kernel), List.mem_of_getElem? (i := 1032) (by decide +kernel), List.mem_of_getElem? (i := 1033) (by decide +kernel)⟩
theorem lw_p44 : lw_okq (⟨"TalePlay$Seeker", "tryWith", "(III)V"⟩, 15) := ⟨⟨by decide +kernel, by decide +kernel⟩, List.mem_of_getElem? (i := 935) (by decide +kernel), List.mem_of_getElem? (i := 1039) (by decide +kernel), List.mem_of_getElem? (i := 1040) (by decide +kernel)⟩
theorem lw_p45 : lw_okq (⟨"TalePlay$Seeker", "step", "(IIII)V"⟩, 15) := ⟨⟨by decide +kernel, by decide +kernel⟩, List.mem_of_getElem? (i := 935) (by decide +kernel), List.mem_of_getElem? (i := 1045) (by decide +kernel), List.mem_of_getElem? (i := 1046) (by decide +kernel)⟩
theorem lw_p46 : lw_okq (⟨"TalePlay$Seeker", "tellPlay", "()V"⟩, 15) := ⟨⟨by decide +kernel, by decide +kernel⟩, List.mem_of_getElem? (i := 935) (by decide +kernel), List.mem_of_getElem? (i := 1052) (by decide +kernel), List.mem_of_getElem? (i := 1053) (by decide +kernel)⟩
theorem lw_p47 : lw_okq (⟨"TalePlay", "refuseItem", "(III)I"⟩, 11) := ⟨⟨by decide +kernel, by decide +kernel⟩, List.mem_of_getElem? (i := 17) (by decide +kernel), List.mem_of_getElem? (i := 1072) (by decide +kernel), List.mem_of_getElem? (i := 1073) (by decide +kernel)⟩
def lw_privs_3 : List (MethodName × Nat) := [(⟨"TalePlay$Acts", "reasonToEnter", "(I)I"⟩, 7), (⟨"TalePlay$Acts", "reasonToLeave", "()I"⟩, 7), (⟨"TalePlay$Acts", "reasonToPut", "(III)I"⟩, 7), (⟨"TalePlay$Acts", "reasonOfKey", "(II)I"⟩, 7), (⟨"TalePlay$Tale", "doIt", "(III)V"⟩, 11), (⟨"TalePlay$Acts", "placedAs", "(II)I"⟩, 7), (⟨"TalePlay$Seeker", "markOfScene", "()I"⟩, 15), (⟨"TalePlay$Seeker", "slotFor", "(I)I"⟩, 15), (⟨"TalePlay$Seeker", "isScene", "(I)Z"⟩, 15), (⟨"TalePlay$Seeker", "keep", "(IIII)V"⟩, 15), (⟨"TalePlay$Seeker", "isEnded", "()Z"⟩, 15), (⟨"TalePlay$Seeker", "tryFrom", "(I)V"⟩, 15), (⟨"TalePlay$Seeker", "tryWith", "(III)V"⟩, 15), (⟨"TalePlay$Seeker", "step", "(IIII)V"⟩, 15), (⟨"TalePlay$Seeker", "tellPlay", "()V"⟩, 15), (⟨"TalePlay", "refuseItem", "(III)I"⟩, 11)]
theorem lw_r3 : ∀ q ∈ lw_privs_3, lw_okq q := List.forall_mem_cons.mpr ⟨lw_p32, List.forall_mem_cons.mpr ⟨lw_p33, List.forall_mem_cons.mpr ⟨lw_p34, List.forall_mem_cons.mpr ⟨lw_p35, List.forall_mem_cons.mpr ⟨lw_p36, List.forall_mem_cons.mpr ⟨lw_p37, List.forall_mem_cons.mpr ⟨lw_p38, List.forall_mem_cons.mpr ⟨lw_p39, List.forall_mem_cons.mpr ⟨lw_p40, List.forall_mem_cons.mpr ⟨lw_p41, List.forall_mem_cons.mpr ⟨lw_p42, List.forall_mem_cons.mpr ⟨lw_p43, List.forall_mem_cons.mpr ⟨lw_p44, List.forall_mem_cons.mpr ⟨lw_p45, List.forall_mem_cons.mpr ⟨lw_p46, List.forall_mem_cons.mpr ⟨lw_p47, fun _ h => absurd h List.not_mem_nil⟩⟩⟩⟩⟩⟩⟩⟩⟩⟩⟩⟩⟩⟩⟩⟩
theorem lw_p48 : lw_okq (⟨"TalePlay", "digestKinds", "(J)J"⟩, 11) := ⟨⟨by decide +kernel, by decide +kernel⟩, List.mem_of_getElem? (i := 17) (by decide +kernel), List.mem_of_getElem? (i := 1140) (by decide +kernel), List.mem_of_getElem? (i := 1141) (by decide +kernel)⟩
theorem lw_p49 : lw_okq (⟨"TalePlay", "digestObjects", "(J)J"⟩, 11) := ⟨⟨by decide +kernel, by decide +kernel⟩, List.mem_of_getElem? (i := 17) (by decide +kernel), List.mem_of_getElem? (i := 1145) (by decide +kernel), List.mem_of_getElem? (i := 1146) (by decide +kernel)⟩
theorem lw_p50 : lw_okq (⟨"TalePlay", "digestSentences", "(J)J"⟩, 11) := ⟨⟨by decide +kernel, by decide +kernel⟩, List.mem_of_getElem? (i := 17) (by decide +kernel), List.mem_of_getElem? (i := 1149) (by decide +kernel), List.mem_of_getElem? (i := 1150) (by decide +kernel)⟩
theorem lw_p51 : lw_okq (⟨"TalePlayModel", "endTale", "()V"⟩, 69) := ⟨⟨by decide +kernel, by decide +kernel⟩, List.mem_of_getElem? (i := 1153) (by decide +kernel), List.mem_of_getElem? (i := 1389) (by decide +kernel), List.mem_of_getElem? (i := 1390) (by decide +kernel)⟩
theorem lw_p52 : lw_okq (⟨"TalePlayModel", "isObject", "(I)Z"⟩, 69) := ⟨⟨by decide +kernel, by decide +kernel⟩, List.mem_of_getElem? (i := 1153) (by decide +kernel), List.mem_of_getElem? (i := 1402) (by decide +kernel), List.mem_of_getElem? (i := 1403) (by decide +kernel)⟩
theorem lw_p53 : lw_okq (⟨"TalePlayModel", "isOf", "(II)Z"⟩, 69) := ⟨⟨by decide +kernel, by decide +kernel⟩, List.mem_of_getElem? (i := 1153) (by decide +kernel), List.mem_of_getElem? (i := 1406) (by decide +kernel), List.mem_of_getElem? (i := 1407) (by decide +kernel)⟩
theorem lw_p54 : lw_okq (⟨"TalePlayModel", "areNumbers", "(IIII)Z"⟩, 69) := ⟨⟨by decide +kernel, by decide +kernel⟩, List.mem_of_getElem? (i := 1153) (by decide +kernel), List.mem_of_getElem? (i := 1415) (by decide +kernel), List.mem_of_getElem? (i := 1416) (by decide +kernel)⟩
theorem lw_p55 : lw_okq (⟨"TalePlayModel", "fitsLeft", "(III)Z"⟩, 69) := ⟨⟨by decide +kernel, by decide +kernel⟩, List.mem_of_getElem? (i := 1153) (by decide +kernel), List.mem_of_getElem? (i := 1420) (by decide +kernel), List.mem_of_getElem? (i := 1421) (by decide +kernel)⟩
theorem lw_p56 : lw_okq (⟨"TalePlayModel", "isMovable", "(I)Z"⟩, 69) := ⟨⟨by decide +kernel, by decide +kernel⟩, List.mem_of_getElem? (i := 1153) (by decide +kernel), List.mem_of_getElem? (i := 1424) (by decide +kernel), List.mem_of_getElem? (i := 1425) (by decide +kernel)⟩
theorem lw_p57 : lw_okq (⟨"TalePlayModel", "mayHave", "(II)Z"⟩, 69) := ⟨⟨by decide +kernel, by decide +kernel⟩, List.mem_of_getElem? (i := 1153) (by decide +kernel), List.mem_of_getElem? (i := 1428) (by decide +kernel), List.mem_of_getElem? (i := 1429) (by decide +kernel)⟩
theorem lw_p58 : lw_okq (⟨"TalePlayModel", "isShutter", "(I)Z"⟩, 69) := ⟨⟨by decide +kernel, by decide +kernel⟩, List.mem_of_getElem? (i := 1153) (by decide +kernel), List.mem_of_getElem? (i := 1432) (by decide +kernel), List.mem_of_getElem? (i := 1433) (by decide +kernel)⟩
theorem lw_p59 : lw_okq (⟨"TalePlayModel", "isGoods", "(I)Z"⟩, 69) := ⟨⟨by decide +kernel, by decide +kernel⟩, List.mem_of_getElem? (i := 1153) (by decide +kernel), List.mem_of_getElem? (i := 1436) (by decide +kernel), List.mem_of_getElem? (i := 1437) (by decide +kernel)⟩
theorem lw_p60 : lw_okq (⟨"TalePlayModel", "fitsRight", "(II)Z"⟩, 69) := ⟨⟨by decide +kernel, by decide +kernel⟩, List.mem_of_getElem? (i := 1153) (by decide +kernel), List.mem_of_getElem? (i := 1440) (by decide +kernel), List.mem_of_getElem? (i := 1441) (by decide +kernel)⟩
theorem lw_p61 : lw_okq (⟨"TalePlayModel", "saidSo", "(IIII)I"⟩, 69) := ⟨⟨by decide +kernel, by decide +kernel⟩, List.mem_of_getElem? (i := 1153) (by decide +kernel), List.mem_of_getElem? (i := 1444) (by decide +kernel), List.mem_of_getElem? (i := 1445) (by decide +kernel)⟩
theorem lw_p62 : lw_okq (⟨"TalePlayModel", "meets", "(I)I"⟩, 69) := ⟨⟨by decide +kernel, by decide +kernel⟩, List.mem_of_getElem? (i := 1153) (by decide +kernel), List.mem_of_getElem? (i := 1448) (by decide +kernel), List.mem_of_getElem? (i := 1449) (by decide +kernel)⟩
theorem lw_p63 : lw_okq (⟨"TalePlayModel", "isPlaceBarred", "(III)Z"⟩, 69) := ⟨⟨by decide +kernel, by decide +kernel⟩, List.mem_of_getElem? (i := 1153) (by decide +kernel), List.mem_of_getElem? (i := 1452) (by decide +kernel), List.mem_of_getElem? (i := 1453) (by decide +kernel)⟩
def lw_privs_4 : List (MethodName × Nat) := [(⟨"TalePlay", "digestKinds", "(J)J"⟩, 11), (⟨"TalePlay", "digestObjects", "(J)J"⟩, 11), (⟨"TalePlay", "digestSentences", "(J)J"⟩, 11), (⟨"TalePlayModel", "endTale", "()V"⟩, 69), (⟨"TalePlayModel", "isObject", "(I)Z"⟩, 69), (⟨"TalePlayModel", "isOf", "(II)Z"⟩, 69), (⟨"TalePlayModel", "areNumbers", "(IIII)Z"⟩, 69), (⟨"TalePlayModel", "fitsLeft", "(III)Z"⟩, 69), (⟨"TalePlayModel", "isMovable", "(I)Z"⟩, 69), (⟨"TalePlayModel", "mayHave", "(II)Z"⟩, 69), (⟨"TalePlayModel", "isShutter", "(I)Z"⟩, 69), (⟨"TalePlayModel", "isGoods", "(I)Z"⟩, 69), (⟨"TalePlayModel", "fitsRight", "(II)Z"⟩, 69), (⟨"TalePlayModel", "saidSo", "(IIII)I"⟩, 69), (⟨"TalePlayModel", "meets", "(I)I"⟩, 69), (⟨"TalePlayModel", "isPlaceBarred", "(III)Z"⟩, 69)]
theorem lw_r4 : ∀ q ∈ lw_privs_4, lw_okq q := List.forall_mem_cons.mpr ⟨lw_p48, List.forall_mem_cons.mpr ⟨lw_p49, List.forall_mem_cons.mpr ⟨lw_p50, List.forall_mem_cons.mpr ⟨lw_p51, List.forall_mem_cons.mpr ⟨lw_p52, List.forall_mem_cons.mpr ⟨lw_p53, List.forall_mem_cons.mpr ⟨lw_p54, List.forall_mem_cons.mpr ⟨lw_p55, List.forall_mem_cons.mpr ⟨lw_p56, List.forall_mem_cons.mpr ⟨lw_p57, List.forall_mem_cons.mpr ⟨lw_p58, List.forall_mem_cons.mpr ⟨lw_p59, List.forall_mem_cons.mpr ⟨lw_p60, List.forall_mem_cons.mpr ⟨lw_p61, List.forall_mem_cons.mpr ⟨lw_p62, List.forall_mem_cons.mpr ⟨lw_p63, fun _ h => absurd h List.not_mem_nil⟩⟩⟩⟩⟩⟩⟩⟩⟩⟩⟩⟩⟩⟩⟩⟩
theorem lw_p64 : lw_okq (⟨"TalePlayModel", "placing", "(I)I"⟩, 69) := ⟨⟨by decide +kernel, by decide +kernel⟩, List.mem_of_getElem? (i := 1153) (by decide +kernel), List.mem_of_getElem? (i := 1456) (by decide +kernel), List.mem_of_getElem? (i := 1457) (by decide +kernel)⟩
theorem lw_p65 : lw_okq (⟨"TalePlayModel", "clashes", "(I)V"⟩, 69) := ⟨⟨by decide +kernel, by decide +kernel⟩, List.mem_of_getElem? (i := 1153) (by decide +kernel), List.mem_of_getElem? (i := 1460) (by decide +kernel), List.mem_of_getElem? (i := 1461) (by decide +kernel)⟩
theorem lw_p66 : lw_okq (⟨"TalePlayModel", "isExitBarred", "(III)Z"⟩, 69) := ⟨⟨by decide +kernel, by decide +kernel⟩, List.mem_of_getElem? (i := 1153) (by decide +kernel), List.mem_of_getElem? (i := 1464) (by decide +kernel), List.mem_of_getElem? (i := 1465) (by decide +kernel)⟩
theorem lw_p67 : lw_okq (⟨"TalePlayModel", "isFlagBarred", "(III)Z"⟩, 69) := ⟨⟨by decide +kernel, by decide +kernel⟩, List.mem_of_getElem? (i := 1153) (by decide +kernel), List.mem_of_getElem? (i := 1468) (by decide +kernel), List.mem_of_getElem? (i := 1469) (by decide +kernel)⟩
theorem lw_p68 : lw_okq (⟨"TalePlayModel", "isKeyBarred", "(I)Z"⟩, 69) := ⟨⟨by decide +kernel, by decide +kernel⟩, List.mem_of_getElem? (i := 1153) (by decide +kernel), List.mem_of_getElem? (i := 1472) (by decide +kernel), List.mem_of_getElem? (i := 1473) (by decide +kernel)⟩
theorem lw_p69 : lw_okq (⟨"TalePlayModel", "saidMany", "()I"⟩, 69) := ⟨⟨by decide +kernel, by decide +kernel⟩, List.mem_of_getElem? (i := 1153) (by decide +kernel), List.mem_of_getElem? (i := 1480) (by decide +kernel), List.mem_of_getElem? (i := 1481) (by decide +kernel)⟩
theorem lw_p70 : lw_okq (⟨"TalePlayModel", "saidFlag", "(II)I"⟩, 69) := ⟨⟨by decide +kernel, by decide +kernel⟩, List.mem_of_getElem? (i := 1153) (by decide +kernel), List.mem_of_getElem? (i := 1502) (by decide +kernel), List.mem_of_getElem? (i := 1503) (by decide +kernel)⟩
theorem lw_p71 : lw_okq (⟨"TalePlayModel", "keyOf", "(I)I"⟩, 69) := ⟨⟨by decide +kernel, by decide +kernel⟩, List.mem_of_getElem? (i := 1153) (by decide +kernel), List.mem_of_getElem? (i := 1510) (by decide +kernel), List.mem_of_getElem? (i := 1511) (by decide +kernel)⟩
theorem lw_p72 : lw_okq (⟨"TalePlayModel", "findExit", "(II)Z"⟩, 69) := ⟨⟨by decide +kernel, by decide +kernel⟩, List.mem_of_getElem? (i := 1153) (by decide +kernel), List.mem_of_getElem? (i := 1519) (by decide +kernel), List.mem_of_getElem? (i := 1520) (by decide +kernel)⟩
theorem lw_p73 : lw_okq (⟨"TalePlayModel", "otherSide", "(II)I"⟩, 69) := ⟨⟨by decide +kernel, by decide +kernel⟩, List.mem_of_getElem? (i := 1153) (by decide +kernel), List.mem_of_getElem? (i := 1523) (by decide +kernel), List.mem_of_getElem? (i := 1524) (by decide +kernel)⟩
theorem lw_p74 : lw_okq (⟨"TalePlayModel", "wayRefused", "(II)I"⟩, 69) := ⟨⟨by decide +kernel, by decide +kernel⟩, List.mem_of_getElem? (i := 1153) (by decide +kernel), List.mem_of_getElem? (i := 1531) (by decide +kernel), List.mem_of_getElem? (i := 1532) (by decide +kernel)⟩
theorem lw_p75 : lw_okq (⟨"TalePlayModel", "walk", "(IZ)V"⟩, 69) := ⟨⟨by decide +kernel, by decide +kernel⟩, List.mem_of_getElem? (i := 1153) (by decide +kernel), List.mem_of_getElem? (i := 1535) (by decide +kernel), List.mem_of_getElem? (i := 1536) (by decide +kernel)⟩
theorem lw_p76 : lw_okq (⟨"TalePlayModel", "bulkOf", "(I)I"⟩, 69) := ⟨⟨by decide +kernel, by decide +kernel⟩, List.mem_of_getElem? (i := 1153) (by decide +kernel), List.mem_of_getElem? (i := 1547) (by decide +kernel), List.mem_of_getElem? (i := 1548) (by decide +kernel)⟩
theorem lw_p77 : lw_okq (⟨"TalePlayModel", "body", "(I)V"⟩, 69) := ⟨⟨by decide +kernel, by decide +kernel⟩, List.mem_of_getElem? (i := 1153) (by decide +kernel), List.mem_of_getElem? (i := 1551) (by decide +kernel), List.mem_of_getElem? (i := 1552) (by decide +kernel)⟩
theorem lw_p78 : lw_okq (⟨"TalePlayModel", "beginBulk", "(II)I"⟩, 69) := ⟨⟨by decide +kernel, by decide +kernel⟩, List.mem_of_getElem? (i := 1153) (by decide +kernel), List.mem_of_getElem? (i := 1555) (by decide +kernel), List.mem_of_getElem? (i := 1556) (by decide +kernel)⟩
theorem lw_p79 : lw_okq (⟨"TalePlayModel", "formNow", "(I)I"⟩, 69) := ⟨⟨by decide +kernel, by decide +kernel⟩, List.mem_of_getElem? (i := 1153) (by decide +kernel), List.mem_of_getElem? (i := 1559) (by decide +kernel), List.mem_of_getElem? (i := 1560) (by decide +kernel)⟩
def lw_privs_5 : List (MethodName × Nat) := [(⟨"TalePlayModel", "placing", "(I)I"⟩, 69), (⟨"TalePlayModel", "clashes", "(I)V"⟩, 69), (⟨"TalePlayModel", "isExitBarred", "(III)Z"⟩, 69), (⟨"TalePlayModel", "isFlagBarred", "(III)Z"⟩, 69), (⟨"TalePlayModel", "isKeyBarred", "(I)Z"⟩, 69), (⟨"TalePlayModel", "saidMany", "()I"⟩, 69), (⟨"TalePlayModel", "saidFlag", "(II)I"⟩, 69), (⟨"TalePlayModel", "keyOf", "(I)I"⟩, 69), (⟨"TalePlayModel", "findExit", "(II)Z"⟩, 69), (⟨"TalePlayModel", "otherSide", "(II)I"⟩, 69), (⟨"TalePlayModel", "wayRefused", "(II)I"⟩, 69), (⟨"TalePlayModel", "walk", "(IZ)V"⟩, 69), (⟨"TalePlayModel", "bulkOf", "(I)I"⟩, 69), (⟨"TalePlayModel", "body", "(I)V"⟩, 69), (⟨"TalePlayModel", "beginBulk", "(II)I"⟩, 69), (⟨"TalePlayModel", "formNow", "(I)I"⟩, 69)]
theorem lw_r5 : ∀ q ∈ lw_privs_5, lw_okq q := List.forall_mem_cons.mpr ⟨lw_p64, List.forall_mem_cons.mpr ⟨lw_p65, List.forall_mem_cons.mpr ⟨lw_p66, List.forall_mem_cons.mpr ⟨lw_p67, List.forall_mem_cons.mpr ⟨lw_p68, List.forall_mem_cons.mpr ⟨lw_p69, List.forall_mem_cons.mpr ⟨lw_p70, List.forall_mem_cons.mpr ⟨lw_p71, List.forall_mem_cons.mpr ⟨lw_p72, List.forall_mem_cons.mpr ⟨lw_p73, List.forall_mem_cons.mpr ⟨lw_p74, List.forall_mem_cons.mpr ⟨lw_p75, List.forall_mem_cons.mpr ⟨lw_p76, List.forall_mem_cons.mpr ⟨lw_p77, List.forall_mem_cons.mpr ⟨lw_p78, List.forall_mem_cons.mpr ⟨lw_p79, fun _ h => absurd h List.not_mem_nil⟩⟩⟩⟩⟩⟩⟩⟩⟩⟩⟩⟩⟩⟩⟩⟩
theorem lw_p80 : lw_okq (⟨"TalePlayModel", "atNow", "(I)I"⟩, 69) := ⟨⟨by decide +kernel, by decide +kernel⟩, List.mem_of_getElem? (i := 1153) (by decide +kernel), List.mem_of_getElem? (i := 1563) (by decide +kernel), List.mem_of_getElem? (i := 1564) (by decide +kernel)⟩
theorem lw_p81 : lw_okq (⟨"TalePlayModel", "lookAtKinds", "()V"⟩, 69) := ⟨⟨by decide +kernel, by decide +kernel⟩, List.mem_of_getElem? (i := 1153) (by decide +kernel), List.mem_of_getElem? (i := 1593) (by decide +kernel), List.mem_of_getElem? (i := 1594) (by decide +kernel)⟩
theorem lw_p82 : lw_okq (⟨"TalePlayModel", "lookAround", "()V"⟩, 69) := ⟨⟨by decide +kernel, by decide +kernel⟩, List.mem_of_getElem? (i := 1153) (by decide +kernel), List.mem_of_getElem? (i := 1597) (by decide +kernel), List.mem_of_getElem? (i := 1598) (by decide +kernel)⟩
theorem lw_p83 : lw_okq (⟨"TalePlayModel", "shellOf", "(Z)I"⟩, 69) := ⟨⟨by decide +kernel, by decide +kernel⟩, List.mem_of_getElem? (i := 1153) (by decide +kernel), List.mem_of_getElem? (i := 1601) (by decide +kernel), List.mem_of_getElem? (i := 1602) (by decide +kernel)⟩
theorem lw_p84 : lw_okq (⟨"TalePlayModel", "shuts", "(IZ)Z"⟩, 69) := ⟨⟨by decide +kernel, by decide +kernel⟩, List.mem_of_getElem? (i := 1153) (by decide +kernel), List.mem_of_getElem? (i := 1605) (by decide +kernel), List.mem_of_getElem? (i := 1606) (by decide +kernel)⟩
theorem lw_p85 : lw_okq (⟨"TalePlayModel", "isInView", "(IIZ)Z"⟩, 69) := ⟨⟨by decide +kernel, by decide +kernel⟩, List.mem_of_getElem? (i := 1153) (by decide +kernel), List.mem_of_getElem? (i := 1609) (by decide +kernel), List.mem_of_getElem? (i := 1610) (by decide +kernel)⟩
theorem lw_p86 : lw_okq (⟨"TalePlayModel", "isSide", "(II)Z"⟩, 69) := ⟨⟨by decide +kernel, by decide +kernel⟩, List.mem_of_getElem? (i := 1153) (by decide +kernel), List.mem_of_getElem? (i := 1613) (by decide +kernel), List.mem_of_getElem? (i := 1614) (by decide +kernel)⟩
theorem lw_p87 : lw_okq (⟨"TalePlayModel", "whyNot", "(III)I"⟩, 69) := ⟨⟨by decide +kernel, by decide +kernel⟩, List.mem_of_getElem? (i := 1153) (by decide +kernel), List.mem_of_getElem? (i := 1617) (by decide +kernel), List.mem_of_getElem? (i := 1618) (by decide +kernel)⟩
theorem lw_p88 : lw_okq (⟨"TalePlayModel", "whyNotGo", "(I)I"⟩, 69) := ⟨⟨by decide +kernel, by decide +kernel⟩, List.mem_of_getElem? (i := 1153) (by decide +kernel), List.mem_of_getElem? (i := 1621) (by decide +kernel), List.mem_of_getElem? (i := 1622) (by decide +kernel)⟩
theorem lw_p89 : lw_okq (⟨"TalePlayModel", "isInRoom", "()Z"⟩, 69) := ⟨⟨by decide +kernel, by decide +kernel⟩, List.mem_of_getElem? (i := 1153) (by decide +kernel), List.mem_of_getElem? (i := 1625) (by decide +kernel), List.mem_of_getElem? (i := 1626) (by decide +kernel)⟩
theorem lw_p90 : lw_okq (⟨"TalePlayModel", "whyNotTake", "(I)I"⟩, 69) := ⟨⟨by decide +kernel, by decide +kernel⟩, List.mem_of_getElem? (i := 1153) (by decide +kernel), List.mem_of_getElem? (i := 1629) (by decide +kernel), List.mem_of_getElem? (i := 1630) (by decide +kernel)⟩
theorem lw_p91 : lw_okq (⟨"TalePlayModel", "isUpFrom", "(II)Z"⟩, 69) := ⟨⟨by decide +kernel, by decide +kernel⟩, List.mem_of_getElem? (i := 1153) (by decide +kernel), List.mem_of_getElem? (i := 1633) (by decide +kernel), List.mem_of_getElem? (i := 1634) (by decide +kernel)⟩
theorem lw_p92 : lw_okq (⟨"TalePlayModel", "holds", "(I)Z"⟩, 69) := ⟨⟨by decide +kernel, by decide +kernel⟩, List.mem_of_getElem? (i := 1153) (by decide +kernel), List.mem_of_getElem? (i := 1637) (by decide +kernel), List.mem_of_getElem? (i := 1638) (by decide +kernel)⟩
theorem lw_p93 : lw_okq (⟨"TalePlayModel", "whyNotPut", "(IIZ)I"⟩, 69) := ⟨⟨by decide +kernel, by decide +kernel⟩, List.mem_of_getElem? (i := 1153) (by decide +kernel), List.mem_of_getElem? (i := 1641) (by decide +kernel), List.mem_of_getElem? (i := 1642) (by decide +kernel)⟩
theorem lw_p94 : lw_okq (⟨"TalePlayModel", "lying", "(II)I"⟩, 69) := ⟨⟨by decide +kernel, by decide +kernel⟩, List.mem_of_getElem? (i := 1153) (by decide +kernel), List.mem_of_getElem? (i := 1645) (by decide +kernel), List.mem_of_getElem? (i := 1646) (by decide +kernel)⟩
theorem lw_p95 : lw_okq (⟨"TalePlayModel", "whyNotTurn", "(III)I"⟩, 69) := ⟨⟨by decide +kernel, by decide +kernel⟩, List.mem_of_getElem? (i := 1153) (by decide +kernel), List.mem_of_getElem? (i := 1649) (by decide +kernel), List.mem_of_getElem? (i := 1650) (by decide +kernel)⟩
def lw_privs_6 : List (MethodName × Nat) := [(⟨"TalePlayModel", "atNow", "(I)I"⟩, 69), (⟨"TalePlayModel", "lookAtKinds", "()V"⟩, 69), (⟨"TalePlayModel", "lookAround", "()V"⟩, 69), (⟨"TalePlayModel", "shellOf", "(Z)I"⟩, 69), (⟨"TalePlayModel", "shuts", "(IZ)Z"⟩, 69), (⟨"TalePlayModel", "isInView", "(IIZ)Z"⟩, 69), (⟨"TalePlayModel", "isSide", "(II)Z"⟩, 69), (⟨"TalePlayModel", "whyNot", "(III)I"⟩, 69), (⟨"TalePlayModel", "whyNotGo", "(I)I"⟩, 69), (⟨"TalePlayModel", "isInRoom", "()Z"⟩, 69), (⟨"TalePlayModel", "whyNotTake", "(I)I"⟩, 69), (⟨"TalePlayModel", "isUpFrom", "(II)Z"⟩, 69), (⟨"TalePlayModel", "holds", "(I)Z"⟩, 69), (⟨"TalePlayModel", "whyNotPut", "(IIZ)I"⟩, 69), (⟨"TalePlayModel", "lying", "(II)I"⟩, 69), (⟨"TalePlayModel", "whyNotTurn", "(III)I"⟩, 69)]
theorem lw_r6 : ∀ q ∈ lw_privs_6, lw_okq q := List.forall_mem_cons.mpr ⟨lw_p80, List.forall_mem_cons.mpr ⟨lw_p81, List.forall_mem_cons.mpr ⟨lw_p82, List.forall_mem_cons.mpr ⟨lw_p83, List.forall_mem_cons.mpr ⟨lw_p84, List.forall_mem_cons.mpr ⟨lw_p85, List.forall_mem_cons.mpr ⟨lw_p86, List.forall_mem_cons.mpr ⟨lw_p87, List.forall_mem_cons.mpr ⟨lw_p88, List.forall_mem_cons.mpr ⟨lw_p89, List.forall_mem_cons.mpr ⟨lw_p90, List.forall_mem_cons.mpr ⟨lw_p91, List.forall_mem_cons.mpr ⟨lw_p92, List.forall_mem_cons.mpr ⟨lw_p93, List.forall_mem_cons.mpr ⟨lw_p94, List.forall_mem_cons.mpr ⟨lw_p95, fun _ h => absurd h List.not_mem_nil⟩⟩⟩⟩⟩⟩⟩⟩⟩⟩⟩⟩⟩⟩⟩⟩
theorem lw_p96 : lw_okq (⟨"TalePlayModel", "whyNotEnter", "(I)I"⟩, 69) := ⟨⟨by decide +kernel, by decide +kernel⟩, List.mem_of_getElem? (i := 1153) (by decide +kernel), List.mem_of_getElem? (i := 1653) (by decide +kernel), List.mem_of_getElem? (i := 1654) (by decide +kernel)⟩
theorem lw_p97 : lw_okq (⟨"TalePlayModel", "whyNotLeave", "()I"⟩, 69) := ⟨⟨by decide +kernel, by decide +kernel⟩, List.mem_of_getElem? (i := 1153) (by decide +kernel), List.mem_of_getElem? (i := 1657) (by decide +kernel), List.mem_of_getElem? (i := 1658) (by decide +kernel)⟩
theorem lw_p98 : lw_okq (⟨"TalePlayModel", "acts", "(III)V"⟩, 69) := ⟨⟨by decide +kernel, by decide +kernel⟩, List.mem_of_getElem? (i := 1153) (by decide +kernel), List.mem_of_getElem? (i := 1661) (by decide +kernel), List.mem_of_getElem? (i := 1662) (by decide +kernel)⟩
theorem lw_p99 : lw_okq (⟨"TalePlayModel", "lay", "(III)V"⟩, 69) := ⟨⟨by decide +kernel, by decide +kernel⟩, List.mem_of_getElem? (i := 1153) (by decide +kernel), List.mem_of_getElem? (i := 1665) (by decide +kernel), List.mem_of_getElem? (i := 1666) (by decide +kernel)⟩
theorem lw_p100 : lw_okq (⟨"TalePlayModel", "told", "(II)I"⟩, 69) := ⟨⟨by decide +kernel, by decide +kernel⟩, List.mem_of_getElem? (i := 1153) (by decide +kernel), List.mem_of_getElem? (i := 1677) (by decide +kernel), List.mem_of_getElem? (i := 1678) (by decide +kernel)⟩
theorem lw_p101 : lw_okq (⟨"TalePlayModel", "roomOf", "(I)I"⟩, 69) := ⟨⟨by decide +kernel, by decide +kernel⟩, List.mem_of_getElem? (i := 1153) (by decide +kernel), List.mem_of_getElem? (i := 1681) (by decide +kernel), List.mem_of_getElem? (i := 1682) (by decide +kernel)⟩
theorem lw_p102 : lw_okq (⟨"TalePlayModel", "keepState", "(I)V"⟩, 69) := ⟨⟨by decide +kernel, by decide +kernel⟩, List.mem_of_getElem? (i := 1153) (by decide +kernel), List.mem_of_getElem? (i := 1698) (by decide +kernel), List.mem_of_getElem? (i := 1699) (by decide +kernel)⟩
theorem lw_p103 : lw_okq (⟨"TalePlayModel", "found", "(I)I"⟩, 69) := ⟨⟨by decide +kernel, by decide +kernel⟩, List.mem_of_getElem? (i := 1153) (by decide +kernel), List.mem_of_getElem? (i := 1702) (by decide +kernel), List.mem_of_getElem? (i := 1703) (by decide +kernel)⟩
theorem lw_p104 : lw_okq (⟨"TalePlayModel", "triedAll", "(I)Z"⟩, 69) := ⟨⟨by decide +kernel, by decide +kernel⟩, List.mem_of_getElem? (i := 1153) (by decide +kernel), List.mem_of_getElem? (i := 1706) (by decide +kernel), List.mem_of_getElem? (i := 1707) (by decide +kernel)⟩
theorem lw_p105 : lw_okq (⟨"TalePlayModel", "giveState", "(I)V"⟩, 69) := ⟨⟨by decide +kernel, by decide +kernel⟩, List.mem_of_getElem? (i := 1153) (by decide +kernel), List.mem_of_getElem? (i := 1710) (by decide +kernel), List.mem_of_getElem? (i := 1711) (by decide +kernel)⟩
theorem lw_p106 : lw_okq (⟨"TalePlayModel", "tried", "(IIII)Z"⟩, 69) := ⟨⟨by decide +kernel, by decide +kernel⟩, List.mem_of_getElem? (i := 1153) (by decide +kernel), List.mem_of_getElem? (i := 1714) (by decide +kernel), List.mem_of_getElem? (i := 1715) (by decide +kernel)⟩
theorem lw_p107 : lw_okq (⟨"TalePlayModel", "isState", "(I)Z"⟩, 69) := ⟨⟨by decide +kernel, by decide +kernel⟩, List.mem_of_getElem? (i := 1153) (by decide +kernel), List.mem_of_getElem? (i := 1718) (by decide +kernel), List.mem_of_getElem? (i := 1719) (by decide +kernel)⟩
theorem lw_p108 : lw_okq (⟨"TalePlayModel", "lacks", "(III)I"⟩, 69) := ⟨⟨by decide +kernel, by decide +kernel⟩, List.mem_of_getElem? (i := 1153) (by decide +kernel), List.mem_of_getElem? (i := 1734) (by decide +kernel), List.mem_of_getElem? (i := 1735) (by decide +kernel)⟩
def lw_privs_7 : List (MethodName × Nat) := [(⟨"TalePlayModel", "whyNotEnter", "(I)I"⟩, 69), (⟨"TalePlayModel", "whyNotLeave", "()I"⟩, 69), (⟨"TalePlayModel", "acts", "(III)V"⟩, 69), (⟨"TalePlayModel", "lay", "(III)V"⟩, 69), (⟨"TalePlayModel", "told", "(II)I"⟩, 69), (⟨"TalePlayModel", "roomOf", "(I)I"⟩, 69), (⟨"TalePlayModel", "keepState", "(I)V"⟩, 69), (⟨"TalePlayModel", "found", "(I)I"⟩, 69), (⟨"TalePlayModel", "triedAll", "(I)Z"⟩, 69), (⟨"TalePlayModel", "giveState", "(I)V"⟩, 69), (⟨"TalePlayModel", "tried", "(IIII)Z"⟩, 69), (⟨"TalePlayModel", "isState", "(I)Z"⟩, 69), (⟨"TalePlayModel", "lacks", "(III)I"⟩, 69)]
theorem lw_r7 : ∀ q ∈ lw_privs_7, lw_okq q := List.forall_mem_cons.mpr ⟨lw_p96, List.forall_mem_cons.mpr ⟨lw_p97, List.forall_mem_cons.mpr ⟨lw_p98, List.forall_mem_cons.mpr ⟨lw_p99, List.forall_mem_cons.mpr ⟨lw_p100, List.forall_mem_cons.mpr ⟨lw_p101, List.forall_mem_cons.mpr ⟨lw_p102, List.forall_mem_cons.mpr ⟨lw_p103, List.forall_mem_cons.mpr ⟨lw_p104, List.forall_mem_cons.mpr ⟨lw_p105, List.forall_mem_cons.mpr ⟨lw_p106, List.forall_mem_cons.mpr ⟨lw_p107, List.forall_mem_cons.mpr ⟨lw_p108, fun _ h => absurd h List.not_mem_nil⟩⟩⟩⟩⟩⟩⟩⟩⟩⟩⟩⟩⟩
def lw_privs : List (MethodName × Nat) := lw_privs_1 ++ (lw_privs_2 ++ (lw_privs_3 ++ (lw_privs_4 ++ (lw_privs_5 ++ (lw_privs_6 ++ (lw_privs_7))))))
def lw_tbl : List Cond := k2_sels lw_privs ++ tables_1
theorem lw_privs_ok : ∀ q ∈ lw_privs, lw_okq q := by
  show ∀ q ∈ lw_privs_1 ++ (lw_privs_2 ++ (lw_privs_3 ++ (lw_privs_4 ++ (lw_privs_5 ++ (lw_privs_6 ++ (lw_privs_7)))))), lw_okq q
  exact List.forall_mem_append.mpr ⟨lw_r1, List.forall_mem_append.mpr ⟨lw_r2, List.forall_mem_append.mpr ⟨lw_r3, List.forall_mem_append.mpr ⟨lw_r4, List.forall_mem_append.mpr ⟨lw_r5, List.forall_mem_append.mpr ⟨lw_r6, lw_r7⟩⟩⟩⟩⟩⟩
end
section
theorem goodIn_r {big : List Cond} (ws : List Cond) (ps : List Nat) (hp : ws = ps.filterMap (fun i => big[i]?)) (h : ws.all goodWord = true) : GoodIn big ws := by
  intro w hw
  have h1 := List.all_eq_true.mp h w hw
  rw [hp] at hw
  obtain ⟨i, -, hi⟩ := List.mem_filterMap.mp hw
  have hm : w ∈ big := by first | exact List.mem_of_getElem? hi | exact List.getElem?_mem hi
  exact ⟨hm, good_of_word h1⟩
theorem goodIn_app {big a b : List Cond} (ha : GoodIn big a) (hb : GoodIn big b) : GoodIn big (a ++ b) := fun w h => (List.mem_append.mp h).elim (ha w) (hb w)
def RX0 : String := "TalePlay$Acts"
def TX0 : u_T := fun k => match k with
  | 0 => ("TalePlay$Acts", "world", "LTalePlay$World;", true)
  | 1 => ("TalePlay$Acts", "book", "LTalePlay$Book;", true)
  | 2 => ("TalePlay$Acts", "roads", "LTalePlay$Roads;", true)
  | 3 => ("TalePlay$Acts", "bulks", "LTalePlay$Bulks;", true)
  | 4 => ("TalePlay$Acts", "scene", "LTalePlay$Scene;", true)
  | 5 => ("TalePlay$Acts", "sight", "LTalePlay$Sight;", true)
  | _ => ("TalePlay$Acts", "player", "I", false)
def RX1 : String := "TalePlay$Book"
def TX1 : u_T := fun k => match k with
  | 0 => ("TalePlay$Book", "world", "LTalePlay$World;", true)
  | 1 => ("TalePlay$Book", "places", "LTalePlay$Scene;", true)
  | 2 => ("TalePlay$Book", "forms", "[I", true)
  | 3 => ("TalePlay$Book", "as", "[I", true)
  | 4 => ("TalePlay$Book", "bs", "[I", true)
  | 5 => ("TalePlay$Book", "cs", "[I", true)
  | 6 => ("TalePlay$Book", "said", "[Z", true)
  | 7 => ("TalePlay$Book", "placeBy", "[I", true)
  | 8 => ("TalePlay$Book", "exitBy", "[I", true)
  | 9 => ("TalePlay$Book", "flagBy", "[I", true)
  | 10 => ("TalePlay$Book", "keyBy", "[I", true)
  | 11 => ("TalePlay$Book", "clashRow", "[I", true)
  | 12 => ("TalePlay$Book", "clashes", "I", false)
  | 13 => ("TalePlay$Book", "total", "I", false)
  | _ => ("TalePlay$Book", "standing", "I", false)
abbrev wsX10 : List Cond := u_ws RX1 TX1 15
abbrev cX1_part : ByteArray := prog_3_method_9_code
def yX1_part : MethodName := ⟨RX1, "part", "(II)I"⟩
def RX2 : String := "TalePlay$Bulks"
def TX2 : u_T := fun k => match k with
  | 0 => ("TalePlay$Bulks", "world", "LTalePlay$World;", true)
  | 1 => ("TalePlay$Bulks", "trace", "[I", true)
  | 2 => ("TalePlay$Bulks", "traced", "I", false)
  | _ => ("TalePlay$Bulks", "tracing", "Z", false)
def RX3 : String := "TalePlay$Casts"
def TX3 : u_T := fun k => match k with
  | 0 => ("TalePlay$Casts", "sorts", "[I", true)
  | 1 => ("TalePlay$Casts", "lengths", "[I", true)
  | 2 => ("TalePlay$Casts", "roles", "[I", true)
  | _ => ("TalePlay$Casts", "made", "I", false)
def RX4 : String := "TalePlay$Lines"
def TX4 : u_T := fun k => match k with
  | 0 => ("TalePlay$Lines", "sorts", "[I", true)
  | 1 => ("TalePlay$Lines", "lengths", "[I", true)
  | _ => ("TalePlay$Lines", "items", "[J", true)
def RX5 : String := "TalePlay$Roads"
def TX5 : u_T := fun k => match k with
  | 0 => ("TalePlay$Roads", "world", "LTalePlay$World;", true)
  | 1 => ("TalePlay$Roads", "book", "LTalePlay$Book;", true)
  | 2 => ("TalePlay$Roads", "leads", "[I", true)
  | 3 => ("TalePlay$Roads", "doors", "[I", true)
  | 4 => ("TalePlay$Roads", "bys", "[I", true)
  | 5 => ("TalePlay$Roads", "implied", "[I", true)
  | 6 => ("TalePlay$Roads", "firstSides", "[I", true)
  | 7 => ("TalePlay$Roads", "secondSides", "[I", true)
  | 8 => ("TalePlay$Roads", "steps", "[I", true)
  | 9 => ("TalePlay$Roads", "firsts", "[I", true)
  | _ => ("TalePlay$Roads", "queue", "[I", true)
def RX6 : String := "TalePlay$Scene"
def TX6 : u_T := fun k => match k with
  | 0 => ("TalePlay$Scene", "world", "LTalePlay$World;", true)
  | _ => ("TalePlay$Scene", "cells", "[I", true)
abbrev wsX60 : List Cond := u_ws RX6 TX6 2
abbrev cX6_formOf : ByteArray := prog_8_method_4_code
def yX6_formOf : MethodName := ⟨RX6, "formOf", "(I)I"⟩
abbrev cX6_holderOf : ByteArray := prog_8_method_5_code
def yX6_holderOf : MethodName := ⟨RX6, "holderOf", "(I)I"⟩
abbrev cX6_has : ByteArray := prog_8_method_7_code
def yX6_has : MethodName := ⟨RX6, "has", "(II)Z"⟩
abbrev cX6_roomOf : ByteArray := prog_8_method_9_code
def yX6_roomOf : MethodName := ⟨RX6, "roomOf", "(I)I"⟩
def RX7 : String := "TalePlay$Seeker"
def TX7 : u_T := fun k => match k with
  | 0 => ("TalePlay$Seeker", "world", "LTalePlay$World;", true)
  | 1 => ("TalePlay$Seeker", "scene", "LTalePlay$Scene;", true)
  | 2 => ("TalePlay$Seeker", "sight", "LTalePlay$Sight;", true)
  | 3 => ("TalePlay$Seeker", "acts", "LTalePlay$Acts;", true)
  | 4 => ("TalePlay$Seeker", "kept", "[I", true)
  | 5 => ("TalePlay$Seeker", "marks", "[I", true)
  | 6 => ("TalePlay$Seeker", "slots", "[I", true)
  | 7 => ("TalePlay$Seeker", "parents", "[I", true)
  | 8 => ("TalePlay$Seeker", "deeds", "[I", true)
  | 9 => ("TalePlay$Seeker", "play", "[I", true)
  | 10 => ("TalePlay$Seeker", "playLength", "I", false)
  | 11 => ("TalePlay$Seeker", "states", "I", false)
  | 12 => ("TalePlay$Seeker", "found", "I", false)
  | 13 => ("TalePlay$Seeker", "goalThing", "I", false)
  | _ => ("TalePlay$Seeker", "goalHolder", "I", false)
def RX8 : String := "TalePlay$Sight"
def TX8 : u_T := fun k => match k with
  | 0 => ("TalePlay$Sight", "world", "LTalePlay$World;", true)
  | 1 => ("TalePlay$Sight", "roads", "LTalePlay$Roads;", true)
  | 2 => ("TalePlay$Sight", "scene", "LTalePlay$Scene;", true)
  | 3 => ("TalePlay$Sight", "seen", "[Z", true)
  | 4 => ("TalePlay$Sight", "reached", "[Z", true)
  | _ => ("TalePlay$Sight", "bright", "Z", false)
abbrev wsX80 : List Cond := u_ws RX8 TX8 6
def RX9 : String := "TalePlay$Tale"
def TX9 : u_T := fun k => match k with
  | 0 => ("TalePlay$Tale", "world", "LTalePlay$World;", true)
  | 1 => ("TalePlay$Tale", "book", "LTalePlay$Book;", true)
  | 2 => ("TalePlay$Tale", "scene", "LTalePlay$Scene;", true)
  | 3 => ("TalePlay$Tale", "sight", "LTalePlay$Sight;", true)
  | 4 => ("TalePlay$Tale", "acts", "LTalePlay$Acts;", true)
  | 5 => ("TalePlay$Tale", "deeds", "[I", true)
  | 6 => ("TalePlay$Tale", "subjects", "[I", true)
  | 7 => ("TalePlay$Tale", "formerCells", "[I", true)
  | 8 => ("TalePlay$Tale", "there", "Z", false)
  | 9 => ("TalePlay$Tale", "player", "I", false)
  | _ => ("TalePlay$Tale", "turns", "I", false)
abbrev wsX90 : List Cond := u_ws RX9 TX9 11
abbrev cX9_tellOf : ByteArray := prog_11_method_9_code
def yX9_tellOf : MethodName := ⟨RX9, "tellOf", "(II)I"⟩
def RX10 : String := "TalePlay$World"
def TX10 : u_T := fun k => match k with
  | 0 => ("TalePlay$World", "parents", "[I", true)
  | 1 => ("TalePlay$World", "sorts", "[I", true)
  | 2 => ("TalePlay$World", "standards", "[I", true)
  | 3 => ("TalePlay$World", "kindOf", "[I", true)
  | 4 => ("TalePlay$World", "sizeOf", "[I", true)
  | 5 => ("TalePlay$World", "kinds", "I", false)
  | _ => ("TalePlay$World", "objects", "I", false)
abbrev wsX100 : List Cond := u_ws RX10 TX10 7
abbrev cX10_sortOf : ByteArray := prog_12_method_8_code
def yX10_sortOf : MethodName := ⟨RX10, "sortOf", "(I)I"⟩
abbrev cX10_isShutter : ByteArray := prog_12_method_12_code
def yX10_isShutter : MethodName := ⟨RX10, "isShutter", "(I)Z"⟩
def RX11 : String := "TalePlay"
def TX11 : u_T := fun k => match k with
  | 0 => ("TalePlay", "world", "LTalePlay$World;", true)
  | 1 => ("TalePlay", "book", "LTalePlay$Book;", true)
  | 2 => ("TalePlay", "roads", "LTalePlay$Roads;", true)
  | 3 => ("TalePlay", "bulks", "LTalePlay$Bulks;", true)
  | 4 => ("TalePlay", "tale", "LTalePlay$Tale;", true)
  | 5 => ("TalePlay", "lines", "LTalePlay$Lines;", true)
  | 6 => ("TalePlay", "casts", "LTalePlay$Casts;", true)
  | 7 => ("TalePlay", "seeker", "LTalePlay$Seeker;", false)
  | 8 => ("TalePlay", "findingCounts", "[I", true)
  | 9 => ("TalePlay", "latestFinding", "I", false)
  | _ => ("TalePlay", "told", "J", false)
abbrev wsX110 : List Cond := u_ws RX11 TX11 11
abbrev cX11_digest : ByteArray := prog_1_method_38_code
def yX11_digest : MethodName := ⟨RX11, "digest", "()J"⟩
abbrev cX11_digestKinds : ByteArray := prog_1_method_39_code
def yX11_digestKinds : MethodName := ⟨RX11, "digestKinds", "(J)J"⟩
abbrev cX11_digestObjects : ByteArray := prog_1_method_40_code
def yX11_digestObjects : MethodName := ⟨RX11, "digestObjects", "(J)J"⟩
abbrev cX11_digestSentences : ByteArray := prog_1_method_41_code
def yX11_digestSentences : MethodName := ⟨RX11, "digestSentences", "(J)J"⟩
abbrev cX11_oneIf : ByteArray := prog_1_method_47_code
def yX11_oneIf : MethodName := ⟨RX11, "oneIf", "(Z)I"⟩
def RX12 : String := "TalePlayModel"
def TX12 : u_T := fun k => match k with
  | 0 => ("TalePlayModel", "latest", "I", false)
  | 1 => ("TalePlayModel", "came", "[I", true)
  | 2 => ("TalePlayModel", "kinds", "I", false)
  | 3 => ("TalePlayModel", "parentOf", "[I", true)
  | 4 => ("TalePlayModel", "defaults", "[I", true)
  | 5 => ("TalePlayModel", "objects", "I", false)
  | 6 => ("TalePlayModel", "kindOf", "[I", true)
  | 7 => ("TalePlayModel", "sizeOf", "[I", true)
  | 8 => ("TalePlayModel", "sentences", "I", false)
  | 9 => ("TalePlayModel", "form", "[I", true)
  | 10 => ("TalePlayModel", "left", "[I", true)
  | 11 => ("TalePlayModel", "middle", "[I", true)
  | 12 => ("TalePlayModel", "right", "[I", true)
  | 13 => ("TalePlayModel", "isSaid", "[Z", true)
  | 14 => ("TalePlayModel", "row", "[I", true)
  | 15 => ("TalePlayModel", "rowMany", "I", false)
  | 16 => ("TalePlayModel", "leads", "I", false)
  | 17 => ("TalePlayModel", "byDoor", "I", false)
  | 18 => ("TalePlayModel", "bySentence", "I", false)
  | 19 => ("TalePlayModel", "isImplied", "Z", false)
  | 20 => ("TalePlayModel", "far", "[I", true)
  | 21 => ("TalePlayModel", "line", "[I", true)
  | 22 => ("TalePlayModel", "player", "I", false)
  | 23 => ("TalePlayModel", "nForm", "[I", true)
  | 24 => ("TalePlayModel", "nAt", "[I", true)
  | 25 => ("TalePlayModel", "nOpen", "[Z", true)
  | 26 => ("TalePlayModel", "nLocked", "[Z", true)
  | 27 => ("TalePlayModel", "turns", "I", false)
  | 28 => ("TalePlayModel", "turnRow", "[I", true)
  | 29 => ("TalePlayModel", "wasForm", "[I", true)
  | 30 => ("TalePlayModel", "wasAt", "[I", true)
  | 31 => ("TalePlayModel", "wasOpen", "[Z", true)
  | 32 => ("TalePlayModel", "wasLocked", "[Z", true)
  | 33 => ("TalePlayModel", "traces", "Z", false)
  | 34 => ("TalePlayModel", "trace", "[I", true)
  | 35 => ("TalePlayModel", "traced", "I", false)
  | 36 => ("TalePlayModel", "isNought", "Z", false)
  | 37 => ("TalePlayModel", "asked", "J", false)
  | 38 => ("TalePlayModel", "pile", "[I", true)
  | 39 => ("TalePlayModel", "nextIn", "[I", true)
  | 40 => ("TalePlayModel", "shell", "I", false)
  | 41 => ("TalePlayModel", "handShell", "I", false)
  | 42 => ("TalePlayModel", "isLight", "Z", false)
  | 43 => ("TalePlayModel", "seen", "[Z", true)
  | 44 => ("TalePlayModel", "reached", "[Z", true)
  | 45 => ("TalePlayModel", "lit", "[Z", true)
  | 46 => ("TalePlayModel", "glass", "[Z", true)
  | 47 => ("TalePlayModel", "isBox", "[Z", true)
  | 48 => ("TalePlayModel", "isRoom", "[Z", true)
  | 49 => ("TalePlayModel", "isDoor", "[Z", true)
  | 50 => ("TalePlayModel", "states", "I", false)
  | 51 => ("TalePlayModel", "stateForm", "[B", true)
  | 52 => ("TalePlayModel", "stateAt", "[B", true)
  | 53 => ("TalePlayModel", "stateShut", "[B", true)
  | 54 => ("TalePlayModel", "stateFrom", "[I", true)
  | 55 => ("TalePlayModel", "stateAct", "[I", true)
  | 56 => ("TalePlayModel", "soughtRow", "[I", true)
  | 57 => ("TalePlayModel", "soughtMany", "I", false)
  | 58 => ("TalePlayModel", "goalX", "I", false)
  | 59 => ("TalePlayModel", "goalY", "I", false)
  | 60 => ("TalePlayModel", "lineSort", "[I", true)
  | 61 => ("TalePlayModel", "lineMany", "[I", true)
  | 62 => ("TalePlayModel", "items", "[J", true)
  | 63 => ("TalePlayModel", "hasLine", "[Z", true)
  | 64 => ("TalePlayModel", "casts", "I", false)
  | 65 => ("TalePlayModel", "castSort", "[I", true)
  | 66 => ("TalePlayModel", "castMany", "[I", true)
  | 67 => ("TalePlayModel", "roles", "[I", true)
  | _ => ("TalePlayModel", "held", "[J", true)
abbrev wsX120 : List Cond := u_ws RX12 TX12 69
abbrev cX12_in : ByteArray := prog_14_method_2_code
def yX12_in : MethodName := ⟨RX12, "in", "(JJJ)Z"⟩
abbrev cX12_isOf : ByteArray := prog_14_method_10_code
def yX12_isOf : MethodName := ⟨RX12, "isOf", "(II)Z"⟩
abbrev cX12_isShutter : ByteArray := prog_14_method_14_code
def yX12_isShutter : MethodName := ⟨RX12, "isShutter", "(I)Z"⟩
abbrev cX12_saidSo : ByteArray := prog_14_method_19_code
def yX12_saidSo : MethodName := ⟨RX12, "saidSo", "(IIII)I"⟩
abbrev cX12_placing : ByteArray := prog_14_method_21_code
def yX12_placing : MethodName := ⟨RX12, "placing", "(I)I"⟩
abbrev cX12_sentence : ByteArray := prog_14_method_30_code
def yX12_sentence : MethodName := ⟨RX12, "sentence", "(II)I"⟩
abbrev cX12_saidFlag : ByteArray := prog_14_method_32_code
def yX12_saidFlag : MethodName := ⟨RX12, "saidFlag", "(II)I"⟩
abbrev cX12_isSide : ByteArray := prog_14_method_38_code
def yX12_isSide : MethodName := ⟨RX12, "isSide", "(II)Z"⟩
abbrev cX12_lookAtKinds : ByteArray := prog_14_method_54_code
def yX12_lookAtKinds : MethodName := ⟨RX12, "lookAtKinds", "()V"⟩
abbrev cX12_shuts : ByteArray := prog_14_method_55_code
def yX12_shuts : MethodName := ⟨RX12, "shuts", "(IZ)Z"⟩
abbrev cX12_shellOf : ByteArray := prog_14_method_56_code
def yX12_shellOf : MethodName := ⟨RX12, "shellOf", "(Z)I"⟩
abbrev cX12_isInView : ByteArray := prog_14_method_57_code
def yX12_isInView : MethodName := ⟨RX12, "isInView", "(IIZ)Z"⟩
abbrev cX12_lookAround : ByteArray := prog_14_method_58_code
def yX12_lookAround : MethodName := ⟨RX12, "lookAround", "()V"⟩
abbrev cX12_roomOf : ByteArray := prog_14_method_59_code
def yX12_roomOf : MethodName := ⟨RX12, "roomOf", "(I)I"⟩
abbrev cX12_told : ByteArray := prog_14_method_77_code
def yX12_told : MethodName := ⟨RX12, "told", "(II)I"⟩
abbrev cX12_digest : ByteArray := prog_14_method_99_code
def yX12_digest : MethodName := ⟨RX12, "digest", "()J"⟩
def RJ7 : String := "java/util/Arrays"
abbrev cJ7_fill_53178 : ByteArray := prog_16_method_103_code
def yJ7_fill_53178 : MethodName := ⟨RJ7, "fill", "([II)V"⟩
def wsJ7_fill_53178 : List Cond := .code yJ7_fill_53178 cJ7_fill_53178 4 none :: ([])
def wsX11_digestKinds : List Cond := .code yX11_digestKinds cX11_digestKinds 7 (some .long) :: ([.fieldLink RX11 10 "TalePlay" "world" "LTalePlay$World;", .fieldLink RX11 84 "TalePlay$World" "kinds" "I", .constantLong RX11 362 (31), .fieldLink RX11 364 "TalePlay$World" "parents" "[I", .fieldLink RX11 367 "TalePlay$World" "standards" "[I"] ++ wsX110 ++ wsX100)
def wsX11_digestObjects_r1 : List Cond := [Cond.fieldLink RX11 10 "TalePlay" "world" "LTalePlay$World;", Cond.fieldLink RX11 102 "TalePlay$World" "objects" "I", Cond.constantLong RX11 362 (31), Cond.fieldLink RX11 112 "TalePlay$World" "kindOf" "[I", Cond.fieldLink RX11 370 "TalePlay$World" "sizeOf" "[I", Cond.fieldLink RX11 21 "TalePlay" "book" "LTalePlay$Book;", Cond.fieldLink RX11 203 "TalePlay$Book" "places" "LTalePlay$Scene;", Cond.fieldLink RX11 46 "TalePlay" "tale" "LTalePlay$Tale;", Cond.fieldLink RX11 257 "TalePlay$Tale" "there" "Z", Cond.methodLink RX11 206 yX6_formOf, Cond.instanceMethod yX6_formOf, Cond.selects RX6 yX6_formOf yX6_formOf, Cond.initialized RX6, Cond.code yX6_formOf cX6_formOf 3 (some .int), Cond.fieldLink RX6 9 "TalePlay$Scene" "cells" "[I", Cond.methodLink RX11 211 yX6_holderOf, Cond.instanceMethod yX6_holderOf, Cond.selects RX6 yX6_holderOf yX6_holderOf, Cond.code yX6_holderOf cX6_holderOf 3 (some .int), Cond.methodLink RX11 267 yX9_tellOf, Cond.instanceMethod yX9_tellOf, Cond.selects RX9 yX9_tellOf yX9_tellOf, Cond.initialized RX9, Cond.code yX9_tellOf cX9_tellOf 3 (some .int)]
def wsX11_digestObjects_r2 : List Cond := [Cond.fieldLink RX9 34 "TalePlay$Tale" "scene" "LTalePlay$Scene;", Cond.fieldLink RX9 21 "TalePlay$Tale" "world" "LTalePlay$World;", Cond.fieldLink RX9 43 "TalePlay$Tale" "sight" "LTalePlay$Sight;", Cond.fieldLink RX9 150 "TalePlay$Sight" "seen" "[Z", Cond.fieldLink RX9 154 "TalePlay$Sight" "reached" "[Z", Cond.methodLink RX9 134 yX6_formOf, Cond.methodLink RX9 137 yX6_holderOf, Cond.methodLink RX9 140 yX10_isShutter, Cond.instanceMethod yX10_isShutter, Cond.selects RX10 yX10_isShutter yX10_isShutter, Cond.initialized RX10, Cond.code yX10_isShutter cX10_isShutter 3 (some .boolean), Cond.methodLink RX10 40 yX10_sortOf, Cond.instanceMethod yX10_sortOf, Cond.selects RX10 yX10_sortOf yX10_sortOf, Cond.code yX10_sortOf cX10_sortOf 2 (some .int), Cond.fieldLink RX10 37 "TalePlay$World" "objects" "I", Cond.fieldLink RX10 15 "TalePlay$World" "sorts" "[I", Cond.fieldLink RX10 21 "TalePlay$World" "kindOf" "[I", Cond.methodLink RX9 143 yX6_has, Cond.instanceMethod yX6_has, Cond.selects RX6 yX6_has yX6_has, Cond.code yX6_has cX6_has 3 (some .boolean), Cond.static yX11_oneIf]
def wsX11_digestObjects_r3 : List Cond := [Cond.initialized RX11, Cond.code yX11_oneIf cX11_oneIf 1 (some .int), Cond.methodLink RX9 157 yX6_roomOf, Cond.instanceMethod yX6_roomOf, Cond.selects RX6 yX6_roomOf yX6_roomOf, Cond.code yX6_roomOf cX6_roomOf 4 (some .int), Cond.fieldLink RX6 15 "TalePlay$Scene" "world" "LTalePlay$World;", Cond.methodLink RX6 29 yX10_sortOf, Cond.methodLink RX6 25 yX6_holderOf]
def wsX11_digestObjects : List Cond := .code yX11_digestObjects cX11_digestObjects 7 (some .long) :: ((wsX11_digestObjects_r1 ++ (wsX11_digestObjects_r2 ++ wsX11_digestObjects_r3)) ++ wsX110 ++ wsX100 ++ wsX10 ++ wsX90 ++ wsX60 ++ wsX80)
def wsX11_digestSentences : List Cond := .code yX11_digestSentences cX11_digestSentences 7 (some .long) :: ([.fieldLink RX11 21 "TalePlay" "book" "LTalePlay$Book;", .fieldLink RX11 168 "TalePlay$Book" "total" "I", .constantLong RX11 362 (31), .methodLink RX11 200 yX1_part, .instanceMethod yX1_part, .selects RX1 yX1_part yX1_part, .initialized RX1, .code yX1_part cX1_part 3 (some .int), .fieldLink RX1 9 "TalePlay$Book" "forms" "[I", .fieldLink RX1 15 "TalePlay$Book" "as" "[I", .fieldLink RX1 18 "TalePlay$Book" "bs" "[I", .fieldLink RX1 21 "TalePlay$Book" "cs" "[I", .fieldLink RX1 24 "TalePlay$Book" "said" "[Z", .static yX11_oneIf, .initialized RX11, .code yX11_oneIf cX11_oneIf 1 (some .int)] ++ wsX110 ++ wsX10)
def wsX11_digest_r1 : List Cond := [Cond.constantLong RX11 350 (17), Cond.methodLink RX11 352 yX11_digestKinds, Cond.instanceMethod yX11_digestKinds, Cond.selects RX11 yX11_digestKinds yX11_digestKinds, Cond.initialized RX11, Cond.code yX11_digestKinds cX11_digestKinds 7 (some .long), Cond.fieldLink RX11 10 "TalePlay" "world" "LTalePlay$World;", Cond.fieldLink RX11 84 "TalePlay$World" "kinds" "I", Cond.constantLong RX11 362 (31), Cond.fieldLink RX11 364 "TalePlay$World" "parents" "[I", Cond.fieldLink RX11 367 "TalePlay$World" "standards" "[I", Cond.methodLink RX11 356 yX11_digestObjects, Cond.instanceMethod yX11_digestObjects, Cond.selects RX11 yX11_digestObjects yX11_digestObjects, Cond.code yX11_digestObjects cX11_digestObjects 7 (some .long), Cond.fieldLink RX11 102 "TalePlay$World" "objects" "I", Cond.fieldLink RX11 112 "TalePlay$World" "kindOf" "[I", Cond.fieldLink RX11 370 "TalePlay$World" "sizeOf" "[I", Cond.fieldLink RX11 21 "TalePlay" "book" "LTalePlay$Book;", Cond.fieldLink RX11 203 "TalePlay$Book" "places" "LTalePlay$Scene;", Cond.fieldLink RX11 46 "TalePlay" "tale" "LTalePlay$Tale;", Cond.fieldLink RX11 257 "TalePlay$Tale" "there" "Z", Cond.methodLink RX11 206 yX6_formOf, Cond.instanceMethod yX6_formOf]
def wsX11_digest_r2 : List Cond := [Cond.selects RX6 yX6_formOf yX6_formOf, Cond.initialized RX6, Cond.code yX6_formOf cX6_formOf 3 (some .int), Cond.fieldLink RX6 9 "TalePlay$Scene" "cells" "[I", Cond.methodLink RX11 211 yX6_holderOf, Cond.instanceMethod yX6_holderOf, Cond.selects RX6 yX6_holderOf yX6_holderOf, Cond.code yX6_holderOf cX6_holderOf 3 (some .int), Cond.methodLink RX11 267 yX9_tellOf, Cond.instanceMethod yX9_tellOf, Cond.selects RX9 yX9_tellOf yX9_tellOf, Cond.initialized RX9, Cond.code yX9_tellOf cX9_tellOf 3 (some .int), Cond.fieldLink RX9 34 "TalePlay$Tale" "scene" "LTalePlay$Scene;", Cond.fieldLink RX9 21 "TalePlay$Tale" "world" "LTalePlay$World;", Cond.fieldLink RX9 43 "TalePlay$Tale" "sight" "LTalePlay$Sight;", Cond.fieldLink RX9 150 "TalePlay$Sight" "seen" "[Z", Cond.fieldLink RX9 154 "TalePlay$Sight" "reached" "[Z", Cond.methodLink RX9 134 yX6_formOf, Cond.methodLink RX9 137 yX6_holderOf, Cond.methodLink RX9 140 yX10_isShutter, Cond.instanceMethod yX10_isShutter, Cond.selects RX10 yX10_isShutter yX10_isShutter, Cond.initialized RX10]
def wsX11_digest_r3 : List Cond := [Cond.code yX10_isShutter cX10_isShutter 3 (some .boolean), Cond.methodLink RX10 40 yX10_sortOf, Cond.instanceMethod yX10_sortOf, Cond.selects RX10 yX10_sortOf yX10_sortOf, Cond.code yX10_sortOf cX10_sortOf 2 (some .int), Cond.fieldLink RX10 37 "TalePlay$World" "objects" "I", Cond.fieldLink RX10 15 "TalePlay$World" "sorts" "[I", Cond.fieldLink RX10 21 "TalePlay$World" "kindOf" "[I", Cond.methodLink RX9 143 yX6_has, Cond.instanceMethod yX6_has, Cond.selects RX6 yX6_has yX6_has, Cond.code yX6_has cX6_has 3 (some .boolean), Cond.static yX11_oneIf, Cond.code yX11_oneIf cX11_oneIf 1 (some .int), Cond.methodLink RX9 157 yX6_roomOf, Cond.instanceMethod yX6_roomOf, Cond.selects RX6 yX6_roomOf yX6_roomOf, Cond.code yX6_roomOf cX6_roomOf 4 (some .int), Cond.fieldLink RX6 15 "TalePlay$Scene" "world" "LTalePlay$World;", Cond.methodLink RX6 29 yX10_sortOf, Cond.methodLink RX6 25 yX6_holderOf, Cond.methodLink RX11 359 yX11_digestSentences, Cond.instanceMethod yX11_digestSentences, Cond.selects RX11 yX11_digestSentences yX11_digestSentences]
def wsX11_digest_r4 : List Cond := [Cond.code yX11_digestSentences cX11_digestSentences 7 (some .long), Cond.fieldLink RX11 168 "TalePlay$Book" "total" "I", Cond.methodLink RX11 200 yX1_part, Cond.instanceMethod yX1_part, Cond.selects RX1 yX1_part yX1_part, Cond.initialized RX1, Cond.code yX1_part cX1_part 3 (some .int), Cond.fieldLink RX1 9 "TalePlay$Book" "forms" "[I", Cond.fieldLink RX1 15 "TalePlay$Book" "as" "[I", Cond.fieldLink RX1 18 "TalePlay$Book" "bs" "[I", Cond.fieldLink RX1 21 "TalePlay$Book" "cs" "[I", Cond.fieldLink RX1 24 "TalePlay$Book" "said" "[Z"]
def wsX11_digest : List Cond := .code yX11_digest cX11_digest 1 (some .long) :: ((wsX11_digest_r1 ++ (wsX11_digest_r2 ++ (wsX11_digest_r3 ++ wsX11_digest_r4))) ++ wsX110 ++ wsX100 ++ wsX10 ++ wsX90 ++ wsX60 ++ wsX80)
def wsX12_digest_r1 : List Cond := [Cond.constantLong RX12 453 (17), Cond.fieldLink RX12 151 "TalePlayModel" "kinds" "I", Cond.constantLong RX12 455 (31), Cond.fieldLink RX12 13 "TalePlayModel" "parentOf" "[I", Cond.fieldLink RX12 16 "TalePlayModel" "defaults" "[I", Cond.fieldLink RX12 155 "TalePlayModel" "player" "I", Cond.fieldLink RX12 177 "TalePlayModel" "objects" "I", Cond.fieldLink RX12 19 "TalePlayModel" "kindOf" "[I", Cond.fieldLink RX12 22 "TalePlayModel" "sizeOf" "[I", Cond.fieldLink RX12 25 "TalePlayModel" "form" "[I", Cond.fieldLink RX12 31 "TalePlayModel" "middle" "[I", Cond.fieldLink RX12 202 "TalePlayModel" "sentences" "I", Cond.methodLink RX12 392 yX12_lookAtKinds, Cond.instanceMethod yX12_lookAtKinds, Cond.selects RX12 yX12_lookAtKinds yX12_lookAtKinds, Cond.initialized RX12, Cond.code yX12_lookAtKinds cX12_lookAtKinds 2 none, Cond.fieldLink RX12 92 "TalePlayModel" "lit" "[Z", Cond.fieldLink RX12 98 "TalePlayModel" "isBox" "[Z", Cond.fieldLink RX12 101 "TalePlayModel" "isRoom" "[Z", Cond.fieldLink RX12 104 "TalePlayModel" "isDoor" "[Z", Cond.fieldLink RX12 95 "TalePlayModel" "glass" "[Z", Cond.methodLink RX12 256 yX12_saidFlag, Cond.instanceMethod yX12_saidFlag]
def wsX12_digest_r2 : List Cond := [Cond.selects RX12 yX12_saidFlag yX12_saidFlag, Cond.code yX12_saidFlag cX12_saidFlag 4 (some .int), Cond.methodLink RX12 216 yX12_saidSo, Cond.instanceMethod yX12_saidSo, Cond.selects RX12 yX12_saidSo yX12_saidSo, Cond.code yX12_saidSo cX12_saidSo 6 (some .int), Cond.fieldLink RX12 37 "TalePlayModel" "isSaid" "[Z", Cond.fieldLink RX12 28 "TalePlayModel" "left" "[I", Cond.fieldLink RX12 34 "TalePlayModel" "right" "[I", Cond.methodLink RX12 184 yX12_isOf, Cond.instanceMethod yX12_isOf, Cond.selects RX12 yX12_isOf yX12_isOf, Cond.code yX12_isOf cX12_isOf 4 (some .boolean), Cond.methodLink RX12 395 yX12_lookAround, Cond.instanceMethod yX12_lookAround, Cond.selects RX12 yX12_lookAround yX12_lookAround, Cond.code yX12_lookAround cX12_lookAround 3 none, Cond.fieldLink RX12 335 "TalePlayModel" "shell" "I", Cond.fieldLink RX12 338 "TalePlayModel" "handShell" "I", Cond.fieldLink RX12 341 "TalePlayModel" "isLight" "Z", Cond.fieldLink RX12 53 "TalePlayModel" "nAt" "[I", Cond.fieldLink RX12 50 "TalePlayModel" "nForm" "[I", Cond.fieldLink RX12 86 "TalePlayModel" "seen" "[Z", Cond.fieldLink RX12 89 "TalePlayModel" "reached" "[Z"]
def wsX12_digest_r3 : List Cond := [Cond.methodLink RX12 331 yX12_shellOf, Cond.instanceMethod yX12_shellOf, Cond.selects RX12 yX12_shellOf yX12_shellOf, Cond.code yX12_shellOf cX12_shellOf 3 (some .int), Cond.methodLink RX12 324 yX12_shuts, Cond.instanceMethod yX12_shuts, Cond.selects RX12 yX12_shuts yX12_shuts, Cond.code yX12_shuts cX12_shuts 3 (some .boolean), Cond.fieldLink RX12 56 "TalePlayModel" "nOpen" "[Z", Cond.methodLink RX12 344 yX12_isInView, Cond.instanceMethod yX12_isInView, Cond.selects RX12 yX12_isInView yX12_isInView, Cond.code yX12_isInView cX12_isInView 5 (some .boolean), Cond.methodLink RX12 328 yX12_isSide, Cond.instanceMethod yX12_isSide, Cond.selects RX12 yX12_isSide yX12_isSide, Cond.code yX12_isSide cX12_isSide 4 (some .boolean), Cond.methodLink RX12 208 yX12_placing, Cond.instanceMethod yX12_placing, Cond.selects RX12 yX12_placing yX12_placing, Cond.code yX12_placing cX12_placing 3 (some .int), Cond.methodLink RX12 407 yX12_told, Cond.instanceMethod yX12_told, Cond.selects RX12 yX12_told yX12_told]
def wsX12_digest_r4 : List Cond := [Cond.code yX12_told cX12_told 3 (some .int), Cond.fieldLink RX12 59 "TalePlayModel" "nLocked" "[Z", Cond.methodLink RX12 191 yX12_isShutter, Cond.instanceMethod yX12_isShutter, Cond.selects RX12 yX12_isShutter yX12_isShutter, Cond.code yX12_isShutter cX12_isShutter 2 (some .boolean), Cond.methodLink RX12 404 yX12_roomOf, Cond.instanceMethod yX12_roomOf, Cond.selects RX12 yX12_roomOf yX12_roomOf, Cond.code yX12_roomOf cX12_roomOf 3 (some .int), Cond.methodLink RX12 457 yX12_sentence, Cond.instanceMethod yX12_sentence, Cond.selects RX12 yX12_sentence yX12_sentence, Cond.code yX12_sentence cX12_sentence 3 (some .int), Cond.constantLong RX12 252 (4), Cond.methodLink RX12 166 yX12_in, Cond.static yX12_in, Cond.code yX12_in cX12_in 6 (some .boolean)]
def wsX12_digest : List Cond := .code yX12_digest cX12_digest 6 (some .long) :: ((wsX12_digest_r1 ++ (wsX12_digest_r2 ++ (wsX12_digest_r3 ++ wsX12_digest_r4))) ++ wsX120)
set_option maxRecDepth 20000 in
theorem ggX11_digest_X11_digestKinds : GoodIn wsX11_digest wsX11_digestKinds := goodIn_r _ [6, 7, 8, 9, 10, 11, 85, 86, 87, 88, 89, 90, 91, 92, 93, 94, 95, 96, 97, 98, 99, 100, 101, 102] (by decide +kernel) (by decide +kernel)
set_option maxRecDepth 20000 in
theorem gX11_digest_X11_digestKinds : GoodIn wsX11_digest (wsV RX11 352 RX11 yX11_digestKinds wsX11_digestKinds) := goodIn_app (goodIn_of _ (by decide +kernel)) ggX11_digest_X11_digestKinds
set_option maxRecDepth 20000 in
theorem ggX11_digest_X11_digestObjects : GoodIn wsX11_digest wsX11_digestObjects := goodIn_r _ [15, 7, 16, 9, 17, 18, 19, 20, 21, 22, 23, 24, 25, 26, 27, 28, 29, 30, 31, 32, 33, 34, 35, 36, 37, 38, 39, 40, 41, 42, 43, 44, 45, 46, 47, 48, 49, 50, 51, 52, 53, 54, 55, 56, 57, 58, 59, 60, 61, 5, 62, 63, 64, 65, 66, 67, 68, 69, 85, 86, 87, 88, 89, 90, 91, 92, 93, 94, 95, 96, 97, 98, 99, 100, 101, 102, 103, 104, 105, 106, 107, 108, 109, 110, 111, 112, 113, 114, 115, 116, 117, 118, 119, 120, 121, 122, 123, 124, 125, 126, 127, 128, 129, 130, 131, 132, 133, 134, 135, 136] (by decide +kernel) (by decide +kernel)
set_option maxRecDepth 20000 in
theorem gX11_digest_X11_digestObjects : GoodIn wsX11_digest (wsV RX11 356 RX11 yX11_digestObjects wsX11_digestObjects) := goodIn_app (goodIn_of _ (by decide +kernel)) ggX11_digest_X11_digestObjects
set_option maxRecDepth 20000 in
theorem ggX11_digest_X11_digestSentences : GoodIn wsX11_digest wsX11_digestSentences := goodIn_r _ [73, 19, 74, 9, 75, 76, 77, 78, 79, 80, 81, 82, 83, 84, 61, 5, 62, 85, 86, 87, 88, 89, 90, 91, 92, 93, 94, 95, 103, 104, 105, 106, 107, 108, 109, 110, 111, 112, 113, 114, 115, 116, 117] (by decide +kernel) (by decide +kernel)
set_option maxRecDepth 20000 in
theorem gX11_digest_X11_digestSentences : GoodIn wsX11_digest (wsV RX11 359 RX11 yX11_digestSentences wsX11_digestSentences) := goodIn_app (goodIn_of _ (by decide +kernel)) ggX11_digest_X11_digestSentences
theorem dX11_digest_0 : decode cX11_digest 0 = .ok (.aload_n 0, 1) := by decide +kernel
theorem dX11_digest_1 : decode cX11_digest 1 = .ok (.aload_n 0, 1) := by decide +kernel
theorem dX11_digest_2 : decode cX11_digest 2 = .ok (.aload_n 0, 1) := by decide +kernel
theorem dX11_digest_3 : decode cX11_digest 3 = .ok (.ldc2_w 350, 3) := by decide +kernel
theorem dX11_digest_6 : decode cX11_digest 6 = .ok (.invokevirtual 352, 3) := by decide +kernel
theorem dX11_digest_9 : decode cX11_digest 9 = .ok (.invokevirtual 356, 3) := by decide +kernel
theorem dX11_digest_12 : decode cX11_digest 12 = .ok (.invokevirtual 359, 3) := by decide +kernel
theorem dX11_digest_15 : decode cX11_digest 15 = .ok (.lreturn, 1) := by decide +kernel
theorem dX11_digestKinds_0 : decode cX11_digestKinds 0 = .ok (.lload_n 1, 1) := by decide +kernel
theorem dX11_digestKinds_1 : decode cX11_digestKinds 1 = .ok (.lstore_n 3, 1) := by decide +kernel
theorem dX11_digestKinds_2 : decode cX11_digestKinds 2 = .ok (.iconst 0, 1) := by decide +kernel
theorem dX11_digestKinds_3 : decode cX11_digestKinds 3 = .ok (.istore 5, 2) := by decide +kernel
theorem dX11_digestKinds_5 : decode cX11_digestKinds 5 = .ok (.iload 5, 2) := by decide +kernel
theorem dX11_digestKinds_7 : decode cX11_digestKinds 7 = .ok (.aload_n 0, 1) := by decide +kernel
theorem dX11_digestKinds_8 : decode cX11_digestKinds 8 = .ok (.getfield 10, 3) := by decide +kernel
theorem dX11_digestKinds_11 : decode cX11_digestKinds 11 = .ok (.getfield 84, 3) := by decide +kernel
theorem dX11_digestKinds_14 : decode cX11_digestKinds 14 = .ok (.if_icmp .ge 67, 3) := by decide +kernel
theorem dX11_digestKinds_17 : decode cX11_digestKinds 17 = .ok (.ldc2_w 362, 3) := by decide +kernel
theorem dX11_digestKinds_20 : decode cX11_digestKinds 20 = .ok (.lload_n 3, 1) := by decide +kernel
theorem dX11_digestKinds_21 : decode cX11_digestKinds 21 = .ok (.lmul, 1) := by decide +kernel
theorem dX11_digestKinds_22 : decode cX11_digestKinds 22 = .ok (.aload_n 0, 1) := by decide +kernel
theorem dX11_digestKinds_23 : decode cX11_digestKinds 23 = .ok (.getfield 10, 3) := by decide +kernel
theorem dX11_digestKinds_26 : decode cX11_digestKinds 26 = .ok (.getfield 364, 3) := by decide +kernel
theorem dX11_digestKinds_29 : decode cX11_digestKinds 29 = .ok (.iload 5, 2) := by decide +kernel
theorem dX11_digestKinds_31 : decode cX11_digestKinds 31 = .ok (.iaload, 1) := by decide +kernel
theorem dX11_digestKinds_32 : decode cX11_digestKinds 32 = .ok (.i2l, 1) := by decide +kernel
theorem dX11_digestKinds_33 : decode cX11_digestKinds 33 = .ok (.ladd, 1) := by decide +kernel
theorem dX11_digestKinds_34 : decode cX11_digestKinds 34 = .ok (.lstore_n 3, 1) := by decide +kernel
theorem dX11_digestKinds_35 : decode cX11_digestKinds 35 = .ok (.iconst 0, 1) := by decide +kernel
theorem dX11_digestKinds_36 : decode cX11_digestKinds 36 = .ok (.istore 6, 2) := by decide +kernel
theorem dX11_digestKinds_38 : decode cX11_digestKinds 38 = .ok (.iload 6, 2) := by decide +kernel
theorem dX11_digestKinds_40 : decode cX11_digestKinds 40 = .ok (.bipush 6, 2) := by decide +kernel
theorem dX11_digestKinds_42 : decode cX11_digestKinds 42 = .ok (.if_icmp .ge 33, 3) := by decide +kernel
theorem dX11_digestKinds_45 : decode cX11_digestKinds 45 = .ok (.ldc2_w 362, 3) := by decide +kernel
theorem dX11_digestKinds_48 : decode cX11_digestKinds 48 = .ok (.lload_n 3, 1) := by decide +kernel
theorem dX11_digestKinds_49 : decode cX11_digestKinds 49 = .ok (.lmul, 1) := by decide +kernel
theorem dX11_digestKinds_50 : decode cX11_digestKinds 50 = .ok (.aload_n 0, 1) := by decide +kernel
theorem dX11_digestKinds_51 : decode cX11_digestKinds 51 = .ok (.getfield 10, 3) := by decide +kernel
theorem dX11_digestKinds_54 : decode cX11_digestKinds 54 = .ok (.getfield 367, 3) := by decide +kernel
theorem dX11_digestKinds_57 : decode cX11_digestKinds 57 = .ok (.iload 5, 2) := by decide +kernel
theorem dX11_digestKinds_59 : decode cX11_digestKinds 59 = .ok (.bipush 6, 2) := by decide +kernel
theorem dX11_digestKinds_61 : decode cX11_digestKinds 61 = .ok (.imul, 1) := by decide +kernel
theorem dX11_digestKinds_62 : decode cX11_digestKinds 62 = .ok (.iload 6, 2) := by decide +kernel
theorem dX11_digestKinds_64 : decode cX11_digestKinds 64 = .ok (.iadd, 1) := by decide +kernel
theorem dX11_digestKinds_65 : decode cX11_digestKinds 65 = .ok (.iaload, 1) := by decide +kernel
theorem dX11_digestKinds_66 : decode cX11_digestKinds 66 = .ok (.i2l, 1) := by decide +kernel
theorem dX11_digestKinds_67 : decode cX11_digestKinds 67 = .ok (.ladd, 1) := by decide +kernel
theorem dX11_digestKinds_68 : decode cX11_digestKinds 68 = .ok (.lstore_n 3, 1) := by decide +kernel
theorem dX11_digestKinds_69 : decode cX11_digestKinds 69 = .ok (.iinc 6 1, 3) := by decide +kernel
theorem dX11_digestKinds_72 : decode cX11_digestKinds 72 = .ok (.goto (-34), 3) := by decide +kernel
theorem dX11_digestKinds_75 : decode cX11_digestKinds 75 = .ok (.iinc 5 1, 3) := by decide +kernel
theorem dX11_digestKinds_78 : decode cX11_digestKinds 78 = .ok (.goto (-73), 3) := by decide +kernel
theorem dX11_digestKinds_81 : decode cX11_digestKinds 81 = .ok (.lload_n 3, 1) := by decide +kernel
theorem dX11_digestKinds_82 : decode cX11_digestKinds 82 = .ok (.lreturn, 1) := by decide +kernel
theorem dX11_digestObjects_0 : decode cX11_digestObjects 0 = .ok (.lload_n 1, 1) := by decide +kernel
theorem dX11_digestObjects_1 : decode cX11_digestObjects 1 = .ok (.lstore_n 3, 1) := by decide +kernel
theorem dX11_digestObjects_2 : decode cX11_digestObjects 2 = .ok (.iconst 0, 1) := by decide +kernel
theorem dX11_digestObjects_3 : decode cX11_digestObjects 3 = .ok (.istore 5, 2) := by decide +kernel
theorem dX11_digestObjects_5 : decode cX11_digestObjects 5 = .ok (.iload 5, 2) := by decide +kernel
theorem dX11_digestObjects_7 : decode cX11_digestObjects 7 = .ok (.aload_n 0, 1) := by decide +kernel
theorem dX11_digestObjects_8 : decode cX11_digestObjects 8 = .ok (.getfield 10, 3) := by decide +kernel
theorem dX11_digestObjects_11 : decode cX11_digestObjects 11 = .ok (.getfield 102, 3) := by decide +kernel
theorem dX11_digestObjects_14 : decode cX11_digestObjects 14 = .ok (.if_icmp .ge 130, 3) := by decide +kernel
theorem dX11_digestObjects_144 : decode cX11_digestObjects 144 = .ok (.lload_n 3, 1) := by decide +kernel
theorem dX11_digestObjects_145 : decode cX11_digestObjects 145 = .ok (.lreturn, 1) := by decide +kernel
theorem dX11_digestSentences_0 : decode cX11_digestSentences 0 = .ok (.lload_n 1, 1) := by decide +kernel
theorem dX11_digestSentences_1 : decode cX11_digestSentences 1 = .ok (.lstore_n 3, 1) := by decide +kernel
theorem dX11_digestSentences_2 : decode cX11_digestSentences 2 = .ok (.iconst 0, 1) := by decide +kernel
theorem dX11_digestSentences_3 : decode cX11_digestSentences 3 = .ok (.istore 5, 2) := by decide +kernel
theorem dX11_digestSentences_5 : decode cX11_digestSentences 5 = .ok (.iload 5, 2) := by decide +kernel
theorem dX11_digestSentences_7 : decode cX11_digestSentences 7 = .ok (.aload_n 0, 1) := by decide +kernel
theorem dX11_digestSentences_8 : decode cX11_digestSentences 8 = .ok (.getfield 21, 3) := by decide +kernel
theorem dX11_digestSentences_11 : decode cX11_digestSentences 11 = .ok (.getfield 168, 3) := by decide +kernel
theorem dX11_digestSentences_14 : decode cX11_digestSentences 14 = .ok (.if_icmp .ge 43, 3) := by decide +kernel
theorem dX11_digestSentences_57 : decode cX11_digestSentences 57 = .ok (.lload_n 3, 1) := by decide +kernel
theorem dX11_digestSentences_58 : decode cX11_digestSentences 58 = .ok (.lreturn, 1) := by decide +kernel
theorem dX12_digest_0 : decode cX12_digest 0 = .ok (.ldc2_w 453, 3) := by decide +kernel
theorem dX12_digest_3 : decode cX12_digest 3 = .ok (.lstore_n 1, 1) := by decide +kernel
theorem dX12_digest_4 : decode cX12_digest 4 = .ok (.iconst 0, 1) := by decide +kernel
theorem dX12_digest_5 : decode cX12_digest 5 = .ok (.istore_n 3, 1) := by decide +kernel
theorem dX12_digest_6 : decode cX12_digest 6 = .ok (.iload_n 3, 1) := by decide +kernel
theorem dX12_digest_7 : decode cX12_digest 7 = .ok (.aload_n 0, 1) := by decide +kernel
theorem dX12_digest_8 : decode cX12_digest 8 = .ok (.getfield 151, 3) := by decide +kernel
theorem dX12_digest_11 : decode cX12_digest 11 = .ok (.if_icmp .ge 59, 3) := by decide +kernel
theorem dX12_digest_14 : decode cX12_digest 14 = .ok (.ldc2_w 455, 3) := by decide +kernel
theorem dX12_digest_17 : decode cX12_digest 17 = .ok (.lload_n 1, 1) := by decide +kernel
theorem dX12_digest_18 : decode cX12_digest 18 = .ok (.lmul, 1) := by decide +kernel
theorem dX12_digest_19 : decode cX12_digest 19 = .ok (.aload_n 0, 1) := by decide +kernel
theorem dX12_digest_20 : decode cX12_digest 20 = .ok (.getfield 13, 3) := by decide +kernel
theorem dX12_digest_23 : decode cX12_digest 23 = .ok (.iload_n 3, 1) := by decide +kernel
theorem dX12_digest_24 : decode cX12_digest 24 = .ok (.iaload, 1) := by decide +kernel
theorem dX12_digest_25 : decode cX12_digest 25 = .ok (.i2l, 1) := by decide +kernel
theorem dX12_digest_26 : decode cX12_digest 26 = .ok (.ladd, 1) := by decide +kernel
theorem dX12_digest_27 : decode cX12_digest 27 = .ok (.lstore_n 1, 1) := by decide +kernel
theorem dX12_digest_28 : decode cX12_digest 28 = .ok (.iconst 0, 1) := by decide +kernel
theorem dX12_digest_29 : decode cX12_digest 29 = .ok (.istore 4, 2) := by decide +kernel
theorem dX12_digest_31 : decode cX12_digest 31 = .ok (.iload 4, 2) := by decide +kernel
theorem dX12_digest_33 : decode cX12_digest 33 = .ok (.bipush 6, 2) := by decide +kernel
theorem dX12_digest_35 : decode cX12_digest 35 = .ok (.if_icmp .ge 29, 3) := by decide +kernel
theorem dX12_digest_38 : decode cX12_digest 38 = .ok (.ldc2_w 455, 3) := by decide +kernel
theorem dX12_digest_41 : decode cX12_digest 41 = .ok (.lload_n 1, 1) := by decide +kernel
theorem dX12_digest_42 : decode cX12_digest 42 = .ok (.lmul, 1) := by decide +kernel
theorem dX12_digest_43 : decode cX12_digest 43 = .ok (.aload_n 0, 1) := by decide +kernel
theorem dX12_digest_44 : decode cX12_digest 44 = .ok (.getfield 16, 3) := by decide +kernel
theorem dX12_digest_47 : decode cX12_digest 47 = .ok (.bipush 6, 2) := by decide +kernel
theorem dX12_digest_49 : decode cX12_digest 49 = .ok (.iload_n 3, 1) := by decide +kernel
theorem dX12_digest_50 : decode cX12_digest 50 = .ok (.imul, 1) := by decide +kernel
theorem dX12_digest_51 : decode cX12_digest 51 = .ok (.iload 4, 2) := by decide +kernel
theorem dX12_digest_53 : decode cX12_digest 53 = .ok (.iadd, 1) := by decide +kernel
theorem dX12_digest_54 : decode cX12_digest 54 = .ok (.iaload, 1) := by decide +kernel
theorem dX12_digest_55 : decode cX12_digest 55 = .ok (.i2l, 1) := by decide +kernel
theorem dX12_digest_56 : decode cX12_digest 56 = .ok (.ladd, 1) := by decide +kernel
theorem dX12_digest_57 : decode cX12_digest 57 = .ok (.lstore_n 1, 1) := by decide +kernel
theorem dX12_digest_58 : decode cX12_digest 58 = .ok (.iinc 4 1, 3) := by decide +kernel
theorem dX12_digest_61 : decode cX12_digest 61 = .ok (.goto (-30), 3) := by decide +kernel
theorem dX12_digest_64 : decode cX12_digest 64 = .ok (.iinc 3 1, 3) := by decide +kernel
theorem dX12_digest_67 : decode cX12_digest 67 = .ok (.goto (-61), 3) := by decide +kernel
theorem dX12_digest_70 : decode cX12_digest 70 = .ok (.aload_n 0, 1) := by decide +kernel
theorem dX12_digest_71 : decode cX12_digest 71 = .ok (.getfield 155, 3) := by decide +kernel
theorem dX12_digest_74 : decode cX12_digest 74 = .ok (.bipush (-9), 2) := by decide +kernel
theorem dX12_digest_76 : decode cX12_digest 76 = .ok (.if_icmp .eq 11, 3) := by decide +kernel
theorem dX12_digest_87 : decode cX12_digest 87 = .ok (.iconst 0, 1) := by decide +kernel
theorem dX12_digest_88 : decode cX12_digest 88 = .ok (.istore_n 3, 1) := by decide +kernel
end
section
theorem dX12_digest_89 : decode cX12_digest 89 = .ok (.iload_n 3, 1) := by decide +kernel
theorem dX12_digest_90 : decode cX12_digest 90 = .ok (.aload_n 0, 1) := by decide +kernel
theorem dX12_digest_91 : decode cX12_digest 91 = .ok (.getfield 177, 3) := by decide +kernel
theorem dX12_digest_94 : decode cX12_digest 94 = .ok (.if_icmp .ge 134, 3) := by decide +kernel
theorem dX12_digest_228 : decode cX12_digest 228 = .ok (.iconst 0, 1) := by decide +kernel
theorem dX12_digest_229 : decode cX12_digest 229 = .ok (.istore_n 3, 1) := by decide +kernel
theorem dX12_digest_230 : decode cX12_digest 230 = .ok (.iload_n 3, 1) := by decide +kernel
theorem dX12_digest_231 : decode cX12_digest 231 = .ok (.aload_n 0, 1) := by decide +kernel
theorem dX12_digest_232 : decode cX12_digest 232 = .ok (.getfield 202, 3) := by decide +kernel
theorem dX12_digest_235 : decode cX12_digest 235 = .ok (.if_icmp .ge 39, 3) := by decide +kernel
theorem dX12_digest_274 : decode cX12_digest 274 = .ok (.lload_n 1, 1) := by decide +kernel
theorem dX12_digest_275 : decode cX12_digest 275 = .ok (.lreturn, 1) := by decide +kernel
theorem dJ7_fill_53178_0 : decode cJ7_fill_53178 0 = .ok (.iconst 0, 1) := by decide +kernel
theorem dJ7_fill_53178_1 : decode cJ7_fill_53178 1 = .ok (.istore_n 2, 1) := by decide +kernel
theorem dJ7_fill_53178_2 : decode cJ7_fill_53178 2 = .ok (.aload_n 0, 1) := by decide +kernel
theorem dJ7_fill_53178_3 : decode cJ7_fill_53178 3 = .ok (.arraylength, 1) := by decide +kernel
theorem dJ7_fill_53178_4 : decode cJ7_fill_53178 4 = .ok (.istore_n 3, 1) := by decide +kernel
theorem dJ7_fill_53178_5 : decode cJ7_fill_53178 5 = .ok (.iload_n 2, 1) := by decide +kernel
theorem dJ7_fill_53178_6 : decode cJ7_fill_53178 6 = .ok (.iload_n 3, 1) := by decide +kernel
theorem dJ7_fill_53178_7 : decode cJ7_fill_53178 7 = .ok (.if_icmp .ge 13, 3) := by decide +kernel
theorem dJ7_fill_53178_10 : decode cJ7_fill_53178 10 = .ok (.aload_n 0, 1) := by decide +kernel
theorem dJ7_fill_53178_11 : decode cJ7_fill_53178 11 = .ok (.iload_n 2, 1) := by decide +kernel
theorem dJ7_fill_53178_12 : decode cJ7_fill_53178 12 = .ok (.iload_n 1, 1) := by decide +kernel
theorem dJ7_fill_53178_13 : decode cJ7_fill_53178 13 = .ok (.iastore, 1) := by decide +kernel
theorem dJ7_fill_53178_14 : decode cJ7_fill_53178 14 = .ok (.iinc 2 1, 3) := by decide +kernel
theorem dJ7_fill_53178_17 : decode cJ7_fill_53178 17 = .ok (.goto (-12), 3) := by decide +kernel
theorem dJ7_fill_53178_20 : decode cJ7_fill_53178 20 = .ok (.return_, 1) := by decide +kernel
abbrev vwCl : List vw_C := [(RX0, TX0, 7), (RX1, TX1, 15), (RX2, TX2, 4), (RX3, TX3, 4), (RX4, TX4, 3), (RX5, TX5, 11), (RX6, TX6, 2), (RX7, TX7, 15), (RX8, TX8, 6), (RX9, TX9, 11), (RX10, TX10, 7), (RX11, TX11, 11), (RX12, TX12, 69)]
end
section
/-! Forms of contracts that the rows below share: a method that writes nothing old (ro), and one that may change the cells of its world (rw) -/
/-- what a method that writes nothing old may touch: new cells alone -/
abbrev ro (sz : Nat) : Nat → Prop := fun q => sz ≤ q
/-- the start of a method that only reads -/
def pA (D : va_G) (sz : Nat) (ws : va_W) (tys : List (ClassId × FieldType)) : State → Prop := fun U => U.heap.size = sz ∧ va_P D vwCl ws U.heap ∧ va_K D vwCl tys U
/-- the start of a method that may write its world -/
def pB (D : va_G) (sz : Nat) (ws : va_W) (tys : List (ClassId × FieldType)) : State → Prop := fun U => U.heap.size = sz ∧ va_P D vwCl ws U.heap ∧ va_K D vwCl tys U ∧ va_D (fun _ => True) ws
/-- an end of which nothing is said -/
def oA : Unit → State → Prop := fun _ _ => True
/-- an end with a world -/
def oC {S : Type} (D : va_G) (A : Nat → Prop) (w2 : S → va_W) (t2 : S → List (ClassId × FieldType)) : S → State → Prop := fun u t => va_P D vwCl (w2 u) t.heap ∧ va_K D vwCl (t2 u) t ∧ va_D A (w2 u)
theorem pA_bl {av : List Value} {D : va_G} {sz : Nat} {ws : va_W} {tys : List (ClassId × FieldType)} : FrameBlind (va_Pc av (pA D sz ws tys)) := fun a U g mk q => by
  obtain ⟨q0, q1, qP, qK⟩ := q
  exact ⟨q0, q1, qP, va_K.moved (u := U) (U := U.calling g mk a) (Vm.Alike.refl U.vm) qK⟩
theorem pB_bl {av : List Value} {D : va_G} {sz : Nat} {ws : va_W} {tys : List (ClassId × FieldType)} : FrameBlind (va_Pc av (pB D sz ws tys)) := fun a U g mk q => by
  obtain ⟨q0, q1, qP, qK, qD⟩ := q
  exact ⟨q0, q1, qP, va_K.moved (u := U) (U := U.calling g mk a) (Vm.Alike.refl U.vm) qK, qD⟩
theorem pA_V {s : State} {H : Heap} {D : va_G} {ws : va_W} {tys : List (ClassId × FieldType)} {b ci q0 : Nat} {fs As : List Value} {q : vw_C} (hK : va_K D vwCl tys s) (hP : va_P D vwCl ws H) (hc : vwCl[ci]? = some q) (he : ws[q0]? = some (b, .inr (ci, fs))) : PreV s H q.1 b (va_Pc (.ref b :: As) (pA D H.size ws tys)) As :=
  ⟨pA_bl, va_recv hK hP hc he, fun _ hU hW => ⟨rfl, by rw [hU], by rw [hU]; exact hP, va_K.moved hW.alike hK⟩⟩
theorem pA_S {s : State} {H : Heap} {D : va_G} {ws : va_W} {tys : List (ClassId × FieldType)} {As : List Value} (hK : va_K D vwCl tys s) (hP : va_P D vwCl ws H) : PreS s H (va_Pc As (pA D H.size ws tys)) As :=
  ⟨pA_bl, fun _ hU hW => ⟨rfl, by rw [hU], by rw [hU]; exact hP, va_K.moved hW.alike hK⟩⟩
theorem pB_V {s : State} {H : Heap} {D : va_G} {ws : va_W} {tys : List (ClassId × FieldType)} {A : Nat → Prop} {b ci q0 : Nat} {fs As : List Value} {q : vw_C} (hK : va_K D vwCl tys s) (hP : va_P D vwCl ws H) (hD : va_D A ws) (hc : vwCl[ci]? = some q) (he : ws[q0]? = some (b, .inr (ci, fs))) : PreV s H q.1 b (va_Pc (.ref b :: As) (pB D H.size ws tys)) As :=
  ⟨pB_bl, va_recv hK hP hc he, fun _ hU hW => ⟨rfl, by rw [hU], by rw [hU]; exact hP, va_K.moved hW.alike hK, hD.weaken (fun _ _ _ _ => trivial)⟩⟩
theorem pB_S {s : State} {H : Heap} {D : va_G} {ws : va_W} {tys : List (ClassId × FieldType)} {A : Nat → Prop} {As : List Value} (hK : va_K D vwCl tys s) (hP : va_P D vwCl ws H) (hD : va_D A ws) : PreS s H (va_Pc As (pB D H.size ws tys)) As :=
  ⟨pB_bl, fun _ hU hW => ⟨rfl, by rw [hU], by rw [hU]; exact hP, va_K.moved hW.alike hK, hD.weaken (fun _ _ _ _ => trivial)⟩⟩
/-- the start of a method that only reads and calls a private method of its nest's host -/
def pN (D : va_G) (sz : Nat) (ws : va_W) (tys : List (ClassId × FieldType)) (a : String) (i : Nat) (x : MethodName) (h : String) : State → Prop := fun U => pA D sz ws tys U ∧ va_Nw (.methodLinkNest a i x h) U
theorem pN_V {s : State} {H : Heap} {D : va_G} {ws : va_W} {tys : List (ClassId × FieldType)} {b ci q0 : Nat} {fs As : List Value} {q : vw_C} {a : String} {i : Nat} {x : MethodName} {h : String} (hK : va_K D vwCl tys s) (hP : va_P D vwCl ws H) (hN : va_Nw (.methodLinkNest a i x h) s) (hc : vwCl[ci]? = some q) (he : ws[q0]? = some (b, .inr (ci, fs))) : PreV s H q.1 b (va_Pc (.ref b :: As) (pN D H.size ws tys a i x h)) As :=
  ⟨fun a U g mk q => ⟨q.1, (pA_bl (av := .ref b :: As) a U g mk ⟨q.1, q.2.1⟩).2, va_Nw.same (u := U) (U := U.calling g mk a) rfl rfl q.2.2⟩, va_recv hK hP hc he, fun _ hU hW => ⟨rfl, ⟨by rw [hU], by rw [hU]; exact hP, va_K.moved hW.alike hK⟩, va_Nw.warmM hW hN⟩⟩
theorem ro_kept {D : va_G} {cl : List vw_C} {ws : va_W} {H H1 : Heap} (hP : va_P D cl ws H) (hk : ∀ q : Nat, q < H.size → ¬ ro H.size q → H1[q]? = H[q]?) : va_P D cl ws H1 := hP.kept (fun k q h => hk q.1 (hP k q h).lt (Nat.not_le.mpr (hP k q h).lt))
section RC
variable {p : Program} {l : Launch} {e : Env} {R : Room} {s : State} {m : MethodId} {args : Array Value} {below : List Frame} {meth : Method} {c : Code} {H : Heap} {locs : List Loc} {cells slots : Nat} {Q : State → Prop}
variable {pc : Nat} {ls : Array Slot} {rest st0 : List Value} {a : Array Value} {A0 : Nat → Prop} {H0 : Heap} {mc ms : Nat} {D : va_G} {ws : va_W}
theorem ro_calli {S : Type} {post : Int32 → S → Prop} {B : S → State → Prop} (hr : va_Run p l e R s m args below meth c H locs cells slots 0 0 (F0 m pc ls st0) rest (va_Qi post B (ro H.size) a) (ro H.size)) (hS : va_S A0 H0 H locs) (hA : ∀ q, H0.size ≤ q → A0 q) (hP : va_P D vwCl ws H)
    (kk : ∀ (r : Int32) (u : S) (H1 : Heap) (locs1 : List Loc), post r u → va_P D vwCl ws H1 → va_S A0 H0 H1 locs1 → W p l e R s m args below meth c H1 locs1 cells slots Q (F0 m (pc + 3) ls (.int r :: rest))) : W p l e R s m args below meth c H locs cells slots Q (F0 m pc ls st0) :=
  va_calli hr hS (fun _ h1 h2 => absurd h2 (Nat.not_le.mpr h1)) (fun q h => hA q (Nat.le_trans hS.1 h)) (fun r u _ H1 locs1 _ _ hw _ _ hk hS1 => kk r u H1 locs1 hw (ro_kept hP hk) hS1)
theorem ro_calll {S : Type} {post : Int64 → S → Prop} {B : S → State → Prop} (hr : va_Run p l e R s m args below meth c H locs cells slots 0 0 (F0 m pc ls st0) rest (va_Ql post B (ro H.size) a) (ro H.size)) (hS : va_S A0 H0 H locs) (hA : ∀ q, H0.size ≤ q → A0 q) (hP : va_P D vwCl ws H)
    (kk : ∀ (r : Int64) (u : S) (H1 : Heap) (locs1 : List Loc), post r u → va_P D vwCl ws H1 → va_S A0 H0 H1 locs1 → W p l e R s m args below meth c H1 locs1 cells slots Q (F0 m (pc + 3) ls (.long r :: rest))) : W p l e R s m args below meth c H locs cells slots Q (F0 m pc ls st0) :=
  va_calll hr hS (fun _ h1 h2 => absurd h2 (Nat.not_le.mpr h1)) (fun q h => hA q (Nat.le_trans hS.1 h)) (fun r u _ H1 locs1 _ _ hw _ _ hk hS1 => kk r u H1 locs1 hw (ro_kept hP hk) hS1)
variable {tys : List (ClassId × FieldType)} {wc wr : va_W}
theorem rw_calli {S : Type} {post : Int32 → S → Prop} {w2 : S → va_W} {t2 : S → List (ClassId × FieldType)} (hr : va_Run p l e R s m args below meth c H locs cells slots mc ms (F0 m pc ls st0) rest (va_Qi post (oC D (va_A wc H.size) w2 t2) (va_A wc H.size) a) (va_A wc H.size)) (hS : va_S A0 H0 H locs) (hA : ∀ q, H0.size ≤ q → A0 q) (hK : va_K D vwCl tys s) (hP : va_P D vwCl ws H) (hD : va_D A0 ws) (isC isR : List Nat) (hC : isC.map (fun i => ws[i]?) = wc.map some) (hR : isR.map (fun i => ws[i]?) = wr.map some) (hn : va_nd isR = true) (hdis : ∀ i ∈ isR, i ∉ isC)
    (kk : ∀ (r : Int32) (u : S) (H1 : Heap) (locs1 : List Loc), post r u → va_K D vwCl (tys ++ t2 u) s → va_P D vwCl (wr ++ w2 u) H1 → va_D A0 (wr ++ w2 u) → va_S A0 H0 H1 locs1 → W p l e R s m args below meth c H1 locs1 (cells + mc) (slots + ms) Q (F0 m (pc + 3) ls (.int r :: rest))) : W p l e R s m args below meth c H locs cells slots Q (F0 m pc ls st0) := by
  have hFc := va_free (wc := wc) hD hS hA isC hC
  refine va_calli hr hS (fun q _ h => hFc q h) hFc (fun r u t H1 locs1 ht hvm hw hB _ hk hS1 => ?_)
  obtain ⟨hP1, hK1, hD1⟩ := hB
  rw [ht] at hP1
  obtain ⟨hPj, hDj⟩ := va_join (wr := wr) (w1 := w2 u) hP hD isC isR hC hR hn hdis hk hFc hP1 hD1
  exact kk r u H1 locs1 hw (hK.app (va_K.moved hvm.symm hK1)) hPj hDj hS1
theorem rw_calll {S : Type} {post : Int64 → S → Prop} {w2 : S → va_W} {t2 : S → List (ClassId × FieldType)} (hr : va_Run p l e R s m args below meth c H locs cells slots mc ms (F0 m pc ls st0) rest (va_Ql post (oC D (va_A wc H.size) w2 t2) (va_A wc H.size) a) (va_A wc H.size)) (hS : va_S A0 H0 H locs) (hA : ∀ q, H0.size ≤ q → A0 q) (hK : va_K D vwCl tys s) (hP : va_P D vwCl ws H) (hD : va_D A0 ws) (isC isR : List Nat) (hC : isC.map (fun i => ws[i]?) = wc.map some) (hR : isR.map (fun i => ws[i]?) = wr.map some) (hn : va_nd isR = true) (hdis : ∀ i ∈ isR, i ∉ isC)
    (kk : ∀ (r : Int64) (u : S) (H1 : Heap) (locs1 : List Loc), post r u → va_K D vwCl (tys ++ t2 u) s → va_P D vwCl (wr ++ w2 u) H1 → va_D A0 (wr ++ w2 u) → va_S A0 H0 H1 locs1 → W p l e R s m args below meth c H1 locs1 (cells + mc) (slots + ms) Q (F0 m (pc + 3) ls (.long r :: rest))) : W p l e R s m args below meth c H locs cells slots Q (F0 m pc ls st0) := by
  have hFc := va_free (wc := wc) hD hS hA isC hC
  refine va_calll hr hS (fun q _ h => hFc q h) hFc (fun r u t H1 locs1 ht hvm hw hB _ hk hS1 => ?_)
  obtain ⟨hP1, hK1, hD1⟩ := hB
  rw [ht] at hP1
  obtain ⟨hPj, hDj⟩ := va_join (wr := wr) (w1 := w2 u) hP hD isC isR hC hR hn hdis hk hFc hP1 hD1
  exact kk r u H1 locs1 hw (hK.app (va_K.moved hvm.symm hK1)) hPj hDj hS1
theorem rw_callv {S : Type} {post : S → Prop} {w2 : S → va_W} {t2 : S → List (ClassId × FieldType)} (hr : va_Run p l e R s m args below meth c H locs cells slots mc ms (F0 m pc ls st0) rest (va_Qv post (oC D (va_A wc H.size) w2 t2) (va_A wc H.size) a) (va_A wc H.size)) (hS : va_S A0 H0 H locs) (hA : ∀ q, H0.size ≤ q → A0 q) (hK : va_K D vwCl tys s) (hP : va_P D vwCl ws H) (hD : va_D A0 ws) (isC isR : List Nat) (hC : isC.map (fun i => ws[i]?) = wc.map some) (hR : isR.map (fun i => ws[i]?) = wr.map some) (hn : va_nd isR = true) (hdis : ∀ i ∈ isR, i ∉ isC)
    (kk : ∀ (u : S) (H1 : Heap) (locs1 : List Loc), post u → va_K D vwCl (tys ++ t2 u) s → va_P D vwCl (wr ++ w2 u) H1 → va_D A0 (wr ++ w2 u) → va_S A0 H0 H1 locs1 → W p l e R s m args below meth c H1 locs1 (cells + mc) (slots + ms) Q (F0 m (pc + 3) ls rest)) : W p l e R s m args below meth c H locs cells slots Q (F0 m pc ls st0) := by
  have hFc := va_free (wc := wc) hD hS hA isC hC
  refine va_callv hr hS (fun q _ h => hFc q h) hFc (fun u t H1 locs1 ht hvm hw hB _ hk hS1 => ?_)
  obtain ⟨hP1, hK1, hD1⟩ := hB
  rw [ht] at hP1
  obtain ⟨hPj, hDj⟩ := va_join (wr := wr) (w1 := w2 u) hP hD isC isR hC hR hn hdis hk hFc hP1 hD1
  exact kk u H1 locs1 hw (hK.app (va_K.moved hvm.symm hK1)) hPj hDj hS1
/-- a number on top of the stack under another name -/
theorem tp_i {x y : Int32} (h : x = y) (k : W p l e R s m args below meth c H locs cells slots Q (F0 m pc ls (.int y :: rest))) : W p l e R s m args below meth c H locs cells slots Q (F0 m pc ls (.int x :: rest)) := h ▸ k
theorem tp_l {x y : Int64} (h : x = y) (k : W p l e R s m args below meth c H locs cells slots Q (F0 m pc ls (.long y :: rest))) : W p l e R s m args below meth c H locs cells slots Q (F0 m pc ls (.long x :: rest)) := h ▸ k
end RC
section RR
variable {p : Program} {l : Launch} {e : Env} {R : Room} {s : State} {m : MethodId} {args : Array Value} {below : List Frame} {meth : Method} {c : Code} {H : Heap} {locs : List Loc} {cells slots : Nat}
variable {cc : ByteArray} {pc : Nat} {ls : Array Slot} {D : va_G} {A : Nat → Prop}
theorem ro_iret {post : Int32 → Unit → Prop} {v : Int32} (hexec : p.tables.exec = Jvm.exec) (hb : c.code = cc) (hr : meth.sig.returnType = some .int) (hlocks : meth.locks = false) (hS : va_S A s.heap H locs) (hdg : decode cc pc = .ok (.ireturn, 1)) (hp : post v ()) : W p l e R s m args below meth c H locs cells slots (MQ below (va_Qi post oA A) args s cells slots A) (F0 m pc ls [.int v]) :=
  W.iret hexec hb hr (fun _ ht _ => ⟨⟨v, (), rfl, hp, trivial⟩, hS.F ht⟩) hS.2.2 hdg hlocks
theorem ro_zret {post : Int32 → Unit → Prop} {v : Int32} (hexec : p.tables.exec = Jvm.exec) (hb : c.code = cc) (hr : meth.sig.returnType = some .boolean) (hlocks : meth.locks = false) (hS : va_S A s.heap H locs) (hn : narrow .boolean (.int v) = .int v) (hdg : decode cc pc = .ok (.ireturn, 1)) (hp : post v ()) : W p l e R s m args below meth c H locs cells slots (MQ below (va_Qi post oA A) args s cells slots A) (F0 m pc ls [.int v]) :=
  W.zret hexec hb hr hn (fun _ ht _ => ⟨⟨v, (), rfl, hp, trivial⟩, hS.F ht⟩) hS.2.2 hdg hlocks
theorem ro_lret {post : Int64 → Unit → Prop} {v : Int64} (hexec : p.tables.exec = Jvm.exec) (hb : c.code = cc) (hr : meth.sig.returnType = some .long) (hlocks : meth.locks = false) (hS : va_S A s.heap H locs) (hdg : decode cc pc = .ok (.lreturn, 1)) (hp : post v ()) : W p l e R s m args below meth c H locs cells slots (MQ below (va_Ql post oA A) args s cells slots A) (F0 m pc ls [.long v]) :=
  W.lret hexec hb hr (fun _ ht _ => ⟨⟨v, (), rfl, hp, trivial⟩, hS.F ht⟩) hS.2.2 hdg hlocks
theorem rw_iret {S : Type} {post : Int32 → S → Prop} {w2 : S → va_W} {t2 : S → List (ClassId × FieldType)} {v : Int32} (u : S) (hexec : p.tables.exec = Jvm.exec) (hb : c.code = cc) (hr : meth.sig.returnType = some .int) (hlocks : meth.locks = false) (hS : va_S A s.heap H locs) (hK : va_K D vwCl (t2 u) s) (hP : va_P D vwCl (w2 u) H) (hD : va_D A (w2 u)) (hdg : decode cc pc = .ok (.ireturn, 1)) (hp : post v u) : W p l e R s m args below meth c H locs cells slots (MQ below (va_Qi post (oC D A w2 t2) A) args s cells slots A) (F0 m pc ls [.int v]) :=
  W.iret hexec hb hr (fun _ ht hW => ⟨⟨v, u, rfl, hp, by rw [ht]; exact hP, va_K.moved hW.alike hK, hD⟩, hS.F ht⟩) hS.2.2 hdg hlocks
theorem rw_lret {S : Type} {post : Int64 → S → Prop} {w2 : S → va_W} {t2 : S → List (ClassId × FieldType)} {v : Int64} (u : S) (hexec : p.tables.exec = Jvm.exec) (hb : c.code = cc) (hr : meth.sig.returnType = some .long) (hlocks : meth.locks = false) (hS : va_S A s.heap H locs) (hK : va_K D vwCl (t2 u) s) (hP : va_P D vwCl (w2 u) H) (hD : va_D A (w2 u)) (hdg : decode cc pc = .ok (.lreturn, 1)) (hp : post v u) : W p l e R s m args below meth c H locs cells slots (MQ below (va_Ql post (oC D A w2 t2) A) args s cells slots A) (F0 m pc ls [.long v]) :=
  W.lret hexec hb hr (fun _ ht hW => ⟨⟨v, u, rfl, hp, by rw [ht]; exact hP, va_K.moved hW.alike hK, hD⟩, hS.F ht⟩) hS.2.2 hdg hlocks
theorem rw_vret {S : Type} {post : S → Prop} {w2 : S → va_W} {t2 : S → List (ClassId × FieldType)} (u : S) (hexec : p.tables.exec = Jvm.exec) (hb : c.code = cc) (hr : meth.sig.returnType = none) (hlocks : meth.locks = false) (hS : va_S A s.heap H locs) (hK : va_K D vwCl (t2 u) s) (hP : va_P D vwCl (w2 u) H) (hD : va_D A (w2 u)) (hdg : decode cc pc = .ok (.return_, 1)) (hp : post u) : W p l e R s m args below meth c H locs cells slots (MQ below (va_Qv post (oC D A w2 t2) A) args s cells slots A) (F0 m pc ls []) :=
  W.vret hexec hb hr (fun _ ht hW => ⟨⟨u, rfl, hp, by rw [ht]; exact hP, va_K.moved hW.alike hK, hD⟩, hS.F ht⟩) hS.2.2 hdg hlocks
end RR
/-! numbers -/
theorem ti_lt {x y : Int32} {a b : Int} (hx : x.toInt = a) (hy : y.toInt = b) : x < y ↔ a < b := by rw [Int32.lt_iff_toInt_lt, hx, hy]
theorem ti_le {x y : Int32} {a b : Int} (hx : x.toInt = a) (hy : y.toInt = b) : x ≤ y ↔ a ≤ b := by rw [Int32.le_iff_toInt_le, hx, hy]
theorem ti_eq {x y : Int32} {a b : Int} (hx : x.toInt = a) (hy : y.toInt = b) : x = y ↔ a = b := by rw [← Int32.toInt_inj, hx, hy]
theorem ti_add {x y z : Int32} {a b : Int} (h : z = x + y) (hx : x.toInt = a) (hy : y.toInt = b) (h1 : -2147483648 ≤ a + b) (h2 : a + b < 2147483648) : z.toInt = a + b := by
  subst h
  rw [Int32.toInt_add, hx, hy]
  exact Int.bmod_eq_of_le (by omega) (by omega)
theorem ti_mul {x y z : Int32} {a b : Int} (h : z = x * y) (hx : x.toInt = a) (hy : y.toInt = b) (h1 : -2147483648 ≤ a * b) (h2 : a * b < 2147483648) : z.toInt = a * b := by
  subst h
  rw [Int32.toInt_mul, hx, hy]
  exact Int.bmod_eq_of_le (by omega) (by omega)
/-- a flag that a call has answered -/
theorem fl_t {r : Int32} {P : Prop} [Decidable P] (h : r = if P then 1 else 0) (c : ¬ r = 0) : P := by
  by_cases q : P
  · exact q
  · rw [if_neg q] at h
    exact absurd h c
theorem fl_f {r : Int32} {P : Prop} [Decidable P] (h : r = if P then 1 else 0) (c : r = 0) : ¬ P := by
  intro q
  rw [if_pos q, c] at h
  exact absurd h (by decide)
theorem fl_n {r : Int32} {P : Prop} [Decidable P] (h : r = if P then 1 else 0) : narrow .boolean (.int r) = .int r := by
  subst h
  by_cases q : P
  · rw [if_pos q]; rfl
  · rw [if_neg q]; rfl
theorem lc_lt {x y : Int64} {a b : Int} (hx : x.toInt = a) (hy : y.toInt = b) : lg_cmp x y < 0 ↔ a < b := by
  unfold lg_cmp
  simp only [gt_iff_lt, Int64.lt_iff_toInt_lt, ← Int64.toInt_inj, hx, hy]
  by_cases h1 : b < a
  · rw [if_pos h1]; simp; omega
  · rw [if_neg h1]
    by_cases h2 : a = b
    · rw [if_pos h2]; simp; omega
    · rw [if_neg h2]; simp; omega
theorem lc_gt {x y : Int64} {a b : Int} (hx : x.toInt = a) (hy : y.toInt = b) : 0 < lg_cmp x y ↔ b < a := by
  unfold lg_cmp
  simp only [gt_iff_lt, Int64.lt_iff_toInt_lt, ← Int64.toInt_inj, hx, hy]
  by_cases h1 : b < a
  · rw [if_pos h1]; simp [h1]
  · rw [if_neg h1]
    by_cases h2 : a = b
    · rw [if_pos h2]; simp; omega
    · rw [if_neg h2]; simp; omega
theorem lt_cl {x : Int32} {a : Int} {n : Nat} (hx : x.toInt = a) (h0 : 0 ≤ a) (h1 : a < n) : x.toNatClampNeg < n := by
  show x.toInt.toNat < n
  rw [hx]
  omega
end
section
/-! Arrays.fill(int[], int): every element becomes v -/
theorem fill_loop {p : Program} {l : Launch} {e : Env} {R : Room} {s : State} {m : MethodId} {args : Array Value} {below : List Frame} {meth : Method} {c : Code} {Q : State → Prop} {D : va_G} {A : Nat → Prop} {a n : Nat} {cA : ClassId} {v : Int32}
    (hx : p.tables.exec = Jvm.exec) (hb : c.code = cJ7_fill_53178) (hK : va_K D vwCl [(cA, .int)] s) (hn : n < 2147483648)
    (kk : ∀ (g : Nat → Int32) (H : Heap) (locs : List Loc) (ls : Array Slot), (∀ j, j < n → g j = v) → va_P D vwCl [(a, .inl (cA, n, .inl g))] H → va_D A [(a, .inl (cA, n, .inl g))] → va_S A s.heap H locs → W p l e R s m args below meth c H locs 0 0 Q (F0 m 20 ls [])) :
    ∀ (k i : Nat) (x : Int32) (g : Nat → Int32), i ≤ n → n < i + k → x = nI i → (∀ j, j < i → g j = v) → ∀ (H : Heap) (locs : List Loc) (ls : Array Slot), va_P D vwCl [(a, .inl (cA, n, .inl g))] H → va_D A [(a, .inl (cA, n, .inl g))] → va_S A s.heap H locs → lv_has ls 4 [(2, .int x), (3, .int (nI n)), (0, .ref a), (1, .int v)] → W p l e R s m args below meth c H locs 0 0 Q (F0 m 5 ls []) := by
  intro k
  induction k with
  | zero => intro i x g h1 h2; omega
  | succ k ih =>
    intro i x g hin hik ex hg H locs ls hP hD hS hl
    refine lv_iload_n hx hb dJ7_fill_53178_5 rfl (lv_at hl 0 rfl) ?_
    refine lv_iload_n hx hb dJ7_fill_53178_6 rfl (lv_at hl 1 rfl) ?_
    refine lv_icmp_ge (tgt := 20) hx hb dJ7_fill_53178_7 (by decide) (fun c1 => ?_) (fun c1 => ?_)
    · have hi : i = n := by
        rcases Nat.lt_or_ge i n with q | q
        · exact absurd (by rw [ex] at c1; exact c1) (nI_ge q hn)
        · omega
      subst hi
      exact kk g H locs ls hg hP hD hS
    · have hi : i < n := by
        rcases Nat.lt_or_ge i n with q | q
        · exact q
        · exact absurd (by rw [ex]; exact nI_le q (by omega)) c1
      refine lv_aload_n hx hb dJ7_fill_53178_10 rfl (lv_at hl 2 rfl) ?_
      refine lv_iload_n hx hb dJ7_fill_53178_11 rfl (lv_at hl 0 rfl) ?_
      refine lv_iload_n hx hb dJ7_fill_53178_12 rfl (lv_at hl 3 rfl) ?_
      refine va_iast hx hb hK hP hD hS 0 0 rfl rfl (by rw [ex]; exact vp_in_nI hi hn) dJ7_fill_53178_13 (fun H locs hP hD hS => ?_)
      have hP : va_P D vwCl [(a, .inl (cA, n, .inl (upd g x.toNatClampNeg v)))] H := hP
      have hD : va_D A [(a, .inl (cA, n, .inl (upd g x.toNatClampNeg v)))] := hD
      obtain ⟨y, ey⟩ : ∃ y : Int32, y = x + 1 := ⟨_, rfl⟩
      refine lv_iinc (v := y) (lv' := [(2, .int y), (3, .int (nI n)), (0, .ref a), (1, .int v)]) hx hb dJ7_fill_53178_14 hl (k := 0) rfl (by rw [ey]; rfl) (by decide) rfl (fun ls hl => ?_)
      refine lv_goto (tgt := 5) hx hb dJ7_fill_53178_17 (by decide) ?_
      refine ih (i + 1) y _ hi (by omega) (by rw [ey, ex]; exact nI_1 i) (fun j hj => ?_) H locs ls hP hD hS hl
      rw [ex, nI_clamp (by omega)]
      by_cases q : j = i
      · subst q; exact pk_us
      · rw [pk_un q]; exact hg j (by omega)
set_option maxHeartbeats 4000000 in
set_option maxRecDepth 100000 in
theorem c_J7_fill_53178 (l : Launch) (D : va_G) (sz : Nat) (a : Nat) (cA : ClassId) (n : Nat) (f : Nat → Int32) (v : Int32) (hn : n < 2147483648) : Met l yJ7_fill_53178 wsJ7_fill_53178 ({ frames := 0, cells := 0, slots := 0, locals := 0 }) (va_Pc [.ref a, .int v] (pB D sz [(a, .inl (cA, n, .inl f))] [(cA, .int)])) (va_Qv (fun (u : Nat → Int32) => ∀ j, j < n → u j = v) (oC D (va_A [(a, .inl (cA, n, .inl f))] sz) (fun u => [(a, .inl (cA, n, .inl u))]) (fun _ => [])) (va_A [(a, .inl (cA, n, .inl f))] sz)) 0 0 (va_A [(a, .inl (cA, n, .inl f))] sz) := by
  refine Met.ofW (cc := cJ7_fill_53178) (maxL := 4) (ret := none) (by decide) rfl ?_
  intro p e s m args below meth c s₁ B hml hv
  obtain ⟨rfl, hsz, hP, hK, hD0⟩ := hv
  have hx := B.exec
  have hb := B.bytes
  have hr := B.returns
  have hlocks := B.notSynchronized
  subst hsz
  have hD := hD0.self (sz := s.heap.size)
  generalize hAe : va_A [(a, .inl (cA, n, .inl f))] s.heap.size = A at hD ⊢
  have hS : va_S A s.heap s.heap [] := va_S.rf
  have hP : va_P D vwCl [(a, .inl (cA, n, .inl f))] s.heap := hP
  have hl := lv_entry ([.ref a, .int v]) (n := 4) (Nat.le_of_ble_eq_true rfl)
  rw [lg_entry_eq]
  generalize (lg_sl ([.ref a, .int v]) ++ List.replicate (4 - (lg_sl ([.ref a, .int v])).length) Slot.unset).toArray = ls at hl ⊢
  have hl : lv_has ls 4 [(0, .ref a), (1, .int v)] := hl
  refine lv_iconst (v := 0) hx hb dJ7_fill_53178_0 (by decide) ?_
  refine lv_istore_n (lv' := [(2, .int 0), (0, .ref a), (1, .int v)]) hx hb dJ7_fill_53178_1 rfl hl (by decide) rfl (fun ls hl => ?_)
  refine lv_aload_n hx hb dJ7_fill_53178_2 rfl (lv_at hl 1 rfl) ?_
  refine va_alen (v := nI n) hx hb hK hP 0 0 rfl rfl rfl dJ7_fill_53178_3 ?_
  refine lv_istore_n (lv' := [(3, .int (nI n)), (2, .int 0), (0, .ref a), (1, .int v)]) hx hb dJ7_fill_53178_4 rfl hl (by decide) rfl (fun ls hl => ?_)
  refine fill_loop hx hb hK hn (fun g H locs ls hg hP hD hS => ?_) (n + 1) 0 0 f (Nat.zero_le _) (by omega) nI_0.symm (fun j hj => absurd hj (Nat.not_lt_zero j)) s.heap [] ls hP hD hS (lv_sub hl [1, 0, 2, 3] rfl)
  exact rw_vret g hx hb hr hlocks hS (hK.sub [] rfl) hP hD dJ7_fill_53178_20 hg
end
section
set_option maxHeartbeats 4000000 in
set_option maxRecDepth 100000 in
theorem c_X11_digestKinds (l : Launch) (D : va_G) (sz : Nat) (x0 : Nat) (wo : Nat) (bo : Nat) (ro_ : Nat) (bu : Nat) (ta : Nat) (li : Nat) (ca : Nat) (fc : Nat) (wp : Nat) (ws_ : Nat) (wd : Nat) (wk : Nat) (wz : Nat) (cP : ClassId) (fp : Nat → Int32) (cD : ClassId) (fd : Nat → Int32) (hp0 : fp 0 = -9) (hp1 : fp 1 = -9) (hp2 : fp 2 = 1) (hp3 : fp 3 = 1) (hp4 : fp 4 = 1) (hp5 : fp 5 = 1) (hfd : ∀ j, j < 144 → fd j = -9) : Met l yX11_digestKinds wsX11_digestKinds ({ frames := 0, cells := 0, slots := 0, locals := 0 }) (va_Pc [.ref x0, .long 17] (pA D sz [(x0, .inr (11, [.ref wo, .ref bo, .ref ro_, .ref bu, .ref ta, .ref li, .ref ca, .null, .ref fc, .int 0, .long 0])), (wo, .inr (10, [.ref wp, .ref ws_, .ref wd, .ref wk, .ref wz, .int 6, .int 0])), (wp, .inl (cP, 24, .inl fp)), (wd, .inl (cD, 144, .inl fd))] [(cP, .int), (cD, .int)])) (va_Ql (fun (r : Int64) (_ : Unit) => r = (-3475150264839019343)) oA (ro sz)) 0 0 (ro sz) := by
  refine Met.ofW (cc := cX11_digestKinds) (maxL := 7) (ret := (some .long)) (by decide) rfl ?_
  intro p e s m args below meth c s₁ B hml hv
  obtain ⟨rfl, hsz, hP, hK⟩ := hv
  have hx := B.exec
  have hb := B.bytes
  have hr := B.returns
  have hts := atoms_spec (ws := wsX11_digestKinds) B.pre
  have hown : s.vm.findClass RX11 = some m.cls := findClass_of_methodNamed B.named
  have hlocks := B.notSynchronized
  subst hsz
  have hA : ∀ q : Nat, s.heap.size ≤ q → ro s.heap.size q := fun _ h => h
  have hS : va_S (ro s.heap.size) s.heap s.heap [] := va_S.rf
  have hP : va_P D vwCl [(x0, .inr (11, [.ref wo, .ref bo, .ref ro_, .ref bu, .ref ta, .ref li, .ref ca, .null, .ref fc, .int 0, .long 0])), (wo, .inr (10, [.ref wp, .ref ws_, .ref wd, .ref wk, .ref wz, .int 6, .int 0])), (wp, .inl (cP, 24, .inl fp)), (wd, .inl (cD, 144, .inl fd))] s.heap := hP
  have hl := lv_entry ([.ref x0, .long 17]) (n := 7) (Nat.le_of_ble_eq_true rfl)
  rw [lg_entry_eq]
  generalize (lg_sl ([.ref x0, .long 17]) ++ List.replicate (7 - (lg_sl ([.ref x0, .long 17])).length) Slot.unset).toArray = ls at hl ⊢
  have hl : lv_has ls 7 [(0, .ref x0), (1, .long 17)] := hl
  refine lv_lload_n hx hb dX11_digestKinds_0 rfl (lv_at hl 1 rfl) ?_
  refine lv_lstore_n (lv' := [(3, .long 17), (0, .ref x0), (1, .long 17)]) hx hb dX11_digestKinds_1 rfl hl (by decide) rfl (fun ls hl => ?_)
  refine lv_iconst (v := 0) hx hb dX11_digestKinds_2 (by decide) ?_
  refine lv_istore (lv' := [(5, .int 0), (3, .long 17), (0, .ref x0), (1, .long 17)]) hx hb dX11_digestKinds_3 hl (by decide) rfl (fun ls hl => ?_)
  refine lv_iload hx hb dX11_digestKinds_5 (lv_at hl 0 rfl) ?_
  refine lv_aload_n hx hb dX11_digestKinds_7 rfl (lv_at hl 2 rfl) ?_
  refine va_get (D := D) (ci := 11) (v := .ref wo) (C := RX11) (T := TX11) (N := 11) hx hb hts (fun _ h => List.mem_cons_of_mem _ (List.mem_append_left _ (List.mem_append_right _ h))) hown hK hP 0 rfl rfl 0 (by decide) (hts (.fieldLink RX11 10 "TalePlay" "world" "LTalePlay$World;") (by decide +kernel)) (fun _ h9 => h9) rfl dX11_digestKinds_8 ?_
  refine va_get (D := D) (ci := 10) (v := .int 6) (C := RX10) (T := TX10) (N := 7) hx hb hts (fun _ h => List.mem_cons_of_mem _ (List.mem_append_right _ h)) hown hK hP 1 rfl rfl 5 (by decide) (hts (.fieldLink RX11 84 "TalePlay$World" "kinds" "I") (by decide +kernel)) (fun _ h9 => h9) rfl dX11_digestKinds_11 ?_
  refine lv_icmp_ge (tgt := 81) hx hb dX11_digestKinds_14 (by decide) (fun q9 => absurd q9 (by decide)) (fun _ => ?_)
  refine lv_ldc2 (v := 31) hx hb hown (hts (.constantLong RX11 362 (31)) (by decide +kernel)) dX11_digestKinds_17 ?_
  refine lv_lload_n hx hb dX11_digestKinds_20 rfl (lv_at hl 1 rfl) ?_
  refine lv_lmul hx hb dX11_digestKinds_21 ?_
  refine tp_l (y := 527) (by decide) ?_
  refine lv_aload_n hx hb dX11_digestKinds_22 rfl (lv_at hl 2 rfl) ?_
  refine va_get (D := D) (ci := 11) (v := .ref wo) (C := RX11) (T := TX11) (N := 11) hx hb hts (fun _ h => List.mem_cons_of_mem _ (List.mem_append_left _ (List.mem_append_right _ h))) hown hK hP 0 rfl rfl 0 (by decide) (hts (.fieldLink RX11 10 "TalePlay" "world" "LTalePlay$World;") (by decide +kernel)) (fun _ h9 => h9) rfl dX11_digestKinds_23 ?_
  refine va_get (D := D) (ci := 10) (v := .ref wp) (C := RX10) (T := TX10) (N := 7) hx hb hts (fun _ h => List.mem_cons_of_mem _ (List.mem_append_right _ h)) hown hK hP 1 rfl rfl 0 (by decide) (hts (.fieldLink RX11 364 "TalePlay$World" "parents" "[I") (by decide +kernel)) (fun _ h9 => h9) rfl dX11_digestKinds_26 ?_
  refine lv_iload hx hb dX11_digestKinds_29 (lv_at hl 0 rfl) ?_
  refine va_iald hx hb hK hP 2 0 rfl rfl (show vp_in 0 24 from by unfold vp_in; decide) dX11_digestKinds_31 ?_
  refine tp_i (y := (-9)) hp0 ?_
  refine lv_i2l (v := (-9)) hx hb dX11_digestKinds_32 (by decide) ?_
  refine lv_ladd hx hb dX11_digestKinds_33 ?_
  refine tp_l (y := 518) (by decide) ?_
  refine lv_lstore_n (lv' := [(3, .long 518), (5, .int 0), (0, .ref x0), (1, .long 17)]) hx hb dX11_digestKinds_34 rfl hl (by decide) rfl (fun ls hl => ?_)
  refine lv_iconst (v := 0) hx hb dX11_digestKinds_35 (by decide) ?_
  refine lv_istore (lv' := [(6, .int 0), (3, .long 518), (5, .int 0), (0, .ref x0), (1, .long 17)]) hx hb dX11_digestKinds_36 hl (by decide) rfl (fun ls hl => ?_)
  refine lv_iload hx hb dX11_digestKinds_38 (lv_at hl 0 rfl) ?_
  refine lv_bipush (v := 6) hx hb dX11_digestKinds_40 (by decide) ?_
  refine lv_icmp_ge (tgt := 75) hx hb dX11_digestKinds_42 (by decide) (fun q9 => absurd q9 (by decide)) (fun _ => ?_)
  refine lv_ldc2 (v := 31) hx hb hown (hts (.constantLong RX11 362 (31)) (by decide +kernel)) dX11_digestKinds_45 ?_
  refine lv_lload_n hx hb dX11_digestKinds_48 rfl (lv_at hl 1 rfl) ?_
  refine lv_lmul hx hb dX11_digestKinds_49 ?_
  refine tp_l (y := 16058) (by decide) ?_
  refine lv_aload_n hx hb dX11_digestKinds_50 rfl (lv_at hl 3 rfl) ?_
  refine va_get (D := D) (ci := 11) (v := .ref wo) (C := RX11) (T := TX11) (N := 11) hx hb hts (fun _ h => List.mem_cons_of_mem _ (List.mem_append_left _ (List.mem_append_right _ h))) hown hK hP 0 rfl rfl 0 (by decide) (hts (.fieldLink RX11 10 "TalePlay" "world" "LTalePlay$World;") (by decide +kernel)) (fun _ h9 => h9) rfl dX11_digestKinds_51 ?_
  refine va_get (D := D) (ci := 10) (v := .ref wd) (C := RX10) (T := TX10) (N := 7) hx hb hts (fun _ h => List.mem_cons_of_mem _ (List.mem_append_right _ h)) hown hK hP 1 rfl rfl 2 (by decide) (hts (.fieldLink RX11 367 "TalePlay$World" "standards" "[I") (by decide +kernel)) (fun _ h9 => h9) rfl dX11_digestKinds_54 ?_
  refine lv_iload hx hb dX11_digestKinds_57 (lv_at hl 2 rfl) ?_
  refine lv_bipush (v := 6) hx hb dX11_digestKinds_59 (by decide) ?_
  refine lv_imul hx hb dX11_digestKinds_61 ?_
  refine tp_i (y := 0) (by decide) ?_
  refine lv_iload hx hb dX11_digestKinds_62 (lv_at hl 0 rfl) ?_
  refine lv_iadd hx hb dX11_digestKinds_64 ?_
  refine tp_i (y := 0) (by decide) ?_
  refine va_iald hx hb hK hP 3 1 rfl rfl (show vp_in 0 144 from by unfold vp_in; decide) dX11_digestKinds_65 ?_
  refine tp_i (y := (-9)) (hfd _ (by decide)) ?_
  refine lv_i2l (v := (-9)) hx hb dX11_digestKinds_66 (by decide) ?_
  refine lv_ladd hx hb dX11_digestKinds_67 ?_
  refine tp_l (y := 16049) (by decide) ?_
  refine lv_lstore_n (lv' := [(3, .long 16049), (6, .int 0), (5, .int 0), (0, .ref x0), (1, .long 17)]) hx hb dX11_digestKinds_68 rfl hl (by decide) rfl (fun ls hl => ?_)
  refine lv_iinc (v := 1) (lv' := [(6, .int 1), (3, .long 16049), (5, .int 0), (0, .ref x0), (1, .long 17)]) hx hb dX11_digestKinds_69 hl (k := 1) rfl (by decide) (by decide) rfl (fun ls hl => ?_)
  refine lv_goto (tgt := 38) hx hb dX11_digestKinds_72 (by decide) ?_
  refine lv_iload hx hb dX11_digestKinds_38 (lv_at hl 0 rfl) ?_
  refine lv_bipush (v := 6) hx hb dX11_digestKinds_40 (by decide) ?_
  refine lv_icmp_ge (tgt := 75) hx hb dX11_digestKinds_42 (by decide) (fun q9 => absurd q9 (by decide)) (fun _ => ?_)
  refine lv_ldc2 (v := 31) hx hb hown (hts (.constantLong RX11 362 (31)) (by decide +kernel)) dX11_digestKinds_45 ?_
  refine lv_lload_n hx hb dX11_digestKinds_48 rfl (lv_at hl 1 rfl) ?_
  refine lv_lmul hx hb dX11_digestKinds_49 ?_
  refine tp_l (y := 497519) (by decide) ?_
  refine lv_aload_n hx hb dX11_digestKinds_50 rfl (lv_at hl 3 rfl) ?_
  refine va_get (D := D) (ci := 11) (v := .ref wo) (C := RX11) (T := TX11) (N := 11) hx hb hts (fun _ h => List.mem_cons_of_mem _ (List.mem_append_left _ (List.mem_append_right _ h))) hown hK hP 0 rfl rfl 0 (by decide) (hts (.fieldLink RX11 10 "TalePlay" "world" "LTalePlay$World;") (by decide +kernel)) (fun _ h9 => h9) rfl dX11_digestKinds_51 ?_
  refine va_get (D := D) (ci := 10) (v := .ref wd) (C := RX10) (T := TX10) (N := 7) hx hb hts (fun _ h => List.mem_cons_of_mem _ (List.mem_append_right _ h)) hown hK hP 1 rfl rfl 2 (by decide) (hts (.fieldLink RX11 367 "TalePlay$World" "standards" "[I") (by decide +kernel)) (fun _ h9 => h9) rfl dX11_digestKinds_54 ?_
  refine lv_iload hx hb dX11_digestKinds_57 (lv_at hl 2 rfl) ?_
  refine lv_bipush (v := 6) hx hb dX11_digestKinds_59 (by decide) ?_
  refine lv_imul hx hb dX11_digestKinds_61 ?_
  refine tp_i (y := 0) (by decide) ?_
  refine lv_iload hx hb dX11_digestKinds_62 (lv_at hl 0 rfl) ?_
  refine lv_iadd hx hb dX11_digestKinds_64 ?_
  refine tp_i (y := 1) (by decide) ?_
  refine va_iald hx hb hK hP 3 1 rfl rfl (show vp_in 1 144 from by unfold vp_in; decide) dX11_digestKinds_65 ?_
  refine tp_i (y := (-9)) (hfd _ (by decide)) ?_
  refine lv_i2l (v := (-9)) hx hb dX11_digestKinds_66 (by decide) ?_
  refine lv_ladd hx hb dX11_digestKinds_67 ?_
  refine tp_l (y := 497510) (by decide) ?_
  refine lv_lstore_n (lv' := [(3, .long 497510), (6, .int 1), (5, .int 0), (0, .ref x0), (1, .long 17)]) hx hb dX11_digestKinds_68 rfl hl (by decide) rfl (fun ls hl => ?_)
  refine lv_iinc (v := 2) (lv' := [(6, .int 2), (3, .long 497510), (5, .int 0), (0, .ref x0), (1, .long 17)]) hx hb dX11_digestKinds_69 hl (k := 1) rfl (by decide) (by decide) rfl (fun ls hl => ?_)
  refine lv_goto (tgt := 38) hx hb dX11_digestKinds_72 (by decide) ?_
  refine lv_iload hx hb dX11_digestKinds_38 (lv_at hl 0 rfl) ?_
  refine lv_bipush (v := 6) hx hb dX11_digestKinds_40 (by decide) ?_
  refine lv_icmp_ge (tgt := 75) hx hb dX11_digestKinds_42 (by decide) (fun q9 => absurd q9 (by decide)) (fun _ => ?_)
  refine lv_ldc2 (v := 31) hx hb hown (hts (.constantLong RX11 362 (31)) (by decide +kernel)) dX11_digestKinds_45 ?_
  refine lv_lload_n hx hb dX11_digestKinds_48 rfl (lv_at hl 1 rfl) ?_
  refine lv_lmul hx hb dX11_digestKinds_49 ?_
  refine tp_l (y := 15422810) (by decide) ?_
  refine lv_aload_n hx hb dX11_digestKinds_50 rfl (lv_at hl 3 rfl) ?_
  refine va_get (D := D) (ci := 11) (v := .ref wo) (C := RX11) (T := TX11) (N := 11) hx hb hts (fun _ h => List.mem_cons_of_mem _ (List.mem_append_left _ (List.mem_append_right _ h))) hown hK hP 0 rfl rfl 0 (by decide) (hts (.fieldLink RX11 10 "TalePlay" "world" "LTalePlay$World;") (by decide +kernel)) (fun _ h9 => h9) rfl dX11_digestKinds_51 ?_
  refine va_get (D := D) (ci := 10) (v := .ref wd) (C := RX10) (T := TX10) (N := 7) hx hb hts (fun _ h => List.mem_cons_of_mem _ (List.mem_append_right _ h)) hown hK hP 1 rfl rfl 2 (by decide) (hts (.fieldLink RX11 367 "TalePlay$World" "standards" "[I") (by decide +kernel)) (fun _ h9 => h9) rfl dX11_digestKinds_54 ?_
  refine lv_iload hx hb dX11_digestKinds_57 (lv_at hl 2 rfl) ?_
  refine lv_bipush (v := 6) hx hb dX11_digestKinds_59 (by decide) ?_
  refine lv_imul hx hb dX11_digestKinds_61 ?_
  refine tp_i (y := 0) (by decide) ?_
  refine lv_iload hx hb dX11_digestKinds_62 (lv_at hl 0 rfl) ?_
  refine lv_iadd hx hb dX11_digestKinds_64 ?_
  refine tp_i (y := 2) (by decide) ?_
  refine va_iald hx hb hK hP 3 1 rfl rfl (show vp_in 2 144 from by unfold vp_in; decide) dX11_digestKinds_65 ?_
  refine tp_i (y := (-9)) (hfd _ (by decide)) ?_
  refine lv_i2l (v := (-9)) hx hb dX11_digestKinds_66 (by decide) ?_
  refine lv_ladd hx hb dX11_digestKinds_67 ?_
  refine tp_l (y := 15422801) (by decide) ?_
  refine lv_lstore_n (lv' := [(3, .long 15422801), (6, .int 2), (5, .int 0), (0, .ref x0), (1, .long 17)]) hx hb dX11_digestKinds_68 rfl hl (by decide) rfl (fun ls hl => ?_)
  refine lv_iinc (v := 3) (lv' := [(6, .int 3), (3, .long 15422801), (5, .int 0), (0, .ref x0), (1, .long 17)]) hx hb dX11_digestKinds_69 hl (k := 1) rfl (by decide) (by decide) rfl (fun ls hl => ?_)
  refine lv_goto (tgt := 38) hx hb dX11_digestKinds_72 (by decide) ?_
  refine lv_iload hx hb dX11_digestKinds_38 (lv_at hl 0 rfl) ?_
  refine lv_bipush (v := 6) hx hb dX11_digestKinds_40 (by decide) ?_
  refine lv_icmp_ge (tgt := 75) hx hb dX11_digestKinds_42 (by decide) (fun q9 => absurd q9 (by decide)) (fun _ => ?_)
  refine lv_ldc2 (v := 31) hx hb hown (hts (.constantLong RX11 362 (31)) (by decide +kernel)) dX11_digestKinds_45 ?_
  refine lv_lload_n hx hb dX11_digestKinds_48 rfl (lv_at hl 1 rfl) ?_
  refine lv_lmul hx hb dX11_digestKinds_49 ?_
  refine tp_l (y := 478106831) (by decide) ?_
  refine lv_aload_n hx hb dX11_digestKinds_50 rfl (lv_at hl 3 rfl) ?_
  refine va_get (D := D) (ci := 11) (v := .ref wo) (C := RX11) (T := TX11) (N := 11) hx hb hts (fun _ h => List.mem_cons_of_mem _ (List.mem_append_left _ (List.mem_append_right _ h))) hown hK hP 0 rfl rfl 0 (by decide) (hts (.fieldLink RX11 10 "TalePlay" "world" "LTalePlay$World;") (by decide +kernel)) (fun _ h9 => h9) rfl dX11_digestKinds_51 ?_
  refine va_get (D := D) (ci := 10) (v := .ref wd) (C := RX10) (T := TX10) (N := 7) hx hb hts (fun _ h => List.mem_cons_of_mem _ (List.mem_append_right _ h)) hown hK hP 1 rfl rfl 2 (by decide) (hts (.fieldLink RX11 367 "TalePlay$World" "standards" "[I") (by decide +kernel)) (fun _ h9 => h9) rfl dX11_digestKinds_54 ?_
  refine lv_iload hx hb dX11_digestKinds_57 (lv_at hl 2 rfl) ?_
  refine lv_bipush (v := 6) hx hb dX11_digestKinds_59 (by decide) ?_
  refine lv_imul hx hb dX11_digestKinds_61 ?_
  refine tp_i (y := 0) (by decide) ?_
  refine lv_iload hx hb dX11_digestKinds_62 (lv_at hl 0 rfl) ?_
  refine lv_iadd hx hb dX11_digestKinds_64 ?_
  refine tp_i (y := 3) (by decide) ?_
  refine va_iald hx hb hK hP 3 1 rfl rfl (show vp_in 3 144 from by unfold vp_in; decide) dX11_digestKinds_65 ?_
  refine tp_i (y := (-9)) (hfd _ (by decide)) ?_
  refine lv_i2l (v := (-9)) hx hb dX11_digestKinds_66 (by decide) ?_
  refine lv_ladd hx hb dX11_digestKinds_67 ?_
  refine tp_l (y := 478106822) (by decide) ?_
  refine lv_lstore_n (lv' := [(3, .long 478106822), (6, .int 3), (5, .int 0), (0, .ref x0), (1, .long 17)]) hx hb dX11_digestKinds_68 rfl hl (by decide) rfl (fun ls hl => ?_)
  refine lv_iinc (v := 4) (lv' := [(6, .int 4), (3, .long 478106822), (5, .int 0), (0, .ref x0), (1, .long 17)]) hx hb dX11_digestKinds_69 hl (k := 1) rfl (by decide) (by decide) rfl (fun ls hl => ?_)
  refine lv_goto (tgt := 38) hx hb dX11_digestKinds_72 (by decide) ?_
  refine lv_iload hx hb dX11_digestKinds_38 (lv_at hl 0 rfl) ?_
  refine lv_bipush (v := 6) hx hb dX11_digestKinds_40 (by decide) ?_
  refine lv_icmp_ge (tgt := 75) hx hb dX11_digestKinds_42 (by decide) (fun q9 => absurd q9 (by decide)) (fun _ => ?_)
  refine lv_ldc2 (v := 31) hx hb hown (hts (.constantLong RX11 362 (31)) (by decide +kernel)) dX11_digestKinds_45 ?_
  refine lv_lload_n hx hb dX11_digestKinds_48 rfl (lv_at hl 1 rfl) ?_
  refine lv_lmul hx hb dX11_digestKinds_49 ?_
  refine tp_l (y := 14821311482) (by decide) ?_
  refine lv_aload_n hx hb dX11_digestKinds_50 rfl (lv_at hl 3 rfl) ?_
  refine va_get (D := D) (ci := 11) (v := .ref wo) (C := RX11) (T := TX11) (N := 11) hx hb hts (fun _ h => List.mem_cons_of_mem _ (List.mem_append_left _ (List.mem_append_right _ h))) hown hK hP 0 rfl rfl 0 (by decide) (hts (.fieldLink RX11 10 "TalePlay" "world" "LTalePlay$World;") (by decide +kernel)) (fun _ h9 => h9) rfl dX11_digestKinds_51 ?_
  refine va_get (D := D) (ci := 10) (v := .ref wd) (C := RX10) (T := TX10) (N := 7) hx hb hts (fun _ h => List.mem_cons_of_mem _ (List.mem_append_right _ h)) hown hK hP 1 rfl rfl 2 (by decide) (hts (.fieldLink RX11 367 "TalePlay$World" "standards" "[I") (by decide +kernel)) (fun _ h9 => h9) rfl dX11_digestKinds_54 ?_
  refine lv_iload hx hb dX11_digestKinds_57 (lv_at hl 2 rfl) ?_
  refine lv_bipush (v := 6) hx hb dX11_digestKinds_59 (by decide) ?_
  refine lv_imul hx hb dX11_digestKinds_61 ?_
  refine tp_i (y := 0) (by decide) ?_
  refine lv_iload hx hb dX11_digestKinds_62 (lv_at hl 0 rfl) ?_
  refine lv_iadd hx hb dX11_digestKinds_64 ?_
  refine tp_i (y := 4) (by decide) ?_
  refine va_iald hx hb hK hP 3 1 rfl rfl (show vp_in 4 144 from by unfold vp_in; decide) dX11_digestKinds_65 ?_
  refine tp_i (y := (-9)) (hfd _ (by decide)) ?_
  refine lv_i2l (v := (-9)) hx hb dX11_digestKinds_66 (by decide) ?_
  refine lv_ladd hx hb dX11_digestKinds_67 ?_
  refine tp_l (y := 14821311473) (by decide) ?_
  refine lv_lstore_n (lv' := [(3, .long 14821311473), (6, .int 4), (5, .int 0), (0, .ref x0), (1, .long 17)]) hx hb dX11_digestKinds_68 rfl hl (by decide) rfl (fun ls hl => ?_)
  refine lv_iinc (v := 5) (lv' := [(6, .int 5), (3, .long 14821311473), (5, .int 0), (0, .ref x0), (1, .long 17)]) hx hb dX11_digestKinds_69 hl (k := 1) rfl (by decide) (by decide) rfl (fun ls hl => ?_)
  refine lv_goto (tgt := 38) hx hb dX11_digestKinds_72 (by decide) ?_
  refine lv_iload hx hb dX11_digestKinds_38 (lv_at hl 0 rfl) ?_
  refine lv_bipush (v := 6) hx hb dX11_digestKinds_40 (by decide) ?_
  refine lv_icmp_ge (tgt := 75) hx hb dX11_digestKinds_42 (by decide) (fun q9 => absurd q9 (by decide)) (fun _ => ?_)
  refine lv_ldc2 (v := 31) hx hb hown (hts (.constantLong RX11 362 (31)) (by decide +kernel)) dX11_digestKinds_45 ?_
  refine lv_lload_n hx hb dX11_digestKinds_48 rfl (lv_at hl 1 rfl) ?_
  refine lv_lmul hx hb dX11_digestKinds_49 ?_
  refine tp_l (y := 459460655663) (by decide) ?_
  refine lv_aload_n hx hb dX11_digestKinds_50 rfl (lv_at hl 3 rfl) ?_
  refine va_get (D := D) (ci := 11) (v := .ref wo) (C := RX11) (T := TX11) (N := 11) hx hb hts (fun _ h => List.mem_cons_of_mem _ (List.mem_append_left _ (List.mem_append_right _ h))) hown hK hP 0 rfl rfl 0 (by decide) (hts (.fieldLink RX11 10 "TalePlay" "world" "LTalePlay$World;") (by decide +kernel)) (fun _ h9 => h9) rfl dX11_digestKinds_51 ?_
  refine va_get (D := D) (ci := 10) (v := .ref wd) (C := RX10) (T := TX10) (N := 7) hx hb hts (fun _ h => List.mem_cons_of_mem _ (List.mem_append_right _ h)) hown hK hP 1 rfl rfl 2 (by decide) (hts (.fieldLink RX11 367 "TalePlay$World" "standards" "[I") (by decide +kernel)) (fun _ h9 => h9) rfl dX11_digestKinds_54 ?_
  refine lv_iload hx hb dX11_digestKinds_57 (lv_at hl 2 rfl) ?_
  refine lv_bipush (v := 6) hx hb dX11_digestKinds_59 (by decide) ?_
  refine lv_imul hx hb dX11_digestKinds_61 ?_
  refine tp_i (y := 0) (by decide) ?_
  refine lv_iload hx hb dX11_digestKinds_62 (lv_at hl 0 rfl) ?_
  refine lv_iadd hx hb dX11_digestKinds_64 ?_
  refine tp_i (y := 5) (by decide) ?_
  refine va_iald hx hb hK hP 3 1 rfl rfl (show vp_in 5 144 from by unfold vp_in; decide) dX11_digestKinds_65 ?_
  refine tp_i (y := (-9)) (hfd _ (by decide)) ?_
  refine lv_i2l (v := (-9)) hx hb dX11_digestKinds_66 (by decide) ?_
  refine lv_ladd hx hb dX11_digestKinds_67 ?_
  refine tp_l (y := 459460655654) (by decide) ?_
  refine lv_lstore_n (lv' := [(3, .long 459460655654), (6, .int 5), (5, .int 0), (0, .ref x0), (1, .long 17)]) hx hb dX11_digestKinds_68 rfl hl (by decide) rfl (fun ls hl => ?_)
  refine lv_iinc (v := 6) (lv' := [(6, .int 6), (3, .long 459460655654), (5, .int 0), (0, .ref x0), (1, .long 17)]) hx hb dX11_digestKinds_69 hl (k := 1) rfl (by decide) (by decide) rfl (fun ls hl => ?_)
  refine lv_goto (tgt := 38) hx hb dX11_digestKinds_72 (by decide) ?_
  refine lv_iload hx hb dX11_digestKinds_38 (lv_at hl 0 rfl) ?_
  refine lv_bipush (v := 6) hx hb dX11_digestKinds_40 (by decide) ?_
  refine lv_icmp_ge (tgt := 75) hx hb dX11_digestKinds_42 (by decide) (fun _ => ?_) (fun q9 => absurd (by decide) q9)
  refine lv_iinc (v := 1) (lv' := [(5, .int 1), (6, .int 6), (3, .long 459460655654), (0, .ref x0), (1, .long 17)]) hx hb dX11_digestKinds_75 hl (k := 2) rfl (by decide) (by decide) rfl (fun ls hl => ?_)
  refine lv_goto (tgt := 5) hx hb dX11_digestKinds_78 (by decide) ?_
  refine lv_iload hx hb dX11_digestKinds_5 (lv_at hl 0 rfl) ?_
  refine lv_aload_n hx hb dX11_digestKinds_7 rfl (lv_at hl 3 rfl) ?_
  refine va_get (D := D) (ci := 11) (v := .ref wo) (C := RX11) (T := TX11) (N := 11) hx hb hts (fun _ h => List.mem_cons_of_mem _ (List.mem_append_left _ (List.mem_append_right _ h))) hown hK hP 0 rfl rfl 0 (by decide) (hts (.fieldLink RX11 10 "TalePlay" "world" "LTalePlay$World;") (by decide +kernel)) (fun _ h9 => h9) rfl dX11_digestKinds_8 ?_
  refine va_get (D := D) (ci := 10) (v := .int 6) (C := RX10) (T := TX10) (N := 7) hx hb hts (fun _ h => List.mem_cons_of_mem _ (List.mem_append_right _ h)) hown hK hP 1 rfl rfl 5 (by decide) (hts (.fieldLink RX11 84 "TalePlay$World" "kinds" "I") (by decide +kernel)) (fun _ h9 => h9) rfl dX11_digestKinds_11 ?_
  refine lv_icmp_ge (tgt := 81) hx hb dX11_digestKinds_14 (by decide) (fun q9 => absurd q9 (by decide)) (fun _ => ?_)
  refine lv_ldc2 (v := 31) hx hb hown (hts (.constantLong RX11 362 (31)) (by decide +kernel)) dX11_digestKinds_17 ?_
  refine lv_lload_n hx hb dX11_digestKinds_20 rfl (lv_at hl 2 rfl) ?_
  refine lv_lmul hx hb dX11_digestKinds_21 ?_
  refine tp_l (y := 14243280325274) (by decide) ?_
  refine lv_aload_n hx hb dX11_digestKinds_22 rfl (lv_at hl 3 rfl) ?_
  refine va_get (D := D) (ci := 11) (v := .ref wo) (C := RX11) (T := TX11) (N := 11) hx hb hts (fun _ h => List.mem_cons_of_mem _ (List.mem_append_left _ (List.mem_append_right _ h))) hown hK hP 0 rfl rfl 0 (by decide) (hts (.fieldLink RX11 10 "TalePlay" "world" "LTalePlay$World;") (by decide +kernel)) (fun _ h9 => h9) rfl dX11_digestKinds_23 ?_
  refine va_get (D := D) (ci := 10) (v := .ref wp) (C := RX10) (T := TX10) (N := 7) hx hb hts (fun _ h => List.mem_cons_of_mem _ (List.mem_append_right _ h)) hown hK hP 1 rfl rfl 0 (by decide) (hts (.fieldLink RX11 364 "TalePlay$World" "parents" "[I") (by decide +kernel)) (fun _ h9 => h9) rfl dX11_digestKinds_26 ?_
  refine lv_iload hx hb dX11_digestKinds_29 (lv_at hl 0 rfl) ?_
  refine va_iald hx hb hK hP 2 0 rfl rfl (show vp_in 1 24 from by unfold vp_in; decide) dX11_digestKinds_31 ?_
  refine tp_i (y := (-9)) hp1 ?_
  refine lv_i2l (v := (-9)) hx hb dX11_digestKinds_32 (by decide) ?_
  refine lv_ladd hx hb dX11_digestKinds_33 ?_
  refine tp_l (y := 14243280325265) (by decide) ?_
  refine lv_lstore_n (lv' := [(3, .long 14243280325265), (5, .int 1), (6, .int 6), (0, .ref x0), (1, .long 17)]) hx hb dX11_digestKinds_34 rfl hl (by decide) rfl (fun ls hl => ?_)
  refine lv_iconst (v := 0) hx hb dX11_digestKinds_35 (by decide) ?_
  refine lv_istore (lv' := [(6, .int 0), (3, .long 14243280325265), (5, .int 1), (0, .ref x0), (1, .long 17)]) hx hb dX11_digestKinds_36 hl (by decide) rfl (fun ls hl => ?_)
  refine lv_iload hx hb dX11_digestKinds_38 (lv_at hl 0 rfl) ?_
  refine lv_bipush (v := 6) hx hb dX11_digestKinds_40 (by decide) ?_
  refine lv_icmp_ge (tgt := 75) hx hb dX11_digestKinds_42 (by decide) (fun q9 => absurd q9 (by decide)) (fun _ => ?_)
  refine lv_ldc2 (v := 31) hx hb hown (hts (.constantLong RX11 362 (31)) (by decide +kernel)) dX11_digestKinds_45 ?_
  refine lv_lload_n hx hb dX11_digestKinds_48 rfl (lv_at hl 1 rfl) ?_
  refine lv_lmul hx hb dX11_digestKinds_49 ?_
  refine tp_l (y := 441541690083215) (by decide) ?_
  refine lv_aload_n hx hb dX11_digestKinds_50 rfl (lv_at hl 3 rfl) ?_
  refine va_get (D := D) (ci := 11) (v := .ref wo) (C := RX11) (T := TX11) (N := 11) hx hb hts (fun _ h => List.mem_cons_of_mem _ (List.mem_append_left _ (List.mem_append_right _ h))) hown hK hP 0 rfl rfl 0 (by decide) (hts (.fieldLink RX11 10 "TalePlay" "world" "LTalePlay$World;") (by decide +kernel)) (fun _ h9 => h9) rfl dX11_digestKinds_51 ?_
  refine va_get (D := D) (ci := 10) (v := .ref wd) (C := RX10) (T := TX10) (N := 7) hx hb hts (fun _ h => List.mem_cons_of_mem _ (List.mem_append_right _ h)) hown hK hP 1 rfl rfl 2 (by decide) (hts (.fieldLink RX11 367 "TalePlay$World" "standards" "[I") (by decide +kernel)) (fun _ h9 => h9) rfl dX11_digestKinds_54 ?_
  refine lv_iload hx hb dX11_digestKinds_57 (lv_at hl 2 rfl) ?_
  refine lv_bipush (v := 6) hx hb dX11_digestKinds_59 (by decide) ?_
  refine lv_imul hx hb dX11_digestKinds_61 ?_
  refine tp_i (y := 6) (by decide) ?_
  refine lv_iload hx hb dX11_digestKinds_62 (lv_at hl 0 rfl) ?_
  refine lv_iadd hx hb dX11_digestKinds_64 ?_
  refine tp_i (y := 6) (by decide) ?_
  refine va_iald hx hb hK hP 3 1 rfl rfl (show vp_in 6 144 from by unfold vp_in; decide) dX11_digestKinds_65 ?_
  refine tp_i (y := (-9)) (hfd _ (by decide)) ?_
  refine lv_i2l (v := (-9)) hx hb dX11_digestKinds_66 (by decide) ?_
  refine lv_ladd hx hb dX11_digestKinds_67 ?_
  refine tp_l (y := 441541690083206) (by decide) ?_
  refine lv_lstore_n (lv' := [(3, .long 441541690083206), (6, .int 0), (5, .int 1), (0, .ref x0), (1, .long 17)]) hx hb dX11_digestKinds_68 rfl hl (by decide) rfl (fun ls hl => ?_)
  refine lv_iinc (v := 1) (lv' := [(6, .int 1), (3, .long 441541690083206), (5, .int 1), (0, .ref x0), (1, .long 17)]) hx hb dX11_digestKinds_69 hl (k := 1) rfl (by decide) (by decide) rfl (fun ls hl => ?_)
  refine lv_goto (tgt := 38) hx hb dX11_digestKinds_72 (by decide) ?_
  refine lv_iload hx hb dX11_digestKinds_38 (lv_at hl 0 rfl) ?_
  refine lv_bipush (v := 6) hx hb dX11_digestKinds_40 (by decide) ?_
  refine lv_icmp_ge (tgt := 75) hx hb dX11_digestKinds_42 (by decide) (fun q9 => absurd q9 (by decide)) (fun _ => ?_)
  refine lv_ldc2 (v := 31) hx hb hown (hts (.constantLong RX11 362 (31)) (by decide +kernel)) dX11_digestKinds_45 ?_
  refine lv_lload_n hx hb dX11_digestKinds_48 rfl (lv_at hl 1 rfl) ?_
  refine lv_lmul hx hb dX11_digestKinds_49 ?_
  refine tp_l (y := 13687792392579386) (by decide) ?_
  refine lv_aload_n hx hb dX11_digestKinds_50 rfl (lv_at hl 3 rfl) ?_
  refine va_get (D := D) (ci := 11) (v := .ref wo) (C := RX11) (T := TX11) (N := 11) hx hb hts (fun _ h => List.mem_cons_of_mem _ (List.mem_append_left _ (List.mem_append_right _ h))) hown hK hP 0 rfl rfl 0 (by decide) (hts (.fieldLink RX11 10 "TalePlay" "world" "LTalePlay$World;") (by decide +kernel)) (fun _ h9 => h9) rfl dX11_digestKinds_51 ?_
  refine va_get (D := D) (ci := 10) (v := .ref wd) (C := RX10) (T := TX10) (N := 7) hx hb hts (fun _ h => List.mem_cons_of_mem _ (List.mem_append_right _ h)) hown hK hP 1 rfl rfl 2 (by decide) (hts (.fieldLink RX11 367 "TalePlay$World" "standards" "[I") (by decide +kernel)) (fun _ h9 => h9) rfl dX11_digestKinds_54 ?_
  refine lv_iload hx hb dX11_digestKinds_57 (lv_at hl 2 rfl) ?_
  refine lv_bipush (v := 6) hx hb dX11_digestKinds_59 (by decide) ?_
  refine lv_imul hx hb dX11_digestKinds_61 ?_
  refine tp_i (y := 6) (by decide) ?_
  refine lv_iload hx hb dX11_digestKinds_62 (lv_at hl 0 rfl) ?_
  refine lv_iadd hx hb dX11_digestKinds_64 ?_
  refine tp_i (y := 7) (by decide) ?_
  refine va_iald hx hb hK hP 3 1 rfl rfl (show vp_in 7 144 from by unfold vp_in; decide) dX11_digestKinds_65 ?_
  refine tp_i (y := (-9)) (hfd _ (by decide)) ?_
  refine lv_i2l (v := (-9)) hx hb dX11_digestKinds_66 (by decide) ?_
  refine lv_ladd hx hb dX11_digestKinds_67 ?_
  refine tp_l (y := 13687792392579377) (by decide) ?_
  refine lv_lstore_n (lv' := [(3, .long 13687792392579377), (6, .int 1), (5, .int 1), (0, .ref x0), (1, .long 17)]) hx hb dX11_digestKinds_68 rfl hl (by decide) rfl (fun ls hl => ?_)
  refine lv_iinc (v := 2) (lv' := [(6, .int 2), (3, .long 13687792392579377), (5, .int 1), (0, .ref x0), (1, .long 17)]) hx hb dX11_digestKinds_69 hl (k := 1) rfl (by decide) (by decide) rfl (fun ls hl => ?_)
  refine lv_goto (tgt := 38) hx hb dX11_digestKinds_72 (by decide) ?_
  refine lv_iload hx hb dX11_digestKinds_38 (lv_at hl 0 rfl) ?_
  refine lv_bipush (v := 6) hx hb dX11_digestKinds_40 (by decide) ?_
  refine lv_icmp_ge (tgt := 75) hx hb dX11_digestKinds_42 (by decide) (fun q9 => absurd q9 (by decide)) (fun _ => ?_)
  refine lv_ldc2 (v := 31) hx hb hown (hts (.constantLong RX11 362 (31)) (by decide +kernel)) dX11_digestKinds_45 ?_
  refine lv_lload_n hx hb dX11_digestKinds_48 rfl (lv_at hl 1 rfl) ?_
  refine lv_lmul hx hb dX11_digestKinds_49 ?_
  refine tp_l (y := 424321564169960687) (by decide) ?_
  refine lv_aload_n hx hb dX11_digestKinds_50 rfl (lv_at hl 3 rfl) ?_
  refine va_get (D := D) (ci := 11) (v := .ref wo) (C := RX11) (T := TX11) (N := 11) hx hb hts (fun _ h => List.mem_cons_of_mem _ (List.mem_append_left _ (List.mem_append_right _ h))) hown hK hP 0 rfl rfl 0 (by decide) (hts (.fieldLink RX11 10 "TalePlay" "world" "LTalePlay$World;") (by decide +kernel)) (fun _ h9 => h9) rfl dX11_digestKinds_51 ?_
  refine va_get (D := D) (ci := 10) (v := .ref wd) (C := RX10) (T := TX10) (N := 7) hx hb hts (fun _ h => List.mem_cons_of_mem _ (List.mem_append_right _ h)) hown hK hP 1 rfl rfl 2 (by decide) (hts (.fieldLink RX11 367 "TalePlay$World" "standards" "[I") (by decide +kernel)) (fun _ h9 => h9) rfl dX11_digestKinds_54 ?_
  refine lv_iload hx hb dX11_digestKinds_57 (lv_at hl 2 rfl) ?_
  refine lv_bipush (v := 6) hx hb dX11_digestKinds_59 (by decide) ?_
  refine lv_imul hx hb dX11_digestKinds_61 ?_
  refine tp_i (y := 6) (by decide) ?_
  refine lv_iload hx hb dX11_digestKinds_62 (lv_at hl 0 rfl) ?_
  refine lv_iadd hx hb dX11_digestKinds_64 ?_
  refine tp_i (y := 8) (by decide) ?_
  refine va_iald hx hb hK hP 3 1 rfl rfl (show vp_in 8 144 from by unfold vp_in; decide) dX11_digestKinds_65 ?_
  refine tp_i (y := (-9)) (hfd _ (by decide)) ?_
  refine lv_i2l (v := (-9)) hx hb dX11_digestKinds_66 (by decide) ?_
  refine lv_ladd hx hb dX11_digestKinds_67 ?_
  refine tp_l (y := 424321564169960678) (by decide) ?_
  refine lv_lstore_n (lv' := [(3, .long 424321564169960678), (6, .int 2), (5, .int 1), (0, .ref x0), (1, .long 17)]) hx hb dX11_digestKinds_68 rfl hl (by decide) rfl (fun ls hl => ?_)
  refine lv_iinc (v := 3) (lv' := [(6, .int 3), (3, .long 424321564169960678), (5, .int 1), (0, .ref x0), (1, .long 17)]) hx hb dX11_digestKinds_69 hl (k := 1) rfl (by decide) (by decide) rfl (fun ls hl => ?_)
  refine lv_goto (tgt := 38) hx hb dX11_digestKinds_72 (by decide) ?_
  refine lv_iload hx hb dX11_digestKinds_38 (lv_at hl 0 rfl) ?_
  refine lv_bipush (v := 6) hx hb dX11_digestKinds_40 (by decide) ?_
  refine lv_icmp_ge (tgt := 75) hx hb dX11_digestKinds_42 (by decide) (fun q9 => absurd q9 (by decide)) (fun _ => ?_)
  refine lv_ldc2 (v := 31) hx hb hown (hts (.constantLong RX11 362 (31)) (by decide +kernel)) dX11_digestKinds_45 ?_
  refine lv_lload_n hx hb dX11_digestKinds_48 rfl (lv_at hl 1 rfl) ?_
  refine lv_lmul hx hb dX11_digestKinds_49 ?_
  refine tp_l (y := (-5292775584440770598)) (by decide) ?_
  refine lv_aload_n hx hb dX11_digestKinds_50 rfl (lv_at hl 3 rfl) ?_
  refine va_get (D := D) (ci := 11) (v := .ref wo) (C := RX11) (T := TX11) (N := 11) hx hb hts (fun _ h => List.mem_cons_of_mem _ (List.mem_append_left _ (List.mem_append_right _ h))) hown hK hP 0 rfl rfl 0 (by decide) (hts (.fieldLink RX11 10 "TalePlay" "world" "LTalePlay$World;") (by decide +kernel)) (fun _ h9 => h9) rfl dX11_digestKinds_51 ?_
  refine va_get (D := D) (ci := 10) (v := .ref wd) (C := RX10) (T := TX10) (N := 7) hx hb hts (fun _ h => List.mem_cons_of_mem _ (List.mem_append_right _ h)) hown hK hP 1 rfl rfl 2 (by decide) (hts (.fieldLink RX11 367 "TalePlay$World" "standards" "[I") (by decide +kernel)) (fun _ h9 => h9) rfl dX11_digestKinds_54 ?_
  refine lv_iload hx hb dX11_digestKinds_57 (lv_at hl 2 rfl) ?_
  refine lv_bipush (v := 6) hx hb dX11_digestKinds_59 (by decide) ?_
  refine lv_imul hx hb dX11_digestKinds_61 ?_
  refine tp_i (y := 6) (by decide) ?_
  refine lv_iload hx hb dX11_digestKinds_62 (lv_at hl 0 rfl) ?_
  refine lv_iadd hx hb dX11_digestKinds_64 ?_
  refine tp_i (y := 9) (by decide) ?_
  refine va_iald hx hb hK hP 3 1 rfl rfl (show vp_in 9 144 from by unfold vp_in; decide) dX11_digestKinds_65 ?_
  refine tp_i (y := (-9)) (hfd _ (by decide)) ?_
  refine lv_i2l (v := (-9)) hx hb dX11_digestKinds_66 (by decide) ?_
  refine lv_ladd hx hb dX11_digestKinds_67 ?_
  refine tp_l (y := (-5292775584440770607)) (by decide) ?_
  refine lv_lstore_n (lv' := [(3, .long (-5292775584440770607)), (6, .int 3), (5, .int 1), (0, .ref x0), (1, .long 17)]) hx hb dX11_digestKinds_68 rfl hl (by decide) rfl (fun ls hl => ?_)
  refine lv_iinc (v := 4) (lv' := [(6, .int 4), (3, .long (-5292775584440770607)), (5, .int 1), (0, .ref x0), (1, .long 17)]) hx hb dX11_digestKinds_69 hl (k := 1) rfl (by decide) (by decide) rfl (fun ls hl => ?_)
  refine lv_goto (tgt := 38) hx hb dX11_digestKinds_72 (by decide) ?_
  refine lv_iload hx hb dX11_digestKinds_38 (lv_at hl 0 rfl) ?_
  refine lv_bipush (v := 6) hx hb dX11_digestKinds_40 (by decide) ?_
  refine lv_icmp_ge (tgt := 75) hx hb dX11_digestKinds_42 (by decide) (fun q9 => absurd q9 (by decide)) (fun _ => ?_)
  refine lv_ldc2 (v := 31) hx hb hown (hts (.constantLong RX11 362 (31)) (by decide +kernel)) dX11_digestKinds_45 ?_
  refine lv_lload_n hx hb dX11_digestKinds_48 rfl (lv_at hl 1 rfl) ?_
  refine lv_lmul hx hb dX11_digestKinds_49 ?_
  refine tp_l (y := 1944653545722075727) (by decide) ?_
  refine lv_aload_n hx hb dX11_digestKinds_50 rfl (lv_at hl 3 rfl) ?_
  refine va_get (D := D) (ci := 11) (v := .ref wo) (C := RX11) (T := TX11) (N := 11) hx hb hts (fun _ h => List.mem_cons_of_mem _ (List.mem_append_left _ (List.mem_append_right _ h))) hown hK hP 0 rfl rfl 0 (by decide) (hts (.fieldLink RX11 10 "TalePlay" "world" "LTalePlay$World;") (by decide +kernel)) (fun _ h9 => h9) rfl dX11_digestKinds_51 ?_
  refine va_get (D := D) (ci := 10) (v := .ref wd) (C := RX10) (T := TX10) (N := 7) hx hb hts (fun _ h => List.mem_cons_of_mem _ (List.mem_append_right _ h)) hown hK hP 1 rfl rfl 2 (by decide) (hts (.fieldLink RX11 367 "TalePlay$World" "standards" "[I") (by decide +kernel)) (fun _ h9 => h9) rfl dX11_digestKinds_54 ?_
  refine lv_iload hx hb dX11_digestKinds_57 (lv_at hl 2 rfl) ?_
  refine lv_bipush (v := 6) hx hb dX11_digestKinds_59 (by decide) ?_
  refine lv_imul hx hb dX11_digestKinds_61 ?_
  refine tp_i (y := 6) (by decide) ?_
  refine lv_iload hx hb dX11_digestKinds_62 (lv_at hl 0 rfl) ?_
  refine lv_iadd hx hb dX11_digestKinds_64 ?_
  refine tp_i (y := 10) (by decide) ?_
  refine va_iald hx hb hK hP 3 1 rfl rfl (show vp_in 10 144 from by unfold vp_in; decide) dX11_digestKinds_65 ?_
  refine tp_i (y := (-9)) (hfd _ (by decide)) ?_
  refine lv_i2l (v := (-9)) hx hb dX11_digestKinds_66 (by decide) ?_
  refine lv_ladd hx hb dX11_digestKinds_67 ?_
  refine tp_l (y := 1944653545722075718) (by decide) ?_
  refine lv_lstore_n (lv' := [(3, .long 1944653545722075718), (6, .int 4), (5, .int 1), (0, .ref x0), (1, .long 17)]) hx hb dX11_digestKinds_68 rfl hl (by decide) rfl (fun ls hl => ?_)
  refine lv_iinc (v := 5) (lv' := [(6, .int 5), (3, .long 1944653545722075718), (5, .int 1), (0, .ref x0), (1, .long 17)]) hx hb dX11_digestKinds_69 hl (k := 1) rfl (by decide) (by decide) rfl (fun ls hl => ?_)
  refine lv_goto (tgt := 38) hx hb dX11_digestKinds_72 (by decide) ?_
  refine lv_iload hx hb dX11_digestKinds_38 (lv_at hl 0 rfl) ?_
  refine lv_bipush (v := 6) hx hb dX11_digestKinds_40 (by decide) ?_
  refine lv_icmp_ge (tgt := 75) hx hb dX11_digestKinds_42 (by decide) (fun q9 => absurd q9 (by decide)) (fun _ => ?_)
  refine lv_ldc2 (v := 31) hx hb hown (hts (.constantLong RX11 362 (31)) (by decide +kernel)) dX11_digestKinds_45 ?_
  refine lv_lload_n hx hb dX11_digestKinds_48 rfl (lv_at hl 1 rfl) ?_
  refine lv_lmul hx hb dX11_digestKinds_49 ?_
  refine tp_l (y := 4944027696255692410) (by decide) ?_
  refine lv_aload_n hx hb dX11_digestKinds_50 rfl (lv_at hl 3 rfl) ?_
  refine va_get (D := D) (ci := 11) (v := .ref wo) (C := RX11) (T := TX11) (N := 11) hx hb hts (fun _ h => List.mem_cons_of_mem _ (List.mem_append_left _ (List.mem_append_right _ h))) hown hK hP 0 rfl rfl 0 (by decide) (hts (.fieldLink RX11 10 "TalePlay" "world" "LTalePlay$World;") (by decide +kernel)) (fun _ h9 => h9) rfl dX11_digestKinds_51 ?_
  refine va_get (D := D) (ci := 10) (v := .ref wd) (C := RX10) (T := TX10) (N := 7) hx hb hts (fun _ h => List.mem_cons_of_mem _ (List.mem_append_right _ h)) hown hK hP 1 rfl rfl 2 (by decide) (hts (.fieldLink RX11 367 "TalePlay$World" "standards" "[I") (by decide +kernel)) (fun _ h9 => h9) rfl dX11_digestKinds_54 ?_
  refine lv_iload hx hb dX11_digestKinds_57 (lv_at hl 2 rfl) ?_
  refine lv_bipush (v := 6) hx hb dX11_digestKinds_59 (by decide) ?_
  refine lv_imul hx hb dX11_digestKinds_61 ?_
  refine tp_i (y := 6) (by decide) ?_
  refine lv_iload hx hb dX11_digestKinds_62 (lv_at hl 0 rfl) ?_
  refine lv_iadd hx hb dX11_digestKinds_64 ?_
  refine tp_i (y := 11) (by decide) ?_
  refine va_iald hx hb hK hP 3 1 rfl rfl (show vp_in 11 144 from by unfold vp_in; decide) dX11_digestKinds_65 ?_
  refine tp_i (y := (-9)) (hfd _ (by decide)) ?_
  refine lv_i2l (v := (-9)) hx hb dX11_digestKinds_66 (by decide) ?_
  refine lv_ladd hx hb dX11_digestKinds_67 ?_
  refine tp_l (y := 4944027696255692401) (by decide) ?_
  refine lv_lstore_n (lv' := [(3, .long 4944027696255692401), (6, .int 5), (5, .int 1), (0, .ref x0), (1, .long 17)]) hx hb dX11_digestKinds_68 rfl hl (by decide) rfl (fun ls hl => ?_)
  refine lv_iinc (v := 6) (lv' := [(6, .int 6), (3, .long 4944027696255692401), (5, .int 1), (0, .ref x0), (1, .long 17)]) hx hb dX11_digestKinds_69 hl (k := 1) rfl (by decide) (by decide) rfl (fun ls hl => ?_)
  refine lv_goto (tgt := 38) hx hb dX11_digestKinds_72 (by decide) ?_
  refine lv_iload hx hb dX11_digestKinds_38 (lv_at hl 0 rfl) ?_
  refine lv_bipush (v := 6) hx hb dX11_digestKinds_40 (by decide) ?_
  refine lv_icmp_ge (tgt := 75) hx hb dX11_digestKinds_42 (by decide) (fun _ => ?_) (fun q9 => absurd (by decide) q9)
  refine lv_iinc (v := 2) (lv' := [(5, .int 2), (6, .int 6), (3, .long 4944027696255692401), (0, .ref x0), (1, .long 17)]) hx hb dX11_digestKinds_75 hl (k := 2) rfl (by decide) (by decide) rfl (fun ls hl => ?_)
  refine lv_goto (tgt := 5) hx hb dX11_digestKinds_78 (by decide) ?_
  refine lv_iload hx hb dX11_digestKinds_5 (lv_at hl 0 rfl) ?_
  refine lv_aload_n hx hb dX11_digestKinds_7 rfl (lv_at hl 3 rfl) ?_
  refine va_get (D := D) (ci := 11) (v := .ref wo) (C := RX11) (T := TX11) (N := 11) hx hb hts (fun _ h => List.mem_cons_of_mem _ (List.mem_append_left _ (List.mem_append_right _ h))) hown hK hP 0 rfl rfl 0 (by decide) (hts (.fieldLink RX11 10 "TalePlay" "world" "LTalePlay$World;") (by decide +kernel)) (fun _ h9 => h9) rfl dX11_digestKinds_8 ?_
  refine va_get (D := D) (ci := 10) (v := .int 6) (C := RX10) (T := TX10) (N := 7) hx hb hts (fun _ h => List.mem_cons_of_mem _ (List.mem_append_right _ h)) hown hK hP 1 rfl rfl 5 (by decide) (hts (.fieldLink RX11 84 "TalePlay$World" "kinds" "I") (by decide +kernel)) (fun _ h9 => h9) rfl dX11_digestKinds_11 ?_
  refine lv_icmp_ge (tgt := 81) hx hb dX11_digestKinds_14 (by decide) (fun q9 => absurd q9 (by decide)) (fun _ => ?_)
  refine lv_ldc2 (v := 31) hx hb hown (hts (.constantLong RX11 362 (31)) (by decide +kernel)) dX11_digestKinds_17 ?_
  refine lv_lload_n hx hb dX11_digestKinds_20 rfl (lv_at hl 2 rfl) ?_
  refine lv_lmul hx hb dX11_digestKinds_21 ?_
  refine tp_l (y := 5690905994250051503) (by decide) ?_
  refine lv_aload_n hx hb dX11_digestKinds_22 rfl (lv_at hl 3 rfl) ?_
  refine va_get (D := D) (ci := 11) (v := .ref wo) (C := RX11) (T := TX11) (N := 11) hx hb hts (fun _ h => List.mem_cons_of_mem _ (List.mem_append_left _ (List.mem_append_right _ h))) hown hK hP 0 rfl rfl 0 (by decide) (hts (.fieldLink RX11 10 "TalePlay" "world" "LTalePlay$World;") (by decide +kernel)) (fun _ h9 => h9) rfl dX11_digestKinds_23 ?_
  refine va_get (D := D) (ci := 10) (v := .ref wp) (C := RX10) (T := TX10) (N := 7) hx hb hts (fun _ h => List.mem_cons_of_mem _ (List.mem_append_right _ h)) hown hK hP 1 rfl rfl 0 (by decide) (hts (.fieldLink RX11 364 "TalePlay$World" "parents" "[I") (by decide +kernel)) (fun _ h9 => h9) rfl dX11_digestKinds_26 ?_
  refine lv_iload hx hb dX11_digestKinds_29 (lv_at hl 0 rfl) ?_
  refine va_iald hx hb hK hP 2 0 rfl rfl (show vp_in 2 24 from by unfold vp_in; decide) dX11_digestKinds_31 ?_
  refine tp_i (y := 1) hp2 ?_
  refine lv_i2l (v := 1) hx hb dX11_digestKinds_32 (by decide) ?_
  refine lv_ladd hx hb dX11_digestKinds_33 ?_
  refine tp_l (y := 5690905994250051504) (by decide) ?_
  refine lv_lstore_n (lv' := [(3, .long 5690905994250051504), (5, .int 2), (6, .int 6), (0, .ref x0), (1, .long 17)]) hx hb dX11_digestKinds_34 rfl hl (by decide) rfl (fun ls hl => ?_)
  refine lv_iconst (v := 0) hx hb dX11_digestKinds_35 (by decide) ?_
  refine lv_istore (lv' := [(6, .int 0), (3, .long 5690905994250051504), (5, .int 2), (0, .ref x0), (1, .long 17)]) hx hb dX11_digestKinds_36 hl (by decide) rfl (fun ls hl => ?_)
  refine lv_iload hx hb dX11_digestKinds_38 (lv_at hl 0 rfl) ?_
  refine lv_bipush (v := 6) hx hb dX11_digestKinds_40 (by decide) ?_
  refine lv_icmp_ge (tgt := 75) hx hb dX11_digestKinds_42 (by decide) (fun q9 => absurd q9 (by decide)) (fun _ => ?_)
  refine lv_ldc2 (v := 31) hx hb hown (hts (.constantLong RX11 362 (31)) (by decide +kernel)) dX11_digestKinds_45 ?_
  refine lv_lload_n hx hb dX11_digestKinds_48 rfl (lv_at hl 1 rfl) ?_
  refine lv_lmul hx hb dX11_digestKinds_49 ?_
  refine tp_l (y := (-8049354915343919536)) (by decide) ?_
  refine lv_aload_n hx hb dX11_digestKinds_50 rfl (lv_at hl 3 rfl) ?_
  refine va_get (D := D) (ci := 11) (v := .ref wo) (C := RX11) (T := TX11) (N := 11) hx hb hts (fun _ h => List.mem_cons_of_mem _ (List.mem_append_left _ (List.mem_append_right _ h))) hown hK hP 0 rfl rfl 0 (by decide) (hts (.fieldLink RX11 10 "TalePlay" "world" "LTalePlay$World;") (by decide +kernel)) (fun _ h9 => h9) rfl dX11_digestKinds_51 ?_
  refine va_get (D := D) (ci := 10) (v := .ref wd) (C := RX10) (T := TX10) (N := 7) hx hb hts (fun _ h => List.mem_cons_of_mem _ (List.mem_append_right _ h)) hown hK hP 1 rfl rfl 2 (by decide) (hts (.fieldLink RX11 367 "TalePlay$World" "standards" "[I") (by decide +kernel)) (fun _ h9 => h9) rfl dX11_digestKinds_54 ?_
  refine lv_iload hx hb dX11_digestKinds_57 (lv_at hl 2 rfl) ?_
  refine lv_bipush (v := 6) hx hb dX11_digestKinds_59 (by decide) ?_
  refine lv_imul hx hb dX11_digestKinds_61 ?_
  refine tp_i (y := 12) (by decide) ?_
  refine lv_iload hx hb dX11_digestKinds_62 (lv_at hl 0 rfl) ?_
  refine lv_iadd hx hb dX11_digestKinds_64 ?_
  refine tp_i (y := 12) (by decide) ?_
  refine va_iald hx hb hK hP 3 1 rfl rfl (show vp_in 12 144 from by unfold vp_in; decide) dX11_digestKinds_65 ?_
  refine tp_i (y := (-9)) (hfd _ (by decide)) ?_
  refine lv_i2l (v := (-9)) hx hb dX11_digestKinds_66 (by decide) ?_
  refine lv_ladd hx hb dX11_digestKinds_67 ?_
  refine tp_l (y := (-8049354915343919545)) (by decide) ?_
  refine lv_lstore_n (lv' := [(3, .long (-8049354915343919545)), (6, .int 0), (5, .int 2), (0, .ref x0), (1, .long 17)]) hx hb dX11_digestKinds_68 rfl hl (by decide) rfl (fun ls hl => ?_)
  refine lv_iinc (v := 1) (lv' := [(6, .int 1), (3, .long (-8049354915343919545)), (5, .int 2), (0, .ref x0), (1, .long 17)]) hx hb dX11_digestKinds_69 hl (k := 1) rfl (by decide) (by decide) rfl (fun ls hl => ?_)
  refine lv_goto (tgt := 38) hx hb dX11_digestKinds_72 (by decide) ?_
  refine lv_iload hx hb dX11_digestKinds_38 (lv_at hl 0 rfl) ?_
  refine lv_bipush (v := 6) hx hb dX11_digestKinds_40 (by decide) ?_
  refine lv_icmp_ge (tgt := 75) hx hb dX11_digestKinds_42 (by decide) (fun q9 => absurd q9 (by decide)) (fun _ => ?_)
  refine lv_ldc2 (v := 31) hx hb hown (hts (.constantLong RX11 362 (31)) (by decide +kernel)) dX11_digestKinds_45 ?_
  refine lv_lload_n hx hb dX11_digestKinds_48 rfl (lv_at hl 1 rfl) ?_
  refine lv_lmul hx hb dX11_digestKinds_49 ?_
  refine tp_l (y := 8724414656272216729) (by decide) ?_
  refine lv_aload_n hx hb dX11_digestKinds_50 rfl (lv_at hl 3 rfl) ?_
  refine va_get (D := D) (ci := 11) (v := .ref wo) (C := RX11) (T := TX11) (N := 11) hx hb hts (fun _ h => List.mem_cons_of_mem _ (List.mem_append_left _ (List.mem_append_right _ h))) hown hK hP 0 rfl rfl 0 (by decide) (hts (.fieldLink RX11 10 "TalePlay" "world" "LTalePlay$World;") (by decide +kernel)) (fun _ h9 => h9) rfl dX11_digestKinds_51 ?_
  refine va_get (D := D) (ci := 10) (v := .ref wd) (C := RX10) (T := TX10) (N := 7) hx hb hts (fun _ h => List.mem_cons_of_mem _ (List.mem_append_right _ h)) hown hK hP 1 rfl rfl 2 (by decide) (hts (.fieldLink RX11 367 "TalePlay$World" "standards" "[I") (by decide +kernel)) (fun _ h9 => h9) rfl dX11_digestKinds_54 ?_
  refine lv_iload hx hb dX11_digestKinds_57 (lv_at hl 2 rfl) ?_
  refine lv_bipush (v := 6) hx hb dX11_digestKinds_59 (by decide) ?_
  refine lv_imul hx hb dX11_digestKinds_61 ?_
  refine tp_i (y := 12) (by decide) ?_
  refine lv_iload hx hb dX11_digestKinds_62 (lv_at hl 0 rfl) ?_
  refine lv_iadd hx hb dX11_digestKinds_64 ?_
  refine tp_i (y := 13) (by decide) ?_
  refine va_iald hx hb hK hP 3 1 rfl rfl (show vp_in 13 144 from by unfold vp_in; decide) dX11_digestKinds_65 ?_
  refine tp_i (y := (-9)) (hfd _ (by decide)) ?_
  refine lv_i2l (v := (-9)) hx hb dX11_digestKinds_66 (by decide) ?_
  refine lv_ladd hx hb dX11_digestKinds_67 ?_
  refine tp_l (y := 8724414656272216720) (by decide) ?_
  refine lv_lstore_n (lv' := [(3, .long 8724414656272216720), (6, .int 1), (5, .int 2), (0, .ref x0), (1, .long 17)]) hx hb dX11_digestKinds_68 rfl hl (by decide) rfl (fun ls hl => ?_)
  refine lv_iinc (v := 2) (lv' := [(6, .int 2), (3, .long 8724414656272216720), (5, .int 2), (0, .ref x0), (1, .long 17)]) hx hb dX11_digestKinds_69 hl (k := 1) rfl (by decide) (by decide) rfl (fun ls hl => ?_)
  refine lv_goto (tgt := 38) hx hb dX11_digestKinds_72 (by decide) ?_
  refine lv_iload hx hb dX11_digestKinds_38 (lv_at hl 0 rfl) ?_
  refine lv_bipush (v := 6) hx hb dX11_digestKinds_40 (by decide) ?_
  refine lv_icmp_ge (tgt := 75) hx hb dX11_digestKinds_42 (by decide) (fun q9 => absurd q9 (by decide)) (fun _ => ?_)
  refine lv_ldc2 (v := 31) hx hb hown (hts (.constantLong RX11 362 (31)) (by decide +kernel)) dX11_digestKinds_45 ?_
  refine lv_lload_n hx hb dX11_digestKinds_48 rfl (lv_at hl 1 rfl) ?_
  refine lv_lmul hx hb dX11_digestKinds_49 ?_
  refine tp_l (y := (-6244306761204555920)) (by decide) ?_
  refine lv_aload_n hx hb dX11_digestKinds_50 rfl (lv_at hl 3 rfl) ?_
  refine va_get (D := D) (ci := 11) (v := .ref wo) (C := RX11) (T := TX11) (N := 11) hx hb hts (fun _ h => List.mem_cons_of_mem _ (List.mem_append_left _ (List.mem_append_right _ h))) hown hK hP 0 rfl rfl 0 (by decide) (hts (.fieldLink RX11 10 "TalePlay" "world" "LTalePlay$World;") (by decide +kernel)) (fun _ h9 => h9) rfl dX11_digestKinds_51 ?_
  refine va_get (D := D) (ci := 10) (v := .ref wd) (C := RX10) (T := TX10) (N := 7) hx hb hts (fun _ h => List.mem_cons_of_mem _ (List.mem_append_right _ h)) hown hK hP 1 rfl rfl 2 (by decide) (hts (.fieldLink RX11 367 "TalePlay$World" "standards" "[I") (by decide +kernel)) (fun _ h9 => h9) rfl dX11_digestKinds_54 ?_
  refine lv_iload hx hb dX11_digestKinds_57 (lv_at hl 2 rfl) ?_
  refine lv_bipush (v := 6) hx hb dX11_digestKinds_59 (by decide) ?_
  refine lv_imul hx hb dX11_digestKinds_61 ?_
  refine tp_i (y := 12) (by decide) ?_
  refine lv_iload hx hb dX11_digestKinds_62 (lv_at hl 0 rfl) ?_
  refine lv_iadd hx hb dX11_digestKinds_64 ?_
  refine tp_i (y := 14) (by decide) ?_
  refine va_iald hx hb hK hP 3 1 rfl rfl (show vp_in 14 144 from by unfold vp_in; decide) dX11_digestKinds_65 ?_
  refine tp_i (y := (-9)) (hfd _ (by decide)) ?_
  refine lv_i2l (v := (-9)) hx hb dX11_digestKinds_66 (by decide) ?_
  refine lv_ladd hx hb dX11_digestKinds_67 ?_
  refine tp_l (y := (-6244306761204555929)) (by decide) ?_
  refine lv_lstore_n (lv' := [(3, .long (-6244306761204555929)), (6, .int 2), (5, .int 2), (0, .ref x0), (1, .long 17)]) hx hb dX11_digestKinds_68 rfl hl (by decide) rfl (fun ls hl => ?_)
  refine lv_iinc (v := 3) (lv' := [(6, .int 3), (3, .long (-6244306761204555929)), (5, .int 2), (0, .ref x0), (1, .long 17)]) hx hb dX11_digestKinds_69 hl (k := 1) rfl (by decide) (by decide) rfl (fun ls hl => ?_)
  refine lv_goto (tgt := 38) hx hb dX11_digestKinds_72 (by decide) ?_
  refine lv_iload hx hb dX11_digestKinds_38 (lv_at hl 0 rfl) ?_
  refine lv_bipush (v := 6) hx hb dX11_digestKinds_40 (by decide) ?_
  refine lv_icmp_ge (tgt := 75) hx hb dX11_digestKinds_42 (by decide) (fun q9 => absurd q9 (by decide)) (fun _ => ?_)
  refine lv_ldc2 (v := 31) hx hb hown (hts (.constantLong RX11 362 (31)) (by decide +kernel)) dX11_digestKinds_45 ?_
  refine lv_lload_n hx hb dX11_digestKinds_48 rfl (lv_at hl 1 rfl) ?_
  refine lv_lmul hx hb dX11_digestKinds_49 ?_
  refine tp_l (y := (-9106068860245717639)) (by decide) ?_
  refine lv_aload_n hx hb dX11_digestKinds_50 rfl (lv_at hl 3 rfl) ?_
  refine va_get (D := D) (ci := 11) (v := .ref wo) (C := RX11) (T := TX11) (N := 11) hx hb hts (fun _ h => List.mem_cons_of_mem _ (List.mem_append_left _ (List.mem_append_right _ h))) hown hK hP 0 rfl rfl 0 (by decide) (hts (.fieldLink RX11 10 "TalePlay" "world" "LTalePlay$World;") (by decide +kernel)) (fun _ h9 => h9) rfl dX11_digestKinds_51 ?_
  refine va_get (D := D) (ci := 10) (v := .ref wd) (C := RX10) (T := TX10) (N := 7) hx hb hts (fun _ h => List.mem_cons_of_mem _ (List.mem_append_right _ h)) hown hK hP 1 rfl rfl 2 (by decide) (hts (.fieldLink RX11 367 "TalePlay$World" "standards" "[I") (by decide +kernel)) (fun _ h9 => h9) rfl dX11_digestKinds_54 ?_
  refine lv_iload hx hb dX11_digestKinds_57 (lv_at hl 2 rfl) ?_
  refine lv_bipush (v := 6) hx hb dX11_digestKinds_59 (by decide) ?_
  refine lv_imul hx hb dX11_digestKinds_61 ?_
  refine tp_i (y := 12) (by decide) ?_
  refine lv_iload hx hb dX11_digestKinds_62 (lv_at hl 0 rfl) ?_
  refine lv_iadd hx hb dX11_digestKinds_64 ?_
  refine tp_i (y := 15) (by decide) ?_
  refine va_iald hx hb hK hP 3 1 rfl rfl (show vp_in 15 144 from by unfold vp_in; decide) dX11_digestKinds_65 ?_
  refine tp_i (y := (-9)) (hfd _ (by decide)) ?_
  refine lv_i2l (v := (-9)) hx hb dX11_digestKinds_66 (by decide) ?_
  refine lv_ladd hx hb dX11_digestKinds_67 ?_
  refine tp_l (y := (-9106068860245717648)) (by decide) ?_
  refine lv_lstore_n (lv' := [(3, .long (-9106068860245717648)), (6, .int 3), (5, .int 2), (0, .ref x0), (1, .long 17)]) hx hb dX11_digestKinds_68 rfl hl (by decide) rfl (fun ls hl => ?_)
  refine lv_iinc (v := 4) (lv' := [(6, .int 4), (3, .long (-9106068860245717648)), (5, .int 2), (0, .ref x0), (1, .long 17)]) hx hb dX11_digestKinds_69 hl (k := 1) rfl (by decide) (by decide) rfl (fun ls hl => ?_)
  refine lv_goto (tgt := 38) hx hb dX11_digestKinds_72 (by decide) ?_
  refine lv_iload hx hb dX11_digestKinds_38 (lv_at hl 0 rfl) ?_
  refine lv_bipush (v := 6) hx hb dX11_digestKinds_40 (by decide) ?_
  refine lv_icmp_ge (tgt := 75) hx hb dX11_digestKinds_42 (by decide) (fun q9 => absurd q9 (by decide)) (fun _ => ?_)
  refine lv_ldc2 (v := 31) hx hb hown (hts (.constantLong RX11 362 (31)) (by decide +kernel)) dX11_digestKinds_45 ?_
  refine lv_lload_n hx hb dX11_digestKinds_48 rfl (lv_at hl 1 rfl) ?_
  refine lv_lmul hx hb dX11_digestKinds_49 ?_
  refine tp_l (y := (-5586973561973972848)) (by decide) ?_
  refine lv_aload_n hx hb dX11_digestKinds_50 rfl (lv_at hl 3 rfl) ?_
  refine va_get (D := D) (ci := 11) (v := .ref wo) (C := RX11) (T := TX11) (N := 11) hx hb hts (fun _ h => List.mem_cons_of_mem _ (List.mem_append_left _ (List.mem_append_right _ h))) hown hK hP 0 rfl rfl 0 (by decide) (hts (.fieldLink RX11 10 "TalePlay" "world" "LTalePlay$World;") (by decide +kernel)) (fun _ h9 => h9) rfl dX11_digestKinds_51 ?_
  refine va_get (D := D) (ci := 10) (v := .ref wd) (C := RX10) (T := TX10) (N := 7) hx hb hts (fun _ h => List.mem_cons_of_mem _ (List.mem_append_right _ h)) hown hK hP 1 rfl rfl 2 (by decide) (hts (.fieldLink RX11 367 "TalePlay$World" "standards" "[I") (by decide +kernel)) (fun _ h9 => h9) rfl dX11_digestKinds_54 ?_
  refine lv_iload hx hb dX11_digestKinds_57 (lv_at hl 2 rfl) ?_
  refine lv_bipush (v := 6) hx hb dX11_digestKinds_59 (by decide) ?_
  refine lv_imul hx hb dX11_digestKinds_61 ?_
  refine tp_i (y := 12) (by decide) ?_
  refine lv_iload hx hb dX11_digestKinds_62 (lv_at hl 0 rfl) ?_
  refine lv_iadd hx hb dX11_digestKinds_64 ?_
  refine tp_i (y := 16) (by decide) ?_
  refine va_iald hx hb hK hP 3 1 rfl rfl (show vp_in 16 144 from by unfold vp_in; decide) dX11_digestKinds_65 ?_
  refine tp_i (y := (-9)) (hfd _ (by decide)) ?_
  refine lv_i2l (v := (-9)) hx hb dX11_digestKinds_66 (by decide) ?_
  refine lv_ladd hx hb dX11_digestKinds_67 ?_
  refine tp_l (y := (-5586973561973972857)) (by decide) ?_
  refine lv_lstore_n (lv' := [(3, .long (-5586973561973972857)), (6, .int 4), (5, .int 2), (0, .ref x0), (1, .long 17)]) hx hb dX11_digestKinds_68 rfl hl (by decide) rfl (fun ls hl => ?_)
  refine lv_iinc (v := 5) (lv' := [(6, .int 5), (3, .long (-5586973561973972857)), (5, .int 2), (0, .ref x0), (1, .long 17)]) hx hb dX11_digestKinds_69 hl (k := 1) rfl (by decide) (by decide) rfl (fun ls hl => ?_)
  refine lv_goto (tgt := 38) hx hb dX11_digestKinds_72 (by decide) ?_
  refine lv_iload hx hb dX11_digestKinds_38 (lv_at hl 0 rfl) ?_
  refine lv_bipush (v := 6) hx hb dX11_digestKinds_40 (by decide) ?_
  refine lv_icmp_ge (tgt := 75) hx hb dX11_digestKinds_42 (by decide) (fun q9 => absurd q9 (by decide)) (fun _ => ?_)
  refine lv_ldc2 (v := 31) hx hb hown (hts (.constantLong RX11 362 (31)) (by decide +kernel)) dX11_digestKinds_45 ?_
  refine lv_lload_n hx hb dX11_digestKinds_48 rfl (lv_at hl 1 rfl) ?_
  refine lv_lmul hx hb dX11_digestKinds_49 ?_
  refine tp_l (y := (-7175483757807194023)) (by decide) ?_
  refine lv_aload_n hx hb dX11_digestKinds_50 rfl (lv_at hl 3 rfl) ?_
  refine va_get (D := D) (ci := 11) (v := .ref wo) (C := RX11) (T := TX11) (N := 11) hx hb hts (fun _ h => List.mem_cons_of_mem _ (List.mem_append_left _ (List.mem_append_right _ h))) hown hK hP 0 rfl rfl 0 (by decide) (hts (.fieldLink RX11 10 "TalePlay" "world" "LTalePlay$World;") (by decide +kernel)) (fun _ h9 => h9) rfl dX11_digestKinds_51 ?_
  refine va_get (D := D) (ci := 10) (v := .ref wd) (C := RX10) (T := TX10) (N := 7) hx hb hts (fun _ h => List.mem_cons_of_mem _ (List.mem_append_right _ h)) hown hK hP 1 rfl rfl 2 (by decide) (hts (.fieldLink RX11 367 "TalePlay$World" "standards" "[I") (by decide +kernel)) (fun _ h9 => h9) rfl dX11_digestKinds_54 ?_
  refine lv_iload hx hb dX11_digestKinds_57 (lv_at hl 2 rfl) ?_
  refine lv_bipush (v := 6) hx hb dX11_digestKinds_59 (by decide) ?_
  refine lv_imul hx hb dX11_digestKinds_61 ?_
  refine tp_i (y := 12) (by decide) ?_
  refine lv_iload hx hb dX11_digestKinds_62 (lv_at hl 0 rfl) ?_
  refine lv_iadd hx hb dX11_digestKinds_64 ?_
  refine tp_i (y := 17) (by decide) ?_
  refine va_iald hx hb hK hP 3 1 rfl rfl (show vp_in 17 144 from by unfold vp_in; decide) dX11_digestKinds_65 ?_
  refine tp_i (y := (-9)) (hfd _ (by decide)) ?_
  refine lv_i2l (v := (-9)) hx hb dX11_digestKinds_66 (by decide) ?_
  refine lv_ladd hx hb dX11_digestKinds_67 ?_
  refine tp_l (y := (-7175483757807194032)) (by decide) ?_
  refine lv_lstore_n (lv' := [(3, .long (-7175483757807194032)), (6, .int 5), (5, .int 2), (0, .ref x0), (1, .long 17)]) hx hb dX11_digestKinds_68 rfl hl (by decide) rfl (fun ls hl => ?_)
  refine lv_iinc (v := 6) (lv' := [(6, .int 6), (3, .long (-7175483757807194032)), (5, .int 2), (0, .ref x0), (1, .long 17)]) hx hb dX11_digestKinds_69 hl (k := 1) rfl (by decide) (by decide) rfl (fun ls hl => ?_)
  refine lv_goto (tgt := 38) hx hb dX11_digestKinds_72 (by decide) ?_
  refine lv_iload hx hb dX11_digestKinds_38 (lv_at hl 0 rfl) ?_
  refine lv_bipush (v := 6) hx hb dX11_digestKinds_40 (by decide) ?_
  refine lv_icmp_ge (tgt := 75) hx hb dX11_digestKinds_42 (by decide) (fun _ => ?_) (fun q9 => absurd (by decide) q9)
  refine lv_iinc (v := 3) (lv' := [(5, .int 3), (6, .int 6), (3, .long (-7175483757807194032)), (0, .ref x0), (1, .long 17)]) hx hb dX11_digestKinds_75 hl (k := 2) rfl (by decide) (by decide) rfl (fun ls hl => ?_)
  refine lv_goto (tgt := 5) hx hb dX11_digestKinds_78 (by decide) ?_
  refine lv_iload hx hb dX11_digestKinds_5 (lv_at hl 0 rfl) ?_
  refine lv_aload_n hx hb dX11_digestKinds_7 rfl (lv_at hl 3 rfl) ?_
  refine va_get (D := D) (ci := 11) (v := .ref wo) (C := RX11) (T := TX11) (N := 11) hx hb hts (fun _ h => List.mem_cons_of_mem _ (List.mem_append_left _ (List.mem_append_right _ h))) hown hK hP 0 rfl rfl 0 (by decide) (hts (.fieldLink RX11 10 "TalePlay" "world" "LTalePlay$World;") (by decide +kernel)) (fun _ h9 => h9) rfl dX11_digestKinds_8 ?_
  refine va_get (D := D) (ci := 10) (v := .int 6) (C := RX10) (T := TX10) (N := 7) hx hb hts (fun _ h => List.mem_cons_of_mem _ (List.mem_append_right _ h)) hown hK hP 1 rfl rfl 5 (by decide) (hts (.fieldLink RX11 84 "TalePlay$World" "kinds" "I") (by decide +kernel)) (fun _ h9 => h9) rfl dX11_digestKinds_11 ?_
  refine lv_icmp_ge (tgt := 81) hx hb dX11_digestKinds_14 (by decide) (fun q9 => absurd q9 (by decide)) (fun _ => ?_)
  refine lv_ldc2 (v := 31) hx hb hown (hts (.constantLong RX11 362 (31)) (by decide +kernel)) dX11_digestKinds_17 ?_
  refine lv_lload_n hx hb dX11_digestKinds_20 rfl (lv_at hl 2 rfl) ?_
  refine lv_lmul hx hb dX11_digestKinds_21 ?_
  refine tp_l (y := (-1079067607508395600)) (by decide) ?_
  refine lv_aload_n hx hb dX11_digestKinds_22 rfl (lv_at hl 3 rfl) ?_
  refine va_get (D := D) (ci := 11) (v := .ref wo) (C := RX11) (T := TX11) (N := 11) hx hb hts (fun _ h => List.mem_cons_of_mem _ (List.mem_append_left _ (List.mem_append_right _ h))) hown hK hP 0 rfl rfl 0 (by decide) (hts (.fieldLink RX11 10 "TalePlay" "world" "LTalePlay$World;") (by decide +kernel)) (fun _ h9 => h9) rfl dX11_digestKinds_23 ?_
  refine va_get (D := D) (ci := 10) (v := .ref wp) (C := RX10) (T := TX10) (N := 7) hx hb hts (fun _ h => List.mem_cons_of_mem _ (List.mem_append_right _ h)) hown hK hP 1 rfl rfl 0 (by decide) (hts (.fieldLink RX11 364 "TalePlay$World" "parents" "[I") (by decide +kernel)) (fun _ h9 => h9) rfl dX11_digestKinds_26 ?_
  refine lv_iload hx hb dX11_digestKinds_29 (lv_at hl 0 rfl) ?_
  refine va_iald hx hb hK hP 2 0 rfl rfl (show vp_in 3 24 from by unfold vp_in; decide) dX11_digestKinds_31 ?_
  refine tp_i (y := 1) hp3 ?_
  refine lv_i2l (v := 1) hx hb dX11_digestKinds_32 (by decide) ?_
  refine lv_ladd hx hb dX11_digestKinds_33 ?_
  refine tp_l (y := (-1079067607508395599)) (by decide) ?_
  refine lv_lstore_n (lv' := [(3, .long (-1079067607508395599)), (5, .int 3), (6, .int 6), (0, .ref x0), (1, .long 17)]) hx hb dX11_digestKinds_34 rfl hl (by decide) rfl (fun ls hl => ?_)
  refine lv_iconst (v := 0) hx hb dX11_digestKinds_35 (by decide) ?_
  refine lv_istore (lv' := [(6, .int 0), (3, .long (-1079067607508395599)), (5, .int 3), (0, .ref x0), (1, .long 17)]) hx hb dX11_digestKinds_36 hl (by decide) rfl (fun ls hl => ?_)
  refine lv_iload hx hb dX11_digestKinds_38 (lv_at hl 0 rfl) ?_
  refine lv_bipush (v := 6) hx hb dX11_digestKinds_40 (by decide) ?_
  refine lv_icmp_ge (tgt := 75) hx hb dX11_digestKinds_42 (by decide) (fun q9 => absurd q9 (by decide)) (fun _ => ?_)
  refine lv_ldc2 (v := 31) hx hb hown (hts (.constantLong RX11 362 (31)) (by decide +kernel)) dX11_digestKinds_45 ?_
  refine lv_lload_n hx hb dX11_digestKinds_48 rfl (lv_at hl 1 rfl) ?_
  refine lv_lmul hx hb dX11_digestKinds_49 ?_
  refine tp_l (y := 3442392314658839663) (by decide) ?_
  refine lv_aload_n hx hb dX11_digestKinds_50 rfl (lv_at hl 3 rfl) ?_
  refine va_get (D := D) (ci := 11) (v := .ref wo) (C := RX11) (T := TX11) (N := 11) hx hb hts (fun _ h => List.mem_cons_of_mem _ (List.mem_append_left _ (List.mem_append_right _ h))) hown hK hP 0 rfl rfl 0 (by decide) (hts (.fieldLink RX11 10 "TalePlay" "world" "LTalePlay$World;") (by decide +kernel)) (fun _ h9 => h9) rfl dX11_digestKinds_51 ?_
  refine va_get (D := D) (ci := 10) (v := .ref wd) (C := RX10) (T := TX10) (N := 7) hx hb hts (fun _ h => List.mem_cons_of_mem _ (List.mem_append_right _ h)) hown hK hP 1 rfl rfl 2 (by decide) (hts (.fieldLink RX11 367 "TalePlay$World" "standards" "[I") (by decide +kernel)) (fun _ h9 => h9) rfl dX11_digestKinds_54 ?_
  refine lv_iload hx hb dX11_digestKinds_57 (lv_at hl 2 rfl) ?_
  refine lv_bipush (v := 6) hx hb dX11_digestKinds_59 (by decide) ?_
  refine lv_imul hx hb dX11_digestKinds_61 ?_
  refine tp_i (y := 18) (by decide) ?_
  refine lv_iload hx hb dX11_digestKinds_62 (lv_at hl 0 rfl) ?_
  refine lv_iadd hx hb dX11_digestKinds_64 ?_
  refine tp_i (y := 18) (by decide) ?_
  refine va_iald hx hb hK hP 3 1 rfl rfl (show vp_in 18 144 from by unfold vp_in; decide) dX11_digestKinds_65 ?_
  refine tp_i (y := (-9)) (hfd _ (by decide)) ?_
  refine lv_i2l (v := (-9)) hx hb dX11_digestKinds_66 (by decide) ?_
  refine lv_ladd hx hb dX11_digestKinds_67 ?_
  refine tp_l (y := 3442392314658839654) (by decide) ?_
  refine lv_lstore_n (lv' := [(3, .long 3442392314658839654), (6, .int 0), (5, .int 3), (0, .ref x0), (1, .long 17)]) hx hb dX11_digestKinds_68 rfl hl (by decide) rfl (fun ls hl => ?_)
  refine lv_iinc (v := 1) (lv' := [(6, .int 1), (3, .long 3442392314658839654), (5, .int 3), (0, .ref x0), (1, .long 17)]) hx hb dX11_digestKinds_69 hl (k := 1) rfl (by decide) (by decide) rfl (fun ls hl => ?_)
  refine lv_goto (tgt := 38) hx hb dX11_digestKinds_72 (by decide) ?_
  refine lv_iload hx hb dX11_digestKinds_38 (lv_at hl 0 rfl) ?_
  refine lv_bipush (v := 6) hx hb dX11_digestKinds_40 (by decide) ?_
  refine lv_icmp_ge (tgt := 75) hx hb dX11_digestKinds_42 (by decide) (fun q9 => absurd q9 (by decide)) (fun _ => ?_)
  refine lv_ldc2 (v := 31) hx hb hown (hts (.constantLong RX11 362 (31)) (by decide +kernel)) dX11_digestKinds_45 ?_
  refine lv_lload_n hx hb dX11_digestKinds_48 rfl (lv_at hl 1 rfl) ?_
  refine lv_lmul hx hb dX11_digestKinds_49 ?_
  refine tp_l (y := (-3966302687833280422)) (by decide) ?_
  refine lv_aload_n hx hb dX11_digestKinds_50 rfl (lv_at hl 3 rfl) ?_
  refine va_get (D := D) (ci := 11) (v := .ref wo) (C := RX11) (T := TX11) (N := 11) hx hb hts (fun _ h => List.mem_cons_of_mem _ (List.mem_append_left _ (List.mem_append_right _ h))) hown hK hP 0 rfl rfl 0 (by decide) (hts (.fieldLink RX11 10 "TalePlay" "world" "LTalePlay$World;") (by decide +kernel)) (fun _ h9 => h9) rfl dX11_digestKinds_51 ?_
  refine va_get (D := D) (ci := 10) (v := .ref wd) (C := RX10) (T := TX10) (N := 7) hx hb hts (fun _ h => List.mem_cons_of_mem _ (List.mem_append_right _ h)) hown hK hP 1 rfl rfl 2 (by decide) (hts (.fieldLink RX11 367 "TalePlay$World" "standards" "[I") (by decide +kernel)) (fun _ h9 => h9) rfl dX11_digestKinds_54 ?_
  refine lv_iload hx hb dX11_digestKinds_57 (lv_at hl 2 rfl) ?_
  refine lv_bipush (v := 6) hx hb dX11_digestKinds_59 (by decide) ?_
  refine lv_imul hx hb dX11_digestKinds_61 ?_
  refine tp_i (y := 18) (by decide) ?_
  refine lv_iload hx hb dX11_digestKinds_62 (lv_at hl 0 rfl) ?_
  refine lv_iadd hx hb dX11_digestKinds_64 ?_
  refine tp_i (y := 19) (by decide) ?_
  refine va_iald hx hb hK hP 3 1 rfl rfl (show vp_in 19 144 from by unfold vp_in; decide) dX11_digestKinds_65 ?_
  refine tp_i (y := (-9)) (hfd _ (by decide)) ?_
  refine lv_i2l (v := (-9)) hx hb dX11_digestKinds_66 (by decide) ?_
  refine lv_ladd hx hb dX11_digestKinds_67 ?_
  refine tp_l (y := (-3966302687833280431)) (by decide) ?_
  refine lv_lstore_n (lv' := [(3, .long (-3966302687833280431)), (6, .int 1), (5, .int 3), (0, .ref x0), (1, .long 17)]) hx hb dX11_digestKinds_68 rfl hl (by decide) rfl (fun ls hl => ?_)
  refine lv_iinc (v := 2) (lv' := [(6, .int 2), (3, .long (-3966302687833280431)), (5, .int 3), (0, .ref x0), (1, .long 17)]) hx hb dX11_digestKinds_69 hl (k := 1) rfl (by decide) (by decide) rfl (fun ls hl => ?_)
  refine lv_goto (tgt := 38) hx hb dX11_digestKinds_72 (by decide) ?_
  refine lv_iload hx hb dX11_digestKinds_38 (lv_at hl 0 rfl) ?_
  refine lv_bipush (v := 6) hx hb dX11_digestKinds_40 (by decide) ?_
  refine lv_icmp_ge (tgt := 75) hx hb dX11_digestKinds_42 (by decide) (fun q9 => absurd q9 (by decide)) (fun _ => ?_)
  refine lv_ldc2 (v := 31) hx hb hown (hts (.constantLong RX11 362 (31)) (by decide +kernel)) dX11_digestKinds_45 ?_
  refine lv_lload_n hx hb dX11_digestKinds_48 rfl (lv_at hl 1 rfl) ?_
  refine lv_lmul hx hb dX11_digestKinds_49 ?_
  refine tp_l (y := 6171825193135167951) (by decide) ?_
  refine lv_aload_n hx hb dX11_digestKinds_50 rfl (lv_at hl 3 rfl) ?_
  refine va_get (D := D) (ci := 11) (v := .ref wo) (C := RX11) (T := TX11) (N := 11) hx hb hts (fun _ h => List.mem_cons_of_mem _ (List.mem_append_left _ (List.mem_append_right _ h))) hown hK hP 0 rfl rfl 0 (by decide) (hts (.fieldLink RX11 10 "TalePlay" "world" "LTalePlay$World;") (by decide +kernel)) (fun _ h9 => h9) rfl dX11_digestKinds_51 ?_
  refine va_get (D := D) (ci := 10) (v := .ref wd) (C := RX10) (T := TX10) (N := 7) hx hb hts (fun _ h => List.mem_cons_of_mem _ (List.mem_append_right _ h)) hown hK hP 1 rfl rfl 2 (by decide) (hts (.fieldLink RX11 367 "TalePlay$World" "standards" "[I") (by decide +kernel)) (fun _ h9 => h9) rfl dX11_digestKinds_54 ?_
  refine lv_iload hx hb dX11_digestKinds_57 (lv_at hl 2 rfl) ?_
  refine lv_bipush (v := 6) hx hb dX11_digestKinds_59 (by decide) ?_
  refine lv_imul hx hb dX11_digestKinds_61 ?_
  refine tp_i (y := 18) (by decide) ?_
  refine lv_iload hx hb dX11_digestKinds_62 (lv_at hl 0 rfl) ?_
  refine lv_iadd hx hb dX11_digestKinds_64 ?_
  refine tp_i (y := 20) (by decide) ?_
  refine va_iald hx hb hK hP 3 1 rfl rfl (show vp_in 20 144 from by unfold vp_in; decide) dX11_digestKinds_65 ?_
  refine tp_i (y := (-9)) (hfd _ (by decide)) ?_
  refine lv_i2l (v := (-9)) hx hb dX11_digestKinds_66 (by decide) ?_
  refine lv_ladd hx hb dX11_digestKinds_67 ?_
  refine tp_l (y := 6171825193135167942) (by decide) ?_
  refine lv_lstore_n (lv' := [(3, .long 6171825193135167942), (6, .int 2), (5, .int 3), (0, .ref x0), (1, .long 17)]) hx hb dX11_digestKinds_68 rfl hl (by decide) rfl (fun ls hl => ?_)
  refine lv_iinc (v := 3) (lv' := [(6, .int 3), (3, .long 6171825193135167942), (5, .int 3), (0, .ref x0), (1, .long 17)]) hx hb dX11_digestKinds_69 hl (k := 1) rfl (by decide) (by decide) rfl (fun ls hl => ?_)
  refine lv_goto (tgt := 38) hx hb dX11_digestKinds_72 (by decide) ?_
  refine lv_iload hx hb dX11_digestKinds_38 (lv_at hl 0 rfl) ?_
  refine lv_bipush (v := 6) hx hb dX11_digestKinds_40 (by decide) ?_
  refine lv_icmp_ge (tgt := 75) hx hb dX11_digestKinds_42 (by decide) (fun q9 => absurd q9 (by decide)) (fun _ => ?_)
  refine lv_ldc2 (v := 31) hx hb hown (hts (.constantLong RX11 362 (31)) (by decide +kernel)) dX11_digestKinds_45 ?_
  refine lv_lload_n hx hb dX11_digestKinds_48 rfl (lv_at hl 1 rfl) ?_
  refine lv_lmul hx hb dX11_digestKinds_49 ?_
  refine tp_l (y := 6859140250094690042) (by decide) ?_
  refine lv_aload_n hx hb dX11_digestKinds_50 rfl (lv_at hl 3 rfl) ?_
  refine va_get (D := D) (ci := 11) (v := .ref wo) (C := RX11) (T := TX11) (N := 11) hx hb hts (fun _ h => List.mem_cons_of_mem _ (List.mem_append_left _ (List.mem_append_right _ h))) hown hK hP 0 rfl rfl 0 (by decide) (hts (.fieldLink RX11 10 "TalePlay" "world" "LTalePlay$World;") (by decide +kernel)) (fun _ h9 => h9) rfl dX11_digestKinds_51 ?_
  refine va_get (D := D) (ci := 10) (v := .ref wd) (C := RX10) (T := TX10) (N := 7) hx hb hts (fun _ h => List.mem_cons_of_mem _ (List.mem_append_right _ h)) hown hK hP 1 rfl rfl 2 (by decide) (hts (.fieldLink RX11 367 "TalePlay$World" "standards" "[I") (by decide +kernel)) (fun _ h9 => h9) rfl dX11_digestKinds_54 ?_
  refine lv_iload hx hb dX11_digestKinds_57 (lv_at hl 2 rfl) ?_
  refine lv_bipush (v := 6) hx hb dX11_digestKinds_59 (by decide) ?_
  refine lv_imul hx hb dX11_digestKinds_61 ?_
  refine tp_i (y := 18) (by decide) ?_
  refine lv_iload hx hb dX11_digestKinds_62 (lv_at hl 0 rfl) ?_
  refine lv_iadd hx hb dX11_digestKinds_64 ?_
  refine tp_i (y := 21) (by decide) ?_
  refine va_iald hx hb hK hP 3 1 rfl rfl (show vp_in 21 144 from by unfold vp_in; decide) dX11_digestKinds_65 ?_
  refine tp_i (y := (-9)) (hfd _ (by decide)) ?_
  refine lv_i2l (v := (-9)) hx hb dX11_digestKinds_66 (by decide) ?_
  refine lv_ladd hx hb dX11_digestKinds_67 ?_
  refine tp_l (y := 6859140250094690033) (by decide) ?_
  refine lv_lstore_n (lv' := [(3, .long 6859140250094690033), (6, .int 3), (5, .int 3), (0, .ref x0), (1, .long 17)]) hx hb dX11_digestKinds_68 rfl hl (by decide) rfl (fun ls hl => ?_)
  refine lv_iinc (v := 4) (lv' := [(6, .int 4), (3, .long 6859140250094690033), (5, .int 3), (0, .ref x0), (1, .long 17)]) hx hb dX11_digestKinds_69 hl (k := 1) rfl (by decide) (by decide) rfl (fun ls hl => ?_)
  refine lv_goto (tgt := 38) hx hb dX11_digestKinds_72 (by decide) ?_
  refine lv_iload hx hb dX11_digestKinds_38 (lv_at hl 0 rfl) ?_
  refine lv_bipush (v := 6) hx hb dX11_digestKinds_40 (by decide) ?_
  refine lv_icmp_ge (tgt := 75) hx hb dX11_digestKinds_42 (by decide) (fun q9 => absurd q9 (by decide)) (fun _ => ?_)
  refine lv_ldc2 (v := 31) hx hb hown (hts (.constantLong RX11 362 (31)) (by decide +kernel)) dX11_digestKinds_45 ?_
  refine lv_lload_n hx hb dX11_digestKinds_48 rfl (lv_at hl 1 rfl) ?_
  refine lv_lmul hx hb dX11_digestKinds_49 ?_
  refine tp_l (y := (-8727581131579228369)) (by decide) ?_
  refine lv_aload_n hx hb dX11_digestKinds_50 rfl (lv_at hl 3 rfl) ?_
  refine va_get (D := D) (ci := 11) (v := .ref wo) (C := RX11) (T := TX11) (N := 11) hx hb hts (fun _ h => List.mem_cons_of_mem _ (List.mem_append_left _ (List.mem_append_right _ h))) hown hK hP 0 rfl rfl 0 (by decide) (hts (.fieldLink RX11 10 "TalePlay" "world" "LTalePlay$World;") (by decide +kernel)) (fun _ h9 => h9) rfl dX11_digestKinds_51 ?_
  refine va_get (D := D) (ci := 10) (v := .ref wd) (C := RX10) (T := TX10) (N := 7) hx hb hts (fun _ h => List.mem_cons_of_mem _ (List.mem_append_right _ h)) hown hK hP 1 rfl rfl 2 (by decide) (hts (.fieldLink RX11 367 "TalePlay$World" "standards" "[I") (by decide +kernel)) (fun _ h9 => h9) rfl dX11_digestKinds_54 ?_
  refine lv_iload hx hb dX11_digestKinds_57 (lv_at hl 2 rfl) ?_
  refine lv_bipush (v := 6) hx hb dX11_digestKinds_59 (by decide) ?_
  refine lv_imul hx hb dX11_digestKinds_61 ?_
  refine tp_i (y := 18) (by decide) ?_
  refine lv_iload hx hb dX11_digestKinds_62 (lv_at hl 0 rfl) ?_
  refine lv_iadd hx hb dX11_digestKinds_64 ?_
  refine tp_i (y := 22) (by decide) ?_
  refine va_iald hx hb hK hP 3 1 rfl rfl (show vp_in 22 144 from by unfold vp_in; decide) dX11_digestKinds_65 ?_
  refine tp_i (y := (-9)) (hfd _ (by decide)) ?_
  refine lv_i2l (v := (-9)) hx hb dX11_digestKinds_66 (by decide) ?_
  refine lv_ladd hx hb dX11_digestKinds_67 ?_
  refine tp_l (y := (-8727581131579228378)) (by decide) ?_
  refine lv_lstore_n (lv' := [(3, .long (-8727581131579228378)), (6, .int 4), (5, .int 3), (0, .ref x0), (1, .long 17)]) hx hb dX11_digestKinds_68 rfl hl (by decide) rfl (fun ls hl => ?_)
  refine lv_iinc (v := 5) (lv' := [(6, .int 5), (3, .long (-8727581131579228378)), (5, .int 3), (0, .ref x0), (1, .long 17)]) hx hb dX11_digestKinds_69 hl (k := 1) rfl (by decide) (by decide) rfl (fun ls hl => ?_)
  refine lv_goto (tgt := 38) hx hb dX11_digestKinds_72 (by decide) ?_
  refine lv_iload hx hb dX11_digestKinds_38 (lv_at hl 0 rfl) ?_
  refine lv_bipush (v := 6) hx hb dX11_digestKinds_40 (by decide) ?_
  refine lv_icmp_ge (tgt := 75) hx hb dX11_digestKinds_42 (by decide) (fun q9 => absurd q9 (by decide)) (fun _ => ?_)
  refine lv_ldc2 (v := 31) hx hb hown (hts (.constantLong RX11 362 (31)) (by decide +kernel)) dX11_digestKinds_45 ?_
  refine lv_lload_n hx hb dX11_digestKinds_48 rfl (lv_at hl 1 rfl) ?_
  refine lv_lmul hx hb dX11_digestKinds_49 ?_
  refine tp_l (y := 6146146026687194522) (by decide) ?_
  refine lv_aload_n hx hb dX11_digestKinds_50 rfl (lv_at hl 3 rfl) ?_
  refine va_get (D := D) (ci := 11) (v := .ref wo) (C := RX11) (T := TX11) (N := 11) hx hb hts (fun _ h => List.mem_cons_of_mem _ (List.mem_append_left _ (List.mem_append_right _ h))) hown hK hP 0 rfl rfl 0 (by decide) (hts (.fieldLink RX11 10 "TalePlay" "world" "LTalePlay$World;") (by decide +kernel)) (fun _ h9 => h9) rfl dX11_digestKinds_51 ?_
  refine va_get (D := D) (ci := 10) (v := .ref wd) (C := RX10) (T := TX10) (N := 7) hx hb hts (fun _ h => List.mem_cons_of_mem _ (List.mem_append_right _ h)) hown hK hP 1 rfl rfl 2 (by decide) (hts (.fieldLink RX11 367 "TalePlay$World" "standards" "[I") (by decide +kernel)) (fun _ h9 => h9) rfl dX11_digestKinds_54 ?_
  refine lv_iload hx hb dX11_digestKinds_57 (lv_at hl 2 rfl) ?_
  refine lv_bipush (v := 6) hx hb dX11_digestKinds_59 (by decide) ?_
  refine lv_imul hx hb dX11_digestKinds_61 ?_
  refine tp_i (y := 18) (by decide) ?_
  refine lv_iload hx hb dX11_digestKinds_62 (lv_at hl 0 rfl) ?_
  refine lv_iadd hx hb dX11_digestKinds_64 ?_
  refine tp_i (y := 23) (by decide) ?_
  refine va_iald hx hb hK hP 3 1 rfl rfl (show vp_in 23 144 from by unfold vp_in; decide) dX11_digestKinds_65 ?_
  refine tp_i (y := (-9)) (hfd _ (by decide)) ?_
  refine lv_i2l (v := (-9)) hx hb dX11_digestKinds_66 (by decide) ?_
  refine lv_ladd hx hb dX11_digestKinds_67 ?_
  refine tp_l (y := 6146146026687194513) (by decide) ?_
  refine lv_lstore_n (lv' := [(3, .long 6146146026687194513), (6, .int 5), (5, .int 3), (0, .ref x0), (1, .long 17)]) hx hb dX11_digestKinds_68 rfl hl (by decide) rfl (fun ls hl => ?_)
  refine lv_iinc (v := 6) (lv' := [(6, .int 6), (3, .long 6146146026687194513), (5, .int 3), (0, .ref x0), (1, .long 17)]) hx hb dX11_digestKinds_69 hl (k := 1) rfl (by decide) (by decide) rfl (fun ls hl => ?_)
  refine lv_goto (tgt := 38) hx hb dX11_digestKinds_72 (by decide) ?_
  refine lv_iload hx hb dX11_digestKinds_38 (lv_at hl 0 rfl) ?_
  refine lv_bipush (v := 6) hx hb dX11_digestKinds_40 (by decide) ?_
  refine lv_icmp_ge (tgt := 75) hx hb dX11_digestKinds_42 (by decide) (fun _ => ?_) (fun q9 => absurd (by decide) q9)
  refine lv_iinc (v := 4) (lv' := [(5, .int 4), (6, .int 6), (3, .long 6146146026687194513), (0, .ref x0), (1, .long 17)]) hx hb dX11_digestKinds_75 hl (k := 2) rfl (by decide) (by decide) rfl (fun ls hl => ?_)
  refine lv_goto (tgt := 5) hx hb dX11_digestKinds_78 (by decide) ?_
  refine lv_iload hx hb dX11_digestKinds_5 (lv_at hl 0 rfl) ?_
  refine lv_aload_n hx hb dX11_digestKinds_7 rfl (lv_at hl 3 rfl) ?_
  refine va_get (D := D) (ci := 11) (v := .ref wo) (C := RX11) (T := TX11) (N := 11) hx hb hts (fun _ h => List.mem_cons_of_mem _ (List.mem_append_left _ (List.mem_append_right _ h))) hown hK hP 0 rfl rfl 0 (by decide) (hts (.fieldLink RX11 10 "TalePlay" "world" "LTalePlay$World;") (by decide +kernel)) (fun _ h9 => h9) rfl dX11_digestKinds_8 ?_
  refine va_get (D := D) (ci := 10) (v := .int 6) (C := RX10) (T := TX10) (N := 7) hx hb hts (fun _ h => List.mem_cons_of_mem _ (List.mem_append_right _ h)) hown hK hP 1 rfl rfl 5 (by decide) (hts (.fieldLink RX11 84 "TalePlay$World" "kinds" "I") (by decide +kernel)) (fun _ h9 => h9) rfl dX11_digestKinds_11 ?_
  refine lv_icmp_ge (tgt := 81) hx hb dX11_digestKinds_14 (by decide) (fun q9 => absurd q9 (by decide)) (fun _ => ?_)
  refine lv_ldc2 (v := 31) hx hb hown (hts (.constantLong RX11 362 (31)) (by decide +kernel)) dX11_digestKinds_17 ?_
  refine lv_lload_n hx hb dX11_digestKinds_20 rfl (lv_at hl 2 rfl) ?_
  refine lv_lmul hx hb dX11_digestKinds_21 ?_
  refine tp_l (y := 6063086090207513743) (by decide) ?_
  refine lv_aload_n hx hb dX11_digestKinds_22 rfl (lv_at hl 3 rfl) ?_
  refine va_get (D := D) (ci := 11) (v := .ref wo) (C := RX11) (T := TX11) (N := 11) hx hb hts (fun _ h => List.mem_cons_of_mem _ (List.mem_append_left _ (List.mem_append_right _ h))) hown hK hP 0 rfl rfl 0 (by decide) (hts (.fieldLink RX11 10 "TalePlay" "world" "LTalePlay$World;") (by decide +kernel)) (fun _ h9 => h9) rfl dX11_digestKinds_23 ?_
  refine va_get (D := D) (ci := 10) (v := .ref wp) (C := RX10) (T := TX10) (N := 7) hx hb hts (fun _ h => List.mem_cons_of_mem _ (List.mem_append_right _ h)) hown hK hP 1 rfl rfl 0 (by decide) (hts (.fieldLink RX11 364 "TalePlay$World" "parents" "[I") (by decide +kernel)) (fun _ h9 => h9) rfl dX11_digestKinds_26 ?_
  refine lv_iload hx hb dX11_digestKinds_29 (lv_at hl 0 rfl) ?_
  refine va_iald hx hb hK hP 2 0 rfl rfl (show vp_in 4 24 from by unfold vp_in; decide) dX11_digestKinds_31 ?_
  refine tp_i (y := 1) hp4 ?_
  refine lv_i2l (v := 1) hx hb dX11_digestKinds_32 (by decide) ?_
  refine lv_ladd hx hb dX11_digestKinds_33 ?_
  refine tp_l (y := 6063086090207513744) (by decide) ?_
  refine lv_lstore_n (lv' := [(3, .long 6063086090207513744), (5, .int 4), (6, .int 6), (0, .ref x0), (1, .long 17)]) hx hb dX11_digestKinds_34 rfl hl (by decide) rfl (fun ls hl => ?_)
  refine lv_iconst (v := 0) hx hb dX11_digestKinds_35 (by decide) ?_
  refine lv_istore (lv' := [(6, .int 0), (3, .long 6063086090207513744), (5, .int 4), (0, .ref x0), (1, .long 17)]) hx hb dX11_digestKinds_36 hl (by decide) rfl (fun ls hl => ?_)
  refine lv_iload hx hb dX11_digestKinds_38 (lv_at hl 0 rfl) ?_
  refine lv_bipush (v := 6) hx hb dX11_digestKinds_40 (by decide) ?_
  refine lv_icmp_ge (tgt := 75) hx hb dX11_digestKinds_42 (by decide) (fun q9 => absurd q9 (by decide)) (fun _ => ?_)
  refine lv_ldc2 (v := 31) hx hb hown (hts (.constantLong RX11 362 (31)) (by decide +kernel)) dX11_digestKinds_45 ?_
  refine lv_lload_n hx hb dX11_digestKinds_48 rfl (lv_at hl 1 rfl) ?_
  refine lv_lmul hx hb dX11_digestKinds_49 ?_
  refine tp_l (y := 3488228059337409904) (by decide) ?_
  refine lv_aload_n hx hb dX11_digestKinds_50 rfl (lv_at hl 3 rfl) ?_
  refine va_get (D := D) (ci := 11) (v := .ref wo) (C := RX11) (T := TX11) (N := 11) hx hb hts (fun _ h => List.mem_cons_of_mem _ (List.mem_append_left _ (List.mem_append_right _ h))) hown hK hP 0 rfl rfl 0 (by decide) (hts (.fieldLink RX11 10 "TalePlay" "world" "LTalePlay$World;") (by decide +kernel)) (fun _ h9 => h9) rfl dX11_digestKinds_51 ?_
  refine va_get (D := D) (ci := 10) (v := .ref wd) (C := RX10) (T := TX10) (N := 7) hx hb hts (fun _ h => List.mem_cons_of_mem _ (List.mem_append_right _ h)) hown hK hP 1 rfl rfl 2 (by decide) (hts (.fieldLink RX11 367 "TalePlay$World" "standards" "[I") (by decide +kernel)) (fun _ h9 => h9) rfl dX11_digestKinds_54 ?_
  refine lv_iload hx hb dX11_digestKinds_57 (lv_at hl 2 rfl) ?_
  refine lv_bipush (v := 6) hx hb dX11_digestKinds_59 (by decide) ?_
  refine lv_imul hx hb dX11_digestKinds_61 ?_
  refine tp_i (y := 24) (by decide) ?_
  refine lv_iload hx hb dX11_digestKinds_62 (lv_at hl 0 rfl) ?_
  refine lv_iadd hx hb dX11_digestKinds_64 ?_
  refine tp_i (y := 24) (by decide) ?_
  refine va_iald hx hb hK hP 3 1 rfl rfl (show vp_in 24 144 from by unfold vp_in; decide) dX11_digestKinds_65 ?_
  refine tp_i (y := (-9)) (hfd _ (by decide)) ?_
  refine lv_i2l (v := (-9)) hx hb dX11_digestKinds_66 (by decide) ?_
  refine lv_ladd hx hb dX11_digestKinds_67 ?_
  refine tp_l (y := 3488228059337409895) (by decide) ?_
  refine lv_lstore_n (lv' := [(3, .long 3488228059337409895), (6, .int 0), (5, .int 4), (0, .ref x0), (1, .long 17)]) hx hb dX11_digestKinds_68 rfl hl (by decide) rfl (fun ls hl => ?_)
  refine lv_iinc (v := 1) (lv' := [(6, .int 1), (3, .long 3488228059337409895), (5, .int 4), (0, .ref x0), (1, .long 17)]) hx hb dX11_digestKinds_69 hl (k := 1) rfl (by decide) (by decide) rfl (fun ls hl => ?_)
  refine lv_goto (tgt := 38) hx hb dX11_digestKinds_72 (by decide) ?_
  refine lv_iload hx hb dX11_digestKinds_38 (lv_at hl 0 rfl) ?_
  refine lv_bipush (v := 6) hx hb dX11_digestKinds_40 (by decide) ?_
  refine lv_icmp_ge (tgt := 75) hx hb dX11_digestKinds_42 (by decide) (fun q9 => absurd q9 (by decide)) (fun _ => ?_)
  refine lv_ldc2 (v := 31) hx hb hown (hts (.constantLong RX11 362 (31)) (by decide +kernel)) dX11_digestKinds_45 ?_
  refine lv_lload_n hx hb dX11_digestKinds_48 rfl (lv_at hl 1 rfl) ?_
  refine lv_lmul hx hb dX11_digestKinds_49 ?_
  refine tp_l (y := (-2545394602797602951)) (by decide) ?_
  refine lv_aload_n hx hb dX11_digestKinds_50 rfl (lv_at hl 3 rfl) ?_
  refine va_get (D := D) (ci := 11) (v := .ref wo) (C := RX11) (T := TX11) (N := 11) hx hb hts (fun _ h => List.mem_cons_of_mem _ (List.mem_append_left _ (List.mem_append_right _ h))) hown hK hP 0 rfl rfl 0 (by decide) (hts (.fieldLink RX11 10 "TalePlay" "world" "LTalePlay$World;") (by decide +kernel)) (fun _ h9 => h9) rfl dX11_digestKinds_51 ?_
  refine va_get (D := D) (ci := 10) (v := .ref wd) (C := RX10) (T := TX10) (N := 7) hx hb hts (fun _ h => List.mem_cons_of_mem _ (List.mem_append_right _ h)) hown hK hP 1 rfl rfl 2 (by decide) (hts (.fieldLink RX11 367 "TalePlay$World" "standards" "[I") (by decide +kernel)) (fun _ h9 => h9) rfl dX11_digestKinds_54 ?_
  refine lv_iload hx hb dX11_digestKinds_57 (lv_at hl 2 rfl) ?_
  refine lv_bipush (v := 6) hx hb dX11_digestKinds_59 (by decide) ?_
  refine lv_imul hx hb dX11_digestKinds_61 ?_
  refine tp_i (y := 24) (by decide) ?_
  refine lv_iload hx hb dX11_digestKinds_62 (lv_at hl 0 rfl) ?_
  refine lv_iadd hx hb dX11_digestKinds_64 ?_
  refine tp_i (y := 25) (by decide) ?_
  refine va_iald hx hb hK hP 3 1 rfl rfl (show vp_in 25 144 from by unfold vp_in; decide) dX11_digestKinds_65 ?_
  refine tp_i (y := (-9)) (hfd _ (by decide)) ?_
  refine lv_i2l (v := (-9)) hx hb dX11_digestKinds_66 (by decide) ?_
  refine lv_ladd hx hb dX11_digestKinds_67 ?_
  refine tp_l (y := (-2545394602797602960)) (by decide) ?_
  refine lv_lstore_n (lv' := [(3, .long (-2545394602797602960)), (6, .int 1), (5, .int 4), (0, .ref x0), (1, .long 17)]) hx hb dX11_digestKinds_68 rfl hl (by decide) rfl (fun ls hl => ?_)
  refine lv_iinc (v := 2) (lv' := [(6, .int 2), (3, .long (-2545394602797602960)), (5, .int 4), (0, .ref x0), (1, .long 17)]) hx hb dX11_digestKinds_69 hl (k := 1) rfl (by decide) (by decide) rfl (fun ls hl => ?_)
  refine lv_goto (tgt := 38) hx hb dX11_digestKinds_72 (by decide) ?_
  refine lv_iload hx hb dX11_digestKinds_38 (lv_at hl 0 rfl) ?_
  refine lv_bipush (v := 6) hx hb dX11_digestKinds_40 (by decide) ?_
  refine lv_icmp_ge (tgt := 75) hx hb dX11_digestKinds_42 (by decide) (fun q9 => absurd q9 (by decide)) (fun _ => ?_)
  refine lv_ldc2 (v := 31) hx hb hown (hts (.constantLong RX11 362 (31)) (by decide +kernel)) dX11_digestKinds_45 ?_
  refine lv_lload_n hx hb dX11_digestKinds_48 rfl (lv_at hl 1 rfl) ?_
  refine lv_lmul hx hb dX11_digestKinds_49 ?_
  refine tp_l (y := (-5120256391887485296)) (by decide) ?_
  refine lv_aload_n hx hb dX11_digestKinds_50 rfl (lv_at hl 3 rfl) ?_
  refine va_get (D := D) (ci := 11) (v := .ref wo) (C := RX11) (T := TX11) (N := 11) hx hb hts (fun _ h => List.mem_cons_of_mem _ (List.mem_append_left _ (List.mem_append_right _ h))) hown hK hP 0 rfl rfl 0 (by decide) (hts (.fieldLink RX11 10 "TalePlay" "world" "LTalePlay$World;") (by decide +kernel)) (fun _ h9 => h9) rfl dX11_digestKinds_51 ?_
  refine va_get (D := D) (ci := 10) (v := .ref wd) (C := RX10) (T := TX10) (N := 7) hx hb hts (fun _ h => List.mem_cons_of_mem _ (List.mem_append_right _ h)) hown hK hP 1 rfl rfl 2 (by decide) (hts (.fieldLink RX11 367 "TalePlay$World" "standards" "[I") (by decide +kernel)) (fun _ h9 => h9) rfl dX11_digestKinds_54 ?_
  refine lv_iload hx hb dX11_digestKinds_57 (lv_at hl 2 rfl) ?_
  refine lv_bipush (v := 6) hx hb dX11_digestKinds_59 (by decide) ?_
  refine lv_imul hx hb dX11_digestKinds_61 ?_
  refine tp_i (y := 24) (by decide) ?_
  refine lv_iload hx hb dX11_digestKinds_62 (lv_at hl 0 rfl) ?_
  refine lv_iadd hx hb dX11_digestKinds_64 ?_
  refine tp_i (y := 26) (by decide) ?_
  refine va_iald hx hb hK hP 3 1 rfl rfl (show vp_in 26 144 from by unfold vp_in; decide) dX11_digestKinds_65 ?_
  refine tp_i (y := (-9)) (hfd _ (by decide)) ?_
  refine lv_i2l (v := (-9)) hx hb dX11_digestKinds_66 (by decide) ?_
  refine lv_ladd hx hb dX11_digestKinds_67 ?_
  refine tp_l (y := (-5120256391887485305)) (by decide) ?_
  refine lv_lstore_n (lv' := [(3, .long (-5120256391887485305)), (6, .int 2), (5, .int 4), (0, .ref x0), (1, .long 17)]) hx hb dX11_digestKinds_68 rfl hl (by decide) rfl (fun ls hl => ?_)
  refine lv_iinc (v := 3) (lv' := [(6, .int 3), (3, .long (-5120256391887485305)), (5, .int 4), (0, .ref x0), (1, .long 17)]) hx hb dX11_digestKinds_69 hl (k := 1) rfl (by decide) (by decide) rfl (fun ls hl => ?_)
  refine lv_goto (tgt := 38) hx hb dX11_digestKinds_72 (by decide) ?_
  refine lv_iload hx hb dX11_digestKinds_38 (lv_at hl 0 rfl) ?_
  refine lv_bipush (v := 6) hx hb dX11_digestKinds_40 (by decide) ?_
  refine lv_icmp_ge (tgt := 75) hx hb dX11_digestKinds_42 (by decide) (fun q9 => absurd q9 (by decide)) (fun _ => ?_)
  refine lv_ldc2 (v := 31) hx hb hown (hts (.constantLong RX11 362 (31)) (by decide +kernel)) dX11_digestKinds_45 ?_
  refine lv_lload_n hx hb dX11_digestKinds_48 rfl (lv_at hl 1 rfl) ?_
  refine lv_lmul hx hb dX11_digestKinds_49 ?_
  refine tp_l (y := 7292748514873920089) (by decide) ?_
  refine lv_aload_n hx hb dX11_digestKinds_50 rfl (lv_at hl 3 rfl) ?_
  refine va_get (D := D) (ci := 11) (v := .ref wo) (C := RX11) (T := TX11) (N := 11) hx hb hts (fun _ h => List.mem_cons_of_mem _ (List.mem_append_left _ (List.mem_append_right _ h))) hown hK hP 0 rfl rfl 0 (by decide) (hts (.fieldLink RX11 10 "TalePlay" "world" "LTalePlay$World;") (by decide +kernel)) (fun _ h9 => h9) rfl dX11_digestKinds_51 ?_
  refine va_get (D := D) (ci := 10) (v := .ref wd) (C := RX10) (T := TX10) (N := 7) hx hb hts (fun _ h => List.mem_cons_of_mem _ (List.mem_append_right _ h)) hown hK hP 1 rfl rfl 2 (by decide) (hts (.fieldLink RX11 367 "TalePlay$World" "standards" "[I") (by decide +kernel)) (fun _ h9 => h9) rfl dX11_digestKinds_54 ?_
  refine lv_iload hx hb dX11_digestKinds_57 (lv_at hl 2 rfl) ?_
  refine lv_bipush (v := 6) hx hb dX11_digestKinds_59 (by decide) ?_
  refine lv_imul hx hb dX11_digestKinds_61 ?_
  refine tp_i (y := 24) (by decide) ?_
  refine lv_iload hx hb dX11_digestKinds_62 (lv_at hl 0 rfl) ?_
  refine lv_iadd hx hb dX11_digestKinds_64 ?_
  refine tp_i (y := 27) (by decide) ?_
  refine va_iald hx hb hK hP 3 1 rfl rfl (show vp_in 27 144 from by unfold vp_in; decide) dX11_digestKinds_65 ?_
  refine tp_i (y := (-9)) (hfd _ (by decide)) ?_
  refine lv_i2l (v := (-9)) hx hb dX11_digestKinds_66 (by decide) ?_
  refine lv_ladd hx hb dX11_digestKinds_67 ?_
  refine tp_l (y := 7292748514873920080) (by decide) ?_
  refine lv_lstore_n (lv' := [(3, .long 7292748514873920080), (6, .int 3), (5, .int 4), (0, .ref x0), (1, .long 17)]) hx hb dX11_digestKinds_68 rfl hl (by decide) rfl (fun ls hl => ?_)
  refine lv_iinc (v := 4) (lv' := [(6, .int 4), (3, .long 7292748514873920080), (5, .int 4), (0, .ref x0), (1, .long 17)]) hx hb dX11_digestKinds_69 hl (k := 1) rfl (by decide) (by decide) rfl (fun ls hl => ?_)
  refine lv_goto (tgt := 38) hx hb dX11_digestKinds_72 (by decide) ?_
  refine lv_iload hx hb dX11_digestKinds_38 (lv_at hl 0 rfl) ?_
  refine lv_bipush (v := 6) hx hb dX11_digestKinds_40 (by decide) ?_
  refine lv_icmp_ge (tgt := 75) hx hb dX11_digestKinds_42 (by decide) (fun q9 => absurd q9 (by decide)) (fun _ => ?_)
  refine lv_ldc2 (v := 31) hx hb hown (hts (.constantLong RX11 362 (31)) (by decide +kernel)) dX11_digestKinds_45 ?_
  refine lv_lload_n hx hb dX11_digestKinds_48 rfl (lv_at hl 1 rfl) ?_
  refine lv_lmul hx hb dX11_digestKinds_49 ?_
  refine tp_l (y := 4714275076576903088) (by decide) ?_
  refine lv_aload_n hx hb dX11_digestKinds_50 rfl (lv_at hl 3 rfl) ?_
  refine va_get (D := D) (ci := 11) (v := .ref wo) (C := RX11) (T := TX11) (N := 11) hx hb hts (fun _ h => List.mem_cons_of_mem _ (List.mem_append_left _ (List.mem_append_right _ h))) hown hK hP 0 rfl rfl 0 (by decide) (hts (.fieldLink RX11 10 "TalePlay" "world" "LTalePlay$World;") (by decide +kernel)) (fun _ h9 => h9) rfl dX11_digestKinds_51 ?_
  refine va_get (D := D) (ci := 10) (v := .ref wd) (C := RX10) (T := TX10) (N := 7) hx hb hts (fun _ h => List.mem_cons_of_mem _ (List.mem_append_right _ h)) hown hK hP 1 rfl rfl 2 (by decide) (hts (.fieldLink RX11 367 "TalePlay$World" "standards" "[I") (by decide +kernel)) (fun _ h9 => h9) rfl dX11_digestKinds_54 ?_
  refine lv_iload hx hb dX11_digestKinds_57 (lv_at hl 2 rfl) ?_
  refine lv_bipush (v := 6) hx hb dX11_digestKinds_59 (by decide) ?_
  refine lv_imul hx hb dX11_digestKinds_61 ?_
  refine tp_i (y := 24) (by decide) ?_
  refine lv_iload hx hb dX11_digestKinds_62 (lv_at hl 0 rfl) ?_
  refine lv_iadd hx hb dX11_digestKinds_64 ?_
  refine tp_i (y := 28) (by decide) ?_
  refine va_iald hx hb hK hP 3 1 rfl rfl (show vp_in 28 144 from by unfold vp_in; decide) dX11_digestKinds_65 ?_
  refine tp_i (y := (-9)) (hfd _ (by decide)) ?_
  refine lv_i2l (v := (-9)) hx hb dX11_digestKinds_66 (by decide) ?_
  refine lv_ladd hx hb dX11_digestKinds_67 ?_
  refine tp_l (y := 4714275076576903079) (by decide) ?_
  refine lv_lstore_n (lv' := [(3, .long 4714275076576903079), (6, .int 4), (5, .int 4), (0, .ref x0), (1, .long 17)]) hx hb dX11_digestKinds_68 rfl hl (by decide) rfl (fun ls hl => ?_)
  refine lv_iinc (v := 5) (lv' := [(6, .int 5), (3, .long 4714275076576903079), (5, .int 4), (0, .ref x0), (1, .long 17)]) hx hb dX11_digestKinds_69 hl (k := 1) rfl (by decide) (by decide) rfl (fun ls hl => ?_)
  refine lv_goto (tgt := 38) hx hb dX11_digestKinds_72 (by decide) ?_
  refine lv_iload hx hb dX11_digestKinds_38 (lv_at hl 0 rfl) ?_
  refine lv_bipush (v := 6) hx hb dX11_digestKinds_40 (by decide) ?_
  refine lv_icmp_ge (tgt := 75) hx hb dX11_digestKinds_42 (by decide) (fun q9 => absurd q9 (by decide)) (fun _ => ?_)
  refine lv_ldc2 (v := 31) hx hb hown (hts (.constantLong RX11 362 (31)) (by decide +kernel)) dX11_digestKinds_45 ?_
  refine lv_lload_n hx hb dX11_digestKinds_48 rfl (lv_at hl 1 rfl) ?_
  refine lv_lmul hx hb dX11_digestKinds_49 ?_
  refine tp_l (y := (-1431425215792417479)) (by decide) ?_
  refine lv_aload_n hx hb dX11_digestKinds_50 rfl (lv_at hl 3 rfl) ?_
  refine va_get (D := D) (ci := 11) (v := .ref wo) (C := RX11) (T := TX11) (N := 11) hx hb hts (fun _ h => List.mem_cons_of_mem _ (List.mem_append_left _ (List.mem_append_right _ h))) hown hK hP 0 rfl rfl 0 (by decide) (hts (.fieldLink RX11 10 "TalePlay" "world" "LTalePlay$World;") (by decide +kernel)) (fun _ h9 => h9) rfl dX11_digestKinds_51 ?_
  refine va_get (D := D) (ci := 10) (v := .ref wd) (C := RX10) (T := TX10) (N := 7) hx hb hts (fun _ h => List.mem_cons_of_mem _ (List.mem_append_right _ h)) hown hK hP 1 rfl rfl 2 (by decide) (hts (.fieldLink RX11 367 "TalePlay$World" "standards" "[I") (by decide +kernel)) (fun _ h9 => h9) rfl dX11_digestKinds_54 ?_
  refine lv_iload hx hb dX11_digestKinds_57 (lv_at hl 2 rfl) ?_
  refine lv_bipush (v := 6) hx hb dX11_digestKinds_59 (by decide) ?_
  refine lv_imul hx hb dX11_digestKinds_61 ?_
  refine tp_i (y := 24) (by decide) ?_
  refine lv_iload hx hb dX11_digestKinds_62 (lv_at hl 0 rfl) ?_
  refine lv_iadd hx hb dX11_digestKinds_64 ?_
  refine tp_i (y := 29) (by decide) ?_
  refine va_iald hx hb hK hP 3 1 rfl rfl (show vp_in 29 144 from by unfold vp_in; decide) dX11_digestKinds_65 ?_
  refine tp_i (y := (-9)) (hfd _ (by decide)) ?_
  refine lv_i2l (v := (-9)) hx hb dX11_digestKinds_66 (by decide) ?_
  refine lv_ladd hx hb dX11_digestKinds_67 ?_
  refine tp_l (y := (-1431425215792417488)) (by decide) ?_
  refine lv_lstore_n (lv' := [(3, .long (-1431425215792417488)), (6, .int 5), (5, .int 4), (0, .ref x0), (1, .long 17)]) hx hb dX11_digestKinds_68 rfl hl (by decide) rfl (fun ls hl => ?_)
  refine lv_iinc (v := 6) (lv' := [(6, .int 6), (3, .long (-1431425215792417488)), (5, .int 4), (0, .ref x0), (1, .long 17)]) hx hb dX11_digestKinds_69 hl (k := 1) rfl (by decide) (by decide) rfl (fun ls hl => ?_)
  refine lv_goto (tgt := 38) hx hb dX11_digestKinds_72 (by decide) ?_
  refine lv_iload hx hb dX11_digestKinds_38 (lv_at hl 0 rfl) ?_
  refine lv_bipush (v := 6) hx hb dX11_digestKinds_40 (by decide) ?_
  refine lv_icmp_ge (tgt := 75) hx hb dX11_digestKinds_42 (by decide) (fun _ => ?_) (fun q9 => absurd (by decide) q9)
  refine lv_iinc (v := 5) (lv' := [(5, .int 5), (6, .int 6), (3, .long (-1431425215792417488)), (0, .ref x0), (1, .long 17)]) hx hb dX11_digestKinds_75 hl (k := 2) rfl (by decide) (by decide) rfl (fun ls hl => ?_)
  refine lv_goto (tgt := 5) hx hb dX11_digestKinds_78 (by decide) ?_
  refine lv_iload hx hb dX11_digestKinds_5 (lv_at hl 0 rfl) ?_
  refine lv_aload_n hx hb dX11_digestKinds_7 rfl (lv_at hl 3 rfl) ?_
  refine va_get (D := D) (ci := 11) (v := .ref wo) (C := RX11) (T := TX11) (N := 11) hx hb hts (fun _ h => List.mem_cons_of_mem _ (List.mem_append_left _ (List.mem_append_right _ h))) hown hK hP 0 rfl rfl 0 (by decide) (hts (.fieldLink RX11 10 "TalePlay" "world" "LTalePlay$World;") (by decide +kernel)) (fun _ h9 => h9) rfl dX11_digestKinds_8 ?_
  refine va_get (D := D) (ci := 10) (v := .int 6) (C := RX10) (T := TX10) (N := 7) hx hb hts (fun _ h => List.mem_cons_of_mem _ (List.mem_append_right _ h)) hown hK hP 1 rfl rfl 5 (by decide) (hts (.fieldLink RX11 84 "TalePlay$World" "kinds" "I") (by decide +kernel)) (fun _ h9 => h9) rfl dX11_digestKinds_11 ?_
  refine lv_icmp_ge (tgt := 81) hx hb dX11_digestKinds_14 (by decide) (fun q9 => absurd q9 (by decide)) (fun _ => ?_)
  refine lv_ldc2 (v := 31) hx hb hown (hts (.constantLong RX11 362 (31)) (by decide +kernel)) dX11_digestKinds_17 ?_
  refine lv_lload_n hx hb dX11_digestKinds_20 rfl (lv_at hl 2 rfl) ?_
  refine lv_lmul hx hb dX11_digestKinds_21 ?_
  refine tp_l (y := (-7480693542145838896)) (by decide) ?_
  refine lv_aload_n hx hb dX11_digestKinds_22 rfl (lv_at hl 3 rfl) ?_
  refine va_get (D := D) (ci := 11) (v := .ref wo) (C := RX11) (T := TX11) (N := 11) hx hb hts (fun _ h => List.mem_cons_of_mem _ (List.mem_append_left _ (List.mem_append_right _ h))) hown hK hP 0 rfl rfl 0 (by decide) (hts (.fieldLink RX11 10 "TalePlay" "world" "LTalePlay$World;") (by decide +kernel)) (fun _ h9 => h9) rfl dX11_digestKinds_23 ?_
  refine va_get (D := D) (ci := 10) (v := .ref wp) (C := RX10) (T := TX10) (N := 7) hx hb hts (fun _ h => List.mem_cons_of_mem _ (List.mem_append_right _ h)) hown hK hP 1 rfl rfl 0 (by decide) (hts (.fieldLink RX11 364 "TalePlay$World" "parents" "[I") (by decide +kernel)) (fun _ h9 => h9) rfl dX11_digestKinds_26 ?_
  refine lv_iload hx hb dX11_digestKinds_29 (lv_at hl 0 rfl) ?_
  refine va_iald hx hb hK hP 2 0 rfl rfl (show vp_in 5 24 from by unfold vp_in; decide) dX11_digestKinds_31 ?_
  refine tp_i (y := 1) hp5 ?_
  refine lv_i2l (v := 1) hx hb dX11_digestKinds_32 (by decide) ?_
  refine lv_ladd hx hb dX11_digestKinds_33 ?_
  refine tp_l (y := (-7480693542145838895)) (by decide) ?_
  refine lv_lstore_n (lv' := [(3, .long (-7480693542145838895)), (5, .int 5), (6, .int 6), (0, .ref x0), (1, .long 17)]) hx hb dX11_digestKinds_34 rfl hl (by decide) rfl (fun ls hl => ?_)
  refine lv_iconst (v := 0) hx hb dX11_digestKinds_35 (by decide) ?_
  refine lv_istore (lv' := [(6, .int 0), (3, .long (-7480693542145838895)), (5, .int 5), (0, .ref x0), (1, .long 17)]) hx hb dX11_digestKinds_36 hl (by decide) rfl (fun ls hl => ?_)
  refine lv_iload hx hb dX11_digestKinds_38 (lv_at hl 0 rfl) ?_
  refine lv_bipush (v := 6) hx hb dX11_digestKinds_40 (by decide) ?_
  refine lv_icmp_ge (tgt := 75) hx hb dX11_digestKinds_42 (by decide) (fun q9 => absurd q9 (by decide)) (fun _ => ?_)
  refine lv_ldc2 (v := 31) hx hb hown (hts (.constantLong RX11 362 (31)) (by decide +kernel)) dX11_digestKinds_45 ?_
  refine lv_lload_n hx hb dX11_digestKinds_48 rfl (lv_at hl 1 rfl) ?_
  refine lv_lmul hx hb dX11_digestKinds_49 ?_
  refine tp_l (y := 7906173151703165263) (by decide) ?_
  refine lv_aload_n hx hb dX11_digestKinds_50 rfl (lv_at hl 3 rfl) ?_
  refine va_get (D := D) (ci := 11) (v := .ref wo) (C := RX11) (T := TX11) (N := 11) hx hb hts (fun _ h => List.mem_cons_of_mem _ (List.mem_append_left _ (List.mem_append_right _ h))) hown hK hP 0 rfl rfl 0 (by decide) (hts (.fieldLink RX11 10 "TalePlay" "world" "LTalePlay$World;") (by decide +kernel)) (fun _ h9 => h9) rfl dX11_digestKinds_51 ?_
  refine va_get (D := D) (ci := 10) (v := .ref wd) (C := RX10) (T := TX10) (N := 7) hx hb hts (fun _ h => List.mem_cons_of_mem _ (List.mem_append_right _ h)) hown hK hP 1 rfl rfl 2 (by decide) (hts (.fieldLink RX11 367 "TalePlay$World" "standards" "[I") (by decide +kernel)) (fun _ h9 => h9) rfl dX11_digestKinds_54 ?_
  refine lv_iload hx hb dX11_digestKinds_57 (lv_at hl 2 rfl) ?_
  refine lv_bipush (v := 6) hx hb dX11_digestKinds_59 (by decide) ?_
  refine lv_imul hx hb dX11_digestKinds_61 ?_
  refine tp_i (y := 30) (by decide) ?_
  refine lv_iload hx hb dX11_digestKinds_62 (lv_at hl 0 rfl) ?_
  refine lv_iadd hx hb dX11_digestKinds_64 ?_
  refine tp_i (y := 30) (by decide) ?_
  refine va_iald hx hb hK hP 3 1 rfl rfl (show vp_in 30 144 from by unfold vp_in; decide) dX11_digestKinds_65 ?_
  refine tp_i (y := (-9)) (hfd _ (by decide)) ?_
  refine lv_i2l (v := (-9)) hx hb dX11_digestKinds_66 (by decide) ?_
  refine lv_ladd hx hb dX11_digestKinds_67 ?_
  refine tp_l (y := 7906173151703165254) (by decide) ?_
  refine lv_lstore_n (lv' := [(3, .long 7906173151703165254), (6, .int 0), (5, .int 5), (0, .ref x0), (1, .long 17)]) hx hb dX11_digestKinds_68 rfl hl (by decide) rfl (fun ls hl => ?_)
  refine lv_iinc (v := 1) (lv' := [(6, .int 1), (3, .long 7906173151703165254), (5, .int 5), (0, .ref x0), (1, .long 17)]) hx hb dX11_digestKinds_69 hl (k := 1) rfl (by decide) (by decide) rfl (fun ls hl => ?_)
  refine lv_goto (tgt := 38) hx hb dX11_digestKinds_72 (by decide) ?_
  refine lv_iload hx hb dX11_digestKinds_38 (lv_at hl 0 rfl) ?_
  refine lv_bipush (v := 6) hx hb dX11_digestKinds_40 (by decide) ?_
  refine lv_icmp_ge (tgt := 75) hx hb dX11_digestKinds_42 (by decide) (fun q9 => absurd q9 (by decide)) (fun _ => ?_)
  refine lv_ldc2 (v := 31) hx hb hown (hts (.constantLong RX11 362 (31)) (by decide +kernel)) dX11_digestKinds_45 ?_
  refine lv_lload_n hx hb dX11_digestKinds_48 rfl (lv_at hl 1 rfl) ?_
  refine lv_lmul hx hb dX11_digestKinds_49 ?_
  refine tp_l (y := 5283694744573951866) (by decide) ?_
  refine lv_aload_n hx hb dX11_digestKinds_50 rfl (lv_at hl 3 rfl) ?_
  refine va_get (D := D) (ci := 11) (v := .ref wo) (C := RX11) (T := TX11) (N := 11) hx hb hts (fun _ h => List.mem_cons_of_mem _ (List.mem_append_left _ (List.mem_append_right _ h))) hown hK hP 0 rfl rfl 0 (by decide) (hts (.fieldLink RX11 10 "TalePlay" "world" "LTalePlay$World;") (by decide +kernel)) (fun _ h9 => h9) rfl dX11_digestKinds_51 ?_
  refine va_get (D := D) (ci := 10) (v := .ref wd) (C := RX10) (T := TX10) (N := 7) hx hb hts (fun _ h => List.mem_cons_of_mem _ (List.mem_append_right _ h)) hown hK hP 1 rfl rfl 2 (by decide) (hts (.fieldLink RX11 367 "TalePlay$World" "standards" "[I") (by decide +kernel)) (fun _ h9 => h9) rfl dX11_digestKinds_54 ?_
  refine lv_iload hx hb dX11_digestKinds_57 (lv_at hl 2 rfl) ?_
  refine lv_bipush (v := 6) hx hb dX11_digestKinds_59 (by decide) ?_
  refine lv_imul hx hb dX11_digestKinds_61 ?_
  refine tp_i (y := 30) (by decide) ?_
  refine lv_iload hx hb dX11_digestKinds_62 (lv_at hl 0 rfl) ?_
  refine lv_iadd hx hb dX11_digestKinds_64 ?_
  refine tp_i (y := 31) (by decide) ?_
  refine va_iald hx hb hK hP 3 1 rfl rfl (show vp_in 31 144 from by unfold vp_in; decide) dX11_digestKinds_65 ?_
  refine tp_i (y := (-9)) (hfd _ (by decide)) ?_
  refine lv_i2l (v := (-9)) hx hb dX11_digestKinds_66 (by decide) ?_
  refine lv_ladd hx hb dX11_digestKinds_67 ?_
  refine tp_l (y := 5283694744573951857) (by decide) ?_
  refine lv_lstore_n (lv' := [(3, .long 5283694744573951857), (6, .int 1), (5, .int 5), (0, .ref x0), (1, .long 17)]) hx hb dX11_digestKinds_68 rfl hl (by decide) rfl (fun ls hl => ?_)
  refine lv_iinc (v := 2) (lv' := [(6, .int 2), (3, .long 5283694744573951857), (5, .int 5), (0, .ref x0), (1, .long 17)]) hx hb dX11_digestKinds_69 hl (k := 1) rfl (by decide) (by decide) rfl (fun ls hl => ?_)
  refine lv_goto (tgt := 38) hx hb dX11_digestKinds_72 (by decide) ?_
  refine lv_iload hx hb dX11_digestKinds_38 (lv_at hl 0 rfl) ?_
  refine lv_bipush (v := 6) hx hb dX11_digestKinds_40 (by decide) ?_
  refine lv_icmp_ge (tgt := 75) hx hb dX11_digestKinds_42 (by decide) (fun q9 => absurd q9 (by decide)) (fun _ => ?_)
  refine lv_ldc2 (v := 31) hx hb hown (hts (.constantLong RX11 362 (31)) (by decide +kernel)) dX11_digestKinds_45 ?_
  refine lv_lload_n hx hb dX11_digestKinds_48 rfl (lv_at hl 1 rfl) ?_
  refine lv_lmul hx hb dX11_digestKinds_49 ?_
  refine tp_l (y := (-2226159581593456977)) (by decide) ?_
  refine lv_aload_n hx hb dX11_digestKinds_50 rfl (lv_at hl 3 rfl) ?_
  refine va_get (D := D) (ci := 11) (v := .ref wo) (C := RX11) (T := TX11) (N := 11) hx hb hts (fun _ h => List.mem_cons_of_mem _ (List.mem_append_left _ (List.mem_append_right _ h))) hown hK hP 0 rfl rfl 0 (by decide) (hts (.fieldLink RX11 10 "TalePlay" "world" "LTalePlay$World;") (by decide +kernel)) (fun _ h9 => h9) rfl dX11_digestKinds_51 ?_
  refine va_get (D := D) (ci := 10) (v := .ref wd) (C := RX10) (T := TX10) (N := 7) hx hb hts (fun _ h => List.mem_cons_of_mem _ (List.mem_append_right _ h)) hown hK hP 1 rfl rfl 2 (by decide) (hts (.fieldLink RX11 367 "TalePlay$World" "standards" "[I") (by decide +kernel)) (fun _ h9 => h9) rfl dX11_digestKinds_54 ?_
  refine lv_iload hx hb dX11_digestKinds_57 (lv_at hl 2 rfl) ?_
  refine lv_bipush (v := 6) hx hb dX11_digestKinds_59 (by decide) ?_
  refine lv_imul hx hb dX11_digestKinds_61 ?_
  refine tp_i (y := 30) (by decide) ?_
  refine lv_iload hx hb dX11_digestKinds_62 (lv_at hl 0 rfl) ?_
  refine lv_iadd hx hb dX11_digestKinds_64 ?_
  refine tp_i (y := 32) (by decide) ?_
  refine va_iald hx hb hK hP 3 1 rfl rfl (show vp_in 32 144 from by unfold vp_in; decide) dX11_digestKinds_65 ?_
  refine tp_i (y := (-9)) (hfd _ (by decide)) ?_
  refine lv_i2l (v := (-9)) hx hb dX11_digestKinds_66 (by decide) ?_
  refine lv_ladd hx hb dX11_digestKinds_67 ?_
  refine tp_l (y := (-2226159581593456986)) (by decide) ?_
  refine lv_lstore_n (lv' := [(3, .long (-2226159581593456986)), (6, .int 2), (5, .int 5), (0, .ref x0), (1, .long 17)]) hx hb dX11_digestKinds_68 rfl hl (by decide) rfl (fun ls hl => ?_)
  refine lv_iinc (v := 3) (lv' := [(6, .int 3), (3, .long (-2226159581593456986)), (5, .int 5), (0, .ref x0), (1, .long 17)]) hx hb dX11_digestKinds_69 hl (k := 1) rfl (by decide) (by decide) rfl (fun ls hl => ?_)
  refine lv_goto (tgt := 38) hx hb dX11_digestKinds_72 (by decide) ?_
  refine lv_iload hx hb dX11_digestKinds_38 (lv_at hl 0 rfl) ?_
  refine lv_bipush (v := 6) hx hb dX11_digestKinds_40 (by decide) ?_
  refine lv_icmp_ge (tgt := 75) hx hb dX11_digestKinds_42 (by decide) (fun q9 => absurd q9 (by decide)) (fun _ => ?_)
  refine lv_ldc2 (v := 31) hx hb hown (hts (.constantLong RX11 362 (31)) (by decide +kernel)) dX11_digestKinds_45 ?_
  refine lv_lload_n hx hb dX11_digestKinds_48 rfl (lv_at hl 1 rfl) ?_
  refine lv_lmul hx hb dX11_digestKinds_49 ?_
  refine tp_l (y := 4776029265441039898) (by decide) ?_
  refine lv_aload_n hx hb dX11_digestKinds_50 rfl (lv_at hl 3 rfl) ?_
  refine va_get (D := D) (ci := 11) (v := .ref wo) (C := RX11) (T := TX11) (N := 11) hx hb hts (fun _ h => List.mem_cons_of_mem _ (List.mem_append_left _ (List.mem_append_right _ h))) hown hK hP 0 rfl rfl 0 (by decide) (hts (.fieldLink RX11 10 "TalePlay" "world" "LTalePlay$World;") (by decide +kernel)) (fun _ h9 => h9) rfl dX11_digestKinds_51 ?_
  refine va_get (D := D) (ci := 10) (v := .ref wd) (C := RX10) (T := TX10) (N := 7) hx hb hts (fun _ h => List.mem_cons_of_mem _ (List.mem_append_right _ h)) hown hK hP 1 rfl rfl 2 (by decide) (hts (.fieldLink RX11 367 "TalePlay$World" "standards" "[I") (by decide +kernel)) (fun _ h9 => h9) rfl dX11_digestKinds_54 ?_
  refine lv_iload hx hb dX11_digestKinds_57 (lv_at hl 2 rfl) ?_
  refine lv_bipush (v := 6) hx hb dX11_digestKinds_59 (by decide) ?_
  refine lv_imul hx hb dX11_digestKinds_61 ?_
  refine tp_i (y := 30) (by decide) ?_
  refine lv_iload hx hb dX11_digestKinds_62 (lv_at hl 0 rfl) ?_
  refine lv_iadd hx hb dX11_digestKinds_64 ?_
  refine tp_i (y := 33) (by decide) ?_
  refine va_iald hx hb hK hP 3 1 rfl rfl (show vp_in 33 144 from by unfold vp_in; decide) dX11_digestKinds_65 ?_
  refine tp_i (y := (-9)) (hfd _ (by decide)) ?_
  refine lv_i2l (v := (-9)) hx hb dX11_digestKinds_66 (by decide) ?_
  refine lv_ladd hx hb dX11_digestKinds_67 ?_
  refine tp_l (y := 4776029265441039889) (by decide) ?_
  refine lv_lstore_n (lv' := [(3, .long 4776029265441039889), (6, .int 3), (5, .int 5), (0, .ref x0), (1, .long 17)]) hx hb dX11_digestKinds_68 rfl hl (by decide) rfl (fun ls hl => ?_)
  refine lv_iinc (v := 4) (lv' := [(6, .int 4), (3, .long 4776029265441039889), (5, .int 5), (0, .ref x0), (1, .long 17)]) hx hb dX11_digestKinds_69 hl (k := 1) rfl (by decide) (by decide) rfl (fun ls hl => ?_)
  refine lv_goto (tgt := 38) hx hb dX11_digestKinds_72 (by decide) ?_
  refine lv_iload hx hb dX11_digestKinds_38 (lv_at hl 0 rfl) ?_
  refine lv_bipush (v := 6) hx hb dX11_digestKinds_40 (by decide) ?_
  refine lv_icmp_ge (tgt := 75) hx hb dX11_digestKinds_42 (by decide) (fun q9 => absurd q9 (by decide)) (fun _ => ?_)
  refine lv_ldc2 (v := 31) hx hb hown (hts (.constantLong RX11 362 (31)) (by decide +kernel)) dX11_digestKinds_45 ?_
  refine lv_lload_n hx hb dX11_digestKinds_48 rfl (lv_at hl 1 rfl) ?_
  refine lv_lmul hx hb dX11_digestKinds_49 ?_
  refine tp_l (y := 482954638995823631) (by decide) ?_
  refine lv_aload_n hx hb dX11_digestKinds_50 rfl (lv_at hl 3 rfl) ?_
  refine va_get (D := D) (ci := 11) (v := .ref wo) (C := RX11) (T := TX11) (N := 11) hx hb hts (fun _ h => List.mem_cons_of_mem _ (List.mem_append_left _ (List.mem_append_right _ h))) hown hK hP 0 rfl rfl 0 (by decide) (hts (.fieldLink RX11 10 "TalePlay" "world" "LTalePlay$World;") (by decide +kernel)) (fun _ h9 => h9) rfl dX11_digestKinds_51 ?_
  refine va_get (D := D) (ci := 10) (v := .ref wd) (C := RX10) (T := TX10) (N := 7) hx hb hts (fun _ h => List.mem_cons_of_mem _ (List.mem_append_right _ h)) hown hK hP 1 rfl rfl 2 (by decide) (hts (.fieldLink RX11 367 "TalePlay$World" "standards" "[I") (by decide +kernel)) (fun _ h9 => h9) rfl dX11_digestKinds_54 ?_
  refine lv_iload hx hb dX11_digestKinds_57 (lv_at hl 2 rfl) ?_
  refine lv_bipush (v := 6) hx hb dX11_digestKinds_59 (by decide) ?_
  refine lv_imul hx hb dX11_digestKinds_61 ?_
  refine tp_i (y := 30) (by decide) ?_
  refine lv_iload hx hb dX11_digestKinds_62 (lv_at hl 0 rfl) ?_
  refine lv_iadd hx hb dX11_digestKinds_64 ?_
  refine tp_i (y := 34) (by decide) ?_
  refine va_iald hx hb hK hP 3 1 rfl rfl (show vp_in 34 144 from by unfold vp_in; decide) dX11_digestKinds_65 ?_
  refine tp_i (y := (-9)) (hfd _ (by decide)) ?_
  refine lv_i2l (v := (-9)) hx hb dX11_digestKinds_66 (by decide) ?_
  refine lv_ladd hx hb dX11_digestKinds_67 ?_
  refine tp_l (y := 482954638995823622) (by decide) ?_
  refine lv_lstore_n (lv' := [(3, .long 482954638995823622), (6, .int 4), (5, .int 5), (0, .ref x0), (1, .long 17)]) hx hb dX11_digestKinds_68 rfl hl (by decide) rfl (fun ls hl => ?_)
  refine lv_iinc (v := 5) (lv' := [(6, .int 5), (3, .long 482954638995823622), (5, .int 5), (0, .ref x0), (1, .long 17)]) hx hb dX11_digestKinds_69 hl (k := 1) rfl (by decide) (by decide) rfl (fun ls hl => ?_)
  refine lv_goto (tgt := 38) hx hb dX11_digestKinds_72 (by decide) ?_
  refine lv_iload hx hb dX11_digestKinds_38 (lv_at hl 0 rfl) ?_
  refine lv_bipush (v := 6) hx hb dX11_digestKinds_40 (by decide) ?_
  refine lv_icmp_ge (tgt := 75) hx hb dX11_digestKinds_42 (by decide) (fun q9 => absurd q9 (by decide)) (fun _ => ?_)
  refine lv_ldc2 (v := 31) hx hb hown (hts (.constantLong RX11 362 (31)) (by decide +kernel)) dX11_digestKinds_45 ?_
  refine lv_lload_n hx hb dX11_digestKinds_48 rfl (lv_at hl 1 rfl) ?_
  refine lv_lmul hx hb dX11_digestKinds_49 ?_
  refine tp_l (y := (-3475150264839019334)) (by decide) ?_
  refine lv_aload_n hx hb dX11_digestKinds_50 rfl (lv_at hl 3 rfl) ?_
  refine va_get (D := D) (ci := 11) (v := .ref wo) (C := RX11) (T := TX11) (N := 11) hx hb hts (fun _ h => List.mem_cons_of_mem _ (List.mem_append_left _ (List.mem_append_right _ h))) hown hK hP 0 rfl rfl 0 (by decide) (hts (.fieldLink RX11 10 "TalePlay" "world" "LTalePlay$World;") (by decide +kernel)) (fun _ h9 => h9) rfl dX11_digestKinds_51 ?_
  refine va_get (D := D) (ci := 10) (v := .ref wd) (C := RX10) (T := TX10) (N := 7) hx hb hts (fun _ h => List.mem_cons_of_mem _ (List.mem_append_right _ h)) hown hK hP 1 rfl rfl 2 (by decide) (hts (.fieldLink RX11 367 "TalePlay$World" "standards" "[I") (by decide +kernel)) (fun _ h9 => h9) rfl dX11_digestKinds_54 ?_
  refine lv_iload hx hb dX11_digestKinds_57 (lv_at hl 2 rfl) ?_
  refine lv_bipush (v := 6) hx hb dX11_digestKinds_59 (by decide) ?_
  refine lv_imul hx hb dX11_digestKinds_61 ?_
  refine tp_i (y := 30) (by decide) ?_
  refine lv_iload hx hb dX11_digestKinds_62 (lv_at hl 0 rfl) ?_
  refine lv_iadd hx hb dX11_digestKinds_64 ?_
  refine tp_i (y := 35) (by decide) ?_
  refine va_iald hx hb hK hP 3 1 rfl rfl (show vp_in 35 144 from by unfold vp_in; decide) dX11_digestKinds_65 ?_
  refine tp_i (y := (-9)) (hfd _ (by decide)) ?_
  refine lv_i2l (v := (-9)) hx hb dX11_digestKinds_66 (by decide) ?_
  refine lv_ladd hx hb dX11_digestKinds_67 ?_
  refine tp_l (y := (-3475150264839019343)) (by decide) ?_
  refine lv_lstore_n (lv' := [(3, .long (-3475150264839019343)), (6, .int 5), (5, .int 5), (0, .ref x0), (1, .long 17)]) hx hb dX11_digestKinds_68 rfl hl (by decide) rfl (fun ls hl => ?_)
  refine lv_iinc (v := 6) (lv' := [(6, .int 6), (3, .long (-3475150264839019343)), (5, .int 5), (0, .ref x0), (1, .long 17)]) hx hb dX11_digestKinds_69 hl (k := 1) rfl (by decide) (by decide) rfl (fun ls hl => ?_)
  refine lv_goto (tgt := 38) hx hb dX11_digestKinds_72 (by decide) ?_
  refine lv_iload hx hb dX11_digestKinds_38 (lv_at hl 0 rfl) ?_
  refine lv_bipush (v := 6) hx hb dX11_digestKinds_40 (by decide) ?_
  refine lv_icmp_ge (tgt := 75) hx hb dX11_digestKinds_42 (by decide) (fun _ => ?_) (fun q9 => absurd (by decide) q9)
  refine lv_iinc (v := 6) (lv' := [(5, .int 6), (6, .int 6), (3, .long (-3475150264839019343)), (0, .ref x0), (1, .long 17)]) hx hb dX11_digestKinds_75 hl (k := 2) rfl (by decide) (by decide) rfl (fun ls hl => ?_)
  refine lv_goto (tgt := 5) hx hb dX11_digestKinds_78 (by decide) ?_
  refine lv_iload hx hb dX11_digestKinds_5 (lv_at hl 0 rfl) ?_
  refine lv_aload_n hx hb dX11_digestKinds_7 rfl (lv_at hl 3 rfl) ?_
  refine va_get (D := D) (ci := 11) (v := .ref wo) (C := RX11) (T := TX11) (N := 11) hx hb hts (fun _ h => List.mem_cons_of_mem _ (List.mem_append_left _ (List.mem_append_right _ h))) hown hK hP 0 rfl rfl 0 (by decide) (hts (.fieldLink RX11 10 "TalePlay" "world" "LTalePlay$World;") (by decide +kernel)) (fun _ h9 => h9) rfl dX11_digestKinds_8 ?_
  refine va_get (D := D) (ci := 10) (v := .int 6) (C := RX10) (T := TX10) (N := 7) hx hb hts (fun _ h => List.mem_cons_of_mem _ (List.mem_append_right _ h)) hown hK hP 1 rfl rfl 5 (by decide) (hts (.fieldLink RX11 84 "TalePlay$World" "kinds" "I") (by decide +kernel)) (fun _ h9 => h9) rfl dX11_digestKinds_11 ?_
  refine lv_icmp_ge (tgt := 81) hx hb dX11_digestKinds_14 (by decide) (fun _ => ?_) (fun q9 => absurd (by decide) q9)
  refine lv_lload_n hx hb dX11_digestKinds_81 rfl (lv_at hl 2 rfl) ?_
  exact ro_lret hx hb hr hlocks hS dX11_digestKinds_82 rfl

set_option maxHeartbeats 4000000 in
set_option maxRecDepth 100000 in
theorem c_X11_digestObjects (l : Launch) (D : va_G) (sz : Nat) (x0 : Nat) (wo : Nat) (bo : Nat) (ro_ : Nat) (bu : Nat) (ta : Nat) (li : Nat) (ca : Nat) (fc : Nat) (wp : Nat) (ws_ : Nat) (wd : Nat) (wk : Nat) (wz : Nat) : Met l yX11_digestObjects wsX11_digestObjects ({ frames := 0, cells := 0, slots := 0, locals := 0 }) (va_Pc [.ref x0, .long (-3475150264839019343)] (pA D sz [(x0, .inr (11, [.ref wo, .ref bo, .ref ro_, .ref bu, .ref ta, .ref li, .ref ca, .null, .ref fc, .int 0, .long 0])), (wo, .inr (10, [.ref wp, .ref ws_, .ref wd, .ref wk, .ref wz, .int 6, .int 0]))] [])) (va_Ql (fun (r : Int64) (_ : Unit) => r = (-3475150264839019343)) oA (ro sz)) 0 0 (ro sz) := by
  refine Met.ofW (cc := cX11_digestObjects) (maxL := 7) (ret := (some .long)) (by decide) rfl ?_
  intro p e s m args below meth c s₁ B hml hv
  obtain ⟨rfl, hsz, hP, hK⟩ := hv
  have hx := B.exec
  have hb := B.bytes
  have hr := B.returns
  have hts := atoms_spec (ws := wsX11_digestObjects) B.pre
  have hown : s.vm.findClass RX11 = some m.cls := findClass_of_methodNamed B.named
  have hlocks := B.notSynchronized
  subst hsz
  have hA : ∀ q : Nat, s.heap.size ≤ q → ro s.heap.size q := fun _ h => h
  have hS : va_S (ro s.heap.size) s.heap s.heap [] := va_S.rf
  have hP : va_P D vwCl [(x0, .inr (11, [.ref wo, .ref bo, .ref ro_, .ref bu, .ref ta, .ref li, .ref ca, .null, .ref fc, .int 0, .long 0])), (wo, .inr (10, [.ref wp, .ref ws_, .ref wd, .ref wk, .ref wz, .int 6, .int 0]))] s.heap := hP
  have hl := lv_entry ([.ref x0, .long (-3475150264839019343)]) (n := 7) (Nat.le_of_ble_eq_true rfl)
  rw [lg_entry_eq]
  generalize (lg_sl ([.ref x0, .long (-3475150264839019343)]) ++ List.replicate (7 - (lg_sl ([.ref x0, .long (-3475150264839019343)])).length) Slot.unset).toArray = ls at hl ⊢
  have hl : lv_has ls 7 [(0, .ref x0), (1, .long (-3475150264839019343))] := hl
  refine lv_lload_n hx hb dX11_digestObjects_0 rfl (lv_at hl 1 rfl) ?_
  refine lv_lstore_n (lv' := [(3, .long (-3475150264839019343)), (0, .ref x0), (1, .long (-3475150264839019343))]) hx hb dX11_digestObjects_1 rfl hl (by decide) rfl (fun ls hl => ?_)
  refine lv_iconst (v := 0) hx hb dX11_digestObjects_2 (by decide) ?_
  refine lv_istore (lv' := [(5, .int 0), (3, .long (-3475150264839019343)), (0, .ref x0), (1, .long (-3475150264839019343))]) hx hb dX11_digestObjects_3 hl (by decide) rfl (fun ls hl => ?_)
  refine lv_iload hx hb dX11_digestObjects_5 (lv_at hl 0 rfl) ?_
  refine lv_aload_n hx hb dX11_digestObjects_7 rfl (lv_at hl 2 rfl) ?_
  refine va_get (D := D) (ci := 11) (v := .ref wo) (C := RX11) (T := TX11) (N := 11) hx hb hts (fun _ h => List.mem_cons_of_mem _ (List.mem_append_left _ (List.mem_append_left _ (List.mem_append_left _ (List.mem_append_left _ (List.mem_append_left _ (List.mem_append_right _ h))))))) hown hK hP 0 rfl rfl 0 (by decide) (hts (.fieldLink RX11 10 "TalePlay" "world" "LTalePlay$World;") (by decide +kernel)) (fun _ h9 => h9) rfl dX11_digestObjects_8 ?_
  refine va_get (D := D) (ci := 10) (v := .int 0) (C := RX10) (T := TX10) (N := 7) hx hb hts (fun _ h => List.mem_cons_of_mem _ (List.mem_append_left _ (List.mem_append_left _ (List.mem_append_left _ (List.mem_append_left _ (List.mem_append_right _ h)))))) hown hK hP 1 rfl rfl 6 (by decide) (hts (.fieldLink RX11 102 "TalePlay$World" "objects" "I") (by decide +kernel)) (fun _ h9 => h9) rfl dX11_digestObjects_11 ?_
  refine lv_icmp_ge (tgt := 144) hx hb dX11_digestObjects_14 (by decide) (fun _ => ?_) (fun q9 => absurd (by decide) q9)
  refine lv_lload_n hx hb dX11_digestObjects_144 rfl (lv_at hl 1 rfl) ?_
  exact ro_lret hx hb hr hlocks hS dX11_digestObjects_145 rfl

set_option maxHeartbeats 4000000 in
set_option maxRecDepth 100000 in
theorem c_X11_digestSentences (l : Launch) (D : va_G) (sz : Nat) (x0 : Nat) (wo : Nat) (bo : Nat) (ro_ : Nat) (bu : Nat) (ta : Nat) (li : Nat) (ca : Nat) (fc : Nat) (b0 : Nat) (b1 : Nat) (b2 : Nat) (b3 : Nat) (b4 : Nat) (b5 : Nat) (b6 : Nat) (b7 : Nat) (b8 : Nat) (b9 : Nat) (b10 : Nat) : Met l yX11_digestSentences wsX11_digestSentences ({ frames := 0, cells := 0, slots := 0, locals := 0 }) (va_Pc [.ref x0, .long (-3475150264839019343)] (pA D sz [(x0, .inr (11, [.ref wo, .ref bo, .ref ro_, .ref bu, .ref ta, .ref li, .ref ca, .null, .ref fc, .int 0, .long 0])), (bo, .inr (1, [.ref wo, .ref b0, .ref b1, .ref b2, .ref b3, .ref b4, .ref b5, .ref b6, .ref b7, .ref b8, .ref b9, .ref b10, .int 0, .int 0, .int 0]))] [])) (va_Ql (fun (r : Int64) (_ : Unit) => r = (-3475150264839019343)) oA (ro sz)) 0 0 (ro sz) := by
  refine Met.ofW (cc := cX11_digestSentences) (maxL := 7) (ret := (some .long)) (by decide) rfl ?_
  intro p e s m args below meth c s₁ B hml hv
  obtain ⟨rfl, hsz, hP, hK⟩ := hv
  have hx := B.exec
  have hb := B.bytes
  have hr := B.returns
  have hts := atoms_spec (ws := wsX11_digestSentences) B.pre
  have hown : s.vm.findClass RX11 = some m.cls := findClass_of_methodNamed B.named
  have hlocks := B.notSynchronized
  subst hsz
  have hA : ∀ q : Nat, s.heap.size ≤ q → ro s.heap.size q := fun _ h => h
  have hS : va_S (ro s.heap.size) s.heap s.heap [] := va_S.rf
  have hP : va_P D vwCl [(x0, .inr (11, [.ref wo, .ref bo, .ref ro_, .ref bu, .ref ta, .ref li, .ref ca, .null, .ref fc, .int 0, .long 0])), (bo, .inr (1, [.ref wo, .ref b0, .ref b1, .ref b2, .ref b3, .ref b4, .ref b5, .ref b6, .ref b7, .ref b8, .ref b9, .ref b10, .int 0, .int 0, .int 0]))] s.heap := hP
  have hl := lv_entry ([.ref x0, .long (-3475150264839019343)]) (n := 7) (Nat.le_of_ble_eq_true rfl)
  rw [lg_entry_eq]
  generalize (lg_sl ([.ref x0, .long (-3475150264839019343)]) ++ List.replicate (7 - (lg_sl ([.ref x0, .long (-3475150264839019343)])).length) Slot.unset).toArray = ls at hl ⊢
  have hl : lv_has ls 7 [(0, .ref x0), (1, .long (-3475150264839019343))] := hl
  refine lv_lload_n hx hb dX11_digestSentences_0 rfl (lv_at hl 1 rfl) ?_
  refine lv_lstore_n (lv' := [(3, .long (-3475150264839019343)), (0, .ref x0), (1, .long (-3475150264839019343))]) hx hb dX11_digestSentences_1 rfl hl (by decide) rfl (fun ls hl => ?_)
  refine lv_iconst (v := 0) hx hb dX11_digestSentences_2 (by decide) ?_
  refine lv_istore (lv' := [(5, .int 0), (3, .long (-3475150264839019343)), (0, .ref x0), (1, .long (-3475150264839019343))]) hx hb dX11_digestSentences_3 hl (by decide) rfl (fun ls hl => ?_)
  refine lv_iload hx hb dX11_digestSentences_5 (lv_at hl 0 rfl) ?_
  refine lv_aload_n hx hb dX11_digestSentences_7 rfl (lv_at hl 2 rfl) ?_
  refine va_get (D := D) (ci := 11) (v := .ref bo) (C := RX11) (T := TX11) (N := 11) hx hb hts (fun _ h => List.mem_cons_of_mem _ (List.mem_append_left _ (List.mem_append_right _ h))) hown hK hP 0 rfl rfl 1 (by decide) (hts (.fieldLink RX11 21 "TalePlay" "book" "LTalePlay$Book;") (by decide +kernel)) (fun _ h9 => h9) rfl dX11_digestSentences_8 ?_
  refine va_get (D := D) (ci := 1) (v := .int 0) (C := RX1) (T := TX1) (N := 15) hx hb hts (fun _ h => List.mem_cons_of_mem _ (List.mem_append_right _ h)) hown hK hP 1 rfl rfl 13 (by decide) (hts (.fieldLink RX11 168 "TalePlay$Book" "total" "I") (by decide +kernel)) (fun _ h9 => h9) rfl dX11_digestSentences_11 ?_
  refine lv_icmp_ge (tgt := 57) hx hb dX11_digestSentences_14 (by decide) (fun _ => ?_) (fun q9 => absurd (by decide) q9)
  refine lv_lload_n hx hb dX11_digestSentences_57 rfl (lv_at hl 1 rfl) ?_
  exact ro_lret hx hb hr hlocks hS dX11_digestSentences_58 rfl

set_option maxHeartbeats 4000000 in
set_option maxRecDepth 100000 in
theorem c_X11_digest (l : Launch) (D : va_G) (sz : Nat) (x0 : Nat) (wo : Nat) (bo : Nat) (ro_ : Nat) (bu : Nat) (ta : Nat) (li : Nat) (ca : Nat) (fc : Nat) (wp : Nat) (ws_ : Nat) (wd : Nat) (wk : Nat) (wz : Nat) (b0 : Nat) (b1 : Nat) (b2 : Nat) (b3 : Nat) (b4 : Nat) (b5 : Nat) (b6 : Nat) (b7 : Nat) (b8 : Nat) (b9 : Nat) (b10 : Nat) (cP : ClassId) (fp : Nat → Int32) (cD : ClassId) (fd : Nat → Int32) (hp0 : fp 0 = -9) (hp1 : fp 1 = -9) (hp2 : fp 2 = 1) (hp3 : fp 3 = 1) (hp4 : fp 4 = 1) (hp5 : fp 5 = 1) (hfd : ∀ j, j < 144 → fd j = -9) : Met l yX11_digest wsX11_digest ({ frames := 1, cells := 0, slots := 0, locals := 26 }) (va_Pc [.ref x0] (pA D sz [(x0, .inr (11, [.ref wo, .ref bo, .ref ro_, .ref bu, .ref ta, .ref li, .ref ca, .null, .ref fc, .int 0, .long 0])), (wo, .inr (10, [.ref wp, .ref ws_, .ref wd, .ref wk, .ref wz, .int 6, .int 0])), (wp, .inl (cP, 24, .inl fp)), (wd, .inl (cD, 144, .inl fd)), (bo, .inr (1, [.ref wo, .ref b0, .ref b1, .ref b2, .ref b3, .ref b4, .ref b5, .ref b6, .ref b7, .ref b8, .ref b9, .ref b10, .int 0, .int 0, .int 0]))] [(cP, .int), (cD, .int)])) (va_Ql (fun (r : Int64) (_ : Unit) => r = (-3475150264839019343)) oA (ro sz)) 0 0 (ro sz) := by
  refine Met.ofW (cc := cX11_digest) (maxL := 1) (ret := (some .long)) (by decide) rfl ?_
  intro p e s m args below meth c s₁ B hml hv
  obtain ⟨rfl, hsz, hP, hK⟩ := hv
  have hx := B.exec
  have hb := B.bytes
  have hr := B.returns
  have hts := atoms_spec (ws := wsX11_digest) B.pre
  have hown : s.vm.findClass RX11 = some m.cls := findClass_of_methodNamed B.named
  have hlocks := B.notSynchronized
  subst hsz
  have hA : ∀ q : Nat, s.heap.size ≤ q → ro s.heap.size q := fun _ h => h
  have hS : va_S (ro s.heap.size) s.heap s.heap [] := va_S.rf
  have hP : va_P D vwCl [(x0, .inr (11, [.ref wo, .ref bo, .ref ro_, .ref bu, .ref ta, .ref li, .ref ca, .null, .ref fc, .int 0, .long 0])), (wo, .inr (10, [.ref wp, .ref ws_, .ref wd, .ref wk, .ref wz, .int 6, .int 0])), (wp, .inl (cP, 24, .inl fp)), (wd, .inl (cD, 144, .inl fd)), (bo, .inr (1, [.ref wo, .ref b0, .ref b1, .ref b2, .ref b3, .ref b4, .ref b5, .ref b6, .ref b7, .ref b8, .ref b9, .ref b10, .int 0, .int 0, .int 0]))] s.heap := hP
  have hl := lv_entry ([.ref x0]) (n := 1) (Nat.le_of_ble_eq_true rfl)
  rw [lg_entry_eq]
  generalize (lg_sl ([.ref x0]) ++ List.replicate (1 - (lg_sl ([.ref x0])).length) Slot.unset).toArray = ls at hl ⊢
  have hl : lv_has ls 1 [(0, .ref x0)] := hl
  refine lv_aload_n hx hb dX11_digest_0 rfl (lv_at hl 0 rfl) ?_
  refine lv_aload_n hx hb dX11_digest_1 rfl (lv_at hl 0 rfl) ?_
  refine lv_aload_n hx hb dX11_digest_2 rfl (lv_at hl 0 rfl) ?_
  refine lv_ldc2 (v := 17) hx hb hown (hts (.constantLong RX11 350 (17)) (by decide +kernel)) dX11_digest_3 ?_
  have hPc := hP.sub (ws' := [(x0, .inr (11, [.ref wo, .ref bo, .ref ro_, .ref bu, .ref ta, .ref li, .ref ca, .null, .ref fc, .int 0, .long 0])), (wo, .inr (10, [.ref wp, .ref ws_, .ref wd, .ref wk, .ref wz, .int 6, .int 0])), (wp, .inl (cP, 24, .inl fp)), (wd, .inl (cD, 144, .inl fd))]) [0, 1, 2, 3] rfl
  have hKc := hK.sub (tys' := [(cP, .int), (cD, .int)]) [0, 1] rfl
  refine ro_calll (va_runV (As := [.long 17]) (rest := [.ref x0, .ref x0]) ⟨hx, hb, hml, hown, hts⟩ (c_X11_digestKinds l D s.heap.size x0 wo bo ro_ bu ta li ca fc wp ws_ wd wk wz cP fp cD fd hp0 hp1 hp2 hp3 hp4 hp5 hfd) (cwV 1 hts gX11_digest_X11_digestKinds rfl rfl rfl (by decide +kernel) ⟨Nat.le_of_ble_eq_true rfl, Nat.le_of_ble_eq_true rfl⟩) (pA_V hKc hPc (ci := 11) (q0 := 0) rfl rfl) rfl rfl hl.1 rfl (lv_room (Nat.le_of_ble_eq_true rfl)) dX11_digest_6 ⟨Nat.le_of_ble_eq_true rfl, Nat.le_of_ble_eq_true rfl⟩) hS hA hP (fun r1 u1 H locs hw1 hP hS => ?_)
  have hw1 : r1 = (-3475150264839019343) := hw1
  subst hw1
  have hPc := hP.sub (ws' := [(x0, .inr (11, [.ref wo, .ref bo, .ref ro_, .ref bu, .ref ta, .ref li, .ref ca, .null, .ref fc, .int 0, .long 0])), (wo, .inr (10, [.ref wp, .ref ws_, .ref wd, .ref wk, .ref wz, .int 6, .int 0]))]) [0, 1] rfl
  have hKc := hK.sub (tys' := []) [] rfl
  refine ro_calll (va_runV (As := [.long (-3475150264839019343)]) (rest := [.ref x0]) ⟨hx, hb, hml, hown, hts⟩ (c_X11_digestObjects l D H.size x0 wo bo ro_ bu ta li ca fc wp ws_ wd wk wz) (cwV 1 hts gX11_digest_X11_digestObjects rfl rfl rfl (by decide +kernel) ⟨Nat.le_of_ble_eq_true rfl, Nat.le_of_ble_eq_true rfl⟩) (pA_V hKc hPc (ci := 11) (q0 := 0) rfl rfl) rfl rfl hl.1 rfl (lv_room (Nat.le_of_ble_eq_true rfl)) dX11_digest_9 ⟨Nat.le_of_ble_eq_true rfl, Nat.le_of_ble_eq_true rfl⟩) hS hA hP (fun r2 u2 H locs hw2 hP hS => ?_)
  have hw2 : r2 = (-3475150264839019343) := hw2
  subst hw2
  have hPc := hP.sub (ws' := [(x0, .inr (11, [.ref wo, .ref bo, .ref ro_, .ref bu, .ref ta, .ref li, .ref ca, .null, .ref fc, .int 0, .long 0])), (bo, .inr (1, [.ref wo, .ref b0, .ref b1, .ref b2, .ref b3, .ref b4, .ref b5, .ref b6, .ref b7, .ref b8, .ref b9, .ref b10, .int 0, .int 0, .int 0]))]) [0, 4] rfl
  have hKc := hK.sub (tys' := []) [] rfl
  refine ro_calll (va_runV (As := [.long (-3475150264839019343)]) (rest := []) ⟨hx, hb, hml, hown, hts⟩ (c_X11_digestSentences l D H.size x0 wo bo ro_ bu ta li ca fc b0 b1 b2 b3 b4 b5 b6 b7 b8 b9 b10) (cwV 1 hts gX11_digest_X11_digestSentences rfl rfl rfl (by decide +kernel) ⟨Nat.le_of_ble_eq_true rfl, Nat.le_of_ble_eq_true rfl⟩) (pA_V hKc hPc (ci := 11) (q0 := 0) rfl rfl) rfl rfl hl.1 rfl (lv_room (Nat.le_of_ble_eq_true rfl)) dX11_digest_12 ⟨Nat.le_of_ble_eq_true rfl, Nat.le_of_ble_eq_true rfl⟩) hS hA hP (fun r3 u3 H locs hw3 hP hS => ?_)
  have hw3 : r3 = (-3475150264839019343) := hw3
  subst hw3
  exact ro_lret hx hb hr hlocks hS dX11_digest_15 rfl
end
section
set_option maxHeartbeats 4000000 in
set_option maxRecDepth 100000 in
theorem c_X12_digest (l : Launch) (D : va_G) (sz : Nat) (m0 : Nat) (g1 : Nat) (g3 : Nat) (g4 : Nat) (g6 : Nat) (g7 : Nat) (g9 : Nat) (g10 : Nat) (g11 : Nat) (g12 : Nat) (g13 : Nat) (g14 : Nat) (g20 : Nat) (g21 : Nat) (g23 : Nat) (g24 : Nat) (g25 : Nat) (g26 : Nat) (g28 : Nat) (g29 : Nat) (g30 : Nat) (g31 : Nat) (g32 : Nat) (g34 : Nat) (g38 : Nat) (g39 : Nat) (g43 : Nat) (g44 : Nat) (g45 : Nat) (g46 : Nat) (g47 : Nat) (g48 : Nat) (g49 : Nat) (g51 : Nat) (g52 : Nat) (g53 : Nat) (g54 : Nat) (g55 : Nat) (g56 : Nat) (g60 : Nat) (g61 : Nat) (g62 : Nat) (g63 : Nat) (g65 : Nat) (g66 : Nat) (g67 : Nat) (g68 : Nat) (cP : ClassId) (fp : Nat → Int32) (cD : ClassId) (fd : Nat → Int32) (hp0 : fp 0 = -9) (hp1 : fp 1 = -9) (hp2 : fp 2 = 1) (hp3 : fp 3 = 1) (hp4 : fp 4 = 1) (hp5 : fp 5 = 1) (hfd : ∀ j, j < 144 → fd j = -9) : Met l yX12_digest wsX12_digest ({ frames := 0, cells := 0, slots := 0, locals := 0 }) (va_Pc [.ref m0] (pA D sz [(m0, .inr (12, [.int 0, .ref g1, .int 6, .ref g3, .ref g4, .int 0, .ref g6, .ref g7, .int 0, .ref g9, .ref g10, .ref g11, .ref g12, .ref g13, .ref g14, .int 0, .int 0, .int 0, .int 0, .int 0, .ref g20, .ref g21, .int (-9), .ref g23, .ref g24, .ref g25, .ref g26, .int 0, .ref g28, .ref g29, .ref g30, .ref g31, .ref g32, .int 0, .ref g34, .int 0, .int 0, .long 0, .ref g38, .ref g39, .int 0, .int 0, .int 0, .ref g43, .ref g44, .ref g45, .ref g46, .ref g47, .ref g48, .ref g49, .int 0, .ref g51, .ref g52, .ref g53, .ref g54, .ref g55, .ref g56, .int (-9), .int 0, .int 0, .ref g60, .ref g61, .ref g62, .ref g63, .int 0, .ref g65, .ref g66, .ref g67, .ref g68])), (g3, .inl (cP, 24, .inl fp)), (g4, .inl (cD, 144, .inl fd))] [(cP, .int), (cD, .int)])) (va_Ql (fun (r : Int64) (_ : Unit) => r = (-3475150264839019343)) oA (ro sz)) 0 0 (ro sz) := by
  refine Met.ofW (cc := cX12_digest) (maxL := 6) (ret := (some .long)) (by decide) rfl ?_
  intro p e s m args below meth c s₁ B hml hv
  obtain ⟨rfl, hsz, hP, hK⟩ := hv
  have hx := B.exec
  have hb := B.bytes
  have hr := B.returns
  have hts := atoms_spec (ws := wsX12_digest) B.pre
  have hown : s.vm.findClass RX12 = some m.cls := findClass_of_methodNamed B.named
  have hlocks := B.notSynchronized
  subst hsz
  have hA : ∀ q : Nat, s.heap.size ≤ q → ro s.heap.size q := fun _ h => h
  have hS : va_S (ro s.heap.size) s.heap s.heap [] := va_S.rf
  have hP : va_P D vwCl [(m0, .inr (12, [.int 0, .ref g1, .int 6, .ref g3, .ref g4, .int 0, .ref g6, .ref g7, .int 0, .ref g9, .ref g10, .ref g11, .ref g12, .ref g13, .ref g14, .int 0, .int 0, .int 0, .int 0, .int 0, .ref g20, .ref g21, .int (-9), .ref g23, .ref g24, .ref g25, .ref g26, .int 0, .ref g28, .ref g29, .ref g30, .ref g31, .ref g32, .int 0, .ref g34, .int 0, .int 0, .long 0, .ref g38, .ref g39, .int 0, .int 0, .int 0, .ref g43, .ref g44, .ref g45, .ref g46, .ref g47, .ref g48, .ref g49, .int 0, .ref g51, .ref g52, .ref g53, .ref g54, .ref g55, .ref g56, .int (-9), .int 0, .int 0, .ref g60, .ref g61, .ref g62, .ref g63, .int 0, .ref g65, .ref g66, .ref g67, .ref g68])), (g3, .inl (cP, 24, .inl fp)), (g4, .inl (cD, 144, .inl fd))] s.heap := hP
  have hl := lv_entry ([.ref m0]) (n := 6) (Nat.le_of_ble_eq_true rfl)
  rw [lg_entry_eq]
  generalize (lg_sl ([.ref m0]) ++ List.replicate (6 - (lg_sl ([.ref m0])).length) Slot.unset).toArray = ls at hl ⊢
  have hl : lv_has ls 6 [(0, .ref m0)] := hl
  refine lv_ldc2 (v := 17) hx hb hown (hts (.constantLong RX12 453 (17)) (by decide +kernel)) dX12_digest_0 ?_
  refine lv_lstore_n (lv' := [(1, .long 17), (0, .ref m0)]) hx hb dX12_digest_3 rfl hl (by decide) rfl (fun ls hl => ?_)
  refine lv_iconst (v := 0) hx hb dX12_digest_4 (by decide) ?_
  refine lv_istore_n (lv' := [(3, .int 0), (1, .long 17), (0, .ref m0)]) hx hb dX12_digest_5 rfl hl (by decide) rfl (fun ls hl => ?_)
  refine lv_iload_n hx hb dX12_digest_6 rfl (lv_at hl 0 rfl) ?_
  refine lv_aload_n hx hb dX12_digest_7 rfl (lv_at hl 2 rfl) ?_
  refine va_get (D := D) (ci := 12) (v := .int 6) (C := RX12) (T := TX12) (N := 69) hx hb hts (fun _ h => List.mem_cons_of_mem _ (List.mem_append_right _ h)) hown hK hP 0 rfl rfl 2 (by decide) (hts (.fieldLink RX12 151 "TalePlayModel" "kinds" "I") (by decide +kernel)) (fun _ h9 => h9) rfl dX12_digest_8 ?_
  refine lv_icmp_ge (tgt := 70) hx hb dX12_digest_11 (by decide) (fun q9 => absurd q9 (by decide)) (fun _ => ?_)
  refine lv_ldc2 (v := 31) hx hb hown (hts (.constantLong RX12 455 (31)) (by decide +kernel)) dX12_digest_14 ?_
  refine lv_lload_n hx hb dX12_digest_17 rfl (lv_at hl 1 rfl) ?_
  refine lv_lmul hx hb dX12_digest_18 ?_
  refine tp_l (y := 527) (by decide) ?_
  refine lv_aload_n hx hb dX12_digest_19 rfl (lv_at hl 2 rfl) ?_
  refine va_get (D := D) (ci := 12) (v := .ref g3) (C := RX12) (T := TX12) (N := 69) hx hb hts (fun _ h => List.mem_cons_of_mem _ (List.mem_append_right _ h)) hown hK hP 0 rfl rfl 3 (by decide) (hts (.fieldLink RX12 13 "TalePlayModel" "parentOf" "[I") (by decide +kernel)) (fun _ h9 => h9) rfl dX12_digest_20 ?_
  refine lv_iload_n hx hb dX12_digest_23 rfl (lv_at hl 0 rfl) ?_
  refine va_iald hx hb hK hP 1 0 rfl rfl (show vp_in 0 24 from by unfold vp_in; decide) dX12_digest_24 ?_
  refine tp_i (y := (-9)) hp0 ?_
  refine lv_i2l (v := (-9)) hx hb dX12_digest_25 (by decide) ?_
  refine lv_ladd hx hb dX12_digest_26 ?_
  refine tp_l (y := 518) (by decide) ?_
  refine lv_lstore_n (lv' := [(1, .long 518), (3, .int 0), (0, .ref m0)]) hx hb dX12_digest_27 rfl hl (by decide) rfl (fun ls hl => ?_)
  refine lv_iconst (v := 0) hx hb dX12_digest_28 (by decide) ?_
  refine lv_istore (lv' := [(4, .int 0), (1, .long 518), (3, .int 0), (0, .ref m0)]) hx hb dX12_digest_29 hl (by decide) rfl (fun ls hl => ?_)
  refine lv_iload hx hb dX12_digest_31 (lv_at hl 0 rfl) ?_
  refine lv_bipush (v := 6) hx hb dX12_digest_33 (by decide) ?_
  refine lv_icmp_ge (tgt := 64) hx hb dX12_digest_35 (by decide) (fun q9 => absurd q9 (by decide)) (fun _ => ?_)
  refine lv_ldc2 (v := 31) hx hb hown (hts (.constantLong RX12 455 (31)) (by decide +kernel)) dX12_digest_38 ?_
  refine lv_lload_n hx hb dX12_digest_41 rfl (lv_at hl 1 rfl) ?_
  refine lv_lmul hx hb dX12_digest_42 ?_
  refine tp_l (y := 16058) (by decide) ?_
  refine lv_aload_n hx hb dX12_digest_43 rfl (lv_at hl 3 rfl) ?_
  refine va_get (D := D) (ci := 12) (v := .ref g4) (C := RX12) (T := TX12) (N := 69) hx hb hts (fun _ h => List.mem_cons_of_mem _ (List.mem_append_right _ h)) hown hK hP 0 rfl rfl 4 (by decide) (hts (.fieldLink RX12 16 "TalePlayModel" "defaults" "[I") (by decide +kernel)) (fun _ h9 => h9) rfl dX12_digest_44 ?_
  refine lv_bipush (v := 6) hx hb dX12_digest_47 (by decide) ?_
  refine lv_iload_n hx hb dX12_digest_49 rfl (lv_at hl 2 rfl) ?_
  refine lv_imul hx hb dX12_digest_50 ?_
  refine tp_i (y := 0) (by decide) ?_
  refine lv_iload hx hb dX12_digest_51 (lv_at hl 0 rfl) ?_
  refine lv_iadd hx hb dX12_digest_53 ?_
  refine tp_i (y := 0) (by decide) ?_
  refine va_iald hx hb hK hP 2 1 rfl rfl (show vp_in 0 144 from by unfold vp_in; decide) dX12_digest_54 ?_
  refine tp_i (y := (-9)) (hfd _ (by decide)) ?_
  refine lv_i2l (v := (-9)) hx hb dX12_digest_55 (by decide) ?_
  refine lv_ladd hx hb dX12_digest_56 ?_
  refine tp_l (y := 16049) (by decide) ?_
  refine lv_lstore_n (lv' := [(1, .long 16049), (4, .int 0), (3, .int 0), (0, .ref m0)]) hx hb dX12_digest_57 rfl hl (by decide) rfl (fun ls hl => ?_)
  refine lv_iinc (v := 1) (lv' := [(4, .int 1), (1, .long 16049), (3, .int 0), (0, .ref m0)]) hx hb dX12_digest_58 hl (k := 1) rfl (by decide) (by decide) rfl (fun ls hl => ?_)
  refine lv_goto (tgt := 31) hx hb dX12_digest_61 (by decide) ?_
  refine lv_iload hx hb dX12_digest_31 (lv_at hl 0 rfl) ?_
  refine lv_bipush (v := 6) hx hb dX12_digest_33 (by decide) ?_
  refine lv_icmp_ge (tgt := 64) hx hb dX12_digest_35 (by decide) (fun q9 => absurd q9 (by decide)) (fun _ => ?_)
  refine lv_ldc2 (v := 31) hx hb hown (hts (.constantLong RX12 455 (31)) (by decide +kernel)) dX12_digest_38 ?_
  refine lv_lload_n hx hb dX12_digest_41 rfl (lv_at hl 1 rfl) ?_
  refine lv_lmul hx hb dX12_digest_42 ?_
  refine tp_l (y := 497519) (by decide) ?_
  refine lv_aload_n hx hb dX12_digest_43 rfl (lv_at hl 3 rfl) ?_
  refine va_get (D := D) (ci := 12) (v := .ref g4) (C := RX12) (T := TX12) (N := 69) hx hb hts (fun _ h => List.mem_cons_of_mem _ (List.mem_append_right _ h)) hown hK hP 0 rfl rfl 4 (by decide) (hts (.fieldLink RX12 16 "TalePlayModel" "defaults" "[I") (by decide +kernel)) (fun _ h9 => h9) rfl dX12_digest_44 ?_
  refine lv_bipush (v := 6) hx hb dX12_digest_47 (by decide) ?_
  refine lv_iload_n hx hb dX12_digest_49 rfl (lv_at hl 2 rfl) ?_
  refine lv_imul hx hb dX12_digest_50 ?_
  refine tp_i (y := 0) (by decide) ?_
  refine lv_iload hx hb dX12_digest_51 (lv_at hl 0 rfl) ?_
  refine lv_iadd hx hb dX12_digest_53 ?_
  refine tp_i (y := 1) (by decide) ?_
  refine va_iald hx hb hK hP 2 1 rfl rfl (show vp_in 1 144 from by unfold vp_in; decide) dX12_digest_54 ?_
  refine tp_i (y := (-9)) (hfd _ (by decide)) ?_
  refine lv_i2l (v := (-9)) hx hb dX12_digest_55 (by decide) ?_
  refine lv_ladd hx hb dX12_digest_56 ?_
  refine tp_l (y := 497510) (by decide) ?_
  refine lv_lstore_n (lv' := [(1, .long 497510), (4, .int 1), (3, .int 0), (0, .ref m0)]) hx hb dX12_digest_57 rfl hl (by decide) rfl (fun ls hl => ?_)
  refine lv_iinc (v := 2) (lv' := [(4, .int 2), (1, .long 497510), (3, .int 0), (0, .ref m0)]) hx hb dX12_digest_58 hl (k := 1) rfl (by decide) (by decide) rfl (fun ls hl => ?_)
  refine lv_goto (tgt := 31) hx hb dX12_digest_61 (by decide) ?_
  refine lv_iload hx hb dX12_digest_31 (lv_at hl 0 rfl) ?_
  refine lv_bipush (v := 6) hx hb dX12_digest_33 (by decide) ?_
  refine lv_icmp_ge (tgt := 64) hx hb dX12_digest_35 (by decide) (fun q9 => absurd q9 (by decide)) (fun _ => ?_)
  refine lv_ldc2 (v := 31) hx hb hown (hts (.constantLong RX12 455 (31)) (by decide +kernel)) dX12_digest_38 ?_
  refine lv_lload_n hx hb dX12_digest_41 rfl (lv_at hl 1 rfl) ?_
  refine lv_lmul hx hb dX12_digest_42 ?_
  refine tp_l (y := 15422810) (by decide) ?_
  refine lv_aload_n hx hb dX12_digest_43 rfl (lv_at hl 3 rfl) ?_
  refine va_get (D := D) (ci := 12) (v := .ref g4) (C := RX12) (T := TX12) (N := 69) hx hb hts (fun _ h => List.mem_cons_of_mem _ (List.mem_append_right _ h)) hown hK hP 0 rfl rfl 4 (by decide) (hts (.fieldLink RX12 16 "TalePlayModel" "defaults" "[I") (by decide +kernel)) (fun _ h9 => h9) rfl dX12_digest_44 ?_
  refine lv_bipush (v := 6) hx hb dX12_digest_47 (by decide) ?_
  refine lv_iload_n hx hb dX12_digest_49 rfl (lv_at hl 2 rfl) ?_
  refine lv_imul hx hb dX12_digest_50 ?_
  refine tp_i (y := 0) (by decide) ?_
  refine lv_iload hx hb dX12_digest_51 (lv_at hl 0 rfl) ?_
  refine lv_iadd hx hb dX12_digest_53 ?_
  refine tp_i (y := 2) (by decide) ?_
  refine va_iald hx hb hK hP 2 1 rfl rfl (show vp_in 2 144 from by unfold vp_in; decide) dX12_digest_54 ?_
  refine tp_i (y := (-9)) (hfd _ (by decide)) ?_
  refine lv_i2l (v := (-9)) hx hb dX12_digest_55 (by decide) ?_
  refine lv_ladd hx hb dX12_digest_56 ?_
  refine tp_l (y := 15422801) (by decide) ?_
  refine lv_lstore_n (lv' := [(1, .long 15422801), (4, .int 2), (3, .int 0), (0, .ref m0)]) hx hb dX12_digest_57 rfl hl (by decide) rfl (fun ls hl => ?_)
  refine lv_iinc (v := 3) (lv' := [(4, .int 3), (1, .long 15422801), (3, .int 0), (0, .ref m0)]) hx hb dX12_digest_58 hl (k := 1) rfl (by decide) (by decide) rfl (fun ls hl => ?_)
  refine lv_goto (tgt := 31) hx hb dX12_digest_61 (by decide) ?_
  refine lv_iload hx hb dX12_digest_31 (lv_at hl 0 rfl) ?_
  refine lv_bipush (v := 6) hx hb dX12_digest_33 (by decide) ?_
  refine lv_icmp_ge (tgt := 64) hx hb dX12_digest_35 (by decide) (fun q9 => absurd q9 (by decide)) (fun _ => ?_)
  refine lv_ldc2 (v := 31) hx hb hown (hts (.constantLong RX12 455 (31)) (by decide +kernel)) dX12_digest_38 ?_
  refine lv_lload_n hx hb dX12_digest_41 rfl (lv_at hl 1 rfl) ?_
  refine lv_lmul hx hb dX12_digest_42 ?_
  refine tp_l (y := 478106831) (by decide) ?_
  refine lv_aload_n hx hb dX12_digest_43 rfl (lv_at hl 3 rfl) ?_
  refine va_get (D := D) (ci := 12) (v := .ref g4) (C := RX12) (T := TX12) (N := 69) hx hb hts (fun _ h => List.mem_cons_of_mem _ (List.mem_append_right _ h)) hown hK hP 0 rfl rfl 4 (by decide) (hts (.fieldLink RX12 16 "TalePlayModel" "defaults" "[I") (by decide +kernel)) (fun _ h9 => h9) rfl dX12_digest_44 ?_
  refine lv_bipush (v := 6) hx hb dX12_digest_47 (by decide) ?_
  refine lv_iload_n hx hb dX12_digest_49 rfl (lv_at hl 2 rfl) ?_
  refine lv_imul hx hb dX12_digest_50 ?_
  refine tp_i (y := 0) (by decide) ?_
  refine lv_iload hx hb dX12_digest_51 (lv_at hl 0 rfl) ?_
  refine lv_iadd hx hb dX12_digest_53 ?_
  refine tp_i (y := 3) (by decide) ?_
  refine va_iald hx hb hK hP 2 1 rfl rfl (show vp_in 3 144 from by unfold vp_in; decide) dX12_digest_54 ?_
  refine tp_i (y := (-9)) (hfd _ (by decide)) ?_
  refine lv_i2l (v := (-9)) hx hb dX12_digest_55 (by decide) ?_
  refine lv_ladd hx hb dX12_digest_56 ?_
  refine tp_l (y := 478106822) (by decide) ?_
  refine lv_lstore_n (lv' := [(1, .long 478106822), (4, .int 3), (3, .int 0), (0, .ref m0)]) hx hb dX12_digest_57 rfl hl (by decide) rfl (fun ls hl => ?_)
  refine lv_iinc (v := 4) (lv' := [(4, .int 4), (1, .long 478106822), (3, .int 0), (0, .ref m0)]) hx hb dX12_digest_58 hl (k := 1) rfl (by decide) (by decide) rfl (fun ls hl => ?_)
  refine lv_goto (tgt := 31) hx hb dX12_digest_61 (by decide) ?_
  refine lv_iload hx hb dX12_digest_31 (lv_at hl 0 rfl) ?_
  refine lv_bipush (v := 6) hx hb dX12_digest_33 (by decide) ?_
  refine lv_icmp_ge (tgt := 64) hx hb dX12_digest_35 (by decide) (fun q9 => absurd q9 (by decide)) (fun _ => ?_)
  refine lv_ldc2 (v := 31) hx hb hown (hts (.constantLong RX12 455 (31)) (by decide +kernel)) dX12_digest_38 ?_
  refine lv_lload_n hx hb dX12_digest_41 rfl (lv_at hl 1 rfl) ?_
  refine lv_lmul hx hb dX12_digest_42 ?_
  refine tp_l (y := 14821311482) (by decide) ?_
  refine lv_aload_n hx hb dX12_digest_43 rfl (lv_at hl 3 rfl) ?_
  refine va_get (D := D) (ci := 12) (v := .ref g4) (C := RX12) (T := TX12) (N := 69) hx hb hts (fun _ h => List.mem_cons_of_mem _ (List.mem_append_right _ h)) hown hK hP 0 rfl rfl 4 (by decide) (hts (.fieldLink RX12 16 "TalePlayModel" "defaults" "[I") (by decide +kernel)) (fun _ h9 => h9) rfl dX12_digest_44 ?_
  refine lv_bipush (v := 6) hx hb dX12_digest_47 (by decide) ?_
  refine lv_iload_n hx hb dX12_digest_49 rfl (lv_at hl 2 rfl) ?_
  refine lv_imul hx hb dX12_digest_50 ?_
  refine tp_i (y := 0) (by decide) ?_
  refine lv_iload hx hb dX12_digest_51 (lv_at hl 0 rfl) ?_
  refine lv_iadd hx hb dX12_digest_53 ?_
  refine tp_i (y := 4) (by decide) ?_
  refine va_iald hx hb hK hP 2 1 rfl rfl (show vp_in 4 144 from by unfold vp_in; decide) dX12_digest_54 ?_
  refine tp_i (y := (-9)) (hfd _ (by decide)) ?_
  refine lv_i2l (v := (-9)) hx hb dX12_digest_55 (by decide) ?_
  refine lv_ladd hx hb dX12_digest_56 ?_
  refine tp_l (y := 14821311473) (by decide) ?_
  refine lv_lstore_n (lv' := [(1, .long 14821311473), (4, .int 4), (3, .int 0), (0, .ref m0)]) hx hb dX12_digest_57 rfl hl (by decide) rfl (fun ls hl => ?_)
  refine lv_iinc (v := 5) (lv' := [(4, .int 5), (1, .long 14821311473), (3, .int 0), (0, .ref m0)]) hx hb dX12_digest_58 hl (k := 1) rfl (by decide) (by decide) rfl (fun ls hl => ?_)
  refine lv_goto (tgt := 31) hx hb dX12_digest_61 (by decide) ?_
  refine lv_iload hx hb dX12_digest_31 (lv_at hl 0 rfl) ?_
  refine lv_bipush (v := 6) hx hb dX12_digest_33 (by decide) ?_
  refine lv_icmp_ge (tgt := 64) hx hb dX12_digest_35 (by decide) (fun q9 => absurd q9 (by decide)) (fun _ => ?_)
  refine lv_ldc2 (v := 31) hx hb hown (hts (.constantLong RX12 455 (31)) (by decide +kernel)) dX12_digest_38 ?_
  refine lv_lload_n hx hb dX12_digest_41 rfl (lv_at hl 1 rfl) ?_
  refine lv_lmul hx hb dX12_digest_42 ?_
  refine tp_l (y := 459460655663) (by decide) ?_
  refine lv_aload_n hx hb dX12_digest_43 rfl (lv_at hl 3 rfl) ?_
  refine va_get (D := D) (ci := 12) (v := .ref g4) (C := RX12) (T := TX12) (N := 69) hx hb hts (fun _ h => List.mem_cons_of_mem _ (List.mem_append_right _ h)) hown hK hP 0 rfl rfl 4 (by decide) (hts (.fieldLink RX12 16 "TalePlayModel" "defaults" "[I") (by decide +kernel)) (fun _ h9 => h9) rfl dX12_digest_44 ?_
  refine lv_bipush (v := 6) hx hb dX12_digest_47 (by decide) ?_
  refine lv_iload_n hx hb dX12_digest_49 rfl (lv_at hl 2 rfl) ?_
  refine lv_imul hx hb dX12_digest_50 ?_
  refine tp_i (y := 0) (by decide) ?_
  refine lv_iload hx hb dX12_digest_51 (lv_at hl 0 rfl) ?_
  refine lv_iadd hx hb dX12_digest_53 ?_
  refine tp_i (y := 5) (by decide) ?_
  refine va_iald hx hb hK hP 2 1 rfl rfl (show vp_in 5 144 from by unfold vp_in; decide) dX12_digest_54 ?_
  refine tp_i (y := (-9)) (hfd _ (by decide)) ?_
  refine lv_i2l (v := (-9)) hx hb dX12_digest_55 (by decide) ?_
  refine lv_ladd hx hb dX12_digest_56 ?_
  refine tp_l (y := 459460655654) (by decide) ?_
  refine lv_lstore_n (lv' := [(1, .long 459460655654), (4, .int 5), (3, .int 0), (0, .ref m0)]) hx hb dX12_digest_57 rfl hl (by decide) rfl (fun ls hl => ?_)
  refine lv_iinc (v := 6) (lv' := [(4, .int 6), (1, .long 459460655654), (3, .int 0), (0, .ref m0)]) hx hb dX12_digest_58 hl (k := 1) rfl (by decide) (by decide) rfl (fun ls hl => ?_)
  refine lv_goto (tgt := 31) hx hb dX12_digest_61 (by decide) ?_
  refine lv_iload hx hb dX12_digest_31 (lv_at hl 0 rfl) ?_
  refine lv_bipush (v := 6) hx hb dX12_digest_33 (by decide) ?_
  refine lv_icmp_ge (tgt := 64) hx hb dX12_digest_35 (by decide) (fun _ => ?_) (fun q9 => absurd (by decide) q9)
  refine lv_iinc (v := 1) (lv' := [(3, .int 1), (4, .int 6), (1, .long 459460655654), (0, .ref m0)]) hx hb dX12_digest_64 hl (k := 2) rfl (by decide) (by decide) rfl (fun ls hl => ?_)
  refine lv_goto (tgt := 6) hx hb dX12_digest_67 (by decide) ?_
  refine lv_iload_n hx hb dX12_digest_6 rfl (lv_at hl 0 rfl) ?_
  refine lv_aload_n hx hb dX12_digest_7 rfl (lv_at hl 3 rfl) ?_
  refine va_get (D := D) (ci := 12) (v := .int 6) (C := RX12) (T := TX12) (N := 69) hx hb hts (fun _ h => List.mem_cons_of_mem _ (List.mem_append_right _ h)) hown hK hP 0 rfl rfl 2 (by decide) (hts (.fieldLink RX12 151 "TalePlayModel" "kinds" "I") (by decide +kernel)) (fun _ h9 => h9) rfl dX12_digest_8 ?_
  refine lv_icmp_ge (tgt := 70) hx hb dX12_digest_11 (by decide) (fun q9 => absurd q9 (by decide)) (fun _ => ?_)
  refine lv_ldc2 (v := 31) hx hb hown (hts (.constantLong RX12 455 (31)) (by decide +kernel)) dX12_digest_14 ?_
  refine lv_lload_n hx hb dX12_digest_17 rfl (lv_at hl 2 rfl) ?_
  refine lv_lmul hx hb dX12_digest_18 ?_
  refine tp_l (y := 14243280325274) (by decide) ?_
  refine lv_aload_n hx hb dX12_digest_19 rfl (lv_at hl 3 rfl) ?_
  refine va_get (D := D) (ci := 12) (v := .ref g3) (C := RX12) (T := TX12) (N := 69) hx hb hts (fun _ h => List.mem_cons_of_mem _ (List.mem_append_right _ h)) hown hK hP 0 rfl rfl 3 (by decide) (hts (.fieldLink RX12 13 "TalePlayModel" "parentOf" "[I") (by decide +kernel)) (fun _ h9 => h9) rfl dX12_digest_20 ?_
  refine lv_iload_n hx hb dX12_digest_23 rfl (lv_at hl 0 rfl) ?_
  refine va_iald hx hb hK hP 1 0 rfl rfl (show vp_in 1 24 from by unfold vp_in; decide) dX12_digest_24 ?_
  refine tp_i (y := (-9)) hp1 ?_
  refine lv_i2l (v := (-9)) hx hb dX12_digest_25 (by decide) ?_
  refine lv_ladd hx hb dX12_digest_26 ?_
  refine tp_l (y := 14243280325265) (by decide) ?_
  refine lv_lstore_n (lv' := [(1, .long 14243280325265), (3, .int 1), (4, .int 6), (0, .ref m0)]) hx hb dX12_digest_27 rfl hl (by decide) rfl (fun ls hl => ?_)
  refine lv_iconst (v := 0) hx hb dX12_digest_28 (by decide) ?_
  refine lv_istore (lv' := [(4, .int 0), (1, .long 14243280325265), (3, .int 1), (0, .ref m0)]) hx hb dX12_digest_29 hl (by decide) rfl (fun ls hl => ?_)
  refine lv_iload hx hb dX12_digest_31 (lv_at hl 0 rfl) ?_
  refine lv_bipush (v := 6) hx hb dX12_digest_33 (by decide) ?_
  refine lv_icmp_ge (tgt := 64) hx hb dX12_digest_35 (by decide) (fun q9 => absurd q9 (by decide)) (fun _ => ?_)
  refine lv_ldc2 (v := 31) hx hb hown (hts (.constantLong RX12 455 (31)) (by decide +kernel)) dX12_digest_38 ?_
  refine lv_lload_n hx hb dX12_digest_41 rfl (lv_at hl 1 rfl) ?_
  refine lv_lmul hx hb dX12_digest_42 ?_
  refine tp_l (y := 441541690083215) (by decide) ?_
  refine lv_aload_n hx hb dX12_digest_43 rfl (lv_at hl 3 rfl) ?_
  refine va_get (D := D) (ci := 12) (v := .ref g4) (C := RX12) (T := TX12) (N := 69) hx hb hts (fun _ h => List.mem_cons_of_mem _ (List.mem_append_right _ h)) hown hK hP 0 rfl rfl 4 (by decide) (hts (.fieldLink RX12 16 "TalePlayModel" "defaults" "[I") (by decide +kernel)) (fun _ h9 => h9) rfl dX12_digest_44 ?_
  refine lv_bipush (v := 6) hx hb dX12_digest_47 (by decide) ?_
  refine lv_iload_n hx hb dX12_digest_49 rfl (lv_at hl 2 rfl) ?_
  refine lv_imul hx hb dX12_digest_50 ?_
  refine tp_i (y := 6) (by decide) ?_
  refine lv_iload hx hb dX12_digest_51 (lv_at hl 0 rfl) ?_
  refine lv_iadd hx hb dX12_digest_53 ?_
  refine tp_i (y := 6) (by decide) ?_
  refine va_iald hx hb hK hP 2 1 rfl rfl (show vp_in 6 144 from by unfold vp_in; decide) dX12_digest_54 ?_
  refine tp_i (y := (-9)) (hfd _ (by decide)) ?_
  refine lv_i2l (v := (-9)) hx hb dX12_digest_55 (by decide) ?_
  refine lv_ladd hx hb dX12_digest_56 ?_
  refine tp_l (y := 441541690083206) (by decide) ?_
  refine lv_lstore_n (lv' := [(1, .long 441541690083206), (4, .int 0), (3, .int 1), (0, .ref m0)]) hx hb dX12_digest_57 rfl hl (by decide) rfl (fun ls hl => ?_)
  refine lv_iinc (v := 1) (lv' := [(4, .int 1), (1, .long 441541690083206), (3, .int 1), (0, .ref m0)]) hx hb dX12_digest_58 hl (k := 1) rfl (by decide) (by decide) rfl (fun ls hl => ?_)
  refine lv_goto (tgt := 31) hx hb dX12_digest_61 (by decide) ?_
  refine lv_iload hx hb dX12_digest_31 (lv_at hl 0 rfl) ?_
  refine lv_bipush (v := 6) hx hb dX12_digest_33 (by decide) ?_
  refine lv_icmp_ge (tgt := 64) hx hb dX12_digest_35 (by decide) (fun q9 => absurd q9 (by decide)) (fun _ => ?_)
  refine lv_ldc2 (v := 31) hx hb hown (hts (.constantLong RX12 455 (31)) (by decide +kernel)) dX12_digest_38 ?_
  refine lv_lload_n hx hb dX12_digest_41 rfl (lv_at hl 1 rfl) ?_
  refine lv_lmul hx hb dX12_digest_42 ?_
  refine tp_l (y := 13687792392579386) (by decide) ?_
  refine lv_aload_n hx hb dX12_digest_43 rfl (lv_at hl 3 rfl) ?_
  refine va_get (D := D) (ci := 12) (v := .ref g4) (C := RX12) (T := TX12) (N := 69) hx hb hts (fun _ h => List.mem_cons_of_mem _ (List.mem_append_right _ h)) hown hK hP 0 rfl rfl 4 (by decide) (hts (.fieldLink RX12 16 "TalePlayModel" "defaults" "[I") (by decide +kernel)) (fun _ h9 => h9) rfl dX12_digest_44 ?_
  refine lv_bipush (v := 6) hx hb dX12_digest_47 (by decide) ?_
  refine lv_iload_n hx hb dX12_digest_49 rfl (lv_at hl 2 rfl) ?_
  refine lv_imul hx hb dX12_digest_50 ?_
  refine tp_i (y := 6) (by decide) ?_
  refine lv_iload hx hb dX12_digest_51 (lv_at hl 0 rfl) ?_
  refine lv_iadd hx hb dX12_digest_53 ?_
  refine tp_i (y := 7) (by decide) ?_
  refine va_iald hx hb hK hP 2 1 rfl rfl (show vp_in 7 144 from by unfold vp_in; decide) dX12_digest_54 ?_
  refine tp_i (y := (-9)) (hfd _ (by decide)) ?_
  refine lv_i2l (v := (-9)) hx hb dX12_digest_55 (by decide) ?_
  refine lv_ladd hx hb dX12_digest_56 ?_
  refine tp_l (y := 13687792392579377) (by decide) ?_
  refine lv_lstore_n (lv' := [(1, .long 13687792392579377), (4, .int 1), (3, .int 1), (0, .ref m0)]) hx hb dX12_digest_57 rfl hl (by decide) rfl (fun ls hl => ?_)
  refine lv_iinc (v := 2) (lv' := [(4, .int 2), (1, .long 13687792392579377), (3, .int 1), (0, .ref m0)]) hx hb dX12_digest_58 hl (k := 1) rfl (by decide) (by decide) rfl (fun ls hl => ?_)
  refine lv_goto (tgt := 31) hx hb dX12_digest_61 (by decide) ?_
  refine lv_iload hx hb dX12_digest_31 (lv_at hl 0 rfl) ?_
  refine lv_bipush (v := 6) hx hb dX12_digest_33 (by decide) ?_
  refine lv_icmp_ge (tgt := 64) hx hb dX12_digest_35 (by decide) (fun q9 => absurd q9 (by decide)) (fun _ => ?_)
  refine lv_ldc2 (v := 31) hx hb hown (hts (.constantLong RX12 455 (31)) (by decide +kernel)) dX12_digest_38 ?_
  refine lv_lload_n hx hb dX12_digest_41 rfl (lv_at hl 1 rfl) ?_
  refine lv_lmul hx hb dX12_digest_42 ?_
  refine tp_l (y := 424321564169960687) (by decide) ?_
  refine lv_aload_n hx hb dX12_digest_43 rfl (lv_at hl 3 rfl) ?_
  refine va_get (D := D) (ci := 12) (v := .ref g4) (C := RX12) (T := TX12) (N := 69) hx hb hts (fun _ h => List.mem_cons_of_mem _ (List.mem_append_right _ h)) hown hK hP 0 rfl rfl 4 (by decide) (hts (.fieldLink RX12 16 "TalePlayModel" "defaults" "[I") (by decide +kernel)) (fun _ h9 => h9) rfl dX12_digest_44 ?_
  refine lv_bipush (v := 6) hx hb dX12_digest_47 (by decide) ?_
  refine lv_iload_n hx hb dX12_digest_49 rfl (lv_at hl 2 rfl) ?_
  refine lv_imul hx hb dX12_digest_50 ?_
  refine tp_i (y := 6) (by decide) ?_
  refine lv_iload hx hb dX12_digest_51 (lv_at hl 0 rfl) ?_
  refine lv_iadd hx hb dX12_digest_53 ?_
  refine tp_i (y := 8) (by decide) ?_
  refine va_iald hx hb hK hP 2 1 rfl rfl (show vp_in 8 144 from by unfold vp_in; decide) dX12_digest_54 ?_
  refine tp_i (y := (-9)) (hfd _ (by decide)) ?_
  refine lv_i2l (v := (-9)) hx hb dX12_digest_55 (by decide) ?_
  refine lv_ladd hx hb dX12_digest_56 ?_
  refine tp_l (y := 424321564169960678) (by decide) ?_
  refine lv_lstore_n (lv' := [(1, .long 424321564169960678), (4, .int 2), (3, .int 1), (0, .ref m0)]) hx hb dX12_digest_57 rfl hl (by decide) rfl (fun ls hl => ?_)
  refine lv_iinc (v := 3) (lv' := [(4, .int 3), (1, .long 424321564169960678), (3, .int 1), (0, .ref m0)]) hx hb dX12_digest_58 hl (k := 1) rfl (by decide) (by decide) rfl (fun ls hl => ?_)
  refine lv_goto (tgt := 31) hx hb dX12_digest_61 (by decide) ?_
  refine lv_iload hx hb dX12_digest_31 (lv_at hl 0 rfl) ?_
  refine lv_bipush (v := 6) hx hb dX12_digest_33 (by decide) ?_
  refine lv_icmp_ge (tgt := 64) hx hb dX12_digest_35 (by decide) (fun q9 => absurd q9 (by decide)) (fun _ => ?_)
  refine lv_ldc2 (v := 31) hx hb hown (hts (.constantLong RX12 455 (31)) (by decide +kernel)) dX12_digest_38 ?_
  refine lv_lload_n hx hb dX12_digest_41 rfl (lv_at hl 1 rfl) ?_
  refine lv_lmul hx hb dX12_digest_42 ?_
  refine tp_l (y := (-5292775584440770598)) (by decide) ?_
  refine lv_aload_n hx hb dX12_digest_43 rfl (lv_at hl 3 rfl) ?_
  refine va_get (D := D) (ci := 12) (v := .ref g4) (C := RX12) (T := TX12) (N := 69) hx hb hts (fun _ h => List.mem_cons_of_mem _ (List.mem_append_right _ h)) hown hK hP 0 rfl rfl 4 (by decide) (hts (.fieldLink RX12 16 "TalePlayModel" "defaults" "[I") (by decide +kernel)) (fun _ h9 => h9) rfl dX12_digest_44 ?_
  refine lv_bipush (v := 6) hx hb dX12_digest_47 (by decide) ?_
  refine lv_iload_n hx hb dX12_digest_49 rfl (lv_at hl 2 rfl) ?_
  refine lv_imul hx hb dX12_digest_50 ?_
  refine tp_i (y := 6) (by decide) ?_
  refine lv_iload hx hb dX12_digest_51 (lv_at hl 0 rfl) ?_
  refine lv_iadd hx hb dX12_digest_53 ?_
  refine tp_i (y := 9) (by decide) ?_
  refine va_iald hx hb hK hP 2 1 rfl rfl (show vp_in 9 144 from by unfold vp_in; decide) dX12_digest_54 ?_
  refine tp_i (y := (-9)) (hfd _ (by decide)) ?_
  refine lv_i2l (v := (-9)) hx hb dX12_digest_55 (by decide) ?_
  refine lv_ladd hx hb dX12_digest_56 ?_
  refine tp_l (y := (-5292775584440770607)) (by decide) ?_
  refine lv_lstore_n (lv' := [(1, .long (-5292775584440770607)), (4, .int 3), (3, .int 1), (0, .ref m0)]) hx hb dX12_digest_57 rfl hl (by decide) rfl (fun ls hl => ?_)
  refine lv_iinc (v := 4) (lv' := [(4, .int 4), (1, .long (-5292775584440770607)), (3, .int 1), (0, .ref m0)]) hx hb dX12_digest_58 hl (k := 1) rfl (by decide) (by decide) rfl (fun ls hl => ?_)
  refine lv_goto (tgt := 31) hx hb dX12_digest_61 (by decide) ?_
  refine lv_iload hx hb dX12_digest_31 (lv_at hl 0 rfl) ?_
  refine lv_bipush (v := 6) hx hb dX12_digest_33 (by decide) ?_
  refine lv_icmp_ge (tgt := 64) hx hb dX12_digest_35 (by decide) (fun q9 => absurd q9 (by decide)) (fun _ => ?_)
  refine lv_ldc2 (v := 31) hx hb hown (hts (.constantLong RX12 455 (31)) (by decide +kernel)) dX12_digest_38 ?_
  refine lv_lload_n hx hb dX12_digest_41 rfl (lv_at hl 1 rfl) ?_
  refine lv_lmul hx hb dX12_digest_42 ?_
  refine tp_l (y := 1944653545722075727) (by decide) ?_
  refine lv_aload_n hx hb dX12_digest_43 rfl (lv_at hl 3 rfl) ?_
  refine va_get (D := D) (ci := 12) (v := .ref g4) (C := RX12) (T := TX12) (N := 69) hx hb hts (fun _ h => List.mem_cons_of_mem _ (List.mem_append_right _ h)) hown hK hP 0 rfl rfl 4 (by decide) (hts (.fieldLink RX12 16 "TalePlayModel" "defaults" "[I") (by decide +kernel)) (fun _ h9 => h9) rfl dX12_digest_44 ?_
  refine lv_bipush (v := 6) hx hb dX12_digest_47 (by decide) ?_
  refine lv_iload_n hx hb dX12_digest_49 rfl (lv_at hl 2 rfl) ?_
  refine lv_imul hx hb dX12_digest_50 ?_
  refine tp_i (y := 6) (by decide) ?_
  refine lv_iload hx hb dX12_digest_51 (lv_at hl 0 rfl) ?_
  refine lv_iadd hx hb dX12_digest_53 ?_
  refine tp_i (y := 10) (by decide) ?_
  refine va_iald hx hb hK hP 2 1 rfl rfl (show vp_in 10 144 from by unfold vp_in; decide) dX12_digest_54 ?_
  refine tp_i (y := (-9)) (hfd _ (by decide)) ?_
  refine lv_i2l (v := (-9)) hx hb dX12_digest_55 (by decide) ?_
  refine lv_ladd hx hb dX12_digest_56 ?_
  refine tp_l (y := 1944653545722075718) (by decide) ?_
  refine lv_lstore_n (lv' := [(1, .long 1944653545722075718), (4, .int 4), (3, .int 1), (0, .ref m0)]) hx hb dX12_digest_57 rfl hl (by decide) rfl (fun ls hl => ?_)
  refine lv_iinc (v := 5) (lv' := [(4, .int 5), (1, .long 1944653545722075718), (3, .int 1), (0, .ref m0)]) hx hb dX12_digest_58 hl (k := 1) rfl (by decide) (by decide) rfl (fun ls hl => ?_)
  refine lv_goto (tgt := 31) hx hb dX12_digest_61 (by decide) ?_
  refine lv_iload hx hb dX12_digest_31 (lv_at hl 0 rfl) ?_
  refine lv_bipush (v := 6) hx hb dX12_digest_33 (by decide) ?_
  refine lv_icmp_ge (tgt := 64) hx hb dX12_digest_35 (by decide) (fun q9 => absurd q9 (by decide)) (fun _ => ?_)
  refine lv_ldc2 (v := 31) hx hb hown (hts (.constantLong RX12 455 (31)) (by decide +kernel)) dX12_digest_38 ?_
  refine lv_lload_n hx hb dX12_digest_41 rfl (lv_at hl 1 rfl) ?_
  refine lv_lmul hx hb dX12_digest_42 ?_
  refine tp_l (y := 4944027696255692410) (by decide) ?_
  refine lv_aload_n hx hb dX12_digest_43 rfl (lv_at hl 3 rfl) ?_
  refine va_get (D := D) (ci := 12) (v := .ref g4) (C := RX12) (T := TX12) (N := 69) hx hb hts (fun _ h => List.mem_cons_of_mem _ (List.mem_append_right _ h)) hown hK hP 0 rfl rfl 4 (by decide) (hts (.fieldLink RX12 16 "TalePlayModel" "defaults" "[I") (by decide +kernel)) (fun _ h9 => h9) rfl dX12_digest_44 ?_
  refine lv_bipush (v := 6) hx hb dX12_digest_47 (by decide) ?_
  refine lv_iload_n hx hb dX12_digest_49 rfl (lv_at hl 2 rfl) ?_
  refine lv_imul hx hb dX12_digest_50 ?_
  refine tp_i (y := 6) (by decide) ?_
  refine lv_iload hx hb dX12_digest_51 (lv_at hl 0 rfl) ?_
  refine lv_iadd hx hb dX12_digest_53 ?_
  refine tp_i (y := 11) (by decide) ?_
  refine va_iald hx hb hK hP 2 1 rfl rfl (show vp_in 11 144 from by unfold vp_in; decide) dX12_digest_54 ?_
  refine tp_i (y := (-9)) (hfd _ (by decide)) ?_
  refine lv_i2l (v := (-9)) hx hb dX12_digest_55 (by decide) ?_
  refine lv_ladd hx hb dX12_digest_56 ?_
  refine tp_l (y := 4944027696255692401) (by decide) ?_
  refine lv_lstore_n (lv' := [(1, .long 4944027696255692401), (4, .int 5), (3, .int 1), (0, .ref m0)]) hx hb dX12_digest_57 rfl hl (by decide) rfl (fun ls hl => ?_)
  refine lv_iinc (v := 6) (lv' := [(4, .int 6), (1, .long 4944027696255692401), (3, .int 1), (0, .ref m0)]) hx hb dX12_digest_58 hl (k := 1) rfl (by decide) (by decide) rfl (fun ls hl => ?_)
  refine lv_goto (tgt := 31) hx hb dX12_digest_61 (by decide) ?_
  refine lv_iload hx hb dX12_digest_31 (lv_at hl 0 rfl) ?_
  refine lv_bipush (v := 6) hx hb dX12_digest_33 (by decide) ?_
  refine lv_icmp_ge (tgt := 64) hx hb dX12_digest_35 (by decide) (fun _ => ?_) (fun q9 => absurd (by decide) q9)
  refine lv_iinc (v := 2) (lv' := [(3, .int 2), (4, .int 6), (1, .long 4944027696255692401), (0, .ref m0)]) hx hb dX12_digest_64 hl (k := 2) rfl (by decide) (by decide) rfl (fun ls hl => ?_)
  refine lv_goto (tgt := 6) hx hb dX12_digest_67 (by decide) ?_
  refine lv_iload_n hx hb dX12_digest_6 rfl (lv_at hl 0 rfl) ?_
  refine lv_aload_n hx hb dX12_digest_7 rfl (lv_at hl 3 rfl) ?_
  refine va_get (D := D) (ci := 12) (v := .int 6) (C := RX12) (T := TX12) (N := 69) hx hb hts (fun _ h => List.mem_cons_of_mem _ (List.mem_append_right _ h)) hown hK hP 0 rfl rfl 2 (by decide) (hts (.fieldLink RX12 151 "TalePlayModel" "kinds" "I") (by decide +kernel)) (fun _ h9 => h9) rfl dX12_digest_8 ?_
  refine lv_icmp_ge (tgt := 70) hx hb dX12_digest_11 (by decide) (fun q9 => absurd q9 (by decide)) (fun _ => ?_)
  refine lv_ldc2 (v := 31) hx hb hown (hts (.constantLong RX12 455 (31)) (by decide +kernel)) dX12_digest_14 ?_
  refine lv_lload_n hx hb dX12_digest_17 rfl (lv_at hl 2 rfl) ?_
  refine lv_lmul hx hb dX12_digest_18 ?_
  refine tp_l (y := 5690905994250051503) (by decide) ?_
  refine lv_aload_n hx hb dX12_digest_19 rfl (lv_at hl 3 rfl) ?_
  refine va_get (D := D) (ci := 12) (v := .ref g3) (C := RX12) (T := TX12) (N := 69) hx hb hts (fun _ h => List.mem_cons_of_mem _ (List.mem_append_right _ h)) hown hK hP 0 rfl rfl 3 (by decide) (hts (.fieldLink RX12 13 "TalePlayModel" "parentOf" "[I") (by decide +kernel)) (fun _ h9 => h9) rfl dX12_digest_20 ?_
  refine lv_iload_n hx hb dX12_digest_23 rfl (lv_at hl 0 rfl) ?_
  refine va_iald hx hb hK hP 1 0 rfl rfl (show vp_in 2 24 from by unfold vp_in; decide) dX12_digest_24 ?_
  refine tp_i (y := 1) hp2 ?_
  refine lv_i2l (v := 1) hx hb dX12_digest_25 (by decide) ?_
  refine lv_ladd hx hb dX12_digest_26 ?_
  refine tp_l (y := 5690905994250051504) (by decide) ?_
  refine lv_lstore_n (lv' := [(1, .long 5690905994250051504), (3, .int 2), (4, .int 6), (0, .ref m0)]) hx hb dX12_digest_27 rfl hl (by decide) rfl (fun ls hl => ?_)
  refine lv_iconst (v := 0) hx hb dX12_digest_28 (by decide) ?_
  refine lv_istore (lv' := [(4, .int 0), (1, .long 5690905994250051504), (3, .int 2), (0, .ref m0)]) hx hb dX12_digest_29 hl (by decide) rfl (fun ls hl => ?_)
  refine lv_iload hx hb dX12_digest_31 (lv_at hl 0 rfl) ?_
  refine lv_bipush (v := 6) hx hb dX12_digest_33 (by decide) ?_
  refine lv_icmp_ge (tgt := 64) hx hb dX12_digest_35 (by decide) (fun q9 => absurd q9 (by decide)) (fun _ => ?_)
  refine lv_ldc2 (v := 31) hx hb hown (hts (.constantLong RX12 455 (31)) (by decide +kernel)) dX12_digest_38 ?_
  refine lv_lload_n hx hb dX12_digest_41 rfl (lv_at hl 1 rfl) ?_
  refine lv_lmul hx hb dX12_digest_42 ?_
  refine tp_l (y := (-8049354915343919536)) (by decide) ?_
  refine lv_aload_n hx hb dX12_digest_43 rfl (lv_at hl 3 rfl) ?_
  refine va_get (D := D) (ci := 12) (v := .ref g4) (C := RX12) (T := TX12) (N := 69) hx hb hts (fun _ h => List.mem_cons_of_mem _ (List.mem_append_right _ h)) hown hK hP 0 rfl rfl 4 (by decide) (hts (.fieldLink RX12 16 "TalePlayModel" "defaults" "[I") (by decide +kernel)) (fun _ h9 => h9) rfl dX12_digest_44 ?_
  refine lv_bipush (v := 6) hx hb dX12_digest_47 (by decide) ?_
  refine lv_iload_n hx hb dX12_digest_49 rfl (lv_at hl 2 rfl) ?_
  refine lv_imul hx hb dX12_digest_50 ?_
  refine tp_i (y := 12) (by decide) ?_
  refine lv_iload hx hb dX12_digest_51 (lv_at hl 0 rfl) ?_
  refine lv_iadd hx hb dX12_digest_53 ?_
  refine tp_i (y := 12) (by decide) ?_
  refine va_iald hx hb hK hP 2 1 rfl rfl (show vp_in 12 144 from by unfold vp_in; decide) dX12_digest_54 ?_
  refine tp_i (y := (-9)) (hfd _ (by decide)) ?_
  refine lv_i2l (v := (-9)) hx hb dX12_digest_55 (by decide) ?_
  refine lv_ladd hx hb dX12_digest_56 ?_
  refine tp_l (y := (-8049354915343919545)) (by decide) ?_
  refine lv_lstore_n (lv' := [(1, .long (-8049354915343919545)), (4, .int 0), (3, .int 2), (0, .ref m0)]) hx hb dX12_digest_57 rfl hl (by decide) rfl (fun ls hl => ?_)
  refine lv_iinc (v := 1) (lv' := [(4, .int 1), (1, .long (-8049354915343919545)), (3, .int 2), (0, .ref m0)]) hx hb dX12_digest_58 hl (k := 1) rfl (by decide) (by decide) rfl (fun ls hl => ?_)
  refine lv_goto (tgt := 31) hx hb dX12_digest_61 (by decide) ?_
  refine lv_iload hx hb dX12_digest_31 (lv_at hl 0 rfl) ?_
  refine lv_bipush (v := 6) hx hb dX12_digest_33 (by decide) ?_
  refine lv_icmp_ge (tgt := 64) hx hb dX12_digest_35 (by decide) (fun q9 => absurd q9 (by decide)) (fun _ => ?_)
  refine lv_ldc2 (v := 31) hx hb hown (hts (.constantLong RX12 455 (31)) (by decide +kernel)) dX12_digest_38 ?_
  refine lv_lload_n hx hb dX12_digest_41 rfl (lv_at hl 1 rfl) ?_
  refine lv_lmul hx hb dX12_digest_42 ?_
  refine tp_l (y := 8724414656272216729) (by decide) ?_
  refine lv_aload_n hx hb dX12_digest_43 rfl (lv_at hl 3 rfl) ?_
  refine va_get (D := D) (ci := 12) (v := .ref g4) (C := RX12) (T := TX12) (N := 69) hx hb hts (fun _ h => List.mem_cons_of_mem _ (List.mem_append_right _ h)) hown hK hP 0 rfl rfl 4 (by decide) (hts (.fieldLink RX12 16 "TalePlayModel" "defaults" "[I") (by decide +kernel)) (fun _ h9 => h9) rfl dX12_digest_44 ?_
  refine lv_bipush (v := 6) hx hb dX12_digest_47 (by decide) ?_
  refine lv_iload_n hx hb dX12_digest_49 rfl (lv_at hl 2 rfl) ?_
  refine lv_imul hx hb dX12_digest_50 ?_
  refine tp_i (y := 12) (by decide) ?_
  refine lv_iload hx hb dX12_digest_51 (lv_at hl 0 rfl) ?_
  refine lv_iadd hx hb dX12_digest_53 ?_
  refine tp_i (y := 13) (by decide) ?_
  refine va_iald hx hb hK hP 2 1 rfl rfl (show vp_in 13 144 from by unfold vp_in; decide) dX12_digest_54 ?_
  refine tp_i (y := (-9)) (hfd _ (by decide)) ?_
  refine lv_i2l (v := (-9)) hx hb dX12_digest_55 (by decide) ?_
  refine lv_ladd hx hb dX12_digest_56 ?_
  refine tp_l (y := 8724414656272216720) (by decide) ?_
  refine lv_lstore_n (lv' := [(1, .long 8724414656272216720), (4, .int 1), (3, .int 2), (0, .ref m0)]) hx hb dX12_digest_57 rfl hl (by decide) rfl (fun ls hl => ?_)
  refine lv_iinc (v := 2) (lv' := [(4, .int 2), (1, .long 8724414656272216720), (3, .int 2), (0, .ref m0)]) hx hb dX12_digest_58 hl (k := 1) rfl (by decide) (by decide) rfl (fun ls hl => ?_)
  refine lv_goto (tgt := 31) hx hb dX12_digest_61 (by decide) ?_
  refine lv_iload hx hb dX12_digest_31 (lv_at hl 0 rfl) ?_
  refine lv_bipush (v := 6) hx hb dX12_digest_33 (by decide) ?_
  refine lv_icmp_ge (tgt := 64) hx hb dX12_digest_35 (by decide) (fun q9 => absurd q9 (by decide)) (fun _ => ?_)
  refine lv_ldc2 (v := 31) hx hb hown (hts (.constantLong RX12 455 (31)) (by decide +kernel)) dX12_digest_38 ?_
  refine lv_lload_n hx hb dX12_digest_41 rfl (lv_at hl 1 rfl) ?_
  refine lv_lmul hx hb dX12_digest_42 ?_
  refine tp_l (y := (-6244306761204555920)) (by decide) ?_
  refine lv_aload_n hx hb dX12_digest_43 rfl (lv_at hl 3 rfl) ?_
  refine va_get (D := D) (ci := 12) (v := .ref g4) (C := RX12) (T := TX12) (N := 69) hx hb hts (fun _ h => List.mem_cons_of_mem _ (List.mem_append_right _ h)) hown hK hP 0 rfl rfl 4 (by decide) (hts (.fieldLink RX12 16 "TalePlayModel" "defaults" "[I") (by decide +kernel)) (fun _ h9 => h9) rfl dX12_digest_44 ?_
  refine lv_bipush (v := 6) hx hb dX12_digest_47 (by decide) ?_
  refine lv_iload_n hx hb dX12_digest_49 rfl (lv_at hl 2 rfl) ?_
  refine lv_imul hx hb dX12_digest_50 ?_
  refine tp_i (y := 12) (by decide) ?_
  refine lv_iload hx hb dX12_digest_51 (lv_at hl 0 rfl) ?_
  refine lv_iadd hx hb dX12_digest_53 ?_
  refine tp_i (y := 14) (by decide) ?_
  refine va_iald hx hb hK hP 2 1 rfl rfl (show vp_in 14 144 from by unfold vp_in; decide) dX12_digest_54 ?_
  refine tp_i (y := (-9)) (hfd _ (by decide)) ?_
  refine lv_i2l (v := (-9)) hx hb dX12_digest_55 (by decide) ?_
  refine lv_ladd hx hb dX12_digest_56 ?_
  refine tp_l (y := (-6244306761204555929)) (by decide) ?_
  refine lv_lstore_n (lv' := [(1, .long (-6244306761204555929)), (4, .int 2), (3, .int 2), (0, .ref m0)]) hx hb dX12_digest_57 rfl hl (by decide) rfl (fun ls hl => ?_)
  refine lv_iinc (v := 3) (lv' := [(4, .int 3), (1, .long (-6244306761204555929)), (3, .int 2), (0, .ref m0)]) hx hb dX12_digest_58 hl (k := 1) rfl (by decide) (by decide) rfl (fun ls hl => ?_)
  refine lv_goto (tgt := 31) hx hb dX12_digest_61 (by decide) ?_
  refine lv_iload hx hb dX12_digest_31 (lv_at hl 0 rfl) ?_
  refine lv_bipush (v := 6) hx hb dX12_digest_33 (by decide) ?_
  refine lv_icmp_ge (tgt := 64) hx hb dX12_digest_35 (by decide) (fun q9 => absurd q9 (by decide)) (fun _ => ?_)
  refine lv_ldc2 (v := 31) hx hb hown (hts (.constantLong RX12 455 (31)) (by decide +kernel)) dX12_digest_38 ?_
  refine lv_lload_n hx hb dX12_digest_41 rfl (lv_at hl 1 rfl) ?_
  refine lv_lmul hx hb dX12_digest_42 ?_
  refine tp_l (y := (-9106068860245717639)) (by decide) ?_
  refine lv_aload_n hx hb dX12_digest_43 rfl (lv_at hl 3 rfl) ?_
  refine va_get (D := D) (ci := 12) (v := .ref g4) (C := RX12) (T := TX12) (N := 69) hx hb hts (fun _ h => List.mem_cons_of_mem _ (List.mem_append_right _ h)) hown hK hP 0 rfl rfl 4 (by decide) (hts (.fieldLink RX12 16 "TalePlayModel" "defaults" "[I") (by decide +kernel)) (fun _ h9 => h9) rfl dX12_digest_44 ?_
  refine lv_bipush (v := 6) hx hb dX12_digest_47 (by decide) ?_
  refine lv_iload_n hx hb dX12_digest_49 rfl (lv_at hl 2 rfl) ?_
  refine lv_imul hx hb dX12_digest_50 ?_
  refine tp_i (y := 12) (by decide) ?_
  refine lv_iload hx hb dX12_digest_51 (lv_at hl 0 rfl) ?_
  refine lv_iadd hx hb dX12_digest_53 ?_
  refine tp_i (y := 15) (by decide) ?_
  refine va_iald hx hb hK hP 2 1 rfl rfl (show vp_in 15 144 from by unfold vp_in; decide) dX12_digest_54 ?_
  refine tp_i (y := (-9)) (hfd _ (by decide)) ?_
  refine lv_i2l (v := (-9)) hx hb dX12_digest_55 (by decide) ?_
  refine lv_ladd hx hb dX12_digest_56 ?_
  refine tp_l (y := (-9106068860245717648)) (by decide) ?_
  refine lv_lstore_n (lv' := [(1, .long (-9106068860245717648)), (4, .int 3), (3, .int 2), (0, .ref m0)]) hx hb dX12_digest_57 rfl hl (by decide) rfl (fun ls hl => ?_)
  refine lv_iinc (v := 4) (lv' := [(4, .int 4), (1, .long (-9106068860245717648)), (3, .int 2), (0, .ref m0)]) hx hb dX12_digest_58 hl (k := 1) rfl (by decide) (by decide) rfl (fun ls hl => ?_)
  refine lv_goto (tgt := 31) hx hb dX12_digest_61 (by decide) ?_
  refine lv_iload hx hb dX12_digest_31 (lv_at hl 0 rfl) ?_
  refine lv_bipush (v := 6) hx hb dX12_digest_33 (by decide) ?_
  refine lv_icmp_ge (tgt := 64) hx hb dX12_digest_35 (by decide) (fun q9 => absurd q9 (by decide)) (fun _ => ?_)
  refine lv_ldc2 (v := 31) hx hb hown (hts (.constantLong RX12 455 (31)) (by decide +kernel)) dX12_digest_38 ?_
  refine lv_lload_n hx hb dX12_digest_41 rfl (lv_at hl 1 rfl) ?_
  refine lv_lmul hx hb dX12_digest_42 ?_
  refine tp_l (y := (-5586973561973972848)) (by decide) ?_
  refine lv_aload_n hx hb dX12_digest_43 rfl (lv_at hl 3 rfl) ?_
  refine va_get (D := D) (ci := 12) (v := .ref g4) (C := RX12) (T := TX12) (N := 69) hx hb hts (fun _ h => List.mem_cons_of_mem _ (List.mem_append_right _ h)) hown hK hP 0 rfl rfl 4 (by decide) (hts (.fieldLink RX12 16 "TalePlayModel" "defaults" "[I") (by decide +kernel)) (fun _ h9 => h9) rfl dX12_digest_44 ?_
  refine lv_bipush (v := 6) hx hb dX12_digest_47 (by decide) ?_
  refine lv_iload_n hx hb dX12_digest_49 rfl (lv_at hl 2 rfl) ?_
  refine lv_imul hx hb dX12_digest_50 ?_
  refine tp_i (y := 12) (by decide) ?_
  refine lv_iload hx hb dX12_digest_51 (lv_at hl 0 rfl) ?_
  refine lv_iadd hx hb dX12_digest_53 ?_
  refine tp_i (y := 16) (by decide) ?_
  refine va_iald hx hb hK hP 2 1 rfl rfl (show vp_in 16 144 from by unfold vp_in; decide) dX12_digest_54 ?_
  refine tp_i (y := (-9)) (hfd _ (by decide)) ?_
  refine lv_i2l (v := (-9)) hx hb dX12_digest_55 (by decide) ?_
  refine lv_ladd hx hb dX12_digest_56 ?_
  refine tp_l (y := (-5586973561973972857)) (by decide) ?_
  refine lv_lstore_n (lv' := [(1, .long (-5586973561973972857)), (4, .int 4), (3, .int 2), (0, .ref m0)]) hx hb dX12_digest_57 rfl hl (by decide) rfl (fun ls hl => ?_)
  refine lv_iinc (v := 5) (lv' := [(4, .int 5), (1, .long (-5586973561973972857)), (3, .int 2), (0, .ref m0)]) hx hb dX12_digest_58 hl (k := 1) rfl (by decide) (by decide) rfl (fun ls hl => ?_)
  refine lv_goto (tgt := 31) hx hb dX12_digest_61 (by decide) ?_
  refine lv_iload hx hb dX12_digest_31 (lv_at hl 0 rfl) ?_
  refine lv_bipush (v := 6) hx hb dX12_digest_33 (by decide) ?_
  refine lv_icmp_ge (tgt := 64) hx hb dX12_digest_35 (by decide) (fun q9 => absurd q9 (by decide)) (fun _ => ?_)
  refine lv_ldc2 (v := 31) hx hb hown (hts (.constantLong RX12 455 (31)) (by decide +kernel)) dX12_digest_38 ?_
  refine lv_lload_n hx hb dX12_digest_41 rfl (lv_at hl 1 rfl) ?_
  refine lv_lmul hx hb dX12_digest_42 ?_
  refine tp_l (y := (-7175483757807194023)) (by decide) ?_
  refine lv_aload_n hx hb dX12_digest_43 rfl (lv_at hl 3 rfl) ?_
  refine va_get (D := D) (ci := 12) (v := .ref g4) (C := RX12) (T := TX12) (N := 69) hx hb hts (fun _ h => List.mem_cons_of_mem _ (List.mem_append_right _ h)) hown hK hP 0 rfl rfl 4 (by decide) (hts (.fieldLink RX12 16 "TalePlayModel" "defaults" "[I") (by decide +kernel)) (fun _ h9 => h9) rfl dX12_digest_44 ?_
  refine lv_bipush (v := 6) hx hb dX12_digest_47 (by decide) ?_
  refine lv_iload_n hx hb dX12_digest_49 rfl (lv_at hl 2 rfl) ?_
  refine lv_imul hx hb dX12_digest_50 ?_
  refine tp_i (y := 12) (by decide) ?_
  refine lv_iload hx hb dX12_digest_51 (lv_at hl 0 rfl) ?_
  refine lv_iadd hx hb dX12_digest_53 ?_
  refine tp_i (y := 17) (by decide) ?_
  refine va_iald hx hb hK hP 2 1 rfl rfl (show vp_in 17 144 from by unfold vp_in; decide) dX12_digest_54 ?_
  refine tp_i (y := (-9)) (hfd _ (by decide)) ?_
  refine lv_i2l (v := (-9)) hx hb dX12_digest_55 (by decide) ?_
  refine lv_ladd hx hb dX12_digest_56 ?_
  refine tp_l (y := (-7175483757807194032)) (by decide) ?_
  refine lv_lstore_n (lv' := [(1, .long (-7175483757807194032)), (4, .int 5), (3, .int 2), (0, .ref m0)]) hx hb dX12_digest_57 rfl hl (by decide) rfl (fun ls hl => ?_)
  refine lv_iinc (v := 6) (lv' := [(4, .int 6), (1, .long (-7175483757807194032)), (3, .int 2), (0, .ref m0)]) hx hb dX12_digest_58 hl (k := 1) rfl (by decide) (by decide) rfl (fun ls hl => ?_)
  refine lv_goto (tgt := 31) hx hb dX12_digest_61 (by decide) ?_
  refine lv_iload hx hb dX12_digest_31 (lv_at hl 0 rfl) ?_
  refine lv_bipush (v := 6) hx hb dX12_digest_33 (by decide) ?_
  refine lv_icmp_ge (tgt := 64) hx hb dX12_digest_35 (by decide) (fun _ => ?_) (fun q9 => absurd (by decide) q9)
  refine lv_iinc (v := 3) (lv' := [(3, .int 3), (4, .int 6), (1, .long (-7175483757807194032)), (0, .ref m0)]) hx hb dX12_digest_64 hl (k := 2) rfl (by decide) (by decide) rfl (fun ls hl => ?_)
  refine lv_goto (tgt := 6) hx hb dX12_digest_67 (by decide) ?_
  refine lv_iload_n hx hb dX12_digest_6 rfl (lv_at hl 0 rfl) ?_
  refine lv_aload_n hx hb dX12_digest_7 rfl (lv_at hl 3 rfl) ?_
  refine va_get (D := D) (ci := 12) (v := .int 6) (C := RX12) (T := TX12) (N := 69) hx hb hts (fun _ h => List.mem_cons_of_mem _ (List.mem_append_right _ h)) hown hK hP 0 rfl rfl 2 (by decide) (hts (.fieldLink RX12 151 "TalePlayModel" "kinds" "I") (by decide +kernel)) (fun _ h9 => h9) rfl dX12_digest_8 ?_
  refine lv_icmp_ge (tgt := 70) hx hb dX12_digest_11 (by decide) (fun q9 => absurd q9 (by decide)) (fun _ => ?_)
  refine lv_ldc2 (v := 31) hx hb hown (hts (.constantLong RX12 455 (31)) (by decide +kernel)) dX12_digest_14 ?_
  refine lv_lload_n hx hb dX12_digest_17 rfl (lv_at hl 2 rfl) ?_
  refine lv_lmul hx hb dX12_digest_18 ?_
  refine tp_l (y := (-1079067607508395600)) (by decide) ?_
  refine lv_aload_n hx hb dX12_digest_19 rfl (lv_at hl 3 rfl) ?_
  refine va_get (D := D) (ci := 12) (v := .ref g3) (C := RX12) (T := TX12) (N := 69) hx hb hts (fun _ h => List.mem_cons_of_mem _ (List.mem_append_right _ h)) hown hK hP 0 rfl rfl 3 (by decide) (hts (.fieldLink RX12 13 "TalePlayModel" "parentOf" "[I") (by decide +kernel)) (fun _ h9 => h9) rfl dX12_digest_20 ?_
  refine lv_iload_n hx hb dX12_digest_23 rfl (lv_at hl 0 rfl) ?_
  refine va_iald hx hb hK hP 1 0 rfl rfl (show vp_in 3 24 from by unfold vp_in; decide) dX12_digest_24 ?_
  refine tp_i (y := 1) hp3 ?_
  refine lv_i2l (v := 1) hx hb dX12_digest_25 (by decide) ?_
  refine lv_ladd hx hb dX12_digest_26 ?_
  refine tp_l (y := (-1079067607508395599)) (by decide) ?_
  refine lv_lstore_n (lv' := [(1, .long (-1079067607508395599)), (3, .int 3), (4, .int 6), (0, .ref m0)]) hx hb dX12_digest_27 rfl hl (by decide) rfl (fun ls hl => ?_)
  refine lv_iconst (v := 0) hx hb dX12_digest_28 (by decide) ?_
  refine lv_istore (lv' := [(4, .int 0), (1, .long (-1079067607508395599)), (3, .int 3), (0, .ref m0)]) hx hb dX12_digest_29 hl (by decide) rfl (fun ls hl => ?_)
  refine lv_iload hx hb dX12_digest_31 (lv_at hl 0 rfl) ?_
  refine lv_bipush (v := 6) hx hb dX12_digest_33 (by decide) ?_
  refine lv_icmp_ge (tgt := 64) hx hb dX12_digest_35 (by decide) (fun q9 => absurd q9 (by decide)) (fun _ => ?_)
  refine lv_ldc2 (v := 31) hx hb hown (hts (.constantLong RX12 455 (31)) (by decide +kernel)) dX12_digest_38 ?_
  refine lv_lload_n hx hb dX12_digest_41 rfl (lv_at hl 1 rfl) ?_
  refine lv_lmul hx hb dX12_digest_42 ?_
  refine tp_l (y := 3442392314658839663) (by decide) ?_
  refine lv_aload_n hx hb dX12_digest_43 rfl (lv_at hl 3 rfl) ?_
  refine va_get (D := D) (ci := 12) (v := .ref g4) (C := RX12) (T := TX12) (N := 69) hx hb hts (fun _ h => List.mem_cons_of_mem _ (List.mem_append_right _ h)) hown hK hP 0 rfl rfl 4 (by decide) (hts (.fieldLink RX12 16 "TalePlayModel" "defaults" "[I") (by decide +kernel)) (fun _ h9 => h9) rfl dX12_digest_44 ?_
  refine lv_bipush (v := 6) hx hb dX12_digest_47 (by decide) ?_
  refine lv_iload_n hx hb dX12_digest_49 rfl (lv_at hl 2 rfl) ?_
  refine lv_imul hx hb dX12_digest_50 ?_
  refine tp_i (y := 18) (by decide) ?_
  refine lv_iload hx hb dX12_digest_51 (lv_at hl 0 rfl) ?_
  refine lv_iadd hx hb dX12_digest_53 ?_
  refine tp_i (y := 18) (by decide) ?_
  refine va_iald hx hb hK hP 2 1 rfl rfl (show vp_in 18 144 from by unfold vp_in; decide) dX12_digest_54 ?_
  refine tp_i (y := (-9)) (hfd _ (by decide)) ?_
  refine lv_i2l (v := (-9)) hx hb dX12_digest_55 (by decide) ?_
  refine lv_ladd hx hb dX12_digest_56 ?_
  refine tp_l (y := 3442392314658839654) (by decide) ?_
  refine lv_lstore_n (lv' := [(1, .long 3442392314658839654), (4, .int 0), (3, .int 3), (0, .ref m0)]) hx hb dX12_digest_57 rfl hl (by decide) rfl (fun ls hl => ?_)
  refine lv_iinc (v := 1) (lv' := [(4, .int 1), (1, .long 3442392314658839654), (3, .int 3), (0, .ref m0)]) hx hb dX12_digest_58 hl (k := 1) rfl (by decide) (by decide) rfl (fun ls hl => ?_)
  refine lv_goto (tgt := 31) hx hb dX12_digest_61 (by decide) ?_
  refine lv_iload hx hb dX12_digest_31 (lv_at hl 0 rfl) ?_
  refine lv_bipush (v := 6) hx hb dX12_digest_33 (by decide) ?_
  refine lv_icmp_ge (tgt := 64) hx hb dX12_digest_35 (by decide) (fun q9 => absurd q9 (by decide)) (fun _ => ?_)
  refine lv_ldc2 (v := 31) hx hb hown (hts (.constantLong RX12 455 (31)) (by decide +kernel)) dX12_digest_38 ?_
  refine lv_lload_n hx hb dX12_digest_41 rfl (lv_at hl 1 rfl) ?_
  refine lv_lmul hx hb dX12_digest_42 ?_
  refine tp_l (y := (-3966302687833280422)) (by decide) ?_
  refine lv_aload_n hx hb dX12_digest_43 rfl (lv_at hl 3 rfl) ?_
  refine va_get (D := D) (ci := 12) (v := .ref g4) (C := RX12) (T := TX12) (N := 69) hx hb hts (fun _ h => List.mem_cons_of_mem _ (List.mem_append_right _ h)) hown hK hP 0 rfl rfl 4 (by decide) (hts (.fieldLink RX12 16 "TalePlayModel" "defaults" "[I") (by decide +kernel)) (fun _ h9 => h9) rfl dX12_digest_44 ?_
  refine lv_bipush (v := 6) hx hb dX12_digest_47 (by decide) ?_
  refine lv_iload_n hx hb dX12_digest_49 rfl (lv_at hl 2 rfl) ?_
  refine lv_imul hx hb dX12_digest_50 ?_
  refine tp_i (y := 18) (by decide) ?_
  refine lv_iload hx hb dX12_digest_51 (lv_at hl 0 rfl) ?_
  refine lv_iadd hx hb dX12_digest_53 ?_
  refine tp_i (y := 19) (by decide) ?_
  refine va_iald hx hb hK hP 2 1 rfl rfl (show vp_in 19 144 from by unfold vp_in; decide) dX12_digest_54 ?_
  refine tp_i (y := (-9)) (hfd _ (by decide)) ?_
  refine lv_i2l (v := (-9)) hx hb dX12_digest_55 (by decide) ?_
  refine lv_ladd hx hb dX12_digest_56 ?_
  refine tp_l (y := (-3966302687833280431)) (by decide) ?_
  refine lv_lstore_n (lv' := [(1, .long (-3966302687833280431)), (4, .int 1), (3, .int 3), (0, .ref m0)]) hx hb dX12_digest_57 rfl hl (by decide) rfl (fun ls hl => ?_)
  refine lv_iinc (v := 2) (lv' := [(4, .int 2), (1, .long (-3966302687833280431)), (3, .int 3), (0, .ref m0)]) hx hb dX12_digest_58 hl (k := 1) rfl (by decide) (by decide) rfl (fun ls hl => ?_)
  refine lv_goto (tgt := 31) hx hb dX12_digest_61 (by decide) ?_
  refine lv_iload hx hb dX12_digest_31 (lv_at hl 0 rfl) ?_
  refine lv_bipush (v := 6) hx hb dX12_digest_33 (by decide) ?_
  refine lv_icmp_ge (tgt := 64) hx hb dX12_digest_35 (by decide) (fun q9 => absurd q9 (by decide)) (fun _ => ?_)
  refine lv_ldc2 (v := 31) hx hb hown (hts (.constantLong RX12 455 (31)) (by decide +kernel)) dX12_digest_38 ?_
  refine lv_lload_n hx hb dX12_digest_41 rfl (lv_at hl 1 rfl) ?_
  refine lv_lmul hx hb dX12_digest_42 ?_
  refine tp_l (y := 6171825193135167951) (by decide) ?_
  refine lv_aload_n hx hb dX12_digest_43 rfl (lv_at hl 3 rfl) ?_
  refine va_get (D := D) (ci := 12) (v := .ref g4) (C := RX12) (T := TX12) (N := 69) hx hb hts (fun _ h => List.mem_cons_of_mem _ (List.mem_append_right _ h)) hown hK hP 0 rfl rfl 4 (by decide) (hts (.fieldLink RX12 16 "TalePlayModel" "defaults" "[I") (by decide +kernel)) (fun _ h9 => h9) rfl dX12_digest_44 ?_
  refine lv_bipush (v := 6) hx hb dX12_digest_47 (by decide) ?_
  refine lv_iload_n hx hb dX12_digest_49 rfl (lv_at hl 2 rfl) ?_
  refine lv_imul hx hb dX12_digest_50 ?_
  refine tp_i (y := 18) (by decide) ?_
  refine lv_iload hx hb dX12_digest_51 (lv_at hl 0 rfl) ?_
  refine lv_iadd hx hb dX12_digest_53 ?_
  refine tp_i (y := 20) (by decide) ?_
  refine va_iald hx hb hK hP 2 1 rfl rfl (show vp_in 20 144 from by unfold vp_in; decide) dX12_digest_54 ?_
  refine tp_i (y := (-9)) (hfd _ (by decide)) ?_
  refine lv_i2l (v := (-9)) hx hb dX12_digest_55 (by decide) ?_
  refine lv_ladd hx hb dX12_digest_56 ?_
  refine tp_l (y := 6171825193135167942) (by decide) ?_
  refine lv_lstore_n (lv' := [(1, .long 6171825193135167942), (4, .int 2), (3, .int 3), (0, .ref m0)]) hx hb dX12_digest_57 rfl hl (by decide) rfl (fun ls hl => ?_)
  refine lv_iinc (v := 3) (lv' := [(4, .int 3), (1, .long 6171825193135167942), (3, .int 3), (0, .ref m0)]) hx hb dX12_digest_58 hl (k := 1) rfl (by decide) (by decide) rfl (fun ls hl => ?_)
  refine lv_goto (tgt := 31) hx hb dX12_digest_61 (by decide) ?_
  refine lv_iload hx hb dX12_digest_31 (lv_at hl 0 rfl) ?_
  refine lv_bipush (v := 6) hx hb dX12_digest_33 (by decide) ?_
  refine lv_icmp_ge (tgt := 64) hx hb dX12_digest_35 (by decide) (fun q9 => absurd q9 (by decide)) (fun _ => ?_)
  refine lv_ldc2 (v := 31) hx hb hown (hts (.constantLong RX12 455 (31)) (by decide +kernel)) dX12_digest_38 ?_
  refine lv_lload_n hx hb dX12_digest_41 rfl (lv_at hl 1 rfl) ?_
  refine lv_lmul hx hb dX12_digest_42 ?_
  refine tp_l (y := 6859140250094690042) (by decide) ?_
  refine lv_aload_n hx hb dX12_digest_43 rfl (lv_at hl 3 rfl) ?_
  refine va_get (D := D) (ci := 12) (v := .ref g4) (C := RX12) (T := TX12) (N := 69) hx hb hts (fun _ h => List.mem_cons_of_mem _ (List.mem_append_right _ h)) hown hK hP 0 rfl rfl 4 (by decide) (hts (.fieldLink RX12 16 "TalePlayModel" "defaults" "[I") (by decide +kernel)) (fun _ h9 => h9) rfl dX12_digest_44 ?_
  refine lv_bipush (v := 6) hx hb dX12_digest_47 (by decide) ?_
  refine lv_iload_n hx hb dX12_digest_49 rfl (lv_at hl 2 rfl) ?_
  refine lv_imul hx hb dX12_digest_50 ?_
  refine tp_i (y := 18) (by decide) ?_
  refine lv_iload hx hb dX12_digest_51 (lv_at hl 0 rfl) ?_
  refine lv_iadd hx hb dX12_digest_53 ?_
  refine tp_i (y := 21) (by decide) ?_
  refine va_iald hx hb hK hP 2 1 rfl rfl (show vp_in 21 144 from by unfold vp_in; decide) dX12_digest_54 ?_
  refine tp_i (y := (-9)) (hfd _ (by decide)) ?_
  refine lv_i2l (v := (-9)) hx hb dX12_digest_55 (by decide) ?_
  refine lv_ladd hx hb dX12_digest_56 ?_
  refine tp_l (y := 6859140250094690033) (by decide) ?_
  refine lv_lstore_n (lv' := [(1, .long 6859140250094690033), (4, .int 3), (3, .int 3), (0, .ref m0)]) hx hb dX12_digest_57 rfl hl (by decide) rfl (fun ls hl => ?_)
  refine lv_iinc (v := 4) (lv' := [(4, .int 4), (1, .long 6859140250094690033), (3, .int 3), (0, .ref m0)]) hx hb dX12_digest_58 hl (k := 1) rfl (by decide) (by decide) rfl (fun ls hl => ?_)
  refine lv_goto (tgt := 31) hx hb dX12_digest_61 (by decide) ?_
  refine lv_iload hx hb dX12_digest_31 (lv_at hl 0 rfl) ?_
  refine lv_bipush (v := 6) hx hb dX12_digest_33 (by decide) ?_
  refine lv_icmp_ge (tgt := 64) hx hb dX12_digest_35 (by decide) (fun q9 => absurd q9 (by decide)) (fun _ => ?_)
  refine lv_ldc2 (v := 31) hx hb hown (hts (.constantLong RX12 455 (31)) (by decide +kernel)) dX12_digest_38 ?_
  refine lv_lload_n hx hb dX12_digest_41 rfl (lv_at hl 1 rfl) ?_
  refine lv_lmul hx hb dX12_digest_42 ?_
  refine tp_l (y := (-8727581131579228369)) (by decide) ?_
  refine lv_aload_n hx hb dX12_digest_43 rfl (lv_at hl 3 rfl) ?_
  refine va_get (D := D) (ci := 12) (v := .ref g4) (C := RX12) (T := TX12) (N := 69) hx hb hts (fun _ h => List.mem_cons_of_mem _ (List.mem_append_right _ h)) hown hK hP 0 rfl rfl 4 (by decide) (hts (.fieldLink RX12 16 "TalePlayModel" "defaults" "[I") (by decide +kernel)) (fun _ h9 => h9) rfl dX12_digest_44 ?_
  refine lv_bipush (v := 6) hx hb dX12_digest_47 (by decide) ?_
  refine lv_iload_n hx hb dX12_digest_49 rfl (lv_at hl 2 rfl) ?_
  refine lv_imul hx hb dX12_digest_50 ?_
  refine tp_i (y := 18) (by decide) ?_
  refine lv_iload hx hb dX12_digest_51 (lv_at hl 0 rfl) ?_
  refine lv_iadd hx hb dX12_digest_53 ?_
  refine tp_i (y := 22) (by decide) ?_
  refine va_iald hx hb hK hP 2 1 rfl rfl (show vp_in 22 144 from by unfold vp_in; decide) dX12_digest_54 ?_
  refine tp_i (y := (-9)) (hfd _ (by decide)) ?_
  refine lv_i2l (v := (-9)) hx hb dX12_digest_55 (by decide) ?_
  refine lv_ladd hx hb dX12_digest_56 ?_
  refine tp_l (y := (-8727581131579228378)) (by decide) ?_
  refine lv_lstore_n (lv' := [(1, .long (-8727581131579228378)), (4, .int 4), (3, .int 3), (0, .ref m0)]) hx hb dX12_digest_57 rfl hl (by decide) rfl (fun ls hl => ?_)
  refine lv_iinc (v := 5) (lv' := [(4, .int 5), (1, .long (-8727581131579228378)), (3, .int 3), (0, .ref m0)]) hx hb dX12_digest_58 hl (k := 1) rfl (by decide) (by decide) rfl (fun ls hl => ?_)
  refine lv_goto (tgt := 31) hx hb dX12_digest_61 (by decide) ?_
  refine lv_iload hx hb dX12_digest_31 (lv_at hl 0 rfl) ?_
  refine lv_bipush (v := 6) hx hb dX12_digest_33 (by decide) ?_
  refine lv_icmp_ge (tgt := 64) hx hb dX12_digest_35 (by decide) (fun q9 => absurd q9 (by decide)) (fun _ => ?_)
  refine lv_ldc2 (v := 31) hx hb hown (hts (.constantLong RX12 455 (31)) (by decide +kernel)) dX12_digest_38 ?_
  refine lv_lload_n hx hb dX12_digest_41 rfl (lv_at hl 1 rfl) ?_
  refine lv_lmul hx hb dX12_digest_42 ?_
  refine tp_l (y := 6146146026687194522) (by decide) ?_
  refine lv_aload_n hx hb dX12_digest_43 rfl (lv_at hl 3 rfl) ?_
  refine va_get (D := D) (ci := 12) (v := .ref g4) (C := RX12) (T := TX12) (N := 69) hx hb hts (fun _ h => List.mem_cons_of_mem _ (List.mem_append_right _ h)) hown hK hP 0 rfl rfl 4 (by decide) (hts (.fieldLink RX12 16 "TalePlayModel" "defaults" "[I") (by decide +kernel)) (fun _ h9 => h9) rfl dX12_digest_44 ?_
  refine lv_bipush (v := 6) hx hb dX12_digest_47 (by decide) ?_
  refine lv_iload_n hx hb dX12_digest_49 rfl (lv_at hl 2 rfl) ?_
  refine lv_imul hx hb dX12_digest_50 ?_
  refine tp_i (y := 18) (by decide) ?_
  refine lv_iload hx hb dX12_digest_51 (lv_at hl 0 rfl) ?_
  refine lv_iadd hx hb dX12_digest_53 ?_
  refine tp_i (y := 23) (by decide) ?_
  refine va_iald hx hb hK hP 2 1 rfl rfl (show vp_in 23 144 from by unfold vp_in; decide) dX12_digest_54 ?_
  refine tp_i (y := (-9)) (hfd _ (by decide)) ?_
  refine lv_i2l (v := (-9)) hx hb dX12_digest_55 (by decide) ?_
  refine lv_ladd hx hb dX12_digest_56 ?_
  refine tp_l (y := 6146146026687194513) (by decide) ?_
  refine lv_lstore_n (lv' := [(1, .long 6146146026687194513), (4, .int 5), (3, .int 3), (0, .ref m0)]) hx hb dX12_digest_57 rfl hl (by decide) rfl (fun ls hl => ?_)
  refine lv_iinc (v := 6) (lv' := [(4, .int 6), (1, .long 6146146026687194513), (3, .int 3), (0, .ref m0)]) hx hb dX12_digest_58 hl (k := 1) rfl (by decide) (by decide) rfl (fun ls hl => ?_)
  refine lv_goto (tgt := 31) hx hb dX12_digest_61 (by decide) ?_
  refine lv_iload hx hb dX12_digest_31 (lv_at hl 0 rfl) ?_
  refine lv_bipush (v := 6) hx hb dX12_digest_33 (by decide) ?_
  refine lv_icmp_ge (tgt := 64) hx hb dX12_digest_35 (by decide) (fun _ => ?_) (fun q9 => absurd (by decide) q9)
  refine lv_iinc (v := 4) (lv' := [(3, .int 4), (4, .int 6), (1, .long 6146146026687194513), (0, .ref m0)]) hx hb dX12_digest_64 hl (k := 2) rfl (by decide) (by decide) rfl (fun ls hl => ?_)
  refine lv_goto (tgt := 6) hx hb dX12_digest_67 (by decide) ?_
  refine lv_iload_n hx hb dX12_digest_6 rfl (lv_at hl 0 rfl) ?_
  refine lv_aload_n hx hb dX12_digest_7 rfl (lv_at hl 3 rfl) ?_
  refine va_get (D := D) (ci := 12) (v := .int 6) (C := RX12) (T := TX12) (N := 69) hx hb hts (fun _ h => List.mem_cons_of_mem _ (List.mem_append_right _ h)) hown hK hP 0 rfl rfl 2 (by decide) (hts (.fieldLink RX12 151 "TalePlayModel" "kinds" "I") (by decide +kernel)) (fun _ h9 => h9) rfl dX12_digest_8 ?_
  refine lv_icmp_ge (tgt := 70) hx hb dX12_digest_11 (by decide) (fun q9 => absurd q9 (by decide)) (fun _ => ?_)
  refine lv_ldc2 (v := 31) hx hb hown (hts (.constantLong RX12 455 (31)) (by decide +kernel)) dX12_digest_14 ?_
  refine lv_lload_n hx hb dX12_digest_17 rfl (lv_at hl 2 rfl) ?_
  refine lv_lmul hx hb dX12_digest_18 ?_
  refine tp_l (y := 6063086090207513743) (by decide) ?_
  refine lv_aload_n hx hb dX12_digest_19 rfl (lv_at hl 3 rfl) ?_
  refine va_get (D := D) (ci := 12) (v := .ref g3) (C := RX12) (T := TX12) (N := 69) hx hb hts (fun _ h => List.mem_cons_of_mem _ (List.mem_append_right _ h)) hown hK hP 0 rfl rfl 3 (by decide) (hts (.fieldLink RX12 13 "TalePlayModel" "parentOf" "[I") (by decide +kernel)) (fun _ h9 => h9) rfl dX12_digest_20 ?_
  refine lv_iload_n hx hb dX12_digest_23 rfl (lv_at hl 0 rfl) ?_
  refine va_iald hx hb hK hP 1 0 rfl rfl (show vp_in 4 24 from by unfold vp_in; decide) dX12_digest_24 ?_
  refine tp_i (y := 1) hp4 ?_
  refine lv_i2l (v := 1) hx hb dX12_digest_25 (by decide) ?_
  refine lv_ladd hx hb dX12_digest_26 ?_
  refine tp_l (y := 6063086090207513744) (by decide) ?_
  refine lv_lstore_n (lv' := [(1, .long 6063086090207513744), (3, .int 4), (4, .int 6), (0, .ref m0)]) hx hb dX12_digest_27 rfl hl (by decide) rfl (fun ls hl => ?_)
  refine lv_iconst (v := 0) hx hb dX12_digest_28 (by decide) ?_
  refine lv_istore (lv' := [(4, .int 0), (1, .long 6063086090207513744), (3, .int 4), (0, .ref m0)]) hx hb dX12_digest_29 hl (by decide) rfl (fun ls hl => ?_)
  refine lv_iload hx hb dX12_digest_31 (lv_at hl 0 rfl) ?_
  refine lv_bipush (v := 6) hx hb dX12_digest_33 (by decide) ?_
  refine lv_icmp_ge (tgt := 64) hx hb dX12_digest_35 (by decide) (fun q9 => absurd q9 (by decide)) (fun _ => ?_)
  refine lv_ldc2 (v := 31) hx hb hown (hts (.constantLong RX12 455 (31)) (by decide +kernel)) dX12_digest_38 ?_
  refine lv_lload_n hx hb dX12_digest_41 rfl (lv_at hl 1 rfl) ?_
  refine lv_lmul hx hb dX12_digest_42 ?_
  refine tp_l (y := 3488228059337409904) (by decide) ?_
  refine lv_aload_n hx hb dX12_digest_43 rfl (lv_at hl 3 rfl) ?_
  refine va_get (D := D) (ci := 12) (v := .ref g4) (C := RX12) (T := TX12) (N := 69) hx hb hts (fun _ h => List.mem_cons_of_mem _ (List.mem_append_right _ h)) hown hK hP 0 rfl rfl 4 (by decide) (hts (.fieldLink RX12 16 "TalePlayModel" "defaults" "[I") (by decide +kernel)) (fun _ h9 => h9) rfl dX12_digest_44 ?_
  refine lv_bipush (v := 6) hx hb dX12_digest_47 (by decide) ?_
  refine lv_iload_n hx hb dX12_digest_49 rfl (lv_at hl 2 rfl) ?_
  refine lv_imul hx hb dX12_digest_50 ?_
  refine tp_i (y := 24) (by decide) ?_
  refine lv_iload hx hb dX12_digest_51 (lv_at hl 0 rfl) ?_
  refine lv_iadd hx hb dX12_digest_53 ?_
  refine tp_i (y := 24) (by decide) ?_
  refine va_iald hx hb hK hP 2 1 rfl rfl (show vp_in 24 144 from by unfold vp_in; decide) dX12_digest_54 ?_
  refine tp_i (y := (-9)) (hfd _ (by decide)) ?_
  refine lv_i2l (v := (-9)) hx hb dX12_digest_55 (by decide) ?_
  refine lv_ladd hx hb dX12_digest_56 ?_
  refine tp_l (y := 3488228059337409895) (by decide) ?_
  refine lv_lstore_n (lv' := [(1, .long 3488228059337409895), (4, .int 0), (3, .int 4), (0, .ref m0)]) hx hb dX12_digest_57 rfl hl (by decide) rfl (fun ls hl => ?_)
  refine lv_iinc (v := 1) (lv' := [(4, .int 1), (1, .long 3488228059337409895), (3, .int 4), (0, .ref m0)]) hx hb dX12_digest_58 hl (k := 1) rfl (by decide) (by decide) rfl (fun ls hl => ?_)
  refine lv_goto (tgt := 31) hx hb dX12_digest_61 (by decide) ?_
  refine lv_iload hx hb dX12_digest_31 (lv_at hl 0 rfl) ?_
  refine lv_bipush (v := 6) hx hb dX12_digest_33 (by decide) ?_
  refine lv_icmp_ge (tgt := 64) hx hb dX12_digest_35 (by decide) (fun q9 => absurd q9 (by decide)) (fun _ => ?_)
  refine lv_ldc2 (v := 31) hx hb hown (hts (.constantLong RX12 455 (31)) (by decide +kernel)) dX12_digest_38 ?_
  refine lv_lload_n hx hb dX12_digest_41 rfl (lv_at hl 1 rfl) ?_
  refine lv_lmul hx hb dX12_digest_42 ?_
  refine tp_l (y := (-2545394602797602951)) (by decide) ?_
  refine lv_aload_n hx hb dX12_digest_43 rfl (lv_at hl 3 rfl) ?_
  refine va_get (D := D) (ci := 12) (v := .ref g4) (C := RX12) (T := TX12) (N := 69) hx hb hts (fun _ h => List.mem_cons_of_mem _ (List.mem_append_right _ h)) hown hK hP 0 rfl rfl 4 (by decide) (hts (.fieldLink RX12 16 "TalePlayModel" "defaults" "[I") (by decide +kernel)) (fun _ h9 => h9) rfl dX12_digest_44 ?_
  refine lv_bipush (v := 6) hx hb dX12_digest_47 (by decide) ?_
  refine lv_iload_n hx hb dX12_digest_49 rfl (lv_at hl 2 rfl) ?_
  refine lv_imul hx hb dX12_digest_50 ?_
  refine tp_i (y := 24) (by decide) ?_
  refine lv_iload hx hb dX12_digest_51 (lv_at hl 0 rfl) ?_
  refine lv_iadd hx hb dX12_digest_53 ?_
  refine tp_i (y := 25) (by decide) ?_
  refine va_iald hx hb hK hP 2 1 rfl rfl (show vp_in 25 144 from by unfold vp_in; decide) dX12_digest_54 ?_
  refine tp_i (y := (-9)) (hfd _ (by decide)) ?_
  refine lv_i2l (v := (-9)) hx hb dX12_digest_55 (by decide) ?_
  refine lv_ladd hx hb dX12_digest_56 ?_
  refine tp_l (y := (-2545394602797602960)) (by decide) ?_
  refine lv_lstore_n (lv' := [(1, .long (-2545394602797602960)), (4, .int 1), (3, .int 4), (0, .ref m0)]) hx hb dX12_digest_57 rfl hl (by decide) rfl (fun ls hl => ?_)
  refine lv_iinc (v := 2) (lv' := [(4, .int 2), (1, .long (-2545394602797602960)), (3, .int 4), (0, .ref m0)]) hx hb dX12_digest_58 hl (k := 1) rfl (by decide) (by decide) rfl (fun ls hl => ?_)
  refine lv_goto (tgt := 31) hx hb dX12_digest_61 (by decide) ?_
  refine lv_iload hx hb dX12_digest_31 (lv_at hl 0 rfl) ?_
  refine lv_bipush (v := 6) hx hb dX12_digest_33 (by decide) ?_
  refine lv_icmp_ge (tgt := 64) hx hb dX12_digest_35 (by decide) (fun q9 => absurd q9 (by decide)) (fun _ => ?_)
  refine lv_ldc2 (v := 31) hx hb hown (hts (.constantLong RX12 455 (31)) (by decide +kernel)) dX12_digest_38 ?_
  refine lv_lload_n hx hb dX12_digest_41 rfl (lv_at hl 1 rfl) ?_
  refine lv_lmul hx hb dX12_digest_42 ?_
  refine tp_l (y := (-5120256391887485296)) (by decide) ?_
  refine lv_aload_n hx hb dX12_digest_43 rfl (lv_at hl 3 rfl) ?_
  refine va_get (D := D) (ci := 12) (v := .ref g4) (C := RX12) (T := TX12) (N := 69) hx hb hts (fun _ h => List.mem_cons_of_mem _ (List.mem_append_right _ h)) hown hK hP 0 rfl rfl 4 (by decide) (hts (.fieldLink RX12 16 "TalePlayModel" "defaults" "[I") (by decide +kernel)) (fun _ h9 => h9) rfl dX12_digest_44 ?_
  refine lv_bipush (v := 6) hx hb dX12_digest_47 (by decide) ?_
  refine lv_iload_n hx hb dX12_digest_49 rfl (lv_at hl 2 rfl) ?_
  refine lv_imul hx hb dX12_digest_50 ?_
  refine tp_i (y := 24) (by decide) ?_
  refine lv_iload hx hb dX12_digest_51 (lv_at hl 0 rfl) ?_
  refine lv_iadd hx hb dX12_digest_53 ?_
  refine tp_i (y := 26) (by decide) ?_
  refine va_iald hx hb hK hP 2 1 rfl rfl (show vp_in 26 144 from by unfold vp_in; decide) dX12_digest_54 ?_
  refine tp_i (y := (-9)) (hfd _ (by decide)) ?_
  refine lv_i2l (v := (-9)) hx hb dX12_digest_55 (by decide) ?_
  refine lv_ladd hx hb dX12_digest_56 ?_
  refine tp_l (y := (-5120256391887485305)) (by decide) ?_
  refine lv_lstore_n (lv' := [(1, .long (-5120256391887485305)), (4, .int 2), (3, .int 4), (0, .ref m0)]) hx hb dX12_digest_57 rfl hl (by decide) rfl (fun ls hl => ?_)
  refine lv_iinc (v := 3) (lv' := [(4, .int 3), (1, .long (-5120256391887485305)), (3, .int 4), (0, .ref m0)]) hx hb dX12_digest_58 hl (k := 1) rfl (by decide) (by decide) rfl (fun ls hl => ?_)
  refine lv_goto (tgt := 31) hx hb dX12_digest_61 (by decide) ?_
  refine lv_iload hx hb dX12_digest_31 (lv_at hl 0 rfl) ?_
  refine lv_bipush (v := 6) hx hb dX12_digest_33 (by decide) ?_
  refine lv_icmp_ge (tgt := 64) hx hb dX12_digest_35 (by decide) (fun q9 => absurd q9 (by decide)) (fun _ => ?_)
  refine lv_ldc2 (v := 31) hx hb hown (hts (.constantLong RX12 455 (31)) (by decide +kernel)) dX12_digest_38 ?_
  refine lv_lload_n hx hb dX12_digest_41 rfl (lv_at hl 1 rfl) ?_
  refine lv_lmul hx hb dX12_digest_42 ?_
  refine tp_l (y := 7292748514873920089) (by decide) ?_
  refine lv_aload_n hx hb dX12_digest_43 rfl (lv_at hl 3 rfl) ?_
  refine va_get (D := D) (ci := 12) (v := .ref g4) (C := RX12) (T := TX12) (N := 69) hx hb hts (fun _ h => List.mem_cons_of_mem _ (List.mem_append_right _ h)) hown hK hP 0 rfl rfl 4 (by decide) (hts (.fieldLink RX12 16 "TalePlayModel" "defaults" "[I") (by decide +kernel)) (fun _ h9 => h9) rfl dX12_digest_44 ?_
  refine lv_bipush (v := 6) hx hb dX12_digest_47 (by decide) ?_
  refine lv_iload_n hx hb dX12_digest_49 rfl (lv_at hl 2 rfl) ?_
  refine lv_imul hx hb dX12_digest_50 ?_
  refine tp_i (y := 24) (by decide) ?_
  refine lv_iload hx hb dX12_digest_51 (lv_at hl 0 rfl) ?_
  refine lv_iadd hx hb dX12_digest_53 ?_
  refine tp_i (y := 27) (by decide) ?_
  refine va_iald hx hb hK hP 2 1 rfl rfl (show vp_in 27 144 from by unfold vp_in; decide) dX12_digest_54 ?_
  refine tp_i (y := (-9)) (hfd _ (by decide)) ?_
  refine lv_i2l (v := (-9)) hx hb dX12_digest_55 (by decide) ?_
  refine lv_ladd hx hb dX12_digest_56 ?_
  refine tp_l (y := 7292748514873920080) (by decide) ?_
  refine lv_lstore_n (lv' := [(1, .long 7292748514873920080), (4, .int 3), (3, .int 4), (0, .ref m0)]) hx hb dX12_digest_57 rfl hl (by decide) rfl (fun ls hl => ?_)
  refine lv_iinc (v := 4) (lv' := [(4, .int 4), (1, .long 7292748514873920080), (3, .int 4), (0, .ref m0)]) hx hb dX12_digest_58 hl (k := 1) rfl (by decide) (by decide) rfl (fun ls hl => ?_)
  refine lv_goto (tgt := 31) hx hb dX12_digest_61 (by decide) ?_
  refine lv_iload hx hb dX12_digest_31 (lv_at hl 0 rfl) ?_
  refine lv_bipush (v := 6) hx hb dX12_digest_33 (by decide) ?_
  refine lv_icmp_ge (tgt := 64) hx hb dX12_digest_35 (by decide) (fun q9 => absurd q9 (by decide)) (fun _ => ?_)
  refine lv_ldc2 (v := 31) hx hb hown (hts (.constantLong RX12 455 (31)) (by decide +kernel)) dX12_digest_38 ?_
  refine lv_lload_n hx hb dX12_digest_41 rfl (lv_at hl 1 rfl) ?_
  refine lv_lmul hx hb dX12_digest_42 ?_
  refine tp_l (y := 4714275076576903088) (by decide) ?_
  refine lv_aload_n hx hb dX12_digest_43 rfl (lv_at hl 3 rfl) ?_
  refine va_get (D := D) (ci := 12) (v := .ref g4) (C := RX12) (T := TX12) (N := 69) hx hb hts (fun _ h => List.mem_cons_of_mem _ (List.mem_append_right _ h)) hown hK hP 0 rfl rfl 4 (by decide) (hts (.fieldLink RX12 16 "TalePlayModel" "defaults" "[I") (by decide +kernel)) (fun _ h9 => h9) rfl dX12_digest_44 ?_
  refine lv_bipush (v := 6) hx hb dX12_digest_47 (by decide) ?_
  refine lv_iload_n hx hb dX12_digest_49 rfl (lv_at hl 2 rfl) ?_
  refine lv_imul hx hb dX12_digest_50 ?_
  refine tp_i (y := 24) (by decide) ?_
  refine lv_iload hx hb dX12_digest_51 (lv_at hl 0 rfl) ?_
  refine lv_iadd hx hb dX12_digest_53 ?_
  refine tp_i (y := 28) (by decide) ?_
  refine va_iald hx hb hK hP 2 1 rfl rfl (show vp_in 28 144 from by unfold vp_in; decide) dX12_digest_54 ?_
  refine tp_i (y := (-9)) (hfd _ (by decide)) ?_
  refine lv_i2l (v := (-9)) hx hb dX12_digest_55 (by decide) ?_
  refine lv_ladd hx hb dX12_digest_56 ?_
  refine tp_l (y := 4714275076576903079) (by decide) ?_
  refine lv_lstore_n (lv' := [(1, .long 4714275076576903079), (4, .int 4), (3, .int 4), (0, .ref m0)]) hx hb dX12_digest_57 rfl hl (by decide) rfl (fun ls hl => ?_)
  refine lv_iinc (v := 5) (lv' := [(4, .int 5), (1, .long 4714275076576903079), (3, .int 4), (0, .ref m0)]) hx hb dX12_digest_58 hl (k := 1) rfl (by decide) (by decide) rfl (fun ls hl => ?_)
  refine lv_goto (tgt := 31) hx hb dX12_digest_61 (by decide) ?_
  refine lv_iload hx hb dX12_digest_31 (lv_at hl 0 rfl) ?_
  refine lv_bipush (v := 6) hx hb dX12_digest_33 (by decide) ?_
  refine lv_icmp_ge (tgt := 64) hx hb dX12_digest_35 (by decide) (fun q9 => absurd q9 (by decide)) (fun _ => ?_)
  refine lv_ldc2 (v := 31) hx hb hown (hts (.constantLong RX12 455 (31)) (by decide +kernel)) dX12_digest_38 ?_
  refine lv_lload_n hx hb dX12_digest_41 rfl (lv_at hl 1 rfl) ?_
  refine lv_lmul hx hb dX12_digest_42 ?_
  refine tp_l (y := (-1431425215792417479)) (by decide) ?_
  refine lv_aload_n hx hb dX12_digest_43 rfl (lv_at hl 3 rfl) ?_
  refine va_get (D := D) (ci := 12) (v := .ref g4) (C := RX12) (T := TX12) (N := 69) hx hb hts (fun _ h => List.mem_cons_of_mem _ (List.mem_append_right _ h)) hown hK hP 0 rfl rfl 4 (by decide) (hts (.fieldLink RX12 16 "TalePlayModel" "defaults" "[I") (by decide +kernel)) (fun _ h9 => h9) rfl dX12_digest_44 ?_
  refine lv_bipush (v := 6) hx hb dX12_digest_47 (by decide) ?_
  refine lv_iload_n hx hb dX12_digest_49 rfl (lv_at hl 2 rfl) ?_
  refine lv_imul hx hb dX12_digest_50 ?_
  refine tp_i (y := 24) (by decide) ?_
  refine lv_iload hx hb dX12_digest_51 (lv_at hl 0 rfl) ?_
  refine lv_iadd hx hb dX12_digest_53 ?_
  refine tp_i (y := 29) (by decide) ?_
  refine va_iald hx hb hK hP 2 1 rfl rfl (show vp_in 29 144 from by unfold vp_in; decide) dX12_digest_54 ?_
  refine tp_i (y := (-9)) (hfd _ (by decide)) ?_
  refine lv_i2l (v := (-9)) hx hb dX12_digest_55 (by decide) ?_
  refine lv_ladd hx hb dX12_digest_56 ?_
  refine tp_l (y := (-1431425215792417488)) (by decide) ?_
  refine lv_lstore_n (lv' := [(1, .long (-1431425215792417488)), (4, .int 5), (3, .int 4), (0, .ref m0)]) hx hb dX12_digest_57 rfl hl (by decide) rfl (fun ls hl => ?_)
  refine lv_iinc (v := 6) (lv' := [(4, .int 6), (1, .long (-1431425215792417488)), (3, .int 4), (0, .ref m0)]) hx hb dX12_digest_58 hl (k := 1) rfl (by decide) (by decide) rfl (fun ls hl => ?_)
  refine lv_goto (tgt := 31) hx hb dX12_digest_61 (by decide) ?_
  refine lv_iload hx hb dX12_digest_31 (lv_at hl 0 rfl) ?_
  refine lv_bipush (v := 6) hx hb dX12_digest_33 (by decide) ?_
  refine lv_icmp_ge (tgt := 64) hx hb dX12_digest_35 (by decide) (fun _ => ?_) (fun q9 => absurd (by decide) q9)
  refine lv_iinc (v := 5) (lv' := [(3, .int 5), (4, .int 6), (1, .long (-1431425215792417488)), (0, .ref m0)]) hx hb dX12_digest_64 hl (k := 2) rfl (by decide) (by decide) rfl (fun ls hl => ?_)
  refine lv_goto (tgt := 6) hx hb dX12_digest_67 (by decide) ?_
  refine lv_iload_n hx hb dX12_digest_6 rfl (lv_at hl 0 rfl) ?_
  refine lv_aload_n hx hb dX12_digest_7 rfl (lv_at hl 3 rfl) ?_
  refine va_get (D := D) (ci := 12) (v := .int 6) (C := RX12) (T := TX12) (N := 69) hx hb hts (fun _ h => List.mem_cons_of_mem _ (List.mem_append_right _ h)) hown hK hP 0 rfl rfl 2 (by decide) (hts (.fieldLink RX12 151 "TalePlayModel" "kinds" "I") (by decide +kernel)) (fun _ h9 => h9) rfl dX12_digest_8 ?_
  refine lv_icmp_ge (tgt := 70) hx hb dX12_digest_11 (by decide) (fun q9 => absurd q9 (by decide)) (fun _ => ?_)
  refine lv_ldc2 (v := 31) hx hb hown (hts (.constantLong RX12 455 (31)) (by decide +kernel)) dX12_digest_14 ?_
  refine lv_lload_n hx hb dX12_digest_17 rfl (lv_at hl 2 rfl) ?_
  refine lv_lmul hx hb dX12_digest_18 ?_
  refine tp_l (y := (-7480693542145838896)) (by decide) ?_
  refine lv_aload_n hx hb dX12_digest_19 rfl (lv_at hl 3 rfl) ?_
  refine va_get (D := D) (ci := 12) (v := .ref g3) (C := RX12) (T := TX12) (N := 69) hx hb hts (fun _ h => List.mem_cons_of_mem _ (List.mem_append_right _ h)) hown hK hP 0 rfl rfl 3 (by decide) (hts (.fieldLink RX12 13 "TalePlayModel" "parentOf" "[I") (by decide +kernel)) (fun _ h9 => h9) rfl dX12_digest_20 ?_
  refine lv_iload_n hx hb dX12_digest_23 rfl (lv_at hl 0 rfl) ?_
  refine va_iald hx hb hK hP 1 0 rfl rfl (show vp_in 5 24 from by unfold vp_in; decide) dX12_digest_24 ?_
  refine tp_i (y := 1) hp5 ?_
  refine lv_i2l (v := 1) hx hb dX12_digest_25 (by decide) ?_
  refine lv_ladd hx hb dX12_digest_26 ?_
  refine tp_l (y := (-7480693542145838895)) (by decide) ?_
  refine lv_lstore_n (lv' := [(1, .long (-7480693542145838895)), (3, .int 5), (4, .int 6), (0, .ref m0)]) hx hb dX12_digest_27 rfl hl (by decide) rfl (fun ls hl => ?_)
  refine lv_iconst (v := 0) hx hb dX12_digest_28 (by decide) ?_
  refine lv_istore (lv' := [(4, .int 0), (1, .long (-7480693542145838895)), (3, .int 5), (0, .ref m0)]) hx hb dX12_digest_29 hl (by decide) rfl (fun ls hl => ?_)
  refine lv_iload hx hb dX12_digest_31 (lv_at hl 0 rfl) ?_
  refine lv_bipush (v := 6) hx hb dX12_digest_33 (by decide) ?_
  refine lv_icmp_ge (tgt := 64) hx hb dX12_digest_35 (by decide) (fun q9 => absurd q9 (by decide)) (fun _ => ?_)
  refine lv_ldc2 (v := 31) hx hb hown (hts (.constantLong RX12 455 (31)) (by decide +kernel)) dX12_digest_38 ?_
  refine lv_lload_n hx hb dX12_digest_41 rfl (lv_at hl 1 rfl) ?_
  refine lv_lmul hx hb dX12_digest_42 ?_
  refine tp_l (y := 7906173151703165263) (by decide) ?_
  refine lv_aload_n hx hb dX12_digest_43 rfl (lv_at hl 3 rfl) ?_
  refine va_get (D := D) (ci := 12) (v := .ref g4) (C := RX12) (T := TX12) (N := 69) hx hb hts (fun _ h => List.mem_cons_of_mem _ (List.mem_append_right _ h)) hown hK hP 0 rfl rfl 4 (by decide) (hts (.fieldLink RX12 16 "TalePlayModel" "defaults" "[I") (by decide +kernel)) (fun _ h9 => h9) rfl dX12_digest_44 ?_
  refine lv_bipush (v := 6) hx hb dX12_digest_47 (by decide) ?_
  refine lv_iload_n hx hb dX12_digest_49 rfl (lv_at hl 2 rfl) ?_
  refine lv_imul hx hb dX12_digest_50 ?_
  refine tp_i (y := 30) (by decide) ?_
  refine lv_iload hx hb dX12_digest_51 (lv_at hl 0 rfl) ?_
  refine lv_iadd hx hb dX12_digest_53 ?_
  refine tp_i (y := 30) (by decide) ?_
  refine va_iald hx hb hK hP 2 1 rfl rfl (show vp_in 30 144 from by unfold vp_in; decide) dX12_digest_54 ?_
  refine tp_i (y := (-9)) (hfd _ (by decide)) ?_
  refine lv_i2l (v := (-9)) hx hb dX12_digest_55 (by decide) ?_
  refine lv_ladd hx hb dX12_digest_56 ?_
  refine tp_l (y := 7906173151703165254) (by decide) ?_
  refine lv_lstore_n (lv' := [(1, .long 7906173151703165254), (4, .int 0), (3, .int 5), (0, .ref m0)]) hx hb dX12_digest_57 rfl hl (by decide) rfl (fun ls hl => ?_)
  refine lv_iinc (v := 1) (lv' := [(4, .int 1), (1, .long 7906173151703165254), (3, .int 5), (0, .ref m0)]) hx hb dX12_digest_58 hl (k := 1) rfl (by decide) (by decide) rfl (fun ls hl => ?_)
  refine lv_goto (tgt := 31) hx hb dX12_digest_61 (by decide) ?_
  refine lv_iload hx hb dX12_digest_31 (lv_at hl 0 rfl) ?_
  refine lv_bipush (v := 6) hx hb dX12_digest_33 (by decide) ?_
  refine lv_icmp_ge (tgt := 64) hx hb dX12_digest_35 (by decide) (fun q9 => absurd q9 (by decide)) (fun _ => ?_)
  refine lv_ldc2 (v := 31) hx hb hown (hts (.constantLong RX12 455 (31)) (by decide +kernel)) dX12_digest_38 ?_
  refine lv_lload_n hx hb dX12_digest_41 rfl (lv_at hl 1 rfl) ?_
  refine lv_lmul hx hb dX12_digest_42 ?_
  refine tp_l (y := 5283694744573951866) (by decide) ?_
  refine lv_aload_n hx hb dX12_digest_43 rfl (lv_at hl 3 rfl) ?_
  refine va_get (D := D) (ci := 12) (v := .ref g4) (C := RX12) (T := TX12) (N := 69) hx hb hts (fun _ h => List.mem_cons_of_mem _ (List.mem_append_right _ h)) hown hK hP 0 rfl rfl 4 (by decide) (hts (.fieldLink RX12 16 "TalePlayModel" "defaults" "[I") (by decide +kernel)) (fun _ h9 => h9) rfl dX12_digest_44 ?_
  refine lv_bipush (v := 6) hx hb dX12_digest_47 (by decide) ?_
  refine lv_iload_n hx hb dX12_digest_49 rfl (lv_at hl 2 rfl) ?_
  refine lv_imul hx hb dX12_digest_50 ?_
  refine tp_i (y := 30) (by decide) ?_
  refine lv_iload hx hb dX12_digest_51 (lv_at hl 0 rfl) ?_
  refine lv_iadd hx hb dX12_digest_53 ?_
  refine tp_i (y := 31) (by decide) ?_
  refine va_iald hx hb hK hP 2 1 rfl rfl (show vp_in 31 144 from by unfold vp_in; decide) dX12_digest_54 ?_
  refine tp_i (y := (-9)) (hfd _ (by decide)) ?_
  refine lv_i2l (v := (-9)) hx hb dX12_digest_55 (by decide) ?_
  refine lv_ladd hx hb dX12_digest_56 ?_
  refine tp_l (y := 5283694744573951857) (by decide) ?_
  refine lv_lstore_n (lv' := [(1, .long 5283694744573951857), (4, .int 1), (3, .int 5), (0, .ref m0)]) hx hb dX12_digest_57 rfl hl (by decide) rfl (fun ls hl => ?_)
  refine lv_iinc (v := 2) (lv' := [(4, .int 2), (1, .long 5283694744573951857), (3, .int 5), (0, .ref m0)]) hx hb dX12_digest_58 hl (k := 1) rfl (by decide) (by decide) rfl (fun ls hl => ?_)
  refine lv_goto (tgt := 31) hx hb dX12_digest_61 (by decide) ?_
  refine lv_iload hx hb dX12_digest_31 (lv_at hl 0 rfl) ?_
  refine lv_bipush (v := 6) hx hb dX12_digest_33 (by decide) ?_
  refine lv_icmp_ge (tgt := 64) hx hb dX12_digest_35 (by decide) (fun q9 => absurd q9 (by decide)) (fun _ => ?_)
  refine lv_ldc2 (v := 31) hx hb hown (hts (.constantLong RX12 455 (31)) (by decide +kernel)) dX12_digest_38 ?_
  refine lv_lload_n hx hb dX12_digest_41 rfl (lv_at hl 1 rfl) ?_
  refine lv_lmul hx hb dX12_digest_42 ?_
  refine tp_l (y := (-2226159581593456977)) (by decide) ?_
  refine lv_aload_n hx hb dX12_digest_43 rfl (lv_at hl 3 rfl) ?_
  refine va_get (D := D) (ci := 12) (v := .ref g4) (C := RX12) (T := TX12) (N := 69) hx hb hts (fun _ h => List.mem_cons_of_mem _ (List.mem_append_right _ h)) hown hK hP 0 rfl rfl 4 (by decide) (hts (.fieldLink RX12 16 "TalePlayModel" "defaults" "[I") (by decide +kernel)) (fun _ h9 => h9) rfl dX12_digest_44 ?_
  refine lv_bipush (v := 6) hx hb dX12_digest_47 (by decide) ?_
  refine lv_iload_n hx hb dX12_digest_49 rfl (lv_at hl 2 rfl) ?_
  refine lv_imul hx hb dX12_digest_50 ?_
  refine tp_i (y := 30) (by decide) ?_
  refine lv_iload hx hb dX12_digest_51 (lv_at hl 0 rfl) ?_
  refine lv_iadd hx hb dX12_digest_53 ?_
  refine tp_i (y := 32) (by decide) ?_
  refine va_iald hx hb hK hP 2 1 rfl rfl (show vp_in 32 144 from by unfold vp_in; decide) dX12_digest_54 ?_
  refine tp_i (y := (-9)) (hfd _ (by decide)) ?_
  refine lv_i2l (v := (-9)) hx hb dX12_digest_55 (by decide) ?_
  refine lv_ladd hx hb dX12_digest_56 ?_
  refine tp_l (y := (-2226159581593456986)) (by decide) ?_
  refine lv_lstore_n (lv' := [(1, .long (-2226159581593456986)), (4, .int 2), (3, .int 5), (0, .ref m0)]) hx hb dX12_digest_57 rfl hl (by decide) rfl (fun ls hl => ?_)
  refine lv_iinc (v := 3) (lv' := [(4, .int 3), (1, .long (-2226159581593456986)), (3, .int 5), (0, .ref m0)]) hx hb dX12_digest_58 hl (k := 1) rfl (by decide) (by decide) rfl (fun ls hl => ?_)
  refine lv_goto (tgt := 31) hx hb dX12_digest_61 (by decide) ?_
  refine lv_iload hx hb dX12_digest_31 (lv_at hl 0 rfl) ?_
  refine lv_bipush (v := 6) hx hb dX12_digest_33 (by decide) ?_
  refine lv_icmp_ge (tgt := 64) hx hb dX12_digest_35 (by decide) (fun q9 => absurd q9 (by decide)) (fun _ => ?_)
  refine lv_ldc2 (v := 31) hx hb hown (hts (.constantLong RX12 455 (31)) (by decide +kernel)) dX12_digest_38 ?_
  refine lv_lload_n hx hb dX12_digest_41 rfl (lv_at hl 1 rfl) ?_
  refine lv_lmul hx hb dX12_digest_42 ?_
  refine tp_l (y := 4776029265441039898) (by decide) ?_
  refine lv_aload_n hx hb dX12_digest_43 rfl (lv_at hl 3 rfl) ?_
  refine va_get (D := D) (ci := 12) (v := .ref g4) (C := RX12) (T := TX12) (N := 69) hx hb hts (fun _ h => List.mem_cons_of_mem _ (List.mem_append_right _ h)) hown hK hP 0 rfl rfl 4 (by decide) (hts (.fieldLink RX12 16 "TalePlayModel" "defaults" "[I") (by decide +kernel)) (fun _ h9 => h9) rfl dX12_digest_44 ?_
  refine lv_bipush (v := 6) hx hb dX12_digest_47 (by decide) ?_
  refine lv_iload_n hx hb dX12_digest_49 rfl (lv_at hl 2 rfl) ?_
  refine lv_imul hx hb dX12_digest_50 ?_
  refine tp_i (y := 30) (by decide) ?_
  refine lv_iload hx hb dX12_digest_51 (lv_at hl 0 rfl) ?_
  refine lv_iadd hx hb dX12_digest_53 ?_
  refine tp_i (y := 33) (by decide) ?_
  refine va_iald hx hb hK hP 2 1 rfl rfl (show vp_in 33 144 from by unfold vp_in; decide) dX12_digest_54 ?_
  refine tp_i (y := (-9)) (hfd _ (by decide)) ?_
  refine lv_i2l (v := (-9)) hx hb dX12_digest_55 (by decide) ?_
  refine lv_ladd hx hb dX12_digest_56 ?_
  refine tp_l (y := 4776029265441039889) (by decide) ?_
  refine lv_lstore_n (lv' := [(1, .long 4776029265441039889), (4, .int 3), (3, .int 5), (0, .ref m0)]) hx hb dX12_digest_57 rfl hl (by decide) rfl (fun ls hl => ?_)
  refine lv_iinc (v := 4) (lv' := [(4, .int 4), (1, .long 4776029265441039889), (3, .int 5), (0, .ref m0)]) hx hb dX12_digest_58 hl (k := 1) rfl (by decide) (by decide) rfl (fun ls hl => ?_)
  refine lv_goto (tgt := 31) hx hb dX12_digest_61 (by decide) ?_
  refine lv_iload hx hb dX12_digest_31 (lv_at hl 0 rfl) ?_
  refine lv_bipush (v := 6) hx hb dX12_digest_33 (by decide) ?_
  refine lv_icmp_ge (tgt := 64) hx hb dX12_digest_35 (by decide) (fun q9 => absurd q9 (by decide)) (fun _ => ?_)
  refine lv_ldc2 (v := 31) hx hb hown (hts (.constantLong RX12 455 (31)) (by decide +kernel)) dX12_digest_38 ?_
  refine lv_lload_n hx hb dX12_digest_41 rfl (lv_at hl 1 rfl) ?_
  refine lv_lmul hx hb dX12_digest_42 ?_
  refine tp_l (y := 482954638995823631) (by decide) ?_
  refine lv_aload_n hx hb dX12_digest_43 rfl (lv_at hl 3 rfl) ?_
  refine va_get (D := D) (ci := 12) (v := .ref g4) (C := RX12) (T := TX12) (N := 69) hx hb hts (fun _ h => List.mem_cons_of_mem _ (List.mem_append_right _ h)) hown hK hP 0 rfl rfl 4 (by decide) (hts (.fieldLink RX12 16 "TalePlayModel" "defaults" "[I") (by decide +kernel)) (fun _ h9 => h9) rfl dX12_digest_44 ?_
  refine lv_bipush (v := 6) hx hb dX12_digest_47 (by decide) ?_
  refine lv_iload_n hx hb dX12_digest_49 rfl (lv_at hl 2 rfl) ?_
  refine lv_imul hx hb dX12_digest_50 ?_
  refine tp_i (y := 30) (by decide) ?_
  refine lv_iload hx hb dX12_digest_51 (lv_at hl 0 rfl) ?_
  refine lv_iadd hx hb dX12_digest_53 ?_
  refine tp_i (y := 34) (by decide) ?_
  refine va_iald hx hb hK hP 2 1 rfl rfl (show vp_in 34 144 from by unfold vp_in; decide) dX12_digest_54 ?_
  refine tp_i (y := (-9)) (hfd _ (by decide)) ?_
  refine lv_i2l (v := (-9)) hx hb dX12_digest_55 (by decide) ?_
  refine lv_ladd hx hb dX12_digest_56 ?_
  refine tp_l (y := 482954638995823622) (by decide) ?_
  refine lv_lstore_n (lv' := [(1, .long 482954638995823622), (4, .int 4), (3, .int 5), (0, .ref m0)]) hx hb dX12_digest_57 rfl hl (by decide) rfl (fun ls hl => ?_)
  refine lv_iinc (v := 5) (lv' := [(4, .int 5), (1, .long 482954638995823622), (3, .int 5), (0, .ref m0)]) hx hb dX12_digest_58 hl (k := 1) rfl (by decide) (by decide) rfl (fun ls hl => ?_)
  refine lv_goto (tgt := 31) hx hb dX12_digest_61 (by decide) ?_
  refine lv_iload hx hb dX12_digest_31 (lv_at hl 0 rfl) ?_
  refine lv_bipush (v := 6) hx hb dX12_digest_33 (by decide) ?_
  refine lv_icmp_ge (tgt := 64) hx hb dX12_digest_35 (by decide) (fun q9 => absurd q9 (by decide)) (fun _ => ?_)
  refine lv_ldc2 (v := 31) hx hb hown (hts (.constantLong RX12 455 (31)) (by decide +kernel)) dX12_digest_38 ?_
  refine lv_lload_n hx hb dX12_digest_41 rfl (lv_at hl 1 rfl) ?_
  refine lv_lmul hx hb dX12_digest_42 ?_
  refine tp_l (y := (-3475150264839019334)) (by decide) ?_
  refine lv_aload_n hx hb dX12_digest_43 rfl (lv_at hl 3 rfl) ?_
  refine va_get (D := D) (ci := 12) (v := .ref g4) (C := RX12) (T := TX12) (N := 69) hx hb hts (fun _ h => List.mem_cons_of_mem _ (List.mem_append_right _ h)) hown hK hP 0 rfl rfl 4 (by decide) (hts (.fieldLink RX12 16 "TalePlayModel" "defaults" "[I") (by decide +kernel)) (fun _ h9 => h9) rfl dX12_digest_44 ?_
  refine lv_bipush (v := 6) hx hb dX12_digest_47 (by decide) ?_
  refine lv_iload_n hx hb dX12_digest_49 rfl (lv_at hl 2 rfl) ?_
  refine lv_imul hx hb dX12_digest_50 ?_
  refine tp_i (y := 30) (by decide) ?_
  refine lv_iload hx hb dX12_digest_51 (lv_at hl 0 rfl) ?_
  refine lv_iadd hx hb dX12_digest_53 ?_
  refine tp_i (y := 35) (by decide) ?_
  refine va_iald hx hb hK hP 2 1 rfl rfl (show vp_in 35 144 from by unfold vp_in; decide) dX12_digest_54 ?_
  refine tp_i (y := (-9)) (hfd _ (by decide)) ?_
  refine lv_i2l (v := (-9)) hx hb dX12_digest_55 (by decide) ?_
  refine lv_ladd hx hb dX12_digest_56 ?_
  refine tp_l (y := (-3475150264839019343)) (by decide) ?_
  refine lv_lstore_n (lv' := [(1, .long (-3475150264839019343)), (4, .int 5), (3, .int 5), (0, .ref m0)]) hx hb dX12_digest_57 rfl hl (by decide) rfl (fun ls hl => ?_)
  refine lv_iinc (v := 6) (lv' := [(4, .int 6), (1, .long (-3475150264839019343)), (3, .int 5), (0, .ref m0)]) hx hb dX12_digest_58 hl (k := 1) rfl (by decide) (by decide) rfl (fun ls hl => ?_)
  refine lv_goto (tgt := 31) hx hb dX12_digest_61 (by decide) ?_
  refine lv_iload hx hb dX12_digest_31 (lv_at hl 0 rfl) ?_
  refine lv_bipush (v := 6) hx hb dX12_digest_33 (by decide) ?_
  refine lv_icmp_ge (tgt := 64) hx hb dX12_digest_35 (by decide) (fun _ => ?_) (fun q9 => absurd (by decide) q9)
  refine lv_iinc (v := 6) (lv' := [(3, .int 6), (4, .int 6), (1, .long (-3475150264839019343)), (0, .ref m0)]) hx hb dX12_digest_64 hl (k := 2) rfl (by decide) (by decide) rfl (fun ls hl => ?_)
  refine lv_goto (tgt := 6) hx hb dX12_digest_67 (by decide) ?_
  refine lv_iload_n hx hb dX12_digest_6 rfl (lv_at hl 0 rfl) ?_
  refine lv_aload_n hx hb dX12_digest_7 rfl (lv_at hl 3 rfl) ?_
  refine va_get (D := D) (ci := 12) (v := .int 6) (C := RX12) (T := TX12) (N := 69) hx hb hts (fun _ h => List.mem_cons_of_mem _ (List.mem_append_right _ h)) hown hK hP 0 rfl rfl 2 (by decide) (hts (.fieldLink RX12 151 "TalePlayModel" "kinds" "I") (by decide +kernel)) (fun _ h9 => h9) rfl dX12_digest_8 ?_
  refine lv_icmp_ge (tgt := 70) hx hb dX12_digest_11 (by decide) (fun _ => ?_) (fun q9 => absurd (by decide) q9)
  refine lv_aload_n hx hb dX12_digest_70 rfl (lv_at hl 3 rfl) ?_
  refine va_get (D := D) (ci := 12) (v := .int (-9)) (C := RX12) (T := TX12) (N := 69) hx hb hts (fun _ h => List.mem_cons_of_mem _ (List.mem_append_right _ h)) hown hK hP 0 rfl rfl 22 (by decide) (hts (.fieldLink RX12 155 "TalePlayModel" "player" "I") (by decide +kernel)) (fun _ h9 => h9) rfl dX12_digest_71 ?_
  refine lv_bipush (v := (-9)) hx hb dX12_digest_74 (by decide) ?_
  refine lv_icmp_eq (tgt := 87) hx hb dX12_digest_76 (by decide) (fun _ => ?_) (fun q9 => absurd (by decide) q9)
  refine lv_iconst (v := 0) hx hb dX12_digest_87 (by decide) ?_
  refine lv_istore_n (lv' := [(3, .int 0), (4, .int 6), (1, .long (-3475150264839019343)), (0, .ref m0)]) hx hb dX12_digest_88 rfl hl (by decide) rfl (fun ls hl => ?_)
  refine lv_iload_n hx hb dX12_digest_89 rfl (lv_at hl 0 rfl) ?_
  refine lv_aload_n hx hb dX12_digest_90 rfl (lv_at hl 3 rfl) ?_
  refine va_get (D := D) (ci := 12) (v := .int 0) (C := RX12) (T := TX12) (N := 69) hx hb hts (fun _ h => List.mem_cons_of_mem _ (List.mem_append_right _ h)) hown hK hP 0 rfl rfl 5 (by decide) (hts (.fieldLink RX12 177 "TalePlayModel" "objects" "I") (by decide +kernel)) (fun _ h9 => h9) rfl dX12_digest_91 ?_
  refine lv_icmp_ge (tgt := 228) hx hb dX12_digest_94 (by decide) (fun _ => ?_) (fun q9 => absurd (by decide) q9)
  refine lv_iconst (v := 0) hx hb dX12_digest_228 (by decide) ?_
  refine lv_istore_n (lv' := [(3, .int 0), (4, .int 6), (1, .long (-3475150264839019343)), (0, .ref m0)]) hx hb dX12_digest_229 rfl hl (by decide) rfl (fun ls hl => ?_)
  refine lv_iload_n hx hb dX12_digest_230 rfl (lv_at hl 0 rfl) ?_
  refine lv_aload_n hx hb dX12_digest_231 rfl (lv_at hl 3 rfl) ?_
  refine va_get (D := D) (ci := 12) (v := .int 0) (C := RX12) (T := TX12) (N := 69) hx hb hts (fun _ h => List.mem_cons_of_mem _ (List.mem_append_right _ h)) hown hK hP 0 rfl rfl 8 (by decide) (hts (.fieldLink RX12 202 "TalePlayModel" "sentences" "I") (by decide +kernel)) (fun _ h9 => h9) rfl dX12_digest_232 ?_
  refine lv_icmp_ge (tgt := 274) hx hb dX12_digest_235 (by decide) (fun _ => ?_) (fun q9 => absurd (by decide) q9)
  refine lv_lload_n hx hb dX12_digest_274 rfl (lv_at hl 2 rfl) ?_
  exact ro_lret hx hb hr hlocks hS dX12_digest_275 rfl
end
