section
-- ===== PART A: goes FIRST, ahead of the names: the tables' words, and 'selects' of the private methods out of them =====
/-- a private method of a class that the tables say can be made, by its rows of tables_1 -/
def lw_okq (q : MethodName × Nat) : Prop := (q.1.cls ≠ "java/lang/invoke/MethodHandle" ∧ q.1.cls ≠ "java/lang/invoke/VarHandle") ∧ Cond.instantiable q.1.cls q.2 ∈ tables_1 ∧ Cond.privateMethod q.1 ∈ tables_1 ∧ Cond.instanceMethod q.1 ∈ tables_1
theorem lw_p0 : lw_okq (⟨"TalePlay$Roads", "wipe", "()V"⟩, 11) := ⟨⟨by decide +kernel, by decide +kernel⟩, List.mem_of_getElem? (i := 156) (by decide +kernel), List.mem_of_getElem? (i := 162) (by decide +kernel), List.mem_of_getElem? (i := 163) (by decide +kernel)⟩
theorem lw_p1 : lw_okq (⟨"TalePlay", "answerFinding", "(I)I"⟩, 11) := ⟨⟨by decide +kernel, by decide +kernel⟩, List.mem_of_getElem? (i := 17) (by decide +kernel), List.mem_of_getElem? (i := 476) (by decide +kernel), List.mem_of_getElem? (i := 477) (by decide +kernel)⟩
theorem lw_p2 : lw_okq (⟨"TalePlay", "places", "()LTalePlay$Scene;"⟩, 11) := ⟨⟨by decide +kernel, by decide +kernel⟩, List.mem_of_getElem? (i := 17) (by decide +kernel), List.mem_of_getElem? (i := 480) (by decide +kernel), List.mem_of_getElem? (i := 481) (by decide +kernel)⟩
theorem lw_p3 : lw_okq (⟨"TalePlay$Bulks", "weighBy", "(LTalePlay$Scene;II)I"⟩, 4) := ⟨⟨by decide +kernel, by decide +kernel⟩, List.mem_of_getElem? (i := 205) (by decide +kernel), List.mem_of_getElem? (i := 488) (by decide +kernel), List.mem_of_getElem? (i := 489) (by decide +kernel)⟩
theorem lw_p4 : lw_okq (⟨"TalePlay$Bulks", "noteBodies", "(I)V"⟩, 4) := ⟨⟨by decide +kernel, by decide +kernel⟩, List.mem_of_getElem? (i := 205) (by decide +kernel), List.mem_of_getElem? (i := 493) (by decide +kernel), List.mem_of_getElem? (i := 494) (by decide +kernel)⟩
theorem lw_p5 : lw_okq (⟨"TalePlay$Bulks", "note", "(I)V"⟩, 4) := ⟨⟨by decide +kernel, by decide +kernel⟩, List.mem_of_getElem? (i := 205) (by decide +kernel), List.mem_of_getElem? (i := 499) (by decide +kernel), List.mem_of_getElem? (i := 500) (by decide +kernel)⟩
theorem lw_p6 : lw_okq (⟨"TalePlay$Bulks", "weighThose", "(LTalePlay$Scene;III)I"⟩, 4) := ⟨⟨by decide +kernel, by decide +kernel⟩, List.mem_of_getElem? (i := 205) (by decide +kernel), List.mem_of_getElem? (i := 503) (by decide +kernel), List.mem_of_getElem? (i := 504) (by decide +kernel)⟩
theorem lw_p7 : lw_okq (⟨"TalePlay$Book", "addClash", "(I)Z"⟩, 15) := ⟨⟨by decide +kernel, by decide +kernel⟩, List.mem_of_getElem? (i := 69) (by decide +kernel), List.mem_of_getElem? (i := 587) (by decide +kernel), List.mem_of_getElem? (i := 588) (by decide +kernel)⟩
theorem lw_p8 : lw_okq (⟨"TalePlay$Book", "isDoorClashing", "(II)Z"⟩, 15) := ⟨⟨by decide +kernel, by decide +kernel⟩, List.mem_of_getElem? (i := 69) (by decide +kernel), List.mem_of_getElem? (i := 591) (by decide +kernel), List.mem_of_getElem? (i := 592) (by decide +kernel)⟩
theorem lw_p9 : lw_okq (⟨"TalePlay$Book", "isFlagClashing", "(III)Z"⟩, 15) := ⟨⟨by decide +kernel, by decide +kernel⟩, List.mem_of_getElem? (i := 69) (by decide +kernel), List.mem_of_getElem? (i := 596) (by decide +kernel), List.mem_of_getElem? (i := 597) (by decide +kernel)⟩
theorem lw_p10 : lw_okq (⟨"TalePlay$Book", "saying", "(III)I"⟩, 15) := ⟨⟨by decide +kernel, by decide +kernel⟩, List.mem_of_getElem? (i := 69) (by decide +kernel), List.mem_of_getElem? (i := 600) (by decide +kernel), List.mem_of_getElem? (i := 601) (by decide +kernel)⟩
theorem lw_p11 : lw_okq (⟨"TalePlay$Book", "isPlaceClashing", "(III)Z"⟩, 15) := ⟨⟨by decide +kernel, by decide +kernel⟩, List.mem_of_getElem? (i := 69) (by decide +kernel), List.mem_of_getElem? (i := 608) (by decide +kernel), List.mem_of_getElem? (i := 609) (by decide +kernel)⟩
theorem lw_p12 : lw_okq (⟨"TalePlay$Book", "addChain", "(II)V"⟩, 15) := ⟨⟨by decide +kernel, by decide +kernel⟩, List.mem_of_getElem? (i := 69) (by decide +kernel), List.mem_of_getElem? (i := 617) (by decide +kernel), List.mem_of_getElem? (i := 618) (by decide +kernel)⟩
theorem lw_p13 : lw_okq (⟨"TalePlay$Book", "point", "(II)V"⟩, 15) := ⟨⟨by decide +kernel, by decide +kernel⟩, List.mem_of_getElem? (i := 69) (by decide +kernel), List.mem_of_getElem? (i := 626) (by decide +kernel), List.mem_of_getElem? (i := 627) (by decide +kernel)⟩
theorem lw_p14 : lw_okq (⟨"TalePlay$Roads", "drawSaid", "()V"⟩, 11) := ⟨⟨by decide +kernel, by decide +kernel⟩, List.mem_of_getElem? (i := 156) (by decide +kernel), List.mem_of_getElem? (i := 637) (by decide +kernel), List.mem_of_getElem? (i := 638) (by decide +kernel)⟩
theorem lw_p15 : lw_okq (⟨"TalePlay$Roads", "isDrawn", "(I)Z"⟩, 11) := ⟨⟨by decide +kernel, by decide +kernel⟩, List.mem_of_getElem? (i := 156) (by decide +kernel), List.mem_of_getElem? (i := 641) (by decide +kernel), List.mem_of_getElem? (i := 642) (by decide +kernel)⟩
def lw_privs_1 : List (MethodName × Nat) := [(⟨"TalePlay$Roads", "wipe", "()V"⟩, 11), (⟨"TalePlay", "answerFinding", "(I)I"⟩, 11), (⟨"TalePlay", "places", "()LTalePlay$Scene;"⟩, 11), (⟨"TalePlay$Bulks", "weighBy", "(LTalePlay$Scene;II)I"⟩, 4), (⟨"TalePlay$Bulks", "noteBodies", "(I)V"⟩, 4), (⟨"TalePlay$Bulks", "note", "(I)V"⟩, 4), (⟨"TalePlay$Bulks", "weighThose", "(LTalePlay$Scene;III)I"⟩, 4), (⟨"TalePlay$Book", "addClash", "(I)Z"⟩, 15), (⟨"TalePlay$Book", "isDoorClashing", "(II)Z"⟩, 15), (⟨"TalePlay$Book", "isFlagClashing", "(III)Z"⟩, 15), (⟨"TalePlay$Book", "saying", "(III)I"⟩, 15), (⟨"TalePlay$Book", "isPlaceClashing", "(III)Z"⟩, 15), (⟨"TalePlay$Book", "addChain", "(II)V"⟩, 15), (⟨"TalePlay$Book", "point", "(II)V"⟩, 15), (⟨"TalePlay$Roads", "drawSaid", "()V"⟩, 11), (⟨"TalePlay$Roads", "isDrawn", "(I)Z"⟩, 11)]
theorem lw_r1 : ∀ q ∈ lw_privs_1, lw_okq q := List.forall_mem_cons.mpr ⟨lw_p0, List.forall_mem_cons.mpr ⟨lw_p1, List.forall_mem_cons.mpr ⟨lw_p2, List.forall_mem_cons.mpr ⟨lw_p3, List.forall_mem_cons.mpr ⟨lw_p4, List.forall_mem_cons.mpr ⟨lw_p5, List.forall_mem_cons.mpr ⟨lw_p6, List.forall_mem_cons.mpr ⟨lw_p7, List.forall_mem_cons.mpr ⟨lw_p8, List.forall_mem_cons.mpr ⟨lw_p9, List.forall_mem_cons.mpr ⟨lw_p10, List.forall_mem_cons.mpr ⟨lw_p11, List.forall_mem_cons.mpr ⟨lw_p12, List.forall_mem_cons.mpr ⟨lw_p13, List.forall_mem_cons.mpr ⟨lw_p14, List.forall_mem_cons.mpr ⟨lw_p15, fun _ h => absurd h List.not_mem_nil⟩⟩⟩⟩⟩⟩⟩⟩⟩⟩⟩⟩⟩⟩⟩⟩
theorem lw_p16 : lw_okq (⟨"TalePlay$Roads", "drawTarget", "(III)V"⟩, 11) := ⟨⟨by decide +kernel, by decide +kernel⟩, List.mem_of_getElem? (i := 156) (by decide +kernel), List.mem_of_getElem? (i := 645) (by decide +kernel), List.mem_of_getElem? (i := 646) (by decide +kernel)⟩
theorem lw_p17 : lw_okq (⟨"TalePlay$Roads", "drawImplied", "()V"⟩, 11) := ⟨⟨by decide +kernel, by decide +kernel⟩, List.mem_of_getElem? (i := 156) (by decide +kernel), List.mem_of_getElem? (i := 650) (by decide +kernel), List.mem_of_getElem? (i := 651) (by decide +kernel)⟩
theorem lw_p18 : lw_okq (⟨"TalePlay$Roads", "drawThroughDoors", "()V"⟩, 11) := ⟨⟨by decide +kernel, by decide +kernel⟩, List.mem_of_getElem? (i := 156) (by decide +kernel), List.mem_of_getElem? (i := 654) (by decide +kernel), List.mem_of_getElem? (i := 655) (by decide +kernel)⟩
theorem lw_p19 : lw_okq (⟨"TalePlay", "refuseRooms", "(II)I"⟩, 11) := ⟨⟨by decide +kernel, by decide +kernel⟩, List.mem_of_getElem? (i := 17) (by decide +kernel), List.mem_of_getElem? (i := 719) (by decide +kernel), List.mem_of_getElem? (i := 720) (by decide +kernel)⟩
theorem lw_p20 : lw_okq (⟨"TalePlay$Roads", "isPassable", "(IZ)Z"⟩, 11) := ⟨⟨by decide +kernel, by decide +kernel⟩, List.mem_of_getElem? (i := 156) (by decide +kernel), List.mem_of_getElem? (i := 727) (by decide +kernel), List.mem_of_getElem? (i := 728) (by decide +kernel)⟩
theorem lw_p21 : lw_okq (⟨"TalePlay$Tale", "cellAsSaid", "(I)I"⟩, 11) := ⟨⟨by decide +kernel, by decide +kernel⟩, List.mem_of_getElem? (i := 226) (by decide +kernel), List.mem_of_getElem? (i := 749) (by decide +kernel), List.mem_of_getElem? (i := 750) (by decide +kernel)⟩
theorem lw_p22 : lw_okq (⟨"TalePlay$Sight", "shellOf", "(IZ)I"⟩, 6) := ⟨⟨by decide +kernel, by decide +kernel⟩, List.mem_of_getElem? (i := 234) (by decide +kernel), List.mem_of_getElem? (i := 762) (by decide +kernel), List.mem_of_getElem? (i := 763) (by decide +kernel)⟩
theorem lw_p23 : lw_okq (⟨"TalePlay$Sight", "isCover", "(IZ)Z"⟩, 6) := ⟨⟨by decide +kernel, by decide +kernel⟩, List.mem_of_getElem? (i := 234) (by decide +kernel), List.mem_of_getElem? (i := 768) (by decide +kernel), List.mem_of_getElem? (i := 769) (by decide +kernel)⟩
theorem lw_p24 : lw_okq (⟨"TalePlay$Sight", "isInView", "(IIZ)Z"⟩, 6) := ⟨⟨by decide +kernel, by decide +kernel⟩, List.mem_of_getElem? (i := 234) (by decide +kernel), List.mem_of_getElem? (i := 776) (by decide +kernel), List.mem_of_getElem? (i := 777) (by decide +kernel)⟩
theorem lw_p25 : lw_okq (⟨"TalePlay$Acts", "reasonToGo", "(I)I"⟩, 7) := ⟨⟨by decide +kernel, by decide +kernel⟩, List.mem_of_getElem? (i := 265) (by decide +kernel), List.mem_of_getElem? (i := 809) (by decide +kernel), List.mem_of_getElem? (i := 810) (by decide +kernel)⟩
theorem lw_p26 : lw_okq (⟨"TalePlay$Acts", "isByRoom", "()Z"⟩, 7) := ⟨⟨by decide +kernel, by decide +kernel⟩, List.mem_of_getElem? (i := 265) (by decide +kernel), List.mem_of_getElem? (i := 813) (by decide +kernel), List.mem_of_getElem? (i := 814) (by decide +kernel)⟩
theorem lw_p27 : lw_okq (⟨"TalePlay$Acts", "reasonToTake", "(I)I"⟩, 7) := ⟨⟨by decide +kernel, by decide +kernel⟩, List.mem_of_getElem? (i := 265) (by decide +kernel), List.mem_of_getElem? (i := 821) (by decide +kernel), List.mem_of_getElem? (i := 822) (by decide +kernel)⟩
theorem lw_p28 : lw_okq (⟨"TalePlay$Acts", "isHeld", "(I)Z"⟩, 7) := ⟨⟨by decide +kernel, by decide +kernel⟩, List.mem_of_getElem? (i := 265) (by decide +kernel), List.mem_of_getElem? (i := 826) (by decide +kernel), List.mem_of_getElem? (i := 827) (by decide +kernel)⟩
theorem lw_p29 : lw_okq (⟨"TalePlay$Acts", "isAnothers", "(I)Z"⟩, 7) := ⟨⟨by decide +kernel, by decide +kernel⟩, List.mem_of_getElem? (i := 265) (by decide +kernel), List.mem_of_getElem? (i := 832) (by decide +kernel), List.mem_of_getElem? (i := 833) (by decide +kernel)⟩
theorem lw_p30 : lw_okq (⟨"TalePlay$Acts", "reasonOfShutter", "(II)I"⟩, 7) := ⟨⟨by decide +kernel, by decide +kernel⟩, List.mem_of_getElem? (i := 265) (by decide +kernel), List.mem_of_getElem? (i := 838) (by decide +kernel), List.mem_of_getElem? (i := 839) (by decide +kernel)⟩
theorem lw_p31 : lw_okq (⟨"TalePlay$Acts", "reasonToWear", "(I)I"⟩, 7) := ⟨⟨by decide +kernel, by decide +kernel⟩, List.mem_of_getElem? (i := 265) (by decide +kernel), List.mem_of_getElem? (i := 846) (by decide +kernel), List.mem_of_getElem? (i := 847) (by decide +kernel)⟩
def lw_privs_2 : List (MethodName × Nat) := [(⟨"TalePlay$Roads", "drawTarget", "(III)V"⟩, 11), (⟨"TalePlay$Roads", "drawImplied", "()V"⟩, 11), (⟨"TalePlay$Roads", "drawThroughDoors", "()V"⟩, 11), (⟨"TalePlay", "refuseRooms", "(II)I"⟩, 11), (⟨"TalePlay$Roads", "isPassable", "(IZ)Z"⟩, 11), (⟨"TalePlay$Tale", "cellAsSaid", "(I)I"⟩, 11), (⟨"TalePlay$Sight", "shellOf", "(IZ)I"⟩, 6), (⟨"TalePlay$Sight", "isCover", "(IZ)Z"⟩, 6), (⟨"TalePlay$Sight", "isInView", "(IIZ)Z"⟩, 6), (⟨"TalePlay$Acts", "reasonToGo", "(I)I"⟩, 7), (⟨"TalePlay$Acts", "isByRoom", "()Z"⟩, 7), (⟨"TalePlay$Acts", "reasonToTake", "(I)I"⟩, 7), (⟨"TalePlay$Acts", "isHeld", "(I)Z"⟩, 7), (⟨"TalePlay$Acts", "isAnothers", "(I)Z"⟩, 7), (⟨"TalePlay$Acts", "reasonOfShutter", "(II)I"⟩, 7), (⟨"TalePlay$Acts", "reasonToWear", "(I)I"⟩, 7)]
theorem lw_r2 : ∀ q ∈ lw_privs_2, lw_okq q := List.forall_mem_cons.mpr ⟨lw_p16, List.forall_mem_cons.mpr ⟨lw_p17, List.forall_mem_cons.mpr ⟨lw_p18, List.forall_mem_cons.mpr ⟨lw_p19, List.forall_mem_cons.mpr ⟨lw_p20, List.forall_mem_cons.mpr ⟨lw_p21, List.forall_mem_cons.mpr ⟨lw_p22, List.forall_mem_cons.mpr ⟨lw_p23, List.forall_mem_cons.mpr ⟨lw_p24, List.forall_mem_cons.mpr ⟨lw_p25, List.forall_mem_cons.mpr ⟨lw_p26, List.forall_mem_cons.mpr ⟨lw_p27, List.forall_mem_cons.mpr ⟨lw_p28, List.forall_mem_cons.mpr ⟨lw_p29, List.forall_mem_cons.mpr ⟨lw_p30, List.forall_mem_cons.mpr ⟨lw_p31, fun _ h => absurd h List.not_mem_nil⟩⟩⟩⟩⟩⟩⟩⟩⟩⟩⟩⟩⟩⟩⟩⟩
theorem lw_p32 : lw_okq (⟨"TalePlay$Acts", "reasonToEnter", "(I)I"⟩, 7) := ⟨⟨by decide +kernel, by decide +kernel⟩, List.mem_of_getElem? (i := 265) (by decide +kernel), List.mem_of_getElem? (i := 850) (by decide +kernel), List.mem_of_getElem? (i := 851) (by decide +kernel)⟩
theorem lw_p33 : lw_okq (⟨"TalePlay$Acts", "reasonToLeave", "()I"⟩, 7) := ⟨⟨by decide +kernel, by decide +kernel⟩, List.mem_of_getElem? (i := 265) (by decide +kernel), List.mem_of_getElem? (i := 854) (by decide +kernel), List.mem_of_getElem? (i := 855) (by decide +kernel)⟩
theorem lw_p34 : lw_okq (⟨"TalePlay$Acts", "reasonToPut", "(III)I"⟩, 7) := ⟨⟨by decide +kernel, by decide +kernel⟩, List.mem_of_getElem? (i := 265) (by decide +kernel), List.mem_of_getElem? (i := 862) (by decide +kernel), List.mem_of_getElem? (i := 863) (by decide +kernel)⟩
theorem lw_p35 : lw_okq (⟨"TalePlay$Acts", "reasonOfKey", "(II)I"⟩, 7) := ⟨⟨by decide +kernel, by decide +kernel⟩, List.mem_of_getElem? (i := 265) (by decide +kernel), List.mem_of_getElem? (i := 871) (by decide +kernel), List.mem_of_getElem? (i := 872) (by decide +kernel)⟩
theorem lw_p36 : lw_okq (⟨"TalePlay$Tale", "doIt", "(III)V"⟩, 11) := ⟨⟨by decide +kernel, by decide +kernel⟩, List.mem_of_getElem? (i := 226) (by decide +kernel), List.mem_of_getElem? (i := 876) (by decide +kernel), List.mem_of_getElem? (i := 877) (by decide +kernel)⟩
theorem lw_p37 : lw_okq (⟨"TalePlay$Acts", "placedAs", "(II)I"⟩, 7) := ⟨⟨by decide +kernel, by decide +kernel⟩, List.mem_of_getElem? (i := 265) (by decide +kernel), List.mem_of_getElem? (i := 894) (by decide +kernel), List.mem_of_getElem? (i := 895) (by decide +kernel)⟩
theorem lw_p38 : lw_okq (⟨"TalePlay$Seeker", "markOfScene", "()I"⟩, 15) := ⟨⟨by decide +kernel, by decide +kernel⟩, List.mem_of_getElem? (i := 935) (by decide +kernel), List.mem_of_getElem? (i := 1007) (by decide +kernel), List.mem_of_getElem? (i := 1008) (by decide +kernel)⟩
theorem lw_p39 : lw_okq (⟨"TalePlay$Seeker", "slotFor", "(I)I"⟩, 15) := ⟨⟨by decide +kernel, by decide +kernel⟩, List.mem_of_getElem? (i := 935) (by decide +kernel), List.mem_of_getElem? (i := 1015) (by decide +kernel), List.mem_of_getElem? (i := 1016) (by decide +kernel)⟩
theorem lw_p40 : lw_okq (⟨"TalePlay$Seeker", "isScene", "(I)Z"⟩, 15) := ⟨⟨by decide +kernel, by decide +kernel⟩, List.mem_of_getElem? (i := 935) (by decide +kernel), List.mem_of_getElem? (i := 1019) (by decide +kernel), List.mem_of_getElem? (i := 1020) (by decide +kernel)⟩
theorem lw_p41 : lw_okq (⟨"TalePlay$Seeker", "keep", "(IIII)V"⟩, 15) := ⟨⟨by decide +kernel, by decide +kernel⟩, List.mem_of_getElem? (i := 935) (by decide +kernel), List.mem_of_getElem? (i := 1023) (by decide +kernel), List.mem_of_getElem? (i := 1024) (by decide +kernel)⟩
theorem lw_p42 : lw_okq (⟨"TalePlay$Seeker", "isEnded", "()Z"⟩, 15) := ⟨⟨by decide +kernel, by decide +kernel⟩, List.mem_of_getElem? (i := 935) (by decide +kernel), List.mem_of_getElem? (i := 1028) (by decide +kernel), List.mem_of_getElem? (i := 1029) (by decide +kernel)⟩
theorem lw_p43 : lw_okq (⟨"TalePlay$Seeker", "tryFrom", "(I)V"⟩, 15) := ⟨⟨by decide +kernel, by decide +kernel⟩, List.mem_of_getElem? (i := 935) (by decide +kernel), List.mem_of_getElem? (i := 1032) (by decide +kernel), List.mem_of_getElem? (i := 1033) (by decide +kernel)⟩
theorem lw_p44 : lw_okq (⟨"TalePlay$Seeker", "tryWith", "(III)V"⟩, 15) := ⟨⟨by decide +kernel, by decide +kernel⟩, List.mem_of_getElem? (i := 935) (by decide +kernel), List.mem_of_getElem? (i := 1039) (by decide +kernel), List.mem_of_getElem? (i := 1040) (by decide +kernel)⟩
theorem lw_p45 : lw_okq (⟨"TalePlay$Seeker", "step", "(IIII)V"⟩, 15) := ⟨⟨by decide +kernel, by decide +kernel⟩, List.mem_of_getElem? (i := 935) (by decide +kernel), List.mem_of_getElem? (i := 1045) (by decide +kernel), List.mem_of_getElem? (i := 1046) (by decide +kernel)⟩
theorem lw_p46 : lw_okq (⟨"TalePlay$Seeker", "tellPlay", "()V"⟩, 15) := ⟨⟨by decide +kernel, by decide +kernel⟩, List.mem_of_getElem? (i := 935) (by decide +kernel), List.mem_of_getElem? (i := 1052) (by decide +kernel), List.mem_of_getElem? (i := 1053) (by decide +kernel)⟩
theorem lw_p47 : lw_okq (⟨"TalePlay", "refuseItem", "(III)I"⟩, 11) := ⟨⟨by decide +kernel, by decide +kernel⟩, List.mem_of_getElem? (i := 17) (by decide +kernel), List.mem_of_getElem? (i := 1072) (by decide +kernel), List.mem_of_getElem? (i := 1073) (by decide +kernel)⟩
def lw_privs_3 : List (MethodName × Nat) := [(⟨"TalePlay$Acts", "reasonToEnter", "(I)I"⟩, 7), (⟨"TalePlay$Acts", "reasonToLeave", "()I"⟩, 7), (⟨"TalePlay$Acts", "reasonToPut", "(III)I"⟩, 7), (⟨"TalePlay$Acts", "reasonOfKey", "(II)I"⟩, 7), (⟨"TalePlay$Tale", "doIt", "(III)V"⟩, 11), (⟨"TalePlay$Acts", "placedAs", "(II)I"⟩, 7), (⟨"TalePlay$Seeker", "markOfScene", "()I"⟩, 15), (⟨"TalePlay$Seeker", "slotFor", "(I)I"⟩, 15), (⟨"TalePlay$Seeker", "isScene", "(I)Z"⟩, 15), (⟨"TalePlay$Seeker", "keep", "(IIII)V"⟩, 15), (⟨"TalePlay$Seeker", "isEnded", "()Z"⟩, 15), (⟨"TalePlay$Seeker", "tryFrom", "(I)V"⟩, 15), (⟨"TalePlay$Seeker", "tryWith", "(III)V"⟩, 15), (⟨"TalePlay$Seeker", "step", "(IIII)V"⟩, 15), (⟨"TalePlay$Seeker", "tellPlay", "()V"⟩, 15), (⟨"TalePlay", "refuseItem", "(III)I"⟩, 11)]
theorem lw_r3 : ∀ q ∈ lw_privs_3, lw_okq q := List.forall_mem_cons.mpr ⟨lw_p32, List.forall_mem_cons.mpr ⟨lw_p33, List.forall_mem_cons.mpr ⟨lw_p34, List.forall_mem_cons.mpr ⟨lw_p35, List.forall_mem_cons.mpr ⟨lw_p36, List.forall_mem_cons.mpr ⟨lw_p37, List.forall_mem_cons.mpr ⟨lw_p38, List.forall_mem_cons.mpr ⟨lw_p39, List.forall_mem_cons.mpr ⟨lw_p40, List.forall_mem_cons.mpr ⟨lw_p41, List.forall_mem_cons.mpr ⟨lw_p42, List.forall_mem_cons.mpr ⟨lw_p43, List.forall_mem_cons.mpr ⟨lw_p44, List.forall_mem_cons.mpr ⟨lw_p45, List.forall_mem_cons.mpr ⟨lw_p46, List.forall_mem_cons.mpr ⟨lw_p47, fun _ h => absurd h List.not_mem_nil⟩⟩⟩⟩⟩⟩⟩⟩⟩⟩⟩⟩⟩⟩⟩⟩
theorem lw_p48 : lw_okq (⟨"TalePlay", "digestKinds", "(J)J"⟩, 11) := ⟨⟨by decide +kernel, by decide +kernel⟩, List.mem_of_getElem? (i := 17) (by decide +kernel), List.mem_of_getElem? (i := 1140) (by decide +kernel), List.mem_of_getElem? (i := 1141) (by decide +kernel)⟩
theorem lw_p49 : lw_okq (⟨"TalePlay", "digestObjects", "(J)J"⟩, 11) := ⟨⟨by decide +kernel, by decide +kernel⟩, List.mem_of_getElem? (i := 17) (by decide +kernel), List.mem_of_getElem? (i := 1145) (by decide +kernel), List.mem_of_getElem? (i := 1146) (by decide +kernel)⟩
theorem lw_p50 : lw_okq (⟨"TalePlay", "digestSentences", "(J)J"⟩, 11) := ⟨⟨by decide +kernel, by decide +kernel⟩, List.mem_of_getElem? (i := 17) (by decide +kernel), List.mem_of_getElem? (i := 1149) (by decide +kernel), List.mem_of_getElem? (i := 1150) (by decide +kernel)⟩
theorem lw_p51 : lw_okq (⟨"TalePlayModel", "endTale", "()V"⟩, 69) := ⟨⟨by decide +kernel, by decide +kernel⟩, List.mem_of_getElem? (i := 1153) (by decide +kernel), List.mem_of_getElem? (i := 1389) (by decide +kernel), List.mem_of_getElem? (i := 1390) (by decide +kernel)⟩
theorem lw_p52 : lw_okq (⟨"TalePlayModel", "isObject", "(I)Z"⟩, 69) := ⟨⟨by decide +kernel, by decide +kernel⟩, List.mem_of_getElem? (i := 1153) (by decide +kernel), List.mem_of_getElem? (i := 1402) (by decide +kernel), List.mem_of_getElem? (i := 1403) (by decide +kernel)⟩
theorem lw_p53 : lw_okq (⟨"TalePlayModel", "isOf", "(II)Z"⟩, 69) := ⟨⟨by decide +kernel, by decide +kernel⟩, List.mem_of_getElem? (i := 1153) (by decide +kernel), List.mem_of_getElem? (i := 1406) (by decide +kernel), List.mem_of_getElem? (i := 1407) (by decide +kernel)⟩
theorem lw_p54 : lw_okq (⟨"TalePlayModel", "areNumbers", "(IIII)Z"⟩, 69) := ⟨⟨by decide +kernel, by decide +kernel⟩, List.mem_of_getElem? (i := 1153) (by decide +kernel), List.mem_of_getElem? (i := 1415) (by decide +kernel), List.mem_of_getElem? (i := 1416) (by decide +kernel)⟩
theorem lw_p55 : lw_okq (⟨"TalePlayModel", "fitsLeft", "(III)Z"⟩, 69) := ⟨⟨by decide +kernel, by decide +kernel⟩, List.mem_of_getElem? (i := 1153) (by decide +kernel), List.mem_of_getElem? (i := 1420) (by decide +kernel), List.mem_of_getElem? (i := 1421) (by decide +kernel)⟩
theorem lw_p56 : lw_okq (⟨"TalePlayModel", "isMovable", "(I)Z"⟩, 69) := ⟨⟨by decide +kernel, by decide +kernel⟩, List.mem_of_getElem? (i := 1153) (by decide +kernel), List.mem_of_getElem? (i := 1424) (by decide +kernel), List.mem_of_getElem? (i := 1425) (by decide +kernel)⟩
theorem lw_p57 : lw_okq (⟨"TalePlayModel", "mayHave", "(II)Z"⟩, 69) := ⟨⟨by decide +kernel, by decide +kernel⟩, List.mem_of_getElem? (i := 1153) (by decide +kernel), List.mem_of_getElem? (i := 1428) (by decide +kernel), List.mem_of_getElem? (i := 1429) (by decide +kernel)⟩
theorem lw_p58 : lw_okq (⟨"TalePlayModel", "isShutter", "(I)Z"⟩, 69) := ⟨⟨by decide +kernel, by decide +kernel⟩, List.mem_of_getElem? (i := 1153) (by decide +kernel), List.mem_of_getElem? (i := 1432) (by decide +kernel), List.mem_of_getElem? (i := 1433) (by decide +kernel)⟩
theorem lw_p59 : lw_okq (⟨"TalePlayModel", "isGoods", "(I)Z"⟩, 69) := ⟨⟨by decide +kernel, by decide +kernel⟩, List.mem_of_getElem? (i := 1153) (by decide +kernel), List.mem_of_getElem? (i := 1436) (by decide +kernel), List.mem_of_getElem? (i := 1437) (by decide +kernel)⟩
theorem lw_p60 : lw_okq (⟨"TalePlayModel", "fitsRight", "(II)Z"⟩, 69) := ⟨⟨by decide +kernel, by decide +kernel⟩, List.mem_of_getElem? (i := 1153) (by decide +kernel), List.mem_of_getElem? (i := 1440) (by decide +kernel), List.mem_of_getElem? (i := 1441) (by decide +kernel)⟩
theorem lw_p61 : lw_okq (⟨"TalePlayModel", "saidSo", "(IIII)I"⟩, 69) := ⟨⟨by decide +kernel, by decide +kernel⟩, List.mem_of_getElem? (i := 1153) (by decide +kernel), List.mem_of_getElem? (i := 1444) (by decide +kernel), List.mem_of_getElem? (i := 1445) (by decide +kernel)⟩
theorem lw_p62 : lw_okq (⟨"TalePlayModel", "meets", "(I)I"⟩, 69) := ⟨⟨by decide +kernel, by decide +kernel⟩, List.mem_of_getElem? (i := 1153) (by decide +kernel), List.mem_of_getElem? (i := 1448) (by decide +kernel), List.mem_of_getElem? (i := 1449) (by decide +kernel)⟩
theorem lw_p63 : lw_okq (⟨"TalePlayModel", "isPlaceBarred", "(III)Z"⟩, 69) := ⟨⟨by decide +kernel, by decide +kernel⟩, List.mem_of_getElem? (i := 1153) (by decide +kernel), List.mem_of_getElem? (i := 1452) (by decide +kernel), List.mem_of_getElem? (i := 1453) (by decide +kernel)⟩
def lw_privs_4 : List (MethodName × Nat) := [(⟨"TalePlay", "digestKinds", "(J)J"⟩, 11), (⟨"TalePlay", "digestObjects", "(J)J"⟩, 11), (⟨"TalePlay", "digestSentences", "(J)J"⟩, 11), (⟨"TalePlayModel", "endTale", "()V"⟩, 69), (⟨"TalePlayModel", "isObject", "(I)Z"⟩, 69), (⟨"TalePlayModel", "isOf", "(II)Z"⟩, 69), (⟨"TalePlayModel", "areNumbers", "(IIII)Z"⟩, 69), (⟨"TalePlayModel", "fitsLeft", "(III)Z"⟩, 69), (⟨"TalePlayModel", "isMovable", "(I)Z"⟩, 69), (⟨"TalePlayModel", "mayHave", "(II)Z"⟩, 69), (⟨"TalePlayModel", "isShutter", "(I)Z"⟩, 69), (⟨"TalePlayModel", "isGoods", "(I)Z"⟩, 69), (⟨"TalePlayModel", "fitsRight", "(II)Z"⟩, 69), (⟨"TalePlayModel", "saidSo", "(IIII)I"⟩, 69), (⟨"TalePlayModel", "meets", "(I)I"⟩, 69), (⟨"TalePlayModel", "isPlaceBarred", "(III)Z"⟩, 69)]
theorem lw_r4 : ∀ q ∈ lw_privs_4, lw_okq q := List.forall_mem_cons.mpr ⟨lw_p48, List.forall_mem_cons.mpr ⟨lw_p49, List.forall_mem_cons.mpr ⟨lw_p50, List.forall_mem_cons.mpr ⟨lw_p51, List.forall_mem_cons.mpr ⟨lw_p52, List.forall_mem_cons.mpr ⟨lw_p53, List.forall_mem_cons.mpr ⟨lw_p54, List.forall_mem_cons.mpr ⟨lw_p55, List.forall_mem_cons.mpr ⟨lw_p56, List.forall_mem_cons.mpr ⟨lw_p57, List.forall_mem_cons.mpr ⟨lw_p58, List.forall_mem_cons.mpr ⟨lw_p59, List.forall_mem_cons.mpr ⟨lw_p60, List.forall_mem_cons.mpr ⟨lw_p61, List.forall_mem_cons.mpr ⟨lw_p62, List.forall_mem_cons.mpr ⟨lw_p63, fun _ h => absurd h List.not_mem_nil⟩⟩⟩⟩⟩⟩⟩⟩⟩⟩⟩⟩⟩⟩⟩⟩
theorem lw_p64 : lw_okq (⟨"TalePlayModel", "placing", "(I)I"⟩, 69) := ⟨⟨by decide +kernel, by decide +kernel⟩, List.mem_of_getElem? (i := 1153) (by decide +kernel), List.mem_of_getElem? (i := 1456) (by decide +kernel), List.mem_of_getElem? (i := 1457) (by decide +kernel)⟩
theorem lw_p65 : lw_okq (⟨"TalePlayModel", "clashes", "(I)V"⟩, 69) := ⟨⟨by decide +kernel, by decide +kernel⟩, List.mem_of_getElem? (i := 1153) (by decide +kernel), List.mem_of_getElem? (i := 1460) (by decide +kernel), List.mem_of_getElem? (i := 1461) (by decide +kernel)⟩
theorem lw_p66 : lw_okq (⟨"TalePlayModel", "isExitBarred", "(III)Z"⟩, 69) := ⟨⟨by decide +kernel, by decide +kernel⟩, List.mem_of_getElem? (i := 1153) (by decide +kernel), List.mem_of_getElem? (i := 1464) (by decide +kernel), List.mem_of_getElem? (i := 1465) (by decide +kernel)⟩
theorem lw_p67 : lw_okq (⟨"TalePlayModel", "isFlagBarred", "(III)Z"⟩, 69) := ⟨⟨by decide +kernel, by decide +kernel⟩, List.mem_of_getElem? (i := 1153) (by decide +kernel), List.mem_of_getElem? (i := 1468) (by decide +kernel), List.mem_of_getElem? (i := 1469) (by decide +kernel)⟩
theorem lw_p68 : lw_okq (⟨"TalePlayModel", "isKeyBarred", "(I)Z"⟩, 69) := ⟨⟨by decide +kernel, by decide +kernel⟩, List.mem_of_getElem? (i := 1153) (by decide +kernel), List.mem_of_getElem? (i := 1472) (by decide +kernel), List.mem_of_getElem? (i := 1473) (by decide +kernel)⟩
theorem lw_p69 : lw_okq (⟨"TalePlayModel", "saidMany", "()I"⟩, 69) := ⟨⟨by decide +kernel, by decide +kernel⟩, List.mem_of_getElem? (i := 1153) (by decide +kernel), List.mem_of_getElem? (i := 1480) (by decide +kernel), List.mem_of_getElem? (i := 1481) (by decide +kernel)⟩
theorem lw_p70 : lw_okq (⟨"TalePlayModel", "saidFlag", "(II)I"⟩, 69) := ⟨⟨by decide +kernel, by decide +kernel⟩, List.mem_of_getElem? (i := 1153) (by decide +kernel), List.mem_of_getElem? (i := 1502) (by decide +kernel), List.mem_of_getElem? (i := 1503) (by decide +kernel)⟩
theorem lw_p71 : lw_okq (⟨"TalePlayModel", "keyOf", "(I)I"⟩, 69) := ⟨⟨by decide +kernel, by decide +kernel⟩, List.mem_of_getElem? (i := 1153) (by decide +kernel), List.mem_of_getElem? (i := 1510) (by decide +kernel), List.mem_of_getElem? (i := 1511) (by decide +kernel)⟩
theorem lw_p72 : lw_okq (⟨"TalePlayModel", "findExit", "(II)Z"⟩, 69) := ⟨⟨by decide +kernel, by decide +kernel⟩, List.mem_of_getElem? (i := 1153) (by decide +kernel), List.mem_of_getElem? (i := 1519) (by decide +kernel), List.mem_of_getElem? (i := 1520) (by decide +kernel)⟩
theorem lw_p73 : lw_okq (⟨"TalePlayModel", "otherSide", "(II)I"⟩, 69) := ⟨⟨by decide +kernel, by decide +kernel⟩, List.mem_of_getElem? (i := 1153) (by decide +kernel), List.mem_of_getElem? (i := 1523) (by decide +kernel), List.mem_of_getElem? (i := 1524) (by decide +kernel)⟩
theorem lw_p74 : lw_okq (⟨"TalePlayModel", "wayRefused", "(II)I"⟩, 69) := ⟨⟨by decide +kernel, by decide +kernel⟩, List.mem_of_getElem? (i := 1153) (by decide +kernel), List.mem_of_getElem? (i := 1531) (by decide +kernel), List.mem_of_getElem? (i := 1532) (by decide +kernel)⟩
theorem lw_p75 : lw_okq (⟨"TalePlayModel", "walk", "(IZ)V"⟩, 69) := ⟨⟨by decide +kernel, by decide +kernel⟩, List.mem_of_getElem? (i := 1153) (by decide +kernel), List.mem_of_getElem? (i := 1535) (by decide +kernel), List.mem_of_getElem? (i := 1536) (by decide +kernel)⟩
theorem lw_p76 : lw_okq (⟨"TalePlayModel", "bulkOf", "(I)I"⟩, 69) := ⟨⟨by decide +kernel, by decide +kernel⟩, List.mem_of_getElem? (i := 1153) (by decide +kernel), List.mem_of_getElem? (i := 1547) (by decide +kernel), List.mem_of_getElem? (i := 1548) (by decide +kernel)⟩
theorem lw_p77 : lw_okq (⟨"TalePlayModel", "body", "(I)V"⟩, 69) := ⟨⟨by decide +kernel, by decide +kernel⟩, List.mem_of_getElem? (i := 1153) (by decide +kernel), List.mem_of_getElem? (i := 1551) (by decide +kernel), List.mem_of_getElem? (i := 1552) (by decide +kernel)⟩
theorem lw_p78 : lw_okq (⟨"TalePlayModel", "beginBulk", "(II)I"⟩, 69) := ⟨⟨by decide +kernel, by decide +kernel⟩, List.mem_of_getElem? (i := 1153) (by decide +kernel), List.mem_of_getElem? (i := 1555) (by decide +kernel), List.mem_of_getElem? (i := 1556) (by decide +kernel)⟩
theorem lw_p79 : lw_okq (⟨"TalePlayModel", "formNow", "(I)I"⟩, 69) := ⟨⟨by decide +kernel, by decide +kernel⟩, List.mem_of_getElem? (i := 1153) (by decide +kernel), List.mem_of_getElem? (i := 1559) (by decide +kernel), List.mem_of_getElem? (i := 1560) (by decide +kernel)⟩
def lw_privs_5 : List (MethodName × Nat) := [(⟨"TalePlayModel", "placing", "(I)I"⟩, 69), (⟨"TalePlayModel", "clashes", "(I)V"⟩, 69), (⟨"TalePlayModel", "isExitBarred", "(III)Z"⟩, 69), (⟨"TalePlayModel", "isFlagBarred", "(III)Z"⟩, 69), (⟨"TalePlayModel", "isKeyBarred", "(I)Z"⟩, 69), (⟨"TalePlayModel", "saidMany", "()I"⟩, 69), (⟨"TalePlayModel", "saidFlag", "(II)I"⟩, 69), (⟨"TalePlayModel", "keyOf", "(I)I"⟩, 69), (⟨"TalePlayModel", "findExit", "(II)Z"⟩, 69), (⟨"TalePlayModel", "otherSide", "(II)I"⟩, 69), (⟨"TalePlayModel", "wayRefused", "(II)I"⟩, 69), (⟨"TalePlayModel", "walk", "(IZ)V"⟩, 69), (⟨"TalePlayModel", "bulkOf", "(I)I"⟩, 69), (⟨"TalePlayModel", "body", "(I)V"⟩, 69), (⟨"TalePlayModel", "beginBulk", "(II)I"⟩, 69), (⟨"TalePlayModel", "formNow", "(I)I"⟩, 69)]
theorem lw_r5 : ∀ q ∈ lw_privs_5, lw_okq q := List.forall_mem_cons.mpr ⟨lw_p64, List.forall_mem_cons.mpr ⟨lw_p65, List.forall_mem_cons.mpr ⟨lw_p66, List.forall_mem_cons.mpr ⟨lw_p67, List.forall_mem_cons.mpr ⟨lw_p68, List.forall_mem_cons.mpr ⟨lw_p69, List.forall_mem_cons.mpr ⟨lw_p70, List.forall_mem_cons.mpr ⟨lw_p71, List.forall_mem_cons.mpr ⟨lw_p72, List.forall_mem_cons.mpr ⟨lw_p73, List.forall_mem_cons.mpr ⟨lw_p74, List.forall_mem_cons.mpr ⟨lw_p75, List.forall_mem_cons.mpr ⟨lw_p76, List.forall_mem_cons.mpr ⟨lw_p77, List.forall_mem_cons.mpr ⟨lw_p78, List.forall_mem_cons.mpr ⟨lw_p79, fun _ h => absurd h List.not_mem_nil⟩⟩⟩⟩⟩⟩⟩⟩⟩⟩⟩⟩⟩⟩⟩⟩
theorem lw_p80 : lw_okq (⟨"TalePlayModel", "atNow", "(I)I"⟩, 69) := ⟨⟨by decide +kernel, by decide +kernel⟩, List.mem_of_getElem? (i := 1153) (by decide +kernel), List.mem_of_getElem? (i := 1563) (by decide +kernel), List.mem_of_getElem? (i := 1564) (by decide +kernel)⟩
theorem lw_p81 : lw_okq (⟨"TalePlayModel", "lookAtKinds", "()V"⟩, 69) := ⟨⟨by decide +kernel, by decide +kernel⟩, List.mem_of_getElem? (i := 1153) (by decide +kernel), List.mem_of_getElem? (i := 1593) (by decide +kernel), List.mem_of_getElem? (i := 1594) (by decide +kernel)⟩
theorem lw_p82 : lw_okq (⟨"TalePlayModel", "lookAround", "()V"⟩, 69) := ⟨⟨by decide +kernel, by decide +kernel⟩, List.mem_of_getElem? (i := 1153) (by decide +kernel), List.mem_of_getElem? (i := 1597) (by decide +kernel), List.mem_of_getElem? (i := 1598) (by decide +kernel)⟩
theorem lw_p83 : lw_okq (⟨"TalePlayModel", "shellOf", "(Z)I"⟩, 69) := ⟨⟨by decide +kernel, by decide +kernel⟩, List.mem_of_getElem? (i := 1153) (by decide +kernel), List.mem_of_getElem? (i := 1601) (by decide +kernel), List.mem_of_getElem? (i := 1602) (by decide +kernel)⟩
theorem lw_p84 : lw_okq (⟨"TalePlayModel", "shuts", "(IZ)Z"⟩, 69) := ⟨⟨by decide +kernel, by decide +kernel⟩, List.mem_of_getElem? (i := 1153) (by decide +kernel), List.mem_of_getElem? (i := 1605) (by decide +kernel), List.mem_of_getElem? (i := 1606) (by decide +kernel)⟩
theorem lw_p85 : lw_okq (⟨"TalePlayModel", "isInView", "(IIZ)Z"⟩, 69) := ⟨⟨by decide +kernel, by decide +kernel⟩, List.mem_of_getElem? (i := 1153) (by decide +kernel), List.mem_of_getElem? (i := 1609) (by decide +kernel), List.mem_of_getElem? (i := 1610) (by decide +kernel)⟩
theorem lw_p86 : lw_okq (⟨"TalePlayModel", "isSide", "(II)Z"⟩, 69) := ⟨⟨by decide +kernel, by decide +kernel⟩, List.mem_of_getElem? (i := 1153) (by decide +kernel), List.mem_of_getElem? (i := 1613) (by decide +kernel), List.mem_of_getElem? (i := 1614) (by decide +kernel)⟩
theorem lw_p87 : lw_okq (⟨"TalePlayModel", "whyNot", "(III)I"⟩, 69) := ⟨⟨by decide +kernel, by decide +kernel⟩, List.mem_of_getElem? (i := 1153) (by decide +kernel), List.mem_of_getElem? (i := 1617) (by decide +kernel), List.mem_of_getElem? (i := 1618) (by decide +kernel)⟩
theorem lw_p88 : lw_okq (⟨"TalePlayModel", "whyNotGo", "(I)I"⟩, 69) := ⟨⟨by decide +kernel, by decide +kernel⟩, List.mem_of_getElem? (i := 1153) (by decide +kernel), List.mem_of_getElem? (i := 1621) (by decide +kernel), List.mem_of_getElem? (i := 1622) (by decide +kernel)⟩
theorem lw_p89 : lw_okq (⟨"TalePlayModel", "isInRoom", "()Z"⟩, 69) := ⟨⟨by decide +kernel, by decide +kernel⟩, List.mem_of_getElem? (i := 1153) (by decide +kernel), List.mem_of_getElem? (i := 1625) (by decide +kernel), List.mem_of_getElem? (i := 1626) (by decide +kernel)⟩
theorem lw_p90 : lw_okq (⟨"TalePlayModel", "whyNotTake", "(I)I"⟩, 69) := ⟨⟨by decide +kernel, by decide +kernel⟩, List.mem_of_getElem? (i := 1153) (by decide +kernel), List.mem_of_getElem? (i := 1629) (by decide +kernel), List.mem_of_getElem? (i := 1630) (by decide +kernel)⟩
theorem lw_p91 : lw_okq (⟨"TalePlayModel", "isUpFrom", "(II)Z"⟩, 69) := ⟨⟨by decide +kernel, by decide +kernel⟩, List.mem_of_getElem? (i := 1153) (by decide +kernel), List.mem_of_getElem? (i := 1633) (by decide +kernel), List.mem_of_getElem? (i := 1634) (by decide +kernel)⟩
theorem lw_p92 : lw_okq (⟨"TalePlayModel", "holds", "(I)Z"⟩, 69) := ⟨⟨by decide +kernel, by decide +kernel⟩, List.mem_of_getElem? (i := 1153) (by decide +kernel), List.mem_of_getElem? (i := 1637) (by decide +kernel), List.mem_of_getElem? (i := 1638) (by decide +kernel)⟩
theorem lw_p93 : lw_okq (⟨"TalePlayModel", "whyNotPut", "(IIZ)I"⟩, 69) := ⟨⟨by decide +kernel, by decide +kernel⟩, List.mem_of_getElem? (i := 1153) (by decide +kernel), List.mem_of_getElem? (i := 1641) (by decide +kernel), List.mem_of_getElem? (i := 1642) (by decide +kernel)⟩
theorem lw_p94 : lw_okq (⟨"TalePlayModel", "lying", "(II)I"⟩, 69) := ⟨⟨by decide +kernel, by decide +kernel⟩, List.mem_of_getElem? (i := 1153) (by decide +kernel), List.mem_of_getElem? (i := 1645) (by decide +kernel), List.mem_of_getElem? (i := 1646) (by decide +kernel)⟩
theorem lw_p95 : lw_okq (⟨"TalePlayModel", "whyNotTurn", "(III)I"⟩, 69) := ⟨⟨by decide +kernel, by decide +kernel⟩, List.mem_of_getElem? (i := 1153) (by decide +kernel), List.mem_of_getElem? (i := 1649) (by decide +kernel), List.mem_of_getElem? (i := 1650) (by decide +kernel)⟩
def lw_privs_6 : List (MethodName × Nat) := [(⟨"TalePlayModel", "atNow", "(I)I"⟩, 69), (⟨"TalePlayModel", "lookAtKinds", "()V"⟩, 69), (⟨"TalePlayModel", "lookAround", "()V"⟩, 69), (⟨"TalePlayModel", "shellOf", "(Z)I"⟩, 69), (⟨"TalePlayModel", "shuts", "(IZ)Z"⟩, 69), (⟨"TalePlayModel", "isInView", "(IIZ)Z"⟩, 69), (⟨"TalePlayModel", "isSide", "(II)Z"⟩, 69), (⟨"TalePlayModel", "whyNot", "(III)I"⟩, 69), (⟨"TalePlayModel", "whyNotGo", "(I)I"⟩, 69), (⟨"TalePlayModel", "isInRoom", "()Z"⟩, 69), (⟨"TalePlayModel", "whyNotTake", "(I)I"⟩, 69), (⟨"TalePlayModel", "isUpFrom", "(II)Z"⟩, 69), (⟨"TalePlayModel", "holds", "(I)Z"⟩, 69), (⟨"TalePlayModel", "whyNotPut", "(IIZ)I"⟩, 69), (⟨"TalePlayModel", "lying", "(II)I"⟩, 69), (⟨"TalePlayModel", "whyNotTurn", "(III)I"⟩, 69)]
theorem lw_r6 : ∀ q ∈ lw_privs_6, lw_okq q := List.forall_mem_cons.mpr ⟨lw_p80, List.forall_mem_cons.mpr ⟨lw_p81, List.forall_mem_cons.mpr ⟨lw_p82, List.forall_mem_cons.mpr ⟨lw_p83, List.forall_mem_cons.mpr ⟨lw_p84, List.forall_mem_cons.mpr ⟨lw_p85, List.forall_mem_cons.mpr ⟨lw_p86, List.forall_mem_cons.mpr ⟨lw_p87, List.forall_mem_cons.mpr ⟨lw_p88, List.forall_mem_cons.mpr ⟨lw_p89, List.forall_mem_cons.mpr ⟨lw_p90, List.forall_mem_cons.mpr ⟨lw_p91, List.forall_mem_cons.mpr ⟨lw_p92, List.forall_mem_cons.mpr ⟨lw_p93, List.forall_mem_cons.mpr ⟨lw_p94, List.forall_mem_cons.mpr ⟨lw_p95, fun _ h => absurd h List.not_mem_nil⟩⟩⟩⟩⟩⟩⟩⟩⟩⟩⟩⟩⟩⟩⟩⟩
theorem lw_p96 : lw_okq (⟨"TalePlayModel", "whyNotEnter", "(I)I"⟩, 69) := ⟨⟨by decide +kernel, by decide +kernel⟩, List.mem_of_getElem? (i := 1153) (by decide +kernel), List.mem_of_getElem? (i := 1653) (by decide +kernel), List.mem_of_getElem? (i := 1654) (by decide +kernel)⟩
theorem lw_p97 : lw_okq (⟨"TalePlayModel", "whyNotLeave", "()I"⟩, 69) := ⟨⟨by decide +kernel, by decide +kernel⟩, List.mem_of_getElem? (i := 1153) (by decide +kernel), List.mem_of_getElem? (i := 1657) (by decide +kernel), List.mem_of_getElem? (i := 1658) (by decide +kernel)⟩
theorem lw_p98 : lw_okq (⟨"TalePlayModel", "acts", "(III)V"⟩, 69) := ⟨⟨by decide +kernel, by decide +kernel⟩, List.mem_of_getElem? (i := 1153) (by decide +kernel), List.mem_of_getElem? (i := 1661) (by decide +kernel), List.mem_of_getElem? (i := 1662) (by decide +kernel)⟩
theorem lw_p99 : lw_okq (⟨"TalePlayModel", "lay", "(III)V"⟩, 69) := ⟨⟨by decide +kernel, by decide +kernel⟩, List.mem_of_getElem? (i := 1153) (by decide +kernel), List.mem_of_getElem? (i := 1665) (by decide +kernel), List.mem_of_getElem? (i := 1666) (by decide +kernel)⟩
theorem lw_p100 : lw_okq (⟨"TalePlayModel", "told", "(II)I"⟩, 69) := ⟨⟨by decide +kernel, by decide +kernel⟩, List.mem_of_getElem? (i := 1153) (by decide +kernel), List.mem_of_getElem? (i := 1677) (by decide +kernel), List.mem_of_getElem? (i := 1678) (by decide +kernel)⟩
theorem lw_p101 : lw_okq (⟨"TalePlayModel", "roomOf", "(I)I"⟩, 69) := ⟨⟨by decide +kernel, by decide +kernel⟩, List.mem_of_getElem? (i := 1153) (by decide +kernel), List.mem_of_getElem? (i := 1681) (by decide +kernel), List.mem_of_getElem? (i := 1682) (by decide +kernel)⟩
theorem lw_p102 : lw_okq (⟨"TalePlayModel", "keepState", "(I)V"⟩, 69) := ⟨⟨by decide +kernel, by decide +kernel⟩, List.mem_of_getElem? (i := 1153) (by decide +kernel), List.mem_of_getElem? (i := 1698) (by decide +kernel), List.mem_of_getElem? (i := 1699) (by decide +kernel)⟩
theorem lw_p103 : lw_okq (⟨"TalePlayModel", "found", "(I)I"⟩, 69) := ⟨⟨by decide +kernel, by decide +kernel⟩, List.mem_of_getElem? (i := 1153) (by decide +kernel), List.mem_of_getElem? (i := 1702) (by decide +kernel), List.mem_of_getElem? (i := 1703) (by decide +kernel)⟩
theorem lw_p104 : lw_okq (⟨"TalePlayModel", "triedAll", "(I)Z"⟩, 69) := ⟨⟨by decide +kernel, by decide +kernel⟩, List.mem_of_getElem? (i := 1153) (by decide +kernel), List.mem_of_getElem? (i := 1706) (by decide +kernel), List.mem_of_getElem? (i := 1707) (by decide +kernel)⟩
theorem lw_p105 : lw_okq (⟨"TalePlayModel", "giveState", "(I)V"⟩, 69) := ⟨⟨by decide +kernel, by decide +kernel⟩, List.mem_of_getElem? (i := 1153) (by decide +kernel), List.mem_of_getElem? (i := 1710) (by decide +kernel), List.mem_of_getElem? (i := 1711) (by decide +kernel)⟩
theorem lw_p106 : lw_okq (⟨"TalePlayModel", "tried", "(IIII)Z"⟩, 69) := ⟨⟨by decide +kernel, by decide +kernel⟩, List.mem_of_getElem? (i := 1153) (by decide +kernel), List.mem_of_getElem? (i := 1714) (by decide +kernel), List.mem_of_getElem? (i := 1715) (by decide +kernel)⟩
theorem lw_p107 : lw_okq (⟨"TalePlayModel", "isState", "(I)Z"⟩, 69) := ⟨⟨by decide +kernel, by decide +kernel⟩, List.mem_of_getElem? (i := 1153) (by decide +kernel), List.mem_of_getElem? (i := 1718) (by decide +kernel), List.mem_of_getElem? (i := 1719) (by decide +kernel)⟩
theorem lw_p108 : lw_okq (⟨"TalePlayModel", "lacks", "(III)I"⟩, 69) := ⟨⟨by decide +kernel, by decide +kernel⟩, List.mem_of_getElem? (i := 1153) (by decide +kernel), List.mem_of_getElem? (i := 1734) (by decide +kernel), List.mem_of_getElem? (i := 1735) (by decide +kernel)⟩
def lw_privs_7 : List (MethodName × Nat) := [(⟨"TalePlayModel", "whyNotEnter", "(I)I"⟩, 69), (⟨"TalePlayModel", "whyNotLeave", "()I"⟩, 69), (⟨"TalePlayModel", "acts", "(III)V"⟩, 69), (⟨"TalePlayModel", "lay", "(III)V"⟩, 69), (⟨"TalePlayModel", "told", "(II)I"⟩, 69), (⟨"TalePlayModel", "roomOf", "(I)I"⟩, 69), (⟨"TalePlayModel", "keepState", "(I)V"⟩, 69), (⟨"TalePlayModel", "found", "(I)I"⟩, 69), (⟨"TalePlayModel", "triedAll", "(I)Z"⟩, 69), (⟨"TalePlayModel", "giveState", "(I)V"⟩, 69), (⟨"TalePlayModel", "tried", "(IIII)Z"⟩, 69), (⟨"TalePlayModel", "isState", "(I)Z"⟩, 69), (⟨"TalePlayModel", "lacks", "(III)I"⟩, 69)]
theorem lw_r7 : ∀ q ∈ lw_privs_7, lw_okq q := List.forall_mem_cons.mpr ⟨lw_p96, List.forall_mem_cons.mpr ⟨lw_p97, List.forall_mem_cons.mpr ⟨lw_p98, List.forall_mem_cons.mpr ⟨lw_p99, List.forall_mem_cons.mpr ⟨lw_p100, List.forall_mem_cons.mpr ⟨lw_p101, List.forall_mem_cons.mpr ⟨lw_p102, List.forall_mem_cons.mpr ⟨lw_p103, List.forall_mem_cons.mpr ⟨lw_p104, List.forall_mem_cons.mpr ⟨lw_p105, List.forall_mem_cons.mpr ⟨lw_p106, List.forall_mem_cons.mpr ⟨lw_p107, List.forall_mem_cons.mpr ⟨lw_p108, fun _ h => absurd h List.not_mem_nil⟩⟩⟩⟩⟩⟩⟩⟩⟩⟩⟩⟩⟩
def lw_privs : List (MethodName × Nat) := lw_privs_1 ++ (lw_privs_2 ++ (lw_privs_3 ++ (lw_privs_4 ++ (lw_privs_5 ++ (lw_privs_6 ++ (lw_privs_7))))))
def lw_tbl : List Cond := k2_sels lw_privs ++ tables_1
theorem lw_privs_ok : ∀ q ∈ lw_privs, lw_okq q := by
  show ∀ q ∈ lw_privs_1 ++ (lw_privs_2 ++ (lw_privs_3 ++ (lw_privs_4 ++ (lw_privs_5 ++ (lw_privs_6 ++ (lw_privs_7)))))), lw_okq q
  exact List.forall_mem_append.mpr ⟨lw_r1, List.forall_mem_append.mpr ⟨lw_r2, List.forall_mem_append.mpr ⟨lw_r3, List.forall_mem_append.mpr ⟨lw_r4, List.forall_mem_append.mpr ⟨lw_r5, List.forall_mem_append.mpr ⟨lw_r6, lw_r7⟩⟩⟩⟩⟩⟩
end
section
theorem goodIn_r {big : List Cond} (ws : List Cond) (ps : List Nat) (hp : ws = ps.filterMap (fun i => big[i]?)) (h : ws.all goodWord = true) : GoodIn big ws := by
  intro w hw
  have h1 := List.all_eq_true.mp h w hw
  rw [hp] at hw
  obtain ⟨i, -, hi⟩ := List.mem_filterMap.mp hw
  have hm : w ∈ big := by first | exact List.mem_of_getElem? hi | exact List.getElem?_mem hi
  exact ⟨hm, good_of_word h1⟩
theorem goodIn_app {big a b : List Cond} (ha : GoodIn big a) (hb : GoodIn big b) : GoodIn big (a ++ b) := fun w h => (List.mem_append.mp h).elim (ha w) (hb w)
def RX0 : String := "TalePlay$Acts"
def TX0 : u_T := fun k => match k with
  | 0 => ("TalePlay$Acts", "world", "LTalePlay$World;", true)
  | 1 => ("TalePlay$Acts", "book", "LTalePlay$Book;", true)
  | 2 => ("TalePlay$Acts", "roads", "LTalePlay$Roads;", true)
  | 3 => ("TalePlay$Acts", "bulks", "LTalePlay$Bulks;", true)
  | 4 => ("TalePlay$Acts", "scene", "LTalePlay$Scene;", true)
  | 5 => ("TalePlay$Acts", "sight", "LTalePlay$Sight;", true)
  | _ => ("TalePlay$Acts", "player", "I", false)
def RX1 : String := "TalePlay$Book"
def TX1 : u_T := fun k => match k with
  | 0 => ("TalePlay$Book", "world", "LTalePlay$World;", true)
  | 1 => ("TalePlay$Book", "places", "LTalePlay$Scene;", true)
  | 2 => ("TalePlay$Book", "forms", "[I", true)
  | 3 => ("TalePlay$Book", "as", "[I", true)
  | 4 => ("TalePlay$Book", "bs", "[I", true)
  | 5 => ("TalePlay$Book", "cs", "[I", true)
  | 6 => ("TalePlay$Book", "said", "[Z", true)
  | 7 => ("TalePlay$Book", "placeBy", "[I", true)
  | 8 => ("TalePlay$Book", "exitBy", "[I", true)
  | 9 => ("TalePlay$Book", "flagBy", "[I", true)
  | 10 => ("TalePlay$Book", "keyBy", "[I", true)
  | 11 => ("TalePlay$Book", "clashRow", "[I", true)
  | 12 => ("TalePlay$Book", "clashes", "I", false)
  | 13 => ("TalePlay$Book", "total", "I", false)
  | _ => ("TalePlay$Book", "standing", "I", false)
def RX2 : String := "TalePlay$Bulks"
def TX2 : u_T := fun k => match k with
  | 0 => ("TalePlay$Bulks", "world", "LTalePlay$World;", true)
  | 1 => ("TalePlay$Bulks", "trace", "[I", true)
  | 2 => ("TalePlay$Bulks", "traced", "I", false)
  | _ => ("TalePlay$Bulks", "tracing", "Z", false)
def RX3 : String := "TalePlay$Casts"
def TX3 : u_T := fun k => match k with
  | 0 => ("TalePlay$Casts", "sorts", "[I", true)
  | 1 => ("TalePlay$Casts", "lengths", "[I", true)
  | 2 => ("TalePlay$Casts", "roles", "[I", true)
  | _ => ("TalePlay$Casts", "made", "I", false)
def RX4 : String := "TalePlay$Lines"
def TX4 : u_T := fun k => match k with
  | 0 => ("TalePlay$Lines", "sorts", "[I", true)
  | 1 => ("TalePlay$Lines", "lengths", "[I", true)
  | _ => ("TalePlay$Lines", "items", "[J", true)
def RX5 : String := "TalePlay$Roads"
def TX5 : u_T := fun k => match k with
  | 0 => ("TalePlay$Roads", "world", "LTalePlay$World;", true)
  | 1 => ("TalePlay$Roads", "book", "LTalePlay$Book;", true)
  | 2 => ("TalePlay$Roads", "leads", "[I", true)
  | 3 => ("TalePlay$Roads", "doors", "[I", true)
  | 4 => ("TalePlay$Roads", "bys", "[I", true)
  | 5 => ("TalePlay$Roads", "implied", "[I", true)
  | 6 => ("TalePlay$Roads", "firstSides", "[I", true)
  | 7 => ("TalePlay$Roads", "secondSides", "[I", true)
  | 8 => ("TalePlay$Roads", "steps", "[I", true)
  | 9 => ("TalePlay$Roads", "firsts", "[I", true)
  | _ => ("TalePlay$Roads", "queue", "[I", true)
def RX6 : String := "TalePlay$Scene"
def TX6 : u_T := fun k => match k with
  | 0 => ("TalePlay$Scene", "world", "LTalePlay$World;", true)
  | _ => ("TalePlay$Scene", "cells", "[I", true)
def RX7 : String := "TalePlay$Seeker"
def TX7 : u_T := fun k => match k with
  | 0 => ("TalePlay$Seeker", "world", "LTalePlay$World;", true)
  | 1 => ("TalePlay$Seeker", "scene", "LTalePlay$Scene;", true)
  | 2 => ("TalePlay$Seeker", "sight", "LTalePlay$Sight;", true)
  | 3 => ("TalePlay$Seeker", "acts", "LTalePlay$Acts;", true)
  | 4 => ("TalePlay$Seeker", "kept", "[I", true)
  | 5 => ("TalePlay$Seeker", "marks", "[I", true)
  | 6 => ("TalePlay$Seeker", "slots", "[I", true)
  | 7 => ("TalePlay$Seeker", "parents", "[I", true)
  | 8 => ("TalePlay$Seeker", "deeds", "[I", true)
  | 9 => ("TalePlay$Seeker", "play", "[I", true)
  | 10 => ("TalePlay$Seeker", "playLength", "I", false)
  | 11 => ("TalePlay$Seeker", "states", "I", false)
  | 12 => ("TalePlay$Seeker", "found", "I", false)
  | 13 => ("TalePlay$Seeker", "goalThing", "I", false)
  | _ => ("TalePlay$Seeker", "goalHolder", "I", false)
def RX8 : String := "TalePlay$Sight"
def TX8 : u_T := fun k => match k with
  | 0 => ("TalePlay$Sight", "world", "LTalePlay$World;", true)
  | 1 => ("TalePlay$Sight", "roads", "LTalePlay$Roads;", true)
  | 2 => ("TalePlay$Sight", "scene", "LTalePlay$Scene;", true)
  | 3 => ("TalePlay$Sight", "seen", "[Z", true)
  | 4 => ("TalePlay$Sight", "reached", "[Z", true)
  | _ => ("TalePlay$Sight", "bright", "Z", false)
def RX9 : String := "TalePlay$Tale"
def TX9 : u_T := fun k => match k with
  | 0 => ("TalePlay$Tale", "world", "LTalePlay$World;", true)
  | 1 => ("TalePlay$Tale", "book", "LTalePlay$Book;", true)
  | 2 => ("TalePlay$Tale", "scene", "LTalePlay$Scene;", true)
  | 3 => ("TalePlay$Tale", "sight", "LTalePlay$Sight;", true)
  | 4 => ("TalePlay$Tale", "acts", "LTalePlay$Acts;", true)
  | 5 => ("TalePlay$Tale", "deeds", "[I", true)
  | 6 => ("TalePlay$Tale", "subjects", "[I", true)
  | 7 => ("TalePlay$Tale", "formerCells", "[I", true)
  | 8 => ("TalePlay$Tale", "there", "Z", false)
  | 9 => ("TalePlay$Tale", "player", "I", false)
  | _ => ("TalePlay$Tale", "turns", "I", false)
def RX10 : String := "TalePlay$World"
def TX10 : u_T := fun k => match k with
  | 0 => ("TalePlay$World", "parents", "[I", true)
  | 1 => ("TalePlay$World", "sorts", "[I", true)
  | 2 => ("TalePlay$World", "standards", "[I", true)
  | 3 => ("TalePlay$World", "kindOf", "[I", true)
  | 4 => ("TalePlay$World", "sizeOf", "[I", true)
  | 5 => ("TalePlay$World", "kinds", "I", false)
  | _ => ("TalePlay$World", "objects", "I", false)
abbrev wsX100 : List Cond := u_ws RX10 TX10 7
abbrev cX10_hasKind : ByteArray := prog_12_method_2_code
def yX10_hasKind : MethodName := ⟨RX10, "hasKind", "(I)Z"⟩
abbrev cX10_hasObject : ByteArray := prog_12_method_3_code
def yX10_hasObject : MethodName := ⟨RX10, "hasObject", "(I)Z"⟩
def RX11 : String := "TalePlay"
def TX11 : u_T := fun k => match k with
  | 0 => ("TalePlay", "world", "LTalePlay$World;", true)
  | 1 => ("TalePlay", "book", "LTalePlay$Book;", true)
  | 2 => ("TalePlay", "roads", "LTalePlay$Roads;", true)
  | 3 => ("TalePlay", "bulks", "LTalePlay$Bulks;", true)
  | 4 => ("TalePlay", "tale", "LTalePlay$Tale;", true)
  | 5 => ("TalePlay", "lines", "LTalePlay$Lines;", true)
  | 6 => ("TalePlay", "casts", "LTalePlay$Casts;", true)
  | 7 => ("TalePlay", "seeker", "LTalePlay$Seeker;", false)
  | 8 => ("TalePlay", "findingCounts", "[I", true)
  | 9 => ("TalePlay", "latestFinding", "I", false)
  | _ => ("TalePlay", "told", "J", false)
abbrev cX11_isBelow : ByteArray := prog_1_method_46_code
def yX11_isBelow : MethodName := ⟨RX11, "isBelow", "(II)Z"⟩
def RX12 : String := "TalePlayModel"
def TX12 : u_T := fun k => match k with
  | 0 => ("TalePlayModel", "latest", "I", false)
  | 1 => ("TalePlayModel", "came", "[I", true)
  | 2 => ("TalePlayModel", "kinds", "I", false)
  | 3 => ("TalePlayModel", "parentOf", "[I", true)
  | 4 => ("TalePlayModel", "defaults", "[I", true)
  | 5 => ("TalePlayModel", "objects", "I", false)
  | 6 => ("TalePlayModel", "kindOf", "[I", true)
  | 7 => ("TalePlayModel", "sizeOf", "[I", true)
  | 8 => ("TalePlayModel", "sentences", "I", false)
  | 9 => ("TalePlayModel", "form", "[I", true)
  | 10 => ("TalePlayModel", "left", "[I", true)
  | 11 => ("TalePlayModel", "middle", "[I", true)
  | 12 => ("TalePlayModel", "right", "[I", true)
  | 13 => ("TalePlayModel", "isSaid", "[Z", true)
  | 14 => ("TalePlayModel", "row", "[I", true)
  | 15 => ("TalePlayModel", "rowMany", "I", false)
  | 16 => ("TalePlayModel", "leads", "I", false)
  | 17 => ("TalePlayModel", "byDoor", "I", false)
  | 18 => ("TalePlayModel", "bySentence", "I", false)
  | 19 => ("TalePlayModel", "isImplied", "Z", false)
  | 20 => ("TalePlayModel", "far", "[I", true)
  | 21 => ("TalePlayModel", "line", "[I", true)
  | 22 => ("TalePlayModel", "player", "I", false)
  | 23 => ("TalePlayModel", "nForm", "[I", true)
  | 24 => ("TalePlayModel", "nAt", "[I", true)
  | 25 => ("TalePlayModel", "nOpen", "[Z", true)
  | 26 => ("TalePlayModel", "nLocked", "[Z", true)
  | 27 => ("TalePlayModel", "turns", "I", false)
  | 28 => ("TalePlayModel", "turnRow", "[I", true)
  | 29 => ("TalePlayModel", "wasForm", "[I", true)
  | 30 => ("TalePlayModel", "wasAt", "[I", true)
  | 31 => ("TalePlayModel", "wasOpen", "[Z", true)
  | 32 => ("TalePlayModel", "wasLocked", "[Z", true)
  | 33 => ("TalePlayModel", "traces", "Z", false)
  | 34 => ("TalePlayModel", "trace", "[I", true)
  | 35 => ("TalePlayModel", "traced", "I", false)
  | 36 => ("TalePlayModel", "isNought", "Z", false)
  | 37 => ("TalePlayModel", "asked", "J", false)
  | 38 => ("TalePlayModel", "pile", "[I", true)
  | 39 => ("TalePlayModel", "nextIn", "[I", true)
  | 40 => ("TalePlayModel", "shell", "I", false)
  | 41 => ("TalePlayModel", "handShell", "I", false)
  | 42 => ("TalePlayModel", "isLight", "Z", false)
  | 43 => ("TalePlayModel", "seen", "[Z", true)
  | 44 => ("TalePlayModel", "reached", "[Z", true)
  | 45 => ("TalePlayModel", "lit", "[Z", true)
  | 46 => ("TalePlayModel", "glass", "[Z", true)
  | 47 => ("TalePlayModel", "isBox", "[Z", true)
  | 48 => ("TalePlayModel", "isRoom", "[Z", true)
  | 49 => ("TalePlayModel", "isDoor", "[Z", true)
  | 50 => ("TalePlayModel", "states", "I", false)
  | 51 => ("TalePlayModel", "stateForm", "[B", true)
  | 52 => ("TalePlayModel", "stateAt", "[B", true)
  | 53 => ("TalePlayModel", "stateShut", "[B", true)
  | 54 => ("TalePlayModel", "stateFrom", "[I", true)
  | 55 => ("TalePlayModel", "stateAct", "[I", true)
  | 56 => ("TalePlayModel", "soughtRow", "[I", true)
  | 57 => ("TalePlayModel", "soughtMany", "I", false)
  | 58 => ("TalePlayModel", "goalX", "I", false)
  | 59 => ("TalePlayModel", "goalY", "I", false)
  | 60 => ("TalePlayModel", "lineSort", "[I", true)
  | 61 => ("TalePlayModel", "lineMany", "[I", true)
  | 62 => ("TalePlayModel", "items", "[J", true)
  | 63 => ("TalePlayModel", "hasLine", "[Z", true)
  | 64 => ("TalePlayModel", "casts", "I", false)
  | 65 => ("TalePlayModel", "castSort", "[I", true)
  | 66 => ("TalePlayModel", "castMany", "[I", true)
  | 67 => ("TalePlayModel", "roles", "[I", true)
  | _ => ("TalePlayModel", "held", "[J", true)
abbrev wsX120 : List Cond := u_ws RX12 TX12 69
abbrev cX12_in : ByteArray := prog_14_method_2_code
def yX12_in : MethodName := ⟨RX12, "in", "(JJJ)Z"⟩
abbrev cX12_isObject : ByteArray := prog_14_method_9_code
def yX12_isObject : MethodName := ⟨RX12, "isObject", "(I)Z"⟩
def wsX10_hasObject : List Cond := .code yX10_hasObject cX10_hasObject 2 (some .boolean) :: ([.fieldLink RX10 37 "TalePlay$World" "objects" "I"] ++ wsX100)
def wsX11_isBelow : List Cond := .code yX11_isBelow cX11_isBelow 2 (some .boolean) :: ([])
def wsX10_hasKind : List Cond := .code yX10_hasKind cX10_hasKind 2 (some .boolean) :: ([.fieldLink RX10 33 "TalePlay$World" "kinds" "I"] ++ wsX100)
def wsX12_in : List Cond := .code yX12_in cX12_in 6 (some .boolean) :: ([])
def wsX12_isObject : List Cond := .code yX12_isObject cX12_isObject 2 (some .boolean) :: ([.fieldLink RX12 177 "TalePlayModel" "objects" "I", .methodLink RX12 166 yX12_in, .static yX12_in, .initialized RX12, .code yX12_in cX12_in 6 (some .boolean)] ++ wsX120)
theorem dX10_hasKind_0 : decode cX10_hasKind 0 = .ok (.iload_n 1, 1) := by decide +kernel
theorem dX10_hasKind_1 : decode cX10_hasKind 1 = .ok (.ifCond .lt 15, 3) := by decide +kernel
theorem dX10_hasKind_4 : decode cX10_hasKind 4 = .ok (.iload_n 1, 1) := by decide +kernel
theorem dX10_hasKind_5 : decode cX10_hasKind 5 = .ok (.aload_n 0, 1) := by decide +kernel
theorem dX10_hasKind_6 : decode cX10_hasKind 6 = .ok (.getfield 33, 3) := by decide +kernel
theorem dX10_hasKind_9 : decode cX10_hasKind 9 = .ok (.if_icmp .ge 7, 3) := by decide +kernel
theorem dX10_hasKind_12 : decode cX10_hasKind 12 = .ok (.iconst 1, 1) := by decide +kernel
theorem dX10_hasKind_13 : decode cX10_hasKind 13 = .ok (.goto 4, 3) := by decide +kernel
theorem dX10_hasKind_16 : decode cX10_hasKind 16 = .ok (.iconst 0, 1) := by decide +kernel
theorem dX10_hasKind_17 : decode cX10_hasKind 17 = .ok (.ireturn, 1) := by decide +kernel
theorem dX10_hasObject_0 : decode cX10_hasObject 0 = .ok (.iload_n 1, 1) := by decide +kernel
theorem dX10_hasObject_1 : decode cX10_hasObject 1 = .ok (.ifCond .lt 15, 3) := by decide +kernel
theorem dX10_hasObject_4 : decode cX10_hasObject 4 = .ok (.iload_n 1, 1) := by decide +kernel
theorem dX10_hasObject_5 : decode cX10_hasObject 5 = .ok (.aload_n 0, 1) := by decide +kernel
theorem dX10_hasObject_6 : decode cX10_hasObject 6 = .ok (.getfield 37, 3) := by decide +kernel
theorem dX10_hasObject_9 : decode cX10_hasObject 9 = .ok (.if_icmp .ge 7, 3) := by decide +kernel
theorem dX10_hasObject_12 : decode cX10_hasObject 12 = .ok (.iconst 1, 1) := by decide +kernel
theorem dX10_hasObject_13 : decode cX10_hasObject 13 = .ok (.goto 4, 3) := by decide +kernel
theorem dX10_hasObject_16 : decode cX10_hasObject 16 = .ok (.iconst 0, 1) := by decide +kernel
theorem dX10_hasObject_17 : decode cX10_hasObject 17 = .ok (.ireturn, 1) := by decide +kernel
theorem dX11_isBelow_0 : decode cX11_isBelow 0 = .ok (.iload_n 0, 1) := by decide +kernel
theorem dX11_isBelow_1 : decode cX11_isBelow 1 = .ok (.ifCond .lt 12, 3) := by decide +kernel
theorem dX11_isBelow_4 : decode cX11_isBelow 4 = .ok (.iload_n 0, 1) := by decide +kernel
theorem dX11_isBelow_5 : decode cX11_isBelow 5 = .ok (.iload_n 1, 1) := by decide +kernel
theorem dX11_isBelow_6 : decode cX11_isBelow 6 = .ok (.if_icmp .ge 7, 3) := by decide +kernel
theorem dX11_isBelow_9 : decode cX11_isBelow 9 = .ok (.iconst 1, 1) := by decide +kernel
theorem dX11_isBelow_10 : decode cX11_isBelow 10 = .ok (.goto 4, 3) := by decide +kernel
theorem dX11_isBelow_13 : decode cX11_isBelow 13 = .ok (.iconst 0, 1) := by decide +kernel
theorem dX11_isBelow_14 : decode cX11_isBelow 14 = .ok (.ireturn, 1) := by decide +kernel
theorem dX12_in_0 : decode cX12_in 0 = .ok (.lload_n 0, 1) := by decide +kernel
theorem dX12_in_1 : decode cX12_in 1 = .ok (.lload_n 2, 1) := by decide +kernel
theorem dX12_in_2 : decode cX12_in 2 = .ok (.lcmp, 1) := by decide +kernel
theorem dX12_in_3 : decode cX12_in 3 = .ok (.ifCond .lt 14, 3) := by decide +kernel
theorem dX12_in_6 : decode cX12_in 6 = .ok (.lload_n 0, 1) := by decide +kernel
theorem dX12_in_7 : decode cX12_in 7 = .ok (.lload 4, 2) := by decide +kernel
theorem dX12_in_9 : decode cX12_in 9 = .ok (.lcmp, 1) := by decide +kernel
theorem dX12_in_10 : decode cX12_in 10 = .ok (.ifCond .gt 7, 3) := by decide +kernel
theorem dX12_in_13 : decode cX12_in 13 = .ok (.iconst 1, 1) := by decide +kernel
theorem dX12_in_14 : decode cX12_in 14 = .ok (.goto 4, 3) := by decide +kernel
theorem dX12_in_17 : decode cX12_in 17 = .ok (.iconst 0, 1) := by decide +kernel
theorem dX12_in_18 : decode cX12_in 18 = .ok (.ireturn, 1) := by decide +kernel
set_option maxRecDepth 20000 in
theorem ggX12_isObject_X12_in : GoodIn wsX12_isObject wsX12_in := goodIn_r _ [5] (by decide +kernel) (by decide +kernel)
set_option maxRecDepth 20000 in
theorem gX12_isObject_X12_in : GoodIn wsX12_isObject (va_wsS RX12 166 yX12_in wsX12_in) := goodIn_app (goodIn_of _ (by decide +kernel)) ggX12_isObject_X12_in
theorem dX12_isObject_0 : decode cX12_isObject 0 = .ok (.iload_n 1, 1) := by decide +kernel
theorem dX12_isObject_1 : decode cX12_isObject 1 = .ok (.i2l, 1) := by decide +kernel
theorem dX12_isObject_2 : decode cX12_isObject 2 = .ok (.lconst 0, 1) := by decide +kernel
theorem dX12_isObject_3 : decode cX12_isObject 3 = .ok (.aload_n 0, 1) := by decide +kernel
theorem dX12_isObject_4 : decode cX12_isObject 4 = .ok (.getfield 177, 3) := by decide +kernel
theorem dX12_isObject_7 : decode cX12_isObject 7 = .ok (.iconst 1, 1) := by decide +kernel
theorem dX12_isObject_8 : decode cX12_isObject 8 = .ok (.isub, 1) := by decide +kernel
theorem dX12_isObject_9 : decode cX12_isObject 9 = .ok (.i2l, 1) := by decide +kernel
theorem dX12_isObject_10 : decode cX12_isObject 10 = .ok (.invokestatic 166, 3) := by decide +kernel
theorem dX12_isObject_13 : decode cX12_isObject 13 = .ok (.ireturn, 1) := by decide +kernel
abbrev vwCl : List vw_C := [(RX0, TX0, 7), (RX1, TX1, 15), (RX2, TX2, 4), (RX3, TX3, 4), (RX4, TX4, 3), (RX5, TX5, 11), (RX6, TX6, 2), (RX7, TX7, 15), (RX8, TX8, 6), (RX9, TX9, 11), (RX10, TX10, 7), (RX11, TX11, 11), (RX12, TX12, 69)]
end
section
/-! Forms of contracts that the rows below share: a method that writes nothing old (ro), and one that may change the cells of its world (rw) -/
/-- what a method that writes nothing old may touch: new cells alone -/
abbrev ro (sz : Nat) : Nat → Prop := fun q => sz ≤ q
/-- the start of a method that only reads -/
def pA (D : va_G) (sz : Nat) (ws : va_W) (tys : List (ClassId × FieldType)) : State → Prop := fun U => U.heap.size = sz ∧ va_P D vwCl ws U.heap ∧ va_K D vwCl tys U
/-- the start of a method that may write its world -/
def pB (D : va_G) (sz : Nat) (ws : va_W) (tys : List (ClassId × FieldType)) : State → Prop := fun U => U.heap.size = sz ∧ va_P D vwCl ws U.heap ∧ va_K D vwCl tys U ∧ va_D (fun _ => True) ws
/-- an end of which nothing is said -/
def oA : Unit → State → Prop := fun _ _ => True
/-- an end with a world -/
def oC {S : Type} (D : va_G) (A : Nat → Prop) (w2 : S → va_W) (t2 : S → List (ClassId × FieldType)) : S → State → Prop := fun u t => va_P D vwCl (w2 u) t.heap ∧ va_K D vwCl (t2 u) t ∧ va_D A (w2 u)
theorem pA_bl {av : List Value} {D : va_G} {sz : Nat} {ws : va_W} {tys : List (ClassId × FieldType)} : FrameBlind (va_Pc av (pA D sz ws tys)) := fun a U g mk q => by
  obtain ⟨q0, q1, qP, qK⟩ := q
  exact ⟨q0, q1, qP, va_K.moved (u := U) (U := U.calling g mk a) (Vm.Alike.refl U.vm) qK⟩
theorem pB_bl {av : List Value} {D : va_G} {sz : Nat} {ws : va_W} {tys : List (ClassId × FieldType)} : FrameBlind (va_Pc av (pB D sz ws tys)) := fun a U g mk q => by
  obtain ⟨q0, q1, qP, qK, qD⟩ := q
  exact ⟨q0, q1, qP, va_K.moved (u := U) (U := U.calling g mk a) (Vm.Alike.refl U.vm) qK, qD⟩
theorem pA_V {s : State} {H : Heap} {D : va_G} {ws : va_W} {tys : List (ClassId × FieldType)} {b ci q0 : Nat} {fs As : List Value} {q : vw_C} (hK : va_K D vwCl tys s) (hP : va_P D vwCl ws H) (hc : vwCl[ci]? = some q) (he : ws[q0]? = some (b, .inr (ci, fs))) : PreV s H q.1 b (va_Pc (.ref b :: As) (pA D H.size ws tys)) As :=
  ⟨pA_bl, va_recv hK hP hc he, fun _ hU hW => ⟨rfl, by rw [hU], by rw [hU]; exact hP, va_K.moved hW.alike hK⟩⟩
theorem pA_S {s : State} {H : Heap} {D : va_G} {ws : va_W} {tys : List (ClassId × FieldType)} {As : List Value} (hK : va_K D vwCl tys s) (hP : va_P D vwCl ws H) : PreS s H (va_Pc As (pA D H.size ws tys)) As :=
  ⟨pA_bl, fun _ hU hW => ⟨rfl, by rw [hU], by rw [hU]; exact hP, va_K.moved hW.alike hK⟩⟩
theorem pB_V {s : State} {H : Heap} {D : va_G} {ws : va_W} {tys : List (ClassId × FieldType)} {A : Nat → Prop} {b ci q0 : Nat} {fs As : List Value} {q : vw_C} (hK : va_K D vwCl tys s) (hP : va_P D vwCl ws H) (hD : va_D A ws) (hc : vwCl[ci]? = some q) (he : ws[q0]? = some (b, .inr (ci, fs))) : PreV s H q.1 b (va_Pc (.ref b :: As) (pB D H.size ws tys)) As :=
  ⟨pB_bl, va_recv hK hP hc he, fun _ hU hW => ⟨rfl, by rw [hU], by rw [hU]; exact hP, va_K.moved hW.alike hK, hD.weaken (fun _ _ _ _ => trivial)⟩⟩
theorem pB_S {s : State} {H : Heap} {D : va_G} {ws : va_W} {tys : List (ClassId × FieldType)} {A : Nat → Prop} {As : List Value} (hK : va_K D vwCl tys s) (hP : va_P D vwCl ws H) (hD : va_D A ws) : PreS s H (va_Pc As (pB D H.size ws tys)) As :=
  ⟨pB_bl, fun _ hU hW => ⟨rfl, by rw [hU], by rw [hU]; exact hP, va_K.moved hW.alike hK, hD.weaken (fun _ _ _ _ => trivial)⟩⟩
theorem ro_kept {D : va_G} {cl : List vw_C} {ws : va_W} {H H1 : Heap} (hP : va_P D cl ws H) (hk : ∀ q : Nat, q < H.size → ¬ ro H.size q → H1[q]? = H[q]?) : va_P D cl ws H1 := hP.kept (fun k q h => hk q.1 (hP k q h).lt (Nat.not_le.mpr (hP k q h).lt))
section RC
variable {p : Program} {l : Launch} {e : Env} {R : Room} {s : State} {m : MethodId} {args : Array Value} {below : List Frame} {meth : Method} {c : Code} {H : Heap} {locs : List Loc} {cells slots : Nat} {Q : State → Prop}
variable {pc : Nat} {ls : Array Slot} {rest st0 : List Value} {a : Array Value} {A0 : Nat → Prop} {H0 : Heap} {mc ms : Nat} {D : va_G} {ws : va_W}
theorem ro_calli {S : Type} {post : Int32 → S → Prop} {B : S → State → Prop} (hr : va_Run p l e R s m args below meth c H locs cells slots 0 0 (F0 m pc ls st0) rest (va_Qi post B (ro H.size) a) (ro H.size)) (hS : va_S A0 H0 H locs) (hA : ∀ q, H0.size ≤ q → A0 q) (hP : va_P D vwCl ws H)
    (kk : ∀ (r : Int32) (u : S) (H1 : Heap) (locs1 : List Loc), post r u → va_P D vwCl ws H1 → va_S A0 H0 H1 locs1 → W p l e R s m args below meth c H1 locs1 cells slots Q (F0 m (pc + 3) ls (.int r :: rest))) : W p l e R s m args below meth c H locs cells slots Q (F0 m pc ls st0) :=
  va_calli hr hS (fun _ h1 h2 => absurd h2 (Nat.not_le.mpr h1)) (fun q h => hA q (Nat.le_trans hS.1 h)) (fun r u _ H1 locs1 _ _ hw _ _ hk hS1 => kk r u H1 locs1 hw (ro_kept hP hk) hS1)
theorem ro_calll {S : Type} {post : Int64 → S → Prop} {B : S → State → Prop} (hr : va_Run p l e R s m args below meth c H locs cells slots 0 0 (F0 m pc ls st0) rest (va_Ql post B (ro H.size) a) (ro H.size)) (hS : va_S A0 H0 H locs) (hA : ∀ q, H0.size ≤ q → A0 q) (hP : va_P D vwCl ws H)
    (kk : ∀ (r : Int64) (u : S) (H1 : Heap) (locs1 : List Loc), post r u → va_P D vwCl ws H1 → va_S A0 H0 H1 locs1 → W p l e R s m args below meth c H1 locs1 cells slots Q (F0 m (pc + 3) ls (.long r :: rest))) : W p l e R s m args below meth c H locs cells slots Q (F0 m pc ls st0) :=
  va_calll hr hS (fun _ h1 h2 => absurd h2 (Nat.not_le.mpr h1)) (fun q h => hA q (Nat.le_trans hS.1 h)) (fun r u _ H1 locs1 _ _ hw _ _ hk hS1 => kk r u H1 locs1 hw (ro_kept hP hk) hS1)
variable {tys : List (ClassId × FieldType)} {wc wr : va_W}
theorem rw_calli {S : Type} {post : Int32 → S → Prop} {w2 : S → va_W} {t2 : S → List (ClassId × FieldType)} (hr : va_Run p l e R s m args below meth c H locs cells slots mc ms (F0 m pc ls st0) rest (va_Qi post (oC D (va_A wc H.size) w2 t2) (va_A wc H.size) a) (va_A wc H.size)) (hS : va_S A0 H0 H locs) (hA : ∀ q, H0.size ≤ q → A0 q) (hK : va_K D vwCl tys s) (hP : va_P D vwCl ws H) (hD : va_D A0 ws) (isC isR : List Nat) (hC : isC.map (fun i => ws[i]?) = wc.map some) (hR : isR.map (fun i => ws[i]?) = wr.map some) (hn : va_nd isR = true) (hdis : ∀ i ∈ isR, i ∉ isC)
    (kk : ∀ (r : Int32) (u : S) (H1 : Heap) (locs1 : List Loc), post r u → va_K D vwCl (tys ++ t2 u) s → va_P D vwCl (wr ++ w2 u) H1 → va_D A0 (wr ++ w2 u) → va_S A0 H0 H1 locs1 → W p l e R s m args below meth c H1 locs1 (cells + mc) (slots + ms) Q (F0 m (pc + 3) ls (.int r :: rest))) : W p l e R s m args below meth c H locs cells slots Q (F0 m pc ls st0) := by
  have hFc := va_free (wc := wc) hD hS hA isC hC
  refine va_calli hr hS (fun q _ h => hFc q h) hFc (fun r u t H1 locs1 ht hvm hw hB _ hk hS1 => ?_)
  obtain ⟨hP1, hK1, hD1⟩ := hB
  rw [ht] at hP1
  obtain ⟨hPj, hDj⟩ := va_join (wr := wr) (w1 := w2 u) hP hD isC isR hC hR hn hdis hk hFc hP1 hD1
  exact kk r u H1 locs1 hw (hK.app (va_K.moved hvm.symm hK1)) hPj hDj hS1
theorem rw_calll {S : Type} {post : Int64 → S → Prop} {w2 : S → va_W} {t2 : S → List (ClassId × FieldType)} (hr : va_Run p l e R s m args below meth c H locs cells slots mc ms (F0 m pc ls st0) rest (va_Ql post (oC D (va_A wc H.size) w2 t2) (va_A wc H.size) a) (va_A wc H.size)) (hS : va_S A0 H0 H locs) (hA : ∀ q, H0.size ≤ q → A0 q) (hK : va_K D vwCl tys s) (hP : va_P D vwCl ws H) (hD : va_D A0 ws) (isC isR : List Nat) (hC : isC.map (fun i => ws[i]?) = wc.map some) (hR : isR.map (fun i => ws[i]?) = wr.map some) (hn : va_nd isR = true) (hdis : ∀ i ∈ isR, i ∉ isC)
    (kk : ∀ (r : Int64) (u : S) (H1 : Heap) (locs1 : List Loc), post r u → va_K D vwCl (tys ++ t2 u) s → va_P D vwCl (wr ++ w2 u) H1 → va_D A0 (wr ++ w2 u) → va_S A0 H0 H1 locs1 → W p l e R s m args below meth c H1 locs1 (cells + mc) (slots + ms) Q (F0 m (pc + 3) ls (.long r :: rest))) : W p l e R s m args below meth c H locs cells slots Q (F0 m pc ls st0) := by
  have hFc := va_free (wc := wc) hD hS hA isC hC
  refine va_calll hr hS (fun q _ h => hFc q h) hFc (fun r u t H1 locs1 ht hvm hw hB _ hk hS1 => ?_)
  obtain ⟨hP1, hK1, hD1⟩ := hB
  rw [ht] at hP1
  obtain ⟨hPj, hDj⟩ := va_join (wr := wr) (w1 := w2 u) hP hD isC isR hC hR hn hdis hk hFc hP1 hD1
  exact kk r u H1 locs1 hw (hK.app (va_K.moved hvm.symm hK1)) hPj hDj hS1
theorem rw_callv {S : Type} {post : S → Prop} {w2 : S → va_W} {t2 : S → List (ClassId × FieldType)} (hr : va_Run p l e R s m args below meth c H locs cells slots mc ms (F0 m pc ls st0) rest (va_Qv post (oC D (va_A wc H.size) w2 t2) (va_A wc H.size) a) (va_A wc H.size)) (hS : va_S A0 H0 H locs) (hA : ∀ q, H0.size ≤ q → A0 q) (hK : va_K D vwCl tys s) (hP : va_P D vwCl ws H) (hD : va_D A0 ws) (isC isR : List Nat) (hC : isC.map (fun i => ws[i]?) = wc.map some) (hR : isR.map (fun i => ws[i]?) = wr.map some) (hn : va_nd isR = true) (hdis : ∀ i ∈ isR, i ∉ isC)
    (kk : ∀ (u : S) (H1 : Heap) (locs1 : List Loc), post u → va_K D vwCl (tys ++ t2 u) s → va_P D vwCl (wr ++ w2 u) H1 → va_D A0 (wr ++ w2 u) → va_S A0 H0 H1 locs1 → W p l e R s m args below meth c H1 locs1 (cells + mc) (slots + ms) Q (F0 m (pc + 3) ls rest)) : W p l e R s m args below meth c H locs cells slots Q (F0 m pc ls st0) := by
  have hFc := va_free (wc := wc) hD hS hA isC hC
  refine va_callv hr hS (fun q _ h => hFc q h) hFc (fun u t H1 locs1 ht hvm hw hB _ hk hS1 => ?_)
  obtain ⟨hP1, hK1, hD1⟩ := hB
  rw [ht] at hP1
  obtain ⟨hPj, hDj⟩ := va_join (wr := wr) (w1 := w2 u) hP hD isC isR hC hR hn hdis hk hFc hP1 hD1
  exact kk u H1 locs1 hw (hK.app (va_K.moved hvm.symm hK1)) hPj hDj hS1
/-- a number on top of the stack under another name -/
theorem tp_i {x y : Int32} (h : x = y) (k : W p l e R s m args below meth c H locs cells slots Q (F0 m pc ls (.int y :: rest))) : W p l e R s m args below meth c H locs cells slots Q (F0 m pc ls (.int x :: rest)) := h ▸ k
theorem tp_l {x y : Int64} (h : x = y) (k : W p l e R s m args below meth c H locs cells slots Q (F0 m pc ls (.long y :: rest))) : W p l e R s m args below meth c H locs cells slots Q (F0 m pc ls (.long x :: rest)) := h ▸ k
end RC
section RR
variable {p : Program} {l : Launch} {e : Env} {R : Room} {s : State} {m : MethodId} {args : Array Value} {below : List Frame} {meth : Method} {c : Code} {H : Heap} {locs : List Loc} {cells slots : Nat}
variable {cc : ByteArray} {pc : Nat} {ls : Array Slot} {D : va_G} {A : Nat → Prop}
theorem ro_iret {post : Int32 → Unit → Prop} {v : Int32} (hexec : p.tables.exec = Jvm.exec) (hb : c.code = cc) (hr : meth.sig.returnType = some .int) (hlocks : meth.locks = false) (hS : va_S A s.heap H locs) (hdg : decode cc pc = .ok (.ireturn, 1)) (hp : post v ()) : W p l e R s m args below meth c H locs cells slots (MQ below (va_Qi post oA A) args s cells slots A) (F0 m pc ls [.int v]) :=
  W.iret hexec hb hr (fun _ ht _ => ⟨⟨v, (), rfl, hp, trivial⟩, hS.F ht⟩) hS.2.2 hdg hlocks
theorem ro_zret {post : Int32 → Unit → Prop} {v : Int32} (hexec : p.tables.exec = Jvm.exec) (hb : c.code = cc) (hr : meth.sig.returnType = some .boolean) (hlocks : meth.locks = false) (hS : va_S A s.heap H locs) (hn : narrow .boolean (.int v) = .int v) (hdg : decode cc pc = .ok (.ireturn, 1)) (hp : post v ()) : W p l e R s m args below meth c H locs cells slots (MQ below (va_Qi post oA A) args s cells slots A) (F0 m pc ls [.int v]) :=
  W.zret hexec hb hr hn (fun _ ht _ => ⟨⟨v, (), rfl, hp, trivial⟩, hS.F ht⟩) hS.2.2 hdg hlocks
theorem ro_lret {post : Int64 → Unit → Prop} {v : Int64} (hexec : p.tables.exec = Jvm.exec) (hb : c.code = cc) (hr : meth.sig.returnType = some .long) (hlocks : meth.locks = false) (hS : va_S A s.heap H locs) (hdg : decode cc pc = .ok (.lreturn, 1)) (hp : post v ()) : W p l e R s m args below meth c H locs cells slots (MQ below (va_Ql post oA A) args s cells slots A) (F0 m pc ls [.long v]) :=
  W.lret hexec hb hr (fun _ ht _ => ⟨⟨v, (), rfl, hp, trivial⟩, hS.F ht⟩) hS.2.2 hdg hlocks
theorem rw_iret {S : Type} {post : Int32 → S → Prop} {w2 : S → va_W} {t2 : S → List (ClassId × FieldType)} {v : Int32} (u : S) (hexec : p.tables.exec = Jvm.exec) (hb : c.code = cc) (hr : meth.sig.returnType = some .int) (hlocks : meth.locks = false) (hS : va_S A s.heap H locs) (hK : va_K D vwCl (t2 u) s) (hP : va_P D vwCl (w2 u) H) (hD : va_D A (w2 u)) (hdg : decode cc pc = .ok (.ireturn, 1)) (hp : post v u) : W p l e R s m args below meth c H locs cells slots (MQ below (va_Qi post (oC D A w2 t2) A) args s cells slots A) (F0 m pc ls [.int v]) :=
  W.iret hexec hb hr (fun _ ht hW => ⟨⟨v, u, rfl, hp, by rw [ht]; exact hP, va_K.moved hW.alike hK, hD⟩, hS.F ht⟩) hS.2.2 hdg hlocks
theorem rw_lret {S : Type} {post : Int64 → S → Prop} {w2 : S → va_W} {t2 : S → List (ClassId × FieldType)} {v : Int64} (u : S) (hexec : p.tables.exec = Jvm.exec) (hb : c.code = cc) (hr : meth.sig.returnType = some .long) (hlocks : meth.locks = false) (hS : va_S A s.heap H locs) (hK : va_K D vwCl (t2 u) s) (hP : va_P D vwCl (w2 u) H) (hD : va_D A (w2 u)) (hdg : decode cc pc = .ok (.lreturn, 1)) (hp : post v u) : W p l e R s m args below meth c H locs cells slots (MQ below (va_Ql post (oC D A w2 t2) A) args s cells slots A) (F0 m pc ls [.long v]) :=
  W.lret hexec hb hr (fun _ ht hW => ⟨⟨v, u, rfl, hp, by rw [ht]; exact hP, va_K.moved hW.alike hK, hD⟩, hS.F ht⟩) hS.2.2 hdg hlocks
theorem rw_vret {S : Type} {post : S → Prop} {w2 : S → va_W} {t2 : S → List (ClassId × FieldType)} (u : S) (hexec : p.tables.exec = Jvm.exec) (hb : c.code = cc) (hr : meth.sig.returnType = none) (hlocks : meth.locks = false) (hS : va_S A s.heap H locs) (hK : va_K D vwCl (t2 u) s) (hP : va_P D vwCl (w2 u) H) (hD : va_D A (w2 u)) (hdg : decode cc pc = .ok (.return_, 1)) (hp : post u) : W p l e R s m args below meth c H locs cells slots (MQ below (va_Qv post (oC D A w2 t2) A) args s cells slots A) (F0 m pc ls []) :=
  W.vret hexec hb hr (fun _ ht hW => ⟨⟨u, rfl, hp, by rw [ht]; exact hP, va_K.moved hW.alike hK, hD⟩, hS.F ht⟩) hS.2.2 hdg hlocks
end RR
/-! numbers -/
theorem ti_lt {x y : Int32} {a b : Int} (hx : x.toInt = a) (hy : y.toInt = b) : x < y ↔ a < b := by rw [Int32.lt_iff_toInt_lt, hx, hy]
theorem ti_le {x y : Int32} {a b : Int} (hx : x.toInt = a) (hy : y.toInt = b) : x ≤ y ↔ a ≤ b := by rw [Int32.le_iff_toInt_le, hx, hy]
theorem ti_eq {x y : Int32} {a b : Int} (hx : x.toInt = a) (hy : y.toInt = b) : x = y ↔ a = b := by rw [← Int32.toInt_inj, hx, hy]
theorem ti_add {x y z : Int32} {a b : Int} (h : z = x + y) (hx : x.toInt = a) (hy : y.toInt = b) (h1 : -2147483648 ≤ a + b) (h2 : a + b < 2147483648) : z.toInt = a + b := by
  subst h
  rw [Int32.toInt_add, hx, hy]
  exact Int.bmod_eq_of_le (by omega) (by omega)
theorem ti_mul {x y z : Int32} {a b : Int} (h : z = x * y) (hx : x.toInt = a) (hy : y.toInt = b) (h1 : -2147483648 ≤ a * b) (h2 : a * b < 2147483648) : z.toInt = a * b := by
  subst h
  rw [Int32.toInt_mul, hx, hy]
  exact Int.bmod_eq_of_le (by omega) (by omega)
/-- a flag that a call has answered -/
theorem fl_t {r : Int32} {P : Prop} [Decidable P] (h : r = if P then 1 else 0) (c : ¬ r = 0) : P := by
  by_cases q : P
  · exact q
  · rw [if_neg q] at h
    exact absurd h c
theorem fl_f {r : Int32} {P : Prop} [Decidable P] (h : r = if P then 1 else 0) (c : r = 0) : ¬ P := by
  intro q
  rw [if_pos q, c] at h
  exact absurd h (by decide)
theorem fl_n {r : Int32} {P : Prop} [Decidable P] (h : r = if P then 1 else 0) : narrow .boolean (.int r) = .int r := by
  subst h
  by_cases q : P
  · rw [if_pos q]; rfl
  · rw [if_neg q]; rfl
theorem lc_lt {x y : Int64} {a b : Int} (hx : x.toInt = a) (hy : y.toInt = b) : lg_cmp x y < 0 ↔ a < b := by
  unfold lg_cmp
  simp only [gt_iff_lt, Int64.lt_iff_toInt_lt, ← Int64.toInt_inj, hx, hy]
  by_cases h1 : b < a
  · rw [if_pos h1]; simp; omega
  · rw [if_neg h1]
    by_cases h2 : a = b
    · rw [if_pos h2]; simp; omega
    · rw [if_neg h2]; simp; omega
theorem lc_gt {x y : Int64} {a b : Int} (hx : x.toInt = a) (hy : y.toInt = b) : 0 < lg_cmp x y ↔ b < a := by
  unfold lg_cmp
  simp only [gt_iff_lt, Int64.lt_iff_toInt_lt, ← Int64.toInt_inj, hx, hy]
  by_cases h1 : b < a
  · rw [if_pos h1]; simp [h1]
  · rw [if_neg h1]
    by_cases h2 : a = b
    · rw [if_pos h2]; simp; omega
    · rw [if_neg h2]; simp; omega
end
section
set_option maxHeartbeats 4000000 in
set_option maxRecDepth 100000 in
theorem c_X12_in (l : Launch) (D : va_G) (sz : Nat) (v : Int64) (lo : Int64) (hi : Int64) (a : Int) (b : Int) (d : Int) (ha : v.toInt = a) (hb_ : lo.toInt = b) (hd_ : hi.toInt = d) : Met l yX12_in wsX12_in ({ frames := 0, cells := 0, slots := 0, locals := 0 }) (va_Pc [.long v, .long lo, .long hi] (pA D sz [] [])) (va_Qi (fun (r : Int32) (_ : Unit) => r = if (b ≤ a ∧ a ≤ d) then 1 else 0) oA (ro sz)) 0 0 (ro sz) := by
  refine Met.ofW (cc := cX12_in) (maxL := 6) (ret := (some .boolean)) (by decide) rfl ?_
  intro p e s m args below meth c s₁ B hml hv
  obtain ⟨rfl, hsz, hP, hK⟩ := hv
  have hx := B.exec
  have hb := B.bytes
  have hr := B.returns
  have hts := atoms_spec (ws := wsX12_in) B.pre
  have hown : s.vm.findClass RX12 = some m.cls := findClass_of_methodNamed B.named
  have hlocks := B.notSynchronized
  subst hsz
  have hA : ∀ q : Nat, s.heap.size ≤ q → ro s.heap.size q := fun _ h => h
  have hS : va_S (ro s.heap.size) s.heap s.heap [] := va_S.rf
  have hP : va_P D vwCl [] s.heap := hP
  have hl := lv_entry ([.long v, .long lo, .long hi]) (n := 6) (Nat.le_of_ble_eq_true rfl)
  rw [lg_entry_eq]
  generalize (lg_sl ([.long v, .long lo, .long hi]) ++ List.replicate (6 - (lg_sl ([.long v, .long lo, .long hi])).length) Slot.unset).toArray = ls at hl ⊢
  have hl : lv_has ls 6 [(0, .long v), (2, .long lo), (4, .long hi)] := hl
  refine lv_lload_n hx hb dX12_in_0 rfl (lv_at hl 0 rfl) ?_
  refine lv_lload_n hx hb dX12_in_1 rfl (lv_at hl 1 rfl) ?_
  refine W.lcmp hx hb dX12_in_2 ?_
  refine lv_if_lt (tgt := 17) hx hb dX12_in_3 (by decide) (fun c1 => ?_) (fun c1 => ?_)
  · have f1 := (lc_lt (a := a) (b := b) ha hb_).mp c1
    refine lv_iconst (v := 0) hx hb dX12_in_17 (by decide) ?_
    exact ro_zret hx hb hr hlocks hS rfl dX12_in_18 (by show _ = _; rw [if_neg (by omega)])
  · have f1 := mt (lc_lt (a := a) (b := b) ha hb_).mpr c1
    refine lv_lload_n hx hb dX12_in_6 rfl (lv_at hl 0 rfl) ?_
    refine lv_lload hx hb dX12_in_7 (lv_at hl 2 rfl) ?_
    refine W.lcmp hx hb dX12_in_9 ?_
    refine lv_if_gt (tgt := 17) hx hb dX12_in_10 (by decide) (fun c2 => ?_) (fun c2 => ?_)
    · have f2 := (lc_gt (a := a) (b := d) ha hd_).mp c2
      refine lv_iconst (v := 0) hx hb dX12_in_17 (by decide) ?_
      exact ro_zret hx hb hr hlocks hS rfl dX12_in_18 (by show _ = _; rw [if_neg (by omega)])
    · have f2 := mt (lc_gt (a := a) (b := d) ha hd_).mpr c2
      refine lv_iconst (v := 1) hx hb dX12_in_13 (by decide) ?_
      refine lv_goto (tgt := 18) hx hb dX12_in_14 (by decide) ?_
      exact ro_zret hx hb hr hlocks hS rfl dX12_in_18 (by show _ = _; rw [if_pos (by omega)])

set_option maxHeartbeats 4000000 in
set_option maxRecDepth 100000 in
theorem c_X12_isObject (l : Launch) (D : va_G) (sz : Nat) (m0 : Nat) (g1 : Nat) (g3 : Nat) (g4 : Nat) (g6 : Nat) (g7 : Nat) (g9 : Nat) (g10 : Nat) (g11 : Nat) (g12 : Nat) (g13 : Nat) (g14 : Nat) (g20 : Nat) (g21 : Nat) (g23 : Nat) (g24 : Nat) (g25 : Nat) (g26 : Nat) (g28 : Nat) (g29 : Nat) (g30 : Nat) (g31 : Nat) (g32 : Nat) (g34 : Nat) (g38 : Nat) (g39 : Nat) (g43 : Nat) (g44 : Nat) (g45 : Nat) (g46 : Nat) (g47 : Nat) (g48 : Nat) (g49 : Nat) (g51 : Nat) (g52 : Nat) (g53 : Nat) (g54 : Nat) (g55 : Nat) (g56 : Nat) (g60 : Nat) (g61 : Nat) (g62 : Nat) (g63 : Nat) (g65 : Nat) (g66 : Nat) (g67 : Nat) (g68 : Nat) (o : Int32) : Met l yX12_isObject wsX12_isObject ({ frames := 1, cells := 0, slots := 0, locals := 25 }) (va_Pc [.ref m0, .int o] (pA D sz [(m0, .inr (12, [.int 0, .ref g1, .int 6, .ref g3, .ref g4, .int 0, .ref g6, .ref g7, .int 0, .ref g9, .ref g10, .ref g11, .ref g12, .ref g13, .ref g14, .int 0, .int 0, .int 0, .int 0, .int 0, .ref g20, .ref g21, .int (-9), .ref g23, .ref g24, .ref g25, .ref g26, .int 0, .ref g28, .ref g29, .ref g30, .ref g31, .ref g32, .int 0, .ref g34, .int 0, .int 0, .long 0, .ref g38, .ref g39, .int 0, .int 0, .int 0, .ref g43, .ref g44, .ref g45, .ref g46, .ref g47, .ref g48, .ref g49, .int 0, .ref g51, .ref g52, .ref g53, .ref g54, .ref g55, .ref g56, .int (-9), .int 0, .int 0, .ref g60, .ref g61, .ref g62, .ref g63, .int 0, .ref g65, .ref g66, .ref g67, .ref g68]))] [])) (va_Qi (fun (r : Int32) (_ : Unit) => r = 0) oA (ro sz)) 0 0 (ro sz) := by
  refine Met.ofW (cc := cX12_isObject) (maxL := 2) (ret := (some .boolean)) (by decide) rfl ?_
  intro p e s m args below meth c s₁ B hml hv
  obtain ⟨rfl, hsz, hP, hK⟩ := hv
  have hx := B.exec
  have hb := B.bytes
  have hr := B.returns
  have hts := atoms_spec (ws := wsX12_isObject) B.pre
  have hown : s.vm.findClass RX12 = some m.cls := findClass_of_methodNamed B.named
  have hlocks := B.notSynchronized
  subst hsz
  have hA : ∀ q : Nat, s.heap.size ≤ q → ro s.heap.size q := fun _ h => h
  have hS : va_S (ro s.heap.size) s.heap s.heap [] := va_S.rf
  have hP : va_P D vwCl [(m0, .inr (12, [.int 0, .ref g1, .int 6, .ref g3, .ref g4, .int 0, .ref g6, .ref g7, .int 0, .ref g9, .ref g10, .ref g11, .ref g12, .ref g13, .ref g14, .int 0, .int 0, .int 0, .int 0, .int 0, .ref g20, .ref g21, .int (-9), .ref g23, .ref g24, .ref g25, .ref g26, .int 0, .ref g28, .ref g29, .ref g30, .ref g31, .ref g32, .int 0, .ref g34, .int 0, .int 0, .long 0, .ref g38, .ref g39, .int 0, .int 0, .int 0, .ref g43, .ref g44, .ref g45, .ref g46, .ref g47, .ref g48, .ref g49, .int 0, .ref g51, .ref g52, .ref g53, .ref g54, .ref g55, .ref g56, .int (-9), .int 0, .int 0, .ref g60, .ref g61, .ref g62, .ref g63, .int 0, .ref g65, .ref g66, .ref g67, .ref g68]))] s.heap := hP
  have hl := lv_entry ([.ref m0, .int o]) (n := 2) (Nat.le_of_ble_eq_true rfl)
  rw [lg_entry_eq]
  generalize (lg_sl ([.ref m0, .int o]) ++ List.replicate (2 - (lg_sl ([.ref m0, .int o])).length) Slot.unset).toArray = ls at hl ⊢
  have hl : lv_has ls 2 [(0, .ref m0), (1, .int o)] := hl
  refine lv_iload_n hx hb dX12_isObject_0 rfl (lv_at hl 1 rfl) ?_
  refine lv_i2l (v := o.toInt64) hx hb dX12_isObject_1 rfl ?_
  refine lv_lconst (v := 0) hx hb dX12_isObject_2 (by decide) ?_
  refine lv_aload_n hx hb dX12_isObject_3 rfl (lv_at hl 0 rfl) ?_
  refine va_get (D := D) (ci := 12) (v := .int 0) (C := RX12) (T := TX12) (N := 69) hx hb hts (fun _ h => List.mem_cons_of_mem _ (List.mem_append_right _ h)) hown hK hP 0 rfl rfl 5 (by decide) (hts (.fieldLink RX12 177 "TalePlayModel" "objects" "I") (by decide +kernel)) (fun _ h9 => h9) rfl dX12_isObject_4 ?_
  refine lv_iconst (v := 1) hx hb dX12_isObject_7 (by decide) ?_
  refine lv_isub hx hb dX12_isObject_8 ?_
  refine tp_i (y := (-1)) (by decide) ?_
  refine lv_i2l (v := (-1)) hx hb dX12_isObject_9 (by decide) ?_
  have hPc := hP.sub (ws' := []) [] rfl
  have hKc := hK.sub (tys' := []) [] rfl
  refine ro_calli (va_runS (As := [.long o.toInt64, .long 0, .long (-1)]) (rest := []) ⟨hx, hb, hml, hown, hts⟩ (c_X12_in l D s.heap.size o.toInt64 0 (-1) o.toInt 0 (-1) ((Int32.toInt_toInt64 o).trans rfl) (by decide) (by decide)) (va_cwS 3 hts gX12_isObject_X12_in rfl rfl rfl (by decide +kernel) ⟨Nat.le_of_ble_eq_true rfl, Nat.le_of_ble_eq_true rfl⟩) (pA_S hKc hPc) rfl rfl hl.1 rfl (lv_room (Nat.le_of_ble_eq_true rfl)) dX12_isObject_10 ⟨Nat.le_of_ble_eq_true rfl, Nat.le_of_ble_eq_true rfl⟩) hS hA hP (fun r1 u1 H locs hw1 hP hS => ?_)
  have hw1 : r1 = if (0 ≤ o.toInt ∧ o.toInt ≤ (-1)) then 1 else 0 := hw1
  exact ro_zret hx hb hr hlocks hS (fl_n hw1) dX12_isObject_13 (by show _ = _; rw [hw1, if_neg (by omega)])

set_option maxHeartbeats 4000000 in
set_option maxRecDepth 100000 in
theorem c_X10_hasKind (l : Launch) (D : va_G) (sz : Nat) (wo : Nat) (wp : Nat) (ws_ : Nat) (wd : Nat) (wk : Nat) (wz : Nat) (k : Int32) : Met l yX10_hasKind wsX10_hasKind ({ frames := 0, cells := 0, slots := 0, locals := 0 }) (va_Pc [.ref wo, .int k] (pA D sz [(wo, .inr (10, [.ref wp, .ref ws_, .ref wd, .ref wk, .ref wz, .int 6, .int 0]))] [])) (va_Qi (fun (r : Int32) (_ : Unit) => r = if (0 ≤ k.toInt ∧ k.toInt < 6) then 1 else 0) oA (ro sz)) 0 0 (ro sz) := by
  refine Met.ofW (cc := cX10_hasKind) (maxL := 2) (ret := (some .boolean)) (by decide) rfl ?_
  intro p e s m args below meth c s₁ B hml hv
  obtain ⟨rfl, hsz, hP, hK⟩ := hv
  have hx := B.exec
  have hb := B.bytes
  have hr := B.returns
  have hts := atoms_spec (ws := wsX10_hasKind) B.pre
  have hown : s.vm.findClass RX10 = some m.cls := findClass_of_methodNamed B.named
  have hlocks := B.notSynchronized
  subst hsz
  have hA : ∀ q : Nat, s.heap.size ≤ q → ro s.heap.size q := fun _ h => h
  have hS : va_S (ro s.heap.size) s.heap s.heap [] := va_S.rf
  have hP : va_P D vwCl [(wo, .inr (10, [.ref wp, .ref ws_, .ref wd, .ref wk, .ref wz, .int 6, .int 0]))] s.heap := hP
  have hl := lv_entry ([.ref wo, .int k]) (n := 2) (Nat.le_of_ble_eq_true rfl)
  rw [lg_entry_eq]
  generalize (lg_sl ([.ref wo, .int k]) ++ List.replicate (2 - (lg_sl ([.ref wo, .int k])).length) Slot.unset).toArray = ls at hl ⊢
  have hl : lv_has ls 2 [(0, .ref wo), (1, .int k)] := hl
  refine lv_iload_n hx hb dX10_hasKind_0 rfl (lv_at hl 1 rfl) ?_
  refine lv_if_lt (tgt := 16) hx hb dX10_hasKind_1 (by decide) (fun c1 => ?_) (fun c1 => ?_)
  · have f1 := (ti_lt (a := k.toInt) (b := 0) rfl (by decide)).mp c1
    refine lv_iconst (v := 0) hx hb dX10_hasKind_16 (by decide) ?_
    exact ro_zret hx hb hr hlocks hS rfl dX10_hasKind_17 (by show _ = _; rw [if_neg (by omega)])
  · have f1 := mt (ti_lt (a := k.toInt) (b := 0) rfl (by decide)).mpr c1
    refine lv_iload_n hx hb dX10_hasKind_4 rfl (lv_at hl 1 rfl) ?_
    refine lv_aload_n hx hb dX10_hasKind_5 rfl (lv_at hl 0 rfl) ?_
    refine va_get (D := D) (ci := 10) (v := .int 6) (C := RX10) (T := TX10) (N := 7) hx hb hts (fun _ h => List.mem_cons_of_mem _ (List.mem_append_right _ h)) hown hK hP 0 rfl rfl 5 (by decide) (hts (.fieldLink RX10 33 "TalePlay$World" "kinds" "I") (by decide +kernel)) (fun _ h9 => h9) rfl dX10_hasKind_6 ?_
    refine lv_icmp_ge (tgt := 16) hx hb dX10_hasKind_9 (by decide) (fun c2 => ?_) (fun c2 => ?_)
    · have f2 := (ti_le (a := 6) (b := k.toInt) (by decide) rfl).mp c2
      refine lv_iconst (v := 0) hx hb dX10_hasKind_16 (by decide) ?_
      exact ro_zret hx hb hr hlocks hS rfl dX10_hasKind_17 (by show _ = _; rw [if_neg (by omega)])
    · have f2 := mt (ti_le (a := 6) (b := k.toInt) (by decide) rfl).mpr c2
      refine lv_iconst (v := 1) hx hb dX10_hasKind_12 (by decide) ?_
      refine lv_goto (tgt := 17) hx hb dX10_hasKind_13 (by decide) ?_
      exact ro_zret hx hb hr hlocks hS rfl dX10_hasKind_17 (by show _ = _; rw [if_pos (by omega)])

set_option maxHeartbeats 4000000 in
set_option maxRecDepth 100000 in
theorem c_X10_hasObject (l : Launch) (D : va_G) (sz : Nat) (wo : Nat) (wp : Nat) (ws_ : Nat) (wd : Nat) (wk : Nat) (wz : Nat) (k : Int32) : Met l yX10_hasObject wsX10_hasObject ({ frames := 0, cells := 0, slots := 0, locals := 0 }) (va_Pc [.ref wo, .int k] (pA D sz [(wo, .inr (10, [.ref wp, .ref ws_, .ref wd, .ref wk, .ref wz, .int 6, .int 0]))] [])) (va_Qi (fun (r : Int32) (_ : Unit) => r = 0) oA (ro sz)) 0 0 (ro sz) := by
  refine Met.ofW (cc := cX10_hasObject) (maxL := 2) (ret := (some .boolean)) (by decide) rfl ?_
  intro p e s m args below meth c s₁ B hml hv
  obtain ⟨rfl, hsz, hP, hK⟩ := hv
  have hx := B.exec
  have hb := B.bytes
  have hr := B.returns
  have hts := atoms_spec (ws := wsX10_hasObject) B.pre
  have hown : s.vm.findClass RX10 = some m.cls := findClass_of_methodNamed B.named
  have hlocks := B.notSynchronized
  subst hsz
  have hA : ∀ q : Nat, s.heap.size ≤ q → ro s.heap.size q := fun _ h => h
  have hS : va_S (ro s.heap.size) s.heap s.heap [] := va_S.rf
  have hP : va_P D vwCl [(wo, .inr (10, [.ref wp, .ref ws_, .ref wd, .ref wk, .ref wz, .int 6, .int 0]))] s.heap := hP
  have hl := lv_entry ([.ref wo, .int k]) (n := 2) (Nat.le_of_ble_eq_true rfl)
  rw [lg_entry_eq]
  generalize (lg_sl ([.ref wo, .int k]) ++ List.replicate (2 - (lg_sl ([.ref wo, .int k])).length) Slot.unset).toArray = ls at hl ⊢
  have hl : lv_has ls 2 [(0, .ref wo), (1, .int k)] := hl
  refine lv_iload_n hx hb dX10_hasObject_0 rfl (lv_at hl 1 rfl) ?_
  refine lv_if_lt (tgt := 16) hx hb dX10_hasObject_1 (by decide) (fun c1 => ?_) (fun c1 => ?_)
  · have f1 := (ti_lt (a := k.toInt) (b := 0) rfl (by decide)).mp c1
    refine lv_iconst (v := 0) hx hb dX10_hasObject_16 (by decide) ?_
    exact ro_zret hx hb hr hlocks hS rfl dX10_hasObject_17 rfl
  · have f1 := mt (ti_lt (a := k.toInt) (b := 0) rfl (by decide)).mpr c1
    refine lv_iload_n hx hb dX10_hasObject_4 rfl (lv_at hl 1 rfl) ?_
    refine lv_aload_n hx hb dX10_hasObject_5 rfl (lv_at hl 0 rfl) ?_
    refine va_get (D := D) (ci := 10) (v := .int 0) (C := RX10) (T := TX10) (N := 7) hx hb hts (fun _ h => List.mem_cons_of_mem _ (List.mem_append_right _ h)) hown hK hP 0 rfl rfl 6 (by decide) (hts (.fieldLink RX10 37 "TalePlay$World" "objects" "I") (by decide +kernel)) (fun _ h9 => h9) rfl dX10_hasObject_6 ?_
    refine lv_icmp_ge (tgt := 16) hx hb dX10_hasObject_9 (by decide) (fun c2 => ?_) (fun c2 => ?_)
    · have f2 := (ti_le (a := 0) (b := k.toInt) (by decide) rfl).mp c2
      refine lv_iconst (v := 0) hx hb dX10_hasObject_16 (by decide) ?_
      exact ro_zret hx hb hr hlocks hS rfl dX10_hasObject_17 rfl
    · have f2 := mt (ti_le (a := 0) (b := k.toInt) (by decide) rfl).mpr c2
      refine lv_iconst (v := 1) hx hb dX10_hasObject_12 (by decide) ?_
      refine lv_goto (tgt := 17) hx hb dX10_hasObject_13 (by decide) ?_
      exact ro_zret hx hb hr hlocks hS rfl dX10_hasObject_17 (by exfalso; omega)

set_option maxHeartbeats 4000000 in
set_option maxRecDepth 100000 in
theorem c_X11_isBelow (l : Launch) (D : va_G) (sz : Nat) (i : Int32) (n : Int32) (a : Int) (b : Int) (ha : i.toInt = a) (hb_ : n.toInt = b) : Met l yX11_isBelow wsX11_isBelow ({ frames := 0, cells := 0, slots := 0, locals := 0 }) (va_Pc [.int i, .int n] (pA D sz [] [])) (va_Qi (fun (r : Int32) (_ : Unit) => r = if (0 ≤ a ∧ a < b) then 1 else 0) oA (ro sz)) 0 0 (ro sz) := by
  refine Met.ofW (cc := cX11_isBelow) (maxL := 2) (ret := (some .boolean)) (by decide) rfl ?_
  intro p e s m args below meth c s₁ B hml hv
  obtain ⟨rfl, hsz, hP, hK⟩ := hv
  have hx := B.exec
  have hb := B.bytes
  have hr := B.returns
  have hts := atoms_spec (ws := wsX11_isBelow) B.pre
  have hown : s.vm.findClass RX11 = some m.cls := findClass_of_methodNamed B.named
  have hlocks := B.notSynchronized
  subst hsz
  have hA : ∀ q : Nat, s.heap.size ≤ q → ro s.heap.size q := fun _ h => h
  have hS : va_S (ro s.heap.size) s.heap s.heap [] := va_S.rf
  have hP : va_P D vwCl [] s.heap := hP
  have hl := lv_entry ([.int i, .int n]) (n := 2) (Nat.le_of_ble_eq_true rfl)
  rw [lg_entry_eq]
  generalize (lg_sl ([.int i, .int n]) ++ List.replicate (2 - (lg_sl ([.int i, .int n])).length) Slot.unset).toArray = ls at hl ⊢
  have hl : lv_has ls 2 [(0, .int i), (1, .int n)] := hl
  refine lv_iload_n hx hb dX11_isBelow_0 rfl (lv_at hl 0 rfl) ?_
  refine lv_if_lt (tgt := 13) hx hb dX11_isBelow_1 (by decide) (fun c1 => ?_) (fun c1 => ?_)
  · have f1 := (ti_lt (a := a) (b := 0) ha (by decide)).mp c1
    refine lv_iconst (v := 0) hx hb dX11_isBelow_13 (by decide) ?_
    exact ro_zret hx hb hr hlocks hS rfl dX11_isBelow_14 (by show _ = _; rw [if_neg (by omega)])
  · have f1 := mt (ti_lt (a := a) (b := 0) ha (by decide)).mpr c1
    refine lv_iload_n hx hb dX11_isBelow_4 rfl (lv_at hl 0 rfl) ?_
    refine lv_iload_n hx hb dX11_isBelow_5 rfl (lv_at hl 1 rfl) ?_
    refine lv_icmp_ge (tgt := 13) hx hb dX11_isBelow_6 (by decide) (fun c2 => ?_) (fun c2 => ?_)
    · have f2 := (ti_le (a := b) (b := a) hb_ ha).mp c2
      refine lv_iconst (v := 0) hx hb dX11_isBelow_13 (by decide) ?_
      exact ro_zret hx hb hr hlocks hS rfl dX11_isBelow_14 (by show _ = _; rw [if_neg (by omega)])
    · have f2 := mt (ti_le (a := b) (b := a) hb_ ha).mpr c2
      refine lv_iconst (v := 1) hx hb dX11_isBelow_9 (by decide) ?_
      refine lv_goto (tgt := 14) hx hb dX11_isBelow_10 (by decide) ?_
      exact ro_zret hx hb hr hlocks hS rfl dX11_isBelow_14 (by show _ = _; rw [if_pos (by omega)])
end
