section
-- ===== PART A: goes FIRST, ahead of the names: the tables' words, and 'selects' of the private methods out of them =====
/-- a private method of a class that the tables say can be made, by its rows of tables_1 -/
def lw_okq (q : MethodName × Nat) : Prop := (q.1.cls ≠ "java/lang/invoke/MethodHandle" ∧ q.1.cls ≠ "java/lang/invoke/VarHandle") ∧ Cond.instantiable q.1.cls q.2 ∈ tables_1 ∧ Cond.privateMethod q.1 ∈ tables_1 ∧ Cond.instanceMethod q.1 ∈ tables_1
theorem lw_p0 : lw_okq (⟨"TalePlay$Roads", "wipe", "()V"⟩, 11) := ⟨⟨by decide +kernel, by decide +kernel⟩, List.mem_of_getElem? (i := 156) (by decide +kernel), List.mem_of_getElem? (i := 162) (by decide +kernel), List.mem_of_getElem? (i := 163) (by decide +kernel)⟩
theorem lw_p1 : lw_okq (⟨"TalePlay", "answerFinding", "(I)I"⟩, 11) := ⟨⟨by decide +kernel, by decide +kernel⟩, List.mem_of_getElem? (i := 17) (by decide +kernel), List.mem_of_getElem? (i := 476) (by decide +kernel), List.mem_of_getElem? (i := 477) (by decide +kernel)⟩
theorem lw_p2 : lw_okq (⟨"TalePlay", "places", "()LTalePlay$Scene;"⟩, 11) := ⟨⟨by decide +kernel, by decide +kernel⟩, List.mem_of_getElem? (i := 17) (by decide +kernel), List.mem_of_getElem? (i := 480) (by decide +kernel), List.mem_of_getElem? (i := 481) (by decide +kernel)⟩
theorem lw_p3 : lw_okq (⟨"TalePlay$Bulks", "weighBy", "(LTalePlay$Scene;II)I"⟩, 4) := ⟨⟨by decide +kernel, by decide +kernel⟩, List.mem_of_getElem? (i := 205) (by decide +kernel), List.mem_of_getElem? (i := 488) (by decide +kernel), List.mem_of_getElem? (i := 489) (by decide +kernel)⟩
theorem lw_p4 : lw_okq (⟨"TalePlay$Bulks", "noteBodies", "(I)V"⟩, 4) := ⟨⟨by decide +kernel, by decide +kernel⟩, List.mem_of_getElem? (i := 205) (by decide +kernel), List.mem_of_getElem? (i := 493) (by decide +kernel), List.mem_of_getElem? (i := 494) (by decide +kernel)⟩
theorem lw_p5 : lw_okq (⟨"TalePlay$Bulks", "note", "(I)V"⟩, 4) := ⟨⟨by decide +kernel, by decide +kernel⟩, List.mem_of_getElem? (i := 205) (by decide +kernel), List.mem_of_getElem? (i := 499) (by decide +kernel), List.mem_of_getElem? (i := 500) (by decide +kernel)⟩
theorem lw_p6 : lw_okq (⟨"TalePlay$Bulks", "weighThose", "(LTalePlay$Scene;III)I"⟩, 4) := ⟨⟨by decide +kernel, by decide +kernel⟩, List.mem_of_getElem? (i := 205) (by decide +kernel), List.mem_of_getElem? (i := 503) (by decide +kernel), List.mem_of_getElem? (i := 504) (by decide +kernel)⟩
theorem lw_p7 : lw_okq (⟨"TalePlay$Book", "addClash", "(I)Z"⟩, 15) := ⟨⟨by decide +kernel, by decide +kernel⟩, List.mem_of_getElem? (i := 69) (by decide +kernel), List.mem_of_getElem? (i := 587) (by decide +kernel), List.mem_of_getElem? (i := 588) (by decide +kernel)⟩
theorem lw_p8 : lw_okq (⟨"TalePlay$Book", "isDoorClashing", "(II)Z"⟩, 15) := ⟨⟨by decide +kernel, by decide +kernel⟩, List.mem_of_getElem? (i := 69) (by decide +kernel), List.mem_of_getElem? (i := 591) (by decide +kernel), List.mem_of_getElem? (i := 592) (by decide +kernel)⟩
theorem lw_p9 : lw_okq (⟨"TalePlay$Book", "isFlagClashing", "(III)Z"⟩, 15) := ⟨⟨by decide +kernel, by decide +kernel⟩, List.mem_of_getElem? (i := 69) (by decide +kernel), List.mem_of_getElem? (i := 596) (by decide +kernel), List.mem_of_getElem? (i := 597) (by decide +kernel)⟩
theorem lw_p10 : lw_okq (⟨"TalePlay$Book", "saying", "(III)I"⟩, 15) := ⟨⟨by decide +kernel, by decide +kernel⟩, List.mem_of_getElem? (i := 69) (by decide +kernel), List.mem_of_getElem? (i := 600) (by decide +kernel), List.mem_of_getElem? (i := 601) (by decide +kernel)⟩
theorem lw_p11 : lw_okq (⟨"TalePlay$Book", "isPlaceClashing", "(III)Z"⟩, 15) := ⟨⟨by decide +kernel, by decide +kernel⟩, List.mem_of_getElem? (i := 69) (by decide +kernel), List.mem_of_getElem? (i := 608) (by decide +kernel), List.mem_of_getElem? (i := 609) (by decide +kernel)⟩
theorem lw_p12 : lw_okq (⟨"TalePlay$Book", "addChain", "(II)V"⟩, 15) := ⟨⟨by decide +kernel, by decide +kernel⟩, List.mem_of_getElem? (i := 69) (by decide +kernel), List.mem_of_getElem? (i := 617) (by decide +kernel), List.mem_of_getElem? (i := 618) (by decide +kernel)⟩
theorem lw_p13 : lw_okq (⟨"TalePlay$Book", "point", "(II)V"⟩, 15) := ⟨⟨by decide +kernel, by decide +kernel⟩, List.mem_of_getElem? (i := 69) (by decide +kernel), List.mem_of_getElem? (i := 626) (by decide +kernel), List.mem_of_getElem? (i := 627) (by decide +kernel)⟩
theorem lw_p14 : lw_okq (⟨"TalePlay$Roads", "drawSaid", "()V"⟩, 11) := ⟨⟨by decide +kernel, by decide +kernel⟩, List.mem_of_getElem? (i := 156) (by decide +kernel), List.mem_of_getElem? (i := 637) (by decide +kernel), List.mem_of_getElem? (i := 638) (by decide +kernel)⟩
theorem lw_p15 : lw_okq (⟨"TalePlay$Roads", "isDrawn", "(I)Z"⟩, 11) := ⟨⟨by decide +kernel, by decide +kernel⟩, List.mem_of_getElem? (i := 156) (by decide +kernel), List.mem_of_getElem? (i := 641) (by decide +kernel), List.mem_of_getElem? (i := 642) (by decide +kernel)⟩
def lw_privs_1 : List (MethodName × Nat) := [(⟨"TalePlay$Roads", "wipe", "()V"⟩, 11), (⟨"TalePlay", "answerFinding", "(I)I"⟩, 11), (⟨"TalePlay", "places", "()LTalePlay$Scene;"⟩, 11), (⟨"TalePlay$Bulks", "weighBy", "(LTalePlay$Scene;II)I"⟩, 4), (⟨"TalePlay$Bulks", "noteBodies", "(I)V"⟩, 4), (⟨"TalePlay$Bulks", "note", "(I)V"⟩, 4), (⟨"TalePlay$Bulks", "weighThose", "(LTalePlay$Scene;III)I"⟩, 4), (⟨"TalePlay$Book", "addClash", "(I)Z"⟩, 15), (⟨"TalePlay$Book", "isDoorClashing", "(II)Z"⟩, 15), (⟨"TalePlay$Book", "isFlagClashing", "(III)Z"⟩, 15), (⟨"TalePlay$Book", "saying", "(III)I"⟩, 15), (⟨"TalePlay$Book", "isPlaceClashing", "(III)Z"⟩, 15), (⟨"TalePlay$Book", "addChain", "(II)V"⟩, 15), (⟨"TalePlay$Book", "point", "(II)V"⟩, 15), (⟨"TalePlay$Roads", "drawSaid", "()V"⟩, 11), (⟨"TalePlay$Roads", "isDrawn", "(I)Z"⟩, 11)]
theorem lw_r1 : ∀ q ∈ lw_privs_1, lw_okq q := List.forall_mem_cons.mpr ⟨lw_p0, List.forall_mem_cons.mpr ⟨lw_p1, List.forall_mem_cons.mpr ⟨lw_p2, List.forall_mem_cons.mpr ⟨lw_p3, List.forall_mem_cons.mpr ⟨lw_p4, List.forall_mem_cons.mpr ⟨lw_p5, List.forall_mem_cons.mpr ⟨lw_p6, List.forall_mem_cons.mpr ⟨lw_p7, List.forall_mem_cons.mpr ⟨lw_p8, List.forall_mem_cons.mpr ⟨lw_p9, List.forall_mem_cons.mpr ⟨lw_p10, List.forall_mem_cons.mpr ⟨lw_p11, List.forall_mem_cons.mpr ⟨lw_p12, List.forall_mem_cons.mpr ⟨lw_p13, List.forall_mem_cons.mpr ⟨lw_p14, List.forall_mem_cons.mpr ⟨lw_p15, fun _ h => absurd h List.not_mem_nil⟩⟩⟩⟩⟩⟩⟩⟩⟩⟩⟩⟩⟩⟩⟩⟩
theorem lw_p16 : lw_okq (⟨"TalePlay$Roads", "drawTarget", "(III)V"⟩, 11) := ⟨⟨by decide +kernel, by decide +kernel⟩, List.mem_of_getElem? (i := 156) (by decide +kernel), List.mem_of_getElem? (i := 645) (by decide +kernel), List.mem_of_getElem? (i := 646) (by decide +kernel)⟩
theorem lw_p17 : lw_okq (⟨"TalePlay$Roads", "drawImplied", "()V"⟩, 11) := ⟨⟨by decide +kernel, by decide +kernel⟩, List.mem_of_getElem? (i := 156) (by decide +kernel), List.mem_of_getElem? (i := 650) (by decide +kernel), List.mem_of_getElem? (i := 651) (by decide +kernel)⟩
theorem lw_p18 : lw_okq (⟨"TalePlay$Roads", "drawThroughDoors", "()V"⟩, 11) := ⟨⟨by decide +kernel, by decide +kernel⟩, List.mem_of_getElem? (i := 156) (by decide +kernel), List.mem_of_getElem? (i := 654) (by decide +kernel), List.mem_of_getElem? (i := 655) (by decide +kernel)⟩
theorem lw_p19 : lw_okq (⟨"TalePlay", "refuseRooms", "(II)I"⟩, 11) := ⟨⟨by decide +kernel, by decide +kernel⟩, List.mem_of_getElem? (i := 17) (by decide +kernel), List.mem_of_getElem? (i := 719) (by decide +kernel), List.mem_of_getElem? (i := 720) (by decide +kernel)⟩
theorem lw_p20 : lw_okq (⟨"TalePlay$Roads", "isPassable", "(IZ)Z"⟩, 11) := ⟨⟨by decide +kernel, by decide +kernel⟩, List.mem_of_getElem? (i := 156) (by decide +kernel), List.mem_of_getElem? (i := 727) (by decide +kernel), List.mem_of_getElem? (i := 728) (by decide +kernel)⟩
theorem lw_p21 : lw_okq (⟨"TalePlay$Tale", "cellAsSaid", "(I)I"⟩, 11) := ⟨⟨by decide +kernel, by decide +kernel⟩, List.mem_of_getElem? (i := 226) (by decide +kernel), List.mem_of_getElem? (i := 749) (by decide +kernel), List.mem_of_getElem? (i := 750) (by decide +kernel)⟩
theorem lw_p22 : lw_okq (⟨"TalePlay$Sight", "shellOf", "(IZ)I"⟩, 6) := ⟨⟨by decide +kernel, by decide +kernel⟩, List.mem_of_getElem? (i := 234) (by decide +kernel), List.mem_of_getElem? (i := 762) (by decide +kernel), List.mem_of_getElem? (i := 763) (by decide +kernel)⟩
theorem lw_p23 : lw_okq (⟨"TalePlay$Sight", "isCover", "(IZ)Z"⟩, 6) := ⟨⟨by decide +kernel, by decide +kernel⟩, List.mem_of_getElem? (i := 234) (by decide +kernel), List.mem_of_getElem? (i := 768) (by decide +kernel), List.mem_of_getElem? (i := 769) (by decide +kernel)⟩
theorem lw_p24 : lw_okq (⟨"TalePlay$Sight", "isInView", "(IIZ)Z"⟩, 6) := ⟨⟨by decide +kernel, by decide +kernel⟩, List.mem_of_getElem? (i := 234) (by decide +kernel), List.mem_of_getElem? (i := 776) (by decide +kernel), List.mem_of_getElem? (i := 777) (by decide +kernel)⟩
theorem lw_p25 : lw_okq (⟨"TalePlay$Acts", "reasonToGo", "(I)I"⟩, 7) := ⟨⟨by decide +kernel, by decide +kernel⟩, List.mem_of_getElem? (i := 265) (by decide +kernel), List.mem_of_getElem? (i := 809) (by decide +kernel), List.mem_of_getElem? (i := 810) (by decide +kernel)⟩
theorem lw_p26 : lw_okq (⟨"TalePlay$Acts", "isByRoom", "()Z"⟩, 7) := ⟨⟨by decide +kernel, by decide +kernel⟩, List.mem_of_getElem? (i := 265) (by decide +kernel), List.mem_of_getElem? (i := 813) (by decide +kernel), List.mem_of_getElem? (i := 814) (by decide +kernel)⟩
theorem lw_p27 : lw_okq (⟨"TalePlay$Acts", "reasonToTake", "(I)I"⟩, 7) := ⟨⟨by decide +kernel, by decide +kernel⟩, List.mem_of_getElem? (i := 265) (by decide +kernel), List.mem_of_getElem? (i := 821) (by decide +kernel), List.mem_of_getElem? (i := 822) (by decide +kernel)⟩
theorem lw_p28 : lw_okq (⟨"TalePlay$Acts", "isHeld", "(I)Z"⟩, 7) := ⟨⟨by decide +kernel, by decide +kernel⟩, List.mem_of_getElem? (i := 265) (by decide +kernel), List.mem_of_getElem? (i := 826) (by decide +kernel), List.mem_of_getElem? (i := 827) (by decide +kernel)⟩
theorem lw_p29 : lw_okq (⟨"TalePlay$Acts", "isAnothers", "(I)Z"⟩, 7) := ⟨⟨by decide +kernel, by decide +kernel⟩, List.mem_of_getElem? (i := 265) (by decide +kernel), List.mem_of_getElem? (i := 832) (by decide +kernel), List.mem_of_getElem? (i := 833) (by decide +kernel)⟩
theorem lw_p30 : lw_okq (⟨"TalePlay$Acts", "reasonOfShutter", "(II)I"⟩, 7) := ⟨⟨by decide +kernel, by decide +kernel⟩, List.mem_of_getElem? (i := 265) (by decide +kernel), List.mem_of_getElem? (i := 838) (by decide +kernel), List.mem_of_getElem? (i := 839) (by decide +kernel)⟩
theorem lw_p31 : lw_okq (⟨"TalePlay$Acts", "reasonToWear", "(I)I"⟩, 7) := ⟨⟨by decide +kernel, by decide +kernel⟩, List.mem_of_getElem? (i := 265) (by decide +kernel), List.mem_of_getElem? (i := 846) (by decide +kernel), List.mem_of_getElem? (i := 847) (by decide +kernel)⟩
def lw_privs_2 : List (MethodName × Nat) := [(⟨"TalePlay$Roads", "drawTarget", "(III)V"⟩, 11), (⟨"TalePlay$Roads", "drawImplied", "()V"⟩, 11), (⟨"TalePlay$Roads", "drawThroughDoors", "()V"⟩, 11), (⟨"TalePlay", "refuseRooms", "(II)I"⟩, 11), (⟨"TalePlay$Roads", "isPassable", "(IZ)Z"⟩, 11), (⟨"TalePlay$Tale", "cellAsSaid", "(I)I"⟩, 11), (⟨"TalePlay$Sight", "shellOf", "(IZ)I"⟩, 6), (⟨"TalePlay$Sight", "isCover", "(IZ)Z"⟩, 6), (⟨"TalePlay$Sight", "isInView", "(IIZ)Z"⟩, 6), (⟨"TalePlay$Acts", "reasonToGo", "(I)I"⟩, 7), (⟨"TalePlay$Acts", "isByRoom", "()Z"⟩, 7), (⟨"TalePlay$Acts", "reasonToTake", "(I)I"⟩, 7), (⟨"TalePlay$Acts", "isHeld", "(I)Z"⟩, 7), (⟨"TalePlay$Acts", "isAnothers", "(I)Z"⟩, 7), (⟨"TalePlay$Acts", "reasonOfShutter", "(II)I"⟩, 7), (⟨"TalePlay$Acts", "reasonToWear", "(I)I"⟩, 7)]
theorem lw_r2 : ∀ q ∈ lw_privs_2, lw_okq q := List.forall_mem_cons.mpr ⟨lw_p16, List.forall_mem_cons.mpr ⟨lw_p17, List.forall_mem_cons.mpr ⟨lw_p18, List.forall_mem_cons.mpr ⟨lw_p19, List.forall_mem_cons.mpr ⟨lw_p20, List.forall_mem_cons.mpr ⟨lw_p21, List.forall_mem_cons.mpr ⟨lw_p22, List.forall_mem_cons.mpr ⟨lw_p23, List.forall_mem_cons.mpr ⟨lw_p24, List.forall_mem_cons.mpr ⟨lw_p25, List.forall_mem_cons.mpr ⟨lw_p26, List.forall_mem_cons.mpr ⟨lw_p27, List.forall_mem_cons.mpr ⟨lw_p28, List.forall_mem_cons.mpr ⟨lw_p29, List.forall_mem_cons.mpr ⟨lw_p30, List.forall_mem_cons.mpr ⟨lw_p31, fun _ h => absurd h List.not_mem_nil⟩⟩⟩⟩⟩⟩⟩⟩⟩⟩⟩⟩⟩⟩⟩⟩
theorem lw_p32 : lw_okq (⟨"TalePlay$Acts", "reasonToEnter", "(I)I"⟩, 7) := ⟨⟨by decide +kernel, by decide +kernel⟩, List.mem_of_getElem? (i := 265) (by decide +kernel), List.mem_of_getElem? (i := 850) (by decide +kernel), List.mem_of_getElem? (i := 851) (by decide +kernel)⟩
theorem lw_p33 : lw_okq (⟨"TalePlay$Acts", "reasonToLeave", "()I"⟩, 7) := ⟨⟨by decide +kernel, by decide +kernel⟩, List.mem_of_getElem? (i := 265) (by decide +kernel), List.mem_of_getElem? (i := 854) (by decide +kernel), List.mem_of_getElem? (i := 855) (by decide +kernel)⟩
theorem lw_p34 : lw_okq (⟨"TalePlay$Acts", "reasonToPut", "(III)I"⟩, 7) := ⟨⟨by decide +kernel, by decide +kernel⟩, List.mem_of_getElem? (i := 265) (by decide +kernel), List.mem_of_getElem? (i := 862) (by decide +kernel), List.mem_of_getElem? (i := 863) (by decide +kernel)⟩
theorem lw_p35 : lw_okq (⟨"TalePlay$Acts", "reasonOfKey", "(II)I"⟩, 7) := ⟨⟨by decide +kernel, by decide +kernel⟩, List.mem_of_getElem? (i := 265) (by decide +kernel), List.mem_of_getElem? (i := 871) (by decide +kernel), List.mem_of_getElem? (i := 872) (by decide +kernel)⟩
theorem lw_p36 : lw_okq (⟨"TalePlay$Tale", "doIt", "(III)V"⟩, 11) := ⟨⟨by decide +kernel, by decide +kernel⟩, List.mem_of_getElem? (i := 226) (by decide +kernel), List.mem_of_getElem? (i := 876) (by decide +kernel), List.mem_of_getElem? (i := 877) (by decide +kernel)⟩
theorem lw_p37 : lw_okq (⟨"TalePlay$Acts", "placedAs", "(II)I"⟩, 7) := ⟨⟨by decide +kernel, by decide +kernel⟩, List.mem_of_getElem? (i := 265) (by decide +kernel), List.mem_of_getElem? (i := 894) (by decide +kernel), List.mem_of_getElem? (i := 895) (by decide +kernel)⟩
theorem lw_p38 : lw_okq (⟨"TalePlay$Seeker", "markOfScene", "()I"⟩, 15) := ⟨⟨by decide +kernel, by decide +kernel⟩, List.mem_of_getElem? (i := 935) (by decide +kernel), List.mem_of_getElem? (i := 1007) (by decide +kernel), List.mem_of_getElem? (i := 1008) (by decide +kernel)⟩
theorem lw_p39 : lw_okq (⟨"TalePlay$Seeker", "slotFor", "(I)I"⟩, 15) := ⟨⟨by decide +kernel, by decide +kernel⟩, List.mem_of_getElem? (i := 935) (by decide +kernel), List.mem_of_getElem? (i := 1015) (by decide +kernel), List.mem_of_getElem? (i := 1016) (by decide +kernel)⟩
theorem lw_p40 : lw_okq (⟨"TalePlay$Seeker", "isScene", "(I)Z"⟩, 15) := ⟨⟨by decide +kernel, by decide +kernel⟩, List.mem_of_getElem? (i := 935) (by decide +kernel), List.mem_of_getElem? (i := 1019) (by decide +kernel), List.mem_of_getElem? (i := 1020) (by decide +kernel)⟩
theorem lw_p41 : lw_okq (⟨"TalePlay$Seeker", "keep", "(IIII)V"⟩, 15) := ⟨⟨by decide +kernel, by decide +kernel⟩, List.mem_of_getElem? (i := 935) (by decide +kernel), List.mem_of_getElem? (i := 1023) (by decide +kernel), List.mem_of_getElem? (i := 1024) (by decide +kernel)⟩
theorem lw_p42 : lw_okq (⟨"TalePlay$Seeker", "isEnded", "()Z"⟩, 15) := ⟨⟨by decide +kernel, by decide +kernel⟩, List.mem_of_getElem? (i := 935) (by decide +kernel), List.mem_of_getElem? (i := 1028) (by decide +kernel), List.mem_of_getElem? (i := 1029) (by decide +kernel)⟩
theorem lw_p43 : lw_okq (⟨"TalePlay$Seeker", "tryFrom", "(I)V"⟩, 15) := ⟨⟨by decide +kernel, by decide +kernel⟩, List.mem_of_getElem? (i := 935) (by decide +kernel), List.mem_of_getElem? (i := 1032) (by decide +kernel), List.mem_of_getElem? (i := 1033) (by decide +kernel)⟩
theorem lw_p44 : lw_okq (⟨"TalePlay$Seeker", "tryWith", "(III)V"⟩, 15) := ⟨⟨by decide +kernel, by decide +kernel⟩, List.mem_of_getElem? (i := 935) (by decide +kernel), List.mem_of_getElem? (i := 1039) (by decide +kernel), List.mem_of_getElem? (i := 1040) (by decide +kernel)⟩
theorem lw_p45 : lw_okq (⟨"TalePlay$Seeker", "step", "(IIII)V"⟩, 15) := ⟨⟨by decide +kernel, by decide +kernel⟩, List.mem_of_getElem? (i := 935) (by decide +kernel), List.mem_of_getElem? (i := 1045) (by decide +kernel), List.mem_of_getElem? (i := 1046) (by decide +kernel)⟩
theorem lw_p46 : lw_okq (⟨"TalePlay$Seeker", "tellPlay", "()V"⟩, 15) := ⟨⟨by decide +kernel, by decide +kernel⟩, List.mem_of_getElem? (i := 935) (by decide +kernel), List.mem_of_getElem? (i := 1052) (by decide +kernel), List.mem_of_getElem? (i := 1053) (by decide +kernel)⟩
theorem lw_p47 : lw_okq (⟨"TalePlay", "refuseItem", "(III)I"⟩, 11) := ⟨⟨by decide +kernel, by decide +kernel⟩, List.mem_of_getElem? (i := 17) (by decide +kernel), List.mem_of_getElem? (i := 1072) (by decide +kernel), List.mem_of_getElem? (i := 1073) (by decide +kernel)⟩
def lw_privs_3 : List (MethodName × Nat) := [(⟨"TalePlay$Acts", "reasonToEnter", "(I)I"⟩, 7), (⟨"TalePlay$Acts", "reasonToLeave", "()I"⟩, 7), (⟨"TalePlay$Acts", "reasonToPut", "(III)I"⟩, 7), (⟨"TalePlay$Acts", "reasonOfKey", "(II)I"⟩, 7), (⟨"TalePlay$Tale", "doIt", "(III)V"⟩, 11), (⟨"TalePlay$Acts", "placedAs", "(II)I"⟩, 7), (⟨"TalePlay$Seeker", "markOfScene", "()I"⟩, 15), (⟨"TalePlay$Seeker", "slotFor", "(I)I"⟩, 15), (⟨"TalePlay$Seeker", "isScene", "(I)Z"⟩, 15), (⟨"TalePlay$Seeker", "keep", "(IIII)V"⟩, 15), (⟨"TalePlay$Seeker", "isEnded", "()Z"⟩, 15), (⟨"TalePlay$Seeker", "tryFrom", "(I)V"⟩, 15), (⟨"TalePlay$Seeker", "tryWith", "(III)V"⟩, 15), (⟨"TalePlay$Seeker", "step", "(IIII)V"⟩, 15), (⟨"TalePlay$Seeker", "tellPlay", "()V"⟩, 15), (⟨"TalePlay", "refuseItem", "(III)I"⟩, 11)]
theorem lw_r3 : ∀ q ∈ lw_privs_3, lw_okq q := List.forall_mem_cons.mpr ⟨lw_p32, List.forall_mem_cons.mpr ⟨lw_p33, List.forall_mem_cons.mpr ⟨lw_p34, List.forall_mem_cons.mpr ⟨lw_p35, List.forall_mem_cons.mpr ⟨lw_p36, List.forall_mem_cons.mpr ⟨lw_p37, List.forall_mem_cons.mpr ⟨lw_p38, List.forall_mem_cons.mpr ⟨lw_p39, List.forall_mem_cons.mpr ⟨lw_p40, List.forall_mem_cons.mpr ⟨lw_p41, List.forall_mem_cons.mpr ⟨lw_p42, List.forall_mem_cons.mpr ⟨lw_p43, List.forall_mem_cons.mpr ⟨lw_p44, List.forall_mem_cons.mpr ⟨lw_p45, List.forall_mem_cons.mpr ⟨lw_p46, List.forall_mem_cons.mpr ⟨lw_p47, fun _ h => absurd h List.not_mem_nil⟩⟩⟩⟩⟩⟩⟩⟩⟩⟩⟩⟩⟩⟩⟩⟩
theorem lw_p48 : lw_okq (⟨"TalePlay", "digestKinds", "(J)J"⟩, 11) := ⟨⟨by decide +kernel, by decide +kernel⟩, List.mem_of_getElem? (i := 17) (by decide +kernel), List.mem_of_getElem? (i := 1140) (by decide +kernel), List.mem_of_getElem? (i := 1141) (by decide +kernel)⟩
theorem lw_p49 : lw_okq (⟨"TalePlay", "digestObjects", "(J)J"⟩, 11) := ⟨⟨by decide +kernel, by decide +kernel⟩, List.mem_of_getElem? (i := 17) (by decide +kernel), List.mem_of_getElem? (i := 1145) (by decide +kernel), List.mem_of_getElem? (i := 1146) (by decide +kernel)⟩
theorem lw_p50 : lw_okq (⟨"TalePlay", "digestSentences", "(J)J"⟩, 11) := ⟨⟨by decide +kernel, by decide +kernel⟩, List.mem_of_getElem? (i := 17) (by decide +kernel), List.mem_of_getElem? (i := 1149) (by decide +kernel), List.mem_of_getElem? (i := 1150) (by decide +kernel)⟩
theorem lw_p51 : lw_okq (⟨"TalePlayModel", "endTale", "()V"⟩, 69) := ⟨⟨by decide +kernel, by decide +kernel⟩, List.mem_of_getElem? (i := 1153) (by decide +kernel), List.mem_of_getElem? (i := 1389) (by decide +kernel), List.mem_of_getElem? (i := 1390) (by decide +kernel)⟩
theorem lw_p52 : lw_okq (⟨"TalePlayModel", "isObject", "(I)Z"⟩, 69) := ⟨⟨by decide +kernel, by decide +kernel⟩, List.mem_of_getElem? (i := 1153) (by decide +kernel), List.mem_of_getElem? (i := 1402) (by decide +kernel), List.mem_of_getElem? (i := 1403) (by decide +kernel)⟩
theorem lw_p53 : lw_okq (⟨"TalePlayModel", "isOf", "(II)Z"⟩, 69) := ⟨⟨by decide +kernel, by decide +kernel⟩, List.mem_of_getElem? (i := 1153) (by decide +kernel), List.mem_of_getElem? (i := 1406) (by decide +kernel), List.mem_of_getElem? (i := 1407) (by decide +kernel)⟩
theorem lw_p54 : lw_okq (⟨"TalePlayModel", "areNumbers", "(IIII)Z"⟩, 69) := ⟨⟨by decide +kernel, by decide +kernel⟩, List.mem_of_getElem? (i := 1153) (by decide +kernel), List.mem_of_getElem? (i := 1415) (by decide +kernel), List.mem_of_getElem? (i := 1416) (by decide +kernel)⟩
theorem lw_p55 : lw_okq (⟨"TalePlayModel", "fitsLeft", "(III)Z"⟩, 69) := ⟨⟨by decide +kernel, by decide +kernel⟩, List.mem_of_getElem? (i := 1153) (by decide +kernel), List.mem_of_getElem? (i := 1420) (by decide +kernel), List.mem_of_getElem? (i := 1421) (by decide +kernel)⟩
theorem lw_p56 : lw_okq (⟨"TalePlayModel", "isMovable", "(I)Z"⟩, 69) := ⟨⟨by decide +kernel, by decide +kernel⟩, List.mem_of_getElem? (i := 1153) (by decide +kernel), List.mem_of_getElem? (i := 1424) (by decide +kernel), List.mem_of_getElem? (i := 1425) (by decide +kernel)⟩
theorem lw_p57 : lw_okq (⟨"TalePlayModel", "mayHave", "(II)Z"⟩, 69) := ⟨⟨by decide +kernel, by decide +kernel⟩, List.mem_of_getElem? (i := 1153) (by decide +kernel), List.mem_of_getElem? (i := 1428) (by decide +kernel), List.mem_of_getElem? (i := 1429) (by decide +kernel)⟩
theorem lw_p58 : lw_okq (⟨"TalePlayModel", "isShutter", "(I)Z"⟩, 69) := ⟨⟨by decide +kernel, by decide +kernel⟩, List.mem_of_getElem? (i := 1153) (by decide +kernel), List.mem_of_getElem? (i := 1432) (by decide +kernel), List.mem_of_getElem? (i := 1433) (by decide +kernel)⟩
theorem lw_p59 : lw_okq (⟨"TalePlayModel", "isGoods", "(I)Z"⟩, 69) := ⟨⟨by decide +kernel, by decide +kernel⟩, List.mem_of_getElem? (i := 1153) (by decide +kernel), List.mem_of_getElem? (i := 1436) (by decide +kernel), List.mem_of_getElem? (i := 1437) (by decide +kernel)⟩
theorem lw_p60 : lw_okq (⟨"TalePlayModel", "fitsRight", "(II)Z"⟩, 69) := ⟨⟨by decide +kernel, by decide +kernel⟩, List.mem_of_getElem? (i := 1153) (by decide +kernel), List.mem_of_getElem? (i := 1440) (by decide +kernel), List.mem_of_getElem? (i := 1441) (by decide +kernel)⟩
theorem lw_p61 : lw_okq (⟨"TalePlayModel", "saidSo", "(IIII)I"⟩, 69) := ⟨⟨by decide +kernel, by decide +kernel⟩, List.mem_of_getElem? (i := 1153) (by decide +kernel), List.mem_of_getElem? (i := 1444) (by decide +kernel), List.mem_of_getElem? (i := 1445) (by decide +kernel)⟩
theorem lw_p62 : lw_okq (⟨"TalePlayModel", "meets", "(I)I"⟩, 69) := ⟨⟨by decide +kernel, by decide +kernel⟩, List.mem_of_getElem? (i := 1153) (by decide +kernel), List.mem_of_getElem? (i := 1448) (by decide +kernel), List.mem_of_getElem? (i := 1449) (by decide +kernel)⟩
theorem lw_p63 : lw_okq (⟨"TalePlayModel", "isPlaceBarred", "(III)Z"⟩, 69) := ⟨⟨by decide +kernel, by decide +kernel⟩, List.mem_of_getElem? (i := 1153) (by decide +kernel), List.mem_of_getElem? (i := 1452) (by decide +kernel), List.mem_of_getElem? (i := 1453) (by decide +kernel)⟩
def lw_privs_4 : List (MethodName × Nat) := [(⟨"TalePlay", "digestKinds", "(J)J"⟩, 11), (⟨"TalePlay", "digestObjects", "(J)J"⟩, 11), (⟨"TalePlay", "digestSentences", "(J)J"⟩, 11), (⟨"TalePlayModel", "endTale", "()V"⟩, 69), (⟨"TalePlayModel", "isObject", "(I)Z"⟩, 69), (⟨"TalePlayModel", "isOf", "(II)Z"⟩, 69), (⟨"TalePlayModel", "areNumbers", "(IIII)Z"⟩, 69), (⟨"TalePlayModel", "fitsLeft", "(III)Z"⟩, 69), (⟨"TalePlayModel", "isMovable", "(I)Z"⟩, 69), (⟨"TalePlayModel", "mayHave", "(II)Z"⟩, 69), (⟨"TalePlayModel", "isShutter", "(I)Z"⟩, 69), (⟨"TalePlayModel", "isGoods", "(I)Z"⟩, 69), (⟨"TalePlayModel", "fitsRight", "(II)Z"⟩, 69), (⟨"TalePlayModel", "saidSo", "(IIII)I"⟩, 69), (⟨"TalePlayModel", "meets", "(I)I"⟩, 69), (⟨"TalePlayModel", "isPlaceBarred", "(III)Z"⟩, 69)]
theorem lw_r4 : ∀ q ∈ lw_privs_4, lw_okq q := List.forall_mem_cons.mpr ⟨lw_p48, List.forall_mem_cons.mpr ⟨lw_p49, List.forall_mem_cons.mpr ⟨lw_p50, List.forall_mem_cons.mpr ⟨lw_p51, List.forall_mem_cons.mpr ⟨lw_p52, List.forall_mem_cons.mpr ⟨lw_p53, List.forall_mem_cons.mpr ⟨lw_p54, List.forall_mem_cons.mpr ⟨lw_p55, List.forall_mem_cons.mpr ⟨lw_p56, List.forall_mem_cons.mpr ⟨lw_p57, List.forall_mem_cons.mpr ⟨lw_p58, List.forall_mem_cons.mpr ⟨lw_p59, List.forall_mem_cons.mpr ⟨lw_p60, List.forall_mem_cons.mpr ⟨lw_p61, List.forall_mem_cons.mpr ⟨lw_p62, List.forall_mem_cons.mpr ⟨lw_p63, fun _ h => absurd h List.not_mem_nil⟩⟩⟩⟩⟩⟩⟩⟩⟩⟩⟩⟩⟩⟩⟩⟩
theorem lw_p64 : lw_okq (⟨"TalePlayModel", "placing", "(I)I"⟩, 69) := ⟨⟨by decide +kernel, by decide +kernel⟩, List.mem_of_getElem? (i := 1153) (by decide +kernel), List.mem_of_getElem? (i := 1456) (by decide +kernel), List.mem_of_getElem? (i := 1457) (by decide +kernel)⟩
theorem lw_p65 : lw_okq (⟨"TalePlayModel", "clashes", "(I)V"⟩, 69) := ⟨⟨by decide +kernel, by decide +kernel⟩, List.mem_of_getElem? (i := 1153) (by decide +kernel), List.mem_of_getElem? (i := 1460) (by decide +kernel), List.mem_of_getElem? (i := 1461) (by decide +kernel)⟩
theorem lw_p66 : lw_okq (⟨"TalePlayModel", "isExitBarred", "(III)Z"⟩, 69) := ⟨⟨by decide +kernel, by decide +kernel⟩, List.mem_of_getElem? (i := 1153) (by decide +kernel), List.mem_of_getElem? (i := 1464) (by decide +kernel), List.mem_of_getElem? (i := 1465) (by decide +kernel)⟩
theorem lw_p67 : lw_okq (⟨"TalePlayModel", "isFlagBarred", "(III)Z"⟩, 69) := ⟨⟨by decide +kernel, by decide +kernel⟩, List.mem_of_getElem? (i := 1153) (by decide +kernel), List.mem_of_getElem? (i := 1468) (by decide +kernel), List.mem_of_getElem? (i := 1469) (by decide +kernel)⟩
theorem lw_p68 : lw_okq (⟨"TalePlayModel", "isKeyBarred", "(I)Z"⟩, 69) := ⟨⟨by decide +kernel, by decide +kernel⟩, List.mem_of_getElem? (i := 1153) (by decide +kernel), List.mem_of_getElem? (i := 1472) (by decide +kernel), List.mem_of_getElem? (i := 1473) (by decide +kernel)⟩
theorem lw_p69 : lw_okq (⟨"TalePlayModel", "saidMany", "()I"⟩, 69) := ⟨⟨by decide +kernel, by decide +kernel⟩, List.mem_of_getElem? (i := 1153) (by decide +kernel), List.mem_of_getElem? (i := 1480) (by decide +kernel), List.mem_of_getElem? (i := 1481) (by decide +kernel)⟩
theorem lw_p70 : lw_okq (⟨"TalePlayModel", "saidFlag", "(II)I"⟩, 69) := ⟨⟨by decide +kernel, by decide +kernel⟩, List.mem_of_getElem? (i := 1153) (by decide +kernel), List.mem_of_getElem? (i := 1502) (by decide +kernel), List.mem_of_getElem? (i := 1503) (by decide +kernel)⟩
theorem lw_p71 : lw_okq (⟨"TalePlayModel", "keyOf", "(I)I"⟩, 69) := ⟨⟨by decide +kernel, by decide +kernel⟩, List.mem_of_getElem? (i := 1153) (by decide +kernel), List.mem_of_getElem? (i := 1510) (by decide +kernel), List.mem_of_getElem? (i := 1511) (by decide +kernel)⟩
theorem lw_p72 : lw_okq (⟨"TalePlayModel", "findExit", "(II)Z"⟩, 69) := ⟨⟨by decide +kernel, by decide +kernel⟩, List.mem_of_getElem? (i := 1153) (by decide +kernel), List.mem_of_getElem? (i := 1519) (by decide +kernel), List.mem_of_getElem? (i := 1520) (by decide +kernel)⟩
theorem lw_p73 : lw_okq (⟨"TalePlayModel", "otherSide", "(II)I"⟩, 69) := ⟨⟨by decide +kernel, by decide +kernel⟩, List.mem_of_getElem? (i := 1153) (by decide +kernel), List.mem_of_getElem? (i := 1523) (by decide +kernel), List.mem_of_getElem? (i := 1524) (by decide +kernel)⟩
theorem lw_p74 : lw_okq (⟨"TalePlayModel", "wayRefused", "(II)I"⟩, 69) := ⟨⟨by decide +kernel, by decide +kernel⟩, List.mem_of_getElem? (i := 1153) (by decide +kernel), List.mem_of_getElem? (i := 1531) (by decide +kernel), List.mem_of_getElem? (i := 1532) (by decide +kernel)⟩
theorem lw_p75 : lw_okq (⟨"TalePlayModel", "walk", "(IZ)V"⟩, 69) := ⟨⟨by decide +kernel, by decide +kernel⟩, List.mem_of_getElem? (i := 1153) (by decide +kernel), List.mem_of_getElem? (i := 1535) (by decide +kernel), List.mem_of_getElem? (i := 1536) (by decide +kernel)⟩
theorem lw_p76 : lw_okq (⟨"TalePlayModel", "bulkOf", "(I)I"⟩, 69) := ⟨⟨by decide +kernel, by decide +kernel⟩, List.mem_of_getElem? (i := 1153) (by decide +kernel), List.mem_of_getElem? (i := 1547) (by decide +kernel), List.mem_of_getElem? (i := 1548) (by decide +kernel)⟩
theorem lw_p77 : lw_okq (⟨"TalePlayModel", "body", "(I)V"⟩, 69) := ⟨⟨by decide +kernel, by decide +kernel⟩, List.mem_of_getElem? (i := 1153) (by decide +kernel), List.mem_of_getElem? (i := 1551) (by decide +kernel), List.mem_of_getElem? (i := 1552) (by decide +kernel)⟩
theorem lw_p78 : lw_okq (⟨"TalePlayModel", "beginBulk", "(II)I"⟩, 69) := ⟨⟨by decide +kernel, by decide +kernel⟩, List.mem_of_getElem? (i := 1153) (by decide +kernel), List.mem_of_getElem? (i := 1555) (by decide +kernel), List.mem_of_getElem? (i := 1556) (by decide +kernel)⟩
theorem lw_p79 : lw_okq (⟨"TalePlayModel", "formNow", "(I)I"⟩, 69) := ⟨⟨by decide +kernel, by decide +kernel⟩, List.mem_of_getElem? (i := 1153) (by decide +kernel), List.mem_of_getElem? (i := 1559) (by decide +kernel), List.mem_of_getElem? (i := 1560) (by decide +kernel)⟩
def lw_privs_5 : List (MethodName × Nat) := [(⟨"TalePlayModel", "placing", "(I)I"⟩, 69), (⟨"TalePlayModel", "clashes", "(I)V"⟩, 69), (⟨"TalePlayModel", "isExitBarred", "(III)Z"⟩, 69), (⟨"TalePlayModel", "isFlagBarred", "(III)Z"⟩, 69), (⟨"TalePlayModel", "isKeyBarred", "(I)Z"⟩, 69), (⟨"TalePlayModel", "saidMany", "()I"⟩, 69), (⟨"TalePlayModel", "saidFlag", "(II)I"⟩, 69), (⟨"TalePlayModel", "keyOf", "(I)I"⟩, 69), (⟨"TalePlayModel", "findExit", "(II)Z"⟩, 69), (⟨"TalePlayModel", "otherSide", "(II)I"⟩, 69), (⟨"TalePlayModel", "wayRefused", "(II)I"⟩, 69), (⟨"TalePlayModel", "walk", "(IZ)V"⟩, 69), (⟨"TalePlayModel", "bulkOf", "(I)I"⟩, 69), (⟨"TalePlayModel", "body", "(I)V"⟩, 69), (⟨"TalePlayModel", "beginBulk", "(II)I"⟩, 69), (⟨"TalePlayModel", "formNow", "(I)I"⟩, 69)]
theorem lw_r5 : ∀ q ∈ lw_privs_5, lw_okq q := List.forall_mem_cons.mpr ⟨lw_p64, List.forall_mem_cons.mpr ⟨lw_p65, List.forall_mem_cons.mpr ⟨lw_p66, List.forall_mem_cons.mpr ⟨lw_p67, List.forall_mem_cons.mpr ⟨lw_p68, List.forall_mem_cons.mpr ⟨lw_p69, List.forall_mem_cons.mpr ⟨lw_p70, List.forall_mem_cons.mpr ⟨lw_p71, List.forall_mem_cons.mpr ⟨lw_p72, List.forall_mem_cons.mpr ⟨lw_p73, List.forall_mem_cons.mpr ⟨lw_p74, List.forall_mem_cons.mpr ⟨lw_p75, List.forall_mem_cons.mpr ⟨lw_p76, List.forall_mem_cons.mpr ⟨lw_p77, List.forall_mem_cons.mpr ⟨lw_p78, List.forall_mem_cons.mpr ⟨lw_p79, fun _ h => absurd h List.not_mem_nil⟩⟩⟩⟩⟩⟩⟩⟩⟩⟩⟩⟩⟩⟩⟩⟩
theorem lw_p80 : lw_okq (⟨"TalePlayModel", "atNow", "(I)I"⟩, 69) := ⟨⟨by decide +kernel, by decide +kernel⟩, List.mem_of_getElem? (i := 1153) (by decide +kernel), List.mem_of_getElem? (i := 1563) (by decide +kernel), List.mem_of_getElem? (i := 1564) (by decide +kernel)⟩
theorem lw_p81 : lw_okq (⟨"TalePlayModel", "lookAtKinds", "()V"⟩, 69) := ⟨⟨by decide +kernel, by decide +kernel⟩, List.mem_of_getElem? (i := 1153) (by decide +kernel), List.mem_of_getElem? (i := 1593) (by decide +kernel), List.mem_of_getElem? (i := 1594) (by decide +kernel)⟩
theorem lw_p82 : lw_okq (⟨"TalePlayModel", "lookAround", "()V"⟩, 69) := ⟨⟨by decide +kernel, by decide +kernel⟩, List.mem_of_getElem? (i := 1153) (by decide +kernel), List.mem_of_getElem? (i := 1597) (by decide +kernel), List.mem_of_getElem? (i := 1598) (by decide +kernel)⟩
theorem lw_p83 : lw_okq (⟨"TalePlayModel", "shellOf", "(Z)I"⟩, 69) := ⟨⟨by decide +kernel, by decide +kernel⟩, List.mem_of_getElem? (i := 1153) (by decide +kernel), List.mem_of_getElem? (i := 1601) (by decide +kernel), List.mem_of_getElem? (i := 1602) (by decide +kernel)⟩
theorem lw_p84 : lw_okq (⟨"TalePlayModel", "shuts", "(IZ)Z"⟩, 69) := ⟨⟨by decide +kernel, by decide +kernel⟩, List.mem_of_getElem? (i := 1153) (by decide +kernel), List.mem_of_getElem? (i := 1605) (by decide +kernel), List.mem_of_getElem? (i := 1606) (by decide +kernel)⟩
theorem lw_p85 : lw_okq (⟨"TalePlayModel", "isInView", "(IIZ)Z"⟩, 69) := ⟨⟨by decide +kernel, by decide +kernel⟩, List.mem_of_getElem? (i := 1153) (by decide +kernel), List.mem_of_getElem? (i := 1609) (by decide +kernel), List.mem_of_getElem? (i := 1610) (by decide +kernel)⟩
theorem lw_p86 : lw_okq (⟨"TalePlayModel", "isSide", "(II)Z"⟩, 69) := ⟨⟨by decide +kernel, by decide +kernel⟩, List.mem_of_getElem? (i := 1153) (by decide +kernel), List.mem_of_getElem? (i := 1613) (by decide +kernel), List.mem_of_getElem? (i := 1614) (by decide +kernel)⟩
theorem lw_p87 : lw_okq (⟨"TalePlayModel", "whyNot", "(III)I"⟩, 69) := ⟨⟨by decide +kernel, by decide +kernel⟩, List.mem_of_getElem? (i := 1153) (by decide +kernel), List.mem_of_getElem? (i := 1617) (by decide +kernel), List.mem_of_getElem? (i := 1618) (by decide +kernel)⟩
theorem lw_p88 : lw_okq (⟨"TalePlayModel", "whyNotGo", "(I)I"⟩, 69) := ⟨⟨by decide +kernel, by decide +kernel⟩, List.mem_of_getElem? (i := 1153) (by decide +kernel), List.mem_of_getElem? (i := 1621) (by decide +kernel), List.mem_of_getElem? (i := 1622) (by decide +kernel)⟩
theorem lw_p89 : lw_okq (⟨"TalePlayModel", "isInRoom", "()Z"⟩, 69) := ⟨⟨by decide +kernel, by decide +kernel⟩, List.mem_of_getElem? (i := 1153) (by decide +kernel), List.mem_of_getElem? (i := 1625) (by decide +kernel), List.mem_of_getElem? (i := 1626) (by decide +kernel)⟩
theorem lw_p90 : lw_okq (⟨"TalePlayModel", "whyNotTake", "(I)I"⟩, 69) := ⟨⟨by decide +kernel, by decide +kernel⟩, List.mem_of_getElem? (i := 1153) (by decide +kernel), List.mem_of_getElem? (i := 1629) (by decide +kernel), List.mem_of_getElem? (i := 1630) (by decide +kernel)⟩
theorem lw_p91 : lw_okq (⟨"TalePlayModel", "isUpFrom", "(II)Z"⟩, 69) := ⟨⟨by decide +kernel, by decide +kernel⟩, List.mem_of_getElem? (i := 1153) (by decide +kernel), List.mem_of_getElem? (i := 1633) (by decide +kernel), List.mem_of_getElem? (i := 1634) (by decide +kernel)⟩
theorem lw_p92 : lw_okq (⟨"TalePlayModel", "holds", "(I)Z"⟩, 69) := ⟨⟨by decide +kernel, by decide +kernel⟩, List.mem_of_getElem? (i := 1153) (by decide +kernel), List.mem_of_getElem? (i := 1637) (by decide +kernel), List.mem_of_getElem? (i := 1638) (by decide +kernel)⟩
theorem lw_p93 : lw_okq (⟨"TalePlayModel", "whyNotPut", "(IIZ)I"⟩, 69) := ⟨⟨by decide +kernel, by decide +kernel⟩, List.mem_of_getElem? (i := 1153) (by decide +kernel), List.mem_of_getElem? (i := 1641) (by decide +kernel), List.mem_of_getElem? (i := 1642) (by decide +kernel)⟩
theorem lw_p94 : lw_okq (⟨"TalePlayModel", "lying", "(II)I"⟩, 69) := ⟨⟨by decide +kernel, by decide +kernel⟩, List.mem_of_getElem? (i := 1153) (by decide +kernel), List.mem_of_getElem? (i := 1645) (by decide +kernel), List.mem_of_getElem? (i := 1646) (by decide +kernel)⟩
theorem lw_p95 : lw_okq (⟨"TalePlayModel", "whyNotTurn", "(III)I"⟩, 69) := ⟨⟨by decide +kernel, by decide +kernel⟩, List.mem_of_getElem? (i := 1153) (by decide +kernel), List.mem_of_getElem? (i := 1649) (by decide +kernel), List.mem_of_getElem? (i := 1650) (by decide +kernel)⟩
def lw_privs_6 : List (MethodName × Nat) := [(⟨"TalePlayModel", "atNow", "(I)I"⟩, 69), (⟨"TalePlayModel", "lookAtKinds", "()V"⟩, 69), (⟨"TalePlayModel", "lookAround", "()V"⟩, 69), (⟨"TalePlayModel", "shellOf", "(Z)I"⟩, 69), (⟨"TalePlayModel", "shuts", "(IZ)Z"⟩, 69), (⟨"TalePlayModel", "isInView", "(IIZ)Z"⟩, 69), (⟨"TalePlayModel", "isSide", "(II)Z"⟩, 69), (⟨"TalePlayModel", "whyNot", "(III)I"⟩, 69), (⟨"TalePlayModel", "whyNotGo", "(I)I"⟩, 69), (⟨"TalePlayModel", "isInRoom", "()Z"⟩, 69), (⟨"TalePlayModel", "whyNotTake", "(I)I"⟩, 69), (⟨"TalePlayModel", "isUpFrom", "(II)Z"⟩, 69), (⟨"TalePlayModel", "holds", "(I)Z"⟩, 69), (⟨"TalePlayModel", "whyNotPut", "(IIZ)I"⟩, 69), (⟨"TalePlayModel", "lying", "(II)I"⟩, 69), (⟨"TalePlayModel", "whyNotTurn", "(III)I"⟩, 69)]
theorem lw_r6 : ∀ q ∈ lw_privs_6, lw_okq q := List.forall_mem_cons.mpr ⟨lw_p80, List.forall_mem_cons.mpr ⟨lw_p81, List.forall_mem_cons.mpr ⟨lw_p82, List.forall_mem_cons.mpr ⟨lw_p83, List.forall_mem_cons.mpr ⟨lw_p84, List.forall_mem_cons.mpr ⟨lw_p85, List.forall_mem_cons.mpr ⟨lw_p86, List.forall_mem_cons.mpr ⟨lw_p87, List.forall_mem_cons.mpr ⟨lw_p88, List.forall_mem_cons.mpr ⟨lw_p89, List.forall_mem_cons.mpr ⟨lw_p90, List.forall_mem_cons.mpr ⟨lw_p91, List.forall_mem_cons.mpr ⟨lw_p92, List.forall_mem_cons.mpr ⟨lw_p93, List.forall_mem_cons.mpr ⟨lw_p94, List.forall_mem_cons.mpr ⟨lw_p95, fun _ h => absurd h List.not_mem_nil⟩⟩⟩⟩⟩⟩⟩⟩⟩⟩⟩⟩⟩⟩⟩⟩
theorem lw_p96 : lw_okq (⟨"TalePlayModel", "whyNotEnter", "(I)I"⟩, 69) := ⟨⟨by decide +kernel, by decide +kernel⟩, List.mem_of_getElem? (i := 1153) (by decide +kernel), List.mem_of_getElem? (i := 1653) (by decide +kernel), List.mem_of_getElem? (i := 1654) (by decide +kernel)⟩
theorem lw_p97 : lw_okq (⟨"TalePlayModel", "whyNotLeave", "()I"⟩, 69) := ⟨⟨by decide +kernel, by decide +kernel⟩, List.mem_of_getElem? (i := 1153) (by decide +kernel), List.mem_of_getElem? (i := 1657) (by decide +kernel), List.mem_of_getElem? (i := 1658) (by decide +kernel)⟩
theorem lw_p98 : lw_okq (⟨"TalePlayModel", "acts", "(III)V"⟩, 69) := ⟨⟨by decide +kernel, by decide +kernel⟩, List.mem_of_getElem? (i := 1153) (by decide +kernel), List.mem_of_getElem? (i := 1661) (by decide +kernel), List.mem_of_getElem? (i := 1662) (by decide +kernel)⟩
theorem lw_p99 : lw_okq (⟨"TalePlayModel", "lay", "(III)V"⟩, 69) := ⟨⟨by decide +kernel, by decide +kernel⟩, List.mem_of_getElem? (i := 1153) (by decide +kernel), List.mem_of_getElem? (i := 1665) (by decide +kernel), List.mem_of_getElem? (i := 1666) (by decide +kernel)⟩
theorem lw_p100 : lw_okq (⟨"TalePlayModel", "told", "(II)I"⟩, 69) := ⟨⟨by decide +kernel, by decide +kernel⟩, List.mem_of_getElem? (i := 1153) (by decide +kernel), List.mem_of_getElem? (i := 1677) (by decide +kernel), List.mem_of_getElem? (i := 1678) (by decide +kernel)⟩
theorem lw_p101 : lw_okq (⟨"TalePlayModel", "roomOf", "(I)I"⟩, 69) := ⟨⟨by decide +kernel, by decide +kernel⟩, List.mem_of_getElem? (i := 1153) (by decide +kernel), List.mem_of_getElem? (i := 1681) (by decide +kernel), List.mem_of_getElem? (i := 1682) (by decide +kernel)⟩
theorem lw_p102 : lw_okq (⟨"TalePlayModel", "keepState", "(I)V"⟩, 69) := ⟨⟨by decide +kernel, by decide +kernel⟩, List.mem_of_getElem? (i := 1153) (by decide +kernel), List.mem_of_getElem? (i := 1698) (by decide +kernel), List.mem_of_getElem? (i := 1699) (by decide +kernel)⟩
theorem lw_p103 : lw_okq (⟨"TalePlayModel", "found", "(I)I"⟩, 69) := ⟨⟨by decide +kernel, by decide +kernel⟩, List.mem_of_getElem? (i := 1153) (by decide +kernel), List.mem_of_getElem? (i := 1702) (by decide +kernel), List.mem_of_getElem? (i := 1703) (by decide +kernel)⟩
theorem lw_p104 : lw_okq (⟨"TalePlayModel", "triedAll", "(I)Z"⟩, 69) := ⟨⟨by decide +kernel, by decide +kernel⟩, List.mem_of_getElem? (i := 1153) (by decide +kernel), List.mem_of_getElem? (i := 1706) (by decide +kernel), List.mem_of_getElem? (i := 1707) (by decide +kernel)⟩
theorem lw_p105 : lw_okq (⟨"TalePlayModel", "giveState", "(I)V"⟩, 69) := ⟨⟨by decide +kernel, by decide +kernel⟩, List.mem_of_getElem? (i := 1153) (by decide +kernel), List.mem_of_getElem? (i := 1710) (by decide +kernel), List.mem_of_getElem? (i := 1711) (by decide +kernel)⟩
theorem lw_p106 : lw_okq (⟨"TalePlayModel", "tried", "(IIII)Z"⟩, 69) := ⟨⟨by decide +kernel, by decide +kernel⟩, List.mem_of_getElem? (i := 1153) (by decide +kernel), List.mem_of_getElem? (i := 1714) (by decide +kernel), List.mem_of_getElem? (i := 1715) (by decide +kernel)⟩
theorem lw_p107 : lw_okq (⟨"TalePlayModel", "isState", "(I)Z"⟩, 69) := ⟨⟨by decide +kernel, by decide +kernel⟩, List.mem_of_getElem? (i := 1153) (by decide +kernel), List.mem_of_getElem? (i := 1718) (by decide +kernel), List.mem_of_getElem? (i := 1719) (by decide +kernel)⟩
theorem lw_p108 : lw_okq (⟨"TalePlayModel", "lacks", "(III)I"⟩, 69) := ⟨⟨by decide +kernel, by decide +kernel⟩, List.mem_of_getElem? (i := 1153) (by decide +kernel), List.mem_of_getElem? (i := 1734) (by decide +kernel), List.mem_of_getElem? (i := 1735) (by decide +kernel)⟩
def lw_privs_7 : List (MethodName × Nat) := [(⟨"TalePlayModel", "whyNotEnter", "(I)I"⟩, 69), (⟨"TalePlayModel", "whyNotLeave", "()I"⟩, 69), (⟨"TalePlayModel", "acts", "(III)V"⟩, 69), (⟨"TalePlayModel", "lay", "(III)V"⟩, 69), (⟨"TalePlayModel", "told", "(II)I"⟩, 69), (⟨"TalePlayModel", "roomOf", "(I)I"⟩, 69), (⟨"TalePlayModel", "keepState", "(I)V"⟩, 69), (⟨"TalePlayModel", "found", "(I)I"⟩, 69), (⟨"TalePlayModel", "triedAll", "(I)Z"⟩, 69), (⟨"TalePlayModel", "giveState", "(I)V"⟩, 69), (⟨"TalePlayModel", "tried", "(IIII)Z"⟩, 69), (⟨"TalePlayModel", "isState", "(I)Z"⟩, 69), (⟨"TalePlayModel", "lacks", "(III)I"⟩, 69)]
theorem lw_r7 : ∀ q ∈ lw_privs_7, lw_okq q := List.forall_mem_cons.mpr ⟨lw_p96, List.forall_mem_cons.mpr ⟨lw_p97, List.forall_mem_cons.mpr ⟨lw_p98, List.forall_mem_cons.mpr ⟨lw_p99, List.forall_mem_cons.mpr ⟨lw_p100, List.forall_mem_cons.mpr ⟨lw_p101, List.forall_mem_cons.mpr ⟨lw_p102, List.forall_mem_cons.mpr ⟨lw_p103, List.forall_mem_cons.mpr ⟨lw_p104, List.forall_mem_cons.mpr ⟨lw_p105, List.forall_mem_cons.mpr ⟨lw_p106, List.forall_mem_cons.mpr ⟨lw_p107, List.forall_mem_cons.mpr ⟨lw_p108, fun _ h => absurd h List.not_mem_nil⟩⟩⟩⟩⟩⟩⟩⟩⟩⟩⟩⟩⟩
def lw_privs : List (MethodName × Nat) := lw_privs_1 ++ (lw_privs_2 ++ (lw_privs_3 ++ (lw_privs_4 ++ (lw_privs_5 ++ (lw_privs_6 ++ (lw_privs_7))))))
def lw_tbl : List Cond := k2_sels lw_privs ++ tables_1
theorem lw_privs_ok : ∀ q ∈ lw_privs, lw_okq q := by
  show ∀ q ∈ lw_privs_1 ++ (lw_privs_2 ++ (lw_privs_3 ++ (lw_privs_4 ++ (lw_privs_5 ++ (lw_privs_6 ++ (lw_privs_7)))))), lw_okq q
  exact List.forall_mem_append.mpr ⟨lw_r1, List.forall_mem_append.mpr ⟨lw_r2, List.forall_mem_append.mpr ⟨lw_r3, List.forall_mem_append.mpr ⟨lw_r4, List.forall_mem_append.mpr ⟨lw_r5, List.forall_mem_append.mpr ⟨lw_r6, lw_r7⟩⟩⟩⟩⟩⟩
end
section
theorem goodIn_r {big : List Cond} (ws : List Cond) (ps : List Nat) (hp : ws = ps.filterMap (fun i => big[i]?)) (h : ws.all goodWord = true) : GoodIn big ws := by
  intro w hw
  have h1 := List.all_eq_true.mp h w hw
  rw [hp] at hw
  obtain ⟨i, -, hi⟩ := List.mem_filterMap.mp hw
  have hm : w ∈ big := by first | exact List.mem_of_getElem? hi | exact List.getElem?_mem hi
  exact ⟨hm, good_of_word h1⟩
theorem goodIn_app {big a b : List Cond} (ha : GoodIn big a) (hb : GoodIn big b) : GoodIn big (a ++ b) := fun w h => (List.mem_append.mp h).elim (ha w) (hb w)
def RX0 : String := "TalePlay$Acts"
def TX0 : u_T := fun k => match k with
  | 0 => ("TalePlay$Acts", "world", "LTalePlay$World;", true)
  | 1 => ("TalePlay$Acts", "book", "LTalePlay$Book;", true)
  | 2 => ("TalePlay$Acts", "roads", "LTalePlay$Roads;", true)
  | 3 => ("TalePlay$Acts", "bulks", "LTalePlay$Bulks;", true)
  | 4 => ("TalePlay$Acts", "scene", "LTalePlay$Scene;", true)
  | 5 => ("TalePlay$Acts", "sight", "LTalePlay$Sight;", true)
  | _ => ("TalePlay$Acts", "player", "I", false)
def tyX0 : Nat → FieldType := fun k => match k with
  | 0 => .object "TalePlay$World"
  | 1 => .object "TalePlay$Book"
  | 2 => .object "TalePlay$Roads"
  | 3 => .object "TalePlay$Bulks"
  | 4 => .object "TalePlay$Scene"
  | 5 => .object "TalePlay$Sight"
  | _ => .int
abbrev wsX00 : List Cond := u_ws RX0 TX0 7
theorem nmX0 : ∀ a, a < 7 → ∀ b, b < 7 → a ≠ b → (TX0 a).2.1 ≠ (TX0 b).2.1 := by decide +kernel
theorem tyX0_ok : ∀ k, k < 7 → parseFieldDescriptor (TX0 k).2.2.1 = some (tyX0 k) := by decide +kernel
abbrev cX0_init : ByteArray := prog_2_method_1_code
def yX0_init : MethodName := ⟨RX0, "<init>", "(LTalePlay$World;LTalePlay$Book;LTalePlay$Roads;LTalePlay$Bulks;LTalePlay$Sight;)V"⟩
abbrev cX0_hasX : ByteArray := prog_2_method_2_code
def yX0_hasX : MethodName := ⟨RX0, "hasX", "(I)Z"⟩
abbrev cX0_hasY : ByteArray := prog_2_method_3_code
def yX0_hasY : MethodName := ⟨RX0, "hasY", "(I)Z"⟩
def RX1 : String := "TalePlay$Book"
def TX1 : u_T := fun k => match k with
  | 0 => ("TalePlay$Book", "world", "LTalePlay$World;", true)
  | 1 => ("TalePlay$Book", "places", "LTalePlay$Scene;", true)
  | 2 => ("TalePlay$Book", "forms", "[I", true)
  | 3 => ("TalePlay$Book", "as", "[I", true)
  | 4 => ("TalePlay$Book", "bs", "[I", true)
  | 5 => ("TalePlay$Book", "cs", "[I", true)
  | 6 => ("TalePlay$Book", "said", "[Z", true)
  | 7 => ("TalePlay$Book", "placeBy", "[I", true)
  | 8 => ("TalePlay$Book", "exitBy", "[I", true)
  | 9 => ("TalePlay$Book", "flagBy", "[I", true)
  | 10 => ("TalePlay$Book", "keyBy", "[I", true)
  | 11 => ("TalePlay$Book", "clashRow", "[I", true)
  | 12 => ("TalePlay$Book", "clashes", "I", false)
  | 13 => ("TalePlay$Book", "total", "I", false)
  | _ => ("TalePlay$Book", "standing", "I", false)
def tyX1 : Nat → FieldType := fun k => match k with
  | 0 => .object "TalePlay$World"
  | 1 => .object "TalePlay$Scene"
  | 2 => .array .int
  | 3 => .array .int
  | 4 => .array .int
  | 5 => .array .int
  | 6 => .array .boolean
  | 7 => .array .int
  | 8 => .array .int
  | 9 => .array .int
  | 10 => .array .int
  | 11 => .array .int
  | 12 => .int
  | 13 => .int
  | _ => .int
abbrev wsX10 : List Cond := u_ws RX1 TX1 15
theorem nmX1 : ∀ a, a < 15 → ∀ b, b < 15 → a ≠ b → (TX1 a).2.1 ≠ (TX1 b).2.1 := by decide +kernel
theorem tyX1_ok : ∀ k, k < 15 → parseFieldDescriptor (TX1 k).2.2.1 = some (tyX1 k) := by decide +kernel
abbrev cX1_init : ByteArray := prog_3_method_1_code
def yX1_init : MethodName := ⟨RX1, "<init>", "(LTalePlay$World;)V"⟩
abbrev cX1_isWellFormed : ByteArray := prog_3_method_2_code
def yX1_isWellFormed : MethodName := ⟨RX1, "isWellFormed", "(IIII)Z"⟩
abbrev cX1_clearClash : ByteArray := prog_3_method_12_code
def yX1_clearClash : MethodName := ⟨RX1, "clearClash", "()V"⟩
def RX2 : String := "TalePlay$Bulks"
def TX2 : u_T := fun k => match k with
  | 0 => ("TalePlay$Bulks", "world", "LTalePlay$World;", true)
  | 1 => ("TalePlay$Bulks", "trace", "[I", true)
  | 2 => ("TalePlay$Bulks", "traced", "I", false)
  | _ => ("TalePlay$Bulks", "tracing", "Z", false)
def tyX2 : Nat → FieldType := fun k => match k with
  | 0 => .object "TalePlay$World"
  | 1 => .array .int
  | 2 => .int
  | _ => .boolean
abbrev wsX20 : List Cond := u_ws RX2 TX2 4
theorem nmX2 : ∀ a, a < 4 → ∀ b, b < 4 → a ≠ b → (TX2 a).2.1 ≠ (TX2 b).2.1 := by decide +kernel
theorem tyX2_ok : ∀ k, k < 4 → parseFieldDescriptor (TX2 k).2.2.1 = some (tyX2 k) := by decide +kernel
abbrev cX2_init : ByteArray := prog_4_method_1_code
def yX2_init : MethodName := ⟨RX2, "<init>", "(LTalePlay$World;)V"⟩
def RX3 : String := "TalePlay$Casts"
def TX3 : u_T := fun k => match k with
  | 0 => ("TalePlay$Casts", "sorts", "[I", true)
  | 1 => ("TalePlay$Casts", "lengths", "[I", true)
  | 2 => ("TalePlay$Casts", "roles", "[I", true)
  | _ => ("TalePlay$Casts", "made", "I", false)
def tyX3 : Nat → FieldType := fun k => match k with
  | 0 => .array .int
  | 1 => .array .int
  | 2 => .array .int
  | _ => .int
abbrev wsX30 : List Cond := u_ws RX3 TX3 4
theorem nmX3 : ∀ a, a < 4 → ∀ b, b < 4 → a ≠ b → (TX3 a).2.1 ≠ (TX3 b).2.1 := by decide +kernel
theorem tyX3_ok : ∀ k, k < 4 → parseFieldDescriptor (TX3 k).2.2.1 = some (tyX3 k) := by decide +kernel
abbrev cX3_init : ByteArray := prog_5_method_1_code
def yX3_init : MethodName := ⟨RX3, "<init>", "()V"⟩
abbrev cX3_open : ByteArray := prog_5_method_2_code
def yX3_open : MethodName := ⟨RX3, "open", "(II)I"⟩
def RX4 : String := "TalePlay$Lines"
def TX4 : u_T := fun k => match k with
  | 0 => ("TalePlay$Lines", "sorts", "[I", true)
  | 1 => ("TalePlay$Lines", "lengths", "[I", true)
  | _ => ("TalePlay$Lines", "items", "[J", true)
def tyX4 : Nat → FieldType := fun k => match k with
  | 0 => .array .int
  | 1 => .array .int
  | _ => .array .long
abbrev wsX40 : List Cond := u_ws RX4 TX4 3
theorem nmX4 : ∀ a, a < 3 → ∀ b, b < 3 → a ≠ b → (TX4 a).2.1 ≠ (TX4 b).2.1 := by decide +kernel
theorem tyX4_ok : ∀ k, k < 3 → parseFieldDescriptor (TX4 k).2.2.1 = some (tyX4 k) := by decide +kernel
abbrev cX4_init : ByteArray := prog_6_method_1_code
def yX4_init : MethodName := ⟨RX4, "<init>", "()V"⟩
abbrev cX4_isOther : ByteArray := prog_6_method_3_code
def yX4_isOther : MethodName := ⟨RX4, "isOther", "(II)Z"⟩
def RX5 : String := "TalePlay$Roads"
def TX5 : u_T := fun k => match k with
  | 0 => ("TalePlay$Roads", "world", "LTalePlay$World;", true)
  | 1 => ("TalePlay$Roads", "book", "LTalePlay$Book;", true)
  | 2 => ("TalePlay$Roads", "leads", "[I", true)
  | 3 => ("TalePlay$Roads", "doors", "[I", true)
  | 4 => ("TalePlay$Roads", "bys", "[I", true)
  | 5 => ("TalePlay$Roads", "implied", "[I", true)
  | 6 => ("TalePlay$Roads", "firstSides", "[I", true)
  | 7 => ("TalePlay$Roads", "secondSides", "[I", true)
  | 8 => ("TalePlay$Roads", "steps", "[I", true)
  | 9 => ("TalePlay$Roads", "firsts", "[I", true)
  | _ => ("TalePlay$Roads", "queue", "[I", true)
def tyX5 : Nat → FieldType := fun k => match k with
  | 0 => .object "TalePlay$World"
  | 1 => .object "TalePlay$Book"
  | 2 => .array .int
  | 3 => .array .int
  | 4 => .array .int
  | 5 => .array .int
  | 6 => .array .int
  | 7 => .array .int
  | 8 => .array .int
  | 9 => .array .int
  | _ => .array .int
abbrev wsX50 : List Cond := u_ws RX5 TX5 11
theorem nmX5 : ∀ a, a < 11 → ∀ b, b < 11 → a ≠ b → (TX5 a).2.1 ≠ (TX5 b).2.1 := by decide +kernel
theorem tyX5_ok : ∀ k, k < 11 → parseFieldDescriptor (TX5 k).2.2.1 = some (tyX5 k) := by decide +kernel
abbrev cX5_init : ByteArray := prog_7_method_1_code
def yX5_init : MethodName := ⟨RX5, "<init>", "(LTalePlay$World;LTalePlay$Book;)V"⟩
abbrev cX5_wipe : ByteArray := prog_7_method_2_code
def yX5_wipe : MethodName := ⟨RX5, "wipe", "()V"⟩
def RX6 : String := "TalePlay$Scene"
def TX6 : u_T := fun k => match k with
  | 0 => ("TalePlay$Scene", "world", "LTalePlay$World;", true)
  | _ => ("TalePlay$Scene", "cells", "[I", true)
def tyX6 : Nat → FieldType := fun k => match k with
  | 0 => .object "TalePlay$World"
  | _ => .array .int
abbrev wsX60 : List Cond := u_ws RX6 TX6 2
theorem nmX6 : ∀ a, a < 2 → ∀ b, b < 2 → a ≠ b → (TX6 a).2.1 ≠ (TX6 b).2.1 := by decide +kernel
theorem tyX6_ok : ∀ k, k < 2 → parseFieldDescriptor (TX6 k).2.2.1 = some (tyX6 k) := by decide +kernel
abbrev cX6_init : ByteArray := prog_8_method_1_code
def yX6_init : MethodName := ⟨RX6, "<init>", "(LTalePlay$World;)V"⟩
def RX7 : String := "TalePlay$Seeker"
def TX7 : u_T := fun k => match k with
  | 0 => ("TalePlay$Seeker", "world", "LTalePlay$World;", true)
  | 1 => ("TalePlay$Seeker", "scene", "LTalePlay$Scene;", true)
  | 2 => ("TalePlay$Seeker", "sight", "LTalePlay$Sight;", true)
  | 3 => ("TalePlay$Seeker", "acts", "LTalePlay$Acts;", true)
  | 4 => ("TalePlay$Seeker", "kept", "[I", true)
  | 5 => ("TalePlay$Seeker", "marks", "[I", true)
  | 6 => ("TalePlay$Seeker", "slots", "[I", true)
  | 7 => ("TalePlay$Seeker", "parents", "[I", true)
  | 8 => ("TalePlay$Seeker", "deeds", "[I", true)
  | 9 => ("TalePlay$Seeker", "play", "[I", true)
  | 10 => ("TalePlay$Seeker", "playLength", "I", false)
  | 11 => ("TalePlay$Seeker", "states", "I", false)
  | 12 => ("TalePlay$Seeker", "found", "I", false)
  | 13 => ("TalePlay$Seeker", "goalThing", "I", false)
  | _ => ("TalePlay$Seeker", "goalHolder", "I", false)
def RX8 : String := "TalePlay$Sight"
def TX8 : u_T := fun k => match k with
  | 0 => ("TalePlay$Sight", "world", "LTalePlay$World;", true)
  | 1 => ("TalePlay$Sight", "roads", "LTalePlay$Roads;", true)
  | 2 => ("TalePlay$Sight", "scene", "LTalePlay$Scene;", true)
  | 3 => ("TalePlay$Sight", "seen", "[Z", true)
  | 4 => ("TalePlay$Sight", "reached", "[Z", true)
  | _ => ("TalePlay$Sight", "bright", "Z", false)
def tyX8 : Nat → FieldType := fun k => match k with
  | 0 => .object "TalePlay$World"
  | 1 => .object "TalePlay$Roads"
  | 2 => .object "TalePlay$Scene"
  | 3 => .array .boolean
  | 4 => .array .boolean
  | _ => .boolean
abbrev wsX80 : List Cond := u_ws RX8 TX8 6
theorem nmX8 : ∀ a, a < 6 → ∀ b, b < 6 → a ≠ b → (TX8 a).2.1 ≠ (TX8 b).2.1 := by decide +kernel
theorem tyX8_ok : ∀ k, k < 6 → parseFieldDescriptor (TX8 k).2.2.1 = some (tyX8 k) := by decide +kernel
abbrev cX8_init : ByteArray := prog_10_method_1_code
def yX8_init : MethodName := ⟨RX8, "<init>", "(LTalePlay$World;LTalePlay$Roads;LTalePlay$Scene;)V"⟩
def RX9 : String := "TalePlay$Tale"
def TX9 : u_T := fun k => match k with
  | 0 => ("TalePlay$Tale", "world", "LTalePlay$World;", true)
  | 1 => ("TalePlay$Tale", "book", "LTalePlay$Book;", true)
  | 2 => ("TalePlay$Tale", "scene", "LTalePlay$Scene;", true)
  | 3 => ("TalePlay$Tale", "sight", "LTalePlay$Sight;", true)
  | 4 => ("TalePlay$Tale", "acts", "LTalePlay$Acts;", true)
  | 5 => ("TalePlay$Tale", "deeds", "[I", true)
  | 6 => ("TalePlay$Tale", "subjects", "[I", true)
  | 7 => ("TalePlay$Tale", "formerCells", "[I", true)
  | 8 => ("TalePlay$Tale", "there", "Z", false)
  | 9 => ("TalePlay$Tale", "player", "I", false)
  | _ => ("TalePlay$Tale", "turns", "I", false)
def tyX9 : Nat → FieldType := fun k => match k with
  | 0 => .object "TalePlay$World"
  | 1 => .object "TalePlay$Book"
  | 2 => .object "TalePlay$Scene"
  | 3 => .object "TalePlay$Sight"
  | 4 => .object "TalePlay$Acts"
  | 5 => .array .int
  | 6 => .array .int
  | 7 => .array .int
  | 8 => .boolean
  | 9 => .int
  | _ => .int
abbrev wsX90 : List Cond := u_ws RX9 TX9 11
theorem nmX9 : ∀ a, a < 11 → ∀ b, b < 11 → a ≠ b → (TX9 a).2.1 ≠ (TX9 b).2.1 := by decide +kernel
theorem tyX9_ok : ∀ k, k < 11 → parseFieldDescriptor (TX9 k).2.2.1 = some (tyX9 k) := by decide +kernel
abbrev cX9_init : ByteArray := prog_11_method_1_code
def yX9_init : MethodName := ⟨RX9, "<init>", "(LTalePlay$World;LTalePlay$Book;LTalePlay$Roads;LTalePlay$Bulks;)V"⟩
abbrev cX9_end : ByteArray := prog_11_method_4_code
def yX9_end : MethodName := ⟨RX9, "end", "()V"⟩
abbrev cX9_isAct : ByteArray := prog_11_method_5_code
def yX9_isAct : MethodName := ⟨RX9, "isAct", "(III)Z"⟩
def RX10 : String := "TalePlay$World"
def TX10 : u_T := fun k => match k with
  | 0 => ("TalePlay$World", "parents", "[I", true)
  | 1 => ("TalePlay$World", "sorts", "[I", true)
  | 2 => ("TalePlay$World", "standards", "[I", true)
  | 3 => ("TalePlay$World", "kindOf", "[I", true)
  | 4 => ("TalePlay$World", "sizeOf", "[I", true)
  | 5 => ("TalePlay$World", "kinds", "I", false)
  | _ => ("TalePlay$World", "objects", "I", false)
def tyX10 : Nat → FieldType := fun k => match k with
  | 0 => .array .int
  | 1 => .array .int
  | 2 => .array .int
  | 3 => .array .int
  | 4 => .array .int
  | 5 => .int
  | _ => .int
abbrev wsX100 : List Cond := u_ws RX10 TX10 7
theorem nmX10 : ∀ a, a < 7 → ∀ b, b < 7 → a ≠ b → (TX10 a).2.1 ≠ (TX10 b).2.1 := by decide +kernel
theorem tyX10_ok : ∀ k, k < 7 → parseFieldDescriptor (TX10 k).2.2.1 = some (tyX10 k) := by decide +kernel
abbrev cX10_init : ByteArray := prog_12_method_1_code
def yX10_init : MethodName := ⟨RX10, "<init>", "()V"⟩
abbrev cX10_hasKind : ByteArray := prog_12_method_2_code
def yX10_hasKind : MethodName := ⟨RX10, "hasKind", "(I)Z"⟩
abbrev cX10_hasObject : ByteArray := prog_12_method_3_code
def yX10_hasObject : MethodName := ⟨RX10, "hasObject", "(I)Z"⟩
abbrev cX10_addKind : ByteArray := prog_12_method_4_code
def yX10_addKind : MethodName := ⟨RX10, "addKind", "(I)I"⟩
abbrev cX10_addObject : ByteArray := prog_12_method_5_code
def yX10_addObject : MethodName := ⟨RX10, "addObject", "(II)I"⟩
abbrev cX10_changeStandard : ByteArray := prog_12_method_6_code
def yX10_changeStandard : MethodName := ⟨RX10, "changeStandard", "(III)I"⟩
abbrev cX10_sortOf : ByteArray := prog_12_method_8_code
def yX10_sortOf : MethodName := ⟨RX10, "sortOf", "(I)I"⟩
def RX11 : String := "TalePlay"
def TX11 : u_T := fun k => match k with
  | 0 => ("TalePlay", "world", "LTalePlay$World;", true)
  | 1 => ("TalePlay", "book", "LTalePlay$Book;", true)
  | 2 => ("TalePlay", "roads", "LTalePlay$Roads;", true)
  | 3 => ("TalePlay", "bulks", "LTalePlay$Bulks;", true)
  | 4 => ("TalePlay", "tale", "LTalePlay$Tale;", true)
  | 5 => ("TalePlay", "lines", "LTalePlay$Lines;", true)
  | 6 => ("TalePlay", "casts", "LTalePlay$Casts;", true)
  | 7 => ("TalePlay", "seeker", "LTalePlay$Seeker;", false)
  | 8 => ("TalePlay", "findingCounts", "[I", true)
  | 9 => ("TalePlay", "latestFinding", "I", false)
  | _ => ("TalePlay", "told", "J", false)
def tyX11 : Nat → FieldType := fun k => match k with
  | 0 => .object "TalePlay$World"
  | 1 => .object "TalePlay$Book"
  | 2 => .object "TalePlay$Roads"
  | 3 => .object "TalePlay$Bulks"
  | 4 => .object "TalePlay$Tale"
  | 5 => .object "TalePlay$Lines"
  | 6 => .object "TalePlay$Casts"
  | 7 => .object "TalePlay$Seeker"
  | 8 => .array .int
  | 9 => .int
  | _ => .long
abbrev wsX110 : List Cond := u_ws RX11 TX11 11
theorem nmX11 : ∀ a, a < 11 → ∀ b, b < 11 → a ≠ b → (TX11 a).2.1 ≠ (TX11 b).2.1 := by decide +kernel
theorem tyX11_ok : ∀ k, k < 11 → parseFieldDescriptor (TX11 k).2.2.1 = some (tyX11 k) := by decide +kernel
abbrev cX11_init : ByteArray := prog_1_method_1_code
def yX11_init : MethodName := ⟨RX11, "<init>", "()V"⟩
abbrev cX11_answerFinding : ByteArray := prog_1_method_42_code
def yX11_answerFinding : MethodName := ⟨RX11, "answerFinding", "(I)I"⟩
abbrev cX11_refuseRooms : ByteArray := prog_1_method_44_code
def yX11_refuseRooms : MethodName := ⟨RX11, "refuseRooms", "(II)I"⟩
abbrev cX11_refuseItem : ByteArray := prog_1_method_45_code
def yX11_refuseItem : MethodName := ⟨RX11, "refuseItem", "(III)I"⟩
abbrev cX11_isBelow : ByteArray := prog_1_method_46_code
def yX11_isBelow : MethodName := ⟨RX11, "isBelow", "(II)Z"⟩
def RX12 : String := "TalePlayModel"
def TX12 : u_T := fun k => match k with
  | 0 => ("TalePlayModel", "latest", "I", false)
  | 1 => ("TalePlayModel", "came", "[I", true)
  | 2 => ("TalePlayModel", "kinds", "I", false)
  | 3 => ("TalePlayModel", "parentOf", "[I", true)
  | 4 => ("TalePlayModel", "defaults", "[I", true)
  | 5 => ("TalePlayModel", "objects", "I", false)
  | 6 => ("TalePlayModel", "kindOf", "[I", true)
  | 7 => ("TalePlayModel", "sizeOf", "[I", true)
  | 8 => ("TalePlayModel", "sentences", "I", false)
  | 9 => ("TalePlayModel", "form", "[I", true)
  | 10 => ("TalePlayModel", "left", "[I", true)
  | 11 => ("TalePlayModel", "middle", "[I", true)
  | 12 => ("TalePlayModel", "right", "[I", true)
  | 13 => ("TalePlayModel", "isSaid", "[Z", true)
  | 14 => ("TalePlayModel", "row", "[I", true)
  | 15 => ("TalePlayModel", "rowMany", "I", false)
  | 16 => ("TalePlayModel", "leads", "I", false)
  | 17 => ("TalePlayModel", "byDoor", "I", false)
  | 18 => ("TalePlayModel", "bySentence", "I", false)
  | 19 => ("TalePlayModel", "isImplied", "Z", false)
  | 20 => ("TalePlayModel", "far", "[I", true)
  | 21 => ("TalePlayModel", "line", "[I", true)
  | 22 => ("TalePlayModel", "player", "I", false)
  | 23 => ("TalePlayModel", "nForm", "[I", true)
  | 24 => ("TalePlayModel", "nAt", "[I", true)
  | 25 => ("TalePlayModel", "nOpen", "[Z", true)
  | 26 => ("TalePlayModel", "nLocked", "[Z", true)
  | 27 => ("TalePlayModel", "turns", "I", false)
  | 28 => ("TalePlayModel", "turnRow", "[I", true)
  | 29 => ("TalePlayModel", "wasForm", "[I", true)
  | 30 => ("TalePlayModel", "wasAt", "[I", true)
  | 31 => ("TalePlayModel", "wasOpen", "[Z", true)
  | 32 => ("TalePlayModel", "wasLocked", "[Z", true)
  | 33 => ("TalePlayModel", "traces", "Z", false)
  | 34 => ("TalePlayModel", "trace", "[I", true)
  | 35 => ("TalePlayModel", "traced", "I", false)
  | 36 => ("TalePlayModel", "isNought", "Z", false)
  | 37 => ("TalePlayModel", "asked", "J", false)
  | 38 => ("TalePlayModel", "pile", "[I", true)
  | 39 => ("TalePlayModel", "nextIn", "[I", true)
  | 40 => ("TalePlayModel", "shell", "I", false)
  | 41 => ("TalePlayModel", "handShell", "I", false)
  | 42 => ("TalePlayModel", "isLight", "Z", false)
  | 43 => ("TalePlayModel", "seen", "[Z", true)
  | 44 => ("TalePlayModel", "reached", "[Z", true)
  | 45 => ("TalePlayModel", "lit", "[Z", true)
  | 46 => ("TalePlayModel", "glass", "[Z", true)
  | 47 => ("TalePlayModel", "isBox", "[Z", true)
  | 48 => ("TalePlayModel", "isRoom", "[Z", true)
  | 49 => ("TalePlayModel", "isDoor", "[Z", true)
  | 50 => ("TalePlayModel", "states", "I", false)
  | 51 => ("TalePlayModel", "stateForm", "[B", true)
  | 52 => ("TalePlayModel", "stateAt", "[B", true)
  | 53 => ("TalePlayModel", "stateShut", "[B", true)
  | 54 => ("TalePlayModel", "stateFrom", "[I", true)
  | 55 => ("TalePlayModel", "stateAct", "[I", true)
  | 56 => ("TalePlayModel", "soughtRow", "[I", true)
  | 57 => ("TalePlayModel", "soughtMany", "I", false)
  | 58 => ("TalePlayModel", "goalX", "I", false)
  | 59 => ("TalePlayModel", "goalY", "I", false)
  | 60 => ("TalePlayModel", "lineSort", "[I", true)
  | 61 => ("TalePlayModel", "lineMany", "[I", true)
  | 62 => ("TalePlayModel", "items", "[J", true)
  | 63 => ("TalePlayModel", "hasLine", "[Z", true)
  | 64 => ("TalePlayModel", "casts", "I", false)
  | 65 => ("TalePlayModel", "castSort", "[I", true)
  | 66 => ("TalePlayModel", "castMany", "[I", true)
  | 67 => ("TalePlayModel", "roles", "[I", true)
  | _ => ("TalePlayModel", "held", "[J", true)
abbrev cX12_in : ByteArray := prog_14_method_2_code
def yX12_in : MethodName := ⟨RX12, "in", "(JJJ)Z"⟩
def RJ7 : String := "java/util/Arrays"
abbrev cJ7_fill_53178 : ByteArray := prog_16_method_103_code
def yJ7_fill_53178 : MethodName := ⟨RJ7, "fill", "([II)V"⟩
def wsX0_init : List Cond := .code yX0_init cX0_init 6 none :: ([.methodLink RX0 3 objectInit, .instanceMethod objectInit, .code objectInit ⟨#[0xb1]⟩ 1 none, .fieldLink RX0 9 "TalePlay$Acts" "world" "LTalePlay$World;", .fieldLink RX0 15 "TalePlay$Acts" "book" "LTalePlay$Book;", .fieldLink RX0 19 "TalePlay$Acts" "roads" "LTalePlay$Roads;", .fieldLink RX0 23 "TalePlay$Acts" "bulks" "LTalePlay$Bulks;", .fieldLink RX0 27 "TalePlay$Sight" "scene" "LTalePlay$Scene;", .fieldLink RX0 33 "TalePlay$Acts" "scene" "LTalePlay$Scene;", .fieldLink RX0 34 "TalePlay$Acts" "sight" "LTalePlay$Sight;", .fieldLink RX0 38 "TalePlay$Acts" "player" "I"] ++ wsX00 ++ wsX80)
def wsX0_hasX : List Cond := .code yX0_hasX cX0_hasX 1 (some .boolean) :: ([])
def wsX0_hasY : List Cond := .code yX0_hasY cX0_hasY 1 (some .boolean) :: ([])
def wsJ7_fill_53178 : List Cond := .code yJ7_fill_53178 cJ7_fill_53178 4 none :: ([])
def wsX6_init : List Cond := .code yX6_init cX6_init 2 none :: ([.methodLink RX6 3 objectInit, .instanceMethod objectInit, .code objectInit ⟨#[0xb1]⟩ 1 none, .arrayClass .int, .fieldLink RX6 9 "TalePlay$Scene" "cells" "[I", .fieldLink RX6 15 "TalePlay$Scene" "world" "LTalePlay$World;", .methodLink RX6 19 yJ7_fill_53178, .static yJ7_fill_53178, .initialized RJ7, .code yJ7_fill_53178 cJ7_fill_53178 4 none] ++ wsX60)
def wsX1_init_r1 : List Cond := [Cond.methodLink RX1 3 objectInit, Cond.instanceMethod objectInit, Cond.code objectInit ⟨#[0xb1]⟩ 1 none, Cond.arrayClass .int, Cond.fieldLink RX1 9 "TalePlay$Book" "forms" "[I", Cond.fieldLink RX1 15 "TalePlay$Book" "as" "[I", Cond.fieldLink RX1 18 "TalePlay$Book" "bs" "[I", Cond.fieldLink RX1 21 "TalePlay$Book" "cs" "[I", Cond.arrayClass .boolean, Cond.fieldLink RX1 24 "TalePlay$Book" "said" "[Z", Cond.fieldLink RX1 28 "TalePlay$Book" "placeBy" "[I", Cond.fieldLink RX1 31 "TalePlay$Book" "exitBy" "[I", Cond.fieldLink RX1 34 "TalePlay$Book" "flagBy" "[I", Cond.fieldLink RX1 37 "TalePlay$Book" "keyBy" "[I", Cond.fieldLink RX1 40 "TalePlay$Book" "clashRow" "[I", Cond.fieldLink RX1 43 "TalePlay$Book" "world" "LTalePlay$World;", Cond.classLink RX1 47 RX6, Cond.instantiable RX6 2, Cond.initialized RX6, Cond.fieldLink RX1 52 "TalePlay$Book" "places" "LTalePlay$Scene;", Cond.methodLink RX1 49 yX6_init, Cond.instanceMethod yX6_init, Cond.code yX6_init cX6_init 2 none, Cond.methodLink RX6 3 objectInit]
def wsX1_init_r2 : List Cond := [Cond.fieldLink RX6 9 "TalePlay$Scene" "cells" "[I", Cond.fieldLink RX6 15 "TalePlay$Scene" "world" "LTalePlay$World;", Cond.methodLink RX6 19 yJ7_fill_53178, Cond.static yJ7_fill_53178, Cond.initialized RJ7, Cond.code yJ7_fill_53178 cJ7_fill_53178 4 none, Cond.methodLink RX1 56 yJ7_fill_53178]
def wsX1_init : List Cond := .code yX1_init cX1_init 2 none :: ((wsX1_init_r1 ++ wsX1_init_r2) ++ wsX10 ++ wsX60)
def wsX10_hasObject : List Cond := .code yX10_hasObject cX10_hasObject 2 (some .boolean) :: ([.fieldLink RX10 37 "TalePlay$World" "objects" "I"] ++ wsX100)
def wsX11_isBelow : List Cond := .code yX11_isBelow cX11_isBelow 2 (some .boolean) :: ([])
def wsX1_isWellFormed : List Cond := .code yX1_isWellFormed cX1_isWellFormed 5 (some .boolean) :: ([.fieldLink RX1 43 "TalePlay$Book" "world" "LTalePlay$World;", .methodLink RX1 62 yX10_hasObject, .instanceMethod yX10_hasObject, .selects RX10 yX10_hasObject yX10_hasObject, .initialized RX10, .code yX10_hasObject cX10_hasObject 2 (some .boolean), .fieldLink RX10 37 "TalePlay$World" "objects" "I", .static yX11_isBelow, .initialized RX11, .code yX11_isBelow cX11_isBelow 2 (some .boolean)] ++ wsX10 ++ wsX100)
def wsX1_clearClash : List Cond := .code yX1_clearClash cX1_clearClash 1 none :: ([.fieldLink RX1 118 "TalePlay$Book" "clashes" "I"] ++ wsX10)
def wsX2_init : List Cond := .code yX2_init cX2_init 2 none :: ([.methodLink RX2 3 objectInit, .instanceMethod objectInit, .code objectInit ⟨#[0xb1]⟩ 1 none, .arrayClass .int, .fieldLink RX2 9 "TalePlay$Bulks" "trace" "[I", .fieldLink RX2 15 "TalePlay$Bulks" "world" "LTalePlay$World;"] ++ wsX20)
def wsX3_init : List Cond := .code yX3_init cX3_init 1 none :: ([.methodLink RX3 3 objectInit, .instanceMethod objectInit, .code objectInit ⟨#[0xb1]⟩ 1 none, .arrayClass .int, .fieldLink RX3 9 "TalePlay$Casts" "sorts" "[I", .fieldLink RX3 15 "TalePlay$Casts" "lengths" "[I", .fieldLink RX3 18 "TalePlay$Casts" "roles" "[I", .methodLink RX3 21 yJ7_fill_53178, .static yJ7_fill_53178, .initialized RJ7, .code yJ7_fill_53178 cJ7_fill_53178 4 none] ++ wsX30)
def wsX3_open : List Cond := .code yX3_open cX3_open 3 (some .int) :: ([.fieldLink RX3 9 "TalePlay$Casts" "sorts" "[I", .fieldLink RX3 27 "TalePlay$Casts" "made" "I", .fieldLink RX3 15 "TalePlay$Casts" "lengths" "[I"] ++ wsX30)
def wsX4_init : List Cond := .code yX4_init cX4_init 1 none :: ([.methodLink RX4 3 objectInit, .instanceMethod objectInit, .code objectInit ⟨#[0xb1]⟩ 1 none, .arrayClass .int, .fieldLink RX4 9 "TalePlay$Lines" "sorts" "[I", .fieldLink RX4 15 "TalePlay$Lines" "lengths" "[I", .arrayClass .long, .fieldLink RX4 18 "TalePlay$Lines" "items" "[J", .methodLink RX4 22 yJ7_fill_53178, .static yJ7_fill_53178, .initialized RJ7, .code yJ7_fill_53178 cJ7_fill_53178 4 none] ++ wsX40)
def wsX5_wipe : List Cond := .code yX5_wipe cX5_wipe 1 none :: ([.fieldLink RX5 9 "TalePlay$Roads" "leads" "[I", .fieldLink RX5 15 "TalePlay$Roads" "doors" "[I", .fieldLink RX5 18 "TalePlay$Roads" "bys" "[I", .fieldLink RX5 21 "TalePlay$Roads" "implied" "[I", .fieldLink RX5 24 "TalePlay$Roads" "firstSides" "[I", .fieldLink RX5 27 "TalePlay$Roads" "secondSides" "[I", .methodLink RX5 50 yJ7_fill_53178, .static yJ7_fill_53178, .initialized RJ7, .code yJ7_fill_53178 cJ7_fill_53178 4 none] ++ wsX50)
def wsX5_init : List Cond := .code yX5_init cX5_init 3 none :: ([.methodLink RX5 3 objectInit, .instanceMethod objectInit, .code objectInit ⟨#[0xb1]⟩ 1 none, .arrayClass .int, .fieldLink RX5 9 "TalePlay$Roads" "leads" "[I", .fieldLink RX5 15 "TalePlay$Roads" "doors" "[I", .fieldLink RX5 18 "TalePlay$Roads" "bys" "[I", .fieldLink RX5 21 "TalePlay$Roads" "implied" "[I", .fieldLink RX5 24 "TalePlay$Roads" "firstSides" "[I", .fieldLink RX5 27 "TalePlay$Roads" "secondSides" "[I", .fieldLink RX5 30 "TalePlay$Roads" "steps" "[I", .fieldLink RX5 33 "TalePlay$Roads" "firsts" "[I", .fieldLink RX5 36 "TalePlay$Roads" "queue" "[I", .fieldLink RX5 39 "TalePlay$Roads" "world" "LTalePlay$World;", .fieldLink RX5 43 "TalePlay$Roads" "book" "LTalePlay$Book;", .methodLink RX5 47 yX5_wipe, .instanceMethod yX5_wipe, .selects RX5 yX5_wipe yX5_wipe, .initialized RX5, .code yX5_wipe cX5_wipe 1 none, .methodLink RX5 50 yJ7_fill_53178, .static yJ7_fill_53178, .initialized RJ7, .code yJ7_fill_53178 cJ7_fill_53178 4 none] ++ wsX50)
def wsX8_init : List Cond := .code yX8_init cX8_init 4 none :: ([.methodLink RX8 3 objectInit, .instanceMethod objectInit, .code objectInit ⟨#[0xb1]⟩ 1 none, .arrayClass .boolean, .fieldLink RX8 9 "TalePlay$Sight" "seen" "[Z", .fieldLink RX8 15 "TalePlay$Sight" "reached" "[Z", .fieldLink RX8 18 "TalePlay$Sight" "world" "LTalePlay$World;", .fieldLink RX8 22 "TalePlay$Sight" "roads" "LTalePlay$Roads;", .fieldLink RX8 26 "TalePlay$Sight" "scene" "LTalePlay$Scene;"] ++ wsX80)
def wsX9_init_r1 : List Cond := [Cond.methodLink RX9 3 objectInit, Cond.instanceMethod objectInit, Cond.code objectInit ⟨#[0xb1]⟩ 1 none, Cond.arrayClass .int, Cond.fieldLink RX9 9 "TalePlay$Tale" "deeds" "[I", Cond.fieldLink RX9 15 "TalePlay$Tale" "subjects" "[I", Cond.fieldLink RX9 18 "TalePlay$Tale" "formerCells" "[I", Cond.fieldLink RX9 21 "TalePlay$Tale" "world" "LTalePlay$World;", Cond.fieldLink RX9 25 "TalePlay$Tale" "book" "LTalePlay$Book;", Cond.classLink RX9 29 RX6, Cond.instantiable RX6 2, Cond.initialized RX6, Cond.fieldLink RX9 34 "TalePlay$Tale" "scene" "LTalePlay$Scene;", Cond.classLink RX9 38 RX8, Cond.instantiable RX8 6, Cond.initialized RX8, Cond.fieldLink RX9 43 "TalePlay$Tale" "sight" "LTalePlay$Sight;", Cond.classLink RX9 47 RX0, Cond.instantiable RX0 7, Cond.initialized RX0, Cond.fieldLink RX9 52 "TalePlay$Tale" "acts" "LTalePlay$Acts;", Cond.fieldLink RX9 56 "TalePlay$Tale" "player" "I", Cond.methodLink RX9 31 yX6_init, Cond.instanceMethod yX6_init]
def wsX9_init_r2 : List Cond := [Cond.code yX6_init cX6_init 2 none, Cond.methodLink RX6 3 objectInit, Cond.fieldLink RX6 9 "TalePlay$Scene" "cells" "[I", Cond.fieldLink RX6 15 "TalePlay$Scene" "world" "LTalePlay$World;", Cond.methodLink RX6 19 yJ7_fill_53178, Cond.static yJ7_fill_53178, Cond.initialized RJ7, Cond.code yJ7_fill_53178 cJ7_fill_53178 4 none, Cond.methodLink RX9 40 yX8_init, Cond.instanceMethod yX8_init, Cond.code yX8_init cX8_init 4 none, Cond.methodLink RX8 3 objectInit, Cond.arrayClass .boolean, Cond.fieldLink RX8 9 "TalePlay$Sight" "seen" "[Z", Cond.fieldLink RX8 15 "TalePlay$Sight" "reached" "[Z", Cond.fieldLink RX8 18 "TalePlay$Sight" "world" "LTalePlay$World;", Cond.fieldLink RX8 22 "TalePlay$Sight" "roads" "LTalePlay$Roads;", Cond.fieldLink RX8 26 "TalePlay$Sight" "scene" "LTalePlay$Scene;", Cond.methodLink RX9 49 yX0_init, Cond.instanceMethod yX0_init, Cond.code yX0_init cX0_init 6 none, Cond.methodLink RX0 3 objectInit, Cond.fieldLink RX0 9 "TalePlay$Acts" "world" "LTalePlay$World;", Cond.fieldLink RX0 15 "TalePlay$Acts" "book" "LTalePlay$Book;"]
def wsX9_init_r3 : List Cond := [Cond.fieldLink RX0 19 "TalePlay$Acts" "roads" "LTalePlay$Roads;", Cond.fieldLink RX0 23 "TalePlay$Acts" "bulks" "LTalePlay$Bulks;", Cond.fieldLink RX0 27 "TalePlay$Sight" "scene" "LTalePlay$Scene;", Cond.fieldLink RX0 33 "TalePlay$Acts" "scene" "LTalePlay$Scene;", Cond.fieldLink RX0 34 "TalePlay$Acts" "sight" "LTalePlay$Sight;", Cond.fieldLink RX0 38 "TalePlay$Acts" "player" "I"]
def wsX9_init : List Cond := .code yX9_init cX9_init 5 none :: ((wsX9_init_r1 ++ (wsX9_init_r2 ++ wsX9_init_r3)) ++ wsX90 ++ wsX60 ++ wsX80 ++ wsX00)
def wsX9_end : List Cond := .code yX9_end cX9_end 1 none :: ([.fieldLink RX9 72 "TalePlay$Tale" "there" "Z", .fieldLink RX9 77 "TalePlay$Tale" "turns" "I"] ++ wsX90)
def wsX9_isAct : List Cond := .code yX9_isAct cX9_isAct 4 (some .boolean) :: ([.fieldLink RX9 21 "TalePlay$Tale" "world" "LTalePlay$World;", .static yX11_isBelow, .initialized RX11, .code yX11_isBelow cX11_isBelow 2 (some .boolean), .methodLink RX9 104 yX0_hasX, .static yX0_hasX, .initialized RX0, .code yX0_hasX cX0_hasX 1 (some .boolean), .methodLink RX9 108 yX10_hasObject, .instanceMethod yX10_hasObject, .selects RX10 yX10_hasObject yX10_hasObject, .initialized RX10, .code yX10_hasObject cX10_hasObject 2 (some .boolean), .fieldLink RX10 37 "TalePlay$World" "objects" "I", .methodLink RX9 111 yX0_hasY, .static yX0_hasY, .code yX0_hasY cX0_hasY 1 (some .boolean)] ++ wsX90 ++ wsX100)
def wsX10_init : List Cond := .code yX10_init cX10_init 2 none :: ([.methodLink RX10 3 objectInit, .instanceMethod objectInit, .code objectInit ⟨#[0xb1]⟩ 1 none, .arrayClass .int, .fieldLink RX10 9 "TalePlay$World" "parents" "[I", .fieldLink RX10 15 "TalePlay$World" "sorts" "[I", .fieldLink RX10 18 "TalePlay$World" "standards" "[I", .fieldLink RX10 21 "TalePlay$World" "kindOf" "[I", .fieldLink RX10 24 "TalePlay$World" "sizeOf" "[I", .fieldLink RX10 33 "TalePlay$World" "kinds" "I", .methodLink RX10 27 yJ7_fill_53178, .static yJ7_fill_53178, .initialized RJ7, .code yJ7_fill_53178 cJ7_fill_53178 4 none] ++ wsX100)
def wsX10_hasKind : List Cond := .code yX10_hasKind cX10_hasKind 2 (some .boolean) :: ([.fieldLink RX10 33 "TalePlay$World" "kinds" "I"] ++ wsX100)
def wsX10_addKind : List Cond := .code yX10_addKind cX10_addKind 2 (some .int) :: ([.fieldLink RX10 9 "TalePlay$World" "parents" "[I", .fieldLink RX10 33 "TalePlay$World" "kinds" "I", .fieldLink RX10 15 "TalePlay$World" "sorts" "[I"] ++ wsX100)
def wsX10_addObject : List Cond := .code yX10_addObject cX10_addObject 3 (some .int) :: ([.fieldLink RX10 21 "TalePlay$World" "kindOf" "[I", .fieldLink RX10 37 "TalePlay$World" "objects" "I", .fieldLink RX10 24 "TalePlay$World" "sizeOf" "[I"] ++ wsX100)
def wsX10_changeStandard : List Cond := .code yX10_changeStandard cX10_changeStandard 5 (some .int) :: ([.fieldLink RX10 18 "TalePlay$World" "standards" "[I"] ++ wsX100)
def wsX11_init_r1 : List Cond := [Cond.methodLink RX11 1 objectInit, Cond.instanceMethod objectInit, Cond.code objectInit ⟨#[0xb1]⟩ 1 none, Cond.classLink RX11 7 RX10, Cond.instantiable RX10 7, Cond.initialized RX10, Cond.fieldLink RX11 10 "TalePlay" "world" "LTalePlay$World;", Cond.classLink RX11 16 RX1, Cond.instantiable RX1 15, Cond.initialized RX1, Cond.fieldLink RX11 21 "TalePlay" "book" "LTalePlay$Book;", Cond.classLink RX11 25 RX5, Cond.instantiable RX5 11, Cond.initialized RX5, Cond.fieldLink RX11 30 "TalePlay" "roads" "LTalePlay$Roads;", Cond.classLink RX11 34 RX2, Cond.instantiable RX2 4, Cond.initialized RX2, Cond.fieldLink RX11 37 "TalePlay" "bulks" "LTalePlay$Bulks;", Cond.classLink RX11 41 RX9, Cond.instantiable RX9 11, Cond.initialized RX9, Cond.fieldLink RX11 46 "TalePlay" "tale" "LTalePlay$Tale;", Cond.classLink RX11 50 RX4]
def wsX11_init_r2 : List Cond := [Cond.instantiable RX4 3, Cond.initialized RX4, Cond.fieldLink RX11 53 "TalePlay" "lines" "LTalePlay$Lines;", Cond.classLink RX11 57 RX3, Cond.instantiable RX3 4, Cond.initialized RX3, Cond.fieldLink RX11 60 "TalePlay" "casts" "LTalePlay$Casts;", Cond.fieldLink RX11 64 "TalePlay" "seeker" "LTalePlay$Seeker;", Cond.arrayClass .int, Cond.fieldLink RX11 68 "TalePlay" "findingCounts" "[I", Cond.fieldLink RX11 72 "TalePlay" "latestFinding" "I", Cond.fieldLink RX11 76 "TalePlay" "told" "J", Cond.methodLink RX11 9 yX10_init, Cond.instanceMethod yX10_init, Cond.code yX10_init cX10_init 2 none, Cond.methodLink RX10 3 objectInit, Cond.fieldLink RX10 9 "TalePlay$World" "parents" "[I", Cond.fieldLink RX10 15 "TalePlay$World" "sorts" "[I", Cond.fieldLink RX10 18 "TalePlay$World" "standards" "[I", Cond.fieldLink RX10 21 "TalePlay$World" "kindOf" "[I", Cond.fieldLink RX10 24 "TalePlay$World" "sizeOf" "[I", Cond.fieldLink RX10 33 "TalePlay$World" "kinds" "I", Cond.methodLink RX10 27 yJ7_fill_53178, Cond.static yJ7_fill_53178]
def wsX11_init_r3 : List Cond := [Cond.initialized RJ7, Cond.code yJ7_fill_53178 cJ7_fill_53178 4 none, Cond.methodLink RX11 18 yX1_init, Cond.instanceMethod yX1_init, Cond.code yX1_init cX1_init 2 none, Cond.methodLink RX1 3 objectInit, Cond.fieldLink RX1 9 "TalePlay$Book" "forms" "[I", Cond.fieldLink RX1 15 "TalePlay$Book" "as" "[I", Cond.fieldLink RX1 18 "TalePlay$Book" "bs" "[I", Cond.fieldLink RX1 21 "TalePlay$Book" "cs" "[I", Cond.arrayClass .boolean, Cond.fieldLink RX1 24 "TalePlay$Book" "said" "[Z", Cond.fieldLink RX1 28 "TalePlay$Book" "placeBy" "[I", Cond.fieldLink RX1 31 "TalePlay$Book" "exitBy" "[I", Cond.fieldLink RX1 34 "TalePlay$Book" "flagBy" "[I", Cond.fieldLink RX1 37 "TalePlay$Book" "keyBy" "[I", Cond.fieldLink RX1 40 "TalePlay$Book" "clashRow" "[I", Cond.fieldLink RX1 43 "TalePlay$Book" "world" "LTalePlay$World;", Cond.classLink RX1 47 RX6, Cond.instantiable RX6 2, Cond.initialized RX6, Cond.fieldLink RX1 52 "TalePlay$Book" "places" "LTalePlay$Scene;", Cond.methodLink RX1 49 yX6_init, Cond.instanceMethod yX6_init]
def wsX11_init_r4 : List Cond := [Cond.code yX6_init cX6_init 2 none, Cond.methodLink RX6 3 objectInit, Cond.fieldLink RX6 9 "TalePlay$Scene" "cells" "[I", Cond.fieldLink RX6 15 "TalePlay$Scene" "world" "LTalePlay$World;", Cond.methodLink RX6 19 yJ7_fill_53178, Cond.methodLink RX1 56 yJ7_fill_53178, Cond.methodLink RX11 27 yX5_init, Cond.instanceMethod yX5_init, Cond.code yX5_init cX5_init 3 none, Cond.methodLink RX5 3 objectInit, Cond.fieldLink RX5 9 "TalePlay$Roads" "leads" "[I", Cond.fieldLink RX5 15 "TalePlay$Roads" "doors" "[I", Cond.fieldLink RX5 18 "TalePlay$Roads" "bys" "[I", Cond.fieldLink RX5 21 "TalePlay$Roads" "implied" "[I", Cond.fieldLink RX5 24 "TalePlay$Roads" "firstSides" "[I", Cond.fieldLink RX5 27 "TalePlay$Roads" "secondSides" "[I", Cond.fieldLink RX5 30 "TalePlay$Roads" "steps" "[I", Cond.fieldLink RX5 33 "TalePlay$Roads" "firsts" "[I", Cond.fieldLink RX5 36 "TalePlay$Roads" "queue" "[I", Cond.fieldLink RX5 39 "TalePlay$Roads" "world" "LTalePlay$World;", Cond.fieldLink RX5 43 "TalePlay$Roads" "book" "LTalePlay$Book;", Cond.methodLink RX5 47 yX5_wipe, Cond.instanceMethod yX5_wipe, Cond.selects RX5 yX5_wipe yX5_wipe]
def wsX11_init_r5 : List Cond := [Cond.code yX5_wipe cX5_wipe 1 none, Cond.methodLink RX5 50 yJ7_fill_53178, Cond.methodLink RX11 36 yX2_init, Cond.instanceMethod yX2_init, Cond.code yX2_init cX2_init 2 none, Cond.methodLink RX2 3 objectInit, Cond.fieldLink RX2 9 "TalePlay$Bulks" "trace" "[I", Cond.fieldLink RX2 15 "TalePlay$Bulks" "world" "LTalePlay$World;", Cond.methodLink RX11 43 yX9_init, Cond.instanceMethod yX9_init, Cond.code yX9_init cX9_init 5 none, Cond.methodLink RX9 3 objectInit, Cond.fieldLink RX9 9 "TalePlay$Tale" "deeds" "[I", Cond.fieldLink RX9 15 "TalePlay$Tale" "subjects" "[I", Cond.fieldLink RX9 18 "TalePlay$Tale" "formerCells" "[I", Cond.fieldLink RX9 21 "TalePlay$Tale" "world" "LTalePlay$World;", Cond.fieldLink RX9 25 "TalePlay$Tale" "book" "LTalePlay$Book;", Cond.classLink RX9 29 RX6, Cond.fieldLink RX9 34 "TalePlay$Tale" "scene" "LTalePlay$Scene;", Cond.classLink RX9 38 RX8, Cond.instantiable RX8 6, Cond.initialized RX8, Cond.fieldLink RX9 43 "TalePlay$Tale" "sight" "LTalePlay$Sight;", Cond.classLink RX9 47 RX0]
def wsX11_init_r6 : List Cond := [Cond.instantiable RX0 7, Cond.initialized RX0, Cond.fieldLink RX9 52 "TalePlay$Tale" "acts" "LTalePlay$Acts;", Cond.fieldLink RX9 56 "TalePlay$Tale" "player" "I", Cond.methodLink RX9 31 yX6_init, Cond.methodLink RX9 40 yX8_init, Cond.instanceMethod yX8_init, Cond.code yX8_init cX8_init 4 none, Cond.methodLink RX8 3 objectInit, Cond.fieldLink RX8 9 "TalePlay$Sight" "seen" "[Z", Cond.fieldLink RX8 15 "TalePlay$Sight" "reached" "[Z", Cond.fieldLink RX8 18 "TalePlay$Sight" "world" "LTalePlay$World;", Cond.fieldLink RX8 22 "TalePlay$Sight" "roads" "LTalePlay$Roads;", Cond.fieldLink RX8 26 "TalePlay$Sight" "scene" "LTalePlay$Scene;", Cond.methodLink RX9 49 yX0_init, Cond.instanceMethod yX0_init, Cond.code yX0_init cX0_init 6 none, Cond.methodLink RX0 3 objectInit, Cond.fieldLink RX0 9 "TalePlay$Acts" "world" "LTalePlay$World;", Cond.fieldLink RX0 15 "TalePlay$Acts" "book" "LTalePlay$Book;", Cond.fieldLink RX0 19 "TalePlay$Acts" "roads" "LTalePlay$Roads;", Cond.fieldLink RX0 23 "TalePlay$Acts" "bulks" "LTalePlay$Bulks;", Cond.fieldLink RX0 27 "TalePlay$Sight" "scene" "LTalePlay$Scene;", Cond.fieldLink RX0 33 "TalePlay$Acts" "scene" "LTalePlay$Scene;"]
def wsX11_init_r7 : List Cond := [Cond.fieldLink RX0 34 "TalePlay$Acts" "sight" "LTalePlay$Sight;", Cond.fieldLink RX0 38 "TalePlay$Acts" "player" "I", Cond.methodLink RX11 52 yX4_init, Cond.instanceMethod yX4_init, Cond.code yX4_init cX4_init 1 none, Cond.methodLink RX4 3 objectInit, Cond.fieldLink RX4 9 "TalePlay$Lines" "sorts" "[I", Cond.fieldLink RX4 15 "TalePlay$Lines" "lengths" "[I", Cond.arrayClass .long, Cond.fieldLink RX4 18 "TalePlay$Lines" "items" "[J", Cond.methodLink RX4 22 yJ7_fill_53178, Cond.methodLink RX11 59 yX3_init, Cond.instanceMethod yX3_init, Cond.code yX3_init cX3_init 1 none, Cond.methodLink RX3 3 objectInit, Cond.fieldLink RX3 9 "TalePlay$Casts" "sorts" "[I", Cond.fieldLink RX3 15 "TalePlay$Casts" "lengths" "[I", Cond.fieldLink RX3 18 "TalePlay$Casts" "roles" "[I", Cond.methodLink RX3 21 yJ7_fill_53178]
def wsX11_init : List Cond := .code yX11_init cX11_init 1 none :: ((wsX11_init_r1 ++ (wsX11_init_r2 ++ (wsX11_init_r3 ++ (wsX11_init_r4 ++ (wsX11_init_r5 ++ (wsX11_init_r6 ++ wsX11_init_r7)))))) ++ wsX100 ++ wsX110 ++ wsX10 ++ wsX50 ++ wsX20 ++ wsX90 ++ wsX40 ++ wsX30 ++ wsX60 ++ wsX80 ++ wsX00)
def wsX11_answerFinding : List Cond := .code yX11_answerFinding cX11_answerFinding 2 (some .int) :: ([.fieldLink RX11 72 "TalePlay" "latestFinding" "I", .fieldLink RX11 68 "TalePlay" "findingCounts" "[I"] ++ wsX110)
def wsX11_refuseRooms : List Cond := .code yX11_refuseRooms cX11_refuseRooms 3 (some .int) :: ([.fieldLink RX11 10 "TalePlay" "world" "LTalePlay$World;", .methodLink RX11 109 yX10_hasObject, .instanceMethod yX10_hasObject, .selects RX10 yX10_hasObject yX10_hasObject, .initialized RX10, .code yX10_hasObject cX10_hasObject 2 (some .boolean), .fieldLink RX10 37 "TalePlay$World" "objects" "I", .methodLink RX11 125 yX10_sortOf, .instanceMethod yX10_sortOf, .selects RX10 yX10_sortOf yX10_sortOf, .code yX10_sortOf cX10_sortOf 2 (some .int), .fieldLink RX10 15 "TalePlay$World" "sorts" "[I", .fieldLink RX10 21 "TalePlay$World" "kindOf" "[I", .methodLink RX11 128 yX11_answerFinding, .instanceMethod yX11_answerFinding, .selects RX11 yX11_answerFinding yX11_answerFinding, .initialized RX11, .code yX11_answerFinding cX11_answerFinding 2 (some .int), .fieldLink RX11 72 "TalePlay" "latestFinding" "I", .fieldLink RX11 68 "TalePlay" "findingCounts" "[I"] ++ wsX110 ++ wsX100)
def wsX11_refuseItem_r1 : List Cond := [Cond.fieldLink RX11 10 "TalePlay" "world" "LTalePlay$World;", Cond.fieldLink RX11 53 "TalePlay" "lines" "LTalePlay$Lines;", Cond.fieldLink RX11 322 "TalePlay$Lines" "sorts" "[I", Cond.fieldLink RX11 373 "TalePlay$Lines" "lengths" "[I", Cond.methodLink RX11 109 yX10_hasObject, Cond.instanceMethod yX10_hasObject, Cond.selects RX10 yX10_hasObject yX10_hasObject, Cond.initialized RX10, Cond.code yX10_hasObject cX10_hasObject 2 (some .boolean), Cond.fieldLink RX10 37 "TalePlay$World" "objects" "I", Cond.methodLink RX11 91 yX11_isBelow, Cond.static yX11_isBelow, Cond.initialized RX11, Cond.code yX11_isBelow cX11_isBelow 2 (some .boolean), Cond.methodLink RX11 128 yX11_answerFinding, Cond.instanceMethod yX11_answerFinding, Cond.selects RX11 yX11_answerFinding yX11_answerFinding, Cond.code yX11_answerFinding cX11_answerFinding 2 (some .int), Cond.fieldLink RX11 72 "TalePlay" "latestFinding" "I", Cond.fieldLink RX11 68 "TalePlay" "findingCounts" "[I", Cond.methodLink RX11 319 yX4_isOther, Cond.instanceMethod yX4_isOther, Cond.selects RX4 yX4_isOther yX4_isOther, Cond.initialized RX4]
end
section
def wsX11_refuseItem_r2 : List Cond := [Cond.code yX4_isOther cX4_isOther 3 (some .boolean), Cond.fieldLink RX4 9 "TalePlay$Lines" "sorts" "[I"]
def wsX11_refuseItem : List Cond := .code yX11_refuseItem cX11_refuseItem 4 (some .int) :: ((wsX11_refuseItem_r1 ++ wsX11_refuseItem_r2) ++ wsX110 ++ wsX40 ++ wsX100)
def wsX12_in : List Cond := .code yX12_in cX12_in 6 (some .boolean) :: ([])
theorem dX0_init_0 : decode cX0_init 0 = .ok (.aload_n 0, 1) := by decide +kernel
theorem dX0_init_1 : decode cX0_init 1 = .ok (.invokespecial 3, 3) := by decide +kernel
theorem dX0_init_4 : decode cX0_init 4 = .ok (.aload_n 0, 1) := by decide +kernel
theorem dX0_init_5 : decode cX0_init 5 = .ok (.aload_n 1, 1) := by decide +kernel
theorem dX0_init_6 : decode cX0_init 6 = .ok (.putfield 9, 3) := by decide +kernel
theorem dX0_init_9 : decode cX0_init 9 = .ok (.aload_n 0, 1) := by decide +kernel
theorem dX0_init_10 : decode cX0_init 10 = .ok (.aload_n 2, 1) := by decide +kernel
theorem dX0_init_11 : decode cX0_init 11 = .ok (.putfield 15, 3) := by decide +kernel
theorem dX0_init_14 : decode cX0_init 14 = .ok (.aload_n 0, 1) := by decide +kernel
theorem dX0_init_15 : decode cX0_init 15 = .ok (.aload_n 3, 1) := by decide +kernel
theorem dX0_init_16 : decode cX0_init 16 = .ok (.putfield 19, 3) := by decide +kernel
theorem dX0_init_19 : decode cX0_init 19 = .ok (.aload_n 0, 1) := by decide +kernel
theorem dX0_init_20 : decode cX0_init 20 = .ok (.aload 4, 2) := by decide +kernel
theorem dX0_init_22 : decode cX0_init 22 = .ok (.putfield 23, 3) := by decide +kernel
theorem dX0_init_25 : decode cX0_init 25 = .ok (.aload_n 0, 1) := by decide +kernel
theorem dX0_init_26 : decode cX0_init 26 = .ok (.aload 5, 2) := by decide +kernel
theorem dX0_init_28 : decode cX0_init 28 = .ok (.getfield 27, 3) := by decide +kernel
theorem dX0_init_31 : decode cX0_init 31 = .ok (.putfield 33, 3) := by decide +kernel
theorem dX0_init_34 : decode cX0_init 34 = .ok (.aload_n 0, 1) := by decide +kernel
theorem dX0_init_35 : decode cX0_init 35 = .ok (.aload 5, 2) := by decide +kernel
theorem dX0_init_37 : decode cX0_init 37 = .ok (.putfield 34, 3) := by decide +kernel
theorem dX0_init_40 : decode cX0_init 40 = .ok (.aload_n 0, 1) := by decide +kernel
theorem dX0_init_41 : decode cX0_init 41 = .ok (.bipush (-9), 2) := by decide +kernel
theorem dX0_init_43 : decode cX0_init 43 = .ok (.putfield 38, 3) := by decide +kernel
theorem dX0_init_46 : decode cX0_init 46 = .ok (.return_, 1) := by decide +kernel
theorem dX0_hasX_0 : decode cX0_hasX 0 = .ok (.iload_n 0, 1) := by decide +kernel
theorem dX0_hasX_1 : decode cX0_hasX 1 = .ok (.bipush 11, 2) := by decide +kernel
theorem dX0_hasX_3 : decode cX0_hasX 3 = .ok (.if_icmp .ge 7, 3) := by decide +kernel
theorem dX0_hasX_6 : decode cX0_hasX 6 = .ok (.iconst 1, 1) := by decide +kernel
theorem dX0_hasX_7 : decode cX0_hasX 7 = .ok (.goto 4, 3) := by decide +kernel
theorem dX0_hasX_10 : decode cX0_hasX 10 = .ok (.iconst 0, 1) := by decide +kernel
theorem dX0_hasX_11 : decode cX0_hasX 11 = .ok (.ireturn, 1) := by decide +kernel
theorem dX0_hasY_0 : decode cX0_hasY 0 = .ok (.iload_n 0, 1) := by decide +kernel
theorem dX0_hasY_1 : decode cX0_hasY 1 = .ok (.iconst 3, 1) := by decide +kernel
theorem dX0_hasY_2 : decode cX0_hasY 2 = .ok (.if_icmp .eq 20, 3) := by decide +kernel
theorem dX0_hasY_5 : decode cX0_hasY 5 = .ok (.iload_n 0, 1) := by decide +kernel
theorem dX0_hasY_6 : decode cX0_hasY 6 = .ok (.iconst 4, 1) := by decide +kernel
theorem dX0_hasY_7 : decode cX0_hasY 7 = .ok (.if_icmp .eq 15, 3) := by decide +kernel
theorem dX0_hasY_10 : decode cX0_hasY 10 = .ok (.iload_n 0, 1) := by decide +kernel
theorem dX0_hasY_11 : decode cX0_hasY 11 = .ok (.bipush 7, 2) := by decide +kernel
theorem dX0_hasY_13 : decode cX0_hasY 13 = .ok (.if_icmp .eq 9, 3) := by decide +kernel
theorem dX0_hasY_16 : decode cX0_hasY 16 = .ok (.iload_n 0, 1) := by decide +kernel
theorem dX0_hasY_17 : decode cX0_hasY 17 = .ok (.bipush 8, 2) := by decide +kernel
theorem dX0_hasY_19 : decode cX0_hasY 19 = .ok (.if_icmp .ne 7, 3) := by decide +kernel
theorem dX0_hasY_22 : decode cX0_hasY 22 = .ok (.iconst 1, 1) := by decide +kernel
theorem dX0_hasY_23 : decode cX0_hasY 23 = .ok (.goto 4, 3) := by decide +kernel
theorem dX0_hasY_26 : decode cX0_hasY 26 = .ok (.iconst 0, 1) := by decide +kernel
theorem dX0_hasY_27 : decode cX0_hasY 27 = .ok (.ireturn, 1) := by decide +kernel
set_option maxRecDepth 20000 in
theorem ggX1_init_X6_init : GoodIn wsX1_init wsX6_init := goodIn_r _ [23, 24, 2, 3, 4, 25, 26, 27, 28, 29, 30, 47, 48] (by decide +kernel) (by decide +kernel)
set_option maxRecDepth 20000 in
theorem gX1_init_X6_init : GoodIn wsX1_init (wsX6_init) := ggX1_init_X6_init
set_option maxRecDepth 20000 in
theorem ggX1_init_J7_fill_53178 : GoodIn wsX1_init wsJ7_fill_53178 := goodIn_r _ [30] (by decide +kernel) (by decide +kernel)
set_option maxRecDepth 20000 in
theorem gX1_init_J7_fill_53178 : GoodIn wsX1_init (va_wsS RX1 56 yJ7_fill_53178 wsJ7_fill_53178) := goodIn_app (goodIn_of _ (by decide +kernel)) ggX1_init_J7_fill_53178
theorem dX1_init_0 : decode cX1_init 0 = .ok (.aload_n 0, 1) := by decide +kernel
theorem dX1_init_1 : decode cX1_init 1 = .ok (.invokespecial 3, 3) := by decide +kernel
theorem dX1_init_4 : decode cX1_init 4 = .ok (.aload_n 0, 1) := by decide +kernel
theorem dX1_init_5 : decode cX1_init 5 = .ok (.sipush 200, 3) := by decide +kernel
theorem dX1_init_8 : decode cX1_init 8 = .ok (.newarray .int, 2) := by decide +kernel
theorem dX1_init_10 : decode cX1_init 10 = .ok (.putfield 9, 3) := by decide +kernel
theorem dX1_init_13 : decode cX1_init 13 = .ok (.aload_n 0, 1) := by decide +kernel
theorem dX1_init_14 : decode cX1_init 14 = .ok (.sipush 200, 3) := by decide +kernel
theorem dX1_init_17 : decode cX1_init 17 = .ok (.newarray .int, 2) := by decide +kernel
theorem dX1_init_19 : decode cX1_init 19 = .ok (.putfield 15, 3) := by decide +kernel
theorem dX1_init_22 : decode cX1_init 22 = .ok (.aload_n 0, 1) := by decide +kernel
theorem dX1_init_23 : decode cX1_init 23 = .ok (.sipush 200, 3) := by decide +kernel
theorem dX1_init_26 : decode cX1_init 26 = .ok (.newarray .int, 2) := by decide +kernel
theorem dX1_init_28 : decode cX1_init 28 = .ok (.putfield 18, 3) := by decide +kernel
theorem dX1_init_31 : decode cX1_init 31 = .ok (.aload_n 0, 1) := by decide +kernel
theorem dX1_init_32 : decode cX1_init 32 = .ok (.sipush 200, 3) := by decide +kernel
theorem dX1_init_35 : decode cX1_init 35 = .ok (.newarray .int, 2) := by decide +kernel
theorem dX1_init_37 : decode cX1_init 37 = .ok (.putfield 21, 3) := by decide +kernel
theorem dX1_init_40 : decode cX1_init 40 = .ok (.aload_n 0, 1) := by decide +kernel
theorem dX1_init_41 : decode cX1_init 41 = .ok (.sipush 200, 3) := by decide +kernel
theorem dX1_init_44 : decode cX1_init 44 = .ok (.newarray .boolean, 2) := by decide +kernel
theorem dX1_init_46 : decode cX1_init 46 = .ok (.putfield 24, 3) := by decide +kernel
theorem dX1_init_49 : decode cX1_init 49 = .ok (.aload_n 0, 1) := by decide +kernel
theorem dX1_init_50 : decode cX1_init 50 = .ok (.bipush 30, 2) := by decide +kernel
theorem dX1_init_52 : decode cX1_init 52 = .ok (.newarray .int, 2) := by decide +kernel
theorem dX1_init_54 : decode cX1_init 54 = .ok (.putfield 28, 3) := by decide +kernel
theorem dX1_init_57 : decode cX1_init 57 = .ok (.aload_n 0, 1) := by decide +kernel
theorem dX1_init_58 : decode cX1_init 58 = .ok (.sipush 300, 3) := by decide +kernel
theorem dX1_init_61 : decode cX1_init 61 = .ok (.newarray .int, 2) := by decide +kernel
theorem dX1_init_63 : decode cX1_init 63 = .ok (.putfield 31, 3) := by decide +kernel
theorem dX1_init_66 : decode cX1_init 66 = .ok (.aload_n 0, 1) := by decide +kernel
theorem dX1_init_67 : decode cX1_init 67 = .ok (.sipush 180, 3) := by decide +kernel
theorem dX1_init_70 : decode cX1_init 70 = .ok (.newarray .int, 2) := by decide +kernel
theorem dX1_init_72 : decode cX1_init 72 = .ok (.putfield 34, 3) := by decide +kernel
theorem dX1_init_75 : decode cX1_init 75 = .ok (.aload_n 0, 1) := by decide +kernel
theorem dX1_init_76 : decode cX1_init 76 = .ok (.bipush 30, 2) := by decide +kernel
theorem dX1_init_78 : decode cX1_init 78 = .ok (.newarray .int, 2) := by decide +kernel
theorem dX1_init_80 : decode cX1_init 80 = .ok (.putfield 37, 3) := by decide +kernel
theorem dX1_init_83 : decode cX1_init 83 = .ok (.aload_n 0, 1) := by decide +kernel
theorem dX1_init_84 : decode cX1_init 84 = .ok (.bipush 30, 2) := by decide +kernel
theorem dX1_init_86 : decode cX1_init 86 = .ok (.newarray .int, 2) := by decide +kernel
theorem dX1_init_88 : decode cX1_init 88 = .ok (.putfield 40, 3) := by decide +kernel
theorem dX1_init_91 : decode cX1_init 91 = .ok (.aload_n 0, 1) := by decide +kernel
theorem dX1_init_92 : decode cX1_init 92 = .ok (.aload_n 1, 1) := by decide +kernel
theorem dX1_init_93 : decode cX1_init 93 = .ok (.putfield 43, 3) := by decide +kernel
theorem dX1_init_96 : decode cX1_init 96 = .ok (.aload_n 0, 1) := by decide +kernel
theorem dX1_init_97 : decode cX1_init 97 = .ok (.new 47, 3) := by decide +kernel
theorem dX1_init_100 : decode cX1_init 100 = .ok (.dup, 1) := by decide +kernel
theorem dX1_init_101 : decode cX1_init 101 = .ok (.aload_n 1, 1) := by decide +kernel
theorem dX1_init_102 : decode cX1_init 102 = .ok (.invokespecial 49, 3) := by decide +kernel
theorem dX1_init_105 : decode cX1_init 105 = .ok (.putfield 52, 3) := by decide +kernel
theorem dX1_init_108 : decode cX1_init 108 = .ok (.aload_n 0, 1) := by decide +kernel
theorem dX1_init_109 : decode cX1_init 109 = .ok (.getfield 28, 3) := by decide +kernel
theorem dX1_init_112 : decode cX1_init 112 = .ok (.bipush (-9), 2) := by decide +kernel
theorem dX1_init_114 : decode cX1_init 114 = .ok (.invokestatic 56, 3) := by decide +kernel
theorem dX1_init_117 : decode cX1_init 117 = .ok (.aload_n 0, 1) := by decide +kernel
theorem dX1_init_118 : decode cX1_init 118 = .ok (.getfield 31, 3) := by decide +kernel
theorem dX1_init_121 : decode cX1_init 121 = .ok (.bipush (-9), 2) := by decide +kernel
theorem dX1_init_123 : decode cX1_init 123 = .ok (.invokestatic 56, 3) := by decide +kernel
theorem dX1_init_126 : decode cX1_init 126 = .ok (.aload_n 0, 1) := by decide +kernel
theorem dX1_init_127 : decode cX1_init 127 = .ok (.getfield 34, 3) := by decide +kernel
theorem dX1_init_130 : decode cX1_init 130 = .ok (.bipush (-9), 2) := by decide +kernel
theorem dX1_init_132 : decode cX1_init 132 = .ok (.invokestatic 56, 3) := by decide +kernel
theorem dX1_init_135 : decode cX1_init 135 = .ok (.aload_n 0, 1) := by decide +kernel
theorem dX1_init_136 : decode cX1_init 136 = .ok (.getfield 37, 3) := by decide +kernel
theorem dX1_init_139 : decode cX1_init 139 = .ok (.bipush (-9), 2) := by decide +kernel
theorem dX1_init_141 : decode cX1_init 141 = .ok (.invokestatic 56, 3) := by decide +kernel
theorem dX1_init_144 : decode cX1_init 144 = .ok (.return_, 1) := by decide +kernel
set_option maxRecDepth 20000 in
theorem ggX1_isWellFormed_X10_hasObject : GoodIn wsX1_isWellFormed wsX10_hasObject := goodIn_r _ [6, 7, 26, 27, 28, 29, 30, 31, 32] (by decide +kernel) (by decide +kernel)
set_option maxRecDepth 20000 in
theorem gX1_isWellFormed_X10_hasObject : GoodIn wsX1_isWellFormed (wsV RX1 62 RX10 yX10_hasObject wsX10_hasObject) := goodIn_app (goodIn_of _ (by decide +kernel)) ggX1_isWellFormed_X10_hasObject
theorem dX1_isWellFormed_0 : decode cX1_isWellFormed 0 = .ok (.iload_n 1, 1) := by decide +kernel
theorem dX1_isWellFormed_1 : decode cX1_isWellFormed 1 = .ok (.ifCond .lt 20, 3) := by decide +kernel
theorem dX1_isWellFormed_4 : decode cX1_isWellFormed 4 = .ok (.iload_n 1, 1) := by decide +kernel
theorem dX1_isWellFormed_5 : decode cX1_isWellFormed 5 = .ok (.bipush 7, 2) := by decide +kernel
theorem dX1_isWellFormed_7 : decode cX1_isWellFormed 7 = .ok (.if_icmp .gt 14, 3) := by decide +kernel
theorem dX1_isWellFormed_10 : decode cX1_isWellFormed 10 = .ok (.aload_n 0, 1) := by decide +kernel
theorem dX1_isWellFormed_11 : decode cX1_isWellFormed 11 = .ok (.getfield 43, 3) := by decide +kernel
theorem dX1_isWellFormed_14 : decode cX1_isWellFormed 14 = .ok (.iload_n 2, 1) := by decide +kernel
theorem dX1_isWellFormed_15 : decode cX1_isWellFormed 15 = .ok (.invokevirtual 62, 3) := by decide +kernel
theorem dX1_isWellFormed_18 : decode cX1_isWellFormed 18 = .ok (.ifCond .ne 5, 3) := by decide +kernel
theorem dX1_isWellFormed_21 : decode cX1_isWellFormed 21 = .ok (.iconst 0, 1) := by decide +kernel
theorem dX1_isWellFormed_22 : decode cX1_isWellFormed 22 = .ok (.ireturn, 1) := by decide +kernel
theorem dX1_clearClash_0 : decode cX1_clearClash 0 = .ok (.aload_n 0, 1) := by decide +kernel
theorem dX1_clearClash_1 : decode cX1_clearClash 1 = .ok (.iconst 0, 1) := by decide +kernel
theorem dX1_clearClash_2 : decode cX1_clearClash 2 = .ok (.putfield 118, 3) := by decide +kernel
theorem dX1_clearClash_5 : decode cX1_clearClash 5 = .ok (.return_, 1) := by decide +kernel
theorem dX2_init_0 : decode cX2_init 0 = .ok (.aload_n 0, 1) := by decide +kernel
theorem dX2_init_1 : decode cX2_init 1 = .ok (.invokespecial 3, 3) := by decide +kernel
theorem dX2_init_4 : decode cX2_init 4 = .ok (.aload_n 0, 1) := by decide +kernel
theorem dX2_init_5 : decode cX2_init 5 = .ok (.bipush 100, 2) := by decide +kernel
theorem dX2_init_7 : decode cX2_init 7 = .ok (.newarray .int, 2) := by decide +kernel
theorem dX2_init_9 : decode cX2_init 9 = .ok (.putfield 9, 3) := by decide +kernel
theorem dX2_init_12 : decode cX2_init 12 = .ok (.aload_n 0, 1) := by decide +kernel
theorem dX2_init_13 : decode cX2_init 13 = .ok (.aload_n 1, 1) := by decide +kernel
theorem dX2_init_14 : decode cX2_init 14 = .ok (.putfield 15, 3) := by decide +kernel
theorem dX2_init_17 : decode cX2_init 17 = .ok (.return_, 1) := by decide +kernel
set_option maxRecDepth 20000 in
theorem ggX3_init_J7_fill_53178 : GoodIn wsX3_init wsJ7_fill_53178 := goodIn_r _ [11] (by decide +kernel) (by decide +kernel)
set_option maxRecDepth 20000 in
theorem gX3_init_J7_fill_53178 : GoodIn wsX3_init (va_wsS RX3 21 yJ7_fill_53178 wsJ7_fill_53178) := goodIn_app (goodIn_of _ (by decide +kernel)) ggX3_init_J7_fill_53178
theorem dX3_init_0 : decode cX3_init 0 = .ok (.aload_n 0, 1) := by decide +kernel
theorem dX3_init_1 : decode cX3_init 1 = .ok (.invokespecial 3, 3) := by decide +kernel
theorem dX3_init_4 : decode cX3_init 4 = .ok (.aload_n 0, 1) := by decide +kernel
theorem dX3_init_5 : decode cX3_init 5 = .ok (.bipush 10, 2) := by decide +kernel
theorem dX3_init_7 : decode cX3_init 7 = .ok (.newarray .int, 2) := by decide +kernel
theorem dX3_init_9 : decode cX3_init 9 = .ok (.putfield 9, 3) := by decide +kernel
theorem dX3_init_12 : decode cX3_init 12 = .ok (.aload_n 0, 1) := by decide +kernel
theorem dX3_init_13 : decode cX3_init 13 = .ok (.bipush 10, 2) := by decide +kernel
theorem dX3_init_15 : decode cX3_init 15 = .ok (.newarray .int, 2) := by decide +kernel
theorem dX3_init_17 : decode cX3_init 17 = .ok (.putfield 15, 3) := by decide +kernel
theorem dX3_init_20 : decode cX3_init 20 = .ok (.aload_n 0, 1) := by decide +kernel
theorem dX3_init_21 : decode cX3_init 21 = .ok (.bipush 120, 2) := by decide +kernel
theorem dX3_init_23 : decode cX3_init 23 = .ok (.newarray .int, 2) := by decide +kernel
theorem dX3_init_25 : decode cX3_init 25 = .ok (.putfield 18, 3) := by decide +kernel
theorem dX3_init_28 : decode cX3_init 28 = .ok (.aload_n 0, 1) := by decide +kernel
theorem dX3_init_29 : decode cX3_init 29 = .ok (.getfield 18, 3) := by decide +kernel
theorem dX3_init_32 : decode cX3_init 32 = .ok (.bipush (-9), 2) := by decide +kernel
theorem dX3_init_34 : decode cX3_init 34 = .ok (.invokestatic 21, 3) := by decide +kernel
theorem dX3_init_37 : decode cX3_init 37 = .ok (.return_, 1) := by decide +kernel
theorem dX3_open_0 : decode cX3_open 0 = .ok (.aload_n 0, 1) := by decide +kernel
theorem dX3_open_1 : decode cX3_open 1 = .ok (.getfield 9, 3) := by decide +kernel
theorem dX3_open_4 : decode cX3_open 4 = .ok (.aload_n 0, 1) := by decide +kernel
theorem dX3_open_5 : decode cX3_open 5 = .ok (.getfield 27, 3) := by decide +kernel
theorem dX3_open_8 : decode cX3_open 8 = .ok (.iload_n 1, 1) := by decide +kernel
theorem dX3_open_9 : decode cX3_open 9 = .ok (.iastore, 1) := by decide +kernel
theorem dX3_open_10 : decode cX3_open 10 = .ok (.aload_n 0, 1) := by decide +kernel
theorem dX3_open_11 : decode cX3_open 11 = .ok (.getfield 15, 3) := by decide +kernel
theorem dX3_open_14 : decode cX3_open 14 = .ok (.aload_n 0, 1) := by decide +kernel
theorem dX3_open_15 : decode cX3_open 15 = .ok (.getfield 27, 3) := by decide +kernel
theorem dX3_open_18 : decode cX3_open 18 = .ok (.iload_n 2, 1) := by decide +kernel
theorem dX3_open_19 : decode cX3_open 19 = .ok (.iastore, 1) := by decide +kernel
theorem dX3_open_20 : decode cX3_open 20 = .ok (.aload_n 0, 1) := by decide +kernel
theorem dX3_open_21 : decode cX3_open 21 = .ok (.dup, 1) := by decide +kernel
theorem dX3_open_22 : decode cX3_open 22 = .ok (.getfield 27, 3) := by decide +kernel
theorem dX3_open_25 : decode cX3_open 25 = .ok (.dup_x1, 1) := by decide +kernel
theorem dX3_open_26 : decode cX3_open 26 = .ok (.iconst 1, 1) := by decide +kernel
theorem dX3_open_27 : decode cX3_open 27 = .ok (.iadd, 1) := by decide +kernel
theorem dX3_open_28 : decode cX3_open 28 = .ok (.putfield 27, 3) := by decide +kernel
theorem dX3_open_31 : decode cX3_open 31 = .ok (.ireturn, 1) := by decide +kernel
set_option maxRecDepth 20000 in
theorem ggX4_init_J7_fill_53178 : GoodIn wsX4_init wsJ7_fill_53178 := goodIn_r _ [12] (by decide +kernel) (by decide +kernel)
set_option maxRecDepth 20000 in
theorem gX4_init_J7_fill_53178 : GoodIn wsX4_init (va_wsS RX4 22 yJ7_fill_53178 wsJ7_fill_53178) := goodIn_app (goodIn_of _ (by decide +kernel)) ggX4_init_J7_fill_53178
theorem dX4_init_0 : decode cX4_init 0 = .ok (.aload_n 0, 1) := by decide +kernel
theorem dX4_init_1 : decode cX4_init 1 = .ok (.invokespecial 3, 3) := by decide +kernel
theorem dX4_init_4 : decode cX4_init 4 = .ok (.aload_n 0, 1) := by decide +kernel
theorem dX4_init_5 : decode cX4_init 5 = .ok (.bipush 30, 2) := by decide +kernel
theorem dX4_init_7 : decode cX4_init 7 = .ok (.newarray .int, 2) := by decide +kernel
theorem dX4_init_9 : decode cX4_init 9 = .ok (.putfield 9, 3) := by decide +kernel
theorem dX4_init_12 : decode cX4_init 12 = .ok (.aload_n 0, 1) := by decide +kernel
theorem dX4_init_13 : decode cX4_init 13 = .ok (.bipush 30, 2) := by decide +kernel
theorem dX4_init_15 : decode cX4_init 15 = .ok (.newarray .int, 2) := by decide +kernel
theorem dX4_init_17 : decode cX4_init 17 = .ok (.putfield 15, 3) := by decide +kernel
theorem dX4_init_20 : decode cX4_init 20 = .ok (.aload_n 0, 1) := by decide +kernel
theorem dX4_init_21 : decode cX4_init 21 = .ok (.sipush 360, 3) := by decide +kernel
theorem dX4_init_24 : decode cX4_init 24 = .ok (.newarray .long, 2) := by decide +kernel
theorem dX4_init_26 : decode cX4_init 26 = .ok (.putfield 18, 3) := by decide +kernel
theorem dX4_init_29 : decode cX4_init 29 = .ok (.aload_n 0, 1) := by decide +kernel
theorem dX4_init_30 : decode cX4_init 30 = .ok (.getfield 9, 3) := by decide +kernel
theorem dX4_init_33 : decode cX4_init 33 = .ok (.bipush (-9), 2) := by decide +kernel
theorem dX4_init_35 : decode cX4_init 35 = .ok (.invokestatic 22, 3) := by decide +kernel
theorem dX4_init_38 : decode cX4_init 38 = .ok (.return_, 1) := by decide +kernel
set_option maxRecDepth 20000 in
theorem ggX5_init_X5_wipe : GoodIn wsX5_init wsX5_wipe := goodIn_r _ [20, 5, 6, 7, 8, 9, 10, 21, 22, 23, 24, 25, 26, 27, 28, 29, 30, 31, 32, 33, 34, 35] (by decide +kernel) (by decide +kernel)
set_option maxRecDepth 20000 in
theorem gX5_init_X5_wipe : GoodIn wsX5_init (wsV RX5 47 RX5 yX5_wipe wsX5_wipe) := goodIn_app (goodIn_of _ (by decide +kernel)) ggX5_init_X5_wipe
theorem dX5_init_0 : decode cX5_init 0 = .ok (.aload_n 0, 1) := by decide +kernel
theorem dX5_init_1 : decode cX5_init 1 = .ok (.invokespecial 3, 3) := by decide +kernel
theorem dX5_init_4 : decode cX5_init 4 = .ok (.aload_n 0, 1) := by decide +kernel
theorem dX5_init_5 : decode cX5_init 5 = .ok (.sipush 300, 3) := by decide +kernel
theorem dX5_init_8 : decode cX5_init 8 = .ok (.newarray .int, 2) := by decide +kernel
theorem dX5_init_10 : decode cX5_init 10 = .ok (.putfield 9, 3) := by decide +kernel
theorem dX5_init_13 : decode cX5_init 13 = .ok (.aload_n 0, 1) := by decide +kernel
theorem dX5_init_14 : decode cX5_init 14 = .ok (.sipush 300, 3) := by decide +kernel
theorem dX5_init_17 : decode cX5_init 17 = .ok (.newarray .int, 2) := by decide +kernel
theorem dX5_init_19 : decode cX5_init 19 = .ok (.putfield 15, 3) := by decide +kernel
theorem dX5_init_22 : decode cX5_init 22 = .ok (.aload_n 0, 1) := by decide +kernel
theorem dX5_init_23 : decode cX5_init 23 = .ok (.sipush 300, 3) := by decide +kernel
theorem dX5_init_26 : decode cX5_init 26 = .ok (.newarray .int, 2) := by decide +kernel
theorem dX5_init_28 : decode cX5_init 28 = .ok (.putfield 18, 3) := by decide +kernel
theorem dX5_init_31 : decode cX5_init 31 = .ok (.aload_n 0, 1) := by decide +kernel
theorem dX5_init_32 : decode cX5_init 32 = .ok (.sipush 300, 3) := by decide +kernel
theorem dX5_init_35 : decode cX5_init 35 = .ok (.newarray .int, 2) := by decide +kernel
theorem dX5_init_37 : decode cX5_init 37 = .ok (.putfield 21, 3) := by decide +kernel
theorem dX5_init_40 : decode cX5_init 40 = .ok (.aload_n 0, 1) := by decide +kernel
theorem dX5_init_41 : decode cX5_init 41 = .ok (.bipush 30, 2) := by decide +kernel
theorem dX5_init_43 : decode cX5_init 43 = .ok (.newarray .int, 2) := by decide +kernel
theorem dX5_init_45 : decode cX5_init 45 = .ok (.putfield 24, 3) := by decide +kernel
theorem dX5_init_48 : decode cX5_init 48 = .ok (.aload_n 0, 1) := by decide +kernel
theorem dX5_init_49 : decode cX5_init 49 = .ok (.bipush 30, 2) := by decide +kernel
theorem dX5_init_51 : decode cX5_init 51 = .ok (.newarray .int, 2) := by decide +kernel
theorem dX5_init_53 : decode cX5_init 53 = .ok (.putfield 27, 3) := by decide +kernel
theorem dX5_init_56 : decode cX5_init 56 = .ok (.aload_n 0, 1) := by decide +kernel
theorem dX5_init_57 : decode cX5_init 57 = .ok (.bipush 30, 2) := by decide +kernel
theorem dX5_init_59 : decode cX5_init 59 = .ok (.newarray .int, 2) := by decide +kernel
theorem dX5_init_61 : decode cX5_init 61 = .ok (.putfield 30, 3) := by decide +kernel
theorem dX5_init_64 : decode cX5_init 64 = .ok (.aload_n 0, 1) := by decide +kernel
theorem dX5_init_65 : decode cX5_init 65 = .ok (.bipush 30, 2) := by decide +kernel
theorem dX5_init_67 : decode cX5_init 67 = .ok (.newarray .int, 2) := by decide +kernel
theorem dX5_init_69 : decode cX5_init 69 = .ok (.putfield 33, 3) := by decide +kernel
theorem dX5_init_72 : decode cX5_init 72 = .ok (.aload_n 0, 1) := by decide +kernel
theorem dX5_init_73 : decode cX5_init 73 = .ok (.bipush 30, 2) := by decide +kernel
theorem dX5_init_75 : decode cX5_init 75 = .ok (.newarray .int, 2) := by decide +kernel
theorem dX5_init_77 : decode cX5_init 77 = .ok (.putfield 36, 3) := by decide +kernel
theorem dX5_init_80 : decode cX5_init 80 = .ok (.aload_n 0, 1) := by decide +kernel
theorem dX5_init_81 : decode cX5_init 81 = .ok (.aload_n 1, 1) := by decide +kernel
theorem dX5_init_82 : decode cX5_init 82 = .ok (.putfield 39, 3) := by decide +kernel
theorem dX5_init_85 : decode cX5_init 85 = .ok (.aload_n 0, 1) := by decide +kernel
theorem dX5_init_86 : decode cX5_init 86 = .ok (.aload_n 2, 1) := by decide +kernel
theorem dX5_init_87 : decode cX5_init 87 = .ok (.putfield 43, 3) := by decide +kernel
theorem dX5_init_90 : decode cX5_init 90 = .ok (.aload_n 0, 1) := by decide +kernel
theorem dX5_init_91 : decode cX5_init 91 = .ok (.invokevirtual 47, 3) := by decide +kernel
theorem dX5_init_94 : decode cX5_init 94 = .ok (.return_, 1) := by decide +kernel
set_option maxRecDepth 20000 in
theorem ggX5_wipe_J7_fill_53178 : GoodIn wsX5_wipe wsJ7_fill_53178 := goodIn_r _ [10] (by decide +kernel) (by decide +kernel)
set_option maxRecDepth 20000 in
theorem gX5_wipe_J7_fill_53178 : GoodIn wsX5_wipe (va_wsS RX5 50 yJ7_fill_53178 wsJ7_fill_53178) := goodIn_app (goodIn_of _ (by decide +kernel)) ggX5_wipe_J7_fill_53178
theorem dX5_wipe_0 : decode cX5_wipe 0 = .ok (.aload_n 0, 1) := by decide +kernel
theorem dX5_wipe_1 : decode cX5_wipe 1 = .ok (.getfield 9, 3) := by decide +kernel
theorem dX5_wipe_4 : decode cX5_wipe 4 = .ok (.bipush (-9), 2) := by decide +kernel
theorem dX5_wipe_6 : decode cX5_wipe 6 = .ok (.invokestatic 50, 3) := by decide +kernel
theorem dX5_wipe_9 : decode cX5_wipe 9 = .ok (.aload_n 0, 1) := by decide +kernel
theorem dX5_wipe_10 : decode cX5_wipe 10 = .ok (.getfield 15, 3) := by decide +kernel
theorem dX5_wipe_13 : decode cX5_wipe 13 = .ok (.bipush (-9), 2) := by decide +kernel
theorem dX5_wipe_15 : decode cX5_wipe 15 = .ok (.invokestatic 50, 3) := by decide +kernel
theorem dX5_wipe_18 : decode cX5_wipe 18 = .ok (.aload_n 0, 1) := by decide +kernel
theorem dX5_wipe_19 : decode cX5_wipe 19 = .ok (.getfield 18, 3) := by decide +kernel
theorem dX5_wipe_22 : decode cX5_wipe 22 = .ok (.bipush (-9), 2) := by decide +kernel
theorem dX5_wipe_24 : decode cX5_wipe 24 = .ok (.invokestatic 50, 3) := by decide +kernel
theorem dX5_wipe_27 : decode cX5_wipe 27 = .ok (.aload_n 0, 1) := by decide +kernel
theorem dX5_wipe_28 : decode cX5_wipe 28 = .ok (.getfield 21, 3) := by decide +kernel
theorem dX5_wipe_31 : decode cX5_wipe 31 = .ok (.iconst 0, 1) := by decide +kernel
theorem dX5_wipe_32 : decode cX5_wipe 32 = .ok (.invokestatic 50, 3) := by decide +kernel
theorem dX5_wipe_35 : decode cX5_wipe 35 = .ok (.aload_n 0, 1) := by decide +kernel
theorem dX5_wipe_36 : decode cX5_wipe 36 = .ok (.getfield 24, 3) := by decide +kernel
theorem dX5_wipe_39 : decode cX5_wipe 39 = .ok (.bipush (-9), 2) := by decide +kernel
theorem dX5_wipe_41 : decode cX5_wipe 41 = .ok (.invokestatic 50, 3) := by decide +kernel
theorem dX5_wipe_44 : decode cX5_wipe 44 = .ok (.aload_n 0, 1) := by decide +kernel
theorem dX5_wipe_45 : decode cX5_wipe 45 = .ok (.getfield 27, 3) := by decide +kernel
theorem dX5_wipe_48 : decode cX5_wipe 48 = .ok (.bipush (-9), 2) := by decide +kernel
theorem dX5_wipe_50 : decode cX5_wipe 50 = .ok (.invokestatic 50, 3) := by decide +kernel
theorem dX5_wipe_53 : decode cX5_wipe 53 = .ok (.return_, 1) := by decide +kernel
set_option maxRecDepth 20000 in
theorem ggX6_init_J7_fill_53178 : GoodIn wsX6_init wsJ7_fill_53178 := goodIn_r _ [10] (by decide +kernel) (by decide +kernel)
set_option maxRecDepth 20000 in
theorem gX6_init_J7_fill_53178 : GoodIn wsX6_init (va_wsS RX6 19 yJ7_fill_53178 wsJ7_fill_53178) := goodIn_app (goodIn_of _ (by decide +kernel)) ggX6_init_J7_fill_53178
theorem dX6_init_0 : decode cX6_init 0 = .ok (.aload_n 0, 1) := by decide +kernel
theorem dX6_init_1 : decode cX6_init 1 = .ok (.invokespecial 3, 3) := by decide +kernel
theorem dX6_init_4 : decode cX6_init 4 = .ok (.aload_n 0, 1) := by decide +kernel
theorem dX6_init_5 : decode cX6_init 5 = .ok (.bipush 30, 2) := by decide +kernel
theorem dX6_init_7 : decode cX6_init 7 = .ok (.newarray .int, 2) := by decide +kernel
theorem dX6_init_9 : decode cX6_init 9 = .ok (.putfield 9, 3) := by decide +kernel
theorem dX6_init_12 : decode cX6_init 12 = .ok (.aload_n 0, 1) := by decide +kernel
theorem dX6_init_13 : decode cX6_init 13 = .ok (.aload_n 1, 1) := by decide +kernel
theorem dX6_init_14 : decode cX6_init 14 = .ok (.putfield 15, 3) := by decide +kernel
theorem dX6_init_17 : decode cX6_init 17 = .ok (.aload_n 0, 1) := by decide +kernel
theorem dX6_init_18 : decode cX6_init 18 = .ok (.getfield 9, 3) := by decide +kernel
theorem dX6_init_21 : decode cX6_init 21 = .ok (.sipush 255, 3) := by decide +kernel
theorem dX6_init_24 : decode cX6_init 24 = .ok (.invokestatic 19, 3) := by decide +kernel
theorem dX6_init_27 : decode cX6_init 27 = .ok (.return_, 1) := by decide +kernel
theorem dX8_init_0 : decode cX8_init 0 = .ok (.aload_n 0, 1) := by decide +kernel
theorem dX8_init_1 : decode cX8_init 1 = .ok (.invokespecial 3, 3) := by decide +kernel
theorem dX8_init_4 : decode cX8_init 4 = .ok (.aload_n 0, 1) := by decide +kernel
theorem dX8_init_5 : decode cX8_init 5 = .ok (.bipush 30, 2) := by decide +kernel
theorem dX8_init_7 : decode cX8_init 7 = .ok (.newarray .boolean, 2) := by decide +kernel
theorem dX8_init_9 : decode cX8_init 9 = .ok (.putfield 9, 3) := by decide +kernel
theorem dX8_init_12 : decode cX8_init 12 = .ok (.aload_n 0, 1) := by decide +kernel
theorem dX8_init_13 : decode cX8_init 13 = .ok (.bipush 30, 2) := by decide +kernel
theorem dX8_init_15 : decode cX8_init 15 = .ok (.newarray .boolean, 2) := by decide +kernel
theorem dX8_init_17 : decode cX8_init 17 = .ok (.putfield 15, 3) := by decide +kernel
theorem dX8_init_20 : decode cX8_init 20 = .ok (.aload_n 0, 1) := by decide +kernel
theorem dX8_init_21 : decode cX8_init 21 = .ok (.aload_n 1, 1) := by decide +kernel
theorem dX8_init_22 : decode cX8_init 22 = .ok (.putfield 18, 3) := by decide +kernel
theorem dX8_init_25 : decode cX8_init 25 = .ok (.aload_n 0, 1) := by decide +kernel
theorem dX8_init_26 : decode cX8_init 26 = .ok (.aload_n 2, 1) := by decide +kernel
theorem dX8_init_27 : decode cX8_init 27 = .ok (.putfield 22, 3) := by decide +kernel
theorem dX8_init_30 : decode cX8_init 30 = .ok (.aload_n 0, 1) := by decide +kernel
theorem dX8_init_31 : decode cX8_init 31 = .ok (.aload_n 3, 1) := by decide +kernel
theorem dX8_init_32 : decode cX8_init 32 = .ok (.putfield 26, 3) := by decide +kernel
theorem dX8_init_35 : decode cX8_init 35 = .ok (.return_, 1) := by decide +kernel
set_option maxRecDepth 20000 in
theorem ggX9_init_X6_init : GoodIn wsX9_init wsX6_init := goodIn_r _ [25, 26, 2, 3, 4, 27, 28, 29, 30, 31, 32, 66, 67] (by decide +kernel) (by decide +kernel)
set_option maxRecDepth 20000 in
theorem gX9_init_X6_init : GoodIn wsX9_init (wsX6_init) := ggX9_init_X6_init
set_option maxRecDepth 20000 in
theorem ggX9_init_X8_init : GoodIn wsX9_init wsX8_init := goodIn_r _ [35, 36, 2, 3, 37, 38, 39, 40, 41, 42, 68, 69, 70, 71, 72, 73] (by decide +kernel) (by decide +kernel)
set_option maxRecDepth 20000 in
theorem gX9_init_X8_init : GoodIn wsX9_init (wsX8_init) := ggX9_init_X8_init
set_option maxRecDepth 20000 in
theorem ggX9_init_X0_init : GoodIn wsX9_init wsX0_init := goodIn_r _ [45, 46, 2, 3, 47, 48, 49, 50, 51, 52, 53, 54, 74, 75, 76, 77, 78, 79, 80, 68, 69, 70, 71, 72, 73] (by decide +kernel) (by decide +kernel)
set_option maxRecDepth 20000 in
theorem gX9_init_X0_init : GoodIn wsX9_init (wsX0_init) := ggX9_init_X0_init
theorem dX9_init_0 : decode cX9_init 0 = .ok (.aload_n 0, 1) := by decide +kernel
theorem dX9_init_1 : decode cX9_init 1 = .ok (.invokespecial 3, 3) := by decide +kernel
theorem dX9_init_4 : decode cX9_init 4 = .ok (.aload_n 0, 1) := by decide +kernel
theorem dX9_init_5 : decode cX9_init 5 = .ok (.bipush 100, 2) := by decide +kernel
theorem dX9_init_7 : decode cX9_init 7 = .ok (.newarray .int, 2) := by decide +kernel
theorem dX9_init_9 : decode cX9_init 9 = .ok (.putfield 9, 3) := by decide +kernel
theorem dX9_init_12 : decode cX9_init 12 = .ok (.aload_n 0, 1) := by decide +kernel
theorem dX9_init_13 : decode cX9_init 13 = .ok (.bipush 100, 2) := by decide +kernel
theorem dX9_init_15 : decode cX9_init 15 = .ok (.newarray .int, 2) := by decide +kernel
theorem dX9_init_17 : decode cX9_init 17 = .ok (.putfield 15, 3) := by decide +kernel
theorem dX9_init_20 : decode cX9_init 20 = .ok (.aload_n 0, 1) := by decide +kernel
theorem dX9_init_21 : decode cX9_init 21 = .ok (.bipush 100, 2) := by decide +kernel
theorem dX9_init_23 : decode cX9_init 23 = .ok (.newarray .int, 2) := by decide +kernel
theorem dX9_init_25 : decode cX9_init 25 = .ok (.putfield 18, 3) := by decide +kernel
theorem dX9_init_28 : decode cX9_init 28 = .ok (.aload_n 0, 1) := by decide +kernel
theorem dX9_init_29 : decode cX9_init 29 = .ok (.aload_n 1, 1) := by decide +kernel
theorem dX9_init_30 : decode cX9_init 30 = .ok (.putfield 21, 3) := by decide +kernel
theorem dX9_init_33 : decode cX9_init 33 = .ok (.aload_n 0, 1) := by decide +kernel
theorem dX9_init_34 : decode cX9_init 34 = .ok (.aload_n 2, 1) := by decide +kernel
theorem dX9_init_35 : decode cX9_init 35 = .ok (.putfield 25, 3) := by decide +kernel
theorem dX9_init_38 : decode cX9_init 38 = .ok (.aload_n 0, 1) := by decide +kernel
theorem dX9_init_39 : decode cX9_init 39 = .ok (.new 29, 3) := by decide +kernel
theorem dX9_init_42 : decode cX9_init 42 = .ok (.dup, 1) := by decide +kernel
theorem dX9_init_43 : decode cX9_init 43 = .ok (.aload_n 1, 1) := by decide +kernel
theorem dX9_init_44 : decode cX9_init 44 = .ok (.invokespecial 31, 3) := by decide +kernel
theorem dX9_init_47 : decode cX9_init 47 = .ok (.putfield 34, 3) := by decide +kernel
theorem dX9_init_50 : decode cX9_init 50 = .ok (.aload_n 0, 1) := by decide +kernel
theorem dX9_init_51 : decode cX9_init 51 = .ok (.new 38, 3) := by decide +kernel
theorem dX9_init_54 : decode cX9_init 54 = .ok (.dup, 1) := by decide +kernel
theorem dX9_init_55 : decode cX9_init 55 = .ok (.aload_n 1, 1) := by decide +kernel
theorem dX9_init_56 : decode cX9_init 56 = .ok (.aload_n 3, 1) := by decide +kernel
theorem dX9_init_57 : decode cX9_init 57 = .ok (.aload_n 0, 1) := by decide +kernel
theorem dX9_init_58 : decode cX9_init 58 = .ok (.getfield 34, 3) := by decide +kernel
theorem dX9_init_61 : decode cX9_init 61 = .ok (.invokespecial 40, 3) := by decide +kernel
theorem dX9_init_64 : decode cX9_init 64 = .ok (.putfield 43, 3) := by decide +kernel
theorem dX9_init_67 : decode cX9_init 67 = .ok (.aload_n 0, 1) := by decide +kernel
theorem dX9_init_68 : decode cX9_init 68 = .ok (.new 47, 3) := by decide +kernel
theorem dX9_init_71 : decode cX9_init 71 = .ok (.dup, 1) := by decide +kernel
theorem dX9_init_72 : decode cX9_init 72 = .ok (.aload_n 1, 1) := by decide +kernel
theorem dX9_init_73 : decode cX9_init 73 = .ok (.aload_n 2, 1) := by decide +kernel
theorem dX9_init_74 : decode cX9_init 74 = .ok (.aload_n 3, 1) := by decide +kernel
theorem dX9_init_75 : decode cX9_init 75 = .ok (.aload 4, 2) := by decide +kernel
theorem dX9_init_77 : decode cX9_init 77 = .ok (.aload_n 0, 1) := by decide +kernel
theorem dX9_init_78 : decode cX9_init 78 = .ok (.getfield 43, 3) := by decide +kernel
theorem dX9_init_81 : decode cX9_init 81 = .ok (.invokespecial 49, 3) := by decide +kernel
theorem dX9_init_84 : decode cX9_init 84 = .ok (.putfield 52, 3) := by decide +kernel
theorem dX9_init_87 : decode cX9_init 87 = .ok (.aload_n 0, 1) := by decide +kernel
theorem dX9_init_88 : decode cX9_init 88 = .ok (.bipush (-9), 2) := by decide +kernel
theorem dX9_init_90 : decode cX9_init 90 = .ok (.putfield 56, 3) := by decide +kernel
theorem dX9_init_93 : decode cX9_init 93 = .ok (.return_, 1) := by decide +kernel
theorem dX9_end_0 : decode cX9_end 0 = .ok (.aload_n 0, 1) := by decide +kernel
theorem dX9_end_1 : decode cX9_end 1 = .ok (.iconst 0, 1) := by decide +kernel
theorem dX9_end_2 : decode cX9_end 2 = .ok (.putfield 72, 3) := by decide +kernel
theorem dX9_end_5 : decode cX9_end 5 = .ok (.aload_n 0, 1) := by decide +kernel
theorem dX9_end_6 : decode cX9_end 6 = .ok (.iconst 0, 1) := by decide +kernel
theorem dX9_end_7 : decode cX9_end 7 = .ok (.putfield 77, 3) := by decide +kernel
theorem dX9_end_10 : decode cX9_end 10 = .ok (.return_, 1) := by decide +kernel
set_option maxRecDepth 20000 in
theorem ggX9_isAct_X11_isBelow : GoodIn wsX9_isAct wsX11_isBelow := goodIn_r _ [4] (by decide +kernel) (by decide +kernel)
set_option maxRecDepth 20000 in
theorem gX9_isAct_X11_isBelow_n101 : GoodIn wsX9_isAct (wsX11_isBelow) := ggX9_isAct_X11_isBelow
set_option maxRecDepth 20000 in
theorem ggX9_isAct_X0_hasX : GoodIn wsX9_isAct wsX0_hasX := goodIn_r _ [8] (by decide +kernel) (by decide +kernel)
set_option maxRecDepth 20000 in
theorem gX9_isAct_X0_hasX : GoodIn wsX9_isAct (va_wsS RX9 104 yX0_hasX wsX0_hasX) := goodIn_app (goodIn_of _ (by decide +kernel)) ggX9_isAct_X0_hasX
set_option maxRecDepth 20000 in
theorem ggX9_isAct_X10_hasObject : GoodIn wsX9_isAct wsX10_hasObject := goodIn_r _ [13, 14, 29, 30, 31, 32, 33, 34, 35] (by decide +kernel) (by decide +kernel)
set_option maxRecDepth 20000 in
theorem gX9_isAct_X10_hasObject : GoodIn wsX9_isAct (wsV RX9 108 RX10 yX10_hasObject wsX10_hasObject) := goodIn_app (goodIn_of _ (by decide +kernel)) ggX9_isAct_X10_hasObject
set_option maxRecDepth 20000 in
theorem ggX9_isAct_X0_hasY : GoodIn wsX9_isAct wsX0_hasY := goodIn_r _ [17] (by decide +kernel) (by decide +kernel)
set_option maxRecDepth 20000 in
theorem gX9_isAct_X0_hasY : GoodIn wsX9_isAct (va_wsS RX9 111 yX0_hasY wsX0_hasY) := goodIn_app (goodIn_of _ (by decide +kernel)) ggX9_isAct_X0_hasY
theorem dX9_isAct_0 : decode cX9_isAct 0 = .ok (.iload_n 1, 1) := by decide +kernel
theorem dX9_isAct_1 : decode cX9_isAct 1 = .ok (.ifCond .lt 9, 3) := by decide +kernel
theorem dX9_isAct_4 : decode cX9_isAct 4 = .ok (.iload_n 1, 1) := by decide +kernel
theorem dX9_isAct_5 : decode cX9_isAct 5 = .ok (.bipush 12, 2) := by decide +kernel
theorem dX9_isAct_7 : decode cX9_isAct 7 = .ok (.if_icmp .le 5, 3) := by decide +kernel
theorem dX9_isAct_10 : decode cX9_isAct 10 = .ok (.iconst 0, 1) := by decide +kernel
theorem dX9_isAct_11 : decode cX9_isAct 11 = .ok (.ireturn, 1) := by decide +kernel
theorem dX9_isAct_12 : decode cX9_isAct 12 = .ok (.iload_n 1, 1) := by decide +kernel
theorem dX9_isAct_13 : decode cX9_isAct 13 = .ok (.ifCond .ne 10, 3) := by decide +kernel
theorem dX9_isAct_16 : decode cX9_isAct 16 = .ok (.iload_n 2, 1) := by decide +kernel
theorem dX9_isAct_17 : decode cX9_isAct 17 = .ok (.bipush 10, 2) := by decide +kernel
theorem dX9_isAct_19 : decode cX9_isAct 19 = .ok (.invokestatic 101, 3) := by decide +kernel
theorem dX9_isAct_22 : decode cX9_isAct 22 = .ok (.ireturn, 1) := by decide +kernel
theorem dX9_isAct_23 : decode cX9_isAct 23 = .ok (.iload_n 1, 1) := by decide +kernel
theorem dX9_isAct_24 : decode cX9_isAct 24 = .ok (.invokestatic 104, 3) := by decide +kernel
theorem dX9_isAct_27 : decode cX9_isAct 27 = .ok (.ifCond .eq 14, 3) := by decide +kernel
theorem dX9_isAct_30 : decode cX9_isAct 30 = .ok (.aload_n 0, 1) := by decide +kernel
theorem dX9_isAct_31 : decode cX9_isAct 31 = .ok (.getfield 21, 3) := by decide +kernel
theorem dX9_isAct_34 : decode cX9_isAct 34 = .ok (.iload_n 2, 1) := by decide +kernel
theorem dX9_isAct_35 : decode cX9_isAct 35 = .ok (.invokevirtual 108, 3) := by decide +kernel
theorem dX9_isAct_38 : decode cX9_isAct 38 = .ok (.ifCond .eq 25, 3) := by decide +kernel
theorem dX9_isAct_41 : decode cX9_isAct 41 = .ok (.iload_n 1, 1) := by decide +kernel
theorem dX9_isAct_42 : decode cX9_isAct 42 = .ok (.invokestatic 111, 3) := by decide +kernel
theorem dX9_isAct_45 : decode cX9_isAct 45 = .ok (.ifCond .eq 14, 3) := by decide +kernel
theorem dX9_isAct_48 : decode cX9_isAct 48 = .ok (.aload_n 0, 1) := by decide +kernel
theorem dX9_isAct_49 : decode cX9_isAct 49 = .ok (.getfield 21, 3) := by decide +kernel
theorem dX9_isAct_52 : decode cX9_isAct 52 = .ok (.iload_n 3, 1) := by decide +kernel
theorem dX9_isAct_53 : decode cX9_isAct 53 = .ok (.invokevirtual 108, 3) := by decide +kernel
theorem dX9_isAct_56 : decode cX9_isAct 56 = .ok (.ifCond .eq 7, 3) := by decide +kernel
theorem dX9_isAct_59 : decode cX9_isAct 59 = .ok (.iconst 1, 1) := by decide +kernel
theorem dX9_isAct_60 : decode cX9_isAct 60 = .ok (.goto 4, 3) := by decide +kernel
theorem dX9_isAct_63 : decode cX9_isAct 63 = .ok (.iconst 0, 1) := by decide +kernel
theorem dX9_isAct_64 : decode cX9_isAct 64 = .ok (.ireturn, 1) := by decide +kernel
set_option maxRecDepth 20000 in
theorem ggX10_init_J7_fill_53178 : GoodIn wsX10_init wsJ7_fill_53178 := goodIn_r _ [14] (by decide +kernel) (by decide +kernel)
set_option maxRecDepth 20000 in
theorem gX10_init_J7_fill_53178 : GoodIn wsX10_init (va_wsS RX10 27 yJ7_fill_53178 wsJ7_fill_53178) := goodIn_app (goodIn_of _ (by decide +kernel)) ggX10_init_J7_fill_53178
theorem dX10_init_0 : decode cX10_init 0 = .ok (.aload_n 0, 1) := by decide +kernel
theorem dX10_init_1 : decode cX10_init 1 = .ok (.invokespecial 3, 3) := by decide +kernel
theorem dX10_init_4 : decode cX10_init 4 = .ok (.aload_n 0, 1) := by decide +kernel
theorem dX10_init_5 : decode cX10_init 5 = .ok (.bipush 24, 2) := by decide +kernel
theorem dX10_init_7 : decode cX10_init 7 = .ok (.newarray .int, 2) := by decide +kernel
theorem dX10_init_9 : decode cX10_init 9 = .ok (.putfield 9, 3) := by decide +kernel
theorem dX10_init_12 : decode cX10_init 12 = .ok (.aload_n 0, 1) := by decide +kernel
end
section
theorem dX10_init_13 : decode cX10_init 13 = .ok (.bipush 24, 2) := by decide +kernel
theorem dX10_init_15 : decode cX10_init 15 = .ok (.newarray .int, 2) := by decide +kernel
theorem dX10_init_17 : decode cX10_init 17 = .ok (.putfield 15, 3) := by decide +kernel
theorem dX10_init_20 : decode cX10_init 20 = .ok (.aload_n 0, 1) := by decide +kernel
theorem dX10_init_21 : decode cX10_init 21 = .ok (.sipush 144, 3) := by decide +kernel
theorem dX10_init_24 : decode cX10_init 24 = .ok (.newarray .int, 2) := by decide +kernel
theorem dX10_init_26 : decode cX10_init 26 = .ok (.putfield 18, 3) := by decide +kernel
theorem dX10_init_29 : decode cX10_init 29 = .ok (.aload_n 0, 1) := by decide +kernel
theorem dX10_init_30 : decode cX10_init 30 = .ok (.bipush 30, 2) := by decide +kernel
theorem dX10_init_32 : decode cX10_init 32 = .ok (.newarray .int, 2) := by decide +kernel
theorem dX10_init_34 : decode cX10_init 34 = .ok (.putfield 21, 3) := by decide +kernel
theorem dX10_init_37 : decode cX10_init 37 = .ok (.aload_n 0, 1) := by decide +kernel
theorem dX10_init_38 : decode cX10_init 38 = .ok (.bipush 30, 2) := by decide +kernel
theorem dX10_init_40 : decode cX10_init 40 = .ok (.newarray .int, 2) := by decide +kernel
theorem dX10_init_42 : decode cX10_init 42 = .ok (.putfield 24, 3) := by decide +kernel
theorem dX10_init_45 : decode cX10_init 45 = .ok (.aload_n 0, 1) := by decide +kernel
theorem dX10_init_46 : decode cX10_init 46 = .ok (.getfield 18, 3) := by decide +kernel
theorem dX10_init_49 : decode cX10_init 49 = .ok (.bipush (-9), 2) := by decide +kernel
theorem dX10_init_51 : decode cX10_init 51 = .ok (.invokestatic 27, 3) := by decide +kernel
theorem dX10_init_54 : decode cX10_init 54 = .ok (.iconst 0, 1) := by decide +kernel
theorem dX10_init_55 : decode cX10_init 55 = .ok (.istore_n 1, 1) := by decide +kernel
theorem dX10_init_56 : decode cX10_init 56 = .ok (.iload_n 1, 1) := by decide +kernel
theorem dX10_init_57 : decode cX10_init 57 = .ok (.iconst 5, 1) := by decide +kernel
theorem dX10_init_58 : decode cX10_init 58 = .ok (.if_icmp .gt 33, 3) := by decide +kernel
theorem dX10_init_61 : decode cX10_init 61 = .ok (.aload_n 0, 1) := by decide +kernel
theorem dX10_init_62 : decode cX10_init 62 = .ok (.getfield 9, 3) := by decide +kernel
theorem dX10_init_65 : decode cX10_init 65 = .ok (.iload_n 1, 1) := by decide +kernel
theorem dX10_init_66 : decode cX10_init 66 = .ok (.iload_n 1, 1) := by decide +kernel
theorem dX10_init_67 : decode cX10_init 67 = .ok (.iconst 1, 1) := by decide +kernel
theorem dX10_init_68 : decode cX10_init 68 = .ok (.if_icmp .gt 8, 3) := by decide +kernel
theorem dX10_init_71 : decode cX10_init 71 = .ok (.bipush (-9), 2) := by decide +kernel
theorem dX10_init_73 : decode cX10_init 73 = .ok (.goto 4, 3) := by decide +kernel
theorem dX10_init_76 : decode cX10_init 76 = .ok (.iconst 1, 1) := by decide +kernel
theorem dX10_init_77 : decode cX10_init 77 = .ok (.iastore, 1) := by decide +kernel
theorem dX10_init_78 : decode cX10_init 78 = .ok (.aload_n 0, 1) := by decide +kernel
theorem dX10_init_79 : decode cX10_init 79 = .ok (.getfield 15, 3) := by decide +kernel
theorem dX10_init_82 : decode cX10_init 82 = .ok (.iload_n 1, 1) := by decide +kernel
theorem dX10_init_83 : decode cX10_init 83 = .ok (.iload_n 1, 1) := by decide +kernel
theorem dX10_init_84 : decode cX10_init 84 = .ok (.iastore, 1) := by decide +kernel
theorem dX10_init_85 : decode cX10_init 85 = .ok (.iinc 1 1, 3) := by decide +kernel
theorem dX10_init_88 : decode cX10_init 88 = .ok (.goto (-32), 3) := by decide +kernel
theorem dX10_init_91 : decode cX10_init 91 = .ok (.aload_n 0, 1) := by decide +kernel
theorem dX10_init_92 : decode cX10_init 92 = .ok (.bipush 6, 2) := by decide +kernel
theorem dX10_init_94 : decode cX10_init 94 = .ok (.putfield 33, 3) := by decide +kernel
theorem dX10_init_97 : decode cX10_init 97 = .ok (.return_, 1) := by decide +kernel
theorem dX10_hasKind_0 : decode cX10_hasKind 0 = .ok (.iload_n 1, 1) := by decide +kernel
theorem dX10_hasKind_1 : decode cX10_hasKind 1 = .ok (.ifCond .lt 15, 3) := by decide +kernel
theorem dX10_hasKind_4 : decode cX10_hasKind 4 = .ok (.iload_n 1, 1) := by decide +kernel
theorem dX10_hasKind_5 : decode cX10_hasKind 5 = .ok (.aload_n 0, 1) := by decide +kernel
theorem dX10_hasKind_6 : decode cX10_hasKind 6 = .ok (.getfield 33, 3) := by decide +kernel
theorem dX10_hasKind_9 : decode cX10_hasKind 9 = .ok (.if_icmp .ge 7, 3) := by decide +kernel
theorem dX10_hasKind_12 : decode cX10_hasKind 12 = .ok (.iconst 1, 1) := by decide +kernel
theorem dX10_hasKind_13 : decode cX10_hasKind 13 = .ok (.goto 4, 3) := by decide +kernel
theorem dX10_hasKind_16 : decode cX10_hasKind 16 = .ok (.iconst 0, 1) := by decide +kernel
theorem dX10_hasKind_17 : decode cX10_hasKind 17 = .ok (.ireturn, 1) := by decide +kernel
theorem dX10_hasObject_0 : decode cX10_hasObject 0 = .ok (.iload_n 1, 1) := by decide +kernel
theorem dX10_hasObject_1 : decode cX10_hasObject 1 = .ok (.ifCond .lt 15, 3) := by decide +kernel
theorem dX10_hasObject_4 : decode cX10_hasObject 4 = .ok (.iload_n 1, 1) := by decide +kernel
theorem dX10_hasObject_5 : decode cX10_hasObject 5 = .ok (.aload_n 0, 1) := by decide +kernel
theorem dX10_hasObject_6 : decode cX10_hasObject 6 = .ok (.getfield 37, 3) := by decide +kernel
theorem dX10_hasObject_9 : decode cX10_hasObject 9 = .ok (.if_icmp .ge 7, 3) := by decide +kernel
theorem dX10_hasObject_12 : decode cX10_hasObject 12 = .ok (.iconst 1, 1) := by decide +kernel
theorem dX10_hasObject_13 : decode cX10_hasObject 13 = .ok (.goto 4, 3) := by decide +kernel
theorem dX10_hasObject_16 : decode cX10_hasObject 16 = .ok (.iconst 0, 1) := by decide +kernel
theorem dX10_hasObject_17 : decode cX10_hasObject 17 = .ok (.ireturn, 1) := by decide +kernel
theorem dX10_addKind_0 : decode cX10_addKind 0 = .ok (.aload_n 0, 1) := by decide +kernel
theorem dX10_addKind_1 : decode cX10_addKind 1 = .ok (.getfield 9, 3) := by decide +kernel
theorem dX10_addKind_4 : decode cX10_addKind 4 = .ok (.aload_n 0, 1) := by decide +kernel
theorem dX10_addKind_5 : decode cX10_addKind 5 = .ok (.getfield 33, 3) := by decide +kernel
theorem dX10_addKind_8 : decode cX10_addKind 8 = .ok (.iload_n 1, 1) := by decide +kernel
theorem dX10_addKind_9 : decode cX10_addKind 9 = .ok (.iastore, 1) := by decide +kernel
theorem dX10_addKind_10 : decode cX10_addKind 10 = .ok (.aload_n 0, 1) := by decide +kernel
theorem dX10_addKind_11 : decode cX10_addKind 11 = .ok (.getfield 15, 3) := by decide +kernel
theorem dX10_addKind_14 : decode cX10_addKind 14 = .ok (.aload_n 0, 1) := by decide +kernel
theorem dX10_addKind_15 : decode cX10_addKind 15 = .ok (.getfield 33, 3) := by decide +kernel
theorem dX10_addKind_18 : decode cX10_addKind 18 = .ok (.aload_n 0, 1) := by decide +kernel
theorem dX10_addKind_19 : decode cX10_addKind 19 = .ok (.getfield 15, 3) := by decide +kernel
theorem dX10_addKind_22 : decode cX10_addKind 22 = .ok (.iload_n 1, 1) := by decide +kernel
theorem dX10_addKind_23 : decode cX10_addKind 23 = .ok (.iaload, 1) := by decide +kernel
theorem dX10_addKind_24 : decode cX10_addKind 24 = .ok (.iastore, 1) := by decide +kernel
theorem dX10_addKind_25 : decode cX10_addKind 25 = .ok (.aload_n 0, 1) := by decide +kernel
theorem dX10_addKind_26 : decode cX10_addKind 26 = .ok (.dup, 1) := by decide +kernel
theorem dX10_addKind_27 : decode cX10_addKind 27 = .ok (.getfield 33, 3) := by decide +kernel
theorem dX10_addKind_30 : decode cX10_addKind 30 = .ok (.dup_x1, 1) := by decide +kernel
theorem dX10_addKind_31 : decode cX10_addKind 31 = .ok (.iconst 1, 1) := by decide +kernel
theorem dX10_addKind_32 : decode cX10_addKind 32 = .ok (.iadd, 1) := by decide +kernel
theorem dX10_addKind_33 : decode cX10_addKind 33 = .ok (.putfield 33, 3) := by decide +kernel
theorem dX10_addKind_36 : decode cX10_addKind 36 = .ok (.ireturn, 1) := by decide +kernel
theorem dX10_addObject_0 : decode cX10_addObject 0 = .ok (.aload_n 0, 1) := by decide +kernel
theorem dX10_addObject_1 : decode cX10_addObject 1 = .ok (.getfield 21, 3) := by decide +kernel
theorem dX10_addObject_4 : decode cX10_addObject 4 = .ok (.aload_n 0, 1) := by decide +kernel
theorem dX10_addObject_5 : decode cX10_addObject 5 = .ok (.getfield 37, 3) := by decide +kernel
theorem dX10_addObject_8 : decode cX10_addObject 8 = .ok (.iload_n 1, 1) := by decide +kernel
theorem dX10_addObject_9 : decode cX10_addObject 9 = .ok (.iastore, 1) := by decide +kernel
theorem dX10_addObject_10 : decode cX10_addObject 10 = .ok (.aload_n 0, 1) := by decide +kernel
theorem dX10_addObject_11 : decode cX10_addObject 11 = .ok (.getfield 24, 3) := by decide +kernel
theorem dX10_addObject_14 : decode cX10_addObject 14 = .ok (.aload_n 0, 1) := by decide +kernel
theorem dX10_addObject_15 : decode cX10_addObject 15 = .ok (.getfield 37, 3) := by decide +kernel
theorem dX10_addObject_18 : decode cX10_addObject 18 = .ok (.iload_n 2, 1) := by decide +kernel
theorem dX10_addObject_19 : decode cX10_addObject 19 = .ok (.iastore, 1) := by decide +kernel
theorem dX10_addObject_20 : decode cX10_addObject 20 = .ok (.aload_n 0, 1) := by decide +kernel
theorem dX10_addObject_21 : decode cX10_addObject 21 = .ok (.dup, 1) := by decide +kernel
theorem dX10_addObject_22 : decode cX10_addObject 22 = .ok (.getfield 37, 3) := by decide +kernel
theorem dX10_addObject_25 : decode cX10_addObject 25 = .ok (.dup_x1, 1) := by decide +kernel
theorem dX10_addObject_26 : decode cX10_addObject 26 = .ok (.iconst 1, 1) := by decide +kernel
theorem dX10_addObject_27 : decode cX10_addObject 27 = .ok (.iadd, 1) := by decide +kernel
theorem dX10_addObject_28 : decode cX10_addObject 28 = .ok (.putfield 37, 3) := by decide +kernel
theorem dX10_addObject_31 : decode cX10_addObject 31 = .ok (.ireturn, 1) := by decide +kernel
theorem dX10_changeStandard_0 : decode cX10_changeStandard 0 = .ok (.aload_n 0, 1) := by decide +kernel
theorem dX10_changeStandard_1 : decode cX10_changeStandard 1 = .ok (.getfield 18, 3) := by decide +kernel
theorem dX10_changeStandard_4 : decode cX10_changeStandard 4 = .ok (.iload_n 1, 1) := by decide +kernel
theorem dX10_changeStandard_5 : decode cX10_changeStandard 5 = .ok (.bipush 6, 2) := by decide +kernel
theorem dX10_changeStandard_7 : decode cX10_changeStandard 7 = .ok (.imul, 1) := by decide +kernel
theorem dX10_changeStandard_8 : decode cX10_changeStandard 8 = .ok (.iload_n 2, 1) := by decide +kernel
theorem dX10_changeStandard_9 : decode cX10_changeStandard 9 = .ok (.iadd, 1) := by decide +kernel
theorem dX10_changeStandard_10 : decode cX10_changeStandard 10 = .ok (.iaload, 1) := by decide +kernel
theorem dX10_changeStandard_11 : decode cX10_changeStandard 11 = .ok (.istore 4, 2) := by decide +kernel
theorem dX10_changeStandard_13 : decode cX10_changeStandard 13 = .ok (.aload_n 0, 1) := by decide +kernel
theorem dX10_changeStandard_14 : decode cX10_changeStandard 14 = .ok (.getfield 18, 3) := by decide +kernel
theorem dX10_changeStandard_17 : decode cX10_changeStandard 17 = .ok (.iload_n 1, 1) := by decide +kernel
theorem dX10_changeStandard_18 : decode cX10_changeStandard 18 = .ok (.bipush 6, 2) := by decide +kernel
theorem dX10_changeStandard_20 : decode cX10_changeStandard 20 = .ok (.imul, 1) := by decide +kernel
theorem dX10_changeStandard_21 : decode cX10_changeStandard 21 = .ok (.iload_n 2, 1) := by decide +kernel
theorem dX10_changeStandard_22 : decode cX10_changeStandard 22 = .ok (.iadd, 1) := by decide +kernel
theorem dX10_changeStandard_23 : decode cX10_changeStandard 23 = .ok (.iload_n 3, 1) := by decide +kernel
theorem dX10_changeStandard_24 : decode cX10_changeStandard 24 = .ok (.iastore, 1) := by decide +kernel
theorem dX10_changeStandard_25 : decode cX10_changeStandard 25 = .ok (.iload 4, 2) := by decide +kernel
theorem dX10_changeStandard_27 : decode cX10_changeStandard 27 = .ok (.ireturn, 1) := by decide +kernel
set_option maxRecDepth 20000 in
theorem ggX11_init_X10_init : GoodIn wsX11_init wsX10_init := goodIn_r _ [39, 40, 2, 3, 33, 41, 42, 43, 44, 45, 46, 47, 48, 49, 50, 164, 165, 166, 167, 168, 169, 170] (by decide +kernel) (by decide +kernel)
set_option maxRecDepth 20000 in
theorem gX11_init_X10_init : GoodIn wsX11_init (wsX10_init) := ggX11_init_X10_init
set_option maxRecDepth 20000 in
theorem ggX11_init_X1_init : GoodIn wsX11_init wsX1_init := goodIn_r _ [53, 54, 2, 3, 33, 55, 56, 57, 58, 59, 60, 61, 62, 63, 64, 65, 66, 67, 68, 69, 70, 71, 72, 73, 74, 75, 76, 77, 48, 49, 50, 78, 182, 183, 184, 185, 186, 187, 188, 189, 190, 191, 192, 193, 194, 195, 196, 230, 231] (by decide +kernel) (by decide +kernel)
set_option maxRecDepth 20000 in
theorem gX11_init_X1_init : GoodIn wsX11_init (wsX1_init) := ggX11_init_X1_init
set_option maxRecDepth 20000 in
theorem ggX11_init_X5_init : GoodIn wsX11_init wsX5_init := goodIn_r _ [81, 82, 2, 3, 33, 83, 84, 85, 86, 87, 88, 89, 90, 91, 92, 93, 94, 95, 96, 14, 97, 98, 48, 49, 50, 197, 198, 199, 200, 201, 202, 203, 204, 205, 206, 207] (by decide +kernel) (by decide +kernel)
set_option maxRecDepth 20000 in
theorem gX11_init_X5_init : GoodIn wsX11_init (wsX5_init) := ggX11_init_X5_init
set_option maxRecDepth 20000 in
theorem ggX11_init_X2_init : GoodIn wsX11_init wsX2_init := goodIn_r _ [101, 102, 2, 3, 33, 103, 104, 208, 209, 210, 211] (by decide +kernel) (by decide +kernel)
set_option maxRecDepth 20000 in
theorem gX11_init_X2_init : GoodIn wsX11_init (wsX2_init) := ggX11_init_X2_init
set_option maxRecDepth 20000 in
theorem ggX11_init_X9_init : GoodIn wsX11_init wsX9_init := goodIn_r _ [107, 108, 2, 3, 33, 109, 110, 111, 112, 113, 114, 68, 69, 115, 116, 117, 118, 119, 120, 121, 122, 123, 124, 125, 72, 73, 74, 75, 76, 77, 48, 49, 50, 126, 127, 128, 129, 59, 130, 131, 132, 133, 134, 135, 136, 137, 138, 139, 140, 141, 142, 143, 144, 145, 146, 212, 213, 214, 215, 216, 217, 218, 219, 220, 221, 222, 230, 231, 232, 233, 234, 235, 236, 237, 238, 239, 240, 241, 242, 243, 244] (by decide +kernel) (by decide +kernel)
set_option maxRecDepth 20000 in
theorem gX11_init_X9_init : GoodIn wsX11_init (wsX9_init) := ggX11_init_X9_init
set_option maxRecDepth 20000 in
theorem ggX11_init_X4_init : GoodIn wsX11_init wsX4_init := goodIn_r _ [149, 150, 2, 3, 33, 151, 152, 153, 154, 155, 48, 49, 50, 223, 224, 225] (by decide +kernel) (by decide +kernel)
set_option maxRecDepth 20000 in
theorem gX11_init_X4_init : GoodIn wsX11_init (wsX4_init) := ggX11_init_X4_init
set_option maxRecDepth 20000 in
theorem ggX11_init_X3_init : GoodIn wsX11_init wsX3_init := goodIn_r _ [158, 159, 2, 3, 33, 160, 161, 162, 163, 48, 49, 50, 226, 227, 228, 229] (by decide +kernel) (by decide +kernel)
set_option maxRecDepth 20000 in
theorem gX11_init_X3_init : GoodIn wsX11_init (wsX3_init) := ggX11_init_X3_init
theorem dX11_init_0 : decode cX11_init 0 = .ok (.aload_n 0, 1) := by decide +kernel
theorem dX11_init_1 : decode cX11_init 1 = .ok (.invokespecial 1, 3) := by decide +kernel
theorem dX11_init_4 : decode cX11_init 4 = .ok (.aload_n 0, 1) := by decide +kernel
theorem dX11_init_5 : decode cX11_init 5 = .ok (.new 7, 3) := by decide +kernel
theorem dX11_init_8 : decode cX11_init 8 = .ok (.dup, 1) := by decide +kernel
theorem dX11_init_9 : decode cX11_init 9 = .ok (.invokespecial 9, 3) := by decide +kernel
theorem dX11_init_12 : decode cX11_init 12 = .ok (.putfield 10, 3) := by decide +kernel
theorem dX11_init_15 : decode cX11_init 15 = .ok (.aload_n 0, 1) := by decide +kernel
theorem dX11_init_16 : decode cX11_init 16 = .ok (.new 16, 3) := by decide +kernel
theorem dX11_init_19 : decode cX11_init 19 = .ok (.dup, 1) := by decide +kernel
theorem dX11_init_20 : decode cX11_init 20 = .ok (.aload_n 0, 1) := by decide +kernel
theorem dX11_init_21 : decode cX11_init 21 = .ok (.getfield 10, 3) := by decide +kernel
theorem dX11_init_24 : decode cX11_init 24 = .ok (.invokespecial 18, 3) := by decide +kernel
theorem dX11_init_27 : decode cX11_init 27 = .ok (.putfield 21, 3) := by decide +kernel
theorem dX11_init_30 : decode cX11_init 30 = .ok (.aload_n 0, 1) := by decide +kernel
theorem dX11_init_31 : decode cX11_init 31 = .ok (.new 25, 3) := by decide +kernel
theorem dX11_init_34 : decode cX11_init 34 = .ok (.dup, 1) := by decide +kernel
theorem dX11_init_35 : decode cX11_init 35 = .ok (.aload_n 0, 1) := by decide +kernel
theorem dX11_init_36 : decode cX11_init 36 = .ok (.getfield 10, 3) := by decide +kernel
theorem dX11_init_39 : decode cX11_init 39 = .ok (.aload_n 0, 1) := by decide +kernel
theorem dX11_init_40 : decode cX11_init 40 = .ok (.getfield 21, 3) := by decide +kernel
theorem dX11_init_43 : decode cX11_init 43 = .ok (.invokespecial 27, 3) := by decide +kernel
theorem dX11_init_46 : decode cX11_init 46 = .ok (.putfield 30, 3) := by decide +kernel
theorem dX11_init_49 : decode cX11_init 49 = .ok (.aload_n 0, 1) := by decide +kernel
theorem dX11_init_50 : decode cX11_init 50 = .ok (.new 34, 3) := by decide +kernel
theorem dX11_init_53 : decode cX11_init 53 = .ok (.dup, 1) := by decide +kernel
theorem dX11_init_54 : decode cX11_init 54 = .ok (.aload_n 0, 1) := by decide +kernel
theorem dX11_init_55 : decode cX11_init 55 = .ok (.getfield 10, 3) := by decide +kernel
theorem dX11_init_58 : decode cX11_init 58 = .ok (.invokespecial 36, 3) := by decide +kernel
theorem dX11_init_61 : decode cX11_init 61 = .ok (.putfield 37, 3) := by decide +kernel
theorem dX11_init_64 : decode cX11_init 64 = .ok (.aload_n 0, 1) := by decide +kernel
theorem dX11_init_65 : decode cX11_init 65 = .ok (.new 41, 3) := by decide +kernel
theorem dX11_init_68 : decode cX11_init 68 = .ok (.dup, 1) := by decide +kernel
theorem dX11_init_69 : decode cX11_init 69 = .ok (.aload_n 0, 1) := by decide +kernel
theorem dX11_init_70 : decode cX11_init 70 = .ok (.getfield 10, 3) := by decide +kernel
theorem dX11_init_73 : decode cX11_init 73 = .ok (.aload_n 0, 1) := by decide +kernel
theorem dX11_init_74 : decode cX11_init 74 = .ok (.getfield 21, 3) := by decide +kernel
theorem dX11_init_77 : decode cX11_init 77 = .ok (.aload_n 0, 1) := by decide +kernel
theorem dX11_init_78 : decode cX11_init 78 = .ok (.getfield 30, 3) := by decide +kernel
theorem dX11_init_81 : decode cX11_init 81 = .ok (.aload_n 0, 1) := by decide +kernel
theorem dX11_init_82 : decode cX11_init 82 = .ok (.getfield 37, 3) := by decide +kernel
theorem dX11_init_85 : decode cX11_init 85 = .ok (.invokespecial 43, 3) := by decide +kernel
theorem dX11_init_88 : decode cX11_init 88 = .ok (.putfield 46, 3) := by decide +kernel
theorem dX11_init_91 : decode cX11_init 91 = .ok (.aload_n 0, 1) := by decide +kernel
theorem dX11_init_92 : decode cX11_init 92 = .ok (.new 50, 3) := by decide +kernel
theorem dX11_init_95 : decode cX11_init 95 = .ok (.dup, 1) := by decide +kernel
theorem dX11_init_96 : decode cX11_init 96 = .ok (.invokespecial 52, 3) := by decide +kernel
theorem dX11_init_99 : decode cX11_init 99 = .ok (.putfield 53, 3) := by decide +kernel
theorem dX11_init_102 : decode cX11_init 102 = .ok (.aload_n 0, 1) := by decide +kernel
theorem dX11_init_103 : decode cX11_init 103 = .ok (.new 57, 3) := by decide +kernel
theorem dX11_init_106 : decode cX11_init 106 = .ok (.dup, 1) := by decide +kernel
theorem dX11_init_107 : decode cX11_init 107 = .ok (.invokespecial 59, 3) := by decide +kernel
theorem dX11_init_110 : decode cX11_init 110 = .ok (.putfield 60, 3) := by decide +kernel
theorem dX11_init_113 : decode cX11_init 113 = .ok (.aload_n 0, 1) := by decide +kernel
theorem dX11_init_114 : decode cX11_init 114 = .ok (.aconst_null, 1) := by decide +kernel
theorem dX11_init_115 : decode cX11_init 115 = .ok (.putfield 64, 3) := by decide +kernel
theorem dX11_init_118 : decode cX11_init 118 = .ok (.aload_n 0, 1) := by decide +kernel
theorem dX11_init_119 : decode cX11_init 119 = .ok (.bipush 7, 2) := by decide +kernel
theorem dX11_init_121 : decode cX11_init 121 = .ok (.newarray .int, 2) := by decide +kernel
theorem dX11_init_123 : decode cX11_init 123 = .ok (.putfield 68, 3) := by decide +kernel
theorem dX11_init_126 : decode cX11_init 126 = .ok (.aload_n 0, 1) := by decide +kernel
theorem dX11_init_127 : decode cX11_init 127 = .ok (.iconst 0, 1) := by decide +kernel
theorem dX11_init_128 : decode cX11_init 128 = .ok (.putfield 72, 3) := by decide +kernel
theorem dX11_init_131 : decode cX11_init 131 = .ok (.aload_n 0, 1) := by decide +kernel
theorem dX11_init_132 : decode cX11_init 132 = .ok (.lconst 0, 1) := by decide +kernel
theorem dX11_init_133 : decode cX11_init 133 = .ok (.putfield 76, 3) := by decide +kernel
theorem dX11_init_136 : decode cX11_init 136 = .ok (.return_, 1) := by decide +kernel
theorem dX11_answerFinding_0 : decode cX11_answerFinding 0 = .ok (.aload_n 0, 1) := by decide +kernel
theorem dX11_answerFinding_1 : decode cX11_answerFinding 1 = .ok (.iload_n 1, 1) := by decide +kernel
theorem dX11_answerFinding_2 : decode cX11_answerFinding 2 = .ok (.putfield 72, 3) := by decide +kernel
theorem dX11_answerFinding_5 : decode cX11_answerFinding 5 = .ok (.aload_n 0, 1) := by decide +kernel
theorem dX11_answerFinding_6 : decode cX11_answerFinding 6 = .ok (.getfield 68, 3) := by decide +kernel
theorem dX11_answerFinding_9 : decode cX11_answerFinding 9 = .ok (.iload_n 1, 1) := by decide +kernel
theorem dX11_answerFinding_10 : decode cX11_answerFinding 10 = .ok (.dup2, 1) := by decide +kernel
theorem dX11_answerFinding_11 : decode cX11_answerFinding 11 = .ok (.iaload, 1) := by decide +kernel
theorem dX11_answerFinding_12 : decode cX11_answerFinding 12 = .ok (.iconst 1, 1) := by decide +kernel
theorem dX11_answerFinding_13 : decode cX11_answerFinding 13 = .ok (.iadd, 1) := by decide +kernel
theorem dX11_answerFinding_14 : decode cX11_answerFinding 14 = .ok (.iastore, 1) := by decide +kernel
theorem dX11_answerFinding_15 : decode cX11_answerFinding 15 = .ok (.bipush (-3), 2) := by decide +kernel
theorem dX11_answerFinding_17 : decode cX11_answerFinding 17 = .ok (.ireturn, 1) := by decide +kernel
set_option maxRecDepth 20000 in
theorem ggX11_refuseRooms_X10_hasObject : GoodIn wsX11_refuseRooms wsX10_hasObject := goodIn_r _ [6, 7, 32, 33, 34, 35, 36, 37, 38] (by decide +kernel) (by decide +kernel)
set_option maxRecDepth 20000 in
theorem gX11_refuseRooms_X10_hasObject : GoodIn wsX11_refuseRooms (wsV RX11 109 RX10 yX10_hasObject wsX10_hasObject) := goodIn_app (goodIn_of _ (by decide +kernel)) ggX11_refuseRooms_X10_hasObject
theorem dX11_refuseRooms_0 : decode cX11_refuseRooms 0 = .ok (.aload_n 0, 1) := by decide +kernel
theorem dX11_refuseRooms_1 : decode cX11_refuseRooms 1 = .ok (.getfield 10, 3) := by decide +kernel
theorem dX11_refuseRooms_4 : decode cX11_refuseRooms 4 = .ok (.iload_n 1, 1) := by decide +kernel
theorem dX11_refuseRooms_5 : decode cX11_refuseRooms 5 = .ok (.invokevirtual 109, 3) := by decide +kernel
theorem dX11_refuseRooms_8 : decode cX11_refuseRooms 8 = .ok (.ifCond .eq 14, 3) := by decide +kernel
theorem dX11_refuseRooms_22 : decode cX11_refuseRooms 22 = .ok (.iconst (-1), 1) := by decide +kernel
theorem dX11_refuseRooms_23 : decode cX11_refuseRooms 23 = .ok (.ireturn, 1) := by decide +kernel
set_option maxRecDepth 20000 in
theorem ggX11_refuseItem_X10_hasObject : GoodIn wsX11_refuseItem wsX10_hasObject := goodIn_r _ [9, 10, 41, 42, 43, 44, 45, 46, 47] (by decide +kernel) (by decide +kernel)
set_option maxRecDepth 20000 in
theorem gX11_refuseItem_X10_hasObject : GoodIn wsX11_refuseItem (wsV RX11 109 RX10 yX10_hasObject wsX10_hasObject) := goodIn_app (goodIn_of _ (by decide +kernel)) ggX11_refuseItem_X10_hasObject
theorem dX11_refuseItem_0 : decode cX11_refuseItem 0 = .ok (.aload_n 0, 1) := by decide +kernel
theorem dX11_refuseItem_1 : decode cX11_refuseItem 1 = .ok (.getfield 10, 3) := by decide +kernel
theorem dX11_refuseItem_4 : decode cX11_refuseItem 4 = .ok (.iload_n 1, 1) := by decide +kernel
theorem dX11_refuseItem_5 : decode cX11_refuseItem 5 = .ok (.invokevirtual 109, 3) := by decide +kernel
theorem dX11_refuseItem_8 : decode cX11_refuseItem 8 = .ok (.ifCond .eq 11, 3) := by decide +kernel
theorem dX11_refuseItem_19 : decode cX11_refuseItem 19 = .ok (.iconst (-1), 1) := by decide +kernel
theorem dX11_refuseItem_20 : decode cX11_refuseItem 20 = .ok (.ireturn, 1) := by decide +kernel
theorem dX11_isBelow_0 : decode cX11_isBelow 0 = .ok (.iload_n 0, 1) := by decide +kernel
theorem dX11_isBelow_1 : decode cX11_isBelow 1 = .ok (.ifCond .lt 12, 3) := by decide +kernel
theorem dX11_isBelow_4 : decode cX11_isBelow 4 = .ok (.iload_n 0, 1) := by decide +kernel
theorem dX11_isBelow_5 : decode cX11_isBelow 5 = .ok (.iload_n 1, 1) := by decide +kernel
theorem dX11_isBelow_6 : decode cX11_isBelow 6 = .ok (.if_icmp .ge 7, 3) := by decide +kernel
theorem dX11_isBelow_9 : decode cX11_isBelow 9 = .ok (.iconst 1, 1) := by decide +kernel
theorem dX11_isBelow_10 : decode cX11_isBelow 10 = .ok (.goto 4, 3) := by decide +kernel
theorem dX11_isBelow_13 : decode cX11_isBelow 13 = .ok (.iconst 0, 1) := by decide +kernel
theorem dX11_isBelow_14 : decode cX11_isBelow 14 = .ok (.ireturn, 1) := by decide +kernel
theorem dX12_in_0 : decode cX12_in 0 = .ok (.lload_n 0, 1) := by decide +kernel
theorem dX12_in_1 : decode cX12_in 1 = .ok (.lload_n 2, 1) := by decide +kernel
theorem dX12_in_2 : decode cX12_in 2 = .ok (.lcmp, 1) := by decide +kernel
theorem dX12_in_3 : decode cX12_in 3 = .ok (.ifCond .lt 14, 3) := by decide +kernel
theorem dX12_in_6 : decode cX12_in 6 = .ok (.lload_n 0, 1) := by decide +kernel
theorem dX12_in_7 : decode cX12_in 7 = .ok (.lload 4, 2) := by decide +kernel
theorem dX12_in_9 : decode cX12_in 9 = .ok (.lcmp, 1) := by decide +kernel
theorem dX12_in_10 : decode cX12_in 10 = .ok (.ifCond .gt 7, 3) := by decide +kernel
theorem dX12_in_13 : decode cX12_in 13 = .ok (.iconst 1, 1) := by decide +kernel
theorem dX12_in_14 : decode cX12_in 14 = .ok (.goto 4, 3) := by decide +kernel
theorem dX12_in_17 : decode cX12_in 17 = .ok (.iconst 0, 1) := by decide +kernel
theorem dX12_in_18 : decode cX12_in 18 = .ok (.ireturn, 1) := by decide +kernel
theorem dJ7_fill_53178_0 : decode cJ7_fill_53178 0 = .ok (.iconst 0, 1) := by decide +kernel
theorem dJ7_fill_53178_1 : decode cJ7_fill_53178 1 = .ok (.istore_n 2, 1) := by decide +kernel
theorem dJ7_fill_53178_2 : decode cJ7_fill_53178 2 = .ok (.aload_n 0, 1) := by decide +kernel
theorem dJ7_fill_53178_3 : decode cJ7_fill_53178 3 = .ok (.arraylength, 1) := by decide +kernel
theorem dJ7_fill_53178_4 : decode cJ7_fill_53178 4 = .ok (.istore_n 3, 1) := by decide +kernel
theorem dJ7_fill_53178_5 : decode cJ7_fill_53178 5 = .ok (.iload_n 2, 1) := by decide +kernel
theorem dJ7_fill_53178_6 : decode cJ7_fill_53178 6 = .ok (.iload_n 3, 1) := by decide +kernel
theorem dJ7_fill_53178_7 : decode cJ7_fill_53178 7 = .ok (.if_icmp .ge 13, 3) := by decide +kernel
theorem dJ7_fill_53178_10 : decode cJ7_fill_53178 10 = .ok (.aload_n 0, 1) := by decide +kernel
theorem dJ7_fill_53178_11 : decode cJ7_fill_53178 11 = .ok (.iload_n 2, 1) := by decide +kernel
theorem dJ7_fill_53178_12 : decode cJ7_fill_53178 12 = .ok (.iload_n 1, 1) := by decide +kernel
theorem dJ7_fill_53178_13 : decode cJ7_fill_53178 13 = .ok (.iastore, 1) := by decide +kernel
theorem dJ7_fill_53178_14 : decode cJ7_fill_53178 14 = .ok (.iinc 2 1, 3) := by decide +kernel
theorem dJ7_fill_53178_17 : decode cJ7_fill_53178 17 = .ok (.goto (-12), 3) := by decide +kernel
theorem dJ7_fill_53178_20 : decode cJ7_fill_53178 20 = .ok (.return_, 1) := by decide +kernel
abbrev vwCl : List vw_C := [(RX0, TX0, 7), (RX1, TX1, 15), (RX2, TX2, 4), (RX3, TX3, 4), (RX4, TX4, 3), (RX5, TX5, 11), (RX6, TX6, 2), (RX7, TX7, 15), (RX8, TX8, 6), (RX9, TX9, 11), (RX10, TX10, 7), (RX11, TX11, 11), (RX12, TX12, 69)]
end
section
/-! Forms of contracts that the rows below share: a method that writes nothing old (ro), and one that may change the cells of its world (rw) -/
/-- what a method that writes nothing old may touch: new cells alone -/
abbrev ro (sz : Nat) : Nat → Prop := fun q => sz ≤ q
/-- the start of a method that only reads -/
def pA (D : va_G) (sz : Nat) (ws : va_W) (tys : List (ClassId × FieldType)) : State → Prop := fun U => U.heap.size = sz ∧ va_P D vwCl ws U.heap ∧ va_K D vwCl tys U
/-- the start of a method that may write its world -/
def pB (D : va_G) (sz : Nat) (ws : va_W) (tys : List (ClassId × FieldType)) : State → Prop := fun U => U.heap.size = sz ∧ va_P D vwCl ws U.heap ∧ va_K D vwCl tys U ∧ va_D (fun _ => True) ws
/-- an end of which nothing is said -/
def oA : Unit → State → Prop := fun _ _ => True
/-- an end with a world -/
def oC {S : Type} (D : va_G) (A : Nat → Prop) (w2 : S → va_W) (t2 : S → List (ClassId × FieldType)) : S → State → Prop := fun u t => va_P D vwCl (w2 u) t.heap ∧ va_K D vwCl (t2 u) t ∧ va_D A (w2 u)
theorem pA_bl {av : List Value} {D : va_G} {sz : Nat} {ws : va_W} {tys : List (ClassId × FieldType)} : FrameBlind (va_Pc av (pA D sz ws tys)) := fun a U g mk q => by
  obtain ⟨q0, q1, qP, qK⟩ := q
  exact ⟨q0, q1, qP, va_K.moved (u := U) (U := U.calling g mk a) (Vm.Alike.refl U.vm) qK⟩
theorem pB_bl {av : List Value} {D : va_G} {sz : Nat} {ws : va_W} {tys : List (ClassId × FieldType)} : FrameBlind (va_Pc av (pB D sz ws tys)) := fun a U g mk q => by
  obtain ⟨q0, q1, qP, qK, qD⟩ := q
  exact ⟨q0, q1, qP, va_K.moved (u := U) (U := U.calling g mk a) (Vm.Alike.refl U.vm) qK, qD⟩
theorem pA_V {s : State} {H : Heap} {D : va_G} {ws : va_W} {tys : List (ClassId × FieldType)} {b ci q0 : Nat} {fs As : List Value} {q : vw_C} (hK : va_K D vwCl tys s) (hP : va_P D vwCl ws H) (hc : vwCl[ci]? = some q) (he : ws[q0]? = some (b, .inr (ci, fs))) : PreV s H q.1 b (va_Pc (.ref b :: As) (pA D H.size ws tys)) As :=
  ⟨pA_bl, va_recv hK hP hc he, fun _ hU hW => ⟨rfl, by rw [hU], by rw [hU]; exact hP, va_K.moved hW.alike hK⟩⟩
theorem pA_S {s : State} {H : Heap} {D : va_G} {ws : va_W} {tys : List (ClassId × FieldType)} {As : List Value} (hK : va_K D vwCl tys s) (hP : va_P D vwCl ws H) : PreS s H (va_Pc As (pA D H.size ws tys)) As :=
  ⟨pA_bl, fun _ hU hW => ⟨rfl, by rw [hU], by rw [hU]; exact hP, va_K.moved hW.alike hK⟩⟩
theorem pB_V {s : State} {H : Heap} {D : va_G} {ws : va_W} {tys : List (ClassId × FieldType)} {A : Nat → Prop} {b ci q0 : Nat} {fs As : List Value} {q : vw_C} (hK : va_K D vwCl tys s) (hP : va_P D vwCl ws H) (hD : va_D A ws) (hc : vwCl[ci]? = some q) (he : ws[q0]? = some (b, .inr (ci, fs))) : PreV s H q.1 b (va_Pc (.ref b :: As) (pB D H.size ws tys)) As :=
  ⟨pB_bl, va_recv hK hP hc he, fun _ hU hW => ⟨rfl, by rw [hU], by rw [hU]; exact hP, va_K.moved hW.alike hK, hD.weaken (fun _ _ _ _ => trivial)⟩⟩
theorem pB_S {s : State} {H : Heap} {D : va_G} {ws : va_W} {tys : List (ClassId × FieldType)} {A : Nat → Prop} {As : List Value} (hK : va_K D vwCl tys s) (hP : va_P D vwCl ws H) (hD : va_D A ws) : PreS s H (va_Pc As (pB D H.size ws tys)) As :=
  ⟨pB_bl, fun _ hU hW => ⟨rfl, by rw [hU], by rw [hU]; exact hP, va_K.moved hW.alike hK, hD.weaken (fun _ _ _ _ => trivial)⟩⟩
/-- the start of a method that only reads and calls a private method of its nest's host -/
def pN (D : va_G) (sz : Nat) (ws : va_W) (tys : List (ClassId × FieldType)) (a : String) (i : Nat) (x : MethodName) (h : String) : State → Prop := fun U => pA D sz ws tys U ∧ va_Nw (.methodLinkNest a i x h) U
theorem pN_V {s : State} {H : Heap} {D : va_G} {ws : va_W} {tys : List (ClassId × FieldType)} {b ci q0 : Nat} {fs As : List Value} {q : vw_C} {a : String} {i : Nat} {x : MethodName} {h : String} (hK : va_K D vwCl tys s) (hP : va_P D vwCl ws H) (hN : va_Nw (.methodLinkNest a i x h) s) (hc : vwCl[ci]? = some q) (he : ws[q0]? = some (b, .inr (ci, fs))) : PreV s H q.1 b (va_Pc (.ref b :: As) (pN D H.size ws tys a i x h)) As :=
  ⟨fun a U g mk q => ⟨q.1, (pA_bl (av := .ref b :: As) a U g mk ⟨q.1, q.2.1⟩).2, va_Nw.same (u := U) (U := U.calling g mk a) rfl rfl q.2.2⟩, va_recv hK hP hc he, fun _ hU hW => ⟨rfl, ⟨by rw [hU], by rw [hU]; exact hP, va_K.moved hW.alike hK⟩, va_Nw.warmM hW hN⟩⟩
theorem ro_kept {D : va_G} {cl : List vw_C} {ws : va_W} {H H1 : Heap} (hP : va_P D cl ws H) (hk : ∀ q : Nat, q < H.size → ¬ ro H.size q → H1[q]? = H[q]?) : va_P D cl ws H1 := hP.kept (fun k q h => hk q.1 (hP k q h).lt (Nat.not_le.mpr (hP k q h).lt))
section RC
variable {p : Program} {l : Launch} {e : Env} {R : Room} {s : State} {m : MethodId} {args : Array Value} {below : List Frame} {meth : Method} {c : Code} {H : Heap} {locs : List Loc} {cells slots : Nat} {Q : State → Prop}
variable {pc : Nat} {ls : Array Slot} {rest st0 : List Value} {a : Array Value} {A0 : Nat → Prop} {H0 : Heap} {mc ms : Nat} {D : va_G} {ws : va_W}
theorem ro_calli {S : Type} {post : Int32 → S → Prop} {B : S → State → Prop} (hr : va_Run p l e R s m args below meth c H locs cells slots 0 0 (F0 m pc ls st0) rest (va_Qi post B (ro H.size) a) (ro H.size)) (hS : va_S A0 H0 H locs) (hA : ∀ q, H0.size ≤ q → A0 q) (hP : va_P D vwCl ws H)
    (kk : ∀ (r : Int32) (u : S) (H1 : Heap) (locs1 : List Loc), post r u → va_P D vwCl ws H1 → va_S A0 H0 H1 locs1 → W p l e R s m args below meth c H1 locs1 cells slots Q (F0 m (pc + 3) ls (.int r :: rest))) : W p l e R s m args below meth c H locs cells slots Q (F0 m pc ls st0) :=
  va_calli hr hS (fun _ h1 h2 => absurd h2 (Nat.not_le.mpr h1)) (fun q h => hA q (Nat.le_trans hS.1 h)) (fun r u _ H1 locs1 _ _ hw _ _ hk hS1 => kk r u H1 locs1 hw (ro_kept hP hk) hS1)
theorem ro_calll {S : Type} {post : Int64 → S → Prop} {B : S → State → Prop} (hr : va_Run p l e R s m args below meth c H locs cells slots 0 0 (F0 m pc ls st0) rest (va_Ql post B (ro H.size) a) (ro H.size)) (hS : va_S A0 H0 H locs) (hA : ∀ q, H0.size ≤ q → A0 q) (hP : va_P D vwCl ws H)
    (kk : ∀ (r : Int64) (u : S) (H1 : Heap) (locs1 : List Loc), post r u → va_P D vwCl ws H1 → va_S A0 H0 H1 locs1 → W p l e R s m args below meth c H1 locs1 cells slots Q (F0 m (pc + 3) ls (.long r :: rest))) : W p l e R s m args below meth c H locs cells slots Q (F0 m pc ls st0) :=
  va_calll hr hS (fun _ h1 h2 => absurd h2 (Nat.not_le.mpr h1)) (fun q h => hA q (Nat.le_trans hS.1 h)) (fun r u _ H1 locs1 _ _ hw _ _ hk hS1 => kk r u H1 locs1 hw (ro_kept hP hk) hS1)
variable {tys : List (ClassId × FieldType)} {wc wr : va_W}
theorem rw_calli {S : Type} {post : Int32 → S → Prop} {w2 : S → va_W} {t2 : S → List (ClassId × FieldType)} (hr : va_Run p l e R s m args below meth c H locs cells slots mc ms (F0 m pc ls st0) rest (va_Qi post (oC D (va_A wc H.size) w2 t2) (va_A wc H.size) a) (va_A wc H.size)) (hS : va_S A0 H0 H locs) (hA : ∀ q, H0.size ≤ q → A0 q) (hK : va_K D vwCl tys s) (hP : va_P D vwCl ws H) (hD : va_D A0 ws) (isC isR : List Nat) (hC : isC.map (fun i => ws[i]?) = wc.map some) (hR : isR.map (fun i => ws[i]?) = wr.map some) (hn : va_nd isR = true) (hdis : ∀ i ∈ isR, i ∉ isC)
    (kk : ∀ (r : Int32) (u : S) (H1 : Heap) (locs1 : List Loc), post r u → va_K D vwCl (tys ++ t2 u) s → va_P D vwCl (wr ++ w2 u) H1 → va_D A0 (wr ++ w2 u) → va_S A0 H0 H1 locs1 → W p l e R s m args below meth c H1 locs1 (cells + mc) (slots + ms) Q (F0 m (pc + 3) ls (.int r :: rest))) : W p l e R s m args below meth c H locs cells slots Q (F0 m pc ls st0) := by
  have hFc := va_free (wc := wc) hD hS hA isC hC
  refine va_calli hr hS (fun q _ h => hFc q h) hFc (fun r u t H1 locs1 ht hvm hw hB _ hk hS1 => ?_)
  obtain ⟨hP1, hK1, hD1⟩ := hB
  rw [ht] at hP1
  obtain ⟨hPj, hDj⟩ := va_join (wr := wr) (w1 := w2 u) hP hD isC isR hC hR hn hdis hk hFc hP1 hD1
  exact kk r u H1 locs1 hw (hK.app (va_K.moved hvm.symm hK1)) hPj hDj hS1
theorem rw_calll {S : Type} {post : Int64 → S → Prop} {w2 : S → va_W} {t2 : S → List (ClassId × FieldType)} (hr : va_Run p l e R s m args below meth c H locs cells slots mc ms (F0 m pc ls st0) rest (va_Ql post (oC D (va_A wc H.size) w2 t2) (va_A wc H.size) a) (va_A wc H.size)) (hS : va_S A0 H0 H locs) (hA : ∀ q, H0.size ≤ q → A0 q) (hK : va_K D vwCl tys s) (hP : va_P D vwCl ws H) (hD : va_D A0 ws) (isC isR : List Nat) (hC : isC.map (fun i => ws[i]?) = wc.map some) (hR : isR.map (fun i => ws[i]?) = wr.map some) (hn : va_nd isR = true) (hdis : ∀ i ∈ isR, i ∉ isC)
    (kk : ∀ (r : Int64) (u : S) (H1 : Heap) (locs1 : List Loc), post r u → va_K D vwCl (tys ++ t2 u) s → va_P D vwCl (wr ++ w2 u) H1 → va_D A0 (wr ++ w2 u) → va_S A0 H0 H1 locs1 → W p l e R s m args below meth c H1 locs1 (cells + mc) (slots + ms) Q (F0 m (pc + 3) ls (.long r :: rest))) : W p l e R s m args below meth c H locs cells slots Q (F0 m pc ls st0) := by
  have hFc := va_free (wc := wc) hD hS hA isC hC
  refine va_calll hr hS (fun q _ h => hFc q h) hFc (fun r u t H1 locs1 ht hvm hw hB _ hk hS1 => ?_)
  obtain ⟨hP1, hK1, hD1⟩ := hB
  rw [ht] at hP1
  obtain ⟨hPj, hDj⟩ := va_join (wr := wr) (w1 := w2 u) hP hD isC isR hC hR hn hdis hk hFc hP1 hD1
  exact kk r u H1 locs1 hw (hK.app (va_K.moved hvm.symm hK1)) hPj hDj hS1
theorem rw_callv {S : Type} {post : S → Prop} {w2 : S → va_W} {t2 : S → List (ClassId × FieldType)} (hr : va_Run p l e R s m args below meth c H locs cells slots mc ms (F0 m pc ls st0) rest (va_Qv post (oC D (va_A wc H.size) w2 t2) (va_A wc H.size) a) (va_A wc H.size)) (hS : va_S A0 H0 H locs) (hA : ∀ q, H0.size ≤ q → A0 q) (hK : va_K D vwCl tys s) (hP : va_P D vwCl ws H) (hD : va_D A0 ws) (isC isR : List Nat) (hC : isC.map (fun i => ws[i]?) = wc.map some) (hR : isR.map (fun i => ws[i]?) = wr.map some) (hn : va_nd isR = true) (hdis : ∀ i ∈ isR, i ∉ isC)
    (kk : ∀ (u : S) (H1 : Heap) (locs1 : List Loc), post u → va_K D vwCl (tys ++ t2 u) s → va_P D vwCl (wr ++ w2 u) H1 → va_D A0 (wr ++ w2 u) → va_S A0 H0 H1 locs1 → W p l e R s m args below meth c H1 locs1 (cells + mc) (slots + ms) Q (F0 m (pc + 3) ls rest)) : W p l e R s m args below meth c H locs cells slots Q (F0 m pc ls st0) := by
  have hFc := va_free (wc := wc) hD hS hA isC hC
  refine va_callv hr hS (fun q _ h => hFc q h) hFc (fun u t H1 locs1 ht hvm hw hB _ hk hS1 => ?_)
  obtain ⟨hP1, hK1, hD1⟩ := hB
  rw [ht] at hP1
  obtain ⟨hPj, hDj⟩ := va_join (wr := wr) (w1 := w2 u) hP hD isC isR hC hR hn hdis hk hFc hP1 hD1
  exact kk u H1 locs1 hw (hK.app (va_K.moved hvm.symm hK1)) hPj hDj hS1
/-- a number on top of the stack under another name -/
theorem tp_i {x y : Int32} (h : x = y) (k : W p l e R s m args below meth c H locs cells slots Q (F0 m pc ls (.int y :: rest))) : W p l e R s m args below meth c H locs cells slots Q (F0 m pc ls (.int x :: rest)) := h ▸ k
theorem tp_l {x y : Int64} (h : x = y) (k : W p l e R s m args below meth c H locs cells slots Q (F0 m pc ls (.long y :: rest))) : W p l e R s m args below meth c H locs cells slots Q (F0 m pc ls (.long x :: rest)) := h ▸ k
end RC
section RR
variable {p : Program} {l : Launch} {e : Env} {R : Room} {s : State} {m : MethodId} {args : Array Value} {below : List Frame} {meth : Method} {c : Code} {H : Heap} {locs : List Loc} {cells slots : Nat}
variable {cc : ByteArray} {pc : Nat} {ls : Array Slot} {D : va_G} {A : Nat → Prop}
theorem ro_iret {post : Int32 → Unit → Prop} {v : Int32} (hexec : p.tables.exec = Jvm.exec) (hb : c.code = cc) (hr : meth.sig.returnType = some .int) (hlocks : meth.locks = false) (hS : va_S A s.heap H locs) (hdg : decode cc pc = .ok (.ireturn, 1)) (hp : post v ()) : W p l e R s m args below meth c H locs cells slots (MQ below (va_Qi post oA A) args s cells slots A) (F0 m pc ls [.int v]) :=
  W.iret hexec hb hr (fun _ ht _ => ⟨⟨v, (), rfl, hp, trivial⟩, hS.F ht⟩) hS.2.2 hdg hlocks
theorem ro_zret {post : Int32 → Unit → Prop} {v : Int32} (hexec : p.tables.exec = Jvm.exec) (hb : c.code = cc) (hr : meth.sig.returnType = some .boolean) (hlocks : meth.locks = false) (hS : va_S A s.heap H locs) (hn : narrow .boolean (.int v) = .int v) (hdg : decode cc pc = .ok (.ireturn, 1)) (hp : post v ()) : W p l e R s m args below meth c H locs cells slots (MQ below (va_Qi post oA A) args s cells slots A) (F0 m pc ls [.int v]) :=
  W.zret hexec hb hr hn (fun _ ht _ => ⟨⟨v, (), rfl, hp, trivial⟩, hS.F ht⟩) hS.2.2 hdg hlocks
theorem ro_lret {post : Int64 → Unit → Prop} {v : Int64} (hexec : p.tables.exec = Jvm.exec) (hb : c.code = cc) (hr : meth.sig.returnType = some .long) (hlocks : meth.locks = false) (hS : va_S A s.heap H locs) (hdg : decode cc pc = .ok (.lreturn, 1)) (hp : post v ()) : W p l e R s m args below meth c H locs cells slots (MQ below (va_Ql post oA A) args s cells slots A) (F0 m pc ls [.long v]) :=
  W.lret hexec hb hr (fun _ ht _ => ⟨⟨v, (), rfl, hp, trivial⟩, hS.F ht⟩) hS.2.2 hdg hlocks
theorem rw_iret {S : Type} {post : Int32 → S → Prop} {w2 : S → va_W} {t2 : S → List (ClassId × FieldType)} {v : Int32} (u : S) (hexec : p.tables.exec = Jvm.exec) (hb : c.code = cc) (hr : meth.sig.returnType = some .int) (hlocks : meth.locks = false) (hS : va_S A s.heap H locs) (hK : va_K D vwCl (t2 u) s) (hP : va_P D vwCl (w2 u) H) (hD : va_D A (w2 u)) (hdg : decode cc pc = .ok (.ireturn, 1)) (hp : post v u) : W p l e R s m args below meth c H locs cells slots (MQ below (va_Qi post (oC D A w2 t2) A) args s cells slots A) (F0 m pc ls [.int v]) :=
  W.iret hexec hb hr (fun _ ht hW => ⟨⟨v, u, rfl, hp, by rw [ht]; exact hP, va_K.moved hW.alike hK, hD⟩, hS.F ht⟩) hS.2.2 hdg hlocks
theorem rw_lret {S : Type} {post : Int64 → S → Prop} {w2 : S → va_W} {t2 : S → List (ClassId × FieldType)} {v : Int64} (u : S) (hexec : p.tables.exec = Jvm.exec) (hb : c.code = cc) (hr : meth.sig.returnType = some .long) (hlocks : meth.locks = false) (hS : va_S A s.heap H locs) (hK : va_K D vwCl (t2 u) s) (hP : va_P D vwCl (w2 u) H) (hD : va_D A (w2 u)) (hdg : decode cc pc = .ok (.lreturn, 1)) (hp : post v u) : W p l e R s m args below meth c H locs cells slots (MQ below (va_Ql post (oC D A w2 t2) A) args s cells slots A) (F0 m pc ls [.long v]) :=
  W.lret hexec hb hr (fun _ ht hW => ⟨⟨v, u, rfl, hp, by rw [ht]; exact hP, va_K.moved hW.alike hK, hD⟩, hS.F ht⟩) hS.2.2 hdg hlocks
theorem rw_vret {S : Type} {post : S → Prop} {w2 : S → va_W} {t2 : S → List (ClassId × FieldType)} (u : S) (hexec : p.tables.exec = Jvm.exec) (hb : c.code = cc) (hr : meth.sig.returnType = none) (hlocks : meth.locks = false) (hS : va_S A s.heap H locs) (hK : va_K D vwCl (t2 u) s) (hP : va_P D vwCl (w2 u) H) (hD : va_D A (w2 u)) (hdg : decode cc pc = .ok (.return_, 1)) (hp : post u) : W p l e R s m args below meth c H locs cells slots (MQ below (va_Qv post (oC D A w2 t2) A) args s cells slots A) (F0 m pc ls []) :=
  W.vret hexec hb hr (fun _ ht hW => ⟨⟨u, rfl, hp, by rw [ht]; exact hP, va_K.moved hW.alike hK, hD⟩, hS.F ht⟩) hS.2.2 hdg hlocks
end RR
/-! numbers -/
theorem ti_lt {x y : Int32} {a b : Int} (hx : x.toInt = a) (hy : y.toInt = b) : x < y ↔ a < b := by rw [Int32.lt_iff_toInt_lt, hx, hy]
theorem ti_le {x y : Int32} {a b : Int} (hx : x.toInt = a) (hy : y.toInt = b) : x ≤ y ↔ a ≤ b := by rw [Int32.le_iff_toInt_le, hx, hy]
theorem ti_eq {x y : Int32} {a b : Int} (hx : x.toInt = a) (hy : y.toInt = b) : x = y ↔ a = b := by rw [← Int32.toInt_inj, hx, hy]
theorem ti_add {x y z : Int32} {a b : Int} (h : z = x + y) (hx : x.toInt = a) (hy : y.toInt = b) (h1 : -2147483648 ≤ a + b) (h2 : a + b < 2147483648) : z.toInt = a + b := by
  subst h
  rw [Int32.toInt_add, hx, hy]
  exact Int.bmod_eq_of_le (by omega) (by omega)
theorem ti_mul {x y z : Int32} {a b : Int} (h : z = x * y) (hx : x.toInt = a) (hy : y.toInt = b) (h1 : -2147483648 ≤ a * b) (h2 : a * b < 2147483648) : z.toInt = a * b := by
  subst h
  rw [Int32.toInt_mul, hx, hy]
  exact Int.bmod_eq_of_le (by omega) (by omega)
/-- a flag that a call has answered -/
theorem fl_t {r : Int32} {P : Prop} [Decidable P] (h : r = if P then 1 else 0) (c : ¬ r = 0) : P := by
  by_cases q : P
  · exact q
  · rw [if_neg q] at h
    exact absurd h c
theorem fl_f {r : Int32} {P : Prop} [Decidable P] (h : r = if P then 1 else 0) (c : r = 0) : ¬ P := by
  intro q
  rw [if_pos q, c] at h
  exact absurd h (by decide)
theorem fl_n {r : Int32} {P : Prop} [Decidable P] (h : r = if P then 1 else 0) : narrow .boolean (.int r) = .int r := by
  subst h
  by_cases q : P
  · rw [if_pos q]; rfl
  · rw [if_neg q]; rfl
theorem lc_lt {x y : Int64} {a b : Int} (hx : x.toInt = a) (hy : y.toInt = b) : lg_cmp x y < 0 ↔ a < b := by
  unfold lg_cmp
  simp only [gt_iff_lt, Int64.lt_iff_toInt_lt, ← Int64.toInt_inj, hx, hy]
  by_cases h1 : b < a
  · rw [if_pos h1]; simp; omega
  · rw [if_neg h1]
    by_cases h2 : a = b
    · rw [if_pos h2]; simp; omega
    · rw [if_neg h2]; simp; omega
theorem lc_gt {x y : Int64} {a b : Int} (hx : x.toInt = a) (hy : y.toInt = b) : 0 < lg_cmp x y ↔ b < a := by
  unfold lg_cmp
  simp only [gt_iff_lt, Int64.lt_iff_toInt_lt, ← Int64.toInt_inj, hx, hy]
  by_cases h1 : b < a
  · rw [if_pos h1]; simp [h1]
  · rw [if_neg h1]
    by_cases h2 : a = b
    · rw [if_pos h2]; simp; omega
    · rw [if_neg h2]; simp; omega
theorem lt_cl {x : Int32} {a : Int} {n : Nat} (hx : x.toInt = a) (h0 : 0 ≤ a) (h1 : a < n) : x.toNatClampNeg < n := by
  show x.toInt.toNat < n
  rw [hx]
  omega
end
section
/-! Arrays.fill(int[], int): every element becomes v -/
theorem fill_loop {p : Program} {l : Launch} {e : Env} {R : Room} {s : State} {m : MethodId} {args : Array Value} {below : List Frame} {meth : Method} {c : Code} {Q : State → Prop} {D : va_G} {A : Nat → Prop} {a n : Nat} {cA : ClassId} {v : Int32}
    (hx : p.tables.exec = Jvm.exec) (hb : c.code = cJ7_fill_53178) (hK : va_K D vwCl [(cA, .int)] s) (hn : n < 2147483648)
    (kk : ∀ (g : Nat → Int32) (H : Heap) (locs : List Loc) (ls : Array Slot), (∀ j, j < n → g j = v) → va_P D vwCl [(a, .inl (cA, n, .inl g))] H → va_D A [(a, .inl (cA, n, .inl g))] → va_S A s.heap H locs → W p l e R s m args below meth c H locs 0 0 Q (F0 m 20 ls [])) :
    ∀ (k i : Nat) (x : Int32) (g : Nat → Int32), i ≤ n → n < i + k → x = nI i → (∀ j, j < i → g j = v) → ∀ (H : Heap) (locs : List Loc) (ls : Array Slot), va_P D vwCl [(a, .inl (cA, n, .inl g))] H → va_D A [(a, .inl (cA, n, .inl g))] → va_S A s.heap H locs → lv_has ls 4 [(2, .int x), (3, .int (nI n)), (0, .ref a), (1, .int v)] → W p l e R s m args below meth c H locs 0 0 Q (F0 m 5 ls []) := by
  intro k
  induction k with
  | zero => intro i x g h1 h2; omega
  | succ k ih =>
    intro i x g hin hik ex hg H locs ls hP hD hS hl
    refine lv_iload_n hx hb dJ7_fill_53178_5 rfl (lv_at hl 0 rfl) ?_
    refine lv_iload_n hx hb dJ7_fill_53178_6 rfl (lv_at hl 1 rfl) ?_
    refine lv_icmp_ge (tgt := 20) hx hb dJ7_fill_53178_7 (by decide) (fun c1 => ?_) (fun c1 => ?_)
    · have hi : i = n := by
        rcases Nat.lt_or_ge i n with q | q
        · exact absurd (by rw [ex] at c1; exact c1) (nI_ge q hn)
        · omega
      subst hi
      exact kk g H locs ls hg hP hD hS
    · have hi : i < n := by
        rcases Nat.lt_or_ge i n with q | q
        · exact q
        · exact absurd (by rw [ex]; exact nI_le q (by omega)) c1
      refine lv_aload_n hx hb dJ7_fill_53178_10 rfl (lv_at hl 2 rfl) ?_
      refine lv_iload_n hx hb dJ7_fill_53178_11 rfl (lv_at hl 0 rfl) ?_
      refine lv_iload_n hx hb dJ7_fill_53178_12 rfl (lv_at hl 3 rfl) ?_
      refine va_iast hx hb hK hP hD hS 0 0 rfl rfl (by rw [ex]; exact vp_in_nI hi hn) dJ7_fill_53178_13 (fun H locs hP hD hS => ?_)
      have hP : va_P D vwCl [(a, .inl (cA, n, .inl (upd g x.toNatClampNeg v)))] H := hP
      have hD : va_D A [(a, .inl (cA, n, .inl (upd g x.toNatClampNeg v)))] := hD
      obtain ⟨y, ey⟩ : ∃ y : Int32, y = x + 1 := ⟨_, rfl⟩
      refine lv_iinc (v := y) (lv' := [(2, .int y), (3, .int (nI n)), (0, .ref a), (1, .int v)]) hx hb dJ7_fill_53178_14 hl (k := 0) rfl (by rw [ey]; rfl) (by decide) rfl (fun ls hl => ?_)
      refine lv_goto (tgt := 5) hx hb dJ7_fill_53178_17 (by decide) ?_
      refine ih (i + 1) y _ hi (by omega) (by rw [ey, ex]; exact nI_1 i) (fun j hj => ?_) H locs ls hP hD hS hl
      rw [ex, nI_clamp (by omega)]
      by_cases q : j = i
      · subst q; exact pk_us
      · rw [pk_un q]; exact hg j (by omega)
set_option maxHeartbeats 4000000 in
set_option maxRecDepth 100000 in
theorem c_J7_fill_53178 (l : Launch) (D : va_G) (sz : Nat) (a : Nat) (cA : ClassId) (n : Nat) (f : Nat → Int32) (v : Int32) (hn : n < 2147483648) : Met l yJ7_fill_53178 wsJ7_fill_53178 ({ frames := 0, cells := 0, slots := 0, locals := 0 }) (va_Pc [.ref a, .int v] (pB D sz [(a, .inl (cA, n, .inl f))] [(cA, .int)])) (va_Qv (fun (u : Nat → Int32) => ∀ j, j < n → u j = v) (oC D (va_A [(a, .inl (cA, n, .inl f))] sz) (fun u => [(a, .inl (cA, n, .inl u))]) (fun _ => [])) (va_A [(a, .inl (cA, n, .inl f))] sz)) 0 0 (va_A [(a, .inl (cA, n, .inl f))] sz) := by
  refine Met.ofW (cc := cJ7_fill_53178) (maxL := 4) (ret := none) (by decide) rfl ?_
  intro p e s m args below meth c s₁ B hml hv
  obtain ⟨rfl, hsz, hP, hK, hD0⟩ := hv
  have hx := B.exec
  have hb := B.bytes
  have hr := B.returns
  have hlocks := B.notSynchronized
  subst hsz
  have hD := hD0.self (sz := s.heap.size)
  generalize hAe : va_A [(a, .inl (cA, n, .inl f))] s.heap.size = A at hD ⊢
  have hS : va_S A s.heap s.heap [] := va_S.rf
  have hP : va_P D vwCl [(a, .inl (cA, n, .inl f))] s.heap := hP
  have hl := lv_entry ([.ref a, .int v]) (n := 4) (Nat.le_of_ble_eq_true rfl)
  rw [lg_entry_eq]
  generalize (lg_sl ([.ref a, .int v]) ++ List.replicate (4 - (lg_sl ([.ref a, .int v])).length) Slot.unset).toArray = ls at hl ⊢
  have hl : lv_has ls 4 [(0, .ref a), (1, .int v)] := hl
  refine lv_iconst (v := 0) hx hb dJ7_fill_53178_0 (by decide) ?_
  refine lv_istore_n (lv' := [(2, .int 0), (0, .ref a), (1, .int v)]) hx hb dJ7_fill_53178_1 rfl hl (by decide) rfl (fun ls hl => ?_)
  refine lv_aload_n hx hb dJ7_fill_53178_2 rfl (lv_at hl 1 rfl) ?_
  refine va_alen (v := nI n) hx hb hK hP 0 0 rfl rfl rfl dJ7_fill_53178_3 ?_
  refine lv_istore_n (lv' := [(3, .int (nI n)), (2, .int 0), (0, .ref a), (1, .int v)]) hx hb dJ7_fill_53178_4 rfl hl (by decide) rfl (fun ls hl => ?_)
  refine fill_loop hx hb hK hn (fun g H locs ls hg hP hD hS => ?_) (n + 1) 0 0 f (Nat.zero_le _) (by omega) nI_0.symm (fun j hj => absurd hj (Nat.not_lt_zero j)) s.heap [] ls hP hD hS (lv_sub hl [1, 0, 2, 3] rfl)
  exact rw_vret g hx hb hr hlocks hS (hK.sub [] rfl) hP hD dJ7_fill_53178_20 hg
end
section
set_option maxHeartbeats 4000000 in
set_option maxRecDepth 100000 in
/-- in(v, lo, hi) -/
theorem c_X12_in (l : Launch) (D : va_G) (sz : Nat) (v : Int64) (lo : Int64) (hi : Int64) (a : Int) (b : Int) (d : Int) (ha : v.toInt = a) (hb_ : lo.toInt = b) (hd_ : hi.toInt = d) : Met l yX12_in wsX12_in ({ frames := 0, cells := 0, slots := 0, locals := 0 }) (va_Pc [.long v, .long lo, .long hi] (pA D sz [] [])) (va_Qi (fun (r : Int32) (_ : Unit) => r = if (b ≤ a ∧ a ≤ d) then 1 else 0) oA (ro sz)) 0 0 (ro sz) := by
  refine Met.ofW (cc := cX12_in) (maxL := 6) (ret := (some .boolean)) (by decide) rfl ?_
  intro p e s m args below meth c s₁ B hml hv
  obtain ⟨rfl, hsz, hP, hK⟩ := hv
  have hx := B.exec
  have hb := B.bytes
  have hr := B.returns
  have hts := atoms_spec (ws := wsX12_in) B.pre
  have hown : s.vm.findClass RX12 = some m.cls := findClass_of_methodNamed B.named
  have hlocks := B.notSynchronized
  subst hsz
  have hA : ∀ q : Nat, s.heap.size ≤ q → ro s.heap.size q := fun _ h => h
  have hS : va_S (ro s.heap.size) s.heap s.heap [] := va_S.rf
  have hP : va_P D vwCl [] s.heap := hP
  have hl := lv_entry ([.long v, .long lo, .long hi]) (n := 6) (Nat.le_of_ble_eq_true rfl)
  rw [lg_entry_eq]
  generalize (lg_sl ([.long v, .long lo, .long hi]) ++ List.replicate (6 - (lg_sl ([.long v, .long lo, .long hi])).length) Slot.unset).toArray = ls at hl ⊢
  have hl : lv_has ls 6 [(0, .long v), (2, .long lo), (4, .long hi)] := hl
  refine lv_lload_n hx hb dX12_in_0 rfl (lv_at hl 0 rfl) ?_
  refine lv_lload_n hx hb dX12_in_1 rfl (lv_at hl 1 rfl) ?_
  refine W.lcmp hx hb dX12_in_2 ?_
  refine lv_if_lt (tgt := 17) hx hb dX12_in_3 (by decide) (fun c1 => ?_) (fun c1 => ?_)
  · have f1 := (lc_lt (a := a) (b := b) ha hb_).mp c1
    refine lv_iconst (v := 0) hx hb dX12_in_17 (by decide) ?_
    exact ro_zret hx hb hr hlocks hS rfl dX12_in_18 (by show _ = _; rw [if_neg (by omega)])
  · have f1 := mt (lc_lt (a := a) (b := b) ha hb_).mpr c1
    refine lv_lload_n hx hb dX12_in_6 rfl (lv_at hl 0 rfl) ?_
    refine lv_lload hx hb dX12_in_7 (lv_at hl 2 rfl) ?_
    refine W.lcmp hx hb dX12_in_9 ?_
    refine lv_if_gt (tgt := 17) hx hb dX12_in_10 (by decide) (fun c2 => ?_) (fun c2 => ?_)
    · have f2 := (lc_gt (a := a) (b := d) ha hd_).mp c2
      refine lv_iconst (v := 0) hx hb dX12_in_17 (by decide) ?_
      exact ro_zret hx hb hr hlocks hS rfl dX12_in_18 (by show _ = _; rw [if_neg (by omega)])
    · have f2 := mt (lc_gt (a := a) (b := d) ha hd_).mpr c2
      refine lv_iconst (v := 1) hx hb dX12_in_13 (by decide) ?_
      refine lv_goto (tgt := 18) hx hb dX12_in_14 (by decide) ?_
      exact ro_zret hx hb hr hlocks hS rfl dX12_in_18 (by show _ = _; rw [if_pos (by omega)])

set_option maxHeartbeats 4000000 in
set_option maxRecDepth 100000 in
/-- in(v, lo, hi), where hi lies below lo -/
theorem c_X12_in0 (l : Launch) (D : va_G) (sz : Nat) (v : Int64) (lo : Int64) (hi : Int64) (a : Int) (b : Int) (d : Int) (ha : v.toInt = a) (hb_ : lo.toInt = b) (hd_ : hi.toInt = d) (hn : d < b) : Met l yX12_in wsX12_in ({ frames := 0, cells := 0, slots := 0, locals := 0 }) (va_Pc [.long v, .long lo, .long hi] (pA D sz [] [])) (va_Qi (fun (r : Int32) (_ : Unit) => r = 0) oA (ro sz)) 0 0 (ro sz) := by
  refine Met.ofW (cc := cX12_in) (maxL := 6) (ret := (some .boolean)) (by decide) rfl ?_
  intro p e s m args below meth c s₁ B hml hv
  obtain ⟨rfl, hsz, hP, hK⟩ := hv
  have hx := B.exec
  have hb := B.bytes
  have hr := B.returns
  have hts := atoms_spec (ws := wsX12_in) B.pre
  have hown : s.vm.findClass RX12 = some m.cls := findClass_of_methodNamed B.named
  have hlocks := B.notSynchronized
  subst hsz
  have hA : ∀ q : Nat, s.heap.size ≤ q → ro s.heap.size q := fun _ h => h
  have hS : va_S (ro s.heap.size) s.heap s.heap [] := va_S.rf
  have hP : va_P D vwCl [] s.heap := hP
  have hl := lv_entry ([.long v, .long lo, .long hi]) (n := 6) (Nat.le_of_ble_eq_true rfl)
  rw [lg_entry_eq]
  generalize (lg_sl ([.long v, .long lo, .long hi]) ++ List.replicate (6 - (lg_sl ([.long v, .long lo, .long hi])).length) Slot.unset).toArray = ls at hl ⊢
  have hl : lv_has ls 6 [(0, .long v), (2, .long lo), (4, .long hi)] := hl
  refine lv_lload_n hx hb dX12_in_0 rfl (lv_at hl 0 rfl) ?_
  refine lv_lload_n hx hb dX12_in_1 rfl (lv_at hl 1 rfl) ?_
  refine W.lcmp hx hb dX12_in_2 ?_
  refine lv_if_lt (tgt := 17) hx hb dX12_in_3 (by decide) (fun c1 => ?_) (fun c1 => ?_)
  · have f1 := (lc_lt (a := a) (b := b) ha hb_).mp c1
    refine lv_iconst (v := 0) hx hb dX12_in_17 (by decide) ?_
    exact ro_zret hx hb hr hlocks hS rfl dX12_in_18 rfl
  · have f1 := mt (lc_lt (a := a) (b := b) ha hb_).mpr c1
    refine lv_lload_n hx hb dX12_in_6 rfl (lv_at hl 0 rfl) ?_
    refine lv_lload hx hb dX12_in_7 (lv_at hl 2 rfl) ?_
    refine W.lcmp hx hb dX12_in_9 ?_
    refine lv_if_gt (tgt := 17) hx hb dX12_in_10 (by decide) (fun c2 => ?_) (fun c2 => ?_)
    · have f2 := (lc_gt (a := a) (b := d) ha hd_).mp c2
      refine lv_iconst (v := 0) hx hb dX12_in_17 (by decide) ?_
      exact ro_zret hx hb hr hlocks hS rfl dX12_in_18 rfl
    · have f2 := mt (lc_gt (a := a) (b := d) ha hd_).mpr c2
      refine lv_iconst (v := 1) hx hb dX12_in_13 (by decide) ?_
      refine lv_goto (tgt := 18) hx hb dX12_in_14 (by decide) ?_
      exact ro_zret hx hb hr hlocks hS rfl dX12_in_18 (by exfalso; omega)

set_option maxHeartbeats 4000000 in
set_option maxRecDepth 100000 in
/-- isBelow(i, n) -/
theorem c_X11_isBelow (l : Launch) (D : va_G) (sz : Nat) (i : Int32) (n : Int32) (a : Int) (b : Int) (ha : i.toInt = a) (hb_ : n.toInt = b) : Met l yX11_isBelow wsX11_isBelow ({ frames := 0, cells := 0, slots := 0, locals := 0 }) (va_Pc [.int i, .int n] (pA D sz [] [])) (va_Qi (fun (r : Int32) (_ : Unit) => r = if (0 ≤ a ∧ a < b) then 1 else 0) oA (ro sz)) 0 0 (ro sz) := by
  refine Met.ofW (cc := cX11_isBelow) (maxL := 2) (ret := (some .boolean)) (by decide) rfl ?_
  intro p e s m args below meth c s₁ B hml hv
  obtain ⟨rfl, hsz, hP, hK⟩ := hv
  have hx := B.exec
  have hb := B.bytes
  have hr := B.returns
  have hts := atoms_spec (ws := wsX11_isBelow) B.pre
  have hown : s.vm.findClass RX11 = some m.cls := findClass_of_methodNamed B.named
  have hlocks := B.notSynchronized
  subst hsz
  have hA : ∀ q : Nat, s.heap.size ≤ q → ro s.heap.size q := fun _ h => h
  have hS : va_S (ro s.heap.size) s.heap s.heap [] := va_S.rf
  have hP : va_P D vwCl [] s.heap := hP
  have hl := lv_entry ([.int i, .int n]) (n := 2) (Nat.le_of_ble_eq_true rfl)
  rw [lg_entry_eq]
  generalize (lg_sl ([.int i, .int n]) ++ List.replicate (2 - (lg_sl ([.int i, .int n])).length) Slot.unset).toArray = ls at hl ⊢
  have hl : lv_has ls 2 [(0, .int i), (1, .int n)] := hl
  refine lv_iload_n hx hb dX11_isBelow_0 rfl (lv_at hl 0 rfl) ?_
  refine lv_if_lt (tgt := 13) hx hb dX11_isBelow_1 (by decide) (fun c1 => ?_) (fun c1 => ?_)
  · have f1 := (ti_lt (a := a) (b := 0) ha (by decide)).mp c1
    refine lv_iconst (v := 0) hx hb dX11_isBelow_13 (by decide) ?_
    exact ro_zret hx hb hr hlocks hS rfl dX11_isBelow_14 (by show _ = _; rw [if_neg (by omega)])
  · have f1 := mt (ti_lt (a := a) (b := 0) ha (by decide)).mpr c1
    refine lv_iload_n hx hb dX11_isBelow_4 rfl (lv_at hl 0 rfl) ?_
    refine lv_iload_n hx hb dX11_isBelow_5 rfl (lv_at hl 1 rfl) ?_
    refine lv_icmp_ge (tgt := 13) hx hb dX11_isBelow_6 (by decide) (fun c2 => ?_) (fun c2 => ?_)
    · have f2 := (ti_le (a := b) (b := a) hb_ ha).mp c2
      refine lv_iconst (v := 0) hx hb dX11_isBelow_13 (by decide) ?_
      exact ro_zret hx hb hr hlocks hS rfl dX11_isBelow_14 (by show _ = _; rw [if_neg (by omega)])
    · have f2 := mt (ti_le (a := b) (b := a) hb_ ha).mpr c2
      refine lv_iconst (v := 1) hx hb dX11_isBelow_9 (by decide) ?_
      refine lv_goto (tgt := 14) hx hb dX11_isBelow_10 (by decide) ?_
      exact ro_zret hx hb hr hlocks hS rfl dX11_isBelow_14 (by show _ = _; rw [if_pos (by omega)])

set_option maxHeartbeats 4000000 in
set_option maxRecDepth 100000 in
/-- isBelow(i, 0) -/
theorem c_X11_isBelow0 (l : Launch) (D : va_G) (sz : Nat) (i : Int32) : Met l yX11_isBelow wsX11_isBelow ({ frames := 0, cells := 0, slots := 0, locals := 0 }) (va_Pc [.int i, .int 0] (pA D sz [] [])) (va_Qi (fun (r : Int32) (_ : Unit) => r = 0) oA (ro sz)) 0 0 (ro sz) := by
  refine Met.ofW (cc := cX11_isBelow) (maxL := 2) (ret := (some .boolean)) (by decide) rfl ?_
  intro p e s m args below meth c s₁ B hml hv
  obtain ⟨rfl, hsz, hP, hK⟩ := hv
  have hx := B.exec
  have hb := B.bytes
  have hr := B.returns
  have hts := atoms_spec (ws := wsX11_isBelow) B.pre
  have hown : s.vm.findClass RX11 = some m.cls := findClass_of_methodNamed B.named
  have hlocks := B.notSynchronized
  subst hsz
  have hA : ∀ q : Nat, s.heap.size ≤ q → ro s.heap.size q := fun _ h => h
  have hS : va_S (ro s.heap.size) s.heap s.heap [] := va_S.rf
  have hP : va_P D vwCl [] s.heap := hP
  have hl := lv_entry ([.int i, .int 0]) (n := 2) (Nat.le_of_ble_eq_true rfl)
  rw [lg_entry_eq]
  generalize (lg_sl ([.int i, .int 0]) ++ List.replicate (2 - (lg_sl ([.int i, .int 0])).length) Slot.unset).toArray = ls at hl ⊢
  have hl : lv_has ls 2 [(0, .int i), (1, .int 0)] := hl
  refine lv_iload_n hx hb dX11_isBelow_0 rfl (lv_at hl 0 rfl) ?_
  refine lv_if_lt (tgt := 13) hx hb dX11_isBelow_1 (by decide) (fun c1 => ?_) (fun c1 => ?_)
  · have f1 := (ti_lt (a := i.toInt) (b := 0) rfl (by decide)).mp c1
    refine lv_iconst (v := 0) hx hb dX11_isBelow_13 (by decide) ?_
    exact ro_zret hx hb hr hlocks hS rfl dX11_isBelow_14 rfl
  · have f1 := mt (ti_lt (a := i.toInt) (b := 0) rfl (by decide)).mpr c1
    refine lv_iload_n hx hb dX11_isBelow_4 rfl (lv_at hl 0 rfl) ?_
    refine lv_iload_n hx hb dX11_isBelow_5 rfl (lv_at hl 1 rfl) ?_
    refine lv_icmp_ge (tgt := 13) hx hb dX11_isBelow_6 (by decide) (fun c2 => ?_) (fun c2 => ?_)
    · have f2 := (ti_le (a := 0) (b := i.toInt) (by decide) rfl).mp c2
      refine lv_iconst (v := 0) hx hb dX11_isBelow_13 (by decide) ?_
      exact ro_zret hx hb hr hlocks hS rfl dX11_isBelow_14 rfl
    · have f2 := mt (ti_le (a := 0) (b := i.toInt) (by decide) rfl).mpr c2
      refine lv_iconst (v := 1) hx hb dX11_isBelow_9 (by decide) ?_
      refine lv_goto (tgt := 14) hx hb dX11_isBelow_10 (by decide) ?_
      exact ro_zret hx hb hr hlocks hS rfl dX11_isBelow_14 (by exfalso; omega)

set_option maxHeartbeats 4000000 in
set_option maxRecDepth 100000 in
/-- World.hasKind, six kinds -/
theorem c_X10_hasKind (l : Launch) (D : va_G) (sz : Nat) (wo : Nat) (wp : Nat) (ws_ : Nat) (wd : Nat) (wk : Nat) (wz : Nat) (k : Int32) : Met l yX10_hasKind wsX10_hasKind ({ frames := 0, cells := 0, slots := 0, locals := 0 }) (va_Pc [.ref wo, .int k] (pA D sz [(wo, .inr (10, [.ref wp, .ref ws_, .ref wd, .ref wk, .ref wz, .int 6, .int 0]))] [])) (va_Qi (fun (r : Int32) (_ : Unit) => r = if (0 ≤ k.toInt ∧ k.toInt < 6) then 1 else 0) oA (ro sz)) 0 0 (ro sz) := by
  refine Met.ofW (cc := cX10_hasKind) (maxL := 2) (ret := (some .boolean)) (by decide) rfl ?_
  intro p e s m args below meth c s₁ B hml hv
  obtain ⟨rfl, hsz, hP, hK⟩ := hv
  have hx := B.exec
  have hb := B.bytes
  have hr := B.returns
  have hts := atoms_spec (ws := wsX10_hasKind) B.pre
  have hown : s.vm.findClass RX10 = some m.cls := findClass_of_methodNamed B.named
  have hlocks := B.notSynchronized
  subst hsz
  have hA : ∀ q : Nat, s.heap.size ≤ q → ro s.heap.size q := fun _ h => h
  have hS : va_S (ro s.heap.size) s.heap s.heap [] := va_S.rf
  have hP : va_P D vwCl [(wo, .inr (10, [.ref wp, .ref ws_, .ref wd, .ref wk, .ref wz, .int 6, .int 0]))] s.heap := hP
  have hl := lv_entry ([.ref wo, .int k]) (n := 2) (Nat.le_of_ble_eq_true rfl)
  rw [lg_entry_eq]
  generalize (lg_sl ([.ref wo, .int k]) ++ List.replicate (2 - (lg_sl ([.ref wo, .int k])).length) Slot.unset).toArray = ls at hl ⊢
  have hl : lv_has ls 2 [(0, .ref wo), (1, .int k)] := hl
  refine lv_iload_n hx hb dX10_hasKind_0 rfl (lv_at hl 1 rfl) ?_
  refine lv_if_lt (tgt := 16) hx hb dX10_hasKind_1 (by decide) (fun c1 => ?_) (fun c1 => ?_)
  · have f1 := (ti_lt (a := k.toInt) (b := 0) rfl (by decide)).mp c1
    refine lv_iconst (v := 0) hx hb dX10_hasKind_16 (by decide) ?_
    exact ro_zret hx hb hr hlocks hS rfl dX10_hasKind_17 (by show _ = _; rw [if_neg (by omega)])
  · have f1 := mt (ti_lt (a := k.toInt) (b := 0) rfl (by decide)).mpr c1
    refine lv_iload_n hx hb dX10_hasKind_4 rfl (lv_at hl 1 rfl) ?_
    refine lv_aload_n hx hb dX10_hasKind_5 rfl (lv_at hl 0 rfl) ?_
    refine va_get (D := D) (ci := 10) (v := .int 6) (C := RX10) (T := TX10) (N := 7) hx hb hts (fun _ h => List.mem_cons_of_mem _ (List.mem_append_right _ h)) hown hK hP 0 rfl rfl 5 (by decide) (hts (.fieldLink RX10 33 "TalePlay$World" "kinds" "I") (by decide +kernel)) (fun _ h9 => h9) rfl dX10_hasKind_6 ?_
    refine lv_icmp_ge (tgt := 16) hx hb dX10_hasKind_9 (by decide) (fun c2 => ?_) (fun c2 => ?_)
    · have f2 := (ti_le (a := 6) (b := k.toInt) (by decide) rfl).mp c2
      refine lv_iconst (v := 0) hx hb dX10_hasKind_16 (by decide) ?_
      exact ro_zret hx hb hr hlocks hS rfl dX10_hasKind_17 (by show _ = _; rw [if_neg (by omega)])
    · have f2 := mt (ti_le (a := 6) (b := k.toInt) (by decide) rfl).mpr c2
      refine lv_iconst (v := 1) hx hb dX10_hasKind_12 (by decide) ?_
      refine lv_goto (tgt := 17) hx hb dX10_hasKind_13 (by decide) ?_
      exact ro_zret hx hb hr hlocks hS rfl dX10_hasKind_17 (by show _ = _; rw [if_pos (by omega)])

set_option maxHeartbeats 4000000 in
set_option maxRecDepth 100000 in
/-- World.hasObject, no object -/
theorem c_X10_hasObject (l : Launch) (D : va_G) (sz : Nat) (wo : Nat) (wp : Nat) (ws_ : Nat) (wd : Nat) (wk : Nat) (wz : Nat) (k : Int32) : Met l yX10_hasObject wsX10_hasObject ({ frames := 0, cells := 0, slots := 0, locals := 0 }) (va_Pc [.ref wo, .int k] (pA D sz [(wo, .inr (10, [.ref wp, .ref ws_, .ref wd, .ref wk, .ref wz, .int 6, .int 0]))] [])) (va_Qi (fun (r : Int32) (_ : Unit) => r = 0) oA (ro sz)) 0 0 (ro sz) := by
  refine Met.ofW (cc := cX10_hasObject) (maxL := 2) (ret := (some .boolean)) (by decide) rfl ?_
  intro p e s m args below meth c s₁ B hml hv
  obtain ⟨rfl, hsz, hP, hK⟩ := hv
  have hx := B.exec
  have hb := B.bytes
  have hr := B.returns
  have hts := atoms_spec (ws := wsX10_hasObject) B.pre
  have hown : s.vm.findClass RX10 = some m.cls := findClass_of_methodNamed B.named
  have hlocks := B.notSynchronized
  subst hsz
  have hA : ∀ q : Nat, s.heap.size ≤ q → ro s.heap.size q := fun _ h => h
  have hS : va_S (ro s.heap.size) s.heap s.heap [] := va_S.rf
  have hP : va_P D vwCl [(wo, .inr (10, [.ref wp, .ref ws_, .ref wd, .ref wk, .ref wz, .int 6, .int 0]))] s.heap := hP
  have hl := lv_entry ([.ref wo, .int k]) (n := 2) (Nat.le_of_ble_eq_true rfl)
  rw [lg_entry_eq]
  generalize (lg_sl ([.ref wo, .int k]) ++ List.replicate (2 - (lg_sl ([.ref wo, .int k])).length) Slot.unset).toArray = ls at hl ⊢
  have hl : lv_has ls 2 [(0, .ref wo), (1, .int k)] := hl
  refine lv_iload_n hx hb dX10_hasObject_0 rfl (lv_at hl 1 rfl) ?_
  refine lv_if_lt (tgt := 16) hx hb dX10_hasObject_1 (by decide) (fun c1 => ?_) (fun c1 => ?_)
  · have f1 := (ti_lt (a := k.toInt) (b := 0) rfl (by decide)).mp c1
    refine lv_iconst (v := 0) hx hb dX10_hasObject_16 (by decide) ?_
    exact ro_zret hx hb hr hlocks hS rfl dX10_hasObject_17 rfl
  · have f1 := mt (ti_lt (a := k.toInt) (b := 0) rfl (by decide)).mpr c1
    refine lv_iload_n hx hb dX10_hasObject_4 rfl (lv_at hl 1 rfl) ?_
    refine lv_aload_n hx hb dX10_hasObject_5 rfl (lv_at hl 0 rfl) ?_
    refine va_get (D := D) (ci := 10) (v := .int 0) (C := RX10) (T := TX10) (N := 7) hx hb hts (fun _ h => List.mem_cons_of_mem _ (List.mem_append_right _ h)) hown hK hP 0 rfl rfl 6 (by decide) (hts (.fieldLink RX10 37 "TalePlay$World" "objects" "I") (by decide +kernel)) (fun _ h9 => h9) rfl dX10_hasObject_6 ?_
    refine lv_icmp_ge (tgt := 16) hx hb dX10_hasObject_9 (by decide) (fun c2 => ?_) (fun c2 => ?_)
    · have f2 := (ti_le (a := 0) (b := k.toInt) (by decide) rfl).mp c2
      refine lv_iconst (v := 0) hx hb dX10_hasObject_16 (by decide) ?_
      exact ro_zret hx hb hr hlocks hS rfl dX10_hasObject_17 rfl
    · have f2 := mt (ti_le (a := 0) (b := k.toInt) (by decide) rfl).mpr c2
      refine lv_iconst (v := 1) hx hb dX10_hasObject_12 (by decide) ?_
      refine lv_goto (tgt := 17) hx hb dX10_hasObject_13 (by decide) ?_
      exact ro_zret hx hb hr hlocks hS rfl dX10_hasObject_17 (by exfalso; omega)

set_option maxHeartbeats 4000000 in
set_option maxRecDepth 100000 in
/-- World.addKind on six kinds -/
theorem c_X10_addKind (l : Launch) (D : va_G) (sz : Nat) (wo : Nat) (wp : Nat) (ws_ : Nat) (wd : Nat) (wk : Nat) (wz : Nat) (cP : ClassId) (fp : Nat → Int32) (cS : ClassId) (fs : Nat → Int32) (k : Int32) (hk : 0 ≤ k.toInt ∧ k.toInt < 6) : Met l yX10_addKind wsX10_addKind ({ frames := 0, cells := 0, slots := 0, locals := 0 }) (va_Pc [.ref wo, .int k] (pB D sz [(wo, .inr (10, [.ref wp, .ref ws_, .ref wd, .ref wk, .ref wz, .int 6, .int 0])), (wp, .inl (cP, 24, .inl fp)), (ws_, .inl (cS, 24, .inl fs))] [(cP, .int), (cS, .int)])) (va_Qi (fun (r : Int32) (_ : Unit) => r = 6) (oC D (va_A [(wo, .inr (10, [.ref wp, .ref ws_, .ref wd, .ref wk, .ref wz, .int 6, .int 0])), (wp, .inl (cP, 24, .inl fp)), (ws_, .inl (cS, 24, .inl fs))] sz) (fun _ => []) (fun _ => [])) (va_A [(wo, .inr (10, [.ref wp, .ref ws_, .ref wd, .ref wk, .ref wz, .int 6, .int 0])), (wp, .inl (cP, 24, .inl fp)), (ws_, .inl (cS, 24, .inl fs))] sz)) 0 0 (va_A [(wo, .inr (10, [.ref wp, .ref ws_, .ref wd, .ref wk, .ref wz, .int 6, .int 0])), (wp, .inl (cP, 24, .inl fp)), (ws_, .inl (cS, 24, .inl fs))] sz) := by
  refine Met.ofW (cc := cX10_addKind) (maxL := 2) (ret := (some .int)) (by decide) rfl ?_
  intro p e s m args below meth c s₁ B hml hv
  obtain ⟨rfl, hsz, hP, hK, hD0⟩ := hv
  have hx := B.exec
  have hb := B.bytes
  have hr := B.returns
  have hts := atoms_spec (ws := wsX10_addKind) B.pre
  have hown : s.vm.findClass RX10 = some m.cls := findClass_of_methodNamed B.named
  have hlocks := B.notSynchronized
  subst hsz
  have hD := hD0.self (sz := s.heap.size)
  generalize hAe : va_A [(wo, .inr (10, [.ref wp, .ref ws_, .ref wd, .ref wk, .ref wz, .int 6, .int 0])), (wp, .inl (cP, 24, .inl fp)), (ws_, .inl (cS, 24, .inl fs))] s.heap.size = A at hD ⊢
  have hA : ∀ q : Nat, s.heap.size ≤ q → A q := fun q h => by rw [← hAe]; exact Or.inr h
  have hS : va_S A s.heap s.heap [] := va_S.rf
  have hP : va_P D vwCl [(wo, .inr (10, [.ref wp, .ref ws_, .ref wd, .ref wk, .ref wz, .int 6, .int 0])), (wp, .inl (cP, 24, .inl fp)), (ws_, .inl (cS, 24, .inl fs))] s.heap := hP
  have hl := lv_entry ([.ref wo, .int k]) (n := 2) (Nat.le_of_ble_eq_true rfl)
  rw [lg_entry_eq]
  generalize (lg_sl ([.ref wo, .int k]) ++ List.replicate (2 - (lg_sl ([.ref wo, .int k])).length) Slot.unset).toArray = ls at hl ⊢
  have hl : lv_has ls 2 [(0, .ref wo), (1, .int k)] := hl
  refine lv_aload_n hx hb dX10_addKind_0 rfl (lv_at hl 0 rfl) ?_
  refine va_get (D := D) (ci := 10) (v := .ref wp) (C := RX10) (T := TX10) (N := 7) hx hb hts (fun _ h => List.mem_cons_of_mem _ (List.mem_append_right _ h)) hown hK hP 0 rfl rfl 0 (by decide) (hts (.fieldLink RX10 9 "TalePlay$World" "parents" "[I") (by decide +kernel)) (fun _ h9 => h9) rfl dX10_addKind_1 ?_
  refine lv_aload_n hx hb dX10_addKind_4 rfl (lv_at hl 0 rfl) ?_
  refine va_get (D := D) (ci := 10) (v := .int 6) (C := RX10) (T := TX10) (N := 7) hx hb hts (fun _ h => List.mem_cons_of_mem _ (List.mem_append_right _ h)) hown hK hP 0 rfl rfl 5 (by decide) (hts (.fieldLink RX10 33 "TalePlay$World" "kinds" "I") (by decide +kernel)) (fun _ h9 => h9) rfl dX10_addKind_5 ?_
  refine lv_iload_n hx hb dX10_addKind_8 rfl (lv_at hl 1 rfl) ?_
  refine va_iast hx hb hK hP hD hS 1 0 rfl rfl (show vp_in 6 24 from by unfold vp_in; decide) dX10_addKind_9 (fun H locs hP hD hS => ?_)
  have hP : va_P D vwCl [(wo, .inr (10, [.ref wp, .ref ws_, .ref wd, .ref wk, .ref wz, .int 6, .int 0])), (wp, .inl (cP, 24, .inl (upd fp (6 : Int32).toNatClampNeg k))), (ws_, .inl (cS, 24, .inl fs))] H := hP
  have hD : va_D A [(wo, .inr (10, [.ref wp, .ref ws_, .ref wd, .ref wk, .ref wz, .int 6, .int 0])), (wp, .inl (cP, 24, .inl (upd fp (6 : Int32).toNatClampNeg k))), (ws_, .inl (cS, 24, .inl fs))] := hD
  refine lv_aload_n hx hb dX10_addKind_10 rfl (lv_at hl 0 rfl) ?_
  refine va_get (D := D) (ci := 10) (v := .ref ws_) (C := RX10) (T := TX10) (N := 7) hx hb hts (fun _ h => List.mem_cons_of_mem _ (List.mem_append_right _ h)) hown hK hP 0 rfl rfl 1 (by decide) (hts (.fieldLink RX10 15 "TalePlay$World" "sorts" "[I") (by decide +kernel)) (fun _ h9 => h9) rfl dX10_addKind_11 ?_
  refine lv_aload_n hx hb dX10_addKind_14 rfl (lv_at hl 0 rfl) ?_
  refine va_get (D := D) (ci := 10) (v := .int 6) (C := RX10) (T := TX10) (N := 7) hx hb hts (fun _ h => List.mem_cons_of_mem _ (List.mem_append_right _ h)) hown hK hP 0 rfl rfl 5 (by decide) (hts (.fieldLink RX10 33 "TalePlay$World" "kinds" "I") (by decide +kernel)) (fun _ h9 => h9) rfl dX10_addKind_15 ?_
  refine lv_aload_n hx hb dX10_addKind_18 rfl (lv_at hl 0 rfl) ?_
  refine va_get (D := D) (ci := 10) (v := .ref ws_) (C := RX10) (T := TX10) (N := 7) hx hb hts (fun _ h => List.mem_cons_of_mem _ (List.mem_append_right _ h)) hown hK hP 0 rfl rfl 1 (by decide) (hts (.fieldLink RX10 15 "TalePlay$World" "sorts" "[I") (by decide +kernel)) (fun _ h9 => h9) rfl dX10_addKind_19 ?_
  refine lv_iload_n hx hb dX10_addKind_22 rfl (lv_at hl 1 rfl) ?_
  refine va_iald hx hb hK hP 2 1 rfl rfl (vp_in_iff.mpr (by have h9 := (rfl : k.toInt = _); omega)) dX10_addKind_23 ?_
  refine lv_topi (fun x1 ex1 => ?_)
  refine va_iast hx hb hK hP hD hS 2 1 rfl rfl (show vp_in 6 24 from by unfold vp_in; decide) dX10_addKind_24 (fun H locs hP hD hS => ?_)
  have hP : va_P D vwCl [(wo, .inr (10, [.ref wp, .ref ws_, .ref wd, .ref wk, .ref wz, .int 6, .int 0])), (wp, .inl (cP, 24, .inl (upd fp (6 : Int32).toNatClampNeg k))), (ws_, .inl (cS, 24, .inl (upd fs (6 : Int32).toNatClampNeg x1)))] H := hP
  have hD : va_D A [(wo, .inr (10, [.ref wp, .ref ws_, .ref wd, .ref wk, .ref wz, .int 6, .int 0])), (wp, .inl (cP, 24, .inl (upd fp (6 : Int32).toNatClampNeg k))), (ws_, .inl (cS, 24, .inl (upd fs (6 : Int32).toNatClampNeg x1)))] := hD
  refine lv_aload_n hx hb dX10_addKind_25 rfl (lv_at hl 0 rfl) ?_
  refine lv_dup hx hb dX10_addKind_26 rfl ?_
  refine va_get (D := D) (ci := 10) (v := .int 6) (C := RX10) (T := TX10) (N := 7) hx hb hts (fun _ h => List.mem_cons_of_mem _ (List.mem_append_right _ h)) hown hK hP 0 rfl rfl 5 (by decide) (hts (.fieldLink RX10 33 "TalePlay$World" "kinds" "I") (by decide +kernel)) (fun _ h9 => h9) rfl dX10_addKind_27 ?_
  refine lv_dup_x1 hx hb dX10_addKind_30 rfl rfl ?_
  refine lv_iconst (v := 1) hx hb dX10_addKind_31 (by decide) ?_
  refine lv_iadd hx hb dX10_addKind_32 ?_
  refine tp_i (y := 7) (by decide) ?_
  refine va_put (D := D) (ci := 10) (v := .int 7) (ty := .int) (C := RX10) (T := TX10) (N := 7) hx hb hts (fun _ h => List.mem_cons_of_mem _ (List.mem_append_right _ h)) tyX10 tyX10_ok nmX10 hown hK hP hD hS 0 rfl rfl 5 (by decide) (hts (.fieldLink RX10 33 "TalePlay$World" "kinds" "I") (by decide +kernel)) (fun _ h9 => h9) rfl (by decide +kernel) rfl rfl (Nat.le_of_ble_eq_true rfl) dX10_addKind_33 (fun H locs hP hD hS => ?_)
  have hP : va_P D vwCl [(wo, .inr (10, [.ref wp, .ref ws_, .ref wd, .ref wk, .ref wz, .int 7, .int 0])), (wp, .inl (cP, 24, .inl (upd fp (6 : Int32).toNatClampNeg k))), (ws_, .inl (cS, 24, .inl (upd fs (6 : Int32).toNatClampNeg x1)))] H := hP
  have hD : va_D A [(wo, .inr (10, [.ref wp, .ref ws_, .ref wd, .ref wk, .ref wz, .int 7, .int 0])), (wp, .inl (cP, 24, .inl (upd fp (6 : Int32).toNatClampNeg k))), (ws_, .inl (cS, 24, .inl (upd fs (6 : Int32).toNatClampNeg x1)))] := hD
  exact rw_iret () hx hb hr hlocks hS (hK.sub (tys' := []) [] rfl) (hP.sub (ws' := []) [] rfl) (hD.sub (ws' := []) [] (by decide) rfl) dX10_addKind_36 rfl

set_option maxHeartbeats 4000000 in
set_option maxRecDepth 100000 in
/-- World.addObject on none -/
theorem c_X10_addObject (l : Launch) (D : va_G) (sz : Nat) (wo : Nat) (wp : Nat) (ws_ : Nat) (wd : Nat) (wk : Nat) (wz : Nat) (cK : ClassId) (fk : Nat → Int32) (cZ : ClassId) (fz : Nat → Int32) (k : Int32) (z : Int32) : Met l yX10_addObject wsX10_addObject ({ frames := 0, cells := 0, slots := 0, locals := 0 }) (va_Pc [.ref wo, .int k, .int z] (pB D sz [(wo, .inr (10, [.ref wp, .ref ws_, .ref wd, .ref wk, .ref wz, .int 6, .int 0])), (wk, .inl (cK, 30, .inl fk)), (wz, .inl (cZ, 30, .inl fz))] [(cK, .int), (cZ, .int)])) (va_Qi (fun (r : Int32) (_ : Unit) => r = 0) (oC D (va_A [(wo, .inr (10, [.ref wp, .ref ws_, .ref wd, .ref wk, .ref wz, .int 6, .int 0])), (wk, .inl (cK, 30, .inl fk)), (wz, .inl (cZ, 30, .inl fz))] sz) (fun _ => []) (fun _ => [])) (va_A [(wo, .inr (10, [.ref wp, .ref ws_, .ref wd, .ref wk, .ref wz, .int 6, .int 0])), (wk, .inl (cK, 30, .inl fk)), (wz, .inl (cZ, 30, .inl fz))] sz)) 0 0 (va_A [(wo, .inr (10, [.ref wp, .ref ws_, .ref wd, .ref wk, .ref wz, .int 6, .int 0])), (wk, .inl (cK, 30, .inl fk)), (wz, .inl (cZ, 30, .inl fz))] sz) := by
  refine Met.ofW (cc := cX10_addObject) (maxL := 3) (ret := (some .int)) (by decide) rfl ?_
  intro p e s m args below meth c s₁ B hml hv
  obtain ⟨rfl, hsz, hP, hK, hD0⟩ := hv
  have hx := B.exec
  have hb := B.bytes
  have hr := B.returns
  have hts := atoms_spec (ws := wsX10_addObject) B.pre
  have hown : s.vm.findClass RX10 = some m.cls := findClass_of_methodNamed B.named
  have hlocks := B.notSynchronized
  subst hsz
  have hD := hD0.self (sz := s.heap.size)
  generalize hAe : va_A [(wo, .inr (10, [.ref wp, .ref ws_, .ref wd, .ref wk, .ref wz, .int 6, .int 0])), (wk, .inl (cK, 30, .inl fk)), (wz, .inl (cZ, 30, .inl fz))] s.heap.size = A at hD ⊢
  have hA : ∀ q : Nat, s.heap.size ≤ q → A q := fun q h => by rw [← hAe]; exact Or.inr h
  have hS : va_S A s.heap s.heap [] := va_S.rf
  have hP : va_P D vwCl [(wo, .inr (10, [.ref wp, .ref ws_, .ref wd, .ref wk, .ref wz, .int 6, .int 0])), (wk, .inl (cK, 30, .inl fk)), (wz, .inl (cZ, 30, .inl fz))] s.heap := hP
  have hl := lv_entry ([.ref wo, .int k, .int z]) (n := 3) (Nat.le_of_ble_eq_true rfl)
  rw [lg_entry_eq]
  generalize (lg_sl ([.ref wo, .int k, .int z]) ++ List.replicate (3 - (lg_sl ([.ref wo, .int k, .int z])).length) Slot.unset).toArray = ls at hl ⊢
  have hl : lv_has ls 3 [(0, .ref wo), (1, .int k), (2, .int z)] := hl
  refine lv_aload_n hx hb dX10_addObject_0 rfl (lv_at hl 0 rfl) ?_
  refine va_get (D := D) (ci := 10) (v := .ref wk) (C := RX10) (T := TX10) (N := 7) hx hb hts (fun _ h => List.mem_cons_of_mem _ (List.mem_append_right _ h)) hown hK hP 0 rfl rfl 3 (by decide) (hts (.fieldLink RX10 21 "TalePlay$World" "kindOf" "[I") (by decide +kernel)) (fun _ h9 => h9) rfl dX10_addObject_1 ?_
  refine lv_aload_n hx hb dX10_addObject_4 rfl (lv_at hl 0 rfl) ?_
  refine va_get (D := D) (ci := 10) (v := .int 0) (C := RX10) (T := TX10) (N := 7) hx hb hts (fun _ h => List.mem_cons_of_mem _ (List.mem_append_right _ h)) hown hK hP 0 rfl rfl 6 (by decide) (hts (.fieldLink RX10 37 "TalePlay$World" "objects" "I") (by decide +kernel)) (fun _ h9 => h9) rfl dX10_addObject_5 ?_
  refine lv_iload_n hx hb dX10_addObject_8 rfl (lv_at hl 1 rfl) ?_
  refine va_iast hx hb hK hP hD hS 1 0 rfl rfl (show vp_in 0 30 from by unfold vp_in; decide) dX10_addObject_9 (fun H locs hP hD hS => ?_)
  have hP : va_P D vwCl [(wo, .inr (10, [.ref wp, .ref ws_, .ref wd, .ref wk, .ref wz, .int 6, .int 0])), (wk, .inl (cK, 30, .inl (upd fk (0 : Int32).toNatClampNeg k))), (wz, .inl (cZ, 30, .inl fz))] H := hP
  have hD : va_D A [(wo, .inr (10, [.ref wp, .ref ws_, .ref wd, .ref wk, .ref wz, .int 6, .int 0])), (wk, .inl (cK, 30, .inl (upd fk (0 : Int32).toNatClampNeg k))), (wz, .inl (cZ, 30, .inl fz))] := hD
  refine lv_aload_n hx hb dX10_addObject_10 rfl (lv_at hl 0 rfl) ?_
  refine va_get (D := D) (ci := 10) (v := .ref wz) (C := RX10) (T := TX10) (N := 7) hx hb hts (fun _ h => List.mem_cons_of_mem _ (List.mem_append_right _ h)) hown hK hP 0 rfl rfl 4 (by decide) (hts (.fieldLink RX10 24 "TalePlay$World" "sizeOf" "[I") (by decide +kernel)) (fun _ h9 => h9) rfl dX10_addObject_11 ?_
  refine lv_aload_n hx hb dX10_addObject_14 rfl (lv_at hl 0 rfl) ?_
  refine va_get (D := D) (ci := 10) (v := .int 0) (C := RX10) (T := TX10) (N := 7) hx hb hts (fun _ h => List.mem_cons_of_mem _ (List.mem_append_right _ h)) hown hK hP 0 rfl rfl 6 (by decide) (hts (.fieldLink RX10 37 "TalePlay$World" "objects" "I") (by decide +kernel)) (fun _ h9 => h9) rfl dX10_addObject_15 ?_
  refine lv_iload_n hx hb dX10_addObject_18 rfl (lv_at hl 2 rfl) ?_
  refine va_iast hx hb hK hP hD hS 2 1 rfl rfl (show vp_in 0 30 from by unfold vp_in; decide) dX10_addObject_19 (fun H locs hP hD hS => ?_)
  have hP : va_P D vwCl [(wo, .inr (10, [.ref wp, .ref ws_, .ref wd, .ref wk, .ref wz, .int 6, .int 0])), (wk, .inl (cK, 30, .inl (upd fk (0 : Int32).toNatClampNeg k))), (wz, .inl (cZ, 30, .inl (upd fz (0 : Int32).toNatClampNeg z)))] H := hP
  have hD : va_D A [(wo, .inr (10, [.ref wp, .ref ws_, .ref wd, .ref wk, .ref wz, .int 6, .int 0])), (wk, .inl (cK, 30, .inl (upd fk (0 : Int32).toNatClampNeg k))), (wz, .inl (cZ, 30, .inl (upd fz (0 : Int32).toNatClampNeg z)))] := hD
  refine lv_aload_n hx hb dX10_addObject_20 rfl (lv_at hl 0 rfl) ?_
  refine lv_dup hx hb dX10_addObject_21 rfl ?_
  refine va_get (D := D) (ci := 10) (v := .int 0) (C := RX10) (T := TX10) (N := 7) hx hb hts (fun _ h => List.mem_cons_of_mem _ (List.mem_append_right _ h)) hown hK hP 0 rfl rfl 6 (by decide) (hts (.fieldLink RX10 37 "TalePlay$World" "objects" "I") (by decide +kernel)) (fun _ h9 => h9) rfl dX10_addObject_22 ?_
  refine lv_dup_x1 hx hb dX10_addObject_25 rfl rfl ?_
  refine lv_iconst (v := 1) hx hb dX10_addObject_26 (by decide) ?_
  refine lv_iadd hx hb dX10_addObject_27 ?_
  refine tp_i (y := 1) (by decide) ?_
  refine va_put (D := D) (ci := 10) (v := .int 1) (ty := .int) (C := RX10) (T := TX10) (N := 7) hx hb hts (fun _ h => List.mem_cons_of_mem _ (List.mem_append_right _ h)) tyX10 tyX10_ok nmX10 hown hK hP hD hS 0 rfl rfl 6 (by decide) (hts (.fieldLink RX10 37 "TalePlay$World" "objects" "I") (by decide +kernel)) (fun _ h9 => h9) rfl (by decide +kernel) rfl rfl (Nat.le_of_ble_eq_true rfl) dX10_addObject_28 (fun H locs hP hD hS => ?_)
  have hP : va_P D vwCl [(wo, .inr (10, [.ref wp, .ref ws_, .ref wd, .ref wk, .ref wz, .int 6, .int 1])), (wk, .inl (cK, 30, .inl (upd fk (0 : Int32).toNatClampNeg k))), (wz, .inl (cZ, 30, .inl (upd fz (0 : Int32).toNatClampNeg z)))] H := hP
  have hD : va_D A [(wo, .inr (10, [.ref wp, .ref ws_, .ref wd, .ref wk, .ref wz, .int 6, .int 1])), (wk, .inl (cK, 30, .inl (upd fk (0 : Int32).toNatClampNeg k))), (wz, .inl (cZ, 30, .inl (upd fz (0 : Int32).toNatClampNeg z)))] := hD
  exact rw_iret () hx hb hr hlocks hS (hK.sub (tys' := []) [] rfl) (hP.sub (ws' := []) [] rfl) (hD.sub (ws' := []) [] (by decide) rfl) dX10_addObject_31 rfl

set_option maxHeartbeats 4000000 in
set_option maxRecDepth 100000 in
/-- World.changeStandard where every standard is NONE -/
theorem c_X10_changeStandard (l : Launch) (D : va_G) (sz : Nat) (wo : Nat) (wp : Nat) (ws_ : Nat) (wd : Nat) (wk : Nat) (wz : Nat) (cD : ClassId) (fd : Nat → Int32) (k : Int32) (f : Int32) (v : Int32) (hk : 0 ≤ k.toInt ∧ k.toInt < 6) (hf : 0 ≤ f.toInt ∧ f.toInt < 6) (hfd : ∀ j, j < 144 → fd j = -9) : Met l yX10_changeStandard wsX10_changeStandard ({ frames := 0, cells := 0, slots := 0, locals := 0 }) (va_Pc [.ref wo, .int k, .int f, .int v] (pB D sz [(wo, .inr (10, [.ref wp, .ref ws_, .ref wd, .ref wk, .ref wz, .int 6, .int 0])), (wd, .inl (cD, 144, .inl fd))] [(cD, .int)])) (va_Qi (fun (r : Int32) (_ : Unit) => r = (-9)) (oC D (va_A [(wo, .inr (10, [.ref wp, .ref ws_, .ref wd, .ref wk, .ref wz, .int 6, .int 0])), (wd, .inl (cD, 144, .inl fd))] sz) (fun _ => []) (fun _ => [])) (va_A [(wo, .inr (10, [.ref wp, .ref ws_, .ref wd, .ref wk, .ref wz, .int 6, .int 0])), (wd, .inl (cD, 144, .inl fd))] sz)) 0 0 (va_A [(wo, .inr (10, [.ref wp, .ref ws_, .ref wd, .ref wk, .ref wz, .int 6, .int 0])), (wd, .inl (cD, 144, .inl fd))] sz) := by
  refine Met.ofW (cc := cX10_changeStandard) (maxL := 5) (ret := (some .int)) (by decide) rfl ?_
  intro p e s m args below meth c s₁ B hml hv
  obtain ⟨rfl, hsz, hP, hK, hD0⟩ := hv
  have hx := B.exec
  have hb := B.bytes
  have hr := B.returns
  have hts := atoms_spec (ws := wsX10_changeStandard) B.pre
  have hown : s.vm.findClass RX10 = some m.cls := findClass_of_methodNamed B.named
  have hlocks := B.notSynchronized
  subst hsz
  have hD := hD0.self (sz := s.heap.size)
  generalize hAe : va_A [(wo, .inr (10, [.ref wp, .ref ws_, .ref wd, .ref wk, .ref wz, .int 6, .int 0])), (wd, .inl (cD, 144, .inl fd))] s.heap.size = A at hD ⊢
  have hA : ∀ q : Nat, s.heap.size ≤ q → A q := fun q h => by rw [← hAe]; exact Or.inr h
  have hS : va_S A s.heap s.heap [] := va_S.rf
  have hP : va_P D vwCl [(wo, .inr (10, [.ref wp, .ref ws_, .ref wd, .ref wk, .ref wz, .int 6, .int 0])), (wd, .inl (cD, 144, .inl fd))] s.heap := hP
  have hl := lv_entry ([.ref wo, .int k, .int f, .int v]) (n := 5) (Nat.le_of_ble_eq_true rfl)
  rw [lg_entry_eq]
  generalize (lg_sl ([.ref wo, .int k, .int f, .int v]) ++ List.replicate (5 - (lg_sl ([.ref wo, .int k, .int f, .int v])).length) Slot.unset).toArray = ls at hl ⊢
  have hl : lv_has ls 5 [(0, .ref wo), (1, .int k), (2, .int f), (3, .int v)] := hl
  refine lv_aload_n hx hb dX10_changeStandard_0 rfl (lv_at hl 0 rfl) ?_
  refine va_get (D := D) (ci := 10) (v := .ref wd) (C := RX10) (T := TX10) (N := 7) hx hb hts (fun _ h => List.mem_cons_of_mem _ (List.mem_append_right _ h)) hown hK hP 0 rfl rfl 2 (by decide) (hts (.fieldLink RX10 18 "TalePlay$World" "standards" "[I") (by decide +kernel)) (fun _ h9 => h9) rfl dX10_changeStandard_1 ?_
  refine lv_iload_n hx hb dX10_changeStandard_4 rfl (lv_at hl 1 rfl) ?_
  refine lv_bipush (v := 6) hx hb dX10_changeStandard_5 (by decide) ?_
  refine lv_imul hx hb dX10_changeStandard_7 ?_
  refine lv_topi (fun x1 ex1 => ?_)
  have tx1 := ti_mul (a := k.toInt) (b := 6) ex1 rfl (by decide) (by omega) (by omega)
  refine lv_iload_n hx hb dX10_changeStandard_8 rfl (lv_at hl 2 rfl) ?_
  refine lv_iadd hx hb dX10_changeStandard_9 ?_
  refine lv_topi (fun x2 ex2 => ?_)
  have tx2 := ti_add (a := (k.toInt * 6)) (b := f.toInt) ex2 tx1 rfl (by omega) (by omega)
  refine va_iald hx hb hK hP 1 0 rfl rfl (vp_in_iff.mpr (by have h9 := tx2; omega)) dX10_changeStandard_10 ?_
  refine tp_i (y := (-9)) (hfd _ (lt_cl (n := 144) tx2 (by omega) (by omega))) ?_
  refine lv_istore (lv' := [(4, .int (-9)), (0, .ref wo), (1, .int k), (2, .int f), (3, .int v)]) hx hb dX10_changeStandard_11 hl (by decide) rfl (fun ls hl => ?_)
  refine lv_aload_n hx hb dX10_changeStandard_13 rfl (lv_at hl 1 rfl) ?_
  refine va_get (D := D) (ci := 10) (v := .ref wd) (C := RX10) (T := TX10) (N := 7) hx hb hts (fun _ h => List.mem_cons_of_mem _ (List.mem_append_right _ h)) hown hK hP 0 rfl rfl 2 (by decide) (hts (.fieldLink RX10 18 "TalePlay$World" "standards" "[I") (by decide +kernel)) (fun _ h9 => h9) rfl dX10_changeStandard_14 ?_
  refine lv_iload_n hx hb dX10_changeStandard_17 rfl (lv_at hl 2 rfl) ?_
  refine lv_bipush (v := 6) hx hb dX10_changeStandard_18 (by decide) ?_
  refine lv_imul hx hb dX10_changeStandard_20 ?_
  refine lv_topi (fun x3 ex3 => ?_)
  have tx3 := ti_mul (a := k.toInt) (b := 6) ex3 rfl (by decide) (by omega) (by omega)
  refine lv_iload_n hx hb dX10_changeStandard_21 rfl (lv_at hl 3 rfl) ?_
  refine lv_iadd hx hb dX10_changeStandard_22 ?_
  refine lv_topi (fun x4 ex4 => ?_)
  have tx4 := ti_add (a := (k.toInt * 6)) (b := f.toInt) ex4 tx3 rfl (by omega) (by omega)
  refine lv_iload_n hx hb dX10_changeStandard_23 rfl (lv_at hl 4 rfl) ?_
  refine va_iast hx hb hK hP hD hS 1 0 rfl rfl (vp_in_iff.mpr (by have h9 := tx4; omega)) dX10_changeStandard_24 (fun H locs hP hD hS => ?_)
  have hP : va_P D vwCl [(wo, .inr (10, [.ref wp, .ref ws_, .ref wd, .ref wk, .ref wz, .int 6, .int 0])), (wd, .inl (cD, 144, .inl (upd fd (x4 : Int32).toNatClampNeg v)))] H := hP
  have hD : va_D A [(wo, .inr (10, [.ref wp, .ref ws_, .ref wd, .ref wk, .ref wz, .int 6, .int 0])), (wd, .inl (cD, 144, .inl (upd fd (x4 : Int32).toNatClampNeg v)))] := hD
  refine lv_iload hx hb dX10_changeStandard_25 (lv_at hl 0 rfl) ?_
  exact rw_iret () hx hb hr hlocks hS (hK.sub (tys' := []) [] rfl) (hP.sub (ws' := []) [] rfl) (hD.sub (ws' := []) [] (by decide) rfl) dX10_changeStandard_27 rfl

set_option maxHeartbeats 4000000 in
set_option maxRecDepth 100000 in
/-- Tale.end -/
theorem c_X9_end (l : Launch) (D : va_G) (sz : Nat) (ta : Nat) (wo : Nat) (t0 : Nat) (t1 : Nat) (t2 : Nat) (t3 : Nat) (t4 : Nat) (t5 : Nat) (t6 : Nat) : Met l yX9_end wsX9_end ({ frames := 0, cells := 0, slots := 0, locals := 0 }) (va_Pc [.ref ta] (pB D sz [(ta, .inr (9, [.ref wo, .ref t0, .ref t1, .ref t2, .ref t3, .ref t4, .ref t5, .ref t6, .int 0, .int (-9), .int 0]))] [])) (va_Qv (fun (_ : Unit) => True) (oC D (va_A [(ta, .inr (9, [.ref wo, .ref t0, .ref t1, .ref t2, .ref t3, .ref t4, .ref t5, .ref t6, .int 0, .int (-9), .int 0]))] sz) (fun _ => []) (fun _ => [])) (va_A [(ta, .inr (9, [.ref wo, .ref t0, .ref t1, .ref t2, .ref t3, .ref t4, .ref t5, .ref t6, .int 0, .int (-9), .int 0]))] sz)) 0 0 (va_A [(ta, .inr (9, [.ref wo, .ref t0, .ref t1, .ref t2, .ref t3, .ref t4, .ref t5, .ref t6, .int 0, .int (-9), .int 0]))] sz) := by
  refine Met.ofW (cc := cX9_end) (maxL := 1) (ret := none) (by decide) rfl ?_
  intro p e s m args below meth c s₁ B hml hv
  obtain ⟨rfl, hsz, hP, hK, hD0⟩ := hv
  have hx := B.exec
  have hb := B.bytes
  have hr := B.returns
  have hts := atoms_spec (ws := wsX9_end) B.pre
  have hown : s.vm.findClass RX9 = some m.cls := findClass_of_methodNamed B.named
  have hlocks := B.notSynchronized
  subst hsz
  have hD := hD0.self (sz := s.heap.size)
  generalize hAe : va_A [(ta, .inr (9, [.ref wo, .ref t0, .ref t1, .ref t2, .ref t3, .ref t4, .ref t5, .ref t6, .int 0, .int (-9), .int 0]))] s.heap.size = A at hD ⊢
  have hA : ∀ q : Nat, s.heap.size ≤ q → A q := fun q h => by rw [← hAe]; exact Or.inr h
  have hS : va_S A s.heap s.heap [] := va_S.rf
  have hP : va_P D vwCl [(ta, .inr (9, [.ref wo, .ref t0, .ref t1, .ref t2, .ref t3, .ref t4, .ref t5, .ref t6, .int 0, .int (-9), .int 0]))] s.heap := hP
  have hl := lv_entry ([.ref ta]) (n := 1) (Nat.le_of_ble_eq_true rfl)
  rw [lg_entry_eq]
  generalize (lg_sl ([.ref ta]) ++ List.replicate (1 - (lg_sl ([.ref ta])).length) Slot.unset).toArray = ls at hl ⊢
  have hl : lv_has ls 1 [(0, .ref ta)] := hl
  refine lv_aload_n hx hb dX9_end_0 rfl (lv_at hl 0 rfl) ?_
  refine lv_iconst (v := 0) hx hb dX9_end_1 (by decide) ?_
  refine va_put (D := D) (ci := 9) (v := .int 0) (ty := .boolean) (C := RX9) (T := TX9) (N := 11) hx hb hts (fun _ h => List.mem_cons_of_mem _ (List.mem_append_right _ h)) tyX9 tyX9_ok nmX9 hown hK hP hD hS 0 rfl rfl 8 (by decide) (hts (.fieldLink RX9 72 "TalePlay$Tale" "there" "Z") (by decide +kernel)) (fun _ h9 => h9) rfl (by decide +kernel) rfl rfl (Nat.le_of_ble_eq_true rfl) dX9_end_2 (fun H locs hP hD hS => ?_)
  have hP : va_P D vwCl [(ta, .inr (9, [.ref wo, .ref t0, .ref t1, .ref t2, .ref t3, .ref t4, .ref t5, .ref t6, .int 0, .int (-9), .int 0]))] H := hP
  have hD : va_D A [(ta, .inr (9, [.ref wo, .ref t0, .ref t1, .ref t2, .ref t3, .ref t4, .ref t5, .ref t6, .int 0, .int (-9), .int 0]))] := hD
  refine lv_aload_n hx hb dX9_end_5 rfl (lv_at hl 0 rfl) ?_
  refine lv_iconst (v := 0) hx hb dX9_end_6 (by decide) ?_
  refine va_put (D := D) (ci := 9) (v := .int 0) (ty := .int) (C := RX9) (T := TX9) (N := 11) hx hb hts (fun _ h => List.mem_cons_of_mem _ (List.mem_append_right _ h)) tyX9 tyX9_ok nmX9 hown hK hP hD hS 0 rfl rfl 10 (by decide) (hts (.fieldLink RX9 77 "TalePlay$Tale" "turns" "I") (by decide +kernel)) (fun _ h9 => h9) rfl (by decide +kernel) rfl rfl (Nat.le_of_ble_eq_true rfl) dX9_end_7 (fun H locs hP hD hS => ?_)
  have hP : va_P D vwCl [(ta, .inr (9, [.ref wo, .ref t0, .ref t1, .ref t2, .ref t3, .ref t4, .ref t5, .ref t6, .int 0, .int (-9), .int 0]))] H := hP
  have hD : va_D A [(ta, .inr (9, [.ref wo, .ref t0, .ref t1, .ref t2, .ref t3, .ref t4, .ref t5, .ref t6, .int 0, .int (-9), .int 0]))] := hD
  exact rw_vret () hx hb hr hlocks hS (hK.sub (tys' := []) [] rfl) (hP.sub (ws' := []) [] rfl) (hD.sub (ws' := []) [] (by decide) rfl) dX9_end_10 trivial

set_option maxHeartbeats 4000000 in
set_option maxRecDepth 100000 in
theorem c_X0_hasX (l : Launch) (D : va_G) (sz : Nat) (v : Int32) : Met l yX0_hasX wsX0_hasX ({ frames := 0, cells := 0, slots := 0, locals := 0 }) (va_Pc [.int v] (pA D sz [] [])) (va_Qi (fun (r : Int32) (_ : Unit) => r = if (v.toInt < 11) then 1 else 0) oA (ro sz)) 0 0 (ro sz) := by
  refine Met.ofW (cc := cX0_hasX) (maxL := 1) (ret := (some .boolean)) (by decide) rfl ?_
  intro p e s m args below meth c s₁ B hml hv
  obtain ⟨rfl, hsz, hP, hK⟩ := hv
  have hx := B.exec
  have hb := B.bytes
  have hr := B.returns
  have hts := atoms_spec (ws := wsX0_hasX) B.pre
  have hown : s.vm.findClass RX0 = some m.cls := findClass_of_methodNamed B.named
  have hlocks := B.notSynchronized
  subst hsz
  have hA : ∀ q : Nat, s.heap.size ≤ q → ro s.heap.size q := fun _ h => h
  have hS : va_S (ro s.heap.size) s.heap s.heap [] := va_S.rf
  have hP : va_P D vwCl [] s.heap := hP
  have hl := lv_entry ([.int v]) (n := 1) (Nat.le_of_ble_eq_true rfl)
  rw [lg_entry_eq]
  generalize (lg_sl ([.int v]) ++ List.replicate (1 - (lg_sl ([.int v])).length) Slot.unset).toArray = ls at hl ⊢
  have hl : lv_has ls 1 [(0, .int v)] := hl
  refine lv_iload_n hx hb dX0_hasX_0 rfl (lv_at hl 0 rfl) ?_
  refine lv_bipush (v := 11) hx hb dX0_hasX_1 (by decide) ?_
  refine lv_icmp_ge (tgt := 10) hx hb dX0_hasX_3 (by decide) (fun c1 => ?_) (fun c1 => ?_)
  · have f1 := (ti_le (a := 11) (b := v.toInt) (by decide) rfl).mp c1
    refine lv_iconst (v := 0) hx hb dX0_hasX_10 (by decide) ?_
    exact ro_zret hx hb hr hlocks hS rfl dX0_hasX_11 (by show _ = _; rw [if_neg (by omega)])
  · have f1 := mt (ti_le (a := 11) (b := v.toInt) (by decide) rfl).mpr c1
    refine lv_iconst (v := 1) hx hb dX0_hasX_6 (by decide) ?_
    refine lv_goto (tgt := 11) hx hb dX0_hasX_7 (by decide) ?_
    exact ro_zret hx hb hr hlocks hS rfl dX0_hasX_11 (by show _ = _; rw [if_pos (by omega)])

set_option maxHeartbeats 4000000 in
set_option maxRecDepth 100000 in
theorem c_X0_hasY (l : Launch) (D : va_G) (sz : Nat) (v : Int32) : Met l yX0_hasY wsX0_hasY ({ frames := 0, cells := 0, slots := 0, locals := 0 }) (va_Pc [.int v] (pA D sz [] [])) (va_Qi (fun (r : Int32) (_ : Unit) => r = if (v.toInt = 3 ∨ v.toInt = 4 ∨ v.toInt = 7 ∨ v.toInt = 8) then 1 else 0) oA (ro sz)) 0 0 (ro sz) := by
  refine Met.ofW (cc := cX0_hasY) (maxL := 1) (ret := (some .boolean)) (by decide) rfl ?_
  intro p e s m args below meth c s₁ B hml hv
  obtain ⟨rfl, hsz, hP, hK⟩ := hv
  have hx := B.exec
  have hb := B.bytes
  have hr := B.returns
  have hts := atoms_spec (ws := wsX0_hasY) B.pre
  have hown : s.vm.findClass RX0 = some m.cls := findClass_of_methodNamed B.named
  have hlocks := B.notSynchronized
  subst hsz
  have hA : ∀ q : Nat, s.heap.size ≤ q → ro s.heap.size q := fun _ h => h
  have hS : va_S (ro s.heap.size) s.heap s.heap [] := va_S.rf
  have hP : va_P D vwCl [] s.heap := hP
  have hl := lv_entry ([.int v]) (n := 1) (Nat.le_of_ble_eq_true rfl)
  rw [lg_entry_eq]
  generalize (lg_sl ([.int v]) ++ List.replicate (1 - (lg_sl ([.int v])).length) Slot.unset).toArray = ls at hl ⊢
  have hl : lv_has ls 1 [(0, .int v)] := hl
  refine lv_iload_n hx hb dX0_hasY_0 rfl (lv_at hl 0 rfl) ?_
  refine lv_iconst (v := 3) hx hb dX0_hasY_1 (by decide) ?_
  refine lv_icmp_eq (tgt := 22) hx hb dX0_hasY_2 (by decide) (fun c1 => ?_) (fun c1 => ?_)
  · have f1 := (ti_eq (a := v.toInt) (b := 3) rfl (by decide)).mp c1
    refine lv_iconst (v := 1) hx hb dX0_hasY_22 (by decide) ?_
    refine lv_goto (tgt := 27) hx hb dX0_hasY_23 (by decide) ?_
    exact ro_zret hx hb hr hlocks hS rfl dX0_hasY_27 (by show _ = _; rw [if_pos (by omega)])
  · have f1 := mt (ti_eq (a := v.toInt) (b := 3) rfl (by decide)).mpr c1
    refine lv_iload_n hx hb dX0_hasY_5 rfl (lv_at hl 0 rfl) ?_
    refine lv_iconst (v := 4) hx hb dX0_hasY_6 (by decide) ?_
    refine lv_icmp_eq (tgt := 22) hx hb dX0_hasY_7 (by decide) (fun c2 => ?_) (fun c2 => ?_)
    · have f2 := (ti_eq (a := v.toInt) (b := 4) rfl (by decide)).mp c2
      refine lv_iconst (v := 1) hx hb dX0_hasY_22 (by decide) ?_
      refine lv_goto (tgt := 27) hx hb dX0_hasY_23 (by decide) ?_
      exact ro_zret hx hb hr hlocks hS rfl dX0_hasY_27 (by show _ = _; rw [if_pos (by omega)])
    · have f2 := mt (ti_eq (a := v.toInt) (b := 4) rfl (by decide)).mpr c2
      refine lv_iload_n hx hb dX0_hasY_10 rfl (lv_at hl 0 rfl) ?_
      refine lv_bipush (v := 7) hx hb dX0_hasY_11 (by decide) ?_
      refine lv_icmp_eq (tgt := 22) hx hb dX0_hasY_13 (by decide) (fun c3 => ?_) (fun c3 => ?_)
      · have f3 := (ti_eq (a := v.toInt) (b := 7) rfl (by decide)).mp c3
        refine lv_iconst (v := 1) hx hb dX0_hasY_22 (by decide) ?_
        refine lv_goto (tgt := 27) hx hb dX0_hasY_23 (by decide) ?_
        exact ro_zret hx hb hr hlocks hS rfl dX0_hasY_27 (by show _ = _; rw [if_pos (by omega)])
      · have f3 := mt (ti_eq (a := v.toInt) (b := 7) rfl (by decide)).mpr c3
        refine lv_iload_n hx hb dX0_hasY_16 rfl (lv_at hl 0 rfl) ?_
        refine lv_bipush (v := 8) hx hb dX0_hasY_17 (by decide) ?_
        refine lv_icmp_ne (tgt := 26) hx hb dX0_hasY_19 (by decide) (fun c4 => ?_) (fun c4 => ?_)
        · have f4 := mt (ti_eq (a := v.toInt) (b := 8) rfl (by decide)).mpr c4
          refine lv_iconst (v := 0) hx hb dX0_hasY_26 (by decide) ?_
          exact ro_zret hx hb hr hlocks hS rfl dX0_hasY_27 (by show _ = _; rw [if_neg (by omega)])
        · have f4 := (ti_eq (a := v.toInt) (b := 8) rfl (by decide)).mp c4
          refine lv_iconst (v := 1) hx hb dX0_hasY_22 (by decide) ?_
          refine lv_goto (tgt := 27) hx hb dX0_hasY_23 (by decide) ?_
          exact ro_zret hx hb hr hlocks hS rfl dX0_hasY_27 (by show _ = _; rw [if_pos (by omega)])

set_option maxHeartbeats 4000000 in
set_option maxRecDepth 100000 in
theorem c_X9_isAct (l : Launch) (D : va_G) (sz : Nat) (ta : Nat) (wo : Nat) (t0 : Nat) (t1 : Nat) (t2 : Nat) (t3 : Nat) (t4 : Nat) (t5 : Nat) (t6 : Nat) (wp : Nat) (ws_ : Nat) (wd : Nat) (wk : Nat) (wz : Nat) (v : Int32) (x : Int32) (y : Int32) : Met l yX9_isAct wsX9_isAct ({ frames := 1, cells := 0, slots := 0, locals := 21 }) (va_Pc [.ref ta, .int v, .int x, .int y] (pN D sz [(ta, .inr (9, [.ref wo, .ref t0, .ref t1, .ref t2, .ref t3, .ref t4, .ref t5, .ref t6, .int 0, .int (-9), .int 0])), (wo, .inr (10, [.ref wp, .ref ws_, .ref wd, .ref wk, .ref wz, .int 6, .int 0]))] [] RX9 101 yX11_isBelow "TalePlay")) (va_Qi (fun (r : Int32) (_ : Unit) => r = if ((v.toInt = 0 ∧ 0 ≤ x.toInt ∧ x.toInt < 10) ∨ v.toInt = 11 ∨ v.toInt = 12) then 1 else 0) oA (ro sz)) 0 0 (ro sz) := by
  refine Met.ofW (cc := cX9_isAct) (maxL := 4) (ret := (some .boolean)) (by decide) rfl ?_
  intro p e s m args below meth c s₁ B hml hv
  obtain ⟨rfl, ⟨hsz, hP, hK⟩, hN⟩ := hv
  have hx := B.exec
  have hb := B.bytes
  have hr := B.returns
  have hts := atoms_spec (ws := wsX9_isAct) B.pre
  have hown : s.vm.findClass RX9 = some m.cls := findClass_of_methodNamed B.named
  have hlocks := B.notSynchronized
  subst hsz
  have hA : ∀ q : Nat, s.heap.size ≤ q → ro s.heap.size q := fun _ h => h
  have hS : va_S (ro s.heap.size) s.heap s.heap [] := va_S.rf
  have hP : va_P D vwCl [(ta, .inr (9, [.ref wo, .ref t0, .ref t1, .ref t2, .ref t3, .ref t4, .ref t5, .ref t6, .int 0, .int (-9), .int 0])), (wo, .inr (10, [.ref wp, .ref ws_, .ref wd, .ref wk, .ref wz, .int 6, .int 0]))] s.heap := hP
  have hl := lv_entry ([.ref ta, .int v, .int x, .int y]) (n := 4) (Nat.le_of_ble_eq_true rfl)
  rw [lg_entry_eq]
  generalize (lg_sl ([.ref ta, .int v, .int x, .int y]) ++ List.replicate (4 - (lg_sl ([.ref ta, .int v, .int x, .int y])).length) Slot.unset).toArray = ls at hl ⊢
  have hl : lv_has ls 4 [(0, .ref ta), (1, .int v), (2, .int x), (3, .int y)] := hl
  refine lv_iload_n hx hb dX9_isAct_0 rfl (lv_at hl 1 rfl) ?_
  refine lv_if_lt (tgt := 10) hx hb dX9_isAct_1 (by decide) (fun c1 => ?_) (fun c1 => ?_)
  · have f1 := (ti_lt (a := v.toInt) (b := 0) rfl (by decide)).mp c1
    refine lv_iconst (v := 0) hx hb dX9_isAct_10 (by decide) ?_
    exact ro_zret hx hb hr hlocks hS rfl dX9_isAct_11 (by show _ = _; rw [if_neg (by omega)])
  · have f1 := mt (ti_lt (a := v.toInt) (b := 0) rfl (by decide)).mpr c1
    refine lv_iload_n hx hb dX9_isAct_4 rfl (lv_at hl 1 rfl) ?_
    refine lv_bipush (v := 12) hx hb dX9_isAct_5 (by decide) ?_
    refine lv_icmp_le (tgt := 12) hx hb dX9_isAct_7 (by decide) (fun c2 => ?_) (fun c2 => ?_)
    · have f2 := (ti_le (a := v.toInt) (b := 12) rfl (by decide)).mp c2
      refine lv_iload_n hx hb dX9_isAct_12 rfl (lv_at hl 1 rfl) ?_
      refine lv_if_ne (tgt := 23) hx hb dX9_isAct_13 (by decide) (fun c3 => ?_) (fun c3 => ?_)
      · have f3 := mt (ti_eq (a := v.toInt) (b := 0) rfl (by decide)).mpr c3
        refine lv_iload_n hx hb dX9_isAct_23 rfl (lv_at hl 1 rfl) ?_
        have hPc := hP.sub (ws' := []) [] rfl
        have hKc := hK.sub (tys' := []) [] rfl
        refine ro_calli (va_runS (As := [.int v]) (rest := []) ⟨hx, hb, hml, hown, hts⟩ (c_X0_hasX l D s.heap.size v) (va_cwS 1 hts gX9_isAct_X0_hasX rfl rfl rfl (by decide +kernel) ⟨Nat.le_of_ble_eq_true rfl, Nat.le_of_ble_eq_true rfl⟩) (pA_S hKc hPc) rfl rfl hl.1 rfl (lv_room (Nat.le_of_ble_eq_true rfl)) dX9_isAct_24 ⟨Nat.le_of_ble_eq_true rfl, Nat.le_of_ble_eq_true rfl⟩) hS hA hP (fun r4 u4 H locs hw4 hP hS => ?_)
        have hw4 : r4 = if (v.toInt < 11) then 1 else 0 := hw4
        refine lv_if_eq (tgt := 41) hx hb dX9_isAct_27 (by decide) (fun c5 => ?_) (fun c5 => ?_)
        · have f5 := fl_f hw4 c5
          refine lv_iload_n hx hb dX9_isAct_41 rfl (lv_at hl 1 rfl) ?_
          have hPc := hP.sub (ws' := []) [] rfl
          have hKc := hK.sub (tys' := []) [] rfl
          refine ro_calli (va_runS (As := [.int v]) (rest := []) ⟨hx, hb, hml, hown, hts⟩ (c_X0_hasY l D H.size v) (va_cwS 1 hts gX9_isAct_X0_hasY rfl rfl rfl (by decide +kernel) ⟨Nat.le_of_ble_eq_true rfl, Nat.le_of_ble_eq_true rfl⟩) (pA_S hKc hPc) rfl rfl hl.1 rfl (lv_room (Nat.le_of_ble_eq_true rfl)) dX9_isAct_42 ⟨Nat.le_of_ble_eq_true rfl, Nat.le_of_ble_eq_true rfl⟩) hS hA hP (fun r6 u6 H locs hw6 hP hS => ?_)
          have hw6 : r6 = if (v.toInt = 3 ∨ v.toInt = 4 ∨ v.toInt = 7 ∨ v.toInt = 8) then 1 else 0 := hw6
          refine lv_if_eq (tgt := 59) hx hb dX9_isAct_45 (by decide) (fun c7 => ?_) (fun c7 => ?_)
          · have f7 := fl_f hw6 c7
            refine lv_iconst (v := 1) hx hb dX9_isAct_59 (by decide) ?_
            refine lv_goto (tgt := 64) hx hb dX9_isAct_60 (by decide) ?_
            exact ro_zret hx hb hr hlocks hS rfl dX9_isAct_64 (by show _ = _; rw [if_pos (by omega)])
          · have f7 := fl_t hw6 c7
            refine lv_aload_n hx hb dX9_isAct_48 rfl (lv_at hl 0 rfl) ?_
            refine va_get (D := D) (ci := 9) (v := .ref wo) (C := RX9) (T := TX9) (N := 11) hx hb hts (fun _ h => List.mem_cons_of_mem _ (List.mem_append_left _ (List.mem_append_right _ h))) hown hK hP 0 rfl rfl 0 (by decide) (hts (.fieldLink RX9 21 "TalePlay$Tale" "world" "LTalePlay$World;") (by decide +kernel)) (fun _ h9 => h9) rfl dX9_isAct_49 ?_
            refine lv_iload_n hx hb dX9_isAct_52 rfl (lv_at hl 3 rfl) ?_
            have hPc := hP.sub (ws' := [(wo, .inr (10, [.ref wp, .ref ws_, .ref wd, .ref wk, .ref wz, .int 6, .int 0]))]) [1] rfl
            have hKc := hK.sub (tys' := []) [] rfl
            refine ro_calli (va_runV (As := [.int y]) (rest := []) ⟨hx, hb, hml, hown, hts⟩ (c_X10_hasObject l D H.size wo wp ws_ wd wk wz y) (cwV 1 hts gX9_isAct_X10_hasObject rfl rfl rfl (by decide +kernel) ⟨Nat.le_of_ble_eq_true rfl, Nat.le_of_ble_eq_true rfl⟩) (pA_V hKc hPc (ci := 10) (q0 := 0) rfl rfl) rfl rfl hl.1 rfl (lv_room (Nat.le_of_ble_eq_true rfl)) dX9_isAct_53 ⟨Nat.le_of_ble_eq_true rfl, Nat.le_of_ble_eq_true rfl⟩) hS hA hP (fun r8 u8 H locs hw8 hP hS => ?_)
            have hw8 : r8 = 0 := hw8
            subst hw8
            refine lv_if_eq (tgt := 63) hx hb dX9_isAct_56 (by decide) (fun _ => ?_) (fun q9 => absurd (by decide) q9)
            refine lv_iconst (v := 0) hx hb dX9_isAct_63 (by decide) ?_
            exact ro_zret hx hb hr hlocks hS rfl dX9_isAct_64 (by show _ = _; rw [if_neg (by omega)])
        · have f5 := fl_t hw4 c5
          refine lv_aload_n hx hb dX9_isAct_30 rfl (lv_at hl 0 rfl) ?_
          refine va_get (D := D) (ci := 9) (v := .ref wo) (C := RX9) (T := TX9) (N := 11) hx hb hts (fun _ h => List.mem_cons_of_mem _ (List.mem_append_left _ (List.mem_append_right _ h))) hown hK hP 0 rfl rfl 0 (by decide) (hts (.fieldLink RX9 21 "TalePlay$Tale" "world" "LTalePlay$World;") (by decide +kernel)) (fun _ h9 => h9) rfl dX9_isAct_31 ?_
          refine lv_iload_n hx hb dX9_isAct_34 rfl (lv_at hl 2 rfl) ?_
          have hPc := hP.sub (ws' := [(wo, .inr (10, [.ref wp, .ref ws_, .ref wd, .ref wk, .ref wz, .int 6, .int 0]))]) [1] rfl
          have hKc := hK.sub (tys' := []) [] rfl
          refine ro_calli (va_runV (As := [.int x]) (rest := []) ⟨hx, hb, hml, hown, hts⟩ (c_X10_hasObject l D H.size wo wp ws_ wd wk wz x) (cwV 1 hts gX9_isAct_X10_hasObject rfl rfl rfl (by decide +kernel) ⟨Nat.le_of_ble_eq_true rfl, Nat.le_of_ble_eq_true rfl⟩) (pA_V hKc hPc (ci := 10) (q0 := 0) rfl rfl) rfl rfl hl.1 rfl (lv_room (Nat.le_of_ble_eq_true rfl)) dX9_isAct_35 ⟨Nat.le_of_ble_eq_true rfl, Nat.le_of_ble_eq_true rfl⟩) hS hA hP (fun r9 u9 H locs hw9 hP hS => ?_)
          have hw9 : r9 = 0 := hw9
          subst hw9
          refine lv_if_eq (tgt := 63) hx hb dX9_isAct_38 (by decide) (fun _ => ?_) (fun q9 => absurd (by decide) q9)
          refine lv_iconst (v := 0) hx hb dX9_isAct_63 (by decide) ?_
          exact ro_zret hx hb hr hlocks hS rfl dX9_isAct_64 (by show _ = _; rw [if_neg (by omega)])
      · have f3 := (ti_eq (a := v.toInt) (b := 0) rfl (by decide)).mp c3
        refine lv_iload_n hx hb dX9_isAct_16 rfl (lv_at hl 2 rfl) ?_
        refine lv_bipush (v := 10) hx hb dX9_isAct_17 (by decide) ?_
        have hPc := hP.sub (ws' := []) [] rfl
        have hKc := hK.sub (tys' := []) [] rfl
        refine ro_calli (va_runSN (As := [.int x, .int 10]) (rest := []) ⟨hx, hb, hml, hown, hts⟩ (c_X11_isBelow l D s.heap.size x 10 x.toInt 10 rfl (by decide)) ⟨va_cnB 2 hts gX9_isAct_X11_isBelow_n101 rfl rfl rfl hN (hts (.initialized RX11) (by decide +kernel)) (by decide +kernel) ⟨Nat.le_of_ble_eq_true rfl, Nat.le_of_ble_eq_true rfl⟩, (hts (.static yX11_isBelow) (by decide +kernel)), trivial⟩ (pA_S hKc hPc) rfl rfl hl.1 rfl (lv_room (Nat.le_of_ble_eq_true rfl)) dX9_isAct_19 ⟨Nat.le_of_ble_eq_true rfl, Nat.le_of_ble_eq_true rfl⟩) hS hA hP (fun r10 u10 H locs hw10 hP hS => ?_)
        have hw10 : r10 = if (0 ≤ x.toInt ∧ x.toInt < 10) then 1 else 0 := hw10
        exact ro_zret hx hb hr hlocks hS (fl_n hw10) dX9_isAct_22 (by show _ = _; rw [hw10]; (repeat' split) <;> first | rfl | (exfalso; omega))
    · have f2 := mt (ti_le (a := v.toInt) (b := 12) rfl (by decide)).mpr c2
      refine lv_iconst (v := 0) hx hb dX9_isAct_10 (by decide) ?_
      exact ro_zret hx hb hr hlocks hS rfl dX9_isAct_11 (by show _ = _; rw [if_neg (by omega)])

set_option maxHeartbeats 4000000 in
set_option maxRecDepth 100000 in
theorem c_X1_clearClash (l : Launch) (D : va_G) (sz : Nat) (bo : Nat) (wo : Nat) (b0 : Nat) (b1 : Nat) (b2 : Nat) (b3 : Nat) (b4 : Nat) (b5 : Nat) (b6 : Nat) (b7 : Nat) (b8 : Nat) (b9 : Nat) (b10 : Nat) : Met l yX1_clearClash wsX1_clearClash ({ frames := 0, cells := 0, slots := 0, locals := 0 }) (va_Pc [.ref bo] (pB D sz [(bo, .inr (1, [.ref wo, .ref b0, .ref b1, .ref b2, .ref b3, .ref b4, .ref b5, .ref b6, .ref b7, .ref b8, .ref b9, .ref b10, .int 0, .int 0, .int 0]))] [])) (va_Qv (fun (_ : Unit) => True) (oC D (va_A [(bo, .inr (1, [.ref wo, .ref b0, .ref b1, .ref b2, .ref b3, .ref b4, .ref b5, .ref b6, .ref b7, .ref b8, .ref b9, .ref b10, .int 0, .int 0, .int 0]))] sz) (fun _ => [(bo, .inr (1, [.ref wo, .ref b0, .ref b1, .ref b2, .ref b3, .ref b4, .ref b5, .ref b6, .ref b7, .ref b8, .ref b9, .ref b10, .int 0, .int 0, .int 0]))]) (fun _ => [])) (va_A [(bo, .inr (1, [.ref wo, .ref b0, .ref b1, .ref b2, .ref b3, .ref b4, .ref b5, .ref b6, .ref b7, .ref b8, .ref b9, .ref b10, .int 0, .int 0, .int 0]))] sz)) 0 0 (va_A [(bo, .inr (1, [.ref wo, .ref b0, .ref b1, .ref b2, .ref b3, .ref b4, .ref b5, .ref b6, .ref b7, .ref b8, .ref b9, .ref b10, .int 0, .int 0, .int 0]))] sz) := by
  refine Met.ofW (cc := cX1_clearClash) (maxL := 1) (ret := none) (by decide) rfl ?_
  intro p e s m args below meth c s₁ B hml hv
  obtain ⟨rfl, hsz, hP, hK, hD0⟩ := hv
  have hx := B.exec
  have hb := B.bytes
  have hr := B.returns
  have hts := atoms_spec (ws := wsX1_clearClash) B.pre
  have hown : s.vm.findClass RX1 = some m.cls := findClass_of_methodNamed B.named
  have hlocks := B.notSynchronized
  subst hsz
  have hD := hD0.self (sz := s.heap.size)
  generalize hAe : va_A [(bo, .inr (1, [.ref wo, .ref b0, .ref b1, .ref b2, .ref b3, .ref b4, .ref b5, .ref b6, .ref b7, .ref b8, .ref b9, .ref b10, .int 0, .int 0, .int 0]))] s.heap.size = A at hD ⊢
  have hA : ∀ q : Nat, s.heap.size ≤ q → A q := fun q h => by rw [← hAe]; exact Or.inr h
  have hS : va_S A s.heap s.heap [] := va_S.rf
  have hP : va_P D vwCl [(bo, .inr (1, [.ref wo, .ref b0, .ref b1, .ref b2, .ref b3, .ref b4, .ref b5, .ref b6, .ref b7, .ref b8, .ref b9, .ref b10, .int 0, .int 0, .int 0]))] s.heap := hP
  have hl := lv_entry ([.ref bo]) (n := 1) (Nat.le_of_ble_eq_true rfl)
  rw [lg_entry_eq]
  generalize (lg_sl ([.ref bo]) ++ List.replicate (1 - (lg_sl ([.ref bo])).length) Slot.unset).toArray = ls at hl ⊢
  have hl : lv_has ls 1 [(0, .ref bo)] := hl
  refine lv_aload_n hx hb dX1_clearClash_0 rfl (lv_at hl 0 rfl) ?_
  refine lv_iconst (v := 0) hx hb dX1_clearClash_1 (by decide) ?_
  refine va_put (D := D) (ci := 1) (v := .int 0) (ty := .int) (C := RX1) (T := TX1) (N := 15) hx hb hts (fun _ h => List.mem_cons_of_mem _ (List.mem_append_right _ h)) tyX1 tyX1_ok nmX1 hown hK hP hD hS 0 rfl rfl 12 (by decide) (hts (.fieldLink RX1 118 "TalePlay$Book" "clashes" "I") (by decide +kernel)) (fun _ h9 => h9) rfl (by decide +kernel) rfl rfl (Nat.le_of_ble_eq_true rfl) dX1_clearClash_2 (fun H locs hP hD hS => ?_)
  have hP : va_P D vwCl [(bo, .inr (1, [.ref wo, .ref b0, .ref b1, .ref b2, .ref b3, .ref b4, .ref b5, .ref b6, .ref b7, .ref b8, .ref b9, .ref b10, .int 0, .int 0, .int 0]))] H := hP
  have hD : va_D A [(bo, .inr (1, [.ref wo, .ref b0, .ref b1, .ref b2, .ref b3, .ref b4, .ref b5, .ref b6, .ref b7, .ref b8, .ref b9, .ref b10, .int 0, .int 0, .int 0]))] := hD
  exact rw_vret () hx hb hr hlocks hS (hK.sub (tys' := []) [] rfl) (hP.sub (ws' := [(bo, .inr (1, [.ref wo, .ref b0, .ref b1, .ref b2, .ref b3, .ref b4, .ref b5, .ref b6, .ref b7, .ref b8, .ref b9, .ref b10, .int 0, .int 0, .int 0]))]) [0] rfl) (hD.sub (ws' := [(bo, .inr (1, [.ref wo, .ref b0, .ref b1, .ref b2, .ref b3, .ref b4, .ref b5, .ref b6, .ref b7, .ref b8, .ref b9, .ref b10, .int 0, .int 0, .int 0]))]) [0] (by decide) rfl) dX1_clearClash_5 trivial

set_option maxHeartbeats 4000000 in
set_option maxRecDepth 100000 in
theorem c_X1_isWellFormed (l : Launch) (D : va_G) (sz : Nat) (bo : Nat) (wo : Nat) (b0 : Nat) (b1 : Nat) (b2 : Nat) (b3 : Nat) (b4 : Nat) (b5 : Nat) (b6 : Nat) (b7 : Nat) (b8 : Nat) (b9 : Nat) (b10 : Nat) (wp : Nat) (ws_ : Nat) (wd : Nat) (wk : Nat) (wz : Nat) (f : Int32) (a : Int32) (b : Int32) (d : Int32) : Met l yX1_isWellFormed wsX1_isWellFormed ({ frames := 1, cells := 0, slots := 0, locals := 21 }) (va_Pc [.ref bo, .int f, .int a, .int b, .int d] (pA D sz [(bo, .inr (1, [.ref wo, .ref b0, .ref b1, .ref b2, .ref b3, .ref b4, .ref b5, .ref b6, .ref b7, .ref b8, .ref b9, .ref b10, .int 0, .int 0, .int 0])), (wo, .inr (10, [.ref wp, .ref ws_, .ref wd, .ref wk, .ref wz, .int 6, .int 0]))] [])) (va_Qi (fun (r : Int32) (_ : Unit) => r = 0) oA (ro sz)) 0 0 (ro sz) := by
  refine Met.ofW (cc := cX1_isWellFormed) (maxL := 5) (ret := (some .boolean)) (by decide) rfl ?_
  intro p e s m args below meth c s₁ B hml hv
  obtain ⟨rfl, hsz, hP, hK⟩ := hv
  have hx := B.exec
  have hb := B.bytes
  have hr := B.returns
  have hts := atoms_spec (ws := wsX1_isWellFormed) B.pre
  have hown : s.vm.findClass RX1 = some m.cls := findClass_of_methodNamed B.named
  have hlocks := B.notSynchronized
  subst hsz
  have hA : ∀ q : Nat, s.heap.size ≤ q → ro s.heap.size q := fun _ h => h
  have hS : va_S (ro s.heap.size) s.heap s.heap [] := va_S.rf
  have hP : va_P D vwCl [(bo, .inr (1, [.ref wo, .ref b0, .ref b1, .ref b2, .ref b3, .ref b4, .ref b5, .ref b6, .ref b7, .ref b8, .ref b9, .ref b10, .int 0, .int 0, .int 0])), (wo, .inr (10, [.ref wp, .ref ws_, .ref wd, .ref wk, .ref wz, .int 6, .int 0]))] s.heap := hP
  have hl := lv_entry ([.ref bo, .int f, .int a, .int b, .int d]) (n := 5) (Nat.le_of_ble_eq_true rfl)
  rw [lg_entry_eq]
  generalize (lg_sl ([.ref bo, .int f, .int a, .int b, .int d]) ++ List.replicate (5 - (lg_sl ([.ref bo, .int f, .int a, .int b, .int d])).length) Slot.unset).toArray = ls at hl ⊢
  have hl : lv_has ls 5 [(0, .ref bo), (1, .int f), (2, .int a), (3, .int b), (4, .int d)] := hl
  refine lv_iload_n hx hb dX1_isWellFormed_0 rfl (lv_at hl 1 rfl) ?_
  refine lv_if_lt (tgt := 21) hx hb dX1_isWellFormed_1 (by decide) (fun c1 => ?_) (fun c1 => ?_)
  · have f1 := (ti_lt (a := f.toInt) (b := 0) rfl (by decide)).mp c1
    refine lv_iconst (v := 0) hx hb dX1_isWellFormed_21 (by decide) ?_
    exact ro_zret hx hb hr hlocks hS rfl dX1_isWellFormed_22 rfl
  · have f1 := mt (ti_lt (a := f.toInt) (b := 0) rfl (by decide)).mpr c1
    refine lv_iload_n hx hb dX1_isWellFormed_4 rfl (lv_at hl 1 rfl) ?_
    refine lv_bipush (v := 7) hx hb dX1_isWellFormed_5 (by decide) ?_
    refine lv_icmp_gt (tgt := 21) hx hb dX1_isWellFormed_7 (by decide) (fun c2 => ?_) (fun c2 => ?_)
    · have f2 := (ti_lt (a := 7) (b := f.toInt) (by decide) rfl).mp c2
      refine lv_iconst (v := 0) hx hb dX1_isWellFormed_21 (by decide) ?_
      exact ro_zret hx hb hr hlocks hS rfl dX1_isWellFormed_22 rfl
    · have f2 := mt (ti_lt (a := 7) (b := f.toInt) (by decide) rfl).mpr c2
      refine lv_aload_n hx hb dX1_isWellFormed_10 rfl (lv_at hl 0 rfl) ?_
      refine va_get (D := D) (ci := 1) (v := .ref wo) (C := RX1) (T := TX1) (N := 15) hx hb hts (fun _ h => List.mem_cons_of_mem _ (List.mem_append_left _ (List.mem_append_right _ h))) hown hK hP 0 rfl rfl 0 (by decide) (hts (.fieldLink RX1 43 "TalePlay$Book" "world" "LTalePlay$World;") (by decide +kernel)) (fun _ h9 => h9) rfl dX1_isWellFormed_11 ?_
      refine lv_iload_n hx hb dX1_isWellFormed_14 rfl (lv_at hl 2 rfl) ?_
      have hPc := hP.sub (ws' := [(wo, .inr (10, [.ref wp, .ref ws_, .ref wd, .ref wk, .ref wz, .int 6, .int 0]))]) [1] rfl
      have hKc := hK.sub (tys' := []) [] rfl
      refine ro_calli (va_runV (As := [.int a]) (rest := []) ⟨hx, hb, hml, hown, hts⟩ (c_X10_hasObject l D s.heap.size wo wp ws_ wd wk wz a) (cwV 1 hts gX1_isWellFormed_X10_hasObject rfl rfl rfl (by decide +kernel) ⟨Nat.le_of_ble_eq_true rfl, Nat.le_of_ble_eq_true rfl⟩) (pA_V hKc hPc (ci := 10) (q0 := 0) rfl rfl) rfl rfl hl.1 rfl (lv_room (Nat.le_of_ble_eq_true rfl)) dX1_isWellFormed_15 ⟨Nat.le_of_ble_eq_true rfl, Nat.le_of_ble_eq_true rfl⟩) hS hA hP (fun r3 u3 H locs hw3 hP hS => ?_)
      have hw3 : r3 = 0 := hw3
      subst hw3
      refine lv_if_ne (tgt := 23) hx hb dX1_isWellFormed_18 (by decide) (fun q9 => absurd q9 (by decide)) (fun _ => ?_)
      refine lv_iconst (v := 0) hx hb dX1_isWellFormed_21 (by decide) ?_
      exact ro_zret hx hb hr hlocks hS rfl dX1_isWellFormed_22 rfl

set_option maxHeartbeats 4000000 in
set_option maxRecDepth 100000 in
theorem c_X3_open (l : Launch) (D : va_G) (sz : Nat) (ca : Nat) (k0 : Nat) (k1 : Nat) (k2 : Nat) (cC0 : ClassId) (fc0 : Nat → Int32) (cC1 : ClassId) (fc1 : Nat → Int32) (o : Int32) (n : Int32) : Met l yX3_open wsX3_open ({ frames := 0, cells := 0, slots := 0, locals := 0 }) (va_Pc [.ref ca, .int o, .int n] (pB D sz [(ca, .inr (3, [.ref k0, .ref k1, .ref k2, .int 0])), (k0, .inl (cC0, 10, .inl fc0)), (k1, .inl (cC1, 10, .inl fc1))] [(cC0, .int), (cC1, .int)])) (va_Qi (fun (r : Int32) (_ : Unit) => r = 0) (oC D (va_A [(ca, .inr (3, [.ref k0, .ref k1, .ref k2, .int 0])), (k0, .inl (cC0, 10, .inl fc0)), (k1, .inl (cC1, 10, .inl fc1))] sz) (fun _ => []) (fun _ => [])) (va_A [(ca, .inr (3, [.ref k0, .ref k1, .ref k2, .int 0])), (k0, .inl (cC0, 10, .inl fc0)), (k1, .inl (cC1, 10, .inl fc1))] sz)) 0 0 (va_A [(ca, .inr (3, [.ref k0, .ref k1, .ref k2, .int 0])), (k0, .inl (cC0, 10, .inl fc0)), (k1, .inl (cC1, 10, .inl fc1))] sz) := by
  refine Met.ofW (cc := cX3_open) (maxL := 3) (ret := (some .int)) (by decide) rfl ?_
  intro p e s m args below meth c s₁ B hml hv
  obtain ⟨rfl, hsz, hP, hK, hD0⟩ := hv
  have hx := B.exec
  have hb := B.bytes
  have hr := B.returns
  have hts := atoms_spec (ws := wsX3_open) B.pre
  have hown : s.vm.findClass RX3 = some m.cls := findClass_of_methodNamed B.named
  have hlocks := B.notSynchronized
  subst hsz
  have hD := hD0.self (sz := s.heap.size)
  generalize hAe : va_A [(ca, .inr (3, [.ref k0, .ref k1, .ref k2, .int 0])), (k0, .inl (cC0, 10, .inl fc0)), (k1, .inl (cC1, 10, .inl fc1))] s.heap.size = A at hD ⊢
  have hA : ∀ q : Nat, s.heap.size ≤ q → A q := fun q h => by rw [← hAe]; exact Or.inr h
  have hS : va_S A s.heap s.heap [] := va_S.rf
  have hP : va_P D vwCl [(ca, .inr (3, [.ref k0, .ref k1, .ref k2, .int 0])), (k0, .inl (cC0, 10, .inl fc0)), (k1, .inl (cC1, 10, .inl fc1))] s.heap := hP
  have hl := lv_entry ([.ref ca, .int o, .int n]) (n := 3) (Nat.le_of_ble_eq_true rfl)
  rw [lg_entry_eq]
  generalize (lg_sl ([.ref ca, .int o, .int n]) ++ List.replicate (3 - (lg_sl ([.ref ca, .int o, .int n])).length) Slot.unset).toArray = ls at hl ⊢
  have hl : lv_has ls 3 [(0, .ref ca), (1, .int o), (2, .int n)] := hl
  refine lv_aload_n hx hb dX3_open_0 rfl (lv_at hl 0 rfl) ?_
  refine va_get (D := D) (ci := 3) (v := .ref k0) (C := RX3) (T := TX3) (N := 4) hx hb hts (fun _ h => List.mem_cons_of_mem _ (List.mem_append_right _ h)) hown hK hP 0 rfl rfl 0 (by decide) (hts (.fieldLink RX3 9 "TalePlay$Casts" "sorts" "[I") (by decide +kernel)) (fun _ h9 => h9) rfl dX3_open_1 ?_
  refine lv_aload_n hx hb dX3_open_4 rfl (lv_at hl 0 rfl) ?_
  refine va_get (D := D) (ci := 3) (v := .int 0) (C := RX3) (T := TX3) (N := 4) hx hb hts (fun _ h => List.mem_cons_of_mem _ (List.mem_append_right _ h)) hown hK hP 0 rfl rfl 3 (by decide) (hts (.fieldLink RX3 27 "TalePlay$Casts" "made" "I") (by decide +kernel)) (fun _ h9 => h9) rfl dX3_open_5 ?_
  refine lv_iload_n hx hb dX3_open_8 rfl (lv_at hl 1 rfl) ?_
  refine va_iast hx hb hK hP hD hS 1 0 rfl rfl (show vp_in 0 10 from by unfold vp_in; decide) dX3_open_9 (fun H locs hP hD hS => ?_)
  have hP : va_P D vwCl [(ca, .inr (3, [.ref k0, .ref k1, .ref k2, .int 0])), (k0, .inl (cC0, 10, .inl (upd fc0 (0 : Int32).toNatClampNeg o))), (k1, .inl (cC1, 10, .inl fc1))] H := hP
  have hD : va_D A [(ca, .inr (3, [.ref k0, .ref k1, .ref k2, .int 0])), (k0, .inl (cC0, 10, .inl (upd fc0 (0 : Int32).toNatClampNeg o))), (k1, .inl (cC1, 10, .inl fc1))] := hD
  refine lv_aload_n hx hb dX3_open_10 rfl (lv_at hl 0 rfl) ?_
  refine va_get (D := D) (ci := 3) (v := .ref k1) (C := RX3) (T := TX3) (N := 4) hx hb hts (fun _ h => List.mem_cons_of_mem _ (List.mem_append_right _ h)) hown hK hP 0 rfl rfl 1 (by decide) (hts (.fieldLink RX3 15 "TalePlay$Casts" "lengths" "[I") (by decide +kernel)) (fun _ h9 => h9) rfl dX3_open_11 ?_
  refine lv_aload_n hx hb dX3_open_14 rfl (lv_at hl 0 rfl) ?_
  refine va_get (D := D) (ci := 3) (v := .int 0) (C := RX3) (T := TX3) (N := 4) hx hb hts (fun _ h => List.mem_cons_of_mem _ (List.mem_append_right _ h)) hown hK hP 0 rfl rfl 3 (by decide) (hts (.fieldLink RX3 27 "TalePlay$Casts" "made" "I") (by decide +kernel)) (fun _ h9 => h9) rfl dX3_open_15 ?_
  refine lv_iload_n hx hb dX3_open_18 rfl (lv_at hl 2 rfl) ?_
  refine va_iast hx hb hK hP hD hS 2 1 rfl rfl (show vp_in 0 10 from by unfold vp_in; decide) dX3_open_19 (fun H locs hP hD hS => ?_)
  have hP : va_P D vwCl [(ca, .inr (3, [.ref k0, .ref k1, .ref k2, .int 0])), (k0, .inl (cC0, 10, .inl (upd fc0 (0 : Int32).toNatClampNeg o))), (k1, .inl (cC1, 10, .inl (upd fc1 (0 : Int32).toNatClampNeg n)))] H := hP
  have hD : va_D A [(ca, .inr (3, [.ref k0, .ref k1, .ref k2, .int 0])), (k0, .inl (cC0, 10, .inl (upd fc0 (0 : Int32).toNatClampNeg o))), (k1, .inl (cC1, 10, .inl (upd fc1 (0 : Int32).toNatClampNeg n)))] := hD
  refine lv_aload_n hx hb dX3_open_20 rfl (lv_at hl 0 rfl) ?_
  refine lv_dup hx hb dX3_open_21 rfl ?_
  refine va_get (D := D) (ci := 3) (v := .int 0) (C := RX3) (T := TX3) (N := 4) hx hb hts (fun _ h => List.mem_cons_of_mem _ (List.mem_append_right _ h)) hown hK hP 0 rfl rfl 3 (by decide) (hts (.fieldLink RX3 27 "TalePlay$Casts" "made" "I") (by decide +kernel)) (fun _ h9 => h9) rfl dX3_open_22 ?_
  refine lv_dup_x1 hx hb dX3_open_25 rfl rfl ?_
  refine lv_iconst (v := 1) hx hb dX3_open_26 (by decide) ?_
  refine lv_iadd hx hb dX3_open_27 ?_
  refine tp_i (y := 1) (by decide) ?_
  refine va_put (D := D) (ci := 3) (v := .int 1) (ty := .int) (C := RX3) (T := TX3) (N := 4) hx hb hts (fun _ h => List.mem_cons_of_mem _ (List.mem_append_right _ h)) tyX3 tyX3_ok nmX3 hown hK hP hD hS 0 rfl rfl 3 (by decide) (hts (.fieldLink RX3 27 "TalePlay$Casts" "made" "I") (by decide +kernel)) (fun _ h9 => h9) rfl (by decide +kernel) rfl rfl (Nat.le_of_ble_eq_true rfl) dX3_open_28 (fun H locs hP hD hS => ?_)
  have hP : va_P D vwCl [(ca, .inr (3, [.ref k0, .ref k1, .ref k2, .int 1])), (k0, .inl (cC0, 10, .inl (upd fc0 (0 : Int32).toNatClampNeg o))), (k1, .inl (cC1, 10, .inl (upd fc1 (0 : Int32).toNatClampNeg n)))] H := hP
  have hD : va_D A [(ca, .inr (3, [.ref k0, .ref k1, .ref k2, .int 1])), (k0, .inl (cC0, 10, .inl (upd fc0 (0 : Int32).toNatClampNeg o))), (k1, .inl (cC1, 10, .inl (upd fc1 (0 : Int32).toNatClampNeg n)))] := hD
  exact rw_iret () hx hb hr hlocks hS (hK.sub (tys' := []) [] rfl) (hP.sub (ws' := []) [] rfl) (hD.sub (ws' := []) [] (by decide) rfl) dX3_open_31 rfl

set_option maxHeartbeats 4000000 in
set_option maxRecDepth 100000 in
theorem c_X11_answerFinding (l : Launch) (D : va_G) (sz : Nat) (x0 : Nat) (wo : Nat) (bo : Nat) (ro_ : Nat) (bu : Nat) (ta : Nat) (li : Nat) (ca : Nat) (fc : Nat) (cF : ClassId) : Met l yX11_answerFinding wsX11_answerFinding ({ frames := 0, cells := 0, slots := 0, locals := 0 }) (va_Pc [.ref x0, .int 5] (pB D sz [(x0, .inr (11, [.ref wo, .ref bo, .ref ro_, .ref bu, .ref ta, .ref li, .ref ca, .null, .ref fc, .int 0, .long 0])), (fc, .inl (cF, 7, .inl (fun _ => 0)))] [(cF, .int)])) (va_Qi (fun (r : Int32) (_ : Unit) => r = (-3)) (oC D (va_A [(x0, .inr (11, [.ref wo, .ref bo, .ref ro_, .ref bu, .ref ta, .ref li, .ref ca, .null, .ref fc, .int 0, .long 0])), (fc, .inl (cF, 7, .inl (fun _ => 0)))] sz) (fun _ => []) (fun _ => [])) (va_A [(x0, .inr (11, [.ref wo, .ref bo, .ref ro_, .ref bu, .ref ta, .ref li, .ref ca, .null, .ref fc, .int 0, .long 0])), (fc, .inl (cF, 7, .inl (fun _ => 0)))] sz)) 0 0 (va_A [(x0, .inr (11, [.ref wo, .ref bo, .ref ro_, .ref bu, .ref ta, .ref li, .ref ca, .null, .ref fc, .int 0, .long 0])), (fc, .inl (cF, 7, .inl (fun _ => 0)))] sz) := by
  refine Met.ofW (cc := cX11_answerFinding) (maxL := 2) (ret := (some .int)) (by decide) rfl ?_
  intro p e s m args below meth c s₁ B hml hv
  obtain ⟨rfl, hsz, hP, hK, hD0⟩ := hv
  have hx := B.exec
  have hb := B.bytes
  have hr := B.returns
  have hts := atoms_spec (ws := wsX11_answerFinding) B.pre
  have hown : s.vm.findClass RX11 = some m.cls := findClass_of_methodNamed B.named
  have hlocks := B.notSynchronized
  subst hsz
  have hD := hD0.self (sz := s.heap.size)
  generalize hAe : va_A [(x0, .inr (11, [.ref wo, .ref bo, .ref ro_, .ref bu, .ref ta, .ref li, .ref ca, .null, .ref fc, .int 0, .long 0])), (fc, .inl (cF, 7, .inl (fun _ => 0)))] s.heap.size = A at hD ⊢
  have hA : ∀ q : Nat, s.heap.size ≤ q → A q := fun q h => by rw [← hAe]; exact Or.inr h
  have hS : va_S A s.heap s.heap [] := va_S.rf
  have hP : va_P D vwCl [(x0, .inr (11, [.ref wo, .ref bo, .ref ro_, .ref bu, .ref ta, .ref li, .ref ca, .null, .ref fc, .int 0, .long 0])), (fc, .inl (cF, 7, .inl (fun _ => 0)))] s.heap := hP
  have hl := lv_entry ([.ref x0, .int 5]) (n := 2) (Nat.le_of_ble_eq_true rfl)
  rw [lg_entry_eq]
  generalize (lg_sl ([.ref x0, .int 5]) ++ List.replicate (2 - (lg_sl ([.ref x0, .int 5])).length) Slot.unset).toArray = ls at hl ⊢
  have hl : lv_has ls 2 [(0, .ref x0), (1, .int 5)] := hl
  refine lv_aload_n hx hb dX11_answerFinding_0 rfl (lv_at hl 0 rfl) ?_
  refine lv_iload_n hx hb dX11_answerFinding_1 rfl (lv_at hl 1 rfl) ?_
  refine va_put (D := D) (ci := 11) (v := .int 5) (ty := .int) (C := RX11) (T := TX11) (N := 11) hx hb hts (fun _ h => List.mem_cons_of_mem _ (List.mem_append_right _ h)) tyX11 tyX11_ok nmX11 hown hK hP hD hS 0 rfl rfl 9 (by decide) (hts (.fieldLink RX11 72 "TalePlay" "latestFinding" "I") (by decide +kernel)) (fun _ h9 => h9) rfl (by decide +kernel) rfl rfl (Nat.le_of_ble_eq_true rfl) dX11_answerFinding_2 (fun H locs hP hD hS => ?_)
  have hP : va_P D vwCl [(x0, .inr (11, [.ref wo, .ref bo, .ref ro_, .ref bu, .ref ta, .ref li, .ref ca, .null, .ref fc, .int 5, .long 0])), (fc, .inl (cF, 7, .inl (fun _ => 0)))] H := hP
  have hD : va_D A [(x0, .inr (11, [.ref wo, .ref bo, .ref ro_, .ref bu, .ref ta, .ref li, .ref ca, .null, .ref fc, .int 5, .long 0])), (fc, .inl (cF, 7, .inl (fun _ => 0)))] := hD
  refine lv_aload_n hx hb dX11_answerFinding_5 rfl (lv_at hl 0 rfl) ?_
  refine va_get (D := D) (ci := 11) (v := .ref fc) (C := RX11) (T := TX11) (N := 11) hx hb hts (fun _ h => List.mem_cons_of_mem _ (List.mem_append_right _ h)) hown hK hP 0 rfl rfl 8 (by decide) (hts (.fieldLink RX11 68 "TalePlay" "findingCounts" "[I") (by decide +kernel)) (fun _ h9 => h9) rfl dX11_answerFinding_6 ?_
  refine lv_iload_n hx hb dX11_answerFinding_9 rfl (lv_at hl 1 rfl) ?_
  refine lv_dup2_11 hx hb dX11_answerFinding_10 rfl rfl ?_
  refine va_iald hx hb hK hP 1 0 rfl rfl (show vp_in 5 7 from by unfold vp_in; decide) dX11_answerFinding_11 ?_
  refine tp_i (y := 0) rfl ?_
  refine lv_iconst (v := 1) hx hb dX11_answerFinding_12 (by decide) ?_
  refine lv_iadd hx hb dX11_answerFinding_13 ?_
  refine tp_i (y := 1) (by decide) ?_
  refine va_iast hx hb hK hP hD hS 1 0 rfl rfl (show vp_in 5 7 from by unfold vp_in; decide) dX11_answerFinding_14 (fun H locs hP hD hS => ?_)
  have hP : va_P D vwCl [(x0, .inr (11, [.ref wo, .ref bo, .ref ro_, .ref bu, .ref ta, .ref li, .ref ca, .null, .ref fc, .int 5, .long 0])), (fc, .inl (cF, 7, .inl (upd (fun _ => 0) (5 : Int32).toNatClampNeg 1)))] H := hP
  have hD : va_D A [(x0, .inr (11, [.ref wo, .ref bo, .ref ro_, .ref bu, .ref ta, .ref li, .ref ca, .null, .ref fc, .int 5, .long 0])), (fc, .inl (cF, 7, .inl (upd (fun _ => 0) (5 : Int32).toNatClampNeg 1)))] := hD
  refine lv_bipush (v := (-3)) hx hb dX11_answerFinding_15 (by decide) ?_
  exact rw_iret () hx hb hr hlocks hS (hK.sub (tys' := []) [] rfl) (hP.sub (ws' := []) [] rfl) (hD.sub (ws' := []) [] (by decide) rfl) dX11_answerFinding_17 rfl

set_option maxHeartbeats 4000000 in
set_option maxRecDepth 100000 in
theorem c_X11_refuseRooms (l : Launch) (D : va_G) (sz : Nat) (x0 : Nat) (wo : Nat) (bo : Nat) (ro_ : Nat) (bu : Nat) (ta : Nat) (li : Nat) (ca : Nat) (fc : Nat) (wp : Nat) (ws_ : Nat) (wd : Nat) (wk : Nat) (wz : Nat) (a : Int32) (b : Int32) : Met l yX11_refuseRooms wsX11_refuseRooms ({ frames := 1, cells := 0, slots := 0, locals := 21 }) (va_Pc [.ref x0, .int a, .int b] (pA D sz [(x0, .inr (11, [.ref wo, .ref bo, .ref ro_, .ref bu, .ref ta, .ref li, .ref ca, .null, .ref fc, .int 0, .long 0])), (wo, .inr (10, [.ref wp, .ref ws_, .ref wd, .ref wk, .ref wz, .int 6, .int 0]))] [])) (va_Qi (fun (r : Int32) (_ : Unit) => r = (-1)) oA (ro sz)) 0 0 (ro sz) := by
  refine Met.ofW (cc := cX11_refuseRooms) (maxL := 3) (ret := (some .int)) (by decide) rfl ?_
  intro p e s m args below meth c s₁ B hml hv
  obtain ⟨rfl, hsz, hP, hK⟩ := hv
  have hx := B.exec
  have hb := B.bytes
  have hr := B.returns
  have hts := atoms_spec (ws := wsX11_refuseRooms) B.pre
  have hown : s.vm.findClass RX11 = some m.cls := findClass_of_methodNamed B.named
  have hlocks := B.notSynchronized
  subst hsz
  have hA : ∀ q : Nat, s.heap.size ≤ q → ro s.heap.size q := fun _ h => h
  have hS : va_S (ro s.heap.size) s.heap s.heap [] := va_S.rf
  have hP : va_P D vwCl [(x0, .inr (11, [.ref wo, .ref bo, .ref ro_, .ref bu, .ref ta, .ref li, .ref ca, .null, .ref fc, .int 0, .long 0])), (wo, .inr (10, [.ref wp, .ref ws_, .ref wd, .ref wk, .ref wz, .int 6, .int 0]))] s.heap := hP
  have hl := lv_entry ([.ref x0, .int a, .int b]) (n := 3) (Nat.le_of_ble_eq_true rfl)
  rw [lg_entry_eq]
  generalize (lg_sl ([.ref x0, .int a, .int b]) ++ List.replicate (3 - (lg_sl ([.ref x0, .int a, .int b])).length) Slot.unset).toArray = ls at hl ⊢
  have hl : lv_has ls 3 [(0, .ref x0), (1, .int a), (2, .int b)] := hl
  refine lv_aload_n hx hb dX11_refuseRooms_0 rfl (lv_at hl 0 rfl) ?_
  refine va_get (D := D) (ci := 11) (v := .ref wo) (C := RX11) (T := TX11) (N := 11) hx hb hts (fun _ h => List.mem_cons_of_mem _ (List.mem_append_left _ (List.mem_append_right _ h))) hown hK hP 0 rfl rfl 0 (by decide) (hts (.fieldLink RX11 10 "TalePlay" "world" "LTalePlay$World;") (by decide +kernel)) (fun _ h9 => h9) rfl dX11_refuseRooms_1 ?_
  refine lv_iload_n hx hb dX11_refuseRooms_4 rfl (lv_at hl 1 rfl) ?_
  have hPc := hP.sub (ws' := [(wo, .inr (10, [.ref wp, .ref ws_, .ref wd, .ref wk, .ref wz, .int 6, .int 0]))]) [1] rfl
  have hKc := hK.sub (tys' := []) [] rfl
  refine ro_calli (va_runV (As := [.int a]) (rest := []) ⟨hx, hb, hml, hown, hts⟩ (c_X10_hasObject l D s.heap.size wo wp ws_ wd wk wz a) (cwV 1 hts gX11_refuseRooms_X10_hasObject rfl rfl rfl (by decide +kernel) ⟨Nat.le_of_ble_eq_true rfl, Nat.le_of_ble_eq_true rfl⟩) (pA_V hKc hPc (ci := 10) (q0 := 0) rfl rfl) rfl rfl hl.1 rfl (lv_room (Nat.le_of_ble_eq_true rfl)) dX11_refuseRooms_5 ⟨Nat.le_of_ble_eq_true rfl, Nat.le_of_ble_eq_true rfl⟩) hS hA hP (fun r1 u1 H locs hw1 hP hS => ?_)
  have hw1 : r1 = 0 := hw1
  subst hw1
  refine lv_if_eq (tgt := 22) hx hb dX11_refuseRooms_8 (by decide) (fun _ => ?_) (fun q9 => absurd (by decide) q9)
  refine lv_iconst (v := (-1)) hx hb dX11_refuseRooms_22 (by decide) ?_
  exact ro_iret hx hb hr hlocks hS dX11_refuseRooms_23 rfl

set_option maxHeartbeats 4000000 in
set_option maxRecDepth 100000 in
theorem c_X11_refuseItem (l : Launch) (D : va_G) (sz : Nat) (x0 : Nat) (wo : Nat) (bo : Nat) (ro_ : Nat) (bu : Nat) (ta : Nat) (li : Nat) (ca : Nat) (fc : Nat) (wp : Nat) (ws_ : Nat) (wd : Nat) (wk : Nat) (wz : Nat) (a : Int32) (b : Int32) (i : Int32) : Met l yX11_refuseItem wsX11_refuseItem ({ frames := 1, cells := 0, slots := 0, locals := 21 }) (va_Pc [.ref x0, .int a, .int b, .int i] (pA D sz [(x0, .inr (11, [.ref wo, .ref bo, .ref ro_, .ref bu, .ref ta, .ref li, .ref ca, .null, .ref fc, .int 0, .long 0])), (wo, .inr (10, [.ref wp, .ref ws_, .ref wd, .ref wk, .ref wz, .int 6, .int 0]))] [])) (va_Qi (fun (r : Int32) (_ : Unit) => r = (-1)) oA (ro sz)) 0 0 (ro sz) := by
  refine Met.ofW (cc := cX11_refuseItem) (maxL := 4) (ret := (some .int)) (by decide) rfl ?_
  intro p e s m args below meth c s₁ B hml hv
  obtain ⟨rfl, hsz, hP, hK⟩ := hv
  have hx := B.exec
  have hb := B.bytes
  have hr := B.returns
  have hts := atoms_spec (ws := wsX11_refuseItem) B.pre
  have hown : s.vm.findClass RX11 = some m.cls := findClass_of_methodNamed B.named
  have hlocks := B.notSynchronized
  subst hsz
  have hA : ∀ q : Nat, s.heap.size ≤ q → ro s.heap.size q := fun _ h => h
  have hS : va_S (ro s.heap.size) s.heap s.heap [] := va_S.rf
  have hP : va_P D vwCl [(x0, .inr (11, [.ref wo, .ref bo, .ref ro_, .ref bu, .ref ta, .ref li, .ref ca, .null, .ref fc, .int 0, .long 0])), (wo, .inr (10, [.ref wp, .ref ws_, .ref wd, .ref wk, .ref wz, .int 6, .int 0]))] s.heap := hP
  have hl := lv_entry ([.ref x0, .int a, .int b, .int i]) (n := 4) (Nat.le_of_ble_eq_true rfl)
  rw [lg_entry_eq]
  generalize (lg_sl ([.ref x0, .int a, .int b, .int i]) ++ List.replicate (4 - (lg_sl ([.ref x0, .int a, .int b, .int i])).length) Slot.unset).toArray = ls at hl ⊢
  have hl : lv_has ls 4 [(0, .ref x0), (1, .int a), (2, .int b), (3, .int i)] := hl
  refine lv_aload_n hx hb dX11_refuseItem_0 rfl (lv_at hl 0 rfl) ?_
  refine va_get (D := D) (ci := 11) (v := .ref wo) (C := RX11) (T := TX11) (N := 11) hx hb hts (fun _ h => List.mem_cons_of_mem _ (List.mem_append_left _ (List.mem_append_left _ (List.mem_append_right _ h)))) hown hK hP 0 rfl rfl 0 (by decide) (hts (.fieldLink RX11 10 "TalePlay" "world" "LTalePlay$World;") (by decide +kernel)) (fun _ h9 => h9) rfl dX11_refuseItem_1 ?_
  refine lv_iload_n hx hb dX11_refuseItem_4 rfl (lv_at hl 1 rfl) ?_
  have hPc := hP.sub (ws' := [(wo, .inr (10, [.ref wp, .ref ws_, .ref wd, .ref wk, .ref wz, .int 6, .int 0]))]) [1] rfl
  have hKc := hK.sub (tys' := []) [] rfl
  refine ro_calli (va_runV (As := [.int a]) (rest := []) ⟨hx, hb, hml, hown, hts⟩ (c_X10_hasObject l D s.heap.size wo wp ws_ wd wk wz a) (cwV 1 hts gX11_refuseItem_X10_hasObject rfl rfl rfl (by decide +kernel) ⟨Nat.le_of_ble_eq_true rfl, Nat.le_of_ble_eq_true rfl⟩) (pA_V hKc hPc (ci := 10) (q0 := 0) rfl rfl) rfl rfl hl.1 rfl (lv_room (Nat.le_of_ble_eq_true rfl)) dX11_refuseItem_5 ⟨Nat.le_of_ble_eq_true rfl, Nat.le_of_ble_eq_true rfl⟩) hS hA hP (fun r1 u1 H locs hw1 hP hS => ?_)
  have hw1 : r1 = 0 := hw1
  subst hw1
  refine lv_if_eq (tgt := 19) hx hb dX11_refuseItem_8 (by decide) (fun _ => ?_) (fun q9 => absurd (by decide) q9)
  refine lv_iconst (v := (-1)) hx hb dX11_refuseItem_19 (by decide) ?_
  exact ro_iret hx hb hr hlocks hS dX11_refuseItem_20 rfl
end
section
set_option maxHeartbeats 4000000 in
set_option maxRecDepth 100000 in
theorem c_X10_init (l : Launch) (D : va_G) (sz : Nat) (wo : Nat) : Met l yX10_init wsX10_init ({ frames := 1, cells := 5, slots := 252, locals := 24 }) (va_Pc [.ref wo] (pB D sz [(wo, .inr (10, [.null, .null, .null, .null, .null, .int 0, .int 0]))] [])) (va_Qv (fun (u : Nat × Nat × Nat × Nat × Nat × ClassId × ClassId × ClassId × ClassId × ClassId × (Nat → Int32) × (Nat → Int32) × (Nat → Int32)) => (∀ j, j < 144 → u.2.2.2.2.2.2.2.2.2.2.2.2 j = -9) ∧ (u.2.2.2.2.2.2.2.2.2.2.1 0 = -9) ∧ (u.2.2.2.2.2.2.2.2.2.2.1 1 = -9) ∧ (u.2.2.2.2.2.2.2.2.2.2.1 2 = 1) ∧ (u.2.2.2.2.2.2.2.2.2.2.1 3 = 1) ∧ (u.2.2.2.2.2.2.2.2.2.2.1 4 = 1) ∧ (u.2.2.2.2.2.2.2.2.2.2.1 5 = 1)) (oC D (va_A [(wo, .inr (10, [.null, .null, .null, .null, .null, .int 0, .int 0]))] sz) (fun u => [(wo, .inr (10, [.ref u.1, .ref u.2.1, .ref u.2.2.1, .ref u.2.2.2.1, .ref u.2.2.2.2.1, .int 6, .int 0])), (u.1, .inl (u.2.2.2.2.2.1, 24, .inl u.2.2.2.2.2.2.2.2.2.2.1)), (u.2.1, .inl (u.2.2.2.2.2.2.1, 24, .inl u.2.2.2.2.2.2.2.2.2.2.2.1)), (u.2.2.1, .inl (u.2.2.2.2.2.2.2.1, 144, .inl u.2.2.2.2.2.2.2.2.2.2.2.2)), (u.2.2.2.1, .inl (u.2.2.2.2.2.2.2.2.1, 30, .inl (fun _ => 0))), (u.2.2.2.2.1, .inl (u.2.2.2.2.2.2.2.2.2.1, 30, .inl (fun _ => 0)))]) (fun u => [(u.2.2.2.2.2.1, .int), (u.2.2.2.2.2.2.1, .int), (u.2.2.2.2.2.2.2.1, .int), (u.2.2.2.2.2.2.2.2.1, .int), (u.2.2.2.2.2.2.2.2.2.1, .int)])) (va_A [(wo, .inr (10, [.null, .null, .null, .null, .null, .int 0, .int 0]))] sz)) 5 252 (va_A [(wo, .inr (10, [.null, .null, .null, .null, .null, .int 0, .int 0]))] sz) := by
  refine Met.ofW (cc := cX10_init) (maxL := 2) (ret := none) (by decide) rfl ?_
  intro p e s m args below meth c s₁ B hml hv
  obtain ⟨rfl, hsz, hP, hK, hD0⟩ := hv
  have hx := B.exec
  have hb := B.bytes
  have hr := B.returns
  have hts := atoms_spec (ws := wsX10_init) B.pre
  have hown : s.vm.findClass RX10 = some m.cls := findClass_of_methodNamed B.named
  have hlocks := B.notSynchronized
  have hin : meth.name = "<init>" := (name_of_methodNamed B.named B.method).1
  subst hsz
  have hD := hD0.self (sz := s.heap.size)
  generalize hAe : va_A [(wo, .inr (10, [.null, .null, .null, .null, .null, .int 0, .int 0]))] s.heap.size = A at hD ⊢
  have hA : ∀ q : Nat, s.heap.size ≤ q → A q := fun q h => by rw [← hAe]; exact Or.inr h
  have hS : va_S A s.heap s.heap [] := va_S.rf
  have hP : va_P D vwCl [(wo, .inr (10, [.null, .null, .null, .null, .null, .int 0, .int 0]))] s.heap := hP
  have hl := lv_entry ([.ref wo]) (n := 2) (Nat.le_of_ble_eq_true rfl)
  rw [lg_entry_eq]
  generalize (lg_sl ([.ref wo]) ++ List.replicate (2 - (lg_sl ([.ref wo])).length) Slot.unset).toArray = ls at hl ⊢
  have hl : lv_has ls 2 [(0, .ref wo)] := hl
  refine lv_aload_n hx hb dX10_init_0 rfl (lv_at hl 0 rfl) ?_
  refine W.objInit hx hb hown (hts (.methodLink RX10 3 objectInit) (by decide +kernel)) (hts (.instanceMethod objectInit) (by decide +kernel)) (hts (.code objectInit ⟨#[0xb1]⟩ 1 none) (by decide +kernel)) rfl (by rw [hml]; exact hl.1) rfl dX10_init_1 (Nat.le_of_ble_eq_true rfl) (Nat.le_of_ble_eq_true rfl) ?_
  refine W.eq (g2 := F0 m 4 ls []) rfl ?_
  refine lv_aload_n hx hb dX10_init_4 rfl (lv_at hl 0 rfl) ?_
  refine lv_bipush (v := 24) hx hb dX10_init_5 (by decide) ?_
  refine va_newa (atype := .int) (ty := .int) (a0 := (24, .inl (fun _ => 0))) hx hb (hts (.arrayClass .int) (by decide +kernel)) rfl hK hP hD hS hA (fun _ => vp_cell_i _ _ _) (by decide) (N' := 24) (by decide) (show 24 * 4 ≤ 536870912 by omega) (Nat.le_of_ble_eq_true rfl) (Nat.le_of_ble_eq_true rfl) dX10_init_7 (fun q1 cA1 H hK hP hD hS => ?_)
  have hP : va_P D vwCl [(wo, .inr (10, [.null, .null, .null, .null, .null, .int 0, .int 0])), (q1, .inl (cA1, 24, .inl (fun _ => 0)))] H := hP
  have hD : va_D A [(wo, .inr (10, [.null, .null, .null, .null, .null, .int 0, .int 0])), (q1, .inl (cA1, 24, .inl (fun _ => 0)))] := hD
  have hK : va_K D vwCl [(cA1, .int)] s := hK
  refine W.widen (k := 1) (n := 24) (Nat.le_of_ble_eq_true rfl) (Nat.le_of_ble_eq_true rfl) ?_
  refine va_putF (D := D) (ci := 10) (v := .ref q1) (ty := .array .int) (C := RX10) (T := TX10) (N := 7) hx hb hts (fun _ h => List.mem_cons_of_mem _ (List.mem_append_right _ h)) tyX10 tyX10_ok nmX10 hown hK hP hD hS 0 rfl rfl 0 (by decide) (hts (.fieldLink RX10 9 "TalePlay$World" "parents" "[I") (by decide +kernel)) (fun _ h9 => h9) rfl hin rfl (by decide +kernel) rfl rfl (Nat.le_of_ble_eq_true rfl) dX10_init_9 (fun H locs hP hD hS => ?_)
  have hP : va_P D vwCl [(wo, .inr (10, [.ref q1, .null, .null, .null, .null, .int 0, .int 0])), (q1, .inl (cA1, 24, .inl (fun _ => 0)))] H := hP
  have hD : va_D A [(wo, .inr (10, [.ref q1, .null, .null, .null, .null, .int 0, .int 0])), (q1, .inl (cA1, 24, .inl (fun _ => 0)))] := hD
  refine lv_aload_n hx hb dX10_init_12 rfl (lv_at hl 0 rfl) ?_
  refine lv_bipush (v := 24) hx hb dX10_init_13 (by decide) ?_
  refine va_newa (atype := .int) (ty := .int) (a0 := (24, .inl (fun _ => 0))) hx hb (hts (.arrayClass .int) (by decide +kernel)) rfl hK hP hD hS hA (fun _ => vp_cell_i _ _ _) (by decide) (N' := 24) (by decide) (show 24 * 4 ≤ 536870912 by omega) (Nat.le_of_ble_eq_true rfl) (Nat.le_of_ble_eq_true rfl) dX10_init_15 (fun q2 cA2 H hK hP hD hS => ?_)
  have hP : va_P D vwCl [(wo, .inr (10, [.ref q1, .null, .null, .null, .null, .int 0, .int 0])), (q1, .inl (cA1, 24, .inl (fun _ => 0))), (q2, .inl (cA2, 24, .inl (fun _ => 0)))] H := hP
  have hD : va_D A [(wo, .inr (10, [.ref q1, .null, .null, .null, .null, .int 0, .int 0])), (q1, .inl (cA1, 24, .inl (fun _ => 0))), (q2, .inl (cA2, 24, .inl (fun _ => 0)))] := hD
  have hK : va_K D vwCl [(cA1, .int), (cA2, .int)] s := hK
  refine W.widen (k := 2) (n := 48) (Nat.le_of_ble_eq_true rfl) (Nat.le_of_ble_eq_true rfl) ?_
  refine va_putF (D := D) (ci := 10) (v := .ref q2) (ty := .array .int) (C := RX10) (T := TX10) (N := 7) hx hb hts (fun _ h => List.mem_cons_of_mem _ (List.mem_append_right _ h)) tyX10 tyX10_ok nmX10 hown hK hP hD hS 0 rfl rfl 1 (by decide) (hts (.fieldLink RX10 15 "TalePlay$World" "sorts" "[I") (by decide +kernel)) (fun _ h9 => h9) rfl hin rfl (by decide +kernel) rfl rfl (Nat.le_of_ble_eq_true rfl) dX10_init_17 (fun H locs hP hD hS => ?_)
  have hP : va_P D vwCl [(wo, .inr (10, [.ref q1, .ref q2, .null, .null, .null, .int 0, .int 0])), (q1, .inl (cA1, 24, .inl (fun _ => 0))), (q2, .inl (cA2, 24, .inl (fun _ => 0)))] H := hP
  have hD : va_D A [(wo, .inr (10, [.ref q1, .ref q2, .null, .null, .null, .int 0, .int 0])), (q1, .inl (cA1, 24, .inl (fun _ => 0))), (q2, .inl (cA2, 24, .inl (fun _ => 0)))] := hD
  refine lv_aload_n hx hb dX10_init_20 rfl (lv_at hl 0 rfl) ?_
  refine lv_sipush (v := 144) hx hb dX10_init_21 (by decide) ?_
  refine va_newa (atype := .int) (ty := .int) (a0 := (144, .inl (fun _ => 0))) hx hb (hts (.arrayClass .int) (by decide +kernel)) rfl hK hP hD hS hA (fun _ => vp_cell_i _ _ _) (by decide) (N' := 144) (by decide) (show 144 * 4 ≤ 536870912 by omega) (Nat.le_of_ble_eq_true rfl) (Nat.le_of_ble_eq_true rfl) dX10_init_24 (fun q3 cA3 H hK hP hD hS => ?_)
  have hP : va_P D vwCl [(wo, .inr (10, [.ref q1, .ref q2, .null, .null, .null, .int 0, .int 0])), (q1, .inl (cA1, 24, .inl (fun _ => 0))), (q2, .inl (cA2, 24, .inl (fun _ => 0))), (q3, .inl (cA3, 144, .inl (fun _ => 0)))] H := hP
  have hD : va_D A [(wo, .inr (10, [.ref q1, .ref q2, .null, .null, .null, .int 0, .int 0])), (q1, .inl (cA1, 24, .inl (fun _ => 0))), (q2, .inl (cA2, 24, .inl (fun _ => 0))), (q3, .inl (cA3, 144, .inl (fun _ => 0)))] := hD
  have hK : va_K D vwCl [(cA1, .int), (cA2, .int), (cA3, .int)] s := hK
  refine W.widen (k := 3) (n := 192) (Nat.le_of_ble_eq_true rfl) (Nat.le_of_ble_eq_true rfl) ?_
  refine va_putF (D := D) (ci := 10) (v := .ref q3) (ty := .array .int) (C := RX10) (T := TX10) (N := 7) hx hb hts (fun _ h => List.mem_cons_of_mem _ (List.mem_append_right _ h)) tyX10 tyX10_ok nmX10 hown hK hP hD hS 0 rfl rfl 2 (by decide) (hts (.fieldLink RX10 18 "TalePlay$World" "standards" "[I") (by decide +kernel)) (fun _ h9 => h9) rfl hin rfl (by decide +kernel) rfl rfl (Nat.le_of_ble_eq_true rfl) dX10_init_26 (fun H locs hP hD hS => ?_)
  have hP : va_P D vwCl [(wo, .inr (10, [.ref q1, .ref q2, .ref q3, .null, .null, .int 0, .int 0])), (q1, .inl (cA1, 24, .inl (fun _ => 0))), (q2, .inl (cA2, 24, .inl (fun _ => 0))), (q3, .inl (cA3, 144, .inl (fun _ => 0)))] H := hP
  have hD : va_D A [(wo, .inr (10, [.ref q1, .ref q2, .ref q3, .null, .null, .int 0, .int 0])), (q1, .inl (cA1, 24, .inl (fun _ => 0))), (q2, .inl (cA2, 24, .inl (fun _ => 0))), (q3, .inl (cA3, 144, .inl (fun _ => 0)))] := hD
  refine lv_aload_n hx hb dX10_init_29 rfl (lv_at hl 0 rfl) ?_
  refine lv_bipush (v := 30) hx hb dX10_init_30 (by decide) ?_
  refine va_newa (atype := .int) (ty := .int) (a0 := (30, .inl (fun _ => 0))) hx hb (hts (.arrayClass .int) (by decide +kernel)) rfl hK hP hD hS hA (fun _ => vp_cell_i _ _ _) (by decide) (N' := 30) (by decide) (show 30 * 4 ≤ 536870912 by omega) (Nat.le_of_ble_eq_true rfl) (Nat.le_of_ble_eq_true rfl) dX10_init_32 (fun q4 cA4 H hK hP hD hS => ?_)
  have hP : va_P D vwCl [(wo, .inr (10, [.ref q1, .ref q2, .ref q3, .null, .null, .int 0, .int 0])), (q1, .inl (cA1, 24, .inl (fun _ => 0))), (q2, .inl (cA2, 24, .inl (fun _ => 0))), (q3, .inl (cA3, 144, .inl (fun _ => 0))), (q4, .inl (cA4, 30, .inl (fun _ => 0)))] H := hP
  have hD : va_D A [(wo, .inr (10, [.ref q1, .ref q2, .ref q3, .null, .null, .int 0, .int 0])), (q1, .inl (cA1, 24, .inl (fun _ => 0))), (q2, .inl (cA2, 24, .inl (fun _ => 0))), (q3, .inl (cA3, 144, .inl (fun _ => 0))), (q4, .inl (cA4, 30, .inl (fun _ => 0)))] := hD
  have hK : va_K D vwCl [(cA1, .int), (cA2, .int), (cA3, .int), (cA4, .int)] s := hK
  refine W.widen (k := 4) (n := 222) (Nat.le_of_ble_eq_true rfl) (Nat.le_of_ble_eq_true rfl) ?_
  refine va_putF (D := D) (ci := 10) (v := .ref q4) (ty := .array .int) (C := RX10) (T := TX10) (N := 7) hx hb hts (fun _ h => List.mem_cons_of_mem _ (List.mem_append_right _ h)) tyX10 tyX10_ok nmX10 hown hK hP hD hS 0 rfl rfl 3 (by decide) (hts (.fieldLink RX10 21 "TalePlay$World" "kindOf" "[I") (by decide +kernel)) (fun _ h9 => h9) rfl hin rfl (by decide +kernel) rfl rfl (Nat.le_of_ble_eq_true rfl) dX10_init_34 (fun H locs hP hD hS => ?_)
  have hP : va_P D vwCl [(wo, .inr (10, [.ref q1, .ref q2, .ref q3, .ref q4, .null, .int 0, .int 0])), (q1, .inl (cA1, 24, .inl (fun _ => 0))), (q2, .inl (cA2, 24, .inl (fun _ => 0))), (q3, .inl (cA3, 144, .inl (fun _ => 0))), (q4, .inl (cA4, 30, .inl (fun _ => 0)))] H := hP
  have hD : va_D A [(wo, .inr (10, [.ref q1, .ref q2, .ref q3, .ref q4, .null, .int 0, .int 0])), (q1, .inl (cA1, 24, .inl (fun _ => 0))), (q2, .inl (cA2, 24, .inl (fun _ => 0))), (q3, .inl (cA3, 144, .inl (fun _ => 0))), (q4, .inl (cA4, 30, .inl (fun _ => 0)))] := hD
  refine lv_aload_n hx hb dX10_init_37 rfl (lv_at hl 0 rfl) ?_
  refine lv_bipush (v := 30) hx hb dX10_init_38 (by decide) ?_
  refine va_newa (atype := .int) (ty := .int) (a0 := (30, .inl (fun _ => 0))) hx hb (hts (.arrayClass .int) (by decide +kernel)) rfl hK hP hD hS hA (fun _ => vp_cell_i _ _ _) (by decide) (N' := 30) (by decide) (show 30 * 4 ≤ 536870912 by omega) (Nat.le_of_ble_eq_true rfl) (Nat.le_of_ble_eq_true rfl) dX10_init_40 (fun q5 cA5 H hK hP hD hS => ?_)
  have hP : va_P D vwCl [(wo, .inr (10, [.ref q1, .ref q2, .ref q3, .ref q4, .null, .int 0, .int 0])), (q1, .inl (cA1, 24, .inl (fun _ => 0))), (q2, .inl (cA2, 24, .inl (fun _ => 0))), (q3, .inl (cA3, 144, .inl (fun _ => 0))), (q4, .inl (cA4, 30, .inl (fun _ => 0))), (q5, .inl (cA5, 30, .inl (fun _ => 0)))] H := hP
  have hD : va_D A [(wo, .inr (10, [.ref q1, .ref q2, .ref q3, .ref q4, .null, .int 0, .int 0])), (q1, .inl (cA1, 24, .inl (fun _ => 0))), (q2, .inl (cA2, 24, .inl (fun _ => 0))), (q3, .inl (cA3, 144, .inl (fun _ => 0))), (q4, .inl (cA4, 30, .inl (fun _ => 0))), (q5, .inl (cA5, 30, .inl (fun _ => 0)))] := hD
  have hK : va_K D vwCl [(cA1, .int), (cA2, .int), (cA3, .int), (cA4, .int), (cA5, .int)] s := hK
  refine W.widen (k := 5) (n := 252) (Nat.le_of_ble_eq_true rfl) (Nat.le_of_ble_eq_true rfl) ?_
  refine va_putF (D := D) (ci := 10) (v := .ref q5) (ty := .array .int) (C := RX10) (T := TX10) (N := 7) hx hb hts (fun _ h => List.mem_cons_of_mem _ (List.mem_append_right _ h)) tyX10 tyX10_ok nmX10 hown hK hP hD hS 0 rfl rfl 4 (by decide) (hts (.fieldLink RX10 24 "TalePlay$World" "sizeOf" "[I") (by decide +kernel)) (fun _ h9 => h9) rfl hin rfl (by decide +kernel) rfl rfl (Nat.le_of_ble_eq_true rfl) dX10_init_42 (fun H locs hP hD hS => ?_)
  have hP : va_P D vwCl [(wo, .inr (10, [.ref q1, .ref q2, .ref q3, .ref q4, .ref q5, .int 0, .int 0])), (q1, .inl (cA1, 24, .inl (fun _ => 0))), (q2, .inl (cA2, 24, .inl (fun _ => 0))), (q3, .inl (cA3, 144, .inl (fun _ => 0))), (q4, .inl (cA4, 30, .inl (fun _ => 0))), (q5, .inl (cA5, 30, .inl (fun _ => 0)))] H := hP
  have hD : va_D A [(wo, .inr (10, [.ref q1, .ref q2, .ref q3, .ref q4, .ref q5, .int 0, .int 0])), (q1, .inl (cA1, 24, .inl (fun _ => 0))), (q2, .inl (cA2, 24, .inl (fun _ => 0))), (q3, .inl (cA3, 144, .inl (fun _ => 0))), (q4, .inl (cA4, 30, .inl (fun _ => 0))), (q5, .inl (cA5, 30, .inl (fun _ => 0)))] := hD
  refine lv_aload_n hx hb dX10_init_45 rfl (lv_at hl 0 rfl) ?_
  refine va_get (D := D) (ci := 10) (v := .ref q3) (C := RX10) (T := TX10) (N := 7) hx hb hts (fun _ h => List.mem_cons_of_mem _ (List.mem_append_right _ h)) hown hK hP 0 rfl rfl 2 (by decide) (hts (.fieldLink RX10 18 "TalePlay$World" "standards" "[I") (by decide +kernel)) (fun _ h9 => h9) rfl dX10_init_46 ?_
  refine lv_bipush (v := (-9)) hx hb dX10_init_49 (by decide) ?_
  have hPc := hP.sub (ws' := [(q3, .inl (cA3, 144, .inl (fun _ => 0)))]) [3] rfl
  have hKc := hK.sub (tys' := [(cA3, .int)]) [2] rfl
  have hDc := hD.sub (ws' := [(q3, .inl (cA3, 144, .inl (fun _ => 0)))]) [3] (by decide) rfl
  refine rw_callv (wr := [(wo, .inr (10, [.ref q1, .ref q2, .ref q3, .ref q4, .ref q5, .int 0, .int 0])), (q1, .inl (cA1, 24, .inl (fun _ => 0))), (q2, .inl (cA2, 24, .inl (fun _ => 0))), (q4, .inl (cA4, 30, .inl (fun _ => 0))), (q5, .inl (cA5, 30, .inl (fun _ => 0)))]) (va_runS (As := [.ref q3, .int (-9)]) (rest := []) ⟨hx, hb, hml, hown, hts⟩ (c_J7_fill_53178 l D H.size q3 cA3 144 (fun _ => 0) (-9) (by omega)) (va_cwS 2 hts gX10_init_J7_fill_53178 rfl rfl rfl (by decide +kernel) ⟨Nat.le_of_ble_eq_true rfl, Nat.le_of_ble_eq_true rfl⟩) (pB_S hKc hPc hDc) rfl rfl hl.1 rfl (lv_room (Nat.le_of_ble_eq_true rfl)) dX10_init_51 ⟨Nat.le_of_ble_eq_true rfl, Nat.le_of_ble_eq_true rfl⟩) hS hA hK hP hD [3] [0, 1, 2, 4, 5] rfl rfl (by decide) (by decide) (fun u6 H locs hw6 hK hP hD hS => ?_)
  obtain ⟨g_6, rfl⟩ : ∃ z, z = u6 := ⟨_, rfl⟩
  have hw6 : (∀ j, j < 144 → g_6 j = (-9)) := hw6
  have hP : va_P D vwCl [(wo, .inr (10, [.ref q1, .ref q2, .ref q3, .ref q4, .ref q5, .int 0, .int 0])), (q1, .inl (cA1, 24, .inl (fun _ => 0))), (q2, .inl (cA2, 24, .inl (fun _ => 0))), (q4, .inl (cA4, 30, .inl (fun _ => 0))), (q5, .inl (cA5, 30, .inl (fun _ => 0))), (q3, .inl (cA3, 144, .inl g_6))] H := hP
  have hD : va_D A [(wo, .inr (10, [.ref q1, .ref q2, .ref q3, .ref q4, .ref q5, .int 0, .int 0])), (q1, .inl (cA1, 24, .inl (fun _ => 0))), (q2, .inl (cA2, 24, .inl (fun _ => 0))), (q4, .inl (cA4, 30, .inl (fun _ => 0))), (q5, .inl (cA5, 30, .inl (fun _ => 0))), (q3, .inl (cA3, 144, .inl g_6))] := hD
  have hK : va_K D vwCl [(cA1, .int), (cA2, .int), (cA3, .int), (cA4, .int), (cA5, .int)] s := hK
  refine lv_iconst (v := 0) hx hb dX10_init_54 (by decide) ?_
  refine lv_istore_n (lv' := [(1, .int 0), (0, .ref wo)]) hx hb dX10_init_55 rfl hl (by decide) rfl (fun ls hl => ?_)
  refine lv_iload_n hx hb dX10_init_56 rfl (lv_at hl 0 rfl) ?_
  refine lv_iconst (v := 5) hx hb dX10_init_57 (by decide) ?_
  refine lv_icmp_gt (tgt := 91) hx hb dX10_init_58 (by decide) (fun q9 => absurd q9 (by decide)) (fun _ => ?_)
  refine lv_aload_n hx hb dX10_init_61 rfl (lv_at hl 1 rfl) ?_
  refine va_get (D := D) (ci := 10) (v := .ref q1) (C := RX10) (T := TX10) (N := 7) hx hb hts (fun _ h => List.mem_cons_of_mem _ (List.mem_append_right _ h)) hown hK hP 0 rfl rfl 0 (by decide) (hts (.fieldLink RX10 9 "TalePlay$World" "parents" "[I") (by decide +kernel)) (fun _ h9 => h9) rfl dX10_init_62 ?_
  refine lv_iload_n hx hb dX10_init_65 rfl (lv_at hl 0 rfl) ?_
  refine lv_iload_n hx hb dX10_init_66 rfl (lv_at hl 0 rfl) ?_
  refine lv_iconst (v := 1) hx hb dX10_init_67 (by decide) ?_
  refine lv_icmp_gt (tgt := 76) hx hb dX10_init_68 (by decide) (fun q9 => absurd q9 (by decide)) (fun _ => ?_)
  refine lv_bipush (v := (-9)) hx hb dX10_init_71 (by decide) ?_
  refine lv_goto (tgt := 77) hx hb dX10_init_73 (by decide) ?_
  refine va_iast hx hb hK hP hD hS 1 0 rfl rfl (show vp_in 0 24 from by unfold vp_in; decide) dX10_init_77 (fun H locs hP hD hS => ?_)
  have hP : va_P D vwCl [(wo, .inr (10, [.ref q1, .ref q2, .ref q3, .ref q4, .ref q5, .int 0, .int 0])), (q1, .inl (cA1, 24, .inl (upd (fun _ => 0) (0 : Int32).toNatClampNeg (-9)))), (q2, .inl (cA2, 24, .inl (fun _ => 0))), (q4, .inl (cA4, 30, .inl (fun _ => 0))), (q5, .inl (cA5, 30, .inl (fun _ => 0))), (q3, .inl (cA3, 144, .inl g_6))] H := hP
  have hD : va_D A [(wo, .inr (10, [.ref q1, .ref q2, .ref q3, .ref q4, .ref q5, .int 0, .int 0])), (q1, .inl (cA1, 24, .inl (upd (fun _ => 0) (0 : Int32).toNatClampNeg (-9)))), (q2, .inl (cA2, 24, .inl (fun _ => 0))), (q4, .inl (cA4, 30, .inl (fun _ => 0))), (q5, .inl (cA5, 30, .inl (fun _ => 0))), (q3, .inl (cA3, 144, .inl g_6))] := hD
  refine lv_aload_n hx hb dX10_init_78 rfl (lv_at hl 1 rfl) ?_
  refine va_get (D := D) (ci := 10) (v := .ref q2) (C := RX10) (T := TX10) (N := 7) hx hb hts (fun _ h => List.mem_cons_of_mem _ (List.mem_append_right _ h)) hown hK hP 0 rfl rfl 1 (by decide) (hts (.fieldLink RX10 15 "TalePlay$World" "sorts" "[I") (by decide +kernel)) (fun _ h9 => h9) rfl dX10_init_79 ?_
  refine lv_iload_n hx hb dX10_init_82 rfl (lv_at hl 0 rfl) ?_
  refine lv_iload_n hx hb dX10_init_83 rfl (lv_at hl 0 rfl) ?_
  refine va_iast hx hb hK hP hD hS 2 1 rfl rfl (show vp_in 0 24 from by unfold vp_in; decide) dX10_init_84 (fun H locs hP hD hS => ?_)
  have hP : va_P D vwCl [(wo, .inr (10, [.ref q1, .ref q2, .ref q3, .ref q4, .ref q5, .int 0, .int 0])), (q1, .inl (cA1, 24, .inl (upd (fun _ => 0) (0 : Int32).toNatClampNeg (-9)))), (q2, .inl (cA2, 24, .inl (upd (fun _ => 0) (0 : Int32).toNatClampNeg 0))), (q4, .inl (cA4, 30, .inl (fun _ => 0))), (q5, .inl (cA5, 30, .inl (fun _ => 0))), (q3, .inl (cA3, 144, .inl g_6))] H := hP
  have hD : va_D A [(wo, .inr (10, [.ref q1, .ref q2, .ref q3, .ref q4, .ref q5, .int 0, .int 0])), (q1, .inl (cA1, 24, .inl (upd (fun _ => 0) (0 : Int32).toNatClampNeg (-9)))), (q2, .inl (cA2, 24, .inl (upd (fun _ => 0) (0 : Int32).toNatClampNeg 0))), (q4, .inl (cA4, 30, .inl (fun _ => 0))), (q5, .inl (cA5, 30, .inl (fun _ => 0))), (q3, .inl (cA3, 144, .inl g_6))] := hD
  refine lv_iinc (v := 1) (lv' := [(1, .int 1), (0, .ref wo)]) hx hb dX10_init_85 hl (k := 0) rfl (by decide) (by decide) rfl (fun ls hl => ?_)
  refine lv_goto (tgt := 56) hx hb dX10_init_88 (by decide) ?_
  refine lv_iload_n hx hb dX10_init_56 rfl (lv_at hl 0 rfl) ?_
  refine lv_iconst (v := 5) hx hb dX10_init_57 (by decide) ?_
  refine lv_icmp_gt (tgt := 91) hx hb dX10_init_58 (by decide) (fun q9 => absurd q9 (by decide)) (fun _ => ?_)
  refine lv_aload_n hx hb dX10_init_61 rfl (lv_at hl 1 rfl) ?_
  refine va_get (D := D) (ci := 10) (v := .ref q1) (C := RX10) (T := TX10) (N := 7) hx hb hts (fun _ h => List.mem_cons_of_mem _ (List.mem_append_right _ h)) hown hK hP 0 rfl rfl 0 (by decide) (hts (.fieldLink RX10 9 "TalePlay$World" "parents" "[I") (by decide +kernel)) (fun _ h9 => h9) rfl dX10_init_62 ?_
  refine lv_iload_n hx hb dX10_init_65 rfl (lv_at hl 0 rfl) ?_
  refine lv_iload_n hx hb dX10_init_66 rfl (lv_at hl 0 rfl) ?_
  refine lv_iconst (v := 1) hx hb dX10_init_67 (by decide) ?_
  refine lv_icmp_gt (tgt := 76) hx hb dX10_init_68 (by decide) (fun q9 => absurd q9 (by decide)) (fun _ => ?_)
  refine lv_bipush (v := (-9)) hx hb dX10_init_71 (by decide) ?_
  refine lv_goto (tgt := 77) hx hb dX10_init_73 (by decide) ?_
  refine va_iast hx hb hK hP hD hS 1 0 rfl rfl (show vp_in 1 24 from by unfold vp_in; decide) dX10_init_77 (fun H locs hP hD hS => ?_)
  have hP : va_P D vwCl [(wo, .inr (10, [.ref q1, .ref q2, .ref q3, .ref q4, .ref q5, .int 0, .int 0])), (q1, .inl (cA1, 24, .inl (upd (upd (fun _ => 0) (0 : Int32).toNatClampNeg (-9)) (1 : Int32).toNatClampNeg (-9)))), (q2, .inl (cA2, 24, .inl (upd (fun _ => 0) (0 : Int32).toNatClampNeg 0))), (q4, .inl (cA4, 30, .inl (fun _ => 0))), (q5, .inl (cA5, 30, .inl (fun _ => 0))), (q3, .inl (cA3, 144, .inl g_6))] H := hP
  have hD : va_D A [(wo, .inr (10, [.ref q1, .ref q2, .ref q3, .ref q4, .ref q5, .int 0, .int 0])), (q1, .inl (cA1, 24, .inl (upd (upd (fun _ => 0) (0 : Int32).toNatClampNeg (-9)) (1 : Int32).toNatClampNeg (-9)))), (q2, .inl (cA2, 24, .inl (upd (fun _ => 0) (0 : Int32).toNatClampNeg 0))), (q4, .inl (cA4, 30, .inl (fun _ => 0))), (q5, .inl (cA5, 30, .inl (fun _ => 0))), (q3, .inl (cA3, 144, .inl g_6))] := hD
  refine lv_aload_n hx hb dX10_init_78 rfl (lv_at hl 1 rfl) ?_
  refine va_get (D := D) (ci := 10) (v := .ref q2) (C := RX10) (T := TX10) (N := 7) hx hb hts (fun _ h => List.mem_cons_of_mem _ (List.mem_append_right _ h)) hown hK hP 0 rfl rfl 1 (by decide) (hts (.fieldLink RX10 15 "TalePlay$World" "sorts" "[I") (by decide +kernel)) (fun _ h9 => h9) rfl dX10_init_79 ?_
  refine lv_iload_n hx hb dX10_init_82 rfl (lv_at hl 0 rfl) ?_
  refine lv_iload_n hx hb dX10_init_83 rfl (lv_at hl 0 rfl) ?_
  refine va_iast hx hb hK hP hD hS 2 1 rfl rfl (show vp_in 1 24 from by unfold vp_in; decide) dX10_init_84 (fun H locs hP hD hS => ?_)
  have hP : va_P D vwCl [(wo, .inr (10, [.ref q1, .ref q2, .ref q3, .ref q4, .ref q5, .int 0, .int 0])), (q1, .inl (cA1, 24, .inl (upd (upd (fun _ => 0) (0 : Int32).toNatClampNeg (-9)) (1 : Int32).toNatClampNeg (-9)))), (q2, .inl (cA2, 24, .inl (upd (upd (fun _ => 0) (0 : Int32).toNatClampNeg 0) (1 : Int32).toNatClampNeg 1))), (q4, .inl (cA4, 30, .inl (fun _ => 0))), (q5, .inl (cA5, 30, .inl (fun _ => 0))), (q3, .inl (cA3, 144, .inl g_6))] H := hP
  have hD : va_D A [(wo, .inr (10, [.ref q1, .ref q2, .ref q3, .ref q4, .ref q5, .int 0, .int 0])), (q1, .inl (cA1, 24, .inl (upd (upd (fun _ => 0) (0 : Int32).toNatClampNeg (-9)) (1 : Int32).toNatClampNeg (-9)))), (q2, .inl (cA2, 24, .inl (upd (upd (fun _ => 0) (0 : Int32).toNatClampNeg 0) (1 : Int32).toNatClampNeg 1))), (q4, .inl (cA4, 30, .inl (fun _ => 0))), (q5, .inl (cA5, 30, .inl (fun _ => 0))), (q3, .inl (cA3, 144, .inl g_6))] := hD
  refine lv_iinc (v := 2) (lv' := [(1, .int 2), (0, .ref wo)]) hx hb dX10_init_85 hl (k := 0) rfl (by decide) (by decide) rfl (fun ls hl => ?_)
  refine lv_goto (tgt := 56) hx hb dX10_init_88 (by decide) ?_
  refine lv_iload_n hx hb dX10_init_56 rfl (lv_at hl 0 rfl) ?_
  refine lv_iconst (v := 5) hx hb dX10_init_57 (by decide) ?_
  refine lv_icmp_gt (tgt := 91) hx hb dX10_init_58 (by decide) (fun q9 => absurd q9 (by decide)) (fun _ => ?_)
  refine lv_aload_n hx hb dX10_init_61 rfl (lv_at hl 1 rfl) ?_
  refine va_get (D := D) (ci := 10) (v := .ref q1) (C := RX10) (T := TX10) (N := 7) hx hb hts (fun _ h => List.mem_cons_of_mem _ (List.mem_append_right _ h)) hown hK hP 0 rfl rfl 0 (by decide) (hts (.fieldLink RX10 9 "TalePlay$World" "parents" "[I") (by decide +kernel)) (fun _ h9 => h9) rfl dX10_init_62 ?_
  refine lv_iload_n hx hb dX10_init_65 rfl (lv_at hl 0 rfl) ?_
  refine lv_iload_n hx hb dX10_init_66 rfl (lv_at hl 0 rfl) ?_
  refine lv_iconst (v := 1) hx hb dX10_init_67 (by decide) ?_
  refine lv_icmp_gt (tgt := 76) hx hb dX10_init_68 (by decide) (fun _ => ?_) (fun q9 => absurd (by decide) q9)
  refine lv_iconst (v := 1) hx hb dX10_init_76 (by decide) ?_
  refine va_iast hx hb hK hP hD hS 1 0 rfl rfl (show vp_in 2 24 from by unfold vp_in; decide) dX10_init_77 (fun H locs hP hD hS => ?_)
  have hP : va_P D vwCl [(wo, .inr (10, [.ref q1, .ref q2, .ref q3, .ref q4, .ref q5, .int 0, .int 0])), (q1, .inl (cA1, 24, .inl (upd (upd (upd (fun _ => 0) (0 : Int32).toNatClampNeg (-9)) (1 : Int32).toNatClampNeg (-9)) (2 : Int32).toNatClampNeg 1))), (q2, .inl (cA2, 24, .inl (upd (upd (fun _ => 0) (0 : Int32).toNatClampNeg 0) (1 : Int32).toNatClampNeg 1))), (q4, .inl (cA4, 30, .inl (fun _ => 0))), (q5, .inl (cA5, 30, .inl (fun _ => 0))), (q3, .inl (cA3, 144, .inl g_6))] H := hP
  have hD : va_D A [(wo, .inr (10, [.ref q1, .ref q2, .ref q3, .ref q4, .ref q5, .int 0, .int 0])), (q1, .inl (cA1, 24, .inl (upd (upd (upd (fun _ => 0) (0 : Int32).toNatClampNeg (-9)) (1 : Int32).toNatClampNeg (-9)) (2 : Int32).toNatClampNeg 1))), (q2, .inl (cA2, 24, .inl (upd (upd (fun _ => 0) (0 : Int32).toNatClampNeg 0) (1 : Int32).toNatClampNeg 1))), (q4, .inl (cA4, 30, .inl (fun _ => 0))), (q5, .inl (cA5, 30, .inl (fun _ => 0))), (q3, .inl (cA3, 144, .inl g_6))] := hD
  refine lv_aload_n hx hb dX10_init_78 rfl (lv_at hl 1 rfl) ?_
  refine va_get (D := D) (ci := 10) (v := .ref q2) (C := RX10) (T := TX10) (N := 7) hx hb hts (fun _ h => List.mem_cons_of_mem _ (List.mem_append_right _ h)) hown hK hP 0 rfl rfl 1 (by decide) (hts (.fieldLink RX10 15 "TalePlay$World" "sorts" "[I") (by decide +kernel)) (fun _ h9 => h9) rfl dX10_init_79 ?_
  refine lv_iload_n hx hb dX10_init_82 rfl (lv_at hl 0 rfl) ?_
  refine lv_iload_n hx hb dX10_init_83 rfl (lv_at hl 0 rfl) ?_
  refine va_iast hx hb hK hP hD hS 2 1 rfl rfl (show vp_in 2 24 from by unfold vp_in; decide) dX10_init_84 (fun H locs hP hD hS => ?_)
  have hP : va_P D vwCl [(wo, .inr (10, [.ref q1, .ref q2, .ref q3, .ref q4, .ref q5, .int 0, .int 0])), (q1, .inl (cA1, 24, .inl (upd (upd (upd (fun _ => 0) (0 : Int32).toNatClampNeg (-9)) (1 : Int32).toNatClampNeg (-9)) (2 : Int32).toNatClampNeg 1))), (q2, .inl (cA2, 24, .inl (upd (upd (upd (fun _ => 0) (0 : Int32).toNatClampNeg 0) (1 : Int32).toNatClampNeg 1) (2 : Int32).toNatClampNeg 2))), (q4, .inl (cA4, 30, .inl (fun _ => 0))), (q5, .inl (cA5, 30, .inl (fun _ => 0))), (q3, .inl (cA3, 144, .inl g_6))] H := hP
  have hD : va_D A [(wo, .inr (10, [.ref q1, .ref q2, .ref q3, .ref q4, .ref q5, .int 0, .int 0])), (q1, .inl (cA1, 24, .inl (upd (upd (upd (fun _ => 0) (0 : Int32).toNatClampNeg (-9)) (1 : Int32).toNatClampNeg (-9)) (2 : Int32).toNatClampNeg 1))), (q2, .inl (cA2, 24, .inl (upd (upd (upd (fun _ => 0) (0 : Int32).toNatClampNeg 0) (1 : Int32).toNatClampNeg 1) (2 : Int32).toNatClampNeg 2))), (q4, .inl (cA4, 30, .inl (fun _ => 0))), (q5, .inl (cA5, 30, .inl (fun _ => 0))), (q3, .inl (cA3, 144, .inl g_6))] := hD
  refine lv_iinc (v := 3) (lv' := [(1, .int 3), (0, .ref wo)]) hx hb dX10_init_85 hl (k := 0) rfl (by decide) (by decide) rfl (fun ls hl => ?_)
  refine lv_goto (tgt := 56) hx hb dX10_init_88 (by decide) ?_
  refine lv_iload_n hx hb dX10_init_56 rfl (lv_at hl 0 rfl) ?_
  refine lv_iconst (v := 5) hx hb dX10_init_57 (by decide) ?_
  refine lv_icmp_gt (tgt := 91) hx hb dX10_init_58 (by decide) (fun q9 => absurd q9 (by decide)) (fun _ => ?_)
  refine lv_aload_n hx hb dX10_init_61 rfl (lv_at hl 1 rfl) ?_
  refine va_get (D := D) (ci := 10) (v := .ref q1) (C := RX10) (T := TX10) (N := 7) hx hb hts (fun _ h => List.mem_cons_of_mem _ (List.mem_append_right _ h)) hown hK hP 0 rfl rfl 0 (by decide) (hts (.fieldLink RX10 9 "TalePlay$World" "parents" "[I") (by decide +kernel)) (fun _ h9 => h9) rfl dX10_init_62 ?_
  refine lv_iload_n hx hb dX10_init_65 rfl (lv_at hl 0 rfl) ?_
  refine lv_iload_n hx hb dX10_init_66 rfl (lv_at hl 0 rfl) ?_
  refine lv_iconst (v := 1) hx hb dX10_init_67 (by decide) ?_
  refine lv_icmp_gt (tgt := 76) hx hb dX10_init_68 (by decide) (fun _ => ?_) (fun q9 => absurd (by decide) q9)
  refine lv_iconst (v := 1) hx hb dX10_init_76 (by decide) ?_
  refine va_iast hx hb hK hP hD hS 1 0 rfl rfl (show vp_in 3 24 from by unfold vp_in; decide) dX10_init_77 (fun H locs hP hD hS => ?_)
  have hP : va_P D vwCl [(wo, .inr (10, [.ref q1, .ref q2, .ref q3, .ref q4, .ref q5, .int 0, .int 0])), (q1, .inl (cA1, 24, .inl (upd (upd (upd (upd (fun _ => 0) (0 : Int32).toNatClampNeg (-9)) (1 : Int32).toNatClampNeg (-9)) (2 : Int32).toNatClampNeg 1) (3 : Int32).toNatClampNeg 1))), (q2, .inl (cA2, 24, .inl (upd (upd (upd (fun _ => 0) (0 : Int32).toNatClampNeg 0) (1 : Int32).toNatClampNeg 1) (2 : Int32).toNatClampNeg 2))), (q4, .inl (cA4, 30, .inl (fun _ => 0))), (q5, .inl (cA5, 30, .inl (fun _ => 0))), (q3, .inl (cA3, 144, .inl g_6))] H := hP
  have hD : va_D A [(wo, .inr (10, [.ref q1, .ref q2, .ref q3, .ref q4, .ref q5, .int 0, .int 0])), (q1, .inl (cA1, 24, .inl (upd (upd (upd (upd (fun _ => 0) (0 : Int32).toNatClampNeg (-9)) (1 : Int32).toNatClampNeg (-9)) (2 : Int32).toNatClampNeg 1) (3 : Int32).toNatClampNeg 1))), (q2, .inl (cA2, 24, .inl (upd (upd (upd (fun _ => 0) (0 : Int32).toNatClampNeg 0) (1 : Int32).toNatClampNeg 1) (2 : Int32).toNatClampNeg 2))), (q4, .inl (cA4, 30, .inl (fun _ => 0))), (q5, .inl (cA5, 30, .inl (fun _ => 0))), (q3, .inl (cA3, 144, .inl g_6))] := hD
  refine lv_aload_n hx hb dX10_init_78 rfl (lv_at hl 1 rfl) ?_
  refine va_get (D := D) (ci := 10) (v := .ref q2) (C := RX10) (T := TX10) (N := 7) hx hb hts (fun _ h => List.mem_cons_of_mem _ (List.mem_append_right _ h)) hown hK hP 0 rfl rfl 1 (by decide) (hts (.fieldLink RX10 15 "TalePlay$World" "sorts" "[I") (by decide +kernel)) (fun _ h9 => h9) rfl dX10_init_79 ?_
  refine lv_iload_n hx hb dX10_init_82 rfl (lv_at hl 0 rfl) ?_
  refine lv_iload_n hx hb dX10_init_83 rfl (lv_at hl 0 rfl) ?_
  refine va_iast hx hb hK hP hD hS 2 1 rfl rfl (show vp_in 3 24 from by unfold vp_in; decide) dX10_init_84 (fun H locs hP hD hS => ?_)
  have hP : va_P D vwCl [(wo, .inr (10, [.ref q1, .ref q2, .ref q3, .ref q4, .ref q5, .int 0, .int 0])), (q1, .inl (cA1, 24, .inl (upd (upd (upd (upd (fun _ => 0) (0 : Int32).toNatClampNeg (-9)) (1 : Int32).toNatClampNeg (-9)) (2 : Int32).toNatClampNeg 1) (3 : Int32).toNatClampNeg 1))), (q2, .inl (cA2, 24, .inl (upd (upd (upd (upd (fun _ => 0) (0 : Int32).toNatClampNeg 0) (1 : Int32).toNatClampNeg 1) (2 : Int32).toNatClampNeg 2) (3 : Int32).toNatClampNeg 3))), (q4, .inl (cA4, 30, .inl (fun _ => 0))), (q5, .inl (cA5, 30, .inl (fun _ => 0))), (q3, .inl (cA3, 144, .inl g_6))] H := hP
  have hD : va_D A [(wo, .inr (10, [.ref q1, .ref q2, .ref q3, .ref q4, .ref q5, .int 0, .int 0])), (q1, .inl (cA1, 24, .inl (upd (upd (upd (upd (fun _ => 0) (0 : Int32).toNatClampNeg (-9)) (1 : Int32).toNatClampNeg (-9)) (2 : Int32).toNatClampNeg 1) (3 : Int32).toNatClampNeg 1))), (q2, .inl (cA2, 24, .inl (upd (upd (upd (upd (fun _ => 0) (0 : Int32).toNatClampNeg 0) (1 : Int32).toNatClampNeg 1) (2 : Int32).toNatClampNeg 2) (3 : Int32).toNatClampNeg 3))), (q4, .inl (cA4, 30, .inl (fun _ => 0))), (q5, .inl (cA5, 30, .inl (fun _ => 0))), (q3, .inl (cA3, 144, .inl g_6))] := hD
  refine lv_iinc (v := 4) (lv' := [(1, .int 4), (0, .ref wo)]) hx hb dX10_init_85 hl (k := 0) rfl (by decide) (by decide) rfl (fun ls hl => ?_)
  refine lv_goto (tgt := 56) hx hb dX10_init_88 (by decide) ?_
  refine lv_iload_n hx hb dX10_init_56 rfl (lv_at hl 0 rfl) ?_
  refine lv_iconst (v := 5) hx hb dX10_init_57 (by decide) ?_
  refine lv_icmp_gt (tgt := 91) hx hb dX10_init_58 (by decide) (fun q9 => absurd q9 (by decide)) (fun _ => ?_)
  refine lv_aload_n hx hb dX10_init_61 rfl (lv_at hl 1 rfl) ?_
  refine va_get (D := D) (ci := 10) (v := .ref q1) (C := RX10) (T := TX10) (N := 7) hx hb hts (fun _ h => List.mem_cons_of_mem _ (List.mem_append_right _ h)) hown hK hP 0 rfl rfl 0 (by decide) (hts (.fieldLink RX10 9 "TalePlay$World" "parents" "[I") (by decide +kernel)) (fun _ h9 => h9) rfl dX10_init_62 ?_
  refine lv_iload_n hx hb dX10_init_65 rfl (lv_at hl 0 rfl) ?_
  refine lv_iload_n hx hb dX10_init_66 rfl (lv_at hl 0 rfl) ?_
  refine lv_iconst (v := 1) hx hb dX10_init_67 (by decide) ?_
  refine lv_icmp_gt (tgt := 76) hx hb dX10_init_68 (by decide) (fun _ => ?_) (fun q9 => absurd (by decide) q9)
  refine lv_iconst (v := 1) hx hb dX10_init_76 (by decide) ?_
  refine va_iast hx hb hK hP hD hS 1 0 rfl rfl (show vp_in 4 24 from by unfold vp_in; decide) dX10_init_77 (fun H locs hP hD hS => ?_)
  have hP : va_P D vwCl [(wo, .inr (10, [.ref q1, .ref q2, .ref q3, .ref q4, .ref q5, .int 0, .int 0])), (q1, .inl (cA1, 24, .inl (upd (upd (upd (upd (upd (fun _ => 0) (0 : Int32).toNatClampNeg (-9)) (1 : Int32).toNatClampNeg (-9)) (2 : Int32).toNatClampNeg 1) (3 : Int32).toNatClampNeg 1) (4 : Int32).toNatClampNeg 1))), (q2, .inl (cA2, 24, .inl (upd (upd (upd (upd (fun _ => 0) (0 : Int32).toNatClampNeg 0) (1 : Int32).toNatClampNeg 1) (2 : Int32).toNatClampNeg 2) (3 : Int32).toNatClampNeg 3))), (q4, .inl (cA4, 30, .inl (fun _ => 0))), (q5, .inl (cA5, 30, .inl (fun _ => 0))), (q3, .inl (cA3, 144, .inl g_6))] H := hP
  have hD : va_D A [(wo, .inr (10, [.ref q1, .ref q2, .ref q3, .ref q4, .ref q5, .int 0, .int 0])), (q1, .inl (cA1, 24, .inl (upd (upd (upd (upd (upd (fun _ => 0) (0 : Int32).toNatClampNeg (-9)) (1 : Int32).toNatClampNeg (-9)) (2 : Int32).toNatClampNeg 1) (3 : Int32).toNatClampNeg 1) (4 : Int32).toNatClampNeg 1))), (q2, .inl (cA2, 24, .inl (upd (upd (upd (upd (fun _ => 0) (0 : Int32).toNatClampNeg 0) (1 : Int32).toNatClampNeg 1) (2 : Int32).toNatClampNeg 2) (3 : Int32).toNatClampNeg 3))), (q4, .inl (cA4, 30, .inl (fun _ => 0))), (q5, .inl (cA5, 30, .inl (fun _ => 0))), (q3, .inl (cA3, 144, .inl g_6))] := hD
  refine lv_aload_n hx hb dX10_init_78 rfl (lv_at hl 1 rfl) ?_
  refine va_get (D := D) (ci := 10) (v := .ref q2) (C := RX10) (T := TX10) (N := 7) hx hb hts (fun _ h => List.mem_cons_of_mem _ (List.mem_append_right _ h)) hown hK hP 0 rfl rfl 1 (by decide) (hts (.fieldLink RX10 15 "TalePlay$World" "sorts" "[I") (by decide +kernel)) (fun _ h9 => h9) rfl dX10_init_79 ?_
  refine lv_iload_n hx hb dX10_init_82 rfl (lv_at hl 0 rfl) ?_
  refine lv_iload_n hx hb dX10_init_83 rfl (lv_at hl 0 rfl) ?_
  refine va_iast hx hb hK hP hD hS 2 1 rfl rfl (show vp_in 4 24 from by unfold vp_in; decide) dX10_init_84 (fun H locs hP hD hS => ?_)
  have hP : va_P D vwCl [(wo, .inr (10, [.ref q1, .ref q2, .ref q3, .ref q4, .ref q5, .int 0, .int 0])), (q1, .inl (cA1, 24, .inl (upd (upd (upd (upd (upd (fun _ => 0) (0 : Int32).toNatClampNeg (-9)) (1 : Int32).toNatClampNeg (-9)) (2 : Int32).toNatClampNeg 1) (3 : Int32).toNatClampNeg 1) (4 : Int32).toNatClampNeg 1))), (q2, .inl (cA2, 24, .inl (upd (upd (upd (upd (upd (fun _ => 0) (0 : Int32).toNatClampNeg 0) (1 : Int32).toNatClampNeg 1) (2 : Int32).toNatClampNeg 2) (3 : Int32).toNatClampNeg 3) (4 : Int32).toNatClampNeg 4))), (q4, .inl (cA4, 30, .inl (fun _ => 0))), (q5, .inl (cA5, 30, .inl (fun _ => 0))), (q3, .inl (cA3, 144, .inl g_6))] H := hP
  have hD : va_D A [(wo, .inr (10, [.ref q1, .ref q2, .ref q3, .ref q4, .ref q5, .int 0, .int 0])), (q1, .inl (cA1, 24, .inl (upd (upd (upd (upd (upd (fun _ => 0) (0 : Int32).toNatClampNeg (-9)) (1 : Int32).toNatClampNeg (-9)) (2 : Int32).toNatClampNeg 1) (3 : Int32).toNatClampNeg 1) (4 : Int32).toNatClampNeg 1))), (q2, .inl (cA2, 24, .inl (upd (upd (upd (upd (upd (fun _ => 0) (0 : Int32).toNatClampNeg 0) (1 : Int32).toNatClampNeg 1) (2 : Int32).toNatClampNeg 2) (3 : Int32).toNatClampNeg 3) (4 : Int32).toNatClampNeg 4))), (q4, .inl (cA4, 30, .inl (fun _ => 0))), (q5, .inl (cA5, 30, .inl (fun _ => 0))), (q3, .inl (cA3, 144, .inl g_6))] := hD
  refine lv_iinc (v := 5) (lv' := [(1, .int 5), (0, .ref wo)]) hx hb dX10_init_85 hl (k := 0) rfl (by decide) (by decide) rfl (fun ls hl => ?_)
  refine lv_goto (tgt := 56) hx hb dX10_init_88 (by decide) ?_
  refine lv_iload_n hx hb dX10_init_56 rfl (lv_at hl 0 rfl) ?_
  refine lv_iconst (v := 5) hx hb dX10_init_57 (by decide) ?_
  refine lv_icmp_gt (tgt := 91) hx hb dX10_init_58 (by decide) (fun q9 => absurd q9 (by decide)) (fun _ => ?_)
  refine lv_aload_n hx hb dX10_init_61 rfl (lv_at hl 1 rfl) ?_
  refine va_get (D := D) (ci := 10) (v := .ref q1) (C := RX10) (T := TX10) (N := 7) hx hb hts (fun _ h => List.mem_cons_of_mem _ (List.mem_append_right _ h)) hown hK hP 0 rfl rfl 0 (by decide) (hts (.fieldLink RX10 9 "TalePlay$World" "parents" "[I") (by decide +kernel)) (fun _ h9 => h9) rfl dX10_init_62 ?_
  refine lv_iload_n hx hb dX10_init_65 rfl (lv_at hl 0 rfl) ?_
  refine lv_iload_n hx hb dX10_init_66 rfl (lv_at hl 0 rfl) ?_
  refine lv_iconst (v := 1) hx hb dX10_init_67 (by decide) ?_
  refine lv_icmp_gt (tgt := 76) hx hb dX10_init_68 (by decide) (fun _ => ?_) (fun q9 => absurd (by decide) q9)
  refine lv_iconst (v := 1) hx hb dX10_init_76 (by decide) ?_
  refine va_iast hx hb hK hP hD hS 1 0 rfl rfl (show vp_in 5 24 from by unfold vp_in; decide) dX10_init_77 (fun H locs hP hD hS => ?_)
  have hP : va_P D vwCl [(wo, .inr (10, [.ref q1, .ref q2, .ref q3, .ref q4, .ref q5, .int 0, .int 0])), (q1, .inl (cA1, 24, .inl (upd (upd (upd (upd (upd (upd (fun _ => 0) (0 : Int32).toNatClampNeg (-9)) (1 : Int32).toNatClampNeg (-9)) (2 : Int32).toNatClampNeg 1) (3 : Int32).toNatClampNeg 1) (4 : Int32).toNatClampNeg 1) (5 : Int32).toNatClampNeg 1))), (q2, .inl (cA2, 24, .inl (upd (upd (upd (upd (upd (fun _ => 0) (0 : Int32).toNatClampNeg 0) (1 : Int32).toNatClampNeg 1) (2 : Int32).toNatClampNeg 2) (3 : Int32).toNatClampNeg 3) (4 : Int32).toNatClampNeg 4))), (q4, .inl (cA4, 30, .inl (fun _ => 0))), (q5, .inl (cA5, 30, .inl (fun _ => 0))), (q3, .inl (cA3, 144, .inl g_6))] H := hP
  have hD : va_D A [(wo, .inr (10, [.ref q1, .ref q2, .ref q3, .ref q4, .ref q5, .int 0, .int 0])), (q1, .inl (cA1, 24, .inl (upd (upd (upd (upd (upd (upd (fun _ => 0) (0 : Int32).toNatClampNeg (-9)) (1 : Int32).toNatClampNeg (-9)) (2 : Int32).toNatClampNeg 1) (3 : Int32).toNatClampNeg 1) (4 : Int32).toNatClampNeg 1) (5 : Int32).toNatClampNeg 1))), (q2, .inl (cA2, 24, .inl (upd (upd (upd (upd (upd (fun _ => 0) (0 : Int32).toNatClampNeg 0) (1 : Int32).toNatClampNeg 1) (2 : Int32).toNatClampNeg 2) (3 : Int32).toNatClampNeg 3) (4 : Int32).toNatClampNeg 4))), (q4, .inl (cA4, 30, .inl (fun _ => 0))), (q5, .inl (cA5, 30, .inl (fun _ => 0))), (q3, .inl (cA3, 144, .inl g_6))] := hD
  refine lv_aload_n hx hb dX10_init_78 rfl (lv_at hl 1 rfl) ?_
  refine va_get (D := D) (ci := 10) (v := .ref q2) (C := RX10) (T := TX10) (N := 7) hx hb hts (fun _ h => List.mem_cons_of_mem _ (List.mem_append_right _ h)) hown hK hP 0 rfl rfl 1 (by decide) (hts (.fieldLink RX10 15 "TalePlay$World" "sorts" "[I") (by decide +kernel)) (fun _ h9 => h9) rfl dX10_init_79 ?_
  refine lv_iload_n hx hb dX10_init_82 rfl (lv_at hl 0 rfl) ?_
  refine lv_iload_n hx hb dX10_init_83 rfl (lv_at hl 0 rfl) ?_
  refine va_iast hx hb hK hP hD hS 2 1 rfl rfl (show vp_in 5 24 from by unfold vp_in; decide) dX10_init_84 (fun H locs hP hD hS => ?_)
  have hP : va_P D vwCl [(wo, .inr (10, [.ref q1, .ref q2, .ref q3, .ref q4, .ref q5, .int 0, .int 0])), (q1, .inl (cA1, 24, .inl (upd (upd (upd (upd (upd (upd (fun _ => 0) (0 : Int32).toNatClampNeg (-9)) (1 : Int32).toNatClampNeg (-9)) (2 : Int32).toNatClampNeg 1) (3 : Int32).toNatClampNeg 1) (4 : Int32).toNatClampNeg 1) (5 : Int32).toNatClampNeg 1))), (q2, .inl (cA2, 24, .inl (upd (upd (upd (upd (upd (upd (fun _ => 0) (0 : Int32).toNatClampNeg 0) (1 : Int32).toNatClampNeg 1) (2 : Int32).toNatClampNeg 2) (3 : Int32).toNatClampNeg 3) (4 : Int32).toNatClampNeg 4) (5 : Int32).toNatClampNeg 5))), (q4, .inl (cA4, 30, .inl (fun _ => 0))), (q5, .inl (cA5, 30, .inl (fun _ => 0))), (q3, .inl (cA3, 144, .inl g_6))] H := hP
  have hD : va_D A [(wo, .inr (10, [.ref q1, .ref q2, .ref q3, .ref q4, .ref q5, .int 0, .int 0])), (q1, .inl (cA1, 24, .inl (upd (upd (upd (upd (upd (upd (fun _ => 0) (0 : Int32).toNatClampNeg (-9)) (1 : Int32).toNatClampNeg (-9)) (2 : Int32).toNatClampNeg 1) (3 : Int32).toNatClampNeg 1) (4 : Int32).toNatClampNeg 1) (5 : Int32).toNatClampNeg 1))), (q2, .inl (cA2, 24, .inl (upd (upd (upd (upd (upd (upd (fun _ => 0) (0 : Int32).toNatClampNeg 0) (1 : Int32).toNatClampNeg 1) (2 : Int32).toNatClampNeg 2) (3 : Int32).toNatClampNeg 3) (4 : Int32).toNatClampNeg 4) (5 : Int32).toNatClampNeg 5))), (q4, .inl (cA4, 30, .inl (fun _ => 0))), (q5, .inl (cA5, 30, .inl (fun _ => 0))), (q3, .inl (cA3, 144, .inl g_6))] := hD
  refine lv_iinc (v := 6) (lv' := [(1, .int 6), (0, .ref wo)]) hx hb dX10_init_85 hl (k := 0) rfl (by decide) (by decide) rfl (fun ls hl => ?_)
  refine lv_goto (tgt := 56) hx hb dX10_init_88 (by decide) ?_
  refine lv_iload_n hx hb dX10_init_56 rfl (lv_at hl 0 rfl) ?_
  refine lv_iconst (v := 5) hx hb dX10_init_57 (by decide) ?_
  refine lv_icmp_gt (tgt := 91) hx hb dX10_init_58 (by decide) (fun _ => ?_) (fun q9 => absurd (by decide) q9)
  refine lv_aload_n hx hb dX10_init_91 rfl (lv_at hl 1 rfl) ?_
  refine lv_bipush (v := 6) hx hb dX10_init_92 (by decide) ?_
  refine va_put (D := D) (ci := 10) (v := .int 6) (ty := .int) (C := RX10) (T := TX10) (N := 7) hx hb hts (fun _ h => List.mem_cons_of_mem _ (List.mem_append_right _ h)) tyX10 tyX10_ok nmX10 hown hK hP hD hS 0 rfl rfl 5 (by decide) (hts (.fieldLink RX10 33 "TalePlay$World" "kinds" "I") (by decide +kernel)) (fun _ h9 => h9) rfl (by decide +kernel) rfl rfl (Nat.le_of_ble_eq_true rfl) dX10_init_94 (fun H locs hP hD hS => ?_)
  have hP : va_P D vwCl [(wo, .inr (10, [.ref q1, .ref q2, .ref q3, .ref q4, .ref q5, .int 6, .int 0])), (q1, .inl (cA1, 24, .inl (upd (upd (upd (upd (upd (upd (fun _ => 0) (0 : Int32).toNatClampNeg (-9)) (1 : Int32).toNatClampNeg (-9)) (2 : Int32).toNatClampNeg 1) (3 : Int32).toNatClampNeg 1) (4 : Int32).toNatClampNeg 1) (5 : Int32).toNatClampNeg 1))), (q2, .inl (cA2, 24, .inl (upd (upd (upd (upd (upd (upd (fun _ => 0) (0 : Int32).toNatClampNeg 0) (1 : Int32).toNatClampNeg 1) (2 : Int32).toNatClampNeg 2) (3 : Int32).toNatClampNeg 3) (4 : Int32).toNatClampNeg 4) (5 : Int32).toNatClampNeg 5))), (q4, .inl (cA4, 30, .inl (fun _ => 0))), (q5, .inl (cA5, 30, .inl (fun _ => 0))), (q3, .inl (cA3, 144, .inl g_6))] H := hP
  have hD : va_D A [(wo, .inr (10, [.ref q1, .ref q2, .ref q3, .ref q4, .ref q5, .int 6, .int 0])), (q1, .inl (cA1, 24, .inl (upd (upd (upd (upd (upd (upd (fun _ => 0) (0 : Int32).toNatClampNeg (-9)) (1 : Int32).toNatClampNeg (-9)) (2 : Int32).toNatClampNeg 1) (3 : Int32).toNatClampNeg 1) (4 : Int32).toNatClampNeg 1) (5 : Int32).toNatClampNeg 1))), (q2, .inl (cA2, 24, .inl (upd (upd (upd (upd (upd (upd (fun _ => 0) (0 : Int32).toNatClampNeg 0) (1 : Int32).toNatClampNeg 1) (2 : Int32).toNatClampNeg 2) (3 : Int32).toNatClampNeg 3) (4 : Int32).toNatClampNeg 4) (5 : Int32).toNatClampNeg 5))), (q4, .inl (cA4, 30, .inl (fun _ => 0))), (q5, .inl (cA5, 30, .inl (fun _ => 0))), (q3, .inl (cA3, 144, .inl g_6))] := hD
  exact rw_vret (q1, q2, q3, q4, q5, cA1, cA2, cA3, cA4, cA5, (upd (upd (upd (upd (upd (upd (fun _ => 0) (0 : Int32).toNatClampNeg (-9)) (1 : Int32).toNatClampNeg (-9)) (2 : Int32).toNatClampNeg 1) (3 : Int32).toNatClampNeg 1) (4 : Int32).toNatClampNeg 1) (5 : Int32).toNatClampNeg 1), (upd (upd (upd (upd (upd (upd (fun _ => 0) (0 : Int32).toNatClampNeg 0) (1 : Int32).toNatClampNeg 1) (2 : Int32).toNatClampNeg 2) (3 : Int32).toNatClampNeg 3) (4 : Int32).toNatClampNeg 4) (5 : Int32).toNatClampNeg 5), g_6) hx hb hr hlocks hS (hK.sub (tys' := [(cA1, .int), (cA2, .int), (cA3, .int), (cA4, .int), (cA5, .int)]) [0, 1, 2, 3, 4] rfl) (hP.sub (ws' := [(wo, .inr (10, [.ref q1, .ref q2, .ref q3, .ref q4, .ref q5, .int 6, .int 0])), (q1, .inl (cA1, 24, .inl (upd (upd (upd (upd (upd (upd (fun _ => 0) (0 : Int32).toNatClampNeg (-9)) (1 : Int32).toNatClampNeg (-9)) (2 : Int32).toNatClampNeg 1) (3 : Int32).toNatClampNeg 1) (4 : Int32).toNatClampNeg 1) (5 : Int32).toNatClampNeg 1))), (q2, .inl (cA2, 24, .inl (upd (upd (upd (upd (upd (upd (fun _ => 0) (0 : Int32).toNatClampNeg 0) (1 : Int32).toNatClampNeg 1) (2 : Int32).toNatClampNeg 2) (3 : Int32).toNatClampNeg 3) (4 : Int32).toNatClampNeg 4) (5 : Int32).toNatClampNeg 5))), (q3, .inl (cA3, 144, .inl g_6)), (q4, .inl (cA4, 30, .inl (fun _ => 0))), (q5, .inl (cA5, 30, .inl (fun _ => 0)))]) [0, 1, 2, 5, 3, 4] rfl) (hD.sub (ws' := [(wo, .inr (10, [.ref q1, .ref q2, .ref q3, .ref q4, .ref q5, .int 6, .int 0])), (q1, .inl (cA1, 24, .inl (upd (upd (upd (upd (upd (upd (fun _ => 0) (0 : Int32).toNatClampNeg (-9)) (1 : Int32).toNatClampNeg (-9)) (2 : Int32).toNatClampNeg 1) (3 : Int32).toNatClampNeg 1) (4 : Int32).toNatClampNeg 1) (5 : Int32).toNatClampNeg 1))), (q2, .inl (cA2, 24, .inl (upd (upd (upd (upd (upd (upd (fun _ => 0) (0 : Int32).toNatClampNeg 0) (1 : Int32).toNatClampNeg 1) (2 : Int32).toNatClampNeg 2) (3 : Int32).toNatClampNeg 3) (4 : Int32).toNatClampNeg 4) (5 : Int32).toNatClampNeg 5))), (q3, .inl (cA3, 144, .inl g_6)), (q4, .inl (cA4, 30, .inl (fun _ => 0))), (q5, .inl (cA5, 30, .inl (fun _ => 0)))]) [0, 1, 2, 5, 3, 4] (by decide) rfl) dX10_init_97 ⟨hw6, (show (upd (upd (upd (upd (upd (upd (fun _ => 0) (0 : Int32).toNatClampNeg (-9)) (1 : Int32).toNatClampNeg (-9)) (2 : Int32).toNatClampNeg 1) (3 : Int32).toNatClampNeg 1) (4 : Int32).toNatClampNeg 1) (5 : Int32).toNatClampNeg 1) 0 = -9 from by decide), (show (upd (upd (upd (upd (upd (upd (fun _ => 0) (0 : Int32).toNatClampNeg (-9)) (1 : Int32).toNatClampNeg (-9)) (2 : Int32).toNatClampNeg 1) (3 : Int32).toNatClampNeg 1) (4 : Int32).toNatClampNeg 1) (5 : Int32).toNatClampNeg 1) 1 = -9 from by decide), (show (upd (upd (upd (upd (upd (upd (fun _ => 0) (0 : Int32).toNatClampNeg (-9)) (1 : Int32).toNatClampNeg (-9)) (2 : Int32).toNatClampNeg 1) (3 : Int32).toNatClampNeg 1) (4 : Int32).toNatClampNeg 1) (5 : Int32).toNatClampNeg 1) 2 = 1 from by decide), (show (upd (upd (upd (upd (upd (upd (fun _ => 0) (0 : Int32).toNatClampNeg (-9)) (1 : Int32).toNatClampNeg (-9)) (2 : Int32).toNatClampNeg 1) (3 : Int32).toNatClampNeg 1) (4 : Int32).toNatClampNeg 1) (5 : Int32).toNatClampNeg 1) 3 = 1 from by decide), (show (upd (upd (upd (upd (upd (upd (fun _ => 0) (0 : Int32).toNatClampNeg (-9)) (1 : Int32).toNatClampNeg (-9)) (2 : Int32).toNatClampNeg 1) (3 : Int32).toNatClampNeg 1) (4 : Int32).toNatClampNeg 1) (5 : Int32).toNatClampNeg 1) 4 = 1 from by decide), (show (upd (upd (upd (upd (upd (upd (fun _ => 0) (0 : Int32).toNatClampNeg (-9)) (1 : Int32).toNatClampNeg (-9)) (2 : Int32).toNatClampNeg 1) (3 : Int32).toNatClampNeg 1) (4 : Int32).toNatClampNeg 1) (5 : Int32).toNatClampNeg 1) 5 = 1 from by decide)⟩

set_option maxHeartbeats 4000000 in
set_option maxRecDepth 100000 in
theorem c_X6_init (l : Launch) (D : va_G) (sz : Nat) (sc : Nat) (wo : Nat) : Met l yX6_init wsX6_init ({ frames := 1, cells := 1, slots := 30, locals := 24 }) (va_Pc [.ref sc, .ref wo] (pB D sz [(sc, .inr (6, [.null, .null]))] [])) (va_Qv (fun (_ : Unit) => True) (oC D (va_A [(sc, .inr (6, [.null, .null]))] sz) (fun _ => []) (fun _ => [])) (va_A [(sc, .inr (6, [.null, .null]))] sz)) 1 30 (va_A [(sc, .inr (6, [.null, .null]))] sz) := by
  refine Met.ofW (cc := cX6_init) (maxL := 2) (ret := none) (by decide) rfl ?_
  intro p e s m args below meth c s₁ B hml hv
  obtain ⟨rfl, hsz, hP, hK, hD0⟩ := hv
  have hx := B.exec
  have hb := B.bytes
  have hr := B.returns
  have hts := atoms_spec (ws := wsX6_init) B.pre
  have hown : s.vm.findClass RX6 = some m.cls := findClass_of_methodNamed B.named
  have hlocks := B.notSynchronized
  have hin : meth.name = "<init>" := (name_of_methodNamed B.named B.method).1
  subst hsz
  have hD := hD0.self (sz := s.heap.size)
  generalize hAe : va_A [(sc, .inr (6, [.null, .null]))] s.heap.size = A at hD ⊢
  have hA : ∀ q : Nat, s.heap.size ≤ q → A q := fun q h => by rw [← hAe]; exact Or.inr h
  have hS : va_S A s.heap s.heap [] := va_S.rf
  have hP : va_P D vwCl [(sc, .inr (6, [.null, .null]))] s.heap := hP
  have hl := lv_entry ([.ref sc, .ref wo]) (n := 2) (Nat.le_of_ble_eq_true rfl)
  rw [lg_entry_eq]
  generalize (lg_sl ([.ref sc, .ref wo]) ++ List.replicate (2 - (lg_sl ([.ref sc, .ref wo])).length) Slot.unset).toArray = ls at hl ⊢
  have hl : lv_has ls 2 [(0, .ref sc), (1, .ref wo)] := hl
  refine lv_aload_n hx hb dX6_init_0 rfl (lv_at hl 0 rfl) ?_
  refine W.objInit hx hb hown (hts (.methodLink RX6 3 objectInit) (by decide +kernel)) (hts (.instanceMethod objectInit) (by decide +kernel)) (hts (.code objectInit ⟨#[0xb1]⟩ 1 none) (by decide +kernel)) rfl (by rw [hml]; exact hl.1) rfl dX6_init_1 (Nat.le_of_ble_eq_true rfl) (Nat.le_of_ble_eq_true rfl) ?_
  refine W.eq (g2 := F0 m 4 ls []) rfl ?_
  refine lv_aload_n hx hb dX6_init_4 rfl (lv_at hl 0 rfl) ?_
  refine lv_bipush (v := 30) hx hb dX6_init_5 (by decide) ?_
  refine va_newa (atype := .int) (ty := .int) (a0 := (30, .inl (fun _ => 0))) hx hb (hts (.arrayClass .int) (by decide +kernel)) rfl hK hP hD hS hA (fun _ => vp_cell_i _ _ _) (by decide) (N' := 30) (by decide) (show 30 * 4 ≤ 536870912 by omega) (Nat.le_of_ble_eq_true rfl) (Nat.le_of_ble_eq_true rfl) dX6_init_7 (fun q1 cA1 H hK hP hD hS => ?_)
  have hP : va_P D vwCl [(sc, .inr (6, [.null, .null])), (q1, .inl (cA1, 30, .inl (fun _ => 0)))] H := hP
  have hD : va_D A [(sc, .inr (6, [.null, .null])), (q1, .inl (cA1, 30, .inl (fun _ => 0)))] := hD
  have hK : va_K D vwCl [(cA1, .int)] s := hK
  refine W.widen (k := 1) (n := 30) (Nat.le_of_ble_eq_true rfl) (Nat.le_of_ble_eq_true rfl) ?_
  refine va_putF (D := D) (ci := 6) (v := .ref q1) (ty := .array .int) (C := RX6) (T := TX6) (N := 2) hx hb hts (fun _ h => List.mem_cons_of_mem _ (List.mem_append_right _ h)) tyX6 tyX6_ok nmX6 hown hK hP hD hS 0 rfl rfl 1 (by decide) (hts (.fieldLink RX6 9 "TalePlay$Scene" "cells" "[I") (by decide +kernel)) (fun _ h9 => h9) rfl hin rfl (by decide +kernel) rfl rfl (Nat.le_of_ble_eq_true rfl) dX6_init_9 (fun H locs hP hD hS => ?_)
  have hP : va_P D vwCl [(sc, .inr (6, [.null, .ref q1])), (q1, .inl (cA1, 30, .inl (fun _ => 0)))] H := hP
  have hD : va_D A [(sc, .inr (6, [.null, .ref q1])), (q1, .inl (cA1, 30, .inl (fun _ => 0)))] := hD
  refine lv_aload_n hx hb dX6_init_12 rfl (lv_at hl 0 rfl) ?_
  refine lv_aload_n hx hb dX6_init_13 rfl (lv_at hl 1 rfl) ?_
  refine va_putF (D := D) (ci := 6) (v := .ref wo) (ty := .object "TalePlay$World") (C := RX6) (T := TX6) (N := 2) hx hb hts (fun _ h => List.mem_cons_of_mem _ (List.mem_append_right _ h)) tyX6 tyX6_ok nmX6 hown hK hP hD hS 0 rfl rfl 0 (by decide) (hts (.fieldLink RX6 15 "TalePlay$Scene" "world" "LTalePlay$World;") (by decide +kernel)) (fun _ h9 => h9) rfl hin rfl (by decide +kernel) rfl rfl (Nat.le_of_ble_eq_true rfl) dX6_init_14 (fun H locs hP hD hS => ?_)
  have hP : va_P D vwCl [(sc, .inr (6, [.ref wo, .ref q1])), (q1, .inl (cA1, 30, .inl (fun _ => 0)))] H := hP
  have hD : va_D A [(sc, .inr (6, [.ref wo, .ref q1])), (q1, .inl (cA1, 30, .inl (fun _ => 0)))] := hD
  refine lv_aload_n hx hb dX6_init_17 rfl (lv_at hl 0 rfl) ?_
  refine va_get (D := D) (ci := 6) (v := .ref q1) (C := RX6) (T := TX6) (N := 2) hx hb hts (fun _ h => List.mem_cons_of_mem _ (List.mem_append_right _ h)) hown hK hP 0 rfl rfl 1 (by decide) (hts (.fieldLink RX6 9 "TalePlay$Scene" "cells" "[I") (by decide +kernel)) (fun _ h9 => h9) rfl dX6_init_18 ?_
  refine lv_sipush (v := 255) hx hb dX6_init_21 (by decide) ?_
  have hPc := hP.sub (ws' := [(q1, .inl (cA1, 30, .inl (fun _ => 0)))]) [1] rfl
  have hKc := hK.sub (tys' := [(cA1, .int)]) [0] rfl
  have hDc := hD.sub (ws' := [(q1, .inl (cA1, 30, .inl (fun _ => 0)))]) [1] (by decide) rfl
  refine rw_callv (wr := [(sc, .inr (6, [.ref wo, .ref q1]))]) (va_runS (As := [.ref q1, .int 255]) (rest := []) ⟨hx, hb, hml, hown, hts⟩ (c_J7_fill_53178 l D H.size q1 cA1 30 (fun _ => 0) 255 (by omega)) (va_cwS 2 hts gX6_init_J7_fill_53178 rfl rfl rfl (by decide +kernel) ⟨Nat.le_of_ble_eq_true rfl, Nat.le_of_ble_eq_true rfl⟩) (pB_S hKc hPc hDc) rfl rfl hl.1 rfl (lv_room (Nat.le_of_ble_eq_true rfl)) dX6_init_24 ⟨Nat.le_of_ble_eq_true rfl, Nat.le_of_ble_eq_true rfl⟩) hS hA hK hP hD [1] [0] rfl rfl (by decide) (by decide) (fun u2 H locs hw2 hK hP hD hS => ?_)
  obtain ⟨g_2, rfl⟩ : ∃ z, z = u2 := ⟨_, rfl⟩
  have hw2 : (∀ j, j < 30 → g_2 j = 255) := hw2
  have hP : va_P D vwCl [(sc, .inr (6, [.ref wo, .ref q1])), (q1, .inl (cA1, 30, .inl g_2))] H := hP
  have hD : va_D A [(sc, .inr (6, [.ref wo, .ref q1])), (q1, .inl (cA1, 30, .inl g_2))] := hD
  have hK : va_K D vwCl [(cA1, .int)] s := hK
  exact rw_vret () hx hb hr hlocks hS (hK.sub (tys' := []) [] rfl) (hP.sub (ws' := []) [] rfl) (hD.sub (ws' := []) [] (by decide) rfl) dX6_init_27 trivial

set_option maxHeartbeats 4000000 in
set_option maxRecDepth 100000 in
theorem c_X1_init (l : Launch) (D : va_G) (sz : Nat) (bo : Nat) (wo : Nat) : Met l yX1_init wsX1_init ({ frames := 2, cells := 12, slots := 1602, locals := 45 }) (va_Pc [.ref bo, .ref wo] (pB D sz [(bo, .inr (1, [.null, .null, .null, .null, .null, .null, .null, .null, .null, .null, .null, .null, .int 0, .int 0, .int 0]))] [])) (va_Qv (fun (_ : Nat × Nat × Nat × Nat × Nat × Nat × Nat × Nat × Nat × Nat × Nat) => True) (oC D (va_A [(bo, .inr (1, [.null, .null, .null, .null, .null, .null, .null, .null, .null, .null, .null, .null, .int 0, .int 0, .int 0]))] sz) (fun u => [(bo, .inr (1, [.ref wo, .ref u.1, .ref u.2.1, .ref u.2.2.1, .ref u.2.2.2.1, .ref u.2.2.2.2.1, .ref u.2.2.2.2.2.1, .ref u.2.2.2.2.2.2.1, .ref u.2.2.2.2.2.2.2.1, .ref u.2.2.2.2.2.2.2.2.1, .ref u.2.2.2.2.2.2.2.2.2.1, .ref u.2.2.2.2.2.2.2.2.2.2, .int 0, .int 0, .int 0]))]) (fun _ => [])) (va_A [(bo, .inr (1, [.null, .null, .null, .null, .null, .null, .null, .null, .null, .null, .null, .null, .int 0, .int 0, .int 0]))] sz)) 12 1602 (va_A [(bo, .inr (1, [.null, .null, .null, .null, .null, .null, .null, .null, .null, .null, .null, .null, .int 0, .int 0, .int 0]))] sz) := by
  refine Met.ofW (cc := cX1_init) (maxL := 2) (ret := none) (by decide) rfl ?_
  intro p e s m args below meth c s₁ B hml hv
  obtain ⟨rfl, hsz, hP, hK, hD0⟩ := hv
  have hx := B.exec
  have hb := B.bytes
  have hr := B.returns
  have hts := atoms_spec (ws := wsX1_init) B.pre
  have hown : s.vm.findClass RX1 = some m.cls := findClass_of_methodNamed B.named
  have hlocks := B.notSynchronized
  have hin : meth.name = "<init>" := (name_of_methodNamed B.named B.method).1
  subst hsz
  have hD := hD0.self (sz := s.heap.size)
  generalize hAe : va_A [(bo, .inr (1, [.null, .null, .null, .null, .null, .null, .null, .null, .null, .null, .null, .null, .int 0, .int 0, .int 0]))] s.heap.size = A at hD ⊢
  have hA : ∀ q : Nat, s.heap.size ≤ q → A q := fun q h => by rw [← hAe]; exact Or.inr h
  have hS : va_S A s.heap s.heap [] := va_S.rf
  have hP : va_P D vwCl [(bo, .inr (1, [.null, .null, .null, .null, .null, .null, .null, .null, .null, .null, .null, .null, .int 0, .int 0, .int 0]))] s.heap := hP
  have hl := lv_entry ([.ref bo, .ref wo]) (n := 2) (Nat.le_of_ble_eq_true rfl)
  rw [lg_entry_eq]
  generalize (lg_sl ([.ref bo, .ref wo]) ++ List.replicate (2 - (lg_sl ([.ref bo, .ref wo])).length) Slot.unset).toArray = ls at hl ⊢
  have hl : lv_has ls 2 [(0, .ref bo), (1, .ref wo)] := hl
  refine lv_aload_n hx hb dX1_init_0 rfl (lv_at hl 0 rfl) ?_
  refine W.objInit hx hb hown (hts (.methodLink RX1 3 objectInit) (by decide +kernel)) (hts (.instanceMethod objectInit) (by decide +kernel)) (hts (.code objectInit ⟨#[0xb1]⟩ 1 none) (by decide +kernel)) rfl (by rw [hml]; exact hl.1) rfl dX1_init_1 (Nat.le_of_ble_eq_true rfl) (Nat.le_of_ble_eq_true rfl) ?_
  refine W.eq (g2 := F0 m 4 ls []) rfl ?_
  refine lv_aload_n hx hb dX1_init_4 rfl (lv_at hl 0 rfl) ?_
  refine lv_sipush (v := 200) hx hb dX1_init_5 (by decide) ?_
  refine va_newa (atype := .int) (ty := .int) (a0 := (200, .inl (fun _ => 0))) hx hb (hts (.arrayClass .int) (by decide +kernel)) rfl hK hP hD hS hA (fun _ => vp_cell_i _ _ _) (by decide) (N' := 200) (by decide) (show 200 * 4 ≤ 536870912 by omega) (Nat.le_of_ble_eq_true rfl) (Nat.le_of_ble_eq_true rfl) dX1_init_8 (fun q1 cA1 H hK hP hD hS => ?_)
  have hP : va_P D vwCl [(bo, .inr (1, [.null, .null, .null, .null, .null, .null, .null, .null, .null, .null, .null, .null, .int 0, .int 0, .int 0])), (q1, .inl (cA1, 200, .inl (fun _ => 0)))] H := hP
  have hD : va_D A [(bo, .inr (1, [.null, .null, .null, .null, .null, .null, .null, .null, .null, .null, .null, .null, .int 0, .int 0, .int 0])), (q1, .inl (cA1, 200, .inl (fun _ => 0)))] := hD
  have hK : va_K D vwCl [(cA1, .int)] s := hK
  refine W.widen (k := 1) (n := 200) (Nat.le_of_ble_eq_true rfl) (Nat.le_of_ble_eq_true rfl) ?_
  refine va_putF (D := D) (ci := 1) (v := .ref q1) (ty := .array .int) (C := RX1) (T := TX1) (N := 15) hx hb hts (fun _ h => List.mem_cons_of_mem _ (List.mem_append_left _ (List.mem_append_right _ h))) tyX1 tyX1_ok nmX1 hown hK hP hD hS 0 rfl rfl 2 (by decide) (hts (.fieldLink RX1 9 "TalePlay$Book" "forms" "[I") (by decide +kernel)) (fun _ h9 => h9) rfl hin rfl (by decide +kernel) rfl rfl (Nat.le_of_ble_eq_true rfl) dX1_init_10 (fun H locs hP hD hS => ?_)
  have hP : va_P D vwCl [(bo, .inr (1, [.null, .null, .ref q1, .null, .null, .null, .null, .null, .null, .null, .null, .null, .int 0, .int 0, .int 0])), (q1, .inl (cA1, 200, .inl (fun _ => 0)))] H := hP
  have hD : va_D A [(bo, .inr (1, [.null, .null, .ref q1, .null, .null, .null, .null, .null, .null, .null, .null, .null, .int 0, .int 0, .int 0])), (q1, .inl (cA1, 200, .inl (fun _ => 0)))] := hD
  have hP := hP.sub (ws' := [(bo, .inr (1, [.null, .null, .ref q1, .null, .null, .null, .null, .null, .null, .null, .null, .null, .int 0, .int 0, .int 0]))]) [0] rfl
  have hD := hD.sub (ws' := [(bo, .inr (1, [.null, .null, .ref q1, .null, .null, .null, .null, .null, .null, .null, .null, .null, .int 0, .int 0, .int 0]))]) [0] (by decide) rfl
  have hK := hK.sub (tys' := []) [] rfl
  refine lv_aload_n hx hb dX1_init_13 rfl (lv_at hl 0 rfl) ?_
  refine lv_sipush (v := 200) hx hb dX1_init_14 (by decide) ?_
  refine va_newa (atype := .int) (ty := .int) (a0 := (200, .inl (fun _ => 0))) hx hb (hts (.arrayClass .int) (by decide +kernel)) rfl hK hP hD hS hA (fun _ => vp_cell_i _ _ _) (by decide) (N' := 200) (by decide) (show 200 * 4 ≤ 536870912 by omega) (Nat.le_of_ble_eq_true rfl) (Nat.le_of_ble_eq_true rfl) dX1_init_17 (fun q2 cA2 H hK hP hD hS => ?_)
  have hP : va_P D vwCl [(bo, .inr (1, [.null, .null, .ref q1, .null, .null, .null, .null, .null, .null, .null, .null, .null, .int 0, .int 0, .int 0])), (q2, .inl (cA2, 200, .inl (fun _ => 0)))] H := hP
  have hD : va_D A [(bo, .inr (1, [.null, .null, .ref q1, .null, .null, .null, .null, .null, .null, .null, .null, .null, .int 0, .int 0, .int 0])), (q2, .inl (cA2, 200, .inl (fun _ => 0)))] := hD
  have hK : va_K D vwCl [(cA2, .int)] s := hK
  refine W.widen (k := 2) (n := 400) (Nat.le_of_ble_eq_true rfl) (Nat.le_of_ble_eq_true rfl) ?_
  refine va_putF (D := D) (ci := 1) (v := .ref q2) (ty := .array .int) (C := RX1) (T := TX1) (N := 15) hx hb hts (fun _ h => List.mem_cons_of_mem _ (List.mem_append_left _ (List.mem_append_right _ h))) tyX1 tyX1_ok nmX1 hown hK hP hD hS 0 rfl rfl 3 (by decide) (hts (.fieldLink RX1 15 "TalePlay$Book" "as" "[I") (by decide +kernel)) (fun _ h9 => h9) rfl hin rfl (by decide +kernel) rfl rfl (Nat.le_of_ble_eq_true rfl) dX1_init_19 (fun H locs hP hD hS => ?_)
  have hP : va_P D vwCl [(bo, .inr (1, [.null, .null, .ref q1, .ref q2, .null, .null, .null, .null, .null, .null, .null, .null, .int 0, .int 0, .int 0])), (q2, .inl (cA2, 200, .inl (fun _ => 0)))] H := hP
  have hD : va_D A [(bo, .inr (1, [.null, .null, .ref q1, .ref q2, .null, .null, .null, .null, .null, .null, .null, .null, .int 0, .int 0, .int 0])), (q2, .inl (cA2, 200, .inl (fun _ => 0)))] := hD
  have hP := hP.sub (ws' := [(bo, .inr (1, [.null, .null, .ref q1, .ref q2, .null, .null, .null, .null, .null, .null, .null, .null, .int 0, .int 0, .int 0]))]) [0] rfl
  have hD := hD.sub (ws' := [(bo, .inr (1, [.null, .null, .ref q1, .ref q2, .null, .null, .null, .null, .null, .null, .null, .null, .int 0, .int 0, .int 0]))]) [0] (by decide) rfl
  have hK := hK.sub (tys' := []) [] rfl
  refine lv_aload_n hx hb dX1_init_22 rfl (lv_at hl 0 rfl) ?_
  refine lv_sipush (v := 200) hx hb dX1_init_23 (by decide) ?_
  refine va_newa (atype := .int) (ty := .int) (a0 := (200, .inl (fun _ => 0))) hx hb (hts (.arrayClass .int) (by decide +kernel)) rfl hK hP hD hS hA (fun _ => vp_cell_i _ _ _) (by decide) (N' := 200) (by decide) (show 200 * 4 ≤ 536870912 by omega) (Nat.le_of_ble_eq_true rfl) (Nat.le_of_ble_eq_true rfl) dX1_init_26 (fun q3 cA3 H hK hP hD hS => ?_)
  have hP : va_P D vwCl [(bo, .inr (1, [.null, .null, .ref q1, .ref q2, .null, .null, .null, .null, .null, .null, .null, .null, .int 0, .int 0, .int 0])), (q3, .inl (cA3, 200, .inl (fun _ => 0)))] H := hP
  have hD : va_D A [(bo, .inr (1, [.null, .null, .ref q1, .ref q2, .null, .null, .null, .null, .null, .null, .null, .null, .int 0, .int 0, .int 0])), (q3, .inl (cA3, 200, .inl (fun _ => 0)))] := hD
  have hK : va_K D vwCl [(cA3, .int)] s := hK
  refine W.widen (k := 3) (n := 600) (Nat.le_of_ble_eq_true rfl) (Nat.le_of_ble_eq_true rfl) ?_
  refine va_putF (D := D) (ci := 1) (v := .ref q3) (ty := .array .int) (C := RX1) (T := TX1) (N := 15) hx hb hts (fun _ h => List.mem_cons_of_mem _ (List.mem_append_left _ (List.mem_append_right _ h))) tyX1 tyX1_ok nmX1 hown hK hP hD hS 0 rfl rfl 4 (by decide) (hts (.fieldLink RX1 18 "TalePlay$Book" "bs" "[I") (by decide +kernel)) (fun _ h9 => h9) rfl hin rfl (by decide +kernel) rfl rfl (Nat.le_of_ble_eq_true rfl) dX1_init_28 (fun H locs hP hD hS => ?_)
  have hP : va_P D vwCl [(bo, .inr (1, [.null, .null, .ref q1, .ref q2, .ref q3, .null, .null, .null, .null, .null, .null, .null, .int 0, .int 0, .int 0])), (q3, .inl (cA3, 200, .inl (fun _ => 0)))] H := hP
  have hD : va_D A [(bo, .inr (1, [.null, .null, .ref q1, .ref q2, .ref q3, .null, .null, .null, .null, .null, .null, .null, .int 0, .int 0, .int 0])), (q3, .inl (cA3, 200, .inl (fun _ => 0)))] := hD
  have hP := hP.sub (ws' := [(bo, .inr (1, [.null, .null, .ref q1, .ref q2, .ref q3, .null, .null, .null, .null, .null, .null, .null, .int 0, .int 0, .int 0]))]) [0] rfl
  have hD := hD.sub (ws' := [(bo, .inr (1, [.null, .null, .ref q1, .ref q2, .ref q3, .null, .null, .null, .null, .null, .null, .null, .int 0, .int 0, .int 0]))]) [0] (by decide) rfl
  have hK := hK.sub (tys' := []) [] rfl
  refine lv_aload_n hx hb dX1_init_31 rfl (lv_at hl 0 rfl) ?_
  refine lv_sipush (v := 200) hx hb dX1_init_32 (by decide) ?_
  refine va_newa (atype := .int) (ty := .int) (a0 := (200, .inl (fun _ => 0))) hx hb (hts (.arrayClass .int) (by decide +kernel)) rfl hK hP hD hS hA (fun _ => vp_cell_i _ _ _) (by decide) (N' := 200) (by decide) (show 200 * 4 ≤ 536870912 by omega) (Nat.le_of_ble_eq_true rfl) (Nat.le_of_ble_eq_true rfl) dX1_init_35 (fun q4 cA4 H hK hP hD hS => ?_)
  have hP : va_P D vwCl [(bo, .inr (1, [.null, .null, .ref q1, .ref q2, .ref q3, .null, .null, .null, .null, .null, .null, .null, .int 0, .int 0, .int 0])), (q4, .inl (cA4, 200, .inl (fun _ => 0)))] H := hP
  have hD : va_D A [(bo, .inr (1, [.null, .null, .ref q1, .ref q2, .ref q3, .null, .null, .null, .null, .null, .null, .null, .int 0, .int 0, .int 0])), (q4, .inl (cA4, 200, .inl (fun _ => 0)))] := hD
  have hK : va_K D vwCl [(cA4, .int)] s := hK
  refine W.widen (k := 4) (n := 800) (Nat.le_of_ble_eq_true rfl) (Nat.le_of_ble_eq_true rfl) ?_
  refine va_putF (D := D) (ci := 1) (v := .ref q4) (ty := .array .int) (C := RX1) (T := TX1) (N := 15) hx hb hts (fun _ h => List.mem_cons_of_mem _ (List.mem_append_left _ (List.mem_append_right _ h))) tyX1 tyX1_ok nmX1 hown hK hP hD hS 0 rfl rfl 5 (by decide) (hts (.fieldLink RX1 21 "TalePlay$Book" "cs" "[I") (by decide +kernel)) (fun _ h9 => h9) rfl hin rfl (by decide +kernel) rfl rfl (Nat.le_of_ble_eq_true rfl) dX1_init_37 (fun H locs hP hD hS => ?_)
  have hP : va_P D vwCl [(bo, .inr (1, [.null, .null, .ref q1, .ref q2, .ref q3, .ref q4, .null, .null, .null, .null, .null, .null, .int 0, .int 0, .int 0])), (q4, .inl (cA4, 200, .inl (fun _ => 0)))] H := hP
  have hD : va_D A [(bo, .inr (1, [.null, .null, .ref q1, .ref q2, .ref q3, .ref q4, .null, .null, .null, .null, .null, .null, .int 0, .int 0, .int 0])), (q4, .inl (cA4, 200, .inl (fun _ => 0)))] := hD
  have hP := hP.sub (ws' := [(bo, .inr (1, [.null, .null, .ref q1, .ref q2, .ref q3, .ref q4, .null, .null, .null, .null, .null, .null, .int 0, .int 0, .int 0]))]) [0] rfl
  have hD := hD.sub (ws' := [(bo, .inr (1, [.null, .null, .ref q1, .ref q2, .ref q3, .ref q4, .null, .null, .null, .null, .null, .null, .int 0, .int 0, .int 0]))]) [0] (by decide) rfl
  have hK := hK.sub (tys' := []) [] rfl
  refine lv_aload_n hx hb dX1_init_40 rfl (lv_at hl 0 rfl) ?_
  refine lv_sipush (v := 200) hx hb dX1_init_41 (by decide) ?_
  refine va_newa (atype := .boolean) (ty := .boolean) (a0 := (200, .inl (fun _ => 0))) hx hb (hts (.arrayClass .boolean) (by decide +kernel)) rfl hK hP hD hS hA (fun _ => vp_cell_i _ _ _) (by decide) (N' := 200) (by decide) (show 200 * 1 ≤ 536870912 by omega) (Nat.le_of_ble_eq_true rfl) (Nat.le_of_ble_eq_true rfl) dX1_init_44 (fun q5 cA5 H hK hP hD hS => ?_)
  have hP : va_P D vwCl [(bo, .inr (1, [.null, .null, .ref q1, .ref q2, .ref q3, .ref q4, .null, .null, .null, .null, .null, .null, .int 0, .int 0, .int 0])), (q5, .inl (cA5, 200, .inl (fun _ => 0)))] H := hP
  have hD : va_D A [(bo, .inr (1, [.null, .null, .ref q1, .ref q2, .ref q3, .ref q4, .null, .null, .null, .null, .null, .null, .int 0, .int 0, .int 0])), (q5, .inl (cA5, 200, .inl (fun _ => 0)))] := hD
  have hK : va_K D vwCl [(cA5, .boolean)] s := hK
  refine W.widen (k := 5) (n := 1000) (Nat.le_of_ble_eq_true rfl) (Nat.le_of_ble_eq_true rfl) ?_
  refine va_putF (D := D) (ci := 1) (v := .ref q5) (ty := .array .boolean) (C := RX1) (T := TX1) (N := 15) hx hb hts (fun _ h => List.mem_cons_of_mem _ (List.mem_append_left _ (List.mem_append_right _ h))) tyX1 tyX1_ok nmX1 hown hK hP hD hS 0 rfl rfl 6 (by decide) (hts (.fieldLink RX1 24 "TalePlay$Book" "said" "[Z") (by decide +kernel)) (fun _ h9 => h9) rfl hin rfl (by decide +kernel) rfl rfl (Nat.le_of_ble_eq_true rfl) dX1_init_46 (fun H locs hP hD hS => ?_)
  have hP : va_P D vwCl [(bo, .inr (1, [.null, .null, .ref q1, .ref q2, .ref q3, .ref q4, .ref q5, .null, .null, .null, .null, .null, .int 0, .int 0, .int 0])), (q5, .inl (cA5, 200, .inl (fun _ => 0)))] H := hP
  have hD : va_D A [(bo, .inr (1, [.null, .null, .ref q1, .ref q2, .ref q3, .ref q4, .ref q5, .null, .null, .null, .null, .null, .int 0, .int 0, .int 0])), (q5, .inl (cA5, 200, .inl (fun _ => 0)))] := hD
  have hP := hP.sub (ws' := [(bo, .inr (1, [.null, .null, .ref q1, .ref q2, .ref q3, .ref q4, .ref q5, .null, .null, .null, .null, .null, .int 0, .int 0, .int 0]))]) [0] rfl
  have hD := hD.sub (ws' := [(bo, .inr (1, [.null, .null, .ref q1, .ref q2, .ref q3, .ref q4, .ref q5, .null, .null, .null, .null, .null, .int 0, .int 0, .int 0]))]) [0] (by decide) rfl
  have hK := hK.sub (tys' := []) [] rfl
  refine lv_aload_n hx hb dX1_init_49 rfl (lv_at hl 0 rfl) ?_
  refine lv_bipush (v := 30) hx hb dX1_init_50 (by decide) ?_
  refine va_newa (atype := .int) (ty := .int) (a0 := (30, .inl (fun _ => 0))) hx hb (hts (.arrayClass .int) (by decide +kernel)) rfl hK hP hD hS hA (fun _ => vp_cell_i _ _ _) (by decide) (N' := 30) (by decide) (show 30 * 4 ≤ 536870912 by omega) (Nat.le_of_ble_eq_true rfl) (Nat.le_of_ble_eq_true rfl) dX1_init_52 (fun q6 cA6 H hK hP hD hS => ?_)
  have hP : va_P D vwCl [(bo, .inr (1, [.null, .null, .ref q1, .ref q2, .ref q3, .ref q4, .ref q5, .null, .null, .null, .null, .null, .int 0, .int 0, .int 0])), (q6, .inl (cA6, 30, .inl (fun _ => 0)))] H := hP
  have hD : va_D A [(bo, .inr (1, [.null, .null, .ref q1, .ref q2, .ref q3, .ref q4, .ref q5, .null, .null, .null, .null, .null, .int 0, .int 0, .int 0])), (q6, .inl (cA6, 30, .inl (fun _ => 0)))] := hD
  have hK : va_K D vwCl [(cA6, .int)] s := hK
  refine W.widen (k := 6) (n := 1030) (Nat.le_of_ble_eq_true rfl) (Nat.le_of_ble_eq_true rfl) ?_
  refine va_putF (D := D) (ci := 1) (v := .ref q6) (ty := .array .int) (C := RX1) (T := TX1) (N := 15) hx hb hts (fun _ h => List.mem_cons_of_mem _ (List.mem_append_left _ (List.mem_append_right _ h))) tyX1 tyX1_ok nmX1 hown hK hP hD hS 0 rfl rfl 7 (by decide) (hts (.fieldLink RX1 28 "TalePlay$Book" "placeBy" "[I") (by decide +kernel)) (fun _ h9 => h9) rfl hin rfl (by decide +kernel) rfl rfl (Nat.le_of_ble_eq_true rfl) dX1_init_54 (fun H locs hP hD hS => ?_)
  have hP : va_P D vwCl [(bo, .inr (1, [.null, .null, .ref q1, .ref q2, .ref q3, .ref q4, .ref q5, .ref q6, .null, .null, .null, .null, .int 0, .int 0, .int 0])), (q6, .inl (cA6, 30, .inl (fun _ => 0)))] H := hP
  have hD : va_D A [(bo, .inr (1, [.null, .null, .ref q1, .ref q2, .ref q3, .ref q4, .ref q5, .ref q6, .null, .null, .null, .null, .int 0, .int 0, .int 0])), (q6, .inl (cA6, 30, .inl (fun _ => 0)))] := hD
  refine lv_aload_n hx hb dX1_init_57 rfl (lv_at hl 0 rfl) ?_
  refine lv_sipush (v := 300) hx hb dX1_init_58 (by decide) ?_
  refine va_newa (atype := .int) (ty := .int) (a0 := (300, .inl (fun _ => 0))) hx hb (hts (.arrayClass .int) (by decide +kernel)) rfl hK hP hD hS hA (fun _ => vp_cell_i _ _ _) (by decide) (N' := 300) (by decide) (show 300 * 4 ≤ 536870912 by omega) (Nat.le_of_ble_eq_true rfl) (Nat.le_of_ble_eq_true rfl) dX1_init_61 (fun q7 cA7 H hK hP hD hS => ?_)
  have hP : va_P D vwCl [(bo, .inr (1, [.null, .null, .ref q1, .ref q2, .ref q3, .ref q4, .ref q5, .ref q6, .null, .null, .null, .null, .int 0, .int 0, .int 0])), (q6, .inl (cA6, 30, .inl (fun _ => 0))), (q7, .inl (cA7, 300, .inl (fun _ => 0)))] H := hP
  have hD : va_D A [(bo, .inr (1, [.null, .null, .ref q1, .ref q2, .ref q3, .ref q4, .ref q5, .ref q6, .null, .null, .null, .null, .int 0, .int 0, .int 0])), (q6, .inl (cA6, 30, .inl (fun _ => 0))), (q7, .inl (cA7, 300, .inl (fun _ => 0)))] := hD
  have hK : va_K D vwCl [(cA6, .int), (cA7, .int)] s := hK
  refine W.widen (k := 7) (n := 1330) (Nat.le_of_ble_eq_true rfl) (Nat.le_of_ble_eq_true rfl) ?_
  refine va_putF (D := D) (ci := 1) (v := .ref q7) (ty := .array .int) (C := RX1) (T := TX1) (N := 15) hx hb hts (fun _ h => List.mem_cons_of_mem _ (List.mem_append_left _ (List.mem_append_right _ h))) tyX1 tyX1_ok nmX1 hown hK hP hD hS 0 rfl rfl 8 (by decide) (hts (.fieldLink RX1 31 "TalePlay$Book" "exitBy" "[I") (by decide +kernel)) (fun _ h9 => h9) rfl hin rfl (by decide +kernel) rfl rfl (Nat.le_of_ble_eq_true rfl) dX1_init_63 (fun H locs hP hD hS => ?_)
  have hP : va_P D vwCl [(bo, .inr (1, [.null, .null, .ref q1, .ref q2, .ref q3, .ref q4, .ref q5, .ref q6, .ref q7, .null, .null, .null, .int 0, .int 0, .int 0])), (q6, .inl (cA6, 30, .inl (fun _ => 0))), (q7, .inl (cA7, 300, .inl (fun _ => 0)))] H := hP
  have hD : va_D A [(bo, .inr (1, [.null, .null, .ref q1, .ref q2, .ref q3, .ref q4, .ref q5, .ref q6, .ref q7, .null, .null, .null, .int 0, .int 0, .int 0])), (q6, .inl (cA6, 30, .inl (fun _ => 0))), (q7, .inl (cA7, 300, .inl (fun _ => 0)))] := hD
  refine lv_aload_n hx hb dX1_init_66 rfl (lv_at hl 0 rfl) ?_
  refine lv_sipush (v := 180) hx hb dX1_init_67 (by decide) ?_
  refine va_newa (atype := .int) (ty := .int) (a0 := (180, .inl (fun _ => 0))) hx hb (hts (.arrayClass .int) (by decide +kernel)) rfl hK hP hD hS hA (fun _ => vp_cell_i _ _ _) (by decide) (N' := 180) (by decide) (show 180 * 4 ≤ 536870912 by omega) (Nat.le_of_ble_eq_true rfl) (Nat.le_of_ble_eq_true rfl) dX1_init_70 (fun q8 cA8 H hK hP hD hS => ?_)
  have hP : va_P D vwCl [(bo, .inr (1, [.null, .null, .ref q1, .ref q2, .ref q3, .ref q4, .ref q5, .ref q6, .ref q7, .null, .null, .null, .int 0, .int 0, .int 0])), (q6, .inl (cA6, 30, .inl (fun _ => 0))), (q7, .inl (cA7, 300, .inl (fun _ => 0))), (q8, .inl (cA8, 180, .inl (fun _ => 0)))] H := hP
  have hD : va_D A [(bo, .inr (1, [.null, .null, .ref q1, .ref q2, .ref q3, .ref q4, .ref q5, .ref q6, .ref q7, .null, .null, .null, .int 0, .int 0, .int 0])), (q6, .inl (cA6, 30, .inl (fun _ => 0))), (q7, .inl (cA7, 300, .inl (fun _ => 0))), (q8, .inl (cA8, 180, .inl (fun _ => 0)))] := hD
  have hK : va_K D vwCl [(cA6, .int), (cA7, .int), (cA8, .int)] s := hK
  refine W.widen (k := 8) (n := 1510) (Nat.le_of_ble_eq_true rfl) (Nat.le_of_ble_eq_true rfl) ?_
  refine va_putF (D := D) (ci := 1) (v := .ref q8) (ty := .array .int) (C := RX1) (T := TX1) (N := 15) hx hb hts (fun _ h => List.mem_cons_of_mem _ (List.mem_append_left _ (List.mem_append_right _ h))) tyX1 tyX1_ok nmX1 hown hK hP hD hS 0 rfl rfl 9 (by decide) (hts (.fieldLink RX1 34 "TalePlay$Book" "flagBy" "[I") (by decide +kernel)) (fun _ h9 => h9) rfl hin rfl (by decide +kernel) rfl rfl (Nat.le_of_ble_eq_true rfl) dX1_init_72 (fun H locs hP hD hS => ?_)
  have hP : va_P D vwCl [(bo, .inr (1, [.null, .null, .ref q1, .ref q2, .ref q3, .ref q4, .ref q5, .ref q6, .ref q7, .ref q8, .null, .null, .int 0, .int 0, .int 0])), (q6, .inl (cA6, 30, .inl (fun _ => 0))), (q7, .inl (cA7, 300, .inl (fun _ => 0))), (q8, .inl (cA8, 180, .inl (fun _ => 0)))] H := hP
  have hD : va_D A [(bo, .inr (1, [.null, .null, .ref q1, .ref q2, .ref q3, .ref q4, .ref q5, .ref q6, .ref q7, .ref q8, .null, .null, .int 0, .int 0, .int 0])), (q6, .inl (cA6, 30, .inl (fun _ => 0))), (q7, .inl (cA7, 300, .inl (fun _ => 0))), (q8, .inl (cA8, 180, .inl (fun _ => 0)))] := hD
  refine lv_aload_n hx hb dX1_init_75 rfl (lv_at hl 0 rfl) ?_
  refine lv_bipush (v := 30) hx hb dX1_init_76 (by decide) ?_
  refine va_newa (atype := .int) (ty := .int) (a0 := (30, .inl (fun _ => 0))) hx hb (hts (.arrayClass .int) (by decide +kernel)) rfl hK hP hD hS hA (fun _ => vp_cell_i _ _ _) (by decide) (N' := 30) (by decide) (show 30 * 4 ≤ 536870912 by omega) (Nat.le_of_ble_eq_true rfl) (Nat.le_of_ble_eq_true rfl) dX1_init_78 (fun q9 cA9 H hK hP hD hS => ?_)
  have hP : va_P D vwCl [(bo, .inr (1, [.null, .null, .ref q1, .ref q2, .ref q3, .ref q4, .ref q5, .ref q6, .ref q7, .ref q8, .null, .null, .int 0, .int 0, .int 0])), (q6, .inl (cA6, 30, .inl (fun _ => 0))), (q7, .inl (cA7, 300, .inl (fun _ => 0))), (q8, .inl (cA8, 180, .inl (fun _ => 0))), (q9, .inl (cA9, 30, .inl (fun _ => 0)))] H := hP
  have hD : va_D A [(bo, .inr (1, [.null, .null, .ref q1, .ref q2, .ref q3, .ref q4, .ref q5, .ref q6, .ref q7, .ref q8, .null, .null, .int 0, .int 0, .int 0])), (q6, .inl (cA6, 30, .inl (fun _ => 0))), (q7, .inl (cA7, 300, .inl (fun _ => 0))), (q8, .inl (cA8, 180, .inl (fun _ => 0))), (q9, .inl (cA9, 30, .inl (fun _ => 0)))] := hD
  have hK : va_K D vwCl [(cA6, .int), (cA7, .int), (cA8, .int), (cA9, .int)] s := hK
  refine W.widen (k := 9) (n := 1540) (Nat.le_of_ble_eq_true rfl) (Nat.le_of_ble_eq_true rfl) ?_
  refine va_putF (D := D) (ci := 1) (v := .ref q9) (ty := .array .int) (C := RX1) (T := TX1) (N := 15) hx hb hts (fun _ h => List.mem_cons_of_mem _ (List.mem_append_left _ (List.mem_append_right _ h))) tyX1 tyX1_ok nmX1 hown hK hP hD hS 0 rfl rfl 10 (by decide) (hts (.fieldLink RX1 37 "TalePlay$Book" "keyBy" "[I") (by decide +kernel)) (fun _ h9 => h9) rfl hin rfl (by decide +kernel) rfl rfl (Nat.le_of_ble_eq_true rfl) dX1_init_80 (fun H locs hP hD hS => ?_)
  have hP : va_P D vwCl [(bo, .inr (1, [.null, .null, .ref q1, .ref q2, .ref q3, .ref q4, .ref q5, .ref q6, .ref q7, .ref q8, .ref q9, .null, .int 0, .int 0, .int 0])), (q6, .inl (cA6, 30, .inl (fun _ => 0))), (q7, .inl (cA7, 300, .inl (fun _ => 0))), (q8, .inl (cA8, 180, .inl (fun _ => 0))), (q9, .inl (cA9, 30, .inl (fun _ => 0)))] H := hP
  have hD : va_D A [(bo, .inr (1, [.null, .null, .ref q1, .ref q2, .ref q3, .ref q4, .ref q5, .ref q6, .ref q7, .ref q8, .ref q9, .null, .int 0, .int 0, .int 0])), (q6, .inl (cA6, 30, .inl (fun _ => 0))), (q7, .inl (cA7, 300, .inl (fun _ => 0))), (q8, .inl (cA8, 180, .inl (fun _ => 0))), (q9, .inl (cA9, 30, .inl (fun _ => 0)))] := hD
  refine lv_aload_n hx hb dX1_init_83 rfl (lv_at hl 0 rfl) ?_
  refine lv_bipush (v := 30) hx hb dX1_init_84 (by decide) ?_
  refine va_newa (atype := .int) (ty := .int) (a0 := (30, .inl (fun _ => 0))) hx hb (hts (.arrayClass .int) (by decide +kernel)) rfl hK hP hD hS hA (fun _ => vp_cell_i _ _ _) (by decide) (N' := 30) (by decide) (show 30 * 4 ≤ 536870912 by omega) (Nat.le_of_ble_eq_true rfl) (Nat.le_of_ble_eq_true rfl) dX1_init_86 (fun q10 cA10 H hK hP hD hS => ?_)
  have hP : va_P D vwCl [(bo, .inr (1, [.null, .null, .ref q1, .ref q2, .ref q3, .ref q4, .ref q5, .ref q6, .ref q7, .ref q8, .ref q9, .null, .int 0, .int 0, .int 0])), (q6, .inl (cA6, 30, .inl (fun _ => 0))), (q7, .inl (cA7, 300, .inl (fun _ => 0))), (q8, .inl (cA8, 180, .inl (fun _ => 0))), (q9, .inl (cA9, 30, .inl (fun _ => 0))), (q10, .inl (cA10, 30, .inl (fun _ => 0)))] H := hP
  have hD : va_D A [(bo, .inr (1, [.null, .null, .ref q1, .ref q2, .ref q3, .ref q4, .ref q5, .ref q6, .ref q7, .ref q8, .ref q9, .null, .int 0, .int 0, .int 0])), (q6, .inl (cA6, 30, .inl (fun _ => 0))), (q7, .inl (cA7, 300, .inl (fun _ => 0))), (q8, .inl (cA8, 180, .inl (fun _ => 0))), (q9, .inl (cA9, 30, .inl (fun _ => 0))), (q10, .inl (cA10, 30, .inl (fun _ => 0)))] := hD
  have hK : va_K D vwCl [(cA6, .int), (cA7, .int), (cA8, .int), (cA9, .int), (cA10, .int)] s := hK
  refine W.widen (k := 10) (n := 1570) (Nat.le_of_ble_eq_true rfl) (Nat.le_of_ble_eq_true rfl) ?_
  refine va_putF (D := D) (ci := 1) (v := .ref q10) (ty := .array .int) (C := RX1) (T := TX1) (N := 15) hx hb hts (fun _ h => List.mem_cons_of_mem _ (List.mem_append_left _ (List.mem_append_right _ h))) tyX1 tyX1_ok nmX1 hown hK hP hD hS 0 rfl rfl 11 (by decide) (hts (.fieldLink RX1 40 "TalePlay$Book" "clashRow" "[I") (by decide +kernel)) (fun _ h9 => h9) rfl hin rfl (by decide +kernel) rfl rfl (Nat.le_of_ble_eq_true rfl) dX1_init_88 (fun H locs hP hD hS => ?_)
  have hP : va_P D vwCl [(bo, .inr (1, [.null, .null, .ref q1, .ref q2, .ref q3, .ref q4, .ref q5, .ref q6, .ref q7, .ref q8, .ref q9, .ref q10, .int 0, .int 0, .int 0])), (q6, .inl (cA6, 30, .inl (fun _ => 0))), (q7, .inl (cA7, 300, .inl (fun _ => 0))), (q8, .inl (cA8, 180, .inl (fun _ => 0))), (q9, .inl (cA9, 30, .inl (fun _ => 0))), (q10, .inl (cA10, 30, .inl (fun _ => 0)))] H := hP
  have hD : va_D A [(bo, .inr (1, [.null, .null, .ref q1, .ref q2, .ref q3, .ref q4, .ref q5, .ref q6, .ref q7, .ref q8, .ref q9, .ref q10, .int 0, .int 0, .int 0])), (q6, .inl (cA6, 30, .inl (fun _ => 0))), (q7, .inl (cA7, 300, .inl (fun _ => 0))), (q8, .inl (cA8, 180, .inl (fun _ => 0))), (q9, .inl (cA9, 30, .inl (fun _ => 0))), (q10, .inl (cA10, 30, .inl (fun _ => 0)))] := hD
  have hP := hP.sub (ws' := [(bo, .inr (1, [.null, .null, .ref q1, .ref q2, .ref q3, .ref q4, .ref q5, .ref q6, .ref q7, .ref q8, .ref q9, .ref q10, .int 0, .int 0, .int 0])), (q6, .inl (cA6, 30, .inl (fun _ => 0))), (q7, .inl (cA7, 300, .inl (fun _ => 0))), (q8, .inl (cA8, 180, .inl (fun _ => 0))), (q9, .inl (cA9, 30, .inl (fun _ => 0)))]) [0, 1, 2, 3, 4] rfl
  have hD := hD.sub (ws' := [(bo, .inr (1, [.null, .null, .ref q1, .ref q2, .ref q3, .ref q4, .ref q5, .ref q6, .ref q7, .ref q8, .ref q9, .ref q10, .int 0, .int 0, .int 0])), (q6, .inl (cA6, 30, .inl (fun _ => 0))), (q7, .inl (cA7, 300, .inl (fun _ => 0))), (q8, .inl (cA8, 180, .inl (fun _ => 0))), (q9, .inl (cA9, 30, .inl (fun _ => 0)))]) [0, 1, 2, 3, 4] (by decide) rfl
  have hK := hK.sub (tys' := [(cA6, .int), (cA7, .int), (cA8, .int), (cA9, .int)]) [0, 1, 2, 3] rfl
  refine lv_aload_n hx hb dX1_init_91 rfl (lv_at hl 0 rfl) ?_
  refine lv_aload_n hx hb dX1_init_92 rfl (lv_at hl 1 rfl) ?_
  refine va_putF (D := D) (ci := 1) (v := .ref wo) (ty := .object "TalePlay$World") (C := RX1) (T := TX1) (N := 15) hx hb hts (fun _ h => List.mem_cons_of_mem _ (List.mem_append_left _ (List.mem_append_right _ h))) tyX1 tyX1_ok nmX1 hown hK hP hD hS 0 rfl rfl 0 (by decide) (hts (.fieldLink RX1 43 "TalePlay$Book" "world" "LTalePlay$World;") (by decide +kernel)) (fun _ h9 => h9) rfl hin rfl (by decide +kernel) rfl rfl (Nat.le_of_ble_eq_true rfl) dX1_init_93 (fun H locs hP hD hS => ?_)
  have hP : va_P D vwCl [(bo, .inr (1, [.ref wo, .null, .ref q1, .ref q2, .ref q3, .ref q4, .ref q5, .ref q6, .ref q7, .ref q8, .ref q9, .ref q10, .int 0, .int 0, .int 0])), (q6, .inl (cA6, 30, .inl (fun _ => 0))), (q7, .inl (cA7, 300, .inl (fun _ => 0))), (q8, .inl (cA8, 180, .inl (fun _ => 0))), (q9, .inl (cA9, 30, .inl (fun _ => 0)))] H := hP
  have hD : va_D A [(bo, .inr (1, [.ref wo, .null, .ref q1, .ref q2, .ref q3, .ref q4, .ref q5, .ref q6, .ref q7, .ref q8, .ref q9, .ref q10, .int 0, .int 0, .int 0])), (q6, .inl (cA6, 30, .inl (fun _ => 0))), (q7, .inl (cA7, 300, .inl (fun _ => 0))), (q8, .inl (cA8, 180, .inl (fun _ => 0))), (q9, .inl (cA9, 30, .inl (fun _ => 0)))] := hD
  refine lv_aload_n hx hb dX1_init_96 rfl (lv_at hl 0 rfl) ?_
  refine va_new (ci := 6) (fs := [.null, .null]) (C := RX6) (T := TX6) (N := 2) hx hb hts (fun _ h => List.mem_cons_of_mem _ (List.mem_append_right _ h)) tyX6 tyX6_ok hown (hts (.classLink RX1 47 RX6) (by decide +kernel)) (hts (.instantiable RX6 2) (by decide +kernel)) (hts (.initialized RX6) (by decide +kernel)) hK hP hD hS hA rfl (by decide +kernel) (Nat.le_of_ble_eq_true rfl) (Nat.le_of_ble_eq_true rfl) dX1_init_97 (fun q11 H hP hD hS => ?_)
  have hP : va_P D vwCl [(bo, .inr (1, [.ref wo, .null, .ref q1, .ref q2, .ref q3, .ref q4, .ref q5, .ref q6, .ref q7, .ref q8, .ref q9, .ref q10, .int 0, .int 0, .int 0])), (q6, .inl (cA6, 30, .inl (fun _ => 0))), (q7, .inl (cA7, 300, .inl (fun _ => 0))), (q8, .inl (cA8, 180, .inl (fun _ => 0))), (q9, .inl (cA9, 30, .inl (fun _ => 0))), (q11, .inr (6, [.null, .null]))] H := hP
  have hD : va_D A [(bo, .inr (1, [.ref wo, .null, .ref q1, .ref q2, .ref q3, .ref q4, .ref q5, .ref q6, .ref q7, .ref q8, .ref q9, .ref q10, .int 0, .int 0, .int 0])), (q6, .inl (cA6, 30, .inl (fun _ => 0))), (q7, .inl (cA7, 300, .inl (fun _ => 0))), (q8, .inl (cA8, 180, .inl (fun _ => 0))), (q9, .inl (cA9, 30, .inl (fun _ => 0))), (q11, .inr (6, [.null, .null]))] := hD
  refine W.widen (k := 11) (n := 1572) (Nat.le_of_ble_eq_true rfl) (Nat.le_of_ble_eq_true rfl) ?_
  refine lv_dup hx hb dX1_init_100 rfl ?_
  refine lv_aload_n hx hb dX1_init_101 rfl (lv_at hl 1 rfl) ?_
  have hPc := hP.sub (ws' := [(q11, .inr (6, [.null, .null]))]) [5] rfl
  have hKc := hK.sub (tys' := []) [] rfl
  have hDc := hD.sub (ws' := [(q11, .inr (6, [.null, .null]))]) [5] (by decide) rfl
  refine rw_callv (wr := [(bo, .inr (1, [.ref wo, .null, .ref q1, .ref q2, .ref q3, .ref q4, .ref q5, .ref q6, .ref q7, .ref q8, .ref q9, .ref q10, .int 0, .int 0, .int 0])), (q6, .inl (cA6, 30, .inl (fun _ => 0))), (q7, .inl (cA7, 300, .inl (fun _ => 0))), (q8, .inl (cA8, 180, .inl (fun _ => 0))), (q9, .inl (cA9, 30, .inl (fun _ => 0)))]) (va_runI (As := [.ref wo]) (rest := [.ref q11, .ref bo]) ⟨hx, hb, hml, hown, hts⟩ (c_X6_init l D H.size q11 wo) (cwI 1 hts gX1_init_X6_init rfl rfl rfl (hts (.initialized RX6) (by decide +kernel)) (hts (.methodLink RX1 49 yX6_init) (by decide +kernel)) (hts (.instanceMethod yX6_init) (by decide +kernel)) rfl (by decide +kernel) ⟨Nat.le_of_ble_eq_true rfl, Nat.le_of_ble_eq_true rfl⟩) (pB_S hKc hPc hDc) rfl rfl hl.1 rfl (lv_room (Nat.le_of_ble_eq_true rfl)) dX1_init_102 ⟨Nat.le_of_ble_eq_true rfl, Nat.le_of_ble_eq_true rfl⟩) hS hA hK hP hD [5] [0, 1, 2, 3, 4] rfl rfl (by decide) (by decide) (fun u12 H locs hw12 hK hP hD hS => ?_)
  have hP : va_P D vwCl [(bo, .inr (1, [.ref wo, .null, .ref q1, .ref q2, .ref q3, .ref q4, .ref q5, .ref q6, .ref q7, .ref q8, .ref q9, .ref q10, .int 0, .int 0, .int 0])), (q6, .inl (cA6, 30, .inl (fun _ => 0))), (q7, .inl (cA7, 300, .inl (fun _ => 0))), (q8, .inl (cA8, 180, .inl (fun _ => 0))), (q9, .inl (cA9, 30, .inl (fun _ => 0)))] H := hP
  have hD : va_D A [(bo, .inr (1, [.ref wo, .null, .ref q1, .ref q2, .ref q3, .ref q4, .ref q5, .ref q6, .ref q7, .ref q8, .ref q9, .ref q10, .int 0, .int 0, .int 0])), (q6, .inl (cA6, 30, .inl (fun _ => 0))), (q7, .inl (cA7, 300, .inl (fun _ => 0))), (q8, .inl (cA8, 180, .inl (fun _ => 0))), (q9, .inl (cA9, 30, .inl (fun _ => 0)))] := hD
  have hK : va_K D vwCl [(cA6, .int), (cA7, .int), (cA8, .int), (cA9, .int)] s := hK
  refine W.widen (k := 12) (n := 1602) (Nat.le_of_ble_eq_true rfl) (Nat.le_of_ble_eq_true rfl) ?_
  refine va_putF (D := D) (ci := 1) (v := .ref q11) (ty := .object "TalePlay$Scene") (C := RX1) (T := TX1) (N := 15) hx hb hts (fun _ h => List.mem_cons_of_mem _ (List.mem_append_left _ (List.mem_append_right _ h))) tyX1 tyX1_ok nmX1 hown hK hP hD hS 0 rfl rfl 1 (by decide) (hts (.fieldLink RX1 52 "TalePlay$Book" "places" "LTalePlay$Scene;") (by decide +kernel)) (fun _ h9 => h9) rfl hin rfl (by decide +kernel) rfl rfl (Nat.le_of_ble_eq_true rfl) dX1_init_105 (fun H locs hP hD hS => ?_)
  have hP : va_P D vwCl [(bo, .inr (1, [.ref wo, .ref q11, .ref q1, .ref q2, .ref q3, .ref q4, .ref q5, .ref q6, .ref q7, .ref q8, .ref q9, .ref q10, .int 0, .int 0, .int 0])), (q6, .inl (cA6, 30, .inl (fun _ => 0))), (q7, .inl (cA7, 300, .inl (fun _ => 0))), (q8, .inl (cA8, 180, .inl (fun _ => 0))), (q9, .inl (cA9, 30, .inl (fun _ => 0)))] H := hP
  have hD : va_D A [(bo, .inr (1, [.ref wo, .ref q11, .ref q1, .ref q2, .ref q3, .ref q4, .ref q5, .ref q6, .ref q7, .ref q8, .ref q9, .ref q10, .int 0, .int 0, .int 0])), (q6, .inl (cA6, 30, .inl (fun _ => 0))), (q7, .inl (cA7, 300, .inl (fun _ => 0))), (q8, .inl (cA8, 180, .inl (fun _ => 0))), (q9, .inl (cA9, 30, .inl (fun _ => 0)))] := hD
  refine lv_aload_n hx hb dX1_init_108 rfl (lv_at hl 0 rfl) ?_
  refine va_get (D := D) (ci := 1) (v := .ref q6) (C := RX1) (T := TX1) (N := 15) hx hb hts (fun _ h => List.mem_cons_of_mem _ (List.mem_append_left _ (List.mem_append_right _ h))) hown hK hP 0 rfl rfl 7 (by decide) (hts (.fieldLink RX1 28 "TalePlay$Book" "placeBy" "[I") (by decide +kernel)) (fun _ h9 => h9) rfl dX1_init_109 ?_
  refine lv_bipush (v := (-9)) hx hb dX1_init_112 (by decide) ?_
  have hPc := hP.sub (ws' := [(q6, .inl (cA6, 30, .inl (fun _ => 0)))]) [1] rfl
  have hKc := hK.sub (tys' := [(cA6, .int)]) [0] rfl
  have hDc := hD.sub (ws' := [(q6, .inl (cA6, 30, .inl (fun _ => 0)))]) [1] (by decide) rfl
  refine rw_callv (wr := [(bo, .inr (1, [.ref wo, .ref q11, .ref q1, .ref q2, .ref q3, .ref q4, .ref q5, .ref q6, .ref q7, .ref q8, .ref q9, .ref q10, .int 0, .int 0, .int 0])), (q7, .inl (cA7, 300, .inl (fun _ => 0))), (q8, .inl (cA8, 180, .inl (fun _ => 0))), (q9, .inl (cA9, 30, .inl (fun _ => 0)))]) (va_runS (As := [.ref q6, .int (-9)]) (rest := []) ⟨hx, hb, hml, hown, hts⟩ (c_J7_fill_53178 l D H.size q6 cA6 30 (fun _ => 0) (-9) (by omega)) (va_cwS 2 hts gX1_init_J7_fill_53178 rfl rfl rfl (by decide +kernel) ⟨Nat.le_of_ble_eq_true rfl, Nat.le_of_ble_eq_true rfl⟩) (pB_S hKc hPc hDc) rfl rfl hl.1 rfl (lv_room (Nat.le_of_ble_eq_true rfl)) dX1_init_114 ⟨Nat.le_of_ble_eq_true rfl, Nat.le_of_ble_eq_true rfl⟩) hS hA hK hP hD [1] [0, 2, 3, 4] rfl rfl (by decide) (by decide) (fun u13 H locs hw13 hK hP hD hS => ?_)
  obtain ⟨g_13, rfl⟩ : ∃ z, z = u13 := ⟨_, rfl⟩
  have hw13 : (∀ j, j < 30 → g_13 j = (-9)) := hw13
  have hP : va_P D vwCl [(bo, .inr (1, [.ref wo, .ref q11, .ref q1, .ref q2, .ref q3, .ref q4, .ref q5, .ref q6, .ref q7, .ref q8, .ref q9, .ref q10, .int 0, .int 0, .int 0])), (q7, .inl (cA7, 300, .inl (fun _ => 0))), (q8, .inl (cA8, 180, .inl (fun _ => 0))), (q9, .inl (cA9, 30, .inl (fun _ => 0))), (q6, .inl (cA6, 30, .inl g_13))] H := hP
  have hD : va_D A [(bo, .inr (1, [.ref wo, .ref q11, .ref q1, .ref q2, .ref q3, .ref q4, .ref q5, .ref q6, .ref q7, .ref q8, .ref q9, .ref q10, .int 0, .int 0, .int 0])), (q7, .inl (cA7, 300, .inl (fun _ => 0))), (q8, .inl (cA8, 180, .inl (fun _ => 0))), (q9, .inl (cA9, 30, .inl (fun _ => 0))), (q6, .inl (cA6, 30, .inl g_13))] := hD
  have hK : va_K D vwCl [(cA6, .int), (cA7, .int), (cA8, .int), (cA9, .int)] s := hK
  refine lv_aload_n hx hb dX1_init_117 rfl (lv_at hl 0 rfl) ?_
  refine va_get (D := D) (ci := 1) (v := .ref q7) (C := RX1) (T := TX1) (N := 15) hx hb hts (fun _ h => List.mem_cons_of_mem _ (List.mem_append_left _ (List.mem_append_right _ h))) hown hK hP 0 rfl rfl 8 (by decide) (hts (.fieldLink RX1 31 "TalePlay$Book" "exitBy" "[I") (by decide +kernel)) (fun _ h9 => h9) rfl dX1_init_118 ?_
  refine lv_bipush (v := (-9)) hx hb dX1_init_121 (by decide) ?_
  have hPc := hP.sub (ws' := [(q7, .inl (cA7, 300, .inl (fun _ => 0)))]) [1] rfl
  have hKc := hK.sub (tys' := [(cA7, .int)]) [1] rfl
  have hDc := hD.sub (ws' := [(q7, .inl (cA7, 300, .inl (fun _ => 0)))]) [1] (by decide) rfl
  refine rw_callv (wr := [(bo, .inr (1, [.ref wo, .ref q11, .ref q1, .ref q2, .ref q3, .ref q4, .ref q5, .ref q6, .ref q7, .ref q8, .ref q9, .ref q10, .int 0, .int 0, .int 0])), (q8, .inl (cA8, 180, .inl (fun _ => 0))), (q9, .inl (cA9, 30, .inl (fun _ => 0))), (q6, .inl (cA6, 30, .inl g_13))]) (va_runS (As := [.ref q7, .int (-9)]) (rest := []) ⟨hx, hb, hml, hown, hts⟩ (c_J7_fill_53178 l D H.size q7 cA7 300 (fun _ => 0) (-9) (by omega)) (va_cwS 2 hts gX1_init_J7_fill_53178 rfl rfl rfl (by decide +kernel) ⟨Nat.le_of_ble_eq_true rfl, Nat.le_of_ble_eq_true rfl⟩) (pB_S hKc hPc hDc) rfl rfl hl.1 rfl (lv_room (Nat.le_of_ble_eq_true rfl)) dX1_init_123 ⟨Nat.le_of_ble_eq_true rfl, Nat.le_of_ble_eq_true rfl⟩) hS hA hK hP hD [1] [0, 2, 3, 4] rfl rfl (by decide) (by decide) (fun u14 H locs hw14 hK hP hD hS => ?_)
  obtain ⟨g_14, rfl⟩ : ∃ z, z = u14 := ⟨_, rfl⟩
  have hw14 : (∀ j, j < 300 → g_14 j = (-9)) := hw14
  have hP : va_P D vwCl [(bo, .inr (1, [.ref wo, .ref q11, .ref q1, .ref q2, .ref q3, .ref q4, .ref q5, .ref q6, .ref q7, .ref q8, .ref q9, .ref q10, .int 0, .int 0, .int 0])), (q8, .inl (cA8, 180, .inl (fun _ => 0))), (q9, .inl (cA9, 30, .inl (fun _ => 0))), (q6, .inl (cA6, 30, .inl g_13)), (q7, .inl (cA7, 300, .inl g_14))] H := hP
  have hD : va_D A [(bo, .inr (1, [.ref wo, .ref q11, .ref q1, .ref q2, .ref q3, .ref q4, .ref q5, .ref q6, .ref q7, .ref q8, .ref q9, .ref q10, .int 0, .int 0, .int 0])), (q8, .inl (cA8, 180, .inl (fun _ => 0))), (q9, .inl (cA9, 30, .inl (fun _ => 0))), (q6, .inl (cA6, 30, .inl g_13)), (q7, .inl (cA7, 300, .inl g_14))] := hD
  have hK : va_K D vwCl [(cA6, .int), (cA7, .int), (cA8, .int), (cA9, .int)] s := hK
  refine lv_aload_n hx hb dX1_init_126 rfl (lv_at hl 0 rfl) ?_
  refine va_get (D := D) (ci := 1) (v := .ref q8) (C := RX1) (T := TX1) (N := 15) hx hb hts (fun _ h => List.mem_cons_of_mem _ (List.mem_append_left _ (List.mem_append_right _ h))) hown hK hP 0 rfl rfl 9 (by decide) (hts (.fieldLink RX1 34 "TalePlay$Book" "flagBy" "[I") (by decide +kernel)) (fun _ h9 => h9) rfl dX1_init_127 ?_
  refine lv_bipush (v := (-9)) hx hb dX1_init_130 (by decide) ?_
  have hPc := hP.sub (ws' := [(q8, .inl (cA8, 180, .inl (fun _ => 0)))]) [1] rfl
  have hKc := hK.sub (tys' := [(cA8, .int)]) [2] rfl
  have hDc := hD.sub (ws' := [(q8, .inl (cA8, 180, .inl (fun _ => 0)))]) [1] (by decide) rfl
  refine rw_callv (wr := [(bo, .inr (1, [.ref wo, .ref q11, .ref q1, .ref q2, .ref q3, .ref q4, .ref q5, .ref q6, .ref q7, .ref q8, .ref q9, .ref q10, .int 0, .int 0, .int 0])), (q9, .inl (cA9, 30, .inl (fun _ => 0))), (q6, .inl (cA6, 30, .inl g_13)), (q7, .inl (cA7, 300, .inl g_14))]) (va_runS (As := [.ref q8, .int (-9)]) (rest := []) ⟨hx, hb, hml, hown, hts⟩ (c_J7_fill_53178 l D H.size q8 cA8 180 (fun _ => 0) (-9) (by omega)) (va_cwS 2 hts gX1_init_J7_fill_53178 rfl rfl rfl (by decide +kernel) ⟨Nat.le_of_ble_eq_true rfl, Nat.le_of_ble_eq_true rfl⟩) (pB_S hKc hPc hDc) rfl rfl hl.1 rfl (lv_room (Nat.le_of_ble_eq_true rfl)) dX1_init_132 ⟨Nat.le_of_ble_eq_true rfl, Nat.le_of_ble_eq_true rfl⟩) hS hA hK hP hD [1] [0, 2, 3, 4] rfl rfl (by decide) (by decide) (fun u15 H locs hw15 hK hP hD hS => ?_)
  obtain ⟨g_15, rfl⟩ : ∃ z, z = u15 := ⟨_, rfl⟩
  have hw15 : (∀ j, j < 180 → g_15 j = (-9)) := hw15
  have hP : va_P D vwCl [(bo, .inr (1, [.ref wo, .ref q11, .ref q1, .ref q2, .ref q3, .ref q4, .ref q5, .ref q6, .ref q7, .ref q8, .ref q9, .ref q10, .int 0, .int 0, .int 0])), (q9, .inl (cA9, 30, .inl (fun _ => 0))), (q6, .inl (cA6, 30, .inl g_13)), (q7, .inl (cA7, 300, .inl g_14)), (q8, .inl (cA8, 180, .inl g_15))] H := hP
  have hD : va_D A [(bo, .inr (1, [.ref wo, .ref q11, .ref q1, .ref q2, .ref q3, .ref q4, .ref q5, .ref q6, .ref q7, .ref q8, .ref q9, .ref q10, .int 0, .int 0, .int 0])), (q9, .inl (cA9, 30, .inl (fun _ => 0))), (q6, .inl (cA6, 30, .inl g_13)), (q7, .inl (cA7, 300, .inl g_14)), (q8, .inl (cA8, 180, .inl g_15))] := hD
  have hK : va_K D vwCl [(cA6, .int), (cA7, .int), (cA8, .int), (cA9, .int)] s := hK
  refine lv_aload_n hx hb dX1_init_135 rfl (lv_at hl 0 rfl) ?_
  refine va_get (D := D) (ci := 1) (v := .ref q9) (C := RX1) (T := TX1) (N := 15) hx hb hts (fun _ h => List.mem_cons_of_mem _ (List.mem_append_left _ (List.mem_append_right _ h))) hown hK hP 0 rfl rfl 10 (by decide) (hts (.fieldLink RX1 37 "TalePlay$Book" "keyBy" "[I") (by decide +kernel)) (fun _ h9 => h9) rfl dX1_init_136 ?_
  refine lv_bipush (v := (-9)) hx hb dX1_init_139 (by decide) ?_
  have hPc := hP.sub (ws' := [(q9, .inl (cA9, 30, .inl (fun _ => 0)))]) [1] rfl
  have hKc := hK.sub (tys' := [(cA9, .int)]) [3] rfl
  have hDc := hD.sub (ws' := [(q9, .inl (cA9, 30, .inl (fun _ => 0)))]) [1] (by decide) rfl
  refine rw_callv (wr := [(bo, .inr (1, [.ref wo, .ref q11, .ref q1, .ref q2, .ref q3, .ref q4, .ref q5, .ref q6, .ref q7, .ref q8, .ref q9, .ref q10, .int 0, .int 0, .int 0])), (q6, .inl (cA6, 30, .inl g_13)), (q7, .inl (cA7, 300, .inl g_14)), (q8, .inl (cA8, 180, .inl g_15))]) (va_runS (As := [.ref q9, .int (-9)]) (rest := []) ⟨hx, hb, hml, hown, hts⟩ (c_J7_fill_53178 l D H.size q9 cA9 30 (fun _ => 0) (-9) (by omega)) (va_cwS 2 hts gX1_init_J7_fill_53178 rfl rfl rfl (by decide +kernel) ⟨Nat.le_of_ble_eq_true rfl, Nat.le_of_ble_eq_true rfl⟩) (pB_S hKc hPc hDc) rfl rfl hl.1 rfl (lv_room (Nat.le_of_ble_eq_true rfl)) dX1_init_141 ⟨Nat.le_of_ble_eq_true rfl, Nat.le_of_ble_eq_true rfl⟩) hS hA hK hP hD [1] [0, 2, 3, 4] rfl rfl (by decide) (by decide) (fun u16 H locs hw16 hK hP hD hS => ?_)
  obtain ⟨g_16, rfl⟩ : ∃ z, z = u16 := ⟨_, rfl⟩
  have hw16 : (∀ j, j < 30 → g_16 j = (-9)) := hw16
  have hP : va_P D vwCl [(bo, .inr (1, [.ref wo, .ref q11, .ref q1, .ref q2, .ref q3, .ref q4, .ref q5, .ref q6, .ref q7, .ref q8, .ref q9, .ref q10, .int 0, .int 0, .int 0])), (q6, .inl (cA6, 30, .inl g_13)), (q7, .inl (cA7, 300, .inl g_14)), (q8, .inl (cA8, 180, .inl g_15)), (q9, .inl (cA9, 30, .inl g_16))] H := hP
  have hD : va_D A [(bo, .inr (1, [.ref wo, .ref q11, .ref q1, .ref q2, .ref q3, .ref q4, .ref q5, .ref q6, .ref q7, .ref q8, .ref q9, .ref q10, .int 0, .int 0, .int 0])), (q6, .inl (cA6, 30, .inl g_13)), (q7, .inl (cA7, 300, .inl g_14)), (q8, .inl (cA8, 180, .inl g_15)), (q9, .inl (cA9, 30, .inl g_16))] := hD
  have hK : va_K D vwCl [(cA6, .int), (cA7, .int), (cA8, .int), (cA9, .int)] s := hK
  exact rw_vret (q11, q1, q2, q3, q4, q5, q6, q7, q8, q9, q10) hx hb hr hlocks hS (hK.sub (tys' := []) [] rfl) (hP.sub (ws' := [(bo, .inr (1, [.ref wo, .ref q11, .ref q1, .ref q2, .ref q3, .ref q4, .ref q5, .ref q6, .ref q7, .ref q8, .ref q9, .ref q10, .int 0, .int 0, .int 0]))]) [0] rfl) (hD.sub (ws' := [(bo, .inr (1, [.ref wo, .ref q11, .ref q1, .ref q2, .ref q3, .ref q4, .ref q5, .ref q6, .ref q7, .ref q8, .ref q9, .ref q10, .int 0, .int 0, .int 0]))]) [0] (by decide) rfl) dX1_init_144 trivial

set_option maxHeartbeats 4000000 in
set_option maxRecDepth 100000 in
theorem c_X5_wipe (l : Launch) (D : va_G) (sz : Nat) (rd : Nat) (r0 : Nat) (r1 : Nat) (r2 : Nat) (r3 : Nat) (r4 : Nat) (r5 : Nat) (r6 : Nat) (r7 : Nat) (r8 : Nat) (r9 : Nat) (r10 : Nat) (cR2 : ClassId) (fr2 : Nat → Int32) (cR3 : ClassId) (fr3 : Nat → Int32) (cR4 : ClassId) (fr4 : Nat → Int32) (cR5 : ClassId) (fr5 : Nat → Int32) (cR6 : ClassId) (fr6 : Nat → Int32) (cR7 : ClassId) (fr7 : Nat → Int32) : Met l yX5_wipe wsX5_wipe ({ frames := 1, cells := 0, slots := 0, locals := 23 }) (va_Pc [.ref rd] (pB D sz [(rd, .inr (5, [.ref r0, .ref r1, .ref r2, .ref r3, .ref r4, .ref r5, .ref r6, .ref r7, .ref r8, .ref r9, .ref r10])), (r2, .inl (cR2, 300, .inl fr2)), (r3, .inl (cR3, 300, .inl fr3)), (r4, .inl (cR4, 300, .inl fr4)), (r5, .inl (cR5, 300, .inl fr5)), (r6, .inl (cR6, 30, .inl fr6)), (r7, .inl (cR7, 30, .inl fr7))] [(cR2, .int), (cR3, .int), (cR4, .int), (cR5, .int), (cR6, .int), (cR7, .int)])) (va_Qv (fun (_ : Unit) => True) (oC D (va_A [(rd, .inr (5, [.ref r0, .ref r1, .ref r2, .ref r3, .ref r4, .ref r5, .ref r6, .ref r7, .ref r8, .ref r9, .ref r10])), (r2, .inl (cR2, 300, .inl fr2)), (r3, .inl (cR3, 300, .inl fr3)), (r4, .inl (cR4, 300, .inl fr4)), (r5, .inl (cR5, 300, .inl fr5)), (r6, .inl (cR6, 30, .inl fr6)), (r7, .inl (cR7, 30, .inl fr7))] sz) (fun _ => []) (fun _ => [])) (va_A [(rd, .inr (5, [.ref r0, .ref r1, .ref r2, .ref r3, .ref r4, .ref r5, .ref r6, .ref r7, .ref r8, .ref r9, .ref r10])), (r2, .inl (cR2, 300, .inl fr2)), (r3, .inl (cR3, 300, .inl fr3)), (r4, .inl (cR4, 300, .inl fr4)), (r5, .inl (cR5, 300, .inl fr5)), (r6, .inl (cR6, 30, .inl fr6)), (r7, .inl (cR7, 30, .inl fr7))] sz)) 0 0 (va_A [(rd, .inr (5, [.ref r0, .ref r1, .ref r2, .ref r3, .ref r4, .ref r5, .ref r6, .ref r7, .ref r8, .ref r9, .ref r10])), (r2, .inl (cR2, 300, .inl fr2)), (r3, .inl (cR3, 300, .inl fr3)), (r4, .inl (cR4, 300, .inl fr4)), (r5, .inl (cR5, 300, .inl fr5)), (r6, .inl (cR6, 30, .inl fr6)), (r7, .inl (cR7, 30, .inl fr7))] sz) := by
  refine Met.ofW (cc := cX5_wipe) (maxL := 1) (ret := none) (by decide) rfl ?_
  intro p e s m args below meth c s₁ B hml hv
  obtain ⟨rfl, hsz, hP, hK, hD0⟩ := hv
  have hx := B.exec
  have hb := B.bytes
  have hr := B.returns
  have hts := atoms_spec (ws := wsX5_wipe) B.pre
  have hown : s.vm.findClass RX5 = some m.cls := findClass_of_methodNamed B.named
  have hlocks := B.notSynchronized
  subst hsz
  have hD := hD0.self (sz := s.heap.size)
  generalize hAe : va_A [(rd, .inr (5, [.ref r0, .ref r1, .ref r2, .ref r3, .ref r4, .ref r5, .ref r6, .ref r7, .ref r8, .ref r9, .ref r10])), (r2, .inl (cR2, 300, .inl fr2)), (r3, .inl (cR3, 300, .inl fr3)), (r4, .inl (cR4, 300, .inl fr4)), (r5, .inl (cR5, 300, .inl fr5)), (r6, .inl (cR6, 30, .inl fr6)), (r7, .inl (cR7, 30, .inl fr7))] s.heap.size = A at hD ⊢
  have hA : ∀ q : Nat, s.heap.size ≤ q → A q := fun q h => by rw [← hAe]; exact Or.inr h
  have hS : va_S A s.heap s.heap [] := va_S.rf
  have hP : va_P D vwCl [(rd, .inr (5, [.ref r0, .ref r1, .ref r2, .ref r3, .ref r4, .ref r5, .ref r6, .ref r7, .ref r8, .ref r9, .ref r10])), (r2, .inl (cR2, 300, .inl fr2)), (r3, .inl (cR3, 300, .inl fr3)), (r4, .inl (cR4, 300, .inl fr4)), (r5, .inl (cR5, 300, .inl fr5)), (r6, .inl (cR6, 30, .inl fr6)), (r7, .inl (cR7, 30, .inl fr7))] s.heap := hP
  have hl := lv_entry ([.ref rd]) (n := 1) (Nat.le_of_ble_eq_true rfl)
  rw [lg_entry_eq]
  generalize (lg_sl ([.ref rd]) ++ List.replicate (1 - (lg_sl ([.ref rd])).length) Slot.unset).toArray = ls at hl ⊢
  have hl : lv_has ls 1 [(0, .ref rd)] := hl
  refine lv_aload_n hx hb dX5_wipe_0 rfl (lv_at hl 0 rfl) ?_
  refine va_get (D := D) (ci := 5) (v := .ref r2) (C := RX5) (T := TX5) (N := 11) hx hb hts (fun _ h => List.mem_cons_of_mem _ (List.mem_append_right _ h)) hown hK hP 0 rfl rfl 2 (by decide) (hts (.fieldLink RX5 9 "TalePlay$Roads" "leads" "[I") (by decide +kernel)) (fun _ h9 => h9) rfl dX5_wipe_1 ?_
  refine lv_bipush (v := (-9)) hx hb dX5_wipe_4 (by decide) ?_
  have hPc := hP.sub (ws' := [(r2, .inl (cR2, 300, .inl fr2))]) [1] rfl
  have hKc := hK.sub (tys' := [(cR2, .int)]) [0] rfl
  have hDc := hD.sub (ws' := [(r2, .inl (cR2, 300, .inl fr2))]) [1] (by decide) rfl
  refine rw_callv (wr := [(rd, .inr (5, [.ref r0, .ref r1, .ref r2, .ref r3, .ref r4, .ref r5, .ref r6, .ref r7, .ref r8, .ref r9, .ref r10])), (r3, .inl (cR3, 300, .inl fr3)), (r4, .inl (cR4, 300, .inl fr4)), (r5, .inl (cR5, 300, .inl fr5)), (r6, .inl (cR6, 30, .inl fr6)), (r7, .inl (cR7, 30, .inl fr7))]) (va_runS (As := [.ref r2, .int (-9)]) (rest := []) ⟨hx, hb, hml, hown, hts⟩ (c_J7_fill_53178 l D s.heap.size r2 cR2 300 fr2 (-9) (by omega)) (va_cwS 2 hts gX5_wipe_J7_fill_53178 rfl rfl rfl (by decide +kernel) ⟨Nat.le_of_ble_eq_true rfl, Nat.le_of_ble_eq_true rfl⟩) (pB_S hKc hPc hDc) rfl rfl hl.1 rfl (lv_room (Nat.le_of_ble_eq_true rfl)) dX5_wipe_6 ⟨Nat.le_of_ble_eq_true rfl, Nat.le_of_ble_eq_true rfl⟩) hS hA hK hP hD [1] [0, 2, 3, 4, 5, 6] rfl rfl (by decide) (by decide) (fun u1 H locs hw1 hK hP hD hS => ?_)
  obtain ⟨g_1, rfl⟩ : ∃ z, z = u1 := ⟨_, rfl⟩
  have hw1 : (∀ j, j < 300 → g_1 j = (-9)) := hw1
  have hP : va_P D vwCl [(rd, .inr (5, [.ref r0, .ref r1, .ref r2, .ref r3, .ref r4, .ref r5, .ref r6, .ref r7, .ref r8, .ref r9, .ref r10])), (r3, .inl (cR3, 300, .inl fr3)), (r4, .inl (cR4, 300, .inl fr4)), (r5, .inl (cR5, 300, .inl fr5)), (r6, .inl (cR6, 30, .inl fr6)), (r7, .inl (cR7, 30, .inl fr7)), (r2, .inl (cR2, 300, .inl g_1))] H := hP
  have hD : va_D A [(rd, .inr (5, [.ref r0, .ref r1, .ref r2, .ref r3, .ref r4, .ref r5, .ref r6, .ref r7, .ref r8, .ref r9, .ref r10])), (r3, .inl (cR3, 300, .inl fr3)), (r4, .inl (cR4, 300, .inl fr4)), (r5, .inl (cR5, 300, .inl fr5)), (r6, .inl (cR6, 30, .inl fr6)), (r7, .inl (cR7, 30, .inl fr7)), (r2, .inl (cR2, 300, .inl g_1))] := hD
  have hK : va_K D vwCl [(cR2, .int), (cR3, .int), (cR4, .int), (cR5, .int), (cR6, .int), (cR7, .int)] s := hK
  refine lv_aload_n hx hb dX5_wipe_9 rfl (lv_at hl 0 rfl) ?_
  refine va_get (D := D) (ci := 5) (v := .ref r3) (C := RX5) (T := TX5) (N := 11) hx hb hts (fun _ h => List.mem_cons_of_mem _ (List.mem_append_right _ h)) hown hK hP 0 rfl rfl 3 (by decide) (hts (.fieldLink RX5 15 "TalePlay$Roads" "doors" "[I") (by decide +kernel)) (fun _ h9 => h9) rfl dX5_wipe_10 ?_
  refine lv_bipush (v := (-9)) hx hb dX5_wipe_13 (by decide) ?_
  have hPc := hP.sub (ws' := [(r3, .inl (cR3, 300, .inl fr3))]) [1] rfl
  have hKc := hK.sub (tys' := [(cR3, .int)]) [1] rfl
  have hDc := hD.sub (ws' := [(r3, .inl (cR3, 300, .inl fr3))]) [1] (by decide) rfl
  refine rw_callv (wr := [(rd, .inr (5, [.ref r0, .ref r1, .ref r2, .ref r3, .ref r4, .ref r5, .ref r6, .ref r7, .ref r8, .ref r9, .ref r10])), (r4, .inl (cR4, 300, .inl fr4)), (r5, .inl (cR5, 300, .inl fr5)), (r6, .inl (cR6, 30, .inl fr6)), (r7, .inl (cR7, 30, .inl fr7)), (r2, .inl (cR2, 300, .inl g_1))]) (va_runS (As := [.ref r3, .int (-9)]) (rest := []) ⟨hx, hb, hml, hown, hts⟩ (c_J7_fill_53178 l D H.size r3 cR3 300 fr3 (-9) (by omega)) (va_cwS 2 hts gX5_wipe_J7_fill_53178 rfl rfl rfl (by decide +kernel) ⟨Nat.le_of_ble_eq_true rfl, Nat.le_of_ble_eq_true rfl⟩) (pB_S hKc hPc hDc) rfl rfl hl.1 rfl (lv_room (Nat.le_of_ble_eq_true rfl)) dX5_wipe_15 ⟨Nat.le_of_ble_eq_true rfl, Nat.le_of_ble_eq_true rfl⟩) hS hA hK hP hD [1] [0, 2, 3, 4, 5, 6] rfl rfl (by decide) (by decide) (fun u2 H locs hw2 hK hP hD hS => ?_)
  obtain ⟨g_2, rfl⟩ : ∃ z, z = u2 := ⟨_, rfl⟩
  have hw2 : (∀ j, j < 300 → g_2 j = (-9)) := hw2
  have hP : va_P D vwCl [(rd, .inr (5, [.ref r0, .ref r1, .ref r2, .ref r3, .ref r4, .ref r5, .ref r6, .ref r7, .ref r8, .ref r9, .ref r10])), (r4, .inl (cR4, 300, .inl fr4)), (r5, .inl (cR5, 300, .inl fr5)), (r6, .inl (cR6, 30, .inl fr6)), (r7, .inl (cR7, 30, .inl fr7)), (r2, .inl (cR2, 300, .inl g_1)), (r3, .inl (cR3, 300, .inl g_2))] H := hP
  have hD : va_D A [(rd, .inr (5, [.ref r0, .ref r1, .ref r2, .ref r3, .ref r4, .ref r5, .ref r6, .ref r7, .ref r8, .ref r9, .ref r10])), (r4, .inl (cR4, 300, .inl fr4)), (r5, .inl (cR5, 300, .inl fr5)), (r6, .inl (cR6, 30, .inl fr6)), (r7, .inl (cR7, 30, .inl fr7)), (r2, .inl (cR2, 300, .inl g_1)), (r3, .inl (cR3, 300, .inl g_2))] := hD
  have hK : va_K D vwCl [(cR2, .int), (cR3, .int), (cR4, .int), (cR5, .int), (cR6, .int), (cR7, .int)] s := hK
  refine lv_aload_n hx hb dX5_wipe_18 rfl (lv_at hl 0 rfl) ?_
  refine va_get (D := D) (ci := 5) (v := .ref r4) (C := RX5) (T := TX5) (N := 11) hx hb hts (fun _ h => List.mem_cons_of_mem _ (List.mem_append_right _ h)) hown hK hP 0 rfl rfl 4 (by decide) (hts (.fieldLink RX5 18 "TalePlay$Roads" "bys" "[I") (by decide +kernel)) (fun _ h9 => h9) rfl dX5_wipe_19 ?_
  refine lv_bipush (v := (-9)) hx hb dX5_wipe_22 (by decide) ?_
  have hPc := hP.sub (ws' := [(r4, .inl (cR4, 300, .inl fr4))]) [1] rfl
  have hKc := hK.sub (tys' := [(cR4, .int)]) [2] rfl
  have hDc := hD.sub (ws' := [(r4, .inl (cR4, 300, .inl fr4))]) [1] (by decide) rfl
  refine rw_callv (wr := [(rd, .inr (5, [.ref r0, .ref r1, .ref r2, .ref r3, .ref r4, .ref r5, .ref r6, .ref r7, .ref r8, .ref r9, .ref r10])), (r5, .inl (cR5, 300, .inl fr5)), (r6, .inl (cR6, 30, .inl fr6)), (r7, .inl (cR7, 30, .inl fr7)), (r2, .inl (cR2, 300, .inl g_1)), (r3, .inl (cR3, 300, .inl g_2))]) (va_runS (As := [.ref r4, .int (-9)]) (rest := []) ⟨hx, hb, hml, hown, hts⟩ (c_J7_fill_53178 l D H.size r4 cR4 300 fr4 (-9) (by omega)) (va_cwS 2 hts gX5_wipe_J7_fill_53178 rfl rfl rfl (by decide +kernel) ⟨Nat.le_of_ble_eq_true rfl, Nat.le_of_ble_eq_true rfl⟩) (pB_S hKc hPc hDc) rfl rfl hl.1 rfl (lv_room (Nat.le_of_ble_eq_true rfl)) dX5_wipe_24 ⟨Nat.le_of_ble_eq_true rfl, Nat.le_of_ble_eq_true rfl⟩) hS hA hK hP hD [1] [0, 2, 3, 4, 5, 6] rfl rfl (by decide) (by decide) (fun u3 H locs hw3 hK hP hD hS => ?_)
  obtain ⟨g_3, rfl⟩ : ∃ z, z = u3 := ⟨_, rfl⟩
  have hw3 : (∀ j, j < 300 → g_3 j = (-9)) := hw3
  have hP : va_P D vwCl [(rd, .inr (5, [.ref r0, .ref r1, .ref r2, .ref r3, .ref r4, .ref r5, .ref r6, .ref r7, .ref r8, .ref r9, .ref r10])), (r5, .inl (cR5, 300, .inl fr5)), (r6, .inl (cR6, 30, .inl fr6)), (r7, .inl (cR7, 30, .inl fr7)), (r2, .inl (cR2, 300, .inl g_1)), (r3, .inl (cR3, 300, .inl g_2)), (r4, .inl (cR4, 300, .inl g_3))] H := hP
  have hD : va_D A [(rd, .inr (5, [.ref r0, .ref r1, .ref r2, .ref r3, .ref r4, .ref r5, .ref r6, .ref r7, .ref r8, .ref r9, .ref r10])), (r5, .inl (cR5, 300, .inl fr5)), (r6, .inl (cR6, 30, .inl fr6)), (r7, .inl (cR7, 30, .inl fr7)), (r2, .inl (cR2, 300, .inl g_1)), (r3, .inl (cR3, 300, .inl g_2)), (r4, .inl (cR4, 300, .inl g_3))] := hD
  have hK : va_K D vwCl [(cR2, .int), (cR3, .int), (cR4, .int), (cR5, .int), (cR6, .int), (cR7, .int)] s := hK
  refine lv_aload_n hx hb dX5_wipe_27 rfl (lv_at hl 0 rfl) ?_
  refine va_get (D := D) (ci := 5) (v := .ref r5) (C := RX5) (T := TX5) (N := 11) hx hb hts (fun _ h => List.mem_cons_of_mem _ (List.mem_append_right _ h)) hown hK hP 0 rfl rfl 5 (by decide) (hts (.fieldLink RX5 21 "TalePlay$Roads" "implied" "[I") (by decide +kernel)) (fun _ h9 => h9) rfl dX5_wipe_28 ?_
  refine lv_iconst (v := 0) hx hb dX5_wipe_31 (by decide) ?_
  have hPc := hP.sub (ws' := [(r5, .inl (cR5, 300, .inl fr5))]) [1] rfl
  have hKc := hK.sub (tys' := [(cR5, .int)]) [3] rfl
  have hDc := hD.sub (ws' := [(r5, .inl (cR5, 300, .inl fr5))]) [1] (by decide) rfl
  refine rw_callv (wr := [(rd, .inr (5, [.ref r0, .ref r1, .ref r2, .ref r3, .ref r4, .ref r5, .ref r6, .ref r7, .ref r8, .ref r9, .ref r10])), (r6, .inl (cR6, 30, .inl fr6)), (r7, .inl (cR7, 30, .inl fr7)), (r2, .inl (cR2, 300, .inl g_1)), (r3, .inl (cR3, 300, .inl g_2)), (r4, .inl (cR4, 300, .inl g_3))]) (va_runS (As := [.ref r5, .int 0]) (rest := []) ⟨hx, hb, hml, hown, hts⟩ (c_J7_fill_53178 l D H.size r5 cR5 300 fr5 0 (by omega)) (va_cwS 2 hts gX5_wipe_J7_fill_53178 rfl rfl rfl (by decide +kernel) ⟨Nat.le_of_ble_eq_true rfl, Nat.le_of_ble_eq_true rfl⟩) (pB_S hKc hPc hDc) rfl rfl hl.1 rfl (lv_room (Nat.le_of_ble_eq_true rfl)) dX5_wipe_32 ⟨Nat.le_of_ble_eq_true rfl, Nat.le_of_ble_eq_true rfl⟩) hS hA hK hP hD [1] [0, 2, 3, 4, 5, 6] rfl rfl (by decide) (by decide) (fun u4 H locs hw4 hK hP hD hS => ?_)
  obtain ⟨g_4, rfl⟩ : ∃ z, z = u4 := ⟨_, rfl⟩
  have hw4 : (∀ j, j < 300 → g_4 j = 0) := hw4
  have hP : va_P D vwCl [(rd, .inr (5, [.ref r0, .ref r1, .ref r2, .ref r3, .ref r4, .ref r5, .ref r6, .ref r7, .ref r8, .ref r9, .ref r10])), (r6, .inl (cR6, 30, .inl fr6)), (r7, .inl (cR7, 30, .inl fr7)), (r2, .inl (cR2, 300, .inl g_1)), (r3, .inl (cR3, 300, .inl g_2)), (r4, .inl (cR4, 300, .inl g_3)), (r5, .inl (cR5, 300, .inl g_4))] H := hP
  have hD : va_D A [(rd, .inr (5, [.ref r0, .ref r1, .ref r2, .ref r3, .ref r4, .ref r5, .ref r6, .ref r7, .ref r8, .ref r9, .ref r10])), (r6, .inl (cR6, 30, .inl fr6)), (r7, .inl (cR7, 30, .inl fr7)), (r2, .inl (cR2, 300, .inl g_1)), (r3, .inl (cR3, 300, .inl g_2)), (r4, .inl (cR4, 300, .inl g_3)), (r5, .inl (cR5, 300, .inl g_4))] := hD
  have hK : va_K D vwCl [(cR2, .int), (cR3, .int), (cR4, .int), (cR5, .int), (cR6, .int), (cR7, .int)] s := hK
  refine lv_aload_n hx hb dX5_wipe_35 rfl (lv_at hl 0 rfl) ?_
  refine va_get (D := D) (ci := 5) (v := .ref r6) (C := RX5) (T := TX5) (N := 11) hx hb hts (fun _ h => List.mem_cons_of_mem _ (List.mem_append_right _ h)) hown hK hP 0 rfl rfl 6 (by decide) (hts (.fieldLink RX5 24 "TalePlay$Roads" "firstSides" "[I") (by decide +kernel)) (fun _ h9 => h9) rfl dX5_wipe_36 ?_
  refine lv_bipush (v := (-9)) hx hb dX5_wipe_39 (by decide) ?_
  have hPc := hP.sub (ws' := [(r6, .inl (cR6, 30, .inl fr6))]) [1] rfl
  have hKc := hK.sub (tys' := [(cR6, .int)]) [4] rfl
  have hDc := hD.sub (ws' := [(r6, .inl (cR6, 30, .inl fr6))]) [1] (by decide) rfl
  refine rw_callv (wr := [(rd, .inr (5, [.ref r0, .ref r1, .ref r2, .ref r3, .ref r4, .ref r5, .ref r6, .ref r7, .ref r8, .ref r9, .ref r10])), (r7, .inl (cR7, 30, .inl fr7)), (r2, .inl (cR2, 300, .inl g_1)), (r3, .inl (cR3, 300, .inl g_2)), (r4, .inl (cR4, 300, .inl g_3)), (r5, .inl (cR5, 300, .inl g_4))]) (va_runS (As := [.ref r6, .int (-9)]) (rest := []) ⟨hx, hb, hml, hown, hts⟩ (c_J7_fill_53178 l D H.size r6 cR6 30 fr6 (-9) (by omega)) (va_cwS 2 hts gX5_wipe_J7_fill_53178 rfl rfl rfl (by decide +kernel) ⟨Nat.le_of_ble_eq_true rfl, Nat.le_of_ble_eq_true rfl⟩) (pB_S hKc hPc hDc) rfl rfl hl.1 rfl (lv_room (Nat.le_of_ble_eq_true rfl)) dX5_wipe_41 ⟨Nat.le_of_ble_eq_true rfl, Nat.le_of_ble_eq_true rfl⟩) hS hA hK hP hD [1] [0, 2, 3, 4, 5, 6] rfl rfl (by decide) (by decide) (fun u5 H locs hw5 hK hP hD hS => ?_)
  obtain ⟨g_5, rfl⟩ : ∃ z, z = u5 := ⟨_, rfl⟩
  have hw5 : (∀ j, j < 30 → g_5 j = (-9)) := hw5
  have hP : va_P D vwCl [(rd, .inr (5, [.ref r0, .ref r1, .ref r2, .ref r3, .ref r4, .ref r5, .ref r6, .ref r7, .ref r8, .ref r9, .ref r10])), (r7, .inl (cR7, 30, .inl fr7)), (r2, .inl (cR2, 300, .inl g_1)), (r3, .inl (cR3, 300, .inl g_2)), (r4, .inl (cR4, 300, .inl g_3)), (r5, .inl (cR5, 300, .inl g_4)), (r6, .inl (cR6, 30, .inl g_5))] H := hP
  have hD : va_D A [(rd, .inr (5, [.ref r0, .ref r1, .ref r2, .ref r3, .ref r4, .ref r5, .ref r6, .ref r7, .ref r8, .ref r9, .ref r10])), (r7, .inl (cR7, 30, .inl fr7)), (r2, .inl (cR2, 300, .inl g_1)), (r3, .inl (cR3, 300, .inl g_2)), (r4, .inl (cR4, 300, .inl g_3)), (r5, .inl (cR5, 300, .inl g_4)), (r6, .inl (cR6, 30, .inl g_5))] := hD
  have hK : va_K D vwCl [(cR2, .int), (cR3, .int), (cR4, .int), (cR5, .int), (cR6, .int), (cR7, .int)] s := hK
  refine lv_aload_n hx hb dX5_wipe_44 rfl (lv_at hl 0 rfl) ?_
  refine va_get (D := D) (ci := 5) (v := .ref r7) (C := RX5) (T := TX5) (N := 11) hx hb hts (fun _ h => List.mem_cons_of_mem _ (List.mem_append_right _ h)) hown hK hP 0 rfl rfl 7 (by decide) (hts (.fieldLink RX5 27 "TalePlay$Roads" "secondSides" "[I") (by decide +kernel)) (fun _ h9 => h9) rfl dX5_wipe_45 ?_
  refine lv_bipush (v := (-9)) hx hb dX5_wipe_48 (by decide) ?_
  have hPc := hP.sub (ws' := [(r7, .inl (cR7, 30, .inl fr7))]) [1] rfl
  have hKc := hK.sub (tys' := [(cR7, .int)]) [5] rfl
  have hDc := hD.sub (ws' := [(r7, .inl (cR7, 30, .inl fr7))]) [1] (by decide) rfl
  refine rw_callv (wr := [(rd, .inr (5, [.ref r0, .ref r1, .ref r2, .ref r3, .ref r4, .ref r5, .ref r6, .ref r7, .ref r8, .ref r9, .ref r10])), (r2, .inl (cR2, 300, .inl g_1)), (r3, .inl (cR3, 300, .inl g_2)), (r4, .inl (cR4, 300, .inl g_3)), (r5, .inl (cR5, 300, .inl g_4)), (r6, .inl (cR6, 30, .inl g_5))]) (va_runS (As := [.ref r7, .int (-9)]) (rest := []) ⟨hx, hb, hml, hown, hts⟩ (c_J7_fill_53178 l D H.size r7 cR7 30 fr7 (-9) (by omega)) (va_cwS 2 hts gX5_wipe_J7_fill_53178 rfl rfl rfl (by decide +kernel) ⟨Nat.le_of_ble_eq_true rfl, Nat.le_of_ble_eq_true rfl⟩) (pB_S hKc hPc hDc) rfl rfl hl.1 rfl (lv_room (Nat.le_of_ble_eq_true rfl)) dX5_wipe_50 ⟨Nat.le_of_ble_eq_true rfl, Nat.le_of_ble_eq_true rfl⟩) hS hA hK hP hD [1] [0, 2, 3, 4, 5, 6] rfl rfl (by decide) (by decide) (fun u6 H locs hw6 hK hP hD hS => ?_)
  obtain ⟨g_6, rfl⟩ : ∃ z, z = u6 := ⟨_, rfl⟩
  have hw6 : (∀ j, j < 30 → g_6 j = (-9)) := hw6
  have hP : va_P D vwCl [(rd, .inr (5, [.ref r0, .ref r1, .ref r2, .ref r3, .ref r4, .ref r5, .ref r6, .ref r7, .ref r8, .ref r9, .ref r10])), (r2, .inl (cR2, 300, .inl g_1)), (r3, .inl (cR3, 300, .inl g_2)), (r4, .inl (cR4, 300, .inl g_3)), (r5, .inl (cR5, 300, .inl g_4)), (r6, .inl (cR6, 30, .inl g_5)), (r7, .inl (cR7, 30, .inl g_6))] H := hP
  have hD : va_D A [(rd, .inr (5, [.ref r0, .ref r1, .ref r2, .ref r3, .ref r4, .ref r5, .ref r6, .ref r7, .ref r8, .ref r9, .ref r10])), (r2, .inl (cR2, 300, .inl g_1)), (r3, .inl (cR3, 300, .inl g_2)), (r4, .inl (cR4, 300, .inl g_3)), (r5, .inl (cR5, 300, .inl g_4)), (r6, .inl (cR6, 30, .inl g_5)), (r7, .inl (cR7, 30, .inl g_6))] := hD
  have hK : va_K D vwCl [(cR2, .int), (cR3, .int), (cR4, .int), (cR5, .int), (cR6, .int), (cR7, .int)] s := hK
  exact rw_vret () hx hb hr hlocks hS (hK.sub (tys' := []) [] rfl) (hP.sub (ws' := []) [] rfl) (hD.sub (ws' := []) [] (by decide) rfl) dX5_wipe_53 trivial

set_option maxHeartbeats 4000000 in
set_option maxRecDepth 100000 in
theorem c_X5_init (l : Launch) (D : va_G) (sz : Nat) (rd : Nat) (wo : Nat) (bo : Nat) : Met l yX5_init wsX5_init ({ frames := 2, cells := 9, slots := 1350, locals := 43 }) (va_Pc [.ref rd, .ref wo, .ref bo] (pB D sz [(rd, .inr (5, [.null, .null, .null, .null, .null, .null, .null, .null, .null, .null, .null]))] [])) (va_Qv (fun (_ : Unit) => True) (oC D (va_A [(rd, .inr (5, [.null, .null, .null, .null, .null, .null, .null, .null, .null, .null, .null]))] sz) (fun _ => []) (fun _ => [])) (va_A [(rd, .inr (5, [.null, .null, .null, .null, .null, .null, .null, .null, .null, .null, .null]))] sz)) 9 1350 (va_A [(rd, .inr (5, [.null, .null, .null, .null, .null, .null, .null, .null, .null, .null, .null]))] sz) := by
  refine Met.ofW (cc := cX5_init) (maxL := 3) (ret := none) (by decide) rfl ?_
  intro p e s m args below meth c s₁ B hml hv
  obtain ⟨rfl, hsz, hP, hK, hD0⟩ := hv
  have hx := B.exec
  have hb := B.bytes
  have hr := B.returns
  have hts := atoms_spec (ws := wsX5_init) B.pre
  have hown : s.vm.findClass RX5 = some m.cls := findClass_of_methodNamed B.named
  have hlocks := B.notSynchronized
  have hin : meth.name = "<init>" := (name_of_methodNamed B.named B.method).1
  subst hsz
  have hD := hD0.self (sz := s.heap.size)
  generalize hAe : va_A [(rd, .inr (5, [.null, .null, .null, .null, .null, .null, .null, .null, .null, .null, .null]))] s.heap.size = A at hD ⊢
  have hA : ∀ q : Nat, s.heap.size ≤ q → A q := fun q h => by rw [← hAe]; exact Or.inr h
  have hS : va_S A s.heap s.heap [] := va_S.rf
  have hP : va_P D vwCl [(rd, .inr (5, [.null, .null, .null, .null, .null, .null, .null, .null, .null, .null, .null]))] s.heap := hP
  have hl := lv_entry ([.ref rd, .ref wo, .ref bo]) (n := 3) (Nat.le_of_ble_eq_true rfl)
  rw [lg_entry_eq]
  generalize (lg_sl ([.ref rd, .ref wo, .ref bo]) ++ List.replicate (3 - (lg_sl ([.ref rd, .ref wo, .ref bo])).length) Slot.unset).toArray = ls at hl ⊢
  have hl : lv_has ls 3 [(0, .ref rd), (1, .ref wo), (2, .ref bo)] := hl
  refine lv_aload_n hx hb dX5_init_0 rfl (lv_at hl 0 rfl) ?_
  refine W.objInit hx hb hown (hts (.methodLink RX5 3 objectInit) (by decide +kernel)) (hts (.instanceMethod objectInit) (by decide +kernel)) (hts (.code objectInit ⟨#[0xb1]⟩ 1 none) (by decide +kernel)) rfl (by rw [hml]; exact hl.1) rfl dX5_init_1 (Nat.le_of_ble_eq_true rfl) (Nat.le_of_ble_eq_true rfl) ?_
  refine W.eq (g2 := F0 m 4 ls []) rfl ?_
  refine lv_aload_n hx hb dX5_init_4 rfl (lv_at hl 0 rfl) ?_
  refine lv_sipush (v := 300) hx hb dX5_init_5 (by decide) ?_
  refine va_newa (atype := .int) (ty := .int) (a0 := (300, .inl (fun _ => 0))) hx hb (hts (.arrayClass .int) (by decide +kernel)) rfl hK hP hD hS hA (fun _ => vp_cell_i _ _ _) (by decide) (N' := 300) (by decide) (show 300 * 4 ≤ 536870912 by omega) (Nat.le_of_ble_eq_true rfl) (Nat.le_of_ble_eq_true rfl) dX5_init_8 (fun q1 cA1 H hK hP hD hS => ?_)
  have hP : va_P D vwCl [(rd, .inr (5, [.null, .null, .null, .null, .null, .null, .null, .null, .null, .null, .null])), (q1, .inl (cA1, 300, .inl (fun _ => 0)))] H := hP
  have hD : va_D A [(rd, .inr (5, [.null, .null, .null, .null, .null, .null, .null, .null, .null, .null, .null])), (q1, .inl (cA1, 300, .inl (fun _ => 0)))] := hD
  have hK : va_K D vwCl [(cA1, .int)] s := hK
  refine W.widen (k := 1) (n := 300) (Nat.le_of_ble_eq_true rfl) (Nat.le_of_ble_eq_true rfl) ?_
  refine va_putF (D := D) (ci := 5) (v := .ref q1) (ty := .array .int) (C := RX5) (T := TX5) (N := 11) hx hb hts (fun _ h => List.mem_cons_of_mem _ (List.mem_append_right _ h)) tyX5 tyX5_ok nmX5 hown hK hP hD hS 0 rfl rfl 2 (by decide) (hts (.fieldLink RX5 9 "TalePlay$Roads" "leads" "[I") (by decide +kernel)) (fun _ h9 => h9) rfl hin rfl (by decide +kernel) rfl rfl (Nat.le_of_ble_eq_true rfl) dX5_init_10 (fun H locs hP hD hS => ?_)
  have hP : va_P D vwCl [(rd, .inr (5, [.null, .null, .ref q1, .null, .null, .null, .null, .null, .null, .null, .null])), (q1, .inl (cA1, 300, .inl (fun _ => 0)))] H := hP
  have hD : va_D A [(rd, .inr (5, [.null, .null, .ref q1, .null, .null, .null, .null, .null, .null, .null, .null])), (q1, .inl (cA1, 300, .inl (fun _ => 0)))] := hD
  refine lv_aload_n hx hb dX5_init_13 rfl (lv_at hl 0 rfl) ?_
  refine lv_sipush (v := 300) hx hb dX5_init_14 (by decide) ?_
  refine va_newa (atype := .int) (ty := .int) (a0 := (300, .inl (fun _ => 0))) hx hb (hts (.arrayClass .int) (by decide +kernel)) rfl hK hP hD hS hA (fun _ => vp_cell_i _ _ _) (by decide) (N' := 300) (by decide) (show 300 * 4 ≤ 536870912 by omega) (Nat.le_of_ble_eq_true rfl) (Nat.le_of_ble_eq_true rfl) dX5_init_17 (fun q2 cA2 H hK hP hD hS => ?_)
  have hP : va_P D vwCl [(rd, .inr (5, [.null, .null, .ref q1, .null, .null, .null, .null, .null, .null, .null, .null])), (q1, .inl (cA1, 300, .inl (fun _ => 0))), (q2, .inl (cA2, 300, .inl (fun _ => 0)))] H := hP
  have hD : va_D A [(rd, .inr (5, [.null, .null, .ref q1, .null, .null, .null, .null, .null, .null, .null, .null])), (q1, .inl (cA1, 300, .inl (fun _ => 0))), (q2, .inl (cA2, 300, .inl (fun _ => 0)))] := hD
  have hK : va_K D vwCl [(cA1, .int), (cA2, .int)] s := hK
  refine W.widen (k := 2) (n := 600) (Nat.le_of_ble_eq_true rfl) (Nat.le_of_ble_eq_true rfl) ?_
  refine va_putF (D := D) (ci := 5) (v := .ref q2) (ty := .array .int) (C := RX5) (T := TX5) (N := 11) hx hb hts (fun _ h => List.mem_cons_of_mem _ (List.mem_append_right _ h)) tyX5 tyX5_ok nmX5 hown hK hP hD hS 0 rfl rfl 3 (by decide) (hts (.fieldLink RX5 15 "TalePlay$Roads" "doors" "[I") (by decide +kernel)) (fun _ h9 => h9) rfl hin rfl (by decide +kernel) rfl rfl (Nat.le_of_ble_eq_true rfl) dX5_init_19 (fun H locs hP hD hS => ?_)
  have hP : va_P D vwCl [(rd, .inr (5, [.null, .null, .ref q1, .ref q2, .null, .null, .null, .null, .null, .null, .null])), (q1, .inl (cA1, 300, .inl (fun _ => 0))), (q2, .inl (cA2, 300, .inl (fun _ => 0)))] H := hP
  have hD : va_D A [(rd, .inr (5, [.null, .null, .ref q1, .ref q2, .null, .null, .null, .null, .null, .null, .null])), (q1, .inl (cA1, 300, .inl (fun _ => 0))), (q2, .inl (cA2, 300, .inl (fun _ => 0)))] := hD
  refine lv_aload_n hx hb dX5_init_22 rfl (lv_at hl 0 rfl) ?_
  refine lv_sipush (v := 300) hx hb dX5_init_23 (by decide) ?_
  refine va_newa (atype := .int) (ty := .int) (a0 := (300, .inl (fun _ => 0))) hx hb (hts (.arrayClass .int) (by decide +kernel)) rfl hK hP hD hS hA (fun _ => vp_cell_i _ _ _) (by decide) (N' := 300) (by decide) (show 300 * 4 ≤ 536870912 by omega) (Nat.le_of_ble_eq_true rfl) (Nat.le_of_ble_eq_true rfl) dX5_init_26 (fun q3 cA3 H hK hP hD hS => ?_)
  have hP : va_P D vwCl [(rd, .inr (5, [.null, .null, .ref q1, .ref q2, .null, .null, .null, .null, .null, .null, .null])), (q1, .inl (cA1, 300, .inl (fun _ => 0))), (q2, .inl (cA2, 300, .inl (fun _ => 0))), (q3, .inl (cA3, 300, .inl (fun _ => 0)))] H := hP
  have hD : va_D A [(rd, .inr (5, [.null, .null, .ref q1, .ref q2, .null, .null, .null, .null, .null, .null, .null])), (q1, .inl (cA1, 300, .inl (fun _ => 0))), (q2, .inl (cA2, 300, .inl (fun _ => 0))), (q3, .inl (cA3, 300, .inl (fun _ => 0)))] := hD
  have hK : va_K D vwCl [(cA1, .int), (cA2, .int), (cA3, .int)] s := hK
  refine W.widen (k := 3) (n := 900) (Nat.le_of_ble_eq_true rfl) (Nat.le_of_ble_eq_true rfl) ?_
  refine va_putF (D := D) (ci := 5) (v := .ref q3) (ty := .array .int) (C := RX5) (T := TX5) (N := 11) hx hb hts (fun _ h => List.mem_cons_of_mem _ (List.mem_append_right _ h)) tyX5 tyX5_ok nmX5 hown hK hP hD hS 0 rfl rfl 4 (by decide) (hts (.fieldLink RX5 18 "TalePlay$Roads" "bys" "[I") (by decide +kernel)) (fun _ h9 => h9) rfl hin rfl (by decide +kernel) rfl rfl (Nat.le_of_ble_eq_true rfl) dX5_init_28 (fun H locs hP hD hS => ?_)
  have hP : va_P D vwCl [(rd, .inr (5, [.null, .null, .ref q1, .ref q2, .ref q3, .null, .null, .null, .null, .null, .null])), (q1, .inl (cA1, 300, .inl (fun _ => 0))), (q2, .inl (cA2, 300, .inl (fun _ => 0))), (q3, .inl (cA3, 300, .inl (fun _ => 0)))] H := hP
  have hD : va_D A [(rd, .inr (5, [.null, .null, .ref q1, .ref q2, .ref q3, .null, .null, .null, .null, .null, .null])), (q1, .inl (cA1, 300, .inl (fun _ => 0))), (q2, .inl (cA2, 300, .inl (fun _ => 0))), (q3, .inl (cA3, 300, .inl (fun _ => 0)))] := hD
  refine lv_aload_n hx hb dX5_init_31 rfl (lv_at hl 0 rfl) ?_
  refine lv_sipush (v := 300) hx hb dX5_init_32 (by decide) ?_
  refine va_newa (atype := .int) (ty := .int) (a0 := (300, .inl (fun _ => 0))) hx hb (hts (.arrayClass .int) (by decide +kernel)) rfl hK hP hD hS hA (fun _ => vp_cell_i _ _ _) (by decide) (N' := 300) (by decide) (show 300 * 4 ≤ 536870912 by omega) (Nat.le_of_ble_eq_true rfl) (Nat.le_of_ble_eq_true rfl) dX5_init_35 (fun q4 cA4 H hK hP hD hS => ?_)
  have hP : va_P D vwCl [(rd, .inr (5, [.null, .null, .ref q1, .ref q2, .ref q3, .null, .null, .null, .null, .null, .null])), (q1, .inl (cA1, 300, .inl (fun _ => 0))), (q2, .inl (cA2, 300, .inl (fun _ => 0))), (q3, .inl (cA3, 300, .inl (fun _ => 0))), (q4, .inl (cA4, 300, .inl (fun _ => 0)))] H := hP
  have hD : va_D A [(rd, .inr (5, [.null, .null, .ref q1, .ref q2, .ref q3, .null, .null, .null, .null, .null, .null])), (q1, .inl (cA1, 300, .inl (fun _ => 0))), (q2, .inl (cA2, 300, .inl (fun _ => 0))), (q3, .inl (cA3, 300, .inl (fun _ => 0))), (q4, .inl (cA4, 300, .inl (fun _ => 0)))] := hD
  have hK : va_K D vwCl [(cA1, .int), (cA2, .int), (cA3, .int), (cA4, .int)] s := hK
  refine W.widen (k := 4) (n := 1200) (Nat.le_of_ble_eq_true rfl) (Nat.le_of_ble_eq_true rfl) ?_
  refine va_putF (D := D) (ci := 5) (v := .ref q4) (ty := .array .int) (C := RX5) (T := TX5) (N := 11) hx hb hts (fun _ h => List.mem_cons_of_mem _ (List.mem_append_right _ h)) tyX5 tyX5_ok nmX5 hown hK hP hD hS 0 rfl rfl 5 (by decide) (hts (.fieldLink RX5 21 "TalePlay$Roads" "implied" "[I") (by decide +kernel)) (fun _ h9 => h9) rfl hin rfl (by decide +kernel) rfl rfl (Nat.le_of_ble_eq_true rfl) dX5_init_37 (fun H locs hP hD hS => ?_)
  have hP : va_P D vwCl [(rd, .inr (5, [.null, .null, .ref q1, .ref q2, .ref q3, .ref q4, .null, .null, .null, .null, .null])), (q1, .inl (cA1, 300, .inl (fun _ => 0))), (q2, .inl (cA2, 300, .inl (fun _ => 0))), (q3, .inl (cA3, 300, .inl (fun _ => 0))), (q4, .inl (cA4, 300, .inl (fun _ => 0)))] H := hP
  have hD : va_D A [(rd, .inr (5, [.null, .null, .ref q1, .ref q2, .ref q3, .ref q4, .null, .null, .null, .null, .null])), (q1, .inl (cA1, 300, .inl (fun _ => 0))), (q2, .inl (cA2, 300, .inl (fun _ => 0))), (q3, .inl (cA3, 300, .inl (fun _ => 0))), (q4, .inl (cA4, 300, .inl (fun _ => 0)))] := hD
  refine lv_aload_n hx hb dX5_init_40 rfl (lv_at hl 0 rfl) ?_
  refine lv_bipush (v := 30) hx hb dX5_init_41 (by decide) ?_
  refine va_newa (atype := .int) (ty := .int) (a0 := (30, .inl (fun _ => 0))) hx hb (hts (.arrayClass .int) (by decide +kernel)) rfl hK hP hD hS hA (fun _ => vp_cell_i _ _ _) (by decide) (N' := 30) (by decide) (show 30 * 4 ≤ 536870912 by omega) (Nat.le_of_ble_eq_true rfl) (Nat.le_of_ble_eq_true rfl) dX5_init_43 (fun q5 cA5 H hK hP hD hS => ?_)
  have hP : va_P D vwCl [(rd, .inr (5, [.null, .null, .ref q1, .ref q2, .ref q3, .ref q4, .null, .null, .null, .null, .null])), (q1, .inl (cA1, 300, .inl (fun _ => 0))), (q2, .inl (cA2, 300, .inl (fun _ => 0))), (q3, .inl (cA3, 300, .inl (fun _ => 0))), (q4, .inl (cA4, 300, .inl (fun _ => 0))), (q5, .inl (cA5, 30, .inl (fun _ => 0)))] H := hP
  have hD : va_D A [(rd, .inr (5, [.null, .null, .ref q1, .ref q2, .ref q3, .ref q4, .null, .null, .null, .null, .null])), (q1, .inl (cA1, 300, .inl (fun _ => 0))), (q2, .inl (cA2, 300, .inl (fun _ => 0))), (q3, .inl (cA3, 300, .inl (fun _ => 0))), (q4, .inl (cA4, 300, .inl (fun _ => 0))), (q5, .inl (cA5, 30, .inl (fun _ => 0)))] := hD
  have hK : va_K D vwCl [(cA1, .int), (cA2, .int), (cA3, .int), (cA4, .int), (cA5, .int)] s := hK
  refine W.widen (k := 5) (n := 1230) (Nat.le_of_ble_eq_true rfl) (Nat.le_of_ble_eq_true rfl) ?_
  refine va_putF (D := D) (ci := 5) (v := .ref q5) (ty := .array .int) (C := RX5) (T := TX5) (N := 11) hx hb hts (fun _ h => List.mem_cons_of_mem _ (List.mem_append_right _ h)) tyX5 tyX5_ok nmX5 hown hK hP hD hS 0 rfl rfl 6 (by decide) (hts (.fieldLink RX5 24 "TalePlay$Roads" "firstSides" "[I") (by decide +kernel)) (fun _ h9 => h9) rfl hin rfl (by decide +kernel) rfl rfl (Nat.le_of_ble_eq_true rfl) dX5_init_45 (fun H locs hP hD hS => ?_)
  have hP : va_P D vwCl [(rd, .inr (5, [.null, .null, .ref q1, .ref q2, .ref q3, .ref q4, .ref q5, .null, .null, .null, .null])), (q1, .inl (cA1, 300, .inl (fun _ => 0))), (q2, .inl (cA2, 300, .inl (fun _ => 0))), (q3, .inl (cA3, 300, .inl (fun _ => 0))), (q4, .inl (cA4, 300, .inl (fun _ => 0))), (q5, .inl (cA5, 30, .inl (fun _ => 0)))] H := hP
  have hD : va_D A [(rd, .inr (5, [.null, .null, .ref q1, .ref q2, .ref q3, .ref q4, .ref q5, .null, .null, .null, .null])), (q1, .inl (cA1, 300, .inl (fun _ => 0))), (q2, .inl (cA2, 300, .inl (fun _ => 0))), (q3, .inl (cA3, 300, .inl (fun _ => 0))), (q4, .inl (cA4, 300, .inl (fun _ => 0))), (q5, .inl (cA5, 30, .inl (fun _ => 0)))] := hD
  refine lv_aload_n hx hb dX5_init_48 rfl (lv_at hl 0 rfl) ?_
  refine lv_bipush (v := 30) hx hb dX5_init_49 (by decide) ?_
  refine va_newa (atype := .int) (ty := .int) (a0 := (30, .inl (fun _ => 0))) hx hb (hts (.arrayClass .int) (by decide +kernel)) rfl hK hP hD hS hA (fun _ => vp_cell_i _ _ _) (by decide) (N' := 30) (by decide) (show 30 * 4 ≤ 536870912 by omega) (Nat.le_of_ble_eq_true rfl) (Nat.le_of_ble_eq_true rfl) dX5_init_51 (fun q6 cA6 H hK hP hD hS => ?_)
  have hP : va_P D vwCl [(rd, .inr (5, [.null, .null, .ref q1, .ref q2, .ref q3, .ref q4, .ref q5, .null, .null, .null, .null])), (q1, .inl (cA1, 300, .inl (fun _ => 0))), (q2, .inl (cA2, 300, .inl (fun _ => 0))), (q3, .inl (cA3, 300, .inl (fun _ => 0))), (q4, .inl (cA4, 300, .inl (fun _ => 0))), (q5, .inl (cA5, 30, .inl (fun _ => 0))), (q6, .inl (cA6, 30, .inl (fun _ => 0)))] H := hP
  have hD : va_D A [(rd, .inr (5, [.null, .null, .ref q1, .ref q2, .ref q3, .ref q4, .ref q5, .null, .null, .null, .null])), (q1, .inl (cA1, 300, .inl (fun _ => 0))), (q2, .inl (cA2, 300, .inl (fun _ => 0))), (q3, .inl (cA3, 300, .inl (fun _ => 0))), (q4, .inl (cA4, 300, .inl (fun _ => 0))), (q5, .inl (cA5, 30, .inl (fun _ => 0))), (q6, .inl (cA6, 30, .inl (fun _ => 0)))] := hD
  have hK : va_K D vwCl [(cA1, .int), (cA2, .int), (cA3, .int), (cA4, .int), (cA5, .int), (cA6, .int)] s := hK
  refine W.widen (k := 6) (n := 1260) (Nat.le_of_ble_eq_true rfl) (Nat.le_of_ble_eq_true rfl) ?_
  refine va_putF (D := D) (ci := 5) (v := .ref q6) (ty := .array .int) (C := RX5) (T := TX5) (N := 11) hx hb hts (fun _ h => List.mem_cons_of_mem _ (List.mem_append_right _ h)) tyX5 tyX5_ok nmX5 hown hK hP hD hS 0 rfl rfl 7 (by decide) (hts (.fieldLink RX5 27 "TalePlay$Roads" "secondSides" "[I") (by decide +kernel)) (fun _ h9 => h9) rfl hin rfl (by decide +kernel) rfl rfl (Nat.le_of_ble_eq_true rfl) dX5_init_53 (fun H locs hP hD hS => ?_)
  have hP : va_P D vwCl [(rd, .inr (5, [.null, .null, .ref q1, .ref q2, .ref q3, .ref q4, .ref q5, .ref q6, .null, .null, .null])), (q1, .inl (cA1, 300, .inl (fun _ => 0))), (q2, .inl (cA2, 300, .inl (fun _ => 0))), (q3, .inl (cA3, 300, .inl (fun _ => 0))), (q4, .inl (cA4, 300, .inl (fun _ => 0))), (q5, .inl (cA5, 30, .inl (fun _ => 0))), (q6, .inl (cA6, 30, .inl (fun _ => 0)))] H := hP
  have hD : va_D A [(rd, .inr (5, [.null, .null, .ref q1, .ref q2, .ref q3, .ref q4, .ref q5, .ref q6, .null, .null, .null])), (q1, .inl (cA1, 300, .inl (fun _ => 0))), (q2, .inl (cA2, 300, .inl (fun _ => 0))), (q3, .inl (cA3, 300, .inl (fun _ => 0))), (q4, .inl (cA4, 300, .inl (fun _ => 0))), (q5, .inl (cA5, 30, .inl (fun _ => 0))), (q6, .inl (cA6, 30, .inl (fun _ => 0)))] := hD
  refine lv_aload_n hx hb dX5_init_56 rfl (lv_at hl 0 rfl) ?_
  refine lv_bipush (v := 30) hx hb dX5_init_57 (by decide) ?_
  refine va_newa (atype := .int) (ty := .int) (a0 := (30, .inl (fun _ => 0))) hx hb (hts (.arrayClass .int) (by decide +kernel)) rfl hK hP hD hS hA (fun _ => vp_cell_i _ _ _) (by decide) (N' := 30) (by decide) (show 30 * 4 ≤ 536870912 by omega) (Nat.le_of_ble_eq_true rfl) (Nat.le_of_ble_eq_true rfl) dX5_init_59 (fun q7 cA7 H hK hP hD hS => ?_)
  have hP : va_P D vwCl [(rd, .inr (5, [.null, .null, .ref q1, .ref q2, .ref q3, .ref q4, .ref q5, .ref q6, .null, .null, .null])), (q1, .inl (cA1, 300, .inl (fun _ => 0))), (q2, .inl (cA2, 300, .inl (fun _ => 0))), (q3, .inl (cA3, 300, .inl (fun _ => 0))), (q4, .inl (cA4, 300, .inl (fun _ => 0))), (q5, .inl (cA5, 30, .inl (fun _ => 0))), (q6, .inl (cA6, 30, .inl (fun _ => 0))), (q7, .inl (cA7, 30, .inl (fun _ => 0)))] H := hP
  have hD : va_D A [(rd, .inr (5, [.null, .null, .ref q1, .ref q2, .ref q3, .ref q4, .ref q5, .ref q6, .null, .null, .null])), (q1, .inl (cA1, 300, .inl (fun _ => 0))), (q2, .inl (cA2, 300, .inl (fun _ => 0))), (q3, .inl (cA3, 300, .inl (fun _ => 0))), (q4, .inl (cA4, 300, .inl (fun _ => 0))), (q5, .inl (cA5, 30, .inl (fun _ => 0))), (q6, .inl (cA6, 30, .inl (fun _ => 0))), (q7, .inl (cA7, 30, .inl (fun _ => 0)))] := hD
  have hK : va_K D vwCl [(cA1, .int), (cA2, .int), (cA3, .int), (cA4, .int), (cA5, .int), (cA6, .int), (cA7, .int)] s := hK
  refine W.widen (k := 7) (n := 1290) (Nat.le_of_ble_eq_true rfl) (Nat.le_of_ble_eq_true rfl) ?_
  refine va_putF (D := D) (ci := 5) (v := .ref q7) (ty := .array .int) (C := RX5) (T := TX5) (N := 11) hx hb hts (fun _ h => List.mem_cons_of_mem _ (List.mem_append_right _ h)) tyX5 tyX5_ok nmX5 hown hK hP hD hS 0 rfl rfl 8 (by decide) (hts (.fieldLink RX5 30 "TalePlay$Roads" "steps" "[I") (by decide +kernel)) (fun _ h9 => h9) rfl hin rfl (by decide +kernel) rfl rfl (Nat.le_of_ble_eq_true rfl) dX5_init_61 (fun H locs hP hD hS => ?_)
  have hP : va_P D vwCl [(rd, .inr (5, [.null, .null, .ref q1, .ref q2, .ref q3, .ref q4, .ref q5, .ref q6, .ref q7, .null, .null])), (q1, .inl (cA1, 300, .inl (fun _ => 0))), (q2, .inl (cA2, 300, .inl (fun _ => 0))), (q3, .inl (cA3, 300, .inl (fun _ => 0))), (q4, .inl (cA4, 300, .inl (fun _ => 0))), (q5, .inl (cA5, 30, .inl (fun _ => 0))), (q6, .inl (cA6, 30, .inl (fun _ => 0))), (q7, .inl (cA7, 30, .inl (fun _ => 0)))] H := hP
  have hD : va_D A [(rd, .inr (5, [.null, .null, .ref q1, .ref q2, .ref q3, .ref q4, .ref q5, .ref q6, .ref q7, .null, .null])), (q1, .inl (cA1, 300, .inl (fun _ => 0))), (q2, .inl (cA2, 300, .inl (fun _ => 0))), (q3, .inl (cA3, 300, .inl (fun _ => 0))), (q4, .inl (cA4, 300, .inl (fun _ => 0))), (q5, .inl (cA5, 30, .inl (fun _ => 0))), (q6, .inl (cA6, 30, .inl (fun _ => 0))), (q7, .inl (cA7, 30, .inl (fun _ => 0)))] := hD
  have hP := hP.sub (ws' := [(rd, .inr (5, [.null, .null, .ref q1, .ref q2, .ref q3, .ref q4, .ref q5, .ref q6, .ref q7, .null, .null])), (q1, .inl (cA1, 300, .inl (fun _ => 0))), (q2, .inl (cA2, 300, .inl (fun _ => 0))), (q3, .inl (cA3, 300, .inl (fun _ => 0))), (q4, .inl (cA4, 300, .inl (fun _ => 0))), (q5, .inl (cA5, 30, .inl (fun _ => 0))), (q6, .inl (cA6, 30, .inl (fun _ => 0)))]) [0, 1, 2, 3, 4, 5, 6] rfl
  have hD := hD.sub (ws' := [(rd, .inr (5, [.null, .null, .ref q1, .ref q2, .ref q3, .ref q4, .ref q5, .ref q6, .ref q7, .null, .null])), (q1, .inl (cA1, 300, .inl (fun _ => 0))), (q2, .inl (cA2, 300, .inl (fun _ => 0))), (q3, .inl (cA3, 300, .inl (fun _ => 0))), (q4, .inl (cA4, 300, .inl (fun _ => 0))), (q5, .inl (cA5, 30, .inl (fun _ => 0))), (q6, .inl (cA6, 30, .inl (fun _ => 0)))]) [0, 1, 2, 3, 4, 5, 6] (by decide) rfl
  have hK := hK.sub (tys' := [(cA1, .int), (cA2, .int), (cA3, .int), (cA4, .int), (cA5, .int), (cA6, .int)]) [0, 1, 2, 3, 4, 5] rfl
  refine lv_aload_n hx hb dX5_init_64 rfl (lv_at hl 0 rfl) ?_
  refine lv_bipush (v := 30) hx hb dX5_init_65 (by decide) ?_
  refine va_newa (atype := .int) (ty := .int) (a0 := (30, .inl (fun _ => 0))) hx hb (hts (.arrayClass .int) (by decide +kernel)) rfl hK hP hD hS hA (fun _ => vp_cell_i _ _ _) (by decide) (N' := 30) (by decide) (show 30 * 4 ≤ 536870912 by omega) (Nat.le_of_ble_eq_true rfl) (Nat.le_of_ble_eq_true rfl) dX5_init_67 (fun q8 cA8 H hK hP hD hS => ?_)
  have hP : va_P D vwCl [(rd, .inr (5, [.null, .null, .ref q1, .ref q2, .ref q3, .ref q4, .ref q5, .ref q6, .ref q7, .null, .null])), (q1, .inl (cA1, 300, .inl (fun _ => 0))), (q2, .inl (cA2, 300, .inl (fun _ => 0))), (q3, .inl (cA3, 300, .inl (fun _ => 0))), (q4, .inl (cA4, 300, .inl (fun _ => 0))), (q5, .inl (cA5, 30, .inl (fun _ => 0))), (q6, .inl (cA6, 30, .inl (fun _ => 0))), (q8, .inl (cA8, 30, .inl (fun _ => 0)))] H := hP
  have hD : va_D A [(rd, .inr (5, [.null, .null, .ref q1, .ref q2, .ref q3, .ref q4, .ref q5, .ref q6, .ref q7, .null, .null])), (q1, .inl (cA1, 300, .inl (fun _ => 0))), (q2, .inl (cA2, 300, .inl (fun _ => 0))), (q3, .inl (cA3, 300, .inl (fun _ => 0))), (q4, .inl (cA4, 300, .inl (fun _ => 0))), (q5, .inl (cA5, 30, .inl (fun _ => 0))), (q6, .inl (cA6, 30, .inl (fun _ => 0))), (q8, .inl (cA8, 30, .inl (fun _ => 0)))] := hD
  have hK : va_K D vwCl [(cA1, .int), (cA2, .int), (cA3, .int), (cA4, .int), (cA5, .int), (cA6, .int), (cA8, .int)] s := hK
  refine W.widen (k := 8) (n := 1320) (Nat.le_of_ble_eq_true rfl) (Nat.le_of_ble_eq_true rfl) ?_
  refine va_putF (D := D) (ci := 5) (v := .ref q8) (ty := .array .int) (C := RX5) (T := TX5) (N := 11) hx hb hts (fun _ h => List.mem_cons_of_mem _ (List.mem_append_right _ h)) tyX5 tyX5_ok nmX5 hown hK hP hD hS 0 rfl rfl 9 (by decide) (hts (.fieldLink RX5 33 "TalePlay$Roads" "firsts" "[I") (by decide +kernel)) (fun _ h9 => h9) rfl hin rfl (by decide +kernel) rfl rfl (Nat.le_of_ble_eq_true rfl) dX5_init_69 (fun H locs hP hD hS => ?_)
  have hP : va_P D vwCl [(rd, .inr (5, [.null, .null, .ref q1, .ref q2, .ref q3, .ref q4, .ref q5, .ref q6, .ref q7, .ref q8, .null])), (q1, .inl (cA1, 300, .inl (fun _ => 0))), (q2, .inl (cA2, 300, .inl (fun _ => 0))), (q3, .inl (cA3, 300, .inl (fun _ => 0))), (q4, .inl (cA4, 300, .inl (fun _ => 0))), (q5, .inl (cA5, 30, .inl (fun _ => 0))), (q6, .inl (cA6, 30, .inl (fun _ => 0))), (q8, .inl (cA8, 30, .inl (fun _ => 0)))] H := hP
  have hD : va_D A [(rd, .inr (5, [.null, .null, .ref q1, .ref q2, .ref q3, .ref q4, .ref q5, .ref q6, .ref q7, .ref q8, .null])), (q1, .inl (cA1, 300, .inl (fun _ => 0))), (q2, .inl (cA2, 300, .inl (fun _ => 0))), (q3, .inl (cA3, 300, .inl (fun _ => 0))), (q4, .inl (cA4, 300, .inl (fun _ => 0))), (q5, .inl (cA5, 30, .inl (fun _ => 0))), (q6, .inl (cA6, 30, .inl (fun _ => 0))), (q8, .inl (cA8, 30, .inl (fun _ => 0)))] := hD
  have hP := hP.sub (ws' := [(rd, .inr (5, [.null, .null, .ref q1, .ref q2, .ref q3, .ref q4, .ref q5, .ref q6, .ref q7, .ref q8, .null])), (q1, .inl (cA1, 300, .inl (fun _ => 0))), (q2, .inl (cA2, 300, .inl (fun _ => 0))), (q3, .inl (cA3, 300, .inl (fun _ => 0))), (q4, .inl (cA4, 300, .inl (fun _ => 0))), (q5, .inl (cA5, 30, .inl (fun _ => 0))), (q6, .inl (cA6, 30, .inl (fun _ => 0)))]) [0, 1, 2, 3, 4, 5, 6] rfl
  have hD := hD.sub (ws' := [(rd, .inr (5, [.null, .null, .ref q1, .ref q2, .ref q3, .ref q4, .ref q5, .ref q6, .ref q7, .ref q8, .null])), (q1, .inl (cA1, 300, .inl (fun _ => 0))), (q2, .inl (cA2, 300, .inl (fun _ => 0))), (q3, .inl (cA3, 300, .inl (fun _ => 0))), (q4, .inl (cA4, 300, .inl (fun _ => 0))), (q5, .inl (cA5, 30, .inl (fun _ => 0))), (q6, .inl (cA6, 30, .inl (fun _ => 0)))]) [0, 1, 2, 3, 4, 5, 6] (by decide) rfl
  have hK := hK.sub (tys' := [(cA1, .int), (cA2, .int), (cA3, .int), (cA4, .int), (cA5, .int), (cA6, .int)]) [0, 1, 2, 3, 4, 5] rfl
  refine lv_aload_n hx hb dX5_init_72 rfl (lv_at hl 0 rfl) ?_
  refine lv_bipush (v := 30) hx hb dX5_init_73 (by decide) ?_
  refine va_newa (atype := .int) (ty := .int) (a0 := (30, .inl (fun _ => 0))) hx hb (hts (.arrayClass .int) (by decide +kernel)) rfl hK hP hD hS hA (fun _ => vp_cell_i _ _ _) (by decide) (N' := 30) (by decide) (show 30 * 4 ≤ 536870912 by omega) (Nat.le_of_ble_eq_true rfl) (Nat.le_of_ble_eq_true rfl) dX5_init_75 (fun q9 cA9 H hK hP hD hS => ?_)
  have hP : va_P D vwCl [(rd, .inr (5, [.null, .null, .ref q1, .ref q2, .ref q3, .ref q4, .ref q5, .ref q6, .ref q7, .ref q8, .null])), (q1, .inl (cA1, 300, .inl (fun _ => 0))), (q2, .inl (cA2, 300, .inl (fun _ => 0))), (q3, .inl (cA3, 300, .inl (fun _ => 0))), (q4, .inl (cA4, 300, .inl (fun _ => 0))), (q5, .inl (cA5, 30, .inl (fun _ => 0))), (q6, .inl (cA6, 30, .inl (fun _ => 0))), (q9, .inl (cA9, 30, .inl (fun _ => 0)))] H := hP
  have hD : va_D A [(rd, .inr (5, [.null, .null, .ref q1, .ref q2, .ref q3, .ref q4, .ref q5, .ref q6, .ref q7, .ref q8, .null])), (q1, .inl (cA1, 300, .inl (fun _ => 0))), (q2, .inl (cA2, 300, .inl (fun _ => 0))), (q3, .inl (cA3, 300, .inl (fun _ => 0))), (q4, .inl (cA4, 300, .inl (fun _ => 0))), (q5, .inl (cA5, 30, .inl (fun _ => 0))), (q6, .inl (cA6, 30, .inl (fun _ => 0))), (q9, .inl (cA9, 30, .inl (fun _ => 0)))] := hD
  have hK : va_K D vwCl [(cA1, .int), (cA2, .int), (cA3, .int), (cA4, .int), (cA5, .int), (cA6, .int), (cA9, .int)] s := hK
  refine W.widen (k := 9) (n := 1350) (Nat.le_of_ble_eq_true rfl) (Nat.le_of_ble_eq_true rfl) ?_
  refine va_putF (D := D) (ci := 5) (v := .ref q9) (ty := .array .int) (C := RX5) (T := TX5) (N := 11) hx hb hts (fun _ h => List.mem_cons_of_mem _ (List.mem_append_right _ h)) tyX5 tyX5_ok nmX5 hown hK hP hD hS 0 rfl rfl 10 (by decide) (hts (.fieldLink RX5 36 "TalePlay$Roads" "queue" "[I") (by decide +kernel)) (fun _ h9 => h9) rfl hin rfl (by decide +kernel) rfl rfl (Nat.le_of_ble_eq_true rfl) dX5_init_77 (fun H locs hP hD hS => ?_)
  have hP : va_P D vwCl [(rd, .inr (5, [.null, .null, .ref q1, .ref q2, .ref q3, .ref q4, .ref q5, .ref q6, .ref q7, .ref q8, .ref q9])), (q1, .inl (cA1, 300, .inl (fun _ => 0))), (q2, .inl (cA2, 300, .inl (fun _ => 0))), (q3, .inl (cA3, 300, .inl (fun _ => 0))), (q4, .inl (cA4, 300, .inl (fun _ => 0))), (q5, .inl (cA5, 30, .inl (fun _ => 0))), (q6, .inl (cA6, 30, .inl (fun _ => 0))), (q9, .inl (cA9, 30, .inl (fun _ => 0)))] H := hP
  have hD : va_D A [(rd, .inr (5, [.null, .null, .ref q1, .ref q2, .ref q3, .ref q4, .ref q5, .ref q6, .ref q7, .ref q8, .ref q9])), (q1, .inl (cA1, 300, .inl (fun _ => 0))), (q2, .inl (cA2, 300, .inl (fun _ => 0))), (q3, .inl (cA3, 300, .inl (fun _ => 0))), (q4, .inl (cA4, 300, .inl (fun _ => 0))), (q5, .inl (cA5, 30, .inl (fun _ => 0))), (q6, .inl (cA6, 30, .inl (fun _ => 0))), (q9, .inl (cA9, 30, .inl (fun _ => 0)))] := hD
  have hP := hP.sub (ws' := [(rd, .inr (5, [.null, .null, .ref q1, .ref q2, .ref q3, .ref q4, .ref q5, .ref q6, .ref q7, .ref q8, .ref q9])), (q1, .inl (cA1, 300, .inl (fun _ => 0))), (q2, .inl (cA2, 300, .inl (fun _ => 0))), (q3, .inl (cA3, 300, .inl (fun _ => 0))), (q4, .inl (cA4, 300, .inl (fun _ => 0))), (q5, .inl (cA5, 30, .inl (fun _ => 0))), (q6, .inl (cA6, 30, .inl (fun _ => 0)))]) [0, 1, 2, 3, 4, 5, 6] rfl
  have hD := hD.sub (ws' := [(rd, .inr (5, [.null, .null, .ref q1, .ref q2, .ref q3, .ref q4, .ref q5, .ref q6, .ref q7, .ref q8, .ref q9])), (q1, .inl (cA1, 300, .inl (fun _ => 0))), (q2, .inl (cA2, 300, .inl (fun _ => 0))), (q3, .inl (cA3, 300, .inl (fun _ => 0))), (q4, .inl (cA4, 300, .inl (fun _ => 0))), (q5, .inl (cA5, 30, .inl (fun _ => 0))), (q6, .inl (cA6, 30, .inl (fun _ => 0)))]) [0, 1, 2, 3, 4, 5, 6] (by decide) rfl
  have hK := hK.sub (tys' := [(cA1, .int), (cA2, .int), (cA3, .int), (cA4, .int), (cA5, .int), (cA6, .int)]) [0, 1, 2, 3, 4, 5] rfl
  refine lv_aload_n hx hb dX5_init_80 rfl (lv_at hl 0 rfl) ?_
  refine lv_aload_n hx hb dX5_init_81 rfl (lv_at hl 1 rfl) ?_
  refine va_putF (D := D) (ci := 5) (v := .ref wo) (ty := .object "TalePlay$World") (C := RX5) (T := TX5) (N := 11) hx hb hts (fun _ h => List.mem_cons_of_mem _ (List.mem_append_right _ h)) tyX5 tyX5_ok nmX5 hown hK hP hD hS 0 rfl rfl 0 (by decide) (hts (.fieldLink RX5 39 "TalePlay$Roads" "world" "LTalePlay$World;") (by decide +kernel)) (fun _ h9 => h9) rfl hin rfl (by decide +kernel) rfl rfl (Nat.le_of_ble_eq_true rfl) dX5_init_82 (fun H locs hP hD hS => ?_)
  have hP : va_P D vwCl [(rd, .inr (5, [.ref wo, .null, .ref q1, .ref q2, .ref q3, .ref q4, .ref q5, .ref q6, .ref q7, .ref q8, .ref q9])), (q1, .inl (cA1, 300, .inl (fun _ => 0))), (q2, .inl (cA2, 300, .inl (fun _ => 0))), (q3, .inl (cA3, 300, .inl (fun _ => 0))), (q4, .inl (cA4, 300, .inl (fun _ => 0))), (q5, .inl (cA5, 30, .inl (fun _ => 0))), (q6, .inl (cA6, 30, .inl (fun _ => 0)))] H := hP
  have hD : va_D A [(rd, .inr (5, [.ref wo, .null, .ref q1, .ref q2, .ref q3, .ref q4, .ref q5, .ref q6, .ref q7, .ref q8, .ref q9])), (q1, .inl (cA1, 300, .inl (fun _ => 0))), (q2, .inl (cA2, 300, .inl (fun _ => 0))), (q3, .inl (cA3, 300, .inl (fun _ => 0))), (q4, .inl (cA4, 300, .inl (fun _ => 0))), (q5, .inl (cA5, 30, .inl (fun _ => 0))), (q6, .inl (cA6, 30, .inl (fun _ => 0)))] := hD
  refine lv_aload_n hx hb dX5_init_85 rfl (lv_at hl 0 rfl) ?_
  refine lv_aload_n hx hb dX5_init_86 rfl (lv_at hl 2 rfl) ?_
  refine va_putF (D := D) (ci := 5) (v := .ref bo) (ty := .object "TalePlay$Book") (C := RX5) (T := TX5) (N := 11) hx hb hts (fun _ h => List.mem_cons_of_mem _ (List.mem_append_right _ h)) tyX5 tyX5_ok nmX5 hown hK hP hD hS 0 rfl rfl 1 (by decide) (hts (.fieldLink RX5 43 "TalePlay$Roads" "book" "LTalePlay$Book;") (by decide +kernel)) (fun _ h9 => h9) rfl hin rfl (by decide +kernel) rfl rfl (Nat.le_of_ble_eq_true rfl) dX5_init_87 (fun H locs hP hD hS => ?_)
  have hP : va_P D vwCl [(rd, .inr (5, [.ref wo, .ref bo, .ref q1, .ref q2, .ref q3, .ref q4, .ref q5, .ref q6, .ref q7, .ref q8, .ref q9])), (q1, .inl (cA1, 300, .inl (fun _ => 0))), (q2, .inl (cA2, 300, .inl (fun _ => 0))), (q3, .inl (cA3, 300, .inl (fun _ => 0))), (q4, .inl (cA4, 300, .inl (fun _ => 0))), (q5, .inl (cA5, 30, .inl (fun _ => 0))), (q6, .inl (cA6, 30, .inl (fun _ => 0)))] H := hP
  have hD : va_D A [(rd, .inr (5, [.ref wo, .ref bo, .ref q1, .ref q2, .ref q3, .ref q4, .ref q5, .ref q6, .ref q7, .ref q8, .ref q9])), (q1, .inl (cA1, 300, .inl (fun _ => 0))), (q2, .inl (cA2, 300, .inl (fun _ => 0))), (q3, .inl (cA3, 300, .inl (fun _ => 0))), (q4, .inl (cA4, 300, .inl (fun _ => 0))), (q5, .inl (cA5, 30, .inl (fun _ => 0))), (q6, .inl (cA6, 30, .inl (fun _ => 0)))] := hD
  refine lv_aload_n hx hb dX5_init_90 rfl (lv_at hl 0 rfl) ?_
  have hPc := hP.sub (ws' := [(rd, .inr (5, [.ref wo, .ref bo, .ref q1, .ref q2, .ref q3, .ref q4, .ref q5, .ref q6, .ref q7, .ref q8, .ref q9])), (q1, .inl (cA1, 300, .inl (fun _ => 0))), (q2, .inl (cA2, 300, .inl (fun _ => 0))), (q3, .inl (cA3, 300, .inl (fun _ => 0))), (q4, .inl (cA4, 300, .inl (fun _ => 0))), (q5, .inl (cA5, 30, .inl (fun _ => 0))), (q6, .inl (cA6, 30, .inl (fun _ => 0)))]) [0, 1, 2, 3, 4, 5, 6] rfl
  have hKc := hK.sub (tys' := [(cA1, .int), (cA2, .int), (cA3, .int), (cA4, .int), (cA5, .int), (cA6, .int)]) [0, 1, 2, 3, 4, 5] rfl
  have hDc := hD.sub (ws' := [(rd, .inr (5, [.ref wo, .ref bo, .ref q1, .ref q2, .ref q3, .ref q4, .ref q5, .ref q6, .ref q7, .ref q8, .ref q9])), (q1, .inl (cA1, 300, .inl (fun _ => 0))), (q2, .inl (cA2, 300, .inl (fun _ => 0))), (q3, .inl (cA3, 300, .inl (fun _ => 0))), (q4, .inl (cA4, 300, .inl (fun _ => 0))), (q5, .inl (cA5, 30, .inl (fun _ => 0))), (q6, .inl (cA6, 30, .inl (fun _ => 0)))]) [0, 1, 2, 3, 4, 5, 6] (by decide) rfl
  refine rw_callv (wr := []) (va_runV (As := []) (rest := []) ⟨hx, hb, hml, hown, hts⟩ (c_X5_wipe l D H.size rd wo bo q1 q2 q3 q4 q5 q6 q7 q8 q9 cA1 (fun _ => 0) cA2 (fun _ => 0) cA3 (fun _ => 0) cA4 (fun _ => 0) cA5 (fun _ => 0) cA6 (fun _ => 0)) (cwV 0 hts gX5_init_X5_wipe rfl rfl rfl (by decide +kernel) ⟨Nat.le_of_ble_eq_true rfl, Nat.le_of_ble_eq_true rfl⟩) (pB_V hKc hPc hDc (ci := 5) (q0 := 0) rfl rfl) rfl rfl hl.1 rfl (lv_room (Nat.le_of_ble_eq_true rfl)) dX5_init_91 ⟨Nat.le_of_ble_eq_true rfl, Nat.le_of_ble_eq_true rfl⟩) hS hA hK hP hD [0, 1, 2, 3, 4, 5, 6] [] rfl rfl (by decide) (by decide) (fun u10 H locs hw10 hK hP hD hS => ?_)
  have hP : va_P D vwCl [] H := hP
  have hD : va_D A [] := hD
  have hK : va_K D vwCl [(cA1, .int), (cA2, .int), (cA3, .int), (cA4, .int), (cA5, .int), (cA6, .int)] s := hK
  exact rw_vret () hx hb hr hlocks hS (hK.sub (tys' := []) [] rfl) (hP.sub (ws' := []) [] rfl) (hD.sub (ws' := []) [] (by decide) rfl) dX5_init_94 trivial

set_option maxHeartbeats 4000000 in
set_option maxRecDepth 100000 in
theorem c_X2_init (l : Launch) (D : va_G) (sz : Nat) (bu : Nat) (u0 : Nat) : Met l yX2_init wsX2_init ({ frames := 1, cells := 1, slots := 100, locals := 24 }) (va_Pc [.ref bu, .ref u0] (pB D sz [(bu, .inr (2, [.null, .null, .int 0, .int 0]))] [])) (va_Qv (fun (_ : Nat) => True) (oC D (va_A [(bu, .inr (2, [.null, .null, .int 0, .int 0]))] sz) (fun u => [(bu, .inr (2, [.ref u0, .ref u, .int 0, .int 0]))]) (fun _ => [])) (va_A [(bu, .inr (2, [.null, .null, .int 0, .int 0]))] sz)) 1 100 (va_A [(bu, .inr (2, [.null, .null, .int 0, .int 0]))] sz) := by
  refine Met.ofW (cc := cX2_init) (maxL := 2) (ret := none) (by decide) rfl ?_
  intro p e s m args below meth c s₁ B hml hv
  obtain ⟨rfl, hsz, hP, hK, hD0⟩ := hv
  have hx := B.exec
  have hb := B.bytes
  have hr := B.returns
  have hts := atoms_spec (ws := wsX2_init) B.pre
  have hown : s.vm.findClass RX2 = some m.cls := findClass_of_methodNamed B.named
  have hlocks := B.notSynchronized
  have hin : meth.name = "<init>" := (name_of_methodNamed B.named B.method).1
  subst hsz
  have hD := hD0.self (sz := s.heap.size)
  generalize hAe : va_A [(bu, .inr (2, [.null, .null, .int 0, .int 0]))] s.heap.size = A at hD ⊢
  have hA : ∀ q : Nat, s.heap.size ≤ q → A q := fun q h => by rw [← hAe]; exact Or.inr h
  have hS : va_S A s.heap s.heap [] := va_S.rf
  have hP : va_P D vwCl [(bu, .inr (2, [.null, .null, .int 0, .int 0]))] s.heap := hP
  have hl := lv_entry ([.ref bu, .ref u0]) (n := 2) (Nat.le_of_ble_eq_true rfl)
  rw [lg_entry_eq]
  generalize (lg_sl ([.ref bu, .ref u0]) ++ List.replicate (2 - (lg_sl ([.ref bu, .ref u0])).length) Slot.unset).toArray = ls at hl ⊢
  have hl : lv_has ls 2 [(0, .ref bu), (1, .ref u0)] := hl
  refine lv_aload_n hx hb dX2_init_0 rfl (lv_at hl 0 rfl) ?_
  refine W.objInit hx hb hown (hts (.methodLink RX2 3 objectInit) (by decide +kernel)) (hts (.instanceMethod objectInit) (by decide +kernel)) (hts (.code objectInit ⟨#[0xb1]⟩ 1 none) (by decide +kernel)) rfl (by rw [hml]; exact hl.1) rfl dX2_init_1 (Nat.le_of_ble_eq_true rfl) (Nat.le_of_ble_eq_true rfl) ?_
  refine W.eq (g2 := F0 m 4 ls []) rfl ?_
  refine lv_aload_n hx hb dX2_init_4 rfl (lv_at hl 0 rfl) ?_
  refine lv_bipush (v := 100) hx hb dX2_init_5 (by decide) ?_
  refine va_newa (atype := .int) (ty := .int) (a0 := (100, .inl (fun _ => 0))) hx hb (hts (.arrayClass .int) (by decide +kernel)) rfl hK hP hD hS hA (fun _ => vp_cell_i _ _ _) (by decide) (N' := 100) (by decide) (show 100 * 4 ≤ 536870912 by omega) (Nat.le_of_ble_eq_true rfl) (Nat.le_of_ble_eq_true rfl) dX2_init_7 (fun q1 cA1 H hK hP hD hS => ?_)
  have hP : va_P D vwCl [(bu, .inr (2, [.null, .null, .int 0, .int 0])), (q1, .inl (cA1, 100, .inl (fun _ => 0)))] H := hP
  have hD : va_D A [(bu, .inr (2, [.null, .null, .int 0, .int 0])), (q1, .inl (cA1, 100, .inl (fun _ => 0)))] := hD
  have hK : va_K D vwCl [(cA1, .int)] s := hK
  refine W.widen (k := 1) (n := 100) (Nat.le_of_ble_eq_true rfl) (Nat.le_of_ble_eq_true rfl) ?_
  refine va_putF (D := D) (ci := 2) (v := .ref q1) (ty := .array .int) (C := RX2) (T := TX2) (N := 4) hx hb hts (fun _ h => List.mem_cons_of_mem _ (List.mem_append_right _ h)) tyX2 tyX2_ok nmX2 hown hK hP hD hS 0 rfl rfl 1 (by decide) (hts (.fieldLink RX2 9 "TalePlay$Bulks" "trace" "[I") (by decide +kernel)) (fun _ h9 => h9) rfl hin rfl (by decide +kernel) rfl rfl (Nat.le_of_ble_eq_true rfl) dX2_init_9 (fun H locs hP hD hS => ?_)
  have hP : va_P D vwCl [(bu, .inr (2, [.null, .ref q1, .int 0, .int 0])), (q1, .inl (cA1, 100, .inl (fun _ => 0)))] H := hP
  have hD : va_D A [(bu, .inr (2, [.null, .ref q1, .int 0, .int 0])), (q1, .inl (cA1, 100, .inl (fun _ => 0)))] := hD
  have hP := hP.sub (ws' := [(bu, .inr (2, [.null, .ref q1, .int 0, .int 0]))]) [0] rfl
  have hD := hD.sub (ws' := [(bu, .inr (2, [.null, .ref q1, .int 0, .int 0]))]) [0] (by decide) rfl
  have hK := hK.sub (tys' := []) [] rfl
  refine lv_aload_n hx hb dX2_init_12 rfl (lv_at hl 0 rfl) ?_
  refine lv_aload_n hx hb dX2_init_13 rfl (lv_at hl 1 rfl) ?_
  refine va_putF (D := D) (ci := 2) (v := .ref u0) (ty := .object "TalePlay$World") (C := RX2) (T := TX2) (N := 4) hx hb hts (fun _ h => List.mem_cons_of_mem _ (List.mem_append_right _ h)) tyX2 tyX2_ok nmX2 hown hK hP hD hS 0 rfl rfl 0 (by decide) (hts (.fieldLink RX2 15 "TalePlay$Bulks" "world" "LTalePlay$World;") (by decide +kernel)) (fun _ h9 => h9) rfl hin rfl (by decide +kernel) rfl rfl (Nat.le_of_ble_eq_true rfl) dX2_init_14 (fun H locs hP hD hS => ?_)
  have hP : va_P D vwCl [(bu, .inr (2, [.ref u0, .ref q1, .int 0, .int 0]))] H := hP
  have hD : va_D A [(bu, .inr (2, [.ref u0, .ref q1, .int 0, .int 0]))] := hD
  exact rw_vret (q1) hx hb hr hlocks hS (hK.sub (tys' := []) [] rfl) (hP.sub (ws' := [(bu, .inr (2, [.ref u0, .ref q1, .int 0, .int 0]))]) [0] rfl) (hD.sub (ws' := [(bu, .inr (2, [.ref u0, .ref q1, .int 0, .int 0]))]) [0] (by decide) rfl) dX2_init_17 trivial

set_option maxHeartbeats 4000000 in
set_option maxRecDepth 100000 in
theorem c_X8_init (l : Launch) (D : va_G) (sz : Nat) (si : Nat) (wo : Nat) (rd : Nat) (sc : Nat) : Met l yX8_init wsX8_init ({ frames := 1, cells := 2, slots := 60, locals := 24 }) (va_Pc [.ref si, .ref wo, .ref rd, .ref sc] (pB D sz [(si, .inr (8, [.null, .null, .null, .null, .null, .int 0]))] [])) (va_Qv (fun (_ : Nat × Nat) => True) (oC D (va_A [(si, .inr (8, [.null, .null, .null, .null, .null, .int 0]))] sz) (fun u => [(si, .inr (8, [.ref wo, .ref rd, .ref sc, .ref u.1, .ref u.2, .int 0]))]) (fun _ => [])) (va_A [(si, .inr (8, [.null, .null, .null, .null, .null, .int 0]))] sz)) 2 60 (va_A [(si, .inr (8, [.null, .null, .null, .null, .null, .int 0]))] sz) := by
  refine Met.ofW (cc := cX8_init) (maxL := 4) (ret := none) (by decide) rfl ?_
  intro p e s m args below meth c s₁ B hml hv
  obtain ⟨rfl, hsz, hP, hK, hD0⟩ := hv
  have hx := B.exec
  have hb := B.bytes
  have hr := B.returns
  have hts := atoms_spec (ws := wsX8_init) B.pre
  have hown : s.vm.findClass RX8 = some m.cls := findClass_of_methodNamed B.named
  have hlocks := B.notSynchronized
  have hin : meth.name = "<init>" := (name_of_methodNamed B.named B.method).1
  subst hsz
  have hD := hD0.self (sz := s.heap.size)
  generalize hAe : va_A [(si, .inr (8, [.null, .null, .null, .null, .null, .int 0]))] s.heap.size = A at hD ⊢
  have hA : ∀ q : Nat, s.heap.size ≤ q → A q := fun q h => by rw [← hAe]; exact Or.inr h
  have hS : va_S A s.heap s.heap [] := va_S.rf
  have hP : va_P D vwCl [(si, .inr (8, [.null, .null, .null, .null, .null, .int 0]))] s.heap := hP
  have hl := lv_entry ([.ref si, .ref wo, .ref rd, .ref sc]) (n := 4) (Nat.le_of_ble_eq_true rfl)
  rw [lg_entry_eq]
  generalize (lg_sl ([.ref si, .ref wo, .ref rd, .ref sc]) ++ List.replicate (4 - (lg_sl ([.ref si, .ref wo, .ref rd, .ref sc])).length) Slot.unset).toArray = ls at hl ⊢
  have hl : lv_has ls 4 [(0, .ref si), (1, .ref wo), (2, .ref rd), (3, .ref sc)] := hl
  refine lv_aload_n hx hb dX8_init_0 rfl (lv_at hl 0 rfl) ?_
  refine W.objInit hx hb hown (hts (.methodLink RX8 3 objectInit) (by decide +kernel)) (hts (.instanceMethod objectInit) (by decide +kernel)) (hts (.code objectInit ⟨#[0xb1]⟩ 1 none) (by decide +kernel)) rfl (by rw [hml]; exact hl.1) rfl dX8_init_1 (Nat.le_of_ble_eq_true rfl) (Nat.le_of_ble_eq_true rfl) ?_
  refine W.eq (g2 := F0 m 4 ls []) rfl ?_
  refine lv_aload_n hx hb dX8_init_4 rfl (lv_at hl 0 rfl) ?_
  refine lv_bipush (v := 30) hx hb dX8_init_5 (by decide) ?_
  refine va_newa (atype := .boolean) (ty := .boolean) (a0 := (30, .inl (fun _ => 0))) hx hb (hts (.arrayClass .boolean) (by decide +kernel)) rfl hK hP hD hS hA (fun _ => vp_cell_i _ _ _) (by decide) (N' := 30) (by decide) (show 30 * 1 ≤ 536870912 by omega) (Nat.le_of_ble_eq_true rfl) (Nat.le_of_ble_eq_true rfl) dX8_init_7 (fun q1 cA1 H hK hP hD hS => ?_)
  have hP : va_P D vwCl [(si, .inr (8, [.null, .null, .null, .null, .null, .int 0])), (q1, .inl (cA1, 30, .inl (fun _ => 0)))] H := hP
  have hD : va_D A [(si, .inr (8, [.null, .null, .null, .null, .null, .int 0])), (q1, .inl (cA1, 30, .inl (fun _ => 0)))] := hD
  have hK : va_K D vwCl [(cA1, .boolean)] s := hK
  refine W.widen (k := 1) (n := 30) (Nat.le_of_ble_eq_true rfl) (Nat.le_of_ble_eq_true rfl) ?_
  refine va_putF (D := D) (ci := 8) (v := .ref q1) (ty := .array .boolean) (C := RX8) (T := TX8) (N := 6) hx hb hts (fun _ h => List.mem_cons_of_mem _ (List.mem_append_right _ h)) tyX8 tyX8_ok nmX8 hown hK hP hD hS 0 rfl rfl 3 (by decide) (hts (.fieldLink RX8 9 "TalePlay$Sight" "seen" "[Z") (by decide +kernel)) (fun _ h9 => h9) rfl hin rfl (by decide +kernel) rfl rfl (Nat.le_of_ble_eq_true rfl) dX8_init_9 (fun H locs hP hD hS => ?_)
  have hP : va_P D vwCl [(si, .inr (8, [.null, .null, .null, .ref q1, .null, .int 0])), (q1, .inl (cA1, 30, .inl (fun _ => 0)))] H := hP
  have hD : va_D A [(si, .inr (8, [.null, .null, .null, .ref q1, .null, .int 0])), (q1, .inl (cA1, 30, .inl (fun _ => 0)))] := hD
  have hP := hP.sub (ws' := [(si, .inr (8, [.null, .null, .null, .ref q1, .null, .int 0]))]) [0] rfl
  have hD := hD.sub (ws' := [(si, .inr (8, [.null, .null, .null, .ref q1, .null, .int 0]))]) [0] (by decide) rfl
  have hK := hK.sub (tys' := []) [] rfl
  refine lv_aload_n hx hb dX8_init_12 rfl (lv_at hl 0 rfl) ?_
  refine lv_bipush (v := 30) hx hb dX8_init_13 (by decide) ?_
  refine va_newa (atype := .boolean) (ty := .boolean) (a0 := (30, .inl (fun _ => 0))) hx hb (hts (.arrayClass .boolean) (by decide +kernel)) rfl hK hP hD hS hA (fun _ => vp_cell_i _ _ _) (by decide) (N' := 30) (by decide) (show 30 * 1 ≤ 536870912 by omega) (Nat.le_of_ble_eq_true rfl) (Nat.le_of_ble_eq_true rfl) dX8_init_15 (fun q2 cA2 H hK hP hD hS => ?_)
  have hP : va_P D vwCl [(si, .inr (8, [.null, .null, .null, .ref q1, .null, .int 0])), (q2, .inl (cA2, 30, .inl (fun _ => 0)))] H := hP
  have hD : va_D A [(si, .inr (8, [.null, .null, .null, .ref q1, .null, .int 0])), (q2, .inl (cA2, 30, .inl (fun _ => 0)))] := hD
  have hK : va_K D vwCl [(cA2, .boolean)] s := hK
  refine W.widen (k := 2) (n := 60) (Nat.le_of_ble_eq_true rfl) (Nat.le_of_ble_eq_true rfl) ?_
  refine va_putF (D := D) (ci := 8) (v := .ref q2) (ty := .array .boolean) (C := RX8) (T := TX8) (N := 6) hx hb hts (fun _ h => List.mem_cons_of_mem _ (List.mem_append_right _ h)) tyX8 tyX8_ok nmX8 hown hK hP hD hS 0 rfl rfl 4 (by decide) (hts (.fieldLink RX8 15 "TalePlay$Sight" "reached" "[Z") (by decide +kernel)) (fun _ h9 => h9) rfl hin rfl (by decide +kernel) rfl rfl (Nat.le_of_ble_eq_true rfl) dX8_init_17 (fun H locs hP hD hS => ?_)
  have hP : va_P D vwCl [(si, .inr (8, [.null, .null, .null, .ref q1, .ref q2, .int 0])), (q2, .inl (cA2, 30, .inl (fun _ => 0)))] H := hP
  have hD : va_D A [(si, .inr (8, [.null, .null, .null, .ref q1, .ref q2, .int 0])), (q2, .inl (cA2, 30, .inl (fun _ => 0)))] := hD
  have hP := hP.sub (ws' := [(si, .inr (8, [.null, .null, .null, .ref q1, .ref q2, .int 0]))]) [0] rfl
  have hD := hD.sub (ws' := [(si, .inr (8, [.null, .null, .null, .ref q1, .ref q2, .int 0]))]) [0] (by decide) rfl
  have hK := hK.sub (tys' := []) [] rfl
  refine lv_aload_n hx hb dX8_init_20 rfl (lv_at hl 0 rfl) ?_
  refine lv_aload_n hx hb dX8_init_21 rfl (lv_at hl 1 rfl) ?_
  refine va_putF (D := D) (ci := 8) (v := .ref wo) (ty := .object "TalePlay$World") (C := RX8) (T := TX8) (N := 6) hx hb hts (fun _ h => List.mem_cons_of_mem _ (List.mem_append_right _ h)) tyX8 tyX8_ok nmX8 hown hK hP hD hS 0 rfl rfl 0 (by decide) (hts (.fieldLink RX8 18 "TalePlay$Sight" "world" "LTalePlay$World;") (by decide +kernel)) (fun _ h9 => h9) rfl hin rfl (by decide +kernel) rfl rfl (Nat.le_of_ble_eq_true rfl) dX8_init_22 (fun H locs hP hD hS => ?_)
  have hP : va_P D vwCl [(si, .inr (8, [.ref wo, .null, .null, .ref q1, .ref q2, .int 0]))] H := hP
  have hD : va_D A [(si, .inr (8, [.ref wo, .null, .null, .ref q1, .ref q2, .int 0]))] := hD
  refine lv_aload_n hx hb dX8_init_25 rfl (lv_at hl 0 rfl) ?_
  refine lv_aload_n hx hb dX8_init_26 rfl (lv_at hl 2 rfl) ?_
  refine va_putF (D := D) (ci := 8) (v := .ref rd) (ty := .object "TalePlay$Roads") (C := RX8) (T := TX8) (N := 6) hx hb hts (fun _ h => List.mem_cons_of_mem _ (List.mem_append_right _ h)) tyX8 tyX8_ok nmX8 hown hK hP hD hS 0 rfl rfl 1 (by decide) (hts (.fieldLink RX8 22 "TalePlay$Sight" "roads" "LTalePlay$Roads;") (by decide +kernel)) (fun _ h9 => h9) rfl hin rfl (by decide +kernel) rfl rfl (Nat.le_of_ble_eq_true rfl) dX8_init_27 (fun H locs hP hD hS => ?_)
  have hP : va_P D vwCl [(si, .inr (8, [.ref wo, .ref rd, .null, .ref q1, .ref q2, .int 0]))] H := hP
  have hD : va_D A [(si, .inr (8, [.ref wo, .ref rd, .null, .ref q1, .ref q2, .int 0]))] := hD
  refine lv_aload_n hx hb dX8_init_30 rfl (lv_at hl 0 rfl) ?_
  refine lv_aload_n hx hb dX8_init_31 rfl (lv_at hl 3 rfl) ?_
  refine va_putF (D := D) (ci := 8) (v := .ref sc) (ty := .object "TalePlay$Scene") (C := RX8) (T := TX8) (N := 6) hx hb hts (fun _ h => List.mem_cons_of_mem _ (List.mem_append_right _ h)) tyX8 tyX8_ok nmX8 hown hK hP hD hS 0 rfl rfl 2 (by decide) (hts (.fieldLink RX8 26 "TalePlay$Sight" "scene" "LTalePlay$Scene;") (by decide +kernel)) (fun _ h9 => h9) rfl hin rfl (by decide +kernel) rfl rfl (Nat.le_of_ble_eq_true rfl) dX8_init_32 (fun H locs hP hD hS => ?_)
  have hP : va_P D vwCl [(si, .inr (8, [.ref wo, .ref rd, .ref sc, .ref q1, .ref q2, .int 0]))] H := hP
  have hD : va_D A [(si, .inr (8, [.ref wo, .ref rd, .ref sc, .ref q1, .ref q2, .int 0]))] := hD
  exact rw_vret (q1, q2) hx hb hr hlocks hS (hK.sub (tys' := []) [] rfl) (hP.sub (ws' := [(si, .inr (8, [.ref wo, .ref rd, .ref sc, .ref q1, .ref q2, .int 0]))]) [0] rfl) (hD.sub (ws' := [(si, .inr (8, [.ref wo, .ref rd, .ref sc, .ref q1, .ref q2, .int 0]))]) [0] (by decide) rfl) dX8_init_35 trivial

set_option maxHeartbeats 4000000 in
set_option maxRecDepth 100000 in
theorem c_X0_init (l : Launch) (D : va_G) (sz : Nat) (ac : Nat) (si : Nat) (wo : Nat) (rd : Nat) (sc : Nat) (i0 : Nat) (i1 : Nat) (bo : Nat) (bu : Nat) : Met l yX0_init wsX0_init ({ frames := 1, cells := 0, slots := 0, locals := 24 }) (va_Pc [.ref ac, .ref wo, .ref bo, .ref rd, .ref bu, .ref si] (pB D sz [(ac, .inr (0, [.null, .null, .null, .null, .null, .null, .int 0])), (si, .inr (8, [.ref wo, .ref rd, .ref sc, .ref i0, .ref i1, .int 0]))] [])) (va_Qv (fun (_ : Unit) => True) (oC D (va_A [(ac, .inr (0, [.null, .null, .null, .null, .null, .null, .int 0])), (si, .inr (8, [.ref wo, .ref rd, .ref sc, .ref i0, .ref i1, .int 0]))] sz) (fun _ => []) (fun _ => [])) (va_A [(ac, .inr (0, [.null, .null, .null, .null, .null, .null, .int 0])), (si, .inr (8, [.ref wo, .ref rd, .ref sc, .ref i0, .ref i1, .int 0]))] sz)) 0 0 (va_A [(ac, .inr (0, [.null, .null, .null, .null, .null, .null, .int 0])), (si, .inr (8, [.ref wo, .ref rd, .ref sc, .ref i0, .ref i1, .int 0]))] sz) := by
  refine Met.ofW (cc := cX0_init) (maxL := 6) (ret := none) (by decide) rfl ?_
  intro p e s m args below meth c s₁ B hml hv
  obtain ⟨rfl, hsz, hP, hK, hD0⟩ := hv
  have hx := B.exec
  have hb := B.bytes
  have hr := B.returns
  have hts := atoms_spec (ws := wsX0_init) B.pre
  have hown : s.vm.findClass RX0 = some m.cls := findClass_of_methodNamed B.named
  have hlocks := B.notSynchronized
  have hin : meth.name = "<init>" := (name_of_methodNamed B.named B.method).1
  subst hsz
  have hD := hD0.self (sz := s.heap.size)
  generalize hAe : va_A [(ac, .inr (0, [.null, .null, .null, .null, .null, .null, .int 0])), (si, .inr (8, [.ref wo, .ref rd, .ref sc, .ref i0, .ref i1, .int 0]))] s.heap.size = A at hD ⊢
  have hA : ∀ q : Nat, s.heap.size ≤ q → A q := fun q h => by rw [← hAe]; exact Or.inr h
  have hS : va_S A s.heap s.heap [] := va_S.rf
  have hP : va_P D vwCl [(ac, .inr (0, [.null, .null, .null, .null, .null, .null, .int 0])), (si, .inr (8, [.ref wo, .ref rd, .ref sc, .ref i0, .ref i1, .int 0]))] s.heap := hP
  have hl := lv_entry ([.ref ac, .ref wo, .ref bo, .ref rd, .ref bu, .ref si]) (n := 6) (Nat.le_of_ble_eq_true rfl)
  rw [lg_entry_eq]
  generalize (lg_sl ([.ref ac, .ref wo, .ref bo, .ref rd, .ref bu, .ref si]) ++ List.replicate (6 - (lg_sl ([.ref ac, .ref wo, .ref bo, .ref rd, .ref bu, .ref si])).length) Slot.unset).toArray = ls at hl ⊢
  have hl : lv_has ls 6 [(0, .ref ac), (1, .ref wo), (2, .ref bo), (3, .ref rd), (4, .ref bu), (5, .ref si)] := hl
  refine lv_aload_n hx hb dX0_init_0 rfl (lv_at hl 0 rfl) ?_
  refine W.objInit hx hb hown (hts (.methodLink RX0 3 objectInit) (by decide +kernel)) (hts (.instanceMethod objectInit) (by decide +kernel)) (hts (.code objectInit ⟨#[0xb1]⟩ 1 none) (by decide +kernel)) rfl (by rw [hml]; exact hl.1) rfl dX0_init_1 (Nat.le_of_ble_eq_true rfl) (Nat.le_of_ble_eq_true rfl) ?_
  refine W.eq (g2 := F0 m 4 ls []) rfl ?_
  refine lv_aload_n hx hb dX0_init_4 rfl (lv_at hl 0 rfl) ?_
  refine lv_aload_n hx hb dX0_init_5 rfl (lv_at hl 1 rfl) ?_
  refine va_putF (D := D) (ci := 0) (v := .ref wo) (ty := .object "TalePlay$World") (C := RX0) (T := TX0) (N := 7) hx hb hts (fun _ h => List.mem_cons_of_mem _ (List.mem_append_left _ (List.mem_append_right _ h))) tyX0 tyX0_ok nmX0 hown hK hP hD hS 0 rfl rfl 0 (by decide) (hts (.fieldLink RX0 9 "TalePlay$Acts" "world" "LTalePlay$World;") (by decide +kernel)) (fun _ h9 => h9) rfl hin rfl (by decide +kernel) rfl rfl (Nat.le_of_ble_eq_true rfl) dX0_init_6 (fun H locs hP hD hS => ?_)
  have hP : va_P D vwCl [(ac, .inr (0, [.ref wo, .null, .null, .null, .null, .null, .int 0])), (si, .inr (8, [.ref wo, .ref rd, .ref sc, .ref i0, .ref i1, .int 0]))] H := hP
  have hD : va_D A [(ac, .inr (0, [.ref wo, .null, .null, .null, .null, .null, .int 0])), (si, .inr (8, [.ref wo, .ref rd, .ref sc, .ref i0, .ref i1, .int 0]))] := hD
  refine lv_aload_n hx hb dX0_init_9 rfl (lv_at hl 0 rfl) ?_
  refine lv_aload_n hx hb dX0_init_10 rfl (lv_at hl 2 rfl) ?_
  refine va_putF (D := D) (ci := 0) (v := .ref bo) (ty := .object "TalePlay$Book") (C := RX0) (T := TX0) (N := 7) hx hb hts (fun _ h => List.mem_cons_of_mem _ (List.mem_append_left _ (List.mem_append_right _ h))) tyX0 tyX0_ok nmX0 hown hK hP hD hS 0 rfl rfl 1 (by decide) (hts (.fieldLink RX0 15 "TalePlay$Acts" "book" "LTalePlay$Book;") (by decide +kernel)) (fun _ h9 => h9) rfl hin rfl (by decide +kernel) rfl rfl (Nat.le_of_ble_eq_true rfl) dX0_init_11 (fun H locs hP hD hS => ?_)
  have hP : va_P D vwCl [(ac, .inr (0, [.ref wo, .ref bo, .null, .null, .null, .null, .int 0])), (si, .inr (8, [.ref wo, .ref rd, .ref sc, .ref i0, .ref i1, .int 0]))] H := hP
  have hD : va_D A [(ac, .inr (0, [.ref wo, .ref bo, .null, .null, .null, .null, .int 0])), (si, .inr (8, [.ref wo, .ref rd, .ref sc, .ref i0, .ref i1, .int 0]))] := hD
  refine lv_aload_n hx hb dX0_init_14 rfl (lv_at hl 0 rfl) ?_
  refine lv_aload_n hx hb dX0_init_15 rfl (lv_at hl 3 rfl) ?_
  refine va_putF (D := D) (ci := 0) (v := .ref rd) (ty := .object "TalePlay$Roads") (C := RX0) (T := TX0) (N := 7) hx hb hts (fun _ h => List.mem_cons_of_mem _ (List.mem_append_left _ (List.mem_append_right _ h))) tyX0 tyX0_ok nmX0 hown hK hP hD hS 0 rfl rfl 2 (by decide) (hts (.fieldLink RX0 19 "TalePlay$Acts" "roads" "LTalePlay$Roads;") (by decide +kernel)) (fun _ h9 => h9) rfl hin rfl (by decide +kernel) rfl rfl (Nat.le_of_ble_eq_true rfl) dX0_init_16 (fun H locs hP hD hS => ?_)
  have hP : va_P D vwCl [(ac, .inr (0, [.ref wo, .ref bo, .ref rd, .null, .null, .null, .int 0])), (si, .inr (8, [.ref wo, .ref rd, .ref sc, .ref i0, .ref i1, .int 0]))] H := hP
  have hD : va_D A [(ac, .inr (0, [.ref wo, .ref bo, .ref rd, .null, .null, .null, .int 0])), (si, .inr (8, [.ref wo, .ref rd, .ref sc, .ref i0, .ref i1, .int 0]))] := hD
  refine lv_aload_n hx hb dX0_init_19 rfl (lv_at hl 0 rfl) ?_
  refine lv_aload hx hb dX0_init_20 (lv_at hl 4 rfl) ?_
  refine va_putF (D := D) (ci := 0) (v := .ref bu) (ty := .object "TalePlay$Bulks") (C := RX0) (T := TX0) (N := 7) hx hb hts (fun _ h => List.mem_cons_of_mem _ (List.mem_append_left _ (List.mem_append_right _ h))) tyX0 tyX0_ok nmX0 hown hK hP hD hS 0 rfl rfl 3 (by decide) (hts (.fieldLink RX0 23 "TalePlay$Acts" "bulks" "LTalePlay$Bulks;") (by decide +kernel)) (fun _ h9 => h9) rfl hin rfl (by decide +kernel) rfl rfl (Nat.le_of_ble_eq_true rfl) dX0_init_22 (fun H locs hP hD hS => ?_)
  have hP : va_P D vwCl [(ac, .inr (0, [.ref wo, .ref bo, .ref rd, .ref bu, .null, .null, .int 0])), (si, .inr (8, [.ref wo, .ref rd, .ref sc, .ref i0, .ref i1, .int 0]))] H := hP
  have hD : va_D A [(ac, .inr (0, [.ref wo, .ref bo, .ref rd, .ref bu, .null, .null, .int 0])), (si, .inr (8, [.ref wo, .ref rd, .ref sc, .ref i0, .ref i1, .int 0]))] := hD
  refine lv_aload_n hx hb dX0_init_25 rfl (lv_at hl 0 rfl) ?_
  refine lv_aload hx hb dX0_init_26 (lv_at hl 5 rfl) ?_
  refine va_get (D := D) (ci := 8) (v := .ref sc) (C := RX8) (T := TX8) (N := 6) hx hb hts (fun _ h => List.mem_cons_of_mem _ (List.mem_append_right _ h)) hown hK hP 1 rfl rfl 2 (by decide) (hts (.fieldLink RX0 27 "TalePlay$Sight" "scene" "LTalePlay$Scene;") (by decide +kernel)) (fun _ h9 => h9) rfl dX0_init_28 ?_
  refine va_putF (D := D) (ci := 0) (v := .ref sc) (ty := .object "TalePlay$Scene") (C := RX0) (T := TX0) (N := 7) hx hb hts (fun _ h => List.mem_cons_of_mem _ (List.mem_append_left _ (List.mem_append_right _ h))) tyX0 tyX0_ok nmX0 hown hK hP hD hS 0 rfl rfl 4 (by decide) (hts (.fieldLink RX0 33 "TalePlay$Acts" "scene" "LTalePlay$Scene;") (by decide +kernel)) (fun _ h9 => h9) rfl hin rfl (by decide +kernel) rfl rfl (Nat.le_of_ble_eq_true rfl) dX0_init_31 (fun H locs hP hD hS => ?_)
  have hP : va_P D vwCl [(ac, .inr (0, [.ref wo, .ref bo, .ref rd, .ref bu, .ref sc, .null, .int 0])), (si, .inr (8, [.ref wo, .ref rd, .ref sc, .ref i0, .ref i1, .int 0]))] H := hP
  have hD : va_D A [(ac, .inr (0, [.ref wo, .ref bo, .ref rd, .ref bu, .ref sc, .null, .int 0])), (si, .inr (8, [.ref wo, .ref rd, .ref sc, .ref i0, .ref i1, .int 0]))] := hD
  refine lv_aload_n hx hb dX0_init_34 rfl (lv_at hl 0 rfl) ?_
  refine lv_aload hx hb dX0_init_35 (lv_at hl 5 rfl) ?_
  refine va_putF (D := D) (ci := 0) (v := .ref si) (ty := .object "TalePlay$Sight") (C := RX0) (T := TX0) (N := 7) hx hb hts (fun _ h => List.mem_cons_of_mem _ (List.mem_append_left _ (List.mem_append_right _ h))) tyX0 tyX0_ok nmX0 hown hK hP hD hS 0 rfl rfl 5 (by decide) (hts (.fieldLink RX0 34 "TalePlay$Acts" "sight" "LTalePlay$Sight;") (by decide +kernel)) (fun _ h9 => h9) rfl hin rfl (by decide +kernel) rfl rfl (Nat.le_of_ble_eq_true rfl) dX0_init_37 (fun H locs hP hD hS => ?_)
  have hP : va_P D vwCl [(ac, .inr (0, [.ref wo, .ref bo, .ref rd, .ref bu, .ref sc, .ref si, .int 0])), (si, .inr (8, [.ref wo, .ref rd, .ref sc, .ref i0, .ref i1, .int 0]))] H := hP
  have hD : va_D A [(ac, .inr (0, [.ref wo, .ref bo, .ref rd, .ref bu, .ref sc, .ref si, .int 0])), (si, .inr (8, [.ref wo, .ref rd, .ref sc, .ref i0, .ref i1, .int 0]))] := hD
  refine lv_aload_n hx hb dX0_init_40 rfl (lv_at hl 0 rfl) ?_
  refine lv_bipush (v := (-9)) hx hb dX0_init_41 (by decide) ?_
  refine va_put (D := D) (ci := 0) (v := .int (-9)) (ty := .int) (C := RX0) (T := TX0) (N := 7) hx hb hts (fun _ h => List.mem_cons_of_mem _ (List.mem_append_left _ (List.mem_append_right _ h))) tyX0 tyX0_ok nmX0 hown hK hP hD hS 0 rfl rfl 6 (by decide) (hts (.fieldLink RX0 38 "TalePlay$Acts" "player" "I") (by decide +kernel)) (fun _ h9 => h9) rfl (by decide +kernel) rfl rfl (Nat.le_of_ble_eq_true rfl) dX0_init_43 (fun H locs hP hD hS => ?_)
  have hP : va_P D vwCl [(ac, .inr (0, [.ref wo, .ref bo, .ref rd, .ref bu, .ref sc, .ref si, .int (-9)])), (si, .inr (8, [.ref wo, .ref rd, .ref sc, .ref i0, .ref i1, .int 0]))] H := hP
  have hD : va_D A [(ac, .inr (0, [.ref wo, .ref bo, .ref rd, .ref bu, .ref sc, .ref si, .int (-9)])), (si, .inr (8, [.ref wo, .ref rd, .ref sc, .ref i0, .ref i1, .int 0]))] := hD
  exact rw_vret () hx hb hr hlocks hS (hK.sub (tys' := []) [] rfl) (hP.sub (ws' := []) [] rfl) (hD.sub (ws' := []) [] (by decide) rfl) dX0_init_46 trivial

set_option maxHeartbeats 4000000 in
set_option maxRecDepth 100000 in
theorem c_X9_init (l : Launch) (D : va_G) (sz : Nat) (ta : Nat) (wo : Nat) (bo : Nat) (rd : Nat) (bu : Nat) : Met l yX9_init wsX9_init ({ frames := 2, cells := 9, slots := 405, locals := 49 }) (va_Pc [.ref ta, .ref wo, .ref bo, .ref rd, .ref bu] (pB D sz [(ta, .inr (9, [.null, .null, .null, .null, .null, .null, .null, .null, .int 0, .int 0, .int 0]))] [])) (va_Qv (fun (_ : Nat × Nat × Nat × Nat × Nat × Nat) => True) (oC D (va_A [(ta, .inr (9, [.null, .null, .null, .null, .null, .null, .null, .null, .int 0, .int 0, .int 0]))] sz) (fun u => [(ta, .inr (9, [.ref wo, .ref bo, .ref u.1, .ref u.2.1, .ref u.2.2.1, .ref u.2.2.2.1, .ref u.2.2.2.2.1, .ref u.2.2.2.2.2, .int 0, .int (-9), .int 0]))]) (fun _ => [])) (va_A [(ta, .inr (9, [.null, .null, .null, .null, .null, .null, .null, .null, .int 0, .int 0, .int 0]))] sz)) 9 405 (va_A [(ta, .inr (9, [.null, .null, .null, .null, .null, .null, .null, .null, .int 0, .int 0, .int 0]))] sz) := by
  refine Met.ofW (cc := cX9_init) (maxL := 5) (ret := none) (by decide) rfl ?_
  intro p e s m args below meth c s₁ B hml hv
  obtain ⟨rfl, hsz, hP, hK, hD0⟩ := hv
  have hx := B.exec
  have hb := B.bytes
  have hr := B.returns
  have hts := atoms_spec (ws := wsX9_init) B.pre
  have hown : s.vm.findClass RX9 = some m.cls := findClass_of_methodNamed B.named
  have hlocks := B.notSynchronized
  have hin : meth.name = "<init>" := (name_of_methodNamed B.named B.method).1
  subst hsz
  have hD := hD0.self (sz := s.heap.size)
  generalize hAe : va_A [(ta, .inr (9, [.null, .null, .null, .null, .null, .null, .null, .null, .int 0, .int 0, .int 0]))] s.heap.size = A at hD ⊢
  have hA : ∀ q : Nat, s.heap.size ≤ q → A q := fun q h => by rw [← hAe]; exact Or.inr h
  have hS : va_S A s.heap s.heap [] := va_S.rf
  have hP : va_P D vwCl [(ta, .inr (9, [.null, .null, .null, .null, .null, .null, .null, .null, .int 0, .int 0, .int 0]))] s.heap := hP
  have hl := lv_entry ([.ref ta, .ref wo, .ref bo, .ref rd, .ref bu]) (n := 5) (Nat.le_of_ble_eq_true rfl)
  rw [lg_entry_eq]
  generalize (lg_sl ([.ref ta, .ref wo, .ref bo, .ref rd, .ref bu]) ++ List.replicate (5 - (lg_sl ([.ref ta, .ref wo, .ref bo, .ref rd, .ref bu])).length) Slot.unset).toArray = ls at hl ⊢
  have hl : lv_has ls 5 [(0, .ref ta), (1, .ref wo), (2, .ref bo), (3, .ref rd), (4, .ref bu)] := hl
  refine lv_aload_n hx hb dX9_init_0 rfl (lv_at hl 0 rfl) ?_
  refine W.objInit hx hb hown (hts (.methodLink RX9 3 objectInit) (by decide +kernel)) (hts (.instanceMethod objectInit) (by decide +kernel)) (hts (.code objectInit ⟨#[0xb1]⟩ 1 none) (by decide +kernel)) rfl (by rw [hml]; exact hl.1) rfl dX9_init_1 (Nat.le_of_ble_eq_true rfl) (Nat.le_of_ble_eq_true rfl) ?_
  refine W.eq (g2 := F0 m 4 ls []) rfl ?_
  refine lv_aload_n hx hb dX9_init_4 rfl (lv_at hl 0 rfl) ?_
  refine lv_bipush (v := 100) hx hb dX9_init_5 (by decide) ?_
  refine va_newa (atype := .int) (ty := .int) (a0 := (100, .inl (fun _ => 0))) hx hb (hts (.arrayClass .int) (by decide +kernel)) rfl hK hP hD hS hA (fun _ => vp_cell_i _ _ _) (by decide) (N' := 100) (by decide) (show 100 * 4 ≤ 536870912 by omega) (Nat.le_of_ble_eq_true rfl) (Nat.le_of_ble_eq_true rfl) dX9_init_7 (fun q1 cA1 H hK hP hD hS => ?_)
  have hP : va_P D vwCl [(ta, .inr (9, [.null, .null, .null, .null, .null, .null, .null, .null, .int 0, .int 0, .int 0])), (q1, .inl (cA1, 100, .inl (fun _ => 0)))] H := hP
  have hD : va_D A [(ta, .inr (9, [.null, .null, .null, .null, .null, .null, .null, .null, .int 0, .int 0, .int 0])), (q1, .inl (cA1, 100, .inl (fun _ => 0)))] := hD
  have hK : va_K D vwCl [(cA1, .int)] s := hK
  refine W.widen (k := 1) (n := 100) (Nat.le_of_ble_eq_true rfl) (Nat.le_of_ble_eq_true rfl) ?_
  refine va_putF (D := D) (ci := 9) (v := .ref q1) (ty := .array .int) (C := RX9) (T := TX9) (N := 11) hx hb hts (fun _ h => List.mem_cons_of_mem _ (List.mem_append_left _ (List.mem_append_left _ (List.mem_append_left _ (List.mem_append_right _ h))))) tyX9 tyX9_ok nmX9 hown hK hP hD hS 0 rfl rfl 5 (by decide) (hts (.fieldLink RX9 9 "TalePlay$Tale" "deeds" "[I") (by decide +kernel)) (fun _ h9 => h9) rfl hin rfl (by decide +kernel) rfl rfl (Nat.le_of_ble_eq_true rfl) dX9_init_9 (fun H locs hP hD hS => ?_)
  have hP : va_P D vwCl [(ta, .inr (9, [.null, .null, .null, .null, .null, .ref q1, .null, .null, .int 0, .int 0, .int 0])), (q1, .inl (cA1, 100, .inl (fun _ => 0)))] H := hP
  have hD : va_D A [(ta, .inr (9, [.null, .null, .null, .null, .null, .ref q1, .null, .null, .int 0, .int 0, .int 0])), (q1, .inl (cA1, 100, .inl (fun _ => 0)))] := hD
  have hP := hP.sub (ws' := [(ta, .inr (9, [.null, .null, .null, .null, .null, .ref q1, .null, .null, .int 0, .int 0, .int 0]))]) [0] rfl
  have hD := hD.sub (ws' := [(ta, .inr (9, [.null, .null, .null, .null, .null, .ref q1, .null, .null, .int 0, .int 0, .int 0]))]) [0] (by decide) rfl
  have hK := hK.sub (tys' := []) [] rfl
  refine lv_aload_n hx hb dX9_init_12 rfl (lv_at hl 0 rfl) ?_
  refine lv_bipush (v := 100) hx hb dX9_init_13 (by decide) ?_
  refine va_newa (atype := .int) (ty := .int) (a0 := (100, .inl (fun _ => 0))) hx hb (hts (.arrayClass .int) (by decide +kernel)) rfl hK hP hD hS hA (fun _ => vp_cell_i _ _ _) (by decide) (N' := 100) (by decide) (show 100 * 4 ≤ 536870912 by omega) (Nat.le_of_ble_eq_true rfl) (Nat.le_of_ble_eq_true rfl) dX9_init_15 (fun q2 cA2 H hK hP hD hS => ?_)
  have hP : va_P D vwCl [(ta, .inr (9, [.null, .null, .null, .null, .null, .ref q1, .null, .null, .int 0, .int 0, .int 0])), (q2, .inl (cA2, 100, .inl (fun _ => 0)))] H := hP
  have hD : va_D A [(ta, .inr (9, [.null, .null, .null, .null, .null, .ref q1, .null, .null, .int 0, .int 0, .int 0])), (q2, .inl (cA2, 100, .inl (fun _ => 0)))] := hD
  have hK : va_K D vwCl [(cA2, .int)] s := hK
  refine W.widen (k := 2) (n := 200) (Nat.le_of_ble_eq_true rfl) (Nat.le_of_ble_eq_true rfl) ?_
  refine va_putF (D := D) (ci := 9) (v := .ref q2) (ty := .array .int) (C := RX9) (T := TX9) (N := 11) hx hb hts (fun _ h => List.mem_cons_of_mem _ (List.mem_append_left _ (List.mem_append_left _ (List.mem_append_left _ (List.mem_append_right _ h))))) tyX9 tyX9_ok nmX9 hown hK hP hD hS 0 rfl rfl 6 (by decide) (hts (.fieldLink RX9 15 "TalePlay$Tale" "subjects" "[I") (by decide +kernel)) (fun _ h9 => h9) rfl hin rfl (by decide +kernel) rfl rfl (Nat.le_of_ble_eq_true rfl) dX9_init_17 (fun H locs hP hD hS => ?_)
  have hP : va_P D vwCl [(ta, .inr (9, [.null, .null, .null, .null, .null, .ref q1, .ref q2, .null, .int 0, .int 0, .int 0])), (q2, .inl (cA2, 100, .inl (fun _ => 0)))] H := hP
  have hD : va_D A [(ta, .inr (9, [.null, .null, .null, .null, .null, .ref q1, .ref q2, .null, .int 0, .int 0, .int 0])), (q2, .inl (cA2, 100, .inl (fun _ => 0)))] := hD
  have hP := hP.sub (ws' := [(ta, .inr (9, [.null, .null, .null, .null, .null, .ref q1, .ref q2, .null, .int 0, .int 0, .int 0]))]) [0] rfl
  have hD := hD.sub (ws' := [(ta, .inr (9, [.null, .null, .null, .null, .null, .ref q1, .ref q2, .null, .int 0, .int 0, .int 0]))]) [0] (by decide) rfl
  have hK := hK.sub (tys' := []) [] rfl
  refine lv_aload_n hx hb dX9_init_20 rfl (lv_at hl 0 rfl) ?_
  refine lv_bipush (v := 100) hx hb dX9_init_21 (by decide) ?_
  refine va_newa (atype := .int) (ty := .int) (a0 := (100, .inl (fun _ => 0))) hx hb (hts (.arrayClass .int) (by decide +kernel)) rfl hK hP hD hS hA (fun _ => vp_cell_i _ _ _) (by decide) (N' := 100) (by decide) (show 100 * 4 ≤ 536870912 by omega) (Nat.le_of_ble_eq_true rfl) (Nat.le_of_ble_eq_true rfl) dX9_init_23 (fun q3 cA3 H hK hP hD hS => ?_)
  have hP : va_P D vwCl [(ta, .inr (9, [.null, .null, .null, .null, .null, .ref q1, .ref q2, .null, .int 0, .int 0, .int 0])), (q3, .inl (cA3, 100, .inl (fun _ => 0)))] H := hP
  have hD : va_D A [(ta, .inr (9, [.null, .null, .null, .null, .null, .ref q1, .ref q2, .null, .int 0, .int 0, .int 0])), (q3, .inl (cA3, 100, .inl (fun _ => 0)))] := hD
  have hK : va_K D vwCl [(cA3, .int)] s := hK
  refine W.widen (k := 3) (n := 300) (Nat.le_of_ble_eq_true rfl) (Nat.le_of_ble_eq_true rfl) ?_
  refine va_putF (D := D) (ci := 9) (v := .ref q3) (ty := .array .int) (C := RX9) (T := TX9) (N := 11) hx hb hts (fun _ h => List.mem_cons_of_mem _ (List.mem_append_left _ (List.mem_append_left _ (List.mem_append_left _ (List.mem_append_right _ h))))) tyX9 tyX9_ok nmX9 hown hK hP hD hS 0 rfl rfl 7 (by decide) (hts (.fieldLink RX9 18 "TalePlay$Tale" "formerCells" "[I") (by decide +kernel)) (fun _ h9 => h9) rfl hin rfl (by decide +kernel) rfl rfl (Nat.le_of_ble_eq_true rfl) dX9_init_25 (fun H locs hP hD hS => ?_)
  have hP : va_P D vwCl [(ta, .inr (9, [.null, .null, .null, .null, .null, .ref q1, .ref q2, .ref q3, .int 0, .int 0, .int 0])), (q3, .inl (cA3, 100, .inl (fun _ => 0)))] H := hP
  have hD : va_D A [(ta, .inr (9, [.null, .null, .null, .null, .null, .ref q1, .ref q2, .ref q3, .int 0, .int 0, .int 0])), (q3, .inl (cA3, 100, .inl (fun _ => 0)))] := hD
  have hP := hP.sub (ws' := [(ta, .inr (9, [.null, .null, .null, .null, .null, .ref q1, .ref q2, .ref q3, .int 0, .int 0, .int 0]))]) [0] rfl
  have hD := hD.sub (ws' := [(ta, .inr (9, [.null, .null, .null, .null, .null, .ref q1, .ref q2, .ref q3, .int 0, .int 0, .int 0]))]) [0] (by decide) rfl
  have hK := hK.sub (tys' := []) [] rfl
  refine lv_aload_n hx hb dX9_init_28 rfl (lv_at hl 0 rfl) ?_
  refine lv_aload_n hx hb dX9_init_29 rfl (lv_at hl 1 rfl) ?_
  refine va_putF (D := D) (ci := 9) (v := .ref wo) (ty := .object "TalePlay$World") (C := RX9) (T := TX9) (N := 11) hx hb hts (fun _ h => List.mem_cons_of_mem _ (List.mem_append_left _ (List.mem_append_left _ (List.mem_append_left _ (List.mem_append_right _ h))))) tyX9 tyX9_ok nmX9 hown hK hP hD hS 0 rfl rfl 0 (by decide) (hts (.fieldLink RX9 21 "TalePlay$Tale" "world" "LTalePlay$World;") (by decide +kernel)) (fun _ h9 => h9) rfl hin rfl (by decide +kernel) rfl rfl (Nat.le_of_ble_eq_true rfl) dX9_init_30 (fun H locs hP hD hS => ?_)
  have hP : va_P D vwCl [(ta, .inr (9, [.ref wo, .null, .null, .null, .null, .ref q1, .ref q2, .ref q3, .int 0, .int 0, .int 0]))] H := hP
  have hD : va_D A [(ta, .inr (9, [.ref wo, .null, .null, .null, .null, .ref q1, .ref q2, .ref q3, .int 0, .int 0, .int 0]))] := hD
  refine lv_aload_n hx hb dX9_init_33 rfl (lv_at hl 0 rfl) ?_
  refine lv_aload_n hx hb dX9_init_34 rfl (lv_at hl 2 rfl) ?_
  refine va_putF (D := D) (ci := 9) (v := .ref bo) (ty := .object "TalePlay$Book") (C := RX9) (T := TX9) (N := 11) hx hb hts (fun _ h => List.mem_cons_of_mem _ (List.mem_append_left _ (List.mem_append_left _ (List.mem_append_left _ (List.mem_append_right _ h))))) tyX9 tyX9_ok nmX9 hown hK hP hD hS 0 rfl rfl 1 (by decide) (hts (.fieldLink RX9 25 "TalePlay$Tale" "book" "LTalePlay$Book;") (by decide +kernel)) (fun _ h9 => h9) rfl hin rfl (by decide +kernel) rfl rfl (Nat.le_of_ble_eq_true rfl) dX9_init_35 (fun H locs hP hD hS => ?_)
  have hP : va_P D vwCl [(ta, .inr (9, [.ref wo, .ref bo, .null, .null, .null, .ref q1, .ref q2, .ref q3, .int 0, .int 0, .int 0]))] H := hP
  have hD : va_D A [(ta, .inr (9, [.ref wo, .ref bo, .null, .null, .null, .ref q1, .ref q2, .ref q3, .int 0, .int 0, .int 0]))] := hD
  refine lv_aload_n hx hb dX9_init_38 rfl (lv_at hl 0 rfl) ?_
  refine va_new (ci := 6) (fs := [.null, .null]) (C := RX6) (T := TX6) (N := 2) hx hb hts (fun _ h => List.mem_cons_of_mem _ (List.mem_append_left _ (List.mem_append_left _ (List.mem_append_right _ h)))) tyX6 tyX6_ok hown (hts (.classLink RX9 29 RX6) (by decide +kernel)) (hts (.instantiable RX6 2) (by decide +kernel)) (hts (.initialized RX6) (by decide +kernel)) hK hP hD hS hA rfl (by decide +kernel) (Nat.le_of_ble_eq_true rfl) (Nat.le_of_ble_eq_true rfl) dX9_init_39 (fun q4 H hP hD hS => ?_)
  have hP : va_P D vwCl [(ta, .inr (9, [.ref wo, .ref bo, .null, .null, .null, .ref q1, .ref q2, .ref q3, .int 0, .int 0, .int 0])), (q4, .inr (6, [.null, .null]))] H := hP
  have hD : va_D A [(ta, .inr (9, [.ref wo, .ref bo, .null, .null, .null, .ref q1, .ref q2, .ref q3, .int 0, .int 0, .int 0])), (q4, .inr (6, [.null, .null]))] := hD
  refine W.widen (k := 4) (n := 302) (Nat.le_of_ble_eq_true rfl) (Nat.le_of_ble_eq_true rfl) ?_
  refine lv_dup hx hb dX9_init_42 rfl ?_
  refine lv_aload_n hx hb dX9_init_43 rfl (lv_at hl 1 rfl) ?_
  have hPc := hP.sub (ws' := [(q4, .inr (6, [.null, .null]))]) [1] rfl
  have hKc := hK.sub (tys' := []) [] rfl
  have hDc := hD.sub (ws' := [(q4, .inr (6, [.null, .null]))]) [1] (by decide) rfl
  refine rw_callv (wr := [(ta, .inr (9, [.ref wo, .ref bo, .null, .null, .null, .ref q1, .ref q2, .ref q3, .int 0, .int 0, .int 0]))]) (va_runI (As := [.ref wo]) (rest := [.ref q4, .ref ta]) ⟨hx, hb, hml, hown, hts⟩ (c_X6_init l D H.size q4 wo) (cwI 1 hts gX9_init_X6_init rfl rfl rfl (hts (.initialized RX6) (by decide +kernel)) (hts (.methodLink RX9 31 yX6_init) (by decide +kernel)) (hts (.instanceMethod yX6_init) (by decide +kernel)) rfl (by decide +kernel) ⟨Nat.le_of_ble_eq_true rfl, Nat.le_of_ble_eq_true rfl⟩) (pB_S hKc hPc hDc) rfl rfl hl.1 rfl (lv_room (Nat.le_of_ble_eq_true rfl)) dX9_init_44 ⟨Nat.le_of_ble_eq_true rfl, Nat.le_of_ble_eq_true rfl⟩) hS hA hK hP hD [1] [0] rfl rfl (by decide) (by decide) (fun u5 H locs hw5 hK hP hD hS => ?_)
  have hP : va_P D vwCl [(ta, .inr (9, [.ref wo, .ref bo, .null, .null, .null, .ref q1, .ref q2, .ref q3, .int 0, .int 0, .int 0]))] H := hP
  have hD : va_D A [(ta, .inr (9, [.ref wo, .ref bo, .null, .null, .null, .ref q1, .ref q2, .ref q3, .int 0, .int 0, .int 0]))] := hD
  have hK : va_K D vwCl [] s := hK
  refine W.widen (k := 5) (n := 332) (Nat.le_of_ble_eq_true rfl) (Nat.le_of_ble_eq_true rfl) ?_
  refine va_putF (D := D) (ci := 9) (v := .ref q4) (ty := .object "TalePlay$Scene") (C := RX9) (T := TX9) (N := 11) hx hb hts (fun _ h => List.mem_cons_of_mem _ (List.mem_append_left _ (List.mem_append_left _ (List.mem_append_left _ (List.mem_append_right _ h))))) tyX9 tyX9_ok nmX9 hown hK hP hD hS 0 rfl rfl 2 (by decide) (hts (.fieldLink RX9 34 "TalePlay$Tale" "scene" "LTalePlay$Scene;") (by decide +kernel)) (fun _ h9 => h9) rfl hin rfl (by decide +kernel) rfl rfl (Nat.le_of_ble_eq_true rfl) dX9_init_47 (fun H locs hP hD hS => ?_)
  have hP : va_P D vwCl [(ta, .inr (9, [.ref wo, .ref bo, .ref q4, .null, .null, .ref q1, .ref q2, .ref q3, .int 0, .int 0, .int 0]))] H := hP
  have hD : va_D A [(ta, .inr (9, [.ref wo, .ref bo, .ref q4, .null, .null, .ref q1, .ref q2, .ref q3, .int 0, .int 0, .int 0]))] := hD
  refine lv_aload_n hx hb dX9_init_50 rfl (lv_at hl 0 rfl) ?_
  refine va_new (ci := 8) (fs := [.null, .null, .null, .null, .null, .int 0]) (C := RX8) (T := TX8) (N := 6) hx hb hts (fun _ h => List.mem_cons_of_mem _ (List.mem_append_left _ (List.mem_append_right _ h))) tyX8 tyX8_ok hown (hts (.classLink RX9 38 RX8) (by decide +kernel)) (hts (.instantiable RX8 6) (by decide +kernel)) (hts (.initialized RX8) (by decide +kernel)) hK hP hD hS hA rfl (by decide +kernel) (Nat.le_of_ble_eq_true rfl) (Nat.le_of_ble_eq_true rfl) dX9_init_51 (fun q6 H hP hD hS => ?_)
  have hP : va_P D vwCl [(ta, .inr (9, [.ref wo, .ref bo, .ref q4, .null, .null, .ref q1, .ref q2, .ref q3, .int 0, .int 0, .int 0])), (q6, .inr (8, [.null, .null, .null, .null, .null, .int 0]))] H := hP
  have hD : va_D A [(ta, .inr (9, [.ref wo, .ref bo, .ref q4, .null, .null, .ref q1, .ref q2, .ref q3, .int 0, .int 0, .int 0])), (q6, .inr (8, [.null, .null, .null, .null, .null, .int 0]))] := hD
  refine W.widen (k := 6) (n := 338) (Nat.le_of_ble_eq_true rfl) (Nat.le_of_ble_eq_true rfl) ?_
  refine lv_dup hx hb dX9_init_54 rfl ?_
  refine lv_aload_n hx hb dX9_init_55 rfl (lv_at hl 1 rfl) ?_
  refine lv_aload_n hx hb dX9_init_56 rfl (lv_at hl 3 rfl) ?_
  refine lv_aload_n hx hb dX9_init_57 rfl (lv_at hl 0 rfl) ?_
  refine va_get (D := D) (ci := 9) (v := .ref q4) (C := RX9) (T := TX9) (N := 11) hx hb hts (fun _ h => List.mem_cons_of_mem _ (List.mem_append_left _ (List.mem_append_left _ (List.mem_append_left _ (List.mem_append_right _ h))))) hown hK hP 0 rfl rfl 2 (by decide) (hts (.fieldLink RX9 34 "TalePlay$Tale" "scene" "LTalePlay$Scene;") (by decide +kernel)) (fun _ h9 => h9) rfl dX9_init_58 ?_
  have hPc := hP.sub (ws' := [(q6, .inr (8, [.null, .null, .null, .null, .null, .int 0]))]) [1] rfl
  have hKc := hK.sub (tys' := []) [] rfl
  have hDc := hD.sub (ws' := [(q6, .inr (8, [.null, .null, .null, .null, .null, .int 0]))]) [1] (by decide) rfl
  refine rw_callv (wr := [(ta, .inr (9, [.ref wo, .ref bo, .ref q4, .null, .null, .ref q1, .ref q2, .ref q3, .int 0, .int 0, .int 0]))]) (va_runI (As := [.ref wo, .ref rd, .ref q4]) (rest := [.ref q6, .ref ta]) ⟨hx, hb, hml, hown, hts⟩ (c_X8_init l D H.size q6 wo rd q4) (cwI 3 hts gX9_init_X8_init rfl rfl rfl (hts (.initialized RX8) (by decide +kernel)) (hts (.methodLink RX9 40 yX8_init) (by decide +kernel)) (hts (.instanceMethod yX8_init) (by decide +kernel)) rfl (by decide +kernel) ⟨Nat.le_of_ble_eq_true rfl, Nat.le_of_ble_eq_true rfl⟩) (pB_S hKc hPc hDc) rfl rfl hl.1 rfl (lv_room (Nat.le_of_ble_eq_true rfl)) dX9_init_61 ⟨Nat.le_of_ble_eq_true rfl, Nat.le_of_ble_eq_true rfl⟩) hS hA hK hP hD [1] [0] rfl rfl (by decide) (by decide) (fun u7 H locs hw7 hK hP hD hS => ?_)
  obtain ⟨i0_7, i1_7⟩ := u7
  have hP : va_P D vwCl [(ta, .inr (9, [.ref wo, .ref bo, .ref q4, .null, .null, .ref q1, .ref q2, .ref q3, .int 0, .int 0, .int 0])), (q6, .inr (8, [.ref wo, .ref rd, .ref q4, .ref i0_7, .ref i1_7, .int 0]))] H := hP
  have hD : va_D A [(ta, .inr (9, [.ref wo, .ref bo, .ref q4, .null, .null, .ref q1, .ref q2, .ref q3, .int 0, .int 0, .int 0])), (q6, .inr (8, [.ref wo, .ref rd, .ref q4, .ref i0_7, .ref i1_7, .int 0]))] := hD
  have hK : va_K D vwCl [] s := hK
  refine W.widen (k := 8) (n := 398) (Nat.le_of_ble_eq_true rfl) (Nat.le_of_ble_eq_true rfl) ?_
  refine va_putF (D := D) (ci := 9) (v := .ref q6) (ty := .object "TalePlay$Sight") (C := RX9) (T := TX9) (N := 11) hx hb hts (fun _ h => List.mem_cons_of_mem _ (List.mem_append_left _ (List.mem_append_left _ (List.mem_append_left _ (List.mem_append_right _ h))))) tyX9 tyX9_ok nmX9 hown hK hP hD hS 0 rfl rfl 3 (by decide) (hts (.fieldLink RX9 43 "TalePlay$Tale" "sight" "LTalePlay$Sight;") (by decide +kernel)) (fun _ h9 => h9) rfl hin rfl (by decide +kernel) rfl rfl (Nat.le_of_ble_eq_true rfl) dX9_init_64 (fun H locs hP hD hS => ?_)
  have hP : va_P D vwCl [(ta, .inr (9, [.ref wo, .ref bo, .ref q4, .ref q6, .null, .ref q1, .ref q2, .ref q3, .int 0, .int 0, .int 0])), (q6, .inr (8, [.ref wo, .ref rd, .ref q4, .ref i0_7, .ref i1_7, .int 0]))] H := hP
  have hD : va_D A [(ta, .inr (9, [.ref wo, .ref bo, .ref q4, .ref q6, .null, .ref q1, .ref q2, .ref q3, .int 0, .int 0, .int 0])), (q6, .inr (8, [.ref wo, .ref rd, .ref q4, .ref i0_7, .ref i1_7, .int 0]))] := hD
  refine lv_aload_n hx hb dX9_init_67 rfl (lv_at hl 0 rfl) ?_
  refine va_new (ci := 0) (fs := [.null, .null, .null, .null, .null, .null, .int 0]) (C := RX0) (T := TX0) (N := 7) hx hb hts (fun _ h => List.mem_cons_of_mem _ (List.mem_append_right _ h)) tyX0 tyX0_ok hown (hts (.classLink RX9 47 RX0) (by decide +kernel)) (hts (.instantiable RX0 7) (by decide +kernel)) (hts (.initialized RX0) (by decide +kernel)) hK hP hD hS hA rfl (by decide +kernel) (Nat.le_of_ble_eq_true rfl) (Nat.le_of_ble_eq_true rfl) dX9_init_68 (fun q8 H hP hD hS => ?_)
  have hP : va_P D vwCl [(ta, .inr (9, [.ref wo, .ref bo, .ref q4, .ref q6, .null, .ref q1, .ref q2, .ref q3, .int 0, .int 0, .int 0])), (q6, .inr (8, [.ref wo, .ref rd, .ref q4, .ref i0_7, .ref i1_7, .int 0])), (q8, .inr (0, [.null, .null, .null, .null, .null, .null, .int 0]))] H := hP
  have hD : va_D A [(ta, .inr (9, [.ref wo, .ref bo, .ref q4, .ref q6, .null, .ref q1, .ref q2, .ref q3, .int 0, .int 0, .int 0])), (q6, .inr (8, [.ref wo, .ref rd, .ref q4, .ref i0_7, .ref i1_7, .int 0])), (q8, .inr (0, [.null, .null, .null, .null, .null, .null, .int 0]))] := hD
  refine W.widen (k := 9) (n := 405) (Nat.le_of_ble_eq_true rfl) (Nat.le_of_ble_eq_true rfl) ?_
  refine lv_dup hx hb dX9_init_71 rfl ?_
  refine lv_aload_n hx hb dX9_init_72 rfl (lv_at hl 1 rfl) ?_
  refine lv_aload_n hx hb dX9_init_73 rfl (lv_at hl 2 rfl) ?_
  refine lv_aload_n hx hb dX9_init_74 rfl (lv_at hl 3 rfl) ?_
  refine lv_aload hx hb dX9_init_75 (lv_at hl 4 rfl) ?_
  refine lv_aload_n hx hb dX9_init_77 rfl (lv_at hl 0 rfl) ?_
  refine va_get (D := D) (ci := 9) (v := .ref q6) (C := RX9) (T := TX9) (N := 11) hx hb hts (fun _ h => List.mem_cons_of_mem _ (List.mem_append_left _ (List.mem_append_left _ (List.mem_append_left _ (List.mem_append_right _ h))))) hown hK hP 0 rfl rfl 3 (by decide) (hts (.fieldLink RX9 43 "TalePlay$Tale" "sight" "LTalePlay$Sight;") (by decide +kernel)) (fun _ h9 => h9) rfl dX9_init_78 ?_
  have hPc := hP.sub (ws' := [(q8, .inr (0, [.null, .null, .null, .null, .null, .null, .int 0])), (q6, .inr (8, [.ref wo, .ref rd, .ref q4, .ref i0_7, .ref i1_7, .int 0]))]) [2, 1] rfl
  have hKc := hK.sub (tys' := []) [] rfl
  have hDc := hD.sub (ws' := [(q8, .inr (0, [.null, .null, .null, .null, .null, .null, .int 0])), (q6, .inr (8, [.ref wo, .ref rd, .ref q4, .ref i0_7, .ref i1_7, .int 0]))]) [2, 1] (by decide) rfl
  refine rw_callv (wr := [(ta, .inr (9, [.ref wo, .ref bo, .ref q4, .ref q6, .null, .ref q1, .ref q2, .ref q3, .int 0, .int 0, .int 0]))]) (va_runI (As := [.ref wo, .ref bo, .ref rd, .ref bu, .ref q6]) (rest := [.ref q8, .ref ta]) ⟨hx, hb, hml, hown, hts⟩ (c_X0_init l D H.size q8 q6 wo rd q4 i0_7 i1_7 bo bu) (cwI 5 hts gX9_init_X0_init rfl rfl rfl (hts (.initialized RX0) (by decide +kernel)) (hts (.methodLink RX9 49 yX0_init) (by decide +kernel)) (hts (.instanceMethod yX0_init) (by decide +kernel)) rfl (by decide +kernel) ⟨Nat.le_of_ble_eq_true rfl, Nat.le_of_ble_eq_true rfl⟩) (pB_S hKc hPc hDc) rfl rfl hl.1 rfl (lv_room (Nat.le_of_ble_eq_true rfl)) dX9_init_81 ⟨Nat.le_of_ble_eq_true rfl, Nat.le_of_ble_eq_true rfl⟩) hS hA hK hP hD [2, 1] [0] rfl rfl (by decide) (by decide) (fun u9 H locs hw9 hK hP hD hS => ?_)
  have hP : va_P D vwCl [(ta, .inr (9, [.ref wo, .ref bo, .ref q4, .ref q6, .null, .ref q1, .ref q2, .ref q3, .int 0, .int 0, .int 0]))] H := hP
  have hD : va_D A [(ta, .inr (9, [.ref wo, .ref bo, .ref q4, .ref q6, .null, .ref q1, .ref q2, .ref q3, .int 0, .int 0, .int 0]))] := hD
  have hK : va_K D vwCl [] s := hK
  refine va_putF (D := D) (ci := 9) (v := .ref q8) (ty := .object "TalePlay$Acts") (C := RX9) (T := TX9) (N := 11) hx hb hts (fun _ h => List.mem_cons_of_mem _ (List.mem_append_left _ (List.mem_append_left _ (List.mem_append_left _ (List.mem_append_right _ h))))) tyX9 tyX9_ok nmX9 hown hK hP hD hS 0 rfl rfl 4 (by decide) (hts (.fieldLink RX9 52 "TalePlay$Tale" "acts" "LTalePlay$Acts;") (by decide +kernel)) (fun _ h9 => h9) rfl hin rfl (by decide +kernel) rfl rfl (Nat.le_of_ble_eq_true rfl) dX9_init_84 (fun H locs hP hD hS => ?_)
  have hP : va_P D vwCl [(ta, .inr (9, [.ref wo, .ref bo, .ref q4, .ref q6, .ref q8, .ref q1, .ref q2, .ref q3, .int 0, .int 0, .int 0]))] H := hP
  have hD : va_D A [(ta, .inr (9, [.ref wo, .ref bo, .ref q4, .ref q6, .ref q8, .ref q1, .ref q2, .ref q3, .int 0, .int 0, .int 0]))] := hD
  refine lv_aload_n hx hb dX9_init_87 rfl (lv_at hl 0 rfl) ?_
  refine lv_bipush (v := (-9)) hx hb dX9_init_88 (by decide) ?_
  refine va_put (D := D) (ci := 9) (v := .int (-9)) (ty := .int) (C := RX9) (T := TX9) (N := 11) hx hb hts (fun _ h => List.mem_cons_of_mem _ (List.mem_append_left _ (List.mem_append_left _ (List.mem_append_left _ (List.mem_append_right _ h))))) tyX9 tyX9_ok nmX9 hown hK hP hD hS 0 rfl rfl 9 (by decide) (hts (.fieldLink RX9 56 "TalePlay$Tale" "player" "I") (by decide +kernel)) (fun _ h9 => h9) rfl (by decide +kernel) rfl rfl (Nat.le_of_ble_eq_true rfl) dX9_init_90 (fun H locs hP hD hS => ?_)
  have hP : va_P D vwCl [(ta, .inr (9, [.ref wo, .ref bo, .ref q4, .ref q6, .ref q8, .ref q1, .ref q2, .ref q3, .int 0, .int (-9), .int 0]))] H := hP
  have hD : va_D A [(ta, .inr (9, [.ref wo, .ref bo, .ref q4, .ref q6, .ref q8, .ref q1, .ref q2, .ref q3, .int 0, .int (-9), .int 0]))] := hD
  exact rw_vret (q4, q6, q8, q1, q2, q3) hx hb hr hlocks hS (hK.sub (tys' := []) [] rfl) (hP.sub (ws' := [(ta, .inr (9, [.ref wo, .ref bo, .ref q4, .ref q6, .ref q8, .ref q1, .ref q2, .ref q3, .int 0, .int (-9), .int 0]))]) [0] rfl) (hD.sub (ws' := [(ta, .inr (9, [.ref wo, .ref bo, .ref q4, .ref q6, .ref q8, .ref q1, .ref q2, .ref q3, .int 0, .int (-9), .int 0]))]) [0] (by decide) rfl) dX9_init_93 trivial

set_option maxHeartbeats 4000000 in
set_option maxRecDepth 100000 in
theorem c_X4_init (l : Launch) (D : va_G) (sz : Nat) (li : Nat) : Met l yX4_init wsX4_init ({ frames := 1, cells := 3, slots := 420, locals := 24 }) (va_Pc [.ref li] (pB D sz [(li, .inr (4, [.null, .null, .null]))] [])) (va_Qv (fun (_ : Unit) => True) (oC D (va_A [(li, .inr (4, [.null, .null, .null]))] sz) (fun _ => []) (fun _ => [])) (va_A [(li, .inr (4, [.null, .null, .null]))] sz)) 3 420 (va_A [(li, .inr (4, [.null, .null, .null]))] sz) := by
  refine Met.ofW (cc := cX4_init) (maxL := 1) (ret := none) (by decide) rfl ?_
  intro p e s m args below meth c s₁ B hml hv
  obtain ⟨rfl, hsz, hP, hK, hD0⟩ := hv
  have hx := B.exec
  have hb := B.bytes
  have hr := B.returns
  have hts := atoms_spec (ws := wsX4_init) B.pre
  have hown : s.vm.findClass RX4 = some m.cls := findClass_of_methodNamed B.named
  have hlocks := B.notSynchronized
  have hin : meth.name = "<init>" := (name_of_methodNamed B.named B.method).1
  subst hsz
  have hD := hD0.self (sz := s.heap.size)
  generalize hAe : va_A [(li, .inr (4, [.null, .null, .null]))] s.heap.size = A at hD ⊢
  have hA : ∀ q : Nat, s.heap.size ≤ q → A q := fun q h => by rw [← hAe]; exact Or.inr h
  have hS : va_S A s.heap s.heap [] := va_S.rf
  have hP : va_P D vwCl [(li, .inr (4, [.null, .null, .null]))] s.heap := hP
  have hl := lv_entry ([.ref li]) (n := 1) (Nat.le_of_ble_eq_true rfl)
  rw [lg_entry_eq]
  generalize (lg_sl ([.ref li]) ++ List.replicate (1 - (lg_sl ([.ref li])).length) Slot.unset).toArray = ls at hl ⊢
  have hl : lv_has ls 1 [(0, .ref li)] := hl
  refine lv_aload_n hx hb dX4_init_0 rfl (lv_at hl 0 rfl) ?_
  refine W.objInit hx hb hown (hts (.methodLink RX4 3 objectInit) (by decide +kernel)) (hts (.instanceMethod objectInit) (by decide +kernel)) (hts (.code objectInit ⟨#[0xb1]⟩ 1 none) (by decide +kernel)) rfl (by rw [hml]; exact hl.1) rfl dX4_init_1 (Nat.le_of_ble_eq_true rfl) (Nat.le_of_ble_eq_true rfl) ?_
  refine W.eq (g2 := F0 m 4 ls []) rfl ?_
  refine lv_aload_n hx hb dX4_init_4 rfl (lv_at hl 0 rfl) ?_
  refine lv_bipush (v := 30) hx hb dX4_init_5 (by decide) ?_
  refine va_newa (atype := .int) (ty := .int) (a0 := (30, .inl (fun _ => 0))) hx hb (hts (.arrayClass .int) (by decide +kernel)) rfl hK hP hD hS hA (fun _ => vp_cell_i _ _ _) (by decide) (N' := 30) (by decide) (show 30 * 4 ≤ 536870912 by omega) (Nat.le_of_ble_eq_true rfl) (Nat.le_of_ble_eq_true rfl) dX4_init_7 (fun q1 cA1 H hK hP hD hS => ?_)
  have hP : va_P D vwCl [(li, .inr (4, [.null, .null, .null])), (q1, .inl (cA1, 30, .inl (fun _ => 0)))] H := hP
  have hD : va_D A [(li, .inr (4, [.null, .null, .null])), (q1, .inl (cA1, 30, .inl (fun _ => 0)))] := hD
  have hK : va_K D vwCl [(cA1, .int)] s := hK
  refine W.widen (k := 1) (n := 30) (Nat.le_of_ble_eq_true rfl) (Nat.le_of_ble_eq_true rfl) ?_
  refine va_putF (D := D) (ci := 4) (v := .ref q1) (ty := .array .int) (C := RX4) (T := TX4) (N := 3) hx hb hts (fun _ h => List.mem_cons_of_mem _ (List.mem_append_right _ h)) tyX4 tyX4_ok nmX4 hown hK hP hD hS 0 rfl rfl 0 (by decide) (hts (.fieldLink RX4 9 "TalePlay$Lines" "sorts" "[I") (by decide +kernel)) (fun _ h9 => h9) rfl hin rfl (by decide +kernel) rfl rfl (Nat.le_of_ble_eq_true rfl) dX4_init_9 (fun H locs hP hD hS => ?_)
  have hP : va_P D vwCl [(li, .inr (4, [.ref q1, .null, .null])), (q1, .inl (cA1, 30, .inl (fun _ => 0)))] H := hP
  have hD : va_D A [(li, .inr (4, [.ref q1, .null, .null])), (q1, .inl (cA1, 30, .inl (fun _ => 0)))] := hD
  refine lv_aload_n hx hb dX4_init_12 rfl (lv_at hl 0 rfl) ?_
  refine lv_bipush (v := 30) hx hb dX4_init_13 (by decide) ?_
  refine va_newa (atype := .int) (ty := .int) (a0 := (30, .inl (fun _ => 0))) hx hb (hts (.arrayClass .int) (by decide +kernel)) rfl hK hP hD hS hA (fun _ => vp_cell_i _ _ _) (by decide) (N' := 30) (by decide) (show 30 * 4 ≤ 536870912 by omega) (Nat.le_of_ble_eq_true rfl) (Nat.le_of_ble_eq_true rfl) dX4_init_15 (fun q2 cA2 H hK hP hD hS => ?_)
  have hP : va_P D vwCl [(li, .inr (4, [.ref q1, .null, .null])), (q1, .inl (cA1, 30, .inl (fun _ => 0))), (q2, .inl (cA2, 30, .inl (fun _ => 0)))] H := hP
  have hD : va_D A [(li, .inr (4, [.ref q1, .null, .null])), (q1, .inl (cA1, 30, .inl (fun _ => 0))), (q2, .inl (cA2, 30, .inl (fun _ => 0)))] := hD
  have hK : va_K D vwCl [(cA1, .int), (cA2, .int)] s := hK
  refine W.widen (k := 2) (n := 60) (Nat.le_of_ble_eq_true rfl) (Nat.le_of_ble_eq_true rfl) ?_
  refine va_putF (D := D) (ci := 4) (v := .ref q2) (ty := .array .int) (C := RX4) (T := TX4) (N := 3) hx hb hts (fun _ h => List.mem_cons_of_mem _ (List.mem_append_right _ h)) tyX4 tyX4_ok nmX4 hown hK hP hD hS 0 rfl rfl 1 (by decide) (hts (.fieldLink RX4 15 "TalePlay$Lines" "lengths" "[I") (by decide +kernel)) (fun _ h9 => h9) rfl hin rfl (by decide +kernel) rfl rfl (Nat.le_of_ble_eq_true rfl) dX4_init_17 (fun H locs hP hD hS => ?_)
  have hP : va_P D vwCl [(li, .inr (4, [.ref q1, .ref q2, .null])), (q1, .inl (cA1, 30, .inl (fun _ => 0))), (q2, .inl (cA2, 30, .inl (fun _ => 0)))] H := hP
  have hD : va_D A [(li, .inr (4, [.ref q1, .ref q2, .null])), (q1, .inl (cA1, 30, .inl (fun _ => 0))), (q2, .inl (cA2, 30, .inl (fun _ => 0)))] := hD
  have hP := hP.sub (ws' := [(li, .inr (4, [.ref q1, .ref q2, .null])), (q1, .inl (cA1, 30, .inl (fun _ => 0)))]) [0, 1] rfl
  have hD := hD.sub (ws' := [(li, .inr (4, [.ref q1, .ref q2, .null])), (q1, .inl (cA1, 30, .inl (fun _ => 0)))]) [0, 1] (by decide) rfl
  have hK := hK.sub (tys' := [(cA1, .int)]) [0] rfl
  refine lv_aload_n hx hb dX4_init_20 rfl (lv_at hl 0 rfl) ?_
  refine lv_sipush (v := 360) hx hb dX4_init_21 (by decide) ?_
  refine va_newa (atype := .long) (ty := .long) (a0 := (360, .inr (.inl (fun _ => 0)))) hx hb (hts (.arrayClass .long) (by decide +kernel)) rfl hK hP hD hS hA (fun _ => vp_cell_l _ _ _) (by decide) (N' := 360) (by decide) (show 360 * 8 ≤ 536870912 by omega) (Nat.le_of_ble_eq_true rfl) (Nat.le_of_ble_eq_true rfl) dX4_init_24 (fun q3 cA3 H hK hP hD hS => ?_)
  have hP : va_P D vwCl [(li, .inr (4, [.ref q1, .ref q2, .null])), (q1, .inl (cA1, 30, .inl (fun _ => 0))), (q3, .inl (cA3, 360, .inr (.inl (fun _ => 0))))] H := hP
  have hD : va_D A [(li, .inr (4, [.ref q1, .ref q2, .null])), (q1, .inl (cA1, 30, .inl (fun _ => 0))), (q3, .inl (cA3, 360, .inr (.inl (fun _ => 0))))] := hD
  have hK : va_K D vwCl [(cA1, .int), (cA3, .long)] s := hK
  refine W.widen (k := 3) (n := 420) (Nat.le_of_ble_eq_true rfl) (Nat.le_of_ble_eq_true rfl) ?_
  refine va_putF (D := D) (ci := 4) (v := .ref q3) (ty := .array .long) (C := RX4) (T := TX4) (N := 3) hx hb hts (fun _ h => List.mem_cons_of_mem _ (List.mem_append_right _ h)) tyX4 tyX4_ok nmX4 hown hK hP hD hS 0 rfl rfl 2 (by decide) (hts (.fieldLink RX4 18 "TalePlay$Lines" "items" "[J") (by decide +kernel)) (fun _ h9 => h9) rfl hin rfl (by decide +kernel) rfl rfl (Nat.le_of_ble_eq_true rfl) dX4_init_26 (fun H locs hP hD hS => ?_)
  have hP : va_P D vwCl [(li, .inr (4, [.ref q1, .ref q2, .ref q3])), (q1, .inl (cA1, 30, .inl (fun _ => 0))), (q3, .inl (cA3, 360, .inr (.inl (fun _ => 0))))] H := hP
  have hD : va_D A [(li, .inr (4, [.ref q1, .ref q2, .ref q3])), (q1, .inl (cA1, 30, .inl (fun _ => 0))), (q3, .inl (cA3, 360, .inr (.inl (fun _ => 0))))] := hD
  have hP := hP.sub (ws' := [(li, .inr (4, [.ref q1, .ref q2, .ref q3])), (q1, .inl (cA1, 30, .inl (fun _ => 0)))]) [0, 1] rfl
  have hD := hD.sub (ws' := [(li, .inr (4, [.ref q1, .ref q2, .ref q3])), (q1, .inl (cA1, 30, .inl (fun _ => 0)))]) [0, 1] (by decide) rfl
  have hK := hK.sub (tys' := [(cA1, .int)]) [0] rfl
  refine lv_aload_n hx hb dX4_init_29 rfl (lv_at hl 0 rfl) ?_
  refine va_get (D := D) (ci := 4) (v := .ref q1) (C := RX4) (T := TX4) (N := 3) hx hb hts (fun _ h => List.mem_cons_of_mem _ (List.mem_append_right _ h)) hown hK hP 0 rfl rfl 0 (by decide) (hts (.fieldLink RX4 9 "TalePlay$Lines" "sorts" "[I") (by decide +kernel)) (fun _ h9 => h9) rfl dX4_init_30 ?_
  refine lv_bipush (v := (-9)) hx hb dX4_init_33 (by decide) ?_
  have hPc := hP.sub (ws' := [(q1, .inl (cA1, 30, .inl (fun _ => 0)))]) [1] rfl
  have hKc := hK.sub (tys' := [(cA1, .int)]) [0] rfl
  have hDc := hD.sub (ws' := [(q1, .inl (cA1, 30, .inl (fun _ => 0)))]) [1] (by decide) rfl
  refine rw_callv (wr := [(li, .inr (4, [.ref q1, .ref q2, .ref q3]))]) (va_runS (As := [.ref q1, .int (-9)]) (rest := []) ⟨hx, hb, hml, hown, hts⟩ (c_J7_fill_53178 l D H.size q1 cA1 30 (fun _ => 0) (-9) (by omega)) (va_cwS 2 hts gX4_init_J7_fill_53178 rfl rfl rfl (by decide +kernel) ⟨Nat.le_of_ble_eq_true rfl, Nat.le_of_ble_eq_true rfl⟩) (pB_S hKc hPc hDc) rfl rfl hl.1 rfl (lv_room (Nat.le_of_ble_eq_true rfl)) dX4_init_35 ⟨Nat.le_of_ble_eq_true rfl, Nat.le_of_ble_eq_true rfl⟩) hS hA hK hP hD [1] [0] rfl rfl (by decide) (by decide) (fun u4 H locs hw4 hK hP hD hS => ?_)
  obtain ⟨g_4, rfl⟩ : ∃ z, z = u4 := ⟨_, rfl⟩
  have hw4 : (∀ j, j < 30 → g_4 j = (-9)) := hw4
  have hP : va_P D vwCl [(li, .inr (4, [.ref q1, .ref q2, .ref q3])), (q1, .inl (cA1, 30, .inl g_4))] H := hP
  have hD : va_D A [(li, .inr (4, [.ref q1, .ref q2, .ref q3])), (q1, .inl (cA1, 30, .inl g_4))] := hD
  have hK : va_K D vwCl [(cA1, .int)] s := hK
  exact rw_vret () hx hb hr hlocks hS (hK.sub (tys' := []) [] rfl) (hP.sub (ws' := []) [] rfl) (hD.sub (ws' := []) [] (by decide) rfl) dX4_init_38 trivial

set_option maxHeartbeats 4000000 in
set_option maxRecDepth 100000 in
theorem c_X3_init (l : Launch) (D : va_G) (sz : Nat) (ca : Nat) : Met l yX3_init wsX3_init ({ frames := 1, cells := 3, slots := 140, locals := 24 }) (va_Pc [.ref ca] (pB D sz [(ca, .inr (3, [.null, .null, .null, .int 0]))] [])) (va_Qv (fun (_ : Nat × Nat × Nat × ClassId × ClassId) => True) (oC D (va_A [(ca, .inr (3, [.null, .null, .null, .int 0]))] sz) (fun u => [(ca, .inr (3, [.ref u.1, .ref u.2.1, .ref u.2.2.1, .int 0])), (u.1, .inl (u.2.2.2.1, 10, .inl (fun _ => 0))), (u.2.1, .inl (u.2.2.2.2, 10, .inl (fun _ => 0)))]) (fun u => [(u.2.2.2.1, .int), (u.2.2.2.2, .int)])) (va_A [(ca, .inr (3, [.null, .null, .null, .int 0]))] sz)) 3 140 (va_A [(ca, .inr (3, [.null, .null, .null, .int 0]))] sz) := by
  refine Met.ofW (cc := cX3_init) (maxL := 1) (ret := none) (by decide) rfl ?_
  intro p e s m args below meth c s₁ B hml hv
  obtain ⟨rfl, hsz, hP, hK, hD0⟩ := hv
  have hx := B.exec
  have hb := B.bytes
  have hr := B.returns
  have hts := atoms_spec (ws := wsX3_init) B.pre
  have hown : s.vm.findClass RX3 = some m.cls := findClass_of_methodNamed B.named
  have hlocks := B.notSynchronized
  have hin : meth.name = "<init>" := (name_of_methodNamed B.named B.method).1
  subst hsz
  have hD := hD0.self (sz := s.heap.size)
  generalize hAe : va_A [(ca, .inr (3, [.null, .null, .null, .int 0]))] s.heap.size = A at hD ⊢
  have hA : ∀ q : Nat, s.heap.size ≤ q → A q := fun q h => by rw [← hAe]; exact Or.inr h
  have hS : va_S A s.heap s.heap [] := va_S.rf
  have hP : va_P D vwCl [(ca, .inr (3, [.null, .null, .null, .int 0]))] s.heap := hP
  have hl := lv_entry ([.ref ca]) (n := 1) (Nat.le_of_ble_eq_true rfl)
  rw [lg_entry_eq]
  generalize (lg_sl ([.ref ca]) ++ List.replicate (1 - (lg_sl ([.ref ca])).length) Slot.unset).toArray = ls at hl ⊢
  have hl : lv_has ls 1 [(0, .ref ca)] := hl
  refine lv_aload_n hx hb dX3_init_0 rfl (lv_at hl 0 rfl) ?_
  refine W.objInit hx hb hown (hts (.methodLink RX3 3 objectInit) (by decide +kernel)) (hts (.instanceMethod objectInit) (by decide +kernel)) (hts (.code objectInit ⟨#[0xb1]⟩ 1 none) (by decide +kernel)) rfl (by rw [hml]; exact hl.1) rfl dX3_init_1 (Nat.le_of_ble_eq_true rfl) (Nat.le_of_ble_eq_true rfl) ?_
  refine W.eq (g2 := F0 m 4 ls []) rfl ?_
  refine lv_aload_n hx hb dX3_init_4 rfl (lv_at hl 0 rfl) ?_
  refine lv_bipush (v := 10) hx hb dX3_init_5 (by decide) ?_
  refine va_newa (atype := .int) (ty := .int) (a0 := (10, .inl (fun _ => 0))) hx hb (hts (.arrayClass .int) (by decide +kernel)) rfl hK hP hD hS hA (fun _ => vp_cell_i _ _ _) (by decide) (N' := 10) (by decide) (show 10 * 4 ≤ 536870912 by omega) (Nat.le_of_ble_eq_true rfl) (Nat.le_of_ble_eq_true rfl) dX3_init_7 (fun q1 cA1 H hK hP hD hS => ?_)
  have hP : va_P D vwCl [(ca, .inr (3, [.null, .null, .null, .int 0])), (q1, .inl (cA1, 10, .inl (fun _ => 0)))] H := hP
  have hD : va_D A [(ca, .inr (3, [.null, .null, .null, .int 0])), (q1, .inl (cA1, 10, .inl (fun _ => 0)))] := hD
  have hK : va_K D vwCl [(cA1, .int)] s := hK
  refine W.widen (k := 1) (n := 10) (Nat.le_of_ble_eq_true rfl) (Nat.le_of_ble_eq_true rfl) ?_
  refine va_putF (D := D) (ci := 3) (v := .ref q1) (ty := .array .int) (C := RX3) (T := TX3) (N := 4) hx hb hts (fun _ h => List.mem_cons_of_mem _ (List.mem_append_right _ h)) tyX3 tyX3_ok nmX3 hown hK hP hD hS 0 rfl rfl 0 (by decide) (hts (.fieldLink RX3 9 "TalePlay$Casts" "sorts" "[I") (by decide +kernel)) (fun _ h9 => h9) rfl hin rfl (by decide +kernel) rfl rfl (Nat.le_of_ble_eq_true rfl) dX3_init_9 (fun H locs hP hD hS => ?_)
  have hP : va_P D vwCl [(ca, .inr (3, [.ref q1, .null, .null, .int 0])), (q1, .inl (cA1, 10, .inl (fun _ => 0)))] H := hP
  have hD : va_D A [(ca, .inr (3, [.ref q1, .null, .null, .int 0])), (q1, .inl (cA1, 10, .inl (fun _ => 0)))] := hD
  refine lv_aload_n hx hb dX3_init_12 rfl (lv_at hl 0 rfl) ?_
  refine lv_bipush (v := 10) hx hb dX3_init_13 (by decide) ?_
  refine va_newa (atype := .int) (ty := .int) (a0 := (10, .inl (fun _ => 0))) hx hb (hts (.arrayClass .int) (by decide +kernel)) rfl hK hP hD hS hA (fun _ => vp_cell_i _ _ _) (by decide) (N' := 10) (by decide) (show 10 * 4 ≤ 536870912 by omega) (Nat.le_of_ble_eq_true rfl) (Nat.le_of_ble_eq_true rfl) dX3_init_15 (fun q2 cA2 H hK hP hD hS => ?_)
  have hP : va_P D vwCl [(ca, .inr (3, [.ref q1, .null, .null, .int 0])), (q1, .inl (cA1, 10, .inl (fun _ => 0))), (q2, .inl (cA2, 10, .inl (fun _ => 0)))] H := hP
  have hD : va_D A [(ca, .inr (3, [.ref q1, .null, .null, .int 0])), (q1, .inl (cA1, 10, .inl (fun _ => 0))), (q2, .inl (cA2, 10, .inl (fun _ => 0)))] := hD
  have hK : va_K D vwCl [(cA1, .int), (cA2, .int)] s := hK
  refine W.widen (k := 2) (n := 20) (Nat.le_of_ble_eq_true rfl) (Nat.le_of_ble_eq_true rfl) ?_
  refine va_putF (D := D) (ci := 3) (v := .ref q2) (ty := .array .int) (C := RX3) (T := TX3) (N := 4) hx hb hts (fun _ h => List.mem_cons_of_mem _ (List.mem_append_right _ h)) tyX3 tyX3_ok nmX3 hown hK hP hD hS 0 rfl rfl 1 (by decide) (hts (.fieldLink RX3 15 "TalePlay$Casts" "lengths" "[I") (by decide +kernel)) (fun _ h9 => h9) rfl hin rfl (by decide +kernel) rfl rfl (Nat.le_of_ble_eq_true rfl) dX3_init_17 (fun H locs hP hD hS => ?_)
  have hP : va_P D vwCl [(ca, .inr (3, [.ref q1, .ref q2, .null, .int 0])), (q1, .inl (cA1, 10, .inl (fun _ => 0))), (q2, .inl (cA2, 10, .inl (fun _ => 0)))] H := hP
  have hD : va_D A [(ca, .inr (3, [.ref q1, .ref q2, .null, .int 0])), (q1, .inl (cA1, 10, .inl (fun _ => 0))), (q2, .inl (cA2, 10, .inl (fun _ => 0)))] := hD
  refine lv_aload_n hx hb dX3_init_20 rfl (lv_at hl 0 rfl) ?_
  refine lv_bipush (v := 120) hx hb dX3_init_21 (by decide) ?_
  refine va_newa (atype := .int) (ty := .int) (a0 := (120, .inl (fun _ => 0))) hx hb (hts (.arrayClass .int) (by decide +kernel)) rfl hK hP hD hS hA (fun _ => vp_cell_i _ _ _) (by decide) (N' := 120) (by decide) (show 120 * 4 ≤ 536870912 by omega) (Nat.le_of_ble_eq_true rfl) (Nat.le_of_ble_eq_true rfl) dX3_init_23 (fun q3 cA3 H hK hP hD hS => ?_)
  have hP : va_P D vwCl [(ca, .inr (3, [.ref q1, .ref q2, .null, .int 0])), (q1, .inl (cA1, 10, .inl (fun _ => 0))), (q2, .inl (cA2, 10, .inl (fun _ => 0))), (q3, .inl (cA3, 120, .inl (fun _ => 0)))] H := hP
  have hD : va_D A [(ca, .inr (3, [.ref q1, .ref q2, .null, .int 0])), (q1, .inl (cA1, 10, .inl (fun _ => 0))), (q2, .inl (cA2, 10, .inl (fun _ => 0))), (q3, .inl (cA3, 120, .inl (fun _ => 0)))] := hD
  have hK : va_K D vwCl [(cA1, .int), (cA2, .int), (cA3, .int)] s := hK
  refine W.widen (k := 3) (n := 140) (Nat.le_of_ble_eq_true rfl) (Nat.le_of_ble_eq_true rfl) ?_
  refine va_putF (D := D) (ci := 3) (v := .ref q3) (ty := .array .int) (C := RX3) (T := TX3) (N := 4) hx hb hts (fun _ h => List.mem_cons_of_mem _ (List.mem_append_right _ h)) tyX3 tyX3_ok nmX3 hown hK hP hD hS 0 rfl rfl 2 (by decide) (hts (.fieldLink RX3 18 "TalePlay$Casts" "roles" "[I") (by decide +kernel)) (fun _ h9 => h9) rfl hin rfl (by decide +kernel) rfl rfl (Nat.le_of_ble_eq_true rfl) dX3_init_25 (fun H locs hP hD hS => ?_)
  have hP : va_P D vwCl [(ca, .inr (3, [.ref q1, .ref q2, .ref q3, .int 0])), (q1, .inl (cA1, 10, .inl (fun _ => 0))), (q2, .inl (cA2, 10, .inl (fun _ => 0))), (q3, .inl (cA3, 120, .inl (fun _ => 0)))] H := hP
  have hD : va_D A [(ca, .inr (3, [.ref q1, .ref q2, .ref q3, .int 0])), (q1, .inl (cA1, 10, .inl (fun _ => 0))), (q2, .inl (cA2, 10, .inl (fun _ => 0))), (q3, .inl (cA3, 120, .inl (fun _ => 0)))] := hD
  refine lv_aload_n hx hb dX3_init_28 rfl (lv_at hl 0 rfl) ?_
  refine va_get (D := D) (ci := 3) (v := .ref q3) (C := RX3) (T := TX3) (N := 4) hx hb hts (fun _ h => List.mem_cons_of_mem _ (List.mem_append_right _ h)) hown hK hP 0 rfl rfl 2 (by decide) (hts (.fieldLink RX3 18 "TalePlay$Casts" "roles" "[I") (by decide +kernel)) (fun _ h9 => h9) rfl dX3_init_29 ?_
  refine lv_bipush (v := (-9)) hx hb dX3_init_32 (by decide) ?_
  have hPc := hP.sub (ws' := [(q3, .inl (cA3, 120, .inl (fun _ => 0)))]) [3] rfl
  have hKc := hK.sub (tys' := [(cA3, .int)]) [2] rfl
  have hDc := hD.sub (ws' := [(q3, .inl (cA3, 120, .inl (fun _ => 0)))]) [3] (by decide) rfl
  refine rw_callv (wr := [(ca, .inr (3, [.ref q1, .ref q2, .ref q3, .int 0])), (q1, .inl (cA1, 10, .inl (fun _ => 0))), (q2, .inl (cA2, 10, .inl (fun _ => 0)))]) (va_runS (As := [.ref q3, .int (-9)]) (rest := []) ⟨hx, hb, hml, hown, hts⟩ (c_J7_fill_53178 l D H.size q3 cA3 120 (fun _ => 0) (-9) (by omega)) (va_cwS 2 hts gX3_init_J7_fill_53178 rfl rfl rfl (by decide +kernel) ⟨Nat.le_of_ble_eq_true rfl, Nat.le_of_ble_eq_true rfl⟩) (pB_S hKc hPc hDc) rfl rfl hl.1 rfl (lv_room (Nat.le_of_ble_eq_true rfl)) dX3_init_34 ⟨Nat.le_of_ble_eq_true rfl, Nat.le_of_ble_eq_true rfl⟩) hS hA hK hP hD [3] [0, 1, 2] rfl rfl (by decide) (by decide) (fun u4 H locs hw4 hK hP hD hS => ?_)
  obtain ⟨g_4, rfl⟩ : ∃ z, z = u4 := ⟨_, rfl⟩
  have hw4 : (∀ j, j < 120 → g_4 j = (-9)) := hw4
  have hP : va_P D vwCl [(ca, .inr (3, [.ref q1, .ref q2, .ref q3, .int 0])), (q1, .inl (cA1, 10, .inl (fun _ => 0))), (q2, .inl (cA2, 10, .inl (fun _ => 0))), (q3, .inl (cA3, 120, .inl g_4))] H := hP
  have hD : va_D A [(ca, .inr (3, [.ref q1, .ref q2, .ref q3, .int 0])), (q1, .inl (cA1, 10, .inl (fun _ => 0))), (q2, .inl (cA2, 10, .inl (fun _ => 0))), (q3, .inl (cA3, 120, .inl g_4))] := hD
  have hK : va_K D vwCl [(cA1, .int), (cA2, .int), (cA3, .int)] s := hK
  exact rw_vret (q1, q2, q3, cA1, cA2) hx hb hr hlocks hS (hK.sub (tys' := [(cA1, .int), (cA2, .int)]) [0, 1] rfl) (hP.sub (ws' := [(ca, .inr (3, [.ref q1, .ref q2, .ref q3, .int 0])), (q1, .inl (cA1, 10, .inl (fun _ => 0))), (q2, .inl (cA2, 10, .inl (fun _ => 0)))]) [0, 1, 2] rfl) (hD.sub (ws' := [(ca, .inr (3, [.ref q1, .ref q2, .ref q3, .int 0])), (q1, .inl (cA1, 10, .inl (fun _ => 0))), (q2, .inl (cA2, 10, .inl (fun _ => 0)))]) [0, 1, 2] (by decide) rfl) dX3_init_37 trivial

set_option maxHeartbeats 4000000 in
set_option maxRecDepth 100000 in
theorem c_X11_init (l : Launch) (D : va_G) (sz : Nat) (x0 : Nat) : Met l yX11_init wsX11_init ({ frames := 3, cells := 50, slots := 4331, locals := 73 }) (va_Pc [.ref x0] (pB D sz [(x0, .inr (11, [.null, .null, .null, .null, .null, .null, .null, .null, .null, .int 0, .long 0]))] [])) (va_Qv (fun (u : Nat × Nat × Nat × Nat × Nat × Nat × Nat × Nat × Nat × Nat × Nat × Nat × Nat × ClassId × ClassId × ClassId × ClassId × ClassId × (Nat → Int32) × (Nat → Int32) × (Nat → Int32) × Nat × Nat × Nat × Nat × Nat × Nat × Nat × Nat × Nat × Nat × Nat × Nat × Nat × Nat × Nat × Nat × Nat × Nat × Nat × Nat × Nat × ClassId × ClassId × ClassId) => (∀ j, j < 144 → u.2.2.2.2.2.2.2.2.2.2.2.2.2.2.2.2.2.2.2.2.1 j = -9) ∧ (u.2.2.2.2.2.2.2.2.2.2.2.2.2.2.2.2.2.2.1 0 = -9) ∧ (u.2.2.2.2.2.2.2.2.2.2.2.2.2.2.2.2.2.2.1 1 = -9) ∧ (u.2.2.2.2.2.2.2.2.2.2.2.2.2.2.2.2.2.2.1 2 = 1) ∧ (u.2.2.2.2.2.2.2.2.2.2.2.2.2.2.2.2.2.2.1 3 = 1) ∧ (u.2.2.2.2.2.2.2.2.2.2.2.2.2.2.2.2.2.2.1 4 = 1) ∧ (u.2.2.2.2.2.2.2.2.2.2.2.2.2.2.2.2.2.2.1 5 = 1)) (oC D (va_A [(x0, .inr (11, [.null, .null, .null, .null, .null, .null, .null, .null, .null, .int 0, .long 0]))] sz) (fun u => [(x0, .inr (11, [.ref u.1, .ref u.2.1, .ref u.2.2.1, .ref u.2.2.2.1, .ref u.2.2.2.2.1, .ref u.2.2.2.2.2.1, .ref u.2.2.2.2.2.2.1, .null, .ref u.2.2.2.2.2.2.2.1, .int 0, .long 0])), (u.1, .inr (10, [.ref u.2.2.2.2.2.2.2.2.1, .ref u.2.2.2.2.2.2.2.2.2.1, .ref u.2.2.2.2.2.2.2.2.2.2.1, .ref u.2.2.2.2.2.2.2.2.2.2.2.1, .ref u.2.2.2.2.2.2.2.2.2.2.2.2.1, .int 6, .int 0])), (u.2.2.2.2.2.2.2.2.1, .inl (u.2.2.2.2.2.2.2.2.2.2.2.2.2.1, 24, .inl u.2.2.2.2.2.2.2.2.2.2.2.2.2.2.2.2.2.2.1)), (u.2.2.2.2.2.2.2.2.2.1, .inl (u.2.2.2.2.2.2.2.2.2.2.2.2.2.2.1, 24, .inl u.2.2.2.2.2.2.2.2.2.2.2.2.2.2.2.2.2.2.2.1)), (u.2.2.2.2.2.2.2.2.2.2.1, .inl (u.2.2.2.2.2.2.2.2.2.2.2.2.2.2.2.1, 144, .inl u.2.2.2.2.2.2.2.2.2.2.2.2.2.2.2.2.2.2.2.2.1)), (u.2.2.2.2.2.2.2.2.2.2.2.1, .inl (u.2.2.2.2.2.2.2.2.2.2.2.2.2.2.2.2.1, 30, .inl (fun _ => 0))), (u.2.2.2.2.2.2.2.2.2.2.2.2.1, .inl (u.2.2.2.2.2.2.2.2.2.2.2.2.2.2.2.2.2.1, 30, .inl (fun _ => 0))), (u.2.1, .inr (1, [.ref u.1, .ref u.2.2.2.2.2.2.2.2.2.2.2.2.2.2.2.2.2.2.2.2.2.1, .ref u.2.2.2.2.2.2.2.2.2.2.2.2.2.2.2.2.2.2.2.2.2.2.1, .ref u.2.2.2.2.2.2.2.2.2.2.2.2.2.2.2.2.2.2.2.2.2.2.2.1, .ref u.2.2.2.2.2.2.2.2.2.2.2.2.2.2.2.2.2.2.2.2.2.2.2.2.1, .ref u.2.2.2.2.2.2.2.2.2.2.2.2.2.2.2.2.2.2.2.2.2.2.2.2.2.1, .ref u.2.2.2.2.2.2.2.2.2.2.2.2.2.2.2.2.2.2.2.2.2.2.2.2.2.2.1, .ref u.2.2.2.2.2.2.2.2.2.2.2.2.2.2.2.2.2.2.2.2.2.2.2.2.2.2.2.1, .ref u.2.2.2.2.2.2.2.2.2.2.2.2.2.2.2.2.2.2.2.2.2.2.2.2.2.2.2.2.1, .ref u.2.2.2.2.2.2.2.2.2.2.2.2.2.2.2.2.2.2.2.2.2.2.2.2.2.2.2.2.2.1, .ref u.2.2.2.2.2.2.2.2.2.2.2.2.2.2.2.2.2.2.2.2.2.2.2.2.2.2.2.2.2.2.1, .ref u.2.2.2.2.2.2.2.2.2.2.2.2.2.2.2.2.2.2.2.2.2.2.2.2.2.2.2.2.2.2.2.1, .int 0, .int 0, .int 0])), (u.2.2.2.1, .inr (2, [.ref u.1, .ref u.2.2.2.2.2.2.2.2.2.2.2.2.2.2.2.2.2.2.2.2.2.2.2.2.2.2.2.2.2.2.2.2.1, .int 0, .int 0])), (u.2.2.2.2.1, .inr (9, [.ref u.1, .ref u.2.1, .ref u.2.2.2.2.2.2.2.2.2.2.2.2.2.2.2.2.2.2.2.2.2.2.2.2.2.2.2.2.2.2.2.2.2.1, .ref u.2.2.2.2.2.2.2.2.2.2.2.2.2.2.2.2.2.2.2.2.2.2.2.2.2.2.2.2.2.2.2.2.2.2.1, .ref u.2.2.2.2.2.2.2.2.2.2.2.2.2.2.2.2.2.2.2.2.2.2.2.2.2.2.2.2.2.2.2.2.2.2.2.1, .ref u.2.2.2.2.2.2.2.2.2.2.2.2.2.2.2.2.2.2.2.2.2.2.2.2.2.2.2.2.2.2.2.2.2.2.2.2.1, .ref u.2.2.2.2.2.2.2.2.2.2.2.2.2.2.2.2.2.2.2.2.2.2.2.2.2.2.2.2.2.2.2.2.2.2.2.2.2.1, .ref u.2.2.2.2.2.2.2.2.2.2.2.2.2.2.2.2.2.2.2.2.2.2.2.2.2.2.2.2.2.2.2.2.2.2.2.2.2.2.1, .int 0, .int (-9), .int 0])), (u.2.2.2.2.2.2.1, .inr (3, [.ref u.2.2.2.2.2.2.2.2.2.2.2.2.2.2.2.2.2.2.2.2.2.2.2.2.2.2.2.2.2.2.2.2.2.2.2.2.2.2.2.1, .ref u.2.2.2.2.2.2.2.2.2.2.2.2.2.2.2.2.2.2.2.2.2.2.2.2.2.2.2.2.2.2.2.2.2.2.2.2.2.2.2.2.1, .ref u.2.2.2.2.2.2.2.2.2.2.2.2.2.2.2.2.2.2.2.2.2.2.2.2.2.2.2.2.2.2.2.2.2.2.2.2.2.2.2.2.2.1, .int 0])), (u.2.2.2.2.2.2.2.2.2.2.2.2.2.2.2.2.2.2.2.2.2.2.2.2.2.2.2.2.2.2.2.2.2.2.2.2.2.2.2.1, .inl (u.2.2.2.2.2.2.2.2.2.2.2.2.2.2.2.2.2.2.2.2.2.2.2.2.2.2.2.2.2.2.2.2.2.2.2.2.2.2.2.2.2.2.2.1, 10, .inl (fun _ => 0))), (u.2.2.2.2.2.2.2.2.2.2.2.2.2.2.2.2.2.2.2.2.2.2.2.2.2.2.2.2.2.2.2.2.2.2.2.2.2.2.2.2.1, .inl (u.2.2.2.2.2.2.2.2.2.2.2.2.2.2.2.2.2.2.2.2.2.2.2.2.2.2.2.2.2.2.2.2.2.2.2.2.2.2.2.2.2.2.2.2, 10, .inl (fun _ => 0))), (u.2.2.2.2.2.2.2.1, .inl (u.2.2.2.2.2.2.2.2.2.2.2.2.2.2.2.2.2.2.2.2.2.2.2.2.2.2.2.2.2.2.2.2.2.2.2.2.2.2.2.2.2.2.1, 7, .inl (fun _ => 0)))]) (fun u => [(u.2.2.2.2.2.2.2.2.2.2.2.2.2.1, .int), (u.2.2.2.2.2.2.2.2.2.2.2.2.2.2.1, .int), (u.2.2.2.2.2.2.2.2.2.2.2.2.2.2.2.1, .int), (u.2.2.2.2.2.2.2.2.2.2.2.2.2.2.2.2.1, .int), (u.2.2.2.2.2.2.2.2.2.2.2.2.2.2.2.2.2.1, .int), (u.2.2.2.2.2.2.2.2.2.2.2.2.2.2.2.2.2.2.2.2.2.2.2.2.2.2.2.2.2.2.2.2.2.2.2.2.2.2.2.2.2.2.2.1, .int), (u.2.2.2.2.2.2.2.2.2.2.2.2.2.2.2.2.2.2.2.2.2.2.2.2.2.2.2.2.2.2.2.2.2.2.2.2.2.2.2.2.2.2.2.2, .int), (u.2.2.2.2.2.2.2.2.2.2.2.2.2.2.2.2.2.2.2.2.2.2.2.2.2.2.2.2.2.2.2.2.2.2.2.2.2.2.2.2.2.2.1, .int)])) (va_A [(x0, .inr (11, [.null, .null, .null, .null, .null, .null, .null, .null, .null, .int 0, .long 0]))] sz)) 50 4331 (va_A [(x0, .inr (11, [.null, .null, .null, .null, .null, .null, .null, .null, .null, .int 0, .long 0]))] sz) := by
  refine Met.ofW (cc := cX11_init) (maxL := 1) (ret := none) (by decide) rfl ?_
  intro p e s m args below meth c s₁ B hml hv
  obtain ⟨rfl, hsz, hP, hK, hD0⟩ := hv
  have hx := B.exec
  have hb := B.bytes
  have hr := B.returns
  have hts := atoms_spec (ws := wsX11_init) B.pre
  have hown : s.vm.findClass RX11 = some m.cls := findClass_of_methodNamed B.named
  have hlocks := B.notSynchronized
  have hin : meth.name = "<init>" := (name_of_methodNamed B.named B.method).1
  subst hsz
  have hD := hD0.self (sz := s.heap.size)
  generalize hAe : va_A [(x0, .inr (11, [.null, .null, .null, .null, .null, .null, .null, .null, .null, .int 0, .long 0]))] s.heap.size = A at hD ⊢
  have hA : ∀ q : Nat, s.heap.size ≤ q → A q := fun q h => by rw [← hAe]; exact Or.inr h
  have hS : va_S A s.heap s.heap [] := va_S.rf
  have hP : va_P D vwCl [(x0, .inr (11, [.null, .null, .null, .null, .null, .null, .null, .null, .null, .int 0, .long 0]))] s.heap := hP
  have hl := lv_entry ([.ref x0]) (n := 1) (Nat.le_of_ble_eq_true rfl)
  rw [lg_entry_eq]
  generalize (lg_sl ([.ref x0]) ++ List.replicate (1 - (lg_sl ([.ref x0])).length) Slot.unset).toArray = ls at hl ⊢
  have hl : lv_has ls 1 [(0, .ref x0)] := hl
  refine lv_aload_n hx hb dX11_init_0 rfl (lv_at hl 0 rfl) ?_
  refine W.objInit hx hb hown (hts (.methodLink RX11 1 objectInit) (by decide +kernel)) (hts (.instanceMethod objectInit) (by decide +kernel)) (hts (.code objectInit ⟨#[0xb1]⟩ 1 none) (by decide +kernel)) rfl (by rw [hml]; exact hl.1) rfl dX11_init_1 (Nat.le_of_ble_eq_true rfl) (Nat.le_of_ble_eq_true rfl) ?_
  refine W.eq (g2 := F0 m 4 ls []) rfl ?_
  refine lv_aload_n hx hb dX11_init_4 rfl (lv_at hl 0 rfl) ?_
  refine va_new (ci := 10) (fs := [.null, .null, .null, .null, .null, .int 0, .int 0]) (C := RX10) (T := TX10) (N := 7) hx hb hts (fun _ h => List.mem_cons_of_mem _ (List.mem_append_left _ (List.mem_append_left _ (List.mem_append_left _ (List.mem_append_left _ (List.mem_append_left _ (List.mem_append_left _ (List.mem_append_left _ (List.mem_append_left _ (List.mem_append_left _ (List.mem_append_left _ (List.mem_append_right _ h)))))))))))) tyX10 tyX10_ok hown (hts (.classLink RX11 7 RX10) (by decide +kernel)) (hts (.instantiable RX10 7) (by decide +kernel)) (hts (.initialized RX10) (by decide +kernel)) hK hP hD hS hA rfl (by decide +kernel) (Nat.le_of_ble_eq_true rfl) (Nat.le_of_ble_eq_true rfl) dX11_init_5 (fun q1 H hP hD hS => ?_)
  have hP : va_P D vwCl [(x0, .inr (11, [.null, .null, .null, .null, .null, .null, .null, .null, .null, .int 0, .long 0])), (q1, .inr (10, [.null, .null, .null, .null, .null, .int 0, .int 0]))] H := hP
  have hD : va_D A [(x0, .inr (11, [.null, .null, .null, .null, .null, .null, .null, .null, .null, .int 0, .long 0])), (q1, .inr (10, [.null, .null, .null, .null, .null, .int 0, .int 0]))] := hD
  refine W.widen (k := 1) (n := 7) (Nat.le_of_ble_eq_true rfl) (Nat.le_of_ble_eq_true rfl) ?_
  refine lv_dup hx hb dX11_init_8 rfl ?_
  have hPc := hP.sub (ws' := [(q1, .inr (10, [.null, .null, .null, .null, .null, .int 0, .int 0]))]) [1] rfl
  have hKc := hK.sub (tys' := []) [] rfl
  have hDc := hD.sub (ws' := [(q1, .inr (10, [.null, .null, .null, .null, .null, .int 0, .int 0]))]) [1] (by decide) rfl
  refine rw_callv (wr := [(x0, .inr (11, [.null, .null, .null, .null, .null, .null, .null, .null, .null, .int 0, .long 0]))]) (va_runI (As := []) (rest := [.ref q1, .ref x0]) ⟨hx, hb, hml, hown, hts⟩ (c_X10_init l D H.size q1) (cwI 0 hts gX11_init_X10_init rfl rfl rfl (hts (.initialized RX10) (by decide +kernel)) (hts (.methodLink RX11 9 yX10_init) (by decide +kernel)) (hts (.instanceMethod yX10_init) (by decide +kernel)) rfl (by decide +kernel) ⟨Nat.le_of_ble_eq_true rfl, Nat.le_of_ble_eq_true rfl⟩) (pB_S hKc hPc hDc) rfl rfl hl.1 rfl (lv_room (Nat.le_of_ble_eq_true rfl)) dX11_init_9 ⟨Nat.le_of_ble_eq_true rfl, Nat.le_of_ble_eq_true rfl⟩) hS hA hK hP hD [1] [0] rfl rfl (by decide) (by decide) (fun u2 H locs hw2 hK hP hD hS => ?_)
  obtain ⟨wp_2, ws__2, wd_2, wk_2, wz_2, cP_2, cS_2, cD_2, cK_2, cZ_2, fp_2, fs_2, fd_2⟩ := u2
  have hw2 : (∀ j, j < 144 → fd_2 j = -9) ∧ (fp_2 0 = -9) ∧ (fp_2 1 = -9) ∧ (fp_2 2 = 1) ∧ (fp_2 3 = 1) ∧ (fp_2 4 = 1) ∧ (fp_2 5 = 1) := hw2
  obtain ⟨hw2_0, hw2_1, hw2_2, hw2_3, hw2_4, hw2_5, hw2_6⟩ := hw2
  have hP : va_P D vwCl [(x0, .inr (11, [.null, .null, .null, .null, .null, .null, .null, .null, .null, .int 0, .long 0])), (q1, .inr (10, [.ref wp_2, .ref ws__2, .ref wd_2, .ref wk_2, .ref wz_2, .int 6, .int 0])), (wp_2, .inl (cP_2, 24, .inl fp_2)), (ws__2, .inl (cS_2, 24, .inl fs_2)), (wd_2, .inl (cD_2, 144, .inl fd_2)), (wk_2, .inl (cK_2, 30, .inl (fun _ => 0))), (wz_2, .inl (cZ_2, 30, .inl (fun _ => 0)))] H := hP
  have hD : va_D A [(x0, .inr (11, [.null, .null, .null, .null, .null, .null, .null, .null, .null, .int 0, .long 0])), (q1, .inr (10, [.ref wp_2, .ref ws__2, .ref wd_2, .ref wk_2, .ref wz_2, .int 6, .int 0])), (wp_2, .inl (cP_2, 24, .inl fp_2)), (ws__2, .inl (cS_2, 24, .inl fs_2)), (wd_2, .inl (cD_2, 144, .inl fd_2)), (wk_2, .inl (cK_2, 30, .inl (fun _ => 0))), (wz_2, .inl (cZ_2, 30, .inl (fun _ => 0)))] := hD
  have hK : va_K D vwCl [(cP_2, .int), (cS_2, .int), (cD_2, .int), (cK_2, .int), (cZ_2, .int)] s := hK
  refine W.widen (k := 6) (n := 259) (Nat.le_of_ble_eq_true rfl) (Nat.le_of_ble_eq_true rfl) ?_
  refine va_putF (D := D) (ci := 11) (v := .ref q1) (ty := .object "TalePlay$World") (C := RX11) (T := TX11) (N := 11) hx hb hts (fun _ h => List.mem_cons_of_mem _ (List.mem_append_left _ (List.mem_append_left _ (List.mem_append_left _ (List.mem_append_left _ (List.mem_append_left _ (List.mem_append_left _ (List.mem_append_left _ (List.mem_append_left _ (List.mem_append_left _ (List.mem_append_right _ h))))))))))) tyX11 tyX11_ok nmX11 hown hK hP hD hS 0 rfl rfl 0 (by decide) (hts (.fieldLink RX11 10 "TalePlay" "world" "LTalePlay$World;") (by decide +kernel)) (fun _ h9 => h9) rfl hin rfl (by decide +kernel) rfl rfl (Nat.le_of_ble_eq_true rfl) dX11_init_12 (fun H locs hP hD hS => ?_)
  have hP : va_P D vwCl [(x0, .inr (11, [.ref q1, .null, .null, .null, .null, .null, .null, .null, .null, .int 0, .long 0])), (q1, .inr (10, [.ref wp_2, .ref ws__2, .ref wd_2, .ref wk_2, .ref wz_2, .int 6, .int 0])), (wp_2, .inl (cP_2, 24, .inl fp_2)), (ws__2, .inl (cS_2, 24, .inl fs_2)), (wd_2, .inl (cD_2, 144, .inl fd_2)), (wk_2, .inl (cK_2, 30, .inl (fun _ => 0))), (wz_2, .inl (cZ_2, 30, .inl (fun _ => 0)))] H := hP
  have hD : va_D A [(x0, .inr (11, [.ref q1, .null, .null, .null, .null, .null, .null, .null, .null, .int 0, .long 0])), (q1, .inr (10, [.ref wp_2, .ref ws__2, .ref wd_2, .ref wk_2, .ref wz_2, .int 6, .int 0])), (wp_2, .inl (cP_2, 24, .inl fp_2)), (ws__2, .inl (cS_2, 24, .inl fs_2)), (wd_2, .inl (cD_2, 144, .inl fd_2)), (wk_2, .inl (cK_2, 30, .inl (fun _ => 0))), (wz_2, .inl (cZ_2, 30, .inl (fun _ => 0)))] := hD
  refine lv_aload_n hx hb dX11_init_15 rfl (lv_at hl 0 rfl) ?_
  refine va_new (ci := 1) (fs := [.null, .null, .null, .null, .null, .null, .null, .null, .null, .null, .null, .null, .int 0, .int 0, .int 0]) (C := RX1) (T := TX1) (N := 15) hx hb hts (fun _ h => List.mem_cons_of_mem _ (List.mem_append_left _ (List.mem_append_left _ (List.mem_append_left _ (List.mem_append_left _ (List.mem_append_left _ (List.mem_append_left _ (List.mem_append_left _ (List.mem_append_left _ (List.mem_append_right _ h)))))))))) tyX1 tyX1_ok hown (hts (.classLink RX11 16 RX1) (by decide +kernel)) (hts (.instantiable RX1 15) (by decide +kernel)) (hts (.initialized RX1) (by decide +kernel)) hK hP hD hS hA rfl (by decide +kernel) (Nat.le_of_ble_eq_true rfl) (Nat.le_of_ble_eq_true rfl) dX11_init_16 (fun q3 H hP hD hS => ?_)
  have hP : va_P D vwCl [(x0, .inr (11, [.ref q1, .null, .null, .null, .null, .null, .null, .null, .null, .int 0, .long 0])), (q1, .inr (10, [.ref wp_2, .ref ws__2, .ref wd_2, .ref wk_2, .ref wz_2, .int 6, .int 0])), (wp_2, .inl (cP_2, 24, .inl fp_2)), (ws__2, .inl (cS_2, 24, .inl fs_2)), (wd_2, .inl (cD_2, 144, .inl fd_2)), (wk_2, .inl (cK_2, 30, .inl (fun _ => 0))), (wz_2, .inl (cZ_2, 30, .inl (fun _ => 0))), (q3, .inr (1, [.null, .null, .null, .null, .null, .null, .null, .null, .null, .null, .null, .null, .int 0, .int 0, .int 0]))] H := hP
  have hD : va_D A [(x0, .inr (11, [.ref q1, .null, .null, .null, .null, .null, .null, .null, .null, .int 0, .long 0])), (q1, .inr (10, [.ref wp_2, .ref ws__2, .ref wd_2, .ref wk_2, .ref wz_2, .int 6, .int 0])), (wp_2, .inl (cP_2, 24, .inl fp_2)), (ws__2, .inl (cS_2, 24, .inl fs_2)), (wd_2, .inl (cD_2, 144, .inl fd_2)), (wk_2, .inl (cK_2, 30, .inl (fun _ => 0))), (wz_2, .inl (cZ_2, 30, .inl (fun _ => 0))), (q3, .inr (1, [.null, .null, .null, .null, .null, .null, .null, .null, .null, .null, .null, .null, .int 0, .int 0, .int 0]))] := hD
  refine W.widen (k := 7) (n := 274) (Nat.le_of_ble_eq_true rfl) (Nat.le_of_ble_eq_true rfl) ?_
  refine lv_dup hx hb dX11_init_19 rfl ?_
  refine lv_aload_n hx hb dX11_init_20 rfl (lv_at hl 0 rfl) ?_
  refine va_get (D := D) (ci := 11) (v := .ref q1) (C := RX11) (T := TX11) (N := 11) hx hb hts (fun _ h => List.mem_cons_of_mem _ (List.mem_append_left _ (List.mem_append_left _ (List.mem_append_left _ (List.mem_append_left _ (List.mem_append_left _ (List.mem_append_left _ (List.mem_append_left _ (List.mem_append_left _ (List.mem_append_left _ (List.mem_append_right _ h))))))))))) hown hK hP 0 rfl rfl 0 (by decide) (hts (.fieldLink RX11 10 "TalePlay" "world" "LTalePlay$World;") (by decide +kernel)) (fun _ h9 => h9) rfl dX11_init_21 ?_
  have hPc := hP.sub (ws' := [(q3, .inr (1, [.null, .null, .null, .null, .null, .null, .null, .null, .null, .null, .null, .null, .int 0, .int 0, .int 0]))]) [7] rfl
  have hKc := hK.sub (tys' := []) [] rfl
  have hDc := hD.sub (ws' := [(q3, .inr (1, [.null, .null, .null, .null, .null, .null, .null, .null, .null, .null, .null, .null, .int 0, .int 0, .int 0]))]) [7] (by decide) rfl
  refine rw_callv (wr := [(x0, .inr (11, [.ref q1, .null, .null, .null, .null, .null, .null, .null, .null, .int 0, .long 0])), (q1, .inr (10, [.ref wp_2, .ref ws__2, .ref wd_2, .ref wk_2, .ref wz_2, .int 6, .int 0])), (wp_2, .inl (cP_2, 24, .inl fp_2)), (ws__2, .inl (cS_2, 24, .inl fs_2)), (wd_2, .inl (cD_2, 144, .inl fd_2)), (wk_2, .inl (cK_2, 30, .inl (fun _ => 0))), (wz_2, .inl (cZ_2, 30, .inl (fun _ => 0)))]) (va_runI (As := [.ref q1]) (rest := [.ref q3, .ref x0]) ⟨hx, hb, hml, hown, hts⟩ (c_X1_init l D H.size q3 q1) (cwI 1 hts gX11_init_X1_init rfl rfl rfl (hts (.initialized RX1) (by decide +kernel)) (hts (.methodLink RX11 18 yX1_init) (by decide +kernel)) (hts (.instanceMethod yX1_init) (by decide +kernel)) rfl (by decide +kernel) ⟨Nat.le_of_ble_eq_true rfl, Nat.le_of_ble_eq_true rfl⟩) (pB_S hKc hPc hDc) rfl rfl hl.1 rfl (lv_room (Nat.le_of_ble_eq_true rfl)) dX11_init_24 ⟨Nat.le_of_ble_eq_true rfl, Nat.le_of_ble_eq_true rfl⟩) hS hA hK hP hD [7] [0, 1, 2, 3, 4, 5, 6] rfl rfl (by decide) (by decide) (fun u4 H locs hw4 hK hP hD hS => ?_)
  obtain ⟨b0_4, b1_4, b2_4, b3_4, b4_4, b5_4, b6_4, b7_4, b8_4, b9_4, b10_4⟩ := u4
  have hP : va_P D vwCl [(x0, .inr (11, [.ref q1, .null, .null, .null, .null, .null, .null, .null, .null, .int 0, .long 0])), (q1, .inr (10, [.ref wp_2, .ref ws__2, .ref wd_2, .ref wk_2, .ref wz_2, .int 6, .int 0])), (wp_2, .inl (cP_2, 24, .inl fp_2)), (ws__2, .inl (cS_2, 24, .inl fs_2)), (wd_2, .inl (cD_2, 144, .inl fd_2)), (wk_2, .inl (cK_2, 30, .inl (fun _ => 0))), (wz_2, .inl (cZ_2, 30, .inl (fun _ => 0))), (q3, .inr (1, [.ref q1, .ref b0_4, .ref b1_4, .ref b2_4, .ref b3_4, .ref b4_4, .ref b5_4, .ref b6_4, .ref b7_4, .ref b8_4, .ref b9_4, .ref b10_4, .int 0, .int 0, .int 0]))] H := hP
  have hD : va_D A [(x0, .inr (11, [.ref q1, .null, .null, .null, .null, .null, .null, .null, .null, .int 0, .long 0])), (q1, .inr (10, [.ref wp_2, .ref ws__2, .ref wd_2, .ref wk_2, .ref wz_2, .int 6, .int 0])), (wp_2, .inl (cP_2, 24, .inl fp_2)), (ws__2, .inl (cS_2, 24, .inl fs_2)), (wd_2, .inl (cD_2, 144, .inl fd_2)), (wk_2, .inl (cK_2, 30, .inl (fun _ => 0))), (wz_2, .inl (cZ_2, 30, .inl (fun _ => 0))), (q3, .inr (1, [.ref q1, .ref b0_4, .ref b1_4, .ref b2_4, .ref b3_4, .ref b4_4, .ref b5_4, .ref b6_4, .ref b7_4, .ref b8_4, .ref b9_4, .ref b10_4, .int 0, .int 0, .int 0]))] := hD
  have hK : va_K D vwCl [(cP_2, .int), (cS_2, .int), (cD_2, .int), (cK_2, .int), (cZ_2, .int)] s := hK
  refine W.widen (k := 19) (n := 1876) (Nat.le_of_ble_eq_true rfl) (Nat.le_of_ble_eq_true rfl) ?_
  refine va_putF (D := D) (ci := 11) (v := .ref q3) (ty := .object "TalePlay$Book") (C := RX11) (T := TX11) (N := 11) hx hb hts (fun _ h => List.mem_cons_of_mem _ (List.mem_append_left _ (List.mem_append_left _ (List.mem_append_left _ (List.mem_append_left _ (List.mem_append_left _ (List.mem_append_left _ (List.mem_append_left _ (List.mem_append_left _ (List.mem_append_left _ (List.mem_append_right _ h))))))))))) tyX11 tyX11_ok nmX11 hown hK hP hD hS 0 rfl rfl 1 (by decide) (hts (.fieldLink RX11 21 "TalePlay" "book" "LTalePlay$Book;") (by decide +kernel)) (fun _ h9 => h9) rfl hin rfl (by decide +kernel) rfl rfl (Nat.le_of_ble_eq_true rfl) dX11_init_27 (fun H locs hP hD hS => ?_)
  have hP : va_P D vwCl [(x0, .inr (11, [.ref q1, .ref q3, .null, .null, .null, .null, .null, .null, .null, .int 0, .long 0])), (q1, .inr (10, [.ref wp_2, .ref ws__2, .ref wd_2, .ref wk_2, .ref wz_2, .int 6, .int 0])), (wp_2, .inl (cP_2, 24, .inl fp_2)), (ws__2, .inl (cS_2, 24, .inl fs_2)), (wd_2, .inl (cD_2, 144, .inl fd_2)), (wk_2, .inl (cK_2, 30, .inl (fun _ => 0))), (wz_2, .inl (cZ_2, 30, .inl (fun _ => 0))), (q3, .inr (1, [.ref q1, .ref b0_4, .ref b1_4, .ref b2_4, .ref b3_4, .ref b4_4, .ref b5_4, .ref b6_4, .ref b7_4, .ref b8_4, .ref b9_4, .ref b10_4, .int 0, .int 0, .int 0]))] H := hP
  have hD : va_D A [(x0, .inr (11, [.ref q1, .ref q3, .null, .null, .null, .null, .null, .null, .null, .int 0, .long 0])), (q1, .inr (10, [.ref wp_2, .ref ws__2, .ref wd_2, .ref wk_2, .ref wz_2, .int 6, .int 0])), (wp_2, .inl (cP_2, 24, .inl fp_2)), (ws__2, .inl (cS_2, 24, .inl fs_2)), (wd_2, .inl (cD_2, 144, .inl fd_2)), (wk_2, .inl (cK_2, 30, .inl (fun _ => 0))), (wz_2, .inl (cZ_2, 30, .inl (fun _ => 0))), (q3, .inr (1, [.ref q1, .ref b0_4, .ref b1_4, .ref b2_4, .ref b3_4, .ref b4_4, .ref b5_4, .ref b6_4, .ref b7_4, .ref b8_4, .ref b9_4, .ref b10_4, .int 0, .int 0, .int 0]))] := hD
  refine lv_aload_n hx hb dX11_init_30 rfl (lv_at hl 0 rfl) ?_
  refine va_new (ci := 5) (fs := [.null, .null, .null, .null, .null, .null, .null, .null, .null, .null, .null]) (C := RX5) (T := TX5) (N := 11) hx hb hts (fun _ h => List.mem_cons_of_mem _ (List.mem_append_left _ (List.mem_append_left _ (List.mem_append_left _ (List.mem_append_left _ (List.mem_append_left _ (List.mem_append_left _ (List.mem_append_left _ (List.mem_append_right _ h))))))))) tyX5 tyX5_ok hown (hts (.classLink RX11 25 RX5) (by decide +kernel)) (hts (.instantiable RX5 11) (by decide +kernel)) (hts (.initialized RX5) (by decide +kernel)) hK hP hD hS hA rfl (by decide +kernel) (Nat.le_of_ble_eq_true rfl) (Nat.le_of_ble_eq_true rfl) dX11_init_31 (fun q5 H hP hD hS => ?_)
  have hP : va_P D vwCl [(x0, .inr (11, [.ref q1, .ref q3, .null, .null, .null, .null, .null, .null, .null, .int 0, .long 0])), (q1, .inr (10, [.ref wp_2, .ref ws__2, .ref wd_2, .ref wk_2, .ref wz_2, .int 6, .int 0])), (wp_2, .inl (cP_2, 24, .inl fp_2)), (ws__2, .inl (cS_2, 24, .inl fs_2)), (wd_2, .inl (cD_2, 144, .inl fd_2)), (wk_2, .inl (cK_2, 30, .inl (fun _ => 0))), (wz_2, .inl (cZ_2, 30, .inl (fun _ => 0))), (q3, .inr (1, [.ref q1, .ref b0_4, .ref b1_4, .ref b2_4, .ref b3_4, .ref b4_4, .ref b5_4, .ref b6_4, .ref b7_4, .ref b8_4, .ref b9_4, .ref b10_4, .int 0, .int 0, .int 0])), (q5, .inr (5, [.null, .null, .null, .null, .null, .null, .null, .null, .null, .null, .null]))] H := hP
  have hD : va_D A [(x0, .inr (11, [.ref q1, .ref q3, .null, .null, .null, .null, .null, .null, .null, .int 0, .long 0])), (q1, .inr (10, [.ref wp_2, .ref ws__2, .ref wd_2, .ref wk_2, .ref wz_2, .int 6, .int 0])), (wp_2, .inl (cP_2, 24, .inl fp_2)), (ws__2, .inl (cS_2, 24, .inl fs_2)), (wd_2, .inl (cD_2, 144, .inl fd_2)), (wk_2, .inl (cK_2, 30, .inl (fun _ => 0))), (wz_2, .inl (cZ_2, 30, .inl (fun _ => 0))), (q3, .inr (1, [.ref q1, .ref b0_4, .ref b1_4, .ref b2_4, .ref b3_4, .ref b4_4, .ref b5_4, .ref b6_4, .ref b7_4, .ref b8_4, .ref b9_4, .ref b10_4, .int 0, .int 0, .int 0])), (q5, .inr (5, [.null, .null, .null, .null, .null, .null, .null, .null, .null, .null, .null]))] := hD
  refine W.widen (k := 20) (n := 1887) (Nat.le_of_ble_eq_true rfl) (Nat.le_of_ble_eq_true rfl) ?_
  refine lv_dup hx hb dX11_init_34 rfl ?_
  refine lv_aload_n hx hb dX11_init_35 rfl (lv_at hl 0 rfl) ?_
  refine va_get (D := D) (ci := 11) (v := .ref q1) (C := RX11) (T := TX11) (N := 11) hx hb hts (fun _ h => List.mem_cons_of_mem _ (List.mem_append_left _ (List.mem_append_left _ (List.mem_append_left _ (List.mem_append_left _ (List.mem_append_left _ (List.mem_append_left _ (List.mem_append_left _ (List.mem_append_left _ (List.mem_append_left _ (List.mem_append_right _ h))))))))))) hown hK hP 0 rfl rfl 0 (by decide) (hts (.fieldLink RX11 10 "TalePlay" "world" "LTalePlay$World;") (by decide +kernel)) (fun _ h9 => h9) rfl dX11_init_36 ?_
  refine lv_aload_n hx hb dX11_init_39 rfl (lv_at hl 0 rfl) ?_
  refine va_get (D := D) (ci := 11) (v := .ref q3) (C := RX11) (T := TX11) (N := 11) hx hb hts (fun _ h => List.mem_cons_of_mem _ (List.mem_append_left _ (List.mem_append_left _ (List.mem_append_left _ (List.mem_append_left _ (List.mem_append_left _ (List.mem_append_left _ (List.mem_append_left _ (List.mem_append_left _ (List.mem_append_left _ (List.mem_append_right _ h))))))))))) hown hK hP 0 rfl rfl 1 (by decide) (hts (.fieldLink RX11 21 "TalePlay" "book" "LTalePlay$Book;") (by decide +kernel)) (fun _ h9 => h9) rfl dX11_init_40 ?_
  have hPc := hP.sub (ws' := [(q5, .inr (5, [.null, .null, .null, .null, .null, .null, .null, .null, .null, .null, .null]))]) [8] rfl
  have hKc := hK.sub (tys' := []) [] rfl
  have hDc := hD.sub (ws' := [(q5, .inr (5, [.null, .null, .null, .null, .null, .null, .null, .null, .null, .null, .null]))]) [8] (by decide) rfl
  refine rw_callv (wr := [(x0, .inr (11, [.ref q1, .ref q3, .null, .null, .null, .null, .null, .null, .null, .int 0, .long 0])), (q1, .inr (10, [.ref wp_2, .ref ws__2, .ref wd_2, .ref wk_2, .ref wz_2, .int 6, .int 0])), (wp_2, .inl (cP_2, 24, .inl fp_2)), (ws__2, .inl (cS_2, 24, .inl fs_2)), (wd_2, .inl (cD_2, 144, .inl fd_2)), (wk_2, .inl (cK_2, 30, .inl (fun _ => 0))), (wz_2, .inl (cZ_2, 30, .inl (fun _ => 0))), (q3, .inr (1, [.ref q1, .ref b0_4, .ref b1_4, .ref b2_4, .ref b3_4, .ref b4_4, .ref b5_4, .ref b6_4, .ref b7_4, .ref b8_4, .ref b9_4, .ref b10_4, .int 0, .int 0, .int 0]))]) (va_runI (As := [.ref q1, .ref q3]) (rest := [.ref q5, .ref x0]) ⟨hx, hb, hml, hown, hts⟩ (c_X5_init l D H.size q5 q1 q3) (cwI 2 hts gX11_init_X5_init rfl rfl rfl (hts (.initialized RX5) (by decide +kernel)) (hts (.methodLink RX11 27 yX5_init) (by decide +kernel)) (hts (.instanceMethod yX5_init) (by decide +kernel)) rfl (by decide +kernel) ⟨Nat.le_of_ble_eq_true rfl, Nat.le_of_ble_eq_true rfl⟩) (pB_S hKc hPc hDc) rfl rfl hl.1 rfl (lv_room (Nat.le_of_ble_eq_true rfl)) dX11_init_43 ⟨Nat.le_of_ble_eq_true rfl, Nat.le_of_ble_eq_true rfl⟩) hS hA hK hP hD [8] [0, 1, 2, 3, 4, 5, 6, 7] rfl rfl (by decide) (by decide) (fun u6 H locs hw6 hK hP hD hS => ?_)
  have hP : va_P D vwCl [(x0, .inr (11, [.ref q1, .ref q3, .null, .null, .null, .null, .null, .null, .null, .int 0, .long 0])), (q1, .inr (10, [.ref wp_2, .ref ws__2, .ref wd_2, .ref wk_2, .ref wz_2, .int 6, .int 0])), (wp_2, .inl (cP_2, 24, .inl fp_2)), (ws__2, .inl (cS_2, 24, .inl fs_2)), (wd_2, .inl (cD_2, 144, .inl fd_2)), (wk_2, .inl (cK_2, 30, .inl (fun _ => 0))), (wz_2, .inl (cZ_2, 30, .inl (fun _ => 0))), (q3, .inr (1, [.ref q1, .ref b0_4, .ref b1_4, .ref b2_4, .ref b3_4, .ref b4_4, .ref b5_4, .ref b6_4, .ref b7_4, .ref b8_4, .ref b9_4, .ref b10_4, .int 0, .int 0, .int 0]))] H := hP
  have hD : va_D A [(x0, .inr (11, [.ref q1, .ref q3, .null, .null, .null, .null, .null, .null, .null, .int 0, .long 0])), (q1, .inr (10, [.ref wp_2, .ref ws__2, .ref wd_2, .ref wk_2, .ref wz_2, .int 6, .int 0])), (wp_2, .inl (cP_2, 24, .inl fp_2)), (ws__2, .inl (cS_2, 24, .inl fs_2)), (wd_2, .inl (cD_2, 144, .inl fd_2)), (wk_2, .inl (cK_2, 30, .inl (fun _ => 0))), (wz_2, .inl (cZ_2, 30, .inl (fun _ => 0))), (q3, .inr (1, [.ref q1, .ref b0_4, .ref b1_4, .ref b2_4, .ref b3_4, .ref b4_4, .ref b5_4, .ref b6_4, .ref b7_4, .ref b8_4, .ref b9_4, .ref b10_4, .int 0, .int 0, .int 0]))] := hD
  have hK : va_K D vwCl [(cP_2, .int), (cS_2, .int), (cD_2, .int), (cK_2, .int), (cZ_2, .int)] s := hK
  refine W.widen (k := 29) (n := 3237) (Nat.le_of_ble_eq_true rfl) (Nat.le_of_ble_eq_true rfl) ?_
  refine va_putF (D := D) (ci := 11) (v := .ref q5) (ty := .object "TalePlay$Roads") (C := RX11) (T := TX11) (N := 11) hx hb hts (fun _ h => List.mem_cons_of_mem _ (List.mem_append_left _ (List.mem_append_left _ (List.mem_append_left _ (List.mem_append_left _ (List.mem_append_left _ (List.mem_append_left _ (List.mem_append_left _ (List.mem_append_left _ (List.mem_append_left _ (List.mem_append_right _ h))))))))))) tyX11 tyX11_ok nmX11 hown hK hP hD hS 0 rfl rfl 2 (by decide) (hts (.fieldLink RX11 30 "TalePlay" "roads" "LTalePlay$Roads;") (by decide +kernel)) (fun _ h9 => h9) rfl hin rfl (by decide +kernel) rfl rfl (Nat.le_of_ble_eq_true rfl) dX11_init_46 (fun H locs hP hD hS => ?_)
  have hP : va_P D vwCl [(x0, .inr (11, [.ref q1, .ref q3, .ref q5, .null, .null, .null, .null, .null, .null, .int 0, .long 0])), (q1, .inr (10, [.ref wp_2, .ref ws__2, .ref wd_2, .ref wk_2, .ref wz_2, .int 6, .int 0])), (wp_2, .inl (cP_2, 24, .inl fp_2)), (ws__2, .inl (cS_2, 24, .inl fs_2)), (wd_2, .inl (cD_2, 144, .inl fd_2)), (wk_2, .inl (cK_2, 30, .inl (fun _ => 0))), (wz_2, .inl (cZ_2, 30, .inl (fun _ => 0))), (q3, .inr (1, [.ref q1, .ref b0_4, .ref b1_4, .ref b2_4, .ref b3_4, .ref b4_4, .ref b5_4, .ref b6_4, .ref b7_4, .ref b8_4, .ref b9_4, .ref b10_4, .int 0, .int 0, .int 0]))] H := hP
  have hD : va_D A [(x0, .inr (11, [.ref q1, .ref q3, .ref q5, .null, .null, .null, .null, .null, .null, .int 0, .long 0])), (q1, .inr (10, [.ref wp_2, .ref ws__2, .ref wd_2, .ref wk_2, .ref wz_2, .int 6, .int 0])), (wp_2, .inl (cP_2, 24, .inl fp_2)), (ws__2, .inl (cS_2, 24, .inl fs_2)), (wd_2, .inl (cD_2, 144, .inl fd_2)), (wk_2, .inl (cK_2, 30, .inl (fun _ => 0))), (wz_2, .inl (cZ_2, 30, .inl (fun _ => 0))), (q3, .inr (1, [.ref q1, .ref b0_4, .ref b1_4, .ref b2_4, .ref b3_4, .ref b4_4, .ref b5_4, .ref b6_4, .ref b7_4, .ref b8_4, .ref b9_4, .ref b10_4, .int 0, .int 0, .int 0]))] := hD
  refine lv_aload_n hx hb dX11_init_49 rfl (lv_at hl 0 rfl) ?_
  refine va_new (ci := 2) (fs := [.null, .null, .int 0, .int 0]) (C := RX2) (T := TX2) (N := 4) hx hb hts (fun _ h => List.mem_cons_of_mem _ (List.mem_append_left _ (List.mem_append_left _ (List.mem_append_left _ (List.mem_append_left _ (List.mem_append_left _ (List.mem_append_left _ (List.mem_append_right _ h)))))))) tyX2 tyX2_ok hown (hts (.classLink RX11 34 RX2) (by decide +kernel)) (hts (.instantiable RX2 4) (by decide +kernel)) (hts (.initialized RX2) (by decide +kernel)) hK hP hD hS hA rfl (by decide +kernel) (Nat.le_of_ble_eq_true rfl) (Nat.le_of_ble_eq_true rfl) dX11_init_50 (fun q7 H hP hD hS => ?_)
  have hP : va_P D vwCl [(x0, .inr (11, [.ref q1, .ref q3, .ref q5, .null, .null, .null, .null, .null, .null, .int 0, .long 0])), (q1, .inr (10, [.ref wp_2, .ref ws__2, .ref wd_2, .ref wk_2, .ref wz_2, .int 6, .int 0])), (wp_2, .inl (cP_2, 24, .inl fp_2)), (ws__2, .inl (cS_2, 24, .inl fs_2)), (wd_2, .inl (cD_2, 144, .inl fd_2)), (wk_2, .inl (cK_2, 30, .inl (fun _ => 0))), (wz_2, .inl (cZ_2, 30, .inl (fun _ => 0))), (q3, .inr (1, [.ref q1, .ref b0_4, .ref b1_4, .ref b2_4, .ref b3_4, .ref b4_4, .ref b5_4, .ref b6_4, .ref b7_4, .ref b8_4, .ref b9_4, .ref b10_4, .int 0, .int 0, .int 0])), (q7, .inr (2, [.null, .null, .int 0, .int 0]))] H := hP
  have hD : va_D A [(x0, .inr (11, [.ref q1, .ref q3, .ref q5, .null, .null, .null, .null, .null, .null, .int 0, .long 0])), (q1, .inr (10, [.ref wp_2, .ref ws__2, .ref wd_2, .ref wk_2, .ref wz_2, .int 6, .int 0])), (wp_2, .inl (cP_2, 24, .inl fp_2)), (ws__2, .inl (cS_2, 24, .inl fs_2)), (wd_2, .inl (cD_2, 144, .inl fd_2)), (wk_2, .inl (cK_2, 30, .inl (fun _ => 0))), (wz_2, .inl (cZ_2, 30, .inl (fun _ => 0))), (q3, .inr (1, [.ref q1, .ref b0_4, .ref b1_4, .ref b2_4, .ref b3_4, .ref b4_4, .ref b5_4, .ref b6_4, .ref b7_4, .ref b8_4, .ref b9_4, .ref b10_4, .int 0, .int 0, .int 0])), (q7, .inr (2, [.null, .null, .int 0, .int 0]))] := hD
  refine W.widen (k := 30) (n := 3241) (Nat.le_of_ble_eq_true rfl) (Nat.le_of_ble_eq_true rfl) ?_
  refine lv_dup hx hb dX11_init_53 rfl ?_
  refine lv_aload_n hx hb dX11_init_54 rfl (lv_at hl 0 rfl) ?_
  refine va_get (D := D) (ci := 11) (v := .ref q1) (C := RX11) (T := TX11) (N := 11) hx hb hts (fun _ h => List.mem_cons_of_mem _ (List.mem_append_left _ (List.mem_append_left _ (List.mem_append_left _ (List.mem_append_left _ (List.mem_append_left _ (List.mem_append_left _ (List.mem_append_left _ (List.mem_append_left _ (List.mem_append_left _ (List.mem_append_right _ h))))))))))) hown hK hP 0 rfl rfl 0 (by decide) (hts (.fieldLink RX11 10 "TalePlay" "world" "LTalePlay$World;") (by decide +kernel)) (fun _ h9 => h9) rfl dX11_init_55 ?_
  have hPc := hP.sub (ws' := [(q7, .inr (2, [.null, .null, .int 0, .int 0]))]) [8] rfl
  have hKc := hK.sub (tys' := []) [] rfl
  have hDc := hD.sub (ws' := [(q7, .inr (2, [.null, .null, .int 0, .int 0]))]) [8] (by decide) rfl
  refine rw_callv (wr := [(x0, .inr (11, [.ref q1, .ref q3, .ref q5, .null, .null, .null, .null, .null, .null, .int 0, .long 0])), (q1, .inr (10, [.ref wp_2, .ref ws__2, .ref wd_2, .ref wk_2, .ref wz_2, .int 6, .int 0])), (wp_2, .inl (cP_2, 24, .inl fp_2)), (ws__2, .inl (cS_2, 24, .inl fs_2)), (wd_2, .inl (cD_2, 144, .inl fd_2)), (wk_2, .inl (cK_2, 30, .inl (fun _ => 0))), (wz_2, .inl (cZ_2, 30, .inl (fun _ => 0))), (q3, .inr (1, [.ref q1, .ref b0_4, .ref b1_4, .ref b2_4, .ref b3_4, .ref b4_4, .ref b5_4, .ref b6_4, .ref b7_4, .ref b8_4, .ref b9_4, .ref b10_4, .int 0, .int 0, .int 0]))]) (va_runI (As := [.ref q1]) (rest := [.ref q7, .ref x0]) ⟨hx, hb, hml, hown, hts⟩ (c_X2_init l D H.size q7 q1) (cwI 1 hts gX11_init_X2_init rfl rfl rfl (hts (.initialized RX2) (by decide +kernel)) (hts (.methodLink RX11 36 yX2_init) (by decide +kernel)) (hts (.instanceMethod yX2_init) (by decide +kernel)) rfl (by decide +kernel) ⟨Nat.le_of_ble_eq_true rfl, Nat.le_of_ble_eq_true rfl⟩) (pB_S hKc hPc hDc) rfl rfl hl.1 rfl (lv_room (Nat.le_of_ble_eq_true rfl)) dX11_init_58 ⟨Nat.le_of_ble_eq_true rfl, Nat.le_of_ble_eq_true rfl⟩) hS hA hK hP hD [8] [0, 1, 2, 3, 4, 5, 6, 7] rfl rfl (by decide) (by decide) (fun u8 H locs hw8 hK hP hD hS => ?_)
  obtain ⟨u1_8, rfl⟩ : ∃ z, z = u8 := ⟨_, rfl⟩
  have hP : va_P D vwCl [(x0, .inr (11, [.ref q1, .ref q3, .ref q5, .null, .null, .null, .null, .null, .null, .int 0, .long 0])), (q1, .inr (10, [.ref wp_2, .ref ws__2, .ref wd_2, .ref wk_2, .ref wz_2, .int 6, .int 0])), (wp_2, .inl (cP_2, 24, .inl fp_2)), (ws__2, .inl (cS_2, 24, .inl fs_2)), (wd_2, .inl (cD_2, 144, .inl fd_2)), (wk_2, .inl (cK_2, 30, .inl (fun _ => 0))), (wz_2, .inl (cZ_2, 30, .inl (fun _ => 0))), (q3, .inr (1, [.ref q1, .ref b0_4, .ref b1_4, .ref b2_4, .ref b3_4, .ref b4_4, .ref b5_4, .ref b6_4, .ref b7_4, .ref b8_4, .ref b9_4, .ref b10_4, .int 0, .int 0, .int 0])), (q7, .inr (2, [.ref q1, .ref u1_8, .int 0, .int 0]))] H := hP
  have hD : va_D A [(x0, .inr (11, [.ref q1, .ref q3, .ref q5, .null, .null, .null, .null, .null, .null, .int 0, .long 0])), (q1, .inr (10, [.ref wp_2, .ref ws__2, .ref wd_2, .ref wk_2, .ref wz_2, .int 6, .int 0])), (wp_2, .inl (cP_2, 24, .inl fp_2)), (ws__2, .inl (cS_2, 24, .inl fs_2)), (wd_2, .inl (cD_2, 144, .inl fd_2)), (wk_2, .inl (cK_2, 30, .inl (fun _ => 0))), (wz_2, .inl (cZ_2, 30, .inl (fun _ => 0))), (q3, .inr (1, [.ref q1, .ref b0_4, .ref b1_4, .ref b2_4, .ref b3_4, .ref b4_4, .ref b5_4, .ref b6_4, .ref b7_4, .ref b8_4, .ref b9_4, .ref b10_4, .int 0, .int 0, .int 0])), (q7, .inr (2, [.ref q1, .ref u1_8, .int 0, .int 0]))] := hD
  have hK : va_K D vwCl [(cP_2, .int), (cS_2, .int), (cD_2, .int), (cK_2, .int), (cZ_2, .int)] s := hK
  refine W.widen (k := 31) (n := 3341) (Nat.le_of_ble_eq_true rfl) (Nat.le_of_ble_eq_true rfl) ?_
  refine va_putF (D := D) (ci := 11) (v := .ref q7) (ty := .object "TalePlay$Bulks") (C := RX11) (T := TX11) (N := 11) hx hb hts (fun _ h => List.mem_cons_of_mem _ (List.mem_append_left _ (List.mem_append_left _ (List.mem_append_left _ (List.mem_append_left _ (List.mem_append_left _ (List.mem_append_left _ (List.mem_append_left _ (List.mem_append_left _ (List.mem_append_left _ (List.mem_append_right _ h))))))))))) tyX11 tyX11_ok nmX11 hown hK hP hD hS 0 rfl rfl 3 (by decide) (hts (.fieldLink RX11 37 "TalePlay" "bulks" "LTalePlay$Bulks;") (by decide +kernel)) (fun _ h9 => h9) rfl hin rfl (by decide +kernel) rfl rfl (Nat.le_of_ble_eq_true rfl) dX11_init_61 (fun H locs hP hD hS => ?_)
  have hP : va_P D vwCl [(x0, .inr (11, [.ref q1, .ref q3, .ref q5, .ref q7, .null, .null, .null, .null, .null, .int 0, .long 0])), (q1, .inr (10, [.ref wp_2, .ref ws__2, .ref wd_2, .ref wk_2, .ref wz_2, .int 6, .int 0])), (wp_2, .inl (cP_2, 24, .inl fp_2)), (ws__2, .inl (cS_2, 24, .inl fs_2)), (wd_2, .inl (cD_2, 144, .inl fd_2)), (wk_2, .inl (cK_2, 30, .inl (fun _ => 0))), (wz_2, .inl (cZ_2, 30, .inl (fun _ => 0))), (q3, .inr (1, [.ref q1, .ref b0_4, .ref b1_4, .ref b2_4, .ref b3_4, .ref b4_4, .ref b5_4, .ref b6_4, .ref b7_4, .ref b8_4, .ref b9_4, .ref b10_4, .int 0, .int 0, .int 0])), (q7, .inr (2, [.ref q1, .ref u1_8, .int 0, .int 0]))] H := hP
  have hD : va_D A [(x0, .inr (11, [.ref q1, .ref q3, .ref q5, .ref q7, .null, .null, .null, .null, .null, .int 0, .long 0])), (q1, .inr (10, [.ref wp_2, .ref ws__2, .ref wd_2, .ref wk_2, .ref wz_2, .int 6, .int 0])), (wp_2, .inl (cP_2, 24, .inl fp_2)), (ws__2, .inl (cS_2, 24, .inl fs_2)), (wd_2, .inl (cD_2, 144, .inl fd_2)), (wk_2, .inl (cK_2, 30, .inl (fun _ => 0))), (wz_2, .inl (cZ_2, 30, .inl (fun _ => 0))), (q3, .inr (1, [.ref q1, .ref b0_4, .ref b1_4, .ref b2_4, .ref b3_4, .ref b4_4, .ref b5_4, .ref b6_4, .ref b7_4, .ref b8_4, .ref b9_4, .ref b10_4, .int 0, .int 0, .int 0])), (q7, .inr (2, [.ref q1, .ref u1_8, .int 0, .int 0]))] := hD
  refine lv_aload_n hx hb dX11_init_64 rfl (lv_at hl 0 rfl) ?_
  refine va_new (ci := 9) (fs := [.null, .null, .null, .null, .null, .null, .null, .null, .int 0, .int 0, .int 0]) (C := RX9) (T := TX9) (N := 11) hx hb hts (fun _ h => List.mem_cons_of_mem _ (List.mem_append_left _ (List.mem_append_left _ (List.mem_append_left _ (List.mem_append_left _ (List.mem_append_left _ (List.mem_append_right _ h))))))) tyX9 tyX9_ok hown (hts (.classLink RX11 41 RX9) (by decide +kernel)) (hts (.instantiable RX9 11) (by decide +kernel)) (hts (.initialized RX9) (by decide +kernel)) hK hP hD hS hA rfl (by decide +kernel) (Nat.le_of_ble_eq_true rfl) (Nat.le_of_ble_eq_true rfl) dX11_init_65 (fun q9 H hP hD hS => ?_)
  have hP : va_P D vwCl [(x0, .inr (11, [.ref q1, .ref q3, .ref q5, .ref q7, .null, .null, .null, .null, .null, .int 0, .long 0])), (q1, .inr (10, [.ref wp_2, .ref ws__2, .ref wd_2, .ref wk_2, .ref wz_2, .int 6, .int 0])), (wp_2, .inl (cP_2, 24, .inl fp_2)), (ws__2, .inl (cS_2, 24, .inl fs_2)), (wd_2, .inl (cD_2, 144, .inl fd_2)), (wk_2, .inl (cK_2, 30, .inl (fun _ => 0))), (wz_2, .inl (cZ_2, 30, .inl (fun _ => 0))), (q3, .inr (1, [.ref q1, .ref b0_4, .ref b1_4, .ref b2_4, .ref b3_4, .ref b4_4, .ref b5_4, .ref b6_4, .ref b7_4, .ref b8_4, .ref b9_4, .ref b10_4, .int 0, .int 0, .int 0])), (q7, .inr (2, [.ref q1, .ref u1_8, .int 0, .int 0])), (q9, .inr (9, [.null, .null, .null, .null, .null, .null, .null, .null, .int 0, .int 0, .int 0]))] H := hP
  have hD : va_D A [(x0, .inr (11, [.ref q1, .ref q3, .ref q5, .ref q7, .null, .null, .null, .null, .null, .int 0, .long 0])), (q1, .inr (10, [.ref wp_2, .ref ws__2, .ref wd_2, .ref wk_2, .ref wz_2, .int 6, .int 0])), (wp_2, .inl (cP_2, 24, .inl fp_2)), (ws__2, .inl (cS_2, 24, .inl fs_2)), (wd_2, .inl (cD_2, 144, .inl fd_2)), (wk_2, .inl (cK_2, 30, .inl (fun _ => 0))), (wz_2, .inl (cZ_2, 30, .inl (fun _ => 0))), (q3, .inr (1, [.ref q1, .ref b0_4, .ref b1_4, .ref b2_4, .ref b3_4, .ref b4_4, .ref b5_4, .ref b6_4, .ref b7_4, .ref b8_4, .ref b9_4, .ref b10_4, .int 0, .int 0, .int 0])), (q7, .inr (2, [.ref q1, .ref u1_8, .int 0, .int 0])), (q9, .inr (9, [.null, .null, .null, .null, .null, .null, .null, .null, .int 0, .int 0, .int 0]))] := hD
  refine W.widen (k := 32) (n := 3352) (Nat.le_of_ble_eq_true rfl) (Nat.le_of_ble_eq_true rfl) ?_
  refine lv_dup hx hb dX11_init_68 rfl ?_
  refine lv_aload_n hx hb dX11_init_69 rfl (lv_at hl 0 rfl) ?_
  refine va_get (D := D) (ci := 11) (v := .ref q1) (C := RX11) (T := TX11) (N := 11) hx hb hts (fun _ h => List.mem_cons_of_mem _ (List.mem_append_left _ (List.mem_append_left _ (List.mem_append_left _ (List.mem_append_left _ (List.mem_append_left _ (List.mem_append_left _ (List.mem_append_left _ (List.mem_append_left _ (List.mem_append_left _ (List.mem_append_right _ h))))))))))) hown hK hP 0 rfl rfl 0 (by decide) (hts (.fieldLink RX11 10 "TalePlay" "world" "LTalePlay$World;") (by decide +kernel)) (fun _ h9 => h9) rfl dX11_init_70 ?_
  refine lv_aload_n hx hb dX11_init_73 rfl (lv_at hl 0 rfl) ?_
  refine va_get (D := D) (ci := 11) (v := .ref q3) (C := RX11) (T := TX11) (N := 11) hx hb hts (fun _ h => List.mem_cons_of_mem _ (List.mem_append_left _ (List.mem_append_left _ (List.mem_append_left _ (List.mem_append_left _ (List.mem_append_left _ (List.mem_append_left _ (List.mem_append_left _ (List.mem_append_left _ (List.mem_append_left _ (List.mem_append_right _ h))))))))))) hown hK hP 0 rfl rfl 1 (by decide) (hts (.fieldLink RX11 21 "TalePlay" "book" "LTalePlay$Book;") (by decide +kernel)) (fun _ h9 => h9) rfl dX11_init_74 ?_
  refine lv_aload_n hx hb dX11_init_77 rfl (lv_at hl 0 rfl) ?_
  refine va_get (D := D) (ci := 11) (v := .ref q5) (C := RX11) (T := TX11) (N := 11) hx hb hts (fun _ h => List.mem_cons_of_mem _ (List.mem_append_left _ (List.mem_append_left _ (List.mem_append_left _ (List.mem_append_left _ (List.mem_append_left _ (List.mem_append_left _ (List.mem_append_left _ (List.mem_append_left _ (List.mem_append_left _ (List.mem_append_right _ h))))))))))) hown hK hP 0 rfl rfl 2 (by decide) (hts (.fieldLink RX11 30 "TalePlay" "roads" "LTalePlay$Roads;") (by decide +kernel)) (fun _ h9 => h9) rfl dX11_init_78 ?_
  refine lv_aload_n hx hb dX11_init_81 rfl (lv_at hl 0 rfl) ?_
  refine va_get (D := D) (ci := 11) (v := .ref q7) (C := RX11) (T := TX11) (N := 11) hx hb hts (fun _ h => List.mem_cons_of_mem _ (List.mem_append_left _ (List.mem_append_left _ (List.mem_append_left _ (List.mem_append_left _ (List.mem_append_left _ (List.mem_append_left _ (List.mem_append_left _ (List.mem_append_left _ (List.mem_append_left _ (List.mem_append_right _ h))))))))))) hown hK hP 0 rfl rfl 3 (by decide) (hts (.fieldLink RX11 37 "TalePlay" "bulks" "LTalePlay$Bulks;") (by decide +kernel)) (fun _ h9 => h9) rfl dX11_init_82 ?_
  have hPc := hP.sub (ws' := [(q9, .inr (9, [.null, .null, .null, .null, .null, .null, .null, .null, .int 0, .int 0, .int 0]))]) [9] rfl
  have hKc := hK.sub (tys' := []) [] rfl
  have hDc := hD.sub (ws' := [(q9, .inr (9, [.null, .null, .null, .null, .null, .null, .null, .null, .int 0, .int 0, .int 0]))]) [9] (by decide) rfl
  refine rw_callv (wr := [(x0, .inr (11, [.ref q1, .ref q3, .ref q5, .ref q7, .null, .null, .null, .null, .null, .int 0, .long 0])), (q1, .inr (10, [.ref wp_2, .ref ws__2, .ref wd_2, .ref wk_2, .ref wz_2, .int 6, .int 0])), (wp_2, .inl (cP_2, 24, .inl fp_2)), (ws__2, .inl (cS_2, 24, .inl fs_2)), (wd_2, .inl (cD_2, 144, .inl fd_2)), (wk_2, .inl (cK_2, 30, .inl (fun _ => 0))), (wz_2, .inl (cZ_2, 30, .inl (fun _ => 0))), (q3, .inr (1, [.ref q1, .ref b0_4, .ref b1_4, .ref b2_4, .ref b3_4, .ref b4_4, .ref b5_4, .ref b6_4, .ref b7_4, .ref b8_4, .ref b9_4, .ref b10_4, .int 0, .int 0, .int 0])), (q7, .inr (2, [.ref q1, .ref u1_8, .int 0, .int 0]))]) (va_runI (As := [.ref q1, .ref q3, .ref q5, .ref q7]) (rest := [.ref q9, .ref x0]) ⟨hx, hb, hml, hown, hts⟩ (c_X9_init l D H.size q9 q1 q3 q5 q7) (cwI 4 hts gX11_init_X9_init rfl rfl rfl (hts (.initialized RX9) (by decide +kernel)) (hts (.methodLink RX11 43 yX9_init) (by decide +kernel)) (hts (.instanceMethod yX9_init) (by decide +kernel)) rfl (by decide +kernel) ⟨Nat.le_of_ble_eq_true rfl, Nat.le_of_ble_eq_true rfl⟩) (pB_S hKc hPc hDc) rfl rfl hl.1 rfl (lv_room (Nat.le_of_ble_eq_true rfl)) dX11_init_85 ⟨Nat.le_of_ble_eq_true rfl, Nat.le_of_ble_eq_true rfl⟩) hS hA hK hP hD [9] [0, 1, 2, 3, 4, 5, 6, 7, 8] rfl rfl (by decide) (by decide) (fun u10 H locs hw10 hK hP hD hS => ?_)
  obtain ⟨t1_10, t2_10, t3_10, t4_10, t5_10, t6_10⟩ := u10
  have hP : va_P D vwCl [(x0, .inr (11, [.ref q1, .ref q3, .ref q5, .ref q7, .null, .null, .null, .null, .null, .int 0, .long 0])), (q1, .inr (10, [.ref wp_2, .ref ws__2, .ref wd_2, .ref wk_2, .ref wz_2, .int 6, .int 0])), (wp_2, .inl (cP_2, 24, .inl fp_2)), (ws__2, .inl (cS_2, 24, .inl fs_2)), (wd_2, .inl (cD_2, 144, .inl fd_2)), (wk_2, .inl (cK_2, 30, .inl (fun _ => 0))), (wz_2, .inl (cZ_2, 30, .inl (fun _ => 0))), (q3, .inr (1, [.ref q1, .ref b0_4, .ref b1_4, .ref b2_4, .ref b3_4, .ref b4_4, .ref b5_4, .ref b6_4, .ref b7_4, .ref b8_4, .ref b9_4, .ref b10_4, .int 0, .int 0, .int 0])), (q7, .inr (2, [.ref q1, .ref u1_8, .int 0, .int 0])), (q9, .inr (9, [.ref q1, .ref q3, .ref t1_10, .ref t2_10, .ref t3_10, .ref t4_10, .ref t5_10, .ref t6_10, .int 0, .int (-9), .int 0]))] H := hP
  have hD : va_D A [(x0, .inr (11, [.ref q1, .ref q3, .ref q5, .ref q7, .null, .null, .null, .null, .null, .int 0, .long 0])), (q1, .inr (10, [.ref wp_2, .ref ws__2, .ref wd_2, .ref wk_2, .ref wz_2, .int 6, .int 0])), (wp_2, .inl (cP_2, 24, .inl fp_2)), (ws__2, .inl (cS_2, 24, .inl fs_2)), (wd_2, .inl (cD_2, 144, .inl fd_2)), (wk_2, .inl (cK_2, 30, .inl (fun _ => 0))), (wz_2, .inl (cZ_2, 30, .inl (fun _ => 0))), (q3, .inr (1, [.ref q1, .ref b0_4, .ref b1_4, .ref b2_4, .ref b3_4, .ref b4_4, .ref b5_4, .ref b6_4, .ref b7_4, .ref b8_4, .ref b9_4, .ref b10_4, .int 0, .int 0, .int 0])), (q7, .inr (2, [.ref q1, .ref u1_8, .int 0, .int 0])), (q9, .inr (9, [.ref q1, .ref q3, .ref t1_10, .ref t2_10, .ref t3_10, .ref t4_10, .ref t5_10, .ref t6_10, .int 0, .int (-9), .int 0]))] := hD
  have hK : va_K D vwCl [(cP_2, .int), (cS_2, .int), (cD_2, .int), (cK_2, .int), (cZ_2, .int)] s := hK
  refine W.widen (k := 41) (n := 3757) (Nat.le_of_ble_eq_true rfl) (Nat.le_of_ble_eq_true rfl) ?_
  refine va_putF (D := D) (ci := 11) (v := .ref q9) (ty := .object "TalePlay$Tale") (C := RX11) (T := TX11) (N := 11) hx hb hts (fun _ h => List.mem_cons_of_mem _ (List.mem_append_left _ (List.mem_append_left _ (List.mem_append_left _ (List.mem_append_left _ (List.mem_append_left _ (List.mem_append_left _ (List.mem_append_left _ (List.mem_append_left _ (List.mem_append_left _ (List.mem_append_right _ h))))))))))) tyX11 tyX11_ok nmX11 hown hK hP hD hS 0 rfl rfl 4 (by decide) (hts (.fieldLink RX11 46 "TalePlay" "tale" "LTalePlay$Tale;") (by decide +kernel)) (fun _ h9 => h9) rfl hin rfl (by decide +kernel) rfl rfl (Nat.le_of_ble_eq_true rfl) dX11_init_88 (fun H locs hP hD hS => ?_)
  have hP : va_P D vwCl [(x0, .inr (11, [.ref q1, .ref q3, .ref q5, .ref q7, .ref q9, .null, .null, .null, .null, .int 0, .long 0])), (q1, .inr (10, [.ref wp_2, .ref ws__2, .ref wd_2, .ref wk_2, .ref wz_2, .int 6, .int 0])), (wp_2, .inl (cP_2, 24, .inl fp_2)), (ws__2, .inl (cS_2, 24, .inl fs_2)), (wd_2, .inl (cD_2, 144, .inl fd_2)), (wk_2, .inl (cK_2, 30, .inl (fun _ => 0))), (wz_2, .inl (cZ_2, 30, .inl (fun _ => 0))), (q3, .inr (1, [.ref q1, .ref b0_4, .ref b1_4, .ref b2_4, .ref b3_4, .ref b4_4, .ref b5_4, .ref b6_4, .ref b7_4, .ref b8_4, .ref b9_4, .ref b10_4, .int 0, .int 0, .int 0])), (q7, .inr (2, [.ref q1, .ref u1_8, .int 0, .int 0])), (q9, .inr (9, [.ref q1, .ref q3, .ref t1_10, .ref t2_10, .ref t3_10, .ref t4_10, .ref t5_10, .ref t6_10, .int 0, .int (-9), .int 0]))] H := hP
  have hD : va_D A [(x0, .inr (11, [.ref q1, .ref q3, .ref q5, .ref q7, .ref q9, .null, .null, .null, .null, .int 0, .long 0])), (q1, .inr (10, [.ref wp_2, .ref ws__2, .ref wd_2, .ref wk_2, .ref wz_2, .int 6, .int 0])), (wp_2, .inl (cP_2, 24, .inl fp_2)), (ws__2, .inl (cS_2, 24, .inl fs_2)), (wd_2, .inl (cD_2, 144, .inl fd_2)), (wk_2, .inl (cK_2, 30, .inl (fun _ => 0))), (wz_2, .inl (cZ_2, 30, .inl (fun _ => 0))), (q3, .inr (1, [.ref q1, .ref b0_4, .ref b1_4, .ref b2_4, .ref b3_4, .ref b4_4, .ref b5_4, .ref b6_4, .ref b7_4, .ref b8_4, .ref b9_4, .ref b10_4, .int 0, .int 0, .int 0])), (q7, .inr (2, [.ref q1, .ref u1_8, .int 0, .int 0])), (q9, .inr (9, [.ref q1, .ref q3, .ref t1_10, .ref t2_10, .ref t3_10, .ref t4_10, .ref t5_10, .ref t6_10, .int 0, .int (-9), .int 0]))] := hD
  refine lv_aload_n hx hb dX11_init_91 rfl (lv_at hl 0 rfl) ?_
  refine va_new (ci := 4) (fs := [.null, .null, .null]) (C := RX4) (T := TX4) (N := 3) hx hb hts (fun _ h => List.mem_cons_of_mem _ (List.mem_append_left _ (List.mem_append_left _ (List.mem_append_left _ (List.mem_append_left _ (List.mem_append_right _ h)))))) tyX4 tyX4_ok hown (hts (.classLink RX11 50 RX4) (by decide +kernel)) (hts (.instantiable RX4 3) (by decide +kernel)) (hts (.initialized RX4) (by decide +kernel)) hK hP hD hS hA rfl (by decide +kernel) (Nat.le_of_ble_eq_true rfl) (Nat.le_of_ble_eq_true rfl) dX11_init_92 (fun q11 H hP hD hS => ?_)
  have hP : va_P D vwCl [(x0, .inr (11, [.ref q1, .ref q3, .ref q5, .ref q7, .ref q9, .null, .null, .null, .null, .int 0, .long 0])), (q1, .inr (10, [.ref wp_2, .ref ws__2, .ref wd_2, .ref wk_2, .ref wz_2, .int 6, .int 0])), (wp_2, .inl (cP_2, 24, .inl fp_2)), (ws__2, .inl (cS_2, 24, .inl fs_2)), (wd_2, .inl (cD_2, 144, .inl fd_2)), (wk_2, .inl (cK_2, 30, .inl (fun _ => 0))), (wz_2, .inl (cZ_2, 30, .inl (fun _ => 0))), (q3, .inr (1, [.ref q1, .ref b0_4, .ref b1_4, .ref b2_4, .ref b3_4, .ref b4_4, .ref b5_4, .ref b6_4, .ref b7_4, .ref b8_4, .ref b9_4, .ref b10_4, .int 0, .int 0, .int 0])), (q7, .inr (2, [.ref q1, .ref u1_8, .int 0, .int 0])), (q9, .inr (9, [.ref q1, .ref q3, .ref t1_10, .ref t2_10, .ref t3_10, .ref t4_10, .ref t5_10, .ref t6_10, .int 0, .int (-9), .int 0])), (q11, .inr (4, [.null, .null, .null]))] H := hP
  have hD : va_D A [(x0, .inr (11, [.ref q1, .ref q3, .ref q5, .ref q7, .ref q9, .null, .null, .null, .null, .int 0, .long 0])), (q1, .inr (10, [.ref wp_2, .ref ws__2, .ref wd_2, .ref wk_2, .ref wz_2, .int 6, .int 0])), (wp_2, .inl (cP_2, 24, .inl fp_2)), (ws__2, .inl (cS_2, 24, .inl fs_2)), (wd_2, .inl (cD_2, 144, .inl fd_2)), (wk_2, .inl (cK_2, 30, .inl (fun _ => 0))), (wz_2, .inl (cZ_2, 30, .inl (fun _ => 0))), (q3, .inr (1, [.ref q1, .ref b0_4, .ref b1_4, .ref b2_4, .ref b3_4, .ref b4_4, .ref b5_4, .ref b6_4, .ref b7_4, .ref b8_4, .ref b9_4, .ref b10_4, .int 0, .int 0, .int 0])), (q7, .inr (2, [.ref q1, .ref u1_8, .int 0, .int 0])), (q9, .inr (9, [.ref q1, .ref q3, .ref t1_10, .ref t2_10, .ref t3_10, .ref t4_10, .ref t5_10, .ref t6_10, .int 0, .int (-9), .int 0])), (q11, .inr (4, [.null, .null, .null]))] := hD
  refine W.widen (k := 42) (n := 3760) (Nat.le_of_ble_eq_true rfl) (Nat.le_of_ble_eq_true rfl) ?_
  refine lv_dup hx hb dX11_init_95 rfl ?_
  have hPc := hP.sub (ws' := [(q11, .inr (4, [.null, .null, .null]))]) [10] rfl
  have hKc := hK.sub (tys' := []) [] rfl
  have hDc := hD.sub (ws' := [(q11, .inr (4, [.null, .null, .null]))]) [10] (by decide) rfl
  refine rw_callv (wr := [(x0, .inr (11, [.ref q1, .ref q3, .ref q5, .ref q7, .ref q9, .null, .null, .null, .null, .int 0, .long 0])), (q1, .inr (10, [.ref wp_2, .ref ws__2, .ref wd_2, .ref wk_2, .ref wz_2, .int 6, .int 0])), (wp_2, .inl (cP_2, 24, .inl fp_2)), (ws__2, .inl (cS_2, 24, .inl fs_2)), (wd_2, .inl (cD_2, 144, .inl fd_2)), (wk_2, .inl (cK_2, 30, .inl (fun _ => 0))), (wz_2, .inl (cZ_2, 30, .inl (fun _ => 0))), (q3, .inr (1, [.ref q1, .ref b0_4, .ref b1_4, .ref b2_4, .ref b3_4, .ref b4_4, .ref b5_4, .ref b6_4, .ref b7_4, .ref b8_4, .ref b9_4, .ref b10_4, .int 0, .int 0, .int 0])), (q7, .inr (2, [.ref q1, .ref u1_8, .int 0, .int 0])), (q9, .inr (9, [.ref q1, .ref q3, .ref t1_10, .ref t2_10, .ref t3_10, .ref t4_10, .ref t5_10, .ref t6_10, .int 0, .int (-9), .int 0]))]) (va_runI (As := []) (rest := [.ref q11, .ref x0]) ⟨hx, hb, hml, hown, hts⟩ (c_X4_init l D H.size q11) (cwI 0 hts gX11_init_X4_init rfl rfl rfl (hts (.initialized RX4) (by decide +kernel)) (hts (.methodLink RX11 52 yX4_init) (by decide +kernel)) (hts (.instanceMethod yX4_init) (by decide +kernel)) rfl (by decide +kernel) ⟨Nat.le_of_ble_eq_true rfl, Nat.le_of_ble_eq_true rfl⟩) (pB_S hKc hPc hDc) rfl rfl hl.1 rfl (lv_room (Nat.le_of_ble_eq_true rfl)) dX11_init_96 ⟨Nat.le_of_ble_eq_true rfl, Nat.le_of_ble_eq_true rfl⟩) hS hA hK hP hD [10] [0, 1, 2, 3, 4, 5, 6, 7, 8, 9] rfl rfl (by decide) (by decide) (fun u12 H locs hw12 hK hP hD hS => ?_)
  have hP : va_P D vwCl [(x0, .inr (11, [.ref q1, .ref q3, .ref q5, .ref q7, .ref q9, .null, .null, .null, .null, .int 0, .long 0])), (q1, .inr (10, [.ref wp_2, .ref ws__2, .ref wd_2, .ref wk_2, .ref wz_2, .int 6, .int 0])), (wp_2, .inl (cP_2, 24, .inl fp_2)), (ws__2, .inl (cS_2, 24, .inl fs_2)), (wd_2, .inl (cD_2, 144, .inl fd_2)), (wk_2, .inl (cK_2, 30, .inl (fun _ => 0))), (wz_2, .inl (cZ_2, 30, .inl (fun _ => 0))), (q3, .inr (1, [.ref q1, .ref b0_4, .ref b1_4, .ref b2_4, .ref b3_4, .ref b4_4, .ref b5_4, .ref b6_4, .ref b7_4, .ref b8_4, .ref b9_4, .ref b10_4, .int 0, .int 0, .int 0])), (q7, .inr (2, [.ref q1, .ref u1_8, .int 0, .int 0])), (q9, .inr (9, [.ref q1, .ref q3, .ref t1_10, .ref t2_10, .ref t3_10, .ref t4_10, .ref t5_10, .ref t6_10, .int 0, .int (-9), .int 0]))] H := hP
  have hD : va_D A [(x0, .inr (11, [.ref q1, .ref q3, .ref q5, .ref q7, .ref q9, .null, .null, .null, .null, .int 0, .long 0])), (q1, .inr (10, [.ref wp_2, .ref ws__2, .ref wd_2, .ref wk_2, .ref wz_2, .int 6, .int 0])), (wp_2, .inl (cP_2, 24, .inl fp_2)), (ws__2, .inl (cS_2, 24, .inl fs_2)), (wd_2, .inl (cD_2, 144, .inl fd_2)), (wk_2, .inl (cK_2, 30, .inl (fun _ => 0))), (wz_2, .inl (cZ_2, 30, .inl (fun _ => 0))), (q3, .inr (1, [.ref q1, .ref b0_4, .ref b1_4, .ref b2_4, .ref b3_4, .ref b4_4, .ref b5_4, .ref b6_4, .ref b7_4, .ref b8_4, .ref b9_4, .ref b10_4, .int 0, .int 0, .int 0])), (q7, .inr (2, [.ref q1, .ref u1_8, .int 0, .int 0])), (q9, .inr (9, [.ref q1, .ref q3, .ref t1_10, .ref t2_10, .ref t3_10, .ref t4_10, .ref t5_10, .ref t6_10, .int 0, .int (-9), .int 0]))] := hD
  have hK : va_K D vwCl [(cP_2, .int), (cS_2, .int), (cD_2, .int), (cK_2, .int), (cZ_2, .int)] s := hK
  refine W.widen (k := 45) (n := 4180) (Nat.le_of_ble_eq_true rfl) (Nat.le_of_ble_eq_true rfl) ?_
  refine va_putF (D := D) (ci := 11) (v := .ref q11) (ty := .object "TalePlay$Lines") (C := RX11) (T := TX11) (N := 11) hx hb hts (fun _ h => List.mem_cons_of_mem _ (List.mem_append_left _ (List.mem_append_left _ (List.mem_append_left _ (List.mem_append_left _ (List.mem_append_left _ (List.mem_append_left _ (List.mem_append_left _ (List.mem_append_left _ (List.mem_append_left _ (List.mem_append_right _ h))))))))))) tyX11 tyX11_ok nmX11 hown hK hP hD hS 0 rfl rfl 5 (by decide) (hts (.fieldLink RX11 53 "TalePlay" "lines" "LTalePlay$Lines;") (by decide +kernel)) (fun _ h9 => h9) rfl hin rfl (by decide +kernel) rfl rfl (Nat.le_of_ble_eq_true rfl) dX11_init_99 (fun H locs hP hD hS => ?_)
  have hP : va_P D vwCl [(x0, .inr (11, [.ref q1, .ref q3, .ref q5, .ref q7, .ref q9, .ref q11, .null, .null, .null, .int 0, .long 0])), (q1, .inr (10, [.ref wp_2, .ref ws__2, .ref wd_2, .ref wk_2, .ref wz_2, .int 6, .int 0])), (wp_2, .inl (cP_2, 24, .inl fp_2)), (ws__2, .inl (cS_2, 24, .inl fs_2)), (wd_2, .inl (cD_2, 144, .inl fd_2)), (wk_2, .inl (cK_2, 30, .inl (fun _ => 0))), (wz_2, .inl (cZ_2, 30, .inl (fun _ => 0))), (q3, .inr (1, [.ref q1, .ref b0_4, .ref b1_4, .ref b2_4, .ref b3_4, .ref b4_4, .ref b5_4, .ref b6_4, .ref b7_4, .ref b8_4, .ref b9_4, .ref b10_4, .int 0, .int 0, .int 0])), (q7, .inr (2, [.ref q1, .ref u1_8, .int 0, .int 0])), (q9, .inr (9, [.ref q1, .ref q3, .ref t1_10, .ref t2_10, .ref t3_10, .ref t4_10, .ref t5_10, .ref t6_10, .int 0, .int (-9), .int 0]))] H := hP
  have hD : va_D A [(x0, .inr (11, [.ref q1, .ref q3, .ref q5, .ref q7, .ref q9, .ref q11, .null, .null, .null, .int 0, .long 0])), (q1, .inr (10, [.ref wp_2, .ref ws__2, .ref wd_2, .ref wk_2, .ref wz_2, .int 6, .int 0])), (wp_2, .inl (cP_2, 24, .inl fp_2)), (ws__2, .inl (cS_2, 24, .inl fs_2)), (wd_2, .inl (cD_2, 144, .inl fd_2)), (wk_2, .inl (cK_2, 30, .inl (fun _ => 0))), (wz_2, .inl (cZ_2, 30, .inl (fun _ => 0))), (q3, .inr (1, [.ref q1, .ref b0_4, .ref b1_4, .ref b2_4, .ref b3_4, .ref b4_4, .ref b5_4, .ref b6_4, .ref b7_4, .ref b8_4, .ref b9_4, .ref b10_4, .int 0, .int 0, .int 0])), (q7, .inr (2, [.ref q1, .ref u1_8, .int 0, .int 0])), (q9, .inr (9, [.ref q1, .ref q3, .ref t1_10, .ref t2_10, .ref t3_10, .ref t4_10, .ref t5_10, .ref t6_10, .int 0, .int (-9), .int 0]))] := hD
  refine lv_aload_n hx hb dX11_init_102 rfl (lv_at hl 0 rfl) ?_
  refine va_new (ci := 3) (fs := [.null, .null, .null, .int 0]) (C := RX3) (T := TX3) (N := 4) hx hb hts (fun _ h => List.mem_cons_of_mem _ (List.mem_append_left _ (List.mem_append_left _ (List.mem_append_left _ (List.mem_append_right _ h))))) tyX3 tyX3_ok hown (hts (.classLink RX11 57 RX3) (by decide +kernel)) (hts (.instantiable RX3 4) (by decide +kernel)) (hts (.initialized RX3) (by decide +kernel)) hK hP hD hS hA rfl (by decide +kernel) (Nat.le_of_ble_eq_true rfl) (Nat.le_of_ble_eq_true rfl) dX11_init_103 (fun q13 H hP hD hS => ?_)
  have hP : va_P D vwCl [(x0, .inr (11, [.ref q1, .ref q3, .ref q5, .ref q7, .ref q9, .ref q11, .null, .null, .null, .int 0, .long 0])), (q1, .inr (10, [.ref wp_2, .ref ws__2, .ref wd_2, .ref wk_2, .ref wz_2, .int 6, .int 0])), (wp_2, .inl (cP_2, 24, .inl fp_2)), (ws__2, .inl (cS_2, 24, .inl fs_2)), (wd_2, .inl (cD_2, 144, .inl fd_2)), (wk_2, .inl (cK_2, 30, .inl (fun _ => 0))), (wz_2, .inl (cZ_2, 30, .inl (fun _ => 0))), (q3, .inr (1, [.ref q1, .ref b0_4, .ref b1_4, .ref b2_4, .ref b3_4, .ref b4_4, .ref b5_4, .ref b6_4, .ref b7_4, .ref b8_4, .ref b9_4, .ref b10_4, .int 0, .int 0, .int 0])), (q7, .inr (2, [.ref q1, .ref u1_8, .int 0, .int 0])), (q9, .inr (9, [.ref q1, .ref q3, .ref t1_10, .ref t2_10, .ref t3_10, .ref t4_10, .ref t5_10, .ref t6_10, .int 0, .int (-9), .int 0])), (q13, .inr (3, [.null, .null, .null, .int 0]))] H := hP
  have hD : va_D A [(x0, .inr (11, [.ref q1, .ref q3, .ref q5, .ref q7, .ref q9, .ref q11, .null, .null, .null, .int 0, .long 0])), (q1, .inr (10, [.ref wp_2, .ref ws__2, .ref wd_2, .ref wk_2, .ref wz_2, .int 6, .int 0])), (wp_2, .inl (cP_2, 24, .inl fp_2)), (ws__2, .inl (cS_2, 24, .inl fs_2)), (wd_2, .inl (cD_2, 144, .inl fd_2)), (wk_2, .inl (cK_2, 30, .inl (fun _ => 0))), (wz_2, .inl (cZ_2, 30, .inl (fun _ => 0))), (q3, .inr (1, [.ref q1, .ref b0_4, .ref b1_4, .ref b2_4, .ref b3_4, .ref b4_4, .ref b5_4, .ref b6_4, .ref b7_4, .ref b8_4, .ref b9_4, .ref b10_4, .int 0, .int 0, .int 0])), (q7, .inr (2, [.ref q1, .ref u1_8, .int 0, .int 0])), (q9, .inr (9, [.ref q1, .ref q3, .ref t1_10, .ref t2_10, .ref t3_10, .ref t4_10, .ref t5_10, .ref t6_10, .int 0, .int (-9), .int 0])), (q13, .inr (3, [.null, .null, .null, .int 0]))] := hD
  refine W.widen (k := 46) (n := 4184) (Nat.le_of_ble_eq_true rfl) (Nat.le_of_ble_eq_true rfl) ?_
  refine lv_dup hx hb dX11_init_106 rfl ?_
  have hPc := hP.sub (ws' := [(q13, .inr (3, [.null, .null, .null, .int 0]))]) [10] rfl
  have hKc := hK.sub (tys' := []) [] rfl
  have hDc := hD.sub (ws' := [(q13, .inr (3, [.null, .null, .null, .int 0]))]) [10] (by decide) rfl
  refine rw_callv (wr := [(x0, .inr (11, [.ref q1, .ref q3, .ref q5, .ref q7, .ref q9, .ref q11, .null, .null, .null, .int 0, .long 0])), (q1, .inr (10, [.ref wp_2, .ref ws__2, .ref wd_2, .ref wk_2, .ref wz_2, .int 6, .int 0])), (wp_2, .inl (cP_2, 24, .inl fp_2)), (ws__2, .inl (cS_2, 24, .inl fs_2)), (wd_2, .inl (cD_2, 144, .inl fd_2)), (wk_2, .inl (cK_2, 30, .inl (fun _ => 0))), (wz_2, .inl (cZ_2, 30, .inl (fun _ => 0))), (q3, .inr (1, [.ref q1, .ref b0_4, .ref b1_4, .ref b2_4, .ref b3_4, .ref b4_4, .ref b5_4, .ref b6_4, .ref b7_4, .ref b8_4, .ref b9_4, .ref b10_4, .int 0, .int 0, .int 0])), (q7, .inr (2, [.ref q1, .ref u1_8, .int 0, .int 0])), (q9, .inr (9, [.ref q1, .ref q3, .ref t1_10, .ref t2_10, .ref t3_10, .ref t4_10, .ref t5_10, .ref t6_10, .int 0, .int (-9), .int 0]))]) (va_runI (As := []) (rest := [.ref q13, .ref x0]) ⟨hx, hb, hml, hown, hts⟩ (c_X3_init l D H.size q13) (cwI 0 hts gX11_init_X3_init rfl rfl rfl (hts (.initialized RX3) (by decide +kernel)) (hts (.methodLink RX11 59 yX3_init) (by decide +kernel)) (hts (.instanceMethod yX3_init) (by decide +kernel)) rfl (by decide +kernel) ⟨Nat.le_of_ble_eq_true rfl, Nat.le_of_ble_eq_true rfl⟩) (pB_S hKc hPc hDc) rfl rfl hl.1 rfl (lv_room (Nat.le_of_ble_eq_true rfl)) dX11_init_107 ⟨Nat.le_of_ble_eq_true rfl, Nat.le_of_ble_eq_true rfl⟩) hS hA hK hP hD [10] [0, 1, 2, 3, 4, 5, 6, 7, 8, 9] rfl rfl (by decide) (by decide) (fun u14 H locs hw14 hK hP hD hS => ?_)
  obtain ⟨k0_14, k1_14, k2_14, cC0_14, cC1_14⟩ := u14
  have hP : va_P D vwCl [(x0, .inr (11, [.ref q1, .ref q3, .ref q5, .ref q7, .ref q9, .ref q11, .null, .null, .null, .int 0, .long 0])), (q1, .inr (10, [.ref wp_2, .ref ws__2, .ref wd_2, .ref wk_2, .ref wz_2, .int 6, .int 0])), (wp_2, .inl (cP_2, 24, .inl fp_2)), (ws__2, .inl (cS_2, 24, .inl fs_2)), (wd_2, .inl (cD_2, 144, .inl fd_2)), (wk_2, .inl (cK_2, 30, .inl (fun _ => 0))), (wz_2, .inl (cZ_2, 30, .inl (fun _ => 0))), (q3, .inr (1, [.ref q1, .ref b0_4, .ref b1_4, .ref b2_4, .ref b3_4, .ref b4_4, .ref b5_4, .ref b6_4, .ref b7_4, .ref b8_4, .ref b9_4, .ref b10_4, .int 0, .int 0, .int 0])), (q7, .inr (2, [.ref q1, .ref u1_8, .int 0, .int 0])), (q9, .inr (9, [.ref q1, .ref q3, .ref t1_10, .ref t2_10, .ref t3_10, .ref t4_10, .ref t5_10, .ref t6_10, .int 0, .int (-9), .int 0])), (q13, .inr (3, [.ref k0_14, .ref k1_14, .ref k2_14, .int 0])), (k0_14, .inl (cC0_14, 10, .inl (fun _ => 0))), (k1_14, .inl (cC1_14, 10, .inl (fun _ => 0)))] H := hP
  have hD : va_D A [(x0, .inr (11, [.ref q1, .ref q3, .ref q5, .ref q7, .ref q9, .ref q11, .null, .null, .null, .int 0, .long 0])), (q1, .inr (10, [.ref wp_2, .ref ws__2, .ref wd_2, .ref wk_2, .ref wz_2, .int 6, .int 0])), (wp_2, .inl (cP_2, 24, .inl fp_2)), (ws__2, .inl (cS_2, 24, .inl fs_2)), (wd_2, .inl (cD_2, 144, .inl fd_2)), (wk_2, .inl (cK_2, 30, .inl (fun _ => 0))), (wz_2, .inl (cZ_2, 30, .inl (fun _ => 0))), (q3, .inr (1, [.ref q1, .ref b0_4, .ref b1_4, .ref b2_4, .ref b3_4, .ref b4_4, .ref b5_4, .ref b6_4, .ref b7_4, .ref b8_4, .ref b9_4, .ref b10_4, .int 0, .int 0, .int 0])), (q7, .inr (2, [.ref q1, .ref u1_8, .int 0, .int 0])), (q9, .inr (9, [.ref q1, .ref q3, .ref t1_10, .ref t2_10, .ref t3_10, .ref t4_10, .ref t5_10, .ref t6_10, .int 0, .int (-9), .int 0])), (q13, .inr (3, [.ref k0_14, .ref k1_14, .ref k2_14, .int 0])), (k0_14, .inl (cC0_14, 10, .inl (fun _ => 0))), (k1_14, .inl (cC1_14, 10, .inl (fun _ => 0)))] := hD
  have hK : va_K D vwCl [(cP_2, .int), (cS_2, .int), (cD_2, .int), (cK_2, .int), (cZ_2, .int), (cC0_14, .int), (cC1_14, .int)] s := hK
  refine W.widen (k := 49) (n := 4324) (Nat.le_of_ble_eq_true rfl) (Nat.le_of_ble_eq_true rfl) ?_
  refine va_putF (D := D) (ci := 11) (v := .ref q13) (ty := .object "TalePlay$Casts") (C := RX11) (T := TX11) (N := 11) hx hb hts (fun _ h => List.mem_cons_of_mem _ (List.mem_append_left _ (List.mem_append_left _ (List.mem_append_left _ (List.mem_append_left _ (List.mem_append_left _ (List.mem_append_left _ (List.mem_append_left _ (List.mem_append_left _ (List.mem_append_left _ (List.mem_append_right _ h))))))))))) tyX11 tyX11_ok nmX11 hown hK hP hD hS 0 rfl rfl 6 (by decide) (hts (.fieldLink RX11 60 "TalePlay" "casts" "LTalePlay$Casts;") (by decide +kernel)) (fun _ h9 => h9) rfl hin rfl (by decide +kernel) rfl rfl (Nat.le_of_ble_eq_true rfl) dX11_init_110 (fun H locs hP hD hS => ?_)
  have hP : va_P D vwCl [(x0, .inr (11, [.ref q1, .ref q3, .ref q5, .ref q7, .ref q9, .ref q11, .ref q13, .null, .null, .int 0, .long 0])), (q1, .inr (10, [.ref wp_2, .ref ws__2, .ref wd_2, .ref wk_2, .ref wz_2, .int 6, .int 0])), (wp_2, .inl (cP_2, 24, .inl fp_2)), (ws__2, .inl (cS_2, 24, .inl fs_2)), (wd_2, .inl (cD_2, 144, .inl fd_2)), (wk_2, .inl (cK_2, 30, .inl (fun _ => 0))), (wz_2, .inl (cZ_2, 30, .inl (fun _ => 0))), (q3, .inr (1, [.ref q1, .ref b0_4, .ref b1_4, .ref b2_4, .ref b3_4, .ref b4_4, .ref b5_4, .ref b6_4, .ref b7_4, .ref b8_4, .ref b9_4, .ref b10_4, .int 0, .int 0, .int 0])), (q7, .inr (2, [.ref q1, .ref u1_8, .int 0, .int 0])), (q9, .inr (9, [.ref q1, .ref q3, .ref t1_10, .ref t2_10, .ref t3_10, .ref t4_10, .ref t5_10, .ref t6_10, .int 0, .int (-9), .int 0])), (q13, .inr (3, [.ref k0_14, .ref k1_14, .ref k2_14, .int 0])), (k0_14, .inl (cC0_14, 10, .inl (fun _ => 0))), (k1_14, .inl (cC1_14, 10, .inl (fun _ => 0)))] H := hP
  have hD : va_D A [(x0, .inr (11, [.ref q1, .ref q3, .ref q5, .ref q7, .ref q9, .ref q11, .ref q13, .null, .null, .int 0, .long 0])), (q1, .inr (10, [.ref wp_2, .ref ws__2, .ref wd_2, .ref wk_2, .ref wz_2, .int 6, .int 0])), (wp_2, .inl (cP_2, 24, .inl fp_2)), (ws__2, .inl (cS_2, 24, .inl fs_2)), (wd_2, .inl (cD_2, 144, .inl fd_2)), (wk_2, .inl (cK_2, 30, .inl (fun _ => 0))), (wz_2, .inl (cZ_2, 30, .inl (fun _ => 0))), (q3, .inr (1, [.ref q1, .ref b0_4, .ref b1_4, .ref b2_4, .ref b3_4, .ref b4_4, .ref b5_4, .ref b6_4, .ref b7_4, .ref b8_4, .ref b9_4, .ref b10_4, .int 0, .int 0, .int 0])), (q7, .inr (2, [.ref q1, .ref u1_8, .int 0, .int 0])), (q9, .inr (9, [.ref q1, .ref q3, .ref t1_10, .ref t2_10, .ref t3_10, .ref t4_10, .ref t5_10, .ref t6_10, .int 0, .int (-9), .int 0])), (q13, .inr (3, [.ref k0_14, .ref k1_14, .ref k2_14, .int 0])), (k0_14, .inl (cC0_14, 10, .inl (fun _ => 0))), (k1_14, .inl (cC1_14, 10, .inl (fun _ => 0)))] := hD
  refine lv_aload_n hx hb dX11_init_113 rfl (lv_at hl 0 rfl) ?_
  refine lv_null hx hb dX11_init_114 ?_
  refine va_put (D := D) (ci := 11) (v := .null) (ty := .object "TalePlay$Seeker") (C := RX11) (T := TX11) (N := 11) hx hb hts (fun _ h => List.mem_cons_of_mem _ (List.mem_append_left _ (List.mem_append_left _ (List.mem_append_left _ (List.mem_append_left _ (List.mem_append_left _ (List.mem_append_left _ (List.mem_append_left _ (List.mem_append_left _ (List.mem_append_left _ (List.mem_append_right _ h))))))))))) tyX11 tyX11_ok nmX11 hown hK hP hD hS 0 rfl rfl 7 (by decide) (hts (.fieldLink RX11 64 "TalePlay" "seeker" "LTalePlay$Seeker;") (by decide +kernel)) (fun _ h9 => h9) rfl (by decide +kernel) rfl rfl (Nat.le_of_ble_eq_true rfl) dX11_init_115 (fun H locs hP hD hS => ?_)
  have hP : va_P D vwCl [(x0, .inr (11, [.ref q1, .ref q3, .ref q5, .ref q7, .ref q9, .ref q11, .ref q13, .null, .null, .int 0, .long 0])), (q1, .inr (10, [.ref wp_2, .ref ws__2, .ref wd_2, .ref wk_2, .ref wz_2, .int 6, .int 0])), (wp_2, .inl (cP_2, 24, .inl fp_2)), (ws__2, .inl (cS_2, 24, .inl fs_2)), (wd_2, .inl (cD_2, 144, .inl fd_2)), (wk_2, .inl (cK_2, 30, .inl (fun _ => 0))), (wz_2, .inl (cZ_2, 30, .inl (fun _ => 0))), (q3, .inr (1, [.ref q1, .ref b0_4, .ref b1_4, .ref b2_4, .ref b3_4, .ref b4_4, .ref b5_4, .ref b6_4, .ref b7_4, .ref b8_4, .ref b9_4, .ref b10_4, .int 0, .int 0, .int 0])), (q7, .inr (2, [.ref q1, .ref u1_8, .int 0, .int 0])), (q9, .inr (9, [.ref q1, .ref q3, .ref t1_10, .ref t2_10, .ref t3_10, .ref t4_10, .ref t5_10, .ref t6_10, .int 0, .int (-9), .int 0])), (q13, .inr (3, [.ref k0_14, .ref k1_14, .ref k2_14, .int 0])), (k0_14, .inl (cC0_14, 10, .inl (fun _ => 0))), (k1_14, .inl (cC1_14, 10, .inl (fun _ => 0)))] H := hP
  have hD : va_D A [(x0, .inr (11, [.ref q1, .ref q3, .ref q5, .ref q7, .ref q9, .ref q11, .ref q13, .null, .null, .int 0, .long 0])), (q1, .inr (10, [.ref wp_2, .ref ws__2, .ref wd_2, .ref wk_2, .ref wz_2, .int 6, .int 0])), (wp_2, .inl (cP_2, 24, .inl fp_2)), (ws__2, .inl (cS_2, 24, .inl fs_2)), (wd_2, .inl (cD_2, 144, .inl fd_2)), (wk_2, .inl (cK_2, 30, .inl (fun _ => 0))), (wz_2, .inl (cZ_2, 30, .inl (fun _ => 0))), (q3, .inr (1, [.ref q1, .ref b0_4, .ref b1_4, .ref b2_4, .ref b3_4, .ref b4_4, .ref b5_4, .ref b6_4, .ref b7_4, .ref b8_4, .ref b9_4, .ref b10_4, .int 0, .int 0, .int 0])), (q7, .inr (2, [.ref q1, .ref u1_8, .int 0, .int 0])), (q9, .inr (9, [.ref q1, .ref q3, .ref t1_10, .ref t2_10, .ref t3_10, .ref t4_10, .ref t5_10, .ref t6_10, .int 0, .int (-9), .int 0])), (q13, .inr (3, [.ref k0_14, .ref k1_14, .ref k2_14, .int 0])), (k0_14, .inl (cC0_14, 10, .inl (fun _ => 0))), (k1_14, .inl (cC1_14, 10, .inl (fun _ => 0)))] := hD
  refine lv_aload_n hx hb dX11_init_118 rfl (lv_at hl 0 rfl) ?_
  refine lv_bipush (v := 7) hx hb dX11_init_119 (by decide) ?_
  refine va_newa (atype := .int) (ty := .int) (a0 := (7, .inl (fun _ => 0))) hx hb (hts (.arrayClass .int) (by decide +kernel)) rfl hK hP hD hS hA (fun _ => vp_cell_i _ _ _) (by decide) (N' := 7) (by decide) (show 7 * 4 ≤ 536870912 by omega) (Nat.le_of_ble_eq_true rfl) (Nat.le_of_ble_eq_true rfl) dX11_init_121 (fun q15 cA15 H hK hP hD hS => ?_)
  have hP : va_P D vwCl [(x0, .inr (11, [.ref q1, .ref q3, .ref q5, .ref q7, .ref q9, .ref q11, .ref q13, .null, .null, .int 0, .long 0])), (q1, .inr (10, [.ref wp_2, .ref ws__2, .ref wd_2, .ref wk_2, .ref wz_2, .int 6, .int 0])), (wp_2, .inl (cP_2, 24, .inl fp_2)), (ws__2, .inl (cS_2, 24, .inl fs_2)), (wd_2, .inl (cD_2, 144, .inl fd_2)), (wk_2, .inl (cK_2, 30, .inl (fun _ => 0))), (wz_2, .inl (cZ_2, 30, .inl (fun _ => 0))), (q3, .inr (1, [.ref q1, .ref b0_4, .ref b1_4, .ref b2_4, .ref b3_4, .ref b4_4, .ref b5_4, .ref b6_4, .ref b7_4, .ref b8_4, .ref b9_4, .ref b10_4, .int 0, .int 0, .int 0])), (q7, .inr (2, [.ref q1, .ref u1_8, .int 0, .int 0])), (q9, .inr (9, [.ref q1, .ref q3, .ref t1_10, .ref t2_10, .ref t3_10, .ref t4_10, .ref t5_10, .ref t6_10, .int 0, .int (-9), .int 0])), (q13, .inr (3, [.ref k0_14, .ref k1_14, .ref k2_14, .int 0])), (k0_14, .inl (cC0_14, 10, .inl (fun _ => 0))), (k1_14, .inl (cC1_14, 10, .inl (fun _ => 0))), (q15, .inl (cA15, 7, .inl (fun _ => 0)))] H := hP
  have hD : va_D A [(x0, .inr (11, [.ref q1, .ref q3, .ref q5, .ref q7, .ref q9, .ref q11, .ref q13, .null, .null, .int 0, .long 0])), (q1, .inr (10, [.ref wp_2, .ref ws__2, .ref wd_2, .ref wk_2, .ref wz_2, .int 6, .int 0])), (wp_2, .inl (cP_2, 24, .inl fp_2)), (ws__2, .inl (cS_2, 24, .inl fs_2)), (wd_2, .inl (cD_2, 144, .inl fd_2)), (wk_2, .inl (cK_2, 30, .inl (fun _ => 0))), (wz_2, .inl (cZ_2, 30, .inl (fun _ => 0))), (q3, .inr (1, [.ref q1, .ref b0_4, .ref b1_4, .ref b2_4, .ref b3_4, .ref b4_4, .ref b5_4, .ref b6_4, .ref b7_4, .ref b8_4, .ref b9_4, .ref b10_4, .int 0, .int 0, .int 0])), (q7, .inr (2, [.ref q1, .ref u1_8, .int 0, .int 0])), (q9, .inr (9, [.ref q1, .ref q3, .ref t1_10, .ref t2_10, .ref t3_10, .ref t4_10, .ref t5_10, .ref t6_10, .int 0, .int (-9), .int 0])), (q13, .inr (3, [.ref k0_14, .ref k1_14, .ref k2_14, .int 0])), (k0_14, .inl (cC0_14, 10, .inl (fun _ => 0))), (k1_14, .inl (cC1_14, 10, .inl (fun _ => 0))), (q15, .inl (cA15, 7, .inl (fun _ => 0)))] := hD
  have hK : va_K D vwCl [(cP_2, .int), (cS_2, .int), (cD_2, .int), (cK_2, .int), (cZ_2, .int), (cC0_14, .int), (cC1_14, .int), (cA15, .int)] s := hK
  refine W.widen (k := 50) (n := 4331) (Nat.le_of_ble_eq_true rfl) (Nat.le_of_ble_eq_true rfl) ?_
  refine va_putF (D := D) (ci := 11) (v := .ref q15) (ty := .array .int) (C := RX11) (T := TX11) (N := 11) hx hb hts (fun _ h => List.mem_cons_of_mem _ (List.mem_append_left _ (List.mem_append_left _ (List.mem_append_left _ (List.mem_append_left _ (List.mem_append_left _ (List.mem_append_left _ (List.mem_append_left _ (List.mem_append_left _ (List.mem_append_left _ (List.mem_append_right _ h))))))))))) tyX11 tyX11_ok nmX11 hown hK hP hD hS 0 rfl rfl 8 (by decide) (hts (.fieldLink RX11 68 "TalePlay" "findingCounts" "[I") (by decide +kernel)) (fun _ h9 => h9) rfl hin rfl (by decide +kernel) rfl rfl (Nat.le_of_ble_eq_true rfl) dX11_init_123 (fun H locs hP hD hS => ?_)
  have hP : va_P D vwCl [(x0, .inr (11, [.ref q1, .ref q3, .ref q5, .ref q7, .ref q9, .ref q11, .ref q13, .null, .ref q15, .int 0, .long 0])), (q1, .inr (10, [.ref wp_2, .ref ws__2, .ref wd_2, .ref wk_2, .ref wz_2, .int 6, .int 0])), (wp_2, .inl (cP_2, 24, .inl fp_2)), (ws__2, .inl (cS_2, 24, .inl fs_2)), (wd_2, .inl (cD_2, 144, .inl fd_2)), (wk_2, .inl (cK_2, 30, .inl (fun _ => 0))), (wz_2, .inl (cZ_2, 30, .inl (fun _ => 0))), (q3, .inr (1, [.ref q1, .ref b0_4, .ref b1_4, .ref b2_4, .ref b3_4, .ref b4_4, .ref b5_4, .ref b6_4, .ref b7_4, .ref b8_4, .ref b9_4, .ref b10_4, .int 0, .int 0, .int 0])), (q7, .inr (2, [.ref q1, .ref u1_8, .int 0, .int 0])), (q9, .inr (9, [.ref q1, .ref q3, .ref t1_10, .ref t2_10, .ref t3_10, .ref t4_10, .ref t5_10, .ref t6_10, .int 0, .int (-9), .int 0])), (q13, .inr (3, [.ref k0_14, .ref k1_14, .ref k2_14, .int 0])), (k0_14, .inl (cC0_14, 10, .inl (fun _ => 0))), (k1_14, .inl (cC1_14, 10, .inl (fun _ => 0))), (q15, .inl (cA15, 7, .inl (fun _ => 0)))] H := hP
  have hD : va_D A [(x0, .inr (11, [.ref q1, .ref q3, .ref q5, .ref q7, .ref q9, .ref q11, .ref q13, .null, .ref q15, .int 0, .long 0])), (q1, .inr (10, [.ref wp_2, .ref ws__2, .ref wd_2, .ref wk_2, .ref wz_2, .int 6, .int 0])), (wp_2, .inl (cP_2, 24, .inl fp_2)), (ws__2, .inl (cS_2, 24, .inl fs_2)), (wd_2, .inl (cD_2, 144, .inl fd_2)), (wk_2, .inl (cK_2, 30, .inl (fun _ => 0))), (wz_2, .inl (cZ_2, 30, .inl (fun _ => 0))), (q3, .inr (1, [.ref q1, .ref b0_4, .ref b1_4, .ref b2_4, .ref b3_4, .ref b4_4, .ref b5_4, .ref b6_4, .ref b7_4, .ref b8_4, .ref b9_4, .ref b10_4, .int 0, .int 0, .int 0])), (q7, .inr (2, [.ref q1, .ref u1_8, .int 0, .int 0])), (q9, .inr (9, [.ref q1, .ref q3, .ref t1_10, .ref t2_10, .ref t3_10, .ref t4_10, .ref t5_10, .ref t6_10, .int 0, .int (-9), .int 0])), (q13, .inr (3, [.ref k0_14, .ref k1_14, .ref k2_14, .int 0])), (k0_14, .inl (cC0_14, 10, .inl (fun _ => 0))), (k1_14, .inl (cC1_14, 10, .inl (fun _ => 0))), (q15, .inl (cA15, 7, .inl (fun _ => 0)))] := hD
  refine lv_aload_n hx hb dX11_init_126 rfl (lv_at hl 0 rfl) ?_
  refine lv_iconst (v := 0) hx hb dX11_init_127 (by decide) ?_
  refine va_put (D := D) (ci := 11) (v := .int 0) (ty := .int) (C := RX11) (T := TX11) (N := 11) hx hb hts (fun _ h => List.mem_cons_of_mem _ (List.mem_append_left _ (List.mem_append_left _ (List.mem_append_left _ (List.mem_append_left _ (List.mem_append_left _ (List.mem_append_left _ (List.mem_append_left _ (List.mem_append_left _ (List.mem_append_left _ (List.mem_append_right _ h))))))))))) tyX11 tyX11_ok nmX11 hown hK hP hD hS 0 rfl rfl 9 (by decide) (hts (.fieldLink RX11 72 "TalePlay" "latestFinding" "I") (by decide +kernel)) (fun _ h9 => h9) rfl (by decide +kernel) rfl rfl (Nat.le_of_ble_eq_true rfl) dX11_init_128 (fun H locs hP hD hS => ?_)
  have hP : va_P D vwCl [(x0, .inr (11, [.ref q1, .ref q3, .ref q5, .ref q7, .ref q9, .ref q11, .ref q13, .null, .ref q15, .int 0, .long 0])), (q1, .inr (10, [.ref wp_2, .ref ws__2, .ref wd_2, .ref wk_2, .ref wz_2, .int 6, .int 0])), (wp_2, .inl (cP_2, 24, .inl fp_2)), (ws__2, .inl (cS_2, 24, .inl fs_2)), (wd_2, .inl (cD_2, 144, .inl fd_2)), (wk_2, .inl (cK_2, 30, .inl (fun _ => 0))), (wz_2, .inl (cZ_2, 30, .inl (fun _ => 0))), (q3, .inr (1, [.ref q1, .ref b0_4, .ref b1_4, .ref b2_4, .ref b3_4, .ref b4_4, .ref b5_4, .ref b6_4, .ref b7_4, .ref b8_4, .ref b9_4, .ref b10_4, .int 0, .int 0, .int 0])), (q7, .inr (2, [.ref q1, .ref u1_8, .int 0, .int 0])), (q9, .inr (9, [.ref q1, .ref q3, .ref t1_10, .ref t2_10, .ref t3_10, .ref t4_10, .ref t5_10, .ref t6_10, .int 0, .int (-9), .int 0])), (q13, .inr (3, [.ref k0_14, .ref k1_14, .ref k2_14, .int 0])), (k0_14, .inl (cC0_14, 10, .inl (fun _ => 0))), (k1_14, .inl (cC1_14, 10, .inl (fun _ => 0))), (q15, .inl (cA15, 7, .inl (fun _ => 0)))] H := hP
  have hD : va_D A [(x0, .inr (11, [.ref q1, .ref q3, .ref q5, .ref q7, .ref q9, .ref q11, .ref q13, .null, .ref q15, .int 0, .long 0])), (q1, .inr (10, [.ref wp_2, .ref ws__2, .ref wd_2, .ref wk_2, .ref wz_2, .int 6, .int 0])), (wp_2, .inl (cP_2, 24, .inl fp_2)), (ws__2, .inl (cS_2, 24, .inl fs_2)), (wd_2, .inl (cD_2, 144, .inl fd_2)), (wk_2, .inl (cK_2, 30, .inl (fun _ => 0))), (wz_2, .inl (cZ_2, 30, .inl (fun _ => 0))), (q3, .inr (1, [.ref q1, .ref b0_4, .ref b1_4, .ref b2_4, .ref b3_4, .ref b4_4, .ref b5_4, .ref b6_4, .ref b7_4, .ref b8_4, .ref b9_4, .ref b10_4, .int 0, .int 0, .int 0])), (q7, .inr (2, [.ref q1, .ref u1_8, .int 0, .int 0])), (q9, .inr (9, [.ref q1, .ref q3, .ref t1_10, .ref t2_10, .ref t3_10, .ref t4_10, .ref t5_10, .ref t6_10, .int 0, .int (-9), .int 0])), (q13, .inr (3, [.ref k0_14, .ref k1_14, .ref k2_14, .int 0])), (k0_14, .inl (cC0_14, 10, .inl (fun _ => 0))), (k1_14, .inl (cC1_14, 10, .inl (fun _ => 0))), (q15, .inl (cA15, 7, .inl (fun _ => 0)))] := hD
  refine lv_aload_n hx hb dX11_init_131 rfl (lv_at hl 0 rfl) ?_
  refine lv_lconst (v := 0) hx hb dX11_init_132 (by decide) ?_
  refine va_put (D := D) (ci := 11) (v := .long 0) (ty := .long) (C := RX11) (T := TX11) (N := 11) hx hb hts (fun _ h => List.mem_cons_of_mem _ (List.mem_append_left _ (List.mem_append_left _ (List.mem_append_left _ (List.mem_append_left _ (List.mem_append_left _ (List.mem_append_left _ (List.mem_append_left _ (List.mem_append_left _ (List.mem_append_left _ (List.mem_append_right _ h))))))))))) tyX11 tyX11_ok nmX11 hown hK hP hD hS 0 rfl rfl 10 (by decide) (hts (.fieldLink RX11 76 "TalePlay" "told" "J") (by decide +kernel)) (fun _ h9 => h9) rfl (by decide +kernel) rfl rfl (Nat.le_of_ble_eq_true rfl) dX11_init_133 (fun H locs hP hD hS => ?_)
  have hP : va_P D vwCl [(x0, .inr (11, [.ref q1, .ref q3, .ref q5, .ref q7, .ref q9, .ref q11, .ref q13, .null, .ref q15, .int 0, .long 0])), (q1, .inr (10, [.ref wp_2, .ref ws__2, .ref wd_2, .ref wk_2, .ref wz_2, .int 6, .int 0])), (wp_2, .inl (cP_2, 24, .inl fp_2)), (ws__2, .inl (cS_2, 24, .inl fs_2)), (wd_2, .inl (cD_2, 144, .inl fd_2)), (wk_2, .inl (cK_2, 30, .inl (fun _ => 0))), (wz_2, .inl (cZ_2, 30, .inl (fun _ => 0))), (q3, .inr (1, [.ref q1, .ref b0_4, .ref b1_4, .ref b2_4, .ref b3_4, .ref b4_4, .ref b5_4, .ref b6_4, .ref b7_4, .ref b8_4, .ref b9_4, .ref b10_4, .int 0, .int 0, .int 0])), (q7, .inr (2, [.ref q1, .ref u1_8, .int 0, .int 0])), (q9, .inr (9, [.ref q1, .ref q3, .ref t1_10, .ref t2_10, .ref t3_10, .ref t4_10, .ref t5_10, .ref t6_10, .int 0, .int (-9), .int 0])), (q13, .inr (3, [.ref k0_14, .ref k1_14, .ref k2_14, .int 0])), (k0_14, .inl (cC0_14, 10, .inl (fun _ => 0))), (k1_14, .inl (cC1_14, 10, .inl (fun _ => 0))), (q15, .inl (cA15, 7, .inl (fun _ => 0)))] H := hP
  have hD : va_D A [(x0, .inr (11, [.ref q1, .ref q3, .ref q5, .ref q7, .ref q9, .ref q11, .ref q13, .null, .ref q15, .int 0, .long 0])), (q1, .inr (10, [.ref wp_2, .ref ws__2, .ref wd_2, .ref wk_2, .ref wz_2, .int 6, .int 0])), (wp_2, .inl (cP_2, 24, .inl fp_2)), (ws__2, .inl (cS_2, 24, .inl fs_2)), (wd_2, .inl (cD_2, 144, .inl fd_2)), (wk_2, .inl (cK_2, 30, .inl (fun _ => 0))), (wz_2, .inl (cZ_2, 30, .inl (fun _ => 0))), (q3, .inr (1, [.ref q1, .ref b0_4, .ref b1_4, .ref b2_4, .ref b3_4, .ref b4_4, .ref b5_4, .ref b6_4, .ref b7_4, .ref b8_4, .ref b9_4, .ref b10_4, .int 0, .int 0, .int 0])), (q7, .inr (2, [.ref q1, .ref u1_8, .int 0, .int 0])), (q9, .inr (9, [.ref q1, .ref q3, .ref t1_10, .ref t2_10, .ref t3_10, .ref t4_10, .ref t5_10, .ref t6_10, .int 0, .int (-9), .int 0])), (q13, .inr (3, [.ref k0_14, .ref k1_14, .ref k2_14, .int 0])), (k0_14, .inl (cC0_14, 10, .inl (fun _ => 0))), (k1_14, .inl (cC1_14, 10, .inl (fun _ => 0))), (q15, .inl (cA15, 7, .inl (fun _ => 0)))] := hD
  exact rw_vret (q1, q3, q5, q7, q9, q11, q13, q15, wp_2, ws__2, wd_2, wk_2, wz_2, cP_2, cS_2, cD_2, cK_2, cZ_2, fp_2, fs_2, fd_2, b0_4, b1_4, b2_4, b3_4, b4_4, b5_4, b6_4, b7_4, b8_4, b9_4, b10_4, u1_8, t1_10, t2_10, t3_10, t4_10, t5_10, t6_10, k0_14, k1_14, k2_14, cA15, cC0_14, cC1_14) hx hb hr hlocks hS (hK.sub (tys' := [(cP_2, .int), (cS_2, .int), (cD_2, .int), (cK_2, .int), (cZ_2, .int), (cC0_14, .int), (cC1_14, .int), (cA15, .int)]) [0, 1, 2, 3, 4, 5, 6, 7] rfl) (hP.sub (ws' := [(x0, .inr (11, [.ref q1, .ref q3, .ref q5, .ref q7, .ref q9, .ref q11, .ref q13, .null, .ref q15, .int 0, .long 0])), (q1, .inr (10, [.ref wp_2, .ref ws__2, .ref wd_2, .ref wk_2, .ref wz_2, .int 6, .int 0])), (wp_2, .inl (cP_2, 24, .inl fp_2)), (ws__2, .inl (cS_2, 24, .inl fs_2)), (wd_2, .inl (cD_2, 144, .inl fd_2)), (wk_2, .inl (cK_2, 30, .inl (fun _ => 0))), (wz_2, .inl (cZ_2, 30, .inl (fun _ => 0))), (q3, .inr (1, [.ref q1, .ref b0_4, .ref b1_4, .ref b2_4, .ref b3_4, .ref b4_4, .ref b5_4, .ref b6_4, .ref b7_4, .ref b8_4, .ref b9_4, .ref b10_4, .int 0, .int 0, .int 0])), (q7, .inr (2, [.ref q1, .ref u1_8, .int 0, .int 0])), (q9, .inr (9, [.ref q1, .ref q3, .ref t1_10, .ref t2_10, .ref t3_10, .ref t4_10, .ref t5_10, .ref t6_10, .int 0, .int (-9), .int 0])), (q13, .inr (3, [.ref k0_14, .ref k1_14, .ref k2_14, .int 0])), (k0_14, .inl (cC0_14, 10, .inl (fun _ => 0))), (k1_14, .inl (cC1_14, 10, .inl (fun _ => 0))), (q15, .inl (cA15, 7, .inl (fun _ => 0)))]) [0, 1, 2, 3, 4, 5, 6, 7, 8, 9, 10, 11, 12, 13] rfl) (hD.sub (ws' := [(x0, .inr (11, [.ref q1, .ref q3, .ref q5, .ref q7, .ref q9, .ref q11, .ref q13, .null, .ref q15, .int 0, .long 0])), (q1, .inr (10, [.ref wp_2, .ref ws__2, .ref wd_2, .ref wk_2, .ref wz_2, .int 6, .int 0])), (wp_2, .inl (cP_2, 24, .inl fp_2)), (ws__2, .inl (cS_2, 24, .inl fs_2)), (wd_2, .inl (cD_2, 144, .inl fd_2)), (wk_2, .inl (cK_2, 30, .inl (fun _ => 0))), (wz_2, .inl (cZ_2, 30, .inl (fun _ => 0))), (q3, .inr (1, [.ref q1, .ref b0_4, .ref b1_4, .ref b2_4, .ref b3_4, .ref b4_4, .ref b5_4, .ref b6_4, .ref b7_4, .ref b8_4, .ref b9_4, .ref b10_4, .int 0, .int 0, .int 0])), (q7, .inr (2, [.ref q1, .ref u1_8, .int 0, .int 0])), (q9, .inr (9, [.ref q1, .ref q3, .ref t1_10, .ref t2_10, .ref t3_10, .ref t4_10, .ref t5_10, .ref t6_10, .int 0, .int (-9), .int 0])), (q13, .inr (3, [.ref k0_14, .ref k1_14, .ref k2_14, .int 0])), (k0_14, .inl (cC0_14, 10, .inl (fun _ => 0))), (k1_14, .inl (cC1_14, 10, .inl (fun _ => 0))), (q15, .inl (cA15, 7, .inl (fun _ => 0)))]) [0, 1, 2, 3, 4, 5, 6, 7, 8, 9, 10, 11, 12, 13] (by decide) rfl) dX11_init_136 ⟨hw2_0, hw2_1, hw2_2, hw2_3, hw2_4, hw2_5, hw2_6⟩
end
