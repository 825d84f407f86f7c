section
-- ===== PART A: goes FIRST, ahead of the names: the tables' words, and 'selects' of the private methods out of them =====
/-- a private method of a class that the tables say can be made, by its rows of tables_1 -/
def lw_okq (q : MethodName × Nat) : Prop := (q.1.cls ≠ "java/lang/invoke/MethodHandle" ∧ q.1.cls ≠ "java/lang/invoke/VarHandle") ∧ Cond.instantiable q.1.cls q.2 ∈ tables_1 ∧ Cond.privateMethod q.1 ∈ tables_1 ∧ Cond.instanceMethod q.1 ∈ tables_1
theorem lw_p0 : lw_okq (⟨"MeetingsAbove", "addPart", "(LMeetingsAbove$Thing;III)V"⟩, 16) := ⟨⟨by decide +kernel, by decide +kernel⟩, List.mem_of_getElem? (i := 13) (by decide +kernel), List.mem_of_getElem? (i := 278) (by decide +kernel), List.mem_of_getElem? (i := 279) (by decide +kernel)⟩
theorem lw_p1 : lw_okq (⟨"MeetingsAbove$Thing", "move", "(III)V"⟩, 5) := ⟨⟨by decide +kernel, by decide +kernel⟩, List.mem_of_getElem? (i := 100) (by decide +kernel), List.mem_of_getElem? (i := 292) (by decide +kernel), List.mem_of_getElem? (i := 293) (by decide +kernel)⟩
theorem lw_p2 : lw_okq (⟨"MeetingsAbove", "meetingsOf", "(ILMeetingsAbove$Thing;)I"⟩, 16) := ⟨⟨by decide +kernel, by decide +kernel⟩, List.mem_of_getElem? (i := 13) (by decide +kernel), List.mem_of_getElem? (i := 304) (by decide +kernel), List.mem_of_getElem? (i := 305) (by decide +kernel)⟩
theorem lw_p3 : lw_okq (⟨"MeetingsAbove", "comeNear", "(LMeetingsAbove$Thing;LMeetingsAbove$Thing;II)Z"⟩, 16) := ⟨⟨by decide +kernel, by decide +kernel⟩, List.mem_of_getElem? (i := 13) (by decide +kernel), List.mem_of_getElem? (i := 311) (by decide +kernel), List.mem_of_getElem? (i := 312) (by decide +kernel)⟩
theorem lw_p4 : lw_okq (⟨"MeetingsAbove", "countMeetings", "()I"⟩, 16) := ⟨⟨by decide +kernel, by decide +kernel⟩, List.mem_of_getElem? (i := 13) (by decide +kernel), List.mem_of_getElem? (i := 346) (by decide +kernel), List.mem_of_getElem? (i := 347) (by decide +kernel)⟩
theorem lw_p5 : lw_okq (⟨"MeetingsAbove", "doMeet", "(II)Z"⟩, 16) := ⟨⟨by decide +kernel, by decide +kernel⟩, List.mem_of_getElem? (i := 13) (by decide +kernel), List.mem_of_getElem? (i := 350) (by decide +kernel), List.mem_of_getElem? (i := 351) (by decide +kernel)⟩
theorem lw_p6 : lw_okq (⟨"MeetingsAbove", "countDotsOf", "(II)I"⟩, 16) := ⟨⟨by decide +kernel, by decide +kernel⟩, List.mem_of_getElem? (i := 13) (by decide +kernel), List.mem_of_getElem? (i := 354) (by decide +kernel), List.mem_of_getElem? (i := 355) (by decide +kernel)⟩
theorem lw_p7 : lw_okq (⟨"MeetingsAbove", "findDot", "(I)LMeetingsAbove$Dot;"⟩, 16) := ⟨⟨by decide +kernel, by decide +kernel⟩, List.mem_of_getElem? (i := 13) (by decide +kernel), List.mem_of_getElem? (i := 358) (by decide +kernel), List.mem_of_getElem? (i := 359) (by decide +kernel)⟩
theorem lw_p8 : lw_okq (⟨"MeetingsAbove$Catalogue", "isHolder", "(ILMeetingsAbove$Dot;)Z"⟩, 2) := ⟨⟨by decide +kernel, by decide +kernel⟩, List.mem_of_getElem? (i := 21) (by decide +kernel), List.mem_of_getElem? (i := 366) (by decide +kernel), List.mem_of_getElem? (i := 367) (by decide +kernel)⟩
theorem lw_p9 : lw_okq (⟨"MeetingsAbove", "countHolding", "()I"⟩, 16) := ⟨⟨by decide +kernel, by decide +kernel⟩, List.mem_of_getElem? (i := 13) (by decide +kernel), List.mem_of_getElem? (i := 378) (by decide +kernel), List.mem_of_getElem? (i := 379) (by decide +kernel)⟩
theorem lw_p10 : lw_okq (⟨"MeetingsAbove", "findNotice", "(I)LMeetingsAbove$Notice;"⟩, 16) := ⟨⟨by decide +kernel, by decide +kernel⟩, List.mem_of_getElem? (i := 13) (by decide +kernel), List.mem_of_getElem? (i := 382) (by decide +kernel), List.mem_of_getElem? (i := 383) (by decide +kernel)⟩
theorem lw_p11 : lw_okq (⟨"MeetingsAbove", "areApart", "(LMeetingsAbove$Thing;LMeetingsAbove$Thing;II)Z"⟩, 16) := ⟨⟨by decide +kernel, by decide +kernel⟩, List.mem_of_getElem? (i := 13) (by decide +kernel), List.mem_of_getElem? (i := 390) (by decide +kernel), List.mem_of_getElem? (i := 391) (by decide +kernel)⟩
theorem lw_p12 : lw_okq (⟨"MeetingsAbove", "areApartOnEachWay", "(LMeetingsAbove$Thing;LMeetingsAbove$Thing;II)Z"⟩, 16) := ⟨⟨by decide +kernel, by decide +kernel⟩, List.mem_of_getElem? (i := 13) (by decide +kernel), List.mem_of_getElem? (i := 404) (by decide +kernel), List.mem_of_getElem? (i := 405) (by decide +kernel)⟩
theorem lw_p13 : lw_okq (⟨"MeetingsAbove", "findNearest", "(LMeetingsAbove$Thing;LMeetingsAbove$Thing;)Z"⟩, 16) := ⟨⟨by decide +kernel, by decide +kernel⟩, List.mem_of_getElem? (i := 13) (by decide +kernel), List.mem_of_getElem? (i := 414) (by decide +kernel), List.mem_of_getElem? (i := 415) (by decide +kernel)⟩
theorem lw_p14 : lw_okq (⟨"MeetingsAbove", "closePairs", "(LMeetingsAbove$Thing;LMeetingsAbove$Thing;II)J"⟩, 16) := ⟨⟨by decide +kernel, by decide +kernel⟩, List.mem_of_getElem? (i := 13) (by decide +kernel), List.mem_of_getElem? (i := 442) (by decide +kernel), List.mem_of_getElem? (i := 443) (by decide +kernel)⟩
theorem lw_p15 : lw_okq (⟨"MeetingsAbove", "chooseBurn", "(ILMeetingsAbove$Thing;I)V"⟩, 16) := ⟨⟨by decide +kernel, by decide +kernel⟩, List.mem_of_getElem? (i := 13) (by decide +kernel), List.mem_of_getElem? (i := 455) (by decide +kernel), List.mem_of_getElem? (i := 456) (by decide +kernel)⟩
def lw_privs_1 : List (MethodName × Nat) := [(⟨"MeetingsAbove", "addPart", "(LMeetingsAbove$Thing;III)V"⟩, 16), (⟨"MeetingsAbove$Thing", "move", "(III)V"⟩, 5), (⟨"MeetingsAbove", "meetingsOf", "(ILMeetingsAbove$Thing;)I"⟩, 16), (⟨"MeetingsAbove", "comeNear", "(LMeetingsAbove$Thing;LMeetingsAbove$Thing;II)Z"⟩, 16), (⟨"MeetingsAbove", "countMeetings", "()I"⟩, 16), (⟨"MeetingsAbove", "doMeet", "(II)Z"⟩, 16), (⟨"MeetingsAbove", "countDotsOf", "(II)I"⟩, 16), (⟨"MeetingsAbove", "findDot", "(I)LMeetingsAbove$Dot;"⟩, 16), (⟨"MeetingsAbove$Catalogue", "isHolder", "(ILMeetingsAbove$Dot;)Z"⟩, 2), (⟨"MeetingsAbove", "countHolding", "()I"⟩, 16), (⟨"MeetingsAbove", "findNotice", "(I)LMeetingsAbove$Notice;"⟩, 16), (⟨"MeetingsAbove", "areApart", "(LMeetingsAbove$Thing;LMeetingsAbove$Thing;II)Z"⟩, 16), (⟨"MeetingsAbove", "areApartOnEachWay", "(LMeetingsAbove$Thing;LMeetingsAbove$Thing;II)Z"⟩, 16), (⟨"MeetingsAbove", "findNearest", "(LMeetingsAbove$Thing;LMeetingsAbove$Thing;)Z"⟩, 16), (⟨"MeetingsAbove", "closePairs", "(LMeetingsAbove$Thing;LMeetingsAbove$Thing;II)J"⟩, 16), (⟨"MeetingsAbove", "chooseBurn", "(ILMeetingsAbove$Thing;I)V"⟩, 16)]
theorem lw_r1 : ∀ q ∈ lw_privs_1, lw_okq q := List.forall_mem_cons.mpr ⟨lw_p0, List.forall_mem_cons.mpr ⟨lw_p1, List.forall_mem_cons.mpr ⟨lw_p2, List.forall_mem_cons.mpr ⟨lw_p3, List.forall_mem_cons.mpr ⟨lw_p4, List.forall_mem_cons.mpr ⟨lw_p5, List.forall_mem_cons.mpr ⟨lw_p6, List.forall_mem_cons.mpr ⟨lw_p7, List.forall_mem_cons.mpr ⟨lw_p8, List.forall_mem_cons.mpr ⟨lw_p9, List.forall_mem_cons.mpr ⟨lw_p10, List.forall_mem_cons.mpr ⟨lw_p11, List.forall_mem_cons.mpr ⟨lw_p12, List.forall_mem_cons.mpr ⟨lw_p13, List.forall_mem_cons.mpr ⟨lw_p14, List.forall_mem_cons.mpr ⟨lw_p15, fun _ h => absurd h List.not_mem_nil⟩⟩⟩⟩⟩⟩⟩⟩⟩⟩⟩⟩⟩⟩⟩⟩
theorem lw_p16 : lw_okq (⟨"MeetingsAbove", "lastClearStep", "(ILMeetingsAbove$Thing;)I"⟩, 16) := ⟨⟨by decide +kernel, by decide +kernel⟩, List.mem_of_getElem? (i := 13) (by decide +kernel), List.mem_of_getElem? (i := 459) (by decide +kernel), List.mem_of_getElem? (i := 460) (by decide +kernel)⟩
theorem lw_p17 : lw_okq (⟨"MeetingsAbove", "meetsAny", "(ILMeetingsAbove$Thing;II)Z"⟩, 16) := ⟨⟨by decide +kernel, by decide +kernel⟩, List.mem_of_getElem? (i := 13) (by decide +kernel), List.mem_of_getElem? (i := 463) (by decide +kernel), List.mem_of_getElem? (i := 464) (by decide +kernel)⟩
theorem lw_p18 : lw_okq (⟨"MeetingsAbove", "isFree", "(ILMeetingsAbove$Thing;LMeetingsAbove$Burn;)Z"⟩, 16) := ⟨⟨by decide +kernel, by decide +kernel⟩, List.mem_of_getElem? (i := 13) (by decide +kernel), List.mem_of_getElem? (i := 475) (by decide +kernel), List.mem_of_getElem? (i := 476) (by decide +kernel)⟩
theorem lw_p19 : lw_okq (⟨"MeetingsAbove", "lastNoticeOf", "(II)I"⟩, 16) := ⟨⟨by decide +kernel, by decide +kernel⟩, List.mem_of_getElem? (i := 13) (by decide +kernel), List.mem_of_getElem? (i := 569) (by decide +kernel), List.mem_of_getElem? (i := 570) (by decide +kernel)⟩
theorem lw_p20 : lw_okq (⟨"MeetingsAbove", "findShelf", "(I)LMeetingsAbove$Catalogue;"⟩, 16) := ⟨⟨by decide +kernel, by decide +kernel⟩, List.mem_of_getElem? (i := 13) (by decide +kernel), List.mem_of_getElem? (i := 585) (by decide +kernel), List.mem_of_getElem? (i := 586) (by decide +kernel)⟩
theorem lw_p21 : lw_okq (⟨"MeetingsAboveModel", "fresh", "(II)I"⟩, 22) := ⟨⟨by decide +kernel, by decide +kernel⟩, List.mem_of_getElem? (i := 607) (by decide +kernel), List.mem_of_getElem? (i := 697) (by decide +kernel), List.mem_of_getElem? (i := 698) (by decide +kernel)⟩
theorem lw_p22 : lw_okq (⟨"MeetingsAboveModel", "setSpot", "(IIIII)V"⟩, 22) := ⟨⟨by decide +kernel, by decide +kernel⟩, List.mem_of_getElem? (i := 607) (by decide +kernel), List.mem_of_getElem? (i := 701) (by decide +kernel), List.mem_of_getElem? (i := 702) (by decide +kernel)⟩
theorem lw_p23 : lw_okq (⟨"MeetingsAboveModel", "isThing", "(I)Z"⟩, 22) := ⟨⟨by decide +kernel, by decide +kernel⟩, List.mem_of_getElem? (i := 607) (by decide +kernel), List.mem_of_getElem? (i := 709) (by decide +kernel), List.mem_of_getElem? (i := 710) (by decide +kernel)⟩
theorem lw_p24 : lw_okq (⟨"MeetingsAboveModel", "hasPlace", "(II)Z"⟩, 22) := ⟨⟨by decide +kernel, by decide +kernel⟩, List.mem_of_getElem? (i := 607) (by decide +kernel), List.mem_of_getElem? (i := 725) (by decide +kernel), List.mem_of_getElem? (i := 726) (by decide +kernel)⟩
theorem lw_p25 : lw_okq (⟨"MeetingsAboveModel", "spot", "(III)I"⟩, 22) := ⟨⟨by decide +kernel, by decide +kernel⟩, List.mem_of_getElem? (i := 607) (by decide +kernel), List.mem_of_getElem? (i := 729) (by decide +kernel), List.mem_of_getElem? (i := 730) (by decide +kernel)⟩
theorem lw_p26 : lw_okq (⟨"MeetingsAboveModel", "meets", "(I)I"⟩, 22) := ⟨⟨by decide +kernel, by decide +kernel⟩, List.mem_of_getElem? (i := 607) (by decide +kernel), List.mem_of_getElem? (i := 743) (by decide +kernel), List.mem_of_getElem? (i := 744) (by decide +kernel)⟩
theorem lw_p27 : lw_okq (⟨"MeetingsAboveModel", "isMeeting", "(II)Z"⟩, 22) := ⟨⟨by decide +kernel, by decide +kernel⟩, List.mem_of_getElem? (i := 607) (by decide +kernel), List.mem_of_getElem? (i := 747) (by decide +kernel), List.mem_of_getElem? (i := 748) (by decide +kernel)⟩
theorem lw_p28 : lw_okq (⟨"MeetingsAboveModel", "areTogether", "(II)Z"⟩, 22) := ⟨⟨by decide +kernel, by decide +kernel⟩, List.mem_of_getElem? (i := 607) (by decide +kernel), List.mem_of_getElem? (i := 751) (by decide +kernel), List.mem_of_getElem? (i := 752) (by decide +kernel)⟩
theorem lw_p29 : lw_okq (⟨"MeetingsAboveModel", "firstOf", "(II)I"⟩, 22) := ⟨⟨by decide +kernel, by decide +kernel⟩, List.mem_of_getElem? (i := 607) (by decide +kernel), List.mem_of_getElem? (i := 755) (by decide +kernel), List.mem_of_getElem? (i := 756) (by decide +kernel)⟩
theorem lw_p30 : lw_okq (⟨"MeetingsAboveModel", "lastOf", "(II)I"⟩, 22) := ⟨⟨by decide +kernel, by decide +kernel⟩, List.mem_of_getElem? (i := 607) (by decide +kernel), List.mem_of_getElem? (i := 759) (by decide +kernel), List.mem_of_getElem? (i := 760) (by decide +kernel)⟩
theorem lw_p31 : lw_okq (⟨"MeetingsAboveModel", "findLeast", "(II)V"⟩, 22) := ⟨⟨by decide +kernel, by decide +kernel⟩, List.mem_of_getElem? (i := 607) (by decide +kernel), List.mem_of_getElem? (i := 763) (by decide +kernel), List.mem_of_getElem? (i := 764) (by decide +kernel)⟩
def lw_privs_2 : List (MethodName × Nat) := [(⟨"MeetingsAbove", "lastClearStep", "(ILMeetingsAbove$Thing;)I"⟩, 16), (⟨"MeetingsAbove", "meetsAny", "(ILMeetingsAbove$Thing;II)Z"⟩, 16), (⟨"MeetingsAbove", "isFree", "(ILMeetingsAbove$Thing;LMeetingsAbove$Burn;)Z"⟩, 16), (⟨"MeetingsAbove", "lastNoticeOf", "(II)I"⟩, 16), (⟨"MeetingsAbove", "findShelf", "(I)LMeetingsAbove$Catalogue;"⟩, 16), (⟨"MeetingsAboveModel", "fresh", "(II)I"⟩, 22), (⟨"MeetingsAboveModel", "setSpot", "(IIIII)V"⟩, 22), (⟨"MeetingsAboveModel", "isThing", "(I)Z"⟩, 22), (⟨"MeetingsAboveModel", "hasPlace", "(II)Z"⟩, 22), (⟨"MeetingsAboveModel", "spot", "(III)I"⟩, 22), (⟨"MeetingsAboveModel", "meets", "(I)I"⟩, 22), (⟨"MeetingsAboveModel", "isMeeting", "(II)Z"⟩, 22), (⟨"MeetingsAboveModel", "areTogether", "(II)Z"⟩, 22), (⟨"MeetingsAboveModel", "firstOf", "(II)I"⟩, 22), (⟨"MeetingsAboveModel", "lastOf", "(II)I"⟩, 22), (⟨"MeetingsAboveModel", "findLeast", "(II)V"⟩, 22)]
theorem lw_r2 : ∀ q ∈ lw_privs_2, lw_okq q := List.forall_mem_cons.mpr ⟨lw_p16, List.forall_mem_cons.mpr ⟨lw_p17, List.forall_mem_cons.mpr ⟨lw_p18, List.forall_mem_cons.mpr ⟨lw_p19, List.forall_mem_cons.mpr ⟨lw_p20, List.forall_mem_cons.mpr ⟨lw_p21, List.forall_mem_cons.mpr ⟨lw_p22, List.forall_mem_cons.mpr ⟨lw_p23, List.forall_mem_cons.mpr ⟨lw_p24, List.forall_mem_cons.mpr ⟨lw_p25, List.forall_mem_cons.mpr ⟨lw_p26, List.forall_mem_cons.mpr ⟨lw_p27, List.forall_mem_cons.mpr ⟨lw_p28, List.forall_mem_cons.mpr ⟨lw_p29, List.forall_mem_cons.mpr ⟨lw_p30, List.forall_mem_cons.mpr ⟨lw_p31, fun _ h => absurd h List.not_mem_nil⟩⟩⟩⟩⟩⟩⟩⟩⟩⟩⟩⟩⟩⟩⟩⟩
theorem lw_p32 : lw_okq (⟨"MeetingsAboveModel", "apart", "(IIII)J"⟩, 22) := ⟨⟨by decide +kernel, by decide +kernel⟩, List.mem_of_getElem? (i := 607) (by decide +kernel), List.mem_of_getElem? (i := 767) (by decide +kernel), List.mem_of_getElem? (i := 768) (by decide +kernel)⟩
theorem lw_p33 : lw_okq (⟨"MeetingsAboveModel", "tryOne", "(JJIJJ)V"⟩, 22) := ⟨⟨by decide +kernel, by decide +kernel⟩, List.mem_of_getElem? (i := 607) (by decide +kernel), List.mem_of_getElem? (i := 771) (by decide +kernel), List.mem_of_getElem? (i := 772) (by decide +kernel)⟩
theorem lw_p34 : lw_okq (⟨"MeetingsAboveModel", "dotOf", "(I)I"⟩, 22) := ⟨⟨by decide +kernel, by decide +kernel⟩, List.mem_of_getElem? (i := 607) (by decide +kernel), List.mem_of_getElem? (i := 783) (by decide +kernel), List.mem_of_getElem? (i := 784) (by decide +kernel)⟩
theorem lw_p35 : lw_okq (⟨"MeetingsAboveModel", "isOf", "(II)Z"⟩, 22) := ⟨⟨by decide +kernel, by decide +kernel⟩, List.mem_of_getElem? (i := 607) (by decide +kernel), List.mem_of_getElem? (i := 787) (by decide +kernel), List.mem_of_getElem? (i := 788) (by decide +kernel)⟩
theorem lw_p36 : lw_okq (⟨"MeetingsAboveModel", "isClearSome", "(IIII)Z"⟩, 22) := ⟨⟨by decide +kernel, by decide +kernel⟩, List.mem_of_getElem? (i := 607) (by decide +kernel), List.mem_of_getElem? (i := 809) (by decide +kernel), List.mem_of_getElem? (i := 810) (by decide +kernel)⟩
theorem lw_p37 : lw_okq (⟨"MeetingsAboveModel", "isClear", "(IIIII)Z"⟩, 22) := ⟨⟨by decide +kernel, by decide +kernel⟩, List.mem_of_getElem? (i := 607) (by decide +kernel), List.mem_of_getElem? (i := 813) (by decide +kernel), List.mem_of_getElem? (i := 814) (by decide +kernel)⟩
theorem lw_p38 : lw_okq (⟨"MeetingsAboveModel", "pairsOf", "(IIII)J"⟩, 22) := ⟨⟨by decide +kernel, by decide +kernel⟩, List.mem_of_getElem? (i := 607) (by decide +kernel), List.mem_of_getElem? (i := 825) (by decide +kernel), List.mem_of_getElem? (i := 826) (by decide +kernel)⟩
theorem lw_p39 : lw_okq (⟨"MeetingsAboveModel", "findBurn", "(II)V"⟩, 22) := ⟨⟨by decide +kernel, by decide +kernel⟩, List.mem_of_getElem? (i := 607) (by decide +kernel), List.mem_of_getElem? (i := 833) (by decide +kernel), List.mem_of_getElem? (i := 834) (by decide +kernel)⟩
theorem lw_p40 : lw_okq (⟨"MeetingsAboveModel", "isBetter", "(II)Z"⟩, 22) := ⟨⟨by decide +kernel, by decide +kernel⟩, List.mem_of_getElem? (i := 607) (by decide +kernel), List.mem_of_getElem? (i := 837) (by decide +kernel), List.mem_of_getElem? (i := 838) (by decide +kernel)⟩
theorem lw_p41 : lw_okq (⟨"MeetingsAboveModel", "shift", "(IIIII)Z"⟩, 22) := ⟨⟨by decide +kernel, by decide +kernel⟩, List.mem_of_getElem? (i := 607) (by decide +kernel), List.mem_of_getElem? (i := 841) (by decide +kernel), List.mem_of_getElem? (i := 842) (by decide +kernel)⟩
theorem lw_p42 : lw_okq (⟨"MeetingsAboveModel", "numberOf", "(II)I"⟩, 22) := ⟨⟨by decide +kernel, by decide +kernel⟩, List.mem_of_getElem? (i := 607) (by decide +kernel), List.mem_of_getElem? (i := 874) (by decide +kernel), List.mem_of_getElem? (i := 875) (by decide +kernel)⟩
def lw_privs_3 : List (MethodName × Nat) := [(⟨"MeetingsAboveModel", "apart", "(IIII)J"⟩, 22), (⟨"MeetingsAboveModel", "tryOne", "(JJIJJ)V"⟩, 22), (⟨"MeetingsAboveModel", "dotOf", "(I)I"⟩, 22), (⟨"MeetingsAboveModel", "isOf", "(II)Z"⟩, 22), (⟨"MeetingsAboveModel", "isClearSome", "(IIII)Z"⟩, 22), (⟨"MeetingsAboveModel", "isClear", "(IIIII)Z"⟩, 22), (⟨"MeetingsAboveModel", "pairsOf", "(IIII)J"⟩, 22), (⟨"MeetingsAboveModel", "findBurn", "(II)V"⟩, 22), (⟨"MeetingsAboveModel", "isBetter", "(II)Z"⟩, 22), (⟨"MeetingsAboveModel", "shift", "(IIIII)Z"⟩, 22), (⟨"MeetingsAboveModel", "numberOf", "(II)I"⟩, 22)]
theorem lw_r3 : ∀ q ∈ lw_privs_3, lw_okq q := List.forall_mem_cons.mpr ⟨lw_p32, List.forall_mem_cons.mpr ⟨lw_p33, List.forall_mem_cons.mpr ⟨lw_p34, List.forall_mem_cons.mpr ⟨lw_p35, List.forall_mem_cons.mpr ⟨lw_p36, List.forall_mem_cons.mpr ⟨lw_p37, List.forall_mem_cons.mpr ⟨lw_p38, List.forall_mem_cons.mpr ⟨lw_p39, List.forall_mem_cons.mpr ⟨lw_p40, List.forall_mem_cons.mpr ⟨lw_p41, List.forall_mem_cons.mpr ⟨lw_p42, fun _ h => absurd h List.not_mem_nil⟩⟩⟩⟩⟩⟩⟩⟩⟩⟩⟩
def lw_privs : List (MethodName × Nat) := lw_privs_1 ++ (lw_privs_2 ++ (lw_privs_3))
def lw_tbl : List Cond := k2_sels lw_privs ++ tables_1
theorem lw_privs_ok : ∀ q ∈ lw_privs, lw_okq q := by
  show ∀ q ∈ lw_privs_1 ++ (lw_privs_2 ++ (lw_privs_3)), lw_okq q
  exact List.forall_mem_append.mpr ⟨lw_r1, List.forall_mem_append.mpr ⟨lw_r2, lw_r3⟩⟩
end
section
theorem goodIn_r {big : List Cond} (ws : List Cond) (ps : List Nat) (hp : ws = ps.filterMap (fun i => big[i]?)) (h : ws.all goodWord = true) : GoodIn big ws := by
  intro w hw
  have h1 := List.all_eq_true.mp h w hw
  rw [hp] at hw
  obtain ⟨i, -, hi⟩ := List.mem_filterMap.mp hw
  have hm : w ∈ big := by first | exact List.mem_of_getElem? hi | exact List.getElem?_mem hi
  exact ⟨hm, good_of_word h1⟩
def RX0 : String := "MeetingsAbove$Burn"
def TX0 : u_T := fun k => match k with
  | 0 => ("MeetingsAbove$Burn", "fuel", "I", false)
  | 1 => ("MeetingsAbove$Burn", "step", "I", false)
  | 2 => ("MeetingsAbove$Burn", "a", "I", false)
  | 3 => ("MeetingsAbove$Burn", "b", "I", false)
  | _ => ("MeetingsAbove$Burn", "c", "I", false)
def tyX0 : Nat → FieldType := fun k => match k with
  | 0 => .int
  | 1 => .int
  | 2 => .int
  | 3 => .int
  | _ => .int
abbrev wsX00 : List Cond := u_ws RX0 TX0 5
theorem tyX0_ok : ∀ k, k < 5 → parseFieldDescriptor (TX0 k).2.2.1 = some (tyX0 k) := by decide +kernel
abbrev cX0_init : ByteArray := prog_2_method_1_code
def yX0_init : MethodName := ⟨RX0, "<init>", "()V"⟩
def RX1 : String := "MeetingsAbove$Catalogue"
def TX1 : u_T := fun k => match k with
  | 0 => ("MeetingsAbove$Catalogue", "all", "[LMeetingsAbove$Thing;", true)
  | _ => ("MeetingsAbove$Catalogue", "size", "I", false)
def tyX1 : Nat → FieldType := fun k => match k with
  | 0 => .array (.object "MeetingsAbove$Thing")
  | _ => .int
abbrev wsX10 : List Cond := u_ws RX1 TX1 2
theorem nmX1 : ∀ a, a < 2 → ∀ b, b < 2 → a ≠ b → (TX1 a).2.1 ≠ (TX1 b).2.1 := by decide +kernel
theorem tyX1_ok : ∀ k, k < 2 → parseFieldDescriptor (TX1 k).2.2.1 = some (tyX1 k) := by decide +kernel
abbrev cX1_init : ByteArray := prog_3_method_1_code
def yX1_init : MethodName := ⟨RX1, "<init>", "()V"⟩
abbrev cX1_find : ByteArray := prog_3_method_2_code
def yX1_find : MethodName := ⟨RX1, "find", "(I)LMeetingsAbove$Thing;"⟩
abbrev cX1_next : ByteArray := prog_3_method_3_code
def yX1_next : MethodName := ⟨RX1, "next", "()LMeetingsAbove$Thing;"⟩
abbrev cX1_copyFrom : ByteArray := prog_3_method_4_code
def yX1_copyFrom : MethodName := ⟨RX1, "copyFrom", "(LMeetingsAbove$Catalogue;)V"⟩
abbrev cX1_countThere : ByteArray := prog_3_method_5_code
def yX1_countThere : MethodName := ⟨RX1, "countThere", "()I"⟩
def RX2 : String := "MeetingsAbove$Dot"
def TX2 : u_T := fun k => match k with
  | 0 => ("MeetingsAbove$Dot", "step", "I", true)
  | 1 => ("MeetingsAbove$Dot", "x", "I", true)
  | 2 => ("MeetingsAbove$Dot", "y", "I", true)
  | _ => ("MeetingsAbove$Dot", "z", "I", true)
def tyX2 : Nat → FieldType := fun k => match k with
  | 0 => .int
  | 1 => .int
  | 2 => .int
  | _ => .int
abbrev wsX20 : List Cond := u_ws RX2 TX2 4
theorem nmX2 : ∀ a, a < 4 → ∀ b, b < 4 → a ≠ b → (TX2 a).2.1 ≠ (TX2 b).2.1 := by decide +kernel
theorem tyX2_ok : ∀ k, k < 4 → parseFieldDescriptor (TX2 k).2.2.1 = some (tyX2 k) := by decide +kernel
abbrev cX2_init : ByteArray := prog_4_method_1_code
def yX2_init : MethodName := ⟨RX2, "<init>", "(IIII)V"⟩
def RX3 : String := "MeetingsAbove$Fraction"
def TX3 : u_T := fun k => match k with
  | 0 => ("MeetingsAbove$Fraction", "upper", "J", false)
  | _ => ("MeetingsAbove$Fraction", "lower", "J", false)
def tyX3 : Nat → FieldType := fun k => match k with
  | 0 => .long
  | _ => .long
abbrev wsX30 : List Cond := u_ws RX3 TX3 2
theorem nmX3 : ∀ a, a < 2 → ∀ b, b < 2 → a ≠ b → (TX3 a).2.1 ≠ (TX3 b).2.1 := by decide +kernel
theorem tyX3_ok : ∀ k, k < 2 → parseFieldDescriptor (TX3 k).2.2.1 = some (tyX3 k) := by decide +kernel
abbrev cX3_init : ByteArray := prog_5_method_1_code
def yX3_init : MethodName := ⟨RX3, "<init>", "()V"⟩
def RX4 : String := "MeetingsAbove$Nearest"
def TX4 : u_T := fun k => match k with
  | 0 => ("MeetingsAbove$Nearest", "square", "LMeetingsAbove$Fraction;", true)
  | 1 => ("MeetingsAbove$Nearest", "part", "LMeetingsAbove$Fraction;", true)
  | _ => ("MeetingsAbove$Nearest", "step", "I", false)
def tyX4 : Nat → FieldType := fun k => match k with
  | 0 => .object "MeetingsAbove$Fraction"
  | 1 => .object "MeetingsAbove$Fraction"
  | _ => .int
abbrev wsX40 : List Cond := u_ws RX4 TX4 3
theorem nmX4 : ∀ a, a < 3 → ∀ b, b < 3 → a ≠ b → (TX4 a).2.1 ≠ (TX4 b).2.1 := by decide +kernel
theorem tyX4_ok : ∀ k, k < 3 → parseFieldDescriptor (TX4 k).2.2.1 = some (tyX4 k) := by decide +kernel
abbrev cX4_init : ByteArray := prog_6_method_1_code
def yX4_init : MethodName := ⟨RX4, "<init>", "()V"⟩
def RX5 : String := "MeetingsAbove$Notice"
def TX5 : u_T := fun k => match k with
  | 0 => ("MeetingsAbove$Notice", "lesser", "I", true)
  | 1 => ("MeetingsAbove$Notice", "greater", "I", true)
  | 2 => ("MeetingsAbove$Notice", "square", "I", true)
  | 3 => ("MeetingsAbove$Notice", "step", "I", true)
  | 4 => ("MeetingsAbove$Notice", "ahead", "I", false)
  | 5 => ("MeetingsAbove$Notice", "answerOfLesser", "I", false)
  | 6 => ("MeetingsAbove$Notice", "answerOfGreater", "I", false)
  | _ => ("MeetingsAbove$Notice", "holds", "Z", false)
abbrev wsX50 : List Cond := u_ws RX5 TX5 8
def RX6 : String := "MeetingsAbove$Thing"
def TX6 : u_T := fun k => match k with
  | 0 => ("MeetingsAbove$Thing", "coords", "[I", true)
  | 1 => ("MeetingsAbove$Thing", "first", "I", false)
  | 2 => ("MeetingsAbove$Thing", "places", "I", false)
  | 3 => ("MeetingsAbove$Thing", "doubt", "I", false)
  | _ => ("MeetingsAbove$Thing", "gone", "Z", false)
def tyX6 : Nat → FieldType := fun k => match k with
  | 0 => .array .int
  | 1 => .int
  | 2 => .int
  | 3 => .int
  | _ => .boolean
abbrev wsX60 : List Cond := u_ws RX6 TX6 5
theorem nmX6 : ∀ a, a < 5 → ∀ b, b < 5 → a ≠ b → (TX6 a).2.1 ≠ (TX6 b).2.1 := by decide +kernel
theorem tyX6_ok : ∀ k, k < 5 → parseFieldDescriptor (TX6 k).2.2.1 = some (tyX6 k) := by decide +kernel
abbrev cX6_init : ByteArray := prog_8_method_1_code
def yX6_init : MethodName := ⟨RX6, "<init>", "()V"⟩
abbrev cX6_begin : ByteArray := prog_8_method_2_code
def yX6_begin : MethodName := ⟨RX6, "begin", "(II)V"⟩
abbrev cX6_append : ByteArray := prog_8_method_3_code
def yX6_append : MethodName := ⟨RX6, "append", "(III)Z"⟩
def RX7 : String := "MeetingsAbove$Way"
def TX7 : u_T := fun k => match k with
  | 0 => ("MeetingsAbove$Way", "upper", "J", false)
  | 1 => ("MeetingsAbove$Way", "lower", "J", false)
  | _ => ("MeetingsAbove$Way", "partUpper", "J", false)
def tyX7 : Nat → FieldType := fun k => match k with
  | 0 => .long
  | 1 => .long
  | _ => .long
abbrev wsX70 : List Cond := u_ws RX7 TX7 3
theorem tyX7_ok : ∀ k, k < 3 → parseFieldDescriptor (TX7 k).2.2.1 = some (tyX7 k) := by decide +kernel
abbrev cX7_init : ByteArray := prog_9_method_1_code
def yX7_init : MethodName := ⟨RX7, "<init>", "()V"⟩
def RX8 : String := "MeetingsAbove"
def TX8 : u_T := fun k => match k with
  | 0 => ("MeetingsAbove", "now", "LMeetingsAbove$Catalogue;", true)
  | 1 => ("MeetingsAbove", "shelf0", "LMeetingsAbove$Catalogue;", true)
  | 2 => ("MeetingsAbove", "shelf1", "LMeetingsAbove$Catalogue;", true)
  | 3 => ("MeetingsAbove", "dots", "[LMeetingsAbove$Dot;", true)
  | 4 => ("MeetingsAbove", "notices", "[LMeetingsAbove$Notice;", true)
  | 5 => ("MeetingsAbove", "dotCount", "I", false)
  | 6 => ("MeetingsAbove", "noticeCount", "I", false)
  | 7 => ("MeetingsAbove", "lateAnswers", "I", false)
  | 8 => ("MeetingsAbove", "near", "I", false)
  | 9 => ("MeetingsAbove", "wide", "I", false)
  | 10 => ("MeetingsAbove", "way", "LMeetingsAbove$Way;", true)
  | 11 => ("MeetingsAbove", "nearest", "LMeetingsAbove$Nearest;", true)
  | 12 => ("MeetingsAbove", "shared", "LMeetingsAbove$Fraction;", true)
  | 13 => ("MeetingsAbove", "trial", "LMeetingsAbove$Thing;", true)
  | 14 => ("MeetingsAbove", "chosen", "LMeetingsAbove$Burn;", true)
  | _ => ("MeetingsAbove", "lastMet", "I", false)
def tyX8 : Nat → FieldType := fun k => match k with
  | 0 => .object "MeetingsAbove$Catalogue"
  | 1 => .object "MeetingsAbove$Catalogue"
  | 2 => .object "MeetingsAbove$Catalogue"
  | 3 => .array (.object "MeetingsAbove$Dot")
  | 4 => .array (.object "MeetingsAbove$Notice")
  | 5 => .int
  | 6 => .int
  | 7 => .int
  | 8 => .int
  | 9 => .int
  | 10 => .object "MeetingsAbove$Way"
  | 11 => .object "MeetingsAbove$Nearest"
  | 12 => .object "MeetingsAbove$Fraction"
  | 13 => .object "MeetingsAbove$Thing"
  | 14 => .object "MeetingsAbove$Burn"
  | _ => .int
abbrev wsX80 : List Cond := u_ws RX8 TX8 16
theorem nmX8 : ∀ a, a < 16 → ∀ b, b < 16 → a ≠ b → (TX8 a).2.1 ≠ (TX8 b).2.1 := by decide +kernel
theorem tyX8_ok : ∀ k, k < 16 → parseFieldDescriptor (TX8 k).2.2.1 = some (tyX8 k) := by decide +kernel
abbrev cX8_init : ByteArray := prog_1_method_1_code
def yX8_init : MethodName := ⟨RX8, "<init>", "()V"⟩
abbrev cX8_thing : ByteArray := prog_1_method_2_code
def yX8_thing : MethodName := ⟨RX8, "thing", "(IIIII)I"⟩
abbrev cX8_place : ByteArray := prog_1_method_3_code
def yX8_place : MethodName := ⟨RX8, "place", "(IIII)I"⟩
abbrev cX8_gone : ByteArray := prog_1_method_4_code
def yX8_gone : MethodName := ⟨RX8, "gone", "(I)I"⟩
abbrev cX8_breaks : ByteArray := prog_1_method_5_code
def yX8_breaks : MethodName := ⟨RX8, "breaks", "(III)I"⟩
abbrev cX8_rule : ByteArray := prog_1_method_6_code
def yX8_rule : MethodName := ⟨RX8, "rule", "(II)I"⟩
abbrev cX8_told : ByteArray := prog_1_method_7_code
def yX8_told : MethodName := ⟨RX8, "told", "(II)I"⟩
abbrev cX8_at : ByteArray := prog_1_method_8_code
def yX8_at : MethodName := ⟨RX8, "at", "(III)I"⟩
abbrev cX8_count : ByteArray := prog_1_method_9_code
def yX8_count : MethodName := ⟨RX8, "count", "(I)I"⟩
abbrev cX8_sieve : ByteArray := prog_1_method_10_code
def yX8_sieve : MethodName := ⟨RX8, "sieve", "(II)I"⟩
abbrev cX8_least : ByteArray := prog_1_method_11_code
def yX8_least : MethodName := ⟨RX8, "least", "(III)J"⟩
abbrev cX8_meeting : ByteArray := prog_1_method_12_code
def yX8_meeting : MethodName := ⟨RX8, "meeting", "(II)I"⟩
abbrev cX8_share : ByteArray := prog_1_method_13_code
def yX8_share : MethodName := ⟨RX8, "share", "(IIII)J"⟩
abbrev cX8_best : ByteArray := prog_1_method_14_code
def yX8_best : MethodName := ⟨RX8, "best", "(III)I"⟩
abbrev cX8_burn : ByteArray := prog_1_method_15_code
def yX8_burn : MethodName := ⟨RX8, "burn", "(IIIII)I"⟩
abbrev cX8_dot : ByteArray := prog_1_method_16_code
def yX8_dot : MethodName := ⟨RX8, "dot", "(IIII)I"⟩
abbrev cX8_dotted : ByteArray := prog_1_method_17_code
def yX8_dotted : MethodName := ⟨RX8, "dotted", "(II)I"⟩
abbrev cX8_notice : ByteArray := prog_1_method_18_code
def yX8_notice : MethodName := ⟨RX8, "notice", "(II)I"⟩
abbrev cX8_answer : ByteArray := prog_1_method_19_code
def yX8_answer : MethodName := ⟨RX8, "answer", "(III)I"⟩
abbrev cX8_noticed : ByteArray := prog_1_method_20_code
def yX8_noticed : MethodName := ⟨RX8, "noticed", "(II)I"⟩
abbrev cX8_keep : ByteArray := prog_1_method_21_code
def yX8_keep : MethodName := ⟨RX8, "keep", "(I)I"⟩
abbrev cX8_differs : ByteArray := prog_1_method_22_code
def yX8_differs : MethodName := ⟨RX8, "differs", "(I)I"⟩
abbrev cX8_isWithin : ByteArray := prog_1_method_23_code
def yX8_isWithin : MethodName := ⟨RX8, "isWithin", "(III)Z"⟩
abbrev cX8_isStep : ByteArray := prog_1_method_24_code
def yX8_isStep : MethodName := ⟨RX8, "isStep", "(I)Z"⟩
abbrev cX8_isPlace : ByteArray := prog_1_method_25_code
def yX8_isPlace : MethodName := ⟨RX8, "isPlace", "(III)Z"⟩
abbrev cX8_countMeetings : ByteArray := prog_1_method_38_code
def yX8_countMeetings : MethodName := ⟨RX8, "countMeetings", "()I"⟩
def yX8_fuelOf : MethodName := ⟨RX8, "fuelOf", "(III)I"⟩
abbrev cX8_findDot : ByteArray := prog_1_method_47_code
def yX8_findDot : MethodName := ⟨RX8, "findDot", "(I)LMeetingsAbove$Dot;"⟩
abbrev cX8_countDotsOf : ByteArray := prog_1_method_48_code
def yX8_countDotsOf : MethodName := ⟨RX8, "countDotsOf", "(II)I"⟩
abbrev cX8_findNotice : ByteArray := prog_1_method_49_code
def yX8_findNotice : MethodName := ⟨RX8, "findNotice", "(I)LMeetingsAbove$Notice;"⟩
abbrev cX8_countHolding : ByteArray := prog_1_method_51_code
def yX8_countHolding : MethodName := ⟨RX8, "countHolding", "()I"⟩
abbrev cX8_findShelf : ByteArray := prog_1_method_52_code
def yX8_findShelf : MethodName := ⟨RX8, "findShelf", "(I)LMeetingsAbove$Catalogue;"⟩
def RX9 : String := "MeetingsAboveModel"
def TX9 : u_T := fun k => match k with
  | 0 => ("MeetingsAboveModel", "things", "I", false)
  | 1 => ("MeetingsAboveModel", "firsts", "[I", true)
  | 2 => ("MeetingsAboveModel", "many", "[I", true)
  | 3 => ("MeetingsAboveModel", "doubts", "[I", true)
  | 4 => ("MeetingsAboveModel", "isGone", "[Z", true)
  | 5 => ("MeetingsAboveModel", "spots", "[I", true)
  | 6 => ("MeetingsAboveModel", "near", "I", false)
  | 7 => ("MeetingsAboveModel", "wide", "I", false)
  | 8 => ("MeetingsAboveModel", "dots", "I", false)
  | 9 => ("MeetingsAboveModel", "dotSteps", "[I", true)
  | 10 => ("MeetingsAboveModel", "dotSpots", "[I", true)
  | 11 => ("MeetingsAboveModel", "notices", "I", false)
  | 12 => ("MeetingsAboveModel", "noted", "[I", true)
  | 13 => ("MeetingsAboveModel", "late", "I", false)
  | 14 => ("MeetingsAboveModel", "shelfMany", "[I", true)
  | 15 => ("MeetingsAboveModel", "shelf", "[I", true)
  | 16 => ("MeetingsAboveModel", "upper", "J", false)
  | 17 => ("MeetingsAboveModel", "lower", "J", false)
  | 18 => ("MeetingsAboveModel", "when", "I", false)
  | 19 => ("MeetingsAboveModel", "partUpper", "J", false)
  | 20 => ("MeetingsAboveModel", "partLower", "J", false)
  | _ => ("MeetingsAboveModel", "burns", "[I", true)
def tyX9 : Nat → FieldType := fun k => match k with
  | 0 => .int
  | 1 => .array .int
  | 2 => .array .int
  | 3 => .array .int
  | 4 => .array .boolean
  | 5 => .array .int
  | 6 => .int
  | 7 => .int
  | 8 => .int
  | 9 => .array .int
  | 10 => .array .int
  | 11 => .int
  | 12 => .array .int
  | 13 => .int
  | 14 => .array .int
  | 15 => .array .int
  | 16 => .long
  | 17 => .long
  | 18 => .int
  | 19 => .long
  | 20 => .long
  | _ => .array .int
abbrev wsX90 : List Cond := u_ws RX9 TX9 22
theorem nmX9 : ∀ a, a < 22 → ∀ b, b < 22 → a ≠ b → (TX9 a).2.1 ≠ (TX9 b).2.1 := by decide +kernel
theorem tyX9_ok : ∀ k, k < 22 → parseFieldDescriptor (TX9 k).2.2.1 = some (tyX9 k) := by decide +kernel
abbrev cX9_init : ByteArray := prog_11_method_1_code
def yX9_init : MethodName := ⟨RX9, "<init>", "()V"⟩
abbrev cX9_in : ByteArray := prog_11_method_3_code
def yX9_in : MethodName := ⟨RX9, "in", "(JJJ)Z"⟩
abbrev cX9_isPlace : ByteArray := prog_11_method_4_code
def yX9_isPlace : MethodName := ⟨RX9, "isPlace", "(III)Z"⟩
abbrev cX9_isThing : ByteArray := prog_11_method_5_code
def yX9_isThing : MethodName := ⟨RX9, "isThing", "(I)Z"⟩
abbrev cX9_setSpot : ByteArray := prog_11_method_8_code
def yX9_setSpot : MethodName := ⟨RX9, "setSpot", "(IIIII)V"⟩
abbrev cX9_fresh : ByteArray := prog_11_method_9_code
def yX9_fresh : MethodName := ⟨RX9, "fresh", "(II)I"⟩
abbrev cX9_thing : ByteArray := prog_11_method_10_code
def yX9_thing : MethodName := ⟨RX9, "thing", "(IIIII)I"⟩
abbrev cX9_place : ByteArray := prog_11_method_11_code
def yX9_place : MethodName := ⟨RX9, "place", "(IIII)I"⟩
abbrev cX9_gone : ByteArray := prog_11_method_12_code
def yX9_gone : MethodName := ⟨RX9, "gone", "(I)I"⟩
abbrev cX9_breaks : ByteArray := prog_11_method_13_code
def yX9_breaks : MethodName := ⟨RX9, "breaks", "(III)I"⟩
abbrev cX9_rule : ByteArray := prog_11_method_14_code
def yX9_rule : MethodName := ⟨RX9, "rule", "(II)I"⟩
abbrev cX9_told : ByteArray := prog_11_method_15_code
def yX9_told : MethodName := ⟨RX9, "told", "(II)I"⟩
abbrev cX9_at : ByteArray := prog_11_method_16_code
def yX9_at : MethodName := ⟨RX9, "at", "(III)I"⟩
abbrev cX9_count : ByteArray := prog_11_method_17_code
def yX9_count : MethodName := ⟨RX9, "count", "(I)I"⟩
abbrev cX9_least : ByteArray := prog_11_method_27_code
def yX9_least : MethodName := ⟨RX9, "least", "(III)J"⟩
abbrev cX9_sieve : ByteArray := prog_11_method_30_code
def yX9_sieve : MethodName := ⟨RX9, "sieve", "(II)I"⟩
abbrev cX9_meeting : ByteArray := prog_11_method_31_code
def yX9_meeting : MethodName := ⟨RX9, "meeting", "(II)I"⟩
abbrev cX9_share : ByteArray := prog_11_method_33_code
def yX9_share : MethodName := ⟨RX9, "share", "(IIII)J"⟩
abbrev cX9_best : ByteArray := prog_11_method_38_code
def yX9_best : MethodName := ⟨RX9, "best", "(III)I"⟩
abbrev cX9_burn : ByteArray := prog_11_method_39_code
def yX9_burn : MethodName := ⟨RX9, "burn", "(IIIII)I"⟩
abbrev cX9_dot : ByteArray := prog_11_method_40_code
def yX9_dot : MethodName := ⟨RX9, "dot", "(IIII)I"⟩
abbrev cX9_dotted : ByteArray := prog_11_method_43_code
def yX9_dotted : MethodName := ⟨RX9, "dotted", "(II)I"⟩
abbrev cX9_notice : ByteArray := prog_11_method_44_code
def yX9_notice : MethodName := ⟨RX9, "notice", "(II)I"⟩
abbrev cX9_answer : ByteArray := prog_11_method_45_code
def yX9_answer : MethodName := ⟨RX9, "answer", "(III)I"⟩
abbrev cX9_noticed : ByteArray := prog_11_method_46_code
def yX9_noticed : MethodName := ⟨RX9, "noticed", "(II)I"⟩
abbrev cX9_keep : ByteArray := prog_11_method_48_code
def yX9_keep : MethodName := ⟨RX9, "keep", "(I)I"⟩
abbrev cX9_differs : ByteArray := prog_11_method_49_code
def yX9_differs : MethodName := ⟨RX9, "differs", "(I)I"⟩
def RL : String := "MeetingsAboveLaw"
abbrev cL_law : ByteArray := code
abbrev vwCl : List vw_C := [(RX0, TX0, 5), (RX1, TX1, 2), (RX2, TX2, 4), (RX3, TX3, 2), (RX4, TX4, 3), (RX5, TX5, 8), (RX6, TX6, 5), (RX7, TX7, 3), (RX8, TX8, 16), (RX9, TX9, 22)]
end
section
theorem dX0_init_0 : decode cX0_init 0 = .ok (.aload_n 0, 1) := by decide +kernel
theorem dX0_init_1 : decode cX0_init 1 = .ok (.invokespecial 3, 3) := by decide +kernel
theorem dX0_init_4 : decode cX0_init 4 = .ok (.return_, 1) := by decide +kernel
theorem dX1_init_0 : decode cX1_init 0 = .ok (.aload_n 0, 1) := by decide +kernel
theorem dX1_init_1 : decode cX1_init 1 = .ok (.invokespecial 3, 3) := by decide +kernel
theorem dX1_init_4 : decode cX1_init 4 = .ok (.aload_n 0, 1) := by decide +kernel
theorem dX1_init_5 : decode cX1_init 5 = .ok (.bipush 16, 2) := by decide +kernel
theorem dX1_init_7 : decode cX1_init 7 = .ok (.anewarray 9, 3) := by decide +kernel
theorem dX1_init_10 : decode cX1_init 10 = .ok (.putfield 11, 3) := by decide +kernel
theorem dX1_init_13 : decode cX1_init 13 = .ok (.return_, 1) := by decide +kernel
theorem dX1_find_0 : decode cX1_find 0 = .ok (.iload_n 1, 1) := by decide +kernel
theorem dX1_find_1 : decode cX1_find 1 = .ok (.ifCond .lt 29, 3) := by decide +kernel
theorem dX1_find_4 : decode cX1_find 4 = .ok (.iload_n 1, 1) := by decide +kernel
theorem dX1_find_5 : decode cX1_find 5 = .ok (.aload_n 0, 1) := by decide +kernel
theorem dX1_find_6 : decode cX1_find 6 = .ok (.getfield 17, 3) := by decide +kernel
theorem dX1_find_9 : decode cX1_find 9 = .ok (.if_icmp .ge 21, 3) := by decide +kernel
theorem dX1_find_30 : decode cX1_find 30 = .ok (.aconst_null, 1) := by decide +kernel
theorem dX1_find_31 : decode cX1_find 31 = .ok (.areturn, 1) := by decide +kernel
theorem dX1_next_0 : decode cX1_next 0 = .ok (.aload_n 0, 1) := by decide +kernel
theorem dX1_next_1 : decode cX1_next 1 = .ok (.getfield 17, 3) := by decide +kernel
theorem dX1_next_4 : decode cX1_next 4 = .ok (.ifCond .lt 15, 3) := by decide +kernel
theorem dX1_next_7 : decode cX1_next 7 = .ok (.aload_n 0, 1) := by decide +kernel
theorem dX1_next_8 : decode cX1_next 8 = .ok (.getfield 17, 3) := by decide +kernel
theorem dX1_next_11 : decode cX1_next 11 = .ok (.aload_n 0, 1) := by decide +kernel
theorem dX1_next_12 : decode cX1_next 12 = .ok (.getfield 11, 3) := by decide +kernel
theorem dX1_next_15 : decode cX1_next 15 = .ok (.arraylength, 1) := by decide +kernel
theorem dX1_next_16 : decode cX1_next 16 = .ok (.if_icmp .lt 5, 3) := by decide +kernel
theorem dX1_next_21 : decode cX1_next 21 = .ok (.aload_n 0, 1) := by decide +kernel
theorem dX1_next_22 : decode cX1_next 22 = .ok (.getfield 11, 3) := by decide +kernel
theorem dX1_next_25 : decode cX1_next 25 = .ok (.aload_n 0, 1) := by decide +kernel
theorem dX1_next_26 : decode cX1_next 26 = .ok (.getfield 17, 3) := by decide +kernel
theorem dX1_next_29 : decode cX1_next 29 = .ok (.aaload, 1) := by decide +kernel
theorem dX1_next_30 : decode cX1_next 30 = .ok (.ifnonnull 19, 3) := by decide +kernel
theorem dX1_next_33 : decode cX1_next 33 = .ok (.aload_n 0, 1) := by decide +kernel
theorem dX1_next_34 : decode cX1_next 34 = .ok (.getfield 11, 3) := by decide +kernel
theorem dX1_next_37 : decode cX1_next 37 = .ok (.aload_n 0, 1) := by decide +kernel
theorem dX1_next_38 : decode cX1_next 38 = .ok (.getfield 17, 3) := by decide +kernel
theorem dX1_next_41 : decode cX1_next 41 = .ok (.new 9, 3) := by decide +kernel
theorem dX1_next_44 : decode cX1_next 44 = .ok (.dup, 1) := by decide +kernel
theorem dX1_next_45 : decode cX1_next 45 = .ok (.invokespecial 21, 3) := by decide +kernel
theorem dX1_next_48 : decode cX1_next 48 = .ok (.aastore, 1) := by decide +kernel
theorem dX1_next_49 : decode cX1_next 49 = .ok (.aload_n 0, 1) := by decide +kernel
theorem dX1_next_50 : decode cX1_next 50 = .ok (.getfield 11, 3) := by decide +kernel
theorem dX1_next_53 : decode cX1_next 53 = .ok (.aload_n 0, 1) := by decide +kernel
theorem dX1_next_54 : decode cX1_next 54 = .ok (.getfield 17, 3) := by decide +kernel
theorem dX1_next_57 : decode cX1_next 57 = .ok (.aaload, 1) := by decide +kernel
theorem dX1_next_58 : decode cX1_next 58 = .ok (.astore_n 1, 1) := by decide +kernel
theorem dX1_next_59 : decode cX1_next 59 = .ok (.aload_n 0, 1) := by decide +kernel
theorem dX1_next_60 : decode cX1_next 60 = .ok (.dup, 1) := by decide +kernel
theorem dX1_next_61 : decode cX1_next 61 = .ok (.getfield 17, 3) := by decide +kernel
theorem dX1_next_64 : decode cX1_next 64 = .ok (.iconst 1, 1) := by decide +kernel
theorem dX1_next_65 : decode cX1_next 65 = .ok (.iadd, 1) := by decide +kernel
theorem dX1_next_66 : decode cX1_next 66 = .ok (.putfield 17, 3) := by decide +kernel
theorem dX1_next_69 : decode cX1_next 69 = .ok (.aload_n 1, 1) := by decide +kernel
theorem dX1_next_70 : decode cX1_next 70 = .ok (.areturn, 1) := by decide +kernel
theorem dX1_copyFrom_0 : decode cX1_copyFrom 0 = .ok (.aload_n 0, 1) := by decide +kernel
theorem dX1_copyFrom_1 : decode cX1_copyFrom 1 = .ok (.iconst 0, 1) := by decide +kernel
theorem dX1_copyFrom_2 : decode cX1_copyFrom 2 = .ok (.putfield 17, 3) := by decide +kernel
theorem dX1_copyFrom_5 : decode cX1_copyFrom 5 = .ok (.iconst 0, 1) := by decide +kernel
theorem dX1_copyFrom_6 : decode cX1_copyFrom 6 = .ok (.istore_n 2, 1) := by decide +kernel
theorem dX1_copyFrom_7 : decode cX1_copyFrom 7 = .ok (.iload_n 2, 1) := by decide +kernel
theorem dX1_copyFrom_8 : decode cX1_copyFrom 8 = .ok (.aload_n 1, 1) := by decide +kernel
theorem dX1_copyFrom_9 : decode cX1_copyFrom 9 = .ok (.getfield 17, 3) := by decide +kernel
theorem dX1_copyFrom_12 : decode cX1_copyFrom 12 = .ok (.if_icmp .ge 40, 3) := by decide +kernel
theorem dX1_copyFrom_52 : decode cX1_copyFrom 52 = .ok (.return_, 1) := by decide +kernel
theorem dX1_countThere_0 : decode cX1_countThere 0 = .ok (.iconst 0, 1) := by decide +kernel
theorem dX1_countThere_1 : decode cX1_countThere 1 = .ok (.istore_n 1, 1) := by decide +kernel
theorem dX1_countThere_2 : decode cX1_countThere 2 = .ok (.iconst 0, 1) := by decide +kernel
theorem dX1_countThere_3 : decode cX1_countThere 3 = .ok (.istore_n 2, 1) := by decide +kernel
theorem dX1_countThere_4 : decode cX1_countThere 4 = .ok (.iload_n 2, 1) := by decide +kernel
theorem dX1_countThere_5 : decode cX1_countThere 5 = .ok (.aload_n 0, 1) := by decide +kernel
theorem dX1_countThere_6 : decode cX1_countThere 6 = .ok (.getfield 17, 3) := by decide +kernel
theorem dX1_countThere_9 : decode cX1_countThere 9 = .ok (.if_icmp .ge 29, 3) := by decide +kernel
theorem dX1_countThere_38 : decode cX1_countThere 38 = .ok (.iload_n 1, 1) := by decide +kernel
theorem dX1_countThere_39 : decode cX1_countThere 39 = .ok (.ireturn, 1) := by decide +kernel
theorem dX2_init_0 : decode cX2_init 0 = .ok (.aload_n 0, 1) := by decide +kernel
theorem dX2_init_1 : decode cX2_init 1 = .ok (.invokespecial 1, 3) := by decide +kernel
theorem dX2_init_4 : decode cX2_init 4 = .ok (.aload_n 0, 1) := by decide +kernel
theorem dX2_init_5 : decode cX2_init 5 = .ok (.iload_n 1, 1) := by decide +kernel
theorem dX2_init_6 : decode cX2_init 6 = .ok (.putfield 7, 3) := by decide +kernel
theorem dX2_init_9 : decode cX2_init 9 = .ok (.aload_n 0, 1) := by decide +kernel
theorem dX2_init_10 : decode cX2_init 10 = .ok (.iload_n 2, 1) := by decide +kernel
theorem dX2_init_11 : decode cX2_init 11 = .ok (.putfield 13, 3) := by decide +kernel
theorem dX2_init_14 : decode cX2_init 14 = .ok (.aload_n 0, 1) := by decide +kernel
theorem dX2_init_15 : decode cX2_init 15 = .ok (.iload_n 3, 1) := by decide +kernel
theorem dX2_init_16 : decode cX2_init 16 = .ok (.putfield 16, 3) := by decide +kernel
theorem dX2_init_19 : decode cX2_init 19 = .ok (.aload_n 0, 1) := by decide +kernel
theorem dX2_init_20 : decode cX2_init 20 = .ok (.iload 4, 2) := by decide +kernel
theorem dX2_init_22 : decode cX2_init 22 = .ok (.putfield 19, 3) := by decide +kernel
theorem dX2_init_25 : decode cX2_init 25 = .ok (.return_, 1) := by decide +kernel
theorem dX3_init_0 : decode cX3_init 0 = .ok (.aload_n 0, 1) := by decide +kernel
theorem dX3_init_1 : decode cX3_init 1 = .ok (.invokespecial 1, 3) := by decide +kernel
theorem dX3_init_4 : decode cX3_init 4 = .ok (.aload_n 0, 1) := by decide +kernel
theorem dX3_init_5 : decode cX3_init 5 = .ok (.lconst 0, 1) := by decide +kernel
theorem dX3_init_6 : decode cX3_init 6 = .ok (.putfield 7, 3) := by decide +kernel
theorem dX3_init_9 : decode cX3_init 9 = .ok (.aload_n 0, 1) := by decide +kernel
theorem dX3_init_10 : decode cX3_init 10 = .ok (.lconst 1, 1) := by decide +kernel
theorem dX3_init_11 : decode cX3_init 11 = .ok (.putfield 13, 3) := by decide +kernel
theorem dX3_init_14 : decode cX3_init 14 = .ok (.return_, 1) := by decide +kernel
theorem dX4_init_0 : decode cX4_init 0 = .ok (.aload_n 0, 1) := by decide +kernel
theorem dX4_init_1 : decode cX4_init 1 = .ok (.invokespecial 1, 3) := by decide +kernel
theorem dX4_init_4 : decode cX4_init 4 = .ok (.aload_n 0, 1) := by decide +kernel
theorem dX4_init_5 : decode cX4_init 5 = .ok (.new 7, 3) := by decide +kernel
theorem dX4_init_8 : decode cX4_init 8 = .ok (.dup, 1) := by decide +kernel
theorem dX4_init_9 : decode cX4_init 9 = .ok (.invokespecial 9, 3) := by decide +kernel
theorem dX4_init_12 : decode cX4_init 12 = .ok (.putfield 10, 3) := by decide +kernel
theorem dX4_init_15 : decode cX4_init 15 = .ok (.aload_n 0, 1) := by decide +kernel
theorem dX4_init_16 : decode cX4_init 16 = .ok (.new 7, 3) := by decide +kernel
theorem dX4_init_19 : decode cX4_init 19 = .ok (.dup, 1) := by decide +kernel
theorem dX4_init_20 : decode cX4_init 20 = .ok (.invokespecial 9, 3) := by decide +kernel
theorem dX4_init_23 : decode cX4_init 23 = .ok (.putfield 16, 3) := by decide +kernel
theorem dX4_init_26 : decode cX4_init 26 = .ok (.return_, 1) := by decide +kernel
theorem dX6_init_0 : decode cX6_init 0 = .ok (.aload_n 0, 1) := by decide +kernel
theorem dX6_init_1 : decode cX6_init 1 = .ok (.invokespecial 3, 3) := by decide +kernel
theorem dX6_init_4 : decode cX6_init 4 = .ok (.aload_n 0, 1) := by decide +kernel
theorem dX6_init_5 : decode cX6_init 5 = .ok (.bipush 36, 2) := by decide +kernel
theorem dX6_init_7 : decode cX6_init 7 = .ok (.newarray .int, 2) := by decide +kernel
theorem dX6_init_9 : decode cX6_init 9 = .ok (.putfield 9, 3) := by decide +kernel
theorem dX6_init_12 : decode cX6_init 12 = .ok (.return_, 1) := by decide +kernel
theorem dX6_begin_0 : decode cX6_begin 0 = .ok (.aload_n 0, 1) := by decide +kernel
theorem dX6_begin_1 : decode cX6_begin 1 = .ok (.iload_n 1, 1) := by decide +kernel
theorem dX6_begin_2 : decode cX6_begin 2 = .ok (.putfield 15, 3) := by decide +kernel
theorem dX6_begin_5 : decode cX6_begin 5 = .ok (.aload_n 0, 1) := by decide +kernel
theorem dX6_begin_6 : decode cX6_begin 6 = .ok (.iconst 0, 1) := by decide +kernel
theorem dX6_begin_7 : decode cX6_begin 7 = .ok (.putfield 19, 3) := by decide +kernel
theorem dX6_begin_10 : decode cX6_begin 10 = .ok (.aload_n 0, 1) := by decide +kernel
theorem dX6_begin_11 : decode cX6_begin 11 = .ok (.iload_n 2, 1) := by decide +kernel
theorem dX6_begin_12 : decode cX6_begin 12 = .ok (.putfield 22, 3) := by decide +kernel
theorem dX6_begin_15 : decode cX6_begin 15 = .ok (.aload_n 0, 1) := by decide +kernel
theorem dX6_begin_16 : decode cX6_begin 16 = .ok (.iconst 0, 1) := by decide +kernel
theorem dX6_begin_17 : decode cX6_begin 17 = .ok (.putfield 25, 3) := by decide +kernel
theorem dX6_begin_20 : decode cX6_begin 20 = .ok (.return_, 1) := by decide +kernel
theorem dX6_append_0 : decode cX6_append 0 = .ok (.iconst 3, 1) := by decide +kernel
theorem dX6_append_1 : decode cX6_append 1 = .ok (.aload_n 0, 1) := by decide +kernel
theorem dX6_append_2 : decode cX6_append 2 = .ok (.getfield 19, 3) := by decide +kernel
theorem dX6_append_5 : decode cX6_append 5 = .ok (.imul, 1) := by decide +kernel
theorem dX6_append_6 : decode cX6_append 6 = .ok (.istore 4, 2) := by decide +kernel
theorem dX6_append_8 : decode cX6_append 8 = .ok (.iload 4, 2) := by decide +kernel
theorem dX6_append_10 : decode cX6_append 10 = .ok (.ifCond .lt 15, 3) := by decide +kernel
theorem dX6_append_13 : decode cX6_append 13 = .ok (.iload 4, 2) := by decide +kernel
theorem dX6_append_15 : decode cX6_append 15 = .ok (.aload_n 0, 1) := by decide +kernel
theorem dX6_append_16 : decode cX6_append 16 = .ok (.getfield 9, 3) := by decide +kernel
theorem dX6_append_19 : decode cX6_append 19 = .ok (.arraylength, 1) := by decide +kernel
theorem dX6_append_20 : decode cX6_append 20 = .ok (.iconst 3, 1) := by decide +kernel
theorem dX6_append_21 : decode cX6_append 21 = .ok (.isub, 1) := by decide +kernel
theorem dX6_append_22 : decode cX6_append 22 = .ok (.if_icmp .le 5, 3) := by decide +kernel
theorem dX6_append_27 : decode cX6_append 27 = .ok (.aload_n 0, 1) := by decide +kernel
theorem dX6_append_28 : decode cX6_append 28 = .ok (.getfield 9, 3) := by decide +kernel
theorem dX6_append_31 : decode cX6_append 31 = .ok (.iload 4, 2) := by decide +kernel
theorem dX6_append_33 : decode cX6_append 33 = .ok (.iload_n 1, 1) := by decide +kernel
theorem dX6_append_34 : decode cX6_append 34 = .ok (.iastore, 1) := by decide +kernel
theorem dX6_append_35 : decode cX6_append 35 = .ok (.aload_n 0, 1) := by decide +kernel
theorem dX6_append_36 : decode cX6_append 36 = .ok (.getfield 9, 3) := by decide +kernel
theorem dX6_append_39 : decode cX6_append 39 = .ok (.iload 4, 2) := by decide +kernel
theorem dX6_append_41 : decode cX6_append 41 = .ok (.iconst 1, 1) := by decide +kernel
theorem dX6_append_42 : decode cX6_append 42 = .ok (.iadd, 1) := by decide +kernel
theorem dX6_append_43 : decode cX6_append 43 = .ok (.iload_n 2, 1) := by decide +kernel
theorem dX6_append_44 : decode cX6_append 44 = .ok (.iastore, 1) := by decide +kernel
theorem dX6_append_45 : decode cX6_append 45 = .ok (.aload_n 0, 1) := by decide +kernel
theorem dX6_append_46 : decode cX6_append 46 = .ok (.getfield 9, 3) := by decide +kernel
theorem dX6_append_49 : decode cX6_append 49 = .ok (.iload 4, 2) := by decide +kernel
theorem dX6_append_51 : decode cX6_append 51 = .ok (.iconst 2, 1) := by decide +kernel
theorem dX6_append_52 : decode cX6_append 52 = .ok (.iadd, 1) := by decide +kernel
theorem dX6_append_53 : decode cX6_append 53 = .ok (.iload_n 3, 1) := by decide +kernel
theorem dX6_append_54 : decode cX6_append 54 = .ok (.iastore, 1) := by decide +kernel
theorem dX6_append_55 : decode cX6_append 55 = .ok (.aload_n 0, 1) := by decide +kernel
theorem dX6_append_56 : decode cX6_append 56 = .ok (.dup, 1) := by decide +kernel
theorem dX6_append_57 : decode cX6_append 57 = .ok (.getfield 19, 3) := by decide +kernel
theorem dX6_append_60 : decode cX6_append 60 = .ok (.iconst 1, 1) := by decide +kernel
theorem dX6_append_61 : decode cX6_append 61 = .ok (.iadd, 1) := by decide +kernel
theorem dX6_append_62 : decode cX6_append 62 = .ok (.putfield 19, 3) := by decide +kernel
theorem dX6_append_65 : decode cX6_append 65 = .ok (.iconst 1, 1) := by decide +kernel
theorem dX6_append_66 : decode cX6_append 66 = .ok (.ireturn, 1) := by decide +kernel
theorem dX7_init_0 : decode cX7_init 0 = .ok (.aload_n 0, 1) := by decide +kernel
theorem dX7_init_1 : decode cX7_init 1 = .ok (.invokespecial 3, 3) := by decide +kernel
theorem dX7_init_4 : decode cX7_init 4 = .ok (.return_, 1) := by decide +kernel
theorem dX8_init_0 : decode cX8_init 0 = .ok (.aload_n 0, 1) := by decide +kernel
theorem dX8_init_1 : decode cX8_init 1 = .ok (.invokespecial 3, 3) := by decide +kernel
theorem dX8_init_4 : decode cX8_init 4 = .ok (.aload_n 0, 1) := by decide +kernel
theorem dX8_init_5 : decode cX8_init 5 = .ok (.new 9, 3) := by decide +kernel
theorem dX8_init_8 : decode cX8_init 8 = .ok (.dup, 1) := by decide +kernel
theorem dX8_init_9 : decode cX8_init 9 = .ok (.invokespecial 11, 3) := by decide +kernel
theorem dX8_init_12 : decode cX8_init 12 = .ok (.putfield 12, 3) := by decide +kernel
theorem dX8_init_15 : decode cX8_init 15 = .ok (.aload_n 0, 1) := by decide +kernel
theorem dX8_init_16 : decode cX8_init 16 = .ok (.new 9, 3) := by decide +kernel
theorem dX8_init_19 : decode cX8_init 19 = .ok (.dup, 1) := by decide +kernel
theorem dX8_init_20 : decode cX8_init 20 = .ok (.invokespecial 11, 3) := by decide +kernel
theorem dX8_init_23 : decode cX8_init 23 = .ok (.putfield 16, 3) := by decide +kernel
theorem dX8_init_26 : decode cX8_init 26 = .ok (.aload_n 0, 1) := by decide +kernel
theorem dX8_init_27 : decode cX8_init 27 = .ok (.new 9, 3) := by decide +kernel
theorem dX8_init_30 : decode cX8_init 30 = .ok (.dup, 1) := by decide +kernel
theorem dX8_init_31 : decode cX8_init 31 = .ok (.invokespecial 11, 3) := by decide +kernel
theorem dX8_init_34 : decode cX8_init 34 = .ok (.putfield 19, 3) := by decide +kernel
theorem dX8_init_37 : decode cX8_init 37 = .ok (.aload_n 0, 1) := by decide +kernel
theorem dX8_init_38 : decode cX8_init 38 = .ok (.bipush 40, 2) := by decide +kernel
theorem dX8_init_40 : decode cX8_init 40 = .ok (.anewarray 22, 3) := by decide +kernel
theorem dX8_init_43 : decode cX8_init 43 = .ok (.putfield 24, 3) := by decide +kernel
theorem dX8_init_46 : decode cX8_init 46 = .ok (.aload_n 0, 1) := by decide +kernel
theorem dX8_init_47 : decode cX8_init 47 = .ok (.bipush 40, 2) := by decide +kernel
theorem dX8_init_49 : decode cX8_init 49 = .ok (.anewarray 28, 3) := by decide +kernel
theorem dX8_init_52 : decode cX8_init 52 = .ok (.putfield 30, 3) := by decide +kernel
theorem dX8_init_55 : decode cX8_init 55 = .ok (.aload_n 0, 1) := by decide +kernel
theorem dX8_init_56 : decode cX8_init 56 = .ok (.bipush 50, 2) := by decide +kernel
theorem dX8_init_58 : decode cX8_init 58 = .ok (.putfield 34, 3) := by decide +kernel
theorem dX8_init_61 : decode cX8_init 61 = .ok (.aload_n 0, 1) := by decide +kernel
theorem dX8_init_62 : decode cX8_init 62 = .ok (.bipush 20, 2) := by decide +kernel
theorem dX8_init_64 : decode cX8_init 64 = .ok (.putfield 38, 3) := by decide +kernel
theorem dX8_init_67 : decode cX8_init 67 = .ok (.aload_n 0, 1) := by decide +kernel
theorem dX8_init_68 : decode cX8_init 68 = .ok (.new 41, 3) := by decide +kernel
theorem dX8_init_71 : decode cX8_init 71 = .ok (.dup, 1) := by decide +kernel
theorem dX8_init_72 : decode cX8_init 72 = .ok (.invokespecial 43, 3) := by decide +kernel
theorem dX8_init_75 : decode cX8_init 75 = .ok (.putfield 44, 3) := by decide +kernel
theorem dX8_init_78 : decode cX8_init 78 = .ok (.aload_n 0, 1) := by decide +kernel
theorem dX8_init_79 : decode cX8_init 79 = .ok (.new 48, 3) := by decide +kernel
theorem dX8_init_82 : decode cX8_init 82 = .ok (.dup, 1) := by decide +kernel
theorem dX8_init_83 : decode cX8_init 83 = .ok (.invokespecial 50, 3) := by decide +kernel
theorem dX8_init_86 : decode cX8_init 86 = .ok (.putfield 51, 3) := by decide +kernel
theorem dX8_init_89 : decode cX8_init 89 = .ok (.aload_n 0, 1) := by decide +kernel
theorem dX8_init_90 : decode cX8_init 90 = .ok (.new 55, 3) := by decide +kernel
theorem dX8_init_93 : decode cX8_init 93 = .ok (.dup, 1) := by decide +kernel
theorem dX8_init_94 : decode cX8_init 94 = .ok (.invokespecial 57, 3) := by decide +kernel
theorem dX8_init_97 : decode cX8_init 97 = .ok (.putfield 58, 3) := by decide +kernel
theorem dX8_init_100 : decode cX8_init 100 = .ok (.aload_n 0, 1) := by decide +kernel
theorem dX8_init_101 : decode cX8_init 101 = .ok (.new 62, 3) := by decide +kernel
theorem dX8_init_104 : decode cX8_init 104 = .ok (.dup, 1) := by decide +kernel
theorem dX8_init_105 : decode cX8_init 105 = .ok (.invokespecial 64, 3) := by decide +kernel
theorem dX8_init_108 : decode cX8_init 108 = .ok (.putfield 65, 3) := by decide +kernel
theorem dX8_init_111 : decode cX8_init 111 = .ok (.aload_n 0, 1) := by decide +kernel
theorem dX8_init_112 : decode cX8_init 112 = .ok (.new 69, 3) := by decide +kernel
theorem dX8_init_115 : decode cX8_init 115 = .ok (.dup, 1) := by decide +kernel
theorem dX8_init_116 : decode cX8_init 116 = .ok (.invokespecial 71, 3) := by decide +kernel
theorem dX8_init_119 : decode cX8_init 119 = .ok (.putfield 72, 3) := by decide +kernel
theorem dX8_init_122 : decode cX8_init 122 = .ok (.return_, 1) := by decide +kernel
theorem dX8_thing_0 : decode cX8_thing 0 = .ok (.iload_n 1, 1) := by decide +kernel
theorem dX8_thing_1 : decode cX8_thing 1 = .ok (.invokestatic 76, 3) := by decide +kernel
theorem dX8_thing_4 : decode cX8_thing 4 = .ok (.ifCond .eq 25, 3) := by decide +kernel
theorem dX8_thing_7 : decode cX8_thing 7 = .ok (.iload_n 2, 1) := by decide +kernel
theorem dX8_thing_8 : decode cX8_thing 8 = .ok (.iload_n 3, 1) := by decide +kernel
theorem dX8_thing_9 : decode cX8_thing 9 = .ok (.iload 4, 2) := by decide +kernel
theorem dX8_thing_11 : decode cX8_thing 11 = .ok (.invokestatic 80, 3) := by decide +kernel
theorem dX8_thing_14 : decode cX8_thing 14 = .ok (.ifCond .eq 15, 3) := by decide +kernel
theorem dX8_thing_17 : decode cX8_thing 17 = .ok (.iload 5, 2) := by decide +kernel
theorem dX8_thing_19 : decode cX8_thing 19 = .ok (.iconst 0, 1) := by decide +kernel
theorem dX8_thing_20 : decode cX8_thing 20 = .ok (.sipush 200, 3) := by decide +kernel
theorem dX8_thing_23 : decode cX8_thing 23 = .ok (.invokestatic 84, 3) := by decide +kernel
theorem dX8_thing_26 : decode cX8_thing 26 = .ok (.ifCond .ne 6, 3) := by decide +kernel
theorem dX8_thing_29 : decode cX8_thing 29 = .ok (.ldc 87, 2) := by decide +kernel
theorem dX8_thing_31 : decode cX8_thing 31 = .ok (.ireturn, 1) := by decide +kernel
theorem dX8_thing_32 : decode cX8_thing 32 = .ok (.aload_n 0, 1) := by decide +kernel
theorem dX8_thing_33 : decode cX8_thing 33 = .ok (.getfield 12, 3) := by decide +kernel
theorem dX8_thing_36 : decode cX8_thing 36 = .ok (.getfield 88, 3) := by decide +kernel
theorem dX8_thing_39 : decode cX8_thing 39 = .ok (.istore 6, 2) := by decide +kernel
theorem dX8_thing_41 : decode cX8_thing 41 = .ok (.aload_n 0, 1) := by decide +kernel
theorem dX8_thing_42 : decode cX8_thing 42 = .ok (.getfield 12, 3) := by decide +kernel
theorem dX8_thing_45 : decode cX8_thing 45 = .ok (.invokevirtual 91, 3) := by decide +kernel
theorem dX8_thing_48 : decode cX8_thing 48 = .ok (.astore 7, 2) := by decide +kernel
theorem dX8_thing_50 : decode cX8_thing 50 = .ok (.aload 7, 2) := by decide +kernel
theorem dX8_thing_52 : decode cX8_thing 52 = .ok (.ifnonnull 6, 3) := by decide +kernel
theorem dX8_thing_58 : decode cX8_thing 58 = .ok (.aload 7, 2) := by decide +kernel
theorem dX8_thing_60 : decode cX8_thing 60 = .ok (.iload_n 1, 1) := by decide +kernel
theorem dX8_thing_61 : decode cX8_thing 61 = .ok (.iload 5, 2) := by decide +kernel
theorem dX8_thing_63 : decode cX8_thing 63 = .ok (.invokevirtual 96, 3) := by decide +kernel
theorem dX8_thing_66 : decode cX8_thing 66 = .ok (.aload 7, 2) := by decide +kernel
theorem dX8_thing_68 : decode cX8_thing 68 = .ok (.iload_n 2, 1) := by decide +kernel
theorem dX8_thing_69 : decode cX8_thing 69 = .ok (.iload_n 3, 1) := by decide +kernel
theorem dX8_thing_70 : decode cX8_thing 70 = .ok (.iload 4, 2) := by decide +kernel
theorem dX8_thing_72 : decode cX8_thing 72 = .ok (.invokevirtual 100, 3) := by decide +kernel
theorem dX8_thing_75 : decode cX8_thing 75 = .ok (.pop, 1) := by decide +kernel
theorem dX8_thing_76 : decode cX8_thing 76 = .ok (.iload 6, 2) := by decide +kernel
theorem dX8_thing_78 : decode cX8_thing 78 = .ok (.ireturn, 1) := by decide +kernel
theorem dX8_place_0 : decode cX8_place 0 = .ok (.aload_n 0, 1) := by decide +kernel
theorem dX8_place_1 : decode cX8_place 1 = .ok (.getfield 12, 3) := by decide +kernel
theorem dX8_place_4 : decode cX8_place 4 = .ok (.iload_n 1, 1) := by decide +kernel
theorem dX8_place_5 : decode cX8_place 5 = .ok (.invokevirtual 103, 3) := by decide +kernel
theorem dX8_place_8 : decode cX8_place 8 = .ok (.astore 5, 2) := by decide +kernel
theorem dX8_place_10 : decode cX8_place 10 = .ok (.aload 5, 2) := by decide +kernel
theorem dX8_place_12 : decode cX8_place 12 = .ok (.ifnonnull 6, 3) := by decide +kernel
theorem dX8_place_15 : decode cX8_place 15 = .ok (.ldc 107, 2) := by decide +kernel
theorem dX8_place_17 : decode cX8_place 17 = .ok (.ireturn, 1) := by decide +kernel
theorem dX8_gone_0 : decode cX8_gone 0 = .ok (.aload_n 0, 1) := by decide +kernel
theorem dX8_gone_1 : decode cX8_gone 1 = .ok (.getfield 12, 3) := by decide +kernel
theorem dX8_gone_4 : decode cX8_gone 4 = .ok (.iload_n 1, 1) := by decide +kernel
theorem dX8_gone_5 : decode cX8_gone 5 = .ok (.invokevirtual 103, 3) := by decide +kernel
theorem dX8_gone_8 : decode cX8_gone 8 = .ok (.astore_n 2, 1) := by decide +kernel
theorem dX8_gone_9 : decode cX8_gone 9 = .ok (.aload_n 2, 1) := by decide +kernel
theorem dX8_gone_10 : decode cX8_gone 10 = .ok (.ifnonnull 6, 3) := by decide +kernel
theorem dX8_gone_13 : decode cX8_gone 13 = .ok (.ldc 107, 2) := by decide +kernel
theorem dX8_gone_15 : decode cX8_gone 15 = .ok (.ireturn, 1) := by decide +kernel
theorem dX8_breaks_0 : decode cX8_breaks 0 = .ok (.aload_n 0, 1) := by decide +kernel
theorem dX8_breaks_1 : decode cX8_breaks 1 = .ok (.getfield 12, 3) := by decide +kernel
theorem dX8_breaks_4 : decode cX8_breaks 4 = .ok (.iload_n 1, 1) := by decide +kernel
theorem dX8_breaks_5 : decode cX8_breaks 5 = .ok (.invokevirtual 103, 3) := by decide +kernel
theorem dX8_breaks_8 : decode cX8_breaks 8 = .ok (.astore 4, 2) := by decide +kernel
theorem dX8_breaks_10 : decode cX8_breaks 10 = .ok (.aload 4, 2) := by decide +kernel
theorem dX8_breaks_12 : decode cX8_breaks 12 = .ok (.ifnonnull 6, 3) := by decide +kernel
theorem dX8_breaks_15 : decode cX8_breaks 15 = .ok (.ldc 107, 2) := by decide +kernel
theorem dX8_breaks_17 : decode cX8_breaks 17 = .ok (.ireturn, 1) := by decide +kernel
theorem dX8_rule_0 : decode cX8_rule 0 = .ok (.iload_n 1, 1) := by decide +kernel
theorem dX8_rule_1 : decode cX8_rule 1 = .ok (.ifCond .ne 26, 3) := by decide +kernel
theorem dX8_rule_4 : decode cX8_rule 4 = .ok (.iload_n 2, 1) := by decide +kernel
theorem dX8_rule_5 : decode cX8_rule 5 = .ok (.iconst 1, 1) := by decide +kernel
theorem dX8_rule_6 : decode cX8_rule 6 = .ok (.sipush 3000, 3) := by decide +kernel
theorem dX8_rule_9 : decode cX8_rule 9 = .ok (.invokestatic 84, 3) := by decide +kernel
theorem dX8_rule_12 : decode cX8_rule 12 = .ok (.ifCond .eq 15, 3) := by decide +kernel
theorem dX8_rule_15 : decode cX8_rule 15 = .ok (.aload_n 0, 1) := by decide +kernel
theorem dX8_rule_16 : decode cX8_rule 16 = .ok (.getfield 34, 3) := by decide +kernel
theorem dX8_rule_19 : decode cX8_rule 19 = .ok (.istore_n 3, 1) := by decide +kernel
theorem dX8_rule_20 : decode cX8_rule 20 = .ok (.aload_n 0, 1) := by decide +kernel
theorem dX8_rule_21 : decode cX8_rule 21 = .ok (.iload_n 2, 1) := by decide +kernel
theorem dX8_rule_22 : decode cX8_rule 22 = .ok (.putfield 34, 3) := by decide +kernel
theorem dX8_rule_25 : decode cX8_rule 25 = .ok (.iload_n 3, 1) := by decide +kernel
theorem dX8_rule_26 : decode cX8_rule 26 = .ok (.ireturn, 1) := by decide +kernel
theorem dX8_rule_27 : decode cX8_rule 27 = .ok (.iload_n 1, 1) := by decide +kernel
theorem dX8_rule_28 : decode cX8_rule 28 = .ok (.iconst 1, 1) := by decide +kernel
theorem dX8_rule_29 : decode cX8_rule 29 = .ok (.if_icmp .ne 26, 3) := by decide +kernel
theorem dX8_rule_32 : decode cX8_rule 32 = .ok (.iload_n 2, 1) := by decide +kernel
theorem dX8_rule_33 : decode cX8_rule 33 = .ok (.iconst 0, 1) := by decide +kernel
theorem dX8_rule_34 : decode cX8_rule 34 = .ok (.sipush 400, 3) := by decide +kernel
theorem dX8_rule_37 : decode cX8_rule 37 = .ok (.invokestatic 84, 3) := by decide +kernel
theorem dX8_rule_40 : decode cX8_rule 40 = .ok (.ifCond .eq 15, 3) := by decide +kernel
theorem dX8_rule_43 : decode cX8_rule 43 = .ok (.aload_n 0, 1) := by decide +kernel
theorem dX8_rule_44 : decode cX8_rule 44 = .ok (.getfield 38, 3) := by decide +kernel
theorem dX8_rule_47 : decode cX8_rule 47 = .ok (.istore_n 3, 1) := by decide +kernel
theorem dX8_rule_48 : decode cX8_rule 48 = .ok (.aload_n 0, 1) := by decide +kernel
theorem dX8_rule_49 : decode cX8_rule 49 = .ok (.iload_n 2, 1) := by decide +kernel
theorem dX8_rule_50 : decode cX8_rule 50 = .ok (.putfield 38, 3) := by decide +kernel
theorem dX8_rule_53 : decode cX8_rule 53 = .ok (.iload_n 3, 1) := by decide +kernel
theorem dX8_rule_54 : decode cX8_rule 54 = .ok (.ireturn, 1) := by decide +kernel
theorem dX8_rule_55 : decode cX8_rule 55 = .ok (.ldc 87, 2) := by decide +kernel
theorem dX8_rule_57 : decode cX8_rule 57 = .ok (.ireturn, 1) := by decide +kernel
theorem dX8_told_0 : decode cX8_told 0 = .ok (.aload_n 0, 1) := by decide +kernel
theorem dX8_told_1 : decode cX8_told 1 = .ok (.getfield 12, 3) := by decide +kernel
theorem dX8_told_4 : decode cX8_told 4 = .ok (.iload_n 1, 1) := by decide +kernel
theorem dX8_told_5 : decode cX8_told 5 = .ok (.invokevirtual 103, 3) := by decide +kernel
theorem dX8_told_8 : decode cX8_told 8 = .ok (.astore_n 3, 1) := by decide +kernel
theorem dX8_told_9 : decode cX8_told 9 = .ok (.aload_n 3, 1) := by decide +kernel
theorem dX8_told_10 : decode cX8_told 10 = .ok (.ifnonnull 6, 3) := by decide +kernel
theorem dX8_told_13 : decode cX8_told 13 = .ok (.ldc 107, 2) := by decide +kernel
theorem dX8_told_15 : decode cX8_told 15 = .ok (.ireturn, 1) := by decide +kernel
theorem dX8_at_0 : decode cX8_at 0 = .ok (.aload_n 0, 1) := by decide +kernel
theorem dX8_at_1 : decode cX8_at 1 = .ok (.getfield 12, 3) := by decide +kernel
theorem dX8_at_4 : decode cX8_at 4 = .ok (.iload_n 1, 1) := by decide +kernel
theorem dX8_at_5 : decode cX8_at 5 = .ok (.invokevirtual 103, 3) := by decide +kernel
theorem dX8_at_8 : decode cX8_at 8 = .ok (.astore 4, 2) := by decide +kernel
theorem dX8_at_10 : decode cX8_at 10 = .ok (.aload 4, 2) := by decide +kernel
theorem dX8_at_12 : decode cX8_at 12 = .ok (.ifnonnull 6, 3) := by decide +kernel
theorem dX8_at_15 : decode cX8_at 15 = .ok (.ldc 107, 2) := by decide +kernel
theorem dX8_at_17 : decode cX8_at 17 = .ok (.ireturn, 1) := by decide +kernel
theorem dX8_count_0 : decode cX8_count 0 = .ok (.iload_n 1, 1) := by decide +kernel
theorem dX8_count_1 : decode cX8_count 1 = .ok (.tableswitch 118 0 9 #[55, 63, 71, 76, 81, 88, 96, 103, 108, 113], 55) := by decide +kernel
theorem dX8_count_56 : decode cX8_count 56 = .ok (.aload_n 0, 1) := by decide +kernel
theorem dX8_count_57 : decode cX8_count 57 = .ok (.getfield 12, 3) := by decide +kernel
theorem dX8_count_60 : decode cX8_count 60 = .ok (.getfield 88, 3) := by decide +kernel
theorem dX8_count_63 : decode cX8_count 63 = .ok (.ireturn, 1) := by decide +kernel
theorem dX8_count_64 : decode cX8_count 64 = .ok (.aload_n 0, 1) := by decide +kernel
theorem dX8_count_65 : decode cX8_count 65 = .ok (.getfield 12, 3) := by decide +kernel
theorem dX8_count_68 : decode cX8_count 68 = .ok (.invokevirtual 152, 3) := by decide +kernel
theorem dX8_count_71 : decode cX8_count 71 = .ok (.ireturn, 1) := by decide +kernel
theorem dX8_count_72 : decode cX8_count 72 = .ok (.aload_n 0, 1) := by decide +kernel
theorem dX8_count_73 : decode cX8_count 73 = .ok (.invokevirtual 155, 3) := by decide +kernel
theorem dX8_count_76 : decode cX8_count 76 = .ok (.ireturn, 1) := by decide +kernel
theorem dX8_count_77 : decode cX8_count 77 = .ok (.aload_n 0, 1) := by decide +kernel
theorem dX8_count_78 : decode cX8_count 78 = .ok (.getfield 158, 3) := by decide +kernel
theorem dX8_count_81 : decode cX8_count 81 = .ok (.ireturn, 1) := by decide +kernel
theorem dX8_count_82 : decode cX8_count 82 = .ok (.aload_n 0, 1) := by decide +kernel
theorem dX8_count_83 : decode cX8_count 83 = .ok (.iconst 1, 1) := by decide +kernel
theorem dX8_count_84 : decode cX8_count 84 = .ok (.iconst 1, 1) := by decide +kernel
theorem dX8_count_85 : decode cX8_count 85 = .ok (.invokevirtual 161, 3) := by decide +kernel
theorem dX8_count_88 : decode cX8_count 88 = .ok (.ireturn, 1) := by decide +kernel
theorem dX8_count_89 : decode cX8_count 89 = .ok (.aload_n 0, 1) := by decide +kernel
theorem dX8_count_90 : decode cX8_count 90 = .ok (.iconst 2, 1) := by decide +kernel
theorem dX8_count_91 : decode cX8_count 91 = .ok (.bipush 16, 2) := by decide +kernel
theorem dX8_count_93 : decode cX8_count 93 = .ok (.invokevirtual 161, 3) := by decide +kernel
theorem dX8_count_96 : decode cX8_count 96 = .ok (.ireturn, 1) := by decide +kernel
theorem dX8_count_97 : decode cX8_count 97 = .ok (.aload_n 0, 1) := by decide +kernel
theorem dX8_count_98 : decode cX8_count 98 = .ok (.iconst 0, 1) := by decide +kernel
theorem dX8_count_99 : decode cX8_count 99 = .ok (.iconst 0, 1) := by decide +kernel
theorem dX8_count_100 : decode cX8_count 100 = .ok (.invokevirtual 161, 3) := by decide +kernel
theorem dX8_count_103 : decode cX8_count 103 = .ok (.ireturn, 1) := by decide +kernel
theorem dX8_count_104 : decode cX8_count 104 = .ok (.aload_n 0, 1) := by decide +kernel
theorem dX8_count_105 : decode cX8_count 105 = .ok (.getfield 164, 3) := by decide +kernel
theorem dX8_count_108 : decode cX8_count 108 = .ok (.ireturn, 1) := by decide +kernel
theorem dX8_count_109 : decode cX8_count 109 = .ok (.aload_n 0, 1) := by decide +kernel
theorem dX8_count_110 : decode cX8_count 110 = .ok (.invokevirtual 167, 3) := by decide +kernel
theorem dX8_count_113 : decode cX8_count 113 = .ok (.ireturn, 1) := by decide +kernel
theorem dX8_count_114 : decode cX8_count 114 = .ok (.aload_n 0, 1) := by decide +kernel
theorem dX8_count_115 : decode cX8_count 115 = .ok (.getfield 170, 3) := by decide +kernel
theorem dX8_count_118 : decode cX8_count 118 = .ok (.ireturn, 1) := by decide +kernel
theorem dX8_count_119 : decode cX8_count 119 = .ok (.ldc 87, 2) := by decide +kernel
theorem dX8_count_121 : decode cX8_count 121 = .ok (.ireturn, 1) := by decide +kernel
theorem dX8_sieve_0 : decode cX8_sieve 0 = .ok (.aload_n 0, 1) := by decide +kernel
theorem dX8_sieve_1 : decode cX8_sieve 1 = .ok (.getfield 12, 3) := by decide +kernel
theorem dX8_sieve_4 : decode cX8_sieve 4 = .ok (.iload_n 1, 1) := by decide +kernel
theorem dX8_sieve_5 : decode cX8_sieve 5 = .ok (.invokevirtual 103, 3) := by decide +kernel
theorem dX8_sieve_8 : decode cX8_sieve 8 = .ok (.astore_n 3, 1) := by decide +kernel
theorem dX8_sieve_9 : decode cX8_sieve 9 = .ok (.aload_n 0, 1) := by decide +kernel
theorem dX8_sieve_10 : decode cX8_sieve 10 = .ok (.getfield 12, 3) := by decide +kernel
theorem dX8_sieve_13 : decode cX8_sieve 13 = .ok (.iload_n 2, 1) := by decide +kernel
theorem dX8_sieve_14 : decode cX8_sieve 14 = .ok (.invokevirtual 103, 3) := by decide +kernel
theorem dX8_sieve_17 : decode cX8_sieve 17 = .ok (.astore 4, 2) := by decide +kernel
theorem dX8_sieve_19 : decode cX8_sieve 19 = .ok (.aload_n 3, 1) := by decide +kernel
theorem dX8_sieve_20 : decode cX8_sieve 20 = .ok (.ifnull 8, 3) := by decide +kernel
theorem dX8_sieve_28 : decode cX8_sieve 28 = .ok (.ldc 107, 2) := by decide +kernel
theorem dX8_sieve_30 : decode cX8_sieve 30 = .ok (.ireturn, 1) := by decide +kernel
theorem dX8_least_0 : decode cX8_least 0 = .ok (.aload_n 0, 1) := by decide +kernel
theorem dX8_least_1 : decode cX8_least 1 = .ok (.getfield 12, 3) := by decide +kernel
theorem dX8_least_4 : decode cX8_least 4 = .ok (.iload_n 1, 1) := by decide +kernel
theorem dX8_least_5 : decode cX8_least 5 = .ok (.invokevirtual 103, 3) := by decide +kernel
theorem dX8_least_8 : decode cX8_least 8 = .ok (.astore 4, 2) := by decide +kernel
theorem dX8_least_10 : decode cX8_least 10 = .ok (.aload_n 0, 1) := by decide +kernel
theorem dX8_least_11 : decode cX8_least 11 = .ok (.getfield 12, 3) := by decide +kernel
theorem dX8_least_14 : decode cX8_least 14 = .ok (.iload_n 2, 1) := by decide +kernel
theorem dX8_least_15 : decode cX8_least 15 = .ok (.invokevirtual 103, 3) := by decide +kernel
theorem dX8_least_18 : decode cX8_least 18 = .ok (.astore 5, 2) := by decide +kernel
theorem dX8_least_20 : decode cX8_least 20 = .ok (.aload 4, 2) := by decide +kernel
theorem dX8_least_22 : decode cX8_least 22 = .ok (.ifnull 8, 3) := by decide +kernel
theorem dX8_least_30 : decode cX8_least 30 = .ok (.ldc2_w 187, 3) := by decide +kernel
theorem dX8_least_33 : decode cX8_least 33 = .ok (.lreturn, 1) := by decide +kernel
theorem dX8_meeting_0 : decode cX8_meeting 0 = .ok (.iload_n 2, 1) := by decide +kernel
theorem dX8_meeting_1 : decode cX8_meeting 1 = .ok (.iconst 0, 1) := by decide +kernel
theorem dX8_meeting_2 : decode cX8_meeting 2 = .ok (.iconst 1, 1) := by decide +kernel
theorem dX8_meeting_3 : decode cX8_meeting 3 = .ok (.invokestatic 84, 3) := by decide +kernel
theorem dX8_meeting_6 : decode cX8_meeting 6 = .ok (.ifCond .ne 6, 3) := by decide +kernel
theorem dX8_meeting_9 : decode cX8_meeting 9 = .ok (.ldc 87, 2) := by decide +kernel
theorem dX8_meeting_11 : decode cX8_meeting 11 = .ok (.ireturn, 1) := by decide +kernel
theorem dX8_meeting_12 : decode cX8_meeting 12 = .ok (.iconst 0, 1) := by decide +kernel
theorem dX8_meeting_13 : decode cX8_meeting 13 = .ok (.istore_n 3, 1) := by decide +kernel
theorem dX8_meeting_14 : decode cX8_meeting 14 = .ok (.iconst 0, 1) := by decide +kernel
theorem dX8_meeting_15 : decode cX8_meeting 15 = .ok (.istore 4, 2) := by decide +kernel
theorem dX8_meeting_17 : decode cX8_meeting 17 = .ok (.iload 4, 2) := by decide +kernel
theorem dX8_meeting_19 : decode cX8_meeting 19 = .ok (.aload_n 0, 1) := by decide +kernel
theorem dX8_meeting_20 : decode cX8_meeting 20 = .ok (.getfield 12, 3) := by decide +kernel
theorem dX8_meeting_23 : decode cX8_meeting 23 = .ok (.getfield 88, 3) := by decide +kernel
theorem dX8_meeting_26 : decode cX8_meeting 26 = .ok (.if_icmp .ge 64, 3) := by decide +kernel
theorem dX8_meeting_90 : decode cX8_meeting 90 = .ok (.iconst (-1), 1) := by decide +kernel
theorem dX8_meeting_91 : decode cX8_meeting 91 = .ok (.ireturn, 1) := by decide +kernel
theorem dX8_share_0 : decode cX8_share 0 = .ok (.aload_n 0, 1) := by decide +kernel
theorem dX8_share_1 : decode cX8_share 1 = .ok (.getfield 12, 3) := by decide +kernel
theorem dX8_share_4 : decode cX8_share 4 = .ok (.iload_n 1, 1) := by decide +kernel
theorem dX8_share_5 : decode cX8_share 5 = .ok (.invokevirtual 103, 3) := by decide +kernel
theorem dX8_share_8 : decode cX8_share 8 = .ok (.astore 5, 2) := by decide +kernel
theorem dX8_share_10 : decode cX8_share 10 = .ok (.aload_n 0, 1) := by decide +kernel
theorem dX8_share_11 : decode cX8_share 11 = .ok (.getfield 12, 3) := by decide +kernel
theorem dX8_share_14 : decode cX8_share 14 = .ok (.iload_n 2, 1) := by decide +kernel
theorem dX8_share_15 : decode cX8_share 15 = .ok (.invokevirtual 103, 3) := by decide +kernel
theorem dX8_share_18 : decode cX8_share 18 = .ok (.astore 6, 2) := by decide +kernel
theorem dX8_share_20 : decode cX8_share 20 = .ok (.aload 5, 2) := by decide +kernel
theorem dX8_share_22 : decode cX8_share 22 = .ok (.ifnull 8, 3) := by decide +kernel
theorem dX8_share_30 : decode cX8_share 30 = .ok (.ldc2_w 187, 3) := by decide +kernel
theorem dX8_share_33 : decode cX8_share 33 = .ok (.lreturn, 1) := by decide +kernel
theorem dX8_best_0 : decode cX8_best 0 = .ok (.aload_n 0, 1) := by decide +kernel
theorem dX8_best_1 : decode cX8_best 1 = .ok (.getfield 12, 3) := by decide +kernel
theorem dX8_best_4 : decode cX8_best 4 = .ok (.iload_n 1, 1) := by decide +kernel
theorem dX8_best_5 : decode cX8_best 5 = .ok (.invokevirtual 103, 3) := by decide +kernel
theorem dX8_best_8 : decode cX8_best 8 = .ok (.astore 4, 2) := by decide +kernel
theorem dX8_best_10 : decode cX8_best 10 = .ok (.aload 4, 2) := by decide +kernel
theorem dX8_best_12 : decode cX8_best 12 = .ok (.ifnonnull 6, 3) := by decide +kernel
theorem dX8_best_15 : decode cX8_best 15 = .ok (.ldc 107, 2) := by decide +kernel
theorem dX8_best_17 : decode cX8_best 17 = .ok (.ireturn, 1) := by decide +kernel
theorem dX8_burn_0 : decode cX8_burn 0 = .ok (.aload_n 0, 1) := by decide +kernel
theorem dX8_burn_1 : decode cX8_burn 1 = .ok (.getfield 12, 3) := by decide +kernel
theorem dX8_burn_4 : decode cX8_burn 4 = .ok (.iload_n 1, 1) := by decide +kernel
theorem dX8_burn_5 : decode cX8_burn 5 = .ok (.invokevirtual 103, 3) := by decide +kernel
theorem dX8_burn_8 : decode cX8_burn 8 = .ok (.astore 6, 2) := by decide +kernel
theorem dX8_burn_10 : decode cX8_burn 10 = .ok (.aload 6, 2) := by decide +kernel
theorem dX8_burn_12 : decode cX8_burn 12 = .ok (.ifnonnull 6, 3) := by decide +kernel
theorem dX8_burn_15 : decode cX8_burn 15 = .ok (.ldc 107, 2) := by decide +kernel
theorem dX8_burn_17 : decode cX8_burn 17 = .ok (.ireturn, 1) := by decide +kernel
theorem dX8_dot_0 : decode cX8_dot 0 = .ok (.iload_n 1, 1) := by decide +kernel
theorem dX8_dot_1 : decode cX8_dot 1 = .ok (.invokestatic 76, 3) := by decide +kernel
theorem dX8_dot_4 : decode cX8_dot 4 = .ok (.ifCond .eq 13, 3) := by decide +kernel
theorem dX8_dot_7 : decode cX8_dot 7 = .ok (.iload_n 2, 1) := by decide +kernel
theorem dX8_dot_8 : decode cX8_dot 8 = .ok (.iload_n 3, 1) := by decide +kernel
theorem dX8_dot_9 : decode cX8_dot 9 = .ok (.iload 4, 2) := by decide +kernel
theorem dX8_dot_11 : decode cX8_dot 11 = .ok (.invokestatic 80, 3) := by decide +kernel
theorem dX8_dot_14 : decode cX8_dot 14 = .ok (.ifCond .ne 6, 3) := by decide +kernel
theorem dX8_dot_17 : decode cX8_dot 17 = .ok (.ldc 87, 2) := by decide +kernel
theorem dX8_dot_19 : decode cX8_dot 19 = .ok (.ireturn, 1) := by decide +kernel
theorem dX8_dot_20 : decode cX8_dot 20 = .ok (.aload_n 0, 1) := by decide +kernel
theorem dX8_dot_21 : decode cX8_dot 21 = .ok (.getfield 158, 3) := by decide +kernel
theorem dX8_dot_24 : decode cX8_dot 24 = .ok (.istore 5, 2) := by decide +kernel
theorem dX8_dot_26 : decode cX8_dot 26 = .ok (.iload 5, 2) := by decide +kernel
theorem dX8_dot_28 : decode cX8_dot 28 = .ok (.ifCond .lt 13, 3) := by decide +kernel
theorem dX8_dot_31 : decode cX8_dot 31 = .ok (.iload 5, 2) := by decide +kernel
theorem dX8_dot_33 : decode cX8_dot 33 = .ok (.aload_n 0, 1) := by decide +kernel
theorem dX8_dot_34 : decode cX8_dot 34 = .ok (.getfield 24, 3) := by decide +kernel
theorem dX8_dot_37 : decode cX8_dot 37 = .ok (.arraylength, 1) := by decide +kernel
theorem dX8_dot_38 : decode cX8_dot 38 = .ok (.if_icmp .lt 6, 3) := by decide +kernel
theorem dX8_dot_44 : decode cX8_dot 44 = .ok (.aload_n 0, 1) := by decide +kernel
theorem dX8_dot_45 : decode cX8_dot 45 = .ok (.getfield 24, 3) := by decide +kernel
theorem dX8_dot_48 : decode cX8_dot 48 = .ok (.iload 5, 2) := by decide +kernel
theorem dX8_dot_50 : decode cX8_dot 50 = .ok (.new 22, 3) := by decide +kernel
theorem dX8_dot_53 : decode cX8_dot 53 = .ok (.dup, 1) := by decide +kernel
theorem dX8_dot_54 : decode cX8_dot 54 = .ok (.iload_n 1, 1) := by decide +kernel
theorem dX8_dot_55 : decode cX8_dot 55 = .ok (.iload_n 2, 1) := by decide +kernel
theorem dX8_dot_56 : decode cX8_dot 56 = .ok (.iload_n 3, 1) := by decide +kernel
theorem dX8_dot_57 : decode cX8_dot 57 = .ok (.iload 4, 2) := by decide +kernel
theorem dX8_dot_59 : decode cX8_dot 59 = .ok (.invokespecial 256, 3) := by decide +kernel
theorem dX8_dot_62 : decode cX8_dot 62 = .ok (.aastore, 1) := by decide +kernel
theorem dX8_dot_63 : decode cX8_dot 63 = .ok (.aload_n 0, 1) := by decide +kernel
theorem dX8_dot_64 : decode cX8_dot 64 = .ok (.dup, 1) := by decide +kernel
theorem dX8_dot_65 : decode cX8_dot 65 = .ok (.getfield 158, 3) := by decide +kernel
theorem dX8_dot_68 : decode cX8_dot 68 = .ok (.iconst 1, 1) := by decide +kernel
theorem dX8_dot_69 : decode cX8_dot 69 = .ok (.iadd, 1) := by decide +kernel
theorem dX8_dot_70 : decode cX8_dot 70 = .ok (.putfield 158, 3) := by decide +kernel
theorem dX8_dot_73 : decode cX8_dot 73 = .ok (.iload 5, 2) := by decide +kernel
theorem dX8_dot_75 : decode cX8_dot 75 = .ok (.ireturn, 1) := by decide +kernel
theorem dX8_dotted_0 : decode cX8_dotted 0 = .ok (.aload_n 0, 1) := by decide +kernel
theorem dX8_dotted_1 : decode cX8_dotted 1 = .ok (.iload_n 1, 1) := by decide +kernel
theorem dX8_dotted_2 : decode cX8_dotted 2 = .ok (.invokevirtual 258, 3) := by decide +kernel
theorem dX8_dotted_5 : decode cX8_dotted 5 = .ok (.astore_n 3, 1) := by decide +kernel
theorem dX8_dotted_6 : decode cX8_dotted 6 = .ok (.aload_n 3, 1) := by decide +kernel
theorem dX8_dotted_7 : decode cX8_dotted 7 = .ok (.ifnonnull 6, 3) := by decide +kernel
theorem dX8_dotted_10 : decode cX8_dotted 10 = .ok (.ldc 107, 2) := by decide +kernel
theorem dX8_dotted_12 : decode cX8_dotted 12 = .ok (.ireturn, 1) := by decide +kernel
theorem dX8_notice_0 : decode cX8_notice 0 = .ok (.aload_n 0, 1) := by decide +kernel
theorem dX8_notice_1 : decode cX8_notice 1 = .ok (.getfield 12, 3) := by decide +kernel
theorem dX8_notice_4 : decode cX8_notice 4 = .ok (.iload_n 1, 1) := by decide +kernel
theorem dX8_notice_5 : decode cX8_notice 5 = .ok (.invokevirtual 103, 3) := by decide +kernel
theorem dX8_notice_8 : decode cX8_notice 8 = .ok (.astore_n 3, 1) := by decide +kernel
theorem dX8_notice_9 : decode cX8_notice 9 = .ok (.aload_n 0, 1) := by decide +kernel
theorem dX8_notice_10 : decode cX8_notice 10 = .ok (.getfield 12, 3) := by decide +kernel
theorem dX8_notice_13 : decode cX8_notice 13 = .ok (.iload_n 2, 1) := by decide +kernel
theorem dX8_notice_14 : decode cX8_notice 14 = .ok (.invokevirtual 103, 3) := by decide +kernel
theorem dX8_notice_17 : decode cX8_notice 17 = .ok (.astore 4, 2) := by decide +kernel
theorem dX8_notice_19 : decode cX8_notice 19 = .ok (.aload_n 3, 1) := by decide +kernel
theorem dX8_notice_20 : decode cX8_notice 20 = .ok (.ifnull 8, 3) := by decide +kernel
theorem dX8_notice_28 : decode cX8_notice 28 = .ok (.ldc 107, 2) := by decide +kernel
theorem dX8_notice_30 : decode cX8_notice 30 = .ok (.ireturn, 1) := by decide +kernel
theorem dX8_answer_0 : decode cX8_answer 0 = .ok (.aload_n 0, 1) := by decide +kernel
theorem dX8_answer_1 : decode cX8_answer 1 = .ok (.iload_n 1, 1) := by decide +kernel
theorem dX8_answer_2 : decode cX8_answer 2 = .ok (.invokevirtual 292, 3) := by decide +kernel
theorem dX8_answer_5 : decode cX8_answer 5 = .ok (.astore 4, 2) := by decide +kernel
theorem dX8_answer_7 : decode cX8_answer 7 = .ok (.aload 4, 2) := by decide +kernel
theorem dX8_answer_9 : decode cX8_answer 9 = .ok (.ifnull 14, 3) := by decide +kernel
theorem dX8_answer_23 : decode cX8_answer 23 = .ok (.ldc 107, 2) := by decide +kernel
theorem dX8_answer_25 : decode cX8_answer 25 = .ok (.ireturn, 1) := by decide +kernel
theorem dX8_noticed_0 : decode cX8_noticed 0 = .ok (.aload_n 0, 1) := by decide +kernel
theorem dX8_noticed_1 : decode cX8_noticed 1 = .ok (.iload_n 1, 1) := by decide +kernel
theorem dX8_noticed_2 : decode cX8_noticed 2 = .ok (.invokevirtual 292, 3) := by decide +kernel
theorem dX8_noticed_5 : decode cX8_noticed 5 = .ok (.astore_n 3, 1) := by decide +kernel
theorem dX8_noticed_6 : decode cX8_noticed 6 = .ok (.aload_n 3, 1) := by decide +kernel
theorem dX8_noticed_7 : decode cX8_noticed 7 = .ok (.ifnonnull 6, 3) := by decide +kernel
theorem dX8_noticed_10 : decode cX8_noticed 10 = .ok (.ldc 107, 2) := by decide +kernel
theorem dX8_noticed_12 : decode cX8_noticed 12 = .ok (.ireturn, 1) := by decide +kernel
theorem dX8_keep_0 : decode cX8_keep 0 = .ok (.aload_n 0, 1) := by decide +kernel
theorem dX8_keep_1 : decode cX8_keep 1 = .ok (.iload_n 1, 1) := by decide +kernel
theorem dX8_keep_2 : decode cX8_keep 2 = .ok (.invokevirtual 308, 3) := by decide +kernel
theorem dX8_keep_5 : decode cX8_keep 5 = .ok (.astore_n 2, 1) := by decide +kernel
theorem dX8_keep_6 : decode cX8_keep 6 = .ok (.aload_n 2, 1) := by decide +kernel
theorem dX8_keep_7 : decode cX8_keep 7 = .ok (.ifnonnull 6, 3) := by decide +kernel
theorem dX8_keep_10 : decode cX8_keep 10 = .ok (.ldc 107, 2) := by decide +kernel
theorem dX8_keep_12 : decode cX8_keep 12 = .ok (.ireturn, 1) := by decide +kernel
theorem dX8_keep_13 : decode cX8_keep 13 = .ok (.aload_n 2, 1) := by decide +kernel
theorem dX8_keep_14 : decode cX8_keep 14 = .ok (.aload_n 0, 1) := by decide +kernel
theorem dX8_keep_15 : decode cX8_keep 15 = .ok (.getfield 12, 3) := by decide +kernel
theorem dX8_keep_18 : decode cX8_keep 18 = .ok (.invokevirtual 312, 3) := by decide +kernel
theorem dX8_keep_21 : decode cX8_keep 21 = .ok (.aload_n 2, 1) := by decide +kernel
theorem dX8_keep_22 : decode cX8_keep 22 = .ok (.getfield 88, 3) := by decide +kernel
theorem dX8_keep_25 : decode cX8_keep 25 = .ok (.ireturn, 1) := by decide +kernel
theorem dX8_differs_0 : decode cX8_differs 0 = .ok (.aload_n 0, 1) := by decide +kernel
theorem dX8_differs_1 : decode cX8_differs 1 = .ok (.iload_n 1, 1) := by decide +kernel
theorem dX8_differs_2 : decode cX8_differs 2 = .ok (.invokevirtual 308, 3) := by decide +kernel
theorem dX8_differs_5 : decode cX8_differs 5 = .ok (.astore_n 2, 1) := by decide +kernel
theorem dX8_differs_6 : decode cX8_differs 6 = .ok (.aload_n 2, 1) := by decide +kernel
theorem dX8_differs_7 : decode cX8_differs 7 = .ok (.ifnonnull 6, 3) := by decide +kernel
theorem dX8_differs_10 : decode cX8_differs 10 = .ok (.ldc 107, 2) := by decide +kernel
theorem dX8_differs_12 : decode cX8_differs 12 = .ok (.ireturn, 1) := by decide +kernel
theorem dX8_differs_13 : decode cX8_differs 13 = .ok (.aload_n 2, 1) := by decide +kernel
theorem dX8_differs_14 : decode cX8_differs 14 = .ok (.getfield 88, 3) := by decide +kernel
theorem dX8_differs_17 : decode cX8_differs 17 = .ok (.ifCond .ne 8, 3) := by decide +kernel
theorem dX8_differs_20 : decode cX8_differs 20 = .ok (.ldc 116, 2) := by decide +kernel
theorem dX8_differs_22 : decode cX8_differs 22 = .ok (.goto 11, 3) := by decide +kernel
theorem dX8_differs_33 : decode cX8_differs 33 = .ok (.ireturn, 1) := by decide +kernel
theorem dX8_isWithin_0 : decode cX8_isWithin 0 = .ok (.iload_n 0, 1) := by decide +kernel
theorem dX8_isWithin_1 : decode cX8_isWithin 1 = .ok (.iload_n 1, 1) := by decide +kernel
theorem dX8_isWithin_2 : decode cX8_isWithin 2 = .ok (.if_icmp .lt 12, 3) := by decide +kernel
theorem dX8_isWithin_5 : decode cX8_isWithin 5 = .ok (.iload_n 0, 1) := by decide +kernel
theorem dX8_isWithin_6 : decode cX8_isWithin 6 = .ok (.iload_n 2, 1) := by decide +kernel
theorem dX8_isWithin_7 : decode cX8_isWithin 7 = .ok (.if_icmp .gt 7, 3) := by decide +kernel
theorem dX8_isWithin_10 : decode cX8_isWithin 10 = .ok (.iconst 1, 1) := by decide +kernel
theorem dX8_isWithin_11 : decode cX8_isWithin 11 = .ok (.goto 4, 3) := by decide +kernel
theorem dX8_isWithin_14 : decode cX8_isWithin 14 = .ok (.iconst 0, 1) := by decide +kernel
theorem dX8_isWithin_15 : decode cX8_isWithin 15 = .ok (.ireturn, 1) := by decide +kernel
theorem dX8_isStep_0 : decode cX8_isStep 0 = .ok (.iload_n 0, 1) := by decide +kernel
theorem dX8_isStep_1 : decode cX8_isStep 1 = .ok (.iconst 0, 1) := by decide +kernel
theorem dX8_isStep_2 : decode cX8_isStep 2 = .ok (.bipush 39, 2) := by decide +kernel
theorem dX8_isStep_4 : decode cX8_isStep 4 = .ok (.invokestatic 84, 3) := by decide +kernel
theorem dX8_isStep_7 : decode cX8_isStep 7 = .ok (.ireturn, 1) := by decide +kernel
theorem dX8_isPlace_0 : decode cX8_isPlace 0 = .ok (.iload_n 0, 1) := by decide +kernel
theorem dX8_isPlace_1 : decode cX8_isPlace 1 = .ok (.sipush (-5000), 3) := by decide +kernel
theorem dX8_isPlace_4 : decode cX8_isPlace 4 = .ok (.sipush 5000, 3) := by decide +kernel
theorem dX8_isPlace_7 : decode cX8_isPlace 7 = .ok (.invokestatic 84, 3) := by decide +kernel
theorem dX8_isPlace_10 : decode cX8_isPlace 10 = .ok (.ifCond .eq 33, 3) := by decide +kernel
theorem dX8_isPlace_13 : decode cX8_isPlace 13 = .ok (.iload_n 1, 1) := by decide +kernel
theorem dX8_isPlace_14 : decode cX8_isPlace 14 = .ok (.sipush (-5000), 3) := by decide +kernel
theorem dX8_isPlace_17 : decode cX8_isPlace 17 = .ok (.sipush 5000, 3) := by decide +kernel
theorem dX8_isPlace_20 : decode cX8_isPlace 20 = .ok (.invokestatic 84, 3) := by decide +kernel
theorem dX8_isPlace_23 : decode cX8_isPlace 23 = .ok (.ifCond .eq 20, 3) := by decide +kernel
theorem dX8_isPlace_26 : decode cX8_isPlace 26 = .ok (.iload_n 2, 1) := by decide +kernel
theorem dX8_isPlace_27 : decode cX8_isPlace 27 = .ok (.sipush (-5000), 3) := by decide +kernel
theorem dX8_isPlace_30 : decode cX8_isPlace 30 = .ok (.sipush 5000, 3) := by decide +kernel
theorem dX8_isPlace_33 : decode cX8_isPlace 33 = .ok (.invokestatic 84, 3) := by decide +kernel
theorem dX8_isPlace_36 : decode cX8_isPlace 36 = .ok (.ifCond .eq 7, 3) := by decide +kernel
theorem dX8_isPlace_39 : decode cX8_isPlace 39 = .ok (.iconst 1, 1) := by decide +kernel
theorem dX8_isPlace_40 : decode cX8_isPlace 40 = .ok (.goto 4, 3) := by decide +kernel
theorem dX8_isPlace_43 : decode cX8_isPlace 43 = .ok (.iconst 0, 1) := by decide +kernel
theorem dX8_isPlace_44 : decode cX8_isPlace 44 = .ok (.ireturn, 1) := by decide +kernel
theorem dX8_countMeetings_0 : decode cX8_countMeetings 0 = .ok (.iconst 0, 1) := by decide +kernel
theorem dX8_countMeetings_1 : decode cX8_countMeetings 1 = .ok (.istore_n 1, 1) := by decide +kernel
theorem dX8_countMeetings_2 : decode cX8_countMeetings 2 = .ok (.iconst 0, 1) := by decide +kernel
theorem dX8_countMeetings_3 : decode cX8_countMeetings 3 = .ok (.istore_n 2, 1) := by decide +kernel
theorem dX8_countMeetings_4 : decode cX8_countMeetings 4 = .ok (.iload_n 2, 1) := by decide +kernel
theorem dX8_countMeetings_5 : decode cX8_countMeetings 5 = .ok (.aload_n 0, 1) := by decide +kernel
theorem dX8_countMeetings_6 : decode cX8_countMeetings 6 = .ok (.getfield 12, 3) := by decide +kernel
theorem dX8_countMeetings_9 : decode cX8_countMeetings 9 = .ok (.getfield 88, 3) := by decide +kernel
theorem dX8_countMeetings_12 : decode cX8_countMeetings 12 = .ok (.if_icmp .ge 42, 3) := by decide +kernel
theorem dX8_countMeetings_54 : decode cX8_countMeetings 54 = .ok (.iload_n 1, 1) := by decide +kernel
theorem dX8_countMeetings_55 : decode cX8_countMeetings 55 = .ok (.ireturn, 1) := by decide +kernel
theorem dX8_findDot_0 : decode cX8_findDot 0 = .ok (.iload_n 1, 1) := by decide +kernel
theorem dX8_findDot_1 : decode cX8_findDot 1 = .ok (.ifCond .lt 29, 3) := by decide +kernel
theorem dX8_findDot_4 : decode cX8_findDot 4 = .ok (.iload_n 1, 1) := by decide +kernel
theorem dX8_findDot_5 : decode cX8_findDot 5 = .ok (.aload_n 0, 1) := by decide +kernel
theorem dX8_findDot_6 : decode cX8_findDot 6 = .ok (.getfield 158, 3) := by decide +kernel
theorem dX8_findDot_9 : decode cX8_findDot 9 = .ok (.if_icmp .ge 21, 3) := by decide +kernel
theorem dX8_findDot_30 : decode cX8_findDot 30 = .ok (.aconst_null, 1) := by decide +kernel
end
section
theorem dX8_findDot_31 : decode cX8_findDot 31 = .ok (.areturn, 1) := by decide +kernel
theorem dX8_countDotsOf_0 : decode cX8_countDotsOf 0 = .ok (.iconst 0, 1) := by decide +kernel
theorem dX8_countDotsOf_1 : decode cX8_countDotsOf 1 = .ok (.istore_n 3, 1) := by decide +kernel
theorem dX8_countDotsOf_2 : decode cX8_countDotsOf 2 = .ok (.iconst 0, 1) := by decide +kernel
theorem dX8_countDotsOf_3 : decode cX8_countDotsOf 3 = .ok (.istore 4, 2) := by decide +kernel
theorem dX8_countDotsOf_5 : decode cX8_countDotsOf 5 = .ok (.iload 4, 2) := by decide +kernel
theorem dX8_countDotsOf_7 : decode cX8_countDotsOf 7 = .ok (.aload_n 0, 1) := by decide +kernel
theorem dX8_countDotsOf_8 : decode cX8_countDotsOf 8 = .ok (.getfield 158, 3) := by decide +kernel
theorem dX8_countDotsOf_11 : decode cX8_countDotsOf 11 = .ok (.if_icmp .ge 42, 3) := by decide +kernel
theorem dX8_countDotsOf_53 : decode cX8_countDotsOf 53 = .ok (.iload_n 3, 1) := by decide +kernel
theorem dX8_countDotsOf_54 : decode cX8_countDotsOf 54 = .ok (.ireturn, 1) := by decide +kernel
theorem dX8_findNotice_0 : decode cX8_findNotice 0 = .ok (.iload_n 1, 1) := by decide +kernel
theorem dX8_findNotice_1 : decode cX8_findNotice 1 = .ok (.ifCond .lt 29, 3) := by decide +kernel
theorem dX8_findNotice_4 : decode cX8_findNotice 4 = .ok (.iload_n 1, 1) := by decide +kernel
theorem dX8_findNotice_5 : decode cX8_findNotice 5 = .ok (.aload_n 0, 1) := by decide +kernel
theorem dX8_findNotice_6 : decode cX8_findNotice 6 = .ok (.getfield 164, 3) := by decide +kernel
theorem dX8_findNotice_9 : decode cX8_findNotice 9 = .ok (.if_icmp .ge 21, 3) := by decide +kernel
theorem dX8_findNotice_30 : decode cX8_findNotice 30 = .ok (.aconst_null, 1) := by decide +kernel
theorem dX8_findNotice_31 : decode cX8_findNotice 31 = .ok (.areturn, 1) := by decide +kernel
theorem dX8_countHolding_0 : decode cX8_countHolding 0 = .ok (.iconst 0, 1) := by decide +kernel
theorem dX8_countHolding_1 : decode cX8_countHolding 1 = .ok (.istore_n 1, 1) := by decide +kernel
theorem dX8_countHolding_2 : decode cX8_countHolding 2 = .ok (.iconst 0, 1) := by decide +kernel
theorem dX8_countHolding_3 : decode cX8_countHolding 3 = .ok (.istore_n 2, 1) := by decide +kernel
theorem dX8_countHolding_4 : decode cX8_countHolding 4 = .ok (.iload_n 2, 1) := by decide +kernel
theorem dX8_countHolding_5 : decode cX8_countHolding 5 = .ok (.aload_n 0, 1) := by decide +kernel
theorem dX8_countHolding_6 : decode cX8_countHolding 6 = .ok (.getfield 164, 3) := by decide +kernel
theorem dX8_countHolding_9 : decode cX8_countHolding 9 = .ok (.if_icmp .ge 29, 3) := by decide +kernel
theorem dX8_countHolding_38 : decode cX8_countHolding 38 = .ok (.iload_n 1, 1) := by decide +kernel
theorem dX8_countHolding_39 : decode cX8_countHolding 39 = .ok (.ireturn, 1) := by decide +kernel
theorem dX8_findShelf_0 : decode cX8_findShelf 0 = .ok (.iload_n 1, 1) := by decide +kernel
theorem dX8_findShelf_1 : decode cX8_findShelf 1 = .ok (.lookupswitch 37 #[(0, 27), (1, 32)], 27) := by decide +kernel
theorem dX8_findShelf_28 : decode cX8_findShelf 28 = .ok (.aload_n 0, 1) := by decide +kernel
theorem dX8_findShelf_29 : decode cX8_findShelf 29 = .ok (.getfield 16, 3) := by decide +kernel
theorem dX8_findShelf_32 : decode cX8_findShelf 32 = .ok (.areturn, 1) := by decide +kernel
theorem dX8_findShelf_33 : decode cX8_findShelf 33 = .ok (.aload_n 0, 1) := by decide +kernel
theorem dX8_findShelf_34 : decode cX8_findShelf 34 = .ok (.getfield 19, 3) := by decide +kernel
theorem dX8_findShelf_37 : decode cX8_findShelf 37 = .ok (.areturn, 1) := by decide +kernel
theorem dX8_findShelf_38 : decode cX8_findShelf 38 = .ok (.aconst_null, 1) := by decide +kernel
theorem dX8_findShelf_39 : decode cX8_findShelf 39 = .ok (.areturn, 1) := by decide +kernel
theorem dX9_init_0 : decode cX9_init 0 = .ok (.aload_n 0, 1) := by decide +kernel
theorem dX9_init_1 : decode cX9_init 1 = .ok (.invokespecial 1, 3) := by decide +kernel
theorem dX9_init_4 : decode cX9_init 4 = .ok (.aload_n 0, 1) := by decide +kernel
theorem dX9_init_5 : decode cX9_init 5 = .ok (.bipush 16, 2) := by decide +kernel
theorem dX9_init_7 : decode cX9_init 7 = .ok (.newarray .int, 2) := by decide +kernel
theorem dX9_init_9 : decode cX9_init 9 = .ok (.putfield 7, 3) := by decide +kernel
theorem dX9_init_12 : decode cX9_init 12 = .ok (.aload_n 0, 1) := by decide +kernel
theorem dX9_init_13 : decode cX9_init 13 = .ok (.bipush 16, 2) := by decide +kernel
theorem dX9_init_15 : decode cX9_init 15 = .ok (.newarray .int, 2) := by decide +kernel
theorem dX9_init_17 : decode cX9_init 17 = .ok (.putfield 13, 3) := by decide +kernel
theorem dX9_init_20 : decode cX9_init 20 = .ok (.aload_n 0, 1) := by decide +kernel
theorem dX9_init_21 : decode cX9_init 21 = .ok (.bipush 16, 2) := by decide +kernel
theorem dX9_init_23 : decode cX9_init 23 = .ok (.newarray .int, 2) := by decide +kernel
theorem dX9_init_25 : decode cX9_init 25 = .ok (.putfield 16, 3) := by decide +kernel
theorem dX9_init_28 : decode cX9_init 28 = .ok (.aload_n 0, 1) := by decide +kernel
theorem dX9_init_29 : decode cX9_init 29 = .ok (.bipush 16, 2) := by decide +kernel
theorem dX9_init_31 : decode cX9_init 31 = .ok (.newarray .boolean, 2) := by decide +kernel
theorem dX9_init_33 : decode cX9_init 33 = .ok (.putfield 19, 3) := by decide +kernel
theorem dX9_init_36 : decode cX9_init 36 = .ok (.aload_n 0, 1) := by decide +kernel
theorem dX9_init_37 : decode cX9_init 37 = .ok (.sipush 576, 3) := by decide +kernel
theorem dX9_init_40 : decode cX9_init 40 = .ok (.newarray .int, 2) := by decide +kernel
theorem dX9_init_42 : decode cX9_init 42 = .ok (.putfield 23, 3) := by decide +kernel
theorem dX9_init_45 : decode cX9_init 45 = .ok (.aload_n 0, 1) := by decide +kernel
theorem dX9_init_46 : decode cX9_init 46 = .ok (.bipush 50, 2) := by decide +kernel
theorem dX9_init_48 : decode cX9_init 48 = .ok (.putfield 26, 3) := by decide +kernel
theorem dX9_init_51 : decode cX9_init 51 = .ok (.aload_n 0, 1) := by decide +kernel
theorem dX9_init_52 : decode cX9_init 52 = .ok (.bipush 20, 2) := by decide +kernel
theorem dX9_init_54 : decode cX9_init 54 = .ok (.putfield 30, 3) := by decide +kernel
theorem dX9_init_57 : decode cX9_init 57 = .ok (.aload_n 0, 1) := by decide +kernel
theorem dX9_init_58 : decode cX9_init 58 = .ok (.bipush 40, 2) := by decide +kernel
theorem dX9_init_60 : decode cX9_init 60 = .ok (.newarray .int, 2) := by decide +kernel
theorem dX9_init_62 : decode cX9_init 62 = .ok (.putfield 33, 3) := by decide +kernel
theorem dX9_init_65 : decode cX9_init 65 = .ok (.aload_n 0, 1) := by decide +kernel
theorem dX9_init_66 : decode cX9_init 66 = .ok (.bipush 120, 2) := by decide +kernel
theorem dX9_init_68 : decode cX9_init 68 = .ok (.newarray .int, 2) := by decide +kernel
theorem dX9_init_70 : decode cX9_init 70 = .ok (.putfield 36, 3) := by decide +kernel
theorem dX9_init_73 : decode cX9_init 73 = .ok (.aload_n 0, 1) := by decide +kernel
theorem dX9_init_74 : decode cX9_init 74 = .ok (.sipush 320, 3) := by decide +kernel
theorem dX9_init_77 : decode cX9_init 77 = .ok (.newarray .int, 2) := by decide +kernel
theorem dX9_init_79 : decode cX9_init 79 = .ok (.putfield 39, 3) := by decide +kernel
theorem dX9_init_82 : decode cX9_init 82 = .ok (.aload_n 0, 1) := by decide +kernel
theorem dX9_init_83 : decode cX9_init 83 = .ok (.iconst 2, 1) := by decide +kernel
theorem dX9_init_84 : decode cX9_init 84 = .ok (.newarray .int, 2) := by decide +kernel
theorem dX9_init_86 : decode cX9_init 86 = .ok (.putfield 42, 3) := by decide +kernel
theorem dX9_init_89 : decode cX9_init 89 = .ok (.aload_n 0, 1) := by decide +kernel
theorem dX9_init_90 : decode cX9_init 90 = .ok (.sipush 1280, 3) := by decide +kernel
theorem dX9_init_93 : decode cX9_init 93 = .ok (.newarray .int, 2) := by decide +kernel
theorem dX9_init_95 : decode cX9_init 95 = .ok (.putfield 45, 3) := by decide +kernel
theorem dX9_init_98 : decode cX9_init 98 = .ok (.aload_n 0, 1) := by decide +kernel
theorem dX9_init_99 : decode cX9_init 99 = .ok (.iconst 5, 1) := by decide +kernel
theorem dX9_init_100 : decode cX9_init 100 = .ok (.newarray .int, 2) := by decide +kernel
theorem dX9_init_102 : decode cX9_init 102 = .ok (.putfield 48, 3) := by decide +kernel
theorem dX9_init_105 : decode cX9_init 105 = .ok (.aload_n 0, 1) := by decide +kernel
theorem dX9_init_106 : decode cX9_init 106 = .ok (.getfield 42, 3) := by decide +kernel
theorem dX9_init_109 : decode cX9_init 109 = .ok (.iconst 0, 1) := by decide +kernel
theorem dX9_init_110 : decode cX9_init 110 = .ok (.iconst (-1), 1) := by decide +kernel
theorem dX9_init_111 : decode cX9_init 111 = .ok (.iastore, 1) := by decide +kernel
theorem dX9_init_112 : decode cX9_init 112 = .ok (.aload_n 0, 1) := by decide +kernel
theorem dX9_init_113 : decode cX9_init 113 = .ok (.getfield 42, 3) := by decide +kernel
theorem dX9_init_116 : decode cX9_init 116 = .ok (.iconst 1, 1) := by decide +kernel
theorem dX9_init_117 : decode cX9_init 117 = .ok (.iconst (-1), 1) := by decide +kernel
theorem dX9_init_118 : decode cX9_init 118 = .ok (.iastore, 1) := by decide +kernel
theorem dX9_init_119 : decode cX9_init 119 = .ok (.return_, 1) := by decide +kernel
theorem dX9_in_0 : decode cX9_in 0 = .ok (.lload_n 0, 1) := by decide +kernel
theorem dX9_in_1 : decode cX9_in 1 = .ok (.lload_n 2, 1) := by decide +kernel
theorem dX9_in_2 : decode cX9_in 2 = .ok (.lcmp, 1) := by decide +kernel
theorem dX9_in_3 : decode cX9_in 3 = .ok (.ifCond .lt 14, 3) := by decide +kernel
theorem dX9_in_6 : decode cX9_in 6 = .ok (.lload_n 0, 1) := by decide +kernel
theorem dX9_in_7 : decode cX9_in 7 = .ok (.lload 4, 2) := by decide +kernel
theorem dX9_in_9 : decode cX9_in 9 = .ok (.lcmp, 1) := by decide +kernel
theorem dX9_in_10 : decode cX9_in 10 = .ok (.ifCond .gt 7, 3) := by decide +kernel
theorem dX9_in_13 : decode cX9_in 13 = .ok (.iconst 1, 1) := by decide +kernel
theorem dX9_in_14 : decode cX9_in 14 = .ok (.goto 4, 3) := by decide +kernel
theorem dX9_in_17 : decode cX9_in 17 = .ok (.iconst 0, 1) := by decide +kernel
theorem dX9_in_18 : decode cX9_in 18 = .ok (.ireturn, 1) := by decide +kernel
theorem dX9_isPlace_0 : decode cX9_isPlace 0 = .ok (.iload_n 0, 1) := by decide +kernel
theorem dX9_isPlace_1 : decode cX9_isPlace 1 = .ok (.i2l, 1) := by decide +kernel
theorem dX9_isPlace_2 : decode cX9_isPlace 2 = .ok (.ldc2_w 51, 3) := by decide +kernel
theorem dX9_isPlace_5 : decode cX9_isPlace 5 = .ok (.ldc2_w 53, 3) := by decide +kernel
theorem dX9_isPlace_8 : decode cX9_isPlace 8 = .ok (.invokestatic 55, 3) := by decide +kernel
theorem dX9_isPlace_11 : decode cX9_isPlace 11 = .ok (.ifCond .eq 35, 3) := by decide +kernel
theorem dX9_isPlace_14 : decode cX9_isPlace 14 = .ok (.iload_n 1, 1) := by decide +kernel
theorem dX9_isPlace_15 : decode cX9_isPlace 15 = .ok (.i2l, 1) := by decide +kernel
theorem dX9_isPlace_16 : decode cX9_isPlace 16 = .ok (.ldc2_w 51, 3) := by decide +kernel
theorem dX9_isPlace_19 : decode cX9_isPlace 19 = .ok (.ldc2_w 53, 3) := by decide +kernel
theorem dX9_isPlace_22 : decode cX9_isPlace 22 = .ok (.invokestatic 55, 3) := by decide +kernel
theorem dX9_isPlace_25 : decode cX9_isPlace 25 = .ok (.ifCond .eq 21, 3) := by decide +kernel
theorem dX9_isPlace_28 : decode cX9_isPlace 28 = .ok (.iload_n 2, 1) := by decide +kernel
theorem dX9_isPlace_29 : decode cX9_isPlace 29 = .ok (.i2l, 1) := by decide +kernel
theorem dX9_isPlace_30 : decode cX9_isPlace 30 = .ok (.ldc2_w 51, 3) := by decide +kernel
theorem dX9_isPlace_33 : decode cX9_isPlace 33 = .ok (.ldc2_w 53, 3) := by decide +kernel
theorem dX9_isPlace_36 : decode cX9_isPlace 36 = .ok (.invokestatic 55, 3) := by decide +kernel
theorem dX9_isPlace_39 : decode cX9_isPlace 39 = .ok (.ifCond .eq 7, 3) := by decide +kernel
theorem dX9_isPlace_42 : decode cX9_isPlace 42 = .ok (.iconst 1, 1) := by decide +kernel
theorem dX9_isPlace_43 : decode cX9_isPlace 43 = .ok (.goto 4, 3) := by decide +kernel
theorem dX9_isPlace_46 : decode cX9_isPlace 46 = .ok (.iconst 0, 1) := by decide +kernel
theorem dX9_isPlace_47 : decode cX9_isPlace 47 = .ok (.ireturn, 1) := by decide +kernel
theorem dX9_isThing_0 : decode cX9_isThing 0 = .ok (.iload_n 1, 1) := by decide +kernel
theorem dX9_isThing_1 : decode cX9_isThing 1 = .ok (.i2l, 1) := by decide +kernel
theorem dX9_isThing_2 : decode cX9_isThing 2 = .ok (.lconst 0, 1) := by decide +kernel
theorem dX9_isThing_3 : decode cX9_isThing 3 = .ok (.aload_n 0, 1) := by decide +kernel
theorem dX9_isThing_4 : decode cX9_isThing 4 = .ok (.getfield 59, 3) := by decide +kernel
theorem dX9_isThing_7 : decode cX9_isThing 7 = .ok (.iconst 1, 1) := by decide +kernel
theorem dX9_isThing_8 : decode cX9_isThing 8 = .ok (.isub, 1) := by decide +kernel
theorem dX9_isThing_9 : decode cX9_isThing 9 = .ok (.i2l, 1) := by decide +kernel
theorem dX9_isThing_10 : decode cX9_isThing 10 = .ok (.invokestatic 55, 3) := by decide +kernel
theorem dX9_isThing_13 : decode cX9_isThing 13 = .ok (.ireturn, 1) := by decide +kernel
theorem dX9_setSpot_0 : decode cX9_setSpot 0 = .ok (.aload_n 0, 1) := by decide +kernel
theorem dX9_setSpot_1 : decode cX9_setSpot 1 = .ok (.getfield 23, 3) := by decide +kernel
theorem dX9_setSpot_4 : decode cX9_setSpot 4 = .ok (.bipush 36, 2) := by decide +kernel
theorem dX9_setSpot_6 : decode cX9_setSpot 6 = .ok (.iload_n 1, 1) := by decide +kernel
theorem dX9_setSpot_7 : decode cX9_setSpot 7 = .ok (.imul, 1) := by decide +kernel
theorem dX9_setSpot_8 : decode cX9_setSpot 8 = .ok (.iconst 3, 1) := by decide +kernel
theorem dX9_setSpot_9 : decode cX9_setSpot 9 = .ok (.iload_n 2, 1) := by decide +kernel
theorem dX9_setSpot_10 : decode cX9_setSpot 10 = .ok (.imul, 1) := by decide +kernel
theorem dX9_setSpot_11 : decode cX9_setSpot 11 = .ok (.iadd, 1) := by decide +kernel
theorem dX9_setSpot_12 : decode cX9_setSpot 12 = .ok (.iload_n 3, 1) := by decide +kernel
theorem dX9_setSpot_13 : decode cX9_setSpot 13 = .ok (.iastore, 1) := by decide +kernel
theorem dX9_setSpot_14 : decode cX9_setSpot 14 = .ok (.aload_n 0, 1) := by decide +kernel
theorem dX9_setSpot_15 : decode cX9_setSpot 15 = .ok (.getfield 23, 3) := by decide +kernel
theorem dX9_setSpot_18 : decode cX9_setSpot 18 = .ok (.bipush 36, 2) := by decide +kernel
theorem dX9_setSpot_20 : decode cX9_setSpot 20 = .ok (.iload_n 1, 1) := by decide +kernel
theorem dX9_setSpot_21 : decode cX9_setSpot 21 = .ok (.imul, 1) := by decide +kernel
theorem dX9_setSpot_22 : decode cX9_setSpot 22 = .ok (.iconst 3, 1) := by decide +kernel
theorem dX9_setSpot_23 : decode cX9_setSpot 23 = .ok (.iload_n 2, 1) := by decide +kernel
theorem dX9_setSpot_24 : decode cX9_setSpot 24 = .ok (.imul, 1) := by decide +kernel
theorem dX9_setSpot_25 : decode cX9_setSpot 25 = .ok (.iadd, 1) := by decide +kernel
theorem dX9_setSpot_26 : decode cX9_setSpot 26 = .ok (.iconst 1, 1) := by decide +kernel
theorem dX9_setSpot_27 : decode cX9_setSpot 27 = .ok (.iadd, 1) := by decide +kernel
theorem dX9_setSpot_28 : decode cX9_setSpot 28 = .ok (.iload 4, 2) := by decide +kernel
theorem dX9_setSpot_30 : decode cX9_setSpot 30 = .ok (.iastore, 1) := by decide +kernel
theorem dX9_setSpot_31 : decode cX9_setSpot 31 = .ok (.aload_n 0, 1) := by decide +kernel
theorem dX9_setSpot_32 : decode cX9_setSpot 32 = .ok (.getfield 23, 3) := by decide +kernel
theorem dX9_setSpot_35 : decode cX9_setSpot 35 = .ok (.bipush 36, 2) := by decide +kernel
theorem dX9_setSpot_37 : decode cX9_setSpot 37 = .ok (.iload_n 1, 1) := by decide +kernel
theorem dX9_setSpot_38 : decode cX9_setSpot 38 = .ok (.imul, 1) := by decide +kernel
theorem dX9_setSpot_39 : decode cX9_setSpot 39 = .ok (.iconst 3, 1) := by decide +kernel
theorem dX9_setSpot_40 : decode cX9_setSpot 40 = .ok (.iload_n 2, 1) := by decide +kernel
theorem dX9_setSpot_41 : decode cX9_setSpot 41 = .ok (.imul, 1) := by decide +kernel
theorem dX9_setSpot_42 : decode cX9_setSpot 42 = .ok (.iadd, 1) := by decide +kernel
theorem dX9_setSpot_43 : decode cX9_setSpot 43 = .ok (.iconst 2, 1) := by decide +kernel
theorem dX9_setSpot_44 : decode cX9_setSpot 44 = .ok (.iadd, 1) := by decide +kernel
theorem dX9_setSpot_45 : decode cX9_setSpot 45 = .ok (.iload 5, 2) := by decide +kernel
theorem dX9_setSpot_47 : decode cX9_setSpot 47 = .ok (.iastore, 1) := by decide +kernel
theorem dX9_setSpot_48 : decode cX9_setSpot 48 = .ok (.return_, 1) := by decide +kernel
theorem dX9_fresh_0 : decode cX9_fresh 0 = .ok (.aload_n 0, 1) := by decide +kernel
theorem dX9_fresh_1 : decode cX9_fresh 1 = .ok (.getfield 7, 3) := by decide +kernel
theorem dX9_fresh_4 : decode cX9_fresh 4 = .ok (.aload_n 0, 1) := by decide +kernel
theorem dX9_fresh_5 : decode cX9_fresh 5 = .ok (.getfield 59, 3) := by decide +kernel
theorem dX9_fresh_8 : decode cX9_fresh 8 = .ok (.iload_n 1, 1) := by decide +kernel
theorem dX9_fresh_9 : decode cX9_fresh 9 = .ok (.iastore, 1) := by decide +kernel
theorem dX9_fresh_10 : decode cX9_fresh 10 = .ok (.aload_n 0, 1) := by decide +kernel
theorem dX9_fresh_11 : decode cX9_fresh 11 = .ok (.getfield 13, 3) := by decide +kernel
theorem dX9_fresh_14 : decode cX9_fresh 14 = .ok (.aload_n 0, 1) := by decide +kernel
theorem dX9_fresh_15 : decode cX9_fresh 15 = .ok (.getfield 59, 3) := by decide +kernel
theorem dX9_fresh_18 : decode cX9_fresh 18 = .ok (.iconst 0, 1) := by decide +kernel
theorem dX9_fresh_19 : decode cX9_fresh 19 = .ok (.iastore, 1) := by decide +kernel
theorem dX9_fresh_20 : decode cX9_fresh 20 = .ok (.aload_n 0, 1) := by decide +kernel
theorem dX9_fresh_21 : decode cX9_fresh 21 = .ok (.getfield 16, 3) := by decide +kernel
theorem dX9_fresh_24 : decode cX9_fresh 24 = .ok (.aload_n 0, 1) := by decide +kernel
theorem dX9_fresh_25 : decode cX9_fresh 25 = .ok (.getfield 59, 3) := by decide +kernel
theorem dX9_fresh_28 : decode cX9_fresh 28 = .ok (.iload_n 2, 1) := by decide +kernel
theorem dX9_fresh_29 : decode cX9_fresh 29 = .ok (.iastore, 1) := by decide +kernel
theorem dX9_fresh_30 : decode cX9_fresh 30 = .ok (.aload_n 0, 1) := by decide +kernel
theorem dX9_fresh_31 : decode cX9_fresh 31 = .ok (.getfield 19, 3) := by decide +kernel
theorem dX9_fresh_34 : decode cX9_fresh 34 = .ok (.aload_n 0, 1) := by decide +kernel
theorem dX9_fresh_35 : decode cX9_fresh 35 = .ok (.getfield 59, 3) := by decide +kernel
theorem dX9_fresh_38 : decode cX9_fresh 38 = .ok (.iconst 0, 1) := by decide +kernel
theorem dX9_fresh_39 : decode cX9_fresh 39 = .ok (.bastore, 1) := by decide +kernel
theorem dX9_fresh_40 : decode cX9_fresh 40 = .ok (.aload_n 0, 1) := by decide +kernel
theorem dX9_fresh_41 : decode cX9_fresh 41 = .ok (.dup, 1) := by decide +kernel
theorem dX9_fresh_42 : decode cX9_fresh 42 = .ok (.getfield 59, 3) := by decide +kernel
theorem dX9_fresh_45 : decode cX9_fresh 45 = .ok (.iconst 1, 1) := by decide +kernel
theorem dX9_fresh_46 : decode cX9_fresh 46 = .ok (.iadd, 1) := by decide +kernel
theorem dX9_fresh_47 : decode cX9_fresh 47 = .ok (.putfield 59, 3) := by decide +kernel
theorem dX9_fresh_50 : decode cX9_fresh 50 = .ok (.aload_n 0, 1) := by decide +kernel
theorem dX9_fresh_51 : decode cX9_fresh 51 = .ok (.getfield 59, 3) := by decide +kernel
theorem dX9_fresh_54 : decode cX9_fresh 54 = .ok (.iconst 1, 1) := by decide +kernel
theorem dX9_fresh_55 : decode cX9_fresh 55 = .ok (.isub, 1) := by decide +kernel
theorem dX9_fresh_56 : decode cX9_fresh 56 = .ok (.ireturn, 1) := by decide +kernel
theorem dX9_thing_0 : decode cX9_thing 0 = .ok (.iload_n 1, 1) := by decide +kernel
theorem dX9_thing_1 : decode cX9_thing 1 = .ok (.i2l, 1) := by decide +kernel
theorem dX9_thing_2 : decode cX9_thing 2 = .ok (.lconst 0, 1) := by decide +kernel
theorem dX9_thing_3 : decode cX9_thing 3 = .ok (.ldc2_w 62, 3) := by decide +kernel
theorem dX9_thing_6 : decode cX9_thing 6 = .ok (.invokestatic 55, 3) := by decide +kernel
theorem dX9_thing_9 : decode cX9_thing 9 = .ok (.ifCond .eq 26, 3) := by decide +kernel
theorem dX9_thing_12 : decode cX9_thing 12 = .ok (.iload_n 2, 1) := by decide +kernel
theorem dX9_thing_13 : decode cX9_thing 13 = .ok (.iload_n 3, 1) := by decide +kernel
theorem dX9_thing_14 : decode cX9_thing 14 = .ok (.iload 4, 2) := by decide +kernel
theorem dX9_thing_16 : decode cX9_thing 16 = .ok (.invokestatic 64, 3) := by decide +kernel
theorem dX9_thing_19 : decode cX9_thing 19 = .ok (.ifCond .eq 16, 3) := by decide +kernel
theorem dX9_thing_22 : decode cX9_thing 22 = .ok (.iload 5, 2) := by decide +kernel
theorem dX9_thing_24 : decode cX9_thing 24 = .ok (.i2l, 1) := by decide +kernel
theorem dX9_thing_25 : decode cX9_thing 25 = .ok (.lconst 0, 1) := by decide +kernel
theorem dX9_thing_26 : decode cX9_thing 26 = .ok (.ldc2_w 68, 3) := by decide +kernel
theorem dX9_thing_29 : decode cX9_thing 29 = .ok (.invokestatic 55, 3) := by decide +kernel
theorem dX9_thing_32 : decode cX9_thing 32 = .ok (.ifCond .ne 6, 3) := by decide +kernel
theorem dX9_thing_35 : decode cX9_thing 35 = .ok (.ldc 70, 2) := by decide +kernel
theorem dX9_thing_37 : decode cX9_thing 37 = .ok (.ireturn, 1) := by decide +kernel
theorem dX9_thing_38 : decode cX9_thing 38 = .ok (.aload_n 0, 1) := by decide +kernel
theorem dX9_thing_39 : decode cX9_thing 39 = .ok (.getfield 59, 3) := by decide +kernel
theorem dX9_thing_42 : decode cX9_thing 42 = .ok (.bipush 16, 2) := by decide +kernel
theorem dX9_thing_44 : decode cX9_thing 44 = .ok (.if_icmp .ne 6, 3) := by decide +kernel
theorem dX9_thing_50 : decode cX9_thing 50 = .ok (.aload_n 0, 1) := by decide +kernel
theorem dX9_thing_51 : decode cX9_thing 51 = .ok (.iload_n 1, 1) := by decide +kernel
theorem dX9_thing_52 : decode cX9_thing 52 = .ok (.iload 5, 2) := by decide +kernel
theorem dX9_thing_54 : decode cX9_thing 54 = .ok (.invokevirtual 72, 3) := by decide +kernel
theorem dX9_thing_57 : decode cX9_thing 57 = .ok (.istore 6, 2) := by decide +kernel
theorem dX9_thing_59 : decode cX9_thing 59 = .ok (.aload_n 0, 1) := by decide +kernel
theorem dX9_thing_60 : decode cX9_thing 60 = .ok (.iload 6, 2) := by decide +kernel
theorem dX9_thing_62 : decode cX9_thing 62 = .ok (.iconst 0, 1) := by decide +kernel
theorem dX9_thing_63 : decode cX9_thing 63 = .ok (.iload_n 2, 1) := by decide +kernel
theorem dX9_thing_64 : decode cX9_thing 64 = .ok (.iload_n 3, 1) := by decide +kernel
theorem dX9_thing_65 : decode cX9_thing 65 = .ok (.iload 4, 2) := by decide +kernel
theorem dX9_thing_67 : decode cX9_thing 67 = .ok (.invokevirtual 76, 3) := by decide +kernel
theorem dX9_thing_70 : decode cX9_thing 70 = .ok (.aload_n 0, 1) := by decide +kernel
theorem dX9_thing_71 : decode cX9_thing 71 = .ok (.getfield 13, 3) := by decide +kernel
theorem dX9_thing_74 : decode cX9_thing 74 = .ok (.iload 6, 2) := by decide +kernel
theorem dX9_thing_76 : decode cX9_thing 76 = .ok (.iconst 1, 1) := by decide +kernel
theorem dX9_thing_77 : decode cX9_thing 77 = .ok (.iastore, 1) := by decide +kernel
theorem dX9_thing_78 : decode cX9_thing 78 = .ok (.iload 6, 2) := by decide +kernel
theorem dX9_thing_80 : decode cX9_thing 80 = .ok (.ireturn, 1) := by decide +kernel
theorem dX9_place_0 : decode cX9_place 0 = .ok (.aload_n 0, 1) := by decide +kernel
theorem dX9_place_1 : decode cX9_place 1 = .ok (.iload_n 1, 1) := by decide +kernel
theorem dX9_place_2 : decode cX9_place 2 = .ok (.invokevirtual 80, 3) := by decide +kernel
theorem dX9_place_5 : decode cX9_place 5 = .ok (.ifCond .ne 6, 3) := by decide +kernel
theorem dX9_place_8 : decode cX9_place 8 = .ok (.ldc 84, 2) := by decide +kernel
theorem dX9_place_10 : decode cX9_place 10 = .ok (.ireturn, 1) := by decide +kernel
theorem dX9_gone_0 : decode cX9_gone 0 = .ok (.aload_n 0, 1) := by decide +kernel
theorem dX9_gone_1 : decode cX9_gone 1 = .ok (.iload_n 1, 1) := by decide +kernel
theorem dX9_gone_2 : decode cX9_gone 2 = .ok (.invokevirtual 80, 3) := by decide +kernel
theorem dX9_gone_5 : decode cX9_gone 5 = .ok (.ifCond .ne 6, 3) := by decide +kernel
theorem dX9_gone_8 : decode cX9_gone 8 = .ok (.ldc 84, 2) := by decide +kernel
theorem dX9_gone_10 : decode cX9_gone 10 = .ok (.ireturn, 1) := by decide +kernel
theorem dX9_breaks_0 : decode cX9_breaks 0 = .ok (.aload_n 0, 1) := by decide +kernel
theorem dX9_breaks_1 : decode cX9_breaks 1 = .ok (.iload_n 1, 1) := by decide +kernel
theorem dX9_breaks_2 : decode cX9_breaks 2 = .ok (.invokevirtual 80, 3) := by decide +kernel
theorem dX9_breaks_5 : decode cX9_breaks 5 = .ok (.ifCond .ne 6, 3) := by decide +kernel
theorem dX9_breaks_8 : decode cX9_breaks 8 = .ok (.ldc 84, 2) := by decide +kernel
theorem dX9_breaks_10 : decode cX9_breaks 10 = .ok (.ireturn, 1) := by decide +kernel
theorem dX9_rule_0 : decode cX9_rule 0 = .ok (.iload_n 1, 1) := by decide +kernel
theorem dX9_rule_1 : decode cX9_rule 1 = .ok (.i2l, 1) := by decide +kernel
theorem dX9_rule_2 : decode cX9_rule 2 = .ok (.lconst 0, 1) := by decide +kernel
theorem dX9_rule_3 : decode cX9_rule 3 = .ok (.lconst 1, 1) := by decide +kernel
theorem dX9_rule_4 : decode cX9_rule 4 = .ok (.invokestatic 55, 3) := by decide +kernel
theorem dX9_rule_7 : decode cX9_rule 7 = .ok (.ifCond .eq 33, 3) := by decide +kernel
theorem dX9_rule_10 : decode cX9_rule 10 = .ok (.iload_n 2, 1) := by decide +kernel
theorem dX9_rule_11 : decode cX9_rule 11 = .ok (.i2l, 1) := by decide +kernel
theorem dX9_rule_12 : decode cX9_rule 12 = .ok (.iload_n 1, 1) := by decide +kernel
theorem dX9_rule_13 : decode cX9_rule 13 = .ok (.ifCond .ne 7, 3) := by decide +kernel
theorem dX9_rule_16 : decode cX9_rule 16 = .ok (.lconst 1, 1) := by decide +kernel
theorem dX9_rule_17 : decode cX9_rule 17 = .ok (.goto 4, 3) := by decide +kernel
theorem dX9_rule_20 : decode cX9_rule 20 = .ok (.lconst 0, 1) := by decide +kernel
theorem dX9_rule_21 : decode cX9_rule 21 = .ok (.iload_n 1, 1) := by decide +kernel
theorem dX9_rule_22 : decode cX9_rule 22 = .ok (.ifCond .ne 9, 3) := by decide +kernel
theorem dX9_rule_25 : decode cX9_rule 25 = .ok (.ldc2_w 98, 3) := by decide +kernel
theorem dX9_rule_28 : decode cX9_rule 28 = .ok (.goto 6, 3) := by decide +kernel
theorem dX9_rule_31 : decode cX9_rule 31 = .ok (.ldc2_w 100, 3) := by decide +kernel
theorem dX9_rule_34 : decode cX9_rule 34 = .ok (.invokestatic 55, 3) := by decide +kernel
theorem dX9_rule_37 : decode cX9_rule 37 = .ok (.ifCond .ne 6, 3) := by decide +kernel
theorem dX9_rule_40 : decode cX9_rule 40 = .ok (.ldc 70, 2) := by decide +kernel
theorem dX9_rule_42 : decode cX9_rule 42 = .ok (.ireturn, 1) := by decide +kernel
theorem dX9_rule_43 : decode cX9_rule 43 = .ok (.iload_n 1, 1) := by decide +kernel
theorem dX9_rule_44 : decode cX9_rule 44 = .ok (.ifCond .ne 10, 3) := by decide +kernel
theorem dX9_rule_47 : decode cX9_rule 47 = .ok (.aload_n 0, 1) := by decide +kernel
theorem dX9_rule_48 : decode cX9_rule 48 = .ok (.getfield 26, 3) := by decide +kernel
theorem dX9_rule_51 : decode cX9_rule 51 = .ok (.goto 7, 3) := by decide +kernel
theorem dX9_rule_54 : decode cX9_rule 54 = .ok (.aload_n 0, 1) := by decide +kernel
theorem dX9_rule_55 : decode cX9_rule 55 = .ok (.getfield 30, 3) := by decide +kernel
theorem dX9_rule_58 : decode cX9_rule 58 = .ok (.istore_n 3, 1) := by decide +kernel
theorem dX9_rule_59 : decode cX9_rule 59 = .ok (.aload_n 0, 1) := by decide +kernel
theorem dX9_rule_60 : decode cX9_rule 60 = .ok (.iload_n 1, 1) := by decide +kernel
theorem dX9_rule_61 : decode cX9_rule 61 = .ok (.ifCond .ne 7, 3) := by decide +kernel
theorem dX9_rule_64 : decode cX9_rule 64 = .ok (.iload_n 2, 1) := by decide +kernel
theorem dX9_rule_65 : decode cX9_rule 65 = .ok (.goto 7, 3) := by decide +kernel
theorem dX9_rule_68 : decode cX9_rule 68 = .ok (.aload_n 0, 1) := by decide +kernel
theorem dX9_rule_69 : decode cX9_rule 69 = .ok (.getfield 26, 3) := by decide +kernel
theorem dX9_rule_72 : decode cX9_rule 72 = .ok (.putfield 26, 3) := by decide +kernel
theorem dX9_rule_75 : decode cX9_rule 75 = .ok (.aload_n 0, 1) := by decide +kernel
theorem dX9_rule_76 : decode cX9_rule 76 = .ok (.iload_n 1, 1) := by decide +kernel
theorem dX9_rule_77 : decode cX9_rule 77 = .ok (.iconst 1, 1) := by decide +kernel
theorem dX9_rule_78 : decode cX9_rule 78 = .ok (.if_icmp .ne 7, 3) := by decide +kernel
theorem dX9_rule_81 : decode cX9_rule 81 = .ok (.iload_n 2, 1) := by decide +kernel
theorem dX9_rule_82 : decode cX9_rule 82 = .ok (.goto 7, 3) := by decide +kernel
theorem dX9_rule_85 : decode cX9_rule 85 = .ok (.aload_n 0, 1) := by decide +kernel
theorem dX9_rule_86 : decode cX9_rule 86 = .ok (.getfield 30, 3) := by decide +kernel
theorem dX9_rule_89 : decode cX9_rule 89 = .ok (.putfield 30, 3) := by decide +kernel
theorem dX9_rule_92 : decode cX9_rule 92 = .ok (.iload_n 3, 1) := by decide +kernel
theorem dX9_rule_93 : decode cX9_rule 93 = .ok (.ireturn, 1) := by decide +kernel
theorem dX9_told_0 : decode cX9_told 0 = .ok (.aload_n 0, 1) := by decide +kernel
theorem dX9_told_1 : decode cX9_told 1 = .ok (.iload_n 1, 1) := by decide +kernel
theorem dX9_told_2 : decode cX9_told 2 = .ok (.invokevirtual 80, 3) := by decide +kernel
theorem dX9_told_5 : decode cX9_told 5 = .ok (.ifCond .ne 6, 3) := by decide +kernel
theorem dX9_told_8 : decode cX9_told 8 = .ok (.ldc 84, 2) := by decide +kernel
theorem dX9_told_10 : decode cX9_told 10 = .ok (.ireturn, 1) := by decide +kernel
theorem dX9_at_0 : decode cX9_at 0 = .ok (.aload_n 0, 1) := by decide +kernel
theorem dX9_at_1 : decode cX9_at 1 = .ok (.iload_n 1, 1) := by decide +kernel
theorem dX9_at_2 : decode cX9_at 2 = .ok (.invokevirtual 80, 3) := by decide +kernel
theorem dX9_at_5 : decode cX9_at 5 = .ok (.ifCond .ne 6, 3) := by decide +kernel
theorem dX9_at_8 : decode cX9_at 8 = .ok (.ldc 84, 2) := by decide +kernel
theorem dX9_at_10 : decode cX9_at 10 = .ok (.ireturn, 1) := by decide +kernel
theorem dX9_count_0 : decode cX9_count 0 = .ok (.iconst 0, 1) := by decide +kernel
theorem dX9_count_1 : decode cX9_count 1 = .ok (.istore_n 2, 1) := by decide +kernel
theorem dX9_count_2 : decode cX9_count 2 = .ok (.iconst 0, 1) := by decide +kernel
theorem dX9_count_3 : decode cX9_count 3 = .ok (.istore_n 3, 1) := by decide +kernel
theorem dX9_count_4 : decode cX9_count 4 = .ok (.iload_n 3, 1) := by decide +kernel
theorem dX9_count_5 : decode cX9_count 5 = .ok (.aload_n 0, 1) := by decide +kernel
theorem dX9_count_6 : decode cX9_count 6 = .ok (.getfield 59, 3) := by decide +kernel
theorem dX9_count_9 : decode cX9_count 9 = .ok (.if_icmp .ge 74, 3) := by decide +kernel
theorem dX9_count_83 : decode cX9_count 83 = .ok (.iconst 0, 1) := by decide +kernel
theorem dX9_count_84 : decode cX9_count 84 = .ok (.istore_n 3, 1) := by decide +kernel
theorem dX9_count_85 : decode cX9_count 85 = .ok (.iload_n 3, 1) := by decide +kernel
theorem dX9_count_86 : decode cX9_count 86 = .ok (.aload_n 0, 1) := by decide +kernel
theorem dX9_count_87 : decode cX9_count 87 = .ok (.getfield 109, 3) := by decide +kernel
theorem dX9_count_90 : decode cX9_count 90 = .ok (.if_icmp .ge 57, 3) := by decide +kernel
theorem dX9_count_147 : decode cX9_count 147 = .ok (.iconst 0, 1) := by decide +kernel
theorem dX9_count_148 : decode cX9_count 148 = .ok (.istore_n 3, 1) := by decide +kernel
theorem dX9_count_149 : decode cX9_count 149 = .ok (.iload_n 3, 1) := by decide +kernel
theorem dX9_count_150 : decode cX9_count 150 = .ok (.aload_n 0, 1) := by decide +kernel
theorem dX9_count_151 : decode cX9_count 151 = .ok (.getfield 115, 3) := by decide +kernel
theorem dX9_count_154 : decode cX9_count 154 = .ok (.if_icmp .ge 38, 3) := by decide +kernel
theorem dX9_count_192 : decode cX9_count 192 = .ok (.iload_n 1, 1) := by decide +kernel
theorem dX9_count_193 : decode cX9_count 193 = .ok (.tableswitch 77 0 9 #[55, 75, 75, 60, 75, 75, 75, 65, 75, 70], 55) := by decide +kernel
theorem dX9_count_248 : decode cX9_count 248 = .ok (.aload_n 0, 1) := by decide +kernel
theorem dX9_count_249 : decode cX9_count 249 = .ok (.getfield 59, 3) := by decide +kernel
theorem dX9_count_252 : decode cX9_count 252 = .ok (.ireturn, 1) := by decide +kernel
theorem dX9_count_253 : decode cX9_count 253 = .ok (.aload_n 0, 1) := by decide +kernel
theorem dX9_count_254 : decode cX9_count 254 = .ok (.getfield 109, 3) := by decide +kernel
theorem dX9_count_257 : decode cX9_count 257 = .ok (.ireturn, 1) := by decide +kernel
theorem dX9_count_258 : decode cX9_count 258 = .ok (.aload_n 0, 1) := by decide +kernel
theorem dX9_count_259 : decode cX9_count 259 = .ok (.getfield 115, 3) := by decide +kernel
theorem dX9_count_262 : decode cX9_count 262 = .ok (.ireturn, 1) := by decide +kernel
theorem dX9_count_263 : decode cX9_count 263 = .ok (.aload_n 0, 1) := by decide +kernel
theorem dX9_count_264 : decode cX9_count 264 = .ok (.getfield 118, 3) := by decide +kernel
theorem dX9_count_267 : decode cX9_count 267 = .ok (.ireturn, 1) := by decide +kernel
theorem dX9_count_268 : decode cX9_count 268 = .ok (.iload_n 2, 1) := by decide +kernel
theorem dX9_count_269 : decode cX9_count 269 = .ok (.ireturn, 1) := by decide +kernel
theorem dX9_count_270 : decode cX9_count 270 = .ok (.ldc 70, 2) := by decide +kernel
theorem dX9_count_272 : decode cX9_count 272 = .ok (.ireturn, 1) := by decide +kernel
theorem dX9_least_0 : decode cX9_least 0 = .ok (.aload_n 0, 1) := by decide +kernel
theorem dX9_least_1 : decode cX9_least 1 = .ok (.iload_n 1, 1) := by decide +kernel
theorem dX9_least_2 : decode cX9_least 2 = .ok (.invokevirtual 80, 3) := by decide +kernel
theorem dX9_least_5 : decode cX9_least 5 = .ok (.ifCond .eq 11, 3) := by decide +kernel
theorem dX9_least_16 : decode cX9_least 16 = .ok (.ldc2_w 158, 3) := by decide +kernel
theorem dX9_least_19 : decode cX9_least 19 = .ok (.lreturn, 1) := by decide +kernel
theorem dX9_sieve_0 : decode cX9_sieve 0 = .ok (.aload_n 0, 1) := by decide +kernel
theorem dX9_sieve_1 : decode cX9_sieve 1 = .ok (.iload_n 1, 1) := by decide +kernel
theorem dX9_sieve_2 : decode cX9_sieve 2 = .ok (.invokevirtual 80, 3) := by decide +kernel
theorem dX9_sieve_5 : decode cX9_sieve 5 = .ok (.ifCond .eq 11, 3) := by decide +kernel
theorem dX9_sieve_16 : decode cX9_sieve 16 = .ok (.ldc 84, 2) := by decide +kernel
theorem dX9_sieve_18 : decode cX9_sieve 18 = .ok (.ireturn, 1) := by decide +kernel
theorem dX9_meeting_0 : decode cX9_meeting 0 = .ok (.iload_n 2, 1) := by decide +kernel
theorem dX9_meeting_1 : decode cX9_meeting 1 = .ok (.i2l, 1) := by decide +kernel
theorem dX9_meeting_2 : decode cX9_meeting 2 = .ok (.lconst 0, 1) := by decide +kernel
theorem dX9_meeting_3 : decode cX9_meeting 3 = .ok (.lconst 1, 1) := by decide +kernel
theorem dX9_meeting_4 : decode cX9_meeting 4 = .ok (.invokestatic 55, 3) := by decide +kernel
theorem dX9_meeting_7 : decode cX9_meeting 7 = .ok (.ifCond .ne 6, 3) := by decide +kernel
theorem dX9_meeting_10 : decode cX9_meeting 10 = .ok (.ldc 70, 2) := by decide +kernel
theorem dX9_meeting_12 : decode cX9_meeting 12 = .ok (.ireturn, 1) := by decide +kernel
theorem dX9_meeting_13 : decode cX9_meeting 13 = .ok (.iconst 0, 1) := by decide +kernel
theorem dX9_meeting_14 : decode cX9_meeting 14 = .ok (.istore_n 3, 1) := by decide +kernel
theorem dX9_meeting_15 : decode cX9_meeting 15 = .ok (.iconst 0, 1) := by decide +kernel
theorem dX9_meeting_16 : decode cX9_meeting 16 = .ok (.istore 4, 2) := by decide +kernel
theorem dX9_meeting_18 : decode cX9_meeting 18 = .ok (.iload 4, 2) := by decide +kernel
theorem dX9_meeting_20 : decode cX9_meeting 20 = .ok (.aload_n 0, 1) := by decide +kernel
theorem dX9_meeting_21 : decode cX9_meeting 21 = .ok (.getfield 59, 3) := by decide +kernel
theorem dX9_meeting_24 : decode cX9_meeting 24 = .ok (.if_icmp .ge 61, 3) := by decide +kernel
theorem dX9_meeting_85 : decode cX9_meeting 85 = .ok (.iconst (-1), 1) := by decide +kernel
theorem dX9_meeting_86 : decode cX9_meeting 86 = .ok (.ireturn, 1) := by decide +kernel
theorem dX9_share_0 : decode cX9_share 0 = .ok (.aload_n 0, 1) := by decide +kernel
theorem dX9_share_1 : decode cX9_share 1 = .ok (.iload_n 1, 1) := by decide +kernel
theorem dX9_share_2 : decode cX9_share 2 = .ok (.invokevirtual 80, 3) := by decide +kernel
theorem dX9_share_5 : decode cX9_share 5 = .ok (.ifCond .eq 11, 3) := by decide +kernel
theorem dX9_share_16 : decode cX9_share 16 = .ok (.ldc2_w 158, 3) := by decide +kernel
theorem dX9_share_19 : decode cX9_share 19 = .ok (.lreturn, 1) := by decide +kernel
theorem dX9_best_0 : decode cX9_best 0 = .ok (.aload_n 0, 1) := by decide +kernel
theorem dX9_best_1 : decode cX9_best 1 = .ok (.iload_n 1, 1) := by decide +kernel
theorem dX9_best_2 : decode cX9_best 2 = .ok (.invokevirtual 80, 3) := by decide +kernel
theorem dX9_best_5 : decode cX9_best 5 = .ok (.ifCond .ne 6, 3) := by decide +kernel
theorem dX9_best_8 : decode cX9_best 8 = .ok (.ldc 84, 2) := by decide +kernel
theorem dX9_best_10 : decode cX9_best 10 = .ok (.ireturn, 1) := by decide +kernel
theorem dX9_burn_0 : decode cX9_burn 0 = .ok (.aload_n 0, 1) := by decide +kernel
theorem dX9_burn_1 : decode cX9_burn 1 = .ok (.iload_n 1, 1) := by decide +kernel
theorem dX9_burn_2 : decode cX9_burn 2 = .ok (.invokevirtual 80, 3) := by decide +kernel
theorem dX9_burn_5 : decode cX9_burn 5 = .ok (.ifCond .ne 6, 3) := by decide +kernel
theorem dX9_burn_8 : decode cX9_burn 8 = .ok (.ldc 84, 2) := by decide +kernel
theorem dX9_burn_10 : decode cX9_burn 10 = .ok (.ireturn, 1) := by decide +kernel
theorem dX9_dot_0 : decode cX9_dot 0 = .ok (.iload_n 1, 1) := by decide +kernel
theorem dX9_dot_1 : decode cX9_dot 1 = .ok (.i2l, 1) := by decide +kernel
theorem dX9_dot_2 : decode cX9_dot 2 = .ok (.lconst 0, 1) := by decide +kernel
theorem dX9_dot_3 : decode cX9_dot 3 = .ok (.ldc2_w 62, 3) := by decide +kernel
theorem dX9_dot_6 : decode cX9_dot 6 = .ok (.invokestatic 55, 3) := by decide +kernel
theorem dX9_dot_9 : decode cX9_dot 9 = .ok (.ifCond .eq 13, 3) := by decide +kernel
theorem dX9_dot_12 : decode cX9_dot 12 = .ok (.iload_n 2, 1) := by decide +kernel
theorem dX9_dot_13 : decode cX9_dot 13 = .ok (.iload_n 3, 1) := by decide +kernel
theorem dX9_dot_14 : decode cX9_dot 14 = .ok (.iload 4, 2) := by decide +kernel
theorem dX9_dot_16 : decode cX9_dot 16 = .ok (.invokestatic 64, 3) := by decide +kernel
theorem dX9_dot_19 : decode cX9_dot 19 = .ok (.ifCond .ne 6, 3) := by decide +kernel
theorem dX9_dot_22 : decode cX9_dot 22 = .ok (.ldc 70, 2) := by decide +kernel
theorem dX9_dot_24 : decode cX9_dot 24 = .ok (.ireturn, 1) := by decide +kernel
theorem dX9_dot_25 : decode cX9_dot 25 = .ok (.aload_n 0, 1) := by decide +kernel
theorem dX9_dot_26 : decode cX9_dot 26 = .ok (.getfield 109, 3) := by decide +kernel
theorem dX9_dot_29 : decode cX9_dot 29 = .ok (.bipush 40, 2) := by decide +kernel
theorem dX9_dot_31 : decode cX9_dot 31 = .ok (.if_icmp .ne 6, 3) := by decide +kernel
theorem dX9_dot_37 : decode cX9_dot 37 = .ok (.aload_n 0, 1) := by decide +kernel
theorem dX9_dot_38 : decode cX9_dot 38 = .ok (.getfield 33, 3) := by decide +kernel
theorem dX9_dot_41 : decode cX9_dot 41 = .ok (.aload_n 0, 1) := by decide +kernel
theorem dX9_dot_42 : decode cX9_dot 42 = .ok (.getfield 109, 3) := by decide +kernel
theorem dX9_dot_45 : decode cX9_dot 45 = .ok (.iload_n 1, 1) := by decide +kernel
theorem dX9_dot_46 : decode cX9_dot 46 = .ok (.iastore, 1) := by decide +kernel
theorem dX9_dot_47 : decode cX9_dot 47 = .ok (.aload_n 0, 1) := by decide +kernel
theorem dX9_dot_48 : decode cX9_dot 48 = .ok (.getfield 36, 3) := by decide +kernel
theorem dX9_dot_51 : decode cX9_dot 51 = .ok (.iconst 3, 1) := by decide +kernel
theorem dX9_dot_52 : decode cX9_dot 52 = .ok (.aload_n 0, 1) := by decide +kernel
theorem dX9_dot_53 : decode cX9_dot 53 = .ok (.getfield 109, 3) := by decide +kernel
theorem dX9_dot_56 : decode cX9_dot 56 = .ok (.imul, 1) := by decide +kernel
theorem dX9_dot_57 : decode cX9_dot 57 = .ok (.iload_n 2, 1) := by decide +kernel
theorem dX9_dot_58 : decode cX9_dot 58 = .ok (.iastore, 1) := by decide +kernel
theorem dX9_dot_59 : decode cX9_dot 59 = .ok (.aload_n 0, 1) := by decide +kernel
theorem dX9_dot_60 : decode cX9_dot 60 = .ok (.getfield 36, 3) := by decide +kernel
theorem dX9_dot_63 : decode cX9_dot 63 = .ok (.iconst 3, 1) := by decide +kernel
theorem dX9_dot_64 : decode cX9_dot 64 = .ok (.aload_n 0, 1) := by decide +kernel
theorem dX9_dot_65 : decode cX9_dot 65 = .ok (.getfield 109, 3) := by decide +kernel
theorem dX9_dot_68 : decode cX9_dot 68 = .ok (.imul, 1) := by decide +kernel
theorem dX9_dot_69 : decode cX9_dot 69 = .ok (.iconst 1, 1) := by decide +kernel
theorem dX9_dot_70 : decode cX9_dot 70 = .ok (.iadd, 1) := by decide +kernel
theorem dX9_dot_71 : decode cX9_dot 71 = .ok (.iload_n 3, 1) := by decide +kernel
theorem dX9_dot_72 : decode cX9_dot 72 = .ok (.iastore, 1) := by decide +kernel
theorem dX9_dot_73 : decode cX9_dot 73 = .ok (.aload_n 0, 1) := by decide +kernel
theorem dX9_dot_74 : decode cX9_dot 74 = .ok (.getfield 36, 3) := by decide +kernel
theorem dX9_dot_77 : decode cX9_dot 77 = .ok (.iconst 3, 1) := by decide +kernel
theorem dX9_dot_78 : decode cX9_dot 78 = .ok (.aload_n 0, 1) := by decide +kernel
theorem dX9_dot_79 : decode cX9_dot 79 = .ok (.getfield 109, 3) := by decide +kernel
theorem dX9_dot_82 : decode cX9_dot 82 = .ok (.imul, 1) := by decide +kernel
theorem dX9_dot_83 : decode cX9_dot 83 = .ok (.iconst 2, 1) := by decide +kernel
theorem dX9_dot_84 : decode cX9_dot 84 = .ok (.iadd, 1) := by decide +kernel
theorem dX9_dot_85 : decode cX9_dot 85 = .ok (.iload 4, 2) := by decide +kernel
theorem dX9_dot_87 : decode cX9_dot 87 = .ok (.iastore, 1) := by decide +kernel
theorem dX9_dot_88 : decode cX9_dot 88 = .ok (.aload_n 0, 1) := by decide +kernel
theorem dX9_dot_89 : decode cX9_dot 89 = .ok (.dup, 1) := by decide +kernel
theorem dX9_dot_90 : decode cX9_dot 90 = .ok (.getfield 109, 3) := by decide +kernel
theorem dX9_dot_93 : decode cX9_dot 93 = .ok (.iconst 1, 1) := by decide +kernel
theorem dX9_dot_94 : decode cX9_dot 94 = .ok (.iadd, 1) := by decide +kernel
theorem dX9_dot_95 : decode cX9_dot 95 = .ok (.putfield 109, 3) := by decide +kernel
theorem dX9_dot_98 : decode cX9_dot 98 = .ok (.aload_n 0, 1) := by decide +kernel
theorem dX9_dot_99 : decode cX9_dot 99 = .ok (.getfield 109, 3) := by decide +kernel
theorem dX9_dot_102 : decode cX9_dot 102 = .ok (.iconst 1, 1) := by decide +kernel
theorem dX9_dot_103 : decode cX9_dot 103 = .ok (.isub, 1) := by decide +kernel
theorem dX9_dot_104 : decode cX9_dot 104 = .ok (.ireturn, 1) := by decide +kernel
theorem dX9_dotted_0 : decode cX9_dotted 0 = .ok (.iload_n 1, 1) := by decide +kernel
theorem dX9_dotted_1 : decode cX9_dotted 1 = .ok (.i2l, 1) := by decide +kernel
theorem dX9_dotted_2 : decode cX9_dotted 2 = .ok (.lconst 0, 1) := by decide +kernel
theorem dX9_dotted_3 : decode cX9_dotted 3 = .ok (.aload_n 0, 1) := by decide +kernel
theorem dX9_dotted_4 : decode cX9_dotted 4 = .ok (.getfield 109, 3) := by decide +kernel
theorem dX9_dotted_7 : decode cX9_dotted 7 = .ok (.iconst 1, 1) := by decide +kernel
theorem dX9_dotted_8 : decode cX9_dotted 8 = .ok (.isub, 1) := by decide +kernel
theorem dX9_dotted_9 : decode cX9_dotted 9 = .ok (.i2l, 1) := by decide +kernel
theorem dX9_dotted_10 : decode cX9_dotted 10 = .ok (.invokestatic 55, 3) := by decide +kernel
theorem dX9_dotted_13 : decode cX9_dotted 13 = .ok (.ifCond .ne 6, 3) := by decide +kernel
theorem dX9_dotted_16 : decode cX9_dotted 16 = .ok (.ldc 84, 2) := by decide +kernel
theorem dX9_dotted_18 : decode cX9_dotted 18 = .ok (.ireturn, 1) := by decide +kernel
theorem dX9_notice_0 : decode cX9_notice 0 = .ok (.aload_n 0, 1) := by decide +kernel
theorem dX9_notice_1 : decode cX9_notice 1 = .ok (.iload_n 1, 1) := by decide +kernel
theorem dX9_notice_2 : decode cX9_notice 2 = .ok (.invokevirtual 80, 3) := by decide +kernel
theorem dX9_notice_5 : decode cX9_notice 5 = .ok (.ifCond .eq 11, 3) := by decide +kernel
theorem dX9_notice_16 : decode cX9_notice 16 = .ok (.ldc 84, 2) := by decide +kernel
theorem dX9_notice_18 : decode cX9_notice 18 = .ok (.ireturn, 1) := by decide +kernel
theorem dX9_answer_0 : decode cX9_answer 0 = .ok (.iload_n 1, 1) := by decide +kernel
theorem dX9_answer_1 : decode cX9_answer 1 = .ok (.i2l, 1) := by decide +kernel
theorem dX9_answer_2 : decode cX9_answer 2 = .ok (.lconst 0, 1) := by decide +kernel
theorem dX9_answer_3 : decode cX9_answer 3 = .ok (.aload_n 0, 1) := by decide +kernel
theorem dX9_answer_4 : decode cX9_answer 4 = .ok (.getfield 115, 3) := by decide +kernel
theorem dX9_answer_7 : decode cX9_answer 7 = .ok (.iconst 1, 1) := by decide +kernel
theorem dX9_answer_8 : decode cX9_answer 8 = .ok (.isub, 1) := by decide +kernel
theorem dX9_answer_9 : decode cX9_answer 9 = .ok (.i2l, 1) := by decide +kernel
theorem dX9_answer_10 : decode cX9_answer 10 = .ok (.invokestatic 55, 3) := by decide +kernel
theorem dX9_answer_13 : decode cX9_answer 13 = .ok (.ifCond .eq 11, 3) := by decide +kernel
theorem dX9_answer_24 : decode cX9_answer 24 = .ok (.ldc 84, 2) := by decide +kernel
theorem dX9_answer_26 : decode cX9_answer 26 = .ok (.ireturn, 1) := by decide +kernel
theorem dX9_noticed_0 : decode cX9_noticed 0 = .ok (.iload_n 1, 1) := by decide +kernel
theorem dX9_noticed_1 : decode cX9_noticed 1 = .ok (.i2l, 1) := by decide +kernel
theorem dX9_noticed_2 : decode cX9_noticed 2 = .ok (.lconst 0, 1) := by decide +kernel
theorem dX9_noticed_3 : decode cX9_noticed 3 = .ok (.aload_n 0, 1) := by decide +kernel
theorem dX9_noticed_4 : decode cX9_noticed 4 = .ok (.getfield 115, 3) := by decide +kernel
theorem dX9_noticed_7 : decode cX9_noticed 7 = .ok (.iconst 1, 1) := by decide +kernel
theorem dX9_noticed_8 : decode cX9_noticed 8 = .ok (.isub, 1) := by decide +kernel
theorem dX9_noticed_9 : decode cX9_noticed 9 = .ok (.i2l, 1) := by decide +kernel
theorem dX9_noticed_10 : decode cX9_noticed 10 = .ok (.invokestatic 55, 3) := by decide +kernel
theorem dX9_noticed_13 : decode cX9_noticed 13 = .ok (.ifCond .ne 6, 3) := by decide +kernel
theorem dX9_noticed_16 : decode cX9_noticed 16 = .ok (.ldc 84, 2) := by decide +kernel
theorem dX9_noticed_18 : decode cX9_noticed 18 = .ok (.ireturn, 1) := by decide +kernel
theorem dX9_keep_0 : decode cX9_keep 0 = .ok (.iload_n 1, 1) := by decide +kernel
theorem dX9_keep_1 : decode cX9_keep 1 = .ok (.i2l, 1) := by decide +kernel
theorem dX9_keep_2 : decode cX9_keep 2 = .ok (.lconst 0, 1) := by decide +kernel
theorem dX9_keep_3 : decode cX9_keep 3 = .ok (.lconst 1, 1) := by decide +kernel
theorem dX9_keep_4 : decode cX9_keep 4 = .ok (.invokestatic 55, 3) := by decide +kernel
theorem dX9_keep_7 : decode cX9_keep 7 = .ok (.ifCond .ne 6, 3) := by decide +kernel
theorem dX9_keep_10 : decode cX9_keep 10 = .ok (.ldc 84, 2) := by decide +kernel
theorem dX9_keep_12 : decode cX9_keep 12 = .ok (.ireturn, 1) := by decide +kernel
theorem dX9_keep_13 : decode cX9_keep 13 = .ok (.aload_n 0, 1) := by decide +kernel
theorem dX9_keep_14 : decode cX9_keep 14 = .ok (.getfield 42, 3) := by decide +kernel
theorem dX9_keep_17 : decode cX9_keep 17 = .ok (.iload_n 1, 1) := by decide +kernel
theorem dX9_keep_18 : decode cX9_keep 18 = .ok (.aload_n 0, 1) := by decide +kernel
theorem dX9_keep_19 : decode cX9_keep 19 = .ok (.getfield 59, 3) := by decide +kernel
theorem dX9_keep_22 : decode cX9_keep 22 = .ok (.iastore, 1) := by decide +kernel
theorem dX9_keep_23 : decode cX9_keep 23 = .ok (.iconst 0, 1) := by decide +kernel
theorem dX9_keep_24 : decode cX9_keep 24 = .ok (.istore_n 2, 1) := by decide +kernel
theorem dX9_keep_25 : decode cX9_keep 25 = .ok (.iload_n 2, 1) := by decide +kernel
theorem dX9_keep_26 : decode cX9_keep 26 = .ok (.aload_n 0, 1) := by decide +kernel
theorem dX9_keep_27 : decode cX9_keep 27 = .ok (.getfield 59, 3) := by decide +kernel
theorem dX9_keep_30 : decode cX9_keep 30 = .ok (.if_icmp .ge 46, 3) := by decide +kernel
theorem dX9_keep_76 : decode cX9_keep 76 = .ok (.aload_n 0, 1) := by decide +kernel
theorem dX9_keep_77 : decode cX9_keep 77 = .ok (.getfield 59, 3) := by decide +kernel
theorem dX9_keep_80 : decode cX9_keep 80 = .ok (.ireturn, 1) := by decide +kernel
theorem dX9_differs_0 : decode cX9_differs 0 = .ok (.iload_n 1, 1) := by decide +kernel
theorem dX9_differs_1 : decode cX9_differs 1 = .ok (.i2l, 1) := by decide +kernel
theorem dX9_differs_2 : decode cX9_differs 2 = .ok (.lconst 0, 1) := by decide +kernel
theorem dX9_differs_3 : decode cX9_differs 3 = .ok (.lconst 1, 1) := by decide +kernel
theorem dX9_differs_4 : decode cX9_differs 4 = .ok (.invokestatic 55, 3) := by decide +kernel
theorem dX9_differs_7 : decode cX9_differs 7 = .ok (.ifCond .ne 6, 3) := by decide +kernel
theorem dX9_differs_10 : decode cX9_differs 10 = .ok (.ldc 84, 2) := by decide +kernel
theorem dX9_differs_12 : decode cX9_differs 12 = .ok (.ireturn, 1) := by decide +kernel
theorem dX9_differs_13 : decode cX9_differs 13 = .ok (.aload_n 0, 1) := by decide +kernel
theorem dX9_differs_14 : decode cX9_differs 14 = .ok (.getfield 42, 3) := by decide +kernel
theorem dX9_differs_17 : decode cX9_differs 17 = .ok (.iload_n 1, 1) := by decide +kernel
theorem dX9_differs_18 : decode cX9_differs 18 = .ok (.iaload, 1) := by decide +kernel
theorem dX9_differs_19 : decode cX9_differs 19 = .ok (.ifCond .ge 6, 3) := by decide +kernel
theorem dX9_differs_22 : decode cX9_differs 22 = .ok (.ldc 85, 2) := by decide +kernel
theorem dX9_differs_24 : decode cX9_differs 24 = .ok (.ireturn, 1) := by decide +kernel
theorem dL_law_0 : decode cL_law 0 = .ok (.new 7, 3) := by decide +kernel
theorem dL_law_3 : decode cL_law 3 = .ok (.dup, 1) := by decide +kernel
theorem dL_law_4 : decode cL_law 4 = .ok (.invokespecial 9, 3) := by decide +kernel
theorem dL_law_7 : decode cL_law 7 = .ok (.astore_n 1, 1) := by decide +kernel
theorem dL_law_8 : decode cL_law 8 = .ok (.new 10, 3) := by decide +kernel
theorem dL_law_11 : decode cL_law 11 = .ok (.dup, 1) := by decide +kernel
theorem dL_law_12 : decode cL_law 12 = .ok (.invokespecial 12, 3) := by decide +kernel
theorem dL_law_15 : decode cL_law 15 = .ok (.astore_n 2, 1) := by decide +kernel
theorem dL_law_16 : decode cL_law 16 = .ok (.iconst 0, 1) := by decide +kernel
theorem dL_law_17 : decode cL_law 17 = .ok (.istore_n 3, 1) := by decide +kernel
theorem dL_law_18 : decode cL_law 18 = .ok (.iload_n 3, 1) := by decide +kernel
theorem dL_law_19 : decode cL_law 19 = .ok (.aload_n 0, 1) := by decide +kernel
theorem dL_law_20 : decode cL_law 20 = .ok (.arraylength, 1) := by decide +kernel
theorem dL_law_21 : decode cL_law 21 = .ok (.bipush 6, 2) := by decide +kernel
theorem dL_law_23 : decode cL_law 23 = .ok (.isub, 1) := by decide +kernel
theorem dL_law_24 : decode cL_law 24 = .ok (.if_icmp .gt 939, 3) := by decide +kernel
theorem dL_law_27 : decode cL_law 27 = .ok (.aload_n 0, 1) := by decide +kernel
theorem dL_law_28 : decode cL_law 28 = .ok (.iload_n 3, 1) := by decide +kernel
theorem dL_law_29 : decode cL_law 29 = .ok (.iaload, 1) := by decide +kernel
theorem dL_law_30 : decode cL_law 30 = .ok (.bipush 31, 2) := by decide +kernel
theorem dL_law_32 : decode cL_law 32 = .ok (.iand, 1) := by decide +kernel
theorem dL_law_33 : decode cL_law 33 = .ok (.tableswitch 924 0 20 #[99, 162, 215, 238, 281, 314, 347, 390, 413, 446, 490, 523, 577, 620, 683, 736, 769, 802, 845, 878, 901], 99) := by decide +kernel
theorem dL_law_132 : decode cL_law 132 = .ok (.aload_n 1, 1) := by decide +kernel
theorem dL_law_133 : decode cL_law 133 = .ok (.aload_n 0, 1) := by decide +kernel
theorem dL_law_134 : decode cL_law 134 = .ok (.iload_n 3, 1) := by decide +kernel
theorem dL_law_135 : decode cL_law 135 = .ok (.iconst 1, 1) := by decide +kernel
theorem dL_law_136 : decode cL_law 136 = .ok (.iadd, 1) := by decide +kernel
theorem dL_law_137 : decode cL_law 137 = .ok (.iaload, 1) := by decide +kernel
theorem dL_law_138 : decode cL_law 138 = .ok (.aload_n 0, 1) := by decide +kernel
theorem dL_law_139 : decode cL_law 139 = .ok (.iload_n 3, 1) := by decide +kernel
theorem dL_law_140 : decode cL_law 140 = .ok (.iconst 2, 1) := by decide +kernel
theorem dL_law_141 : decode cL_law 141 = .ok (.iadd, 1) := by decide +kernel
theorem dL_law_142 : decode cL_law 142 = .ok (.iaload, 1) := by decide +kernel
theorem dL_law_143 : decode cL_law 143 = .ok (.aload_n 0, 1) := by decide +kernel
theorem dL_law_144 : decode cL_law 144 = .ok (.iload_n 3, 1) := by decide +kernel
theorem dL_law_145 : decode cL_law 145 = .ok (.iconst 3, 1) := by decide +kernel
theorem dL_law_146 : decode cL_law 146 = .ok (.iadd, 1) := by decide +kernel
theorem dL_law_147 : decode cL_law 147 = .ok (.iaload, 1) := by decide +kernel
theorem dL_law_148 : decode cL_law 148 = .ok (.aload_n 0, 1) := by decide +kernel
theorem dL_law_149 : decode cL_law 149 = .ok (.iload_n 3, 1) := by decide +kernel
theorem dL_law_150 : decode cL_law 150 = .ok (.iconst 4, 1) := by decide +kernel
theorem dL_law_151 : decode cL_law 151 = .ok (.iadd, 1) := by decide +kernel
theorem dL_law_152 : decode cL_law 152 = .ok (.iaload, 1) := by decide +kernel
theorem dL_law_153 : decode cL_law 153 = .ok (.aload_n 0, 1) := by decide +kernel
theorem dL_law_154 : decode cL_law 154 = .ok (.iload_n 3, 1) := by decide +kernel
theorem dL_law_155 : decode cL_law 155 = .ok (.iconst 5, 1) := by decide +kernel
theorem dL_law_156 : decode cL_law 156 = .ok (.iadd, 1) := by decide +kernel
theorem dL_law_157 : decode cL_law 157 = .ok (.iaload, 1) := by decide +kernel
theorem dL_law_158 : decode cL_law 158 = .ok (.invokevirtual 13, 3) := by decide +kernel
theorem dL_law_161 : decode cL_law 161 = .ok (.aload_n 2, 1) := by decide +kernel
theorem dL_law_162 : decode cL_law 162 = .ok (.aload_n 0, 1) := by decide +kernel
theorem dL_law_163 : decode cL_law 163 = .ok (.iload_n 3, 1) := by decide +kernel
theorem dL_law_164 : decode cL_law 164 = .ok (.iconst 1, 1) := by decide +kernel
theorem dL_law_165 : decode cL_law 165 = .ok (.iadd, 1) := by decide +kernel
theorem dL_law_166 : decode cL_law 166 = .ok (.iaload, 1) := by decide +kernel
theorem dL_law_167 : decode cL_law 167 = .ok (.aload_n 0, 1) := by decide +kernel
theorem dL_law_168 : decode cL_law 168 = .ok (.iload_n 3, 1) := by decide +kernel
theorem dL_law_169 : decode cL_law 169 = .ok (.iconst 2, 1) := by decide +kernel
end
section
theorem dL_law_170 : decode cL_law 170 = .ok (.iadd, 1) := by decide +kernel
theorem dL_law_171 : decode cL_law 171 = .ok (.iaload, 1) := by decide +kernel
theorem dL_law_172 : decode cL_law 172 = .ok (.aload_n 0, 1) := by decide +kernel
theorem dL_law_173 : decode cL_law 173 = .ok (.iload_n 3, 1) := by decide +kernel
theorem dL_law_174 : decode cL_law 174 = .ok (.iconst 3, 1) := by decide +kernel
theorem dL_law_175 : decode cL_law 175 = .ok (.iadd, 1) := by decide +kernel
theorem dL_law_176 : decode cL_law 176 = .ok (.iaload, 1) := by decide +kernel
theorem dL_law_177 : decode cL_law 177 = .ok (.aload_n 0, 1) := by decide +kernel
theorem dL_law_178 : decode cL_law 178 = .ok (.iload_n 3, 1) := by decide +kernel
theorem dL_law_179 : decode cL_law 179 = .ok (.iconst 4, 1) := by decide +kernel
theorem dL_law_180 : decode cL_law 180 = .ok (.iadd, 1) := by decide +kernel
theorem dL_law_181 : decode cL_law 181 = .ok (.iaload, 1) := by decide +kernel
theorem dL_law_182 : decode cL_law 182 = .ok (.aload_n 0, 1) := by decide +kernel
theorem dL_law_183 : decode cL_law 183 = .ok (.iload_n 3, 1) := by decide +kernel
theorem dL_law_184 : decode cL_law 184 = .ok (.iconst 5, 1) := by decide +kernel
theorem dL_law_185 : decode cL_law 185 = .ok (.iadd, 1) := by decide +kernel
theorem dL_law_186 : decode cL_law 186 = .ok (.iaload, 1) := by decide +kernel
theorem dL_law_187 : decode cL_law 187 = .ok (.invokevirtual 17, 3) := by decide +kernel
theorem dL_law_190 : decode cL_law 190 = .ok (.if_icmp .eq 767, 3) := by decide +kernel
theorem dL_law_195 : decode cL_law 195 = .ok (.aload_n 1, 1) := by decide +kernel
theorem dL_law_196 : decode cL_law 196 = .ok (.aload_n 0, 1) := by decide +kernel
theorem dL_law_197 : decode cL_law 197 = .ok (.iload_n 3, 1) := by decide +kernel
theorem dL_law_198 : decode cL_law 198 = .ok (.iconst 1, 1) := by decide +kernel
theorem dL_law_199 : decode cL_law 199 = .ok (.iadd, 1) := by decide +kernel
theorem dL_law_200 : decode cL_law 200 = .ok (.iaload, 1) := by decide +kernel
theorem dL_law_201 : decode cL_law 201 = .ok (.aload_n 0, 1) := by decide +kernel
theorem dL_law_202 : decode cL_law 202 = .ok (.iload_n 3, 1) := by decide +kernel
theorem dL_law_203 : decode cL_law 203 = .ok (.iconst 2, 1) := by decide +kernel
theorem dL_law_204 : decode cL_law 204 = .ok (.iadd, 1) := by decide +kernel
theorem dL_law_205 : decode cL_law 205 = .ok (.iaload, 1) := by decide +kernel
theorem dL_law_206 : decode cL_law 206 = .ok (.aload_n 0, 1) := by decide +kernel
theorem dL_law_207 : decode cL_law 207 = .ok (.iload_n 3, 1) := by decide +kernel
theorem dL_law_208 : decode cL_law 208 = .ok (.iconst 3, 1) := by decide +kernel
theorem dL_law_209 : decode cL_law 209 = .ok (.iadd, 1) := by decide +kernel
theorem dL_law_210 : decode cL_law 210 = .ok (.iaload, 1) := by decide +kernel
theorem dL_law_211 : decode cL_law 211 = .ok (.aload_n 0, 1) := by decide +kernel
theorem dL_law_212 : decode cL_law 212 = .ok (.iload_n 3, 1) := by decide +kernel
theorem dL_law_213 : decode cL_law 213 = .ok (.iconst 4, 1) := by decide +kernel
theorem dL_law_214 : decode cL_law 214 = .ok (.iadd, 1) := by decide +kernel
theorem dL_law_215 : decode cL_law 215 = .ok (.iaload, 1) := by decide +kernel
theorem dL_law_216 : decode cL_law 216 = .ok (.invokevirtual 18, 3) := by decide +kernel
theorem dL_law_219 : decode cL_law 219 = .ok (.aload_n 2, 1) := by decide +kernel
theorem dL_law_220 : decode cL_law 220 = .ok (.aload_n 0, 1) := by decide +kernel
theorem dL_law_221 : decode cL_law 221 = .ok (.iload_n 3, 1) := by decide +kernel
theorem dL_law_222 : decode cL_law 222 = .ok (.iconst 1, 1) := by decide +kernel
theorem dL_law_223 : decode cL_law 223 = .ok (.iadd, 1) := by decide +kernel
theorem dL_law_224 : decode cL_law 224 = .ok (.iaload, 1) := by decide +kernel
theorem dL_law_225 : decode cL_law 225 = .ok (.aload_n 0, 1) := by decide +kernel
theorem dL_law_226 : decode cL_law 226 = .ok (.iload_n 3, 1) := by decide +kernel
theorem dL_law_227 : decode cL_law 227 = .ok (.iconst 2, 1) := by decide +kernel
theorem dL_law_228 : decode cL_law 228 = .ok (.iadd, 1) := by decide +kernel
theorem dL_law_229 : decode cL_law 229 = .ok (.iaload, 1) := by decide +kernel
theorem dL_law_230 : decode cL_law 230 = .ok (.aload_n 0, 1) := by decide +kernel
theorem dL_law_231 : decode cL_law 231 = .ok (.iload_n 3, 1) := by decide +kernel
theorem dL_law_232 : decode cL_law 232 = .ok (.iconst 3, 1) := by decide +kernel
theorem dL_law_233 : decode cL_law 233 = .ok (.iadd, 1) := by decide +kernel
theorem dL_law_234 : decode cL_law 234 = .ok (.iaload, 1) := by decide +kernel
theorem dL_law_235 : decode cL_law 235 = .ok (.aload_n 0, 1) := by decide +kernel
theorem dL_law_236 : decode cL_law 236 = .ok (.iload_n 3, 1) := by decide +kernel
theorem dL_law_237 : decode cL_law 237 = .ok (.iconst 4, 1) := by decide +kernel
theorem dL_law_238 : decode cL_law 238 = .ok (.iadd, 1) := by decide +kernel
theorem dL_law_239 : decode cL_law 239 = .ok (.iaload, 1) := by decide +kernel
theorem dL_law_240 : decode cL_law 240 = .ok (.invokevirtual 22, 3) := by decide +kernel
theorem dL_law_243 : decode cL_law 243 = .ok (.if_icmp .eq 714, 3) := by decide +kernel
theorem dL_law_248 : decode cL_law 248 = .ok (.aload_n 1, 1) := by decide +kernel
theorem dL_law_249 : decode cL_law 249 = .ok (.aload_n 0, 1) := by decide +kernel
theorem dL_law_250 : decode cL_law 250 = .ok (.iload_n 3, 1) := by decide +kernel
theorem dL_law_251 : decode cL_law 251 = .ok (.iconst 1, 1) := by decide +kernel
theorem dL_law_252 : decode cL_law 252 = .ok (.iadd, 1) := by decide +kernel
theorem dL_law_253 : decode cL_law 253 = .ok (.iaload, 1) := by decide +kernel
theorem dL_law_254 : decode cL_law 254 = .ok (.invokevirtual 23, 3) := by decide +kernel
theorem dL_law_257 : decode cL_law 257 = .ok (.aload_n 2, 1) := by decide +kernel
theorem dL_law_258 : decode cL_law 258 = .ok (.aload_n 0, 1) := by decide +kernel
theorem dL_law_259 : decode cL_law 259 = .ok (.iload_n 3, 1) := by decide +kernel
theorem dL_law_260 : decode cL_law 260 = .ok (.iconst 1, 1) := by decide +kernel
theorem dL_law_261 : decode cL_law 261 = .ok (.iadd, 1) := by decide +kernel
theorem dL_law_262 : decode cL_law 262 = .ok (.iaload, 1) := by decide +kernel
theorem dL_law_263 : decode cL_law 263 = .ok (.invokevirtual 27, 3) := by decide +kernel
theorem dL_law_266 : decode cL_law 266 = .ok (.if_icmp .eq 691, 3) := by decide +kernel
theorem dL_law_271 : decode cL_law 271 = .ok (.aload_n 1, 1) := by decide +kernel
theorem dL_law_272 : decode cL_law 272 = .ok (.aload_n 0, 1) := by decide +kernel
theorem dL_law_273 : decode cL_law 273 = .ok (.iload_n 3, 1) := by decide +kernel
theorem dL_law_274 : decode cL_law 274 = .ok (.iconst 1, 1) := by decide +kernel
theorem dL_law_275 : decode cL_law 275 = .ok (.iadd, 1) := by decide +kernel
theorem dL_law_276 : decode cL_law 276 = .ok (.iaload, 1) := by decide +kernel
theorem dL_law_277 : decode cL_law 277 = .ok (.aload_n 0, 1) := by decide +kernel
theorem dL_law_278 : decode cL_law 278 = .ok (.iload_n 3, 1) := by decide +kernel
theorem dL_law_279 : decode cL_law 279 = .ok (.iconst 2, 1) := by decide +kernel
theorem dL_law_280 : decode cL_law 280 = .ok (.iadd, 1) := by decide +kernel
theorem dL_law_281 : decode cL_law 281 = .ok (.iaload, 1) := by decide +kernel
theorem dL_law_282 : decode cL_law 282 = .ok (.aload_n 0, 1) := by decide +kernel
theorem dL_law_283 : decode cL_law 283 = .ok (.iload_n 3, 1) := by decide +kernel
theorem dL_law_284 : decode cL_law 284 = .ok (.iconst 3, 1) := by decide +kernel
theorem dL_law_285 : decode cL_law 285 = .ok (.iadd, 1) := by decide +kernel
theorem dL_law_286 : decode cL_law 286 = .ok (.iaload, 1) := by decide +kernel
theorem dL_law_287 : decode cL_law 287 = .ok (.invokevirtual 28, 3) := by decide +kernel
theorem dL_law_290 : decode cL_law 290 = .ok (.aload_n 2, 1) := by decide +kernel
theorem dL_law_291 : decode cL_law 291 = .ok (.aload_n 0, 1) := by decide +kernel
theorem dL_law_292 : decode cL_law 292 = .ok (.iload_n 3, 1) := by decide +kernel
theorem dL_law_293 : decode cL_law 293 = .ok (.iconst 1, 1) := by decide +kernel
theorem dL_law_294 : decode cL_law 294 = .ok (.iadd, 1) := by decide +kernel
theorem dL_law_295 : decode cL_law 295 = .ok (.iaload, 1) := by decide +kernel
theorem dL_law_296 : decode cL_law 296 = .ok (.aload_n 0, 1) := by decide +kernel
theorem dL_law_297 : decode cL_law 297 = .ok (.iload_n 3, 1) := by decide +kernel
theorem dL_law_298 : decode cL_law 298 = .ok (.iconst 2, 1) := by decide +kernel
theorem dL_law_299 : decode cL_law 299 = .ok (.iadd, 1) := by decide +kernel
theorem dL_law_300 : decode cL_law 300 = .ok (.iaload, 1) := by decide +kernel
theorem dL_law_301 : decode cL_law 301 = .ok (.aload_n 0, 1) := by decide +kernel
theorem dL_law_302 : decode cL_law 302 = .ok (.iload_n 3, 1) := by decide +kernel
theorem dL_law_303 : decode cL_law 303 = .ok (.iconst 3, 1) := by decide +kernel
theorem dL_law_304 : decode cL_law 304 = .ok (.iadd, 1) := by decide +kernel
theorem dL_law_305 : decode cL_law 305 = .ok (.iaload, 1) := by decide +kernel
theorem dL_law_306 : decode cL_law 306 = .ok (.invokevirtual 32, 3) := by decide +kernel
theorem dL_law_309 : decode cL_law 309 = .ok (.if_icmp .eq 648, 3) := by decide +kernel
theorem dL_law_314 : decode cL_law 314 = .ok (.aload_n 1, 1) := by decide +kernel
theorem dL_law_315 : decode cL_law 315 = .ok (.aload_n 0, 1) := by decide +kernel
theorem dL_law_316 : decode cL_law 316 = .ok (.iload_n 3, 1) := by decide +kernel
theorem dL_law_317 : decode cL_law 317 = .ok (.iconst 1, 1) := by decide +kernel
theorem dL_law_318 : decode cL_law 318 = .ok (.iadd, 1) := by decide +kernel
theorem dL_law_319 : decode cL_law 319 = .ok (.iaload, 1) := by decide +kernel
theorem dL_law_320 : decode cL_law 320 = .ok (.aload_n 0, 1) := by decide +kernel
theorem dL_law_321 : decode cL_law 321 = .ok (.iload_n 3, 1) := by decide +kernel
theorem dL_law_322 : decode cL_law 322 = .ok (.iconst 2, 1) := by decide +kernel
theorem dL_law_323 : decode cL_law 323 = .ok (.iadd, 1) := by decide +kernel
theorem dL_law_324 : decode cL_law 324 = .ok (.iaload, 1) := by decide +kernel
theorem dL_law_325 : decode cL_law 325 = .ok (.invokevirtual 33, 3) := by decide +kernel
theorem dL_law_328 : decode cL_law 328 = .ok (.aload_n 2, 1) := by decide +kernel
theorem dL_law_329 : decode cL_law 329 = .ok (.aload_n 0, 1) := by decide +kernel
theorem dL_law_330 : decode cL_law 330 = .ok (.iload_n 3, 1) := by decide +kernel
theorem dL_law_331 : decode cL_law 331 = .ok (.iconst 1, 1) := by decide +kernel
theorem dL_law_332 : decode cL_law 332 = .ok (.iadd, 1) := by decide +kernel
theorem dL_law_333 : decode cL_law 333 = .ok (.iaload, 1) := by decide +kernel
theorem dL_law_334 : decode cL_law 334 = .ok (.aload_n 0, 1) := by decide +kernel
theorem dL_law_335 : decode cL_law 335 = .ok (.iload_n 3, 1) := by decide +kernel
theorem dL_law_336 : decode cL_law 336 = .ok (.iconst 2, 1) := by decide +kernel
theorem dL_law_337 : decode cL_law 337 = .ok (.iadd, 1) := by decide +kernel
theorem dL_law_338 : decode cL_law 338 = .ok (.iaload, 1) := by decide +kernel
theorem dL_law_339 : decode cL_law 339 = .ok (.invokevirtual 37, 3) := by decide +kernel
theorem dL_law_342 : decode cL_law 342 = .ok (.if_icmp .eq 615, 3) := by decide +kernel
theorem dL_law_347 : decode cL_law 347 = .ok (.aload_n 1, 1) := by decide +kernel
theorem dL_law_348 : decode cL_law 348 = .ok (.aload_n 0, 1) := by decide +kernel
theorem dL_law_349 : decode cL_law 349 = .ok (.iload_n 3, 1) := by decide +kernel
theorem dL_law_350 : decode cL_law 350 = .ok (.iconst 1, 1) := by decide +kernel
theorem dL_law_351 : decode cL_law 351 = .ok (.iadd, 1) := by decide +kernel
theorem dL_law_352 : decode cL_law 352 = .ok (.iaload, 1) := by decide +kernel
theorem dL_law_353 : decode cL_law 353 = .ok (.aload_n 0, 1) := by decide +kernel
theorem dL_law_354 : decode cL_law 354 = .ok (.iload_n 3, 1) := by decide +kernel
theorem dL_law_355 : decode cL_law 355 = .ok (.iconst 2, 1) := by decide +kernel
theorem dL_law_356 : decode cL_law 356 = .ok (.iadd, 1) := by decide +kernel
theorem dL_law_357 : decode cL_law 357 = .ok (.iaload, 1) := by decide +kernel
theorem dL_law_358 : decode cL_law 358 = .ok (.invokevirtual 38, 3) := by decide +kernel
theorem dL_law_361 : decode cL_law 361 = .ok (.aload_n 2, 1) := by decide +kernel
theorem dL_law_362 : decode cL_law 362 = .ok (.aload_n 0, 1) := by decide +kernel
theorem dL_law_363 : decode cL_law 363 = .ok (.iload_n 3, 1) := by decide +kernel
theorem dL_law_364 : decode cL_law 364 = .ok (.iconst 1, 1) := by decide +kernel
theorem dL_law_365 : decode cL_law 365 = .ok (.iadd, 1) := by decide +kernel
theorem dL_law_366 : decode cL_law 366 = .ok (.iaload, 1) := by decide +kernel
theorem dL_law_367 : decode cL_law 367 = .ok (.aload_n 0, 1) := by decide +kernel
theorem dL_law_368 : decode cL_law 368 = .ok (.iload_n 3, 1) := by decide +kernel
theorem dL_law_369 : decode cL_law 369 = .ok (.iconst 2, 1) := by decide +kernel
theorem dL_law_370 : decode cL_law 370 = .ok (.iadd, 1) := by decide +kernel
theorem dL_law_371 : decode cL_law 371 = .ok (.iaload, 1) := by decide +kernel
theorem dL_law_372 : decode cL_law 372 = .ok (.invokevirtual 41, 3) := by decide +kernel
theorem dL_law_375 : decode cL_law 375 = .ok (.if_icmp .eq 582, 3) := by decide +kernel
theorem dL_law_380 : decode cL_law 380 = .ok (.aload_n 1, 1) := by decide +kernel
theorem dL_law_381 : decode cL_law 381 = .ok (.aload_n 0, 1) := by decide +kernel
theorem dL_law_382 : decode cL_law 382 = .ok (.iload_n 3, 1) := by decide +kernel
theorem dL_law_383 : decode cL_law 383 = .ok (.iconst 1, 1) := by decide +kernel
theorem dL_law_384 : decode cL_law 384 = .ok (.iadd, 1) := by decide +kernel
theorem dL_law_385 : decode cL_law 385 = .ok (.iaload, 1) := by decide +kernel
theorem dL_law_386 : decode cL_law 386 = .ok (.aload_n 0, 1) := by decide +kernel
theorem dL_law_387 : decode cL_law 387 = .ok (.iload_n 3, 1) := by decide +kernel
theorem dL_law_388 : decode cL_law 388 = .ok (.iconst 2, 1) := by decide +kernel
theorem dL_law_389 : decode cL_law 389 = .ok (.iadd, 1) := by decide +kernel
theorem dL_law_390 : decode cL_law 390 = .ok (.iaload, 1) := by decide +kernel
theorem dL_law_391 : decode cL_law 391 = .ok (.aload_n 0, 1) := by decide +kernel
theorem dL_law_392 : decode cL_law 392 = .ok (.iload_n 3, 1) := by decide +kernel
theorem dL_law_393 : decode cL_law 393 = .ok (.iconst 3, 1) := by decide +kernel
theorem dL_law_394 : decode cL_law 394 = .ok (.iadd, 1) := by decide +kernel
theorem dL_law_395 : decode cL_law 395 = .ok (.iaload, 1) := by decide +kernel
theorem dL_law_396 : decode cL_law 396 = .ok (.invokevirtual 42, 3) := by decide +kernel
theorem dL_law_399 : decode cL_law 399 = .ok (.aload_n 2, 1) := by decide +kernel
theorem dL_law_400 : decode cL_law 400 = .ok (.aload_n 0, 1) := by decide +kernel
theorem dL_law_401 : decode cL_law 401 = .ok (.iload_n 3, 1) := by decide +kernel
theorem dL_law_402 : decode cL_law 402 = .ok (.iconst 1, 1) := by decide +kernel
theorem dL_law_403 : decode cL_law 403 = .ok (.iadd, 1) := by decide +kernel
theorem dL_law_404 : decode cL_law 404 = .ok (.iaload, 1) := by decide +kernel
theorem dL_law_405 : decode cL_law 405 = .ok (.aload_n 0, 1) := by decide +kernel
theorem dL_law_406 : decode cL_law 406 = .ok (.iload_n 3, 1) := by decide +kernel
theorem dL_law_407 : decode cL_law 407 = .ok (.iconst 2, 1) := by decide +kernel
theorem dL_law_408 : decode cL_law 408 = .ok (.iadd, 1) := by decide +kernel
theorem dL_law_409 : decode cL_law 409 = .ok (.iaload, 1) := by decide +kernel
theorem dL_law_410 : decode cL_law 410 = .ok (.aload_n 0, 1) := by decide +kernel
theorem dL_law_411 : decode cL_law 411 = .ok (.iload_n 3, 1) := by decide +kernel
theorem dL_law_412 : decode cL_law 412 = .ok (.iconst 3, 1) := by decide +kernel
theorem dL_law_413 : decode cL_law 413 = .ok (.iadd, 1) := by decide +kernel
theorem dL_law_414 : decode cL_law 414 = .ok (.iaload, 1) := by decide +kernel
theorem dL_law_415 : decode cL_law 415 = .ok (.invokevirtual 45, 3) := by decide +kernel
theorem dL_law_418 : decode cL_law 418 = .ok (.if_icmp .eq 539, 3) := by decide +kernel
theorem dL_law_423 : decode cL_law 423 = .ok (.aload_n 1, 1) := by decide +kernel
theorem dL_law_424 : decode cL_law 424 = .ok (.aload_n 0, 1) := by decide +kernel
theorem dL_law_425 : decode cL_law 425 = .ok (.iload_n 3, 1) := by decide +kernel
theorem dL_law_426 : decode cL_law 426 = .ok (.iconst 1, 1) := by decide +kernel
theorem dL_law_427 : decode cL_law 427 = .ok (.iadd, 1) := by decide +kernel
theorem dL_law_428 : decode cL_law 428 = .ok (.iaload, 1) := by decide +kernel
theorem dL_law_429 : decode cL_law 429 = .ok (.invokevirtual 46, 3) := by decide +kernel
theorem dL_law_432 : decode cL_law 432 = .ok (.aload_n 2, 1) := by decide +kernel
theorem dL_law_433 : decode cL_law 433 = .ok (.aload_n 0, 1) := by decide +kernel
theorem dL_law_434 : decode cL_law 434 = .ok (.iload_n 3, 1) := by decide +kernel
theorem dL_law_435 : decode cL_law 435 = .ok (.iconst 1, 1) := by decide +kernel
theorem dL_law_436 : decode cL_law 436 = .ok (.iadd, 1) := by decide +kernel
theorem dL_law_437 : decode cL_law 437 = .ok (.iaload, 1) := by decide +kernel
theorem dL_law_438 : decode cL_law 438 = .ok (.invokevirtual 49, 3) := by decide +kernel
theorem dL_law_441 : decode cL_law 441 = .ok (.if_icmp .eq 516, 3) := by decide +kernel
theorem dL_law_446 : decode cL_law 446 = .ok (.aload_n 1, 1) := by decide +kernel
theorem dL_law_447 : decode cL_law 447 = .ok (.aload_n 0, 1) := by decide +kernel
theorem dL_law_448 : decode cL_law 448 = .ok (.iload_n 3, 1) := by decide +kernel
theorem dL_law_449 : decode cL_law 449 = .ok (.iconst 1, 1) := by decide +kernel
theorem dL_law_450 : decode cL_law 450 = .ok (.iadd, 1) := by decide +kernel
theorem dL_law_451 : decode cL_law 451 = .ok (.iaload, 1) := by decide +kernel
theorem dL_law_452 : decode cL_law 452 = .ok (.aload_n 0, 1) := by decide +kernel
theorem dL_law_453 : decode cL_law 453 = .ok (.iload_n 3, 1) := by decide +kernel
theorem dL_law_454 : decode cL_law 454 = .ok (.iconst 2, 1) := by decide +kernel
theorem dL_law_455 : decode cL_law 455 = .ok (.iadd, 1) := by decide +kernel
theorem dL_law_456 : decode cL_law 456 = .ok (.iaload, 1) := by decide +kernel
theorem dL_law_457 : decode cL_law 457 = .ok (.invokevirtual 50, 3) := by decide +kernel
theorem dL_law_460 : decode cL_law 460 = .ok (.aload_n 2, 1) := by decide +kernel
theorem dL_law_461 : decode cL_law 461 = .ok (.aload_n 0, 1) := by decide +kernel
theorem dL_law_462 : decode cL_law 462 = .ok (.iload_n 3, 1) := by decide +kernel
theorem dL_law_463 : decode cL_law 463 = .ok (.iconst 1, 1) := by decide +kernel
theorem dL_law_464 : decode cL_law 464 = .ok (.iadd, 1) := by decide +kernel
theorem dL_law_465 : decode cL_law 465 = .ok (.iaload, 1) := by decide +kernel
theorem dL_law_466 : decode cL_law 466 = .ok (.aload_n 0, 1) := by decide +kernel
theorem dL_law_467 : decode cL_law 467 = .ok (.iload_n 3, 1) := by decide +kernel
theorem dL_law_468 : decode cL_law 468 = .ok (.iconst 2, 1) := by decide +kernel
theorem dL_law_469 : decode cL_law 469 = .ok (.iadd, 1) := by decide +kernel
theorem dL_law_470 : decode cL_law 470 = .ok (.iaload, 1) := by decide +kernel
theorem dL_law_471 : decode cL_law 471 = .ok (.invokevirtual 53, 3) := by decide +kernel
theorem dL_law_474 : decode cL_law 474 = .ok (.if_icmp .eq 483, 3) := by decide +kernel
theorem dL_law_479 : decode cL_law 479 = .ok (.aload_n 1, 1) := by decide +kernel
theorem dL_law_480 : decode cL_law 480 = .ok (.aload_n 0, 1) := by decide +kernel
theorem dL_law_481 : decode cL_law 481 = .ok (.iload_n 3, 1) := by decide +kernel
theorem dL_law_482 : decode cL_law 482 = .ok (.iconst 1, 1) := by decide +kernel
theorem dL_law_483 : decode cL_law 483 = .ok (.iadd, 1) := by decide +kernel
theorem dL_law_484 : decode cL_law 484 = .ok (.iaload, 1) := by decide +kernel
theorem dL_law_485 : decode cL_law 485 = .ok (.aload_n 0, 1) := by decide +kernel
theorem dL_law_486 : decode cL_law 486 = .ok (.iload_n 3, 1) := by decide +kernel
theorem dL_law_487 : decode cL_law 487 = .ok (.iconst 2, 1) := by decide +kernel
theorem dL_law_488 : decode cL_law 488 = .ok (.iadd, 1) := by decide +kernel
theorem dL_law_489 : decode cL_law 489 = .ok (.iaload, 1) := by decide +kernel
theorem dL_law_490 : decode cL_law 490 = .ok (.aload_n 0, 1) := by decide +kernel
theorem dL_law_491 : decode cL_law 491 = .ok (.iload_n 3, 1) := by decide +kernel
theorem dL_law_492 : decode cL_law 492 = .ok (.iconst 3, 1) := by decide +kernel
theorem dL_law_493 : decode cL_law 493 = .ok (.iadd, 1) := by decide +kernel
theorem dL_law_494 : decode cL_law 494 = .ok (.iaload, 1) := by decide +kernel
theorem dL_law_495 : decode cL_law 495 = .ok (.invokevirtual 54, 3) := by decide +kernel
theorem dL_law_498 : decode cL_law 498 = .ok (.aload_n 2, 1) := by decide +kernel
theorem dL_law_499 : decode cL_law 499 = .ok (.aload_n 0, 1) := by decide +kernel
theorem dL_law_500 : decode cL_law 500 = .ok (.iload_n 3, 1) := by decide +kernel
theorem dL_law_501 : decode cL_law 501 = .ok (.iconst 1, 1) := by decide +kernel
theorem dL_law_502 : decode cL_law 502 = .ok (.iadd, 1) := by decide +kernel
theorem dL_law_503 : decode cL_law 503 = .ok (.iaload, 1) := by decide +kernel
theorem dL_law_504 : decode cL_law 504 = .ok (.aload_n 0, 1) := by decide +kernel
theorem dL_law_505 : decode cL_law 505 = .ok (.iload_n 3, 1) := by decide +kernel
theorem dL_law_506 : decode cL_law 506 = .ok (.iconst 2, 1) := by decide +kernel
theorem dL_law_507 : decode cL_law 507 = .ok (.iadd, 1) := by decide +kernel
theorem dL_law_508 : decode cL_law 508 = .ok (.iaload, 1) := by decide +kernel
theorem dL_law_509 : decode cL_law 509 = .ok (.aload_n 0, 1) := by decide +kernel
theorem dL_law_510 : decode cL_law 510 = .ok (.iload_n 3, 1) := by decide +kernel
theorem dL_law_511 : decode cL_law 511 = .ok (.iconst 3, 1) := by decide +kernel
theorem dL_law_512 : decode cL_law 512 = .ok (.iadd, 1) := by decide +kernel
theorem dL_law_513 : decode cL_law 513 = .ok (.iaload, 1) := by decide +kernel
theorem dL_law_514 : decode cL_law 514 = .ok (.invokevirtual 58, 3) := by decide +kernel
theorem dL_law_517 : decode cL_law 517 = .ok (.lcmp, 1) := by decide +kernel
theorem dL_law_518 : decode cL_law 518 = .ok (.ifCond .eq 439, 3) := by decide +kernel
theorem dL_law_523 : decode cL_law 523 = .ok (.aload_n 1, 1) := by decide +kernel
theorem dL_law_524 : decode cL_law 524 = .ok (.aload_n 0, 1) := by decide +kernel
theorem dL_law_525 : decode cL_law 525 = .ok (.iload_n 3, 1) := by decide +kernel
theorem dL_law_526 : decode cL_law 526 = .ok (.iconst 1, 1) := by decide +kernel
theorem dL_law_527 : decode cL_law 527 = .ok (.iadd, 1) := by decide +kernel
theorem dL_law_528 : decode cL_law 528 = .ok (.iaload, 1) := by decide +kernel
theorem dL_law_529 : decode cL_law 529 = .ok (.aload_n 0, 1) := by decide +kernel
theorem dL_law_530 : decode cL_law 530 = .ok (.iload_n 3, 1) := by decide +kernel
theorem dL_law_531 : decode cL_law 531 = .ok (.iconst 2, 1) := by decide +kernel
theorem dL_law_532 : decode cL_law 532 = .ok (.iadd, 1) := by decide +kernel
theorem dL_law_533 : decode cL_law 533 = .ok (.iaload, 1) := by decide +kernel
theorem dL_law_534 : decode cL_law 534 = .ok (.invokevirtual 59, 3) := by decide +kernel
theorem dL_law_537 : decode cL_law 537 = .ok (.aload_n 2, 1) := by decide +kernel
theorem dL_law_538 : decode cL_law 538 = .ok (.aload_n 0, 1) := by decide +kernel
theorem dL_law_539 : decode cL_law 539 = .ok (.iload_n 3, 1) := by decide +kernel
theorem dL_law_540 : decode cL_law 540 = .ok (.iconst 1, 1) := by decide +kernel
theorem dL_law_541 : decode cL_law 541 = .ok (.iadd, 1) := by decide +kernel
theorem dL_law_542 : decode cL_law 542 = .ok (.iaload, 1) := by decide +kernel
theorem dL_law_543 : decode cL_law 543 = .ok (.aload_n 0, 1) := by decide +kernel
theorem dL_law_544 : decode cL_law 544 = .ok (.iload_n 3, 1) := by decide +kernel
theorem dL_law_545 : decode cL_law 545 = .ok (.iconst 2, 1) := by decide +kernel
theorem dL_law_546 : decode cL_law 546 = .ok (.iadd, 1) := by decide +kernel
theorem dL_law_547 : decode cL_law 547 = .ok (.iaload, 1) := by decide +kernel
theorem dL_law_548 : decode cL_law 548 = .ok (.invokevirtual 62, 3) := by decide +kernel
theorem dL_law_551 : decode cL_law 551 = .ok (.if_icmp .eq 406, 3) := by decide +kernel
theorem dL_law_556 : decode cL_law 556 = .ok (.aload_n 1, 1) := by decide +kernel
theorem dL_law_557 : decode cL_law 557 = .ok (.aload_n 0, 1) := by decide +kernel
theorem dL_law_558 : decode cL_law 558 = .ok (.iload_n 3, 1) := by decide +kernel
theorem dL_law_559 : decode cL_law 559 = .ok (.iconst 1, 1) := by decide +kernel
theorem dL_law_560 : decode cL_law 560 = .ok (.iadd, 1) := by decide +kernel
theorem dL_law_561 : decode cL_law 561 = .ok (.iaload, 1) := by decide +kernel
theorem dL_law_562 : decode cL_law 562 = .ok (.aload_n 0, 1) := by decide +kernel
theorem dL_law_563 : decode cL_law 563 = .ok (.iload_n 3, 1) := by decide +kernel
theorem dL_law_564 : decode cL_law 564 = .ok (.iconst 2, 1) := by decide +kernel
theorem dL_law_565 : decode cL_law 565 = .ok (.iadd, 1) := by decide +kernel
theorem dL_law_566 : decode cL_law 566 = .ok (.iaload, 1) := by decide +kernel
theorem dL_law_567 : decode cL_law 567 = .ok (.aload_n 0, 1) := by decide +kernel
theorem dL_law_568 : decode cL_law 568 = .ok (.iload_n 3, 1) := by decide +kernel
theorem dL_law_569 : decode cL_law 569 = .ok (.iconst 3, 1) := by decide +kernel
theorem dL_law_570 : decode cL_law 570 = .ok (.iadd, 1) := by decide +kernel
theorem dL_law_571 : decode cL_law 571 = .ok (.iaload, 1) := by decide +kernel
theorem dL_law_572 : decode cL_law 572 = .ok (.aload_n 0, 1) := by decide +kernel
theorem dL_law_573 : decode cL_law 573 = .ok (.iload_n 3, 1) := by decide +kernel
theorem dL_law_574 : decode cL_law 574 = .ok (.iconst 4, 1) := by decide +kernel
theorem dL_law_575 : decode cL_law 575 = .ok (.iadd, 1) := by decide +kernel
theorem dL_law_576 : decode cL_law 576 = .ok (.iaload, 1) := by decide +kernel
theorem dL_law_577 : decode cL_law 577 = .ok (.invokevirtual 63, 3) := by decide +kernel
theorem dL_law_580 : decode cL_law 580 = .ok (.aload_n 2, 1) := by decide +kernel
theorem dL_law_581 : decode cL_law 581 = .ok (.aload_n 0, 1) := by decide +kernel
theorem dL_law_582 : decode cL_law 582 = .ok (.iload_n 3, 1) := by decide +kernel
theorem dL_law_583 : decode cL_law 583 = .ok (.iconst 1, 1) := by decide +kernel
theorem dL_law_584 : decode cL_law 584 = .ok (.iadd, 1) := by decide +kernel
theorem dL_law_585 : decode cL_law 585 = .ok (.iaload, 1) := by decide +kernel
theorem dL_law_586 : decode cL_law 586 = .ok (.aload_n 0, 1) := by decide +kernel
theorem dL_law_587 : decode cL_law 587 = .ok (.iload_n 3, 1) := by decide +kernel
theorem dL_law_588 : decode cL_law 588 = .ok (.iconst 2, 1) := by decide +kernel
theorem dL_law_589 : decode cL_law 589 = .ok (.iadd, 1) := by decide +kernel
theorem dL_law_590 : decode cL_law 590 = .ok (.iaload, 1) := by decide +kernel
theorem dL_law_591 : decode cL_law 591 = .ok (.aload_n 0, 1) := by decide +kernel
theorem dL_law_592 : decode cL_law 592 = .ok (.iload_n 3, 1) := by decide +kernel
theorem dL_law_593 : decode cL_law 593 = .ok (.iconst 3, 1) := by decide +kernel
theorem dL_law_594 : decode cL_law 594 = .ok (.iadd, 1) := by decide +kernel
theorem dL_law_595 : decode cL_law 595 = .ok (.iaload, 1) := by decide +kernel
theorem dL_law_596 : decode cL_law 596 = .ok (.aload_n 0, 1) := by decide +kernel
theorem dL_law_597 : decode cL_law 597 = .ok (.iload_n 3, 1) := by decide +kernel
theorem dL_law_598 : decode cL_law 598 = .ok (.iconst 4, 1) := by decide +kernel
theorem dL_law_599 : decode cL_law 599 = .ok (.iadd, 1) := by decide +kernel
theorem dL_law_600 : decode cL_law 600 = .ok (.iaload, 1) := by decide +kernel
theorem dL_law_601 : decode cL_law 601 = .ok (.invokevirtual 67, 3) := by decide +kernel
theorem dL_law_604 : decode cL_law 604 = .ok (.lcmp, 1) := by decide +kernel
theorem dL_law_605 : decode cL_law 605 = .ok (.ifCond .eq 352, 3) := by decide +kernel
theorem dL_law_610 : decode cL_law 610 = .ok (.aload_n 1, 1) := by decide +kernel
theorem dL_law_611 : decode cL_law 611 = .ok (.aload_n 0, 1) := by decide +kernel
theorem dL_law_612 : decode cL_law 612 = .ok (.iload_n 3, 1) := by decide +kernel
theorem dL_law_613 : decode cL_law 613 = .ok (.iconst 1, 1) := by decide +kernel
theorem dL_law_614 : decode cL_law 614 = .ok (.iadd, 1) := by decide +kernel
theorem dL_law_615 : decode cL_law 615 = .ok (.iaload, 1) := by decide +kernel
theorem dL_law_616 : decode cL_law 616 = .ok (.aload_n 0, 1) := by decide +kernel
theorem dL_law_617 : decode cL_law 617 = .ok (.iload_n 3, 1) := by decide +kernel
theorem dL_law_618 : decode cL_law 618 = .ok (.iconst 2, 1) := by decide +kernel
theorem dL_law_619 : decode cL_law 619 = .ok (.iadd, 1) := by decide +kernel
theorem dL_law_620 : decode cL_law 620 = .ok (.iaload, 1) := by decide +kernel
theorem dL_law_621 : decode cL_law 621 = .ok (.aload_n 0, 1) := by decide +kernel
theorem dL_law_622 : decode cL_law 622 = .ok (.iload_n 3, 1) := by decide +kernel
theorem dL_law_623 : decode cL_law 623 = .ok (.iconst 3, 1) := by decide +kernel
theorem dL_law_624 : decode cL_law 624 = .ok (.iadd, 1) := by decide +kernel
theorem dL_law_625 : decode cL_law 625 = .ok (.iaload, 1) := by decide +kernel
theorem dL_law_626 : decode cL_law 626 = .ok (.invokevirtual 68, 3) := by decide +kernel
theorem dL_law_629 : decode cL_law 629 = .ok (.aload_n 2, 1) := by decide +kernel
theorem dL_law_630 : decode cL_law 630 = .ok (.aload_n 0, 1) := by decide +kernel
theorem dL_law_631 : decode cL_law 631 = .ok (.iload_n 3, 1) := by decide +kernel
theorem dL_law_632 : decode cL_law 632 = .ok (.iconst 1, 1) := by decide +kernel
theorem dL_law_633 : decode cL_law 633 = .ok (.iadd, 1) := by decide +kernel
theorem dL_law_634 : decode cL_law 634 = .ok (.iaload, 1) := by decide +kernel
theorem dL_law_635 : decode cL_law 635 = .ok (.aload_n 0, 1) := by decide +kernel
theorem dL_law_636 : decode cL_law 636 = .ok (.iload_n 3, 1) := by decide +kernel
theorem dL_law_637 : decode cL_law 637 = .ok (.iconst 2, 1) := by decide +kernel
theorem dL_law_638 : decode cL_law 638 = .ok (.iadd, 1) := by decide +kernel
theorem dL_law_639 : decode cL_law 639 = .ok (.iaload, 1) := by decide +kernel
theorem dL_law_640 : decode cL_law 640 = .ok (.aload_n 0, 1) := by decide +kernel
theorem dL_law_641 : decode cL_law 641 = .ok (.iload_n 3, 1) := by decide +kernel
theorem dL_law_642 : decode cL_law 642 = .ok (.iconst 3, 1) := by decide +kernel
theorem dL_law_643 : decode cL_law 643 = .ok (.iadd, 1) := by decide +kernel
theorem dL_law_644 : decode cL_law 644 = .ok (.iaload, 1) := by decide +kernel
theorem dL_law_645 : decode cL_law 645 = .ok (.invokevirtual 71, 3) := by decide +kernel
theorem dL_law_648 : decode cL_law 648 = .ok (.if_icmp .eq 309, 3) := by decide +kernel
theorem dL_law_653 : decode cL_law 653 = .ok (.aload_n 1, 1) := by decide +kernel
theorem dL_law_654 : decode cL_law 654 = .ok (.aload_n 0, 1) := by decide +kernel
theorem dL_law_655 : decode cL_law 655 = .ok (.iload_n 3, 1) := by decide +kernel
theorem dL_law_656 : decode cL_law 656 = .ok (.iconst 1, 1) := by decide +kernel
theorem dL_law_657 : decode cL_law 657 = .ok (.iadd, 1) := by decide +kernel
theorem dL_law_658 : decode cL_law 658 = .ok (.iaload, 1) := by decide +kernel
theorem dL_law_659 : decode cL_law 659 = .ok (.aload_n 0, 1) := by decide +kernel
theorem dL_law_660 : decode cL_law 660 = .ok (.iload_n 3, 1) := by decide +kernel
theorem dL_law_661 : decode cL_law 661 = .ok (.iconst 2, 1) := by decide +kernel
theorem dL_law_662 : decode cL_law 662 = .ok (.iadd, 1) := by decide +kernel
theorem dL_law_663 : decode cL_law 663 = .ok (.iaload, 1) := by decide +kernel
theorem dL_law_664 : decode cL_law 664 = .ok (.aload_n 0, 1) := by decide +kernel
theorem dL_law_665 : decode cL_law 665 = .ok (.iload_n 3, 1) := by decide +kernel
theorem dL_law_666 : decode cL_law 666 = .ok (.iconst 3, 1) := by decide +kernel
theorem dL_law_667 : decode cL_law 667 = .ok (.iadd, 1) := by decide +kernel
theorem dL_law_668 : decode cL_law 668 = .ok (.iaload, 1) := by decide +kernel
theorem dL_law_669 : decode cL_law 669 = .ok (.aload_n 0, 1) := by decide +kernel
theorem dL_law_670 : decode cL_law 670 = .ok (.iload_n 3, 1) := by decide +kernel
theorem dL_law_671 : decode cL_law 671 = .ok (.iconst 4, 1) := by decide +kernel
theorem dL_law_672 : decode cL_law 672 = .ok (.iadd, 1) := by decide +kernel
theorem dL_law_673 : decode cL_law 673 = .ok (.iaload, 1) := by decide +kernel
theorem dL_law_674 : decode cL_law 674 = .ok (.aload_n 0, 1) := by decide +kernel
theorem dL_law_675 : decode cL_law 675 = .ok (.iload_n 3, 1) := by decide +kernel
theorem dL_law_676 : decode cL_law 676 = .ok (.iconst 5, 1) := by decide +kernel
theorem dL_law_677 : decode cL_law 677 = .ok (.iadd, 1) := by decide +kernel
theorem dL_law_678 : decode cL_law 678 = .ok (.iaload, 1) := by decide +kernel
theorem dL_law_679 : decode cL_law 679 = .ok (.invokevirtual 72, 3) := by decide +kernel
theorem dL_law_682 : decode cL_law 682 = .ok (.aload_n 2, 1) := by decide +kernel
theorem dL_law_683 : decode cL_law 683 = .ok (.aload_n 0, 1) := by decide +kernel
theorem dL_law_684 : decode cL_law 684 = .ok (.iload_n 3, 1) := by decide +kernel
theorem dL_law_685 : decode cL_law 685 = .ok (.iconst 1, 1) := by decide +kernel
theorem dL_law_686 : decode cL_law 686 = .ok (.iadd, 1) := by decide +kernel
theorem dL_law_687 : decode cL_law 687 = .ok (.iaload, 1) := by decide +kernel
theorem dL_law_688 : decode cL_law 688 = .ok (.aload_n 0, 1) := by decide +kernel
theorem dL_law_689 : decode cL_law 689 = .ok (.iload_n 3, 1) := by decide +kernel
theorem dL_law_690 : decode cL_law 690 = .ok (.iconst 2, 1) := by decide +kernel
theorem dL_law_691 : decode cL_law 691 = .ok (.iadd, 1) := by decide +kernel
theorem dL_law_692 : decode cL_law 692 = .ok (.iaload, 1) := by decide +kernel
theorem dL_law_693 : decode cL_law 693 = .ok (.aload_n 0, 1) := by decide +kernel
theorem dL_law_694 : decode cL_law 694 = .ok (.iload_n 3, 1) := by decide +kernel
theorem dL_law_695 : decode cL_law 695 = .ok (.iconst 3, 1) := by decide +kernel
theorem dL_law_696 : decode cL_law 696 = .ok (.iadd, 1) := by decide +kernel
theorem dL_law_697 : decode cL_law 697 = .ok (.iaload, 1) := by decide +kernel
theorem dL_law_698 : decode cL_law 698 = .ok (.aload_n 0, 1) := by decide +kernel
theorem dL_law_699 : decode cL_law 699 = .ok (.iload_n 3, 1) := by decide +kernel
theorem dL_law_700 : decode cL_law 700 = .ok (.iconst 4, 1) := by decide +kernel
theorem dL_law_701 : decode cL_law 701 = .ok (.iadd, 1) := by decide +kernel
theorem dL_law_702 : decode cL_law 702 = .ok (.iaload, 1) := by decide +kernel
theorem dL_law_703 : decode cL_law 703 = .ok (.aload_n 0, 1) := by decide +kernel
theorem dL_law_704 : decode cL_law 704 = .ok (.iload_n 3, 1) := by decide +kernel
theorem dL_law_705 : decode cL_law 705 = .ok (.iconst 5, 1) := by decide +kernel
theorem dL_law_706 : decode cL_law 706 = .ok (.iadd, 1) := by decide +kernel
theorem dL_law_707 : decode cL_law 707 = .ok (.iaload, 1) := by decide +kernel
theorem dL_law_708 : decode cL_law 708 = .ok (.invokevirtual 75, 3) := by decide +kernel
theorem dL_law_711 : decode cL_law 711 = .ok (.if_icmp .eq 246, 3) := by decide +kernel
theorem dL_law_716 : decode cL_law 716 = .ok (.aload_n 1, 1) := by decide +kernel
theorem dL_law_717 : decode cL_law 717 = .ok (.aload_n 0, 1) := by decide +kernel
theorem dL_law_718 : decode cL_law 718 = .ok (.iload_n 3, 1) := by decide +kernel
theorem dL_law_719 : decode cL_law 719 = .ok (.iconst 1, 1) := by decide +kernel
theorem dL_law_720 : decode cL_law 720 = .ok (.iadd, 1) := by decide +kernel
theorem dL_law_721 : decode cL_law 721 = .ok (.iaload, 1) := by decide +kernel
theorem dL_law_722 : decode cL_law 722 = .ok (.aload_n 0, 1) := by decide +kernel
theorem dL_law_723 : decode cL_law 723 = .ok (.iload_n 3, 1) := by decide +kernel
theorem dL_law_724 : decode cL_law 724 = .ok (.iconst 2, 1) := by decide +kernel
theorem dL_law_725 : decode cL_law 725 = .ok (.iadd, 1) := by decide +kernel
theorem dL_law_726 : decode cL_law 726 = .ok (.iaload, 1) := by decide +kernel
theorem dL_law_727 : decode cL_law 727 = .ok (.aload_n 0, 1) := by decide +kernel
theorem dL_law_728 : decode cL_law 728 = .ok (.iload_n 3, 1) := by decide +kernel
theorem dL_law_729 : decode cL_law 729 = .ok (.iconst 3, 1) := by decide +kernel
theorem dL_law_730 : decode cL_law 730 = .ok (.iadd, 1) := by decide +kernel
theorem dL_law_731 : decode cL_law 731 = .ok (.iaload, 1) := by decide +kernel
theorem dL_law_732 : decode cL_law 732 = .ok (.aload_n 0, 1) := by decide +kernel
theorem dL_law_733 : decode cL_law 733 = .ok (.iload_n 3, 1) := by decide +kernel
theorem dL_law_734 : decode cL_law 734 = .ok (.iconst 4, 1) := by decide +kernel
theorem dL_law_735 : decode cL_law 735 = .ok (.iadd, 1) := by decide +kernel
theorem dL_law_736 : decode cL_law 736 = .ok (.iaload, 1) := by decide +kernel
theorem dL_law_737 : decode cL_law 737 = .ok (.invokevirtual 76, 3) := by decide +kernel
theorem dL_law_740 : decode cL_law 740 = .ok (.aload_n 2, 1) := by decide +kernel
theorem dL_law_741 : decode cL_law 741 = .ok (.aload_n 0, 1) := by decide +kernel
theorem dL_law_742 : decode cL_law 742 = .ok (.iload_n 3, 1) := by decide +kernel
theorem dL_law_743 : decode cL_law 743 = .ok (.iconst 1, 1) := by decide +kernel
theorem dL_law_744 : decode cL_law 744 = .ok (.iadd, 1) := by decide +kernel
theorem dL_law_745 : decode cL_law 745 = .ok (.iaload, 1) := by decide +kernel
theorem dL_law_746 : decode cL_law 746 = .ok (.aload_n 0, 1) := by decide +kernel
theorem dL_law_747 : decode cL_law 747 = .ok (.iload_n 3, 1) := by decide +kernel
theorem dL_law_748 : decode cL_law 748 = .ok (.iconst 2, 1) := by decide +kernel
theorem dL_law_749 : decode cL_law 749 = .ok (.iadd, 1) := by decide +kernel
theorem dL_law_750 : decode cL_law 750 = .ok (.iaload, 1) := by decide +kernel
theorem dL_law_751 : decode cL_law 751 = .ok (.aload_n 0, 1) := by decide +kernel
theorem dL_law_752 : decode cL_law 752 = .ok (.iload_n 3, 1) := by decide +kernel
theorem dL_law_753 : decode cL_law 753 = .ok (.iconst 3, 1) := by decide +kernel
theorem dL_law_754 : decode cL_law 754 = .ok (.iadd, 1) := by decide +kernel
theorem dL_law_755 : decode cL_law 755 = .ok (.iaload, 1) := by decide +kernel
theorem dL_law_756 : decode cL_law 756 = .ok (.aload_n 0, 1) := by decide +kernel
theorem dL_law_757 : decode cL_law 757 = .ok (.iload_n 3, 1) := by decide +kernel
theorem dL_law_758 : decode cL_law 758 = .ok (.iconst 4, 1) := by decide +kernel
theorem dL_law_759 : decode cL_law 759 = .ok (.iadd, 1) := by decide +kernel
theorem dL_law_760 : decode cL_law 760 = .ok (.iaload, 1) := by decide +kernel
theorem dL_law_761 : decode cL_law 761 = .ok (.invokevirtual 79, 3) := by decide +kernel
theorem dL_law_764 : decode cL_law 764 = .ok (.if_icmp .eq 193, 3) := by decide +kernel
theorem dL_law_769 : decode cL_law 769 = .ok (.aload_n 1, 1) := by decide +kernel
theorem dL_law_770 : decode cL_law 770 = .ok (.aload_n 0, 1) := by decide +kernel
theorem dL_law_771 : decode cL_law 771 = .ok (.iload_n 3, 1) := by decide +kernel
theorem dL_law_772 : decode cL_law 772 = .ok (.iconst 1, 1) := by decide +kernel
theorem dL_law_773 : decode cL_law 773 = .ok (.iadd, 1) := by decide +kernel
theorem dL_law_774 : decode cL_law 774 = .ok (.iaload, 1) := by decide +kernel
theorem dL_law_775 : decode cL_law 775 = .ok (.aload_n 0, 1) := by decide +kernel
theorem dL_law_776 : decode cL_law 776 = .ok (.iload_n 3, 1) := by decide +kernel
theorem dL_law_777 : decode cL_law 777 = .ok (.iconst 2, 1) := by decide +kernel
theorem dL_law_778 : decode cL_law 778 = .ok (.iadd, 1) := by decide +kernel
theorem dL_law_779 : decode cL_law 779 = .ok (.iaload, 1) := by decide +kernel
theorem dL_law_780 : decode cL_law 780 = .ok (.invokevirtual 80, 3) := by decide +kernel
theorem dL_law_783 : decode cL_law 783 = .ok (.aload_n 2, 1) := by decide +kernel
theorem dL_law_784 : decode cL_law 784 = .ok (.aload_n 0, 1) := by decide +kernel
theorem dL_law_785 : decode cL_law 785 = .ok (.iload_n 3, 1) := by decide +kernel
theorem dL_law_786 : decode cL_law 786 = .ok (.iconst 1, 1) := by decide +kernel
theorem dL_law_787 : decode cL_law 787 = .ok (.iadd, 1) := by decide +kernel
theorem dL_law_788 : decode cL_law 788 = .ok (.iaload, 1) := by decide +kernel
theorem dL_law_789 : decode cL_law 789 = .ok (.aload_n 0, 1) := by decide +kernel
theorem dL_law_790 : decode cL_law 790 = .ok (.iload_n 3, 1) := by decide +kernel
theorem dL_law_791 : decode cL_law 791 = .ok (.iconst 2, 1) := by decide +kernel
theorem dL_law_792 : decode cL_law 792 = .ok (.iadd, 1) := by decide +kernel
theorem dL_law_793 : decode cL_law 793 = .ok (.iaload, 1) := by decide +kernel
theorem dL_law_794 : decode cL_law 794 = .ok (.invokevirtual 83, 3) := by decide +kernel
theorem dL_law_797 : decode cL_law 797 = .ok (.if_icmp .eq 160, 3) := by decide +kernel
theorem dL_law_802 : decode cL_law 802 = .ok (.aload_n 1, 1) := by decide +kernel
theorem dL_law_803 : decode cL_law 803 = .ok (.aload_n 0, 1) := by decide +kernel
theorem dL_law_804 : decode cL_law 804 = .ok (.iload_n 3, 1) := by decide +kernel
theorem dL_law_805 : decode cL_law 805 = .ok (.iconst 1, 1) := by decide +kernel
theorem dL_law_806 : decode cL_law 806 = .ok (.iadd, 1) := by decide +kernel
theorem dL_law_807 : decode cL_law 807 = .ok (.iaload, 1) := by decide +kernel
theorem dL_law_808 : decode cL_law 808 = .ok (.aload_n 0, 1) := by decide +kernel
theorem dL_law_809 : decode cL_law 809 = .ok (.iload_n 3, 1) := by decide +kernel
theorem dL_law_810 : decode cL_law 810 = .ok (.iconst 2, 1) := by decide +kernel
theorem dL_law_811 : decode cL_law 811 = .ok (.iadd, 1) := by decide +kernel
theorem dL_law_812 : decode cL_law 812 = .ok (.iaload, 1) := by decide +kernel
theorem dL_law_813 : decode cL_law 813 = .ok (.invokevirtual 84, 3) := by decide +kernel
theorem dL_law_816 : decode cL_law 816 = .ok (.aload_n 2, 1) := by decide +kernel
theorem dL_law_817 : decode cL_law 817 = .ok (.aload_n 0, 1) := by decide +kernel
theorem dL_law_818 : decode cL_law 818 = .ok (.iload_n 3, 1) := by decide +kernel
theorem dL_law_819 : decode cL_law 819 = .ok (.iconst 1, 1) := by decide +kernel
theorem dL_law_820 : decode cL_law 820 = .ok (.iadd, 1) := by decide +kernel
theorem dL_law_821 : decode cL_law 821 = .ok (.iaload, 1) := by decide +kernel
theorem dL_law_822 : decode cL_law 822 = .ok (.aload_n 0, 1) := by decide +kernel
theorem dL_law_823 : decode cL_law 823 = .ok (.iload_n 3, 1) := by decide +kernel
theorem dL_law_824 : decode cL_law 824 = .ok (.iconst 2, 1) := by decide +kernel
theorem dL_law_825 : decode cL_law 825 = .ok (.iadd, 1) := by decide +kernel
theorem dL_law_826 : decode cL_law 826 = .ok (.iaload, 1) := by decide +kernel
theorem dL_law_827 : decode cL_law 827 = .ok (.invokevirtual 87, 3) := by decide +kernel
theorem dL_law_830 : decode cL_law 830 = .ok (.if_icmp .eq 127, 3) := by decide +kernel
theorem dL_law_835 : decode cL_law 835 = .ok (.aload_n 1, 1) := by decide +kernel
theorem dL_law_836 : decode cL_law 836 = .ok (.aload_n 0, 1) := by decide +kernel
theorem dL_law_837 : decode cL_law 837 = .ok (.iload_n 3, 1) := by decide +kernel
theorem dL_law_838 : decode cL_law 838 = .ok (.iconst 1, 1) := by decide +kernel
theorem dL_law_839 : decode cL_law 839 = .ok (.iadd, 1) := by decide +kernel
theorem dL_law_840 : decode cL_law 840 = .ok (.iaload, 1) := by decide +kernel
theorem dL_law_841 : decode cL_law 841 = .ok (.aload_n 0, 1) := by decide +kernel
theorem dL_law_842 : decode cL_law 842 = .ok (.iload_n 3, 1) := by decide +kernel
theorem dL_law_843 : decode cL_law 843 = .ok (.iconst 2, 1) := by decide +kernel
theorem dL_law_844 : decode cL_law 844 = .ok (.iadd, 1) := by decide +kernel
theorem dL_law_845 : decode cL_law 845 = .ok (.iaload, 1) := by decide +kernel
theorem dL_law_846 : decode cL_law 846 = .ok (.aload_n 0, 1) := by decide +kernel
theorem dL_law_847 : decode cL_law 847 = .ok (.iload_n 3, 1) := by decide +kernel
theorem dL_law_848 : decode cL_law 848 = .ok (.iconst 3, 1) := by decide +kernel
theorem dL_law_849 : decode cL_law 849 = .ok (.iadd, 1) := by decide +kernel
theorem dL_law_850 : decode cL_law 850 = .ok (.iaload, 1) := by decide +kernel
theorem dL_law_851 : decode cL_law 851 = .ok (.invokevirtual 88, 3) := by decide +kernel
theorem dL_law_854 : decode cL_law 854 = .ok (.aload_n 2, 1) := by decide +kernel
theorem dL_law_855 : decode cL_law 855 = .ok (.aload_n 0, 1) := by decide +kernel
theorem dL_law_856 : decode cL_law 856 = .ok (.iload_n 3, 1) := by decide +kernel
theorem dL_law_857 : decode cL_law 857 = .ok (.iconst 1, 1) := by decide +kernel
theorem dL_law_858 : decode cL_law 858 = .ok (.iadd, 1) := by decide +kernel
theorem dL_law_859 : decode cL_law 859 = .ok (.iaload, 1) := by decide +kernel
theorem dL_law_860 : decode cL_law 860 = .ok (.aload_n 0, 1) := by decide +kernel
theorem dL_law_861 : decode cL_law 861 = .ok (.iload_n 3, 1) := by decide +kernel
theorem dL_law_862 : decode cL_law 862 = .ok (.iconst 2, 1) := by decide +kernel
theorem dL_law_863 : decode cL_law 863 = .ok (.iadd, 1) := by decide +kernel
theorem dL_law_864 : decode cL_law 864 = .ok (.iaload, 1) := by decide +kernel
theorem dL_law_865 : decode cL_law 865 = .ok (.aload_n 0, 1) := by decide +kernel
theorem dL_law_866 : decode cL_law 866 = .ok (.iload_n 3, 1) := by decide +kernel
theorem dL_law_867 : decode cL_law 867 = .ok (.iconst 3, 1) := by decide +kernel
theorem dL_law_868 : decode cL_law 868 = .ok (.iadd, 1) := by decide +kernel
theorem dL_law_869 : decode cL_law 869 = .ok (.iaload, 1) := by decide +kernel
theorem dL_law_870 : decode cL_law 870 = .ok (.invokevirtual 91, 3) := by decide +kernel
theorem dL_law_873 : decode cL_law 873 = .ok (.if_icmp .eq 84, 3) := by decide +kernel
theorem dL_law_878 : decode cL_law 878 = .ok (.aload_n 1, 1) := by decide +kernel
theorem dL_law_879 : decode cL_law 879 = .ok (.aload_n 0, 1) := by decide +kernel
theorem dL_law_880 : decode cL_law 880 = .ok (.iload_n 3, 1) := by decide +kernel
theorem dL_law_881 : decode cL_law 881 = .ok (.iconst 1, 1) := by decide +kernel
theorem dL_law_882 : decode cL_law 882 = .ok (.iadd, 1) := by decide +kernel
theorem dL_law_883 : decode cL_law 883 = .ok (.iaload, 1) := by decide +kernel
theorem dL_law_884 : decode cL_law 884 = .ok (.aload_n 0, 1) := by decide +kernel
theorem dL_law_885 : decode cL_law 885 = .ok (.iload_n 3, 1) := by decide +kernel
theorem dL_law_886 : decode cL_law 886 = .ok (.iconst 2, 1) := by decide +kernel
theorem dL_law_887 : decode cL_law 887 = .ok (.iadd, 1) := by decide +kernel
theorem dL_law_888 : decode cL_law 888 = .ok (.iaload, 1) := by decide +kernel
theorem dL_law_889 : decode cL_law 889 = .ok (.invokevirtual 92, 3) := by decide +kernel
theorem dL_law_892 : decode cL_law 892 = .ok (.aload_n 2, 1) := by decide +kernel
theorem dL_law_893 : decode cL_law 893 = .ok (.aload_n 0, 1) := by decide +kernel
theorem dL_law_894 : decode cL_law 894 = .ok (.iload_n 3, 1) := by decide +kernel
theorem dL_law_895 : decode cL_law 895 = .ok (.iconst 1, 1) := by decide +kernel
theorem dL_law_896 : decode cL_law 896 = .ok (.iadd, 1) := by decide +kernel
theorem dL_law_897 : decode cL_law 897 = .ok (.iaload, 1) := by decide +kernel
theorem dL_law_898 : decode cL_law 898 = .ok (.aload_n 0, 1) := by decide +kernel
theorem dL_law_899 : decode cL_law 899 = .ok (.iload_n 3, 1) := by decide +kernel
theorem dL_law_900 : decode cL_law 900 = .ok (.iconst 2, 1) := by decide +kernel
theorem dL_law_901 : decode cL_law 901 = .ok (.iadd, 1) := by decide +kernel
theorem dL_law_902 : decode cL_law 902 = .ok (.iaload, 1) := by decide +kernel
theorem dL_law_903 : decode cL_law 903 = .ok (.invokevirtual 95, 3) := by decide +kernel
theorem dL_law_906 : decode cL_law 906 = .ok (.if_icmp .eq 51, 3) := by decide +kernel
theorem dL_law_911 : decode cL_law 911 = .ok (.aload_n 1, 1) := by decide +kernel
theorem dL_law_912 : decode cL_law 912 = .ok (.aload_n 0, 1) := by decide +kernel
theorem dL_law_913 : decode cL_law 913 = .ok (.iload_n 3, 1) := by decide +kernel
theorem dL_law_914 : decode cL_law 914 = .ok (.iconst 1, 1) := by decide +kernel
theorem dL_law_915 : decode cL_law 915 = .ok (.iadd, 1) := by decide +kernel
theorem dL_law_916 : decode cL_law 916 = .ok (.iaload, 1) := by decide +kernel
theorem dL_law_917 : decode cL_law 917 = .ok (.invokevirtual 96, 3) := by decide +kernel
theorem dL_law_920 : decode cL_law 920 = .ok (.aload_n 2, 1) := by decide +kernel
theorem dL_law_921 : decode cL_law 921 = .ok (.aload_n 0, 1) := by decide +kernel
theorem dL_law_922 : decode cL_law 922 = .ok (.iload_n 3, 1) := by decide +kernel
theorem dL_law_923 : decode cL_law 923 = .ok (.iconst 1, 1) := by decide +kernel
theorem dL_law_924 : decode cL_law 924 = .ok (.iadd, 1) := by decide +kernel
theorem dL_law_925 : decode cL_law 925 = .ok (.iaload, 1) := by decide +kernel
theorem dL_law_926 : decode cL_law 926 = .ok (.invokevirtual 99, 3) := by decide +kernel
theorem dL_law_929 : decode cL_law 929 = .ok (.if_icmp .eq 28, 3) := by decide +kernel
theorem dL_law_934 : decode cL_law 934 = .ok (.aload_n 1, 1) := by decide +kernel
theorem dL_law_935 : decode cL_law 935 = .ok (.aload_n 0, 1) := by decide +kernel
theorem dL_law_936 : decode cL_law 936 = .ok (.iload_n 3, 1) := by decide +kernel
theorem dL_law_937 : decode cL_law 937 = .ok (.iconst 1, 1) := by decide +kernel
theorem dL_law_938 : decode cL_law 938 = .ok (.iadd, 1) := by decide +kernel
theorem dL_law_939 : decode cL_law 939 = .ok (.iaload, 1) := by decide +kernel
theorem dL_law_940 : decode cL_law 940 = .ok (.invokevirtual 100, 3) := by decide +kernel
theorem dL_law_943 : decode cL_law 943 = .ok (.aload_n 2, 1) := by decide +kernel
theorem dL_law_944 : decode cL_law 944 = .ok (.aload_n 0, 1) := by decide +kernel
theorem dL_law_945 : decode cL_law 945 = .ok (.iload_n 3, 1) := by decide +kernel
theorem dL_law_946 : decode cL_law 946 = .ok (.iconst 1, 1) := by decide +kernel
theorem dL_law_947 : decode cL_law 947 = .ok (.iadd, 1) := by decide +kernel
theorem dL_law_948 : decode cL_law 948 = .ok (.iaload, 1) := by decide +kernel
theorem dL_law_949 : decode cL_law 949 = .ok (.invokevirtual 103, 3) := by decide +kernel
theorem dL_law_952 : decode cL_law 952 = .ok (.if_icmp .eq 5, 3) := by decide +kernel
theorem dL_law_957 : decode cL_law 957 = .ok (.iinc 3 6, 3) := by decide +kernel
theorem dL_law_960 : decode cL_law 960 = .ok (.goto (-942), 3) := by decide +kernel
theorem dL_law_963 : decode cL_law 963 = .ok (.iconst 1, 1) := by decide +kernel
theorem dL_law_964 : decode cL_law 964 = .ok (.ireturn, 1) := by decide +kernel
end
section
theorem fa_lt (a b : Int32) : a < b ↔ a.toInt < b.toInt := Int32.lt_iff_toInt_lt
theorem fa_le (a b : Int32) : a ≤ b ↔ a.toInt ≤ b.toInt := Int32.le_iff_toInt_le
theorem fa_eq (a b : Int32) : a = b ↔ a.toInt = b.toInt := Int32.toInt_inj.symm
theorem fa_le64 (a b : Int64) : a ≤ b ↔ a.toInt ≤ b.toInt := Int64.le_iff_toInt_le
theorem fa_wide_le (a b : Int32) : a.toInt64 ≤ b.toInt64 ↔ a ≤ b := by rw [fa_le64, fa_le, Int32.toInt_toInt64, Int32.toInt_toInt64]
theorem bo_split {r : Int32} {c : Prop} [Decidable c] (h : r = if c then 1 else 0) : (r = 1 ∧ c) ∨ (r = 0 ∧ ¬ c) := by
  by_cases q : c
  · exact Or.inl ⟨by rw [h, if_pos q], q⟩
  · exact Or.inr ⟨by rw [h, if_neg q], q⟩
theorem w64 {L H : Int64} (lo hi x : Int32) (hl : lo.toInt64 = L) (hh : hi.toInt64 = H) : (L ≤ x.toInt64 ∧ x.toInt64 ≤ H) ↔ (lo ≤ x ∧ x ≤ hi) := by
  subst hl; subst hh
  rw [fa_wide_le, fa_wide_le]
theorem lk_01 (x : Int32) : (¬ x = 0 ∧ ¬ x = 1) ∨ x = 0 ∨ x = 1 := by
  by_cases h : x = 0
  · exact Or.inr (Or.inl h)
  · by_cases h1 : x = 1
    · exact Or.inr (Or.inr h1)
    · exact Or.inl ⟨h, h1⟩
theorem lk_01_df {x : Int32} {a b d : Int} (n0 : ¬ x = 0) (n1 : ¬ x = 1) : Op.lookupswitch.offset [(0, a), (1, b)] d x.toInt = d := (lv_osw n0 (by decide)).trans ((lv_osw n1 (by decide)).trans rfl)
theorem in_01 {x : Int32} (q : 0 ≤ x ∧ x ≤ 1) : x = 0 ∨ x = 1 := by
  have e0 : (0 : Int32).toInt = 0 := by decide
  have e1 : (1 : Int32).toInt = 1 := by decide
  simp only [fa_le, fa_eq] at q ⊢
  omega
theorem no_01 {x : Int32} (q : ¬ (0 ≤ x ∧ x ≤ 1)) : ¬ x = 0 ∧ ¬ x = 1 := by
  have e0 : (0 : Int32).toInt = 0 := by decide
  have e1 : (1 : Int32).toInt = 1 := by decide
  simp only [fa_le, fa_eq] at q ⊢
  omega
def an_thing (a x y z d : Int32) : Int32 := if (0 ≤ a ∧ a ≤ 39) ∧ ((-5000 ≤ x ∧ x ≤ 5000) ∧ (-5000 ≤ y ∧ y ≤ 5000) ∧ (-5000 ≤ z ∧ z ≤ 5000)) ∧ (0 ≤ d ∧ d ≤ 200) then 0 else -100002
theorem an_thing_ok {a x y z d : Int32} (q1 : 0 ≤ a ∧ a ≤ 39) (q2 : (-5000 ≤ x ∧ x ≤ 5000) ∧ (-5000 ≤ y ∧ y ≤ 5000) ∧ (-5000 ≤ z ∧ z ≤ 5000)) (q3 : 0 ≤ d ∧ d ≤ 200) : an_thing a x y z d = 0 := if_pos ⟨q1, q2, q3⟩
theorem an_thing_1 {a x y z d : Int32} (q : ¬ (0 ≤ a ∧ a ≤ 39)) : an_thing a x y z d = -100002 := if_neg (fun h => q h.1)
theorem an_thing_2 {a x y z d : Int32} (q : ¬ ((-5000 ≤ x ∧ x ≤ 5000) ∧ (-5000 ≤ y ∧ y ≤ 5000) ∧ (-5000 ≤ z ∧ z ≤ 5000))) : an_thing a x y z d = -100002 := if_neg (fun h => q h.2.1)
theorem an_thing_3 {a x y z d : Int32} (q : ¬ (0 ≤ d ∧ d ≤ 200)) : an_thing a x y z d = -100002 := if_neg (fun h => q h.2.2)
def an_dot (a x y z : Int32) : Int32 := if (0 ≤ a ∧ a ≤ 39) ∧ ((-5000 ≤ x ∧ x ≤ 5000) ∧ (-5000 ≤ y ∧ y ≤ 5000) ∧ (-5000 ≤ z ∧ z ≤ 5000)) then 0 else -100002
theorem an_dot_ok {a x y z : Int32} (q1 : 0 ≤ a ∧ a ≤ 39) (q2 : (-5000 ≤ x ∧ x ≤ 5000) ∧ (-5000 ≤ y ∧ y ≤ 5000) ∧ (-5000 ≤ z ∧ z ≤ 5000)) : an_dot a x y z = 0 := if_pos ⟨q1, q2⟩
theorem an_dot_1 {a x y z : Int32} (q : ¬ (0 ≤ a ∧ a ≤ 39)) : an_dot a x y z = -100002 := if_neg (fun h => q h.1)
theorem an_dot_2 {a x y z : Int32} (q : ¬ ((-5000 ≤ x ∧ x ≤ 5000) ∧ (-5000 ≤ y ∧ y ≤ 5000) ∧ (-5000 ≤ z ∧ z ≤ 5000))) : an_dot a x y z = -100002 := if_neg (fun h => q h.2)
def an_count (w : Int32) : Int32 := if 0 ≤ w ∧ w ≤ 9 then 0 else -100002
theorem an_count_out {w : Int32} (h : w.toInt < 0 ∨ 9 < w.toInt) : an_count w = -100002 := if_neg (fun q => by
  have e0 : (0 : Int32).toInt = 0 := by decide
  have e9 : (9 : Int32).toInt = 9 := by decide
  simp only [fa_le] at q
  omega)
def an_meeting (w : Int32) : Int32 := if 0 ≤ w ∧ w ≤ 1 then -1 else -100002
def an_keep (w : Int32) : Int32 := if w = 0 ∨ w = 1 then 0 else -100001
theorem an_keep_n {w : Int32} (n0 : ¬ w = 0) (n1 : ¬ w = 1) : an_keep w = -100001 := if_neg (fun h => h.elim n0 n1)
def an_differs (w : Int32) : Int32 := if w = 0 ∨ w = 1 then -100003 else -100001
theorem an_differs_n {w : Int32} (n0 : ¬ w = 0) (n1 : ¬ w = 1) : an_differs w = -100001 := if_neg (fun h => h.elim n0 n1)
def an_rule (w v : Int32) : Int32 := if w = 0 then (if 1 ≤ v ∧ v ≤ 3000 then 50 else -100002) else if w = 1 then (if 0 ≤ v ∧ v ≤ 400 then 20 else -100002) else -100002
theorem an_rule_n {w v : Int32} (n0 : ¬ w = 0) (n1 : ¬ w = 1) : an_rule w v = -100002 := by unfold an_rule; rw [if_neg n0, if_neg n1]
theorem an_rule_0 (v : Int32) : an_rule 0 v = if 1 ≤ v ∧ v ≤ 3000 then 50 else -100002 := by unfold an_rule; rw [if_pos rfl]
theorem an_rule_1 (v : Int32) : an_rule 1 v = if 0 ≤ v ∧ v ≤ 400 then 20 else -100002 := by unfold an_rule; rw [if_neg (by decide), if_pos rfl]
theorem sw_10 (x : Int32) : (x.toInt < 0 ∨ 9 < x.toInt) ∨ x = 0 ∨ x = 1 ∨ x = 2 ∨ x = 3 ∨ x = 4 ∨ x = 5 ∨ x = 6 ∨ x = 7 ∨ x = 8 ∨ x = 9 := by
  have e0 : (0 : Int32).toInt = 0 := by decide
  have e1 : (1 : Int32).toInt = 1 := by decide
  have e2 : (2 : Int32).toInt = 2 := by decide
  have e3 : (3 : Int32).toInt = 3 := by decide
  have e4 : (4 : Int32).toInt = 4 := by decide
  have e5 : (5 : Int32).toInt = 5 := by decide
  have e6 : (6 : Int32).toInt = 6 := by decide
  have e7 : (7 : Int32).toInt = 7 := by decide
  have e8 : (8 : Int32).toInt = 8 := by decide
  have e9 : (9 : Int32).toInt = 9 := by decide
  simp only [fa_eq]
  omega
theorem sw_21 (x : Int32) : (x.toInt < 0 ∨ 20 < x.toInt) ∨ x = 0 ∨ x = 1 ∨ x = 2 ∨ x = 3 ∨ x = 4 ∨ x = 5 ∨ x = 6 ∨ x = 7 ∨ x = 8 ∨ x = 9 ∨ x = 10 ∨ x = 11 ∨ x = 12 ∨ x = 13 ∨ x = 14 ∨ x = 15 ∨ x = 16 ∨ x = 17 ∨ x = 18 ∨ x = 19 ∨ x = 20 := by
  have e0 : (0 : Int32).toInt = 0 := by decide
  have e1 : (1 : Int32).toInt = 1 := by decide
  have e2 : (2 : Int32).toInt = 2 := by decide
  have e3 : (3 : Int32).toInt = 3 := by decide
  have e4 : (4 : Int32).toInt = 4 := by decide
  have e5 : (5 : Int32).toInt = 5 := by decide
  have e6 : (6 : Int32).toInt = 6 := by decide
  have e7 : (7 : Int32).toInt = 7 := by decide
  have e8 : (8 : Int32).toInt = 8 := by decide
  have e9 : (9 : Int32).toInt = 9 := by decide
  have e10 : (10 : Int32).toInt = 10 := by decide
  have e11 : (11 : Int32).toInt = 11 := by decide
  have e12 : (12 : Int32).toInt = 12 := by decide
  have e13 : (13 : Int32).toInt = 13 := by decide
  have e14 : (14 : Int32).toInt = 14 := by decide
  have e15 : (15 : Int32).toInt = 15 := by decide
  have e16 : (16 : Int32).toInt = 16 := by decide
  have e17 : (17 : Int32).toInt = 17 := by decide
  have e18 : (18 : Int32).toInt = 18 := by decide
  have e19 : (19 : Int32).toInt = 19 := by decide
  have e20 : (20 : Int32).toInt = 20 := by decide
  simp only [fa_eq]
  omega
def XN (U : State) : Prop := va_Nw (.methodLinkNest RX0 24 yX8_fuelOf RX8) U ∧ va_Nw (.methodLinkNest RX1 21 yX6_init RX8) U ∧ va_Nw (.methodLinkNest RX4 9 yX3_init RX8) U ∧ va_Nw (.methodLinkNest RX6 71 yX8_isPlace RX8) U ∧ va_Nw (.methodLinkNest RX8 11 yX1_init RX8) U ∧ va_Nw (.methodLinkNest RX8 43 yX7_init RX8) U ∧ va_Nw (.methodLinkNest RX8 50 yX4_init RX8) U ∧ va_Nw (.methodLinkNest RX8 57 yX3_init RX8) U ∧ va_Nw (.methodLinkNest RX8 64 yX6_init RX8) U ∧ va_Nw (.methodLinkNest RX8 71 yX0_init RX8) U ∧ va_AO "MeetingsAbove$Dot" U ∧ va_AO "MeetingsAbove$Notice" U ∧ va_AO "MeetingsAbove$Thing" U
theorem XN_X0_24 {U : State} (h : XN U) : va_Nw (.methodLinkNest RX0 24 yX8_fuelOf RX8) U := h.1
theorem XN_X1_21 {U : State} (h : XN U) : va_Nw (.methodLinkNest RX1 21 yX6_init RX8) U := h.2.1
theorem XN_X4_9 {U : State} (h : XN U) : va_Nw (.methodLinkNest RX4 9 yX3_init RX8) U := h.2.2.1
theorem XN_X6_71 {U : State} (h : XN U) : va_Nw (.methodLinkNest RX6 71 yX8_isPlace RX8) U := h.2.2.2.1
theorem XN_X8_11 {U : State} (h : XN U) : va_Nw (.methodLinkNest RX8 11 yX1_init RX8) U := h.2.2.2.2.1
theorem XN_X8_43 {U : State} (h : XN U) : va_Nw (.methodLinkNest RX8 43 yX7_init RX8) U := h.2.2.2.2.2.1
theorem XN_X8_50 {U : State} (h : XN U) : va_Nw (.methodLinkNest RX8 50 yX4_init RX8) U := h.2.2.2.2.2.2.1
theorem XN_X8_57 {U : State} (h : XN U) : va_Nw (.methodLinkNest RX8 57 yX3_init RX8) U := h.2.2.2.2.2.2.2.1
theorem XN_X8_64 {U : State} (h : XN U) : va_Nw (.methodLinkNest RX8 64 yX6_init RX8) U := h.2.2.2.2.2.2.2.2.1
theorem XN_X8_71 {U : State} (h : XN U) : va_Nw (.methodLinkNest RX8 71 yX0_init RX8) U := h.2.2.2.2.2.2.2.2.2.1
theorem XN_ao_X2 {U : State} (h : XN U) : va_AO "MeetingsAbove$Dot" U := h.2.2.2.2.2.2.2.2.2.2.1
theorem XN_ao_X5 {U : State} (h : XN U) : va_AO "MeetingsAbove$Notice" U := h.2.2.2.2.2.2.2.2.2.2.2.1
theorem XN_ao_X6 {U : State} (h : XN U) : va_AO "MeetingsAbove$Thing" U := h.2.2.2.2.2.2.2.2.2.2.2.2
theorem XN_warm {s U : State} (hW : s.WarmedH U.vm) (h : XN s) : XN U := ⟨va_Nw.warmM hW (XN_X0_24 h), va_Nw.warmM hW (XN_X1_21 h), va_Nw.warmM hW (XN_X4_9 h), va_Nw.warmM hW (XN_X6_71 h), va_Nw.warmM hW (XN_X8_11 h), va_Nw.warmM hW (XN_X8_43 h), va_Nw.warmM hW (XN_X8_50 h), va_Nw.warmM hW (XN_X8_57 h), va_Nw.warmM hW (XN_X8_64 h), va_Nw.warmM hW (XN_X8_71 h), va_AO.moved hW.alike (XN_ao_X2 h), va_AO.moved hW.alike (XN_ao_X5 h), va_AO.moved hW.alike (XN_ao_X6 h)⟩
theorem XN_same {U U2 : State} (e : U.vm = U2.vm) (h : XN U) : XN U2 := ⟨va_Nw.same rfl e (XN_X0_24 h), va_Nw.same rfl e (XN_X1_21 h), va_Nw.same rfl e (XN_X4_9 h), va_Nw.same rfl e (XN_X6_71 h), va_Nw.same rfl e (XN_X8_11 h), va_Nw.same rfl e (XN_X8_43 h), va_Nw.same rfl e (XN_X8_50 h), va_Nw.same rfl e (XN_X8_57 h), va_Nw.same rfl e (XN_X8_64 h), va_Nw.same rfl e (XN_X8_71 h), va_AO.moved (by rw [e]; exact Vm.Alike.refl U2.vm) (XN_ao_X2 h), va_AO.moved (by rw [e]; exact Vm.Alike.refl U2.vm) (XN_ao_X5 h), va_AO.moved (by rw [e]; exact Vm.Alike.refl U2.vm) (XN_ao_X6 h)⟩
end
section
def wk_X8_isWithin : List Cond := .code yX8_isWithin cX8_isWithin 3 (some .boolean) :: ([])
set_option maxHeartbeats 4000000 in
set_option maxRecDepth 100000 in
theorem c_X8_isWithin (l : Launch) (dC : Nat → ClassId) (dI : Nat → Nat → Nat) (v : Int32) (lo : Int32) (hi : Int32) : Met l yX8_isWithin wk_X8_isWithin ({ frames := 0, cells := 0, slots := 0, locals := 0 }) (va_Pc [.int v, .int lo, .int hi] (fun _ => True)) (vp_Si (fun r => r = if lo ≤ v ∧ v ≤ hi then 1 else 0)) 0 0 (fun _ => False) := by
  refine Met.ofW (cc := cX8_isWithin) (maxL := 3) (ret := (some .boolean)) (by decide) rfl ?_
  intro p e s m args below meth c s₁ B hml hv
  obtain ⟨rfl, -⟩ := hv
  have hx := B.exec
  have hb := B.bytes
  have hr := B.returns
  have hts := atoms_spec (ws := wk_X8_isWithin) B.pre
  have hown : s.vm.findClass RX8 = some m.cls := findClass_of_methodNamed B.named
  have hlocks := B.notSynchronized
  have hl := lv_entry ([.int v, .int lo, .int hi]) (n := 3) (Nat.le_of_ble_eq_true rfl)
  rw [lg_entry_eq]
  generalize (lg_sl ([.int v, .int lo, .int hi]) ++ List.replicate (3 - (lg_sl ([.int v, .int lo, .int hi])).length) Slot.unset).toArray = ls at hl ⊢
  have hl : lv_has ls 3 [(0, .int v), (1, .int lo), (2, .int hi)] := hl
  refine lv_iload_n hx hb dX8_isWithin_0 rfl (lv_at hl 0 rfl) ?_
  refine lv_iload_n hx hb dX8_isWithin_1 rfl (lv_at hl 1 rfl) ?_
  refine lv_icmp_lt (tgt := 14) hx hb dX8_isWithin_2 (by decide) (fun c_2 => ?_) (fun c_2 => ?_)
  · refine lv_iconst (v := 0) hx hb dX8_isWithin_14 (by decide) ?_
    exact W.zret (v := 0) hx hb hr rfl (fun t ht _ => ⟨_, rfl, (by first | exact (if_pos ⟨Int32.not_lt.mp c_2, Int32.not_lt.mp c_7⟩).symm | exact (if_neg (fun h => absurd h.1 (Int32.not_le.mpr c_2))).symm | exact (if_neg (fun h => absurd h.2 (Int32.not_le.mpr c_7))).symm), ht⟩) (fun _ h => absurd h List.not_mem_nil) dX8_isWithin_15
  · refine lv_iload_n hx hb dX8_isWithin_5 rfl (lv_at hl 0 rfl) ?_
    refine lv_iload_n hx hb dX8_isWithin_6 rfl (lv_at hl 2 rfl) ?_
    refine lv_icmp_gt (tgt := 14) hx hb dX8_isWithin_7 (by decide) (fun c_7 => ?_) (fun c_7 => ?_)
    · refine lv_iconst (v := 0) hx hb dX8_isWithin_14 (by decide) ?_
      exact W.zret (v := 0) hx hb hr rfl (fun t ht _ => ⟨_, rfl, (by first | exact (if_pos ⟨Int32.not_lt.mp c_2, Int32.not_lt.mp c_7⟩).symm | exact (if_neg (fun h => absurd h.1 (Int32.not_le.mpr c_2))).symm | exact (if_neg (fun h => absurd h.2 (Int32.not_le.mpr c_7))).symm), ht⟩) (fun _ h => absurd h List.not_mem_nil) dX8_isWithin_15
    · refine lv_iconst (v := 1) hx hb dX8_isWithin_10 (by decide) ?_
      refine lv_goto (tgt := 15) hx hb dX8_isWithin_11 (by decide) ?_
      exact W.zret (v := 1) hx hb hr rfl (fun t ht _ => ⟨_, rfl, (by first | exact (if_pos ⟨Int32.not_lt.mp c_2, Int32.not_lt.mp c_7⟩).symm | exact (if_neg (fun h => absurd h.1 (Int32.not_le.mpr c_2))).symm | exact (if_neg (fun h => absurd h.2 (Int32.not_le.mpr c_7))).symm), ht⟩) (fun _ h => absurd h List.not_mem_nil) dX8_isWithin_15
def wk_X8_isStep : List Cond := .code yX8_isStep cX8_isStep 1 (some .boolean) :: ([.methodLink RX8 84 yX8_isWithin, .static yX8_isWithin, .initialized RX8, .code yX8_isWithin cX8_isWithin 3 (some .boolean)])
set_option maxRecDepth 20000 in
theorem g_X8_isStep__X8_isWithin_84 : GoodIn wk_X8_isStep (va_wsS RX8 84 yX8_isWithin wk_X8_isWithin) := goodIn_r _ [1, 2, 3, 4] (by decide +kernel) (by decide +kernel)
set_option maxHeartbeats 4000000 in
set_option maxRecDepth 100000 in
theorem c_X8_isStep (l : Launch) (dC : Nat → ClassId) (dI : Nat → Nat → Nat) (p1 : Int32) : Met l yX8_isStep wk_X8_isStep ({ frames := 1, cells := 0, slots := 0, locals := 22 }) (va_Pc [.int p1] (fun _ => True)) (vp_Si (fun r => r = if 0 ≤ p1 ∧ p1 ≤ 39 then 1 else 0)) 0 0 (fun _ => False) := by
  refine Met.ofW (cc := cX8_isStep) (maxL := 1) (ret := (some .boolean)) (by decide) rfl ?_
  intro p e s m args below meth c s₁ B hml hv
  obtain ⟨rfl, -⟩ := hv
  have hx := B.exec
  have hb := B.bytes
  have hr := B.returns
  have hts := atoms_spec (ws := wk_X8_isStep) B.pre
  have hown : s.vm.findClass RX8 = some m.cls := findClass_of_methodNamed B.named
  have hlocks := B.notSynchronized
  have hl := lv_entry ([.int p1]) (n := 1) (Nat.le_of_ble_eq_true rfl)
  rw [lg_entry_eq]
  generalize (lg_sl ([.int p1]) ++ List.replicate (1 - (lg_sl ([.int p1])).length) Slot.unset).toArray = ls at hl ⊢
  have hl : lv_has ls 1 [(0, .int p1)] := hl
  refine lv_iload_n hx hb dX8_isStep_0 rfl (lv_at hl 0 rfl) ?_
  refine lv_iconst (v := 0) hx hb dX8_isStep_1 (by decide) ?_
  refine lv_bipush (v := 39) hx hb dX8_isStep_2 (by decide) ?_
  refine vp_callSi (W.runS (As := [.int p1, .int 0, .int 39]) (rest := []) ⟨hx, hb, hml, hown, hts⟩ (c_X8_isWithin l dC dI p1 0 39) (va_cwS 3 hts g_X8_isStep__X8_isWithin_84 rfl rfl rfl (by decide +kernel) ⟨Nat.le_of_ble_eq_true rfl, Nat.le_of_ble_eq_true rfl⟩) ⟨fun a U g mk q => by obtain ⟨q0, q1⟩ := q; exact ⟨q0, q1⟩, fun U hU hW => ⟨rfl, trivial⟩⟩ rfl rfl hl.1 rfl (lv_room (Nat.le_of_ble_eq_true rfl)) dX8_isStep_4 ⟨Nat.le_of_ble_eq_true rfl, Nat.le_of_ble_eq_true rfl⟩) (fun r_1 hr_1 => ?_)
  try dsimp only at hr_1
  rcases bo_split hr_1 with ⟨rfl, q_4⟩ | ⟨rfl, q_4⟩
  · exact W.zret (v := 1) hx hb hr rfl (fun t ht _ => ⟨_, rfl, (by first | exact (if_pos q_4).symm | exact (if_neg q_4).symm), ht⟩) (fun _ h => absurd h List.not_mem_nil) dX8_isStep_7
  · exact W.zret (v := 0) hx hb hr rfl (fun t ht _ => ⟨_, rfl, (by first | exact (if_pos q_4).symm | exact (if_neg q_4).symm), ht⟩) (fun _ h => absurd h List.not_mem_nil) dX8_isStep_7
def wk_X8_isPlace : List Cond := .code yX8_isPlace cX8_isPlace 3 (some .boolean) :: ([.methodLink RX8 84 yX8_isWithin, .static yX8_isWithin, .initialized RX8, .code yX8_isWithin cX8_isWithin 3 (some .boolean)])
set_option maxRecDepth 20000 in
theorem g_X8_isPlace__X8_isWithin_84 : GoodIn wk_X8_isPlace (va_wsS RX8 84 yX8_isWithin wk_X8_isWithin) := goodIn_r _ [1, 2, 3, 4] (by decide +kernel) (by decide +kernel)
set_option maxHeartbeats 4000000 in
set_option maxRecDepth 100000 in
theorem c_X8_isPlace (l : Launch) (dC : Nat → ClassId) (dI : Nat → Nat → Nat) (p1 : Int32) (p2 : Int32) (p3 : Int32) : Met l yX8_isPlace wk_X8_isPlace ({ frames := 1, cells := 0, slots := 0, locals := 22 }) (va_Pc [.int p1, .int p2, .int p3] (fun _ => True)) (vp_Si (fun r => r = if (-5000 ≤ p1 ∧ p1 ≤ 5000) ∧ (-5000 ≤ p2 ∧ p2 ≤ 5000) ∧ (-5000 ≤ p3 ∧ p3 ≤ 5000) then 1 else 0)) 0 0 (fun _ => False) := by
  refine Met.ofW (cc := cX8_isPlace) (maxL := 3) (ret := (some .boolean)) (by decide) rfl ?_
  intro p e s m args below meth c s₁ B hml hv
  obtain ⟨rfl, -⟩ := hv
  have hx := B.exec
  have hb := B.bytes
  have hr := B.returns
  have hts := atoms_spec (ws := wk_X8_isPlace) B.pre
  have hown : s.vm.findClass RX8 = some m.cls := findClass_of_methodNamed B.named
  have hlocks := B.notSynchronized
  have hl := lv_entry ([.int p1, .int p2, .int p3]) (n := 3) (Nat.le_of_ble_eq_true rfl)
  rw [lg_entry_eq]
  generalize (lg_sl ([.int p1, .int p2, .int p3]) ++ List.replicate (3 - (lg_sl ([.int p1, .int p2, .int p3])).length) Slot.unset).toArray = ls at hl ⊢
  have hl : lv_has ls 3 [(0, .int p1), (1, .int p2), (2, .int p3)] := hl
  refine lv_iload_n hx hb dX8_isPlace_0 rfl (lv_at hl 0 rfl) ?_
  refine lv_sipush (v := (-5000)) hx hb dX8_isPlace_1 (by decide) ?_
  refine lv_sipush (v := 5000) hx hb dX8_isPlace_4 (by decide) ?_
  refine vp_callSi (W.runS (As := [.int p1, .int (-5000), .int 5000]) (rest := []) ⟨hx, hb, hml, hown, hts⟩ (c_X8_isWithin l dC dI p1 (-5000) 5000) (va_cwS 3 hts g_X8_isPlace__X8_isWithin_84 rfl rfl rfl (by decide +kernel) ⟨Nat.le_of_ble_eq_true rfl, Nat.le_of_ble_eq_true rfl⟩) ⟨fun a U g mk q => by obtain ⟨q0, q1⟩ := q; exact ⟨q0, q1⟩, fun U hU hW => ⟨rfl, trivial⟩⟩ rfl rfl hl.1 rfl (lv_room (Nat.le_of_ble_eq_true rfl)) dX8_isPlace_7 ⟨Nat.le_of_ble_eq_true rfl, Nat.le_of_ble_eq_true rfl⟩) (fun r_1 hr_1 => ?_)
  try dsimp only at hr_1
  rcases bo_split hr_1 with ⟨rfl, q_7⟩ | ⟨rfl, q_7⟩
  · refine lv_if_eq (tgt := 43) hx hb dX8_isPlace_10 (by decide) (fun h9 => absurd h9 (by decide)) (fun _ => ?_)
    refine lv_iload_n hx hb dX8_isPlace_13 rfl (lv_at hl 1 rfl) ?_
    refine lv_sipush (v := (-5000)) hx hb dX8_isPlace_14 (by decide) ?_
    refine lv_sipush (v := 5000) hx hb dX8_isPlace_17 (by decide) ?_
    refine vp_callSi (W.runS (As := [.int p2, .int (-5000), .int 5000]) (rest := []) ⟨hx, hb, hml, hown, hts⟩ (c_X8_isWithin l dC dI p2 (-5000) 5000) (va_cwS 3 hts g_X8_isPlace__X8_isWithin_84 rfl rfl rfl (by decide +kernel) ⟨Nat.le_of_ble_eq_true rfl, Nat.le_of_ble_eq_true rfl⟩) ⟨fun a U g mk q => by obtain ⟨q0, q1⟩ := q; exact ⟨q0, q1⟩, fun U hU hW => ⟨rfl, trivial⟩⟩ rfl rfl hl.1 rfl (lv_room (Nat.le_of_ble_eq_true rfl)) dX8_isPlace_20 ⟨Nat.le_of_ble_eq_true rfl, Nat.le_of_ble_eq_true rfl⟩) (fun r_2 hr_2 => ?_)
    try dsimp only at hr_2
    rcases bo_split hr_2 with ⟨rfl, q_20⟩ | ⟨rfl, q_20⟩
    · refine lv_if_eq (tgt := 43) hx hb dX8_isPlace_23 (by decide) (fun h9 => absurd h9 (by decide)) (fun _ => ?_)
      refine lv_iload_n hx hb dX8_isPlace_26 rfl (lv_at hl 2 rfl) ?_
      refine lv_sipush (v := (-5000)) hx hb dX8_isPlace_27 (by decide) ?_
      refine lv_sipush (v := 5000) hx hb dX8_isPlace_30 (by decide) ?_
      refine vp_callSi (W.runS (As := [.int p3, .int (-5000), .int 5000]) (rest := []) ⟨hx, hb, hml, hown, hts⟩ (c_X8_isWithin l dC dI p3 (-5000) 5000) (va_cwS 3 hts g_X8_isPlace__X8_isWithin_84 rfl rfl rfl (by decide +kernel) ⟨Nat.le_of_ble_eq_true rfl, Nat.le_of_ble_eq_true rfl⟩) ⟨fun a U g mk q => by obtain ⟨q0, q1⟩ := q; exact ⟨q0, q1⟩, fun U hU hW => ⟨rfl, trivial⟩⟩ rfl rfl hl.1 rfl (lv_room (Nat.le_of_ble_eq_true rfl)) dX8_isPlace_33 ⟨Nat.le_of_ble_eq_true rfl, Nat.le_of_ble_eq_true rfl⟩) (fun r_3 hr_3 => ?_)
      try dsimp only at hr_3
      rcases bo_split hr_3 with ⟨rfl, q_33⟩ | ⟨rfl, q_33⟩
      · refine lv_if_eq (tgt := 43) hx hb dX8_isPlace_36 (by decide) (fun h9 => absurd h9 (by decide)) (fun _ => ?_)
        refine lv_iconst (v := 1) hx hb dX8_isPlace_39 (by decide) ?_
        refine lv_goto (tgt := 44) hx hb dX8_isPlace_40 (by decide) ?_
        exact W.zret (v := 1) hx hb hr rfl (fun t ht _ => ⟨_, rfl, (by first | exact (if_pos ⟨q_7, q_20, q_33⟩).symm | exact (if_neg (fun h => q_7 h.1)).symm | exact (if_neg (fun h => q_20 h.2.1)).symm | exact (if_neg (fun h => q_33 h.2.2)).symm), ht⟩) (fun _ h => absurd h List.not_mem_nil) dX8_isPlace_44
      · refine lv_if_eq (tgt := 43) hx hb dX8_isPlace_36 (by decide) (fun _ => ?_) (fun h9 => absurd h9 (by decide))
        refine lv_iconst (v := 0) hx hb dX8_isPlace_43 (by decide) ?_
        exact W.zret (v := 0) hx hb hr rfl (fun t ht _ => ⟨_, rfl, (by first | exact (if_pos ⟨q_7, q_20, q_33⟩).symm | exact (if_neg (fun h => q_7 h.1)).symm | exact (if_neg (fun h => q_20 h.2.1)).symm | exact (if_neg (fun h => q_33 h.2.2)).symm), ht⟩) (fun _ h => absurd h List.not_mem_nil) dX8_isPlace_44
    · refine lv_if_eq (tgt := 43) hx hb dX8_isPlace_23 (by decide) (fun _ => ?_) (fun h9 => absurd h9 (by decide))
      refine lv_iconst (v := 0) hx hb dX8_isPlace_43 (by decide) ?_
      exact W.zret (v := 0) hx hb hr rfl (fun t ht _ => ⟨_, rfl, (by first | exact (if_pos ⟨q_7, q_20, q_33⟩).symm | exact (if_neg (fun h => q_7 h.1)).symm | exact (if_neg (fun h => q_20 h.2.1)).symm | exact (if_neg (fun h => q_33 h.2.2)).symm), ht⟩) (fun _ h => absurd h List.not_mem_nil) dX8_isPlace_44
  · refine lv_if_eq (tgt := 43) hx hb dX8_isPlace_10 (by decide) (fun _ => ?_) (fun h9 => absurd h9 (by decide))
    refine lv_iconst (v := 0) hx hb dX8_isPlace_43 (by decide) ?_
    exact W.zret (v := 0) hx hb hr rfl (fun t ht _ => ⟨_, rfl, (by first | exact (if_pos ⟨q_7, q_20, q_33⟩).symm | exact (if_neg (fun h => q_7 h.1)).symm | exact (if_neg (fun h => q_20 h.2.1)).symm | exact (if_neg (fun h => q_33 h.2.2)).symm), ht⟩) (fun _ h => absurd h List.not_mem_nil) dX8_isPlace_44
def wk_X0_init : List Cond := .code yX0_init cX0_init 1 none :: ([.code objectInit ⟨#[0xb1]⟩ 1 none, .methodLink RX0 3 objectInit, .instanceMethod objectInit])
set_option maxHeartbeats 4000000 in
set_option maxRecDepth 100000 in
theorem c_X0_init (l : Launch) (dC : Nat → ClassId) (dI : Nat → Nat → Nat) (h0 : Nat) (sz : Nat) : Met l yX0_init wk_X0_init ({ frames := 1, cells := 0, slots := 0, locals := 12 }) (va_Pc [.ref h0] (fun U => U.heap.size = sz ∧ va_P (dC, dI) vwCl [(h0, .inr (0, [.int 0, .int 0, .int 0, .int 0, .int 0]))] U.heap ∧ va_K (dC, dI) vwCl [] U ∧ va_D (fun _ => True) [(h0, .inr (0, [.int 0, .int 0, .int 0, .int 0, .int 0]))])) (va_Qv (fun (_ : Unit) => True) (fun (_ : Unit) (t : State) => va_P (dC, dI) vwCl [(h0, .inr (0, [.int 0, .int 0, .int 0, .int 0, .int 0]))] t.heap ∧ va_K (dC, dI) vwCl [] t ∧ va_D (va_A [(h0, .inr (0, [.int 0, .int 0, .int 0, .int 0, .int 0]))] sz) [(h0, .inr (0, [.int 0, .int 0, .int 0, .int 0, .int 0]))]) (va_A [(h0, .inr (0, [.int 0, .int 0, .int 0, .int 0, .int 0]))] sz)) 0 0 (va_A [(h0, .inr (0, [.int 0, .int 0, .int 0, .int 0, .int 0]))] sz) := by
  refine Met.ofW (cc := cX0_init) (maxL := 1) (ret := none) (by decide) rfl ?_
  intro p e s m args below meth c s₁ B hml hv
  obtain ⟨rfl, hsz, hP, hK, hD0⟩ := hv
  have hx := B.exec
  have hb := B.bytes
  have hr := B.returns
  have hts := atoms_spec (ws := wk_X0_init) B.pre
  have hown : s.vm.findClass RX0 = some m.cls := findClass_of_methodNamed B.named
  have hlocks := B.notSynchronized
  have hin : meth.name = "<init>" := (name_of_methodNamed B.named B.method).1
  subst hsz
  have hD := hD0.self (sz := s.heap.size)
  generalize hAe : va_A [(h0, .inr (0, [.int 0, .int 0, .int 0, .int 0, .int 0]))] s.heap.size = A at hD ⊢
  have hA : ∀ q : Nat, s.heap.size ≤ q → A q := fun q h => by rw [← hAe]; exact Or.inr h
  have hS : va_S A s.heap s.heap [] := va_S.rf
  have hP : va_P (dC, dI) vwCl [(h0, .inr (0, [.int 0, .int 0, .int 0, .int 0, .int 0]))] s.heap := hP
  have hl := lv_entry ([.ref h0]) (n := 1) (Nat.le_of_ble_eq_true rfl)
  rw [lg_entry_eq]
  generalize (lg_sl ([.ref h0]) ++ List.replicate (1 - (lg_sl ([.ref h0])).length) Slot.unset).toArray = ls at hl ⊢
  have hl : lv_has ls 1 [(0, .ref h0)] := hl
  refine lv_aload_n hx hb dX0_init_0 rfl (lv_at hl 0 rfl) ?_
  refine W.objInit hx hb hown (hts (.methodLink RX0 3 objectInit) (by decide +kernel)) (hts (.instanceMethod objectInit) (by decide +kernel)) (hts _ (List.mem_of_getElem? (i := 1) rfl)) rfl (by rw [hml]; exact hl.1) rfl dX0_init_1 (Nat.le_of_ble_eq_true rfl) (Nat.le_of_ble_eq_true rfl) ?_
  refine W.eq (g2 := F0 m 4 ls []) rfl ?_
  have hP9 := hP.sub (ws' := [(h0, .inr (0, [.int 0, .int 0, .int 0, .int 0, .int 0]))]) [0] rfl
  have hD9 := hD.sub (ws' := [(h0, .inr (0, [.int 0, .int 0, .int 0, .int 0, .int 0]))]) [0] (by decide) rfl
  have hK9 := hK.sub (tys' := []) [] rfl
  refine W.widen (k := 0) (n := 0) (by omega) (by omega) ?_
  exact W.vret hx hb hr (fun t ht hW => ⟨⟨(), rfl, trivial, by rw [ht]; exact hP9, va_K.moved hW.alike hK9, hD9⟩, hS.F ht⟩) hS.2.2 dX0_init_4
def wk_X7_init : List Cond := .code yX7_init cX7_init 1 none :: ([.code objectInit ⟨#[0xb1]⟩ 1 none, .methodLink RX7 3 objectInit, .instanceMethod objectInit])
set_option maxHeartbeats 4000000 in
set_option maxRecDepth 100000 in
theorem c_X7_init (l : Launch) (dC : Nat → ClassId) (dI : Nat → Nat → Nat) (h0 : Nat) (sz : Nat) : Met l yX7_init wk_X7_init ({ frames := 1, cells := 0, slots := 0, locals := 12 }) (va_Pc [.ref h0] (fun U => U.heap.size = sz ∧ va_P (dC, dI) vwCl [(h0, .inr (7, [.long 0, .long 0, .long 0]))] U.heap ∧ va_K (dC, dI) vwCl [] U ∧ va_D (fun _ => True) [(h0, .inr (7, [.long 0, .long 0, .long 0]))])) (va_Qv (fun (_ : Unit) => True) (fun (_ : Unit) (t : State) => va_P (dC, dI) vwCl [(h0, .inr (7, [.long 0, .long 0, .long 0]))] t.heap ∧ va_K (dC, dI) vwCl [] t ∧ va_D (va_A [(h0, .inr (7, [.long 0, .long 0, .long 0]))] sz) [(h0, .inr (7, [.long 0, .long 0, .long 0]))]) (va_A [(h0, .inr (7, [.long 0, .long 0, .long 0]))] sz)) 0 0 (va_A [(h0, .inr (7, [.long 0, .long 0, .long 0]))] sz) := by
  refine Met.ofW (cc := cX7_init) (maxL := 1) (ret := none) (by decide) rfl ?_
  intro p e s m args below meth c s₁ B hml hv
  obtain ⟨rfl, hsz, hP, hK, hD0⟩ := hv
  have hx := B.exec
  have hb := B.bytes
  have hr := B.returns
  have hts := atoms_spec (ws := wk_X7_init) B.pre
  have hown : s.vm.findClass RX7 = some m.cls := findClass_of_methodNamed B.named
  have hlocks := B.notSynchronized
  have hin : meth.name = "<init>" := (name_of_methodNamed B.named B.method).1
  subst hsz
  have hD := hD0.self (sz := s.heap.size)
  generalize hAe : va_A [(h0, .inr (7, [.long 0, .long 0, .long 0]))] s.heap.size = A at hD ⊢
  have hA : ∀ q : Nat, s.heap.size ≤ q → A q := fun q h => by rw [← hAe]; exact Or.inr h
  have hS : va_S A s.heap s.heap [] := va_S.rf
  have hP : va_P (dC, dI) vwCl [(h0, .inr (7, [.long 0, .long 0, .long 0]))] s.heap := hP
  have hl := lv_entry ([.ref h0]) (n := 1) (Nat.le_of_ble_eq_true rfl)
  rw [lg_entry_eq]
  generalize (lg_sl ([.ref h0]) ++ List.replicate (1 - (lg_sl ([.ref h0])).length) Slot.unset).toArray = ls at hl ⊢
  have hl : lv_has ls 1 [(0, .ref h0)] := hl
  refine lv_aload_n hx hb dX7_init_0 rfl (lv_at hl 0 rfl) ?_
  refine W.objInit hx hb hown (hts (.methodLink RX7 3 objectInit) (by decide +kernel)) (hts (.instanceMethod objectInit) (by decide +kernel)) (hts _ (List.mem_of_getElem? (i := 1) rfl)) rfl (by rw [hml]; exact hl.1) rfl dX7_init_1 (Nat.le_of_ble_eq_true rfl) (Nat.le_of_ble_eq_true rfl) ?_
  refine W.eq (g2 := F0 m 4 ls []) rfl ?_
  have hP9 := hP.sub (ws' := [(h0, .inr (7, [.long 0, .long 0, .long 0]))]) [0] rfl
  have hD9 := hD.sub (ws' := [(h0, .inr (7, [.long 0, .long 0, .long 0]))]) [0] (by decide) rfl
  have hK9 := hK.sub (tys' := []) [] rfl
  refine W.widen (k := 0) (n := 0) (by omega) (by omega) ?_
  exact W.vret hx hb hr (fun t ht hW => ⟨⟨(), rfl, trivial, by rw [ht]; exact hP9, va_K.moved hW.alike hK9, hD9⟩, hS.F ht⟩) hS.2.2 dX7_init_4
def wk_X3_init : List Cond := .code yX3_init cX3_init 1 none :: ([.code objectInit ⟨#[0xb1]⟩ 1 none, .methodLink RX3 1 objectInit, .instanceMethod objectInit, .fieldLink RX3 7 "MeetingsAbove$Fraction" "upper" "J", .fieldLink RX3 13 "MeetingsAbove$Fraction" "lower" "J"] ++ wsX30)
theorem in_X3_init_X3 : ∀ w ∈ wsX30, w ∈ wk_X3_init := fun _ h => List.mem_cons_of_mem _ (List.mem_append_right _ h)
set_option maxHeartbeats 4000000 in
set_option maxRecDepth 100000 in
theorem c_X3_init (l : Launch) (dC : Nat → ClassId) (dI : Nat → Nat → Nat) (h0 : Nat) (sz : Nat) : Met l yX3_init wk_X3_init ({ frames := 1, cells := 0, slots := 0, locals := 12 }) (va_Pc [.ref h0] (fun U => U.heap.size = sz ∧ va_P (dC, dI) vwCl [(h0, .inr (3, [.long 0, .long 0]))] U.heap ∧ va_K (dC, dI) vwCl [] U ∧ va_D (fun _ => True) [(h0, .inr (3, [.long 0, .long 0]))])) (va_Qv (fun (_ : Unit) => True) (fun (_ : Unit) (t : State) => va_P (dC, dI) vwCl [(h0, .inr (3, [.long 0, .long 1]))] t.heap ∧ va_K (dC, dI) vwCl [] t ∧ va_D (va_A [(h0, .inr (3, [.long 0, .long 0]))] sz) [(h0, .inr (3, [.long 0, .long 1]))]) (va_A [(h0, .inr (3, [.long 0, .long 0]))] sz)) 0 0 (va_A [(h0, .inr (3, [.long 0, .long 0]))] sz) := by
  refine Met.ofW (cc := cX3_init) (maxL := 1) (ret := none) (by decide) rfl ?_
  intro p e s m args below meth c s₁ B hml hv
  obtain ⟨rfl, hsz, hP, hK, hD0⟩ := hv
  have hx := B.exec
  have hb := B.bytes
  have hr := B.returns
  have hts := atoms_spec (ws := wk_X3_init) B.pre
  have hown : s.vm.findClass RX3 = some m.cls := findClass_of_methodNamed B.named
  have hlocks := B.notSynchronized
  have hin : meth.name = "<init>" := (name_of_methodNamed B.named B.method).1
  subst hsz
  have hD := hD0.self (sz := s.heap.size)
  generalize hAe : va_A [(h0, .inr (3, [.long 0, .long 0]))] s.heap.size = A at hD ⊢
  have hA : ∀ q : Nat, s.heap.size ≤ q → A q := fun q h => by rw [← hAe]; exact Or.inr h
  have hS : va_S A s.heap s.heap [] := va_S.rf
  have hP : va_P (dC, dI) vwCl [(h0, .inr (3, [.long 0, .long 0]))] s.heap := hP
  have hl := lv_entry ([.ref h0]) (n := 1) (Nat.le_of_ble_eq_true rfl)
  rw [lg_entry_eq]
  generalize (lg_sl ([.ref h0]) ++ List.replicate (1 - (lg_sl ([.ref h0])).length) Slot.unset).toArray = ls at hl ⊢
  have hl : lv_has ls 1 [(0, .ref h0)] := hl
  refine lv_aload_n hx hb dX3_init_0 rfl (lv_at hl 0 rfl) ?_
  refine W.objInit hx hb hown (hts (.methodLink RX3 1 objectInit) (by decide +kernel)) (hts (.instanceMethod objectInit) (by decide +kernel)) (hts _ (List.mem_of_getElem? (i := 1) rfl)) rfl (by rw [hml]; exact hl.1) rfl dX3_init_1 (Nat.le_of_ble_eq_true rfl) (Nat.le_of_ble_eq_true rfl) ?_
  refine W.eq (g2 := F0 m 4 ls []) rfl ?_
  refine lv_aload_n hx hb dX3_init_4 rfl (lv_at hl 0 rfl) ?_
  refine lv_lconst (v := 0) hx hb dX3_init_5 (by decide) ?_
  refine va_put (D := (dC, dI)) (ci := 3) (v := .long 0) (ty := .long) (C := RX3) (T := TX3) (N := 2) hx hb hts in_X3_init_X3 tyX3 tyX3_ok nmX3 hown hK hP hD hS 0 rfl rfl 0 (by decide) (hts (.fieldLink RX3 7 "MeetingsAbove$Fraction" "upper" "J") (by decide +kernel)) (fun _ h9 => h9) rfl (by decide +kernel) rfl rfl (Nat.le_of_ble_eq_true rfl) dX3_init_6 (fun H locs hP hD hS => ?_)
  have hP : va_P (dC, dI) vwCl [(h0, .inr (3, [.long 0, .long 0]))] H := hP
  have hD : va_D A [(h0, .inr (3, [.long 0, .long 0]))] := hD
  refine lv_aload_n hx hb dX3_init_9 rfl (lv_at hl 0 rfl) ?_
  refine lv_lconst (v := 1) hx hb dX3_init_10 (by decide) ?_
  refine va_put (D := (dC, dI)) (ci := 3) (v := .long 1) (ty := .long) (C := RX3) (T := TX3) (N := 2) hx hb hts in_X3_init_X3 tyX3 tyX3_ok nmX3 hown hK hP hD hS 0 rfl rfl 1 (by decide) (hts (.fieldLink RX3 13 "MeetingsAbove$Fraction" "lower" "J") (by decide +kernel)) (fun _ h9 => h9) rfl (by decide +kernel) rfl rfl (Nat.le_of_ble_eq_true rfl) dX3_init_11 (fun H locs hP hD hS => ?_)
  have hP : va_P (dC, dI) vwCl [(h0, .inr (3, [.long 0, .long 1]))] H := hP
  have hD : va_D A [(h0, .inr (3, [.long 0, .long 1]))] := hD
  have hP9 := hP.sub (ws' := [(h0, .inr (3, [.long 0, .long 1]))]) [0] rfl
  have hD9 := hD.sub (ws' := [(h0, .inr (3, [.long 0, .long 1]))]) [0] (by decide) rfl
  have hK9 := hK.sub (tys' := []) [] rfl
  refine W.widen (k := 0) (n := 0) (by omega) (by omega) ?_
  exact W.vret hx hb hr (fun t ht hW => ⟨⟨(), rfl, trivial, by rw [ht]; exact hP9, va_K.moved hW.alike hK9, hD9⟩, hS.F ht⟩) hS.2.2 dX3_init_14
def wk_X4_init : List Cond := .code yX4_init cX4_init 1 none :: ([.code objectInit ⟨#[0xb1]⟩ 1 none, .methodLink RX4 1 objectInit, .instanceMethod objectInit, .classLink RX4 7 RX3, .instantiable RX3 2, .initialized RX3, .code yX3_init cX3_init 1 none, .methodLink RX3 1 objectInit, .fieldLink RX3 7 "MeetingsAbove$Fraction" "upper" "J", .fieldLink RX3 13 "MeetingsAbove$Fraction" "lower" "J", .instanceMethod yX3_init, .fieldLink RX4 10 "MeetingsAbove$Nearest" "square" "LMeetingsAbove$Fraction;", .fieldLink RX4 16 "MeetingsAbove$Nearest" "part" "LMeetingsAbove$Fraction;"] ++ wsX30 ++ wsX40)
theorem in_X4_init_X3 : ∀ w ∈ wsX30, w ∈ wk_X4_init := fun _ h => List.mem_cons_of_mem _ (List.mem_append_left _ (List.mem_append_right _ h))
theorem in_X4_init_X4 : ∀ w ∈ wsX40, w ∈ wk_X4_init := fun _ h => List.mem_cons_of_mem _ (List.mem_append_right _ h)
set_option maxRecDepth 20000 in
theorem g_X4_init__X3_init_9 : GoodIn wk_X4_init wk_X3_init := goodIn_r _ [7, 1, 8, 3, 9, 10, 14, 15] (by decide +kernel) (by decide +kernel)
set_option maxHeartbeats 4000000 in
set_option maxRecDepth 100000 in
theorem c_X4_init (l : Launch) (dC : Nat → ClassId) (dI : Nat → Nat → Nat) (h0 : Nat) (sz : Nat) : Met l yX4_init wk_X4_init ({ frames := 2, cells := 2, slots := 4, locals := 32 }) (va_Pc [.ref h0] (fun U => U.heap.size = sz ∧ va_P (dC, dI) vwCl [(h0, .inr (4, [.null, .null, .int 0]))] U.heap ∧ va_K (dC, dI) vwCl [] U ∧ va_D (fun _ => True) [(h0, .inr (4, [.null, .null, .int 0]))] ∧ XN U)) (va_Qv (fun (_ : Unit) => True) (fun (_ : Unit) (t : State) => ∃ (x1 : Nat) (x2 : Nat), va_P (dC, dI) vwCl [(h0, .inr (4, [.ref x1, .ref x2, .int 0])), (x1, .inr (3, [.long 0, .long 1])), (x2, .inr (3, [.long 0, .long 1]))] t.heap ∧ va_K (dC, dI) vwCl [] t ∧ va_D (va_A [(h0, .inr (4, [.null, .null, .int 0]))] sz) [(h0, .inr (4, [.ref x1, .ref x2, .int 0])), (x1, .inr (3, [.long 0, .long 1])), (x2, .inr (3, [.long 0, .long 1]))]) (va_A [(h0, .inr (4, [.null, .null, .int 0]))] sz)) 2 4 (va_A [(h0, .inr (4, [.null, .null, .int 0]))] sz) := by
  refine Met.ofW (cc := cX4_init) (maxL := 1) (ret := none) (by decide) rfl ?_
  intro p e s m args below meth c s₁ B hml hv
  obtain ⟨rfl, hsz, hP, hK, hD0, hN⟩ := hv
  have hx := B.exec
  have hb := B.bytes
  have hr := B.returns
  have hts := atoms_spec (ws := wk_X4_init) B.pre
  have hown : s.vm.findClass RX4 = some m.cls := findClass_of_methodNamed B.named
  have hlocks := B.notSynchronized
  have hin : meth.name = "<init>" := (name_of_methodNamed B.named B.method).1
  subst hsz
  have hD := hD0.self (sz := s.heap.size)
  generalize hAe : va_A [(h0, .inr (4, [.null, .null, .int 0]))] s.heap.size = A at hD ⊢
  have hA : ∀ q : Nat, s.heap.size ≤ q → A q := fun q h => by rw [← hAe]; exact Or.inr h
  have hS : va_S A s.heap s.heap [] := va_S.rf
  have hP : va_P (dC, dI) vwCl [(h0, .inr (4, [.null, .null, .int 0]))] s.heap := hP
  have hl := lv_entry ([.ref h0]) (n := 1) (Nat.le_of_ble_eq_true rfl)
  rw [lg_entry_eq]
  generalize (lg_sl ([.ref h0]) ++ List.replicate (1 - (lg_sl ([.ref h0])).length) Slot.unset).toArray = ls at hl ⊢
  have hl : lv_has ls 1 [(0, .ref h0)] := hl
  refine lv_aload_n hx hb dX4_init_0 rfl (lv_at hl 0 rfl) ?_
  refine W.objInit hx hb hown (hts (.methodLink RX4 1 objectInit) (by decide +kernel)) (hts (.instanceMethod objectInit) (by decide +kernel)) (hts _ (List.mem_of_getElem? (i := 1) rfl)) rfl (by rw [hml]; exact hl.1) rfl dX4_init_1 (Nat.le_of_ble_eq_true rfl) (Nat.le_of_ble_eq_true rfl) ?_
  refine W.eq (g2 := F0 m 4 ls []) rfl ?_
  refine lv_aload_n hx hb dX4_init_4 rfl (lv_at hl 0 rfl) ?_
  refine va_new (ci := 3) (fs := [.long 0, .long 0]) (C := RX3) (T := TX3) (N := 2) hx hb hts in_X4_init_X3 tyX3 tyX3_ok hown (hts (.classLink RX4 7 RX3) (by decide +kernel)) (hts (.instantiable RX3 2) (by decide +kernel)) (hts (.initialized RX3) (by decide +kernel)) hK hP hD hS hA rfl (fun j hj => by rcases (show j = 0 ∨ j = 1 by omega) with rfl | rfl <;> rfl) (Nat.le_of_ble_eq_true rfl) (Nat.le_of_ble_eq_true rfl) dX4_init_5 (fun q_1 H hP hD hS => ?_)
  have hP : va_P (dC, dI) vwCl [(h0, .inr (4, [.null, .null, .int 0])), (q_1, .inr (3, [.long 0, .long 0]))] H := hP
  have hD : va_D A [(h0, .inr (4, [.null, .null, .int 0])), (q_1, .inr (3, [.long 0, .long 0]))] := hD
  refine W.widen (k := 1) (n := 2) (by omega) (by omega) ?_
  refine lv_dup hx hb dX4_init_8 rfl ?_
  have hPc := hP.sub (ws' := [(q_1, .inr (3, [.long 0, .long 0]))]) [1] rfl
  have hKc := hK.sub (tys' := []) [] rfl
  have hDc := hD.sub (ws' := [(q_1, .inr (3, [.long 0, .long 0]))]) [1] (by decide) rfl
  have hFc := va_free (wc := [(q_1, .inr (3, [.long 0, .long 0]))]) hD hS hA [1] rfl
  refine va_callv (va_runIN (As := []) (rest := [.ref q_1, .ref h0]) ⟨hx, hb, hml, hown, hts⟩ (c_X3_init l dC dI q_1 H.size) ⟨(va_cnB (host := RX8) 0 hts g_X4_init__X3_init_9 rfl rfl rfl (XN_X4_9 hN) (hts (.initialized RX3) (by decide +kernel)) (by decide +kernel) ⟨Nat.le_of_ble_eq_true rfl, Nat.le_of_ble_eq_true rfl⟩), rfl, (hts (.instanceMethod yX3_init) (by decide +kernel))⟩ ⟨fun a U g mk q => by obtain ⟨q0, q1, qP, qK, qD⟩ := q; exact ⟨q0, q1, qP, va_K.moved (u := U) (U := U.calling g mk a) (Vm.Alike.refl U.vm) qK, qD⟩, fun U hU hW => ⟨rfl, by rw [hU], by rw [hU]; exact hPc, va_K.moved hW.alike hKc, hDc.weaken (fun _ _ _ _ => trivial)⟩⟩ rfl rfl hl.1 rfl (lv_room (Nat.le_of_ble_eq_true rfl)) dX4_init_9 ⟨Nat.le_of_ble_eq_true rfl, Nat.le_of_ble_eq_true rfl⟩) hS (fun q _ h => hFc q h) hFc (fun u_2 t H1 locs ht hvm hw_3 hB hz1 hk1 hS => ?_)
  obtain ⟨hP1, hK1, hD1⟩ := hB
  rw [ht] at hP1
  have hK1 := va_K.moved hvm.symm hK1
  obtain ⟨hP, hD⟩ := va_join (wr := [(h0, .inr (4, [.null, .null, .int 0]))]) (w1 := [(q_1, .inr (3, [.long 0, .long 1]))]) hP hD [1] [0] rfl rfl (by decide) (by decide) hk1 hFc hP1 hD1
  have hK := (hK.sub (tys' := []) [] rfl).app hK1
  generalize H1 = H at hP hS ⊢
  have hP : va_P (dC, dI) vwCl [(h0, .inr (4, [.null, .null, .int 0])), (q_1, .inr (3, [.long 0, .long 1]))] H := hP
  have hD : va_D A [(h0, .inr (4, [.null, .null, .int 0])), (q_1, .inr (3, [.long 0, .long 1]))] := hD
  have hK : va_K (dC, dI) vwCl [] s := hK
  refine W.widen (k := 1) (n := 2) (by omega) (by omega) ?_
  refine va_putF (D := (dC, dI)) (ci := 4) (v := .ref q_1) (ty := .object "MeetingsAbove$Fraction") (C := RX4) (T := TX4) (N := 3) hx hb hts in_X4_init_X4 tyX4 tyX4_ok nmX4 hown hK hP hD hS 0 rfl rfl 0 (by decide) (hts (.fieldLink RX4 10 "MeetingsAbove$Nearest" "square" "LMeetingsAbove$Fraction;") (by decide +kernel)) (fun _ h9 => h9) rfl hin rfl (by decide +kernel) rfl rfl (Nat.le_of_ble_eq_true rfl) dX4_init_12 (fun H locs hP hD hS => ?_)
  have hP : va_P (dC, dI) vwCl [(h0, .inr (4, [.ref q_1, .null, .int 0])), (q_1, .inr (3, [.long 0, .long 1]))] H := hP
  have hD : va_D A [(h0, .inr (4, [.ref q_1, .null, .int 0])), (q_1, .inr (3, [.long 0, .long 1]))] := hD
  refine lv_aload_n hx hb dX4_init_15 rfl (lv_at hl 0 rfl) ?_
  refine va_new (ci := 3) (fs := [.long 0, .long 0]) (C := RX3) (T := TX3) (N := 2) hx hb hts in_X4_init_X3 tyX3 tyX3_ok hown (hts (.classLink RX4 7 RX3) (by decide +kernel)) (hts (.instantiable RX3 2) (by decide +kernel)) (hts (.initialized RX3) (by decide +kernel)) hK hP hD hS hA rfl (fun j hj => by rcases (show j = 0 ∨ j = 1 by omega) with rfl | rfl <;> rfl) (Nat.le_of_ble_eq_true rfl) (Nat.le_of_ble_eq_true rfl) dX4_init_16 (fun q_4 H hP hD hS => ?_)
  have hP : va_P (dC, dI) vwCl [(h0, .inr (4, [.ref q_1, .null, .int 0])), (q_1, .inr (3, [.long 0, .long 1])), (q_4, .inr (3, [.long 0, .long 0]))] H := hP
  have hD : va_D A [(h0, .inr (4, [.ref q_1, .null, .int 0])), (q_1, .inr (3, [.long 0, .long 1])), (q_4, .inr (3, [.long 0, .long 0]))] := hD
  refine W.widen (k := 2) (n := 4) (by omega) (by omega) ?_
  refine lv_dup hx hb dX4_init_19 rfl ?_
  have hPc := hP.sub (ws' := [(q_4, .inr (3, [.long 0, .long 0]))]) [2] rfl
  have hKc := hK.sub (tys' := []) [] rfl
  have hDc := hD.sub (ws' := [(q_4, .inr (3, [.long 0, .long 0]))]) [2] (by decide) rfl
  have hFc := va_free (wc := [(q_4, .inr (3, [.long 0, .long 0]))]) hD hS hA [2] rfl
  refine va_callv (va_runIN (As := []) (rest := [.ref q_4, .ref h0]) ⟨hx, hb, hml, hown, hts⟩ (c_X3_init l dC dI q_4 H.size) ⟨(va_cnB (host := RX8) 0 hts g_X4_init__X3_init_9 rfl rfl rfl (XN_X4_9 hN) (hts (.initialized RX3) (by decide +kernel)) (by decide +kernel) ⟨Nat.le_of_ble_eq_true rfl, Nat.le_of_ble_eq_true rfl⟩), rfl, (hts (.instanceMethod yX3_init) (by decide +kernel))⟩ ⟨fun a U g mk q => by obtain ⟨q0, q1, qP, qK, qD⟩ := q; exact ⟨q0, q1, qP, va_K.moved (u := U) (U := U.calling g mk a) (Vm.Alike.refl U.vm) qK, qD⟩, fun U hU hW => ⟨rfl, by rw [hU], by rw [hU]; exact hPc, va_K.moved hW.alike hKc, hDc.weaken (fun _ _ _ _ => trivial)⟩⟩ rfl rfl hl.1 rfl (lv_room (Nat.le_of_ble_eq_true rfl)) dX4_init_20 ⟨Nat.le_of_ble_eq_true rfl, Nat.le_of_ble_eq_true rfl⟩) hS (fun q _ h => hFc q h) hFc (fun u_5 t H1 locs ht hvm hw_6 hB hz1 hk1 hS => ?_)
  obtain ⟨hP1, hK1, hD1⟩ := hB
  rw [ht] at hP1
  have hK1 := va_K.moved hvm.symm hK1
  obtain ⟨hP, hD⟩ := va_join (wr := [(h0, .inr (4, [.ref q_1, .null, .int 0])), (q_1, .inr (3, [.long 0, .long 1]))]) (w1 := [(q_4, .inr (3, [.long 0, .long 1]))]) hP hD [2] [0, 1] rfl rfl (by decide) (by decide) hk1 hFc hP1 hD1
  have hK := (hK.sub (tys' := []) [] rfl).app hK1
  generalize H1 = H at hP hS ⊢
  have hP : va_P (dC, dI) vwCl [(h0, .inr (4, [.ref q_1, .null, .int 0])), (q_1, .inr (3, [.long 0, .long 1])), (q_4, .inr (3, [.long 0, .long 1]))] H := hP
  have hD : va_D A [(h0, .inr (4, [.ref q_1, .null, .int 0])), (q_1, .inr (3, [.long 0, .long 1])), (q_4, .inr (3, [.long 0, .long 1]))] := hD
  have hK : va_K (dC, dI) vwCl [] s := hK
  refine W.widen (k := 2) (n := 4) (by omega) (by omega) ?_
  refine va_putF (D := (dC, dI)) (ci := 4) (v := .ref q_4) (ty := .object "MeetingsAbove$Fraction") (C := RX4) (T := TX4) (N := 3) hx hb hts in_X4_init_X4 tyX4 tyX4_ok nmX4 hown hK hP hD hS 0 rfl rfl 1 (by decide) (hts (.fieldLink RX4 16 "MeetingsAbove$Nearest" "part" "LMeetingsAbove$Fraction;") (by decide +kernel)) (fun _ h9 => h9) rfl hin rfl (by decide +kernel) rfl rfl (Nat.le_of_ble_eq_true rfl) dX4_init_23 (fun H locs hP hD hS => ?_)
  have hP : va_P (dC, dI) vwCl [(h0, .inr (4, [.ref q_1, .ref q_4, .int 0])), (q_1, .inr (3, [.long 0, .long 1])), (q_4, .inr (3, [.long 0, .long 1]))] H := hP
  have hD : va_D A [(h0, .inr (4, [.ref q_1, .ref q_4, .int 0])), (q_1, .inr (3, [.long 0, .long 1])), (q_4, .inr (3, [.long 0, .long 1]))] := hD
  have hP9 := hP.sub (ws' := [(h0, .inr (4, [.ref q_1, .ref q_4, .int 0])), (q_1, .inr (3, [.long 0, .long 1])), (q_4, .inr (3, [.long 0, .long 1]))]) [0, 1, 2] rfl
  have hD9 := hD.sub (ws' := [(h0, .inr (4, [.ref q_1, .ref q_4, .int 0])), (q_1, .inr (3, [.long 0, .long 1])), (q_4, .inr (3, [.long 0, .long 1]))]) [0, 1, 2] (by decide) rfl
  have hK9 := hK.sub (tys' := []) [] rfl
  refine W.widen (k := 2) (n := 4) (by omega) (by omega) ?_
  exact W.vret hx hb hr (fun t ht hW => ⟨⟨(), rfl, trivial, q_1, q_4, by rw [ht]; exact hP9, va_K.moved hW.alike hK9, hD9⟩, hS.F ht⟩) hS.2.2 dX4_init_26
def wk_X6_init : List Cond := .code yX6_init cX6_init 1 none :: ([.code objectInit ⟨#[0xb1]⟩ 1 none, .methodLink RX6 3 objectInit, .instanceMethod objectInit, .arrayClass .int, .fieldLink RX6 9 "MeetingsAbove$Thing" "coords" "[I"] ++ wsX60)
theorem in_X6_init_X6 : ∀ w ∈ wsX60, w ∈ wk_X6_init := fun _ h => List.mem_cons_of_mem _ (List.mem_append_right _ h)
set_option maxHeartbeats 4000000 in
set_option maxRecDepth 100000 in
theorem c_X6_init (l : Launch) (dC : Nat → ClassId) (dI : Nat → Nat → Nat) (h0 : Nat) (sz : Nat) : Met l yX6_init wk_X6_init ({ frames := 1, cells := 1, slots := 36, locals := 12 }) (va_Pc [.ref h0] (fun U => U.heap.size = sz ∧ va_P (dC, dI) vwCl [(h0, .inr (6, [.null, .int 0, .int 0, .int 0, .int 0]))] U.heap ∧ va_K (dC, dI) vwCl [] U ∧ va_D (fun _ => True) [(h0, .inr (6, [.null, .int 0, .int 0, .int 0, .int 0]))])) (va_Qv (fun (_ : Unit) => True) (fun (_ : Unit) (t : State) => ∃ (x1 : Nat) (k1 : ClassId), va_P (dC, dI) vwCl [(h0, .inr (6, [.ref x1, .int 0, .int 0, .int 0, .int 0])), (x1, .inl (k1, 36, .inl (fun _ => 0)))] t.heap ∧ va_K (dC, dI) vwCl [(k1, .int)] t ∧ va_D (va_A [(h0, .inr (6, [.null, .int 0, .int 0, .int 0, .int 0]))] sz) [(h0, .inr (6, [.ref x1, .int 0, .int 0, .int 0, .int 0])), (x1, .inl (k1, 36, .inl (fun _ => 0)))]) (va_A [(h0, .inr (6, [.null, .int 0, .int 0, .int 0, .int 0]))] sz)) 1 36 (va_A [(h0, .inr (6, [.null, .int 0, .int 0, .int 0, .int 0]))] sz) := by
  refine Met.ofW (cc := cX6_init) (maxL := 1) (ret := none) (by decide) rfl ?_
  intro p e s m args below meth c s₁ B hml hv
  obtain ⟨rfl, hsz, hP, hK, hD0⟩ := hv
  have hx := B.exec
  have hb := B.bytes
  have hr := B.returns
  have hts := atoms_spec (ws := wk_X6_init) B.pre
  have hown : s.vm.findClass RX6 = some m.cls := findClass_of_methodNamed B.named
  have hlocks := B.notSynchronized
  have hin : meth.name = "<init>" := (name_of_methodNamed B.named B.method).1
  subst hsz
  have hD := hD0.self (sz := s.heap.size)
  generalize hAe : va_A [(h0, .inr (6, [.null, .int 0, .int 0, .int 0, .int 0]))] s.heap.size = A at hD ⊢
  have hA : ∀ q : Nat, s.heap.size ≤ q → A q := fun q h => by rw [← hAe]; exact Or.inr h
  have hS : va_S A s.heap s.heap [] := va_S.rf
  have hP : va_P (dC, dI) vwCl [(h0, .inr (6, [.null, .int 0, .int 0, .int 0, .int 0]))] s.heap := hP
  have hl := lv_entry ([.ref h0]) (n := 1) (Nat.le_of_ble_eq_true rfl)
  rw [lg_entry_eq]
  generalize (lg_sl ([.ref h0]) ++ List.replicate (1 - (lg_sl ([.ref h0])).length) Slot.unset).toArray = ls at hl ⊢
  have hl : lv_has ls 1 [(0, .ref h0)] := hl
  refine lv_aload_n hx hb dX6_init_0 rfl (lv_at hl 0 rfl) ?_
  refine W.objInit hx hb hown (hts (.methodLink RX6 3 objectInit) (by decide +kernel)) (hts (.instanceMethod objectInit) (by decide +kernel)) (hts _ (List.mem_of_getElem? (i := 1) rfl)) rfl (by rw [hml]; exact hl.1) rfl dX6_init_1 (Nat.le_of_ble_eq_true rfl) (Nat.le_of_ble_eq_true rfl) ?_
  refine W.eq (g2 := F0 m 4 ls []) rfl ?_
  refine lv_aload_n hx hb dX6_init_4 rfl (lv_at hl 0 rfl) ?_
  refine lv_bipush (v := 36) hx hb dX6_init_5 (by decide) ?_
  refine va_newa (atype := .int) (ty := .int) (N' := 36) (a0 := (36, .inl (fun _ => 0))) hx hb (hts (.arrayClass .int) (by decide +kernel)) rfl hK hP hD hS hA (fun _ => rfl) (by decide) (by decide) (by decide +kernel) (Nat.le_of_ble_eq_true rfl) (Nat.le_of_ble_eq_true rfl) dX6_init_7 (fun q_1 cA_2 H hK hP hD hS => ?_)
  have hK : va_K (dC, dI) vwCl [(cA_2, .int)] s := hK
  have hP : va_P (dC, dI) vwCl [(h0, .inr (6, [.null, .int 0, .int 0, .int 0, .int 0])), (q_1, .inl (cA_2, 36, .inl (fun _ => 0)))] H := hP
  have hD : va_D A [(h0, .inr (6, [.null, .int 0, .int 0, .int 0, .int 0])), (q_1, .inl (cA_2, 36, .inl (fun _ => 0)))] := hD
  refine W.widen (k := 1) (n := 36) (by omega) (by omega) ?_
  refine va_putF (D := (dC, dI)) (ci := 6) (v := .ref q_1) (ty := .array .int) (C := RX6) (T := TX6) (N := 5) hx hb hts in_X6_init_X6 tyX6 tyX6_ok nmX6 hown hK hP hD hS 0 rfl rfl 0 (by decide) (hts (.fieldLink RX6 9 "MeetingsAbove$Thing" "coords" "[I") (by decide +kernel)) (fun _ h9 => h9) rfl hin rfl (by decide +kernel) rfl rfl (Nat.le_of_ble_eq_true rfl) dX6_init_9 (fun H locs hP hD hS => ?_)
  have hP : va_P (dC, dI) vwCl [(h0, .inr (6, [.ref q_1, .int 0, .int 0, .int 0, .int 0])), (q_1, .inl (cA_2, 36, .inl (fun _ => 0)))] H := hP
  have hD : va_D A [(h0, .inr (6, [.ref q_1, .int 0, .int 0, .int 0, .int 0])), (q_1, .inl (cA_2, 36, .inl (fun _ => 0)))] := hD
  have hP9 := hP.sub (ws' := [(h0, .inr (6, [.ref q_1, .int 0, .int 0, .int 0, .int 0])), (q_1, .inl (cA_2, 36, .inl (fun _ => 0)))]) [0, 1] rfl
  have hD9 := hD.sub (ws' := [(h0, .inr (6, [.ref q_1, .int 0, .int 0, .int 0, .int 0])), (q_1, .inl (cA_2, 36, .inl (fun _ => 0)))]) [0, 1] (by decide) rfl
  have hK9 := hK.sub (tys' := [(cA_2, .int)]) [0] rfl
  refine W.widen (k := 1) (n := 36) (by omega) (by omega) ?_
  exact W.vret hx hb hr (fun t ht hW => ⟨⟨(), rfl, trivial, q_1, cA_2, by rw [ht]; exact hP9, va_K.moved hW.alike hK9, hD9⟩, hS.F ht⟩) hS.2.2 dX6_init_12
def wk_X1_init : List Cond := .code yX1_init cX1_init 1 none :: ([.code objectInit ⟨#[0xb1]⟩ 1 none, .methodLink RX1 3 objectInit, .instanceMethod objectInit, .classLink RX1 9 RX6, .fieldLink RX1 11 "MeetingsAbove$Catalogue" "all" "[LMeetingsAbove$Thing;"] ++ wsX10)
theorem in_X1_init_X1 : ∀ w ∈ wsX10, w ∈ wk_X1_init := fun _ h => List.mem_cons_of_mem _ (List.mem_append_right _ h)
set_option maxHeartbeats 4000000 in
set_option maxRecDepth 100000 in
theorem c_X1_init (l : Launch) (dC : Nat → ClassId) (dI : Nat → Nat → Nat) (h0 : Nat) (sz : Nat) : Met l yX1_init wk_X1_init ({ frames := 1, cells := 1, slots := 16, locals := 12 }) (va_Pc [.ref h0] (fun U => U.heap.size = sz ∧ va_P (dC, dI) vwCl [(h0, .inr (1, [.null, .int 0]))] U.heap ∧ va_K (dC, dI) vwCl [] U ∧ va_D (fun _ => True) [(h0, .inr (1, [.null, .int 0]))] ∧ XN U)) (va_Qv (fun (_ : Unit) => True) (fun (_ : Unit) (t : State) => ∃ (x1 : Nat) (k1 : ClassId), va_P (dC, dI) vwCl [(h0, .inr (1, [.ref x1, .int 0])), (x1, .inl (k1, 16, .inr (.inr (.inr (.inr (fun _ => none))))))] t.heap ∧ va_K (dC, dI) vwCl [(k1, .object "MeetingsAbove$Thing")] t ∧ va_D (va_A [(h0, .inr (1, [.null, .int 0]))] sz) [(h0, .inr (1, [.ref x1, .int 0])), (x1, .inl (k1, 16, .inr (.inr (.inr (.inr (fun _ => none))))))]) (va_A [(h0, .inr (1, [.null, .int 0]))] sz)) 1 16 (va_A [(h0, .inr (1, [.null, .int 0]))] sz) := by
  refine Met.ofW (cc := cX1_init) (maxL := 1) (ret := none) (by decide) rfl ?_
  intro p e s m args below meth c s₁ B hml hv
  obtain ⟨rfl, hsz, hP, hK, hD0, hN⟩ := hv
  have hx := B.exec
  have hb := B.bytes
  have hr := B.returns
  have hts := atoms_spec (ws := wk_X1_init) B.pre
  have hown : s.vm.findClass RX1 = some m.cls := findClass_of_methodNamed B.named
  have hlocks := B.notSynchronized
  have hin : meth.name = "<init>" := (name_of_methodNamed B.named B.method).1
  subst hsz
  have hD := hD0.self (sz := s.heap.size)
  generalize hAe : va_A [(h0, .inr (1, [.null, .int 0]))] s.heap.size = A at hD ⊢
  have hA : ∀ q : Nat, s.heap.size ≤ q → A q := fun q h => by rw [← hAe]; exact Or.inr h
  have hS : va_S A s.heap s.heap [] := va_S.rf
  have hP : va_P (dC, dI) vwCl [(h0, .inr (1, [.null, .int 0]))] s.heap := hP
  have hl := lv_entry ([.ref h0]) (n := 1) (Nat.le_of_ble_eq_true rfl)
  rw [lg_entry_eq]
  generalize (lg_sl ([.ref h0]) ++ List.replicate (1 - (lg_sl ([.ref h0])).length) Slot.unset).toArray = ls at hl ⊢
  have hl : lv_has ls 1 [(0, .ref h0)] := hl
  refine lv_aload_n hx hb dX1_init_0 rfl (lv_at hl 0 rfl) ?_
  refine W.objInit hx hb hown (hts (.methodLink RX1 3 objectInit) (by decide +kernel)) (hts (.instanceMethod objectInit) (by decide +kernel)) (hts _ (List.mem_of_getElem? (i := 1) rfl)) rfl (by rw [hml]; exact hl.1) rfl dX1_init_1 (Nat.le_of_ble_eq_true rfl) (Nat.le_of_ble_eq_true rfl) ?_
  refine W.eq (g2 := F0 m 4 ls []) rfl ?_
  refine lv_aload_n hx hb dX1_init_4 rfl (lv_at hl 0 rfl) ?_
  refine lv_bipush (v := 16) hx hb dX1_init_5 (by decide) ?_
  refine va_newq (C := "MeetingsAbove$Thing") hx hb hown (hts (.classLink RX1 9 RX6) (by decide +kernel)) (XN_ao_X6 hN) hK hP hD hS hA (N' := 16) (by decide) (by decide) (by decide) (Nat.le_of_ble_eq_true rfl) (Nat.le_of_ble_eq_true rfl) dX1_init_7 (fun q_1 cA_2 H hK hP hD hS => ?_)
  have hK : va_K (dC, dI) vwCl [(cA_2, .object "MeetingsAbove$Thing")] s := hK
  have hP : va_P (dC, dI) vwCl [(h0, .inr (1, [.null, .int 0])), (q_1, .inl (cA_2, 16, .inr (.inr (.inr (.inr (fun _ => none))))))] H := hP
  have hD : va_D A [(h0, .inr (1, [.null, .int 0])), (q_1, .inl (cA_2, 16, .inr (.inr (.inr (.inr (fun _ => none))))))] := hD
  refine W.widen (k := 1) (n := 16) (by omega) (by omega) ?_
  refine va_putF (D := (dC, dI)) (ci := 1) (v := .ref q_1) (ty := .array (.object "MeetingsAbove$Thing")) (C := RX1) (T := TX1) (N := 2) hx hb hts in_X1_init_X1 tyX1 tyX1_ok nmX1 hown hK hP hD hS 0 rfl rfl 0 (by decide) (hts (.fieldLink RX1 11 "MeetingsAbove$Catalogue" "all" "[LMeetingsAbove$Thing;") (by decide +kernel)) (fun _ h9 => h9) rfl hin rfl (by decide +kernel) rfl rfl (Nat.le_of_ble_eq_true rfl) dX1_init_10 (fun H locs hP hD hS => ?_)
  have hP : va_P (dC, dI) vwCl [(h0, .inr (1, [.ref q_1, .int 0])), (q_1, .inl (cA_2, 16, .inr (.inr (.inr (.inr (fun _ => none))))))] H := hP
  have hD : va_D A [(h0, .inr (1, [.ref q_1, .int 0])), (q_1, .inl (cA_2, 16, .inr (.inr (.inr (.inr (fun _ => none))))))] := hD
  have hP9 := hP.sub (ws' := [(h0, .inr (1, [.ref q_1, .int 0])), (q_1, .inl (cA_2, 16, .inr (.inr (.inr (.inr (fun _ => none))))))]) [0, 1] rfl
  have hD9 := hD.sub (ws' := [(h0, .inr (1, [.ref q_1, .int 0])), (q_1, .inl (cA_2, 16, .inr (.inr (.inr (.inr (fun _ => none))))))]) [0, 1] (by decide) rfl
  have hK9 := hK.sub (tys' := [(cA_2, .object "MeetingsAbove$Thing")]) [0] rfl
  refine W.widen (k := 1) (n := 16) (by omega) (by omega) ?_
  exact W.vret hx hb hr (fun t ht hW => ⟨⟨(), rfl, trivial, q_1, cA_2, by rw [ht]; exact hP9, va_K.moved hW.alike hK9, hD9⟩, hS.F ht⟩) hS.2.2 dX1_init_13
def wk_X2_init : List Cond := .code yX2_init cX2_init 5 none :: ([.code objectInit ⟨#[0xb1]⟩ 1 none, .methodLink RX2 1 objectInit, .instanceMethod objectInit, .fieldLink RX2 7 "MeetingsAbove$Dot" "step" "I", .fieldLink RX2 13 "MeetingsAbove$Dot" "x" "I", .fieldLink RX2 16 "MeetingsAbove$Dot" "y" "I", .fieldLink RX2 19 "MeetingsAbove$Dot" "z" "I"] ++ wsX20)
theorem in_X2_init_X2 : ∀ w ∈ wsX20, w ∈ wk_X2_init := fun _ h => List.mem_cons_of_mem _ (List.mem_append_right _ h)
set_option maxHeartbeats 4000000 in
set_option maxRecDepth 100000 in
theorem c_X2_init (l : Launch) (dC : Nat → ClassId) (dI : Nat → Nat → Nat) (h0 : Nat) (p1 : Int32) (p2 : Int32) (p3 : Int32) (p4 : Int32) (sz : Nat) : Met l yX2_init wk_X2_init ({ frames := 1, cells := 0, slots := 0, locals := 12 }) (va_Pc [.ref h0, .int p1, .int p2, .int p3, .int p4] (fun U => U.heap.size = sz ∧ va_P (dC, dI) vwCl [(h0, .inr (2, [.int 0, .int 0, .int 0, .int 0]))] U.heap ∧ va_K (dC, dI) vwCl [] U ∧ va_D (fun _ => True) [(h0, .inr (2, [.int 0, .int 0, .int 0, .int 0]))])) (va_Qv (fun (_ : Unit) => True) (fun (_ : Unit) (t : State) => va_P (dC, dI) vwCl [(h0, .inr (2, [.int p1, .int p2, .int p3, .int p4]))] t.heap ∧ va_K (dC, dI) vwCl [] t ∧ va_D (va_A [(h0, .inr (2, [.int 0, .int 0, .int 0, .int 0]))] sz) [(h0, .inr (2, [.int p1, .int p2, .int p3, .int p4]))]) (va_A [(h0, .inr (2, [.int 0, .int 0, .int 0, .int 0]))] sz)) 0 0 (va_A [(h0, .inr (2, [.int 0, .int 0, .int 0, .int 0]))] sz) := by
  refine Met.ofW (cc := cX2_init) (maxL := 5) (ret := none) (by decide) rfl ?_
  intro p e s m args below meth c s₁ B hml hv
  obtain ⟨rfl, hsz, hP, hK, hD0⟩ := hv
  have hx := B.exec
  have hb := B.bytes
  have hr := B.returns
  have hts := atoms_spec (ws := wk_X2_init) B.pre
  have hown : s.vm.findClass RX2 = some m.cls := findClass_of_methodNamed B.named
  have hlocks := B.notSynchronized
  have hin : meth.name = "<init>" := (name_of_methodNamed B.named B.method).1
  subst hsz
  have hD := hD0.self (sz := s.heap.size)
  generalize hAe : va_A [(h0, .inr (2, [.int 0, .int 0, .int 0, .int 0]))] s.heap.size = A at hD ⊢
  have hA : ∀ q : Nat, s.heap.size ≤ q → A q := fun q h => by rw [← hAe]; exact Or.inr h
  have hS : va_S A s.heap s.heap [] := va_S.rf
  have hP : va_P (dC, dI) vwCl [(h0, .inr (2, [.int 0, .int 0, .int 0, .int 0]))] s.heap := hP
  have hl := lv_entry ([.ref h0, .int p1, .int p2, .int p3, .int p4]) (n := 5) (Nat.le_of_ble_eq_true rfl)
  rw [lg_entry_eq]
  generalize (lg_sl ([.ref h0, .int p1, .int p2, .int p3, .int p4]) ++ List.replicate (5 - (lg_sl ([.ref h0, .int p1, .int p2, .int p3, .int p4])).length) Slot.unset).toArray = ls at hl ⊢
  have hl : lv_has ls 5 [(0, .ref h0), (1, .int p1), (2, .int p2), (3, .int p3), (4, .int p4)] := hl
  refine lv_aload_n hx hb dX2_init_0 rfl (lv_at hl 0 rfl) ?_
  refine W.objInit hx hb hown (hts (.methodLink RX2 1 objectInit) (by decide +kernel)) (hts (.instanceMethod objectInit) (by decide +kernel)) (hts _ (List.mem_of_getElem? (i := 1) rfl)) rfl (by rw [hml]; exact hl.1) rfl dX2_init_1 (Nat.le_of_ble_eq_true rfl) (Nat.le_of_ble_eq_true rfl) ?_
  refine W.eq (g2 := F0 m 4 ls []) rfl ?_
  refine lv_aload_n hx hb dX2_init_4 rfl (lv_at hl 0 rfl) ?_
  refine lv_iload_n hx hb dX2_init_5 rfl (lv_at hl 1 rfl) ?_
  refine va_putF (D := (dC, dI)) (ci := 2) (v := .int p1) (ty := .int) (C := RX2) (T := TX2) (N := 4) hx hb hts in_X2_init_X2 tyX2 tyX2_ok nmX2 hown hK hP hD hS 0 rfl rfl 0 (by decide) (hts (.fieldLink RX2 7 "MeetingsAbove$Dot" "step" "I") (by decide +kernel)) (fun _ h9 => h9) rfl hin rfl (by decide +kernel) rfl rfl (Nat.le_of_ble_eq_true rfl) dX2_init_6 (fun H locs hP hD hS => ?_)
  have hP : va_P (dC, dI) vwCl [(h0, .inr (2, [.int p1, .int 0, .int 0, .int 0]))] H := hP
  have hD : va_D A [(h0, .inr (2, [.int p1, .int 0, .int 0, .int 0]))] := hD
  refine lv_aload_n hx hb dX2_init_9 rfl (lv_at hl 0 rfl) ?_
  refine lv_iload_n hx hb dX2_init_10 rfl (lv_at hl 2 rfl) ?_
  refine va_putF (D := (dC, dI)) (ci := 2) (v := .int p2) (ty := .int) (C := RX2) (T := TX2) (N := 4) hx hb hts in_X2_init_X2 tyX2 tyX2_ok nmX2 hown hK hP hD hS 0 rfl rfl 1 (by decide) (hts (.fieldLink RX2 13 "MeetingsAbove$Dot" "x" "I") (by decide +kernel)) (fun _ h9 => h9) rfl hin rfl (by decide +kernel) rfl rfl (Nat.le_of_ble_eq_true rfl) dX2_init_11 (fun H locs hP hD hS => ?_)
  have hP : va_P (dC, dI) vwCl [(h0, .inr (2, [.int p1, .int p2, .int 0, .int 0]))] H := hP
  have hD : va_D A [(h0, .inr (2, [.int p1, .int p2, .int 0, .int 0]))] := hD
  refine lv_aload_n hx hb dX2_init_14 rfl (lv_at hl 0 rfl) ?_
  refine lv_iload_n hx hb dX2_init_15 rfl (lv_at hl 3 rfl) ?_
  refine va_putF (D := (dC, dI)) (ci := 2) (v := .int p3) (ty := .int) (C := RX2) (T := TX2) (N := 4) hx hb hts in_X2_init_X2 tyX2 tyX2_ok nmX2 hown hK hP hD hS 0 rfl rfl 2 (by decide) (hts (.fieldLink RX2 16 "MeetingsAbove$Dot" "y" "I") (by decide +kernel)) (fun _ h9 => h9) rfl hin rfl (by decide +kernel) rfl rfl (Nat.le_of_ble_eq_true rfl) dX2_init_16 (fun H locs hP hD hS => ?_)
  have hP : va_P (dC, dI) vwCl [(h0, .inr (2, [.int p1, .int p2, .int p3, .int 0]))] H := hP
  have hD : va_D A [(h0, .inr (2, [.int p1, .int p2, .int p3, .int 0]))] := hD
  refine lv_aload_n hx hb dX2_init_19 rfl (lv_at hl 0 rfl) ?_
  refine lv_iload hx hb dX2_init_20 (lv_at hl 4 rfl) ?_
  refine va_putF (D := (dC, dI)) (ci := 2) (v := .int p4) (ty := .int) (C := RX2) (T := TX2) (N := 4) hx hb hts in_X2_init_X2 tyX2 tyX2_ok nmX2 hown hK hP hD hS 0 rfl rfl 3 (by decide) (hts (.fieldLink RX2 19 "MeetingsAbove$Dot" "z" "I") (by decide +kernel)) (fun _ h9 => h9) rfl hin rfl (by decide +kernel) rfl rfl (Nat.le_of_ble_eq_true rfl) dX2_init_22 (fun H locs hP hD hS => ?_)
  have hP : va_P (dC, dI) vwCl [(h0, .inr (2, [.int p1, .int p2, .int p3, .int p4]))] H := hP
  have hD : va_D A [(h0, .inr (2, [.int p1, .int p2, .int p3, .int p4]))] := hD
  have hP9 := hP.sub (ws' := [(h0, .inr (2, [.int p1, .int p2, .int p3, .int p4]))]) [0] rfl
  have hD9 := hD.sub (ws' := [(h0, .inr (2, [.int p1, .int p2, .int p3, .int p4]))]) [0] (by decide) rfl
  have hK9 := hK.sub (tys' := []) [] rfl
  refine W.widen (k := 0) (n := 0) (by omega) (by omega) ?_
  exact W.vret hx hb hr (fun t ht hW => ⟨⟨(), rfl, trivial, by rw [ht]; exact hP9, va_K.moved hW.alike hK9, hD9⟩, hS.F ht⟩) hS.2.2 dX2_init_25
end
