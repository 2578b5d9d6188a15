section
-- ===== PART A: goes FIRST, ahead of the names: the tables' words, and 'selects' of the private methods out of them =====
/-- a private method of a class that the tables say can be made, by its rows of tables_1 -/
def lw_okq (q : MethodName × Nat) : Prop := (q.1.cls ≠ "java/lang/invoke/MethodHandle" ∧ q.1.cls ≠ "java/lang/invoke/VarHandle") ∧ Cond.instantiable q.1.cls q.2 ∈ tables_1 ∧ Cond.privateMethod q.1 ∈ tables_1 ∧ Cond.instanceMethod q.1 ∈ tables_1
theorem lw_p0 : lw_okq (⟨"WheelWorks$Yard", "markBlocked", "()V"⟩, 5) := ⟨⟨by decide +kernel, by decide +kernel⟩, List.mem_of_getElem? (i := 78) (by decide +kernel), List.mem_of_getElem? (i := 142) (by decide +kernel), List.mem_of_getElem? (i := 143) (by decide +kernel)⟩
theorem lw_p1 : lw_okq (⟨"WheelWorks", "limitsOf", "(I)LWheelWorks$KindLimits;"⟩, 4) := ⟨⟨by decide +kernel, by decide +kernel⟩, List.mem_of_getElem? (i := 26) (by decide +kernel), List.mem_of_getElem? (i := 203) (by decide +kernel), List.mem_of_getElem? (i := 204) (by decide +kernel)⟩
theorem lw_p2 : lw_okq (⟨"java/lang/Throwable", "fillInStackTrace", "(I)Ljava/lang/Throwable;"⟩, 6) := ⟨⟨by decide +kernel, by decide +kernel⟩, List.mem_of_getElem? (i := 245) (by decide +kernel), List.mem_of_getElem? (i := 243) (by decide +kernel), List.mem_of_getElem? (i := 244) (by decide +kernel)⟩
theorem lw_p3 : lw_okq (⟨"java/util/ArrayList", "add", "(Ljava/lang/Object;[Ljava/lang/Object;I)V"⟩, 3) := ⟨⟨by decide +kernel, by decide +kernel⟩, List.mem_of_getElem? (i := 34) (by decide +kernel), List.mem_of_getElem? (i := 399) (by decide +kernel), List.mem_of_getElem? (i := 400) (by decide +kernel)⟩
theorem lw_p4 : lw_okq (⟨"java/util/ArrayList", "grow", "()[Ljava/lang/Object;"⟩, 3) := ⟨⟨by decide +kernel, by decide +kernel⟩, List.mem_of_getElem? (i := 34) (by decide +kernel), List.mem_of_getElem? (i := 403) (by decide +kernel), List.mem_of_getElem? (i := 404) (by decide +kernel)⟩
theorem lw_p5 : lw_okq (⟨"java/util/ArrayList", "grow", "(I)[Ljava/lang/Object;"⟩, 3) := ⟨⟨by decide +kernel, by decide +kernel⟩, List.mem_of_getElem? (i := 34) (by decide +kernel), List.mem_of_getElem? (i := 407) (by decide +kernel), List.mem_of_getElem? (i := 408) (by decide +kernel)⟩
theorem lw_p6 : lw_okq (⟨"WheelWorks", "existing", "(I)LWheelWorks$Part;"⟩, 4) := ⟨⟨by decide +kernel, by decide +kernel⟩, List.mem_of_getElem? (i := 26) (by decide +kernel), List.mem_of_getElem? (i := 469) (by decide +kernel), List.mem_of_getElem? (i := 470) (by decide +kernel)⟩
theorem lw_p7 : lw_okq (⟨"WheelWorks", "inside", "(LWheelWorks$Part;I)I"⟩, 4) := ⟨⟨by decide +kernel, by decide +kernel⟩, List.mem_of_getElem? (i := 26) (by decide +kernel), List.mem_of_getElem? (i := 507) (by decide +kernel), List.mem_of_getElem? (i := 508) (by decide +kernel)⟩
theorem lw_p8 : lw_okq (⟨"WheelWorks$Log", "add", "(LWheelWorks$Event;)V"⟩, 2) := ⟨⟨by decide +kernel, by decide +kernel⟩, List.mem_of_getElem? (i := 62) (by decide +kernel), List.mem_of_getElem? (i := 540) (by decide +kernel), List.mem_of_getElem? (i := 541) (by decide +kernel)⟩
theorem lw_p9 : lw_okq (⟨"WheelWorks", "inside", "(LWheelWorks$Part;)I"⟩, 4) := ⟨⟨by decide +kernel, by decide +kernel⟩, List.mem_of_getElem? (i := 26) (by decide +kernel), List.mem_of_getElem? (i := 547) (by decide +kernel), List.mem_of_getElem? (i := 548) (by decide +kernel)⟩
theorem lw_p10 : lw_okq (⟨"WheelWorks", "existingTrain", "(I)LWheelWorks$Part;"⟩, 4) := ⟨⟨by decide +kernel, by decide +kernel⟩, List.mem_of_getElem? (i := 26) (by decide +kernel), List.mem_of_getElem? (i := 579) (by decide +kernel), List.mem_of_getElem? (i := 580) (by decide +kernel)⟩
theorem lw_p11 : lw_okq (⟨"WheelWorks$Part", "growFlaw", "(I)V"⟩, 18) := ⟨⟨by decide +kernel, by decide +kernel⟩, List.mem_of_getElem? (i := 296) (by decide +kernel), List.mem_of_getElem? (i := 604) (by decide +kernel), List.mem_of_getElem? (i := 605) (by decide +kernel)⟩
theorem lw_p12 : lw_okq (⟨"WheelWorks", "quarantineTree", "(LWheelWorks$Part;)V"⟩, 4) := ⟨⟨by decide +kernel, by decide +kernel⟩, List.mem_of_getElem? (i := 26) (by decide +kernel), List.mem_of_getElem? (i := 608) (by decide +kernel), List.mem_of_getElem? (i := 609) (by decide +kernel)⟩
theorem lw_p13 : lw_okq (⟨"WheelWorks", "wheelIn", "(LWheelWorks$Part;I)LWheelWorks$Wheel;"⟩, 4) := ⟨⟨by decide +kernel, by decide +kernel⟩, List.mem_of_getElem? (i := 26) (by decide +kernel), List.mem_of_getElem? (i := 620) (by decide +kernel), List.mem_of_getElem? (i := 621) (by decide +kernel)⟩
theorem lw_p14 : lw_okq (⟨"WheelWorks", "existingWheel", "(I)LWheelWorks$Wheel;"⟩, 4) := ⟨⟨by decide +kernel, by decide +kernel⟩, List.mem_of_getElem? (i := 26) (by decide +kernel), List.mem_of_getElem? (i := 637) (by decide +kernel), List.mem_of_getElem? (i := 638) (by decide +kernel)⟩
theorem lw_p15 : lw_okq (⟨"WheelWorks", "firstBar", "(LWheelWorks$Part;)I"⟩, 4) := ⟨⟨by decide +kernel, by decide +kernel⟩, List.mem_of_getElem? (i := 26) (by decide +kernel), List.mem_of_getElem? (i := 704) (by decide +kernel), List.mem_of_getElem? (i := 705) (by decide +kernel)⟩
def lw_privs_1 : List (MethodName × Nat) := [(⟨"WheelWorks$Yard", "markBlocked", "()V"⟩, 5), (⟨"WheelWorks", "limitsOf", "(I)LWheelWorks$KindLimits;"⟩, 4), (⟨"java/lang/Throwable", "fillInStackTrace", "(I)Ljava/lang/Throwable;"⟩, 6), (⟨"java/util/ArrayList", "add", "(Ljava/lang/Object;[Ljava/lang/Object;I)V"⟩, 3), (⟨"java/util/ArrayList", "grow", "()[Ljava/lang/Object;"⟩, 3), (⟨"java/util/ArrayList", "grow", "(I)[Ljava/lang/Object;"⟩, 3), (⟨"WheelWorks", "existing", "(I)LWheelWorks$Part;"⟩, 4), (⟨"WheelWorks", "inside", "(LWheelWorks$Part;I)I"⟩, 4), (⟨"WheelWorks$Log", "add", "(LWheelWorks$Event;)V"⟩, 2), (⟨"WheelWorks", "inside", "(LWheelWorks$Part;)I"⟩, 4), (⟨"WheelWorks", "existingTrain", "(I)LWheelWorks$Part;"⟩, 4), (⟨"WheelWorks$Part", "growFlaw", "(I)V"⟩, 18), (⟨"WheelWorks", "quarantineTree", "(LWheelWorks$Part;)V"⟩, 4), (⟨"WheelWorks", "wheelIn", "(LWheelWorks$Part;I)LWheelWorks$Wheel;"⟩, 4), (⟨"WheelWorks", "existingWheel", "(I)LWheelWorks$Wheel;"⟩, 4), (⟨"WheelWorks", "firstBar", "(LWheelWorks$Part;)I"⟩, 4)]
theorem lw_r1 : ∀ q ∈ lw_privs_1, lw_okq q := List.forall_mem_cons.mpr ⟨lw_p0, List.forall_mem_cons.mpr ⟨lw_p1, List.forall_mem_cons.mpr ⟨lw_p2, List.forall_mem_cons.mpr ⟨lw_p3, List.forall_mem_cons.mpr ⟨lw_p4, List.forall_mem_cons.mpr ⟨lw_p5, List.forall_mem_cons.mpr ⟨lw_p6, List.forall_mem_cons.mpr ⟨lw_p7, List.forall_mem_cons.mpr ⟨lw_p8, List.forall_mem_cons.mpr ⟨lw_p9, List.forall_mem_cons.mpr ⟨lw_p10, List.forall_mem_cons.mpr ⟨lw_p11, List.forall_mem_cons.mpr ⟨lw_p12, List.forall_mem_cons.mpr ⟨lw_p13, List.forall_mem_cons.mpr ⟨lw_p14, List.forall_mem_cons.mpr ⟨lw_p15, fun _ h => absurd h List.not_mem_nil⟩⟩⟩⟩⟩⟩⟩⟩⟩⟩⟩⟩⟩⟩⟩⟩
theorem lw_p16 : lw_okq (⟨"WheelWorks", "lowestBarring", "(LWheelWorks$Part;I)I"⟩, 4) := ⟨⟨by decide +kernel, by decide +kernel⟩, List.mem_of_getElem? (i := 26) (by decide +kernel), List.mem_of_getElem? (i := 708) (by decide +kernel), List.mem_of_getElem? (i := 709) (by decide +kernel)⟩
theorem lw_p17 : lw_okq (⟨"WheelWorks", "isSo", "(LWheelWorks$Part;I)Z"⟩, 4) := ⟨⟨by decide +kernel, by decide +kernel⟩, List.mem_of_getElem? (i := 26) (by decide +kernel), List.mem_of_getElem? (i := 712) (by decide +kernel), List.mem_of_getElem? (i := 713) (by decide +kernel)⟩
theorem lw_p18 : lw_okq (⟨"WheelWorks", "hasEmptyPlace", "(LWheelWorks$Part;)Z"⟩, 4) := ⟨⟨by decide +kernel, by decide +kernel⟩, List.mem_of_getElem? (i := 26) (by decide +kernel), List.mem_of_getElem? (i := 716) (by decide +kernel), List.mem_of_getElem? (i := 717) (by decide +kernel)⟩
theorem lw_p19 : lw_okq (⟨"WheelWorks", "isApart", "(LWheelWorks$Part;)Z"⟩, 4) := ⟨⟨by decide +kernel, by decide +kernel⟩, List.mem_of_getElem? (i := 26) (by decide +kernel), List.mem_of_getElem? (i := 724) (by decide +kernel), List.mem_of_getElem? (i := 725) (by decide +kernel)⟩
theorem lw_p20 : lw_okq (⟨"WheelWorks", "spreadIn", "(LWheelWorks$Part;)I"⟩, 4) := ⟨⟨by decide +kernel, by decide +kernel⟩, List.mem_of_getElem? (i := 26) (by decide +kernel), List.mem_of_getElem? (i := 728) (by decide +kernel), List.mem_of_getElem? (i := 729) (by decide +kernel)⟩
theorem lw_p21 : lw_okq (⟨"java/util/ArrayList", "fastRemove", "([Ljava/lang/Object;I)V"⟩, 3) := ⟨⟨by decide +kernel, by decide +kernel⟩, List.mem_of_getElem? (i := 34) (by decide +kernel), List.mem_of_getElem? (i := 796) (by decide +kernel), List.mem_of_getElem? (i := 797) (by decide +kernel)⟩
theorem lw_p22 : lw_okq (⟨"WheelWorks$Log", "topThen", "(I)I"⟩, 2) := ⟨⟨by decide +kernel, by decide +kernel⟩, List.mem_of_getElem? (i := 62) (by decide +kernel), List.mem_of_getElem? (i := 858) (by decide +kernel), List.mem_of_getElem? (i := 859) (by decide +kernel)⟩
theorem lw_p23 : lw_okq (⟨"WheelWorks$Log", "isPart", "(I)Z"⟩, 2) := ⟨⟨by decide +kernel, by decide +kernel⟩, List.mem_of_getElem? (i := 62) (by decide +kernel), List.mem_of_getElem? (i := 862) (by decide +kernel), List.mem_of_getElem? (i := 863) (by decide +kernel)⟩
theorem lw_p24 : lw_okq (⟨"WheelWorksModel", "isPart", "(I)Z"⟩, 33) := ⟨⟨by decide +kernel, by decide +kernel⟩, List.mem_of_getElem? (i := 914) (by decide +kernel), List.mem_of_getElem? (i := 1041) (by decide +kernel), List.mem_of_getElem? (i := 1042) (by decide +kernel)⟩
theorem lw_p25 : lw_okq (⟨"WheelWorksModel", "isBound", "(I)Z"⟩, 33) := ⟨⟨by decide +kernel, by decide +kernel⟩, List.mem_of_getElem? (i := 914) (by decide +kernel), List.mem_of_getElem? (i := 1048) (by decide +kernel), List.mem_of_getElem? (i := 1049) (by decide +kernel)⟩
theorem lw_p26 : lw_okq (⟨"WheelWorksModel", "headOf", "(I)I"⟩, 33) := ⟨⟨by decide +kernel, by decide +kernel⟩, List.mem_of_getElem? (i := 914) (by decide +kernel), List.mem_of_getElem? (i := 1052) (by decide +kernel), List.mem_of_getElem? (i := 1053) (by decide +kernel)⟩
theorem lw_p27 : lw_okq (⟨"WheelWorksModel", "inside", "(II)I"⟩, 33) := ⟨⟨by decide +kernel, by decide +kernel⟩, List.mem_of_getElem? (i := 914) (by decide +kernel), List.mem_of_getElem? (i := 1056) (by decide +kernel), List.mem_of_getElem? (i := 1057) (by decide +kernel)⟩
theorem lw_p28 : lw_okq (⟨"WheelWorksModel", "moves", "(II)V"⟩, 33) := ⟨⟨by decide +kernel, by decide +kernel⟩, List.mem_of_getElem? (i := 914) (by decide +kernel), List.mem_of_getElem? (i := 1060) (by decide +kernel), List.mem_of_getElem? (i := 1061) (by decide +kernel)⟩
theorem lw_p29 : lw_okq (⟨"WheelWorksModel", "ends", "(I)V"⟩, 33) := ⟨⟨by decide +kernel, by decide +kernel⟩, List.mem_of_getElem? (i := 914) (by decide +kernel), List.mem_of_getElem? (i := 1064) (by decide +kernel), List.mem_of_getElem? (i := 1065) (by decide +kernel)⟩
theorem lw_p30 : lw_okq (⟨"WheelWorksModel", "waits", "(I)Z"⟩, 33) := ⟨⟨by decide +kernel, by decide +kernel⟩, List.mem_of_getElem? (i := 914) (by decide +kernel), List.mem_of_getElem? (i := 1076) (by decide +kernel), List.mem_of_getElem? (i := 1077) (by decide +kernel)⟩
theorem lw_p31 : lw_okq (⟨"WheelWorksModel", "kindCode", "(II)I"⟩, 33) := ⟨⟨by decide +kernel, by decide +kernel⟩, List.mem_of_getElem? (i := 914) (by decide +kernel), List.mem_of_getElem? (i := 1084) (by decide +kernel), List.mem_of_getElem? (i := 1085) (by decide +kernel)⟩
def lw_privs_2 : List (MethodName × Nat) := [(⟨"WheelWorks", "lowestBarring", "(LWheelWorks$Part;I)I"⟩, 4), (⟨"WheelWorks", "isSo", "(LWheelWorks$Part;I)Z"⟩, 4), (⟨"WheelWorks", "hasEmptyPlace", "(LWheelWorks$Part;)Z"⟩, 4), (⟨"WheelWorks", "isApart", "(LWheelWorks$Part;)Z"⟩, 4), (⟨"WheelWorks", "spreadIn", "(LWheelWorks$Part;)I"⟩, 4), (⟨"java/util/ArrayList", "fastRemove", "([Ljava/lang/Object;I)V"⟩, 3), (⟨"WheelWorks$Log", "topThen", "(I)I"⟩, 2), (⟨"WheelWorks$Log", "isPart", "(I)Z"⟩, 2), (⟨"WheelWorksModel", "isPart", "(I)Z"⟩, 33), (⟨"WheelWorksModel", "isBound", "(I)Z"⟩, 33), (⟨"WheelWorksModel", "headOf", "(I)I"⟩, 33), (⟨"WheelWorksModel", "inside", "(II)I"⟩, 33), (⟨"WheelWorksModel", "moves", "(II)V"⟩, 33), (⟨"WheelWorksModel", "ends", "(I)V"⟩, 33), (⟨"WheelWorksModel", "waits", "(I)Z"⟩, 33), (⟨"WheelWorksModel", "kindCode", "(II)I"⟩, 33)]
theorem lw_r2 : ∀ q ∈ lw_privs_2, lw_okq q := List.forall_mem_cons.mpr ⟨lw_p16, List.forall_mem_cons.mpr ⟨lw_p17, List.forall_mem_cons.mpr ⟨lw_p18, List.forall_mem_cons.mpr ⟨lw_p19, List.forall_mem_cons.mpr ⟨lw_p20, List.forall_mem_cons.mpr ⟨lw_p21, List.forall_mem_cons.mpr ⟨lw_p22, List.forall_mem_cons.mpr ⟨lw_p23, List.forall_mem_cons.mpr ⟨lw_p24, List.forall_mem_cons.mpr ⟨lw_p25, List.forall_mem_cons.mpr ⟨lw_p26, List.forall_mem_cons.mpr ⟨lw_p27, List.forall_mem_cons.mpr ⟨lw_p28, List.forall_mem_cons.mpr ⟨lw_p29, List.forall_mem_cons.mpr ⟨lw_p30, List.forall_mem_cons.mpr ⟨lw_p31, fun _ h => absurd h List.not_mem_nil⟩⟩⟩⟩⟩⟩⟩⟩⟩⟩⟩⟩⟩⟩⟩⟩
theorem lw_p32 : lw_okq (⟨"WheelWorksModel", "isIn", "(II)Z"⟩, 33) := ⟨⟨by decide +kernel, by decide +kernel⟩, List.mem_of_getElem? (i := 914) (by decide +kernel), List.mem_of_getElem? (i := 1088) (by decide +kernel), List.mem_of_getElem? (i := 1089) (by decide +kernel)⟩
theorem lw_p33 : lw_okq (⟨"WheelWorksModel", "goes", "(III)V"⟩, 33) := ⟨⟨by decide +kernel, by decide +kernel⟩, List.mem_of_getElem? (i := 914) (by decide +kernel), List.mem_of_getElem? (i := 1092) (by decide +kernel), List.mem_of_getElem? (i := 1093) (by decide +kernel)⟩
theorem lw_p34 : lw_okq (⟨"WheelWorksModel", "wheelsetOf", "(IZ)I"⟩, 33) := ⟨⟨by decide +kernel, by decide +kernel⟩, List.mem_of_getElem? (i := 914) (by decide +kernel), List.mem_of_getElem? (i := 1103) (by decide +kernel), List.mem_of_getElem? (i := 1104) (by decide +kernel)⟩
theorem lw_p35 : lw_okq (⟨"WheelWorksModel", "trues", "(I)I"⟩, 33) := ⟨⟨by decide +kernel, by decide +kernel⟩, List.mem_of_getElem? (i := 914) (by decide +kernel), List.mem_of_getElem? (i := 1107) (by decide +kernel), List.mem_of_getElem? (i := 1108) (by decide +kernel)⟩
theorem lw_p36 : lw_okq (⟨"WheelWorksModel", "holds", "(I)V"⟩, 33) := ⟨⟨by decide +kernel, by decide +kernel⟩, List.mem_of_getElem? (i := 914) (by decide +kernel), List.mem_of_getElem? (i := 1131) (by decide +kernel), List.mem_of_getElem? (i := 1132) (by decide +kernel)⟩
theorem lw_p37 : lw_okq (⟨"WheelWorksModel", "barOf", "(I)I"⟩, 33) := ⟨⟨by decide +kernel, by decide +kernel⟩, List.mem_of_getElem? (i := 914) (by decide +kernel), List.mem_of_getElem? (i := 1147) (by decide +kernel), List.mem_of_getElem? (i := 1148) (by decide +kernel)⟩
theorem lw_p38 : lw_okq (⟨"WheelWorksModel", "barsBy", "(II)Z"⟩, 33) := ⟨⟨by decide +kernel, by decide +kernel⟩, List.mem_of_getElem? (i := 914) (by decide +kernel), List.mem_of_getElem? (i := 1151) (by decide +kernel), List.mem_of_getElem? (i := 1152) (by decide +kernel)⟩
theorem lw_p39 : lw_okq (⟨"WheelWorksModel", "hasEmpty", "(I)Z"⟩, 33) := ⟨⟨by decide +kernel, by decide +kernel⟩, List.mem_of_getElem? (i := 914) (by decide +kernel), List.mem_of_getElem? (i := 1155) (by decide +kernel), List.mem_of_getElem? (i := 1156) (by decide +kernel)⟩
theorem lw_p40 : lw_okq (⟨"WheelWorksModel", "isWorn", "(I)Z"⟩, 33) := ⟨⟨by decide +kernel, by decide +kernel⟩, List.mem_of_getElem? (i := 914) (by decide +kernel), List.mem_of_getElem? (i := 1159) (by decide +kernel), List.mem_of_getElem? (i := 1160) (by decide +kernel)⟩
theorem lw_p41 : lw_okq (⟨"WheelWorksModel", "apartIn", "(I)I"⟩, 33) := ⟨⟨by decide +kernel, by decide +kernel⟩, List.mem_of_getElem? (i := 914) (by decide +kernel), List.mem_of_getElem? (i := 1163) (by decide +kernel), List.mem_of_getElem? (i := 1164) (by decide +kernel)⟩
theorem lw_p42 : lw_okq (⟨"WheelWorksModel", "isDue", "(I)Z"⟩, 33) := ⟨⟨by decide +kernel, by decide +kernel⟩, List.mem_of_getElem? (i := 914) (by decide +kernel), List.mem_of_getElem? (i := 1169) (by decide +kernel), List.mem_of_getElem? (i := 1170) (by decide +kernel)⟩
theorem lw_p43 : lw_okq (⟨"WheelWorksModel", "plans", "()I"⟩, 33) := ⟨⟨by decide +kernel, by decide +kernel⟩, List.mem_of_getElem? (i := 914) (by decide +kernel), List.mem_of_getElem? (i := 1181) (by decide +kernel), List.mem_of_getElem? (i := 1182) (by decide +kernel)⟩
theorem lw_p44 : lw_okq (⟨"WheelWorksModel", "movesOf", "()I"⟩, 33) := ⟨⟨by decide +kernel, by decide +kernel⟩, List.mem_of_getElem? (i := 914) (by decide +kernel), List.mem_of_getElem? (i := 1185) (by decide +kernel), List.mem_of_getElem? (i := 1186) (by decide +kernel)⟩
theorem lw_p45 : lw_okq (⟨"WheelWorksModel", "movesOfPart", "(I)I"⟩, 33) := ⟨⟨by decide +kernel, by decide +kernel⟩, List.mem_of_getElem? (i := 914) (by decide +kernel), List.mem_of_getElem? (i := 1205) (by decide +kernel), List.mem_of_getElem? (i := 1206) (by decide +kernel)⟩
def lw_privs_3 : List (MethodName × Nat) := [(⟨"WheelWorksModel", "isIn", "(II)Z"⟩, 33), (⟨"WheelWorksModel", "goes", "(III)V"⟩, 33), (⟨"WheelWorksModel", "wheelsetOf", "(IZ)I"⟩, 33), (⟨"WheelWorksModel", "trues", "(I)I"⟩, 33), (⟨"WheelWorksModel", "holds", "(I)V"⟩, 33), (⟨"WheelWorksModel", "barOf", "(I)I"⟩, 33), (⟨"WheelWorksModel", "barsBy", "(II)Z"⟩, 33), (⟨"WheelWorksModel", "hasEmpty", "(I)Z"⟩, 33), (⟨"WheelWorksModel", "isWorn", "(I)Z"⟩, 33), (⟨"WheelWorksModel", "apartIn", "(I)I"⟩, 33), (⟨"WheelWorksModel", "isDue", "(I)Z"⟩, 33), (⟨"WheelWorksModel", "plans", "()I"⟩, 33), (⟨"WheelWorksModel", "movesOf", "()I"⟩, 33), (⟨"WheelWorksModel", "movesOfPart", "(I)I"⟩, 33)]
theorem lw_r3 : ∀ q ∈ lw_privs_3, lw_okq q := List.forall_mem_cons.mpr ⟨lw_p32, List.forall_mem_cons.mpr ⟨lw_p33, List.forall_mem_cons.mpr ⟨lw_p34, List.forall_mem_cons.mpr ⟨lw_p35, List.forall_mem_cons.mpr ⟨lw_p36, List.forall_mem_cons.mpr ⟨lw_p37, List.forall_mem_cons.mpr ⟨lw_p38, List.forall_mem_cons.mpr ⟨lw_p39, List.forall_mem_cons.mpr ⟨lw_p40, List.forall_mem_cons.mpr ⟨lw_p41, List.forall_mem_cons.mpr ⟨lw_p42, List.forall_mem_cons.mpr ⟨lw_p43, List.forall_mem_cons.mpr ⟨lw_p44, List.forall_mem_cons.mpr ⟨lw_p45, fun _ h => absurd h List.not_mem_nil⟩⟩⟩⟩⟩⟩⟩⟩⟩⟩⟩⟩⟩⟩
def lw_privs : List (MethodName × Nat) := lw_privs_1 ++ (lw_privs_2 ++ (lw_privs_3))
def lw_tbl : List Cond := k2_sels lw_privs ++ tables_1
theorem lw_privs_ok : ∀ q ∈ lw_privs, lw_okq q := by
  show ∀ q ∈ lw_privs_1 ++ (lw_privs_2 ++ (lw_privs_3)), lw_okq q
  exact List.forall_mem_append.mpr ⟨lw_r1, List.forall_mem_append.mpr ⟨lw_r2, lw_r3⟩⟩

/-! ===== BEGIN words of one list among another's, by their places ===== -/
theorem goodIn_r {big : List Cond} (ws : List Cond) (ps : List Nat) (hp : ws = ps.filterMap (fun i => big[i]?)) (h : ws.all goodWord = true) : GoodIn big ws := by
  intro w hw
  have h1 := List.all_eq_true.mp h w hw
  rw [hp] at hw
  obtain ⟨i, -, hi⟩ := List.mem_filterMap.mp hw
  have hm : w ∈ big := by first | exact List.mem_of_getElem? hi | exact List.getElem?_mem hi
  exact ⟨hm, good_of_word h1⟩
theorem goodIn_app {big a b : List Cond} (ha : GoodIn big a) (hb : GoodIn big b) : GoodIn big (a ++ b) := fun w h => (List.mem_append.mp h).elim (ha w) (hb w)
theorem goodIn_ca {big a b : List Cond} {c : Cond} (ha : GoodIn big (c :: a)) (hb : GoodIn big b) : GoodIn big (c :: (a ++ b)) := fun w h => (List.mem_cons.mp h).elim (fun e => ha w (List.mem_cons.mpr (Or.inl e))) (fun h => (List.mem_append.mp h).elim (fun h => ha w (List.mem_cons.mpr (Or.inr h))) (hb w))
theorem goodIn_sub {big ws : List Cond} (hm : ∀ w ∈ ws, w ∈ big) (h : ws.all goodWord = true) : GoodIn big ws := fun w hw => ⟨hm w hw, good_of_word (List.all_eq_true.mp h w hw)⟩
/-! ===== END ===== -/

/-! ===== BEGIN exceptions that leave a method, and their catching by the caller (launches without stack traces) ===== -/
section VXA
/-! The laws vx_back, vx_callV, vx_callS, vx_callSW, vx_throw0, vx_throwS follow proofs of the library, with one case more: JvmDerived/Free/Laws.lean (Back.of_free), Shelf42/LK1.lean (callV, callS), Shelf/KitTraced.lean (throwNew0V, throwNewS). -/
/-- where a method has thrown q: the class by its name, the cell, what was written, the world -/
def vx_T (XC : String → State → State → Prop) (st : State) (q : Addr) (t : State) (mc ms : Nat) (free : Addr → Prop) : Prop :=
  ∃ (E : String) (ce : Cell) (L : List Loc), XC E st t ∧ t.heap[q]? = some ce ∧ ce.vm = .none ∧ st.vm.findClass E = some ce.cls ∧ st.WarmedH t.vm ∧ st.sameButNew ({ t with vm := st.vm } : State) L mc ms ∧ ∀ z ∈ L, free z.base
def vx_Q (Qc : Array Value → State → Outcome → State → Prop) (XC : String → State → State → Prop) (mc ms : Nat) (free : Addr → Prop) : Array Value → State → Outcome → State → Prop := fun a st o t =>
  (Qc a st o t ∧ ∃ L, FrameEnd st o t L mc ms ∧ ∀ q ∈ L, free q.base) ∨ ∃ q, o = .threw q ∧ vx_T XC st q t mc ms free
/-- a callee that returns or throws -/
def vx_Met (l : Launch) (y : MethodName) (ws : List Cond) (rm : Room) (Pc : Array Value → State → Prop) (Qc : Array Value → State → Outcome → State → Prop) (XC : String → State → State → Prop) (mc ms : Nat) (free : Addr → Prop) : Prop :=
  MetFree l y (headSpec ws rm) Pc (fun _ _ _ _ _ => True) (vx_Q Qc XC mc ms free)
def vx_Post (XC : String → State → State → Prop) (mc ms : Nat) (free : Addr → Prop) : Pt → Array Value → Addr → Pt → Prop := fun A a q B =>
  ∃ (g : JFrame) (mk : MethodId) (t : State) (L : List Loc) (E : String) (ce : Cell), B.U.heap = t.heap ∧ B.U.vm = t.vm ∧ XC E (A.U.calling g mk a) t ∧ t.heap[q]? = some ce ∧ ce.vm = .none ∧ A.U.vm.findClass E = some ce.cls ∧ B.locs = A.locs ++ L ∧ (∀ z ∈ L, free z.base) ∧ B.cells = A.cells + mc ∧ B.slots = A.slots + ms
def vx_Back (l : Launch) (R : Room) (p : Program) (e : Env) (below : List Frame) (s : State) (sargs : Array Value) (y : MethodName) (len W9 : Nat)
    (Pre : Pt → Array Value → Prop) (Post : Pt → Array Value → Option Value → Pt → Prop) (PostX : Pt → Array Value → Addr → Pt → Prop) : Prop :=
  ∀ (m : MethodId) (meth : Method) (c : Code) (A : Pt) (g : JFrame) (ig : Instr) (mk : MethodId) (a : Array Value),
    Stand p l e R s m sargs below meth c A.U A.locs A.cells A.slots → g.method = m → g.locals.size = c.maxLocals → decode c.code g.pc = .ok (ig, len) →
    2 * g.monitorRoom + (g.stack.map fun v => v.category).sum ≤ W9 → A.U.methodNamed? y = some mk → Pre A a →
    (∃ (v : Option Value) (B : Pt), Stand p l e R s m sargs below meth c B.U B.locs B.cells B.slots ∧ Post A a v B ∧
      Steps p.tables e below (doInvoke e (A.U.setTop g) [] mk a).1 (B.U.setTop { g with pc := g.pc + len, stack := v.toList ++ g.stack })) ∨
    (∃ (q : Addr) (B : Pt), Stand p l e R s m sargs below meth c B.U B.locs B.cells B.slots ∧ PostX A a q B ∧
      Steps p.tables e below (doInvoke e (A.U.setTop g) [] mk a).1 ((B.U.setTop g).pushFrame (.throwing q)))
section Payer
variable {l : Launch} {R : Room} {p : Program} {e : Env} {below : List Frame} {s : State} {sargs : Array Value} {y : MethodName} {len W9 : Nat}
theorem vx_back {ws : List Cond} {rm : Room} {Pc : Array Value → State → Prop} {Qc : Array Value → State → Outcome → State → Prop} {XC : String → State → State → Prop} {mc ms : Nat} {free : Addr → Prop} {bytes : ByteArray} {maxL : Nat} {ret : Option FieldType}
    (hM : vx_Met l y ws rm Pc Qc XC mc ms free) (hblind : FrameBlind Pc) (hrc : rm.cells = mc) (hrs : rm.slots = ms)
    (hframes : rm.frames + 1 ≤ R.frames) (hlocals : W9 + (maxL + 11) + rm.locals ≤ R.locals)
    (hws : ∀ w ∈ ws, ∀ a' U, s.WarmedH U.vm → w.before a' U = true) (hcode : Cond.code y bytes maxL ret ∈ ws) (hinit : ∀ a' U, s.WarmedH U.vm → (Cond.initialized y.cls).before a' U = true) :
    vx_Back l R p e below s sargs y len W9 (PreOf R mc ms Pc) (PostOf Qc mc ms free) (vx_Post XC mc ms free) := by
  intro m meth c A g ig mk a X hg hsize hdg hW hn hp
  have h1 : (headSpec ws rm).pre.before a A.U = true := atoms_intro fun w hw => hws w hw _ _ X.warmed
  have h2 : (Cond.code y bytes maxL ret).before a A.U = true := hws _ hcode _ _ X.warmed
  have h3 : (Cond.initialized y.cls).before a A.U = true := hinit _ _ X.warmed
  have h4 : A.cells + (headSpec ws rm).room.cells ≤ R.cells := by rw [show (headSpec ws rm).room.cells = mc from hrc]; exact hp.1
  have h5 : A.slots + (headSpec ws rm).room.slots ≤ R.slots := by rw [show (headSpec ws rm).room.slots = ms from hrs]; exact hp.2.1
  have hPc : Pc a (A.U.calling g mk a) := hblind _ _ _ _ hp.2.2
  obtain ⟨U, Ls, c0, s0⟩ := A
  dsimp only [Pt.U, Pt.locs, Pt.cells, Pt.slots] at h1 h2 h3 h4 h5 X hn hPc ⊢
  obtain ⟨methY, cY, hmY, hcY, -, hlY, -, -, -, -⟩ := Cond.code_spec hn h2
  obtain ⟨kY, hkY, -⟩ := className_of_methodNamed hn
  have hinitY : kY.init = .initialized := Cond.initialized_spec (findClass_of_methodNamed hn) hkY h3
  have h : At U g.method c below := by rw [hg]; exact X.here
  have hlocals9 : W9 + (maxL + 11) + (headSpec ws rm).room.locals ≤ R.locals := hlocals
  have happ : (headSpec ws rm).appliesLoose y e.platform (U.calling g mk a) = true :=
    Spec.appliesLoose_calling (g := g) h hdg hn hkY hinitY
      (X.room_calling (g := g) (R' := (headSpec ws rm).room) hsize hmY hcY hframes (by rw [hlY]; omega) h4 h5) h1
  obtain ⟨mid, hmid⟩ := h.above
  have hfr : (U.setTop g).frames = (.java g :: mid) ++ below := by rw [State.frames_setTop' g h.top, hmid]; rfl
  obtain ⟨o, s₂, hsteps, -, hend, hq⟩ := Steps.callFree hM p X.admits X.cas X.clock (acts := []) hfr happ hPc trivial
  have hq' : vx_Q Qc XC mc ms free a (U.calling g mk a) o s₂ := hq
  rw [State.frames_setTop' g h.top] at hend
  obtain ⟨g₀, hg0⟩ := Option.isSome_iff_exists.mp h.top
  obtain ⟨r, hr⟩ := State.topJava?_eq_some.mp hg0
  have hr' : (({ U with heap := s₂.heap, slotsUsed := s₂.slotsUsed } : State).setVm s₂.vm).frames = .java g₀ :: r := hr
  rcases hq' with ⟨hqc, L, hfe, hL⟩ | ⟨q, rfl, E, ce, L, hx, hce, hcv, hcl, hW₂, hsm, hL⟩
  · obtain ⟨⟨v, rfl⟩, hW₂, e2, q2, q3, q4, q5, q6⟩ := id hfe
    have e3 : s₂ = ({ (U.calling g mk a).setFrames s₂.frames with heap := s₂.heap, slotsUsed := s₂.slotsUsed } : State).setVm s₂.vm := by
      have : s₂ = ({ s₂ with vm := (U.calling g mk a).vm } : State).setVm s₂.vm := rfl
      rw [e2] at this
      exact this
    obtain ⟨c₂, i₂, len₂, hc₂, hd₂, hf₂⟩ := hend
    have hW' : U.WarmedH s₂.vm := hW₂
    have hcc : c₂ = c := by
      have h1 : s₂.code? g.method = U.code? g.method := by
        rw [State.code?_eq, State.code?_eq, hW'.alike.method?]
      exact Option.some.inj (hc₂.symm.trans (h1.trans h.code))
    subst hcc
    have hlen : len₂ = len := by rw [hdg] at hd₂; cases hd₂; rfl
    subst hlen
    have hs₂ : s₂ = (({ U with heap := s₂.heap, slotsUsed := s₂.slotsUsed } : State).setVm s₂.vm).setTop { g with pc := g.pc + len₂, stack := v.toList ++ g.stack } := by
      refine e3.trans ?_
      rw [hf₂, State.calling_eq h.top, State.setFrames_setFrames, State.setTop_of_frames _ hr', hr]
      rfl
    have hsame : U.sameButNew ({ U with heap := s₂.heap, slotsUsed := s₂.slotsUsed } : State) L mc ms := by
      refine ⟨?_, q2, q3, q4, q5, q6⟩
      obtain ⟨t, ht, -⟩ := State.frames_cons hr
      show ({ U with heap := s₂.heap, slotsUsed := s₂.slotsUsed } : State) = { U.setFrames U.frames with heap := s₂.heap, slotsUsed := s₂.slotsUsed }
      rw [State.setFrames_self ht]
    subst hg
    refine Or.inl ⟨v, ⟨(({ U with heap := s₂.heap, slotsUsed := s₂.slotsUsed } : State).setVm s₂.vm), Ls ++ L, c0 + mc, s0 + ms⟩,
      ⟨X.admits, X.cas, X.clock, X.frames, X.room, X.hears, X.method, X.code, (X.here.setHeapUsed s₂.heap s₂.slotsUsed).setVm hW'.alike, X.tail, State.WarmedH.trans X.warmed hW', X.limits, X.bytes, X.same.trans (hsame.setVm s.vm)⟩,
      ⟨g, mk, s₂, L, rfl, rfl, hqc, rfl, hL, rfl, rfl⟩, ?_⟩
    show Steps p.tables e below _ ((({ U with heap := s₂.heap, slotsUsed := s₂.slotsUsed } : State).setVm s₂.vm).setTop { g with pc := g.pc + len₂, stack := v.toList ++ g.stack })
    rw [← hs₂]
    exact hsteps
  · obtain ⟨e2, q2, q3, q4, q5, q6⟩ := id hsm
    have e3 : s₂ = ({ (U.calling g mk a).setFrames s₂.frames with heap := s₂.heap, slotsUsed := s₂.slotsUsed } : State).setVm s₂.vm := by
      have : s₂ = ({ s₂ with vm := (U.calling g mk a).vm } : State).setVm s₂.vm := rfl
      rw [e2] at this
      exact this
    have hf₂ : s₂.frames = .throwing q :: .java g :: U.frames.tail := hend
    have hW' : U.WarmedH s₂.vm := hW₂
    have hs₂ : s₂ = ((({ U with heap := s₂.heap, slotsUsed := s₂.slotsUsed } : State).setVm s₂.vm).setTop g).pushFrame (.throwing q) := by
      refine e3.trans ?_
      rw [hf₂, State.calling_eq h.top, State.setFrames_setFrames, State.pushFrame, State.frames_setTop _ hr', State.setTop_of_frames _ hr', State.setFrames_setFrames, hr]
      rfl
    have hsame : U.sameButNew ({ U with heap := s₂.heap, slotsUsed := s₂.slotsUsed } : State) L mc ms := by
      refine ⟨?_, q2, q3, q4, q5, q6⟩
      obtain ⟨t, ht, -⟩ := State.frames_cons hr
      show ({ U with heap := s₂.heap, slotsUsed := s₂.slotsUsed } : State) = { U.setFrames U.frames with heap := s₂.heap, slotsUsed := s₂.slotsUsed }
      rw [State.setFrames_self ht]
    subst hg
    refine Or.inr ⟨q, ⟨(({ U with heap := s₂.heap, slotsUsed := s₂.slotsUsed } : State).setVm s₂.vm), Ls ++ L, c0 + mc, s0 + ms⟩,
      ⟨X.admits, X.cas, X.clock, X.frames, X.room, X.hears, X.method, X.code, (X.here.setHeapUsed s₂.heap s₂.slotsUsed).setVm hW'.alike, X.tail, State.WarmedH.trans X.warmed hW', X.limits, X.bytes, X.same.trans (hsame.setVm s.vm)⟩,
      ⟨g, mk, s₂, L, E, ce, rfl, rfl, hx, hce, hcv, hcl, rfl, hL, rfl, rfl⟩, ?_⟩
    show Steps p.tables e below _ (((({ U with heap := s₂.heap, slotsUsed := s₂.slotsUsed } : State).setVm s₂.vm).setTop g).pushFrame (.throwing q))
    rw [← hs₂]
    exact hsteps
end Payer
section Calls
variable {p : Program} {l : Launch} {e : Env} {R : Room} {s : State} {m : MethodId} {args : Array Value} {below : List Frame} {meth : Method} {c : Code} {T : State} {locs : List Loc} {cells slots : Nat}
theorem vx_callV (X : Stand p l e R s m args below meth c T locs cells slots) (hexec : p.tables.exec = Jvm.exec) {own C : String} {index : Nat} {y : MethodName} {bytes : ByteArray} {maxL : Nat} {ret : Option FieldType}
    (hown : s.vm.findClass own = some m.cls) (hlink : (Cond.methodLink own index y).before args s = true) (hinst : (Cond.instanceMethod y).before args s = true) (hsel : (Cond.selects C y y).before args s = true)
    (hcode : (Cond.code y bytes maxL ret).before args s = true) (hy : y.cls ≠ "java/lang/invoke/MethodHandle" ∧ y.cls ≠ "java/lang/invoke/VarHandle")
    {W9 : Nat} {Pre : Pt → Array Value → Prop} {Post : Pt → Array Value → Option Value → Pt → Prop} {PostX : Pt → Array Value → Addr → Pt → Prop} (hK : vx_Back l R p e below s args y 3 W9 Pre Post PostX)
    {b : Addr} {cellB : Cell} (hcell : T.heap[b]? = some cellB) (hobj : cellB.vm.isStatics = false) (hcls : s.vm.findClass C = some cellB.cls)
    {g : JFrame} (hg : g.method = m) (hsize : g.locals.size = c.maxLocals) {argsL rest : List Value} (hlen : ∀ sig, parseMethodDescriptor y.desc = some sig → argsL.length = sig.parameters.length)
    (hstack : g.stack = argsL.reverse ++ .ref b :: rest) (hW : 2 * g.monitorRoom + (rest.map fun v => v.category).sum ≤ W9) (hdg : decode c.code g.pc = .ok (.invokevirtual index, 3))
    (hpre : ∀ vm₁, s.WarmedH vm₁ → Pre ⟨T.setVm vm₁, locs, cells, slots⟩ (Value.ref b :: argsL).toArray) :
    (∃ (v : Option Value) (vm₁ : Vm) (B : Pt), s.WarmedH vm₁ ∧ Stand p l e R s m args below meth c B.U B.locs B.cells B.slots ∧ Post ⟨T.setVm vm₁, locs, cells, slots⟩ (Value.ref b :: argsL).toArray v B ∧
      ∀ target, Steps p.tables e below (B.U.setTop { g with pc := g.pc + 3, stack := v.toList ++ rest }) target → Steps p.tables e below (T.setTop g) target) ∨
    (∃ (q : Addr) (vm₁ : Vm) (B : Pt), s.WarmedH vm₁ ∧ Stand p l e R s m args below meth c B.U B.locs B.cells B.slots ∧ PostX ⟨T.setVm vm₁, locs, cells, slots⟩ (Value.ref b :: argsL).toArray q B ∧
      Steps p.tables e below (T.setTop g) ((B.U.setTop { g with stack := rest }).pushFrame (.throwing q))) := by
  obtain ⟨mk, methM, hnamed, hmethM, hstM, habM⟩ := Cond.instanceMethod_spec hinst
  obtain ⟨methM', cM, hmethM', -, -, -, -, -, -, hsigM⟩ := Cond.code_spec hnamed hcode
  cases hmethM.symm.trans hmethM'
  obtain ⟨c2, r2, m2, q1, q2, q3, q4, kP, hkP, hkPi⟩ := Cond.selects_spec hsel
  cases hcls.symm.trans q1
  cases (State.methodFound?_of_named hnamed hy).symm.trans q2
  cases hnamed.symm.trans q3
  have hselP : selectMethod e.platform s.vm cellB.cls mk = .method mk := by rw [Launch.admits_selectMethod X.admits]; exact q4
  obtain ⟨vm₁, X₁, hstep₁⟩ := X.invokevirtual hexec hown hlink hnamed hmethM hstM hkP hkPi hy (a := b) (cell := cellB) hcell
    (fun z h => by rw [h] at hobj; cases hobj) hselP hmethM habM hkP hkPi (g := g) hg (argsL := argsL) (rest := rest) (hlen _ hsigM) hstack hdg
  rcases hK m meth c ⟨T.setVm vm₁, locs, cells, slots⟩ { g with stack := rest } (.invokevirtual index) mk (Value.ref b :: argsL).toArray X₁ hg hsize hdg hW (X₁.named hnamed) (hpre vm₁ X₁.warmed) with ⟨v, B, X', hpost, hsteps⟩ | ⟨q, B, X', hpost, hsteps⟩
  · exact Or.inl ⟨v, vm₁, B, X₁.warmed, X', hpost, fun target h => hstep₁ _ fun acts => by rw [doInvoke_state]; exact hsteps.trans h⟩
  · exact Or.inr ⟨q, vm₁, B, X₁.warmed, X', hpost, hstep₁ _ fun acts => by rw [doInvoke_state]; exact hsteps⟩
theorem vx_callS (X : Stand p l e R s m args below meth c T locs cells slots) (hexec : p.tables.exec = Jvm.exec) {own : String} {index : Nat} {y : MethodName} {bytes : ByteArray} {maxL : Nat} {ret : Option FieldType}
    (hown : s.vm.findClass own = some m.cls) (hlink : (Cond.methodLink own index y).before args s = true) (hstat : (Cond.static y).before args s = true) (hinit : (Cond.initialized y.cls).before args s = true)
    (hcode : (Cond.code y bytes maxL ret).before args s = true) (hy : y.cls ≠ "java/lang/invoke/MethodHandle" ∧ y.cls ≠ "java/lang/invoke/VarHandle")
    {W9 : Nat} {Pre : Pt → Array Value → Prop} {Post : Pt → Array Value → Option Value → Pt → Prop} {PostX : Pt → Array Value → Addr → Pt → Prop} (hK : vx_Back l R p e below s args y 3 W9 Pre Post PostX)
    {g : JFrame} (hg : g.method = m) (hsize : g.locals.size = c.maxLocals) {argsL rest : List Value} (hlen : ∀ sig, parseMethodDescriptor y.desc = some sig → argsL.length = sig.parameters.length)
    (hstack : g.stack = argsL.reverse ++ rest) (hW : 2 * g.monitorRoom + (rest.map fun v => v.category).sum ≤ W9) (hdg : decode c.code g.pc = .ok (.invokestatic index, 3))
    (hpre : ∀ vm₁, s.WarmedH vm₁ → Pre ⟨T.setVm vm₁, locs, cells, slots⟩ argsL.toArray) :
    (∃ (v : Option Value) (vm₁ : Vm) (B : Pt), s.WarmedH vm₁ ∧ Stand p l e R s m args below meth c B.U B.locs B.cells B.slots ∧ Post ⟨T.setVm vm₁, locs, cells, slots⟩ argsL.toArray v B ∧
      ∀ target, Steps p.tables e below (B.U.setTop { g with pc := g.pc + 3, stack := v.toList ++ rest }) target → Steps p.tables e below (T.setTop g) target) ∨
    (∃ (q : Addr) (vm₁ : Vm) (B : Pt), s.WarmedH vm₁ ∧ Stand p l e R s m args below meth c B.U B.locs B.cells B.slots ∧ PostX ⟨T.setVm vm₁, locs, cells, slots⟩ argsL.toArray q B ∧
      Steps p.tables e below (T.setTop g) ((B.U.setTop { g with stack := rest }).pushFrame (.throwing q))) := by
  obtain ⟨mk, hnamed⟩ := Cond.code_named hcode
  obtain ⟨methM, cM, hmethM, -, -, -, -, -, -, hsigM⟩ := Cond.code_spec hnamed hcode
  have hstatic : methM.isStatic = true := Cond.static_spec hnamed hmethM hstat
  obtain ⟨kP, hkP, -⟩ := className_of_methodNamed hnamed
  have hinitP : kP.init = .initialized := Cond.initialized_spec (findClass_of_methodNamed hnamed) hkP hinit
  obtain ⟨vm₁, X₁, hstep₁⟩ := X.invokestatic hexec hown hlink hnamed hmethM hstatic hkP hinitP hy (g := g) hg (argsL := argsL) (rest := rest) (hlen _ hsigM) hstack hdg
  rcases hK m meth c ⟨T.setVm vm₁, locs, cells, slots⟩ { g with stack := rest } (.invokestatic index) mk argsL.toArray X₁ hg hsize hdg hW (X₁.named hnamed) (hpre vm₁ X₁.warmed) with ⟨v, B, X', hpost, hsteps⟩ | ⟨q, B, X', hpost, hsteps⟩
  · exact Or.inl ⟨v, vm₁, B, X₁.warmed, X', hpost, fun target h => hstep₁ _ fun acts => by rw [doInvoke_state]; exact hsteps.trans h⟩
  · exact Or.inr ⟨q, vm₁, B, X₁.warmed, X', hpost, hstep₁ _ fun acts => by rw [doInvoke_state]; exact hsteps⟩
end Calls
theorem vx_cls {s : State} {T : State} {vm₁ : Vm} {E : String} {k : ClassId} (hW : s.WarmedH vm₁) (h : (T.setVm vm₁).vm.findClass E = some k) : s.vm.findClass E = some k := by
  have h1 : vm₁.findClass E = some k := h
  rw [hW.alike.findClass] at h1
  exact h1
/-- the method's frame g, with q thrown over it -/
def vx_W (p : Program) (l : Launch) (e : Env) (R : Room) (s : State) (m : MethodId) (args : Array Value) (below : List Frame) (meth : Method) (c : Code) (H : Heap) (locs : List Loc) (cells slots : Nat) (Q : State → Prop) (g : JFrame) (q : Addr) : Prop :=
  ∀ T : State, T.heap = H → Stand p l e R s m args below meth c T locs cells slots → ∃ t, Steps p.tables e below ((T.setTop g).pushFrame (.throwing q)) t ∧ Q t
def vx_Run (p : Program) (l : Launch) (e : Env) (R : Room) (s : State) (m : MethodId) (args : Array Value) (below : List Frame) (meth : Method) (c : Code) (H : Heap) (locs : List Loc) (cells slots mc ms : Nat) (g : JFrame) (rest : List Value) (Qa : State → Outcome → State → Prop) (XC : String → State → State → Prop) (free : Addr → Prop) : Prop :=
  ∀ T : State, T.heap = H → Stand p l e R s m args below meth c T locs cells slots →
    (∃ (v : Option Value) (st₀ t T' : State) (L : List Loc), st₀.heap = H ∧ Stand p l e R s m args below meth c T' (locs ++ L) (cells + mc) (slots + ms) ∧ (∀ q ∈ L, free q.base) ∧ T'.heap = t.heap ∧ T'.vm = t.vm ∧ Qa st₀ (.returned v) t ∧
      Goes p e below T g T' { g with pc := g.pc + 3, stack := v.toList ++ rest }) ∨
    (∃ (q : Addr) (st₀ t T' : State) (L : List Loc) (E : String) (ce : Cell), st₀.heap = H ∧ Stand p l e R s m args below meth c T' (locs ++ L) (cells + mc) (slots + ms) ∧ (∀ z ∈ L, free z.base) ∧ T'.heap = t.heap ∧ T'.vm = t.vm ∧ XC E st₀ t ∧ t.heap[q]? = some ce ∧ ce.vm = .none ∧ s.vm.findClass E = some ce.cls ∧
      Steps p.tables e below (T.setTop g) ((T'.setTop { g with stack := rest }).pushFrame (.throwing q)))
def vx_X {S : Type} (px : S → Prop) (B : String → S → State → Prop) (A : Nat → Prop) : String → State → State → Prop := fun E st t => ∃ u : S, px u ∧ B E u t ∧ va_F A st t
section Runs
variable {p : Program} {l : Launch} {e : Env} {R : Room} {s : State} {m : MethodId} {args : Array Value} {below : List Frame} {meth : Method} {c : Code} {H : Heap} {locs : List Loc} {cells slots : Nat}
variable {y : MethodName} {bytes cc : ByteArray} {maxL nL mc ms n index : Nat} {ret : Option FieldType} {ws : List Cond} {rm : Room} {Pc : Array Value → State → Prop} {Qc : Array Value → State → Outcome → State → Prop} {XC : String → State → State → Prop} {free : Addr → Prop} {Ts : List Cond} {own C : String} {b : Addr} {As rest : List Value} {g : JFrame}
theorem vx_callBack (cb : CallB R s args own index y bytes maxL ret ws rm mc ms n) (hM : vx_Met l y ws rm Pc Qc XC mc ms free) (hbl : FrameBlind Pc) : vx_Back l R p e below s args y 3 8 (PreOf R mc ms Pc) (PostOf Qc mc ms free) (vx_Post XC mc ms free) := by
  obtain ⟨hrc, hrs, hfr, hlo, hws, hcw, -, hini, -⟩ := cb
  exact vx_back (bytes := bytes) (maxL := maxL) (ret := ret) hM hbl hrc hrs hfr hlo hws hcw (fun a' U hW => word_at hW (Or.inl (by first | rfl | simp [Cond.onTables, Cond.keeps, Cond.steady])) hini)
theorem vx_runV (S : CallFix p m c cc nL s args Ts own) (hM : vx_Met l y ws rm Pc Qc XC mc ms free) (cw : CallW R s args own C index y bytes maxL ret ws rm mc ms n) (hp : PreV s H C b Pc As)
    (hg : g.method = m) (hn : As.length = n) (hsize : g.locals.size = nL) (hstack : g.stack = As.reverse ++ .ref b :: rest) (hW : 2 * g.monitorRoom + (rest.map fun v => v.category).sum ≤ 8) (hdg : decode cc g.pc = .ok (.invokevirtual index, 3)) (hf : cells + mc ≤ R.cells ∧ slots + ms ≤ R.slots) :
    vx_Run p l e R s m args below meth c H locs cells slots mc ms g rest (Qc (Value.ref b :: As).toArray) XC free := by
  have hK : vx_Back l R p e below s args y 3 8 (PreOf R mc ms Pc) (PostOf Qc mc ms free) (vx_Post XC mc ms free) := vx_callBack cw.1 hM hp.1
  obtain ⟨⟨-, -, -, -, -, -, hcode, -, hy, hlen, hl⟩, hin, hse⟩ := cw
  obtain ⟨hx, hb, hml, ho, -⟩ := S
  obtain ⟨-, ⟨cellB, hcB, hoB, hclB⟩, hPc⟩ := hp
  intro T hT X
  rcases vx_callV X hx (C := C) (bytes := bytes) (maxL := maxL) (ret := ret) ho hl hin hse hcode hy hK (by rw [hT]; exact hcB) hoB hclB hg (hsize.trans hml.symm) (argsL := As) (rest := rest) (fun sig h => hn.trans (hlen sig h)) hstack hW (by rw [hb]; exact hdg)
    (fun vm₁ hW₁ => ⟨hf.1, hf.2, hPc (T.setVm vm₁) hT hW₁⟩) with ⟨v, vm₁, ⟨U', l2, c2, s2⟩, hW₁, X', ⟨g', mk, t, L, e1, e2, hq, h1, hL, h2, h3⟩, st⟩ | ⟨q, vm₁, ⟨U', l2, c2, s2⟩, hW₁, X', ⟨g', mk, t, L, E, ce, e1, e2, hq, hce, hcv, hcl, h1, hL, h2, h3⟩, st⟩
  · dsimp only [Pt.U, Pt.locs, Pt.cells, Pt.slots] at X' e1 e2 h1 h2 h3 st
    subst h1; subst h2; subst h3
    exact Or.inl ⟨v, (T.setVm vm₁).calling g' mk (Value.ref b :: As).toArray, t, U', L, hT, X', hL, e1, e2, hq, st⟩
  · dsimp only [Pt.U, Pt.locs, Pt.cells, Pt.slots] at X' e1 e2 h1 h2 h3 st hcl
    subst h1; subst h2; subst h3
    exact Or.inr ⟨q, (T.setVm vm₁).calling g' mk (Value.ref b :: As).toArray, t, U', L, E, ce, hT, X', hL, e1, e2, hq, hce, hcv, vx_cls hW₁ hcl, st⟩
theorem vx_runS (S : CallFix p m c cc nL s args Ts own) (hM : vx_Met l y ws rm Pc Qc XC mc ms free) (cw : CallB R s args own index y bytes maxL ret ws rm mc ms n ∧ (Cond.static y).before args s = true) (hp : PreS s H Pc As)
    (hg : g.method = m) (hn : As.length = n) (hsize : g.locals.size = nL) (hstack : g.stack = As.reverse ++ rest) (hW : 2 * g.monitorRoom + (rest.map fun v => v.category).sum ≤ 8) (hdg : decode cc g.pc = .ok (.invokestatic index, 3)) (hf : cells + mc ≤ R.cells ∧ slots + ms ≤ R.slots) :
    vx_Run p l e R s m args below meth c H locs cells slots mc ms g rest (Qc As.toArray) XC free := by
  have hK : vx_Back l R p e below s args y 3 8 (PreOf R mc ms Pc) (PostOf Qc mc ms free) (vx_Post XC mc ms free) := vx_callBack cw.1 hM hp.1
  obtain ⟨⟨-, -, -, -, -, -, hcode, hini, hy, hlen, hl⟩, hstt⟩ := cw
  obtain ⟨hx, hb, hml, ho, -⟩ := S
  intro T hT X
  rcases vx_callS X hx (bytes := bytes) (maxL := maxL) (ret := ret) ho hl hstt hini hcode hy hK hg (hsize.trans hml.symm) (argsL := As) (rest := rest) (fun sig h => hn.trans (hlen sig h)) hstack hW (by rw [hb]; exact hdg)
    (fun vm₁ hW₁ => ⟨hf.1, hf.2, hp.2 (T.setVm vm₁) hT hW₁⟩) with ⟨v, vm₁, ⟨U', l2, c2, s2⟩, hW₁, X', ⟨g', mk, t, L, e1, e2, hq, h1, hL, h2, h3⟩, st⟩ | ⟨q, vm₁, ⟨U', l2, c2, s2⟩, hW₁, X', ⟨g', mk, t, L, E, ce, e1, e2, hq, hce, hcv, hcl, h1, hL, h2, h3⟩, st⟩
  · dsimp only [Pt.U, Pt.locs, Pt.cells, Pt.slots] at X' e1 e2 h1 h2 h3 st
    subst h1; subst h2; subst h3
    exact Or.inl ⟨v, (T.setVm vm₁).calling g' mk As.toArray, t, U', L, hT, X', hL, e1, e2, hq, st⟩
  · dsimp only [Pt.U, Pt.locs, Pt.cells, Pt.slots] at X' e1 e2 h1 h2 h3 st hcl
    subst h1; subst h2; subst h3
    exact Or.inr ⟨q, (T.setVm vm₁).calling g' mk As.toArray, t, U', L, E, ce, hT, X', hL, e1, e2, hq, hce, hcv, vx_cls hW₁ hcl, st⟩
end Runs
section Rows
variable {p : Program} {l : Launch} {e : Env} {R : Room} {s : State} {m : MethodId} {args : Array Value} {below : List Frame} {meth : Method} {c : Code} {H : Heap} {locs : List Loc} {cells slots : Nat} {Q : State → Prop}
variable {mc ms : Nat} {free : Addr → Prop} {A0 A1 : Nat → Prop} {H0 : Heap} {a : Array Value} {pc : Nat} {ls : Array Slot} {st0 rest : List Value}
theorem vx_keep {st₀ t T' : State} {L : List Loc} (h0 : st₀.heap = H) (e1 : T'.heap = t.heap) (hS : va_S A0 H0 H locs) (hA : ∀ q, q < H.size → A1 q → A0 q) (hf : ∀ q, free q → A0 q) (hL : ∀ q ∈ L, free q.base) (hF : va_F A1 st₀ t) :
    H.size ≤ T'.heap.size ∧ (∀ q : Nat, q < H.size → ¬ A1 q → T'.heap[q]? = H[q]?) ∧ va_S A0 H0 T'.heap (locs ++ L) := by
  obtain ⟨hz, hk⟩ := hF
  rw [h0] at hz hk
  exact ⟨by rw [e1]; exact hz, fun q h1 h2 => by rw [e1]; exact hk q h1 h2,
    ⟨Nat.le_trans hS.1 (by rw [e1]; exact hz), fun q h1 h2 => by rw [e1, hk q (Nat.lt_of_lt_of_le h1 hS.1) (fun z => h2 (hA q (Nat.lt_of_lt_of_le h1 hS.1) z))]; exact hS.2.1 q h1 h2, fun q hq => by
      rcases List.mem_append.mp hq with h | h
      · exact hS.2.2 q h
      · exact hf _ (hL q h)⟩⟩
theorem vx_calli {S SX : Type} {post : Int32 → S → Prop} {px : SX → Prop} {B : S → State → Prop} {BX : String → SX → State → Prop} {AX : Nat → Prop} (hr : vx_Run p l e R s m args below meth c H locs cells slots mc ms (F0 m pc ls st0) rest (va_Qi post B A1 a) (vx_X px BX AX) free) (hS : va_S A0 H0 H locs) (hA : ∀ q, q < H.size → A1 q → A0 q) (hf : ∀ q, free q → A0 q) (hAX : ∀ q, q < H.size → AX q → A0 q)
    (kx : ∀ (E : String) (ce : Cell) (q9 : Addr) (u : SX) (t : State) (H1 : Heap) (locs1 : List Loc), t.heap = H1 → s.vm.Alike t.vm → px u → BX E u t → H.size ≤ H1.size → (∀ q : Nat, q < H.size → ¬ AX q → H1[q]? = H[q]?) → va_S A0 H0 H1 locs1 → H1[q9]? = some ce → ce.vm = .none → s.vm.findClass E = some ce.cls → vx_W p l e R s m args below meth c H1 locs1 (cells + mc) (slots + ms) Q (F0 m pc ls rest) q9)
    (kk : ∀ (r : Int32) (u : S) (t : State) (H1 : Heap) (locs1 : List Loc), t.heap = H1 → s.vm.Alike t.vm → post r u → B u t → H.size ≤ H1.size → (∀ q : Nat, q < H.size → ¬ A1 q → H1[q]? = H[q]?) → va_S A0 H0 H1 locs1 → W p l e R s m args below meth c H1 locs1 (cells + mc) (slots + ms) Q (F0 m (pc + 3) ls (.int r :: rest))) : W p l e R s m args below meth c H locs cells slots Q (F0 m pc ls st0) := by
  intro T hT X
  rcases hr T hT X with ⟨v, st₀, t, T', L, h0, X', hL, e1, e2, ⟨⟨r, u, hv, hp, hb⟩, hF⟩, st⟩ | ⟨q, st₀, t, T', L, E, ce, h0, X', hL, e1, e2, ⟨u, hp, hb, hF⟩, hce, hcv, hcl, st⟩
  · cases hv
    obtain ⟨k1, k2, k3⟩ := vx_keep h0 e1 hS hA hf hL hF
    obtain ⟨t2, a1, b1⟩ := kk r u t T'.heap (locs ++ L) e1.symm (by rw [← e2]; exact X'.warmed.alike) hp hb k1 k2 k3 T' rfl X'
    exact ⟨t2, st t2 a1, b1⟩
  · obtain ⟨k1, k2, k3⟩ := vx_keep h0 e1 hS hAX hf hL hF
    obtain ⟨t2, a1, b1⟩ := kx E ce q u t T'.heap (locs ++ L) e1.symm (by rw [← e2]; exact X'.warmed.alike) hp hb k1 k2 k3 (by rw [e1]; exact hce) hcv hcl T' rfl X'
    exact ⟨t2, st.trans a1, b1⟩
theorem vx_calll {S SX : Type} {post : Int64 → S → Prop} {px : SX → Prop} {B : S → State → Prop} {BX : String → SX → State → Prop} {AX : Nat → Prop} (hr : vx_Run p l e R s m args below meth c H locs cells slots mc ms (F0 m pc ls st0) rest (va_Ql post B A1 a) (vx_X px BX AX) free) (hS : va_S A0 H0 H locs) (hA : ∀ q, q < H.size → A1 q → A0 q) (hf : ∀ q, free q → A0 q) (hAX : ∀ q, q < H.size → AX q → A0 q)
    (kx : ∀ (E : String) (ce : Cell) (q9 : Addr) (u : SX) (t : State) (H1 : Heap) (locs1 : List Loc), t.heap = H1 → s.vm.Alike t.vm → px u → BX E u t → H.size ≤ H1.size → (∀ q : Nat, q < H.size → ¬ AX q → H1[q]? = H[q]?) → va_S A0 H0 H1 locs1 → H1[q9]? = some ce → ce.vm = .none → s.vm.findClass E = some ce.cls → vx_W p l e R s m args below meth c H1 locs1 (cells + mc) (slots + ms) Q (F0 m pc ls rest) q9)
    (kk : ∀ (r : Int64) (u : S) (t : State) (H1 : Heap) (locs1 : List Loc), t.heap = H1 → s.vm.Alike t.vm → post r u → B u t → H.size ≤ H1.size → (∀ q : Nat, q < H.size → ¬ A1 q → H1[q]? = H[q]?) → va_S A0 H0 H1 locs1 → W p l e R s m args below meth c H1 locs1 (cells + mc) (slots + ms) Q (F0 m (pc + 3) ls (.long r :: rest))) : W p l e R s m args below meth c H locs cells slots Q (F0 m pc ls st0) := by
  intro T hT X
  rcases hr T hT X with ⟨v, st₀, t, T', L, h0, X', hL, e1, e2, ⟨⟨r, u, hv, hp, hb⟩, hF⟩, st⟩ | ⟨q, st₀, t, T', L, E, ce, h0, X', hL, e1, e2, ⟨u, hp, hb, hF⟩, hce, hcv, hcl, st⟩
  · cases hv
    obtain ⟨k1, k2, k3⟩ := vx_keep h0 e1 hS hA hf hL hF
    obtain ⟨t2, a1, b1⟩ := kk r u t T'.heap (locs ++ L) e1.symm (by rw [← e2]; exact X'.warmed.alike) hp hb k1 k2 k3 T' rfl X'
    exact ⟨t2, st t2 a1, b1⟩
  · obtain ⟨k1, k2, k3⟩ := vx_keep h0 e1 hS hAX hf hL hF
    obtain ⟨t2, a1, b1⟩ := kx E ce q u t T'.heap (locs ++ L) e1.symm (by rw [← e2]; exact X'.warmed.alike) hp hb k1 k2 k3 (by rw [e1]; exact hce) hcv hcl T' rfl X'
    exact ⟨t2, st.trans a1, b1⟩
theorem vx_callf {S SX : Type} {post : UInt32 → S → Prop} {px : SX → Prop} {B : S → State → Prop} {BX : String → SX → State → Prop} {AX : Nat → Prop} (hr : vx_Run p l e R s m args below meth c H locs cells slots mc ms (F0 m pc ls st0) rest (va_Qf post B A1 a) (vx_X px BX AX) free) (hS : va_S A0 H0 H locs) (hA : ∀ q, q < H.size → A1 q → A0 q) (hf : ∀ q, free q → A0 q) (hAX : ∀ q, q < H.size → AX q → A0 q)
    (kx : ∀ (E : String) (ce : Cell) (q9 : Addr) (u : SX) (t : State) (H1 : Heap) (locs1 : List Loc), t.heap = H1 → s.vm.Alike t.vm → px u → BX E u t → H.size ≤ H1.size → (∀ q : Nat, q < H.size → ¬ AX q → H1[q]? = H[q]?) → va_S A0 H0 H1 locs1 → H1[q9]? = some ce → ce.vm = .none → s.vm.findClass E = some ce.cls → vx_W p l e R s m args below meth c H1 locs1 (cells + mc) (slots + ms) Q (F0 m pc ls rest) q9)
    (kk : ∀ (r : UInt32) (u : S) (t : State) (H1 : Heap) (locs1 : List Loc), t.heap = H1 → s.vm.Alike t.vm → post r u → B u t → H.size ≤ H1.size → (∀ q : Nat, q < H.size → ¬ A1 q → H1[q]? = H[q]?) → va_S A0 H0 H1 locs1 → W p l e R s m args below meth c H1 locs1 (cells + mc) (slots + ms) Q (F0 m (pc + 3) ls (.float r :: rest))) : W p l e R s m args below meth c H locs cells slots Q (F0 m pc ls st0) := by
  intro T hT X
  rcases hr T hT X with ⟨v, st₀, t, T', L, h0, X', hL, e1, e2, ⟨⟨r, u, hv, hp, hb⟩, hF⟩, st⟩ | ⟨q, st₀, t, T', L, E, ce, h0, X', hL, e1, e2, ⟨u, hp, hb, hF⟩, hce, hcv, hcl, st⟩
  · cases hv
    obtain ⟨k1, k2, k3⟩ := vx_keep h0 e1 hS hA hf hL hF
    obtain ⟨t2, a1, b1⟩ := kk r u t T'.heap (locs ++ L) e1.symm (by rw [← e2]; exact X'.warmed.alike) hp hb k1 k2 k3 T' rfl X'
    exact ⟨t2, st t2 a1, b1⟩
  · obtain ⟨k1, k2, k3⟩ := vx_keep h0 e1 hS hAX hf hL hF
    obtain ⟨t2, a1, b1⟩ := kx E ce q u t T'.heap (locs ++ L) e1.symm (by rw [← e2]; exact X'.warmed.alike) hp hb k1 k2 k3 (by rw [e1]; exact hce) hcv hcl T' rfl X'
    exact ⟨t2, st.trans a1, b1⟩
theorem vx_calld {S SX : Type} {post : UInt64 → S → Prop} {px : SX → Prop} {B : S → State → Prop} {BX : String → SX → State → Prop} {AX : Nat → Prop} (hr : vx_Run p l e R s m args below meth c H locs cells slots mc ms (F0 m pc ls st0) rest (va_Qd post B A1 a) (vx_X px BX AX) free) (hS : va_S A0 H0 H locs) (hA : ∀ q, q < H.size → A1 q → A0 q) (hf : ∀ q, free q → A0 q) (hAX : ∀ q, q < H.size → AX q → A0 q)
    (kx : ∀ (E : String) (ce : Cell) (q9 : Addr) (u : SX) (t : State) (H1 : Heap) (locs1 : List Loc), t.heap = H1 → s.vm.Alike t.vm → px u → BX E u t → H.size ≤ H1.size → (∀ q : Nat, q < H.size → ¬ AX q → H1[q]? = H[q]?) → va_S A0 H0 H1 locs1 → H1[q9]? = some ce → ce.vm = .none → s.vm.findClass E = some ce.cls → vx_W p l e R s m args below meth c H1 locs1 (cells + mc) (slots + ms) Q (F0 m pc ls rest) q9)
    (kk : ∀ (r : UInt64) (u : S) (t : State) (H1 : Heap) (locs1 : List Loc), t.heap = H1 → s.vm.Alike t.vm → post r u → B u t → H.size ≤ H1.size → (∀ q : Nat, q < H.size → ¬ A1 q → H1[q]? = H[q]?) → va_S A0 H0 H1 locs1 → W p l e R s m args below meth c H1 locs1 (cells + mc) (slots + ms) Q (F0 m (pc + 3) ls (.double r :: rest))) : W p l e R s m args below meth c H locs cells slots Q (F0 m pc ls st0) := by
  intro T hT X
  rcases hr T hT X with ⟨v, st₀, t, T', L, h0, X', hL, e1, e2, ⟨⟨r, u, hv, hp, hb⟩, hF⟩, st⟩ | ⟨q, st₀, t, T', L, E, ce, h0, X', hL, e1, e2, ⟨u, hp, hb, hF⟩, hce, hcv, hcl, st⟩
  · cases hv
    obtain ⟨k1, k2, k3⟩ := vx_keep h0 e1 hS hA hf hL hF
    obtain ⟨t2, a1, b1⟩ := kk r u t T'.heap (locs ++ L) e1.symm (by rw [← e2]; exact X'.warmed.alike) hp hb k1 k2 k3 T' rfl X'
    exact ⟨t2, st t2 a1, b1⟩
  · obtain ⟨k1, k2, k3⟩ := vx_keep h0 e1 hS hAX hf hL hF
    obtain ⟨t2, a1, b1⟩ := kx E ce q u t T'.heap (locs ++ L) e1.symm (by rw [← e2]; exact X'.warmed.alike) hp hb k1 k2 k3 (by rw [e1]; exact hce) hcv hcl T' rfl X'
    exact ⟨t2, st.trans a1, b1⟩
theorem vx_callv {S SX : Type} {post : S → Prop} {px : SX → Prop} {B : S → State → Prop} {BX : String → SX → State → Prop} {AX : Nat → Prop} (hr : vx_Run p l e R s m args below meth c H locs cells slots mc ms (F0 m pc ls st0) rest (va_Qv post B A1 a) (vx_X px BX AX) free) (hS : va_S A0 H0 H locs) (hA : ∀ q, q < H.size → A1 q → A0 q) (hf : ∀ q, free q → A0 q) (hAX : ∀ q, q < H.size → AX q → A0 q)
    (kx : ∀ (E : String) (ce : Cell) (q9 : Addr) (u : SX) (t : State) (H1 : Heap) (locs1 : List Loc), t.heap = H1 → s.vm.Alike t.vm → px u → BX E u t → H.size ≤ H1.size → (∀ q : Nat, q < H.size → ¬ AX q → H1[q]? = H[q]?) → va_S A0 H0 H1 locs1 → H1[q9]? = some ce → ce.vm = .none → s.vm.findClass E = some ce.cls → vx_W p l e R s m args below meth c H1 locs1 (cells + mc) (slots + ms) Q (F0 m pc ls rest) q9)
    (kk : ∀ (u : S) (t : State) (H1 : Heap) (locs1 : List Loc), t.heap = H1 → s.vm.Alike t.vm → post u → B u t → H.size ≤ H1.size → (∀ q : Nat, q < H.size → ¬ A1 q → H1[q]? = H[q]?) → va_S A0 H0 H1 locs1 → W p l e R s m args below meth c H1 locs1 (cells + mc) (slots + ms) Q (F0 m (pc + 3) ls (rest))) : W p l e R s m args below meth c H locs cells slots Q (F0 m pc ls st0) := by
  intro T hT X
  rcases hr T hT X with ⟨v, st₀, t, T', L, h0, X', hL, e1, e2, ⟨⟨u, hv, hp, hb⟩, hF⟩, st⟩ | ⟨q, st₀, t, T', L, E, ce, h0, X', hL, e1, e2, ⟨u, hp, hb, hF⟩, hce, hcv, hcl, st⟩
  · cases hv
    obtain ⟨k1, k2, k3⟩ := vx_keep h0 e1 hS hA hf hL hF
    obtain ⟨t2, a1, b1⟩ := kk u t T'.heap (locs ++ L) e1.symm (by rw [← e2]; exact X'.warmed.alike) hp hb k1 k2 k3 T' rfl X'
    exact ⟨t2, st t2 a1, b1⟩
  · obtain ⟨k1, k2, k3⟩ := vx_keep h0 e1 hS hAX hf hL hF
    obtain ⟨t2, a1, b1⟩ := kx E ce q u t T'.heap (locs ++ L) e1.symm (by rw [← e2]; exact X'.warmed.alike) hp hb k1 k2 k3 (by rw [e1]; exact hce) hcv hcl T' rfl X'
    exact ⟨t2, st.trans a1, b1⟩
/-- caught by the row x of this method's table; the rows ahead don't take it -/
theorem vx_catch {own name : String} {E : String} {ce : Cell} {q : Addr} (hown : s.vm.findClass own = some m.cls) (pre : List ExceptionTableEntry) (x : ExceptionTableEntry) (suf : List ExceptionTableEntry) (hsplit : c.exceptionTable.toList = pre ++ x :: suf)
    (hpass : ∀ z ∈ pre, covers z pc = false ∨ (z.catchType ≠ 0 ∧ ∃ nm : String, (Cond.classLink own z.catchType nm).before args s = true ∧ va_Nc E nm s)) (hx : covers x pc = true) (h0 : x.catchType ≠ 0)
    (hlink : (Cond.classLink own x.catchType name).before args s = true) (hcast : (Cond.castable E name).before args s = true) (hcell : H[q]? = some ce) (hv : ce.vm = .none) (hcl : s.vm.findClass E = some ce.cls)
    (kk : W p l e R s m args below meth c H locs cells slots Q (F0 m x.handlerPc ls [.ref q])) : vx_W p l e R s m args below meth c H locs cells slots Q (F0 m pc ls rest) q := by
  intro T hT X
  have hpl : e.platform.magicAccessors = ({} : Platform).magicAccessors := by rw [X.admits.platform]
  obtain ⟨c3, c4, hc3, hc4, hasg⟩ := Cond.castable_spec hcast
  cases Option.some.inj (hc3.symm.trans hcl)
  obtain ⟨c5, hc5, hcl5⟩ := Cond.classLink_spec hown hlink e.platform hpl
  cases Option.some.inj (hc4.symm.trans hc5)
  obtain ⟨vm', X', st⟩ := X.thenCaughtThrough q (g := F0 m pc ls rest) rfl (Steps.refl _) (by rw [hT]; exact hcell) (by rw [hv]; rfl) (by obtain ⟨k9, h9, -⟩ := Vm.findClass_spec hcl; exact ⟨k9, h9⟩) pre x suf hsplit
    (fun z hz => by
      rcases hpass z hz with h | ⟨hz0, nm, hl1, hn1⟩
      · exact Or.inl h
      · obtain ⟨c6, hc6, hcl6⟩ := Cond.classLink_spec hown hl1 e.platform hpl
        obtain ⟨a8, b8, h1, h2, h3⟩ := hn1
        cases Option.some.inj (h1.symm.trans hcl)
        cases Option.some.inj (h2.symm.trans hc6)
        exact Or.inr ⟨hz0, _, hcl6, h3⟩) hx (Or.inr ⟨h0, c4, hcl5, hasg⟩)
  obtain ⟨t, a1, b1⟩ := kk (T.setVm vm') hT X'
  exact ⟨t, st.trans a1, b1⟩
end Rows
section Ends
variable {p : Program} {l : Launch} {e : Env} {R : Room} {s : State} {m : MethodId} {args : Array Value} {below : List Frame} {meth : Method} {c : Code} {H : Heap} {locs : List Loc} {cells slots : Nat} {Q : State → Prop}
variable {mc ms : Nat} {free : Addr → Prop} {A0 A1 : Nat → Prop} {H0 : Heap} {a : Array Value} {ls : Array Slot} {st0 rest : List Value}
variable {Qc : Array Value → State → Outcome → State → Prop} {XC : String → State → State → Prop}
/-- what a body that may throw owes at its end -/
def vx_MQ (below : List Frame) (Qc : Array Value → State → Outcome → State → Prop) (XC : String → State → State → Prop) (a : Array Value) (s : State) (mc ms : Nat) (free : Addr → Prop) : State → Prop := fun t =>
  ∃ o, t.status = .running ∧ Ended t below o ∧ vx_Q Qc XC mc ms free a s o t
theorem vx_ret {g : JFrame} {mc ms : Nat} (k : W p l e R s m args below meth c H locs cells slots (MQ below Qc args s mc ms free) g) : W p l e R s m args below meth c H locs cells slots (vx_MQ below Qc XC args s mc ms free) g := by
  intro T hT X
  obtain ⟨t, a1, o, b1, b2, b3, b4⟩ := k T hT X
  exact ⟨t, a1, o, b1, b2, Or.inl ⟨b3, b4⟩⟩
/-- not caught here: it goes on to the caller -/
theorem vx_widen {g : JFrame} {q : Addr} {k n : Nat} (h1 : cells ≤ k) (h2 : slots ≤ n) (kk : vx_W p l e R s m args below meth c H locs k n Q g q) : vx_W p l e R s m args below meth c H locs cells slots Q g q := fun T hT X => kk T hT (stand_widen X h1 h2)
theorem vx_out {pc : Nat} {E : String} {ce : Cell} {q : Addr} {mc ms : Nat} (hout : ∀ x ∈ c.exceptionTable.toList, covers x pc = false) (hlocks : meth.locks = false) (hcell : H[q]? = some ce) (hv : ce.vm = .none) (hcl : s.vm.findClass E = some ce.cls)
    (hx : ∀ t : State, t.heap = H → s.vm.Alike t.vm → XC E s t) (hf : ∀ z ∈ locs, free z.base) (hc : cells ≤ mc) (hs : slots ≤ ms) :
    vx_W p l e R s m args below meth c H locs cells slots (vx_MQ below Qc XC args s mc ms free) (F0 m pc ls rest) q := by
  intro T hT X
  obtain ⟨st1, hrun, hend, hW, hsm⟩ := X.leaveThrown q (g := F0 m pc ls rest) rfl rfl rfl hout hlocks
  have hcell9 : (T.setFrames (.throwing q :: below)).heap[q]? = some ce := by
    show T.heap[q]? = some ce
    rw [hT]; exact hcell
  exact ⟨_, st1, .threw q, hrun, hend, Or.inr ⟨q, rfl, E, ce, locs, hx _ hT hW.alike, hcell9, hv, hcl, hW, hsm.mono hc hs, hf⟩⟩
theorem vx_frame {U : State} {k n : Nat} (h : s.sameButNew ({ U with vm := s.vm } : State) locs k n) : s.heap.size ≤ U.heap.size ∧ ∀ q : Nat, q < s.heap.size → (∀ z ∈ locs, z.base ≠ q) → U.heap[q]? = s.heap[q]? := by
  obtain ⟨-, h2, -, -, -, h6⟩ := h
  refine ⟨h2, fun q hq hz => ?_⟩
  obtain ⟨c9, e1, e2, e3, e4⟩ := h6 q _ (Array.getElem?_eq_getElem hq)
  have hs : c9.slots = (s.heap[q]).slots := Array.ext_getElem? fun i => e4 i fun hm => hz _ hm rfl
  have h9 : c9 = s.heap[q] := by
    rw [hs] at e2
    exact e2
  have e5 : U.heap[q]? = some c9 := e1
  rw [e5, h9, Array.getElem?_eq_getElem hq]
/-- the words of a throw but the four that speak of the heap -/
def vx_no (w : Cond) : Bool := decide (w ≠ .isRef (.static Bundle.tN "UNASSIGNED_STACK" Bundle.steD)) && decide (w ≠ .isRef (.static Bundle.tN "SUPPRESSED_SENTINEL" Bundle.listD)) && decide (w ≠ .laysStatic Bundle.tN "UNASSIGNED_STACK" Bundle.steD) && decide (w ≠ .laysStatic Bundle.tN "SUPPRESSED_SENTINEL" Bundle.listD)
def vx_at0 (own : String) (ic : Nat) (X : String) (names : List String) : List Cond := (Bundle.ownAtoms0 own ic X names).filter vx_no
def vx_atS (own : String) (ic : Nat) (X : String) (names : List String) : List Cond := (Bundle.ownAtoms own ic X names).filter vx_no
/-- a word that the tables alone decide, or a good one -/
def vx_ot (w : Cond) : Bool := w.onTables || goodWord w
theorem vx_ot_at {args a' : Array Value} {s U : State} {w : Cond} (hW : s.WarmedH U.vm) (hvm : s.vm = U.vm) (hg : vx_ot w = true) (h : w.before args s = true) : w.before a' U = true := by
  simp only [vx_ot, Bool.or_eq_true] at hg
  rcases hg with hg | hg
  · exact va_tabs hg hvm h
  · exact word_at hW (good_of_word hg) h
/-- a list's words: the good ones out of the method's own list, the others by premises of their own -/
theorem vx_hat {args : Array Value} {s : State} {L B : List Cond} (h1 : ∀ w ∈ L.filter goodWord, w.before args s = true) (h2 : ∀ w ∈ L.filter (fun w => !goodWord w), w ∈ B) (h3 : ∀ w ∈ B, w.before args s = true) : ∀ w ∈ L, w.before args s = true := by
  intro w hw
  by_cases g : goodWord w = true
  · exact h1 w (List.mem_filter.mpr ⟨hw, g⟩)
  · refine h3 w (h2 w (List.mem_filter.mpr ⟨hw, ?_⟩))
    show (!goodWord w) = true
    cases hgw : goodWord w
    · rfl
    · exact absurd hgw g
theorem vx_c {args : Array Value} {s : State} {w : Cond} {B : List Cond} (h : w.before args s = true) (t : ∀ w ∈ B, w.before args s = true) : ∀ w' ∈ w :: B, w'.before args s = true := fun w' h' => (List.mem_cons.mp h').elim (fun e => by rw [e]; exact h) (t w')
theorem vx_n {args : Array Value} {s : State} : ∀ w ∈ ([] : List Cond), w.before args s = true := fun _ h => nomatch h
theorem vx_own {args : Array Value} {s : State} {L : List Cond} (h1 : ∀ w ∈ L.filter vx_no, w.before args s = true)
    (hU : (Cond.isRef (.static Bundle.tN "UNASSIGNED_STACK" Bundle.steD)).before args s = true) (hN : (Cond.isRef (.static Bundle.tN "SUPPRESSED_SENTINEL" Bundle.listD)).before args s = true)
    (lU : (Cond.laysStatic Bundle.tN "UNASSIGNED_STACK" Bundle.steD).before args s = true) (lN : (Cond.laysStatic Bundle.tN "SUPPRESSED_SENTINEL" Bundle.listD).before args s = true) : ∀ w ∈ L, w.before args s = true := by
  intro w hw
  by_cases e1 : w = .isRef (.static Bundle.tN "UNASSIGNED_STACK" Bundle.steD)
  · rw [e1]; exact hU
  · by_cases e2 : w = .isRef (.static Bundle.tN "SUPPRESSED_SENTINEL" Bundle.listD)
    · rw [e2]; exact hN
    · by_cases e3 : w = .laysStatic Bundle.tN "UNASSIGNED_STACK" Bundle.steD
      · rw [e3]; exact lU
      · by_cases e4 : w = .laysStatic Bundle.tN "SUPPRESSED_SENTINEL" Bundle.listD
        · rw [e4]; exact lN
        · exact h1 w (List.mem_filter.mpr ⟨hw, by unfold vx_no; rw [decide_eq_true e1, decide_eq_true e2, decide_eq_true e3, decide_eq_true e4]; rfl⟩)
/-- where a static field lies, its class's statics cell in H -/
def vx_L (C n d : String) (A : Nat → Prop) (U : State) (H : Heap) : Prop := ∃ (c : ClassId) (k : Class) (i : Nat) (f : Field) (a : Nat) (cell : Cell), U.vm.findClass C = some c ∧ U.fieldFound? C n d = some (c, k, i, f) ∧ f.isStatic = true ∧ k.statics = some a ∧ H[a]? = some cell ∧ cell.vm.isStatics = true ∧ cell.cls = c ∧ f.slot < cell.slots.size ∧ k.staticTypes[f.slot]? = some f.type ∧ ¬ A a
theorem vx_L.moved {C n d : String} {A : Nat → Prop} {u U : State} {H : Heap} (hvm : u.vm.Alike U.vm) (h : vx_L C n d A u H) : vx_L C n d A U H := by
  obtain ⟨c, k, i, f, a, cell, h1, h2, h3, h4, h5, h6, h7, h8, h9, h10⟩ := h
  obtain ⟨k', hi', he⟩ := State.fieldFound?_setVm hvm h2
  exact ⟨c, k', i, f, a, cell, by rw [hvm.findClass]; exact h1, hi', h3, by rw [he]; exact h4, h5, h6, h7, h8, by rw [he]; exact h9, h10⟩
theorem vx_L.kept {C n d : String} {A : Nat → Prop} {U : State} {H H1 : Heap} (h : vx_L C n d A U H) (hq : ∀ a : Nat, a < H.size → ¬ A a → H1[a]? = H[a]?) : vx_L C n d A U H1 := by
  obtain ⟨c, k, i, f, a, cell, h1, h2, h3, h4, h5, h6, h7, h8, h9, h10⟩ := h
  exact ⟨c, k, i, f, a, cell, h1, h2, h3, h4, by rw [hq a (Array.getElem?_eq_some_iff.mp h5).1 h10]; exact h5, h6, h7, h8, h9, h10⟩
theorem vx_L.narrow {C n d : String} {A B : Nat → Prop} {U : State} {H : Heap} (h : vx_L C n d A U H) (hAB : ∀ q, B q → A q) : vx_L C n d B U H := by
  obtain ⟨c, k, i, f, a, cell, h1, h2, h3, h4, h5, h6, h7, h8, h9, h10⟩ := h
  exact ⟨c, k, i, f, a, cell, h1, h2, h3, h4, h5, h6, h7, h8, h9, fun z => h10 (hAB _ z)⟩
theorem vx_L.word {C n d : String} {A : Nat → Prop} {s : State} {args : Array Value} (h : vx_L C n d A s s.heap) : (Cond.laysStatic C n d).before args s = true := by
  obtain ⟨c, k, i, f, a, cell, h1, h2, h3, h4, h5, h6, h7, h8, h9, -⟩ := h
  show (Cond.laysStatic C n d).holds args s none s [] = true
  exact Cond.laysStatic_of h1 h2 h3 h4 h5 h6 h7 h8 h9
/-- .. and what it holds: null or some reference -/
def vx_Zq (C n d : String) (A : Nat → Prop) (U : State) (H : Heap) : Prop := va_Zq C n d A U H ∧ vx_L C n d A U H
theorem vx_Zq.moved {C n d : String} {A : Nat → Prop} {u U : State} {H : Heap} (hvm : u.vm.Alike U.vm) (h : vx_Zq C n d A u H) : vx_Zq C n d A U H := ⟨va_Zq.moved hvm h.1, vx_L.moved hvm h.2⟩
theorem vx_Zq.kept {C n d : String} {A : Nat → Prop} {U : State} {H H1 : Heap} (h : vx_Zq C n d A U H) (hq : ∀ a : Nat, a < H.size → ¬ A a → H1[a]? = H[a]?) : vx_Zq C n d A U H1 := ⟨va_Zq.kept h.1 hq, vx_L.kept h.2 hq⟩
theorem vx_Zq.narrow {C n d : String} {A B : Nat → Prop} {U : State} {H : Heap} (h : vx_Zq C n d A U H) (hAB : ∀ q, B q → A q) : vx_Zq C n d B U H := ⟨va_Zq.narrow h.1 hAB, vx_L.narrow h.2 hAB⟩
theorem vx_Zqof {args : Array Value} {s : State} {C n d : String} {A : Nat → Prop} (hl : (Cond.laysStatic C n d).before args s = true) (hini : (Cond.initialized C).before args s = true) (h : (Cond.isRef (.static C n d)).before args s = true) (hA : ∀ a : Nat, a < s.heap.size → ¬ A a) : vx_Zq C n d A s s.heap := by
  refine ⟨va_Zqof hl hini h hA, ?_⟩
  obtain ⟨c, k, i, f, a, cell, h1, h2, h3, h4, h5, h6, h7, h8, h9⟩ := Cond.laysStatic_spec hl
  exact ⟨c, k, i, f, a, cell, h1, h2, h3, h4, h5, h6, h7, h8, h9, hA a (Array.getElem?_eq_some_iff.mp h5).1⟩
theorem vx_isRef {C n d : String} {v : Value} {A : Nat → Prop} {s : State} {args : Array Value} (h : va_Z C n d v A s s.heap) (hv : v.isRef = true) : (Cond.isRef (.static C n d)).before args s = true := by
  obtain ⟨cf, kf, fi, f, a, cell, h1, h2, h3, h4, h5, h6, h7, -⟩ := h
  have he : (Term.static C n d).eval args s none [] s = some v := by
    simp [Term.eval, State.fieldNamed?, h1, h2, h4, h5, h6, h7]
  simp only [Cond.before, Cond.holds, Cond.value, he]
  cases v <;> simp_all [Value.isRef]
theorem vx_isRefq {C n d : String} {A : Nat → Prop} {s : State} {args : Array Value} (h : va_Zq C n d A s s.heap) : (Cond.isRef (.static C n d)).before args s = true := by
  rcases h with h | ⟨t, h⟩
  · exact vx_isRef h rfl
  · exact vx_isRef h rfl
/-- the same frame, seen from here: as if the method were called anew in this heap -/
theorem vx_rebase {T : State} (X : Stand p l e R s m args below meth c T locs cells slots) {R' : Room} (hf : R'.frames ≤ R.frames) (hl : R'.locals ≤ R.locals) (hc : cells + R'.cells ≤ R.cells) (hs : slots + R'.slots ≤ R.slots) :
    Stand p l e R' ((T.setVm s.vm).setFrames (.invoking m args :: below)) m args below meth c T [] 0 0 := by
  have htop : (T.setVm s.vm).topJava?.isSome := X.here.top
  have hF : ((T.setVm s.vm).setFrames (.invoking m args :: below)).frames = .invoking m args :: below := State.frames_setFrames _ (State.cur_lt_of_top htop)
  obtain ⟨g₀, hg0⟩ := Option.isSome_iff_exists.mp htop
  obtain ⟨r, hr⟩ := State.topJava?_eq_some.mp hg0
  have hl9 : e.platform.stackLimits (T.setVm s.vm).me = e.platform.stackLimits s.me := X.limits
  have hb9 : (T.setVm s.vm).me.stackBytes = s.me.stackBytes := X.bytes
  refine ⟨X.admits, X.cas, X.clock, hF, ?_, X.hears, X.method, X.code, X.here, X.tail, X.warmed, ?_, ?_, ?_⟩
  · have h := X.room
    have hU : ((T.setVm s.vm).setFrames (.invoking m args :: below)).localsInUse = s.localsInUse := by
      rw [State.localsInUse_invoking hF (meth := meth) (c := c) X.method X.code, State.localsInUse_invoking X.frames X.method X.code]
    simp only [State.hasRoom, Bool.and_eq_true, decide_eq_true_eq] at h ⊢
    obtain ⟨⟨⟨⟨h1, h2, h3, h4, h5, h6⟩, h7⟩, h8⟩, h9⟩ := h
    rw [X.frames, List.length_cons] at h2 h3
    have q1 := X.heapSize
    have q2 := X.used
    simp only [hF, hU, List.length_cons, State.stackLimits_setFrames, State.stackBytes_setFrames, hl9, hb9]
    refine ⟨⟨⟨⟨by omega, by omega, by omega, by omega, by omega, h6⟩, ?_⟩, ?_⟩, X.book⟩
    · show T.heap.size + R'.cells ≤ e.platform.maxCells
      omega
    · show T.slotsUsed + R'.slots ≤ e.platform.maxSlots
      omega
  · rw [State.stackLimits_setFrames]; rfl
  · rw [State.stackBytes_setFrames]; rfl
  · refine ⟨?_, Nat.le_refl _, Nat.le_refl _, ?_, ?_, fun a c9 h9 => ⟨c9, h9, rfl, rfl, fun _ _ => rfl⟩⟩
    · obtain ⟨t, ht, -⟩ := State.frames_cons hr
      show T.setVm s.vm = { ((T.setVm s.vm).setFrames (.invoking m args :: below)).setFrames (T.setVm s.vm).frames with heap := T.heap, slotsUsed := T.slotsUsed }
      rw [State.setFrames_setFrames, State.setFrames_self ht]
      rfl
    · show T.slotsUsed = T.slotsUsed + ((T.heap.toList.drop T.heap.size).map (·.slots.size)).sum
      rw [List.drop_eq_nil_of_le (Nat.le_of_eq Array.length_toList)]
      rfl
    · show ((T.heap.toList.drop T.heap.size).map (·.slots.size)).sum ≤ 0
      rw [List.drop_eq_nil_of_le (Nat.le_of_eq Array.length_toList)]
      exact Nat.le_refl _
/-- 'throw new E()': new; dup; invokespecial; athrow -/
theorem vx_throw0 {cc : ByteArray} {pc : Nat} (hexec : p.tables.exec = Jvm.exec) (hb : c.code = cc) (hl : l.stackTraces = false) {own cls : String} {names : List String} {ik ic mc ms : Nat} {A : Nat → Prop}
    (hown : s.vm.findClass own = some m.cls) (hcls : Bundle.fit cls = true) (hnames : ∀ n ∈ names, Bundle.fit n = true)
    (hk : (Cond.classLink own ik cls).before args s = true) (hini : (Cond.initialized cls).before args s = true) (hat : ∀ w ∈ vx_at0 own ic cls names, w.before args s = true)
    (hgood : ∀ w ∈ Cond.classLink own ik cls :: Cond.initialized cls :: vx_at0 own ic cls names, vx_ot w = true)
    (hU : vx_Zq Bundle.tN "UNASSIGNED_STACK" Bundle.steD A s s.heap) (hN : vx_Zq Bundle.tN "SUPPRESSED_SENTINEL" Bundle.listD A s s.heap) (hS : va_S A s.heap H locs) (hsize : ls.size = c.maxLocals)
    (d0 : decode cc pc = .ok (.new ik, 3)) (d3 : decode cc (pc + 3) = .ok (.dup, 1)) (d4 : decode cc (pc + 4) = .ok (.invokespecial ic, 3)) (d7 : decode cc (pc + 7) = .ok (.athrow, 1))
    (hout : ∀ x ∈ c.exceptionTable.toList, covers x (pc + 7) = false)
    (hRframes : names.length + 3 < R.frames) (hRlocals : (rest.map fun v => v.category).sum + (13 * (names.length + 1) + 42) ≤ R.locals) (hRcells : cells + 1 ≤ R.cells) (hRslots : slots + 6 ≤ R.slots) (hlocks : meth.locks = false)
    (hx : ∀ t : State, s.vm.Alike t.vm → H.size ≤ t.heap.size → (∀ q : Nat, q < H.size → t.heap[q]? = H[q]?) → XC cls s t)
    (hf : ∀ z ∈ locs, free z.base) (hc : cells + 1 ≤ mc) (hs : slots + 6 ≤ ms) :
    W p l e R s m args below meth c H locs cells slots (vx_MQ below Qc XC args s mc ms free) (F0 m pc ls rest) := by
  intro T hT X
  have htr : e.platform.stackTraces = false := (show e.platform.stackTraces = l.stackTraces by rw [X.admits.platform]).trans hl
  have Y := vx_rebase X (R' := { frames := R.frames, locals := R.locals, cells := 1, slots := 6 }) (Nat.le_refl _) (Nat.le_refl _) hRcells hRslots
  obtain ⟨s', hA⟩ : ∃ z, z = (T.setVm s.vm).setFrames (.invoking m args :: below) := ⟨_, rfl⟩
  rw [← hA] at Y
  have hvm : s'.vm = s.vm := by rw [hA]; rfl
  have hhp : s'.heap = H := by rw [hA]; exact hT
  have hW0 : s.WarmedH s'.vm := by rw [hvm]; exact State.WarmedH.refl s
  have hat' : ∀ w ∈ vx_at0 own ic cls names, w.before args s' = true := fun w hw => vx_ot_at hW0 hvm.symm (hgood w (List.mem_cons_of_mem _ (List.mem_cons_of_mem _ hw))) (hat w hw)
  have hk' : (Cond.classLink own ik cls).before args s' = true := vx_ot_at hW0 hvm.symm (hgood _ List.mem_cons_self) hk
  have hini' : (Cond.initialized cls).before args s' = true := vx_ot_at hW0 hvm.symm (hgood _ (List.mem_cons_of_mem _ List.mem_cons_self)) hini
  have hU' : vx_Zq Bundle.tN "UNASSIGNED_STACK" Bundle.steD A s' s'.heap := by rw [hhp]; exact vx_Zq.moved hW0.alike (hU.kept hS.2.1)
  have hN' : vx_Zq Bundle.tN "SUPPRESSED_SENTINEL" Bundle.listD A s' s'.heap := by rw [hhp]; exact vx_Zq.moved hW0.alike (hN.kept hS.2.1)
  have h : ∀ w ∈ Bundle.ownAtoms0 own ic cls names, w.before args s' = true := vx_own hat' (vx_isRefq hU'.1) (vx_isRefq hN'.1) hU'.2.word hN'.2.word
  have hown' : s'.vm.findClass own = some m.cls := by rw [hvm]; exact hown
  have hins : (Cond.instantiable cls 6).before args s' = true := h _ (by simp [Bundle.ownAtoms0])
  obtain ⟨vm₁, cX, kX, hfX, hkX, -, -, X₁, st1⟩ := Y.newCold hexec (own := own) (C := cls) (index := ik) (n := 6) hown' hk' hins hini'
    (g := F0 m pc ls rest) rfl (by rw [hb]; exact d0) (Nat.le_refl _) (Nat.le_refl _)
  generalize hT1 : (T.setVm vm₁).pushCell { cls := cX, slots := kX.instanceTypes.map defaultValue, vm := .none } = T1 at X₁ st1
  have hcat : (Value.ref T.heap.size).category = 1 := rfl
  have hcellA : T1.heap[T.heap.size]? = some (freshCell cX kX) := by rw [← hT1]; exact State.heap_pushCell_size _ _
  have d3' : decode c.code (pc + 3) = .ok (.dup, 1) := by rw [hb]; exact d3
  obtain ⟨U, hsteps, hrun, hend, hW, hsame, ce, hce, hO⟩ := X₁.ctorThrow0 hexec htr (own := own) (cls := cls) (names := names) (ic := ic) hown' hcls hnames h (fun x hx => nomatch hx) hfX hkX hcellA (by rw [hhp, hT]; exact Nat.le_refl _)
    (g := { method := m, pc := pc + 4, locals := ls, stack := .ref T.heap.size :: .ref T.heap.size :: rest, locked := none }) rfl hsize rfl rfl (rest := rest) rfl
    (by rw [hb]; exact d4) (by rw [hb]; exact d7) hout hRframes (by simp only [List.map_cons, List.sum_cons, hcat]; omega) hlocks
  obtain ⟨f1, f2⟩ := vx_frame hsame
  rw [hhp] at f1 f2
  have hWs : s.WarmedH U.vm := State.WarmedH.trans hW0 hW
  have hcl : s.vm.findClass cls = some ce.cls := by
    have h9 := hO.cls
    rw [hvm] at h9
    exact h9
  have hall : s.sameButNew ({ U with vm := s.vm } : State) locs mc ms := by
    subst hA
    obtain ⟨e1, e2⟩ := hsame
    rw [State.setFrames_setFrames] at e1
    have h2 : (T.setVm s.vm).sameButNew ({ U with vm := s.vm } : State) [] (0 + 1) (0 + 6) := ⟨e1, e2⟩
    have h3 := X.same.trans h2
    rw [List.append_nil] at h3
    exact h3.mono hc hs
  refine ⟨U, ?_, .threw T.heap.size, hrun, hend, Or.inr ⟨T.heap.size, rfl, cls, ce, locs, hx U hWs.alike f1 (fun q hq => f2 q hq (fun z hz => nomatch hz)), hce, hO.vm, hcl, hWs, hall, hf⟩⟩
  refine st1 _ ?_
  show Steps p.tables e below (T1.setTop { method := m, pc := pc + 3, locals := ls, stack := .ref T.heap.size :: rest, locked := none }) _
  jvm_step X₁.here [X₁.here.top, hexec, d3', Value.category]
  exact hsteps
/-- 'throw new E("text")': new; dup; ldc; invokespecial; athrow -/
theorem vx_throwS {cc : ByteArray} {pc : Nat} (hexec : p.tables.exec = Jvm.exec) (hb : c.code = cc) (hl : l.stackTraces = false) {own cls text : String} {names : List String} {ik is ic mc ms sa : Nat} {A : Nat → Prop}
    (hown : s.vm.findClass own = some m.cls) (hcls : Bundle.fit cls = true) (hnames : ∀ n ∈ names, Bundle.fit n = true)
    (hk : (Cond.classLink own ik cls).before args s = true) (hini : (Cond.initialized cls).before args s = true) (hstr : vk_R own is text sa s) (hat : ∀ w ∈ vx_atS own ic cls names, w.before args s = true)
    (hgood : ∀ w ∈ Cond.classLink own ik cls :: Cond.initialized cls :: vx_atS own ic cls names, vx_ot w = true)
    (hU : vx_Zq Bundle.tN "UNASSIGNED_STACK" Bundle.steD A s s.heap) (hN : vx_Zq Bundle.tN "SUPPRESSED_SENTINEL" Bundle.listD A s s.heap) (hS : va_S A s.heap H locs) (hsize : ls.size = c.maxLocals)
    (d0 : decode cc pc = .ok (.new ik, 3)) (d3 : decode cc (pc + 3) = .ok (.dup, 1)) (d4 : decode cc (pc + 4) = .ok (.ldc is, 2)) (d6 : decode cc (pc + 6) = .ok (.invokespecial ic, 3)) (d9 : decode cc (pc + 9) = .ok (.athrow, 1))
    (hout : ∀ x ∈ c.exceptionTable.toList, covers x (pc + 9) = false)
    (hRframes : names.length + 3 < R.frames) (hRlocals : (rest.map fun v => v.category).sum + (13 * (names.length + 1) + 43) ≤ R.locals) (hRcells : cells + 1 ≤ R.cells) (hRslots : slots + 6 ≤ R.slots) (hlocks : meth.locks = false)
    (hx : ∀ t : State, s.vm.Alike t.vm → H.size ≤ t.heap.size → (∀ q : Nat, q < H.size → t.heap[q]? = H[q]?) → XC cls s t)
    (hf : ∀ z ∈ locs, free z.base) (hc : cells + 1 ≤ mc) (hs : slots + 6 ≤ ms) :
    W p l e R s m args below meth c H locs cells slots (vx_MQ below Qc XC args s mc ms free) (F0 m pc ls rest) := by
  intro T hT X
  have htr : e.platform.stackTraces = false := (show e.platform.stackTraces = l.stackTraces by rw [X.admits.platform]).trans hl
  have Y := vx_rebase X (R' := { frames := R.frames, locals := R.locals, cells := 1, slots := 6 }) (Nat.le_refl _) (Nat.le_refl _) hRcells hRslots
  obtain ⟨s', hA⟩ : ∃ z, z = (T.setVm s.vm).setFrames (.invoking m args :: below) := ⟨_, rfl⟩
  rw [← hA] at Y
  have hvm : s'.vm = s.vm := by rw [hA]; rfl
  have hhp : s'.heap = H := by rw [hA]; exact hT
  have hW0 : s.WarmedH s'.vm := by rw [hvm]; exact State.WarmedH.refl s
  have hat' : ∀ w ∈ vx_atS own ic cls names, w.before args s' = true := fun w hw => vx_ot_at hW0 hvm.symm (hgood w (List.mem_cons_of_mem _ (List.mem_cons_of_mem _ hw))) (hat w hw)
  have hk' : (Cond.classLink own ik cls).before args s' = true := vx_ot_at hW0 hvm.symm (hgood _ List.mem_cons_self) hk
  have hini' : (Cond.initialized cls).before args s' = true := vx_ot_at hW0 hvm.symm (hgood _ (List.mem_cons_of_mem _ List.mem_cons_self)) hini
  have hU' : vx_Zq Bundle.tN "UNASSIGNED_STACK" Bundle.steD A s' s'.heap := by rw [hhp]; exact vx_Zq.moved hW0.alike (hU.kept hS.2.1)
  have hN' : vx_Zq Bundle.tN "SUPPRESSED_SENTINEL" Bundle.listD A s' s'.heap := by rw [hhp]; exact vx_Zq.moved hW0.alike (hN.kept hS.2.1)
  have h : ∀ w ∈ Bundle.ownAtoms own ic cls names, w.before args s' = true := vx_own hat' (vx_isRefq hU'.1) (vx_isRefq hN'.1) hU'.2.word hN'.2.word
  have hown' : s'.vm.findClass own = some m.cls := by rw [hvm]; exact hown
  have hins : (Cond.instantiable cls 6).before args s' = true := h _ (by simp [Bundle.ownAtoms])
  obtain ⟨vm₁, cX, kX, hfX, hkX, -, -, X₁, st1⟩ := Y.newCold hexec (own := own) (C := cls) (index := ik) (n := 6) hown' hk' hins hini'
    (g := F0 m pc ls rest) rfl (by rw [hb]; exact d0) (Nat.le_refl _) (Nat.le_refl _)
  generalize hT1 : (T.setVm vm₁).pushCell { cls := cX, slots := kX.instanceTypes.map defaultValue, vm := .none } = T1 at X₁ st1
  have hcat : (Value.ref T.heap.size).category = 1 := rfl
  have hcellA : T1.heap[T.heap.size]? = some (freshCell cX kX) := by rw [← hT1]; exact State.heap_pushCell_size _ _
  have d3' : decode c.code (pc + 3) = .ok (.dup, 1) := by rw [hb]; exact d3
  have d4' : decode c.code (pc + 4) = .ok (.ldc is, 2) := by rw [hb]; exact d4
  have hstr' : vk_R own is text sa s' := vk_R.warm hW0 hstr
  obtain ⟨U, hsteps, hrun, hend, hW, hsame, ce, hce, hO⟩ := X₁.ctorThrowS hexec htr (own := own) (cls := cls) (names := names) (ic := ic) hown' hcls hnames h (fun x hx => nomatch hx) hfX hkX hcellA (by rw [hhp, hT]; exact Nat.le_refl _) (msg := .ref sa) rfl
    (g := { method := m, pc := pc + 6, locals := ls, stack := .ref sa :: .ref T.heap.size :: .ref T.heap.size :: rest, locked := none }) rfl hsize rfl rfl (rest := rest) rfl
    (by rw [hb]; exact d6) (by rw [hb]; exact d9) hout hRframes (by simp only [List.map_cons, List.sum_cons, hcat]; omega) hlocks
  obtain ⟨f1, f2⟩ := vx_frame hsame
  rw [hhp] at f1 f2
  have hWs : s.WarmedH U.vm := State.WarmedH.trans hW0 hW
  have hcl : s.vm.findClass cls = some ce.cls := by
    have h9 := hO.cls
    rw [hvm] at h9
    exact h9
  have hall : s.sameButNew ({ U with vm := s.vm } : State) locs mc ms := by
    subst hA
    obtain ⟨e1, e2⟩ := hsame
    rw [State.setFrames_setFrames] at e1
    have h2 : (T.setVm s.vm).sameButNew ({ U with vm := s.vm } : State) [] (0 + 1) (0 + 6) := ⟨e1, e2⟩
    have h3 := X.same.trans h2
    rw [List.append_nil] at h3
    exact h3.mono hc hs
  refine ⟨U, ?_, .threw T.heap.size, hrun, hend, Or.inr ⟨T.heap.size, rfl, cls, ce, locs, hx U hWs.alike f1 (fun q hq => f2 q hq (fun z hz => nomatch hz)), hce, hO.vm, hcl, hWs, hall, hf⟩⟩
  refine st1 _ ?_
  show Steps p.tables e below (T1.setTop { method := m, pc := pc + 3, locals := ls, stack := .ref T.heap.size :: rest, locked := none }) _
  jvm_step X₁.here [X₁.here.top, hexec, d3', Value.category]
  exact X₁.ldcString hexec (own := own) (text := text) (index := is) (a := sa) hown' hstr'.1 hstr'.2
    (g := { method := m, pc := pc + 4, locals := ls, stack := .ref T.heap.size :: .ref T.heap.size :: rest, locked := none }) rfl d4' _ hsteps
/-- 'throw new E("text")', the text by a wide index -/
theorem vx_throwSW {cc : ByteArray} {pc : Nat} (hexec : p.tables.exec = Jvm.exec) (hb : c.code = cc) (hl : l.stackTraces = false) {own cls text : String} {names : List String} {ik is ic mc ms sa : Nat} {A : Nat → Prop}
    (hown : s.vm.findClass own = some m.cls) (hcls : Bundle.fit cls = true) (hnames : ∀ n ∈ names, Bundle.fit n = true)
    (hk : (Cond.classLink own ik cls).before args s = true) (hini : (Cond.initialized cls).before args s = true) (hstr : vk_R own is text sa s) (hat : ∀ w ∈ vx_atS own ic cls names, w.before args s = true)
    (hgood : ∀ w ∈ Cond.classLink own ik cls :: Cond.initialized cls :: vx_atS own ic cls names, vx_ot w = true)
    (hU : vx_Zq Bundle.tN "UNASSIGNED_STACK" Bundle.steD A s s.heap) (hN : vx_Zq Bundle.tN "SUPPRESSED_SENTINEL" Bundle.listD A s s.heap) (hS : va_S A s.heap H locs) (hsize : ls.size = c.maxLocals)
    (d0 : decode cc pc = .ok (.new ik, 3)) (d3 : decode cc (pc + 3) = .ok (.dup, 1)) (d4 : decode cc (pc + 4) = .ok (.ldc_w is, 3)) (d7 : decode cc (pc + 7) = .ok (.invokespecial ic, 3)) (d10 : decode cc (pc + 10) = .ok (.athrow, 1))
    (hout : ∀ x ∈ c.exceptionTable.toList, covers x (pc + 10) = false)
    (hRframes : names.length + 3 < R.frames) (hRlocals : (rest.map fun v => v.category).sum + (13 * (names.length + 1) + 43) ≤ R.locals) (hRcells : cells + 1 ≤ R.cells) (hRslots : slots + 6 ≤ R.slots) (hlocks : meth.locks = false)
    (hx : ∀ t : State, s.vm.Alike t.vm → H.size ≤ t.heap.size → (∀ q : Nat, q < H.size → t.heap[q]? = H[q]?) → XC cls s t)
    (hf : ∀ z ∈ locs, free z.base) (hc : cells + 1 ≤ mc) (hs : slots + 6 ≤ ms) :
    W p l e R s m args below meth c H locs cells slots (vx_MQ below Qc XC args s mc ms free) (F0 m pc ls rest) := by
  intro T hT X
  have htr : e.platform.stackTraces = false := (show e.platform.stackTraces = l.stackTraces by rw [X.admits.platform]).trans hl
  have Y := vx_rebase X (R' := { frames := R.frames, locals := R.locals, cells := 1, slots := 6 }) (Nat.le_refl _) (Nat.le_refl _) hRcells hRslots
  obtain ⟨s', hA⟩ : ∃ z, z = (T.setVm s.vm).setFrames (.invoking m args :: below) := ⟨_, rfl⟩
  rw [← hA] at Y
  have hvm : s'.vm = s.vm := by rw [hA]; rfl
  have hhp : s'.heap = H := by rw [hA]; exact hT
  have hW0 : s.WarmedH s'.vm := by rw [hvm]; exact State.WarmedH.refl s
  have hat' : ∀ w ∈ vx_atS own ic cls names, w.before args s' = true := fun w hw => vx_ot_at hW0 hvm.symm (hgood w (List.mem_cons_of_mem _ (List.mem_cons_of_mem _ hw))) (hat w hw)
  have hk' : (Cond.classLink own ik cls).before args s' = true := vx_ot_at hW0 hvm.symm (hgood _ List.mem_cons_self) hk
  have hini' : (Cond.initialized cls).before args s' = true := vx_ot_at hW0 hvm.symm (hgood _ (List.mem_cons_of_mem _ List.mem_cons_self)) hini
  have hU' : vx_Zq Bundle.tN "UNASSIGNED_STACK" Bundle.steD A s' s'.heap := by rw [hhp]; exact vx_Zq.moved hW0.alike (hU.kept hS.2.1)
  have hN' : vx_Zq Bundle.tN "SUPPRESSED_SENTINEL" Bundle.listD A s' s'.heap := by rw [hhp]; exact vx_Zq.moved hW0.alike (hN.kept hS.2.1)
  have h : ∀ w ∈ Bundle.ownAtoms own ic cls names, w.before args s' = true := vx_own hat' (vx_isRefq hU'.1) (vx_isRefq hN'.1) hU'.2.word hN'.2.word
  have hown' : s'.vm.findClass own = some m.cls := by rw [hvm]; exact hown
  have hins : (Cond.instantiable cls 6).before args s' = true := h _ (by simp [Bundle.ownAtoms])
  obtain ⟨vm₁, cX, kX, hfX, hkX, -, -, X₁, st1⟩ := Y.newCold hexec (own := own) (C := cls) (index := ik) (n := 6) hown' hk' hins hini'
    (g := F0 m pc ls rest) rfl (by rw [hb]; exact d0) (Nat.le_refl _) (Nat.le_refl _)
  generalize hT1 : (T.setVm vm₁).pushCell { cls := cX, slots := kX.instanceTypes.map defaultValue, vm := .none } = T1 at X₁ st1
  have hcat : (Value.ref T.heap.size).category = 1 := rfl
  have hcellA : T1.heap[T.heap.size]? = some (freshCell cX kX) := by rw [← hT1]; exact State.heap_pushCell_size _ _
  have d3' : decode c.code (pc + 3) = .ok (.dup, 1) := by rw [hb]; exact d3
  have d4' : decode c.code (pc + 4) = .ok (.ldc_w is, 3) := by rw [hb]; exact d4
  have hstr' : vk_R own is text sa s' := vk_R.warm hW0 hstr
  obtain ⟨U, hsteps, hrun, hend, hW, hsame, ce, hce, hO⟩ := X₁.ctorThrowS hexec htr (own := own) (cls := cls) (names := names) (ic := ic) hown' hcls hnames h (fun x hx => nomatch hx) hfX hkX hcellA (by rw [hhp, hT]; exact Nat.le_refl _) (msg := .ref sa) rfl
    (g := { method := m, pc := pc + 7, locals := ls, stack := .ref sa :: .ref T.heap.size :: .ref T.heap.size :: rest, locked := none }) rfl hsize rfl rfl (rest := rest) rfl
    (by rw [hb]; exact d7) (by rw [hb]; exact d10) hout hRframes (by simp only [List.map_cons, List.sum_cons, hcat]; omega) hlocks
  obtain ⟨f1, f2⟩ := vx_frame hsame
  rw [hhp] at f1 f2
  have hWs : s.WarmedH U.vm := State.WarmedH.trans hW0 hW
  have hcl : s.vm.findClass cls = some ce.cls := by
    have h9 := hO.cls
    rw [hvm] at h9
    exact h9
  have hall : s.sameButNew ({ U with vm := s.vm } : State) locs mc ms := by
    subst hA
    obtain ⟨e1, e2⟩ := hsame
    rw [State.setFrames_setFrames] at e1
    have h2 : (T.setVm s.vm).sameButNew ({ U with vm := s.vm } : State) [] (0 + 1) (0 + 6) := ⟨e1, e2⟩
    have h3 := X.same.trans h2
    rw [List.append_nil] at h3
    exact h3.mono hc hs
  refine ⟨U, ?_, .threw T.heap.size, hrun, hend, Or.inr ⟨T.heap.size, rfl, cls, ce, locs, hx U hWs.alike f1 (fun q hq => f2 q hq (fun z hz => nomatch hz)), hce, hO.vm, hcl, hWs, hall, hf⟩⟩
  refine st1 _ ?_
  show Steps p.tables e below (T1.setTop { method := m, pc := pc + 3, locals := ls, stack := .ref T.heap.size :: rest, locked := none }) _
  jvm_step X₁.here [X₁.here.top, hexec, d3', Value.category]
  exact X₁.ldcStringW hexec (own := own) (text := text) (index := is) (a := sa) hown' hstr'.1 hstr'.2
    (g := { method := m, pc := pc + 4, locals := ls, stack := .ref T.heap.size :: .ref T.heap.size :: rest, locked := none }) rfl d4' _ hsteps
end Ends
section Bodies
variable {l : Launch}
theorem vx_ofW {y : MethodName} {ws ws' : List Cond} {rm : Room} {Pc : Array Value → State → Prop} {Qc : Array Value → State → Outcome → State → Prop} {XC : String → State → State → Prop} {mc ms : Nat} {free : Addr → Prop} {cc : ByteArray} {maxL : Nat} {ret : Option FieldType}
    (hy : plainName y.cls = true) (hw : ws = Cond.code y cc maxL ret :: ws')
    (body : ∀ p e s m args below meth c s₁, BodyLoose p l y (headSpec ws rm) cc maxL ret e s m args below meth c s₁ → c.maxLocals = maxL → (∀ x ∈ c.exceptionTable.toList, False) → Pc args s →
      W p l e (headSpec ws rm).room s m args below meth c s.heap [] 0 0 (vx_MQ below Qc XC args s mc ms free) (entryFrame m args maxL)) : vx_Met l y ws rm Pc Qc XC mc ms free := by
  refine MetFree.of_bodyS (code := cc) (maxLocals := maxL) (ret := ret) hy ?_ ?_
  · intro args s m h hn
    obtain ⟨meth, c, h1, h2, h3, h4, h5, h6, -, -⟩ := Cond.code_spec hn (atoms_spec (ws := ws) h _ (by rw [hw]; exact List.mem_cons_self))
    exact ⟨meth, c, h1, h2, h3, h4, h5, h6⟩
  · intro p e s m args below meth c s₁ B hml hP _
    have hh0 : s₁.heap = s.heap := by rw [B.state]; rfl
    have ht : ∀ x ∈ c.exceptionTable.toList, False := by
      obtain ⟨meth9, c9, h1, h2, -, -, -, -, h7, -⟩ := Cond.code_spec B.named (atoms_spec (ws := ws) B.pre _ (by rw [hw]; exact List.mem_cons_self))
      cases Option.some.inj (h1.symm.trans B.method)
      cases Option.some.inj (h2.symm.trans (Stand.of_body B).code)
      intro x hx
      rw [Array.isEmpty_iff.mp h7] at hx
      cases hx
    obtain ⟨t, a1, o, b1, b2, b3⟩ := body p e s m args below meth c s₁ B hml ht hP s₁ hh0 (Stand.of_body B)
    exact ⟨t, o, a1, b1, b2, b3⟩
/-- the table of a body with handlers -/
theorem vx_table {p : Program} {x y : MethodName} {S : Spec} {cc bytes : ByteArray} {maxL maxL' : Nat} {ret ret' : Option FieldType} {e : Env} {s s₁ : State} {m : MethodId} {args : Array Value} {below : List Frame} {meth : Method} {c : Code} {hh : List (Nat × Nat × Nat × Nat)}
    (B : BodyLoose p l y S cc maxL ret e s m args below meth c s₁) (h : (Cond.codeWith y bytes maxL' ret' hh).before args s = true) : c.exceptionTable.toList = tableOf hh := by
  obtain ⟨m9, meth9, c9, hn9, h1, h2, -, -, h6, -⟩ := Cond.codeWith_spec h
  cases Option.some.inj (hn9.symm.trans B.named)
  cases Option.some.inj (h1.symm.trans B.method)
  cases Option.some.inj (h2.symm.trans (Stand.of_body B).code)
  rw [← h6, table_eq]
end Bodies
end VXA
/-! ===== END ===== -/
/-! ===== BEGIN a static call of a method with an exception table ===== -/
section VXS
variable {p : Program} {l : Launch} {e : Env} {R : Room} {s : State} {m : MethodId} {args : Array Value} {below : List Frame} {meth : Method} {c : Code} {T : State} {H : Heap} {locs : List Loc} {cells slots : Nat}
abbrev vx_CSW (R : Room) (s : State) (args : Array Value) (own : String) (index : Nat) (y : MethodName) (bytes : ByteArray) (maxL : Nat) (ret : Option FieldType) (hh : List (Nat × Nat × Nat × Nat)) (ws : List Cond) (rm : Room) (mc ms n : Nat) : Prop :=
  (rm.cells = mc ∧ rm.slots = ms ∧ rm.frames + 1 ≤ R.frames ∧ 8 + (maxL + 11) + rm.locals ≤ R.locals ∧ (∀ w ∈ ws, ∀ (a' : Array Value) (U : State), s.WarmedH U.vm → w.before a' U = true) ∧ Cond.codeWith y bytes maxL ret hh ∈ ws) ∧
  (Cond.codeWith y bytes maxL ret hh).before args s = true ∧ (Cond.initialized y.cls).before args s = true ∧ (y.cls ≠ "java/lang/invoke/MethodHandle" ∧ y.cls ≠ "java/lang/invoke/VarHandle") ∧
  (∀ sig, parseMethodDescriptor y.desc = some sig → n = sig.parameters.length) ∧ (Cond.methodLink own index y).before args s = true ∧ (Cond.static y).before args s = true
theorem vx_cwSW {own : String} {index maxL mc ms : Nat} {y : MethodName} {bytes : ByteArray} {ret : Option FieldType} {hh : List (Nat × Nat × Nat × Nat)} {Ts ws ws' : List Cond} {rm : Room} (n : Nat) (ht : ∀ w ∈ Ts, w.before args s = true) (hT : GoodIn Ts (va_wsS own index y ws)) (hw : ws = Cond.codeWith y bytes maxL ret hh :: ws') (hrc : rm.cells = mc) (hrs : rm.slots = ms)
    (hd : y.cls ≠ "java/lang/invoke/MethodHandle" ∧ y.cls ≠ "java/lang/invoke/VarHandle" ∧ (parseMethodDescriptor y.desc).map (fun d => d.parameters.length) = some n) (hR : rm.frames + 1 ≤ R.frames ∧ 8 + (maxL + 11) + rm.locals ≤ R.locals) :
    vx_CSW R s args own index y bytes maxL ret hh ws rm mc ms n := by
  have ok : ∀ w ∈ va_wsS own index y ws, w.before args s = true := fun w h => ht w (hT w h).1
  have hG : GoodIn Ts ws := fun w h => hT w (by unfold va_wsS; exact List.mem_append_right _ h)
  have hc : Cond.codeWith y bytes maxL ret hh ∈ ws := by rw [hw]; exact List.mem_cons_self
  refine ⟨⟨hrc, hrs, hR.1, hR.2, pay_in ht hG, hc⟩, ht _ (hG _ hc).1, ok _ (by simp [va_wsS]), ⟨hd.1, hd.2.1⟩, fun sig h => ?_, ok _ (by simp [va_wsS]), ok _ (by simp [va_wsS])⟩
  have h2 := hd.2.2
  rw [h] at h2
  exact (Option.some.inj h2).symm
theorem vx_callSW (X : Stand p l e R s m args below meth c T locs cells slots) (hexec : p.tables.exec = Jvm.exec) {own : String} {index : Nat} {y : MethodName} {bytes : ByteArray} {maxL : Nat} {ret : Option FieldType} {hh : List (Nat × Nat × Nat × Nat)}
    (hown : s.vm.findClass own = some m.cls) (hlink : (Cond.methodLink own index y).before args s = true) (hstat : (Cond.static y).before args s = true) (hinit : (Cond.initialized y.cls).before args s = true)
    (hcode : (Cond.codeWith y bytes maxL ret hh).before args s = true) (hy : y.cls ≠ "java/lang/invoke/MethodHandle" ∧ y.cls ≠ "java/lang/invoke/VarHandle")
    {W9 : Nat} {Pre : Pt → Array Value → Prop} {Post : Pt → Array Value → Option Value → Pt → Prop} (hK : Back l R p e below s args y 3 W9 Pre Post)
    {g : JFrame} (hg : g.method = m) (hsize : g.locals.size = c.maxLocals) {argsL rest : List Value} (hlen : ∀ sig, parseMethodDescriptor y.desc = some sig → argsL.length = sig.parameters.length)
    (hstack : g.stack = argsL.reverse ++ rest) (hW : 2 * g.monitorRoom + (rest.map fun v => v.category).sum ≤ W9) (hdg : decode c.code g.pc = .ok (.invokestatic index, 3))
    (hpre : ∀ vm₁, s.WarmedH vm₁ → Pre ⟨T.setVm vm₁, locs, cells, slots⟩ argsL.toArray) :
    ∃ (v : Option Value) (vm₁ : Vm) (B : Pt), s.WarmedH vm₁ ∧ Stand p l e R s m args below meth c B.U B.locs B.cells B.slots ∧ Post ⟨T.setVm vm₁, locs, cells, slots⟩ argsL.toArray v B ∧
      ∀ target, Steps p.tables e below (B.U.setTop { g with pc := g.pc + 3, stack := v.toList ++ rest }) target → Steps p.tables e below (T.setTop g) target := by
  obtain ⟨mk, methM, cM, hnamed, hmethM, -, -, -, -, -, -, hsigM⟩ := Cond.codeWith_spec hcode
  have hstatic : methM.isStatic = true := Cond.static_spec hnamed hmethM hstat
  obtain ⟨kP, hkP, -⟩ := className_of_methodNamed hnamed
  have hinitP : kP.init = .initialized := Cond.initialized_spec (findClass_of_methodNamed hnamed) hkP hinit
  obtain ⟨vm₁, X₁, hstep₁⟩ := X.invokestatic hexec hown hlink hnamed hmethM hstatic hkP hinitP hy (g := g) hg (argsL := argsL) (rest := rest) (hlen _ hsigM) hstack hdg
  obtain ⟨v, B, X', hpost, hsteps⟩ := hK m meth c ⟨T.setVm vm₁, locs, cells, slots⟩ { g with stack := rest } (.invokestatic index) mk argsL.toArray X₁ hg hsize hdg hW (X₁.named hnamed) (hpre vm₁ X₁.warmed)
  exact ⟨v, vm₁, B, X₁.warmed, X', hpost, fun target h => hstep₁ _ fun acts => by rw [doInvoke_state]; exact hsteps.trans h⟩
theorem vx_runSW {y : MethodName} {bytes cc : ByteArray} {maxL nL mc ms n index : Nat} {ret : Option FieldType} {hh : List (Nat × Nat × Nat × Nat)} {ws : List Cond} {rm : Room} {Pc : Array Value → State → Prop} {Qc : Array Value → State → Outcome → State → Prop} {free : Addr → Prop} {Ts : List Cond} {own : String} {As rest : List Value} {g : JFrame}
    (S : CallFix p m c cc nL s args Ts own) (hM : Met l y ws rm Pc Qc mc ms free) (cw : vx_CSW R s args own index y bytes maxL ret hh ws rm mc ms n) (hp : PreS s H Pc As)
    (hg : g.method = m) (hn : As.length = n) (hsize : g.locals.size = nL) (hstack : g.stack = As.reverse ++ rest) (hW : 2 * g.monitorRoom + (rest.map fun v => v.category).sum ≤ 8) (hdg : decode cc g.pc = .ok (.invokestatic index, 3)) (hf : cells + mc ≤ R.cells ∧ slots + ms ≤ R.slots) :
    va_Run p l e R s m args below meth c H locs cells slots mc ms g rest (Qc As.toArray) (free) := by
  obtain ⟨⟨hrc, hrs, hfr, hlo, hws, hcw⟩, hcode, hini, hy, hlen, hl, hstt⟩ := cw
  have hK : Back l R p e below s args y 3 8 (PreOf R mc ms Pc) (PostOf Qc mc ms free) := va_backW (hh := hh) (bytes := bytes) (maxL := maxL) (ret := ret) hM hp.1 hrc hrs hfr hlo hws hcw (fun a' U hW => word_at hW (Or.inl (by first | rfl | simp [Cond.onTables, Cond.keeps, Cond.steady])) hini)
  obtain ⟨hx, hb, hml, ho, -⟩ := S
  intro T hT X
  obtain ⟨v, vm₁, ⟨U', l2, c2, s2⟩, hW₁, X', ⟨g', mk, t, L, e1, e2, hq, h1, hL, h2, h3⟩, st⟩ := vx_callSW X hx (hh := hh) (bytes := bytes) (maxL := maxL) (ret := ret) ho hl hstt hini hcode hy hK hg (hsize.trans hml.symm) (argsL := As) (rest := rest) (fun sig h => hn.trans (hlen sig h)) hstack hW (by rw [hb]; exact hdg)
    (fun vm₁ hW₁ => ⟨hf.1, hf.2, hp.2 (T.setVm vm₁) hT hW₁⟩)
  dsimp only [Pt.U, Pt.locs, Pt.cells, Pt.slots] at X' e1 e2 h1 h2 h3 st
  subst h1; subst h2; subst h3
  exact ⟨v, (T.setVm vm₁).calling g' mk As.toArray, t, U', L, hT, X', hL, e1, e2, hq, st⟩
/-- not caught here, past rows that name other classes: it goes on to the caller -/
theorem vx_outP {p : Program} {l : Launch} {e : Env} {R : Room} {s : State} {m : MethodId} {args : Array Value} {below : List Frame} {meth : Method} {c : Code} {H : Heap} {locs : List Loc} {cells slots : Nat} {free : Addr → Prop} {ls : Array Slot} {rest : List Value} {Qc : Array Value → State → Outcome → State → Prop} {XC : String → State → State → Prop}
    {pc : Nat} {own E : String} {ce : Cell} {q : Addr} {mc ms : Nat} (hown : s.vm.findClass own = some m.cls) (hlocks : meth.locks = false)
    (hpass : ∀ z ∈ c.exceptionTable.toList, covers z pc = false ∨ (z.catchType ≠ 0 ∧ ∃ nm : String, (Cond.classLink own z.catchType nm).before args s = true ∧ va_Nc E nm s)) (hcell : H[q]? = some ce) (hv : ce.vm = .none) (hcl : s.vm.findClass E = some ce.cls)
    (hx : ∀ t : State, t.heap = H → s.vm.Alike t.vm → XC E s t) (hf : ∀ z ∈ locs, free z.base) (hc : cells ≤ mc) (hs : slots ≤ ms) :
    vx_W p l e R s m args below meth c H locs cells slots (vx_MQ below Qc XC args s mc ms free) (F0 m pc ls rest) q := by
  intro T hT X
  have hpl : e.platform.magicAccessors = ({} : Platform).magicAccessors := by rw [X.admits.platform]
  obtain ⟨vm', hW', X', st⟩ := X.outThrough hlocks q (g := F0 m pc ls rest) rfl rfl rfl (cell := ce) (by rw [hT]; exact hcell) (by rw [hv]; rfl)
    (by obtain ⟨k9, h9, -⟩ := Vm.findClass_spec hcl; exact ⟨k9, h9⟩) (fun z hz => by
      rcases hpass z hz with h | ⟨hz0, nm, hl1, hn1⟩
      · exact Or.inl h
      · obtain ⟨c6, hc6, hcl6⟩ := Cond.classLink_spec hown hl1 e.platform hpl
        obtain ⟨a8, b8, h1, h2, h3⟩ := hn1
        cases Option.some.inj (h1.symm.trans hcl)
        cases Option.some.inj (h2.symm.trans hc6)
        exact Or.inr ⟨hz0, _, hcl6, h3⟩)
  obtain ⟨g₀, hfr⟩ := X'.frames_eq
  have hcell9 : ((T.setVm vm').setFrames (.throwing q :: below)).heap[q]? = some ce := by
    show T.heap[q]? = some ce
    rw [hT]; exact hcell
  have hend : Ended ((T.setVm vm').setFrames (.throwing q :: below)) below (.threw q) := State.frames_setFrames _ (State.cur_lt_of_frames hfr)
  refine ⟨(T.setVm vm').setFrames (.throwing q :: below), ?_, .threw q, X'.here.running, hend, Or.inr ⟨q, rfl, E, ce, locs, hx _ hT (X'.ends _).1.alike, hcell9, hv, hcl, (X'.ends _).1, (X'.ends _).2.mono hc hs, hf⟩⟩
  rw [X.pushThrowing_eq]
  exact st
/-- a thing of a world lies in the heap -/
theorem vx_lt {D : va_G} {cl : List vw_C} {ws : va_W} {H1 : Heap} (h : va_P D cl ws H1) {k : Nat} {q : Nat × va_E} (hk : ws[k]? = some q) : q.1 < H1.size := (h k q hk).lt
end VXS
/-! ===== END ===== -/
/-! ===== BEGIN methods with a table of their own: called by a name, returning or throwing ===== -/
section VXH
/-! vx_backW, vx_callVX, vx_callSX, vx_callVW, vx_runVW, vx_runVX, vx_runSX, vx_ofWH follow the same proofs as their sisters above (Free/Laws.lean, Shelf42/LK1.lean); vx_outP calls Shelf42/NT130.lean (outThrough). -/
section
variable {l : Launch} {R : Room} {p : Program} {e : Env} {below : List Frame} {s : State} {sargs : Array Value} {y : MethodName} {len W9 : Nat}
theorem vx_backW {ws : List Cond} {rm : Room} {Pc : Array Value → State → Prop} {Qc : Array Value → State → Outcome → State → Prop} {XC : String → State → State → Prop} {mc ms : Nat} {free : Addr → Prop} {bytes : ByteArray} {maxL : Nat} {ret : Option FieldType} {hh : List (Nat × Nat × Nat × Nat)}
    (hM : vx_Met l y ws rm Pc Qc XC mc ms free) (hblind : FrameBlind Pc) (hrc : rm.cells = mc) (hrs : rm.slots = ms)
    (hframes : rm.frames + 1 ≤ R.frames) (hlocals : W9 + (maxL + 11) + rm.locals ≤ R.locals)
    (hws : ∀ w ∈ ws, ∀ a' U, s.WarmedH U.vm → w.before a' U = true) (hcode : Cond.codeWith y bytes maxL ret hh ∈ ws) (hinit : ∀ a' U, s.WarmedH U.vm → (Cond.initialized y.cls).before a' U = true) :
    vx_Back l R p e below s sargs y len W9 (PreOf R mc ms Pc) (PostOf Qc mc ms free) (vx_Post XC mc ms free) := by
  intro m meth c A g ig mk a X hg hsize hdg hW hn hp
  have h1 : (headSpec ws rm).pre.before a A.U = true := atoms_intro fun w hw => hws w hw _ _ X.warmed
  have h2 : (Cond.codeWith y bytes maxL ret hh).before a A.U = true := hws _ hcode _ _ X.warmed
  have h3 : (Cond.initialized y.cls).before a A.U = true := hinit _ _ X.warmed
  have h4 : A.cells + (headSpec ws rm).room.cells ≤ R.cells := by rw [show (headSpec ws rm).room.cells = mc from hrc]; exact hp.1
  have h5 : A.slots + (headSpec ws rm).room.slots ≤ R.slots := by rw [show (headSpec ws rm).room.slots = ms from hrs]; exact hp.2.1
  have hPc : Pc a (A.U.calling g mk a) := hblind _ _ _ _ hp.2.2
  obtain ⟨U, Ls, c0, s0⟩ := A
  dsimp only [Pt.U, Pt.locs, Pt.cells, Pt.slots] at h1 h2 h3 h4 h5 X hn hPc ⊢
  obtain ⟨m9, methY, cY, hn9, hmY, hcY, -, hlY, -⟩ := Cond.codeWith_spec h2
  cases Option.some.inj (hn9.symm.trans hn)
  obtain ⟨kY, hkY, -⟩ := className_of_methodNamed hn
  have hinitY : kY.init = .initialized := Cond.initialized_spec (findClass_of_methodNamed hn) hkY h3
  have h : At U g.method c below := by rw [hg]; exact X.here
  have hlocals9 : W9 + (maxL + 11) + (headSpec ws rm).room.locals ≤ R.locals := hlocals
  have happ : (headSpec ws rm).appliesLoose y e.platform (U.calling g mk a) = true :=
    Spec.appliesLoose_calling (g := g) h hdg hn hkY hinitY
      (X.room_calling (g := g) (R' := (headSpec ws rm).room) hsize hmY hcY hframes (by rw [hlY]; omega) h4 h5) h1
  obtain ⟨mid, hmid⟩ := h.above
  have hfr : (U.setTop g).frames = (.java g :: mid) ++ below := by rw [State.frames_setTop' g h.top, hmid]; rfl
  obtain ⟨o, s₂, hsteps, -, hend, hq⟩ := Steps.callFree hM p X.admits X.cas X.clock (acts := []) hfr happ hPc trivial
  have hq' : vx_Q Qc XC mc ms free a (U.calling g mk a) o s₂ := hq
  rw [State.frames_setTop' g h.top] at hend
  obtain ⟨g₀, hg0⟩ := Option.isSome_iff_exists.mp h.top
  obtain ⟨r, hr⟩ := State.topJava?_eq_some.mp hg0
  have hr' : (({ U with heap := s₂.heap, slotsUsed := s₂.slotsUsed } : State).setVm s₂.vm).frames = .java g₀ :: r := hr
  rcases hq' with ⟨hqc, L, hfe, hL⟩ | ⟨q, rfl, E, ce, L, hx, hce, hcv, hcl, hW₂, hsm, hL⟩
  · obtain ⟨⟨v, rfl⟩, hW₂, e2, q2, q3, q4, q5, q6⟩ := id hfe
    have e3 : s₂ = ({ (U.calling g mk a).setFrames s₂.frames with heap := s₂.heap, slotsUsed := s₂.slotsUsed } : State).setVm s₂.vm := by
      have : s₂ = ({ s₂ with vm := (U.calling g mk a).vm } : State).setVm s₂.vm := rfl
      rw [e2] at this
      exact this
    obtain ⟨c₂, i₂, len₂, hc₂, hd₂, hf₂⟩ := hend
    have hW' : U.WarmedH s₂.vm := hW₂
    have hcc : c₂ = c := by
      have h1 : s₂.code? g.method = U.code? g.method := by
        rw [State.code?_eq, State.code?_eq, hW'.alike.method?]
      exact Option.some.inj (hc₂.symm.trans (h1.trans h.code))
    subst hcc
    have hlen : len₂ = len := by rw [hdg] at hd₂; cases hd₂; rfl
    subst hlen
    have hs₂ : s₂ = (({ U with heap := s₂.heap, slotsUsed := s₂.slotsUsed } : State).setVm s₂.vm).setTop { g with pc := g.pc + len₂, stack := v.toList ++ g.stack } := by
      refine e3.trans ?_
      rw [hf₂, State.calling_eq h.top, State.setFrames_setFrames, State.setTop_of_frames _ hr', hr]
      rfl
    have hsame : U.sameButNew ({ U with heap := s₂.heap, slotsUsed := s₂.slotsUsed } : State) L mc ms := by
      refine ⟨?_, q2, q3, q4, q5, q6⟩
      obtain ⟨t, ht, -⟩ := State.frames_cons hr
      show ({ U with heap := s₂.heap, slotsUsed := s₂.slotsUsed } : State) = { U.setFrames U.frames with heap := s₂.heap, slotsUsed := s₂.slotsUsed }
      rw [State.setFrames_self ht]
    subst hg
    refine Or.inl ⟨v, ⟨(({ U with heap := s₂.heap, slotsUsed := s₂.slotsUsed } : State).setVm s₂.vm), Ls ++ L, c0 + mc, s0 + ms⟩,
      ⟨X.admits, X.cas, X.clock, X.frames, X.room, X.hears, X.method, X.code, (X.here.setHeapUsed s₂.heap s₂.slotsUsed).setVm hW'.alike, X.tail, State.WarmedH.trans X.warmed hW', X.limits, X.bytes, X.same.trans (hsame.setVm s.vm)⟩,
      ⟨g, mk, s₂, L, rfl, rfl, hqc, rfl, hL, rfl, rfl⟩, ?_⟩
    show Steps p.tables e below _ ((({ U with heap := s₂.heap, slotsUsed := s₂.slotsUsed } : State).setVm s₂.vm).setTop { g with pc := g.pc + len₂, stack := v.toList ++ g.stack })
    rw [← hs₂]
    exact hsteps
  · obtain ⟨e2, q2, q3, q4, q5, q6⟩ := id hsm
    have e3 : s₂ = ({ (U.calling g mk a).setFrames s₂.frames with heap := s₂.heap, slotsUsed := s₂.slotsUsed } : State).setVm s₂.vm := by
      have : s₂ = ({ s₂ with vm := (U.calling g mk a).vm } : State).setVm s₂.vm := rfl
      rw [e2] at this
      exact this
    have hf₂ : s₂.frames = .throwing q :: .java g :: U.frames.tail := hend
    have hW' : U.WarmedH s₂.vm := hW₂
    have hs₂ : s₂ = ((({ U with heap := s₂.heap, slotsUsed := s₂.slotsUsed } : State).setVm s₂.vm).setTop g).pushFrame (.throwing q) := by
      refine e3.trans ?_
      rw [hf₂, State.calling_eq h.top, State.setFrames_setFrames, State.pushFrame, State.frames_setTop _ hr', State.setTop_of_frames _ hr', State.setFrames_setFrames, hr]
      rfl
    have hsame : U.sameButNew ({ U with heap := s₂.heap, slotsUsed := s₂.slotsUsed } : State) L mc ms := by
      refine ⟨?_, q2, q3, q4, q5, q6⟩
      obtain ⟨t, ht, -⟩ := State.frames_cons hr
      show ({ U with heap := s₂.heap, slotsUsed := s₂.slotsUsed } : State) = { U.setFrames U.frames with heap := s₂.heap, slotsUsed := s₂.slotsUsed }
      rw [State.setFrames_self ht]
    subst hg
    refine Or.inr ⟨q, ⟨(({ U with heap := s₂.heap, slotsUsed := s₂.slotsUsed } : State).setVm s₂.vm), Ls ++ L, c0 + mc, s0 + ms⟩,
      ⟨X.admits, X.cas, X.clock, X.frames, X.room, X.hears, X.method, X.code, (X.here.setHeapUsed s₂.heap s₂.slotsUsed).setVm hW'.alike, X.tail, State.WarmedH.trans X.warmed hW', X.limits, X.bytes, X.same.trans (hsame.setVm s.vm)⟩,
      ⟨g, mk, s₂, L, E, ce, rfl, rfl, hx, hce, hcv, hcl, rfl, hL, rfl, rfl⟩, ?_⟩
    show Steps p.tables e below _ (((({ U with heap := s₂.heap, slotsUsed := s₂.slotsUsed } : State).setVm s₂.vm).setTop g).pushFrame (.throwing q))
    rw [← hs₂]
    exact hsteps
end
variable {p : Program} {l : Launch} {e : Env} {R : Room} {s : State} {m : MethodId} {args : Array Value} {below : List Frame} {meth : Method} {c : Code} {T : State} {H : Heap} {locs : List Loc} {cells slots : Nat}
theorem vx_callVX (X : Stand p l e R s m args below meth c T locs cells slots) (hexec : p.tables.exec = Jvm.exec) {own C : String} {index : Nat} {y : MethodName} {bytes : ByteArray} {maxL : Nat} {ret : Option FieldType} {hh : List (Nat × Nat × Nat × Nat)}
    (hown : s.vm.findClass own = some m.cls) (hlink : (Cond.methodLink own index y).before args s = true) (hinst : (Cond.instanceMethod y).before args s = true) (hsel : (Cond.selects C y y).before args s = true)
    (hcode : (Cond.codeWith y bytes maxL ret hh).before args s = true) (hy : y.cls ≠ "java/lang/invoke/MethodHandle" ∧ y.cls ≠ "java/lang/invoke/VarHandle")
    {W9 : Nat} {Pre : Pt → Array Value → Prop} {Post : Pt → Array Value → Option Value → Pt → Prop} {PostX : Pt → Array Value → Addr → Pt → Prop} (hK : vx_Back l R p e below s args y 3 W9 Pre Post PostX)
    {b : Addr} {cellB : Cell} (hcell : T.heap[b]? = some cellB) (hobj : cellB.vm.isStatics = false) (hcls : s.vm.findClass C = some cellB.cls)
    {g : JFrame} (hg : g.method = m) (hsize : g.locals.size = c.maxLocals) {argsL rest : List Value} (hlen : ∀ sig, parseMethodDescriptor y.desc = some sig → argsL.length = sig.parameters.length)
    (hstack : g.stack = argsL.reverse ++ .ref b :: rest) (hW : 2 * g.monitorRoom + (rest.map fun v => v.category).sum ≤ W9) (hdg : decode c.code g.pc = .ok (.invokevirtual index, 3))
    (hpre : ∀ vm₁, s.WarmedH vm₁ → Pre ⟨T.setVm vm₁, locs, cells, slots⟩ (Value.ref b :: argsL).toArray) :
    (∃ (v : Option Value) (vm₁ : Vm) (B : Pt), s.WarmedH vm₁ ∧ Stand p l e R s m args below meth c B.U B.locs B.cells B.slots ∧ Post ⟨T.setVm vm₁, locs, cells, slots⟩ (Value.ref b :: argsL).toArray v B ∧
      ∀ target, Steps p.tables e below (B.U.setTop { g with pc := g.pc + 3, stack := v.toList ++ rest }) target → Steps p.tables e below (T.setTop g) target) ∨
    (∃ (q : Addr) (vm₁ : Vm) (B : Pt), s.WarmedH vm₁ ∧ Stand p l e R s m args below meth c B.U B.locs B.cells B.slots ∧ PostX ⟨T.setVm vm₁, locs, cells, slots⟩ (Value.ref b :: argsL).toArray q B ∧
      Steps p.tables e below (T.setTop g) ((B.U.setTop { g with stack := rest }).pushFrame (.throwing q))) := by
  obtain ⟨mk, methM, hnamed, hmethM, hstM, habM⟩ := Cond.instanceMethod_spec hinst
  obtain ⟨m8, methM', cM, hn8, hmethM', -, -, -, -, -, -, hsigM⟩ := Cond.codeWith_spec hcode
  cases Option.some.inj (hn8.symm.trans hnamed)
  cases hmethM.symm.trans hmethM'
  obtain ⟨c2, r2, m2, q1, q2, q3, q4, kP, hkP, hkPi⟩ := Cond.selects_spec hsel
  cases hcls.symm.trans q1
  cases (State.methodFound?_of_named hnamed hy).symm.trans q2
  cases hnamed.symm.trans q3
  have hselP : selectMethod e.platform s.vm cellB.cls mk = .method mk := by rw [Launch.admits_selectMethod X.admits]; exact q4
  obtain ⟨vm₁, X₁, hstep₁⟩ := X.invokevirtual hexec hown hlink hnamed hmethM hstM hkP hkPi hy (a := b) (cell := cellB) hcell
    (fun z h => by rw [h] at hobj; cases hobj) hselP hmethM habM hkP hkPi (g := g) hg (argsL := argsL) (rest := rest) (hlen _ hsigM) hstack hdg
  rcases hK m meth c ⟨T.setVm vm₁, locs, cells, slots⟩ { g with stack := rest } (.invokevirtual index) mk (Value.ref b :: argsL).toArray X₁ hg hsize hdg hW (X₁.named hnamed) (hpre vm₁ X₁.warmed) with ⟨v, B, X', hpost, hsteps⟩ | ⟨q, B, X', hpost, hsteps⟩
  · exact Or.inl ⟨v, vm₁, B, X₁.warmed, X', hpost, fun target h => hstep₁ _ fun acts => by rw [doInvoke_state]; exact hsteps.trans h⟩
  · exact Or.inr ⟨q, vm₁, B, X₁.warmed, X', hpost, hstep₁ _ fun acts => by rw [doInvoke_state]; exact hsteps⟩
theorem vx_callSX (X : Stand p l e R s m args below meth c T locs cells slots) (hexec : p.tables.exec = Jvm.exec) {own : String} {index : Nat} {y : MethodName} {bytes : ByteArray} {maxL : Nat} {ret : Option FieldType} {hh : List (Nat × Nat × Nat × Nat)}
    (hown : s.vm.findClass own = some m.cls) (hlink : (Cond.methodLink own index y).before args s = true) (hstat : (Cond.static y).before args s = true) (hinit : (Cond.initialized y.cls).before args s = true)
    (hcode : (Cond.codeWith y bytes maxL ret hh).before args s = true) (hy : y.cls ≠ "java/lang/invoke/MethodHandle" ∧ y.cls ≠ "java/lang/invoke/VarHandle")
    {W9 : Nat} {Pre : Pt → Array Value → Prop} {Post : Pt → Array Value → Option Value → Pt → Prop} {PostX : Pt → Array Value → Addr → Pt → Prop} (hK : vx_Back l R p e below s args y 3 W9 Pre Post PostX)
    {g : JFrame} (hg : g.method = m) (hsize : g.locals.size = c.maxLocals) {argsL rest : List Value} (hlen : ∀ sig, parseMethodDescriptor y.desc = some sig → argsL.length = sig.parameters.length)
    (hstack : g.stack = argsL.reverse ++ rest) (hW : 2 * g.monitorRoom + (rest.map fun v => v.category).sum ≤ W9) (hdg : decode c.code g.pc = .ok (.invokestatic index, 3))
    (hpre : ∀ vm₁, s.WarmedH vm₁ → Pre ⟨T.setVm vm₁, locs, cells, slots⟩ argsL.toArray) :
    (∃ (v : Option Value) (vm₁ : Vm) (B : Pt), s.WarmedH vm₁ ∧ Stand p l e R s m args below meth c B.U B.locs B.cells B.slots ∧ Post ⟨T.setVm vm₁, locs, cells, slots⟩ argsL.toArray v B ∧
      ∀ target, Steps p.tables e below (B.U.setTop { g with pc := g.pc + 3, stack := v.toList ++ rest }) target → Steps p.tables e below (T.setTop g) target) ∨
    (∃ (q : Addr) (vm₁ : Vm) (B : Pt), s.WarmedH vm₁ ∧ Stand p l e R s m args below meth c B.U B.locs B.cells B.slots ∧ PostX ⟨T.setVm vm₁, locs, cells, slots⟩ argsL.toArray q B ∧
      Steps p.tables e below (T.setTop g) ((B.U.setTop { g with stack := rest }).pushFrame (.throwing q))) := by
  obtain ⟨mk, methM, cM, hnamed, hmethM, -, -, -, -, -, -, hsigM⟩ := Cond.codeWith_spec hcode
  have hstatic : methM.isStatic = true := Cond.static_spec hnamed hmethM hstat
  obtain ⟨kP, hkP, -⟩ := className_of_methodNamed hnamed
  have hinitP : kP.init = .initialized := Cond.initialized_spec (findClass_of_methodNamed hnamed) hkP hinit
  obtain ⟨vm₁, X₁, hstep₁⟩ := X.invokestatic hexec hown hlink hnamed hmethM hstatic hkP hinitP hy (g := g) hg (argsL := argsL) (rest := rest) (hlen _ hsigM) hstack hdg
  rcases hK m meth c ⟨T.setVm vm₁, locs, cells, slots⟩ { g with stack := rest } (.invokestatic index) mk argsL.toArray X₁ hg hsize hdg hW (X₁.named hnamed) (hpre vm₁ X₁.warmed) with ⟨v, B, X', hpost, hsteps⟩ | ⟨q, B, X', hpost, hsteps⟩
  · exact Or.inl ⟨v, vm₁, B, X₁.warmed, X', hpost, fun target h => hstep₁ _ fun acts => by rw [doInvoke_state]; exact hsteps.trans h⟩
  · exact Or.inr ⟨q, vm₁, B, X₁.warmed, X', hpost, hstep₁ _ fun acts => by rw [doInvoke_state]; exact hsteps⟩
theorem vx_callVW (X : Stand p l e R s m args below meth c T locs cells slots) (hexec : p.tables.exec = Jvm.exec) {own C : String} {index : Nat} {y : MethodName} {bytes : ByteArray} {maxL : Nat} {ret : Option FieldType} {hh : List (Nat × Nat × Nat × Nat)}
    (hown : s.vm.findClass own = some m.cls) (hlink : (Cond.methodLink own index y).before args s = true) (hinst : (Cond.instanceMethod y).before args s = true) (hsel : (Cond.selects C y y).before args s = true)
    (hcode : (Cond.codeWith y bytes maxL ret hh).before args s = true) (hy : y.cls ≠ "java/lang/invoke/MethodHandle" ∧ y.cls ≠ "java/lang/invoke/VarHandle")
    {W9 : Nat} {Pre : Pt → Array Value → Prop} {Post : Pt → Array Value → Option Value → Pt → Prop} (hK : Back l R p e below s args y 3 W9 Pre Post)
    {b : Addr} {cellB : Cell} (hcell : T.heap[b]? = some cellB) (hobj : cellB.vm.isStatics = false) (hcls : s.vm.findClass C = some cellB.cls)
    {g : JFrame} (hg : g.method = m) (hsize : g.locals.size = c.maxLocals) {argsL rest : List Value} (hlen : ∀ sig, parseMethodDescriptor y.desc = some sig → argsL.length = sig.parameters.length)
    (hstack : g.stack = argsL.reverse ++ .ref b :: rest) (hW : 2 * g.monitorRoom + (rest.map fun v => v.category).sum ≤ W9) (hdg : decode c.code g.pc = .ok (.invokevirtual index, 3))
    (hpre : ∀ vm₁, s.WarmedH vm₁ → Pre ⟨T.setVm vm₁, locs, cells, slots⟩ (Value.ref b :: argsL).toArray) :
    ∃ (v : Option Value) (vm₁ : Vm) (B : Pt), s.WarmedH vm₁ ∧ Stand p l e R s m args below meth c B.U B.locs B.cells B.slots ∧ Post ⟨T.setVm vm₁, locs, cells, slots⟩ (Value.ref b :: argsL).toArray v B ∧
      ∀ target, Steps p.tables e below (B.U.setTop { g with pc := g.pc + 3, stack := v.toList ++ rest }) target → Steps p.tables e below (T.setTop g) target := by
  obtain ⟨mk, methM, hnamed, hmethM, hstM, habM⟩ := Cond.instanceMethod_spec hinst
  obtain ⟨m8, methM', cM, hn8, hmethM', -, -, -, -, -, -, hsigM⟩ := Cond.codeWith_spec hcode
  cases Option.some.inj (hn8.symm.trans hnamed)
  cases hmethM.symm.trans hmethM'
  obtain ⟨c2, r2, m2, q1, q2, q3, q4, kP, hkP, hkPi⟩ := Cond.selects_spec hsel
  cases hcls.symm.trans q1
  cases (State.methodFound?_of_named hnamed hy).symm.trans q2
  cases hnamed.symm.trans q3
  have hselP : selectMethod e.platform s.vm cellB.cls mk = .method mk := by rw [Launch.admits_selectMethod X.admits]; exact q4
  obtain ⟨vm₁, X₁, hstep₁⟩ := X.invokevirtual hexec hown hlink hnamed hmethM hstM hkP hkPi hy (a := b) (cell := cellB) hcell
    (fun z h => by rw [h] at hobj; cases hobj) hselP hmethM habM hkP hkPi (g := g) hg (argsL := argsL) (rest := rest) (hlen _ hsigM) hstack hdg
  obtain ⟨v, B, X', hpost, hsteps⟩ := hK m meth c ⟨T.setVm vm₁, locs, cells, slots⟩ { g with stack := rest } (.invokevirtual index) mk (Value.ref b :: argsL).toArray X₁ hg hsize hdg hW (X₁.named hnamed) (hpre vm₁ X₁.warmed)
  exact ⟨v, vm₁, B, X₁.warmed, X', hpost, fun target h => hstep₁ _ fun acts => by rw [doInvoke_state]; exact hsteps.trans h⟩
abbrev vx_CVW (R : Room) (s : State) (args : Array Value) (own C : String) (index : Nat) (y : MethodName) (bytes : ByteArray) (maxL : Nat) (ret : Option FieldType) (hh : List (Nat × Nat × Nat × Nat)) (ws : List Cond) (rm : Room) (mc ms n : Nat) : Prop :=
  (rm.cells = mc ∧ rm.slots = ms ∧ rm.frames + 1 ≤ R.frames ∧ 8 + (maxL + 11) + rm.locals ≤ R.locals ∧ (∀ w ∈ ws, ∀ (a' : Array Value) (U : State), s.WarmedH U.vm → w.before a' U = true) ∧ Cond.codeWith y bytes maxL ret hh ∈ ws) ∧
  (Cond.codeWith y bytes maxL ret hh).before args s = true ∧ (Cond.initialized y.cls).before args s = true ∧ (y.cls ≠ "java/lang/invoke/MethodHandle" ∧ y.cls ≠ "java/lang/invoke/VarHandle") ∧
  (∀ sig, parseMethodDescriptor y.desc = some sig → n = sig.parameters.length) ∧ (Cond.methodLink own index y).before args s = true ∧ (Cond.instanceMethod y).before args s = true ∧ (Cond.selects C y y).before args s = true
theorem vx_cwVW {own C : String} {index maxL mc ms : Nat} {y : MethodName} {bytes : ByteArray} {ret : Option FieldType} {hh : List (Nat × Nat × Nat × Nat)} {Ts ws ws' : List Cond} {rm : Room} (n : Nat) (ht : ∀ w ∈ Ts, w.before args s = true) (hT : GoodIn Ts (wsV own index C y ws)) (hw : ws = Cond.codeWith y bytes maxL ret hh :: ws') (hrc : rm.cells = mc) (hrs : rm.slots = ms)
    (hd : y.cls = C ∧ y.cls ≠ "java/lang/invoke/MethodHandle" ∧ y.cls ≠ "java/lang/invoke/VarHandle" ∧ (parseMethodDescriptor y.desc).map (fun d => d.parameters.length) = some n) (hR : rm.frames + 1 ≤ R.frames ∧ 8 + (maxL + 11) + rm.locals ≤ R.locals) :
    vx_CVW R s args own C index y bytes maxL ret hh ws rm mc ms n := by
  obtain ⟨hC, hd⟩ := hd
  subst hC
  have ok : ∀ w ∈ wsV own index y.cls y ws, w.before args s = true := fun w h => ht w (hT w h).1
  have hG : GoodIn Ts ws := fun w h => hT w (by unfold wsV; exact List.mem_append_right _ h)
  have hc : Cond.codeWith y bytes maxL ret hh ∈ ws := by rw [hw]; exact List.mem_cons_self
  refine ⟨⟨hrc, hrs, hR.1, hR.2, pay_in ht hG, hc⟩, ht _ (hG _ hc).1, ok _ (by simp [wsV]), ⟨hd.1, hd.2.1⟩, fun sig h => ?_, ok _ (by simp [wsV]), ok _ (by simp [wsV]), ok _ (by simp [wsV])⟩
  have h2 := hd.2.2
  rw [h] at h2
  exact (Option.some.inj h2).symm
theorem vx_runVW {y : MethodName} {bytes cc : ByteArray} {maxL nL mc ms n index : Nat} {ret : Option FieldType} {hh : List (Nat × Nat × Nat × Nat)} {ws : List Cond} {rm : Room} {Pc : Array Value → State → Prop} {Qc : Array Value → State → Outcome → State → Prop} {free : Addr → Prop} {Ts : List Cond} {own C : String} {b : Addr} {As rest : List Value} {g : JFrame}
    (S : CallFix p m c cc nL s args Ts own) (hM : Met l y ws rm Pc Qc mc ms free) (cw : vx_CVW R s args own C index y bytes maxL ret hh ws rm mc ms n) (hp : PreV s H C b Pc As)
    (hg : g.method = m) (hn : As.length = n) (hsize : g.locals.size = nL) (hstack : g.stack = As.reverse ++ .ref b :: rest) (hW : 2 * g.monitorRoom + (rest.map fun v => v.category).sum ≤ 8) (hdg : decode cc g.pc = .ok (.invokevirtual index, 3)) (hf : cells + mc ≤ R.cells ∧ slots + ms ≤ R.slots) :
    va_Run p l e R s m args below meth c H locs cells slots mc ms g rest (Qc (Value.ref b :: As).toArray) free := by
  obtain ⟨⟨hrc, hrs, hfr, hlo, hws, hcw⟩, hcode, hini, hy, hlen, hl, hin, hse⟩ := cw
  have hK : Back l R p e below s args y 3 8 (PreOf R mc ms Pc) (PostOf Qc mc ms free) := va_backW (hh := hh) (bytes := bytes) (maxL := maxL) (ret := ret) hM hp.1 hrc hrs hfr hlo hws hcw (fun a' U hW => word_at hW (Or.inl (by first | rfl | simp [Cond.onTables, Cond.keeps, Cond.steady])) hini)
  obtain ⟨hx, hb, hml, ho, -⟩ := S
  obtain ⟨-, ⟨cellB, hcB, hoB, hclB⟩, hPc⟩ := hp
  intro T hT X
  obtain ⟨v, vm₁, ⟨U', l2, c2, s2⟩, hW₁, X', ⟨g', mk, t, L, e1, e2, hq, h1, hL, h2, h3⟩, st⟩ := vx_callVW X hx (C := C) (hh := hh) (bytes := bytes) (maxL := maxL) (ret := ret) ho hl hin hse hcode hy hK (by rw [hT]; exact hcB) hoB hclB hg (hsize.trans hml.symm) (argsL := As) (rest := rest) (fun sig h => hn.trans (hlen sig h)) hstack hW (by rw [hb]; exact hdg)
    (fun vm₁ hW₁ => ⟨hf.1, hf.2, hPc (T.setVm vm₁) hT hW₁⟩)
  dsimp only [Pt.U, Pt.locs, Pt.cells, Pt.slots] at X' e1 e2 h1 h2 h3 st
  subst h1; subst h2; subst h3
  exact ⟨v, (T.setVm vm₁).calling g' mk (Value.ref b :: As).toArray, t, U', L, hT, X', hL, e1, e2, hq, st⟩
section
variable {y : MethodName} {bytes cc : ByteArray} {maxL nL mc ms n index : Nat} {ret : Option FieldType} {ws : List Cond} {rm : Room} {Pc : Array Value → State → Prop} {Qc : Array Value → State → Outcome → State → Prop} {XC : String → State → State → Prop} {free : Addr → Prop} {Ts : List Cond} {own C : String} {b : Addr} {As rest : List Value} {g : JFrame}
theorem vx_runVX {hh : List (Nat × Nat × Nat × Nat)} (S : CallFix p m c cc nL s args Ts own) (hM : vx_Met l y ws rm Pc Qc XC mc ms free) (cw : vx_CVW R s args own C index y bytes maxL ret hh ws rm mc ms n) (hp : PreV s H C b Pc As)
    (hg : g.method = m) (hn : As.length = n) (hsize : g.locals.size = nL) (hstack : g.stack = As.reverse ++ .ref b :: rest) (hW : 2 * g.monitorRoom + (rest.map fun v => v.category).sum ≤ 8) (hdg : decode cc g.pc = .ok (.invokevirtual index, 3)) (hf : cells + mc ≤ R.cells ∧ slots + ms ≤ R.slots) :
    vx_Run p l e R s m args below meth c H locs cells slots mc ms g rest (Qc (Value.ref b :: As).toArray) XC free := by
  obtain ⟨⟨hrc, hrs, hfr, hlo, hws, hcw⟩, hcode, hini, hy, hlen, hl, hin, hse⟩ := cw
  have hK : vx_Back l R p e below s args y 3 8 (PreOf R mc ms Pc) (PostOf Qc mc ms free) (vx_Post XC mc ms free) := vx_backW (hh := hh) (bytes := bytes) (maxL := maxL) (ret := ret) hM hp.1 hrc hrs hfr hlo hws hcw (fun a' U hW => word_at hW (Or.inl (by first | rfl | simp [Cond.onTables, Cond.keeps, Cond.steady])) hini)
  obtain ⟨hx, hb, hml, ho, -⟩ := S
  obtain ⟨-, ⟨cellB, hcB, hoB, hclB⟩, hPc⟩ := hp
  intro T hT X
  rcases vx_callVX X hx (C := C) (hh := hh) (bytes := bytes) (maxL := maxL) (ret := ret) ho hl hin hse hcode hy hK (by rw [hT]; exact hcB) hoB hclB hg (hsize.trans hml.symm) (argsL := As) (rest := rest) (fun sig h => hn.trans (hlen sig h)) hstack hW (by rw [hb]; exact hdg)
    (fun vm₁ hW₁ => ⟨hf.1, hf.2, hPc (T.setVm vm₁) hT hW₁⟩) with ⟨v, vm₁, ⟨U', l2, c2, s2⟩, hW₁, X', ⟨g', mk, t, L, e1, e2, hq, h1, hL, h2, h3⟩, st⟩ | ⟨q, vm₁, ⟨U', l2, c2, s2⟩, hW₁, X', ⟨g', mk, t, L, E, ce, e1, e2, hq, hce, hcv, hcl, h1, hL, h2, h3⟩, st⟩
  · dsimp only [Pt.U, Pt.locs, Pt.cells, Pt.slots] at X' e1 e2 h1 h2 h3 st
    subst h1; subst h2; subst h3
    exact Or.inl ⟨v, (T.setVm vm₁).calling g' mk (Value.ref b :: As).toArray, t, U', L, hT, X', hL, e1, e2, hq, st⟩
  · dsimp only [Pt.U, Pt.locs, Pt.cells, Pt.slots] at X' e1 e2 h1 h2 h3 st hcl
    subst h1; subst h2; subst h3
    exact Or.inr ⟨q, (T.setVm vm₁).calling g' mk (Value.ref b :: As).toArray, t, U', L, E, ce, hT, X', hL, e1, e2, hq, hce, hcv, vx_cls hW₁ hcl, st⟩
theorem vx_runSX {hh : List (Nat × Nat × Nat × Nat)} (S : CallFix p m c cc nL s args Ts own) (hM : vx_Met l y ws rm Pc Qc XC mc ms free) (cw : vx_CSW R s args own index y bytes maxL ret hh ws rm mc ms n) (hp : PreS s H Pc As)
    (hg : g.method = m) (hn : As.length = n) (hsize : g.locals.size = nL) (hstack : g.stack = As.reverse ++ rest) (hW : 2 * g.monitorRoom + (rest.map fun v => v.category).sum ≤ 8) (hdg : decode cc g.pc = .ok (.invokestatic index, 3)) (hf : cells + mc ≤ R.cells ∧ slots + ms ≤ R.slots) :
    vx_Run p l e R s m args below meth c H locs cells slots mc ms g rest (Qc As.toArray) XC free := by
  obtain ⟨⟨hrc, hrs, hfr, hlo, hws, hcw⟩, hcode, hini, hy, hlen, hl, hstt⟩ := cw
  have hK : vx_Back l R p e below s args y 3 8 (PreOf R mc ms Pc) (PostOf Qc mc ms free) (vx_Post XC mc ms free) := vx_backW (hh := hh) (bytes := bytes) (maxL := maxL) (ret := ret) hM hp.1 hrc hrs hfr hlo hws hcw (fun a' U hW => word_at hW (Or.inl (by first | rfl | simp [Cond.onTables, Cond.keeps, Cond.steady])) hini)
  obtain ⟨hx, hb, hml, ho, -⟩ := S
  intro T hT X
  rcases vx_callSX X hx (hh := hh) (bytes := bytes) (maxL := maxL) (ret := ret) ho hl hstt hini hcode hy hK hg (hsize.trans hml.symm) (argsL := As) (rest := rest) (fun sig h => hn.trans (hlen sig h)) hstack hW (by rw [hb]; exact hdg)
    (fun vm₁ hW₁ => ⟨hf.1, hf.2, hp.2 (T.setVm vm₁) hT hW₁⟩) with ⟨v, vm₁, ⟨U', l2, c2, s2⟩, hW₁, X', ⟨g', mk, t, L, e1, e2, hq, h1, hL, h2, h3⟩, st⟩ | ⟨q, vm₁, ⟨U', l2, c2, s2⟩, hW₁, X', ⟨g', mk, t, L, E, ce, e1, e2, hq, hce, hcv, hcl, h1, hL, h2, h3⟩, st⟩
  · dsimp only [Pt.U, Pt.locs, Pt.cells, Pt.slots] at X' e1 e2 h1 h2 h3 st
    subst h1; subst h2; subst h3
    exact Or.inl ⟨v, (T.setVm vm₁).calling g' mk As.toArray, t, U', L, hT, X', hL, e1, e2, hq, st⟩
  · dsimp only [Pt.U, Pt.locs, Pt.cells, Pt.slots] at X' e1 e2 h1 h2 h3 st hcl
    subst h1; subst h2; subst h3
    exact Or.inr ⟨q, (T.setVm vm₁).calling g' mk As.toArray, t, U', L, E, ce, hT, X', hL, e1, e2, hq, hce, hcv, vx_cls hW₁ hcl, st⟩
end
end VXH
theorem vx_ofWH {l : Launch} {y : MethodName} {ws ws' : List Cond} {rm : Room} {Pc : Array Value → State → Prop} {Qc : Array Value → State → Outcome → State → Prop} {XC : String → State → State → Prop} {mc ms : Nat} {free : Addr → Prop} {cc : ByteArray} {maxL : Nat} {ret : Option FieldType} {hh : List (Nat × Nat × Nat × Nat)}
    (hy : plainName y.cls = true) (hw : ws = Cond.codeWith y cc maxL ret hh :: ws')
    (body : ∀ p e s m args below meth c s₁, BodyLoose p l y (headSpec ws rm) cc maxL ret e s m args below meth c s₁ → c.maxLocals = maxL → Pc args s →
      W p l e (headSpec ws rm).room s m args below meth c s.heap [] 0 0 (vx_MQ below Qc XC args s mc ms free) (entryFrame m args maxL)) : vx_Met l y ws rm Pc Qc XC mc ms free := by
  refine MetFree.of_bodyS (code := cc) (maxLocals := maxL) (ret := ret) hy ?_ ?_
  · intro args s m h hn
    obtain ⟨m9, meth, c, hn9, h1, h2, h3, h4, -, h5, h6, -⟩ := Cond.codeWith_spec (atoms_spec (ws := ws) h _ (by rw [hw]; exact List.mem_cons_self))
    cases hn.symm.trans hn9
    exact ⟨meth, c, h1, h2, h3, h4, h5, h6⟩
  · intro p e s m args below meth c s₁ B hml hP _
    have hh0 : s₁.heap = s.heap := by rw [B.state]; rfl
    obtain ⟨t, a1, o, b1, b2, b3⟩ := body p e s m args below meth c s₁ B hml hP s₁ hh0 (Stand.of_body B)
    exact ⟨t, o, a1, b1, b2, b3⟩
/-! ===== END ===== -/

def RX0 : String := "WheelWorks$Event"
def TX0 : u_T := fun k => match k with
  | 0 => ("WheelWorks$Event", "part", "I", true)
  | 1 => ("WheelWorks$Event", "to", "I", true)
  | _ => ("WheelWorks$Event", "kilometres", "I", true)
def tyX0 : Nat → FieldType := fun k => match k with
  | 0 => .int
  | 1 => .int
  | _ => .int
abbrev wsX00 : List Cond := u_ws RX0 TX0 3
theorem nmX0 : ∀ a, a < 3 → ∀ b, b < 3 → a ≠ b → (TX0 a).2.1 ≠ (TX0 b).2.1 := by decide +kernel
theorem tyX0_ok : ∀ k, k < 3 → parseFieldDescriptor (TX0 k).2.2.1 = some (tyX0 k) := by decide +kernel
abbrev cX0_init : ByteArray := prog_2_method_1_code
def yX0_init : MethodName := ⟨RX0, "<init>", "(III)V"⟩
def RX1 : String := "WheelWorks$KindLimits"
def TX1 : u_T := fun k => match k with
  | 0 => ("WheelWorks$KindLimits", "life", "I", false)
  | 1 => ("WheelWorks$KindLimits", "interval", "I", false)
  | _ => ("WheelWorks$KindLimits", "window", "I", false)
def tyX1 : Nat → FieldType := fun k => match k with
  | 0 => .int
  | 1 => .int
  | _ => .int
abbrev wsX10 : List Cond := u_ws RX1 TX1 3
theorem nmX1 : ∀ a, a < 3 → ∀ b, b < 3 → a ≠ b → (TX1 a).2.1 ≠ (TX1 b).2.1 := by decide +kernel
theorem tyX1_ok : ∀ k, k < 3 → parseFieldDescriptor (TX1 k).2.2.1 = some (tyX1 k) := by decide +kernel
abbrev cX1_init : ByteArray := prog_3_method_1_code
def yX1_init : MethodName := ⟨RX1, "<init>", "()V"⟩
def RX2 : String := "WheelWorks$Log"
def TX2 : u_T := fun k => match k with
  | 0 => ("WheelWorks$Log", "events", "Ljava/util/ArrayList;", true)
  | _ => ("WheelWorks$Log", "hosts", "[I", true)
def tyX2 : Nat → FieldType := fun k => match k with
  | 0 => .object "java/util/ArrayList"
  | _ => .array .int
abbrev wsX20 : List Cond := u_ws RX2 TX2 2
theorem nmX2 : ∀ a, a < 2 → ∀ b, b < 2 → a ≠ b → (TX2 a).2.1 ≠ (TX2 b).2.1 := by decide +kernel
theorem tyX2_ok : ∀ k, k < 2 → parseFieldDescriptor (TX2 k).2.2.1 = some (tyX2 k) := by decide +kernel
abbrev cX2_init : ByteArray := prog_4_method_1_code
def yX2_init : MethodName := ⟨RX2, "<init>", "()V"⟩
abbrev cX2_addMove : ByteArray := prog_4_method_2_code
def yX2_addMove : MethodName := ⟨RX2, "addMove", "(II)V"⟩
abbrev cX2_addRun : ByteArray := prog_4_method_3_code
def yX2_addRun : MethodName := ⟨RX2, "addRun", "(II)V"⟩
abbrev cX2_add : ByteArray := prog_4_method_4_code
def yX2_add : MethodName := ⟨RX2, "add", "(LWheelWorks$Event;)V"⟩
abbrev cX2_movesOf : ByteArray := prog_4_method_5_code
def yX2_movesOf : MethodName := ⟨RX2, "movesOf", "(I)I"⟩
abbrev cX2_moveOf : ByteArray := prog_4_method_6_code
def yX2_moveOf : MethodName := ⟨RX2, "moveOf", "(II)LWheelWorks$Event;"⟩
abbrev cX2_isMoveOf : ByteArray := prog_4_method_7_code
def yX2_isMoveOf : MethodName := ⟨RX2, "isMoveOf", "(LWheelWorks$Event;I)Z"⟩
abbrev cX2_lifeOf : ByteArray := prog_4_method_8_code
def yX2_lifeOf : MethodName := ⟨RX2, "lifeOf", "(I)I"⟩
abbrev cX2_topThen : ByteArray := prog_4_method_9_code
def yX2_topThen : MethodName := ⟨RX2, "topThen", "(I)I"⟩
abbrev cX2_isPart : ByteArray := prog_4_method_10_code
def yX2_isPart : MethodName := ⟨RX2, "isPart", "(I)Z"⟩
def RX3 : String := "WheelWorks$Part"
def TX3 : u_T := fun k => match k with
  | 0 => ("WheelWorks$Part", "number", "I", true)
  | 1 => ("WheelWorks$Part", "kind", "I", true)
  | 2 => ("WheelWorks$Part", "melt", "I", true)
  | 3 => ("WheelWorks$Part", "mod", "I", true)
  | 4 => ("WheelWorks$Part", "limits", "LWheelWorks$KindLimits;", true)
  | 5 => ("WheelWorks$Part", "wheel", "LWheelWorks$Wheel;", true)
  | 6 => ("WheelWorks$Part", "host", "LWheelWorks$Part;", false)
  | 7 => ("WheelWorks$Part", "scrapped", "Z", false)
  | 8 => ("WheelWorks$Part", "life", "I", false)
  | 9 => ("WheelWorks$Part", "sinceExamination", "I", false)
  | 10 => ("WheelWorks$Part", "waived", "I", false)
  | 11 => ("WheelWorks$Part", "quarantined", "Z", false)
  | 12 => ("WheelWorks$Part", "recalled", "Z", false)
  | 13 => ("WheelWorks$Part", "flaw", "I", false)
  | 14 => ("WheelWorks$Part", "lifeAtFlaw", "I", false)
  | 15 => ("WheelWorks$Part", "released", "Z", false)
  | 16 => ("WheelWorks$Part", "road", "I", false)
  | _ => ("WheelWorks$Part", "time", "I", false)
def tyX3 : Nat → FieldType := fun k => match k with
  | 0 => .int
  | 1 => .int
  | 2 => .int
  | 3 => .int
  | 4 => .object "WheelWorks$KindLimits"
  | 5 => .object "WheelWorks$Wheel"
  | 6 => .object "WheelWorks$Part"
  | 7 => .boolean
  | 8 => .int
  | 9 => .int
  | 10 => .int
  | 11 => .boolean
  | 12 => .boolean
  | 13 => .int
  | 14 => .int
  | 15 => .boolean
  | 16 => .int
  | _ => .int
abbrev wsX30 : List Cond := u_ws RX3 TX3 18
theorem nmX3 : ∀ a, a < 18 → ∀ b, b < 18 → a ≠ b → (TX3 a).2.1 ≠ (TX3 b).2.1 := by decide +kernel
theorem tyX3_ok : ∀ k, k < 18 → parseFieldDescriptor (TX3 k).2.2.1 = some (tyX3 k) := by decide +kernel
abbrev cX3_init : ByteArray := prog_5_method_1_code
def yX3_init : MethodName := ⟨RX3, "<init>", "(IIIILWheelWorks$KindLimits;)V"⟩
abbrev cX3_whereabouts : ByteArray := prog_5_method_2_code
def yX3_whereabouts : MethodName := ⟨RX3, "whereabouts", "()I"⟩
abbrev cX3_isInStore : ByteArray := prog_5_method_3_code
def yX3_isInStore : MethodName := ⟨RX3, "isInStore", "()Z"⟩
abbrev cX3_top : ByteArray := prog_5_method_4_code
def yX3_top : MethodName := ⟨RX3, "top", "()LWheelWorks$Part;"⟩
abbrev cX3_isWithin : ByteArray := prog_5_method_5_code
def yX3_isWithin : MethodName := ⟨RX3, "isWithin", "(LWheelWorks$Part;)Z"⟩
abbrev cX3_isBound : ByteArray := prog_5_method_6_code
def yX3_isBound : MethodName := ⟨RX3, "isBound", "()Z"⟩
abbrev cX3_mayBeExamined : ByteArray := prog_5_method_7_code
def yX3_mayBeExamined : MethodName := ⟨RX3, "mayBeExamined", "()Z"⟩
abbrev cX3_isExaminationDue : ByteArray := prog_5_method_8_code
def yX3_isExaminationDue : MethodName := ⟨RX3, "isExaminationDue", "()Z"⟩
abbrev cX3_runs : ByteArray := prog_5_method_9_code
def yX3_runs : MethodName := ⟨RX3, "runs", "(II)V"⟩
abbrev cX3_growFlaw : ByteArray := prog_5_method_10_code
def yX3_growFlaw : MethodName := ⟨RX3, "growFlaw", "(I)V"⟩
def RX4 : String := "WheelWorks$Wheel"
def TX4 : u_T := fun k => match k with
  | 0 => ("WheelWorks$Wheel", "diameter", "I", false)
  | 1 => ("WheelWorks$Wheel", "flange", "I", false)
  | 2 => ("WheelWorks$Wheel", "told", "I", false)
  | _ => ("WheelWorks$Wheel", "rubbed", "I", false)
def tyX4 : Nat → FieldType := fun k => match k with
  | 0 => .int
  | 1 => .int
  | 2 => .int
  | _ => .int
abbrev wsX40 : List Cond := u_ws RX4 TX4 4
theorem nmX4 : ∀ a, a < 4 → ∀ b, b < 4 → a ≠ b → (TX4 a).2.1 ≠ (TX4 b).2.1 := by decide +kernel
theorem tyX4_ok : ∀ k, k < 4 → parseFieldDescriptor (TX4 k).2.2.1 = some (tyX4 k) := by decide +kernel
abbrev cX4_init : ByteArray := prog_6_method_1_code
def yX4_init : MethodName := ⟨RX4, "<init>", "()V"⟩
abbrev cX4_wear : ByteArray := prog_6_method_2_code
def yX4_wear : MethodName := ⟨RX4, "wear", "(II)V"⟩
abbrev cX4_renewFlange : ByteArray := prog_6_method_3_code
def yX4_renewFlange : MethodName := ⟨RX4, "renewFlange", "()V"⟩
abbrev cX4_isWorn : ByteArray := prog_6_method_4_code
def yX4_isWorn : MethodName := ⟨RX4, "isWorn", "()Z"⟩
def RX5 : String := "WheelWorks$Yard"
def TX5 : u_T := fun k => match k with
  | 0 => ("WheelWorks$Yard", "waiting", "Ljava/util/ArrayList;", true)
  | 1 => ("WheelWorks$Yard", "standing", "Ljava/util/ArrayList;", true)
  | 2 => ("WheelWorks$Yard", "blocked", "[I", true)
  | 3 => ("WheelWorks$Yard", "bestMoves", "I", false)
  | _ => ("WheelWorks$Yard", "bestPlan", "I", false)
def tyX5 : Nat → FieldType := fun k => match k with
  | 0 => .object "java/util/ArrayList"
  | 1 => .object "java/util/ArrayList"
  | 2 => .array .int
  | 3 => .int
  | _ => .int
abbrev wsX50 : List Cond := u_ws RX5 TX5 5
theorem nmX5 : ∀ a, a < 5 → ∀ b, b < 5 → a ≠ b → (TX5 a).2.1 ≠ (TX5 b).2.1 := by decide +kernel
theorem tyX5_ok : ∀ k, k < 5 → parseFieldDescriptor (TX5 k).2.2.1 = some (tyX5 k) := by decide +kernel
abbrev cX5_init : ByteArray := prog_7_method_1_code
def yX5_init : MethodName := ⟨RX5, "<init>", "()V"⟩
abbrev cX5_isWaiting : ByteArray := prog_7_method_2_code
def yX5_isWaiting : MethodName := ⟨RX5, "isWaiting", "(LWheelWorks$Part;)Z"⟩
abbrev cX5_isTaken : ByteArray := prog_7_method_3_code
def yX5_isTaken : MethodName := ⟨RX5, "isTaken", "(I)Z"⟩
abbrev cX5_makePlan : ByteArray := prog_7_method_4_code
def yX5_makePlan : MethodName := ⟨RX5, "makePlan", "()I"⟩
abbrev cX5_makePlanAnew : ByteArray := prog_7_method_5_code
def yX5_makePlanAnew : MethodName := ⟨RX5, "makePlanAnew", "()I"⟩
abbrev cX5_park : ByteArray := prog_7_method_6_code
def yX5_park : MethodName := ⟨RX5, "park", "()I"⟩
abbrev cX5_sendFirst : ByteArray := prog_7_method_7_code
def yX5_sendFirst : MethodName := ⟨RX5, "sendFirst", "()I"⟩
abbrev cX5_trainOn : ByteArray := prog_7_method_8_code
def yX5_trainOn : MethodName := ⟨RX5, "trainOn", "(II)I"⟩
abbrev cX5_markBlocked : ByteArray := prog_7_method_9_code
def yX5_markBlocked : MethodName := ⟨RX5, "markBlocked", "()V"⟩
abbrev cX5_searchPlan : ByteArray := prog_7_method_10_code
def yX5_searchPlan : MethodName := ⟨RX5, "searchPlan", "(LWheelWorks$Yard;III)V"⟩
abbrev cX5_fewestMoves : ByteArray := prog_7_method_11_code
def yX5_fewestMoves : MethodName := ⟨RX5, "fewestMoves", "(LWheelWorks$Yard;II)I"⟩
abbrev cX5_trainsIn : ByteArray := prog_7_method_12_code
def yX5_trainsIn : MethodName := ⟨RX5, "trainsIn", "(II)I"⟩
abbrev cX5_bitOf : ByteArray := prog_7_method_13_code
def yX5_bitOf : MethodName := ⟨RX5, "bitOf", "(II)I"⟩
abbrev cX5_roadIn : ByteArray := prog_7_method_14_code
def yX5_roadIn : MethodName := ⟨RX5, "roadIn", "(II)I"⟩
def RX6 : String := "WheelWorks"
def TX6 : u_T := fun k => match k with
  | 0 => ("WheelWorks", "parts", "Ljava/util/ArrayList;", true)
  | 1 => ("WheelWorks", "kinds", "[LWheelWorks$KindLimits;", true)
  | 2 => ("WheelWorks", "log", "LWheelWorks$Log;", true)
  | _ => ("WheelWorks", "yard", "LWheelWorks$Yard;", true)
def tyX6 : Nat → FieldType := fun k => match k with
  | 0 => .object "java/util/ArrayList"
  | 1 => .array (.object "WheelWorks$KindLimits")
  | 2 => .object "WheelWorks$Log"
  | _ => .object "WheelWorks$Yard"
abbrev wsX60 : List Cond := u_ws RX6 TX6 4
theorem nmX6 : ∀ a, a < 4 → ∀ b, b < 4 → a ≠ b → (TX6 a).2.1 ≠ (TX6 b).2.1 := by decide +kernel
theorem tyX6_ok : ∀ k, k < 4 → parseFieldDescriptor (TX6 k).2.2.1 = some (tyX6 k) := by decide +kernel
abbrev cX6_init : ByteArray := prog_1_method_1_code
def yX6_init : MethodName := ⟨RX6, "<init>", "()V"⟩
abbrev cX6_part : ByteArray := prog_1_method_2_code
def yX6_part : MethodName := ⟨RX6, "part", "(III)I"⟩
abbrev cX6_limits : ByteArray := prog_1_method_3_code
def yX6_limits : MethodName := ⟨RX6, "limits", "(IIII)I"⟩
abbrev cX6_fit : ByteArray := prog_1_method_4_code
def yX6_fit : MethodName := ⟨RX6, "fit", "(II)I"⟩
abbrev cX6_take : ByteArray := prog_1_method_5_code
def yX6_take : MethodName := ⟨RX6, "take", "(I)I"⟩
abbrev cX6_scrap : ByteArray := prog_1_method_6_code
def yX6_scrap : MethodName := ⟨RX6, "scrap", "(I)V"⟩
abbrev cX6_run : ByteArray := prog_1_method_7_code
def yX6_run : MethodName := ⟨RX6, "run", "(III)I"⟩
abbrev cX6_turn : ByteArray := prog_1_method_8_code
def yX6_turn : MethodName := ⟨RX6, "turn", "(I)I"⟩
abbrev cX6_gate : ByteArray := prog_1_method_9_code
def yX6_gate : MethodName := ⟨RX6, "gate", "(II)I"⟩
abbrev cX6_examine : ByteArray := prog_1_method_10_code
def yX6_examine : MethodName := ⟨RX6, "examine", "(I)I"⟩
abbrev cX6_waive : ByteArray := prog_1_method_11_code
def yX6_waive : MethodName := ⟨RX6, "waive", "(II)V"⟩
abbrev cX6_flaw : ByteArray := prog_1_method_12_code
def yX6_flaw : MethodName := ⟨RX6, "flaw", "(II)I"⟩
abbrev cX6_look : ByteArray := prog_1_method_13_code
def yX6_look : MethodName := ⟨RX6, "look", "(IZ)I"⟩
abbrev cX6_clear : ByteArray := prog_1_method_14_code
def yX6_clear : MethodName := ⟨RX6, "clear", "(I)I"⟩
abbrev cX6_recall : ByteArray := prog_1_method_15_code
def yX6_recall : MethodName := ⟨RX6, "recall", "(I)I"⟩
abbrev cX6_release : ByteArray := prog_1_method_16_code
def yX6_release : MethodName := ⟨RX6, "release", "(I)I"⟩
abbrev cX6_comes : ByteArray := prog_1_method_17_code
def yX6_comes : MethodName := ⟨RX6, "comes", "(II)I"⟩
abbrev cX6_night : ByteArray := prog_1_method_18_code
def yX6_night : MethodName := ⟨RX6, "night", "()I"⟩
abbrev cX6_out : ByteArray := prog_1_method_19_code
def yX6_out : MethodName := ⟨RX6, "out", "()I"⟩
abbrev cX6_host : ByteArray := prog_1_method_20_code
def yX6_host : MethodName := ⟨RX6, "host", "(I)I"⟩
abbrev cX6_head : ByteArray := prog_1_method_21_code
def yX6_head : MethodName := ⟨RX6, "head", "(I)I"⟩
abbrev cX6_ofPart : ByteArray := prog_1_method_22_code
def yX6_ofPart : MethodName := ⟨RX6, "ofPart", "(II)I"⟩
abbrev cX6_trace : ByteArray := prog_1_method_23_code
def yX6_trace : MethodName := ⟨RX6, "trace", "(II)I"⟩
abbrev cX6_lifeAnew : ByteArray := prog_1_method_24_code
def yX6_lifeAnew : MethodName := ⟨RX6, "lifeAnew", "(I)I"⟩
abbrev cX6_wheel : ByteArray := prog_1_method_25_code
def yX6_wheel : MethodName := ⟨RX6, "wheel", "(II)I"⟩
abbrev cX6_foretell : ByteArray := prog_1_method_26_code
def yX6_foretell : MethodName := ⟨RX6, "foretell", "(III)I"⟩
abbrev cX6_bars : ByteArray := prog_1_method_27_code
def yX6_bars : MethodName := ⟨RX6, "bars", "(I)I"⟩
abbrev cX6_barredBy : ByteArray := prog_1_method_28_code
def yX6_barredBy : MethodName := ⟨RX6, "barredBy", "(I)I"⟩
abbrev cX6_isReleased : ByteArray := prog_1_method_29_code
def yX6_isReleased : MethodName := ⟨RX6, "isReleased", "(I)Z"⟩
abbrev cX6_plan : ByteArray := prog_1_method_30_code
def yX6_plan : MethodName := ⟨RX6, "plan", "()I"⟩
abbrev cX6_planAnew : ByteArray := prog_1_method_31_code
def yX6_planAnew : MethodName := ⟨RX6, "planAnew", "()I"⟩
abbrev cX6_road : ByteArray := prog_1_method_32_code
def yX6_road : MethodName := ⟨RX6, "road", "(II)I"⟩
abbrev cX6_isOutside : ByteArray := prog_1_method_33_code
def yX6_isOutside : MethodName := ⟨RX6, "isOutside", "(III)Z"⟩
abbrev cX6_checkRun : ByteArray := prog_1_method_34_code
def yX6_checkRun : MethodName := ⟨RX6, "checkRun", "(II)V"⟩
abbrev cX6_limitsOf : ByteArray := prog_1_method_35_code
def yX6_limitsOf : MethodName := ⟨RX6, "limitsOf", "(I)LWheelWorks$KindLimits;"⟩
abbrev cX6_existing : ByteArray := prog_1_method_36_code
def yX6_existing : MethodName := ⟨RX6, "existing", "(I)LWheelWorks$Part;"⟩
abbrev cX6_existingTrain : ByteArray := prog_1_method_37_code
def yX6_existingTrain : MethodName := ⟨RX6, "existingTrain", "(I)LWheelWorks$Part;"⟩
abbrev cX6_existingWheel : ByteArray := prog_1_method_38_code
def yX6_existingWheel : MethodName := ⟨RX6, "existingWheel", "(I)LWheelWorks$Wheel;"⟩
abbrev cX6_placesFor : ByteArray := prog_1_method_39_code
def yX6_placesFor : MethodName := ⟨RX6, "placesFor", "(II)I"⟩
abbrev cX6_inside : ByteArray := prog_1_method_40_code
def yX6_inside : MethodName := ⟨RX6, "inside", "(LWheelWorks$Part;I)I"⟩
abbrev cX6_inside_ : ByteArray := prog_1_method_41_code
def yX6_inside_ : MethodName := ⟨RX6, "inside", "(LWheelWorks$Part;)I"⟩
abbrev cX6_wheelIn : ByteArray := prog_1_method_42_code
def yX6_wheelIn : MethodName := ⟨RX6, "wheelIn", "(LWheelWorks$Part;I)LWheelWorks$Wheel;"⟩
abbrev cX6_quarantineTree : ByteArray := prog_1_method_43_code
def yX6_quarantineTree : MethodName := ⟨RX6, "quarantineTree", "(LWheelWorks$Part;)V"⟩
abbrev cX6_rubbing : ByteArray := prog_1_method_44_code
def yX6_rubbing : MethodName := ⟨RX6, "rubbing", "(I)I"⟩
abbrev cX6_firstBar : ByteArray := prog_1_method_45_code
def yX6_firstBar : MethodName := ⟨RX6, "firstBar", "(LWheelWorks$Part;)I"⟩
abbrev cX6_lowestBarring : ByteArray := prog_1_method_46_code
def yX6_lowestBarring : MethodName := ⟨RX6, "lowestBarring", "(LWheelWorks$Part;I)I"⟩
abbrev cX6_isSo : ByteArray := prog_1_method_47_code
def yX6_isSo : MethodName := ⟨RX6, "isSo", "(LWheelWorks$Part;I)Z"⟩
abbrev cX6_hasEmptyPlace : ByteArray := prog_1_method_48_code
def yX6_hasEmptyPlace : MethodName := ⟨RX6, "hasEmptyPlace", "(LWheelWorks$Part;)Z"⟩
abbrev cX6_isApart : ByteArray := prog_1_method_49_code
def yX6_isApart : MethodName := ⟨RX6, "isApart", "(LWheelWorks$Part;)Z"⟩
abbrev cX6_spreadIn : ByteArray := prog_1_method_50_code
def yX6_spreadIn : MethodName := ⟨RX6, "spreadIn", "(LWheelWorks$Part;)I"⟩
def RX7 : String := "WheelWorksModel"
def TX7 : u_T := fun k => match k with
  | 0 => ("WheelWorksModel", "thrown", "I", false)
  | 1 => ("WheelWorksModel", "many", "I", false)
  | 2 => ("WheelWorksModel", "kinds", "[I", true)
  | 3 => ("WheelWorksModel", "melts", "[I", true)
  | 4 => ("WheelWorksModel", "mods", "[I", true)
  | 5 => ("WheelWorksModel", "hosts", "[I", true)
  | 6 => ("WheelWorksModel", "lives", "[I", true)
  | 7 => ("WheelWorksModel", "since", "[I", true)
  | 8 => ("WheelWorksModel", "waived", "[I", true)
  | 9 => ("WheelWorksModel", "isHeld", "[Z", true)
  | 10 => ("WheelWorksModel", "isRecalled", "[Z", true)
  | 11 => ("WheelWorksModel", "wasReleased", "[Z", true)
  | 12 => ("WheelWorksModel", "standsOn", "[Z", true)
  | 13 => ("WheelWorksModel", "diameters", "[I", true)
  | 14 => ("WheelWorksModel", "flanges", "[I", true)
  | 15 => ("WheelWorksModel", "rubbed", "[I", true)
  | 16 => ("WheelWorksModel", "told", "[I", true)
  | 17 => ("WheelWorksModel", "wasTold", "[Z", true)
  | 18 => ("WheelWorksModel", "flaws", "[I", true)
  | 19 => ("WheelWorksModel", "flawAt", "[I", true)
  | 20 => ("WheelWorksModel", "lifeOf", "[I", true)
  | 21 => ("WheelWorksModel", "intervals", "[I", true)
  | 22 => ("WheelWorksModel", "windows", "[I", true)
  | 23 => ("WheelWorksModel", "moveMany", "I", false)
  | 24 => ("WheelWorksModel", "moved", "[I", true)
  | 25 => ("WheelWorksModel", "movedTo", "[I", true)
  | 26 => ("WheelWorksModel", "waitMany", "I", false)
  | 27 => ("WheelWorksModel", "waiting", "[I", true)
  | 28 => ("WheelWorksModel", "times", "[I", true)
  | 29 => ("WheelWorksModel", "best", "[I", true)
  | 30 => ("WheelWorksModel", "tried", "[I", true)
  | 31 => ("WheelWorksModel", "roadMany", "[I", true)
  | _ => ("WheelWorksModel", "roads", "[I", true)
def tyX7 : Nat → FieldType := fun k => match k with
  | 0 => .int
  | 1 => .int
  | 2 => .array .int
  | 3 => .array .int
  | 4 => .array .int
  | 5 => .array .int
  | 6 => .array .int
  | 7 => .array .int
  | 8 => .array .int
  | 9 => .array .boolean
  | 10 => .array .boolean
  | 11 => .array .boolean
  | 12 => .array .boolean
  | 13 => .array .int
  | 14 => .array .int
  | 15 => .array .int
  | 16 => .array .int
  | 17 => .array .boolean
  | 18 => .array .int
  | 19 => .array .int
  | 20 => .array .int
  | 21 => .array .int
  | 22 => .array .int
  | 23 => .int
  | 24 => .array .int
  | 25 => .array .int
  | 26 => .int
  | 27 => .array .int
  | 28 => .array .int
  | 29 => .array .int
  | 30 => .array .int
  | 31 => .array .int
  | _ => .array .int
abbrev wsX70 : List Cond := u_ws RX7 TX7 33
theorem nmX7 : ∀ a, a < 33 → ∀ b, b < 33 → a ≠ b → (TX7 a).2.1 ≠ (TX7 b).2.1 := by decide +kernel
theorem tyX7_ok : ∀ k, k < 33 → parseFieldDescriptor (TX7 k).2.2.1 = some (tyX7 k) := by decide +kernel
abbrev cX7_init : ByteArray := prog_9_method_1_code
def yX7_init : MethodName := ⟨RX7, "<init>", "()V"⟩
abbrev cX7_thrown : ByteArray := prog_9_method_2_code
def yX7_thrown : MethodName := ⟨RX7, "thrown", "()I"⟩
abbrev cX7_in : ByteArray := prog_9_method_3_code
def yX7_in : MethodName := ⟨RX7, "in", "(III)Z"⟩
abbrev cX7_isPart : ByteArray := prog_9_method_4_code
def yX7_isPart : MethodName := ⟨RX7, "isPart", "(I)Z"⟩
abbrev cX7_kindCode : ByteArray := prog_9_method_5_code
def yX7_kindCode : MethodName := ⟨RX7, "kindCode", "(II)I"⟩
abbrev cX7_part : ByteArray := prog_9_method_6_code
def yX7_part : MethodName := ⟨RX7, "part", "(III)I"⟩
abbrev cX7_limits : ByteArray := prog_9_method_7_code
def yX7_limits : MethodName := ⟨RX7, "limits", "(IIII)I"⟩
abbrev cX7_headOf : ByteArray := prog_9_method_8_code
def yX7_headOf : MethodName := ⟨RX7, "headOf", "(I)I"⟩
abbrev cX7_isBound : ByteArray := prog_9_method_9_code
def yX7_isBound : MethodName := ⟨RX7, "isBound", "(I)Z"⟩
abbrev cX7_isIn : ByteArray := prog_9_method_10_code
def yX7_isIn : MethodName := ⟨RX7, "isIn", "(II)Z"⟩
abbrev cX7_places : ByteArray := prog_9_method_11_code
def yX7_places : MethodName := ⟨RX7, "places", "(II)I"⟩
abbrev cX7_inside : ByteArray := prog_9_method_12_code
def yX7_inside : MethodName := ⟨RX7, "inside", "(II)I"⟩
abbrev cX7_moves : ByteArray := prog_9_method_13_code
def yX7_moves : MethodName := ⟨RX7, "moves", "(II)V"⟩
abbrev cX7_ends : ByteArray := prog_9_method_14_code
def yX7_ends : MethodName := ⟨RX7, "ends", "(I)V"⟩
abbrev cX7_fit : ByteArray := prog_9_method_15_code
def yX7_fit : MethodName := ⟨RX7, "fit", "(II)I"⟩
abbrev cX7_take : ByteArray := prog_9_method_16_code
def yX7_take : MethodName := ⟨RX7, "take", "(I)I"⟩
abbrev cX7_waits : ByteArray := prog_9_method_17_code
def yX7_waits : MethodName := ⟨RX7, "waits", "(I)Z"⟩
abbrev cX7_scrap : ByteArray := prog_9_method_18_code
def yX7_scrap : MethodName := ⟨RX7, "scrap", "(I)V"⟩
abbrev cX7_factor : ByteArray := prog_9_method_19_code
def yX7_factor : MethodName := ⟨RX7, "factor", "(I)I"⟩
abbrev cX7_goes : ByteArray := prog_9_method_20_code
def yX7_goes : MethodName := ⟨RX7, "goes", "(III)V"⟩
abbrev cX7_run : ByteArray := prog_9_method_21_code
def yX7_run : MethodName := ⟨RX7, "run", "(III)I"⟩
abbrev cX7_wheelsetOf : ByteArray := prog_9_method_22_code
def yX7_wheelsetOf : MethodName := ⟨RX7, "wheelsetOf", "(IZ)I"⟩
abbrev cX7_trues : ByteArray := prog_9_method_23_code
def yX7_trues : MethodName := ⟨RX7, "trues", "(I)I"⟩
abbrev cX7_turn : ByteArray := prog_9_method_24_code
def yX7_turn : MethodName := ⟨RX7, "turn", "(I)I"⟩
abbrev cX7_gate : ByteArray := prog_9_method_25_code
def yX7_gate : MethodName := ⟨RX7, "gate", "(II)I"⟩
abbrev cX7_examine : ByteArray := prog_9_method_26_code
def yX7_examine : MethodName := ⟨RX7, "examine", "(I)I"⟩
abbrev cX7_waive : ByteArray := prog_9_method_27_code
def yX7_waive : MethodName := ⟨RX7, "waive", "(II)V"⟩
abbrev cX7_flaw : ByteArray := prog_9_method_28_code
def yX7_flaw : MethodName := ⟨RX7, "flaw", "(II)I"⟩
abbrev cX7_holds : ByteArray := prog_9_method_29_code
def yX7_holds : MethodName := ⟨RX7, "holds", "(I)V"⟩
abbrev cX7_look : ByteArray := prog_9_method_30_code
def yX7_look : MethodName := ⟨RX7, "look", "(IZ)I"⟩
abbrev cX7_clear : ByteArray := prog_9_method_31_code
def yX7_clear : MethodName := ⟨RX7, "clear", "(I)I"⟩
abbrev cX7_recall : ByteArray := prog_9_method_32_code
def yX7_recall : MethodName := ⟨RX7, "recall", "(I)I"⟩
abbrev cX7_hasEmpty : ByteArray := prog_9_method_33_code
def yX7_hasEmpty : MethodName := ⟨RX7, "hasEmpty", "(I)Z"⟩
abbrev cX7_isWorn : ByteArray := prog_9_method_34_code
def yX7_isWorn : MethodName := ⟨RX7, "isWorn", "(I)Z"⟩
abbrev cX7_apartIn : ByteArray := prog_9_method_35_code
def yX7_apartIn : MethodName := ⟨RX7, "apartIn", "(I)I"⟩
abbrev cX7_isDue : ByteArray := prog_9_method_36_code
def yX7_isDue : MethodName := ⟨RX7, "isDue", "(I)Z"⟩
abbrev cX7_barsBy : ByteArray := prog_9_method_37_code
def yX7_barsBy : MethodName := ⟨RX7, "barsBy", "(II)Z"⟩
abbrev cX7_barOf : ByteArray := prog_9_method_38_code
def yX7_barOf : MethodName := ⟨RX7, "barOf", "(I)I"⟩
abbrev cX7_release : ByteArray := prog_9_method_39_code
def yX7_release : MethodName := ⟨RX7, "release", "(I)I"⟩
abbrev cX7_comes : ByteArray := prog_9_method_40_code
def yX7_comes : MethodName := ⟨RX7, "comes", "(II)I"⟩
abbrev cX7_movesOf : ByteArray := prog_9_method_41_code
def yX7_movesOf : MethodName := ⟨RX7, "movesOf", "()I"⟩
abbrev cX7_plans : ByteArray := prog_9_method_42_code
def yX7_plans : MethodName := ⟨RX7, "plans", "()I"⟩
abbrev cX7_night : ByteArray := prog_9_method_43_code
def yX7_night : MethodName := ⟨RX7, "night", "()I"⟩
abbrev cX7_out : ByteArray := prog_9_method_44_code
def yX7_out : MethodName := ⟨RX7, "out", "()I"⟩
abbrev cX7_host : ByteArray := prog_9_method_45_code
def yX7_host : MethodName := ⟨RX7, "host", "(I)I"⟩
abbrev cX7_head : ByteArray := prog_9_method_46_code
def yX7_head : MethodName := ⟨RX7, "head", "(I)I"⟩
abbrev cX7_movesOfPart : ByteArray := prog_9_method_47_code
def yX7_movesOfPart : MethodName := ⟨RX7, "movesOfPart", "(I)I"⟩
abbrev cX7_ofPart : ByteArray := prog_9_method_48_code
def yX7_ofPart : MethodName := ⟨RX7, "ofPart", "(II)I"⟩
abbrev cX7_trace : ByteArray := prog_9_method_49_code
def yX7_trace : MethodName := ⟨RX7, "trace", "(II)I"⟩
abbrev cX7_lifeAnew : ByteArray := prog_9_method_50_code
def yX7_lifeAnew : MethodName := ⟨RX7, "lifeAnew", "(I)I"⟩
abbrev cX7_wheel : ByteArray := prog_9_method_51_code
def yX7_wheel : MethodName := ⟨RX7, "wheel", "(II)I"⟩
abbrev cX7_foretell : ByteArray := prog_9_method_52_code
def yX7_foretell : MethodName := ⟨RX7, "foretell", "(III)I"⟩
abbrev cX7_bars : ByteArray := prog_9_method_53_code
def yX7_bars : MethodName := ⟨RX7, "bars", "(I)I"⟩
abbrev cX7_barredBy : ByteArray := prog_9_method_54_code
def yX7_barredBy : MethodName := ⟨RX7, "barredBy", "(I)I"⟩
abbrev cX7_isReleased : ByteArray := prog_9_method_55_code
def yX7_isReleased : MethodName := ⟨RX7, "isReleased", "(I)Z"⟩
abbrev cX7_plan : ByteArray := prog_9_method_56_code
def yX7_plan : MethodName := ⟨RX7, "plan", "()I"⟩
abbrev cX7_planAnew : ByteArray := prog_9_method_57_code
def yX7_planAnew : MethodName := ⟨RX7, "planAnew", "()I"⟩
abbrev cX7_road : ByteArray := prog_9_method_58_code
def yX7_road : MethodName := ⟨RX7, "road", "(II)I"⟩
def RJx145de : String := "java/io/Serializable"
def TJx145de : u_T := fun k => match k with
  | _ => ("", "", "", false)
def tyJx145de : Nat → FieldType := fun k => match k with
  | _ => .int
abbrev wsJx145de0 : List Cond := u_ws RJx145de TJx145de 0
theorem nmJx145de : ∀ a, a < 0 → ∀ b, b < 0 → a ≠ b → (TJx145de a).2.1 ≠ (TJx145de b).2.1 := by decide +kernel
theorem tyJx145de_ok : ∀ k, k < 0 → parseFieldDescriptor (TJx145de k).2.2.1 = some (tyJx145de k) := by decide +kernel
def RJx8e188 : String := "java/lang/Cloneable"
def TJx8e188 : u_T := fun k => match k with
  | _ => ("", "", "", false)
def tyJx8e188 : Nat → FieldType := fun k => match k with
  | _ => .int
abbrev wsJx8e1880 : List Cond := u_ws RJx8e188 TJx8e188 0
theorem nmJx8e188 : ∀ a, a < 0 → ∀ b, b < 0 → a ≠ b → (TJx8e188 a).2.1 ≠ (TJx8e188 b).2.1 := by decide +kernel
theorem tyJx8e188_ok : ∀ k, k < 0 → parseFieldDescriptor (TJx8e188 k).2.2.1 = some (tyJx8e188 k) := by decide +kernel
def RJ6 : String := "java/lang/Integer"
def TJ6 : u_T := fun k => match k with
  | _ => ("", "", "", false)
def tyJ6 : Nat → FieldType := fun k => match k with
  | _ => .int
abbrev wsJ60 : List Cond := u_ws RJ6 TJ6 0
theorem nmJ6 : ∀ a, a < 0 → ∀ b, b < 0 → a ≠ b → (TJ6 a).2.1 ≠ (TJ6 b).2.1 := by decide +kernel
theorem tyJ6_ok : ∀ k, k < 0 → parseFieldDescriptor (TJ6 k).2.2.1 = some (tyJ6 k) := by decide +kernel
abbrev cJ6_bitCount_0f7a4 : ByteArray := prog_16_method_49_code
def yJ6_bitCount_0f7a4 : MethodName := ⟨RJ6, "bitCount", "(I)I"⟩
def RJxab1ab : String := "java/lang/Iterable"
def TJxab1ab : u_T := fun k => match k with
  | _ => ("", "", "", false)
def tyJxab1ab : Nat → FieldType := fun k => match k with
  | _ => .int
abbrev wsJxab1ab0 : List Cond := u_ws RJxab1ab TJxab1ab 0
theorem nmJxab1ab : ∀ a, a < 0 → ∀ b, b < 0 → a ≠ b → (TJxab1ab a).2.1 ≠ (TJxab1ab b).2.1 := by decide +kernel
theorem tyJxab1ab_ok : ∀ k, k < 0 → parseFieldDescriptor (TJxab1ab k).2.2.1 = some (tyJxab1ab k) := by decide +kernel
def RJ9 : String := "java/lang/Math"
def TJ9 : u_T := fun k => match k with
  | _ => ("", "", "", false)
def tyJ9 : Nat → FieldType := fun k => match k with
  | _ => .int
abbrev wsJ90 : List Cond := u_ws RJ9 TJ9 0
theorem nmJ9 : ∀ a, a < 0 → ∀ b, b < 0 → a ≠ b → (TJ9 a).2.1 ≠ (TJ9 b).2.1 := by decide +kernel
theorem tyJ9_ok : ∀ k, k < 0 → parseFieldDescriptor (TJ9 k).2.2.1 = some (tyJ9 k) := by decide +kernel
abbrev cJ9_abs_0f7a4 : ByteArray := prog_18_method_59_code
def yJ9_abs_0f7a4 : MethodName := ⟨RJ9, "abs", "(I)I"⟩
abbrev cJ9_max_7cf53 : ByteArray := prog_18_method_65_code
def yJ9_max_7cf53 : MethodName := ⟨RJ9, "max", "(II)I"⟩
abbrev cJ9_min_7cf53 : ByteArray := prog_18_method_69_code
def yJ9_min_7cf53 : MethodName := ⟨RJ9, "min", "(II)I"⟩
def RJ0 : String := "java/lang/String"
def TJ0 : u_T := fun k => match k with
  | _ => ("", "", "", false)
def tyJ0 : Nat → FieldType := fun k => match k with
  | _ => .int
abbrev wsJ00 : List Cond := u_ws RJ0 TJ0 0
theorem nmJ0 : ∀ a, a < 0 → ∀ b, b < 0 → a ≠ b → (TJ0 a).2.1 ≠ (TJ0 b).2.1 := by decide +kernel
theorem tyJ0_ok : ∀ k, k < 0 → parseFieldDescriptor (TJ0 k).2.2.1 = some (tyJ0 k) := by decide +kernel
def RJ10 : String := "java/lang/System"
def TJ10 : u_T := fun k => match k with
  | _ => ("", "", "", false)
def tyJ10 : Nat → FieldType := fun k => match k with
  | _ => .int
abbrev wsJ100 : List Cond := u_ws RJ10 TJ10 0
theorem nmJ10 : ∀ a, a < 0 → ∀ b, b < 0 → a ≠ b → (TJ10 a).2.1 ≠ (TJ10 b).2.1 := by decide +kernel
theorem tyJ10_ok : ∀ k, k < 0 → parseFieldDescriptor (TJ10 k).2.2.1 = some (tyJ10 k) := by decide +kernel
def RJxa1e45 : String := "java/util/AbstractCollection"
def TJxa1e45 : u_T := fun k => match k with
  | _ => ("", "", "", false)
def tyJxa1e45 : Nat → FieldType := fun k => match k with
  | _ => .int
abbrev wsJxa1e450 : List Cond := u_ws RJxa1e45 TJxa1e45 0
theorem nmJxa1e45 : ∀ a, a < 0 → ∀ b, b < 0 → a ≠ b → (TJxa1e45 a).2.1 ≠ (TJxa1e45 b).2.1 := by decide +kernel
theorem tyJxa1e45_ok : ∀ k, k < 0 → parseFieldDescriptor (TJxa1e45 k).2.2.1 = some (tyJxa1e45 k) := by decide +kernel
abbrev cJxa1e45_init_da8c8 : ByteArray := prog_23_method_1_code
def yJxa1e45_init_da8c8 : MethodName := ⟨RJxa1e45, "<init>", "()V"⟩
def RJxc12de : String := "java/util/AbstractList"
def TJxc12de : u_T := fun k => match k with
  | _ => ("", "", "", false)
def tyJxc12de : Nat → FieldType := fun k => match k with
  | _ => .int
abbrev wsJxc12de0 : List Cond := u_ws RJxc12de TJxc12de 0
theorem nmJxc12de : ∀ a, a < 0 → ∀ b, b < 0 → a ≠ b → (TJxc12de a).2.1 ≠ (TJxc12de b).2.1 := by decide +kernel
theorem tyJxc12de_ok : ∀ k, k < 0 → parseFieldDescriptor (TJxc12de k).2.2.1 = some (tyJxc12de k) := by decide +kernel
abbrev cJxc12de_init_da8c8 : ByteArray := prog_24_method_1_code
def yJxc12de_init_da8c8 : MethodName := ⟨RJxc12de, "<init>", "()V"⟩
def RJx4a65c : String := "java/util/ArrayList"
def TJx4a65c : u_T := fun k => match k with
  | 0 => ("java/util/AbstractList", "modCount", "I", false)
  | 1 => ("java/util/ArrayList", "elementData", "[Ljava/lang/Object;", false)
  | _ => ("java/util/ArrayList", "size", "I", false)
def tyJx4a65c : Nat → FieldType := fun k => match k with
  | 0 => .int
  | 1 => .array (.object "java/lang/Object")
  | _ => .int
abbrev wsJx4a65c0 : List Cond := u_ws RJx4a65c TJx4a65c 3
theorem nmJx4a65c : ∀ a, a < 3 → ∀ b, b < 3 → a ≠ b → (TJx4a65c a).2.1 ≠ (TJx4a65c b).2.1 := by decide +kernel
theorem tyJx4a65c_ok : ∀ k, k < 3 → parseFieldDescriptor (TJx4a65c k).2.2.1 = some (tyJx4a65c k) := by decide +kernel
abbrev cJx4a65c_init_da8c8 : ByteArray := prog_25_method_2_code
def yJx4a65c_init_da8c8 : MethodName := ⟨RJx4a65c, "<init>", "()V"⟩
abbrev cJx4a65c_grow_92f84 : ByteArray := prog_25_method_6_code
def yJx4a65c_grow_92f84 : MethodName := ⟨RJx4a65c, "grow", "(I)[Ljava/lang/Object;"⟩
abbrev cJx4a65c_grow_d5877 : ByteArray := prog_25_method_7_code
def yJx4a65c_grow_d5877 : MethodName := ⟨RJx4a65c, "grow", "()[Ljava/lang/Object;"⟩
abbrev cJx4a65c_size_8abf5 : ByteArray := prog_25_method_8_code
def yJx4a65c_size_8abf5 : MethodName := ⟨RJx4a65c, "size", "()I"⟩
abbrev cJx4a65c_isEmpty_aae02 : ByteArray := prog_25_method_9_code
def yJx4a65c_isEmpty_aae02 : MethodName := ⟨RJx4a65c, "isEmpty", "()Z"⟩
abbrev cJx4a65c_elementData_915e3 : ByteArray := prog_25_method_18_code
def yJx4a65c_elementData_915e3 : MethodName := ⟨RJx4a65c, "elementData", "(I)Ljava/lang/Object;"⟩
abbrev cJx4a65c_get_915e3 : ByteArray := prog_25_method_20_code
def yJx4a65c_get_915e3 : MethodName := ⟨RJx4a65c, "get", "(I)Ljava/lang/Object;"⟩
abbrev cJx4a65c_add_72be8 : ByteArray := prog_25_method_24_code
def yJx4a65c_add_72be8 : MethodName := ⟨RJx4a65c, "add", "(Ljava/lang/Object;[Ljava/lang/Object;I)V"⟩
abbrev cJx4a65c_add_9ea2d : ByteArray := prog_25_method_25_code
def yJx4a65c_add_9ea2d : MethodName := ⟨RJx4a65c, "add", "(Ljava/lang/Object;)Z"⟩
abbrev cJx4a65c_remove_915e3 : ByteArray := prog_25_method_29_code
def yJx4a65c_remove_915e3 : MethodName := ⟨RJx4a65c, "remove", "(I)Ljava/lang/Object;"⟩
abbrev cJx4a65c_fastRemove_b59b0 : ByteArray := prog_25_method_39_code
def yJx4a65c_fastRemove_b59b0 : MethodName := ⟨RJx4a65c, "fastRemove", "([Ljava/lang/Object;I)V"⟩
abbrev cJx4a65c_clear_da8c8 : ByteArray := prog_25_method_40_code
def yJx4a65c_clear_da8c8 : MethodName := ⟨RJx4a65c, "clear", "()V"⟩
def RJ7 : String := "java/util/Arrays"
def TJ7 : u_T := fun k => match k with
  | _ => ("", "", "", false)
def tyJ7 : Nat → FieldType := fun k => match k with
  | _ => .int
abbrev wsJ70 : List Cond := u_ws RJ7 TJ7 0
theorem nmJ7 : ∀ a, a < 0 → ∀ b, b < 0 → a ≠ b → (TJ7 a).2.1 ≠ (TJ7 b).2.1 := by decide +kernel
theorem tyJ7_ok : ∀ k, k < 0 → parseFieldDescriptor (TJ7 k).2.2.1 = some (tyJ7 k) := by decide +kernel
abbrev cJ7_copyOf_1904c : ByteArray := prog_26_method_119_code
def yJ7_copyOf_1904c : MethodName := ⟨RJ7, "copyOf", "([Ljava/lang/Object;I)[Ljava/lang/Object;"⟩
abbrev cJ7_copyOf_6403c : ByteArray := prog_26_method_120_code
def yJ7_copyOf_6403c : MethodName := ⟨RJ7, "copyOf", "([Ljava/lang/Object;ILjava/lang/Class;)[Ljava/lang/Object;"⟩
def RJx5ef63 : String := "java/util/Collection"
def TJx5ef63 : u_T := fun k => match k with
  | _ => ("", "", "", false)
def tyJx5ef63 : Nat → FieldType := fun k => match k with
  | _ => .int
abbrev wsJx5ef630 : List Cond := u_ws RJx5ef63 TJx5ef63 0
theorem nmJx5ef63 : ∀ a, a < 0 → ∀ b, b < 0 → a ≠ b → (TJx5ef63 a).2.1 ≠ (TJx5ef63 b).2.1 := by decide +kernel
theorem tyJx5ef63_ok : ∀ k, k < 0 → parseFieldDescriptor (TJx5ef63 k).2.2.1 = some (tyJx5ef63 k) := by decide +kernel
def RJxbd725 : String := "java/util/List"
def TJxbd725 : u_T := fun k => match k with
  | _ => ("", "", "", false)
def tyJxbd725 : Nat → FieldType := fun k => match k with
  | _ => .int
abbrev wsJxbd7250 : List Cond := u_ws RJxbd725 TJxbd725 0
theorem nmJxbd725 : ∀ a, a < 0 → ∀ b, b < 0 → a ≠ b → (TJxbd725 a).2.1 ≠ (TJxbd725 b).2.1 := by decide +kernel
theorem tyJxbd725_ok : ∀ k, k < 0 → parseFieldDescriptor (TJxbd725 k).2.2.1 = some (tyJxbd725 k) := by decide +kernel
def RJ15 : String := "java/util/Objects"
def TJ15 : u_T := fun k => match k with
  | _ => ("", "", "", false)
def tyJ15 : Nat → FieldType := fun k => match k with
  | _ => .int
abbrev wsJ150 : List Cond := u_ws RJ15 TJ15 0
theorem nmJ15 : ∀ a, a < 0 → ∀ b, b < 0 → a ≠ b → (TJ15 a).2.1 ≠ (TJ15 b).2.1 := by decide +kernel
theorem tyJ15_ok : ∀ k, k < 0 → parseFieldDescriptor (TJ15 k).2.2.1 = some (tyJ15 k) := by decide +kernel
abbrev cJ15_checkIndex_7cf53 : ByteArray := prog_29_method_17_code
def yJ15_checkIndex_7cf53 : MethodName := ⟨RJ15, "checkIndex", "(II)I"⟩
def RJxf0a74 : String := "java/util/RandomAccess"
def TJxf0a74 : u_T := fun k => match k with
  | _ => ("", "", "", false)
def tyJxf0a74 : Nat → FieldType := fun k => match k with
  | _ => .int
abbrev wsJxf0a740 : List Cond := u_ws RJxf0a74 TJxf0a74 0
theorem nmJxf0a74 : ∀ a, a < 0 → ∀ b, b < 0 → a ≠ b → (TJxf0a74 a).2.1 ≠ (TJxf0a74 b).2.1 := by decide +kernel
theorem tyJxf0a74_ok : ∀ k, k < 0 → parseFieldDescriptor (TJxf0a74 k).2.2.1 = some (tyJxf0a74 k) := by decide +kernel
def RJxa66e6 : String := "java/util/SequencedCollection"
def TJxa66e6 : u_T := fun k => match k with
  | _ => ("", "", "", false)
def tyJxa66e6 : Nat → FieldType := fun k => match k with
  | _ => .int
abbrev wsJxa66e60 : List Cond := u_ws RJxa66e6 TJxa66e6 0
theorem nmJxa66e6 : ∀ a, a < 0 → ∀ b, b < 0 → a ≠ b → (TJxa66e6 a).2.1 ≠ (TJxa66e6 b).2.1 := by decide +kernel
theorem tyJxa66e6_ok : ∀ k, k < 0 → parseFieldDescriptor (TJxa66e6 k).2.2.1 = some (tyJxa66e6 k) := by decide +kernel
def RJ8 : String := "jdk/internal/util/ArraysSupport"
def TJ8 : u_T := fun k => match k with
  | _ => ("", "", "", false)
def tyJ8 : Nat → FieldType := fun k => match k with
  | _ => .int
abbrev wsJ80 : List Cond := u_ws RJ8 TJ8 0
theorem nmJ8 : ∀ a, a < 0 → ∀ b, b < 0 → a ≠ b → (TJ8 a).2.1 ≠ (TJ8 b).2.1 := by decide +kernel
theorem tyJ8_ok : ∀ k, k < 0 → parseFieldDescriptor (TJ8 k).2.2.1 = some (tyJ8 k) := by decide +kernel
abbrev cJ8_newLength_cabcc : ByteArray := prog_32_method_27_code
def yJ8_newLength_cabcc : MethodName := ⟨RJ8, "newLength", "(III)I"⟩
abbrev cJ8_hugeLength_7cf53 : ByteArray := prog_32_method_28_code
def yJ8_hugeLength_7cf53 : MethodName := ⟨RJ8, "hugeLength", "(II)I"⟩
def RJ3 : String := "jdk/internal/util/Preconditions"
def TJ3 : u_T := fun k => match k with
  | _ => ("", "", "", false)
def tyJ3 : Nat → FieldType := fun k => match k with
  | _ => .int
abbrev wsJ30 : List Cond := u_ws RJ3 TJ3 0
theorem nmJ3 : ∀ a, a < 0 → ∀ b, b < 0 → a ≠ b → (TJ3 a).2.1 ≠ (TJ3 b).2.1 := by decide +kernel
theorem tyJ3_ok : ∀ k, k < 0 → parseFieldDescriptor (TJ3 k).2.2.1 = some (tyJ3 k) := by decide +kernel
abbrev cJ3_checkIndex_8e157 : ByteArray := prog_33_method_11_code
def yJ3_checkIndex_8e157 : MethodName := ⟨RJ3, "checkIndex", "(IILjava/util/function/BiFunction;)I"⟩
def RL : String := "WheelWorksLaw"
abbrev cL_part : ByteArray := method_3_code
def yL_part : MethodName := ⟨RL, "part", "(LWheelWorks;III[J)I"⟩
abbrev cL_limits : ByteArray := method_4_code
def yL_limits : MethodName := ⟨RL, "limits", "(LWheelWorks;IIII[J)I"⟩
abbrev cL_fit : ByteArray := method_5_code
def yL_fit : MethodName := ⟨RL, "fit", "(LWheelWorks;II[J)I"⟩
abbrev cL_take : ByteArray := method_6_code
def yL_take : MethodName := ⟨RL, "take", "(LWheelWorks;I[J)I"⟩
abbrev cL_scrap : ByteArray := method_7_code
def yL_scrap : MethodName := ⟨RL, "scrap", "(LWheelWorks;I)I"⟩
abbrev cL_run : ByteArray := method_8_code
def yL_run : MethodName := ⟨RL, "run", "(LWheelWorks;III[J)I"⟩
abbrev cL_turn : ByteArray := method_9_code
def yL_turn : MethodName := ⟨RL, "turn", "(LWheelWorks;I[J)I"⟩
abbrev cL_gate : ByteArray := method_10_code
def yL_gate : MethodName := ⟨RL, "gate", "(LWheelWorks;II[J)I"⟩
abbrev cL_examine : ByteArray := method_11_code
def yL_examine : MethodName := ⟨RL, "examine", "(LWheelWorks;I[J)I"⟩
abbrev cL_waive : ByteArray := method_12_code
def yL_waive : MethodName := ⟨RL, "waive", "(LWheelWorks;II)I"⟩
abbrev cL_flaw : ByteArray := method_13_code
def yL_flaw : MethodName := ⟨RL, "flaw", "(LWheelWorks;II[J)I"⟩
abbrev cL_look : ByteArray := method_14_code
def yL_look : MethodName := ⟨RL, "look", "(LWheelWorks;IZ[J)I"⟩
abbrev cL_clear : ByteArray := method_15_code
def yL_clear : MethodName := ⟨RL, "clear", "(LWheelWorks;I[J)I"⟩
abbrev cL_recall : ByteArray := method_16_code
def yL_recall : MethodName := ⟨RL, "recall", "(LWheelWorks;I[J)I"⟩
abbrev cL_release : ByteArray := method_17_code
def yL_release : MethodName := ⟨RL, "release", "(LWheelWorks;I[J)I"⟩
abbrev cL_comes : ByteArray := method_18_code
def yL_comes : MethodName := ⟨RL, "comes", "(LWheelWorks;II[J)I"⟩
abbrev cL_night : ByteArray := method_19_code
def yL_night : MethodName := ⟨RL, "night", "(LWheelWorks;[J)I"⟩
abbrev cL_out : ByteArray := method_20_code
def yL_out : MethodName := ⟨RL, "out", "(LWheelWorks;[J)I"⟩
abbrev cL_host : ByteArray := method_21_code
def yL_host : MethodName := ⟨RL, "host", "(LWheelWorks;I[J)I"⟩
abbrev cL_head : ByteArray := method_22_code
def yL_head : MethodName := ⟨RL, "head", "(LWheelWorks;I[J)I"⟩
abbrev cL_ofPart : ByteArray := method_23_code
def yL_ofPart : MethodName := ⟨RL, "ofPart", "(LWheelWorks;II[J)I"⟩
abbrev cL_trace : ByteArray := method_24_code
def yL_trace : MethodName := ⟨RL, "trace", "(LWheelWorks;II[J)I"⟩
abbrev cL_lifeAnew : ByteArray := method_25_code
def yL_lifeAnew : MethodName := ⟨RL, "lifeAnew", "(LWheelWorks;I[J)I"⟩
abbrev cL_wheel : ByteArray := method_26_code
def yL_wheel : MethodName := ⟨RL, "wheel", "(LWheelWorks;II[J)I"⟩
abbrev cL_foretell : ByteArray := method_27_code
def yL_foretell : MethodName := ⟨RL, "foretell", "(LWheelWorks;III[J)I"⟩
abbrev cL_bars : ByteArray := method_28_code
def yL_bars : MethodName := ⟨RL, "bars", "(LWheelWorks;I[J)I"⟩
abbrev cL_barredBy : ByteArray := method_29_code
def yL_barredBy : MethodName := ⟨RL, "barredBy", "(LWheelWorks;I[J)I"⟩
abbrev cL_isReleased : ByteArray := method_30_code
def yL_isReleased : MethodName := ⟨RL, "isReleased", "(LWheelWorks;I[J)I"⟩
abbrev cL_road : ByteArray := method_31_code
def yL_road : MethodName := ⟨RL, "road", "(LWheelWorks;II[J)I"⟩
abbrev cL_law : ByteArray := code
def yL_law : MethodName := ⟨RL, "law", "([I)Z"⟩
abbrev vwCl : List vw_C := [(RJx4a65c, TJx4a65c, 3), (RX0, TX0, 3), (RX1, TX1, 3), (RX2, TX2, 2), (RX3, TX3, 18), (RX4, TX4, 4), (RX5, TX5, 5), (RX6, TX6, 4), (RX7, TX7, 33)]
end
section
theorem dX0_init_0 : decode cX0_init 0 = .ok (.aload_n 0, 1) := by decide +kernel
theorem dX0_init_1 : decode cX0_init 1 = .ok (.invokespecial 1, 3) := by decide +kernel
theorem dX0_init_4 : decode cX0_init 4 = .ok (.aload_n 0, 1) := by decide +kernel
theorem dX0_init_5 : decode cX0_init 5 = .ok (.iload_n 1, 1) := by decide +kernel
theorem dX0_init_6 : decode cX0_init 6 = .ok (.putfield 7, 3) := by decide +kernel
theorem dX0_init_9 : decode cX0_init 9 = .ok (.aload_n 0, 1) := by decide +kernel
theorem dX0_init_10 : decode cX0_init 10 = .ok (.iload_n 2, 1) := by decide +kernel
theorem dX0_init_11 : decode cX0_init 11 = .ok (.putfield 13, 3) := by decide +kernel
theorem dX0_init_14 : decode cX0_init 14 = .ok (.aload_n 0, 1) := by decide +kernel
theorem dX0_init_15 : decode cX0_init 15 = .ok (.iload_n 3, 1) := by decide +kernel
theorem dX0_init_16 : decode cX0_init 16 = .ok (.putfield 16, 3) := by decide +kernel
theorem dX0_init_19 : decode cX0_init 19 = .ok (.return_, 1) := by decide +kernel
theorem dX1_init_0 : decode cX1_init 0 = .ok (.aload_n 0, 1) := by decide +kernel
theorem dX1_init_1 : decode cX1_init 1 = .ok (.invokespecial 1, 3) := by decide +kernel
theorem dX1_init_4 : decode cX1_init 4 = .ok (.return_, 1) := by decide +kernel
theorem dX2_init_0 : decode cX2_init 0 = .ok (.aload_n 0, 1) := by decide +kernel
theorem dX2_init_1 : decode cX2_init 1 = .ok (.invokespecial 3, 3) := by decide +kernel
theorem dX2_init_4 : decode cX2_init 4 = .ok (.aload_n 0, 1) := by decide +kernel
theorem dX2_init_5 : decode cX2_init 5 = .ok (.new 9, 3) := by decide +kernel
theorem dX2_init_8 : decode cX2_init 8 = .ok (.dup, 1) := by decide +kernel
theorem dX2_init_9 : decode cX2_init 9 = .ok (.invokespecial 11, 3) := by decide +kernel
theorem dX2_init_12 : decode cX2_init 12 = .ok (.putfield 12, 3) := by decide +kernel
theorem dX2_init_15 : decode cX2_init 15 = .ok (.aload_n 0, 1) := by decide +kernel
theorem dX2_init_16 : decode cX2_init 16 = .ok (.bipush 60, 2) := by decide +kernel
theorem dX2_init_18 : decode cX2_init 18 = .ok (.newarray .int, 2) := by decide +kernel
theorem dX2_init_20 : decode cX2_init 20 = .ok (.putfield 18, 3) := by decide +kernel
theorem dX2_init_23 : decode cX2_init 23 = .ok (.return_, 1) := by decide +kernel
theorem dX2_addMove_0 : decode cX2_addMove 0 = .ok (.aload_n 0, 1) := by decide +kernel
theorem dX2_addMove_1 : decode cX2_addMove 1 = .ok (.new 22, 3) := by decide +kernel
theorem dX2_addMove_4 : decode cX2_addMove 4 = .ok (.dup, 1) := by decide +kernel
theorem dX2_addMove_5 : decode cX2_addMove 5 = .ok (.iload_n 1, 1) := by decide +kernel
theorem dX2_addMove_6 : decode cX2_addMove 6 = .ok (.iload_n 2, 1) := by decide +kernel
theorem dX2_addMove_7 : decode cX2_addMove 7 = .ok (.iconst 0, 1) := by decide +kernel
theorem dX2_addMove_8 : decode cX2_addMove 8 = .ok (.invokespecial 24, 3) := by decide +kernel
theorem dX2_addMove_11 : decode cX2_addMove 11 = .ok (.invokevirtual 27, 3) := by decide +kernel
theorem dX2_addMove_14 : decode cX2_addMove 14 = .ok (.return_, 1) := by decide +kernel
theorem dX2_addRun_0 : decode cX2_addRun 0 = .ok (.aload_n 0, 1) := by decide +kernel
theorem dX2_addRun_1 : decode cX2_addRun 1 = .ok (.new 22, 3) := by decide +kernel
theorem dX2_addRun_4 : decode cX2_addRun 4 = .ok (.dup, 1) := by decide +kernel
theorem dX2_addRun_5 : decode cX2_addRun 5 = .ok (.iload_n 1, 1) := by decide +kernel
theorem dX2_addRun_6 : decode cX2_addRun 6 = .ok (.iconst (-1), 1) := by decide +kernel
theorem dX2_addRun_7 : decode cX2_addRun 7 = .ok (.iload_n 2, 1) := by decide +kernel
theorem dX2_addRun_8 : decode cX2_addRun 8 = .ok (.invokespecial 24, 3) := by decide +kernel
theorem dX2_addRun_11 : decode cX2_addRun 11 = .ok (.invokevirtual 27, 3) := by decide +kernel
theorem dX2_addRun_14 : decode cX2_addRun 14 = .ok (.return_, 1) := by decide +kernel
theorem dX2_add_0 : decode cX2_add 0 = .ok (.aload_n 0, 1) := by decide +kernel
theorem dX2_add_1 : decode cX2_add 1 = .ok (.getfield 12, 3) := by decide +kernel
theorem dX2_add_4 : decode cX2_add 4 = .ok (.invokevirtual 31, 3) := by decide +kernel
theorem dX2_add_7 : decode cX2_add 7 = .ok (.sipush 512, 3) := by decide +kernel
theorem dX2_add_10 : decode cX2_add 10 = .ok (.if_icmp .ge 12, 3) := by decide +kernel
theorem dX2_add_13 : decode cX2_add 13 = .ok (.aload_n 0, 1) := by decide +kernel
theorem dX2_add_14 : decode cX2_add 14 = .ok (.getfield 12, 3) := by decide +kernel
theorem dX2_add_17 : decode cX2_add 17 = .ok (.aload_n 1, 1) := by decide +kernel
theorem dX2_add_18 : decode cX2_add 18 = .ok (.invokevirtual 35, 3) := by decide +kernel
theorem dX2_add_21 : decode cX2_add 21 = .ok (.pop, 1) := by decide +kernel
theorem dX2_add_22 : decode cX2_add 22 = .ok (.return_, 1) := by decide +kernel
theorem dX2_movesOf_0 : decode cX2_movesOf 0 = .ok (.iconst 0, 1) := by decide +kernel
theorem dX2_movesOf_1 : decode cX2_movesOf 1 = .ok (.istore_n 2, 1) := by decide +kernel
theorem dX2_movesOf_2 : decode cX2_movesOf 2 = .ok (.iconst 0, 1) := by decide +kernel
theorem dX2_movesOf_3 : decode cX2_movesOf 3 = .ok (.istore_n 3, 1) := by decide +kernel
theorem dX2_movesOf_4 : decode cX2_movesOf 4 = .ok (.iload_n 3, 1) := by decide +kernel
theorem dX2_movesOf_5 : decode cX2_movesOf 5 = .ok (.aload_n 0, 1) := by decide +kernel
theorem dX2_movesOf_6 : decode cX2_movesOf 6 = .ok (.getfield 12, 3) := by decide +kernel
theorem dX2_movesOf_9 : decode cX2_movesOf 9 = .ok (.invokevirtual 31, 3) := by decide +kernel
theorem dX2_movesOf_12 : decode cX2_movesOf 12 = .ok (.if_icmp .ge 30, 3) := by decide +kernel
theorem dX2_movesOf_15 : decode cX2_movesOf 15 = .ok (.aload_n 0, 1) := by decide +kernel
theorem dX2_movesOf_16 : decode cX2_movesOf 16 = .ok (.getfield 12, 3) := by decide +kernel
theorem dX2_movesOf_19 : decode cX2_movesOf 19 = .ok (.iload_n 3, 1) := by decide +kernel
theorem dX2_movesOf_20 : decode cX2_movesOf 20 = .ok (.invokevirtual 38, 3) := by decide +kernel
theorem dX2_movesOf_23 : decode cX2_movesOf 23 = .ok (.checkcast 22, 3) := by decide +kernel
theorem dX2_movesOf_26 : decode cX2_movesOf 26 = .ok (.iload_n 1, 1) := by decide +kernel
theorem dX2_movesOf_27 : decode cX2_movesOf 27 = .ok (.invokestatic 42, 3) := by decide +kernel
theorem dX2_movesOf_30 : decode cX2_movesOf 30 = .ok (.ifCond .eq 6, 3) := by decide +kernel
theorem dX2_movesOf_33 : decode cX2_movesOf 33 = .ok (.iinc 2 1, 3) := by decide +kernel
theorem dX2_movesOf_36 : decode cX2_movesOf 36 = .ok (.iinc 3 1, 3) := by decide +kernel
theorem dX2_movesOf_39 : decode cX2_movesOf 39 = .ok (.goto (-35), 3) := by decide +kernel
theorem dX2_movesOf_42 : decode cX2_movesOf 42 = .ok (.iload_n 2, 1) := by decide +kernel
theorem dX2_movesOf_43 : decode cX2_movesOf 43 = .ok (.ireturn, 1) := by decide +kernel
theorem dX2_moveOf_0 : decode cX2_moveOf 0 = .ok (.iconst 0, 1) := by decide +kernel
theorem dX2_moveOf_1 : decode cX2_moveOf 1 = .ok (.istore_n 3, 1) := by decide +kernel
theorem dX2_moveOf_2 : decode cX2_moveOf 2 = .ok (.iconst 0, 1) := by decide +kernel
theorem dX2_moveOf_3 : decode cX2_moveOf 3 = .ok (.istore 4, 2) := by decide +kernel
theorem dX2_moveOf_5 : decode cX2_moveOf 5 = .ok (.iload 4, 2) := by decide +kernel
theorem dX2_moveOf_7 : decode cX2_moveOf 7 = .ok (.aload_n 0, 1) := by decide +kernel
theorem dX2_moveOf_8 : decode cX2_moveOf 8 = .ok (.getfield 12, 3) := by decide +kernel
theorem dX2_moveOf_11 : decode cX2_moveOf 11 = .ok (.invokevirtual 31, 3) := by decide +kernel
theorem dX2_moveOf_14 : decode cX2_moveOf 14 = .ok (.if_icmp .ge 43, 3) := by decide +kernel
theorem dX2_moveOf_17 : decode cX2_moveOf 17 = .ok (.aload_n 0, 1) := by decide +kernel
theorem dX2_moveOf_18 : decode cX2_moveOf 18 = .ok (.getfield 12, 3) := by decide +kernel
theorem dX2_moveOf_21 : decode cX2_moveOf 21 = .ok (.iload 4, 2) := by decide +kernel
theorem dX2_moveOf_23 : decode cX2_moveOf 23 = .ok (.invokevirtual 38, 3) := by decide +kernel
theorem dX2_moveOf_26 : decode cX2_moveOf 26 = .ok (.checkcast 22, 3) := by decide +kernel
theorem dX2_moveOf_29 : decode cX2_moveOf 29 = .ok (.astore 5, 2) := by decide +kernel
theorem dX2_moveOf_31 : decode cX2_moveOf 31 = .ok (.aload 5, 2) := by decide +kernel
theorem dX2_moveOf_33 : decode cX2_moveOf 33 = .ok (.iload_n 1, 1) := by decide +kernel
theorem dX2_moveOf_34 : decode cX2_moveOf 34 = .ok (.invokestatic 42, 3) := by decide +kernel
theorem dX2_moveOf_37 : decode cX2_moveOf 37 = .ok (.ifCond .eq 14, 3) := by decide +kernel
theorem dX2_moveOf_40 : decode cX2_moveOf 40 = .ok (.iload_n 3, 1) := by decide +kernel
theorem dX2_moveOf_41 : decode cX2_moveOf 41 = .ok (.iload_n 2, 1) := by decide +kernel
theorem dX2_moveOf_42 : decode cX2_moveOf 42 = .ok (.if_icmp .ne 6, 3) := by decide +kernel
theorem dX2_moveOf_45 : decode cX2_moveOf 45 = .ok (.aload 5, 2) := by decide +kernel
theorem dX2_moveOf_47 : decode cX2_moveOf 47 = .ok (.areturn, 1) := by decide +kernel
theorem dX2_moveOf_48 : decode cX2_moveOf 48 = .ok (.iinc 3 1, 3) := by decide +kernel
theorem dX2_moveOf_51 : decode cX2_moveOf 51 = .ok (.iinc 4 1, 3) := by decide +kernel
theorem dX2_moveOf_54 : decode cX2_moveOf 54 = .ok (.goto (-49), 3) := by decide +kernel
theorem dX2_moveOf_57 : decode cX2_moveOf 57 = .ok (.aconst_null, 1) := by decide +kernel
theorem dX2_moveOf_58 : decode cX2_moveOf 58 = .ok (.areturn, 1) := by decide +kernel
theorem dX2_isMoveOf_0 : decode cX2_isMoveOf 0 = .ok (.aload_n 0, 1) := by decide +kernel
theorem dX2_isMoveOf_1 : decode cX2_isMoveOf 1 = .ok (.getfield 46, 3) := by decide +kernel
theorem dX2_isMoveOf_4 : decode cX2_isMoveOf 4 = .ok (.iload_n 1, 1) := by decide +kernel
theorem dX2_isMoveOf_5 : decode cX2_isMoveOf 5 = .ok (.if_icmp .ne 14, 3) := by decide +kernel
theorem dX2_isMoveOf_8 : decode cX2_isMoveOf 8 = .ok (.aload_n 0, 1) := by decide +kernel
theorem dX2_isMoveOf_9 : decode cX2_isMoveOf 9 = .ok (.getfield 50, 3) := by decide +kernel
theorem dX2_isMoveOf_12 : decode cX2_isMoveOf 12 = .ok (.ifCond .ne 7, 3) := by decide +kernel
theorem dX2_isMoveOf_15 : decode cX2_isMoveOf 15 = .ok (.iconst 1, 1) := by decide +kernel
theorem dX2_isMoveOf_16 : decode cX2_isMoveOf 16 = .ok (.goto 4, 3) := by decide +kernel
theorem dX2_isMoveOf_19 : decode cX2_isMoveOf 19 = .ok (.iconst 0, 1) := by decide +kernel
theorem dX2_isMoveOf_20 : decode cX2_isMoveOf 20 = .ok (.ireturn, 1) := by decide +kernel
theorem dX2_lifeOf_0 : decode cX2_lifeOf 0 = .ok (.iconst 0, 1) := by decide +kernel
theorem dX2_lifeOf_1 : decode cX2_lifeOf 1 = .ok (.istore_n 2, 1) := by decide +kernel
theorem dX2_lifeOf_2 : decode cX2_lifeOf 2 = .ok (.iload_n 2, 1) := by decide +kernel
theorem dX2_lifeOf_3 : decode cX2_lifeOf 3 = .ok (.aload_n 0, 1) := by decide +kernel
theorem dX2_lifeOf_4 : decode cX2_lifeOf 4 = .ok (.getfield 18, 3) := by decide +kernel
theorem dX2_lifeOf_7 : decode cX2_lifeOf 7 = .ok (.arraylength, 1) := by decide +kernel
theorem dX2_lifeOf_8 : decode cX2_lifeOf 8 = .ok (.if_icmp .ge 16, 3) := by decide +kernel
theorem dX2_lifeOf_11 : decode cX2_lifeOf 11 = .ok (.aload_n 0, 1) := by decide +kernel
theorem dX2_lifeOf_12 : decode cX2_lifeOf 12 = .ok (.getfield 18, 3) := by decide +kernel
theorem dX2_lifeOf_15 : decode cX2_lifeOf 15 = .ok (.iload_n 2, 1) := by decide +kernel
theorem dX2_lifeOf_16 : decode cX2_lifeOf 16 = .ok (.iconst (-1), 1) := by decide +kernel
theorem dX2_lifeOf_17 : decode cX2_lifeOf 17 = .ok (.iastore, 1) := by decide +kernel
theorem dX2_lifeOf_18 : decode cX2_lifeOf 18 = .ok (.iinc 2 1, 3) := by decide +kernel
theorem dX2_lifeOf_21 : decode cX2_lifeOf 21 = .ok (.goto (-19), 3) := by decide +kernel
theorem dX2_lifeOf_24 : decode cX2_lifeOf 24 = .ok (.iconst 0, 1) := by decide +kernel
theorem dX2_lifeOf_25 : decode cX2_lifeOf 25 = .ok (.istore_n 2, 1) := by decide +kernel
theorem dX2_lifeOf_26 : decode cX2_lifeOf 26 = .ok (.iconst 0, 1) := by decide +kernel
theorem dX2_lifeOf_27 : decode cX2_lifeOf 27 = .ok (.istore_n 3, 1) := by decide +kernel
theorem dX2_lifeOf_28 : decode cX2_lifeOf 28 = .ok (.iload_n 3, 1) := by decide +kernel
theorem dX2_lifeOf_29 : decode cX2_lifeOf 29 = .ok (.aload_n 0, 1) := by decide +kernel
theorem dX2_lifeOf_30 : decode cX2_lifeOf 30 = .ok (.getfield 12, 3) := by decide +kernel
theorem dX2_lifeOf_33 : decode cX2_lifeOf 33 = .ok (.invokevirtual 31, 3) := by decide +kernel
theorem dX2_lifeOf_36 : decode cX2_lifeOf 36 = .ok (.if_icmp .ge 85, 3) := by decide +kernel
theorem dX2_lifeOf_39 : decode cX2_lifeOf 39 = .ok (.aload_n 0, 1) := by decide +kernel
theorem dX2_lifeOf_40 : decode cX2_lifeOf 40 = .ok (.getfield 12, 3) := by decide +kernel
theorem dX2_lifeOf_43 : decode cX2_lifeOf 43 = .ok (.iload_n 3, 1) := by decide +kernel
theorem dX2_lifeOf_44 : decode cX2_lifeOf 44 = .ok (.invokevirtual 38, 3) := by decide +kernel
theorem dX2_lifeOf_47 : decode cX2_lifeOf 47 = .ok (.checkcast 22, 3) := by decide +kernel
theorem dX2_lifeOf_50 : decode cX2_lifeOf 50 = .ok (.astore 4, 2) := by decide +kernel
theorem dX2_lifeOf_52 : decode cX2_lifeOf 52 = .ok (.aload 4, 2) := by decide +kernel
theorem dX2_lifeOf_54 : decode cX2_lifeOf 54 = .ok (.getfield 50, 3) := by decide +kernel
theorem dX2_lifeOf_57 : decode cX2_lifeOf 57 = .ok (.ifCond .le 31, 3) := by decide +kernel
theorem dX2_lifeOf_60 : decode cX2_lifeOf 60 = .ok (.iload_n 2, 1) := by decide +kernel
theorem dX2_lifeOf_61 : decode cX2_lifeOf 61 = .ok (.aload_n 0, 1) := by decide +kernel
theorem dX2_lifeOf_62 : decode cX2_lifeOf 62 = .ok (.iload_n 1, 1) := by decide +kernel
theorem dX2_lifeOf_63 : decode cX2_lifeOf 63 = .ok (.invokevirtual 53, 3) := by decide +kernel
theorem dX2_lifeOf_66 : decode cX2_lifeOf 66 = .ok (.aload 4, 2) := by decide +kernel
theorem dX2_lifeOf_68 : decode cX2_lifeOf 68 = .ok (.getfield 46, 3) := by decide +kernel
theorem dX2_lifeOf_71 : decode cX2_lifeOf 71 = .ok (.if_icmp .ne 11, 3) := by decide +kernel
theorem dX2_lifeOf_74 : decode cX2_lifeOf 74 = .ok (.aload 4, 2) := by decide +kernel
theorem dX2_lifeOf_76 : decode cX2_lifeOf 76 = .ok (.getfield 50, 3) := by decide +kernel
theorem dX2_lifeOf_79 : decode cX2_lifeOf 79 = .ok (.goto 4, 3) := by decide +kernel
theorem dX2_lifeOf_82 : decode cX2_lifeOf 82 = .ok (.iconst 0, 1) := by decide +kernel
theorem dX2_lifeOf_83 : decode cX2_lifeOf 83 = .ok (.iadd, 1) := by decide +kernel
theorem dX2_lifeOf_84 : decode cX2_lifeOf 84 = .ok (.istore_n 2, 1) := by decide +kernel
theorem dX2_lifeOf_85 : decode cX2_lifeOf 85 = .ok (.goto 30, 3) := by decide +kernel
theorem dX2_lifeOf_88 : decode cX2_lifeOf 88 = .ok (.aload_n 0, 1) := by decide +kernel
theorem dX2_lifeOf_89 : decode cX2_lifeOf 89 = .ok (.aload 4, 2) := by decide +kernel
theorem dX2_lifeOf_91 : decode cX2_lifeOf 91 = .ok (.getfield 46, 3) := by decide +kernel
theorem dX2_lifeOf_94 : decode cX2_lifeOf 94 = .ok (.invokevirtual 57, 3) := by decide +kernel
theorem dX2_lifeOf_97 : decode cX2_lifeOf 97 = .ok (.ifCond .eq 18, 3) := by decide +kernel
theorem dX2_lifeOf_100 : decode cX2_lifeOf 100 = .ok (.aload_n 0, 1) := by decide +kernel
theorem dX2_lifeOf_101 : decode cX2_lifeOf 101 = .ok (.getfield 18, 3) := by decide +kernel
theorem dX2_lifeOf_104 : decode cX2_lifeOf 104 = .ok (.aload 4, 2) := by decide +kernel
theorem dX2_lifeOf_106 : decode cX2_lifeOf 106 = .ok (.getfield 46, 3) := by decide +kernel
theorem dX2_lifeOf_109 : decode cX2_lifeOf 109 = .ok (.aload 4, 2) := by decide +kernel
theorem dX2_lifeOf_111 : decode cX2_lifeOf 111 = .ok (.getfield 61, 3) := by decide +kernel
theorem dX2_lifeOf_114 : decode cX2_lifeOf 114 = .ok (.iastore, 1) := by decide +kernel
theorem dX2_lifeOf_115 : decode cX2_lifeOf 115 = .ok (.iinc 3 1, 3) := by decide +kernel
theorem dX2_lifeOf_118 : decode cX2_lifeOf 118 = .ok (.goto (-90), 3) := by decide +kernel
theorem dX2_lifeOf_121 : decode cX2_lifeOf 121 = .ok (.iload_n 2, 1) := by decide +kernel
theorem dX2_lifeOf_122 : decode cX2_lifeOf 122 = .ok (.ireturn, 1) := by decide +kernel
theorem dX2_topThen_0 : decode cX2_topThen 0 = .ok (.iload_n 1, 1) := by decide +kernel
theorem dX2_topThen_1 : decode cX2_topThen 1 = .ok (.istore_n 2, 1) := by decide +kernel
theorem dX2_topThen_2 : decode cX2_topThen 2 = .ok (.iconst 0, 1) := by decide +kernel
theorem dX2_topThen_3 : decode cX2_topThen 3 = .ok (.istore_n 3, 1) := by decide +kernel
theorem dX2_topThen_4 : decode cX2_topThen 4 = .ok (.iload_n 3, 1) := by decide +kernel
theorem dX2_topThen_5 : decode cX2_topThen 5 = .ok (.iconst 4, 1) := by decide +kernel
theorem dX2_topThen_6 : decode cX2_topThen 6 = .ok (.if_icmp .gt 33, 3) := by decide +kernel
theorem dX2_topThen_9 : decode cX2_topThen 9 = .ok (.aload_n 0, 1) := by decide +kernel
theorem dX2_topThen_10 : decode cX2_topThen 10 = .ok (.iload_n 2, 1) := by decide +kernel
theorem dX2_topThen_11 : decode cX2_topThen 11 = .ok (.invokevirtual 57, 3) := by decide +kernel
theorem dX2_topThen_14 : decode cX2_topThen 14 = .ok (.ifCond .eq 25, 3) := by decide +kernel
theorem dX2_topThen_17 : decode cX2_topThen 17 = .ok (.aload_n 0, 1) := by decide +kernel
theorem dX2_topThen_18 : decode cX2_topThen 18 = .ok (.getfield 18, 3) := by decide +kernel
theorem dX2_topThen_21 : decode cX2_topThen 21 = .ok (.iload_n 2, 1) := by decide +kernel
theorem dX2_topThen_22 : decode cX2_topThen 22 = .ok (.iaload, 1) := by decide +kernel
theorem dX2_topThen_23 : decode cX2_topThen 23 = .ok (.ifCond .lt 16, 3) := by decide +kernel
theorem dX2_topThen_26 : decode cX2_topThen 26 = .ok (.aload_n 0, 1) := by decide +kernel
theorem dX2_topThen_27 : decode cX2_topThen 27 = .ok (.getfield 18, 3) := by decide +kernel
theorem dX2_topThen_30 : decode cX2_topThen 30 = .ok (.iload_n 2, 1) := by decide +kernel
theorem dX2_topThen_31 : decode cX2_topThen 31 = .ok (.iaload, 1) := by decide +kernel
theorem dX2_topThen_32 : decode cX2_topThen 32 = .ok (.istore_n 2, 1) := by decide +kernel
theorem dX2_topThen_33 : decode cX2_topThen 33 = .ok (.iinc 3 1, 3) := by decide +kernel
theorem dX2_topThen_36 : decode cX2_topThen 36 = .ok (.goto (-32), 3) := by decide +kernel
theorem dX2_topThen_39 : decode cX2_topThen 39 = .ok (.iload_n 2, 1) := by decide +kernel
theorem dX2_topThen_40 : decode cX2_topThen 40 = .ok (.ireturn, 1) := by decide +kernel
theorem dX2_isPart_0 : decode cX2_isPart 0 = .ok (.iload_n 1, 1) := by decide +kernel
theorem dX2_isPart_1 : decode cX2_isPart 1 = .ok (.ifCond .lt 16, 3) := by decide +kernel
theorem dX2_isPart_4 : decode cX2_isPart 4 = .ok (.iload_n 1, 1) := by decide +kernel
theorem dX2_isPart_5 : decode cX2_isPart 5 = .ok (.aload_n 0, 1) := by decide +kernel
theorem dX2_isPart_6 : decode cX2_isPart 6 = .ok (.getfield 18, 3) := by decide +kernel
theorem dX2_isPart_9 : decode cX2_isPart 9 = .ok (.arraylength, 1) := by decide +kernel
theorem dX2_isPart_10 : decode cX2_isPart 10 = .ok (.if_icmp .ge 7, 3) := by decide +kernel
theorem dX2_isPart_13 : decode cX2_isPart 13 = .ok (.iconst 1, 1) := by decide +kernel
theorem dX2_isPart_14 : decode cX2_isPart 14 = .ok (.goto 4, 3) := by decide +kernel
theorem dX2_isPart_17 : decode cX2_isPart 17 = .ok (.iconst 0, 1) := by decide +kernel
theorem dX2_isPart_18 : decode cX2_isPart 18 = .ok (.ireturn, 1) := by decide +kernel
theorem dX3_init_0 : decode cX3_init 0 = .ok (.aload_n 0, 1) := by decide +kernel
theorem dX3_init_1 : decode cX3_init 1 = .ok (.invokespecial 3, 3) := by decide +kernel
theorem dX3_init_4 : decode cX3_init 4 = .ok (.aload_n 0, 1) := by decide +kernel
theorem dX3_init_5 : decode cX3_init 5 = .ok (.iconst (-1), 1) := by decide +kernel
theorem dX3_init_6 : decode cX3_init 6 = .ok (.putfield 9, 3) := by decide +kernel
theorem dX3_init_9 : decode cX3_init 9 = .ok (.aload_n 0, 1) := by decide +kernel
theorem dX3_init_10 : decode cX3_init 10 = .ok (.iload_n 1, 1) := by decide +kernel
theorem dX3_init_11 : decode cX3_init 11 = .ok (.putfield 15, 3) := by decide +kernel
theorem dX3_init_14 : decode cX3_init 14 = .ok (.aload_n 0, 1) := by decide +kernel
theorem dX3_init_15 : decode cX3_init 15 = .ok (.iload_n 2, 1) := by decide +kernel
theorem dX3_init_16 : decode cX3_init 16 = .ok (.putfield 18, 3) := by decide +kernel
theorem dX3_init_19 : decode cX3_init 19 = .ok (.aload_n 0, 1) := by decide +kernel
theorem dX3_init_20 : decode cX3_init 20 = .ok (.iload_n 3, 1) := by decide +kernel
theorem dX3_init_21 : decode cX3_init 21 = .ok (.putfield 21, 3) := by decide +kernel
theorem dX3_init_24 : decode cX3_init 24 = .ok (.aload_n 0, 1) := by decide +kernel
theorem dX3_init_25 : decode cX3_init 25 = .ok (.iload 4, 2) := by decide +kernel
theorem dX3_init_27 : decode cX3_init 27 = .ok (.putfield 24, 3) := by decide +kernel
theorem dX3_init_30 : decode cX3_init 30 = .ok (.aload_n 0, 1) := by decide +kernel
theorem dX3_init_31 : decode cX3_init 31 = .ok (.aload 5, 2) := by decide +kernel
theorem dX3_init_33 : decode cX3_init 33 = .ok (.putfield 27, 3) := by decide +kernel
theorem dX3_init_36 : decode cX3_init 36 = .ok (.aload_n 0, 1) := by decide +kernel
theorem dX3_init_37 : decode cX3_init 37 = .ok (.iload_n 2, 1) := by decide +kernel
theorem dX3_init_38 : decode cX3_init 38 = .ok (.iconst 3, 1) := by decide +kernel
theorem dX3_init_39 : decode cX3_init 39 = .ok (.if_icmp .ne 13, 3) := by decide +kernel
theorem dX3_init_42 : decode cX3_init 42 = .ok (.new 31, 3) := by decide +kernel
theorem dX3_init_45 : decode cX3_init 45 = .ok (.dup, 1) := by decide +kernel
theorem dX3_init_46 : decode cX3_init 46 = .ok (.invokespecial 33, 3) := by decide +kernel
theorem dX3_init_49 : decode cX3_init 49 = .ok (.goto 4, 3) := by decide +kernel
theorem dX3_init_52 : decode cX3_init 52 = .ok (.aconst_null, 1) := by decide +kernel
theorem dX3_init_53 : decode cX3_init 53 = .ok (.putfield 34, 3) := by decide +kernel
theorem dX3_init_56 : decode cX3_init 56 = .ok (.return_, 1) := by decide +kernel
theorem dX3_whereabouts_0 : decode cX3_whereabouts 0 = .ok (.aload_n 0, 1) := by decide +kernel
theorem dX3_whereabouts_1 : decode cX3_whereabouts 1 = .ok (.getfield 38, 3) := by decide +kernel
theorem dX3_whereabouts_4 : decode cX3_whereabouts 4 = .ok (.ifnull 11, 3) := by decide +kernel
theorem dX3_whereabouts_7 : decode cX3_whereabouts 7 = .ok (.aload_n 0, 1) := by decide +kernel
theorem dX3_whereabouts_8 : decode cX3_whereabouts 8 = .ok (.getfield 38, 3) := by decide +kernel
theorem dX3_whereabouts_11 : decode cX3_whereabouts 11 = .ok (.getfield 15, 3) := by decide +kernel
theorem dX3_whereabouts_14 : decode cX3_whereabouts 14 = .ok (.ireturn, 1) := by decide +kernel
theorem dX3_whereabouts_15 : decode cX3_whereabouts 15 = .ok (.aload_n 0, 1) := by decide +kernel
theorem dX3_whereabouts_16 : decode cX3_whereabouts 16 = .ok (.getfield 42, 3) := by decide +kernel
theorem dX3_whereabouts_19 : decode cX3_whereabouts 19 = .ok (.ifCond .eq 8, 3) := by decide +kernel
theorem dX3_whereabouts_22 : decode cX3_whereabouts 22 = .ok (.bipush (-2), 2) := by decide +kernel
theorem dX3_whereabouts_24 : decode cX3_whereabouts 24 = .ok (.goto 4, 3) := by decide +kernel
theorem dX3_whereabouts_27 : decode cX3_whereabouts 27 = .ok (.iconst (-1), 1) := by decide +kernel
theorem dX3_whereabouts_28 : decode cX3_whereabouts 28 = .ok (.ireturn, 1) := by decide +kernel
theorem dX3_isInStore_0 : decode cX3_isInStore 0 = .ok (.aload_n 0, 1) := by decide +kernel
theorem dX3_isInStore_1 : decode cX3_isInStore 1 = .ok (.getfield 38, 3) := by decide +kernel
theorem dX3_isInStore_4 : decode cX3_isInStore 4 = .ok (.ifnonnull 14, 3) := by decide +kernel
theorem dX3_isInStore_7 : decode cX3_isInStore 7 = .ok (.aload_n 0, 1) := by decide +kernel
theorem dX3_isInStore_8 : decode cX3_isInStore 8 = .ok (.getfield 42, 3) := by decide +kernel
theorem dX3_isInStore_11 : decode cX3_isInStore 11 = .ok (.ifCond .ne 7, 3) := by decide +kernel
theorem dX3_isInStore_14 : decode cX3_isInStore 14 = .ok (.iconst 1, 1) := by decide +kernel
theorem dX3_isInStore_15 : decode cX3_isInStore 15 = .ok (.goto 4, 3) := by decide +kernel
theorem dX3_isInStore_18 : decode cX3_isInStore 18 = .ok (.iconst 0, 1) := by decide +kernel
theorem dX3_isInStore_19 : decode cX3_isInStore 19 = .ok (.ireturn, 1) := by decide +kernel
theorem dX3_top_0 : decode cX3_top 0 = .ok (.aload_n 0, 1) := by decide +kernel
theorem dX3_top_1 : decode cX3_top 1 = .ok (.astore_n 1, 1) := by decide +kernel
theorem dX3_top_2 : decode cX3_top 2 = .ok (.iconst 0, 1) := by decide +kernel
theorem dX3_top_3 : decode cX3_top 3 = .ok (.istore_n 2, 1) := by decide +kernel
theorem dX3_top_4 : decode cX3_top 4 = .ok (.iload_n 2, 1) := by decide +kernel
theorem dX3_top_5 : decode cX3_top 5 = .ok (.iconst 4, 1) := by decide +kernel
theorem dX3_top_6 : decode cX3_top 6 = .ok (.if_icmp .gt 21, 3) := by decide +kernel
theorem dX3_top_9 : decode cX3_top 9 = .ok (.aload_n 1, 1) := by decide +kernel
theorem dX3_top_10 : decode cX3_top 10 = .ok (.getfield 38, 3) := by decide +kernel
theorem dX3_top_13 : decode cX3_top 13 = .ok (.ifnull 14, 3) := by decide +kernel
theorem dX3_top_16 : decode cX3_top 16 = .ok (.aload_n 1, 1) := by decide +kernel
theorem dX3_top_17 : decode cX3_top 17 = .ok (.getfield 38, 3) := by decide +kernel
theorem dX3_top_20 : decode cX3_top 20 = .ok (.astore_n 1, 1) := by decide +kernel
theorem dX3_top_21 : decode cX3_top 21 = .ok (.iinc 2 1, 3) := by decide +kernel
theorem dX3_top_24 : decode cX3_top 24 = .ok (.goto (-20), 3) := by decide +kernel
theorem dX3_top_27 : decode cX3_top 27 = .ok (.aload_n 1, 1) := by decide +kernel
theorem dX3_top_28 : decode cX3_top 28 = .ok (.areturn, 1) := by decide +kernel
theorem dX3_isWithin_0 : decode cX3_isWithin 0 = .ok (.aload_n 0, 1) := by decide +kernel
theorem dX3_isWithin_1 : decode cX3_isWithin 1 = .ok (.getfield 38, 3) := by decide +kernel
theorem dX3_isWithin_4 : decode cX3_isWithin 4 = .ok (.astore_n 2, 1) := by decide +kernel
theorem dX3_isWithin_5 : decode cX3_isWithin 5 = .ok (.iconst 0, 1) := by decide +kernel
theorem dX3_isWithin_6 : decode cX3_isWithin 6 = .ok (.istore_n 3, 1) := by decide +kernel
theorem dX3_isWithin_7 : decode cX3_isWithin 7 = .ok (.iload_n 3, 1) := by decide +kernel
theorem dX3_isWithin_8 : decode cX3_isWithin 8 = .ok (.iconst 4, 1) := by decide +kernel
theorem dX3_isWithin_9 : decode cX3_isWithin 9 = .ok (.if_icmp .gt 25, 3) := by decide +kernel
theorem dX3_isWithin_12 : decode cX3_isWithin 12 = .ok (.aload_n 2, 1) := by decide +kernel
theorem dX3_isWithin_13 : decode cX3_isWithin 13 = .ok (.ifnull 21, 3) := by decide +kernel
theorem dX3_isWithin_16 : decode cX3_isWithin 16 = .ok (.aload_n 2, 1) := by decide +kernel
theorem dX3_isWithin_17 : decode cX3_isWithin 17 = .ok (.aload_n 1, 1) := by decide +kernel
theorem dX3_isWithin_18 : decode cX3_isWithin 18 = .ok (.if_acmp .ne 5, 3) := by decide +kernel
theorem dX3_isWithin_21 : decode cX3_isWithin 21 = .ok (.iconst 1, 1) := by decide +kernel
theorem dX3_isWithin_22 : decode cX3_isWithin 22 = .ok (.ireturn, 1) := by decide +kernel
theorem dX3_isWithin_23 : decode cX3_isWithin 23 = .ok (.aload_n 2, 1) := by decide +kernel
theorem dX3_isWithin_24 : decode cX3_isWithin 24 = .ok (.getfield 38, 3) := by decide +kernel
theorem dX3_isWithin_27 : decode cX3_isWithin 27 = .ok (.astore_n 2, 1) := by decide +kernel
theorem dX3_isWithin_28 : decode cX3_isWithin 28 = .ok (.iinc 3 1, 3) := by decide +kernel
theorem dX3_isWithin_31 : decode cX3_isWithin 31 = .ok (.goto (-24), 3) := by decide +kernel
theorem dX3_isWithin_34 : decode cX3_isWithin 34 = .ok (.iconst 0, 1) := by decide +kernel
theorem dX3_isWithin_35 : decode cX3_isWithin 35 = .ok (.ireturn, 1) := by decide +kernel
theorem dX3_isBound_0 : decode cX3_isBound 0 = .ok (.aload_n 0, 1) := by decide +kernel
theorem dX3_isBound_1 : decode cX3_isBound 1 = .ok (.invokevirtual 46, 3) := by decide +kernel
theorem dX3_isBound_4 : decode cX3_isBound 4 = .ok (.getfield 9, 3) := by decide +kernel
theorem dX3_isBound_7 : decode cX3_isBound 7 = .ok (.iconst (-1), 1) := by decide +kernel
theorem dX3_isBound_8 : decode cX3_isBound 8 = .ok (.if_icmp .eq 7, 3) := by decide +kernel
theorem dX3_isBound_11 : decode cX3_isBound 11 = .ok (.iconst 1, 1) := by decide +kernel
theorem dX3_isBound_12 : decode cX3_isBound 12 = .ok (.goto 4, 3) := by decide +kernel
theorem dX3_isBound_15 : decode cX3_isBound 15 = .ok (.iconst 0, 1) := by decide +kernel
theorem dX3_isBound_16 : decode cX3_isBound 16 = .ok (.ireturn, 1) := by decide +kernel
theorem dX3_mayBeExamined_0 : decode cX3_mayBeExamined 0 = .ok (.aload_n 0, 1) := by decide +kernel
theorem dX3_mayBeExamined_1 : decode cX3_mayBeExamined 1 = .ok (.getfield 27, 3) := by decide +kernel
theorem dX3_mayBeExamined_4 : decode cX3_mayBeExamined 4 = .ok (.getfield 50, 3) := by decide +kernel
theorem dX3_mayBeExamined_7 : decode cX3_mayBeExamined 7 = .ok (.ifCond .le 29, 3) := by decide +kernel
theorem dX3_mayBeExamined_10 : decode cX3_mayBeExamined 10 = .ok (.aload_n 0, 1) := by decide +kernel
theorem dX3_mayBeExamined_11 : decode cX3_mayBeExamined 11 = .ok (.getfield 55, 3) := by decide +kernel
theorem dX3_mayBeExamined_14 : decode cX3_mayBeExamined 14 = .ok (.aload_n 0, 1) := by decide +kernel
theorem dX3_mayBeExamined_15 : decode cX3_mayBeExamined 15 = .ok (.getfield 27, 3) := by decide +kernel
theorem dX3_mayBeExamined_18 : decode cX3_mayBeExamined 18 = .ok (.getfield 50, 3) := by decide +kernel
theorem dX3_mayBeExamined_21 : decode cX3_mayBeExamined 21 = .ok (.aload_n 0, 1) := by decide +kernel
theorem dX3_mayBeExamined_22 : decode cX3_mayBeExamined 22 = .ok (.getfield 27, 3) := by decide +kernel
theorem dX3_mayBeExamined_25 : decode cX3_mayBeExamined 25 = .ok (.getfield 58, 3) := by decide +kernel
theorem dX3_mayBeExamined_28 : decode cX3_mayBeExamined 28 = .ok (.isub, 1) := by decide +kernel
theorem dX3_mayBeExamined_29 : decode cX3_mayBeExamined 29 = .ok (.if_icmp .lt 7, 3) := by decide +kernel
theorem dX3_mayBeExamined_32 : decode cX3_mayBeExamined 32 = .ok (.iconst 1, 1) := by decide +kernel
theorem dX3_mayBeExamined_33 : decode cX3_mayBeExamined 33 = .ok (.goto 4, 3) := by decide +kernel
theorem dX3_mayBeExamined_36 : decode cX3_mayBeExamined 36 = .ok (.iconst 0, 1) := by decide +kernel
theorem dX3_mayBeExamined_37 : decode cX3_mayBeExamined 37 = .ok (.ireturn, 1) := by decide +kernel
theorem dX3_isExaminationDue_0 : decode cX3_isExaminationDue 0 = .ok (.aload_n 0, 1) := by decide +kernel
theorem dX3_isExaminationDue_1 : decode cX3_isExaminationDue 1 = .ok (.getfield 27, 3) := by decide +kernel
theorem dX3_isExaminationDue_4 : decode cX3_isExaminationDue 4 = .ok (.getfield 50, 3) := by decide +kernel
theorem dX3_isExaminationDue_7 : decode cX3_isExaminationDue 7 = .ok (.ifCond .le 26, 3) := by decide +kernel
theorem dX3_isExaminationDue_10 : decode cX3_isExaminationDue 10 = .ok (.aload_n 0, 1) := by decide +kernel
theorem dX3_isExaminationDue_11 : decode cX3_isExaminationDue 11 = .ok (.getfield 55, 3) := by decide +kernel
theorem dX3_isExaminationDue_14 : decode cX3_isExaminationDue 14 = .ok (.aload_n 0, 1) := by decide +kernel
theorem dX3_isExaminationDue_15 : decode cX3_isExaminationDue 15 = .ok (.getfield 27, 3) := by decide +kernel
theorem dX3_isExaminationDue_18 : decode cX3_isExaminationDue 18 = .ok (.getfield 50, 3) := by decide +kernel
theorem dX3_isExaminationDue_21 : decode cX3_isExaminationDue 21 = .ok (.aload_n 0, 1) := by decide +kernel
theorem dX3_isExaminationDue_22 : decode cX3_isExaminationDue 22 = .ok (.getfield 61, 3) := by decide +kernel
theorem dX3_isExaminationDue_25 : decode cX3_isExaminationDue 25 = .ok (.iadd, 1) := by decide +kernel
theorem dX3_isExaminationDue_26 : decode cX3_isExaminationDue 26 = .ok (.if_icmp .le 7, 3) := by decide +kernel
theorem dX3_isExaminationDue_29 : decode cX3_isExaminationDue 29 = .ok (.iconst 1, 1) := by decide +kernel
theorem dX3_isExaminationDue_30 : decode cX3_isExaminationDue 30 = .ok (.goto 4, 3) := by decide +kernel
theorem dX3_isExaminationDue_33 : decode cX3_isExaminationDue 33 = .ok (.iconst 0, 1) := by decide +kernel
theorem dX3_isExaminationDue_34 : decode cX3_isExaminationDue 34 = .ok (.ireturn, 1) := by decide +kernel
theorem dX3_runs_0 : decode cX3_runs 0 = .ok (.aload_n 0, 1) := by decide +kernel
theorem dX3_runs_1 : decode cX3_runs 1 = .ok (.getfield 64, 3) := by decide +kernel
theorem dX3_runs_4 : decode cX3_runs 4 = .ok (.istore_n 3, 1) := by decide +kernel
theorem dX3_runs_5 : decode cX3_runs 5 = .ok (.aload_n 0, 1) := by decide +kernel
theorem dX3_runs_6 : decode cX3_runs 6 = .ok (.dup, 1) := by decide +kernel
theorem dX3_runs_7 : decode cX3_runs 7 = .ok (.getfield 64, 3) := by decide +kernel
theorem dX3_runs_10 : decode cX3_runs 10 = .ok (.iload_n 1, 1) := by decide +kernel
theorem dX3_runs_11 : decode cX3_runs 11 = .ok (.iadd, 1) := by decide +kernel
theorem dX3_runs_12 : decode cX3_runs 12 = .ok (.putfield 64, 3) := by decide +kernel
theorem dX3_runs_15 : decode cX3_runs 15 = .ok (.aload_n 0, 1) := by decide +kernel
theorem dX3_runs_16 : decode cX3_runs 16 = .ok (.dup, 1) := by decide +kernel
theorem dX3_runs_17 : decode cX3_runs 17 = .ok (.getfield 55, 3) := by decide +kernel
theorem dX3_runs_20 : decode cX3_runs 20 = .ok (.iload_n 1, 1) := by decide +kernel
theorem dX3_runs_21 : decode cX3_runs 21 = .ok (.iadd, 1) := by decide +kernel
theorem dX3_runs_22 : decode cX3_runs 22 = .ok (.putfield 55, 3) := by decide +kernel
theorem dX3_runs_25 : decode cX3_runs 25 = .ok (.aload_n 0, 1) := by decide +kernel
theorem dX3_runs_26 : decode cX3_runs 26 = .ok (.getfield 34, 3) := by decide +kernel
theorem dX3_runs_29 : decode cX3_runs 29 = .ok (.ifnull 23, 3) := by decide +kernel
theorem dX3_runs_32 : decode cX3_runs 32 = .ok (.aload_n 0, 1) := by decide +kernel
theorem dX3_runs_33 : decode cX3_runs 33 = .ok (.getfield 34, 3) := by decide +kernel
theorem dX3_runs_36 : decode cX3_runs 36 = .ok (.aload_n 0, 1) := by decide +kernel
theorem dX3_runs_37 : decode cX3_runs 37 = .ok (.getfield 64, 3) := by decide +kernel
theorem dX3_runs_40 : decode cX3_runs 40 = .ok (.bipush 100, 2) := by decide +kernel
theorem dX3_runs_42 : decode cX3_runs 42 = .ok (.idiv, 1) := by decide +kernel
theorem dX3_runs_43 : decode cX3_runs 43 = .ok (.iload_n 3, 1) := by decide +kernel
theorem dX3_runs_44 : decode cX3_runs 44 = .ok (.bipush 100, 2) := by decide +kernel
theorem dX3_runs_46 : decode cX3_runs 46 = .ok (.idiv, 1) := by decide +kernel
theorem dX3_runs_47 : decode cX3_runs 47 = .ok (.isub, 1) := by decide +kernel
theorem dX3_runs_48 : decode cX3_runs 48 = .ok (.iload_n 2, 1) := by decide +kernel
theorem dX3_runs_49 : decode cX3_runs 49 = .ok (.invokevirtual 67, 3) := by decide +kernel
theorem dX3_runs_52 : decode cX3_runs 52 = .ok (.aload_n 0, 1) := by decide +kernel
theorem dX3_runs_53 : decode cX3_runs 53 = .ok (.getfield 71, 3) := by decide +kernel
theorem dX3_runs_56 : decode cX3_runs 56 = .ok (.ifCond .le 31, 3) := by decide +kernel
theorem dX3_runs_59 : decode cX3_runs 59 = .ok (.aload_n 0, 1) := by decide +kernel
theorem dX3_runs_60 : decode cX3_runs 60 = .ok (.aload_n 0, 1) := by decide +kernel
theorem dX3_runs_61 : decode cX3_runs 61 = .ok (.getfield 64, 3) := by decide +kernel
theorem dX3_runs_64 : decode cX3_runs 64 = .ok (.aload_n 0, 1) := by decide +kernel
theorem dX3_runs_65 : decode cX3_runs 65 = .ok (.getfield 74, 3) := by decide +kernel
theorem dX3_runs_68 : decode cX3_runs 68 = .ok (.isub, 1) := by decide +kernel
theorem dX3_runs_69 : decode cX3_runs 69 = .ok (.sipush 500, 3) := by decide +kernel
theorem dX3_runs_72 : decode cX3_runs 72 = .ok (.idiv, 1) := by decide +kernel
theorem dX3_runs_73 : decode cX3_runs 73 = .ok (.iload_n 3, 1) := by decide +kernel
theorem dX3_runs_74 : decode cX3_runs 74 = .ok (.aload_n 0, 1) := by decide +kernel
theorem dX3_runs_75 : decode cX3_runs 75 = .ok (.getfield 74, 3) := by decide +kernel
theorem dX3_runs_78 : decode cX3_runs 78 = .ok (.isub, 1) := by decide +kernel
theorem dX3_runs_79 : decode cX3_runs 79 = .ok (.sipush 500, 3) := by decide +kernel
theorem dX3_runs_82 : decode cX3_runs 82 = .ok (.idiv, 1) := by decide +kernel
theorem dX3_runs_83 : decode cX3_runs 83 = .ok (.isub, 1) := by decide +kernel
theorem dX3_runs_84 : decode cX3_runs 84 = .ok (.invokevirtual 77, 3) := by decide +kernel
theorem dX3_runs_87 : decode cX3_runs 87 = .ok (.return_, 1) := by decide +kernel
theorem dX3_growFlaw_0 : decode cX3_growFlaw 0 = .ok (.iconst 0, 1) := by decide +kernel
theorem dX3_growFlaw_1 : decode cX3_growFlaw 1 = .ok (.istore_n 2, 1) := by decide +kernel
theorem dX3_growFlaw_2 : decode cX3_growFlaw 2 = .ok (.iload_n 2, 1) := by decide +kernel
theorem dX3_growFlaw_3 : decode cX3_growFlaw 3 = .ok (.iload_n 1, 1) := by decide +kernel
theorem dX3_growFlaw_4 : decode cX3_growFlaw 4 = .ok (.if_icmp .ge 27, 3) := by decide +kernel
theorem dX3_growFlaw_7 : decode cX3_growFlaw 7 = .ok (.aload_n 0, 1) := by decide +kernel
theorem dX3_growFlaw_8 : decode cX3_growFlaw 8 = .ok (.dup, 1) := by decide +kernel
theorem dX3_growFlaw_9 : decode cX3_growFlaw 9 = .ok (.getfield 71, 3) := by decide +kernel
theorem dX3_growFlaw_12 : decode cX3_growFlaw 12 = .ok (.iconst 1, 1) := by decide +kernel
theorem dX3_growFlaw_13 : decode cX3_growFlaw 13 = .ok (.aload_n 0, 1) := by decide +kernel
theorem dX3_growFlaw_14 : decode cX3_growFlaw 14 = .ok (.getfield 71, 3) := by decide +kernel
theorem dX3_growFlaw_17 : decode cX3_growFlaw 17 = .ok (.bipush 10, 2) := by decide +kernel
theorem dX3_growFlaw_19 : decode cX3_growFlaw 19 = .ok (.idiv, 1) := by decide +kernel
theorem dX3_growFlaw_20 : decode cX3_growFlaw 20 = .ok (.iadd, 1) := by decide +kernel
theorem dX3_growFlaw_21 : decode cX3_growFlaw 21 = .ok (.iadd, 1) := by decide +kernel
theorem dX3_growFlaw_22 : decode cX3_growFlaw 22 = .ok (.putfield 71, 3) := by decide +kernel
theorem dX3_growFlaw_25 : decode cX3_growFlaw 25 = .ok (.iinc 2 1, 3) := by decide +kernel
theorem dX3_growFlaw_28 : decode cX3_growFlaw 28 = .ok (.goto (-26), 3) := by decide +kernel
theorem dX3_growFlaw_31 : decode cX3_growFlaw 31 = .ok (.return_, 1) := by decide +kernel
theorem dX4_init_0 : decode cX4_init 0 = .ok (.aload_n 0, 1) := by decide +kernel
theorem dX4_init_1 : decode cX4_init 1 = .ok (.invokespecial 3, 3) := by decide +kernel
theorem dX4_init_4 : decode cX4_init 4 = .ok (.aload_n 0, 1) := by decide +kernel
theorem dX4_init_5 : decode cX4_init 5 = .ok (.sipush 9000, 3) := by decide +kernel
theorem dX4_init_8 : decode cX4_init 8 = .ok (.putfield 9, 3) := by decide +kernel
theorem dX4_init_11 : decode cX4_init 11 = .ok (.aload_n 0, 1) := by decide +kernel
theorem dX4_init_12 : decode cX4_init 12 = .ok (.sipush 300, 3) := by decide +kernel
theorem dX4_init_15 : decode cX4_init 15 = .ok (.putfield 15, 3) := by decide +kernel
theorem dX4_init_18 : decode cX4_init 18 = .ok (.aload_n 0, 1) := by decide +kernel
theorem dX4_init_19 : decode cX4_init 19 = .ok (.iconst (-1), 1) := by decide +kernel
theorem dX4_init_20 : decode cX4_init 20 = .ok (.putfield 18, 3) := by decide +kernel
theorem dX4_init_23 : decode cX4_init 23 = .ok (.return_, 1) := by decide +kernel
theorem dX4_wear_0 : decode cX4_wear 0 = .ok (.aload_n 0, 1) := by decide +kernel
theorem dX4_wear_1 : decode cX4_wear 1 = .ok (.dup, 1) := by decide +kernel
theorem dX4_wear_2 : decode cX4_wear 2 = .ok (.getfield 9, 3) := by decide +kernel
theorem dX4_wear_5 : decode cX4_wear 5 = .ok (.iload_n 1, 1) := by decide +kernel
theorem dX4_wear_6 : decode cX4_wear 6 = .ok (.isub, 1) := by decide +kernel
theorem dX4_wear_7 : decode cX4_wear 7 = .ok (.putfield 9, 3) := by decide +kernel
theorem dX4_wear_10 : decode cX4_wear 10 = .ok (.aload_n 0, 1) := by decide +kernel
theorem dX4_wear_11 : decode cX4_wear 11 = .ok (.dup, 1) := by decide +kernel
theorem dX4_wear_12 : decode cX4_wear 12 = .ok (.getfield 15, 3) := by decide +kernel
theorem dX4_wear_15 : decode cX4_wear 15 = .ok (.aload_n 0, 1) := by decide +kernel
theorem dX4_wear_16 : decode cX4_wear 16 = .ok (.getfield 21, 3) := by decide +kernel
theorem dX4_wear_19 : decode cX4_wear 19 = .ok (.sipush 200, 3) := by decide +kernel
theorem dX4_wear_22 : decode cX4_wear 22 = .ok (.idiv, 1) := by decide +kernel
theorem dX4_wear_23 : decode cX4_wear 23 = .ok (.iadd, 1) := by decide +kernel
theorem dX4_wear_24 : decode cX4_wear 24 = .ok (.putfield 15, 3) := by decide +kernel
theorem dX4_wear_27 : decode cX4_wear 27 = .ok (.aload_n 0, 1) := by decide +kernel
theorem dX4_wear_28 : decode cX4_wear 28 = .ok (.dup, 1) := by decide +kernel
theorem dX4_wear_29 : decode cX4_wear 29 = .ok (.getfield 21, 3) := by decide +kernel
theorem dX4_wear_32 : decode cX4_wear 32 = .ok (.iload_n 2, 1) := by decide +kernel
theorem dX4_wear_33 : decode cX4_wear 33 = .ok (.iadd, 1) := by decide +kernel
theorem dX4_wear_34 : decode cX4_wear 34 = .ok (.putfield 21, 3) := by decide +kernel
theorem dX4_wear_37 : decode cX4_wear 37 = .ok (.aload_n 0, 1) := by decide +kernel
theorem dX4_wear_38 : decode cX4_wear 38 = .ok (.dup, 1) := by decide +kernel
theorem dX4_wear_39 : decode cX4_wear 39 = .ok (.getfield 15, 3) := by decide +kernel
theorem dX4_wear_42 : decode cX4_wear 42 = .ok (.aload_n 0, 1) := by decide +kernel
theorem dX4_wear_43 : decode cX4_wear 43 = .ok (.getfield 21, 3) := by decide +kernel
theorem dX4_wear_46 : decode cX4_wear 46 = .ok (.sipush 200, 3) := by decide +kernel
theorem dX4_wear_49 : decode cX4_wear 49 = .ok (.idiv, 1) := by decide +kernel
theorem dX4_wear_50 : decode cX4_wear 50 = .ok (.isub, 1) := by decide +kernel
theorem dX4_wear_51 : decode cX4_wear 51 = .ok (.putfield 15, 3) := by decide +kernel
theorem dX4_wear_54 : decode cX4_wear 54 = .ok (.return_, 1) := by decide +kernel
theorem dX4_renewFlange_0 : decode cX4_renewFlange 0 = .ok (.aload_n 0, 1) := by decide +kernel
theorem dX4_renewFlange_1 : decode cX4_renewFlange 1 = .ok (.dup, 1) := by decide +kernel
theorem dX4_renewFlange_2 : decode cX4_renewFlange 2 = .ok (.getfield 9, 3) := by decide +kernel
theorem dX4_renewFlange_5 : decode cX4_renewFlange 5 = .ok (.iconst 2, 1) := by decide +kernel
theorem dX4_renewFlange_6 : decode cX4_renewFlange 6 = .ok (.sipush 300, 3) := by decide +kernel
theorem dX4_renewFlange_9 : decode cX4_renewFlange 9 = .ok (.aload_n 0, 1) := by decide +kernel
theorem dX4_renewFlange_10 : decode cX4_renewFlange 10 = .ok (.getfield 15, 3) := by decide +kernel
theorem dX4_renewFlange_13 : decode cX4_renewFlange 13 = .ok (.isub, 1) := by decide +kernel
theorem dX4_renewFlange_14 : decode cX4_renewFlange 14 = .ok (.imul, 1) := by decide +kernel
theorem dX4_renewFlange_15 : decode cX4_renewFlange 15 = .ok (.isub, 1) := by decide +kernel
theorem dX4_renewFlange_16 : decode cX4_renewFlange 16 = .ok (.putfield 9, 3) := by decide +kernel
theorem dX4_renewFlange_19 : decode cX4_renewFlange 19 = .ok (.aload_n 0, 1) := by decide +kernel
theorem dX4_renewFlange_20 : decode cX4_renewFlange 20 = .ok (.sipush 300, 3) := by decide +kernel
theorem dX4_renewFlange_23 : decode cX4_renewFlange 23 = .ok (.putfield 15, 3) := by decide +kernel
theorem dX4_renewFlange_26 : decode cX4_renewFlange 26 = .ok (.return_, 1) := by decide +kernel
theorem dX4_isWorn_0 : decode cX4_isWorn 0 = .ok (.aload_n 0, 1) := by decide +kernel
theorem dX4_isWorn_1 : decode cX4_isWorn 1 = .ok (.getfield 9, 3) := by decide +kernel
theorem dX4_isWorn_4 : decode cX4_isWorn 4 = .ok (.sipush 8500, 3) := by decide +kernel
theorem dX4_isWorn_7 : decode cX4_isWorn 7 = .ok (.if_icmp .lt 13, 3) := by decide +kernel
theorem dX4_isWorn_10 : decode cX4_isWorn 10 = .ok (.aload_n 0, 1) := by decide +kernel
theorem dX4_isWorn_11 : decode cX4_isWorn 11 = .ok (.getfield 15, 3) := by decide +kernel
theorem dX4_isWorn_14 : decode cX4_isWorn 14 = .ok (.sipush 250, 3) := by decide +kernel
theorem dX4_isWorn_17 : decode cX4_isWorn 17 = .ok (.if_icmp .ge 7, 3) := by decide +kernel
theorem dX4_isWorn_20 : decode cX4_isWorn 20 = .ok (.iconst 1, 1) := by decide +kernel
theorem dX4_isWorn_21 : decode cX4_isWorn 21 = .ok (.goto 4, 3) := by decide +kernel
theorem dX4_isWorn_24 : decode cX4_isWorn 24 = .ok (.iconst 0, 1) := by decide +kernel
theorem dX4_isWorn_25 : decode cX4_isWorn 25 = .ok (.ireturn, 1) := by decide +kernel
theorem dX5_init_0 : decode cX5_init 0 = .ok (.aload_n 0, 1) := by decide +kernel
theorem dX5_init_1 : decode cX5_init 1 = .ok (.invokespecial 3, 3) := by decide +kernel
theorem dX5_init_4 : decode cX5_init 4 = .ok (.aload_n 0, 1) := by decide +kernel
theorem dX5_init_5 : decode cX5_init 5 = .ok (.new 9, 3) := by decide +kernel
theorem dX5_init_8 : decode cX5_init 8 = .ok (.dup, 1) := by decide +kernel
theorem dX5_init_9 : decode cX5_init 9 = .ok (.invokespecial 11, 3) := by decide +kernel
theorem dX5_init_12 : decode cX5_init 12 = .ok (.putfield 12, 3) := by decide +kernel
theorem dX5_init_15 : decode cX5_init 15 = .ok (.aload_n 0, 1) := by decide +kernel
theorem dX5_init_16 : decode cX5_init 16 = .ok (.new 9, 3) := by decide +kernel
theorem dX5_init_19 : decode cX5_init 19 = .ok (.dup, 1) := by decide +kernel
theorem dX5_init_20 : decode cX5_init 20 = .ok (.invokespecial 11, 3) := by decide +kernel
theorem dX5_init_23 : decode cX5_init 23 = .ok (.putfield 18, 3) := by decide +kernel
theorem dX5_init_26 : decode cX5_init 26 = .ok (.aload_n 0, 1) := by decide +kernel
theorem dX5_init_27 : decode cX5_init 27 = .ok (.bipush 8, 2) := by decide +kernel
theorem dX5_init_29 : decode cX5_init 29 = .ok (.newarray .int, 2) := by decide +kernel
theorem dX5_init_31 : decode cX5_init 31 = .ok (.putfield 21, 3) := by decide +kernel
theorem dX5_init_34 : decode cX5_init 34 = .ok (.return_, 1) := by decide +kernel
theorem dX5_isWaiting_0 : decode cX5_isWaiting 0 = .ok (.iconst 0, 1) := by decide +kernel
theorem dX5_isWaiting_1 : decode cX5_isWaiting 1 = .ok (.istore_n 2, 1) := by decide +kernel
theorem dX5_isWaiting_2 : decode cX5_isWaiting 2 = .ok (.iload_n 2, 1) := by decide +kernel
theorem dX5_isWaiting_3 : decode cX5_isWaiting 3 = .ok (.aload_n 0, 1) := by decide +kernel
theorem dX5_isWaiting_4 : decode cX5_isWaiting 4 = .ok (.getfield 12, 3) := by decide +kernel
theorem dX5_isWaiting_7 : decode cX5_isWaiting 7 = .ok (.invokevirtual 25, 3) := by decide +kernel
theorem dX5_isWaiting_10 : decode cX5_isWaiting 10 = .ok (.if_icmp .ge 23, 3) := by decide +kernel
theorem dX5_isWaiting_13 : decode cX5_isWaiting 13 = .ok (.aload_n 0, 1) := by decide +kernel
theorem dX5_isWaiting_14 : decode cX5_isWaiting 14 = .ok (.getfield 12, 3) := by decide +kernel
theorem dX5_isWaiting_17 : decode cX5_isWaiting 17 = .ok (.iload_n 2, 1) := by decide +kernel
theorem dX5_isWaiting_18 : decode cX5_isWaiting 18 = .ok (.invokevirtual 29, 3) := by decide +kernel
theorem dX5_isWaiting_21 : decode cX5_isWaiting 21 = .ok (.aload_n 1, 1) := by decide +kernel
theorem dX5_isWaiting_22 : decode cX5_isWaiting 22 = .ok (.if_acmp .ne 5, 3) := by decide +kernel
theorem dX5_isWaiting_25 : decode cX5_isWaiting 25 = .ok (.iconst 1, 1) := by decide +kernel
theorem dX5_isWaiting_26 : decode cX5_isWaiting 26 = .ok (.ireturn, 1) := by decide +kernel
theorem dX5_isWaiting_27 : decode cX5_isWaiting 27 = .ok (.iinc 2 1, 3) := by decide +kernel
theorem dX5_isWaiting_30 : decode cX5_isWaiting 30 = .ok (.goto (-28), 3) := by decide +kernel
theorem dX5_isWaiting_33 : decode cX5_isWaiting 33 = .ok (.iconst 0, 1) := by decide +kernel
theorem dX5_isWaiting_34 : decode cX5_isWaiting 34 = .ok (.ireturn, 1) := by decide +kernel
theorem dX5_isTaken_0 : decode cX5_isTaken 0 = .ok (.iconst 0, 1) := by decide +kernel
theorem dX5_isTaken_1 : decode cX5_isTaken 1 = .ok (.istore_n 2, 1) := by decide +kernel
theorem dX5_isTaken_2 : decode cX5_isTaken 2 = .ok (.iload_n 2, 1) := by decide +kernel
theorem dX5_isTaken_3 : decode cX5_isTaken 3 = .ok (.aload_n 0, 1) := by decide +kernel
theorem dX5_isTaken_4 : decode cX5_isTaken 4 = .ok (.getfield 12, 3) := by decide +kernel
theorem dX5_isTaken_7 : decode cX5_isTaken 7 = .ok (.invokevirtual 25, 3) := by decide +kernel
theorem dX5_isTaken_10 : decode cX5_isTaken 10 = .ok (.if_icmp .ge 29, 3) := by decide +kernel
theorem dX5_isTaken_13 : decode cX5_isTaken 13 = .ok (.aload_n 0, 1) := by decide +kernel
theorem dX5_isTaken_14 : decode cX5_isTaken 14 = .ok (.getfield 12, 3) := by decide +kernel
theorem dX5_isTaken_17 : decode cX5_isTaken 17 = .ok (.iload_n 2, 1) := by decide +kernel
theorem dX5_isTaken_18 : decode cX5_isTaken 18 = .ok (.invokevirtual 29, 3) := by decide +kernel
theorem dX5_isTaken_21 : decode cX5_isTaken 21 = .ok (.checkcast 33, 3) := by decide +kernel
theorem dX5_isTaken_24 : decode cX5_isTaken 24 = .ok (.getfield 35, 3) := by decide +kernel
theorem dX5_isTaken_27 : decode cX5_isTaken 27 = .ok (.iload_n 1, 1) := by decide +kernel
theorem dX5_isTaken_28 : decode cX5_isTaken 28 = .ok (.if_icmp .ne 5, 3) := by decide +kernel
theorem dX5_isTaken_31 : decode cX5_isTaken 31 = .ok (.iconst 1, 1) := by decide +kernel
theorem dX5_isTaken_32 : decode cX5_isTaken 32 = .ok (.ireturn, 1) := by decide +kernel
theorem dX5_isTaken_33 : decode cX5_isTaken 33 = .ok (.iinc 2 1, 3) := by decide +kernel
theorem dX5_isTaken_36 : decode cX5_isTaken 36 = .ok (.goto (-34), 3) := by decide +kernel
theorem dX5_isTaken_39 : decode cX5_isTaken 39 = .ok (.iconst 0, 1) := by decide +kernel
theorem dX5_isTaken_40 : decode cX5_isTaken 40 = .ok (.ireturn, 1) := by decide +kernel
theorem dX5_makePlan_0 : decode cX5_makePlan 0 = .ok (.aload_n 0, 1) := by decide +kernel
theorem dX5_makePlan_1 : decode cX5_makePlan 1 = .ok (.invokevirtual 39, 3) := by decide +kernel
theorem dX5_makePlan_4 : decode cX5_makePlan 4 = .ok (.aload_n 0, 1) := by decide +kernel
theorem dX5_makePlan_5 : decode cX5_makePlan 5 = .ok (.sipush 1000, 3) := by decide +kernel
theorem dX5_makePlan_8 : decode cX5_makePlan 8 = .ok (.putfield 42, 3) := by decide +kernel
theorem dX5_makePlan_11 : decode cX5_makePlan 11 = .ok (.aload_n 0, 1) := by decide +kernel
theorem dX5_makePlan_12 : decode cX5_makePlan 12 = .ok (.iconst 0, 1) := by decide +kernel
theorem dX5_makePlan_13 : decode cX5_makePlan 13 = .ok (.iconst 0, 1) := by decide +kernel
theorem dX5_makePlan_14 : decode cX5_makePlan 14 = .ok (.iconst 0, 1) := by decide +kernel
theorem dX5_makePlan_15 : decode cX5_makePlan 15 = .ok (.invokestatic 45, 3) := by decide +kernel
theorem dX5_makePlan_18 : decode cX5_makePlan 18 = .ok (.aload_n 0, 1) := by decide +kernel
theorem dX5_makePlan_19 : decode cX5_makePlan 19 = .ok (.getfield 42, 3) := by decide +kernel
theorem dX5_makePlan_22 : decode cX5_makePlan 22 = .ok (.ireturn, 1) := by decide +kernel
theorem dX5_makePlanAnew_0 : decode cX5_makePlanAnew 0 = .ok (.aload_n 0, 1) := by decide +kernel
theorem dX5_makePlanAnew_1 : decode cX5_makePlanAnew 1 = .ok (.invokevirtual 39, 3) := by decide +kernel
theorem dX5_makePlanAnew_4 : decode cX5_makePlanAnew 4 = .ok (.aload_n 0, 1) := by decide +kernel
theorem dX5_makePlanAnew_5 : decode cX5_makePlanAnew 5 = .ok (.iconst 0, 1) := by decide +kernel
theorem dX5_makePlanAnew_6 : decode cX5_makePlanAnew 6 = .ok (.iconst 0, 1) := by decide +kernel
theorem dX5_makePlanAnew_7 : decode cX5_makePlanAnew 7 = .ok (.invokestatic 49, 3) := by decide +kernel
theorem dX5_makePlanAnew_10 : decode cX5_makePlanAnew 10 = .ok (.ireturn, 1) := by decide +kernel
theorem dX5_park_0 : decode cX5_park 0 = .ok (.aload_n 0, 1) := by decide +kernel
theorem dX5_park_1 : decode cX5_park 1 = .ok (.invokevirtual 53, 3) := by decide +kernel
theorem dX5_park_4 : decode cX5_park 4 = .ok (.istore_n 1, 1) := by decide +kernel
theorem dX5_park_5 : decode cX5_park 5 = .ok (.iconst 0, 1) := by decide +kernel
theorem dX5_park_6 : decode cX5_park 6 = .ok (.istore_n 2, 1) := by decide +kernel
theorem dX5_park_7 : decode cX5_park 7 = .ok (.iload_n 2, 1) := by decide +kernel
theorem dX5_park_8 : decode cX5_park 8 = .ok (.aload_n 0, 1) := by decide +kernel
theorem dX5_park_9 : decode cX5_park 9 = .ok (.getfield 12, 3) := by decide +kernel
theorem dX5_park_12 : decode cX5_park 12 = .ok (.invokevirtual 25, 3) := by decide +kernel
theorem dX5_park_15 : decode cX5_park 15 = .ok (.if_icmp .ge 42, 3) := by decide +kernel
theorem dX5_park_18 : decode cX5_park 18 = .ok (.aload_n 0, 1) := by decide +kernel
theorem dX5_park_19 : decode cX5_park 19 = .ok (.getfield 12, 3) := by decide +kernel
theorem dX5_park_22 : decode cX5_park 22 = .ok (.iload_n 2, 1) := by decide +kernel
theorem dX5_park_23 : decode cX5_park 23 = .ok (.invokevirtual 29, 3) := by decide +kernel
theorem dX5_park_26 : decode cX5_park 26 = .ok (.checkcast 33, 3) := by decide +kernel
theorem dX5_park_29 : decode cX5_park 29 = .ok (.astore_n 3, 1) := by decide +kernel
theorem dX5_park_30 : decode cX5_park 30 = .ok (.aload_n 3, 1) := by decide +kernel
theorem dX5_park_31 : decode cX5_park 31 = .ok (.aload_n 0, 1) := by decide +kernel
theorem dX5_park_32 : decode cX5_park 32 = .ok (.getfield 56, 3) := by decide +kernel
theorem dX5_park_35 : decode cX5_park 35 = .ok (.iload_n 2, 1) := by decide +kernel
theorem dX5_park_36 : decode cX5_park 36 = .ok (.invokestatic 59, 3) := by decide +kernel
theorem dX5_park_39 : decode cX5_park 39 = .ok (.putfield 63, 3) := by decide +kernel
theorem dX5_park_42 : decode cX5_park 42 = .ok (.aload_n 0, 1) := by decide +kernel
theorem dX5_park_43 : decode cX5_park 43 = .ok (.getfield 18, 3) := by decide +kernel
theorem dX5_park_46 : decode cX5_park 46 = .ok (.aload_n 3, 1) := by decide +kernel
theorem dX5_park_47 : decode cX5_park 47 = .ok (.invokevirtual 66, 3) := by decide +kernel
theorem dX5_park_50 : decode cX5_park 50 = .ok (.pop, 1) := by decide +kernel
theorem dX5_park_51 : decode cX5_park 51 = .ok (.iinc 2 1, 3) := by decide +kernel
theorem dX5_park_54 : decode cX5_park 54 = .ok (.goto (-47), 3) := by decide +kernel
theorem dX5_park_57 : decode cX5_park 57 = .ok (.aload_n 0, 1) := by decide +kernel
theorem dX5_park_58 : decode cX5_park 58 = .ok (.getfield 12, 3) := by decide +kernel
theorem dX5_park_61 : decode cX5_park 61 = .ok (.invokevirtual 70, 3) := by decide +kernel
theorem dX5_park_64 : decode cX5_park 64 = .ok (.iload_n 1, 1) := by decide +kernel
theorem dX5_park_65 : decode cX5_park 65 = .ok (.ireturn, 1) := by decide +kernel
theorem dX5_sendFirst_0 : decode cX5_sendFirst 0 = .ok (.iconst 0, 1) := by decide +kernel
theorem dX5_sendFirst_1 : decode cX5_sendFirst 1 = .ok (.istore_n 1, 1) := by decide +kernel
theorem dX5_sendFirst_2 : decode cX5_sendFirst 2 = .ok (.iconst 1, 1) := by decide +kernel
theorem dX5_sendFirst_3 : decode cX5_sendFirst 3 = .ok (.istore_n 2, 1) := by decide +kernel
theorem dX5_sendFirst_4 : decode cX5_sendFirst 4 = .ok (.iload_n 2, 1) := by decide +kernel
theorem dX5_sendFirst_5 : decode cX5_sendFirst 5 = .ok (.aload_n 0, 1) := by decide +kernel
theorem dX5_sendFirst_6 : decode cX5_sendFirst 6 = .ok (.getfield 18, 3) := by decide +kernel
theorem dX5_sendFirst_9 : decode cX5_sendFirst 9 = .ok (.invokevirtual 25, 3) := by decide +kernel
theorem dX5_sendFirst_12 : decode cX5_sendFirst 12 = .ok (.if_icmp .ge 42, 3) := by decide +kernel
theorem dX5_sendFirst_15 : decode cX5_sendFirst 15 = .ok (.aload_n 0, 1) := by decide +kernel
theorem dX5_sendFirst_16 : decode cX5_sendFirst 16 = .ok (.getfield 18, 3) := by decide +kernel
theorem dX5_sendFirst_19 : decode cX5_sendFirst 19 = .ok (.iload_n 2, 1) := by decide +kernel
theorem dX5_sendFirst_20 : decode cX5_sendFirst 20 = .ok (.invokevirtual 29, 3) := by decide +kernel
theorem dX5_sendFirst_23 : decode cX5_sendFirst 23 = .ok (.checkcast 33, 3) := by decide +kernel
theorem dX5_sendFirst_26 : decode cX5_sendFirst 26 = .ok (.getfield 35, 3) := by decide +kernel
theorem dX5_sendFirst_29 : decode cX5_sendFirst 29 = .ok (.aload_n 0, 1) := by decide +kernel
theorem dX5_sendFirst_30 : decode cX5_sendFirst 30 = .ok (.getfield 18, 3) := by decide +kernel
theorem dX5_sendFirst_33 : decode cX5_sendFirst 33 = .ok (.iload_n 1, 1) := by decide +kernel
theorem dX5_sendFirst_34 : decode cX5_sendFirst 34 = .ok (.invokevirtual 29, 3) := by decide +kernel
theorem dX5_sendFirst_37 : decode cX5_sendFirst 37 = .ok (.checkcast 33, 3) := by decide +kernel
theorem dX5_sendFirst_40 : decode cX5_sendFirst 40 = .ok (.getfield 35, 3) := by decide +kernel
theorem dX5_sendFirst_43 : decode cX5_sendFirst 43 = .ok (.if_icmp .ge 5, 3) := by decide +kernel
theorem dX5_sendFirst_46 : decode cX5_sendFirst 46 = .ok (.iload_n 2, 1) := by decide +kernel
theorem dX5_sendFirst_47 : decode cX5_sendFirst 47 = .ok (.istore_n 1, 1) := by decide +kernel
theorem dX5_sendFirst_48 : decode cX5_sendFirst 48 = .ok (.iinc 2 1, 3) := by decide +kernel
theorem dX5_sendFirst_51 : decode cX5_sendFirst 51 = .ok (.goto (-47), 3) := by decide +kernel
theorem dX5_sendFirst_54 : decode cX5_sendFirst 54 = .ok (.iload_n 1, 1) := by decide +kernel
theorem dX5_sendFirst_55 : decode cX5_sendFirst 55 = .ok (.aload_n 0, 1) := by decide +kernel
theorem dX5_sendFirst_56 : decode cX5_sendFirst 56 = .ok (.getfield 18, 3) := by decide +kernel
theorem dX5_sendFirst_59 : decode cX5_sendFirst 59 = .ok (.invokevirtual 25, 3) := by decide +kernel
theorem dX5_sendFirst_62 : decode cX5_sendFirst 62 = .ok (.if_icmp .lt 5, 3) := by decide +kernel
theorem dX5_sendFirst_65 : decode cX5_sendFirst 65 = .ok (.iconst 0, 1) := by decide +kernel
theorem dX5_sendFirst_66 : decode cX5_sendFirst 66 = .ok (.ireturn, 1) := by decide +kernel
theorem dX5_sendFirst_67 : decode cX5_sendFirst 67 = .ok (.aload_n 0, 1) := by decide +kernel
theorem dX5_sendFirst_68 : decode cX5_sendFirst 68 = .ok (.getfield 18, 3) := by decide +kernel
theorem dX5_sendFirst_71 : decode cX5_sendFirst 71 = .ok (.iload_n 1, 1) := by decide +kernel
theorem dX5_sendFirst_72 : decode cX5_sendFirst 72 = .ok (.invokevirtual 73, 3) := by decide +kernel
theorem dX5_sendFirst_75 : decode cX5_sendFirst 75 = .ok (.checkcast 33, 3) := by decide +kernel
theorem dX5_sendFirst_78 : decode cX5_sendFirst 78 = .ok (.astore_n 2, 1) := by decide +kernel
theorem dX5_sendFirst_79 : decode cX5_sendFirst 79 = .ok (.iconst 0, 1) := by decide +kernel
theorem dX5_sendFirst_80 : decode cX5_sendFirst 80 = .ok (.istore_n 3, 1) := by decide +kernel
theorem dX5_sendFirst_81 : decode cX5_sendFirst 81 = .ok (.iload_n 1, 1) := by decide +kernel
theorem dX5_sendFirst_82 : decode cX5_sendFirst 82 = .ok (.istore 4, 2) := by decide +kernel
theorem dX5_sendFirst_84 : decode cX5_sendFirst 84 = .ok (.iload 4, 2) := by decide +kernel
theorem dX5_sendFirst_86 : decode cX5_sendFirst 86 = .ok (.aload_n 0, 1) := by decide +kernel
theorem dX5_sendFirst_87 : decode cX5_sendFirst 87 = .ok (.getfield 18, 3) := by decide +kernel
theorem dX5_sendFirst_90 : decode cX5_sendFirst 90 = .ok (.invokevirtual 25, 3) := by decide +kernel
theorem dX5_sendFirst_93 : decode cX5_sendFirst 93 = .ok (.if_icmp .ge 34, 3) := by decide +kernel
theorem dX5_sendFirst_96 : decode cX5_sendFirst 96 = .ok (.aload_n 0, 1) := by decide +kernel
theorem dX5_sendFirst_97 : decode cX5_sendFirst 97 = .ok (.getfield 18, 3) := by decide +kernel
theorem dX5_sendFirst_100 : decode cX5_sendFirst 100 = .ok (.iload 4, 2) := by decide +kernel
theorem dX5_sendFirst_102 : decode cX5_sendFirst 102 = .ok (.invokevirtual 29, 3) := by decide +kernel
theorem dX5_sendFirst_105 : decode cX5_sendFirst 105 = .ok (.checkcast 33, 3) := by decide +kernel
theorem dX5_sendFirst_108 : decode cX5_sendFirst 108 = .ok (.getfield 63, 3) := by decide +kernel
theorem dX5_sendFirst_111 : decode cX5_sendFirst 111 = .ok (.aload_n 2, 1) := by decide +kernel
theorem dX5_sendFirst_112 : decode cX5_sendFirst 112 = .ok (.getfield 63, 3) := by decide +kernel
theorem dX5_sendFirst_115 : decode cX5_sendFirst 115 = .ok (.if_icmp .ne 6, 3) := by decide +kernel
theorem dX5_sendFirst_118 : decode cX5_sendFirst 118 = .ok (.iinc 3 1, 3) := by decide +kernel
theorem dX5_sendFirst_121 : decode cX5_sendFirst 121 = .ok (.iinc 4 1, 3) := by decide +kernel
theorem dX5_sendFirst_124 : decode cX5_sendFirst 124 = .ok (.goto (-40), 3) := by decide +kernel
theorem dX5_sendFirst_127 : decode cX5_sendFirst 127 = .ok (.aload_n 2, 1) := by decide +kernel
theorem dX5_sendFirst_128 : decode cX5_sendFirst 128 = .ok (.iconst (-1), 1) := by decide +kernel
theorem dX5_sendFirst_129 : decode cX5_sendFirst 129 = .ok (.putfield 63, 3) := by decide +kernel
theorem dX5_sendFirst_132 : decode cX5_sendFirst 132 = .ok (.iload_n 3, 1) := by decide +kernel
theorem dX5_sendFirst_133 : decode cX5_sendFirst 133 = .ok (.ireturn, 1) := by decide +kernel
theorem dX5_trainOn_0 : decode cX5_trainOn 0 = .ok (.iconst 0, 1) := by decide +kernel
theorem dX5_trainOn_1 : decode cX5_trainOn 1 = .ok (.istore_n 3, 1) := by decide +kernel
theorem dX5_trainOn_2 : decode cX5_trainOn 2 = .ok (.iconst 0, 1) := by decide +kernel
theorem dX5_trainOn_3 : decode cX5_trainOn 3 = .ok (.istore 4, 2) := by decide +kernel
theorem dX5_trainOn_5 : decode cX5_trainOn 5 = .ok (.iload 4, 2) := by decide +kernel
theorem dX5_trainOn_7 : decode cX5_trainOn 7 = .ok (.aload_n 0, 1) := by decide +kernel
theorem dX5_trainOn_8 : decode cX5_trainOn 8 = .ok (.getfield 18, 3) := by decide +kernel
theorem dX5_trainOn_11 : decode cX5_trainOn 11 = .ok (.invokevirtual 25, 3) := by decide +kernel
theorem dX5_trainOn_14 : decode cX5_trainOn 14 = .ok (.if_icmp .ge 46, 3) := by decide +kernel
theorem dX5_trainOn_17 : decode cX5_trainOn 17 = .ok (.aload_n 0, 1) := by decide +kernel
theorem dX5_trainOn_18 : decode cX5_trainOn 18 = .ok (.getfield 18, 3) := by decide +kernel
theorem dX5_trainOn_21 : decode cX5_trainOn 21 = .ok (.iload 4, 2) := by decide +kernel
theorem dX5_trainOn_23 : decode cX5_trainOn 23 = .ok (.invokevirtual 29, 3) := by decide +kernel
theorem dX5_trainOn_26 : decode cX5_trainOn 26 = .ok (.checkcast 33, 3) := by decide +kernel
theorem dX5_trainOn_29 : decode cX5_trainOn 29 = .ok (.astore 5, 2) := by decide +kernel
theorem dX5_trainOn_31 : decode cX5_trainOn 31 = .ok (.aload 5, 2) := by decide +kernel
theorem dX5_trainOn_33 : decode cX5_trainOn 33 = .ok (.getfield 63, 3) := by decide +kernel
theorem dX5_trainOn_36 : decode cX5_trainOn 36 = .ok (.iload_n 1, 1) := by decide +kernel
theorem dX5_trainOn_37 : decode cX5_trainOn 37 = .ok (.if_icmp .ne 17, 3) := by decide +kernel
theorem dX5_trainOn_40 : decode cX5_trainOn 40 = .ok (.iload_n 3, 1) := by decide +kernel
theorem dX5_trainOn_41 : decode cX5_trainOn 41 = .ok (.iload_n 2, 1) := by decide +kernel
theorem dX5_trainOn_42 : decode cX5_trainOn 42 = .ok (.if_icmp .ne 9, 3) := by decide +kernel
theorem dX5_trainOn_45 : decode cX5_trainOn 45 = .ok (.aload 5, 2) := by decide +kernel
theorem dX5_trainOn_47 : decode cX5_trainOn 47 = .ok (.getfield 76, 3) := by decide +kernel
theorem dX5_trainOn_50 : decode cX5_trainOn 50 = .ok (.ireturn, 1) := by decide +kernel
theorem dX5_trainOn_51 : decode cX5_trainOn 51 = .ok (.iinc 3 1, 3) := by decide +kernel
theorem dX5_trainOn_54 : decode cX5_trainOn 54 = .ok (.iinc 4 1, 3) := by decide +kernel
theorem dX5_trainOn_57 : decode cX5_trainOn 57 = .ok (.goto (-52), 3) := by decide +kernel
theorem dX5_trainOn_60 : decode cX5_trainOn 60 = .ok (.iconst (-1), 1) := by decide +kernel
theorem dX5_trainOn_61 : decode cX5_trainOn 61 = .ok (.ireturn, 1) := by decide +kernel
theorem dX5_markBlocked_0 : decode cX5_markBlocked 0 = .ok (.iconst 0, 1) := by decide +kernel
theorem dX5_markBlocked_1 : decode cX5_markBlocked 1 = .ok (.istore_n 1, 1) := by decide +kernel
theorem dX5_markBlocked_2 : decode cX5_markBlocked 2 = .ok (.iload_n 1, 1) := by decide +kernel
theorem dX5_markBlocked_3 : decode cX5_markBlocked 3 = .ok (.aload_n 0, 1) := by decide +kernel
theorem dX5_markBlocked_4 : decode cX5_markBlocked 4 = .ok (.getfield 12, 3) := by decide +kernel
theorem dX5_markBlocked_7 : decode cX5_markBlocked 7 = .ok (.invokevirtual 25, 3) := by decide +kernel
theorem dX5_markBlocked_10 : decode cX5_markBlocked 10 = .ok (.if_icmp .ge 81, 3) := by decide +kernel
theorem dX5_markBlocked_13 : decode cX5_markBlocked 13 = .ok (.iload_n 1, 1) := by decide +kernel
theorem dX5_markBlocked_14 : decode cX5_markBlocked 14 = .ok (.aload_n 0, 1) := by decide +kernel
theorem dX5_markBlocked_15 : decode cX5_markBlocked 15 = .ok (.getfield 21, 3) := by decide +kernel
theorem dX5_markBlocked_18 : decode cX5_markBlocked 18 = .ok (.arraylength, 1) := by decide +kernel
theorem dX5_markBlocked_19 : decode cX5_markBlocked 19 = .ok (.if_icmp .ge 72, 3) := by decide +kernel
theorem dX5_markBlocked_22 : decode cX5_markBlocked 22 = .ok (.aload_n 0, 1) := by decide +kernel
theorem dX5_markBlocked_23 : decode cX5_markBlocked 23 = .ok (.getfield 21, 3) := by decide +kernel
theorem dX5_markBlocked_26 : decode cX5_markBlocked 26 = .ok (.iload_n 1, 1) := by decide +kernel
theorem dX5_markBlocked_27 : decode cX5_markBlocked 27 = .ok (.iconst 0, 1) := by decide +kernel
theorem dX5_markBlocked_28 : decode cX5_markBlocked 28 = .ok (.iastore, 1) := by decide +kernel
theorem dX5_markBlocked_29 : decode cX5_markBlocked 29 = .ok (.iconst 0, 1) := by decide +kernel
theorem dX5_markBlocked_30 : decode cX5_markBlocked 30 = .ok (.istore_n 2, 1) := by decide +kernel
theorem dX5_markBlocked_31 : decode cX5_markBlocked 31 = .ok (.iload_n 2, 1) := by decide +kernel
theorem dX5_markBlocked_32 : decode cX5_markBlocked 32 = .ok (.iload_n 1, 1) := by decide +kernel
theorem dX5_markBlocked_33 : decode cX5_markBlocked 33 = .ok (.if_icmp .ge 52, 3) := by decide +kernel
theorem dX5_markBlocked_36 : decode cX5_markBlocked 36 = .ok (.aload_n 0, 1) := by decide +kernel
theorem dX5_markBlocked_37 : decode cX5_markBlocked 37 = .ok (.getfield 12, 3) := by decide +kernel
theorem dX5_markBlocked_40 : decode cX5_markBlocked 40 = .ok (.iload_n 2, 1) := by decide +kernel
theorem dX5_markBlocked_41 : decode cX5_markBlocked 41 = .ok (.invokevirtual 29, 3) := by decide +kernel
theorem dX5_markBlocked_44 : decode cX5_markBlocked 44 = .ok (.checkcast 33, 3) := by decide +kernel
theorem dX5_markBlocked_47 : decode cX5_markBlocked 47 = .ok (.getfield 35, 3) := by decide +kernel
theorem dX5_markBlocked_50 : decode cX5_markBlocked 50 = .ok (.aload_n 0, 1) := by decide +kernel
theorem dX5_markBlocked_51 : decode cX5_markBlocked 51 = .ok (.getfield 12, 3) := by decide +kernel
theorem dX5_markBlocked_54 : decode cX5_markBlocked 54 = .ok (.iload_n 1, 1) := by decide +kernel
theorem dX5_markBlocked_55 : decode cX5_markBlocked 55 = .ok (.invokevirtual 29, 3) := by decide +kernel
theorem dX5_markBlocked_58 : decode cX5_markBlocked 58 = .ok (.checkcast 33, 3) := by decide +kernel
theorem dX5_markBlocked_61 : decode cX5_markBlocked 61 = .ok (.getfield 35, 3) := by decide +kernel
theorem dX5_markBlocked_64 : decode cX5_markBlocked 64 = .ok (.if_icmp .ge 15, 3) := by decide +kernel
theorem dX5_markBlocked_67 : decode cX5_markBlocked 67 = .ok (.aload_n 0, 1) := by decide +kernel
theorem dX5_markBlocked_68 : decode cX5_markBlocked 68 = .ok (.getfield 21, 3) := by decide +kernel
theorem dX5_markBlocked_71 : decode cX5_markBlocked 71 = .ok (.iload_n 1, 1) := by decide +kernel
theorem dX5_markBlocked_72 : decode cX5_markBlocked 72 = .ok (.dup2, 1) := by decide +kernel
theorem dX5_markBlocked_73 : decode cX5_markBlocked 73 = .ok (.iaload, 1) := by decide +kernel
theorem dX5_markBlocked_74 : decode cX5_markBlocked 74 = .ok (.iconst 1, 1) := by decide +kernel
theorem dX5_markBlocked_75 : decode cX5_markBlocked 75 = .ok (.iload_n 2, 1) := by decide +kernel
theorem dX5_markBlocked_76 : decode cX5_markBlocked 76 = .ok (.ishl, 1) := by decide +kernel
theorem dX5_markBlocked_77 : decode cX5_markBlocked 77 = .ok (.ior, 1) := by decide +kernel
theorem dX5_markBlocked_78 : decode cX5_markBlocked 78 = .ok (.iastore, 1) := by decide +kernel
theorem dX5_markBlocked_79 : decode cX5_markBlocked 79 = .ok (.iinc 2 1, 3) := by decide +kernel
theorem dX5_markBlocked_82 : decode cX5_markBlocked 82 = .ok (.goto (-51), 3) := by decide +kernel
theorem dX5_markBlocked_85 : decode cX5_markBlocked 85 = .ok (.iinc 1 1, 3) := by decide +kernel
theorem dX5_markBlocked_88 : decode cX5_markBlocked 88 = .ok (.goto (-86), 3) := by decide +kernel
theorem dX5_markBlocked_91 : decode cX5_markBlocked 91 = .ok (.return_, 1) := by decide +kernel
theorem dX5_searchPlan_0 : decode cX5_searchPlan 0 = .ok (.iload_n 3, 1) := by decide +kernel
theorem dX5_searchPlan_1 : decode cX5_searchPlan 1 = .ok (.aload_n 0, 1) := by decide +kernel
theorem dX5_searchPlan_2 : decode cX5_searchPlan 2 = .ok (.getfield 42, 3) := by decide +kernel
theorem dX5_searchPlan_5 : decode cX5_searchPlan 5 = .ok (.if_icmp .lt 4, 3) := by decide +kernel
theorem dX5_searchPlan_8 : decode cX5_searchPlan 8 = .ok (.return_, 1) := by decide +kernel
theorem dX5_searchPlan_9 : decode cX5_searchPlan 9 = .ok (.iload_n 1, 1) := by decide +kernel
theorem dX5_searchPlan_10 : decode cX5_searchPlan 10 = .ok (.aload_n 0, 1) := by decide +kernel
theorem dX5_searchPlan_11 : decode cX5_searchPlan 11 = .ok (.getfield 12, 3) := by decide +kernel
theorem dX5_searchPlan_14 : decode cX5_searchPlan 14 = .ok (.invokevirtual 25, 3) := by decide +kernel
theorem dX5_searchPlan_17 : decode cX5_searchPlan 17 = .ok (.if_icmp .ge 12, 3) := by decide +kernel
theorem dX5_searchPlan_20 : decode cX5_searchPlan 20 = .ok (.iload_n 1, 1) := by decide +kernel
theorem dX5_searchPlan_21 : decode cX5_searchPlan 21 = .ok (.aload_n 0, 1) := by decide +kernel
theorem dX5_searchPlan_22 : decode cX5_searchPlan 22 = .ok (.getfield 21, 3) := by decide +kernel
theorem dX5_searchPlan_25 : decode cX5_searchPlan 25 = .ok (.arraylength, 1) := by decide +kernel
theorem dX5_searchPlan_26 : decode cX5_searchPlan 26 = .ok (.if_icmp .lt 14, 3) := by decide +kernel
theorem dX5_searchPlan_29 : decode cX5_searchPlan 29 = .ok (.aload_n 0, 1) := by decide +kernel
theorem dX5_searchPlan_30 : decode cX5_searchPlan 30 = .ok (.iload_n 3, 1) := by decide +kernel
theorem dX5_searchPlan_31 : decode cX5_searchPlan 31 = .ok (.putfield 42, 3) := by decide +kernel
theorem dX5_searchPlan_34 : decode cX5_searchPlan 34 = .ok (.aload_n 0, 1) := by decide +kernel
theorem dX5_searchPlan_35 : decode cX5_searchPlan 35 = .ok (.iload_n 2, 1) := by decide +kernel
theorem dX5_searchPlan_36 : decode cX5_searchPlan 36 = .ok (.putfield 56, 3) := by decide +kernel
theorem dX5_searchPlan_39 : decode cX5_searchPlan 39 = .ok (.return_, 1) := by decide +kernel
theorem dX5_searchPlan_40 : decode cX5_searchPlan 40 = .ok (.iconst 0, 1) := by decide +kernel
theorem dX5_searchPlan_41 : decode cX5_searchPlan 41 = .ok (.istore 4, 2) := by decide +kernel
theorem dX5_searchPlan_43 : decode cX5_searchPlan 43 = .ok (.iload 4, 2) := by decide +kernel
theorem dX5_searchPlan_45 : decode cX5_searchPlan 45 = .ok (.iconst 3, 1) := by decide +kernel
theorem dX5_searchPlan_46 : decode cX5_searchPlan 46 = .ok (.if_icmp .ge 55, 3) := by decide +kernel
theorem dX5_searchPlan_49 : decode cX5_searchPlan 49 = .ok (.iload_n 2, 1) := by decide +kernel
theorem dX5_searchPlan_50 : decode cX5_searchPlan 50 = .ok (.iload 4, 2) := by decide +kernel
theorem dX5_searchPlan_52 : decode cX5_searchPlan 52 = .ok (.invokestatic 79, 3) := by decide +kernel
theorem dX5_searchPlan_55 : decode cX5_searchPlan 55 = .ok (.istore 5, 2) := by decide +kernel
theorem dX5_searchPlan_57 : decode cX5_searchPlan 57 = .ok (.iload 5, 2) := by decide +kernel
theorem dX5_searchPlan_59 : decode cX5_searchPlan 59 = .ok (.invokestatic 82, 3) := by decide +kernel
theorem dX5_searchPlan_62 : decode cX5_searchPlan 62 = .ok (.iconst 4, 1) := by decide +kernel
theorem dX5_searchPlan_63 : decode cX5_searchPlan 63 = .ok (.if_icmp .ge 32, 3) := by decide +kernel
theorem dX5_searchPlan_66 : decode cX5_searchPlan 66 = .ok (.aload_n 0, 1) := by decide +kernel
theorem dX5_searchPlan_67 : decode cX5_searchPlan 67 = .ok (.iload_n 1, 1) := by decide +kernel
theorem dX5_searchPlan_68 : decode cX5_searchPlan 68 = .ok (.iconst 1, 1) := by decide +kernel
theorem dX5_searchPlan_69 : decode cX5_searchPlan 69 = .ok (.iadd, 1) := by decide +kernel
theorem dX5_searchPlan_70 : decode cX5_searchPlan 70 = .ok (.iload_n 2, 1) := by decide +kernel
theorem dX5_searchPlan_71 : decode cX5_searchPlan 71 = .ok (.iload 4, 2) := by decide +kernel
theorem dX5_searchPlan_73 : decode cX5_searchPlan 73 = .ok (.iload_n 1, 1) := by decide +kernel
theorem dX5_searchPlan_74 : decode cX5_searchPlan 74 = .ok (.invokestatic 88, 3) := by decide +kernel
theorem dX5_searchPlan_77 : decode cX5_searchPlan 77 = .ok (.ior, 1) := by decide +kernel
theorem dX5_searchPlan_78 : decode cX5_searchPlan 78 = .ok (.iload_n 3, 1) := by decide +kernel
theorem dX5_searchPlan_79 : decode cX5_searchPlan 79 = .ok (.iload 5, 2) := by decide +kernel
theorem dX5_searchPlan_81 : decode cX5_searchPlan 81 = .ok (.aload_n 0, 1) := by decide +kernel
theorem dX5_searchPlan_82 : decode cX5_searchPlan 82 = .ok (.getfield 21, 3) := by decide +kernel
theorem dX5_searchPlan_85 : decode cX5_searchPlan 85 = .ok (.iload_n 1, 1) := by decide +kernel
theorem dX5_searchPlan_86 : decode cX5_searchPlan 86 = .ok (.iaload, 1) := by decide +kernel
theorem dX5_searchPlan_87 : decode cX5_searchPlan 87 = .ok (.iand, 1) := by decide +kernel
theorem dX5_searchPlan_88 : decode cX5_searchPlan 88 = .ok (.invokestatic 82, 3) := by decide +kernel
theorem dX5_searchPlan_91 : decode cX5_searchPlan 91 = .ok (.iadd, 1) := by decide +kernel
theorem dX5_searchPlan_92 : decode cX5_searchPlan 92 = .ok (.invokestatic 45, 3) := by decide +kernel
theorem dX5_searchPlan_95 : decode cX5_searchPlan 95 = .ok (.iinc 4 1, 3) := by decide +kernel
theorem dX5_searchPlan_98 : decode cX5_searchPlan 98 = .ok (.goto (-55), 3) := by decide +kernel
theorem dX5_searchPlan_101 : decode cX5_searchPlan 101 = .ok (.return_, 1) := by decide +kernel
theorem dX5_fewestMoves_0 : decode cX5_fewestMoves 0 = .ok (.iload_n 1, 1) := by decide +kernel
theorem dX5_fewestMoves_1 : decode cX5_fewestMoves 1 = .ok (.aload_n 0, 1) := by decide +kernel
theorem dX5_fewestMoves_2 : decode cX5_fewestMoves 2 = .ok (.getfield 12, 3) := by decide +kernel
theorem dX5_fewestMoves_5 : decode cX5_fewestMoves 5 = .ok (.invokevirtual 25, 3) := by decide +kernel
theorem dX5_fewestMoves_8 : decode cX5_fewestMoves 8 = .ok (.if_icmp .ge 12, 3) := by decide +kernel
theorem dX5_fewestMoves_11 : decode cX5_fewestMoves 11 = .ok (.iload_n 1, 1) := by decide +kernel
theorem dX5_fewestMoves_12 : decode cX5_fewestMoves 12 = .ok (.aload_n 0, 1) := by decide +kernel
theorem dX5_fewestMoves_13 : decode cX5_fewestMoves 13 = .ok (.getfield 21, 3) := by decide +kernel
theorem dX5_fewestMoves_16 : decode cX5_fewestMoves 16 = .ok (.arraylength, 1) := by decide +kernel
theorem dX5_fewestMoves_17 : decode cX5_fewestMoves 17 = .ok (.if_icmp .lt 5, 3) := by decide +kernel
theorem dX5_fewestMoves_20 : decode cX5_fewestMoves 20 = .ok (.iconst 0, 1) := by decide +kernel
theorem dX5_fewestMoves_21 : decode cX5_fewestMoves 21 = .ok (.ireturn, 1) := by decide +kernel
theorem dX5_fewestMoves_22 : decode cX5_fewestMoves 22 = .ok (.sipush 1000, 3) := by decide +kernel
theorem dX5_fewestMoves_25 : decode cX5_fewestMoves 25 = .ok (.istore_n 3, 1) := by decide +kernel
theorem dX5_fewestMoves_26 : decode cX5_fewestMoves 26 = .ok (.iconst 0, 1) := by decide +kernel
theorem dX5_fewestMoves_27 : decode cX5_fewestMoves 27 = .ok (.istore 4, 2) := by decide +kernel
theorem dX5_fewestMoves_29 : decode cX5_fewestMoves 29 = .ok (.iload 4, 2) := by decide +kernel
theorem dX5_fewestMoves_31 : decode cX5_fewestMoves 31 = .ok (.iconst 3, 1) := by decide +kernel
theorem dX5_fewestMoves_32 : decode cX5_fewestMoves 32 = .ok (.if_icmp .ge 63, 3) := by decide +kernel
theorem dX5_fewestMoves_35 : decode cX5_fewestMoves 35 = .ok (.iload_n 2, 1) := by decide +kernel
theorem dX5_fewestMoves_36 : decode cX5_fewestMoves 36 = .ok (.iload 4, 2) := by decide +kernel
theorem dX5_fewestMoves_38 : decode cX5_fewestMoves 38 = .ok (.invokestatic 79, 3) := by decide +kernel
theorem dX5_fewestMoves_41 : decode cX5_fewestMoves 41 = .ok (.istore 5, 2) := by decide +kernel
theorem dX5_fewestMoves_43 : decode cX5_fewestMoves 43 = .ok (.iload 5, 2) := by decide +kernel
theorem dX5_fewestMoves_45 : decode cX5_fewestMoves 45 = .ok (.invokestatic 82, 3) := by decide +kernel
theorem dX5_fewestMoves_48 : decode cX5_fewestMoves 48 = .ok (.iconst 4, 1) := by decide +kernel
theorem dX5_fewestMoves_49 : decode cX5_fewestMoves 49 = .ok (.if_icmp .ge 40, 3) := by decide +kernel
theorem dX5_fewestMoves_52 : decode cX5_fewestMoves 52 = .ok (.iload 5, 2) := by decide +kernel
theorem dX5_fewestMoves_54 : decode cX5_fewestMoves 54 = .ok (.aload_n 0, 1) := by decide +kernel
theorem dX5_fewestMoves_55 : decode cX5_fewestMoves 55 = .ok (.getfield 21, 3) := by decide +kernel
theorem dX5_fewestMoves_58 : decode cX5_fewestMoves 58 = .ok (.iload_n 1, 1) := by decide +kernel
theorem dX5_fewestMoves_59 : decode cX5_fewestMoves 59 = .ok (.iaload, 1) := by decide +kernel
theorem dX5_fewestMoves_60 : decode cX5_fewestMoves 60 = .ok (.iand, 1) := by decide +kernel
theorem dX5_fewestMoves_61 : decode cX5_fewestMoves 61 = .ok (.invokestatic 82, 3) := by decide +kernel
theorem dX5_fewestMoves_64 : decode cX5_fewestMoves 64 = .ok (.aload_n 0, 1) := by decide +kernel
theorem dX5_fewestMoves_65 : decode cX5_fewestMoves 65 = .ok (.iload_n 1, 1) := by decide +kernel
theorem dX5_fewestMoves_66 : decode cX5_fewestMoves 66 = .ok (.iconst 1, 1) := by decide +kernel
theorem dX5_fewestMoves_67 : decode cX5_fewestMoves 67 = .ok (.iadd, 1) := by decide +kernel
theorem dX5_fewestMoves_68 : decode cX5_fewestMoves 68 = .ok (.iload_n 2, 1) := by decide +kernel
theorem dX5_fewestMoves_69 : decode cX5_fewestMoves 69 = .ok (.iload 4, 2) := by decide +kernel
theorem dX5_fewestMoves_71 : decode cX5_fewestMoves 71 = .ok (.iload_n 1, 1) := by decide +kernel
theorem dX5_fewestMoves_72 : decode cX5_fewestMoves 72 = .ok (.invokestatic 88, 3) := by decide +kernel
theorem dX5_fewestMoves_75 : decode cX5_fewestMoves 75 = .ok (.ior, 1) := by decide +kernel
theorem dX5_fewestMoves_76 : decode cX5_fewestMoves 76 = .ok (.invokestatic 49, 3) := by decide +kernel
theorem dX5_fewestMoves_79 : decode cX5_fewestMoves 79 = .ok (.iadd, 1) := by decide +kernel
theorem dX5_fewestMoves_80 : decode cX5_fewestMoves 80 = .ok (.istore 6, 2) := by decide +kernel
theorem dX5_fewestMoves_82 : decode cX5_fewestMoves 82 = .ok (.iload_n 3, 1) := by decide +kernel
theorem dX5_fewestMoves_83 : decode cX5_fewestMoves 83 = .ok (.iload 6, 2) := by decide +kernel
theorem dX5_fewestMoves_85 : decode cX5_fewestMoves 85 = .ok (.invokestatic 91, 3) := by decide +kernel
theorem dX5_fewestMoves_88 : decode cX5_fewestMoves 88 = .ok (.istore_n 3, 1) := by decide +kernel
theorem dX5_fewestMoves_89 : decode cX5_fewestMoves 89 = .ok (.iinc 4 1, 3) := by decide +kernel
theorem dX5_fewestMoves_92 : decode cX5_fewestMoves 92 = .ok (.goto (-63), 3) := by decide +kernel
theorem dX5_fewestMoves_95 : decode cX5_fewestMoves 95 = .ok (.iload_n 3, 1) := by decide +kernel
theorem dX5_fewestMoves_96 : decode cX5_fewestMoves 96 = .ok (.ireturn, 1) := by decide +kernel
theorem dX5_trainsIn_0 : decode cX5_trainsIn 0 = .ok (.iload_n 0, 1) := by decide +kernel
theorem dX5_trainsIn_1 : decode cX5_trainsIn 1 = .ok (.iload_n 1, 1) := by decide +kernel
theorem dX5_trainsIn_2 : decode cX5_trainsIn 2 = .ok (.bipush 8, 2) := by decide +kernel
theorem dX5_trainsIn_4 : decode cX5_trainsIn 4 = .ok (.imul, 1) := by decide +kernel
theorem dX5_trainsIn_5 : decode cX5_trainsIn 5 = .ok (.ishr, 1) := by decide +kernel
theorem dX5_trainsIn_6 : decode cX5_trainsIn 6 = .ok (.sipush 255, 3) := by decide +kernel
theorem dX5_trainsIn_9 : decode cX5_trainsIn 9 = .ok (.iand, 1) := by decide +kernel
theorem dX5_trainsIn_10 : decode cX5_trainsIn 10 = .ok (.ireturn, 1) := by decide +kernel
theorem dX5_bitOf_0 : decode cX5_bitOf 0 = .ok (.iconst 1, 1) := by decide +kernel
theorem dX5_bitOf_1 : decode cX5_bitOf 1 = .ok (.iload_n 0, 1) := by decide +kernel
theorem dX5_bitOf_2 : decode cX5_bitOf 2 = .ok (.bipush 8, 2) := by decide +kernel
theorem dX5_bitOf_4 : decode cX5_bitOf 4 = .ok (.imul, 1) := by decide +kernel
theorem dX5_bitOf_5 : decode cX5_bitOf 5 = .ok (.iload_n 1, 1) := by decide +kernel
theorem dX5_bitOf_6 : decode cX5_bitOf 6 = .ok (.iadd, 1) := by decide +kernel
theorem dX5_bitOf_7 : decode cX5_bitOf 7 = .ok (.ishl, 1) := by decide +kernel
theorem dX5_bitOf_8 : decode cX5_bitOf 8 = .ok (.ireturn, 1) := by decide +kernel
theorem dX5_roadIn_0 : decode cX5_roadIn 0 = .ok (.iconst 0, 1) := by decide +kernel
theorem dX5_roadIn_1 : decode cX5_roadIn 1 = .ok (.istore_n 2, 1) := by decide +kernel
theorem dX5_roadIn_2 : decode cX5_roadIn 2 = .ok (.iload_n 2, 1) := by decide +kernel
theorem dX5_roadIn_3 : decode cX5_roadIn 3 = .ok (.iconst 3, 1) := by decide +kernel
theorem dX5_roadIn_4 : decode cX5_roadIn 4 = .ok (.if_icmp .ge 21, 3) := by decide +kernel
theorem dX5_roadIn_7 : decode cX5_roadIn 7 = .ok (.iload_n 0, 1) := by decide +kernel
theorem dX5_roadIn_8 : decode cX5_roadIn 8 = .ok (.iload_n 2, 1) := by decide +kernel
theorem dX5_roadIn_9 : decode cX5_roadIn 9 = .ok (.iload_n 1, 1) := by decide +kernel
theorem dX5_roadIn_10 : decode cX5_roadIn 10 = .ok (.invokestatic 88, 3) := by decide +kernel
theorem dX5_roadIn_13 : decode cX5_roadIn 13 = .ok (.iand, 1) := by decide +kernel
theorem dX5_roadIn_14 : decode cX5_roadIn 14 = .ok (.ifCond .eq 5, 3) := by decide +kernel
theorem dX5_roadIn_17 : decode cX5_roadIn 17 = .ok (.iload_n 2, 1) := by decide +kernel
theorem dX5_roadIn_18 : decode cX5_roadIn 18 = .ok (.ireturn, 1) := by decide +kernel
theorem dX5_roadIn_19 : decode cX5_roadIn 19 = .ok (.iinc 2 1, 3) := by decide +kernel
theorem dX5_roadIn_22 : decode cX5_roadIn 22 = .ok (.goto (-20), 3) := by decide +kernel
theorem dX5_roadIn_25 : decode cX5_roadIn 25 = .ok (.iconst 0, 1) := by decide +kernel
theorem dX5_roadIn_26 : decode cX5_roadIn 26 = .ok (.ireturn, 1) := by decide +kernel
theorem dX6_init_0 : decode cX6_init 0 = .ok (.aload_n 0, 1) := by decide +kernel
theorem dX6_init_1 : decode cX6_init 1 = .ok (.invokespecial 1, 3) := by decide +kernel
theorem dX6_init_4 : decode cX6_init 4 = .ok (.aload_n 0, 1) := by decide +kernel
theorem dX6_init_5 : decode cX6_init 5 = .ok (.new 7, 3) := by decide +kernel
theorem dX6_init_8 : decode cX6_init 8 = .ok (.dup, 1) := by decide +kernel
theorem dX6_init_9 : decode cX6_init 9 = .ok (.invokespecial 9, 3) := by decide +kernel
theorem dX6_init_12 : decode cX6_init 12 = .ok (.putfield 10, 3) := by decide +kernel
theorem dX6_init_15 : decode cX6_init 15 = .ok (.aload_n 0, 1) := by decide +kernel
theorem dX6_init_16 : decode cX6_init 16 = .ok (.iconst 5, 1) := by decide +kernel
theorem dX6_init_17 : decode cX6_init 17 = .ok (.anewarray 16, 3) := by decide +kernel
theorem dX6_init_20 : decode cX6_init 20 = .ok (.putfield 18, 3) := by decide +kernel
theorem dX6_init_23 : decode cX6_init 23 = .ok (.aload_n 0, 1) := by decide +kernel
theorem dX6_init_24 : decode cX6_init 24 = .ok (.new 22, 3) := by decide +kernel
theorem dX6_init_27 : decode cX6_init 27 = .ok (.dup, 1) := by decide +kernel
theorem dX6_init_28 : decode cX6_init 28 = .ok (.invokespecial 24, 3) := by decide +kernel
theorem dX6_init_31 : decode cX6_init 31 = .ok (.putfield 25, 3) := by decide +kernel
theorem dX6_init_34 : decode cX6_init 34 = .ok (.aload_n 0, 1) := by decide +kernel
theorem dX6_init_35 : decode cX6_init 35 = .ok (.new 29, 3) := by decide +kernel
theorem dX6_init_38 : decode cX6_init 38 = .ok (.dup, 1) := by decide +kernel
theorem dX6_init_39 : decode cX6_init 39 = .ok (.invokespecial 31, 3) := by decide +kernel
theorem dX6_init_42 : decode cX6_init 42 = .ok (.putfield 32, 3) := by decide +kernel
theorem dX6_init_45 : decode cX6_init 45 = .ok (.iconst 0, 1) := by decide +kernel
theorem dX6_init_46 : decode cX6_init 46 = .ok (.istore_n 1, 1) := by decide +kernel
theorem dX6_init_47 : decode cX6_init 47 = .ok (.iload_n 1, 1) := by decide +kernel
theorem dX6_init_48 : decode cX6_init 48 = .ok (.aload_n 0, 1) := by decide +kernel
theorem dX6_init_49 : decode cX6_init 49 = .ok (.getfield 18, 3) := by decide +kernel
theorem dX6_init_52 : decode cX6_init 52 = .ok (.arraylength, 1) := by decide +kernel
theorem dX6_init_53 : decode cX6_init 53 = .ok (.if_icmp .ge 22, 3) := by decide +kernel
theorem dX6_init_56 : decode cX6_init 56 = .ok (.aload_n 0, 1) := by decide +kernel
theorem dX6_init_57 : decode cX6_init 57 = .ok (.getfield 18, 3) := by decide +kernel
theorem dX6_init_60 : decode cX6_init 60 = .ok (.iload_n 1, 1) := by decide +kernel
theorem dX6_init_61 : decode cX6_init 61 = .ok (.new 16, 3) := by decide +kernel
theorem dX6_init_64 : decode cX6_init 64 = .ok (.dup, 1) := by decide +kernel
theorem dX6_init_65 : decode cX6_init 65 = .ok (.invokespecial 36, 3) := by decide +kernel
theorem dX6_init_68 : decode cX6_init 68 = .ok (.aastore, 1) := by decide +kernel
theorem dX6_init_69 : decode cX6_init 69 = .ok (.iinc 1 1, 3) := by decide +kernel
theorem dX6_init_72 : decode cX6_init 72 = .ok (.goto (-25), 3) := by decide +kernel
theorem dX6_init_75 : decode cX6_init 75 = .ok (.return_, 1) := by decide +kernel
theorem dX6_part_0 : decode cX6_part 0 = .ok (.aload_n 0, 1) := by decide +kernel
theorem dX6_part_1 : decode cX6_part 1 = .ok (.iload_n 1, 1) := by decide +kernel
theorem dX6_part_2 : decode cX6_part 2 = .ok (.invokevirtual 37, 3) := by decide +kernel
theorem dX6_part_5 : decode cX6_part 5 = .ok (.astore 4, 2) := by decide +kernel
theorem dX6_part_7 : decode cX6_part 7 = .ok (.iload_n 2, 1) := by decide +kernel
theorem dX6_part_8 : decode cX6_part 8 = .ok (.iconst 0, 1) := by decide +kernel
theorem dX6_part_9 : decode cX6_part 9 = .ok (.bipush 9, 2) := by decide +kernel
theorem dX6_part_11 : decode cX6_part 11 = .ok (.invokestatic 41, 3) := by decide +kernel
theorem dX6_part_14 : decode cX6_part 14 = .ok (.ifCond .ne 12, 3) := by decide +kernel
theorem dX6_part_17 : decode cX6_part 17 = .ok (.iload_n 3, 1) := by decide +kernel
theorem dX6_part_18 : decode cX6_part 18 = .ok (.iconst 0, 1) := by decide +kernel
theorem dX6_part_19 : decode cX6_part 19 = .ok (.iconst 3, 1) := by decide +kernel
theorem dX6_part_20 : decode cX6_part 20 = .ok (.invokestatic 41, 3) := by decide +kernel
theorem dX6_part_23 : decode cX6_part 23 = .ok (.ifCond .eq 13, 3) := by decide +kernel
theorem dX6_part_26 : decode cX6_part 26 = .ok (.new 45, 3) := by decide +kernel
theorem dX6_part_29 : decode cX6_part 29 = .ok (.dup, 1) := by decide +kernel
theorem dX6_part_30 : decode cX6_part 30 = .ok (.ldc 47, 2) := by decide +kernel
theorem dX6_part_32 : decode cX6_part 32 = .ok (.invokespecial 49, 3) := by decide +kernel
theorem dX6_part_35 : decode cX6_part 35 = .ok (.athrow, 1) := by decide +kernel
theorem dX6_part_36 : decode cX6_part 36 = .ok (.aload_n 0, 1) := by decide +kernel
theorem dX6_part_37 : decode cX6_part 37 = .ok (.getfield 10, 3) := by decide +kernel
theorem dX6_part_40 : decode cX6_part 40 = .ok (.invokevirtual 52, 3) := by decide +kernel
theorem dX6_part_43 : decode cX6_part 43 = .ok (.istore 5, 2) := by decide +kernel
theorem dX6_part_45 : decode cX6_part 45 = .ok (.iload 5, 2) := by decide +kernel
theorem dX6_part_47 : decode cX6_part 47 = .ok (.bipush 60, 2) := by decide +kernel
theorem dX6_part_49 : decode cX6_part 49 = .ok (.if_icmp .lt 13, 3) := by decide +kernel
theorem dX6_part_52 : decode cX6_part 52 = .ok (.new 56, 3) := by decide +kernel
theorem dX6_part_55 : decode cX6_part 55 = .ok (.dup, 1) := by decide +kernel
theorem dX6_part_56 : decode cX6_part 56 = .ok (.ldc 58, 2) := by decide +kernel
theorem dX6_part_58 : decode cX6_part 58 = .ok (.invokespecial 60, 3) := by decide +kernel
theorem dX6_part_61 : decode cX6_part 61 = .ok (.athrow, 1) := by decide +kernel
theorem dX6_part_62 : decode cX6_part 62 = .ok (.aload_n 0, 1) := by decide +kernel
theorem dX6_part_63 : decode cX6_part 63 = .ok (.getfield 10, 3) := by decide +kernel
theorem dX6_part_66 : decode cX6_part 66 = .ok (.new 61, 3) := by decide +kernel
theorem dX6_part_69 : decode cX6_part 69 = .ok (.dup, 1) := by decide +kernel
theorem dX6_part_70 : decode cX6_part 70 = .ok (.iload 5, 2) := by decide +kernel
theorem dX6_part_72 : decode cX6_part 72 = .ok (.iload_n 1, 1) := by decide +kernel
theorem dX6_part_73 : decode cX6_part 73 = .ok (.iload_n 2, 1) := by decide +kernel
theorem dX6_part_74 : decode cX6_part 74 = .ok (.iload_n 3, 1) := by decide +kernel
theorem dX6_part_75 : decode cX6_part 75 = .ok (.aload 4, 2) := by decide +kernel
theorem dX6_part_77 : decode cX6_part 77 = .ok (.invokespecial 63, 3) := by decide +kernel
theorem dX6_part_80 : decode cX6_part 80 = .ok (.invokevirtual 66, 3) := by decide +kernel
theorem dX6_part_83 : decode cX6_part 83 = .ok (.pop, 1) := by decide +kernel
theorem dX6_part_84 : decode cX6_part 84 = .ok (.iload 5, 2) := by decide +kernel
theorem dX6_part_86 : decode cX6_part 86 = .ok (.ireturn, 1) := by decide +kernel
theorem dX6_limits_0 : decode cX6_limits 0 = .ok (.aload_n 0, 1) := by decide +kernel
theorem dX6_limits_1 : decode cX6_limits 1 = .ok (.iload_n 1, 1) := by decide +kernel
theorem dX6_limits_2 : decode cX6_limits 2 = .ok (.invokevirtual 37, 3) := by decide +kernel
theorem dX6_limits_5 : decode cX6_limits 5 = .ok (.astore 5, 2) := by decide +kernel
theorem dX6_limits_7 : decode cX6_limits 7 = .ok (.iload_n 2, 1) := by decide +kernel
theorem dX6_limits_8 : decode cX6_limits 8 = .ok (.iconst 0, 1) := by decide +kernel
theorem dX6_limits_9 : decode cX6_limits 9 = .ok (.ldc 70, 2) := by decide +kernel
theorem dX6_limits_11 : decode cX6_limits 11 = .ok (.invokestatic 41, 3) := by decide +kernel
theorem dX6_limits_14 : decode cX6_limits 14 = .ok (.ifCond .ne 24, 3) := by decide +kernel
theorem dX6_limits_17 : decode cX6_limits 17 = .ok (.iload_n 3, 1) := by decide +kernel
theorem dX6_limits_18 : decode cX6_limits 18 = .ok (.iconst 0, 1) := by decide +kernel
theorem dX6_limits_19 : decode cX6_limits 19 = .ok (.ldc 70, 2) := by decide +kernel
theorem dX6_limits_21 : decode cX6_limits 21 = .ok (.invokestatic 41, 3) := by decide +kernel
theorem dX6_limits_24 : decode cX6_limits 24 = .ok (.ifCond .ne 14, 3) := by decide +kernel
theorem dX6_limits_27 : decode cX6_limits 27 = .ok (.iload 4, 2) := by decide +kernel
theorem dX6_limits_29 : decode cX6_limits 29 = .ok (.iconst 0, 1) := by decide +kernel
theorem dX6_limits_30 : decode cX6_limits 30 = .ok (.ldc 70, 2) := by decide +kernel
theorem dX6_limits_32 : decode cX6_limits 32 = .ok (.invokestatic 41, 3) := by decide +kernel
theorem dX6_limits_35 : decode cX6_limits 35 = .ok (.ifCond .eq 13, 3) := by decide +kernel
theorem dX6_limits_38 : decode cX6_limits 38 = .ok (.new 45, 3) := by decide +kernel
theorem dX6_limits_41 : decode cX6_limits 41 = .ok (.dup, 1) := by decide +kernel
theorem dX6_limits_42 : decode cX6_limits 42 = .ok (.ldc 71, 2) := by decide +kernel
theorem dX6_limits_44 : decode cX6_limits 44 = .ok (.invokespecial 49, 3) := by decide +kernel
theorem dX6_limits_47 : decode cX6_limits 47 = .ok (.athrow, 1) := by decide +kernel
theorem dX6_limits_48 : decode cX6_limits 48 = .ok (.aload 5, 2) := by decide +kernel
theorem dX6_limits_50 : decode cX6_limits 50 = .ok (.getfield 73, 3) := by decide +kernel
theorem dX6_limits_53 : decode cX6_limits 53 = .ok (.istore 6, 2) := by decide +kernel
theorem dX6_limits_55 : decode cX6_limits 55 = .ok (.aload 5, 2) := by decide +kernel
theorem dX6_limits_57 : decode cX6_limits 57 = .ok (.iload_n 2, 1) := by decide +kernel
theorem dX6_limits_58 : decode cX6_limits 58 = .ok (.putfield 73, 3) := by decide +kernel
theorem dX6_limits_61 : decode cX6_limits 61 = .ok (.aload 5, 2) := by decide +kernel
theorem dX6_limits_63 : decode cX6_limits 63 = .ok (.iload_n 3, 1) := by decide +kernel
theorem dX6_limits_64 : decode cX6_limits 64 = .ok (.putfield 77, 3) := by decide +kernel
theorem dX6_limits_67 : decode cX6_limits 67 = .ok (.aload 5, 2) := by decide +kernel
theorem dX6_limits_69 : decode cX6_limits 69 = .ok (.iload 4, 2) := by decide +kernel
theorem dX6_limits_71 : decode cX6_limits 71 = .ok (.putfield 80, 3) := by decide +kernel
theorem dX6_limits_74 : decode cX6_limits 74 = .ok (.iload 6, 2) := by decide +kernel
theorem dX6_limits_76 : decode cX6_limits 76 = .ok (.ireturn, 1) := by decide +kernel
theorem dX6_fit_0 : decode cX6_fit 0 = .ok (.aload_n 0, 1) := by decide +kernel
theorem dX6_fit_1 : decode cX6_fit 1 = .ok (.iload_n 1, 1) := by decide +kernel
theorem dX6_fit_2 : decode cX6_fit 2 = .ok (.invokevirtual 83, 3) := by decide +kernel
theorem dX6_fit_5 : decode cX6_fit 5 = .ok (.astore_n 3, 1) := by decide +kernel
theorem dX6_fit_6 : decode cX6_fit 6 = .ok (.aload_n 0, 1) := by decide +kernel
theorem dX6_fit_7 : decode cX6_fit 7 = .ok (.iload_n 2, 1) := by decide +kernel
theorem dX6_fit_8 : decode cX6_fit 8 = .ok (.invokevirtual 83, 3) := by decide +kernel
theorem dX6_fit_11 : decode cX6_fit 11 = .ok (.astore 4, 2) := by decide +kernel
theorem dX6_fit_13 : decode cX6_fit 13 = .ok (.aload 4, 2) := by decide +kernel
theorem dX6_fit_15 : decode cX6_fit 15 = .ok (.getfield 87, 3) := by decide +kernel
theorem dX6_fit_18 : decode cX6_fit 18 = .ok (.aload_n 3, 1) := by decide +kernel
theorem dX6_fit_19 : decode cX6_fit 19 = .ok (.getfield 87, 3) := by decide +kernel
theorem dX6_fit_22 : decode cX6_fit 22 = .ok (.invokestatic 90, 3) := by decide +kernel
theorem dX6_fit_25 : decode cX6_fit 25 = .ok (.istore 5, 2) := by decide +kernel
theorem dX6_fit_27 : decode cX6_fit 27 = .ok (.iload 5, 2) := by decide +kernel
theorem dX6_fit_29 : decode cX6_fit 29 = .ok (.ifCond .ne 13, 3) := by decide +kernel
theorem dX6_fit_32 : decode cX6_fit 32 = .ok (.new 45, 3) := by decide +kernel
theorem dX6_fit_35 : decode cX6_fit 35 = .ok (.dup, 1) := by decide +kernel
theorem dX6_fit_36 : decode cX6_fit 36 = .ok (.ldc 94, 2) := by decide +kernel
theorem dX6_fit_38 : decode cX6_fit 38 = .ok (.invokespecial 49, 3) := by decide +kernel
theorem dX6_fit_41 : decode cX6_fit 41 = .ok (.athrow, 1) := by decide +kernel
theorem dX6_fit_42 : decode cX6_fit 42 = .ok (.aload_n 3, 1) := by decide +kernel
theorem dX6_fit_43 : decode cX6_fit 43 = .ok (.invokevirtual 96, 3) := by decide +kernel
theorem dX6_fit_46 : decode cX6_fit 46 = .ok (.ifCond .eq 10, 3) := by decide +kernel
theorem dX6_fit_49 : decode cX6_fit 49 = .ok (.aload_n 3, 1) := by decide +kernel
theorem dX6_fit_50 : decode cX6_fit 50 = .ok (.getfield 100, 3) := by decide +kernel
theorem dX6_fit_53 : decode cX6_fit 53 = .ok (.ifCond .eq 13, 3) := by decide +kernel
theorem dX6_fit_56 : decode cX6_fit 56 = .ok (.new 56, 3) := by decide +kernel
theorem dX6_fit_59 : decode cX6_fit 59 = .ok (.dup, 1) := by decide +kernel
theorem dX6_fit_60 : decode cX6_fit 60 = .ok (.ldc 104, 2) := by decide +kernel
theorem dX6_fit_62 : decode cX6_fit 62 = .ok (.invokespecial 60, 3) := by decide +kernel
theorem dX6_fit_65 : decode cX6_fit 65 = .ok (.athrow, 1) := by decide +kernel
theorem dX6_fit_66 : decode cX6_fit 66 = .ok (.aload 4, 2) := by decide +kernel
theorem dX6_fit_68 : decode cX6_fit 68 = .ok (.getfield 106, 3) := by decide +kernel
theorem dX6_fit_71 : decode cX6_fit 71 = .ok (.ifCond .ne 26, 3) := by decide +kernel
theorem dX6_fit_74 : decode cX6_fit 74 = .ok (.aload 4, 2) := by decide +kernel
theorem dX6_fit_76 : decode cX6_fit 76 = .ok (.invokevirtual 109, 3) := by decide +kernel
theorem dX6_fit_79 : decode cX6_fit 79 = .ok (.ifCond .ne 18, 3) := by decide +kernel
theorem dX6_fit_82 : decode cX6_fit 82 = .ok (.aload_n 0, 1) := by decide +kernel
theorem dX6_fit_83 : decode cX6_fit 83 = .ok (.aload 4, 2) := by decide +kernel
theorem dX6_fit_85 : decode cX6_fit 85 = .ok (.aload_n 3, 1) := by decide +kernel
theorem dX6_fit_86 : decode cX6_fit 86 = .ok (.getfield 87, 3) := by decide +kernel
theorem dX6_fit_89 : decode cX6_fit 89 = .ok (.invokevirtual 112, 3) := by decide +kernel
theorem dX6_fit_92 : decode cX6_fit 92 = .ok (.iload 5, 2) := by decide +kernel
theorem dX6_fit_94 : decode cX6_fit 94 = .ok (.if_icmp .lt 13, 3) := by decide +kernel
theorem dX6_fit_97 : decode cX6_fit 97 = .ok (.new 56, 3) := by decide +kernel
theorem dX6_fit_100 : decode cX6_fit 100 = .ok (.dup, 1) := by decide +kernel
theorem dX6_fit_101 : decode cX6_fit 101 = .ok (.ldc 116, 2) := by decide +kernel
theorem dX6_fit_103 : decode cX6_fit 103 = .ok (.invokespecial 60, 3) := by decide +kernel
theorem dX6_fit_106 : decode cX6_fit 106 = .ok (.athrow, 1) := by decide +kernel
theorem dX6_fit_107 : decode cX6_fit 107 = .ok (.aload_n 3, 1) := by decide +kernel
theorem dX6_fit_108 : decode cX6_fit 108 = .ok (.getfield 118, 3) := by decide +kernel
theorem dX6_fit_111 : decode cX6_fit 111 = .ok (.aload 4, 2) := by decide +kernel
theorem dX6_fit_113 : decode cX6_fit 113 = .ok (.getfield 118, 3) := by decide +kernel
theorem dX6_fit_116 : decode cX6_fit 116 = .ok (.isub, 1) := by decide +kernel
theorem dX6_fit_117 : decode cX6_fit 117 = .ok (.invokestatic 121, 3) := by decide +kernel
theorem dX6_fit_120 : decode cX6_fit 120 = .ok (.iconst 1, 1) := by decide +kernel
theorem dX6_fit_121 : decode cX6_fit 121 = .ok (.if_icmp .le 13, 3) := by decide +kernel
theorem dX6_fit_124 : decode cX6_fit 124 = .ok (.new 56, 3) := by decide +kernel
theorem dX6_fit_127 : decode cX6_fit 127 = .ok (.dup, 1) := by decide +kernel
theorem dX6_fit_128 : decode cX6_fit 128 = .ok (.ldc 127, 2) := by decide +kernel
theorem dX6_fit_130 : decode cX6_fit 130 = .ok (.invokespecial 60, 3) := by decide +kernel
theorem dX6_fit_133 : decode cX6_fit 133 = .ok (.athrow, 1) := by decide +kernel
theorem dX6_fit_134 : decode cX6_fit 134 = .ok (.aload_n 3, 1) := by decide +kernel
theorem dX6_fit_135 : decode cX6_fit 135 = .ok (.aload 4, 2) := by decide +kernel
theorem dX6_fit_137 : decode cX6_fit 137 = .ok (.putfield 129, 3) := by decide +kernel
theorem dX6_fit_140 : decode cX6_fit 140 = .ok (.aload_n 0, 1) := by decide +kernel
theorem dX6_fit_141 : decode cX6_fit 141 = .ok (.getfield 25, 3) := by decide +kernel
theorem dX6_fit_144 : decode cX6_fit 144 = .ok (.iload_n 1, 1) := by decide +kernel
theorem dX6_fit_145 : decode cX6_fit 145 = .ok (.iload_n 2, 1) := by decide +kernel
theorem dX6_fit_146 : decode cX6_fit 146 = .ok (.invokevirtual 133, 3) := by decide +kernel
theorem dX6_fit_149 : decode cX6_fit 149 = .ok (.aload 4, 2) := by decide +kernel
theorem dX6_fit_151 : decode cX6_fit 151 = .ok (.invokevirtual 137, 3) := by decide +kernel
theorem dX6_fit_154 : decode cX6_fit 154 = .ok (.iconst 0, 1) := by decide +kernel
theorem dX6_fit_155 : decode cX6_fit 155 = .ok (.putfield 141, 3) := by decide +kernel
theorem dX6_fit_158 : decode cX6_fit 158 = .ok (.aload_n 0, 1) := by decide +kernel
theorem dX6_fit_159 : decode cX6_fit 159 = .ok (.aload 4, 2) := by decide +kernel
theorem dX6_fit_161 : decode cX6_fit 161 = .ok (.invokevirtual 144, 3) := by decide +kernel
theorem dX6_fit_164 : decode cX6_fit 164 = .ok (.ireturn, 1) := by decide +kernel
theorem dX6_take_0 : decode cX6_take 0 = .ok (.aload_n 0, 1) := by decide +kernel
theorem dX6_take_1 : decode cX6_take 1 = .ok (.iload_n 1, 1) := by decide +kernel
theorem dX6_take_2 : decode cX6_take 2 = .ok (.invokevirtual 83, 3) := by decide +kernel
theorem dX6_take_5 : decode cX6_take 5 = .ok (.astore_n 2, 1) := by decide +kernel
theorem dX6_take_6 : decode cX6_take 6 = .ok (.aload_n 2, 1) := by decide +kernel
theorem dX6_take_7 : decode cX6_take 7 = .ok (.getfield 129, 3) := by decide +kernel
theorem dX6_take_10 : decode cX6_take 10 = .ok (.astore_n 3, 1) := by decide +kernel
theorem dX6_take_11 : decode cX6_take 11 = .ok (.aload_n 3, 1) := by decide +kernel
theorem dX6_take_12 : decode cX6_take 12 = .ok (.ifnull 10, 3) := by decide +kernel
theorem dX6_take_15 : decode cX6_take 15 = .ok (.aload_n 2, 1) := by decide +kernel
theorem dX6_take_16 : decode cX6_take 16 = .ok (.invokevirtual 109, 3) := by decide +kernel
theorem dX6_take_19 : decode cX6_take 19 = .ok (.ifCond .eq 13, 3) := by decide +kernel
theorem dX6_take_22 : decode cX6_take 22 = .ok (.new 56, 3) := by decide +kernel
theorem dX6_take_25 : decode cX6_take 25 = .ok (.dup, 1) := by decide +kernel
theorem dX6_take_26 : decode cX6_take 26 = .ok (.ldc 147, 2) := by decide +kernel
theorem dX6_take_28 : decode cX6_take 28 = .ok (.invokespecial 60, 3) := by decide +kernel
theorem dX6_take_31 : decode cX6_take 31 = .ok (.athrow, 1) := by decide +kernel
theorem dX6_take_32 : decode cX6_take 32 = .ok (.aload_n 3, 1) := by decide +kernel
theorem dX6_take_33 : decode cX6_take 33 = .ok (.invokevirtual 137, 3) := by decide +kernel
theorem dX6_take_36 : decode cX6_take 36 = .ok (.iconst 0, 1) := by decide +kernel
theorem dX6_take_37 : decode cX6_take 37 = .ok (.putfield 141, 3) := by decide +kernel
theorem dX6_take_40 : decode cX6_take 40 = .ok (.aload_n 2, 1) := by decide +kernel
theorem dX6_take_41 : decode cX6_take 41 = .ok (.aconst_null, 1) := by decide +kernel
theorem dX6_take_42 : decode cX6_take 42 = .ok (.putfield 129, 3) := by decide +kernel
theorem dX6_take_45 : decode cX6_take 45 = .ok (.aload_n 0, 1) := by decide +kernel
theorem dX6_take_46 : decode cX6_take 46 = .ok (.getfield 25, 3) := by decide +kernel
theorem dX6_take_49 : decode cX6_take 49 = .ok (.iload_n 1, 1) := by decide +kernel
theorem dX6_take_50 : decode cX6_take 50 = .ok (.iconst (-1), 1) := by decide +kernel
theorem dX6_take_51 : decode cX6_take 51 = .ok (.invokevirtual 133, 3) := by decide +kernel
theorem dX6_take_54 : decode cX6_take 54 = .ok (.aload_n 3, 1) := by decide +kernel
theorem dX6_take_55 : decode cX6_take 55 = .ok (.getfield 149, 3) := by decide +kernel
theorem dX6_take_58 : decode cX6_take 58 = .ok (.ireturn, 1) := by decide +kernel
theorem dX6_scrap_0 : decode cX6_scrap 0 = .ok (.aload_n 0, 1) := by decide +kernel
theorem dX6_scrap_1 : decode cX6_scrap 1 = .ok (.iload_n 1, 1) := by decide +kernel
theorem dX6_scrap_2 : decode cX6_scrap 2 = .ok (.invokevirtual 83, 3) := by decide +kernel
theorem dX6_scrap_5 : decode cX6_scrap 5 = .ok (.astore_n 2, 1) := by decide +kernel
theorem dX6_scrap_6 : decode cX6_scrap 6 = .ok (.aload_n 2, 1) := by decide +kernel
theorem dX6_scrap_7 : decode cX6_scrap 7 = .ok (.invokevirtual 96, 3) := by decide +kernel
theorem dX6_scrap_10 : decode cX6_scrap 10 = .ok (.ifCond .eq 11, 3) := by decide +kernel
theorem dX6_scrap_13 : decode cX6_scrap 13 = .ok (.aload_n 0, 1) := by decide +kernel
theorem dX6_scrap_14 : decode cX6_scrap 14 = .ok (.aload_n 2, 1) := by decide +kernel
theorem dX6_scrap_15 : decode cX6_scrap 15 = .ok (.invokevirtual 144, 3) := by decide +kernel
theorem dX6_scrap_18 : decode cX6_scrap 18 = .ok (.ifCond .le 13, 3) := by decide +kernel
theorem dX6_scrap_21 : decode cX6_scrap 21 = .ok (.new 56, 3) := by decide +kernel
theorem dX6_scrap_24 : decode cX6_scrap 24 = .ok (.dup, 1) := by decide +kernel
theorem dX6_scrap_25 : decode cX6_scrap 25 = .ok (.ldc 152, 2) := by decide +kernel
theorem dX6_scrap_27 : decode cX6_scrap 27 = .ok (.invokespecial 60, 3) := by decide +kernel
theorem dX6_scrap_30 : decode cX6_scrap 30 = .ok (.athrow, 1) := by decide +kernel
theorem dX6_scrap_31 : decode cX6_scrap 31 = .ok (.aload_n 2, 1) := by decide +kernel
theorem dX6_scrap_32 : decode cX6_scrap 32 = .ok (.invokevirtual 109, 3) := by decide +kernel
theorem dX6_scrap_35 : decode cX6_scrap 35 = .ok (.ifCond .ne 14, 3) := by decide +kernel
theorem dX6_scrap_38 : decode cX6_scrap 38 = .ok (.aload_n 0, 1) := by decide +kernel
theorem dX6_scrap_39 : decode cX6_scrap 39 = .ok (.getfield 32, 3) := by decide +kernel
theorem dX6_scrap_42 : decode cX6_scrap 42 = .ok (.aload_n 2, 1) := by decide +kernel
theorem dX6_scrap_43 : decode cX6_scrap 43 = .ok (.invokevirtual 154, 3) := by decide +kernel
theorem dX6_scrap_46 : decode cX6_scrap 46 = .ok (.ifCond .eq 13, 3) := by decide +kernel
theorem dX6_scrap_49 : decode cX6_scrap 49 = .ok (.new 56, 3) := by decide +kernel
theorem dX6_scrap_52 : decode cX6_scrap 52 = .ok (.dup, 1) := by decide +kernel
theorem dX6_scrap_53 : decode cX6_scrap 53 = .ok (.ldc 158, 2) := by decide +kernel
theorem dX6_scrap_55 : decode cX6_scrap 55 = .ok (.invokespecial 60, 3) := by decide +kernel
theorem dX6_scrap_58 : decode cX6_scrap 58 = .ok (.athrow, 1) := by decide +kernel
theorem dX6_scrap_59 : decode cX6_scrap 59 = .ok (.aload_n 2, 1) := by decide +kernel
theorem dX6_scrap_60 : decode cX6_scrap 60 = .ok (.iconst 1, 1) := by decide +kernel
theorem dX6_scrap_61 : decode cX6_scrap 61 = .ok (.putfield 106, 3) := by decide +kernel
theorem dX6_scrap_64 : decode cX6_scrap 64 = .ok (.aload_n 0, 1) := by decide +kernel
theorem dX6_scrap_65 : decode cX6_scrap 65 = .ok (.getfield 25, 3) := by decide +kernel
theorem dX6_scrap_68 : decode cX6_scrap 68 = .ok (.iload_n 1, 1) := by decide +kernel
theorem dX6_scrap_69 : decode cX6_scrap 69 = .ok (.bipush (-2), 2) := by decide +kernel
theorem dX6_scrap_71 : decode cX6_scrap 71 = .ok (.invokevirtual 133, 3) := by decide +kernel
theorem dX6_scrap_74 : decode cX6_scrap 74 = .ok (.return_, 1) := by decide +kernel
theorem dX6_run_0 : decode cX6_run 0 = .ok (.aload_n 0, 1) := by decide +kernel
theorem dX6_run_1 : decode cX6_run 1 = .ok (.iload_n 1, 1) := by decide +kernel
theorem dX6_run_2 : decode cX6_run 2 = .ok (.invokevirtual 160, 3) := by decide +kernel
theorem dX6_run_5 : decode cX6_run 5 = .ok (.astore 4, 2) := by decide +kernel
theorem dX6_run_7 : decode cX6_run 7 = .ok (.iload_n 2, 1) := by decide +kernel
theorem dX6_run_8 : decode cX6_run 8 = .ok (.iload_n 3, 1) := by decide +kernel
theorem dX6_run_9 : decode cX6_run 9 = .ok (.invokestatic 163, 3) := by decide +kernel
theorem dX6_run_12 : decode cX6_run 12 = .ok (.aload 4, 2) := by decide +kernel
theorem dX6_run_14 : decode cX6_run 14 = .ok (.getfield 141, 3) := by decide +kernel
theorem dX6_run_17 : decode cX6_run 17 = .ok (.ifCond .eq 11, 3) := by decide +kernel
theorem dX6_run_20 : decode cX6_run 20 = .ok (.aload 4, 2) := by decide +kernel
theorem dX6_run_22 : decode cX6_run 22 = .ok (.invokevirtual 109, 3) := by decide +kernel
theorem dX6_run_25 : decode cX6_run 25 = .ok (.ifCond .eq 13, 3) := by decide +kernel
theorem dX6_run_28 : decode cX6_run 28 = .ok (.new 56, 3) := by decide +kernel
theorem dX6_run_31 : decode cX6_run 31 = .ok (.dup, 1) := by decide +kernel
theorem dX6_run_32 : decode cX6_run 32 = .ok (.ldc 166, 2) := by decide +kernel
theorem dX6_run_34 : decode cX6_run 34 = .ok (.invokespecial 60, 3) := by decide +kernel
theorem dX6_run_37 : decode cX6_run 37 = .ok (.athrow, 1) := by decide +kernel
theorem dX6_run_38 : decode cX6_run 38 = .ok (.aload 4, 2) := by decide +kernel
theorem dX6_run_40 : decode cX6_run 40 = .ok (.iconst 0, 1) := by decide +kernel
theorem dX6_run_41 : decode cX6_run 41 = .ok (.putfield 141, 3) := by decide +kernel
theorem dX6_run_44 : decode cX6_run 44 = .ok (.aload_n 0, 1) := by decide +kernel
theorem dX6_run_45 : decode cX6_run 45 = .ok (.getfield 25, 3) := by decide +kernel
theorem dX6_run_48 : decode cX6_run 48 = .ok (.iload_n 1, 1) := by decide +kernel
theorem dX6_run_49 : decode cX6_run 49 = .ok (.iload_n 2, 1) := by decide +kernel
theorem dX6_run_50 : decode cX6_run 50 = .ok (.invokevirtual 168, 3) := by decide +kernel
theorem dX6_run_53 : decode cX6_run 53 = .ok (.iconst (-1), 1) := by decide +kernel
theorem dX6_run_54 : decode cX6_run 54 = .ok (.istore 5, 2) := by decide +kernel
theorem dX6_run_56 : decode cX6_run 56 = .ok (.iconst 0, 1) := by decide +kernel
theorem dX6_run_57 : decode cX6_run 57 = .ok (.istore 6, 2) := by decide +kernel
theorem dX6_run_59 : decode cX6_run 59 = .ok (.iload 6, 2) := by decide +kernel
theorem dX6_run_61 : decode cX6_run 61 = .ok (.aload_n 0, 1) := by decide +kernel
theorem dX6_run_62 : decode cX6_run 62 = .ok (.getfield 10, 3) := by decide +kernel
theorem dX6_run_65 : decode cX6_run 65 = .ok (.invokevirtual 52, 3) := by decide +kernel
theorem dX6_run_68 : decode cX6_run 68 = .ok (.if_icmp .ge 65, 3) := by decide +kernel
theorem dX6_run_71 : decode cX6_run 71 = .ok (.aload_n 0, 1) := by decide +kernel
theorem dX6_run_72 : decode cX6_run 72 = .ok (.getfield 10, 3) := by decide +kernel
theorem dX6_run_75 : decode cX6_run 75 = .ok (.iload 6, 2) := by decide +kernel
theorem dX6_run_77 : decode cX6_run 77 = .ok (.invokevirtual 171, 3) := by decide +kernel
theorem dX6_run_80 : decode cX6_run 80 = .ok (.checkcast 61, 3) := by decide +kernel
theorem dX6_run_83 : decode cX6_run 83 = .ok (.astore 7, 2) := by decide +kernel
theorem dX6_run_85 : decode cX6_run 85 = .ok (.aload 7, 2) := by decide +kernel
theorem dX6_run_87 : decode cX6_run 87 = .ok (.invokevirtual 137, 3) := by decide +kernel
theorem dX6_run_90 : decode cX6_run 90 = .ok (.aload 4, 2) := by decide +kernel
theorem dX6_run_92 : decode cX6_run 92 = .ok (.if_acmp .ne 35, 3) := by decide +kernel
theorem dX6_run_95 : decode cX6_run 95 = .ok (.aload 7, 2) := by decide +kernel
theorem dX6_run_97 : decode cX6_run 97 = .ok (.iload_n 2, 1) := by decide +kernel
theorem dX6_run_98 : decode cX6_run 98 = .ok (.iload_n 2, 1) := by decide +kernel
theorem dX6_run_99 : decode cX6_run 99 = .ok (.iload_n 3, 1) := by decide +kernel
theorem dX6_run_100 : decode cX6_run 100 = .ok (.invokestatic 175, 3) := by decide +kernel
theorem dX6_run_103 : decode cX6_run 103 = .ok (.imul, 1) := by decide +kernel
theorem dX6_run_104 : decode cX6_run 104 = .ok (.invokevirtual 178, 3) := by decide +kernel
theorem dX6_run_107 : decode cX6_run 107 = .ok (.iload 5, 2) := by decide +kernel
theorem dX6_run_109 : decode cX6_run 109 = .ok (.iconst (-1), 1) := by decide +kernel
theorem dX6_run_110 : decode cX6_run 110 = .ok (.if_icmp .ne 17, 3) := by decide +kernel
theorem dX6_run_113 : decode cX6_run 113 = .ok (.aload 7, 2) := by decide +kernel
theorem dX6_run_115 : decode cX6_run 115 = .ok (.getfield 181, 3) := by decide +kernel
theorem dX6_run_118 : decode cX6_run 118 = .ok (.bipush 100, 2) := by decide +kernel
theorem dX6_run_120 : decode cX6_run 120 = .ok (.if_icmp .lt 7, 3) := by decide +kernel
theorem dX6_run_123 : decode cX6_run 123 = .ok (.iload 6, 2) := by decide +kernel
theorem dX6_run_125 : decode cX6_run 125 = .ok (.istore 5, 2) := by decide +kernel
theorem dX6_run_127 : decode cX6_run 127 = .ok (.iinc 6 1, 3) := by decide +kernel
theorem dX6_run_130 : decode cX6_run 130 = .ok (.goto (-71), 3) := by decide +kernel
theorem dX6_run_133 : decode cX6_run 133 = .ok (.iload 5, 2) := by decide +kernel
theorem dX6_run_135 : decode cX6_run 135 = .ok (.iconst (-1), 1) := by decide +kernel
theorem dX6_run_136 : decode cX6_run 136 = .ok (.if_icmp .eq 9, 3) := by decide +kernel
theorem dX6_run_139 : decode cX6_run 139 = .ok (.aload_n 0, 1) := by decide +kernel
theorem dX6_run_140 : decode cX6_run 140 = .ok (.aload 4, 2) := by decide +kernel
theorem dX6_run_142 : decode cX6_run 142 = .ok (.invokevirtual 184, 3) := by decide +kernel
theorem dX6_run_145 : decode cX6_run 145 = .ok (.iload 5, 2) := by decide +kernel
theorem dX6_run_147 : decode cX6_run 147 = .ok (.ireturn, 1) := by decide +kernel
theorem dX6_turn_0 : decode cX6_turn 0 = .ok (.aload_n 0, 1) := by decide +kernel
theorem dX6_turn_1 : decode cX6_turn 1 = .ok (.iload_n 1, 1) := by decide +kernel
theorem dX6_turn_2 : decode cX6_turn 2 = .ok (.invokevirtual 83, 3) := by decide +kernel
theorem dX6_turn_5 : decode cX6_turn 5 = .ok (.astore_n 2, 1) := by decide +kernel
theorem dX6_turn_6 : decode cX6_turn 6 = .ok (.aload_n 2, 1) := by decide +kernel
theorem dX6_turn_7 : decode cX6_turn 7 = .ok (.getfield 87, 3) := by decide +kernel
theorem dX6_turn_10 : decode cX6_turn 10 = .ok (.iconst 2, 1) := by decide +kernel
theorem dX6_turn_11 : decode cX6_turn 11 = .ok (.if_icmp .eq 13, 3) := by decide +kernel
theorem dX6_turn_14 : decode cX6_turn 14 = .ok (.new 45, 3) := by decide +kernel
theorem dX6_turn_17 : decode cX6_turn 17 = .ok (.dup, 1) := by decide +kernel
theorem dX6_turn_18 : decode cX6_turn 18 = .ok (.ldc 188, 2) := by decide +kernel
theorem dX6_turn_20 : decode cX6_turn 20 = .ok (.invokespecial 49, 3) := by decide +kernel
theorem dX6_turn_23 : decode cX6_turn 23 = .ok (.athrow, 1) := by decide +kernel
theorem dX6_turn_24 : decode cX6_turn 24 = .ok (.aload_n 0, 1) := by decide +kernel
theorem dX6_turn_25 : decode cX6_turn 25 = .ok (.aload_n 2, 1) := by decide +kernel
theorem dX6_turn_26 : decode cX6_turn 26 = .ok (.iconst 0, 1) := by decide +kernel
theorem dX6_turn_27 : decode cX6_turn 27 = .ok (.invokevirtual 190, 3) := by decide +kernel
theorem dX6_turn_30 : decode cX6_turn 30 = .ok (.astore_n 3, 1) := by decide +kernel
theorem dX6_turn_31 : decode cX6_turn 31 = .ok (.aload_n 0, 1) := by decide +kernel
theorem dX6_turn_32 : decode cX6_turn 32 = .ok (.aload_n 2, 1) := by decide +kernel
theorem dX6_turn_33 : decode cX6_turn 33 = .ok (.iconst 1, 1) := by decide +kernel
theorem dX6_turn_34 : decode cX6_turn 34 = .ok (.invokevirtual 190, 3) := by decide +kernel
theorem dX6_turn_37 : decode cX6_turn 37 = .ok (.astore 4, 2) := by decide +kernel
theorem dX6_turn_39 : decode cX6_turn 39 = .ok (.aload_n 3, 1) := by decide +kernel
theorem dX6_turn_40 : decode cX6_turn 40 = .ok (.ifnull 15, 3) := by decide +kernel
theorem dX6_turn_43 : decode cX6_turn 43 = .ok (.aload 4, 2) := by decide +kernel
theorem dX6_turn_45 : decode cX6_turn 45 = .ok (.ifnull 10, 3) := by decide +kernel
theorem dX6_turn_48 : decode cX6_turn 48 = .ok (.aload_n 2, 1) := by decide +kernel
theorem dX6_turn_49 : decode cX6_turn 49 = .ok (.invokevirtual 109, 3) := by decide +kernel
theorem dX6_turn_52 : decode cX6_turn 52 = .ok (.ifCond .eq 13, 3) := by decide +kernel
theorem dX6_turn_55 : decode cX6_turn 55 = .ok (.new 56, 3) := by decide +kernel
theorem dX6_turn_58 : decode cX6_turn 58 = .ok (.dup, 1) := by decide +kernel
theorem dX6_turn_59 : decode cX6_turn 59 = .ok (.ldc 194, 2) := by decide +kernel
theorem dX6_turn_61 : decode cX6_turn 61 = .ok (.invokespecial 60, 3) := by decide +kernel
theorem dX6_turn_64 : decode cX6_turn 64 = .ok (.athrow, 1) := by decide +kernel
theorem dX6_turn_65 : decode cX6_turn 65 = .ok (.aload_n 3, 1) := by decide +kernel
theorem dX6_turn_66 : decode cX6_turn 66 = .ok (.getfield 196, 3) := by decide +kernel
theorem dX6_turn_69 : decode cX6_turn 69 = .ok (.aload 4, 2) := by decide +kernel
theorem dX6_turn_71 : decode cX6_turn 71 = .ok (.getfield 196, 3) := by decide +kernel
theorem dX6_turn_74 : decode cX6_turn 74 = .ok (.iadd, 1) := by decide +kernel
theorem dX6_turn_75 : decode cX6_turn 75 = .ok (.istore 5, 2) := by decide +kernel
theorem dX6_turn_77 : decode cX6_turn 77 = .ok (.aload_n 3, 1) := by decide +kernel
theorem dX6_turn_78 : decode cX6_turn 78 = .ok (.invokevirtual 201, 3) := by decide +kernel
theorem dX6_turn_81 : decode cX6_turn 81 = .ok (.aload 4, 2) := by decide +kernel
theorem dX6_turn_83 : decode cX6_turn 83 = .ok (.invokevirtual 201, 3) := by decide +kernel
theorem dX6_turn_86 : decode cX6_turn 86 = .ok (.aload_n 3, 1) := by decide +kernel
theorem dX6_turn_87 : decode cX6_turn 87 = .ok (.getfield 196, 3) := by decide +kernel
theorem dX6_turn_90 : decode cX6_turn 90 = .ok (.aload 4, 2) := by decide +kernel
theorem dX6_turn_92 : decode cX6_turn 92 = .ok (.getfield 196, 3) := by decide +kernel
theorem dX6_turn_95 : decode cX6_turn 95 = .ok (.invokestatic 204, 3) := by decide +kernel
theorem dX6_turn_98 : decode cX6_turn 98 = .ok (.istore 6, 2) := by decide +kernel
theorem dX6_turn_100 : decode cX6_turn 100 = .ok (.aload_n 3, 1) := by decide +kernel
theorem dX6_turn_101 : decode cX6_turn 101 = .ok (.iload 6, 2) := by decide +kernel
theorem dX6_turn_103 : decode cX6_turn 103 = .ok (.putfield 196, 3) := by decide +kernel
theorem dX6_turn_106 : decode cX6_turn 106 = .ok (.aload 4, 2) := by decide +kernel
theorem dX6_turn_108 : decode cX6_turn 108 = .ok (.iload 6, 2) := by decide +kernel
theorem dX6_turn_110 : decode cX6_turn 110 = .ok (.putfield 196, 3) := by decide +kernel
theorem dX6_turn_113 : decode cX6_turn 113 = .ok (.iload 5, 2) := by decide +kernel
theorem dX6_turn_115 : decode cX6_turn 115 = .ok (.iconst 2, 1) := by decide +kernel
theorem dX6_turn_116 : decode cX6_turn 116 = .ok (.iload 6, 2) := by decide +kernel
theorem dX6_turn_118 : decode cX6_turn 118 = .ok (.imul, 1) := by decide +kernel
theorem dX6_turn_119 : decode cX6_turn 119 = .ok (.isub, 1) := by decide +kernel
theorem dX6_turn_120 : decode cX6_turn 120 = .ok (.ireturn, 1) := by decide +kernel
theorem dX6_gate_0 : decode cX6_gate 0 = .ok (.aload_n 0, 1) := by decide +kernel
theorem dX6_gate_1 : decode cX6_gate 1 = .ok (.iload_n 1, 1) := by decide +kernel
theorem dX6_gate_2 : decode cX6_gate 2 = .ok (.invokevirtual 207, 3) := by decide +kernel
theorem dX6_gate_5 : decode cX6_gate 5 = .ok (.astore_n 3, 1) := by decide +kernel
theorem dX6_gate_6 : decode cX6_gate 6 = .ok (.iload_n 2, 1) := by decide +kernel
theorem dX6_gate_7 : decode cX6_gate 7 = .ok (.bipush (-5), 2) := by decide +kernel
theorem dX6_gate_9 : decode cX6_gate 9 = .ok (.iconst 5, 1) := by decide +kernel
theorem dX6_gate_10 : decode cX6_gate 10 = .ok (.invokestatic 41, 3) := by decide +kernel
theorem dX6_gate_13 : decode cX6_gate 13 = .ok (.ifCond .eq 13, 3) := by decide +kernel
theorem dX6_gate_16 : decode cX6_gate 16 = .ok (.new 45, 3) := by decide +kernel
theorem dX6_gate_19 : decode cX6_gate 19 = .ok (.dup, 1) := by decide +kernel
theorem dX6_gate_20 : decode cX6_gate 20 = .ok (.ldc 211, 2) := by decide +kernel
theorem dX6_gate_22 : decode cX6_gate 22 = .ok (.invokespecial 49, 3) := by decide +kernel
theorem dX6_gate_25 : decode cX6_gate 25 = .ok (.athrow, 1) := by decide +kernel
theorem dX6_gate_26 : decode cX6_gate 26 = .ok (.aload_n 3, 1) := by decide +kernel
theorem dX6_gate_27 : decode cX6_gate 27 = .ok (.aload_n 3, 1) := by decide +kernel
theorem dX6_gate_28 : decode cX6_gate 28 = .ok (.getfield 213, 3) := by decide +kernel
theorem dX6_gate_31 : decode cX6_gate 31 = .ok (.iload_n 2, 1) := by decide +kernel
theorem dX6_gate_32 : decode cX6_gate 32 = .ok (.iadd, 1) := by decide +kernel
theorem dX6_gate_33 : decode cX6_gate 33 = .ok (.putfield 216, 3) := by decide +kernel
theorem dX6_gate_36 : decode cX6_gate 36 = .ok (.aload_n 3, 1) := by decide +kernel
theorem dX6_gate_37 : decode cX6_gate 37 = .ok (.getfield 216, 3) := by decide +kernel
theorem dX6_gate_40 : decode cX6_gate 40 = .ok (.ireturn, 1) := by decide +kernel
theorem dX6_examine_0 : decode cX6_examine 0 = .ok (.aload_n 0, 1) := by decide +kernel
theorem dX6_examine_1 : decode cX6_examine 1 = .ok (.iload_n 1, 1) := by decide +kernel
theorem dX6_examine_2 : decode cX6_examine 2 = .ok (.invokevirtual 83, 3) := by decide +kernel
theorem dX6_examine_5 : decode cX6_examine 5 = .ok (.astore_n 2, 1) := by decide +kernel
theorem dX6_examine_6 : decode cX6_examine 6 = .ok (.aload_n 2, 1) := by decide +kernel
theorem dX6_examine_7 : decode cX6_examine 7 = .ok (.invokevirtual 219, 3) := by decide +kernel
theorem dX6_examine_10 : decode cX6_examine 10 = .ok (.ifCond .eq 17, 3) := by decide +kernel
theorem dX6_examine_13 : decode cX6_examine 13 = .ok (.aload_n 2, 1) := by decide +kernel
theorem dX6_examine_14 : decode cX6_examine 14 = .ok (.getfield 106, 3) := by decide +kernel
theorem dX6_examine_17 : decode cX6_examine 17 = .ok (.ifCond .ne 10, 3) := by decide +kernel
theorem dX6_examine_20 : decode cX6_examine 20 = .ok (.aload_n 2, 1) := by decide +kernel
theorem dX6_examine_21 : decode cX6_examine 21 = .ok (.invokevirtual 109, 3) := by decide +kernel
theorem dX6_examine_24 : decode cX6_examine 24 = .ok (.ifCond .eq 13, 3) := by decide +kernel
theorem dX6_examine_27 : decode cX6_examine 27 = .ok (.new 56, 3) := by decide +kernel
theorem dX6_examine_30 : decode cX6_examine 30 = .ok (.dup, 1) := by decide +kernel
theorem dX6_examine_31 : decode cX6_examine 31 = .ok (.ldc 222, 2) := by decide +kernel
theorem dX6_examine_33 : decode cX6_examine 33 = .ok (.invokespecial 60, 3) := by decide +kernel
theorem dX6_examine_36 : decode cX6_examine 36 = .ok (.athrow, 1) := by decide +kernel
theorem dX6_examine_37 : decode cX6_examine 37 = .ok (.aload_n 2, 1) := by decide +kernel
theorem dX6_examine_38 : decode cX6_examine 38 = .ok (.getfield 224, 3) := by decide +kernel
theorem dX6_examine_41 : decode cX6_examine 41 = .ok (.istore_n 3, 1) := by decide +kernel
theorem dX6_examine_42 : decode cX6_examine 42 = .ok (.aload_n 2, 1) := by decide +kernel
theorem dX6_examine_43 : decode cX6_examine 43 = .ok (.iconst 0, 1) := by decide +kernel
theorem dX6_examine_44 : decode cX6_examine 44 = .ok (.putfield 224, 3) := by decide +kernel
theorem dX6_examine_47 : decode cX6_examine 47 = .ok (.aload_n 2, 1) := by decide +kernel
theorem dX6_examine_48 : decode cX6_examine 48 = .ok (.iconst 0, 1) := by decide +kernel
theorem dX6_examine_49 : decode cX6_examine 49 = .ok (.putfield 227, 3) := by decide +kernel
theorem dX6_examine_52 : decode cX6_examine 52 = .ok (.iload_n 3, 1) := by decide +kernel
theorem dX6_examine_53 : decode cX6_examine 53 = .ok (.ireturn, 1) := by decide +kernel
theorem dX6_waive_0 : decode cX6_waive 0 = .ok (.aload_n 0, 1) := by decide +kernel
theorem dX6_waive_1 : decode cX6_waive 1 = .ok (.iload_n 1, 1) := by decide +kernel
theorem dX6_waive_2 : decode cX6_waive 2 = .ok (.invokevirtual 83, 3) := by decide +kernel
theorem dX6_waive_5 : decode cX6_waive 5 = .ok (.astore_n 3, 1) := by decide +kernel
theorem dX6_waive_6 : decode cX6_waive 6 = .ok (.iload_n 2, 1) := by decide +kernel
theorem dX6_waive_7 : decode cX6_waive 7 = .ok (.iconst 1, 1) := by decide +kernel
theorem dX6_waive_8 : decode cX6_waive 8 = .ok (.sipush 999, 3) := by decide +kernel
theorem dX6_waive_11 : decode cX6_waive 11 = .ok (.invokestatic 41, 3) := by decide +kernel
theorem dX6_waive_14 : decode cX6_waive 14 = .ok (.ifCond .eq 13, 3) := by decide +kernel
theorem dX6_waive_17 : decode cX6_waive 17 = .ok (.new 45, 3) := by decide +kernel
theorem dX6_waive_20 : decode cX6_waive 20 = .ok (.dup, 1) := by decide +kernel
theorem dX6_waive_21 : decode cX6_waive 21 = .ok (.ldc 230, 2) := by decide +kernel
theorem dX6_waive_23 : decode cX6_waive 23 = .ok (.invokespecial 49, 3) := by decide +kernel
theorem dX6_waive_26 : decode cX6_waive 26 = .ok (.athrow, 1) := by decide +kernel
theorem dX6_waive_27 : decode cX6_waive 27 = .ok (.aload_n 3, 1) := by decide +kernel
theorem dX6_waive_28 : decode cX6_waive 28 = .ok (.getfield 232, 3) := by decide +kernel
theorem dX6_waive_31 : decode cX6_waive 31 = .ok (.getfield 77, 3) := by decide +kernel
theorem dX6_waive_34 : decode cX6_waive 34 = .ok (.ifCond .eq 10, 3) := by decide +kernel
theorem dX6_waive_37 : decode cX6_waive 37 = .ok (.aload_n 3, 1) := by decide +kernel
theorem dX6_waive_38 : decode cX6_waive 38 = .ok (.getfield 227, 3) := by decide +kernel
theorem dX6_waive_41 : decode cX6_waive 41 = .ok (.ifCond .le 13, 3) := by decide +kernel
theorem dX6_waive_44 : decode cX6_waive 44 = .ok (.new 56, 3) := by decide +kernel
theorem dX6_waive_47 : decode cX6_waive 47 = .ok (.dup, 1) := by decide +kernel
theorem dX6_waive_48 : decode cX6_waive 48 = .ok (.ldc 236, 2) := by decide +kernel
theorem dX6_waive_50 : decode cX6_waive 50 = .ok (.invokespecial 60, 3) := by decide +kernel
theorem dX6_waive_53 : decode cX6_waive 53 = .ok (.athrow, 1) := by decide +kernel
theorem dX6_waive_54 : decode cX6_waive 54 = .ok (.aload_n 3, 1) := by decide +kernel
theorem dX6_waive_55 : decode cX6_waive 55 = .ok (.iload_n 2, 1) := by decide +kernel
theorem dX6_waive_56 : decode cX6_waive 56 = .ok (.putfield 227, 3) := by decide +kernel
theorem dX6_waive_59 : decode cX6_waive 59 = .ok (.return_, 1) := by decide +kernel
theorem dX6_flaw_0 : decode cX6_flaw 0 = .ok (.aload_n 0, 1) := by decide +kernel
theorem dX6_flaw_1 : decode cX6_flaw 1 = .ok (.iload_n 1, 1) := by decide +kernel
theorem dX6_flaw_2 : decode cX6_flaw 2 = .ok (.invokevirtual 83, 3) := by decide +kernel
theorem dX6_flaw_5 : decode cX6_flaw 5 = .ok (.astore_n 3, 1) := by decide +kernel
theorem dX6_flaw_6 : decode cX6_flaw 6 = .ok (.aload_n 3, 1) := by decide +kernel
theorem dX6_flaw_7 : decode cX6_flaw 7 = .ok (.getfield 87, 3) := by decide +kernel
theorem dX6_flaw_10 : decode cX6_flaw 10 = .ok (.iconst 3, 1) := by decide +kernel
theorem dX6_flaw_11 : decode cX6_flaw 11 = .ok (.if_icmp .eq 21, 3) := by decide +kernel
theorem dX6_flaw_14 : decode cX6_flaw 14 = .ok (.aload_n 3, 1) := by decide +kernel
theorem dX6_flaw_15 : decode cX6_flaw 15 = .ok (.getfield 87, 3) := by decide +kernel
theorem dX6_flaw_18 : decode cX6_flaw 18 = .ok (.iconst 4, 1) := by decide +kernel
theorem dX6_flaw_19 : decode cX6_flaw 19 = .ok (.if_icmp .eq 13, 3) := by decide +kernel
theorem dX6_flaw_22 : decode cX6_flaw 22 = .ok (.new 45, 3) := by decide +kernel
theorem dX6_flaw_25 : decode cX6_flaw 25 = .ok (.dup, 1) := by decide +kernel
theorem dX6_flaw_26 : decode cX6_flaw 26 = .ok (.ldc 238, 2) := by decide +kernel
theorem dX6_flaw_28 : decode cX6_flaw 28 = .ok (.invokespecial 49, 3) := by decide +kernel
theorem dX6_flaw_31 : decode cX6_flaw 31 = .ok (.athrow, 1) := by decide +kernel
theorem dX6_flaw_32 : decode cX6_flaw 32 = .ok (.iload_n 2, 1) := by decide +kernel
theorem dX6_flaw_33 : decode cX6_flaw 33 = .ok (.iconst 1, 1) := by decide +kernel
theorem dX6_flaw_34 : decode cX6_flaw 34 = .ok (.bipush 99, 2) := by decide +kernel
theorem dX6_flaw_36 : decode cX6_flaw 36 = .ok (.invokestatic 41, 3) := by decide +kernel
theorem dX6_flaw_39 : decode cX6_flaw 39 = .ok (.ifCond .eq 13, 3) := by decide +kernel
theorem dX6_flaw_42 : decode cX6_flaw 42 = .ok (.new 45, 3) := by decide +kernel
theorem dX6_flaw_45 : decode cX6_flaw 45 = .ok (.dup, 1) := by decide +kernel
theorem dX6_flaw_46 : decode cX6_flaw 46 = .ok (.ldc 240, 2) := by decide +kernel
theorem dX6_flaw_48 : decode cX6_flaw 48 = .ok (.invokespecial 49, 3) := by decide +kernel
theorem dX6_flaw_51 : decode cX6_flaw 51 = .ok (.athrow, 1) := by decide +kernel
theorem dX6_flaw_52 : decode cX6_flaw 52 = .ok (.aload_n 3, 1) := by decide +kernel
theorem dX6_flaw_53 : decode cX6_flaw 53 = .ok (.getfield 181, 3) := by decide +kernel
theorem dX6_flaw_56 : decode cX6_flaw 56 = .ok (.istore 4, 2) := by decide +kernel
theorem dX6_flaw_58 : decode cX6_flaw 58 = .ok (.aload_n 3, 1) := by decide +kernel
theorem dX6_flaw_59 : decode cX6_flaw 59 = .ok (.iload_n 2, 1) := by decide +kernel
theorem dX6_flaw_60 : decode cX6_flaw 60 = .ok (.putfield 181, 3) := by decide +kernel
theorem dX6_flaw_63 : decode cX6_flaw 63 = .ok (.aload_n 3, 1) := by decide +kernel
theorem dX6_flaw_64 : decode cX6_flaw 64 = .ok (.aload_n 3, 1) := by decide +kernel
theorem dX6_flaw_65 : decode cX6_flaw 65 = .ok (.getfield 242, 3) := by decide +kernel
theorem dX6_flaw_68 : decode cX6_flaw 68 = .ok (.putfield 243, 3) := by decide +kernel
theorem dX6_flaw_71 : decode cX6_flaw 71 = .ok (.iload 4, 2) := by decide +kernel
theorem dX6_flaw_73 : decode cX6_flaw 73 = .ok (.ireturn, 1) := by decide +kernel
theorem dX6_look_0 : decode cX6_look 0 = .ok (.aload_n 0, 1) := by decide +kernel
theorem dX6_look_1 : decode cX6_look 1 = .ok (.iload_n 1, 1) := by decide +kernel
theorem dX6_look_2 : decode cX6_look 2 = .ok (.invokevirtual 83, 3) := by decide +kernel
theorem dX6_look_5 : decode cX6_look 5 = .ok (.astore_n 3, 1) := by decide +kernel
theorem dX6_look_6 : decode cX6_look 6 = .ok (.aload_n 3, 1) := by decide +kernel
theorem dX6_look_7 : decode cX6_look 7 = .ok (.getfield 106, 3) := by decide +kernel
theorem dX6_look_10 : decode cX6_look 10 = .ok (.ifCond .ne 21, 3) := by decide +kernel
theorem dX6_look_13 : decode cX6_look 13 = .ok (.aload_n 3, 1) := by decide +kernel
theorem dX6_look_14 : decode cX6_look 14 = .ok (.invokevirtual 109, 3) := by decide +kernel
theorem dX6_look_17 : decode cX6_look 17 = .ok (.ifCond .ne 14, 3) := by decide +kernel
theorem dX6_look_20 : decode cX6_look 20 = .ok (.iload_n 2, 1) := by decide +kernel
theorem dX6_look_21 : decode cX6_look 21 = .ok (.ifCond .eq 20, 3) := by decide +kernel
theorem dX6_look_24 : decode cX6_look 24 = .ok (.aload_n 3, 1) := by decide +kernel
theorem dX6_look_25 : decode cX6_look 25 = .ok (.invokevirtual 96, 3) := by decide +kernel
theorem dX6_look_28 : decode cX6_look 28 = .ok (.ifCond .ne 13, 3) := by decide +kernel
theorem dX6_look_31 : decode cX6_look 31 = .ok (.new 56, 3) := by decide +kernel
theorem dX6_look_34 : decode cX6_look 34 = .ok (.dup, 1) := by decide +kernel
theorem dX6_look_35 : decode cX6_look 35 = .ok (.ldc 246, 2) := by decide +kernel
theorem dX6_look_37 : decode cX6_look 37 = .ok (.invokespecial 60, 3) := by decide +kernel
theorem dX6_look_40 : decode cX6_look 40 = .ok (.athrow, 1) := by decide +kernel
theorem dX6_look_41 : decode cX6_look 41 = .ok (.aload_n 3, 1) := by decide +kernel
theorem dX6_look_42 : decode cX6_look 42 = .ok (.getfield 181, 3) := by decide +kernel
theorem dX6_look_45 : decode cX6_look 45 = .ok (.iload_n 2, 1) := by decide +kernel
theorem dX6_look_46 : decode cX6_look 46 = .ok (.ifCond .eq 7, 3) := by decide +kernel
theorem dX6_look_49 : decode cX6_look 49 = .ok (.iconst 3, 1) := by decide +kernel
theorem dX6_look_50 : decode cX6_look 50 = .ok (.goto 5, 3) := by decide +kernel
theorem dX6_look_53 : decode cX6_look 53 = .ok (.bipush 10, 2) := by decide +kernel
theorem dX6_look_55 : decode cX6_look 55 = .ok (.if_icmp .lt 21, 3) := by decide +kernel
theorem dX6_look_58 : decode cX6_look 58 = .ok (.aload_n 3, 1) := by decide +kernel
theorem dX6_look_59 : decode cX6_look 59 = .ok (.iconst 1, 1) := by decide +kernel
theorem dX6_look_60 : decode cX6_look 60 = .ok (.putfield 100, 3) := by decide +kernel
theorem dX6_look_63 : decode cX6_look 63 = .ok (.aload_n 3, 1) := by decide +kernel
theorem dX6_look_64 : decode cX6_look 64 = .ok (.invokevirtual 137, 3) := by decide +kernel
theorem dX6_look_67 : decode cX6_look 67 = .ok (.iconst 0, 1) := by decide +kernel
theorem dX6_look_68 : decode cX6_look 68 = .ok (.putfield 141, 3) := by decide +kernel
theorem dX6_look_71 : decode cX6_look 71 = .ok (.aload_n 3, 1) := by decide +kernel
theorem dX6_look_72 : decode cX6_look 72 = .ok (.getfield 181, 3) := by decide +kernel
theorem dX6_look_75 : decode cX6_look 75 = .ok (.ireturn, 1) := by decide +kernel
theorem dX6_look_76 : decode cX6_look 76 = .ok (.iload_n 2, 1) := by decide +kernel
theorem dX6_look_77 : decode cX6_look 77 = .ok (.ifCond .eq 8, 3) := by decide +kernel
theorem dX6_look_80 : decode cX6_look 80 = .ok (.aload_n 3, 1) := by decide +kernel
theorem dX6_look_81 : decode cX6_look 81 = .ok (.iconst 0, 1) := by decide +kernel
theorem dX6_look_82 : decode cX6_look 82 = .ok (.putfield 248, 3) := by decide +kernel
theorem dX6_look_85 : decode cX6_look 85 = .ok (.iconst 0, 1) := by decide +kernel
theorem dX6_look_86 : decode cX6_look 86 = .ok (.ireturn, 1) := by decide +kernel
theorem dX6_clear_0 : decode cX6_clear 0 = .ok (.aload_n 0, 1) := by decide +kernel
theorem dX6_clear_1 : decode cX6_clear 1 = .ok (.iload_n 1, 1) := by decide +kernel
theorem dX6_clear_2 : decode cX6_clear 2 = .ok (.invokevirtual 83, 3) := by decide +kernel
theorem dX6_clear_5 : decode cX6_clear 5 = .ok (.astore_n 2, 1) := by decide +kernel
theorem dX6_clear_6 : decode cX6_clear 6 = .ok (.aload_n 2, 1) := by decide +kernel
theorem dX6_clear_7 : decode cX6_clear 7 = .ok (.getfield 100, 3) := by decide +kernel
theorem dX6_clear_10 : decode cX6_clear 10 = .ok (.ifCond .eq 10, 3) := by decide +kernel
theorem dX6_clear_13 : decode cX6_clear 13 = .ok (.aload_n 2, 1) := by decide +kernel
theorem dX6_clear_14 : decode cX6_clear 14 = .ok (.invokevirtual 109, 3) := by decide +kernel
theorem dX6_clear_17 : decode cX6_clear 17 = .ok (.ifCond .eq 13, 3) := by decide +kernel
theorem dX6_clear_20 : decode cX6_clear 20 = .ok (.new 56, 3) := by decide +kernel
theorem dX6_clear_23 : decode cX6_clear 23 = .ok (.dup, 1) := by decide +kernel
theorem dX6_clear_24 : decode cX6_clear 24 = .ok (.ldc 251, 2) := by decide +kernel
theorem dX6_clear_26 : decode cX6_clear 26 = .ok (.invokespecial 60, 3) := by decide +kernel
theorem dX6_clear_29 : decode cX6_clear 29 = .ok (.athrow, 1) := by decide +kernel
theorem dX6_clear_30 : decode cX6_clear 30 = .ok (.aload_n 2, 1) := by decide +kernel
theorem dX6_clear_31 : decode cX6_clear 31 = .ok (.getfield 181, 3) := by decide +kernel
theorem dX6_clear_34 : decode cX6_clear 34 = .ok (.istore_n 3, 1) := by decide +kernel
theorem dX6_clear_35 : decode cX6_clear 35 = .ok (.aload_n 2, 1) := by decide +kernel
theorem dX6_clear_36 : decode cX6_clear 36 = .ok (.iconst 0, 1) := by decide +kernel
theorem dX6_clear_37 : decode cX6_clear 37 = .ok (.putfield 181, 3) := by decide +kernel
theorem dX6_clear_40 : decode cX6_clear 40 = .ok (.aload_n 2, 1) := by decide +kernel
theorem dX6_clear_41 : decode cX6_clear 41 = .ok (.iconst 0, 1) := by decide +kernel
theorem dX6_clear_42 : decode cX6_clear 42 = .ok (.putfield 100, 3) := by decide +kernel
theorem dX6_clear_45 : decode cX6_clear 45 = .ok (.iload_n 3, 1) := by decide +kernel
theorem dX6_clear_46 : decode cX6_clear 46 = .ok (.ireturn, 1) := by decide +kernel
theorem dX6_recall_0 : decode cX6_recall 0 = .ok (.iload_n 1, 1) := by decide +kernel
theorem dX6_recall_1 : decode cX6_recall 1 = .ok (.iconst 0, 1) := by decide +kernel
theorem dX6_recall_2 : decode cX6_recall 2 = .ok (.bipush 9, 2) := by decide +kernel
theorem dX6_recall_4 : decode cX6_recall 4 = .ok (.invokestatic 41, 3) := by decide +kernel
theorem dX6_recall_7 : decode cX6_recall 7 = .ok (.ifCond .eq 13, 3) := by decide +kernel
theorem dX6_recall_10 : decode cX6_recall 10 = .ok (.new 45, 3) := by decide +kernel
theorem dX6_recall_13 : decode cX6_recall 13 = .ok (.dup, 1) := by decide +kernel
theorem dX6_recall_14 : decode cX6_recall 14 = .ok (.ldc 253, 2) := by decide +kernel
theorem dX6_recall_16 : decode cX6_recall 16 = .ok (.invokespecial 49, 3) := by decide +kernel
theorem dX6_recall_19 : decode cX6_recall 19 = .ok (.athrow, 1) := by decide +kernel
theorem dX6_recall_20 : decode cX6_recall 20 = .ok (.iconst 0, 1) := by decide +kernel
theorem dX6_recall_21 : decode cX6_recall 21 = .ok (.istore_n 2, 1) := by decide +kernel
theorem dX6_recall_22 : decode cX6_recall 22 = .ok (.iconst 0, 1) := by decide +kernel
theorem dX6_recall_23 : decode cX6_recall 23 = .ok (.istore_n 3, 1) := by decide +kernel
theorem dX6_recall_24 : decode cX6_recall 24 = .ok (.iload_n 3, 1) := by decide +kernel
theorem dX6_recall_25 : decode cX6_recall 25 = .ok (.aload_n 0, 1) := by decide +kernel
theorem dX6_recall_26 : decode cX6_recall 26 = .ok (.getfield 10, 3) := by decide +kernel
theorem dX6_recall_29 : decode cX6_recall 29 = .ok (.invokevirtual 52, 3) := by decide +kernel
theorem dX6_recall_32 : decode cX6_recall 32 = .ok (.if_icmp .ge 65, 3) := by decide +kernel
theorem dX6_recall_35 : decode cX6_recall 35 = .ok (.aload_n 0, 1) := by decide +kernel
theorem dX6_recall_36 : decode cX6_recall 36 = .ok (.getfield 10, 3) := by decide +kernel
theorem dX6_recall_39 : decode cX6_recall 39 = .ok (.iload_n 3, 1) := by decide +kernel
theorem dX6_recall_40 : decode cX6_recall 40 = .ok (.invokevirtual 171, 3) := by decide +kernel
theorem dX6_recall_43 : decode cX6_recall 43 = .ok (.checkcast 61, 3) := by decide +kernel
theorem dX6_recall_46 : decode cX6_recall 46 = .ok (.astore 4, 2) := by decide +kernel
theorem dX6_recall_48 : decode cX6_recall 48 = .ok (.aload 4, 2) := by decide +kernel
theorem dX6_recall_50 : decode cX6_recall 50 = .ok (.getfield 255, 3) := by decide +kernel
theorem dX6_recall_53 : decode cX6_recall 53 = .ok (.iload_n 1, 1) := by decide +kernel
theorem dX6_recall_54 : decode cX6_recall 54 = .ok (.if_icmp .ne 37, 3) := by decide +kernel
theorem dX6_recall_57 : decode cX6_recall 57 = .ok (.aload 4, 2) := by decide +kernel
theorem dX6_recall_59 : decode cX6_recall 59 = .ok (.getfield 106, 3) := by decide +kernel
theorem dX6_recall_62 : decode cX6_recall 62 = .ok (.ifCond .ne 29, 3) := by decide +kernel
theorem dX6_recall_65 : decode cX6_recall 65 = .ok (.aload 4, 2) := by decide +kernel
theorem dX6_recall_67 : decode cX6_recall 67 = .ok (.getfield 248, 3) := by decide +kernel
theorem dX6_recall_70 : decode cX6_recall 70 = .ok (.ifCond .ne 21, 3) := by decide +kernel
theorem dX6_recall_73 : decode cX6_recall 73 = .ok (.aload 4, 2) := by decide +kernel
theorem dX6_recall_75 : decode cX6_recall 75 = .ok (.iconst 1, 1) := by decide +kernel
theorem dX6_recall_76 : decode cX6_recall 76 = .ok (.putfield 248, 3) := by decide +kernel
theorem dX6_recall_79 : decode cX6_recall 79 = .ok (.aload 4, 2) := by decide +kernel
theorem dX6_recall_81 : decode cX6_recall 81 = .ok (.invokevirtual 137, 3) := by decide +kernel
theorem dX6_recall_84 : decode cX6_recall 84 = .ok (.iconst 0, 1) := by decide +kernel
theorem dX6_recall_85 : decode cX6_recall 85 = .ok (.putfield 141, 3) := by decide +kernel
theorem dX6_recall_88 : decode cX6_recall 88 = .ok (.iinc 2 1, 3) := by decide +kernel
theorem dX6_recall_91 : decode cX6_recall 91 = .ok (.iinc 3 1, 3) := by decide +kernel
theorem dX6_recall_94 : decode cX6_recall 94 = .ok (.goto (-70), 3) := by decide +kernel
theorem dX6_recall_97 : decode cX6_recall 97 = .ok (.iload_n 2, 1) := by decide +kernel
theorem dX6_recall_98 : decode cX6_recall 98 = .ok (.ireturn, 1) := by decide +kernel
theorem dX6_release_0 : decode cX6_release 0 = .ok (.aload_n 0, 1) := by decide +kernel
theorem dX6_release_1 : decode cX6_release 1 = .ok (.iload_n 1, 1) := by decide +kernel
theorem dX6_release_2 : decode cX6_release 2 = .ok (.invokevirtual 160, 3) := by decide +kernel
theorem dX6_release_5 : decode cX6_release 5 = .ok (.astore_n 2, 1) := by decide +kernel
theorem dX6_release_6 : decode cX6_release 6 = .ok (.aload_n 0, 1) := by decide +kernel
theorem dX6_release_7 : decode cX6_release 7 = .ok (.aload_n 2, 1) := by decide +kernel
theorem dX6_release_8 : decode cX6_release 8 = .ok (.invokevirtual 258, 3) := by decide +kernel
theorem dX6_release_11 : decode cX6_release 11 = .ok (.istore_n 3, 1) := by decide +kernel
theorem dX6_release_12 : decode cX6_release 12 = .ok (.aload_n 2, 1) := by decide +kernel
theorem dX6_release_13 : decode cX6_release 13 = .ok (.iload_n 3, 1) := by decide +kernel
theorem dX6_release_14 : decode cX6_release 14 = .ok (.ifCond .ne 7, 3) := by decide +kernel
theorem dX6_release_17 : decode cX6_release 17 = .ok (.iconst 1, 1) := by decide +kernel
theorem dX6_release_18 : decode cX6_release 18 = .ok (.goto 4, 3) := by decide +kernel
theorem dX6_release_21 : decode cX6_release 21 = .ok (.iconst 0, 1) := by decide +kernel
theorem dX6_release_22 : decode cX6_release 22 = .ok (.putfield 141, 3) := by decide +kernel
theorem dX6_release_25 : decode cX6_release 25 = .ok (.iload_n 3, 1) := by decide +kernel
theorem dX6_release_26 : decode cX6_release 26 = .ok (.ireturn, 1) := by decide +kernel
theorem dX6_comes_0 : decode cX6_comes 0 = .ok (.aload_n 0, 1) := by decide +kernel
theorem dX6_comes_1 : decode cX6_comes 1 = .ok (.iload_n 1, 1) := by decide +kernel
theorem dX6_comes_2 : decode cX6_comes 2 = .ok (.invokevirtual 160, 3) := by decide +kernel
theorem dX6_comes_5 : decode cX6_comes 5 = .ok (.astore_n 3, 1) := by decide +kernel
theorem dX6_comes_6 : decode cX6_comes 6 = .ok (.iload_n 2, 1) := by decide +kernel
theorem dX6_comes_7 : decode cX6_comes 7 = .ok (.iconst 0, 1) := by decide +kernel
theorem dX6_comes_8 : decode cX6_comes 8 = .ok (.bipush 99, 2) := by decide +kernel
theorem dX6_comes_10 : decode cX6_comes 10 = .ok (.invokestatic 41, 3) := by decide +kernel
theorem dX6_comes_13 : decode cX6_comes 13 = .ok (.ifCond .eq 14, 3) := by decide +kernel
theorem dX6_comes_16 : decode cX6_comes 16 = .ok (.new 45, 3) := by decide +kernel
theorem dX6_comes_19 : decode cX6_comes 19 = .ok (.dup, 1) := by decide +kernel
theorem dX6_comes_20 : decode cX6_comes 20 = .ok (.ldc_w 261, 3) := by decide +kernel
theorem dX6_comes_23 : decode cX6_comes 23 = .ok (.invokespecial 49, 3) := by decide +kernel
theorem dX6_comes_26 : decode cX6_comes 26 = .ok (.athrow, 1) := by decide +kernel
theorem dX6_comes_27 : decode cX6_comes 27 = .ok (.aload_n 0, 1) := by decide +kernel
theorem dX6_comes_28 : decode cX6_comes 28 = .ok (.getfield 32, 3) := by decide +kernel
theorem dX6_comes_31 : decode cX6_comes 31 = .ok (.getfield 263, 3) := by decide +kernel
theorem dX6_comes_34 : decode cX6_comes 34 = .ok (.invokevirtual 52, 3) := by decide +kernel
theorem dX6_comes_37 : decode cX6_comes 37 = .ok (.bipush 8, 2) := by decide +kernel
theorem dX6_comes_39 : decode cX6_comes 39 = .ok (.if_icmp .ge 25, 3) := by decide +kernel
theorem dX6_comes_42 : decode cX6_comes 42 = .ok (.aload_n 0, 1) := by decide +kernel
theorem dX6_comes_43 : decode cX6_comes 43 = .ok (.getfield 32, 3) := by decide +kernel
theorem dX6_comes_46 : decode cX6_comes 46 = .ok (.iload_n 2, 1) := by decide +kernel
theorem dX6_comes_47 : decode cX6_comes 47 = .ok (.invokevirtual 266, 3) := by decide +kernel
theorem dX6_comes_50 : decode cX6_comes 50 = .ok (.ifCond .ne 14, 3) := by decide +kernel
theorem dX6_comes_53 : decode cX6_comes 53 = .ok (.aload_n 0, 1) := by decide +kernel
theorem dX6_comes_54 : decode cX6_comes 54 = .ok (.getfield 32, 3) := by decide +kernel
theorem dX6_comes_57 : decode cX6_comes 57 = .ok (.aload_n 3, 1) := by decide +kernel
theorem dX6_comes_58 : decode cX6_comes 58 = .ok (.invokevirtual 154, 3) := by decide +kernel
theorem dX6_comes_61 : decode cX6_comes 61 = .ok (.ifCond .eq 14, 3) := by decide +kernel
theorem dX6_comes_64 : decode cX6_comes 64 = .ok (.new 56, 3) := by decide +kernel
theorem dX6_comes_67 : decode cX6_comes 67 = .ok (.dup, 1) := by decide +kernel
theorem dX6_comes_68 : decode cX6_comes 68 = .ok (.ldc_w 270, 3) := by decide +kernel
theorem dX6_comes_71 : decode cX6_comes 71 = .ok (.invokespecial 60, 3) := by decide +kernel
theorem dX6_comes_74 : decode cX6_comes 74 = .ok (.athrow, 1) := by decide +kernel
theorem dX6_comes_75 : decode cX6_comes 75 = .ok (.aload_n 3, 1) := by decide +kernel
theorem dX6_comes_76 : decode cX6_comes 76 = .ok (.invokevirtual 109, 3) := by decide +kernel
theorem dX6_comes_79 : decode cX6_comes 79 = .ok (.ifCond .ne 10, 3) := by decide +kernel
theorem dX6_comes_82 : decode cX6_comes 82 = .ok (.aload_n 3, 1) := by decide +kernel
theorem dX6_comes_83 : decode cX6_comes 83 = .ok (.getfield 106, 3) := by decide +kernel
theorem dX6_comes_86 : decode cX6_comes 86 = .ok (.ifCond .eq 14, 3) := by decide +kernel
theorem dX6_comes_89 : decode cX6_comes 89 = .ok (.new 56, 3) := by decide +kernel
theorem dX6_comes_92 : decode cX6_comes 92 = .ok (.dup, 1) := by decide +kernel
theorem dX6_comes_93 : decode cX6_comes 93 = .ok (.ldc_w 272, 3) := by decide +kernel
theorem dX6_comes_96 : decode cX6_comes 96 = .ok (.invokespecial 60, 3) := by decide +kernel
theorem dX6_comes_99 : decode cX6_comes 99 = .ok (.athrow, 1) := by decide +kernel
theorem dX6_comes_100 : decode cX6_comes 100 = .ok (.aload_n 3, 1) := by decide +kernel
theorem dX6_comes_101 : decode cX6_comes 101 = .ok (.iload_n 2, 1) := by decide +kernel
theorem dX6_comes_102 : decode cX6_comes 102 = .ok (.putfield 274, 3) := by decide +kernel
theorem dX6_comes_105 : decode cX6_comes 105 = .ok (.aload_n 0, 1) := by decide +kernel
theorem dX6_comes_106 : decode cX6_comes 106 = .ok (.getfield 32, 3) := by decide +kernel
theorem dX6_comes_109 : decode cX6_comes 109 = .ok (.getfield 263, 3) := by decide +kernel
theorem dX6_comes_112 : decode cX6_comes 112 = .ok (.aload_n 3, 1) := by decide +kernel
theorem dX6_comes_113 : decode cX6_comes 113 = .ok (.invokevirtual 66, 3) := by decide +kernel
theorem dX6_comes_116 : decode cX6_comes 116 = .ok (.pop, 1) := by decide +kernel
theorem dX6_comes_117 : decode cX6_comes 117 = .ok (.aload_n 0, 1) := by decide +kernel
theorem dX6_comes_118 : decode cX6_comes 118 = .ok (.getfield 32, 3) := by decide +kernel
theorem dX6_comes_121 : decode cX6_comes 121 = .ok (.getfield 263, 3) := by decide +kernel
theorem dX6_comes_124 : decode cX6_comes 124 = .ok (.invokevirtual 52, 3) := by decide +kernel
theorem dX6_comes_127 : decode cX6_comes 127 = .ok (.ireturn, 1) := by decide +kernel
theorem dX6_night_0 : decode cX6_night 0 = .ok (.aload_n 0, 1) := by decide +kernel
theorem dX6_night_1 : decode cX6_night 1 = .ok (.getfield 32, 3) := by decide +kernel
theorem dX6_night_4 : decode cX6_night 4 = .ok (.getfield 263, 3) := by decide +kernel
theorem dX6_night_7 : decode cX6_night 7 = .ok (.invokevirtual 277, 3) := by decide +kernel
theorem dX6_night_10 : decode cX6_night 10 = .ok (.ifCond .ne 16, 3) := by decide +kernel
theorem dX6_night_13 : decode cX6_night 13 = .ok (.aload_n 0, 1) := by decide +kernel
theorem dX6_night_14 : decode cX6_night 14 = .ok (.getfield 32, 3) := by decide +kernel
theorem dX6_night_17 : decode cX6_night 17 = .ok (.getfield 280, 3) := by decide +kernel
theorem dX6_night_20 : decode cX6_night 20 = .ok (.invokevirtual 277, 3) := by decide +kernel
theorem dX6_night_23 : decode cX6_night 23 = .ok (.ifCond .ne 14, 3) := by decide +kernel
theorem dX6_night_26 : decode cX6_night 26 = .ok (.new 56, 3) := by decide +kernel
theorem dX6_night_29 : decode cX6_night 29 = .ok (.dup, 1) := by decide +kernel
theorem dX6_night_30 : decode cX6_night 30 = .ok (.ldc_w 283, 3) := by decide +kernel
theorem dX6_night_33 : decode cX6_night 33 = .ok (.invokespecial 60, 3) := by decide +kernel
theorem dX6_night_36 : decode cX6_night 36 = .ok (.athrow, 1) := by decide +kernel
theorem dX6_night_37 : decode cX6_night 37 = .ok (.aload_n 0, 1) := by decide +kernel
theorem dX6_night_38 : decode cX6_night 38 = .ok (.getfield 32, 3) := by decide +kernel
theorem dX6_night_41 : decode cX6_night 41 = .ok (.invokevirtual 285, 3) := by decide +kernel
theorem dX6_night_44 : decode cX6_night 44 = .ok (.ireturn, 1) := by decide +kernel
theorem dX6_out_0 : decode cX6_out 0 = .ok (.aload_n 0, 1) := by decide +kernel
theorem dX6_out_1 : decode cX6_out 1 = .ok (.getfield 32, 3) := by decide +kernel
theorem dX6_out_4 : decode cX6_out 4 = .ok (.getfield 280, 3) := by decide +kernel
theorem dX6_out_7 : decode cX6_out 7 = .ok (.invokevirtual 277, 3) := by decide +kernel
theorem dX6_out_10 : decode cX6_out 10 = .ok (.ifCond .eq 14, 3) := by decide +kernel
theorem dX6_out_13 : decode cX6_out 13 = .ok (.new 56, 3) := by decide +kernel
theorem dX6_out_16 : decode cX6_out 16 = .ok (.dup, 1) := by decide +kernel
theorem dX6_out_17 : decode cX6_out 17 = .ok (.ldc_w 288, 3) := by decide +kernel
theorem dX6_out_20 : decode cX6_out 20 = .ok (.invokespecial 60, 3) := by decide +kernel
theorem dX6_out_23 : decode cX6_out 23 = .ok (.athrow, 1) := by decide +kernel
theorem dX6_out_24 : decode cX6_out 24 = .ok (.aload_n 0, 1) := by decide +kernel
theorem dX6_out_25 : decode cX6_out 25 = .ok (.getfield 32, 3) := by decide +kernel
theorem dX6_out_28 : decode cX6_out 28 = .ok (.invokevirtual 290, 3) := by decide +kernel
theorem dX6_out_31 : decode cX6_out 31 = .ok (.ireturn, 1) := by decide +kernel
theorem dX6_host_0 : decode cX6_host 0 = .ok (.aload_n 0, 1) := by decide +kernel
theorem dX6_host_1 : decode cX6_host 1 = .ok (.iload_n 1, 1) := by decide +kernel
theorem dX6_host_2 : decode cX6_host 2 = .ok (.invokevirtual 83, 3) := by decide +kernel
theorem dX6_host_5 : decode cX6_host 5 = .ok (.invokevirtual 293, 3) := by decide +kernel
theorem dX6_host_8 : decode cX6_host 8 = .ok (.ireturn, 1) := by decide +kernel
theorem dX6_head_0 : decode cX6_head 0 = .ok (.aload_n 0, 1) := by decide +kernel
theorem dX6_head_1 : decode cX6_head 1 = .ok (.iload_n 1, 1) := by decide +kernel
theorem dX6_head_2 : decode cX6_head 2 = .ok (.invokevirtual 83, 3) := by decide +kernel
theorem dX6_head_5 : decode cX6_head 5 = .ok (.invokevirtual 137, 3) := by decide +kernel
theorem dX6_head_8 : decode cX6_head 8 = .ok (.getfield 149, 3) := by decide +kernel
theorem dX6_head_11 : decode cX6_head 11 = .ok (.ireturn, 1) := by decide +kernel
theorem dX6_ofPart_0 : decode cX6_ofPart 0 = .ok (.aload_n 0, 1) := by decide +kernel
theorem dX6_ofPart_1 : decode cX6_ofPart 1 = .ok (.iload_n 1, 1) := by decide +kernel
theorem dX6_ofPart_2 : decode cX6_ofPart 2 = .ok (.invokevirtual 83, 3) := by decide +kernel
theorem dX6_ofPart_5 : decode cX6_ofPart 5 = .ok (.astore_n 3, 1) := by decide +kernel
theorem dX6_ofPart_6 : decode cX6_ofPart 6 = .ok (.iload_n 2, 1) := by decide +kernel
theorem dX6_ofPart_7 : decode cX6_ofPart 7 = .ok (.tableswitch 114 0 8 #[49, 54, 59, 64, 69, 74, 79, 92, 105], 49) := by decide +kernel
theorem dX6_ofPart_56 : decode cX6_ofPart 56 = .ok (.aload_n 3, 1) := by decide +kernel
theorem dX6_ofPart_57 : decode cX6_ofPart 57 = .ok (.getfield 87, 3) := by decide +kernel
theorem dX6_ofPart_60 : decode cX6_ofPart 60 = .ok (.ireturn, 1) := by decide +kernel
theorem dX6_ofPart_61 : decode cX6_ofPart 61 = .ok (.aload_n 3, 1) := by decide +kernel
theorem dX6_ofPart_62 : decode cX6_ofPart 62 = .ok (.getfield 255, 3) := by decide +kernel
theorem dX6_ofPart_65 : decode cX6_ofPart 65 = .ok (.ireturn, 1) := by decide +kernel
theorem dX6_ofPart_66 : decode cX6_ofPart 66 = .ok (.aload_n 3, 1) := by decide +kernel
theorem dX6_ofPart_67 : decode cX6_ofPart 67 = .ok (.getfield 118, 3) := by decide +kernel
theorem dX6_ofPart_70 : decode cX6_ofPart 70 = .ok (.ireturn, 1) := by decide +kernel
theorem dX6_ofPart_71 : decode cX6_ofPart 71 = .ok (.aload_n 3, 1) := by decide +kernel
theorem dX6_ofPart_72 : decode cX6_ofPart 72 = .ok (.getfield 242, 3) := by decide +kernel
theorem dX6_ofPart_75 : decode cX6_ofPart 75 = .ok (.ireturn, 1) := by decide +kernel
theorem dX6_ofPart_76 : decode cX6_ofPart 76 = .ok (.aload_n 3, 1) := by decide +kernel
theorem dX6_ofPart_77 : decode cX6_ofPart 77 = .ok (.getfield 224, 3) := by decide +kernel
theorem dX6_ofPart_80 : decode cX6_ofPart 80 = .ok (.ireturn, 1) := by decide +kernel
theorem dX6_ofPart_81 : decode cX6_ofPart 81 = .ok (.aload_n 3, 1) := by decide +kernel
theorem dX6_ofPart_82 : decode cX6_ofPart 82 = .ok (.getfield 227, 3) := by decide +kernel
theorem dX6_ofPart_85 : decode cX6_ofPart 85 = .ok (.ireturn, 1) := by decide +kernel
theorem dX6_ofPart_86 : decode cX6_ofPart 86 = .ok (.aload_n 3, 1) := by decide +kernel
theorem dX6_ofPart_87 : decode cX6_ofPart 87 = .ok (.getfield 100, 3) := by decide +kernel
theorem dX6_ofPart_90 : decode cX6_ofPart 90 = .ok (.ifCond .eq 7, 3) := by decide +kernel
theorem dX6_ofPart_93 : decode cX6_ofPart 93 = .ok (.iconst 1, 1) := by decide +kernel
theorem dX6_ofPart_94 : decode cX6_ofPart 94 = .ok (.goto 4, 3) := by decide +kernel
theorem dX6_ofPart_97 : decode cX6_ofPart 97 = .ok (.iconst 0, 1) := by decide +kernel
theorem dX6_ofPart_98 : decode cX6_ofPart 98 = .ok (.ireturn, 1) := by decide +kernel
theorem dX6_ofPart_99 : decode cX6_ofPart 99 = .ok (.aload_n 3, 1) := by decide +kernel
theorem dX6_ofPart_100 : decode cX6_ofPart 100 = .ok (.getfield 248, 3) := by decide +kernel
theorem dX6_ofPart_103 : decode cX6_ofPart 103 = .ok (.ifCond .eq 7, 3) := by decide +kernel
theorem dX6_ofPart_106 : decode cX6_ofPart 106 = .ok (.iconst 1, 1) := by decide +kernel
theorem dX6_ofPart_107 : decode cX6_ofPart 107 = .ok (.goto 4, 3) := by decide +kernel
theorem dX6_ofPart_110 : decode cX6_ofPart 110 = .ok (.iconst 0, 1) := by decide +kernel
theorem dX6_ofPart_111 : decode cX6_ofPart 111 = .ok (.ireturn, 1) := by decide +kernel
theorem dX6_ofPart_112 : decode cX6_ofPart 112 = .ok (.aload_n 0, 1) := by decide +kernel
theorem dX6_ofPart_113 : decode cX6_ofPart 113 = .ok (.getfield 25, 3) := by decide +kernel
theorem dX6_ofPart_116 : decode cX6_ofPart 116 = .ok (.iload_n 1, 1) := by decide +kernel
theorem dX6_ofPart_117 : decode cX6_ofPart 117 = .ok (.invokevirtual 296, 3) := by decide +kernel
theorem dX6_ofPart_120 : decode cX6_ofPart 120 = .ok (.ireturn, 1) := by decide +kernel
theorem dX6_ofPart_121 : decode cX6_ofPart 121 = .ok (.new 45, 3) := by decide +kernel
theorem dX6_ofPart_124 : decode cX6_ofPart 124 = .ok (.dup, 1) := by decide +kernel
theorem dX6_ofPart_125 : decode cX6_ofPart 125 = .ok (.ldc_w 299, 3) := by decide +kernel
theorem dX6_ofPart_128 : decode cX6_ofPart 128 = .ok (.invokespecial 49, 3) := by decide +kernel
theorem dX6_ofPart_131 : decode cX6_ofPart 131 = .ok (.athrow, 1) := by decide +kernel
theorem dX6_trace_0 : decode cX6_trace 0 = .ok (.aload_n 0, 1) := by decide +kernel
theorem dX6_trace_1 : decode cX6_trace 1 = .ok (.iload_n 1, 1) := by decide +kernel
theorem dX6_trace_2 : decode cX6_trace 2 = .ok (.invokevirtual 83, 3) := by decide +kernel
theorem dX6_trace_5 : decode cX6_trace 5 = .ok (.astore_n 3, 1) := by decide +kernel
theorem dX6_trace_6 : decode cX6_trace 6 = .ok (.aload_n 0, 1) := by decide +kernel
theorem dX6_trace_7 : decode cX6_trace 7 = .ok (.getfield 25, 3) := by decide +kernel
theorem dX6_trace_10 : decode cX6_trace 10 = .ok (.aload_n 3, 1) := by decide +kernel
theorem dX6_trace_11 : decode cX6_trace 11 = .ok (.getfield 149, 3) := by decide +kernel
theorem dX6_trace_14 : decode cX6_trace 14 = .ok (.iload_n 2, 1) := by decide +kernel
theorem dX6_trace_15 : decode cX6_trace 15 = .ok (.invokevirtual 301, 3) := by decide +kernel
theorem dX6_trace_18 : decode cX6_trace 18 = .ok (.astore 4, 2) := by decide +kernel
theorem dX6_trace_20 : decode cX6_trace 20 = .ok (.aload 4, 2) := by decide +kernel
theorem dX6_trace_22 : decode cX6_trace 22 = .ok (.ifnonnull 14, 3) := by decide +kernel
theorem dX6_trace_25 : decode cX6_trace 25 = .ok (.new 305, 3) := by decide +kernel
theorem dX6_trace_28 : decode cX6_trace 28 = .ok (.dup, 1) := by decide +kernel
theorem dX6_trace_29 : decode cX6_trace 29 = .ok (.ldc_w 307, 3) := by decide +kernel
theorem dX6_trace_32 : decode cX6_trace 32 = .ok (.invokespecial 309, 3) := by decide +kernel
theorem dX6_trace_35 : decode cX6_trace 35 = .ok (.athrow, 1) := by decide +kernel
theorem dX6_trace_36 : decode cX6_trace 36 = .ok (.aload 4, 2) := by decide +kernel
theorem dX6_trace_38 : decode cX6_trace 38 = .ok (.getfield 310, 3) := by decide +kernel
theorem dX6_trace_41 : decode cX6_trace 41 = .ok (.ireturn, 1) := by decide +kernel
theorem dX6_lifeAnew_0 : decode cX6_lifeAnew 0 = .ok (.aload_n 0, 1) := by decide +kernel
theorem dX6_lifeAnew_1 : decode cX6_lifeAnew 1 = .ok (.getfield 25, 3) := by decide +kernel
theorem dX6_lifeAnew_4 : decode cX6_lifeAnew 4 = .ok (.aload_n 0, 1) := by decide +kernel
theorem dX6_lifeAnew_5 : decode cX6_lifeAnew 5 = .ok (.iload_n 1, 1) := by decide +kernel
theorem dX6_lifeAnew_6 : decode cX6_lifeAnew 6 = .ok (.invokevirtual 83, 3) := by decide +kernel
theorem dX6_lifeAnew_9 : decode cX6_lifeAnew 9 = .ok (.getfield 149, 3) := by decide +kernel
theorem dX6_lifeAnew_12 : decode cX6_lifeAnew 12 = .ok (.invokevirtual 315, 3) := by decide +kernel
theorem dX6_lifeAnew_15 : decode cX6_lifeAnew 15 = .ok (.ireturn, 1) := by decide +kernel
theorem dX6_wheel_0 : decode cX6_wheel 0 = .ok (.aload_n 0, 1) := by decide +kernel
theorem dX6_wheel_1 : decode cX6_wheel 1 = .ok (.iload_n 1, 1) := by decide +kernel
theorem dX6_wheel_2 : decode cX6_wheel 2 = .ok (.invokevirtual 207, 3) := by decide +kernel
theorem dX6_wheel_5 : decode cX6_wheel 5 = .ok (.astore_n 3, 1) := by decide +kernel
theorem dX6_wheel_6 : decode cX6_wheel 6 = .ok (.iload_n 2, 1) := by decide +kernel
theorem dX6_wheel_7 : decode cX6_wheel 7 = .ok (.tableswitch 40 0 2 #[25, 30, 35], 25) := by decide +kernel
theorem dX6_wheel_32 : decode cX6_wheel 32 = .ok (.aload_n 3, 1) := by decide +kernel
theorem dX6_wheel_33 : decode cX6_wheel 33 = .ok (.getfield 196, 3) := by decide +kernel
theorem dX6_wheel_36 : decode cX6_wheel 36 = .ok (.ireturn, 1) := by decide +kernel
theorem dX6_wheel_37 : decode cX6_wheel 37 = .ok (.aload_n 3, 1) := by decide +kernel
theorem dX6_wheel_38 : decode cX6_wheel 38 = .ok (.getfield 213, 3) := by decide +kernel
theorem dX6_wheel_41 : decode cX6_wheel 41 = .ok (.ireturn, 1) := by decide +kernel
theorem dX6_wheel_42 : decode cX6_wheel 42 = .ok (.aload_n 3, 1) := by decide +kernel
theorem dX6_wheel_43 : decode cX6_wheel 43 = .ok (.getfield 216, 3) := by decide +kernel
theorem dX6_wheel_46 : decode cX6_wheel 46 = .ok (.ireturn, 1) := by decide +kernel
theorem dX6_wheel_47 : decode cX6_wheel 47 = .ok (.new 45, 3) := by decide +kernel
theorem dX6_wheel_50 : decode cX6_wheel 50 = .ok (.dup, 1) := by decide +kernel
theorem dX6_wheel_51 : decode cX6_wheel 51 = .ok (.ldc_w 318, 3) := by decide +kernel
theorem dX6_wheel_54 : decode cX6_wheel 54 = .ok (.invokespecial 49, 3) := by decide +kernel
theorem dX6_wheel_57 : decode cX6_wheel 57 = .ok (.athrow, 1) := by decide +kernel
theorem dX6_foretell_0 : decode cX6_foretell 0 = .ok (.aload_n 0, 1) := by decide +kernel
theorem dX6_foretell_1 : decode cX6_foretell 1 = .ok (.iload_n 1, 1) := by decide +kernel
theorem dX6_foretell_2 : decode cX6_foretell 2 = .ok (.invokevirtual 207, 3) := by decide +kernel
theorem dX6_foretell_5 : decode cX6_foretell 5 = .ok (.astore 4, 2) := by decide +kernel
theorem dX6_foretell_7 : decode cX6_foretell 7 = .ok (.iload_n 2, 1) := by decide +kernel
theorem dX6_foretell_8 : decode cX6_foretell 8 = .ok (.iload_n 3, 1) := by decide +kernel
theorem dX6_foretell_9 : decode cX6_foretell 9 = .ok (.invokestatic 163, 3) := by decide +kernel
theorem dX6_foretell_12 : decode cX6_foretell 12 = .ok (.aload 4, 2) := by decide +kernel
theorem dX6_foretell_14 : decode cX6_foretell 14 = .ok (.getfield 216, 3) := by decide +kernel
theorem dX6_foretell_17 : decode cX6_foretell 17 = .ok (.iconst (-1), 1) := by decide +kernel
theorem dX6_foretell_18 : decode cX6_foretell 18 = .ok (.if_icmp .ne 5, 3) := by decide +kernel
theorem dX6_foretell_21 : decode cX6_foretell 21 = .ok (.iconst (-1), 1) := by decide +kernel
theorem dX6_foretell_22 : decode cX6_foretell 22 = .ok (.ireturn, 1) := by decide +kernel
theorem dX6_foretell_23 : decode cX6_foretell 23 = .ok (.iconst 0, 1) := by decide +kernel
theorem dX6_foretell_24 : decode cX6_foretell 24 = .ok (.aload 4, 2) := by decide +kernel
theorem dX6_foretell_26 : decode cX6_foretell 26 = .ok (.getfield 216, 3) := by decide +kernel
theorem dX6_foretell_29 : decode cX6_foretell 29 = .ok (.sipush 250, 3) := by decide +kernel
theorem dX6_foretell_32 : decode cX6_foretell 32 = .ok (.isub, 1) := by decide +kernel
theorem dX6_foretell_33 : decode cX6_foretell 33 = .ok (.invokestatic 320, 3) := by decide +kernel
theorem dX6_foretell_36 : decode cX6_foretell 36 = .ok (.istore 5, 2) := by decide +kernel
theorem dX6_foretell_38 : decode cX6_foretell 38 = .ok (.iload 5, 2) := by decide +kernel
theorem dX6_foretell_40 : decode cX6_foretell 40 = .ok (.sipush 200, 3) := by decide +kernel
theorem dX6_foretell_43 : decode cX6_foretell 43 = .ok (.imul, 1) := by decide +kernel
theorem dX6_foretell_44 : decode cX6_foretell 44 = .ok (.iload_n 2, 1) := by decide +kernel
theorem dX6_foretell_45 : decode cX6_foretell 45 = .ok (.iload_n 3, 1) := by decide +kernel
theorem dX6_foretell_46 : decode cX6_foretell 46 = .ok (.invokestatic 175, 3) := by decide +kernel
theorem dX6_foretell_49 : decode cX6_foretell 49 = .ok (.imul, 1) := by decide +kernel
theorem dX6_foretell_50 : decode cX6_foretell 50 = .ok (.idiv, 1) := by decide +kernel
theorem dX6_foretell_51 : decode cX6_foretell 51 = .ok (.ireturn, 1) := by decide +kernel
theorem dX6_bars_0 : decode cX6_bars 0 = .ok (.aload_n 0, 1) := by decide +kernel
theorem dX6_bars_1 : decode cX6_bars 1 = .ok (.aload_n 0, 1) := by decide +kernel
theorem dX6_bars_2 : decode cX6_bars 2 = .ok (.iload_n 1, 1) := by decide +kernel
theorem dX6_bars_3 : decode cX6_bars 3 = .ok (.invokevirtual 160, 3) := by decide +kernel
theorem dX6_bars_6 : decode cX6_bars 6 = .ok (.invokevirtual 258, 3) := by decide +kernel
theorem dX6_bars_9 : decode cX6_bars 9 = .ok (.ireturn, 1) := by decide +kernel
theorem dX6_barredBy_0 : decode cX6_barredBy 0 = .ok (.aload_n 0, 1) := by decide +kernel
theorem dX6_barredBy_1 : decode cX6_barredBy 1 = .ok (.iload_n 1, 1) := by decide +kernel
theorem dX6_barredBy_2 : decode cX6_barredBy 2 = .ok (.invokevirtual 160, 3) := by decide +kernel
theorem dX6_barredBy_5 : decode cX6_barredBy 5 = .ok (.astore_n 2, 1) := by decide +kernel
theorem dX6_barredBy_6 : decode cX6_barredBy 6 = .ok (.aload_n 0, 1) := by decide +kernel
theorem dX6_barredBy_7 : decode cX6_barredBy 7 = .ok (.aload_n 2, 1) := by decide +kernel
theorem dX6_barredBy_8 : decode cX6_barredBy 8 = .ok (.aload_n 0, 1) := by decide +kernel
theorem dX6_barredBy_9 : decode cX6_barredBy 9 = .ok (.aload_n 2, 1) := by decide +kernel
theorem dX6_barredBy_10 : decode cX6_barredBy 10 = .ok (.invokevirtual 258, 3) := by decide +kernel
theorem dX6_barredBy_13 : decode cX6_barredBy 13 = .ok (.invokevirtual 323, 3) := by decide +kernel
theorem dX6_barredBy_16 : decode cX6_barredBy 16 = .ok (.ireturn, 1) := by decide +kernel
theorem dX6_isReleased_0 : decode cX6_isReleased 0 = .ok (.aload_n 0, 1) := by decide +kernel
theorem dX6_isReleased_1 : decode cX6_isReleased 1 = .ok (.iload_n 1, 1) := by decide +kernel
theorem dX6_isReleased_2 : decode cX6_isReleased 2 = .ok (.invokevirtual 160, 3) := by decide +kernel
theorem dX6_isReleased_5 : decode cX6_isReleased 5 = .ok (.getfield 141, 3) := by decide +kernel
theorem dX6_isReleased_8 : decode cX6_isReleased 8 = .ok (.ireturn, 1) := by decide +kernel
theorem dX6_plan_0 : decode cX6_plan 0 = .ok (.aload_n 0, 1) := by decide +kernel
theorem dX6_plan_1 : decode cX6_plan 1 = .ok (.getfield 32, 3) := by decide +kernel
theorem dX6_plan_4 : decode cX6_plan 4 = .ok (.invokevirtual 326, 3) := by decide +kernel
theorem dX6_plan_7 : decode cX6_plan 7 = .ok (.ireturn, 1) := by decide +kernel
theorem dX6_planAnew_0 : decode cX6_planAnew 0 = .ok (.aload_n 0, 1) := by decide +kernel
theorem dX6_planAnew_1 : decode cX6_planAnew 1 = .ok (.getfield 32, 3) := by decide +kernel
theorem dX6_planAnew_4 : decode cX6_planAnew 4 = .ok (.invokevirtual 329, 3) := by decide +kernel
theorem dX6_planAnew_7 : decode cX6_planAnew 7 = .ok (.ireturn, 1) := by decide +kernel
theorem dX6_road_0 : decode cX6_road 0 = .ok (.iload_n 1, 1) := by decide +kernel
theorem dX6_road_1 : decode cX6_road 1 = .ok (.iconst 0, 1) := by decide +kernel
theorem dX6_road_2 : decode cX6_road 2 = .ok (.iconst 2, 1) := by decide +kernel
theorem dX6_road_3 : decode cX6_road 3 = .ok (.invokestatic 41, 3) := by decide +kernel
theorem dX6_road_6 : decode cX6_road 6 = .ok (.ifCond .ne 7, 3) := by decide +kernel
theorem dX6_road_9 : decode cX6_road 9 = .ok (.iload_n 2, 1) := by decide +kernel
theorem dX6_road_10 : decode cX6_road 10 = .ok (.ifCond .ge 14, 3) := by decide +kernel
theorem dX6_road_13 : decode cX6_road 13 = .ok (.new 305, 3) := by decide +kernel
theorem dX6_road_16 : decode cX6_road 16 = .ok (.dup, 1) := by decide +kernel
theorem dX6_road_17 : decode cX6_road 17 = .ok (.ldc_w 332, 3) := by decide +kernel
theorem dX6_road_20 : decode cX6_road 20 = .ok (.invokespecial 309, 3) := by decide +kernel
theorem dX6_road_23 : decode cX6_road 23 = .ok (.athrow, 1) := by decide +kernel
theorem dX6_road_24 : decode cX6_road 24 = .ok (.aload_n 0, 1) := by decide +kernel
theorem dX6_road_25 : decode cX6_road 25 = .ok (.getfield 32, 3) := by decide +kernel
theorem dX6_road_28 : decode cX6_road 28 = .ok (.iload_n 1, 1) := by decide +kernel
theorem dX6_road_29 : decode cX6_road 29 = .ok (.iload_n 2, 1) := by decide +kernel
theorem dX6_road_30 : decode cX6_road 30 = .ok (.invokevirtual 334, 3) := by decide +kernel
theorem dX6_road_33 : decode cX6_road 33 = .ok (.ireturn, 1) := by decide +kernel
theorem dX6_isOutside_0 : decode cX6_isOutside 0 = .ok (.iload_n 0, 1) := by decide +kernel
theorem dX6_isOutside_1 : decode cX6_isOutside 1 = .ok (.iload_n 1, 1) := by decide +kernel
theorem dX6_isOutside_2 : decode cX6_isOutside 2 = .ok (.if_icmp .lt 8, 3) := by decide +kernel
theorem dX6_isOutside_5 : decode cX6_isOutside 5 = .ok (.iload_n 0, 1) := by decide +kernel
theorem dX6_isOutside_6 : decode cX6_isOutside 6 = .ok (.iload_n 2, 1) := by decide +kernel
theorem dX6_isOutside_7 : decode cX6_isOutside 7 = .ok (.if_icmp .le 7, 3) := by decide +kernel
theorem dX6_isOutside_10 : decode cX6_isOutside 10 = .ok (.iconst 1, 1) := by decide +kernel
theorem dX6_isOutside_11 : decode cX6_isOutside 11 = .ok (.goto 4, 3) := by decide +kernel
theorem dX6_isOutside_14 : decode cX6_isOutside 14 = .ok (.iconst 0, 1) := by decide +kernel
theorem dX6_isOutside_15 : decode cX6_isOutside 15 = .ok (.ireturn, 1) := by decide +kernel
theorem dX6_checkRun_0 : decode cX6_checkRun 0 = .ok (.iload_n 0, 1) := by decide +kernel
theorem dX6_checkRun_1 : decode cX6_checkRun 1 = .ok (.iconst 1, 1) := by decide +kernel
theorem dX6_checkRun_2 : decode cX6_checkRun 2 = .ok (.sipush 2000, 3) := by decide +kernel
theorem dX6_checkRun_5 : decode cX6_checkRun 5 = .ok (.invokestatic 41, 3) := by decide +kernel
theorem dX6_checkRun_8 : decode cX6_checkRun 8 = .ok (.ifCond .ne 12, 3) := by decide +kernel
theorem dX6_checkRun_11 : decode cX6_checkRun 11 = .ok (.iload_n 1, 1) := by decide +kernel
theorem dX6_checkRun_12 : decode cX6_checkRun 12 = .ok (.iconst 0, 1) := by decide +kernel
theorem dX6_checkRun_13 : decode cX6_checkRun 13 = .ok (.iconst 3, 1) := by decide +kernel
theorem dX6_checkRun_14 : decode cX6_checkRun 14 = .ok (.invokestatic 41, 3) := by decide +kernel
theorem dX6_checkRun_17 : decode cX6_checkRun 17 = .ok (.ifCond .eq 14, 3) := by decide +kernel
theorem dX6_checkRun_20 : decode cX6_checkRun 20 = .ok (.new 45, 3) := by decide +kernel
theorem dX6_checkRun_23 : decode cX6_checkRun 23 = .ok (.dup, 1) := by decide +kernel
theorem dX6_checkRun_24 : decode cX6_checkRun 24 = .ok (.ldc_w 337, 3) := by decide +kernel
theorem dX6_checkRun_27 : decode cX6_checkRun 27 = .ok (.invokespecial 49, 3) := by decide +kernel
theorem dX6_checkRun_30 : decode cX6_checkRun 30 = .ok (.athrow, 1) := by decide +kernel
theorem dX6_checkRun_31 : decode cX6_checkRun 31 = .ok (.return_, 1) := by decide +kernel
theorem dX6_limitsOf_0 : decode cX6_limitsOf 0 = .ok (.iload_n 1, 1) := by decide +kernel
theorem dX6_limitsOf_1 : decode cX6_limitsOf 1 = .ok (.ifCond .lt 12, 3) := by decide +kernel
theorem dX6_limitsOf_4 : decode cX6_limitsOf 4 = .ok (.iload_n 1, 1) := by decide +kernel
theorem dX6_limitsOf_5 : decode cX6_limitsOf 5 = .ok (.aload_n 0, 1) := by decide +kernel
theorem dX6_limitsOf_6 : decode cX6_limitsOf 6 = .ok (.getfield 18, 3) := by decide +kernel
theorem dX6_limitsOf_9 : decode cX6_limitsOf 9 = .ok (.arraylength, 1) := by decide +kernel
theorem dX6_limitsOf_10 : decode cX6_limitsOf 10 = .ok (.if_icmp .lt 14, 3) := by decide +kernel
theorem dX6_limitsOf_13 : decode cX6_limitsOf 13 = .ok (.new 45, 3) := by decide +kernel
theorem dX6_limitsOf_16 : decode cX6_limitsOf 16 = .ok (.dup, 1) := by decide +kernel
theorem dX6_limitsOf_17 : decode cX6_limitsOf 17 = .ok (.ldc_w 339, 3) := by decide +kernel
theorem dX6_limitsOf_20 : decode cX6_limitsOf 20 = .ok (.invokespecial 49, 3) := by decide +kernel
theorem dX6_limitsOf_23 : decode cX6_limitsOf 23 = .ok (.athrow, 1) := by decide +kernel
theorem dX6_limitsOf_24 : decode cX6_limitsOf 24 = .ok (.aload_n 0, 1) := by decide +kernel
theorem dX6_limitsOf_25 : decode cX6_limitsOf 25 = .ok (.getfield 18, 3) := by decide +kernel
theorem dX6_limitsOf_28 : decode cX6_limitsOf 28 = .ok (.iload_n 1, 1) := by decide +kernel
theorem dX6_limitsOf_29 : decode cX6_limitsOf 29 = .ok (.aaload, 1) := by decide +kernel
theorem dX6_limitsOf_30 : decode cX6_limitsOf 30 = .ok (.areturn, 1) := by decide +kernel
theorem dX6_existing_0 : decode cX6_existing 0 = .ok (.iload_n 1, 1) := by decide +kernel
theorem dX6_existing_1 : decode cX6_existing 1 = .ok (.ifCond .lt 14, 3) := by decide +kernel
theorem dX6_existing_4 : decode cX6_existing 4 = .ok (.iload_n 1, 1) := by decide +kernel
theorem dX6_existing_5 : decode cX6_existing 5 = .ok (.aload_n 0, 1) := by decide +kernel
theorem dX6_existing_6 : decode cX6_existing 6 = .ok (.getfield 10, 3) := by decide +kernel
theorem dX6_existing_9 : decode cX6_existing 9 = .ok (.invokevirtual 52, 3) := by decide +kernel
theorem dX6_existing_12 : decode cX6_existing 12 = .ok (.if_icmp .lt 14, 3) := by decide +kernel
theorem dX6_existing_15 : decode cX6_existing 15 = .ok (.new 305, 3) := by decide +kernel
theorem dX6_existing_18 : decode cX6_existing 18 = .ok (.dup, 1) := by decide +kernel
theorem dX6_existing_19 : decode cX6_existing 19 = .ok (.ldc_w 341, 3) := by decide +kernel
theorem dX6_existing_22 : decode cX6_existing 22 = .ok (.invokespecial 309, 3) := by decide +kernel
theorem dX6_existing_25 : decode cX6_existing 25 = .ok (.athrow, 1) := by decide +kernel
theorem dX6_existing_26 : decode cX6_existing 26 = .ok (.aload_n 0, 1) := by decide +kernel
theorem dX6_existing_27 : decode cX6_existing 27 = .ok (.getfield 10, 3) := by decide +kernel
theorem dX6_existing_30 : decode cX6_existing 30 = .ok (.iload_n 1, 1) := by decide +kernel
theorem dX6_existing_31 : decode cX6_existing 31 = .ok (.invokevirtual 171, 3) := by decide +kernel
theorem dX6_existing_34 : decode cX6_existing 34 = .ok (.checkcast 61, 3) := by decide +kernel
theorem dX6_existing_37 : decode cX6_existing 37 = .ok (.areturn, 1) := by decide +kernel
theorem dX6_existingTrain_0 : decode cX6_existingTrain 0 = .ok (.aload_n 0, 1) := by decide +kernel
theorem dX6_existingTrain_1 : decode cX6_existingTrain 1 = .ok (.iload_n 1, 1) := by decide +kernel
theorem dX6_existingTrain_2 : decode cX6_existingTrain 2 = .ok (.invokevirtual 83, 3) := by decide +kernel
theorem dX6_existingTrain_5 : decode cX6_existingTrain 5 = .ok (.astore_n 2, 1) := by decide +kernel
theorem dX6_existingTrain_6 : decode cX6_existingTrain 6 = .ok (.aload_n 2, 1) := by decide +kernel
theorem dX6_existingTrain_7 : decode cX6_existingTrain 7 = .ok (.getfield 87, 3) := by decide +kernel
theorem dX6_existingTrain_10 : decode cX6_existingTrain 10 = .ok (.ifCond .eq 14, 3) := by decide +kernel
theorem dX6_existingTrain_13 : decode cX6_existingTrain 13 = .ok (.new 45, 3) := by decide +kernel
theorem dX6_existingTrain_16 : decode cX6_existingTrain 16 = .ok (.dup, 1) := by decide +kernel
theorem dX6_existingTrain_17 : decode cX6_existingTrain 17 = .ok (.ldc_w 343, 3) := by decide +kernel
theorem dX6_existingTrain_20 : decode cX6_existingTrain 20 = .ok (.invokespecial 49, 3) := by decide +kernel
theorem dX6_existingTrain_23 : decode cX6_existingTrain 23 = .ok (.athrow, 1) := by decide +kernel
theorem dX6_existingTrain_24 : decode cX6_existingTrain 24 = .ok (.aload_n 2, 1) := by decide +kernel
theorem dX6_existingTrain_25 : decode cX6_existingTrain 25 = .ok (.areturn, 1) := by decide +kernel
theorem dX6_existingWheel_0 : decode cX6_existingWheel 0 = .ok (.aload_n 0, 1) := by decide +kernel
theorem dX6_existingWheel_1 : decode cX6_existingWheel 1 = .ok (.iload_n 1, 1) := by decide +kernel
theorem dX6_existingWheel_2 : decode cX6_existingWheel 2 = .ok (.invokevirtual 83, 3) := by decide +kernel
theorem dX6_existingWheel_5 : decode cX6_existingWheel 5 = .ok (.getfield 345, 3) := by decide +kernel
theorem dX6_existingWheel_8 : decode cX6_existingWheel 8 = .ok (.astore_n 2, 1) := by decide +kernel
theorem dX6_existingWheel_9 : decode cX6_existingWheel 9 = .ok (.aload_n 2, 1) := by decide +kernel
theorem dX6_existingWheel_10 : decode cX6_existingWheel 10 = .ok (.ifnonnull 14, 3) := by decide +kernel
theorem dX6_existingWheel_13 : decode cX6_existingWheel 13 = .ok (.new 45, 3) := by decide +kernel
theorem dX6_existingWheel_16 : decode cX6_existingWheel 16 = .ok (.dup, 1) := by decide +kernel
theorem dX6_existingWheel_17 : decode cX6_existingWheel 17 = .ok (.ldc_w 349, 3) := by decide +kernel
theorem dX6_existingWheel_20 : decode cX6_existingWheel 20 = .ok (.invokespecial 49, 3) := by decide +kernel
theorem dX6_existingWheel_23 : decode cX6_existingWheel 23 = .ok (.athrow, 1) := by decide +kernel
theorem dX6_existingWheel_24 : decode cX6_existingWheel 24 = .ok (.aload_n 2, 1) := by decide +kernel
theorem dX6_existingWheel_25 : decode cX6_existingWheel 25 = .ok (.areturn, 1) := by decide +kernel
theorem dX6_placesFor_0 : decode cX6_placesFor 0 = .ok (.iload_n 0, 1) := by decide +kernel
theorem dX6_placesFor_1 : decode cX6_placesFor 1 = .ok (.tableswitch 69 0 2 #[27, 38, 49], 27) := by decide +kernel
theorem dX6_placesFor_28 : decode cX6_placesFor 28 = .ok (.iload_n 1, 1) := by decide +kernel
theorem dX6_placesFor_29 : decode cX6_placesFor 29 = .ok (.iconst 1, 1) := by decide +kernel
theorem dX6_placesFor_30 : decode cX6_placesFor 30 = .ok (.if_icmp .ne 7, 3) := by decide +kernel
theorem dX6_placesFor_33 : decode cX6_placesFor 33 = .ok (.iconst 2, 1) := by decide +kernel
theorem dX6_placesFor_34 : decode cX6_placesFor 34 = .ok (.goto 4, 3) := by decide +kernel
theorem dX6_placesFor_37 : decode cX6_placesFor 37 = .ok (.iconst 0, 1) := by decide +kernel
theorem dX6_placesFor_38 : decode cX6_placesFor 38 = .ok (.ireturn, 1) := by decide +kernel
theorem dX6_placesFor_39 : decode cX6_placesFor 39 = .ok (.iload_n 1, 1) := by decide +kernel
theorem dX6_placesFor_40 : decode cX6_placesFor 40 = .ok (.iconst 2, 1) := by decide +kernel
theorem dX6_placesFor_41 : decode cX6_placesFor 41 = .ok (.if_icmp .ne 7, 3) := by decide +kernel
theorem dX6_placesFor_44 : decode cX6_placesFor 44 = .ok (.iconst 2, 1) := by decide +kernel
theorem dX6_placesFor_45 : decode cX6_placesFor 45 = .ok (.goto 4, 3) := by decide +kernel
theorem dX6_placesFor_48 : decode cX6_placesFor 48 = .ok (.iconst 0, 1) := by decide +kernel
theorem dX6_placesFor_49 : decode cX6_placesFor 49 = .ok (.ireturn, 1) := by decide +kernel
theorem dX6_placesFor_50 : decode cX6_placesFor 50 = .ok (.iload_n 1, 1) := by decide +kernel
theorem dX6_placesFor_51 : decode cX6_placesFor 51 = .ok (.iconst 3, 1) := by decide +kernel
theorem dX6_placesFor_52 : decode cX6_placesFor 52 = .ok (.if_icmp .ne 7, 3) := by decide +kernel
theorem dX6_placesFor_55 : decode cX6_placesFor 55 = .ok (.iconst 2, 1) := by decide +kernel
theorem dX6_placesFor_56 : decode cX6_placesFor 56 = .ok (.goto 13, 3) := by decide +kernel
theorem dX6_placesFor_59 : decode cX6_placesFor 59 = .ok (.iload_n 1, 1) := by decide +kernel
theorem dX6_placesFor_60 : decode cX6_placesFor 60 = .ok (.iconst 4, 1) := by decide +kernel
theorem dX6_placesFor_61 : decode cX6_placesFor 61 = .ok (.if_icmp .ne 7, 3) := by decide +kernel
theorem dX6_placesFor_64 : decode cX6_placesFor 64 = .ok (.iconst 1, 1) := by decide +kernel
theorem dX6_placesFor_65 : decode cX6_placesFor 65 = .ok (.goto 4, 3) := by decide +kernel
theorem dX6_placesFor_68 : decode cX6_placesFor 68 = .ok (.iconst 0, 1) := by decide +kernel
theorem dX6_placesFor_69 : decode cX6_placesFor 69 = .ok (.ireturn, 1) := by decide +kernel
theorem dX6_placesFor_70 : decode cX6_placesFor 70 = .ok (.iconst 0, 1) := by decide +kernel
theorem dX6_placesFor_71 : decode cX6_placesFor 71 = .ok (.ireturn, 1) := by decide +kernel
theorem dX6_inside_0 : decode cX6_inside 0 = .ok (.iconst 0, 1) := by decide +kernel
theorem dX6_inside_1 : decode cX6_inside 1 = .ok (.istore_n 3, 1) := by decide +kernel
theorem dX6_inside_2 : decode cX6_inside 2 = .ok (.iconst 0, 1) := by decide +kernel
theorem dX6_inside_3 : decode cX6_inside 3 = .ok (.istore 4, 2) := by decide +kernel
theorem dX6_inside_5 : decode cX6_inside 5 = .ok (.iload 4, 2) := by decide +kernel
theorem dX6_inside_7 : decode cX6_inside 7 = .ok (.aload_n 0, 1) := by decide +kernel
theorem dX6_inside_8 : decode cX6_inside 8 = .ok (.getfield 10, 3) := by decide +kernel
theorem dX6_inside_11 : decode cX6_inside 11 = .ok (.invokevirtual 52, 3) := by decide +kernel
theorem dX6_inside_14 : decode cX6_inside 14 = .ok (.if_icmp .ge 44, 3) := by decide +kernel
theorem dX6_inside_17 : decode cX6_inside 17 = .ok (.aload_n 0, 1) := by decide +kernel
theorem dX6_inside_18 : decode cX6_inside 18 = .ok (.getfield 10, 3) := by decide +kernel
theorem dX6_inside_21 : decode cX6_inside 21 = .ok (.iload 4, 2) := by decide +kernel
theorem dX6_inside_23 : decode cX6_inside 23 = .ok (.invokevirtual 171, 3) := by decide +kernel
theorem dX6_inside_26 : decode cX6_inside 26 = .ok (.checkcast 61, 3) := by decide +kernel
theorem dX6_inside_29 : decode cX6_inside 29 = .ok (.astore 5, 2) := by decide +kernel
theorem dX6_inside_31 : decode cX6_inside 31 = .ok (.aload 5, 2) := by decide +kernel
theorem dX6_inside_33 : decode cX6_inside 33 = .ok (.getfield 129, 3) := by decide +kernel
theorem dX6_inside_36 : decode cX6_inside 36 = .ok (.aload_n 1, 1) := by decide +kernel
theorem dX6_inside_37 : decode cX6_inside 37 = .ok (.if_acmp .ne 15, 3) := by decide +kernel
theorem dX6_inside_40 : decode cX6_inside 40 = .ok (.aload 5, 2) := by decide +kernel
theorem dX6_inside_42 : decode cX6_inside 42 = .ok (.getfield 87, 3) := by decide +kernel
theorem dX6_inside_45 : decode cX6_inside 45 = .ok (.iload_n 2, 1) := by decide +kernel
theorem dX6_inside_46 : decode cX6_inside 46 = .ok (.if_icmp .ne 6, 3) := by decide +kernel
theorem dX6_inside_49 : decode cX6_inside 49 = .ok (.iinc 3 1, 3) := by decide +kernel
theorem dX6_inside_52 : decode cX6_inside 52 = .ok (.iinc 4 1, 3) := by decide +kernel
theorem dX6_inside_55 : decode cX6_inside 55 = .ok (.goto (-50), 3) := by decide +kernel
theorem dX6_inside_58 : decode cX6_inside 58 = .ok (.iload_n 3, 1) := by decide +kernel
theorem dX6_inside_59 : decode cX6_inside 59 = .ok (.ireturn, 1) := by decide +kernel
theorem dX6_inside__0 : decode cX6_inside_ 0 = .ok (.iconst 0, 1) := by decide +kernel
theorem dX6_inside__1 : decode cX6_inside_ 1 = .ok (.istore_n 2, 1) := by decide +kernel
theorem dX6_inside__2 : decode cX6_inside_ 2 = .ok (.iconst 0, 1) := by decide +kernel
theorem dX6_inside__3 : decode cX6_inside_ 3 = .ok (.istore_n 3, 1) := by decide +kernel
theorem dX6_inside__4 : decode cX6_inside_ 4 = .ok (.iload_n 3, 1) := by decide +kernel
theorem dX6_inside__5 : decode cX6_inside_ 5 = .ok (.iconst 4, 1) := by decide +kernel
theorem dX6_inside__6 : decode cX6_inside_ 6 = .ok (.if_icmp .gt 18, 3) := by decide +kernel
theorem dX6_inside__9 : decode cX6_inside_ 9 = .ok (.iload_n 2, 1) := by decide +kernel
theorem dX6_inside__10 : decode cX6_inside_ 10 = .ok (.aload_n 0, 1) := by decide +kernel
theorem dX6_inside__11 : decode cX6_inside_ 11 = .ok (.aload_n 1, 1) := by decide +kernel
theorem dX6_inside__12 : decode cX6_inside_ 12 = .ok (.iload_n 3, 1) := by decide +kernel
theorem dX6_inside__13 : decode cX6_inside_ 13 = .ok (.invokevirtual 112, 3) := by decide +kernel
theorem dX6_inside__16 : decode cX6_inside_ 16 = .ok (.iadd, 1) := by decide +kernel
theorem dX6_inside__17 : decode cX6_inside_ 17 = .ok (.istore_n 2, 1) := by decide +kernel
theorem dX6_inside__18 : decode cX6_inside_ 18 = .ok (.iinc 3 1, 3) := by decide +kernel
theorem dX6_inside__21 : decode cX6_inside_ 21 = .ok (.goto (-17), 3) := by decide +kernel
theorem dX6_inside__24 : decode cX6_inside_ 24 = .ok (.iload_n 2, 1) := by decide +kernel
theorem dX6_inside__25 : decode cX6_inside_ 25 = .ok (.ireturn, 1) := by decide +kernel
theorem dX6_wheelIn_0 : decode cX6_wheelIn 0 = .ok (.iconst 0, 1) := by decide +kernel
theorem dX6_wheelIn_1 : decode cX6_wheelIn 1 = .ok (.istore_n 3, 1) := by decide +kernel
theorem dX6_wheelIn_2 : decode cX6_wheelIn 2 = .ok (.iconst 0, 1) := by decide +kernel
theorem dX6_wheelIn_3 : decode cX6_wheelIn 3 = .ok (.istore 4, 2) := by decide +kernel
theorem dX6_wheelIn_5 : decode cX6_wheelIn 5 = .ok (.iload 4, 2) := by decide +kernel
theorem dX6_wheelIn_7 : decode cX6_wheelIn 7 = .ok (.aload_n 0, 1) := by decide +kernel
theorem dX6_wheelIn_8 : decode cX6_wheelIn 8 = .ok (.getfield 10, 3) := by decide +kernel
theorem dX6_wheelIn_11 : decode cX6_wheelIn 11 = .ok (.invokevirtual 52, 3) := by decide +kernel
theorem dX6_wheelIn_14 : decode cX6_wheelIn 14 = .ok (.if_icmp .ge 54, 3) := by decide +kernel
theorem dX6_wheelIn_17 : decode cX6_wheelIn 17 = .ok (.aload_n 0, 1) := by decide +kernel
theorem dX6_wheelIn_18 : decode cX6_wheelIn 18 = .ok (.getfield 10, 3) := by decide +kernel
theorem dX6_wheelIn_21 : decode cX6_wheelIn 21 = .ok (.iload 4, 2) := by decide +kernel
theorem dX6_wheelIn_23 : decode cX6_wheelIn 23 = .ok (.invokevirtual 171, 3) := by decide +kernel
theorem dX6_wheelIn_26 : decode cX6_wheelIn 26 = .ok (.checkcast 61, 3) := by decide +kernel
theorem dX6_wheelIn_29 : decode cX6_wheelIn 29 = .ok (.astore 5, 2) := by decide +kernel
theorem dX6_wheelIn_31 : decode cX6_wheelIn 31 = .ok (.aload 5, 2) := by decide +kernel
theorem dX6_wheelIn_33 : decode cX6_wheelIn 33 = .ok (.getfield 129, 3) := by decide +kernel
theorem dX6_wheelIn_36 : decode cX6_wheelIn 36 = .ok (.aload_n 1, 1) := by decide +kernel
theorem dX6_wheelIn_37 : decode cX6_wheelIn 37 = .ok (.if_acmp .ne 25, 3) := by decide +kernel
theorem dX6_wheelIn_40 : decode cX6_wheelIn 40 = .ok (.aload 5, 2) := by decide +kernel
theorem dX6_wheelIn_42 : decode cX6_wheelIn 42 = .ok (.getfield 345, 3) := by decide +kernel
theorem dX6_wheelIn_45 : decode cX6_wheelIn 45 = .ok (.ifnull 17, 3) := by decide +kernel
theorem dX6_wheelIn_48 : decode cX6_wheelIn 48 = .ok (.iload_n 3, 1) := by decide +kernel
theorem dX6_wheelIn_49 : decode cX6_wheelIn 49 = .ok (.iload_n 2, 1) := by decide +kernel
theorem dX6_wheelIn_50 : decode cX6_wheelIn 50 = .ok (.if_icmp .ne 9, 3) := by decide +kernel
theorem dX6_wheelIn_53 : decode cX6_wheelIn 53 = .ok (.aload 5, 2) := by decide +kernel
theorem dX6_wheelIn_55 : decode cX6_wheelIn 55 = .ok (.getfield 345, 3) := by decide +kernel
theorem dX6_wheelIn_58 : decode cX6_wheelIn 58 = .ok (.areturn, 1) := by decide +kernel
theorem dX6_wheelIn_59 : decode cX6_wheelIn 59 = .ok (.iinc 3 1, 3) := by decide +kernel
theorem dX6_wheelIn_62 : decode cX6_wheelIn 62 = .ok (.iinc 4 1, 3) := by decide +kernel
theorem dX6_wheelIn_65 : decode cX6_wheelIn 65 = .ok (.goto (-60), 3) := by decide +kernel
theorem dX6_wheelIn_68 : decode cX6_wheelIn 68 = .ok (.aconst_null, 1) := by decide +kernel
theorem dX6_wheelIn_69 : decode cX6_wheelIn 69 = .ok (.areturn, 1) := by decide +kernel
theorem dX6_quarantineTree_0 : decode cX6_quarantineTree 0 = .ok (.iconst 0, 1) := by decide +kernel
theorem dX6_quarantineTree_1 : decode cX6_quarantineTree 1 = .ok (.istore_n 2, 1) := by decide +kernel
theorem dX6_quarantineTree_2 : decode cX6_quarantineTree 2 = .ok (.iload_n 2, 1) := by decide +kernel
theorem dX6_quarantineTree_3 : decode cX6_quarantineTree 3 = .ok (.aload_n 0, 1) := by decide +kernel
theorem dX6_quarantineTree_4 : decode cX6_quarantineTree 4 = .ok (.getfield 10, 3) := by decide +kernel
theorem dX6_quarantineTree_7 : decode cX6_quarantineTree 7 = .ok (.invokevirtual 52, 3) := by decide +kernel
theorem dX6_quarantineTree_10 : decode cX6_quarantineTree 10 = .ok (.if_icmp .ge 34, 3) := by decide +kernel
theorem dX6_quarantineTree_13 : decode cX6_quarantineTree 13 = .ok (.aload_n 0, 1) := by decide +kernel
theorem dX6_quarantineTree_14 : decode cX6_quarantineTree 14 = .ok (.getfield 10, 3) := by decide +kernel
theorem dX6_quarantineTree_17 : decode cX6_quarantineTree 17 = .ok (.iload_n 2, 1) := by decide +kernel
theorem dX6_quarantineTree_18 : decode cX6_quarantineTree 18 = .ok (.invokevirtual 171, 3) := by decide +kernel
theorem dX6_quarantineTree_21 : decode cX6_quarantineTree 21 = .ok (.checkcast 61, 3) := by decide +kernel
theorem dX6_quarantineTree_24 : decode cX6_quarantineTree 24 = .ok (.astore_n 3, 1) := by decide +kernel
theorem dX6_quarantineTree_25 : decode cX6_quarantineTree 25 = .ok (.aload_n 3, 1) := by decide +kernel
theorem dX6_quarantineTree_26 : decode cX6_quarantineTree 26 = .ok (.invokevirtual 137, 3) := by decide +kernel
theorem dX6_quarantineTree_29 : decode cX6_quarantineTree 29 = .ok (.aload_n 1, 1) := by decide +kernel
theorem dX6_quarantineTree_30 : decode cX6_quarantineTree 30 = .ok (.if_acmp .ne 8, 3) := by decide +kernel
theorem dX6_quarantineTree_33 : decode cX6_quarantineTree 33 = .ok (.aload_n 3, 1) := by decide +kernel
theorem dX6_quarantineTree_34 : decode cX6_quarantineTree 34 = .ok (.iconst 1, 1) := by decide +kernel
theorem dX6_quarantineTree_35 : decode cX6_quarantineTree 35 = .ok (.putfield 100, 3) := by decide +kernel
theorem dX6_quarantineTree_38 : decode cX6_quarantineTree 38 = .ok (.iinc 2 1, 3) := by decide +kernel
theorem dX6_quarantineTree_41 : decode cX6_quarantineTree 41 = .ok (.goto (-39), 3) := by decide +kernel
theorem dX6_quarantineTree_44 : decode cX6_quarantineTree 44 = .ok (.return_, 1) := by decide +kernel
theorem dX6_rubbing_0 : decode cX6_rubbing 0 = .ok (.iload_n 0, 1) := by decide +kernel
theorem dX6_rubbing_1 : decode cX6_rubbing 1 = .ok (.lookupswitch 31 #[(0, 27), (2, 29)], 27) := by decide +kernel
theorem dX6_rubbing_28 : decode cX6_rubbing 28 = .ok (.iconst 1, 1) := by decide +kernel
theorem dX6_rubbing_29 : decode cX6_rubbing 29 = .ok (.ireturn, 1) := by decide +kernel
theorem dX6_rubbing_30 : decode cX6_rubbing 30 = .ok (.iconst 3, 1) := by decide +kernel
theorem dX6_rubbing_31 : decode cX6_rubbing 31 = .ok (.ireturn, 1) := by decide +kernel
theorem dX6_rubbing_32 : decode cX6_rubbing 32 = .ok (.iconst 2, 1) := by decide +kernel
theorem dX6_rubbing_33 : decode cX6_rubbing 33 = .ok (.ireturn, 1) := by decide +kernel
theorem dX6_firstBar_0 : decode cX6_firstBar 0 = .ok (.iconst 1, 1) := by decide +kernel
theorem dX6_firstBar_1 : decode cX6_firstBar 1 = .ok (.istore_n 2, 1) := by decide +kernel
theorem dX6_firstBar_2 : decode cX6_firstBar 2 = .ok (.iload_n 2, 1) := by decide +kernel
theorem dX6_firstBar_3 : decode cX6_firstBar 3 = .ok (.bipush 7, 2) := by decide +kernel
theorem dX6_firstBar_5 : decode cX6_firstBar 5 = .ok (.if_icmp .gt 21, 3) := by decide +kernel
theorem dX6_firstBar_8 : decode cX6_firstBar 8 = .ok (.aload_n 0, 1) := by decide +kernel
theorem dX6_firstBar_9 : decode cX6_firstBar 9 = .ok (.aload_n 1, 1) := by decide +kernel
theorem dX6_firstBar_10 : decode cX6_firstBar 10 = .ok (.iload_n 2, 1) := by decide +kernel
theorem dX6_firstBar_11 : decode cX6_firstBar 11 = .ok (.invokevirtual 323, 3) := by decide +kernel
theorem dX6_firstBar_14 : decode cX6_firstBar 14 = .ok (.iconst (-1), 1) := by decide +kernel
theorem dX6_firstBar_15 : decode cX6_firstBar 15 = .ok (.if_icmp .eq 5, 3) := by decide +kernel
theorem dX6_firstBar_18 : decode cX6_firstBar 18 = .ok (.iload_n 2, 1) := by decide +kernel
theorem dX6_firstBar_19 : decode cX6_firstBar 19 = .ok (.ireturn, 1) := by decide +kernel
theorem dX6_firstBar_20 : decode cX6_firstBar 20 = .ok (.iinc 2 1, 3) := by decide +kernel
theorem dX6_firstBar_23 : decode cX6_firstBar 23 = .ok (.goto (-21), 3) := by decide +kernel
theorem dX6_firstBar_26 : decode cX6_firstBar 26 = .ok (.iconst 0, 1) := by decide +kernel
theorem dX6_firstBar_27 : decode cX6_firstBar 27 = .ok (.ireturn, 1) := by decide +kernel
theorem dX6_lowestBarring_0 : decode cX6_lowestBarring 0 = .ok (.iconst 0, 1) := by decide +kernel
theorem dX6_lowestBarring_1 : decode cX6_lowestBarring 1 = .ok (.istore_n 3, 1) := by decide +kernel
theorem dX6_lowestBarring_2 : decode cX6_lowestBarring 2 = .ok (.iload_n 3, 1) := by decide +kernel
theorem dX6_lowestBarring_3 : decode cX6_lowestBarring 3 = .ok (.aload_n 0, 1) := by decide +kernel
theorem dX6_lowestBarring_4 : decode cX6_lowestBarring 4 = .ok (.getfield 10, 3) := by decide +kernel
theorem dX6_lowestBarring_7 : decode cX6_lowestBarring 7 = .ok (.invokevirtual 52, 3) := by decide +kernel
theorem dX6_lowestBarring_10 : decode cX6_lowestBarring 10 = .ok (.if_icmp .ge 43, 3) := by decide +kernel
theorem dX6_lowestBarring_13 : decode cX6_lowestBarring 13 = .ok (.aload_n 0, 1) := by decide +kernel
theorem dX6_lowestBarring_14 : decode cX6_lowestBarring 14 = .ok (.getfield 10, 3) := by decide +kernel
theorem dX6_lowestBarring_17 : decode cX6_lowestBarring 17 = .ok (.iload_n 3, 1) := by decide +kernel
theorem dX6_lowestBarring_18 : decode cX6_lowestBarring 18 = .ok (.invokevirtual 171, 3) := by decide +kernel
theorem dX6_lowestBarring_21 : decode cX6_lowestBarring 21 = .ok (.checkcast 61, 3) := by decide +kernel
theorem dX6_lowestBarring_24 : decode cX6_lowestBarring 24 = .ok (.astore 4, 2) := by decide +kernel
theorem dX6_lowestBarring_26 : decode cX6_lowestBarring 26 = .ok (.aload 4, 2) := by decide +kernel
theorem dX6_lowestBarring_28 : decode cX6_lowestBarring 28 = .ok (.invokevirtual 137, 3) := by decide +kernel
theorem dX6_lowestBarring_31 : decode cX6_lowestBarring 31 = .ok (.aload_n 1, 1) := by decide +kernel
theorem dX6_lowestBarring_32 : decode cX6_lowestBarring 32 = .ok (.if_acmp .ne 15, 3) := by decide +kernel
theorem dX6_lowestBarring_35 : decode cX6_lowestBarring 35 = .ok (.aload_n 0, 1) := by decide +kernel
theorem dX6_lowestBarring_36 : decode cX6_lowestBarring 36 = .ok (.aload 4, 2) := by decide +kernel
theorem dX6_lowestBarring_38 : decode cX6_lowestBarring 38 = .ok (.iload_n 2, 1) := by decide +kernel
theorem dX6_lowestBarring_39 : decode cX6_lowestBarring 39 = .ok (.invokevirtual 351, 3) := by decide +kernel
theorem dX6_lowestBarring_42 : decode cX6_lowestBarring 42 = .ok (.ifCond .eq 5, 3) := by decide +kernel
theorem dX6_lowestBarring_45 : decode cX6_lowestBarring 45 = .ok (.iload_n 3, 1) := by decide +kernel
theorem dX6_lowestBarring_46 : decode cX6_lowestBarring 46 = .ok (.ireturn, 1) := by decide +kernel
theorem dX6_lowestBarring_47 : decode cX6_lowestBarring 47 = .ok (.iinc 3 1, 3) := by decide +kernel
theorem dX6_lowestBarring_50 : decode cX6_lowestBarring 50 = .ok (.goto (-48), 3) := by decide +kernel
theorem dX6_lowestBarring_53 : decode cX6_lowestBarring 53 = .ok (.iconst (-1), 1) := by decide +kernel
theorem dX6_lowestBarring_54 : decode cX6_lowestBarring 54 = .ok (.ireturn, 1) := by decide +kernel
theorem dX6_isSo_0 : decode cX6_isSo 0 = .ok (.iload_n 2, 1) := by decide +kernel
theorem dX6_isSo_1 : decode cX6_isSo 1 = .ok (.tableswitch 123 1 7 #[43, 49, 54, 59, 89, 112, 118], 43) := by decide +kernel
theorem dX6_isSo_44 : decode cX6_isSo 44 = .ok (.aload_n 0, 1) := by decide +kernel
theorem dX6_isSo_45 : decode cX6_isSo 45 = .ok (.aload_n 1, 1) := by decide +kernel
theorem dX6_isSo_46 : decode cX6_isSo 46 = .ok (.invokevirtual 355, 3) := by decide +kernel
theorem dX6_isSo_49 : decode cX6_isSo 49 = .ok (.ireturn, 1) := by decide +kernel
theorem dX6_isSo_50 : decode cX6_isSo 50 = .ok (.aload_n 1, 1) := by decide +kernel
theorem dX6_isSo_51 : decode cX6_isSo 51 = .ok (.getfield 100, 3) := by decide +kernel
theorem dX6_isSo_54 : decode cX6_isSo 54 = .ok (.ireturn, 1) := by decide +kernel
theorem dX6_isSo_55 : decode cX6_isSo 55 = .ok (.aload_n 1, 1) := by decide +kernel
theorem dX6_isSo_56 : decode cX6_isSo 56 = .ok (.getfield 248, 3) := by decide +kernel
theorem dX6_isSo_59 : decode cX6_isSo 59 = .ok (.ireturn, 1) := by decide +kernel
theorem dX6_isSo_60 : decode cX6_isSo 60 = .ok (.aload_n 1, 1) := by decide +kernel
theorem dX6_isSo_61 : decode cX6_isSo 61 = .ok (.getfield 232, 3) := by decide +kernel
theorem dX6_isSo_64 : decode cX6_isSo 64 = .ok (.getfield 73, 3) := by decide +kernel
theorem dX6_isSo_67 : decode cX6_isSo 67 = .ok (.ifCond .le 21, 3) := by decide +kernel
theorem dX6_isSo_70 : decode cX6_isSo 70 = .ok (.aload_n 1, 1) := by decide +kernel
theorem dX6_isSo_71 : decode cX6_isSo 71 = .ok (.getfield 242, 3) := by decide +kernel
theorem dX6_isSo_74 : decode cX6_isSo 74 = .ok (.aload_n 1, 1) := by decide +kernel
theorem dX6_isSo_75 : decode cX6_isSo 75 = .ok (.getfield 232, 3) := by decide +kernel
theorem dX6_isSo_78 : decode cX6_isSo 78 = .ok (.getfield 73, 3) := by decide +kernel
theorem dX6_isSo_81 : decode cX6_isSo 81 = .ok (.if_icmp .le 7, 3) := by decide +kernel
theorem dX6_isSo_84 : decode cX6_isSo 84 = .ok (.iconst 1, 1) := by decide +kernel
theorem dX6_isSo_85 : decode cX6_isSo 85 = .ok (.goto 4, 3) := by decide +kernel
theorem dX6_isSo_88 : decode cX6_isSo 88 = .ok (.iconst 0, 1) := by decide +kernel
theorem dX6_isSo_89 : decode cX6_isSo 89 = .ok (.ireturn, 1) := by decide +kernel
theorem dX6_isSo_90 : decode cX6_isSo 90 = .ok (.aload_n 1, 1) := by decide +kernel
theorem dX6_isSo_91 : decode cX6_isSo 91 = .ok (.getfield 345, 3) := by decide +kernel
theorem dX6_isSo_94 : decode cX6_isSo 94 = .ok (.ifnull 17, 3) := by decide +kernel
theorem dX6_isSo_97 : decode cX6_isSo 97 = .ok (.aload_n 1, 1) := by decide +kernel
theorem dX6_isSo_98 : decode cX6_isSo 98 = .ok (.getfield 345, 3) := by decide +kernel
theorem dX6_isSo_101 : decode cX6_isSo 101 = .ok (.invokevirtual 358, 3) := by decide +kernel
theorem dX6_isSo_104 : decode cX6_isSo 104 = .ok (.ifCond .eq 7, 3) := by decide +kernel
theorem dX6_isSo_107 : decode cX6_isSo 107 = .ok (.iconst 1, 1) := by decide +kernel
theorem dX6_isSo_108 : decode cX6_isSo 108 = .ok (.goto 4, 3) := by decide +kernel
theorem dX6_isSo_111 : decode cX6_isSo 111 = .ok (.iconst 0, 1) := by decide +kernel
theorem dX6_isSo_112 : decode cX6_isSo 112 = .ok (.ireturn, 1) := by decide +kernel
theorem dX6_isSo_113 : decode cX6_isSo 113 = .ok (.aload_n 0, 1) := by decide +kernel
theorem dX6_isSo_114 : decode cX6_isSo 114 = .ok (.aload_n 1, 1) := by decide +kernel
theorem dX6_isSo_115 : decode cX6_isSo 115 = .ok (.invokevirtual 361, 3) := by decide +kernel
theorem dX6_isSo_118 : decode cX6_isSo 118 = .ok (.ireturn, 1) := by decide +kernel
theorem dX6_isSo_119 : decode cX6_isSo 119 = .ok (.aload_n 1, 1) := by decide +kernel
theorem dX6_isSo_120 : decode cX6_isSo 120 = .ok (.invokevirtual 364, 3) := by decide +kernel
theorem dX6_isSo_123 : decode cX6_isSo 123 = .ok (.ireturn, 1) := by decide +kernel
theorem dX6_isSo_124 : decode cX6_isSo 124 = .ok (.iconst 0, 1) := by decide +kernel
theorem dX6_isSo_125 : decode cX6_isSo 125 = .ok (.ireturn, 1) := by decide +kernel
theorem dX6_hasEmptyPlace_0 : decode cX6_hasEmptyPlace 0 = .ok (.iconst 0, 1) := by decide +kernel
theorem dX6_hasEmptyPlace_1 : decode cX6_hasEmptyPlace 1 = .ok (.istore_n 2, 1) := by decide +kernel
theorem dX6_hasEmptyPlace_2 : decode cX6_hasEmptyPlace 2 = .ok (.iload_n 2, 1) := by decide +kernel
theorem dX6_hasEmptyPlace_3 : decode cX6_hasEmptyPlace 3 = .ok (.iconst 4, 1) := by decide +kernel
theorem dX6_hasEmptyPlace_4 : decode cX6_hasEmptyPlace 4 = .ok (.if_icmp .gt 28, 3) := by decide +kernel
theorem dX6_hasEmptyPlace_7 : decode cX6_hasEmptyPlace 7 = .ok (.aload_n 0, 1) := by decide +kernel
theorem dX6_hasEmptyPlace_8 : decode cX6_hasEmptyPlace 8 = .ok (.aload_n 1, 1) := by decide +kernel
theorem dX6_hasEmptyPlace_9 : decode cX6_hasEmptyPlace 9 = .ok (.iload_n 2, 1) := by decide +kernel
theorem dX6_hasEmptyPlace_10 : decode cX6_hasEmptyPlace 10 = .ok (.invokevirtual 112, 3) := by decide +kernel
theorem dX6_hasEmptyPlace_13 : decode cX6_hasEmptyPlace 13 = .ok (.aload_n 1, 1) := by decide +kernel
theorem dX6_hasEmptyPlace_14 : decode cX6_hasEmptyPlace 14 = .ok (.getfield 87, 3) := by decide +kernel
theorem dX6_hasEmptyPlace_17 : decode cX6_hasEmptyPlace 17 = .ok (.iload_n 2, 1) := by decide +kernel
theorem dX6_hasEmptyPlace_18 : decode cX6_hasEmptyPlace 18 = .ok (.invokestatic 90, 3) := by decide +kernel
theorem dX6_hasEmptyPlace_21 : decode cX6_hasEmptyPlace 21 = .ok (.if_icmp .ge 5, 3) := by decide +kernel
theorem dX6_hasEmptyPlace_24 : decode cX6_hasEmptyPlace 24 = .ok (.iconst 1, 1) := by decide +kernel
theorem dX6_hasEmptyPlace_25 : decode cX6_hasEmptyPlace 25 = .ok (.ireturn, 1) := by decide +kernel
theorem dX6_hasEmptyPlace_26 : decode cX6_hasEmptyPlace 26 = .ok (.iinc 2 1, 3) := by decide +kernel
theorem dX6_hasEmptyPlace_29 : decode cX6_hasEmptyPlace 29 = .ok (.goto (-27), 3) := by decide +kernel
theorem dX6_hasEmptyPlace_32 : decode cX6_hasEmptyPlace 32 = .ok (.iconst 0, 1) := by decide +kernel
theorem dX6_hasEmptyPlace_33 : decode cX6_hasEmptyPlace 33 = .ok (.ireturn, 1) := by decide +kernel
theorem dX6_isApart_0 : decode cX6_isApart 0 = .ok (.aload_n 1, 1) := by decide +kernel
theorem dX6_isApart_1 : decode cX6_isApart 1 = .ok (.getfield 87, 3) := by decide +kernel
theorem dX6_isApart_4 : decode cX6_isApart 4 = .ok (.iconst 2, 1) := by decide +kernel
theorem dX6_isApart_5 : decode cX6_isApart 5 = .ok (.if_icmp .ne 13, 3) := by decide +kernel
theorem dX6_isApart_8 : decode cX6_isApart 8 = .ok (.aload_n 0, 1) := by decide +kernel
theorem dX6_isApart_9 : decode cX6_isApart 9 = .ok (.aload_n 1, 1) := by decide +kernel
theorem dX6_isApart_10 : decode cX6_isApart 10 = .ok (.invokevirtual 367, 3) := by decide +kernel
theorem dX6_isApart_13 : decode cX6_isApart 13 = .ok (.bipush 20, 2) := by decide +kernel
theorem dX6_isApart_15 : decode cX6_isApart 15 = .ok (.if_icmp .gt 21, 3) := by decide +kernel
theorem dX6_isApart_18 : decode cX6_isApart 18 = .ok (.aload_n 1, 1) := by decide +kernel
theorem dX6_isApart_19 : decode cX6_isApart 19 = .ok (.getfield 87, 3) := by decide +kernel
theorem dX6_isApart_22 : decode cX6_isApart 22 = .ok (.iconst 1, 1) := by decide +kernel
theorem dX6_isApart_23 : decode cX6_isApart 23 = .ok (.if_icmp .ne 17, 3) := by decide +kernel
theorem dX6_isApart_26 : decode cX6_isApart 26 = .ok (.aload_n 0, 1) := by decide +kernel
theorem dX6_isApart_27 : decode cX6_isApart 27 = .ok (.aload_n 1, 1) := by decide +kernel
theorem dX6_isApart_28 : decode cX6_isApart 28 = .ok (.invokevirtual 367, 3) := by decide +kernel
theorem dX6_isApart_31 : decode cX6_isApart 31 = .ok (.bipush 60, 2) := by decide +kernel
theorem dX6_isApart_33 : decode cX6_isApart 33 = .ok (.if_icmp .le 7, 3) := by decide +kernel
theorem dX6_isApart_36 : decode cX6_isApart 36 = .ok (.iconst 1, 1) := by decide +kernel
theorem dX6_isApart_37 : decode cX6_isApart 37 = .ok (.goto 4, 3) := by decide +kernel
theorem dX6_isApart_40 : decode cX6_isApart 40 = .ok (.iconst 0, 1) := by decide +kernel
theorem dX6_isApart_41 : decode cX6_isApart 41 = .ok (.ireturn, 1) := by decide +kernel
theorem dX6_spreadIn_0 : decode cX6_spreadIn 0 = .ok (.sipush 9000, 3) := by decide +kernel
theorem dX6_spreadIn_3 : decode cX6_spreadIn 3 = .ok (.istore_n 2, 1) := by decide +kernel
theorem dX6_spreadIn_4 : decode cX6_spreadIn 4 = .ok (.iconst 0, 1) := by decide +kernel
theorem dX6_spreadIn_5 : decode cX6_spreadIn 5 = .ok (.istore_n 3, 1) := by decide +kernel
theorem dX6_spreadIn_6 : decode cX6_spreadIn 6 = .ok (.iconst 0, 1) := by decide +kernel
theorem dX6_spreadIn_7 : decode cX6_spreadIn 7 = .ok (.istore 4, 2) := by decide +kernel
theorem dX6_spreadIn_9 : decode cX6_spreadIn 9 = .ok (.iload 4, 2) := by decide +kernel
theorem dX6_spreadIn_11 : decode cX6_spreadIn 11 = .ok (.aload_n 0, 1) := by decide +kernel
theorem dX6_spreadIn_12 : decode cX6_spreadIn 12 = .ok (.getfield 10, 3) := by decide +kernel
theorem dX6_spreadIn_15 : decode cX6_spreadIn 15 = .ok (.invokevirtual 52, 3) := by decide +kernel
theorem dX6_spreadIn_18 : decode cX6_spreadIn 18 = .ok (.if_icmp .ge 66, 3) := by decide +kernel
theorem dX6_spreadIn_21 : decode cX6_spreadIn 21 = .ok (.aload_n 0, 1) := by decide +kernel
theorem dX6_spreadIn_22 : decode cX6_spreadIn 22 = .ok (.getfield 10, 3) := by decide +kernel
theorem dX6_spreadIn_25 : decode cX6_spreadIn 25 = .ok (.iload 4, 2) := by decide +kernel
theorem dX6_spreadIn_27 : decode cX6_spreadIn 27 = .ok (.invokevirtual 171, 3) := by decide +kernel
theorem dX6_spreadIn_30 : decode cX6_spreadIn 30 = .ok (.checkcast 61, 3) := by decide +kernel
theorem dX6_spreadIn_33 : decode cX6_spreadIn 33 = .ok (.astore 5, 2) := by decide +kernel
theorem dX6_spreadIn_35 : decode cX6_spreadIn 35 = .ok (.aload 5, 2) := by decide +kernel
theorem dX6_spreadIn_37 : decode cX6_spreadIn 37 = .ok (.getfield 345, 3) := by decide +kernel
theorem dX6_spreadIn_40 : decode cX6_spreadIn 40 = .ok (.ifnull 38, 3) := by decide +kernel
theorem dX6_spreadIn_43 : decode cX6_spreadIn 43 = .ok (.aload 5, 2) := by decide +kernel
theorem dX6_spreadIn_45 : decode cX6_spreadIn 45 = .ok (.aload_n 1, 1) := by decide +kernel
theorem dX6_spreadIn_46 : decode cX6_spreadIn 46 = .ok (.invokevirtual 370, 3) := by decide +kernel
theorem dX6_spreadIn_49 : decode cX6_spreadIn 49 = .ok (.ifCond .eq 29, 3) := by decide +kernel
theorem dX6_spreadIn_52 : decode cX6_spreadIn 52 = .ok (.iload_n 2, 1) := by decide +kernel
theorem dX6_spreadIn_53 : decode cX6_spreadIn 53 = .ok (.aload 5, 2) := by decide +kernel
theorem dX6_spreadIn_55 : decode cX6_spreadIn 55 = .ok (.getfield 345, 3) := by decide +kernel
theorem dX6_spreadIn_58 : decode cX6_spreadIn 58 = .ok (.getfield 196, 3) := by decide +kernel
theorem dX6_spreadIn_61 : decode cX6_spreadIn 61 = .ok (.invokestatic 204, 3) := by decide +kernel
theorem dX6_spreadIn_64 : decode cX6_spreadIn 64 = .ok (.istore_n 2, 1) := by decide +kernel
theorem dX6_spreadIn_65 : decode cX6_spreadIn 65 = .ok (.iload_n 3, 1) := by decide +kernel
theorem dX6_spreadIn_66 : decode cX6_spreadIn 66 = .ok (.aload 5, 2) := by decide +kernel
theorem dX6_spreadIn_68 : decode cX6_spreadIn 68 = .ok (.getfield 345, 3) := by decide +kernel
theorem dX6_spreadIn_71 : decode cX6_spreadIn 71 = .ok (.getfield 196, 3) := by decide +kernel
theorem dX6_spreadIn_74 : decode cX6_spreadIn 74 = .ok (.invokestatic 320, 3) := by decide +kernel
theorem dX6_spreadIn_77 : decode cX6_spreadIn 77 = .ok (.istore_n 3, 1) := by decide +kernel
theorem dX6_spreadIn_78 : decode cX6_spreadIn 78 = .ok (.iinc 4 1, 3) := by decide +kernel
theorem dX6_spreadIn_81 : decode cX6_spreadIn 81 = .ok (.goto (-72), 3) := by decide +kernel
theorem dX6_spreadIn_84 : decode cX6_spreadIn 84 = .ok (.iload_n 3, 1) := by decide +kernel
theorem dX6_spreadIn_85 : decode cX6_spreadIn 85 = .ok (.iload_n 2, 1) := by decide +kernel
theorem dX6_spreadIn_86 : decode cX6_spreadIn 86 = .ok (.isub, 1) := by decide +kernel
theorem dX6_spreadIn_87 : decode cX6_spreadIn 87 = .ok (.ireturn, 1) := by decide +kernel
theorem dX7_init_0 : decode cX7_init 0 = .ok (.aload_n 0, 1) := by decide +kernel
theorem dX7_init_1 : decode cX7_init 1 = .ok (.invokespecial 1, 3) := by decide +kernel
theorem dX7_init_4 : decode cX7_init 4 = .ok (.aload_n 0, 1) := by decide +kernel
theorem dX7_init_5 : decode cX7_init 5 = .ok (.bipush 60, 2) := by decide +kernel
theorem dX7_init_7 : decode cX7_init 7 = .ok (.newarray .int, 2) := by decide +kernel
theorem dX7_init_9 : decode cX7_init 9 = .ok (.putfield 7, 3) := by decide +kernel
theorem dX7_init_12 : decode cX7_init 12 = .ok (.aload_n 0, 1) := by decide +kernel
theorem dX7_init_13 : decode cX7_init 13 = .ok (.bipush 60, 2) := by decide +kernel
theorem dX7_init_15 : decode cX7_init 15 = .ok (.newarray .int, 2) := by decide +kernel
theorem dX7_init_17 : decode cX7_init 17 = .ok (.putfield 13, 3) := by decide +kernel
theorem dX7_init_20 : decode cX7_init 20 = .ok (.aload_n 0, 1) := by decide +kernel
theorem dX7_init_21 : decode cX7_init 21 = .ok (.bipush 60, 2) := by decide +kernel
theorem dX7_init_23 : decode cX7_init 23 = .ok (.newarray .int, 2) := by decide +kernel
theorem dX7_init_25 : decode cX7_init 25 = .ok (.putfield 16, 3) := by decide +kernel
theorem dX7_init_28 : decode cX7_init 28 = .ok (.aload_n 0, 1) := by decide +kernel
theorem dX7_init_29 : decode cX7_init 29 = .ok (.bipush 60, 2) := by decide +kernel
theorem dX7_init_31 : decode cX7_init 31 = .ok (.newarray .int, 2) := by decide +kernel
theorem dX7_init_33 : decode cX7_init 33 = .ok (.putfield 19, 3) := by decide +kernel
theorem dX7_init_36 : decode cX7_init 36 = .ok (.aload_n 0, 1) := by decide +kernel
theorem dX7_init_37 : decode cX7_init 37 = .ok (.bipush 60, 2) := by decide +kernel
theorem dX7_init_39 : decode cX7_init 39 = .ok (.newarray .int, 2) := by decide +kernel
theorem dX7_init_41 : decode cX7_init 41 = .ok (.putfield 22, 3) := by decide +kernel
theorem dX7_init_44 : decode cX7_init 44 = .ok (.aload_n 0, 1) := by decide +kernel
theorem dX7_init_45 : decode cX7_init 45 = .ok (.bipush 60, 2) := by decide +kernel
theorem dX7_init_47 : decode cX7_init 47 = .ok (.newarray .int, 2) := by decide +kernel
theorem dX7_init_49 : decode cX7_init 49 = .ok (.putfield 25, 3) := by decide +kernel
theorem dX7_init_52 : decode cX7_init 52 = .ok (.aload_n 0, 1) := by decide +kernel
theorem dX7_init_53 : decode cX7_init 53 = .ok (.bipush 60, 2) := by decide +kernel
theorem dX7_init_55 : decode cX7_init 55 = .ok (.newarray .int, 2) := by decide +kernel
theorem dX7_init_57 : decode cX7_init 57 = .ok (.putfield 28, 3) := by decide +kernel
theorem dX7_init_60 : decode cX7_init 60 = .ok (.aload_n 0, 1) := by decide +kernel
theorem dX7_init_61 : decode cX7_init 61 = .ok (.bipush 60, 2) := by decide +kernel
theorem dX7_init_63 : decode cX7_init 63 = .ok (.newarray .boolean, 2) := by decide +kernel
theorem dX7_init_65 : decode cX7_init 65 = .ok (.putfield 31, 3) := by decide +kernel
theorem dX7_init_68 : decode cX7_init 68 = .ok (.aload_n 0, 1) := by decide +kernel
theorem dX7_init_69 : decode cX7_init 69 = .ok (.bipush 60, 2) := by decide +kernel
theorem dX7_init_71 : decode cX7_init 71 = .ok (.newarray .boolean, 2) := by decide +kernel
theorem dX7_init_73 : decode cX7_init 73 = .ok (.putfield 35, 3) := by decide +kernel
theorem dX7_init_76 : decode cX7_init 76 = .ok (.aload_n 0, 1) := by decide +kernel
theorem dX7_init_77 : decode cX7_init 77 = .ok (.bipush 60, 2) := by decide +kernel
theorem dX7_init_79 : decode cX7_init 79 = .ok (.newarray .boolean, 2) := by decide +kernel
theorem dX7_init_81 : decode cX7_init 81 = .ok (.putfield 38, 3) := by decide +kernel
theorem dX7_init_84 : decode cX7_init 84 = .ok (.aload_n 0, 1) := by decide +kernel
theorem dX7_init_85 : decode cX7_init 85 = .ok (.bipush 60, 2) := by decide +kernel
theorem dX7_init_87 : decode cX7_init 87 = .ok (.newarray .boolean, 2) := by decide +kernel
theorem dX7_init_89 : decode cX7_init 89 = .ok (.putfield 41, 3) := by decide +kernel
theorem dX7_init_92 : decode cX7_init 92 = .ok (.aload_n 0, 1) := by decide +kernel
theorem dX7_init_93 : decode cX7_init 93 = .ok (.bipush 60, 2) := by decide +kernel
theorem dX7_init_95 : decode cX7_init 95 = .ok (.newarray .int, 2) := by decide +kernel
theorem dX7_init_97 : decode cX7_init 97 = .ok (.putfield 44, 3) := by decide +kernel
theorem dX7_init_100 : decode cX7_init 100 = .ok (.aload_n 0, 1) := by decide +kernel
theorem dX7_init_101 : decode cX7_init 101 = .ok (.bipush 60, 2) := by decide +kernel
theorem dX7_init_103 : decode cX7_init 103 = .ok (.newarray .int, 2) := by decide +kernel
theorem dX7_init_105 : decode cX7_init 105 = .ok (.putfield 47, 3) := by decide +kernel
theorem dX7_init_108 : decode cX7_init 108 = .ok (.aload_n 0, 1) := by decide +kernel
theorem dX7_init_109 : decode cX7_init 109 = .ok (.bipush 60, 2) := by decide +kernel
theorem dX7_init_111 : decode cX7_init 111 = .ok (.newarray .int, 2) := by decide +kernel
theorem dX7_init_113 : decode cX7_init 113 = .ok (.putfield 50, 3) := by decide +kernel
theorem dX7_init_116 : decode cX7_init 116 = .ok (.aload_n 0, 1) := by decide +kernel
theorem dX7_init_117 : decode cX7_init 117 = .ok (.bipush 60, 2) := by decide +kernel
theorem dX7_init_119 : decode cX7_init 119 = .ok (.newarray .int, 2) := by decide +kernel
theorem dX7_init_121 : decode cX7_init 121 = .ok (.putfield 53, 3) := by decide +kernel
theorem dX7_init_124 : decode cX7_init 124 = .ok (.aload_n 0, 1) := by decide +kernel
theorem dX7_init_125 : decode cX7_init 125 = .ok (.bipush 60, 2) := by decide +kernel
theorem dX7_init_127 : decode cX7_init 127 = .ok (.newarray .boolean, 2) := by decide +kernel
theorem dX7_init_129 : decode cX7_init 129 = .ok (.putfield 56, 3) := by decide +kernel
theorem dX7_init_132 : decode cX7_init 132 = .ok (.aload_n 0, 1) := by decide +kernel
theorem dX7_init_133 : decode cX7_init 133 = .ok (.bipush 60, 2) := by decide +kernel
theorem dX7_init_135 : decode cX7_init 135 = .ok (.newarray .int, 2) := by decide +kernel
theorem dX7_init_137 : decode cX7_init 137 = .ok (.putfield 59, 3) := by decide +kernel
theorem dX7_init_140 : decode cX7_init 140 = .ok (.aload_n 0, 1) := by decide +kernel
theorem dX7_init_141 : decode cX7_init 141 = .ok (.bipush 60, 2) := by decide +kernel
theorem dX7_init_143 : decode cX7_init 143 = .ok (.newarray .int, 2) := by decide +kernel
theorem dX7_init_145 : decode cX7_init 145 = .ok (.putfield 62, 3) := by decide +kernel
theorem dX7_init_148 : decode cX7_init 148 = .ok (.aload_n 0, 1) := by decide +kernel
theorem dX7_init_149 : decode cX7_init 149 = .ok (.iconst 5, 1) := by decide +kernel
theorem dX7_init_150 : decode cX7_init 150 = .ok (.newarray .int, 2) := by decide +kernel
theorem dX7_init_152 : decode cX7_init 152 = .ok (.putfield 65, 3) := by decide +kernel
theorem dX7_init_155 : decode cX7_init 155 = .ok (.aload_n 0, 1) := by decide +kernel
theorem dX7_init_156 : decode cX7_init 156 = .ok (.iconst 5, 1) := by decide +kernel
theorem dX7_init_157 : decode cX7_init 157 = .ok (.newarray .int, 2) := by decide +kernel
theorem dX7_init_159 : decode cX7_init 159 = .ok (.putfield 68, 3) := by decide +kernel
theorem dX7_init_162 : decode cX7_init 162 = .ok (.aload_n 0, 1) := by decide +kernel
theorem dX7_init_163 : decode cX7_init 163 = .ok (.iconst 5, 1) := by decide +kernel
theorem dX7_init_164 : decode cX7_init 164 = .ok (.newarray .int, 2) := by decide +kernel
theorem dX7_init_166 : decode cX7_init 166 = .ok (.putfield 71, 3) := by decide +kernel
theorem dX7_init_169 : decode cX7_init 169 = .ok (.aload_n 0, 1) := by decide +kernel
theorem dX7_init_170 : decode cX7_init 170 = .ok (.sipush 4000, 3) := by decide +kernel
theorem dX7_init_173 : decode cX7_init 173 = .ok (.newarray .int, 2) := by decide +kernel
theorem dX7_init_175 : decode cX7_init 175 = .ok (.putfield 74, 3) := by decide +kernel
theorem dX7_init_178 : decode cX7_init 178 = .ok (.aload_n 0, 1) := by decide +kernel
theorem dX7_init_179 : decode cX7_init 179 = .ok (.sipush 4000, 3) := by decide +kernel
theorem dX7_init_182 : decode cX7_init 182 = .ok (.newarray .int, 2) := by decide +kernel
theorem dX7_init_184 : decode cX7_init 184 = .ok (.putfield 77, 3) := by decide +kernel
theorem dX7_init_187 : decode cX7_init 187 = .ok (.aload_n 0, 1) := by decide +kernel
theorem dX7_init_188 : decode cX7_init 188 = .ok (.bipush 8, 2) := by decide +kernel
theorem dX7_init_190 : decode cX7_init 190 = .ok (.newarray .int, 2) := by decide +kernel
theorem dX7_init_192 : decode cX7_init 192 = .ok (.putfield 80, 3) := by decide +kernel
theorem dX7_init_195 : decode cX7_init 195 = .ok (.aload_n 0, 1) := by decide +kernel
theorem dX7_init_196 : decode cX7_init 196 = .ok (.bipush 60, 2) := by decide +kernel
theorem dX7_init_198 : decode cX7_init 198 = .ok (.newarray .int, 2) := by decide +kernel
theorem dX7_init_200 : decode cX7_init 200 = .ok (.putfield 83, 3) := by decide +kernel
theorem dX7_init_203 : decode cX7_init 203 = .ok (.aload_n 0, 1) := by decide +kernel
theorem dX7_init_204 : decode cX7_init 204 = .ok (.bipush 8, 2) := by decide +kernel
theorem dX7_init_206 : decode cX7_init 206 = .ok (.newarray .int, 2) := by decide +kernel
theorem dX7_init_208 : decode cX7_init 208 = .ok (.putfield 86, 3) := by decide +kernel
theorem dX7_init_211 : decode cX7_init 211 = .ok (.aload_n 0, 1) := by decide +kernel
theorem dX7_init_212 : decode cX7_init 212 = .ok (.bipush 8, 2) := by decide +kernel
theorem dX7_init_214 : decode cX7_init 214 = .ok (.newarray .int, 2) := by decide +kernel
theorem dX7_init_216 : decode cX7_init 216 = .ok (.putfield 89, 3) := by decide +kernel
theorem dX7_init_219 : decode cX7_init 219 = .ok (.aload_n 0, 1) := by decide +kernel
theorem dX7_init_220 : decode cX7_init 220 = .ok (.iconst 3, 1) := by decide +kernel
theorem dX7_init_221 : decode cX7_init 221 = .ok (.newarray .int, 2) := by decide +kernel
theorem dX7_init_223 : decode cX7_init 223 = .ok (.putfield 92, 3) := by decide +kernel
theorem dX7_init_226 : decode cX7_init 226 = .ok (.aload_n 0, 1) := by decide +kernel
theorem dX7_init_227 : decode cX7_init 227 = .ok (.bipush 12, 2) := by decide +kernel
theorem dX7_init_229 : decode cX7_init 229 = .ok (.newarray .int, 2) := by decide +kernel
theorem dX7_init_231 : decode cX7_init 231 = .ok (.putfield 95, 3) := by decide +kernel
theorem dX7_init_234 : decode cX7_init 234 = .ok (.aload_n 0, 1) := by decide +kernel
theorem dX7_init_235 : decode cX7_init 235 = .ok (.iconst 0, 1) := by decide +kernel
theorem dX7_init_236 : decode cX7_init 236 = .ok (.putfield 98, 3) := by decide +kernel
theorem dX7_init_239 : decode cX7_init 239 = .ok (.return_, 1) := by decide +kernel
theorem dX7_thrown_0 : decode cX7_thrown 0 = .ok (.aload_n 0, 1) := by decide +kernel
theorem dX7_thrown_1 : decode cX7_thrown 1 = .ok (.getfield 98, 3) := by decide +kernel
theorem dX7_thrown_4 : decode cX7_thrown 4 = .ok (.ireturn, 1) := by decide +kernel
theorem dX7_in_0 : decode cX7_in 0 = .ok (.iload_n 0, 1) := by decide +kernel
theorem dX7_in_1 : decode cX7_in 1 = .ok (.iload_n 1, 1) := by decide +kernel
theorem dX7_in_2 : decode cX7_in 2 = .ok (.if_icmp .lt 12, 3) := by decide +kernel
theorem dX7_in_5 : decode cX7_in 5 = .ok (.iload_n 0, 1) := by decide +kernel
theorem dX7_in_6 : decode cX7_in 6 = .ok (.iload_n 2, 1) := by decide +kernel
theorem dX7_in_7 : decode cX7_in 7 = .ok (.if_icmp .gt 7, 3) := by decide +kernel
theorem dX7_in_10 : decode cX7_in 10 = .ok (.iconst 1, 1) := by decide +kernel
theorem dX7_in_11 : decode cX7_in 11 = .ok (.goto 4, 3) := by decide +kernel
theorem dX7_in_14 : decode cX7_in 14 = .ok (.iconst 0, 1) := by decide +kernel
theorem dX7_in_15 : decode cX7_in 15 = .ok (.ireturn, 1) := by decide +kernel
theorem dX7_isPart_0 : decode cX7_isPart 0 = .ok (.iload_n 1, 1) := by decide +kernel
theorem dX7_isPart_1 : decode cX7_isPart 1 = .ok (.iconst 0, 1) := by decide +kernel
theorem dX7_isPart_2 : decode cX7_isPart 2 = .ok (.aload_n 0, 1) := by decide +kernel
theorem dX7_isPart_3 : decode cX7_isPart 3 = .ok (.getfield 102, 3) := by decide +kernel
theorem dX7_isPart_6 : decode cX7_isPart 6 = .ok (.iconst 1, 1) := by decide +kernel
theorem dX7_isPart_7 : decode cX7_isPart 7 = .ok (.isub, 1) := by decide +kernel
theorem dX7_isPart_8 : decode cX7_isPart 8 = .ok (.invokestatic 105, 3) := by decide +kernel
theorem dX7_isPart_11 : decode cX7_isPart 11 = .ok (.ireturn, 1) := by decide +kernel
theorem dX7_kindCode_0 : decode cX7_kindCode 0 = .ok (.aload_n 0, 1) := by decide +kernel
theorem dX7_kindCode_1 : decode cX7_kindCode 1 = .ok (.iload_n 1, 1) := by decide +kernel
theorem dX7_kindCode_2 : decode cX7_kindCode 2 = .ok (.invokevirtual 109, 3) := by decide +kernel
theorem dX7_kindCode_5 : decode cX7_kindCode 5 = .ok (.ifCond .ne 7, 3) := by decide +kernel
theorem dX7_kindCode_8 : decode cX7_kindCode 8 = .ok (.iconst 1, 1) := by decide +kernel
theorem dX7_kindCode_9 : decode cX7_kindCode 9 = .ok (.goto 18, 3) := by decide +kernel
theorem dX7_kindCode_12 : decode cX7_kindCode 12 = .ok (.aload_n 0, 1) := by decide +kernel
theorem dX7_kindCode_13 : decode cX7_kindCode 13 = .ok (.getfield 7, 3) := by decide +kernel
theorem dX7_kindCode_16 : decode cX7_kindCode 16 = .ok (.iload_n 1, 1) := by decide +kernel
theorem dX7_kindCode_17 : decode cX7_kindCode 17 = .ok (.iaload, 1) := by decide +kernel
theorem dX7_kindCode_18 : decode cX7_kindCode 18 = .ok (.iload_n 2, 1) := by decide +kernel
theorem dX7_kindCode_19 : decode cX7_kindCode 19 = .ok (.if_icmp .ne 7, 3) := by decide +kernel
theorem dX7_kindCode_22 : decode cX7_kindCode 22 = .ok (.iconst 0, 1) := by decide +kernel
theorem dX7_kindCode_23 : decode cX7_kindCode 23 = .ok (.goto 4, 3) := by decide +kernel
theorem dX7_kindCode_26 : decode cX7_kindCode 26 = .ok (.iconst 2, 1) := by decide +kernel
theorem dX7_kindCode_27 : decode cX7_kindCode 27 = .ok (.ireturn, 1) := by decide +kernel
theorem dX7_part_0 : decode cX7_part 0 = .ok (.aload_n 0, 1) := by decide +kernel
theorem dX7_part_1 : decode cX7_part 1 = .ok (.iload_n 1, 1) := by decide +kernel
theorem dX7_part_2 : decode cX7_part 2 = .ok (.iconst 0, 1) := by decide +kernel
theorem dX7_part_3 : decode cX7_part 3 = .ok (.iconst 4, 1) := by decide +kernel
theorem dX7_part_4 : decode cX7_part 4 = .ok (.invokestatic 105, 3) := by decide +kernel
theorem dX7_part_7 : decode cX7_part 7 = .ok (.ifCond .eq 22, 3) := by decide +kernel
theorem dX7_part_10 : decode cX7_part 10 = .ok (.iload_n 2, 1) := by decide +kernel
theorem dX7_part_11 : decode cX7_part 11 = .ok (.iconst 0, 1) := by decide +kernel
theorem dX7_part_12 : decode cX7_part 12 = .ok (.bipush 9, 2) := by decide +kernel
theorem dX7_part_14 : decode cX7_part 14 = .ok (.invokestatic 105, 3) := by decide +kernel
theorem dX7_part_17 : decode cX7_part 17 = .ok (.ifCond .eq 12, 3) := by decide +kernel
theorem dX7_part_20 : decode cX7_part 20 = .ok (.iload_n 3, 1) := by decide +kernel
theorem dX7_part_21 : decode cX7_part 21 = .ok (.iconst 0, 1) := by decide +kernel
theorem dX7_part_22 : decode cX7_part 22 = .ok (.iconst 3, 1) := by decide +kernel
theorem dX7_part_23 : decode cX7_part 23 = .ok (.invokestatic 105, 3) := by decide +kernel
theorem dX7_part_26 : decode cX7_part 26 = .ok (.ifCond .ne 7, 3) := by decide +kernel
theorem dX7_part_29 : decode cX7_part 29 = .ok (.iconst 1, 1) := by decide +kernel
theorem dX7_part_30 : decode cX7_part 30 = .ok (.goto 17, 3) := by decide +kernel
theorem dX7_part_33 : decode cX7_part 33 = .ok (.aload_n 0, 1) := by decide +kernel
theorem dX7_part_34 : decode cX7_part 34 = .ok (.getfield 102, 3) := by decide +kernel
theorem dX7_part_37 : decode cX7_part 37 = .ok (.bipush 60, 2) := by decide +kernel
theorem dX7_part_39 : decode cX7_part 39 = .ok (.if_icmp .ne 7, 3) := by decide +kernel
theorem dX7_part_42 : decode cX7_part 42 = .ok (.iconst 2, 1) := by decide +kernel
theorem dX7_part_43 : decode cX7_part 43 = .ok (.goto 4, 3) := by decide +kernel
theorem dX7_part_46 : decode cX7_part 46 = .ok (.iconst 0, 1) := by decide +kernel
theorem dX7_part_47 : decode cX7_part 47 = .ok (.putfield 98, 3) := by decide +kernel
theorem dX7_part_50 : decode cX7_part 50 = .ok (.aload_n 0, 1) := by decide +kernel
theorem dX7_part_51 : decode cX7_part 51 = .ok (.getfield 98, 3) := by decide +kernel
theorem dX7_part_54 : decode cX7_part 54 = .ok (.ifCond .le 5, 3) := by decide +kernel
theorem dX7_part_57 : decode cX7_part 57 = .ok (.iconst 0, 1) := by decide +kernel
theorem dX7_part_58 : decode cX7_part 58 = .ok (.ireturn, 1) := by decide +kernel
theorem dX7_part_59 : decode cX7_part 59 = .ok (.aload_n 0, 1) := by decide +kernel
theorem dX7_part_60 : decode cX7_part 60 = .ok (.getfield 7, 3) := by decide +kernel
theorem dX7_part_63 : decode cX7_part 63 = .ok (.aload_n 0, 1) := by decide +kernel
theorem dX7_part_64 : decode cX7_part 64 = .ok (.getfield 102, 3) := by decide +kernel
theorem dX7_part_67 : decode cX7_part 67 = .ok (.iload_n 1, 1) := by decide +kernel
theorem dX7_part_68 : decode cX7_part 68 = .ok (.iastore, 1) := by decide +kernel
theorem dX7_part_69 : decode cX7_part 69 = .ok (.aload_n 0, 1) := by decide +kernel
theorem dX7_part_70 : decode cX7_part 70 = .ok (.getfield 13, 3) := by decide +kernel
theorem dX7_part_73 : decode cX7_part 73 = .ok (.aload_n 0, 1) := by decide +kernel
theorem dX7_part_74 : decode cX7_part 74 = .ok (.getfield 102, 3) := by decide +kernel
theorem dX7_part_77 : decode cX7_part 77 = .ok (.iload_n 2, 1) := by decide +kernel
theorem dX7_part_78 : decode cX7_part 78 = .ok (.iastore, 1) := by decide +kernel
theorem dX7_part_79 : decode cX7_part 79 = .ok (.aload_n 0, 1) := by decide +kernel
theorem dX7_part_80 : decode cX7_part 80 = .ok (.getfield 16, 3) := by decide +kernel
theorem dX7_part_83 : decode cX7_part 83 = .ok (.aload_n 0, 1) := by decide +kernel
theorem dX7_part_84 : decode cX7_part 84 = .ok (.getfield 102, 3) := by decide +kernel
theorem dX7_part_87 : decode cX7_part 87 = .ok (.iload_n 3, 1) := by decide +kernel
theorem dX7_part_88 : decode cX7_part 88 = .ok (.iastore, 1) := by decide +kernel
theorem dX7_part_89 : decode cX7_part 89 = .ok (.aload_n 0, 1) := by decide +kernel
theorem dX7_part_90 : decode cX7_part 90 = .ok (.getfield 19, 3) := by decide +kernel
theorem dX7_part_93 : decode cX7_part 93 = .ok (.aload_n 0, 1) := by decide +kernel
theorem dX7_part_94 : decode cX7_part 94 = .ok (.getfield 102, 3) := by decide +kernel
theorem dX7_part_97 : decode cX7_part 97 = .ok (.iconst (-1), 1) := by decide +kernel
theorem dX7_part_98 : decode cX7_part 98 = .ok (.iastore, 1) := by decide +kernel
theorem dX7_part_99 : decode cX7_part 99 = .ok (.aload_n 0, 1) := by decide +kernel
theorem dX7_part_100 : decode cX7_part 100 = .ok (.getfield 44, 3) := by decide +kernel
theorem dX7_part_103 : decode cX7_part 103 = .ok (.aload_n 0, 1) := by decide +kernel
theorem dX7_part_104 : decode cX7_part 104 = .ok (.getfield 102, 3) := by decide +kernel
theorem dX7_part_107 : decode cX7_part 107 = .ok (.sipush 9000, 3) := by decide +kernel
theorem dX7_part_110 : decode cX7_part 110 = .ok (.iastore, 1) := by decide +kernel
theorem dX7_part_111 : decode cX7_part 111 = .ok (.aload_n 0, 1) := by decide +kernel
theorem dX7_part_112 : decode cX7_part 112 = .ok (.getfield 47, 3) := by decide +kernel
theorem dX7_part_115 : decode cX7_part 115 = .ok (.aload_n 0, 1) := by decide +kernel
theorem dX7_part_116 : decode cX7_part 116 = .ok (.getfield 102, 3) := by decide +kernel
theorem dX7_part_119 : decode cX7_part 119 = .ok (.sipush 300, 3) := by decide +kernel
theorem dX7_part_122 : decode cX7_part 122 = .ok (.iastore, 1) := by decide +kernel
theorem dX7_part_123 : decode cX7_part 123 = .ok (.aload_n 0, 1) := by decide +kernel
theorem dX7_part_124 : decode cX7_part 124 = .ok (.dup, 1) := by decide +kernel
theorem dX7_part_125 : decode cX7_part 125 = .ok (.getfield 102, 3) := by decide +kernel
theorem dX7_part_128 : decode cX7_part 128 = .ok (.iconst 1, 1) := by decide +kernel
theorem dX7_part_129 : decode cX7_part 129 = .ok (.iadd, 1) := by decide +kernel
theorem dX7_part_130 : decode cX7_part 130 = .ok (.putfield 102, 3) := by decide +kernel
theorem dX7_part_133 : decode cX7_part 133 = .ok (.aload_n 0, 1) := by decide +kernel
theorem dX7_part_134 : decode cX7_part 134 = .ok (.getfield 102, 3) := by decide +kernel
theorem dX7_part_137 : decode cX7_part 137 = .ok (.iconst 1, 1) := by decide +kernel
theorem dX7_part_138 : decode cX7_part 138 = .ok (.isub, 1) := by decide +kernel
theorem dX7_part_139 : decode cX7_part 139 = .ok (.ireturn, 1) := by decide +kernel
theorem dX7_limits_0 : decode cX7_limits 0 = .ok (.aload_n 0, 1) := by decide +kernel
theorem dX7_limits_1 : decode cX7_limits 1 = .ok (.iload_n 1, 1) := by decide +kernel
theorem dX7_limits_2 : decode cX7_limits 2 = .ok (.iconst 0, 1) := by decide +kernel
theorem dX7_limits_3 : decode cX7_limits 3 = .ok (.iconst 4, 1) := by decide +kernel
theorem dX7_limits_4 : decode cX7_limits 4 = .ok (.invokestatic 105, 3) := by decide +kernel
theorem dX7_limits_7 : decode cX7_limits 7 = .ok (.ifCond .eq 38, 3) := by decide +kernel
theorem dX7_limits_10 : decode cX7_limits 10 = .ok (.iload_n 2, 1) := by decide +kernel
theorem dX7_limits_11 : decode cX7_limits 11 = .ok (.iconst 0, 1) := by decide +kernel
theorem dX7_limits_12 : decode cX7_limits 12 = .ok (.ldc 113, 2) := by decide +kernel
theorem dX7_limits_14 : decode cX7_limits 14 = .ok (.invokestatic 105, 3) := by decide +kernel
theorem dX7_limits_17 : decode cX7_limits 17 = .ok (.ifCond .eq 28, 3) := by decide +kernel
theorem dX7_limits_20 : decode cX7_limits 20 = .ok (.iload_n 3, 1) := by decide +kernel
theorem dX7_limits_21 : decode cX7_limits 21 = .ok (.iconst 0, 1) := by decide +kernel
theorem dX7_limits_22 : decode cX7_limits 22 = .ok (.ldc 113, 2) := by decide +kernel
theorem dX7_limits_24 : decode cX7_limits 24 = .ok (.invokestatic 105, 3) := by decide +kernel
theorem dX7_limits_27 : decode cX7_limits 27 = .ok (.ifCond .eq 18, 3) := by decide +kernel
theorem dX7_limits_30 : decode cX7_limits 30 = .ok (.iload 4, 2) := by decide +kernel
theorem dX7_limits_32 : decode cX7_limits 32 = .ok (.iconst 0, 1) := by decide +kernel
theorem dX7_limits_33 : decode cX7_limits 33 = .ok (.ldc 113, 2) := by decide +kernel
theorem dX7_limits_35 : decode cX7_limits 35 = .ok (.invokestatic 105, 3) := by decide +kernel
theorem dX7_limits_38 : decode cX7_limits 38 = .ok (.ifCond .eq 7, 3) := by decide +kernel
theorem dX7_limits_41 : decode cX7_limits 41 = .ok (.iconst 0, 1) := by decide +kernel
theorem dX7_limits_42 : decode cX7_limits 42 = .ok (.goto 4, 3) := by decide +kernel
theorem dX7_limits_45 : decode cX7_limits 45 = .ok (.iconst 1, 1) := by decide +kernel
theorem dX7_limits_46 : decode cX7_limits 46 = .ok (.putfield 98, 3) := by decide +kernel
theorem dX7_limits_49 : decode cX7_limits 49 = .ok (.aload_n 0, 1) := by decide +kernel
theorem dX7_limits_50 : decode cX7_limits 50 = .ok (.getfield 98, 3) := by decide +kernel
theorem dX7_limits_53 : decode cX7_limits 53 = .ok (.ifCond .le 5, 3) := by decide +kernel
theorem dX7_limits_56 : decode cX7_limits 56 = .ok (.iconst 0, 1) := by decide +kernel
theorem dX7_limits_57 : decode cX7_limits 57 = .ok (.ireturn, 1) := by decide +kernel
theorem dX7_limits_58 : decode cX7_limits 58 = .ok (.aload_n 0, 1) := by decide +kernel
theorem dX7_limits_59 : decode cX7_limits 59 = .ok (.getfield 65, 3) := by decide +kernel
theorem dX7_limits_62 : decode cX7_limits 62 = .ok (.iload_n 1, 1) := by decide +kernel
theorem dX7_limits_63 : decode cX7_limits 63 = .ok (.iaload, 1) := by decide +kernel
theorem dX7_limits_64 : decode cX7_limits 64 = .ok (.istore 5, 2) := by decide +kernel
theorem dX7_limits_66 : decode cX7_limits 66 = .ok (.aload_n 0, 1) := by decide +kernel
theorem dX7_limits_67 : decode cX7_limits 67 = .ok (.getfield 65, 3) := by decide +kernel
theorem dX7_limits_70 : decode cX7_limits 70 = .ok (.iload_n 1, 1) := by decide +kernel
theorem dX7_limits_71 : decode cX7_limits 71 = .ok (.iload_n 2, 1) := by decide +kernel
theorem dX7_limits_72 : decode cX7_limits 72 = .ok (.iastore, 1) := by decide +kernel
theorem dX7_limits_73 : decode cX7_limits 73 = .ok (.aload_n 0, 1) := by decide +kernel
theorem dX7_limits_74 : decode cX7_limits 74 = .ok (.getfield 68, 3) := by decide +kernel
theorem dX7_limits_77 : decode cX7_limits 77 = .ok (.iload_n 1, 1) := by decide +kernel
theorem dX7_limits_78 : decode cX7_limits 78 = .ok (.iload_n 3, 1) := by decide +kernel
theorem dX7_limits_79 : decode cX7_limits 79 = .ok (.iastore, 1) := by decide +kernel
theorem dX7_limits_80 : decode cX7_limits 80 = .ok (.aload_n 0, 1) := by decide +kernel
theorem dX7_limits_81 : decode cX7_limits 81 = .ok (.getfield 71, 3) := by decide +kernel
theorem dX7_limits_84 : decode cX7_limits 84 = .ok (.iload_n 1, 1) := by decide +kernel
theorem dX7_limits_85 : decode cX7_limits 85 = .ok (.iload 4, 2) := by decide +kernel
theorem dX7_limits_87 : decode cX7_limits 87 = .ok (.iastore, 1) := by decide +kernel
theorem dX7_limits_88 : decode cX7_limits 88 = .ok (.iload 5, 2) := by decide +kernel
theorem dX7_limits_90 : decode cX7_limits 90 = .ok (.ireturn, 1) := by decide +kernel
theorem dX7_headOf_0 : decode cX7_headOf 0 = .ok (.iload_n 1, 1) := by decide +kernel
theorem dX7_headOf_1 : decode cX7_headOf 1 = .ok (.istore_n 2, 1) := by decide +kernel
theorem dX7_headOf_2 : decode cX7_headOf 2 = .ok (.aload_n 0, 1) := by decide +kernel
theorem dX7_headOf_3 : decode cX7_headOf 3 = .ok (.getfield 19, 3) := by decide +kernel
theorem dX7_headOf_6 : decode cX7_headOf 6 = .ok (.iload_n 2, 1) := by decide +kernel
theorem dX7_headOf_7 : decode cX7_headOf 7 = .ok (.iaload, 1) := by decide +kernel
theorem dX7_headOf_8 : decode cX7_headOf 8 = .ok (.ifCond .lt 13, 3) := by decide +kernel
theorem dX7_headOf_11 : decode cX7_headOf 11 = .ok (.aload_n 0, 1) := by decide +kernel
theorem dX7_headOf_12 : decode cX7_headOf 12 = .ok (.getfield 19, 3) := by decide +kernel
theorem dX7_headOf_15 : decode cX7_headOf 15 = .ok (.iload_n 2, 1) := by decide +kernel
theorem dX7_headOf_16 : decode cX7_headOf 16 = .ok (.iaload, 1) := by decide +kernel
theorem dX7_headOf_17 : decode cX7_headOf 17 = .ok (.istore_n 2, 1) := by decide +kernel
theorem dX7_headOf_18 : decode cX7_headOf 18 = .ok (.goto (-16), 3) := by decide +kernel
theorem dX7_headOf_21 : decode cX7_headOf 21 = .ok (.iload_n 2, 1) := by decide +kernel
theorem dX7_headOf_22 : decode cX7_headOf 22 = .ok (.ireturn, 1) := by decide +kernel
theorem dX7_isBound_0 : decode cX7_isBound 0 = .ok (.aload_n 0, 1) := by decide +kernel
theorem dX7_isBound_1 : decode cX7_isBound 1 = .ok (.getfield 41, 3) := by decide +kernel
theorem dX7_isBound_4 : decode cX7_isBound 4 = .ok (.aload_n 0, 1) := by decide +kernel
theorem dX7_isBound_5 : decode cX7_isBound 5 = .ok (.iload_n 1, 1) := by decide +kernel
theorem dX7_isBound_6 : decode cX7_isBound 6 = .ok (.invokevirtual 114, 3) := by decide +kernel
theorem dX7_isBound_9 : decode cX7_isBound 9 = .ok (.baload, 1) := by decide +kernel
theorem dX7_isBound_10 : decode cX7_isBound 10 = .ok (.ireturn, 1) := by decide +kernel
theorem dX7_isIn_0 : decode cX7_isIn 0 = .ok (.aload_n 0, 1) := by decide +kernel
theorem dX7_isIn_1 : decode cX7_isIn 1 = .ok (.getfield 19, 3) := by decide +kernel
theorem dX7_isIn_4 : decode cX7_isIn 4 = .ok (.iload_n 1, 1) := by decide +kernel
theorem dX7_isIn_5 : decode cX7_isIn 5 = .ok (.iaload, 1) := by decide +kernel
theorem dX7_isIn_6 : decode cX7_isIn 6 = .ok (.bipush (-2), 2) := by decide +kernel
theorem dX7_isIn_8 : decode cX7_isIn 8 = .ok (.if_icmp .eq 12, 3) := by decide +kernel
theorem dX7_isIn_11 : decode cX7_isIn 11 = .ok (.aload_n 0, 1) := by decide +kernel
theorem dX7_isIn_12 : decode cX7_isIn 12 = .ok (.iload_n 1, 1) := by decide +kernel
theorem dX7_isIn_13 : decode cX7_isIn 13 = .ok (.invokevirtual 114, 3) := by decide +kernel
theorem dX7_isIn_16 : decode cX7_isIn 16 = .ok (.iload_n 2, 1) := by decide +kernel
theorem dX7_isIn_17 : decode cX7_isIn 17 = .ok (.if_icmp .eq 8, 3) := by decide +kernel
theorem dX7_isIn_20 : decode cX7_isIn 20 = .ok (.iload_n 1, 1) := by decide +kernel
theorem dX7_isIn_21 : decode cX7_isIn 21 = .ok (.iload_n 2, 1) := by decide +kernel
theorem dX7_isIn_22 : decode cX7_isIn 22 = .ok (.if_icmp .ne 7, 3) := by decide +kernel
theorem dX7_isIn_25 : decode cX7_isIn 25 = .ok (.iconst 1, 1) := by decide +kernel
theorem dX7_isIn_26 : decode cX7_isIn 26 = .ok (.goto 4, 3) := by decide +kernel
theorem dX7_isIn_29 : decode cX7_isIn 29 = .ok (.iconst 0, 1) := by decide +kernel
theorem dX7_isIn_30 : decode cX7_isIn 30 = .ok (.ireturn, 1) := by decide +kernel
theorem dX7_places_0 : decode cX7_places 0 = .ok (.iload_n 0, 1) := by decide +kernel
theorem dX7_places_1 : decode cX7_places 1 = .ok (.iconst 2, 1) := by decide +kernel
theorem dX7_places_2 : decode cX7_places 2 = .ok (.if_icmp .ne 23, 3) := by decide +kernel
theorem dX7_places_5 : decode cX7_places 5 = .ok (.iload_n 1, 1) := by decide +kernel
theorem dX7_places_6 : decode cX7_places 6 = .ok (.iconst 3, 1) := by decide +kernel
theorem dX7_places_7 : decode cX7_places 7 = .ok (.if_icmp .ne 7, 3) := by decide +kernel
theorem dX7_places_10 : decode cX7_places 10 = .ok (.iconst 2, 1) := by decide +kernel
theorem dX7_places_11 : decode cX7_places 11 = .ok (.goto 13, 3) := by decide +kernel
theorem dX7_places_14 : decode cX7_places 14 = .ok (.iload_n 1, 1) := by decide +kernel
theorem dX7_places_15 : decode cX7_places 15 = .ok (.iconst 4, 1) := by decide +kernel
theorem dX7_places_16 : decode cX7_places 16 = .ok (.if_icmp .ne 7, 3) := by decide +kernel
theorem dX7_places_19 : decode cX7_places 19 = .ok (.iconst 1, 1) := by decide +kernel
theorem dX7_places_20 : decode cX7_places 20 = .ok (.goto 4, 3) := by decide +kernel
theorem dX7_places_23 : decode cX7_places 23 = .ok (.iconst 0, 1) := by decide +kernel
theorem dX7_places_24 : decode cX7_places 24 = .ok (.ireturn, 1) := by decide +kernel
theorem dX7_places_25 : decode cX7_places 25 = .ok (.iload_n 0, 1) := by decide +kernel
theorem dX7_places_26 : decode cX7_places 26 = .ok (.ifCond .eq 8, 3) := by decide +kernel
theorem dX7_places_29 : decode cX7_places 29 = .ok (.iload_n 0, 1) := by decide +kernel
theorem dX7_places_30 : decode cX7_places 30 = .ok (.iconst 1, 1) := by decide +kernel
theorem dX7_places_31 : decode cX7_places 31 = .ok (.if_icmp .ne 14, 3) := by decide +kernel
theorem dX7_places_34 : decode cX7_places 34 = .ok (.iload_n 1, 1) := by decide +kernel
theorem dX7_places_35 : decode cX7_places 35 = .ok (.iload_n 0, 1) := by decide +kernel
theorem dX7_places_36 : decode cX7_places 36 = .ok (.iconst 1, 1) := by decide +kernel
theorem dX7_places_37 : decode cX7_places 37 = .ok (.iadd, 1) := by decide +kernel
theorem dX7_places_38 : decode cX7_places 38 = .ok (.if_icmp .ne 7, 3) := by decide +kernel
theorem dX7_places_41 : decode cX7_places 41 = .ok (.iconst 2, 1) := by decide +kernel
theorem dX7_places_42 : decode cX7_places 42 = .ok (.goto 4, 3) := by decide +kernel
theorem dX7_places_45 : decode cX7_places 45 = .ok (.iconst 0, 1) := by decide +kernel
theorem dX7_places_46 : decode cX7_places 46 = .ok (.ireturn, 1) := by decide +kernel
theorem dX7_inside_0 : decode cX7_inside 0 = .ok (.iconst 0, 1) := by decide +kernel
theorem dX7_inside_1 : decode cX7_inside 1 = .ok (.istore_n 3, 1) := by decide +kernel
theorem dX7_inside_2 : decode cX7_inside 2 = .ok (.iconst 0, 1) := by decide +kernel
theorem dX7_inside_3 : decode cX7_inside 3 = .ok (.istore 4, 2) := by decide +kernel
theorem dX7_inside_5 : decode cX7_inside 5 = .ok (.iload 4, 2) := by decide +kernel
theorem dX7_inside_7 : decode cX7_inside 7 = .ok (.aload_n 0, 1) := by decide +kernel
theorem dX7_inside_8 : decode cX7_inside 8 = .ok (.getfield 102, 3) := by decide +kernel
theorem dX7_inside_11 : decode cX7_inside 11 = .ok (.if_icmp .ge 44, 3) := by decide +kernel
theorem dX7_inside_14 : decode cX7_inside 14 = .ok (.iload_n 3, 1) := by decide +kernel
theorem dX7_inside_15 : decode cX7_inside 15 = .ok (.aload_n 0, 1) := by decide +kernel
theorem dX7_inside_16 : decode cX7_inside 16 = .ok (.getfield 19, 3) := by decide +kernel
theorem dX7_inside_19 : decode cX7_inside 19 = .ok (.iload 4, 2) := by decide +kernel
theorem dX7_inside_21 : decode cX7_inside 21 = .ok (.iaload, 1) := by decide +kernel
theorem dX7_inside_22 : decode cX7_inside 22 = .ok (.iload_n 1, 1) := by decide +kernel
theorem dX7_inside_23 : decode cX7_inside 23 = .ok (.if_icmp .ne 23, 3) := by decide +kernel
theorem dX7_inside_26 : decode cX7_inside 26 = .ok (.iload_n 2, 1) := by decide +kernel
theorem dX7_inside_27 : decode cX7_inside 27 = .ok (.iconst (-1), 1) := by decide +kernel
theorem dX7_inside_28 : decode cX7_inside 28 = .ok (.if_icmp .eq 14, 3) := by decide +kernel
theorem dX7_inside_31 : decode cX7_inside 31 = .ok (.aload_n 0, 1) := by decide +kernel
theorem dX7_inside_32 : decode cX7_inside 32 = .ok (.getfield 7, 3) := by decide +kernel
theorem dX7_inside_35 : decode cX7_inside 35 = .ok (.iload 4, 2) := by decide +kernel
theorem dX7_inside_37 : decode cX7_inside 37 = .ok (.iaload, 1) := by decide +kernel
theorem dX7_inside_38 : decode cX7_inside 38 = .ok (.iload_n 2, 1) := by decide +kernel
theorem dX7_inside_39 : decode cX7_inside 39 = .ok (.if_icmp .ne 7, 3) := by decide +kernel
theorem dX7_inside_42 : decode cX7_inside 42 = .ok (.iconst 1, 1) := by decide +kernel
theorem dX7_inside_43 : decode cX7_inside 43 = .ok (.goto 4, 3) := by decide +kernel
theorem dX7_inside_46 : decode cX7_inside 46 = .ok (.iconst 0, 1) := by decide +kernel
theorem dX7_inside_47 : decode cX7_inside 47 = .ok (.iadd, 1) := by decide +kernel
theorem dX7_inside_48 : decode cX7_inside 48 = .ok (.istore_n 3, 1) := by decide +kernel
theorem dX7_inside_49 : decode cX7_inside 49 = .ok (.iinc 4 1, 3) := by decide +kernel
theorem dX7_inside_52 : decode cX7_inside 52 = .ok (.goto (-47), 3) := by decide +kernel
theorem dX7_inside_55 : decode cX7_inside 55 = .ok (.iload_n 3, 1) := by decide +kernel
theorem dX7_inside_56 : decode cX7_inside 56 = .ok (.ireturn, 1) := by decide +kernel
theorem dX7_moves_0 : decode cX7_moves 0 = .ok (.aload_n 0, 1) := by decide +kernel
theorem dX7_moves_1 : decode cX7_moves 1 = .ok (.getfield 19, 3) := by decide +kernel
theorem dX7_moves_4 : decode cX7_moves 4 = .ok (.iload_n 1, 1) := by decide +kernel
theorem dX7_moves_5 : decode cX7_moves 5 = .ok (.iload_n 2, 1) := by decide +kernel
theorem dX7_moves_6 : decode cX7_moves 6 = .ok (.iastore, 1) := by decide +kernel
theorem dX7_moves_7 : decode cX7_moves 7 = .ok (.aload_n 0, 1) := by decide +kernel
theorem dX7_moves_8 : decode cX7_moves 8 = .ok (.getfield 74, 3) := by decide +kernel
theorem dX7_moves_11 : decode cX7_moves 11 = .ok (.aload_n 0, 1) := by decide +kernel
theorem dX7_moves_12 : decode cX7_moves 12 = .ok (.getfield 118, 3) := by decide +kernel
theorem dX7_moves_15 : decode cX7_moves 15 = .ok (.iload_n 1, 1) := by decide +kernel
theorem dX7_moves_16 : decode cX7_moves 16 = .ok (.iastore, 1) := by decide +kernel
theorem dX7_moves_17 : decode cX7_moves 17 = .ok (.aload_n 0, 1) := by decide +kernel
theorem dX7_moves_18 : decode cX7_moves 18 = .ok (.getfield 77, 3) := by decide +kernel
theorem dX7_moves_21 : decode cX7_moves 21 = .ok (.aload_n 0, 1) := by decide +kernel
theorem dX7_moves_22 : decode cX7_moves 22 = .ok (.getfield 118, 3) := by decide +kernel
theorem dX7_moves_25 : decode cX7_moves 25 = .ok (.iload_n 2, 1) := by decide +kernel
theorem dX7_moves_26 : decode cX7_moves 26 = .ok (.iastore, 1) := by decide +kernel
theorem dX7_moves_27 : decode cX7_moves 27 = .ok (.aload_n 0, 1) := by decide +kernel
theorem dX7_moves_28 : decode cX7_moves 28 = .ok (.dup, 1) := by decide +kernel
theorem dX7_moves_29 : decode cX7_moves 29 = .ok (.getfield 118, 3) := by decide +kernel
theorem dX7_moves_32 : decode cX7_moves 32 = .ok (.iconst 1, 1) := by decide +kernel
theorem dX7_moves_33 : decode cX7_moves 33 = .ok (.iadd, 1) := by decide +kernel
theorem dX7_moves_34 : decode cX7_moves 34 = .ok (.putfield 118, 3) := by decide +kernel
theorem dX7_moves_37 : decode cX7_moves 37 = .ok (.return_, 1) := by decide +kernel
theorem dX7_ends_0 : decode cX7_ends 0 = .ok (.aload_n 0, 1) := by decide +kernel
theorem dX7_ends_1 : decode cX7_ends 1 = .ok (.getfield 38, 3) := by decide +kernel
theorem dX7_ends_4 : decode cX7_ends 4 = .ok (.aload_n 0, 1) := by decide +kernel
theorem dX7_ends_5 : decode cX7_ends 5 = .ok (.iload_n 1, 1) := by decide +kernel
theorem dX7_ends_6 : decode cX7_ends 6 = .ok (.invokevirtual 114, 3) := by decide +kernel
theorem dX7_ends_9 : decode cX7_ends 9 = .ok (.iconst 0, 1) := by decide +kernel
theorem dX7_ends_10 : decode cX7_ends 10 = .ok (.bastore, 1) := by decide +kernel
theorem dX7_ends_11 : decode cX7_ends 11 = .ok (.return_, 1) := by decide +kernel
theorem dX7_fit_0 : decode cX7_fit 0 = .ok (.aload_n 0, 1) := by decide +kernel
theorem dX7_fit_1 : decode cX7_fit 1 = .ok (.aload_n 0, 1) := by decide +kernel
theorem dX7_fit_2 : decode cX7_fit 2 = .ok (.iload_n 1, 1) := by decide +kernel
theorem dX7_fit_3 : decode cX7_fit 3 = .ok (.invokevirtual 109, 3) := by decide +kernel
theorem dX7_fit_6 : decode cX7_fit 6 = .ok (.ifCond .eq 11, 3) := by decide +kernel
theorem dX7_fit_9 : decode cX7_fit 9 = .ok (.aload_n 0, 1) := by decide +kernel
theorem dX7_fit_10 : decode cX7_fit 10 = .ok (.iload_n 2, 1) := by decide +kernel
theorem dX7_fit_11 : decode cX7_fit 11 = .ok (.invokevirtual 109, 3) := by decide +kernel
theorem dX7_fit_14 : decode cX7_fit 14 = .ok (.ifCond .ne 7, 3) := by decide +kernel
theorem dX7_fit_17 : decode cX7_fit 17 = .ok (.iconst 1, 1) := by decide +kernel
theorem dX7_fit_18 : decode cX7_fit 18 = .ok (.goto 26, 3) := by decide +kernel
theorem dX7_fit_21 : decode cX7_fit 21 = .ok (.aload_n 0, 1) := by decide +kernel
theorem dX7_fit_22 : decode cX7_fit 22 = .ok (.getfield 7, 3) := by decide +kernel
theorem dX7_fit_25 : decode cX7_fit 25 = .ok (.iload_n 2, 1) := by decide +kernel
theorem dX7_fit_26 : decode cX7_fit 26 = .ok (.iaload, 1) := by decide +kernel
theorem dX7_fit_27 : decode cX7_fit 27 = .ok (.aload_n 0, 1) := by decide +kernel
theorem dX7_fit_28 : decode cX7_fit 28 = .ok (.getfield 7, 3) := by decide +kernel
theorem dX7_fit_31 : decode cX7_fit 31 = .ok (.iload_n 1, 1) := by decide +kernel
theorem dX7_fit_32 : decode cX7_fit 32 = .ok (.iaload, 1) := by decide +kernel
theorem dX7_fit_33 : decode cX7_fit 33 = .ok (.invokestatic 121, 3) := by decide +kernel
theorem dX7_fit_36 : decode cX7_fit 36 = .ok (.ifCond .ne 7, 3) := by decide +kernel
theorem dX7_fit_39 : decode cX7_fit 39 = .ok (.iconst 2, 1) := by decide +kernel
theorem dX7_fit_40 : decode cX7_fit 40 = .ok (.goto 4, 3) := by decide +kernel
theorem dX7_fit_43 : decode cX7_fit 43 = .ok (.iconst 0, 1) := by decide +kernel
theorem dX7_fit_44 : decode cX7_fit 44 = .ok (.putfield 98, 3) := by decide +kernel
theorem dX7_fit_47 : decode cX7_fit 47 = .ok (.aload_n 0, 1) := by decide +kernel
theorem dX7_fit_48 : decode cX7_fit 48 = .ok (.getfield 98, 3) := by decide +kernel
theorem dX7_fit_51 : decode cX7_fit 51 = .ok (.ifCond .le 5, 3) := by decide +kernel
theorem dX7_fit_54 : decode cX7_fit 54 = .ok (.iconst 0, 1) := by decide +kernel
theorem dX7_fit_55 : decode cX7_fit 55 = .ok (.ireturn, 1) := by decide +kernel
theorem dX7_fit_56 : decode cX7_fit 56 = .ok (.aload_n 0, 1) := by decide +kernel
theorem dX7_fit_57 : decode cX7_fit 57 = .ok (.getfield 19, 3) := by decide +kernel
theorem dX7_fit_60 : decode cX7_fit 60 = .ok (.iload_n 1, 1) := by decide +kernel
theorem dX7_fit_61 : decode cX7_fit 61 = .ok (.iaload, 1) := by decide +kernel
theorem dX7_fit_62 : decode cX7_fit 62 = .ok (.iconst (-1), 1) := by decide +kernel
theorem dX7_fit_63 : decode cX7_fit 63 = .ok (.if_icmp .ne 35, 3) := by decide +kernel
theorem dX7_fit_66 : decode cX7_fit 66 = .ok (.aload_n 0, 1) := by decide +kernel
theorem dX7_fit_67 : decode cX7_fit 67 = .ok (.getfield 31, 3) := by decide +kernel
theorem dX7_fit_70 : decode cX7_fit 70 = .ok (.iload_n 1, 1) := by decide +kernel
theorem dX7_fit_71 : decode cX7_fit 71 = .ok (.baload, 1) := by decide +kernel
theorem dX7_fit_72 : decode cX7_fit 72 = .ok (.ifCond .ne 26, 3) := by decide +kernel
theorem dX7_fit_75 : decode cX7_fit 75 = .ok (.aload_n 0, 1) := by decide +kernel
theorem dX7_fit_76 : decode cX7_fit 76 = .ok (.getfield 19, 3) := by decide +kernel
theorem dX7_fit_79 : decode cX7_fit 79 = .ok (.iload_n 2, 1) := by decide +kernel
theorem dX7_fit_80 : decode cX7_fit 80 = .ok (.iaload, 1) := by decide +kernel
theorem dX7_fit_81 : decode cX7_fit 81 = .ok (.bipush (-2), 2) := by decide +kernel
theorem dX7_fit_83 : decode cX7_fit 83 = .ok (.if_icmp .eq 15, 3) := by decide +kernel
theorem dX7_fit_86 : decode cX7_fit 86 = .ok (.aload_n 0, 1) := by decide +kernel
theorem dX7_fit_87 : decode cX7_fit 87 = .ok (.iload_n 2, 1) := by decide +kernel
theorem dX7_fit_88 : decode cX7_fit 88 = .ok (.invokevirtual 125, 3) := by decide +kernel
theorem dX7_fit_91 : decode cX7_fit 91 = .ok (.ifCond .ne 7, 3) := by decide +kernel
theorem dX7_fit_94 : decode cX7_fit 94 = .ok (.iconst 1, 1) := by decide +kernel
theorem dX7_fit_95 : decode cX7_fit 95 = .ok (.goto 4, 3) := by decide +kernel
theorem dX7_fit_98 : decode cX7_fit 98 = .ok (.iconst 0, 1) := by decide +kernel
theorem dX7_fit_99 : decode cX7_fit 99 = .ok (.istore_n 3, 1) := by decide +kernel
theorem dX7_fit_100 : decode cX7_fit 100 = .ok (.aload_n 0, 1) := by decide +kernel
theorem dX7_fit_101 : decode cX7_fit 101 = .ok (.getfield 16, 3) := by decide +kernel
theorem dX7_fit_104 : decode cX7_fit 104 = .ok (.iload_n 1, 1) := by decide +kernel
theorem dX7_fit_105 : decode cX7_fit 105 = .ok (.iaload, 1) := by decide +kernel
theorem dX7_fit_106 : decode cX7_fit 106 = .ok (.aload_n 0, 1) := by decide +kernel
theorem dX7_fit_107 : decode cX7_fit 107 = .ok (.getfield 16, 3) := by decide +kernel
theorem dX7_fit_110 : decode cX7_fit 110 = .ok (.iload_n 2, 1) := by decide +kernel
theorem dX7_fit_111 : decode cX7_fit 111 = .ok (.iaload, 1) := by decide +kernel
theorem dX7_fit_112 : decode cX7_fit 112 = .ok (.isub, 1) := by decide +kernel
theorem dX7_fit_113 : decode cX7_fit 113 = .ok (.istore 4, 2) := by decide +kernel
theorem dX7_fit_115 : decode cX7_fit 115 = .ok (.iload_n 3, 1) := by decide +kernel
theorem dX7_fit_116 : decode cX7_fit 116 = .ok (.ifCond .eq 48, 3) := by decide +kernel
theorem dX7_fit_119 : decode cX7_fit 119 = .ok (.aload_n 0, 1) := by decide +kernel
theorem dX7_fit_120 : decode cX7_fit 120 = .ok (.iload_n 2, 1) := by decide +kernel
theorem dX7_fit_121 : decode cX7_fit 121 = .ok (.aload_n 0, 1) := by decide +kernel
theorem dX7_fit_122 : decode cX7_fit 122 = .ok (.getfield 7, 3) := by decide +kernel
theorem dX7_fit_125 : decode cX7_fit 125 = .ok (.iload_n 1, 1) := by decide +kernel
theorem dX7_fit_126 : decode cX7_fit 126 = .ok (.iaload, 1) := by decide +kernel
theorem dX7_fit_127 : decode cX7_fit 127 = .ok (.invokevirtual 128, 3) := by decide +kernel
theorem dX7_fit_130 : decode cX7_fit 130 = .ok (.aload_n 0, 1) := by decide +kernel
theorem dX7_fit_131 : decode cX7_fit 131 = .ok (.getfield 7, 3) := by decide +kernel
theorem dX7_fit_134 : decode cX7_fit 134 = .ok (.iload_n 2, 1) := by decide +kernel
theorem dX7_fit_135 : decode cX7_fit 135 = .ok (.iaload, 1) := by decide +kernel
theorem dX7_fit_136 : decode cX7_fit 136 = .ok (.aload_n 0, 1) := by decide +kernel
theorem dX7_fit_137 : decode cX7_fit 137 = .ok (.getfield 7, 3) := by decide +kernel
theorem dX7_fit_140 : decode cX7_fit 140 = .ok (.iload_n 1, 1) := by decide +kernel
theorem dX7_fit_141 : decode cX7_fit 141 = .ok (.iaload, 1) := by decide +kernel
theorem dX7_fit_142 : decode cX7_fit 142 = .ok (.invokestatic 121, 3) := by decide +kernel
theorem dX7_fit_145 : decode cX7_fit 145 = .ok (.if_icmp .ge 19, 3) := by decide +kernel
theorem dX7_fit_148 : decode cX7_fit 148 = .ok (.iload 4, 2) := by decide +kernel
theorem dX7_fit_150 : decode cX7_fit 150 = .ok (.iconst 1, 1) := by decide +kernel
theorem dX7_fit_151 : decode cX7_fit 151 = .ok (.if_icmp .gt 13, 3) := by decide +kernel
theorem dX7_fit_154 : decode cX7_fit 154 = .ok (.iload 4, 2) := by decide +kernel
theorem dX7_fit_156 : decode cX7_fit 156 = .ok (.iconst (-1), 1) := by decide +kernel
theorem dX7_fit_157 : decode cX7_fit 157 = .ok (.if_icmp .lt 7, 3) := by decide +kernel
theorem dX7_fit_160 : decode cX7_fit 160 = .ok (.iconst 1, 1) := by decide +kernel
theorem dX7_fit_161 : decode cX7_fit 161 = .ok (.goto 4, 3) := by decide +kernel
theorem dX7_fit_164 : decode cX7_fit 164 = .ok (.iconst 0, 1) := by decide +kernel
theorem dX7_fit_165 : decode cX7_fit 165 = .ok (.istore_n 3, 1) := by decide +kernel
theorem dX7_fit_166 : decode cX7_fit 166 = .ok (.aload_n 0, 1) := by decide +kernel
theorem dX7_fit_167 : decode cX7_fit 167 = .ok (.iload_n 3, 1) := by decide +kernel
theorem dX7_fit_168 : decode cX7_fit 168 = .ok (.ifCond .eq 7, 3) := by decide +kernel
theorem dX7_fit_171 : decode cX7_fit 171 = .ok (.iconst 0, 1) := by decide +kernel
theorem dX7_fit_172 : decode cX7_fit 172 = .ok (.goto 4, 3) := by decide +kernel
theorem dX7_fit_175 : decode cX7_fit 175 = .ok (.iconst 3, 1) := by decide +kernel
theorem dX7_fit_176 : decode cX7_fit 176 = .ok (.putfield 98, 3) := by decide +kernel
theorem dX7_fit_179 : decode cX7_fit 179 = .ok (.aload_n 0, 1) := by decide +kernel
theorem dX7_fit_180 : decode cX7_fit 180 = .ok (.getfield 98, 3) := by decide +kernel
theorem dX7_fit_183 : decode cX7_fit 183 = .ok (.ifCond .le 5, 3) := by decide +kernel
theorem dX7_fit_186 : decode cX7_fit 186 = .ok (.iconst 0, 1) := by decide +kernel
theorem dX7_fit_187 : decode cX7_fit 187 = .ok (.ireturn, 1) := by decide +kernel
theorem dX7_fit_188 : decode cX7_fit 188 = .ok (.aload_n 0, 1) := by decide +kernel
theorem dX7_fit_189 : decode cX7_fit 189 = .ok (.iload_n 1, 1) := by decide +kernel
theorem dX7_fit_190 : decode cX7_fit 190 = .ok (.iload_n 2, 1) := by decide +kernel
theorem dX7_fit_191 : decode cX7_fit 191 = .ok (.invokevirtual 131, 3) := by decide +kernel
theorem dX7_fit_194 : decode cX7_fit 194 = .ok (.aload_n 0, 1) := by decide +kernel
theorem dX7_fit_195 : decode cX7_fit 195 = .ok (.iload_n 1, 1) := by decide +kernel
theorem dX7_fit_196 : decode cX7_fit 196 = .ok (.invokevirtual 135, 3) := by decide +kernel
theorem dX7_fit_199 : decode cX7_fit 199 = .ok (.aload_n 0, 1) := by decide +kernel
theorem dX7_fit_200 : decode cX7_fit 200 = .ok (.iload_n 2, 1) := by decide +kernel
theorem dX7_fit_201 : decode cX7_fit 201 = .ok (.iconst (-1), 1) := by decide +kernel
theorem dX7_fit_202 : decode cX7_fit 202 = .ok (.invokevirtual 128, 3) := by decide +kernel
theorem dX7_fit_205 : decode cX7_fit 205 = .ok (.ireturn, 1) := by decide +kernel
theorem dX7_take_0 : decode cX7_take 0 = .ok (.aload_n 0, 1) := by decide +kernel
theorem dX7_take_1 : decode cX7_take 1 = .ok (.aload_n 0, 1) := by decide +kernel
theorem dX7_take_2 : decode cX7_take 2 = .ok (.iload_n 1, 1) := by decide +kernel
theorem dX7_take_3 : decode cX7_take 3 = .ok (.invokevirtual 109, 3) := by decide +kernel
theorem dX7_take_6 : decode cX7_take 6 = .ok (.ifCond .ne 7, 3) := by decide +kernel
theorem dX7_take_9 : decode cX7_take 9 = .ok (.iconst 1, 1) := by decide +kernel
theorem dX7_take_10 : decode cX7_take 10 = .ok (.goto 25, 3) := by decide +kernel
theorem dX7_take_13 : decode cX7_take 13 = .ok (.aload_n 0, 1) := by decide +kernel
theorem dX7_take_14 : decode cX7_take 14 = .ok (.getfield 19, 3) := by decide +kernel
theorem dX7_take_17 : decode cX7_take 17 = .ok (.iload_n 1, 1) := by decide +kernel
theorem dX7_take_18 : decode cX7_take 18 = .ok (.iaload, 1) := by decide +kernel
theorem dX7_take_19 : decode cX7_take 19 = .ok (.ifCond .lt 11, 3) := by decide +kernel
theorem dX7_take_22 : decode cX7_take 22 = .ok (.aload_n 0, 1) := by decide +kernel
theorem dX7_take_23 : decode cX7_take 23 = .ok (.iload_n 1, 1) := by decide +kernel
theorem dX7_take_24 : decode cX7_take 24 = .ok (.invokevirtual 125, 3) := by decide +kernel
theorem dX7_take_27 : decode cX7_take 27 = .ok (.ifCond .eq 7, 3) := by decide +kernel
theorem dX7_take_30 : decode cX7_take 30 = .ok (.iconst 2, 1) := by decide +kernel
theorem dX7_take_31 : decode cX7_take 31 = .ok (.goto 4, 3) := by decide +kernel
theorem dX7_take_34 : decode cX7_take 34 = .ok (.iconst 0, 1) := by decide +kernel
theorem dX7_take_35 : decode cX7_take 35 = .ok (.putfield 98, 3) := by decide +kernel
theorem dX7_take_38 : decode cX7_take 38 = .ok (.aload_n 0, 1) := by decide +kernel
theorem dX7_take_39 : decode cX7_take 39 = .ok (.getfield 98, 3) := by decide +kernel
theorem dX7_take_42 : decode cX7_take 42 = .ok (.ifCond .le 5, 3) := by decide +kernel
theorem dX7_take_45 : decode cX7_take 45 = .ok (.iconst 0, 1) := by decide +kernel
theorem dX7_take_46 : decode cX7_take 46 = .ok (.ireturn, 1) := by decide +kernel
theorem dX7_take_47 : decode cX7_take 47 = .ok (.aload_n 0, 1) := by decide +kernel
theorem dX7_take_48 : decode cX7_take 48 = .ok (.getfield 19, 3) := by decide +kernel
theorem dX7_take_51 : decode cX7_take 51 = .ok (.iload_n 1, 1) := by decide +kernel
theorem dX7_take_52 : decode cX7_take 52 = .ok (.iaload, 1) := by decide +kernel
theorem dX7_take_53 : decode cX7_take 53 = .ok (.istore_n 2, 1) := by decide +kernel
theorem dX7_take_54 : decode cX7_take 54 = .ok (.aload_n 0, 1) := by decide +kernel
theorem dX7_take_55 : decode cX7_take 55 = .ok (.iload_n 1, 1) := by decide +kernel
theorem dX7_take_56 : decode cX7_take 56 = .ok (.invokevirtual 135, 3) := by decide +kernel
theorem dX7_take_59 : decode cX7_take 59 = .ok (.aload_n 0, 1) := by decide +kernel
theorem dX7_take_60 : decode cX7_take 60 = .ok (.iload_n 1, 1) := by decide +kernel
theorem dX7_take_61 : decode cX7_take 61 = .ok (.iconst (-1), 1) := by decide +kernel
theorem dX7_take_62 : decode cX7_take 62 = .ok (.invokevirtual 131, 3) := by decide +kernel
theorem dX7_take_65 : decode cX7_take 65 = .ok (.iload_n 2, 1) := by decide +kernel
theorem dX7_take_66 : decode cX7_take 66 = .ok (.ireturn, 1) := by decide +kernel
theorem dX7_waits_0 : decode cX7_waits 0 = .ok (.iconst 0, 1) := by decide +kernel
theorem dX7_waits_1 : decode cX7_waits 1 = .ok (.istore_n 2, 1) := by decide +kernel
theorem dX7_waits_2 : decode cX7_waits 2 = .ok (.iconst 0, 1) := by decide +kernel
theorem dX7_waits_3 : decode cX7_waits 3 = .ok (.istore_n 3, 1) := by decide +kernel
theorem dX7_waits_4 : decode cX7_waits 4 = .ok (.iload_n 3, 1) := by decide +kernel
theorem dX7_waits_5 : decode cX7_waits 5 = .ok (.aload_n 0, 1) := by decide +kernel
theorem dX7_waits_6 : decode cX7_waits 6 = .ok (.getfield 139, 3) := by decide +kernel
theorem dX7_waits_9 : decode cX7_waits 9 = .ok (.if_icmp .ge 29, 3) := by decide +kernel
theorem dX7_waits_12 : decode cX7_waits 12 = .ok (.iload_n 2, 1) := by decide +kernel
theorem dX7_waits_13 : decode cX7_waits 13 = .ok (.ifCond .ne 13, 3) := by decide +kernel
theorem dX7_waits_16 : decode cX7_waits 16 = .ok (.aload_n 0, 1) := by decide +kernel
theorem dX7_waits_17 : decode cX7_waits 17 = .ok (.getfield 80, 3) := by decide +kernel
theorem dX7_waits_20 : decode cX7_waits 20 = .ok (.iload_n 3, 1) := by decide +kernel
theorem dX7_waits_21 : decode cX7_waits 21 = .ok (.iaload, 1) := by decide +kernel
theorem dX7_waits_22 : decode cX7_waits 22 = .ok (.iload_n 1, 1) := by decide +kernel
theorem dX7_waits_23 : decode cX7_waits 23 = .ok (.if_icmp .ne 7, 3) := by decide +kernel
theorem dX7_waits_26 : decode cX7_waits 26 = .ok (.iconst 1, 1) := by decide +kernel
theorem dX7_waits_27 : decode cX7_waits 27 = .ok (.goto 4, 3) := by decide +kernel
theorem dX7_waits_30 : decode cX7_waits 30 = .ok (.iconst 0, 1) := by decide +kernel
theorem dX7_waits_31 : decode cX7_waits 31 = .ok (.istore_n 2, 1) := by decide +kernel
theorem dX7_waits_32 : decode cX7_waits 32 = .ok (.iinc 3 1, 3) := by decide +kernel
theorem dX7_waits_35 : decode cX7_waits 35 = .ok (.goto (-31), 3) := by decide +kernel
theorem dX7_waits_38 : decode cX7_waits 38 = .ok (.iload_n 2, 1) := by decide +kernel
theorem dX7_waits_39 : decode cX7_waits 39 = .ok (.ireturn, 1) := by decide +kernel
theorem dX7_scrap_0 : decode cX7_scrap 0 = .ok (.aload_n 0, 1) := by decide +kernel
theorem dX7_scrap_1 : decode cX7_scrap 1 = .ok (.aload_n 0, 1) := by decide +kernel
theorem dX7_scrap_2 : decode cX7_scrap 2 = .ok (.iload_n 1, 1) := by decide +kernel
theorem dX7_scrap_3 : decode cX7_scrap 3 = .ok (.invokevirtual 109, 3) := by decide +kernel
theorem dX7_scrap_6 : decode cX7_scrap 6 = .ok (.ifCond .ne 7, 3) := by decide +kernel
theorem dX7_scrap_9 : decode cX7_scrap 9 = .ok (.iconst 1, 1) := by decide +kernel
theorem dX7_scrap_10 : decode cX7_scrap 10 = .ok (.goto 43, 3) := by decide +kernel
theorem dX7_scrap_13 : decode cX7_scrap 13 = .ok (.aload_n 0, 1) := by decide +kernel
theorem dX7_scrap_14 : decode cX7_scrap 14 = .ok (.getfield 19, 3) := by decide +kernel
theorem dX7_scrap_17 : decode cX7_scrap 17 = .ok (.iload_n 1, 1) := by decide +kernel
theorem dX7_scrap_18 : decode cX7_scrap 18 = .ok (.iaload, 1) := by decide +kernel
theorem dX7_scrap_19 : decode cX7_scrap 19 = .ok (.iconst (-1), 1) := by decide +kernel
theorem dX7_scrap_20 : decode cX7_scrap 20 = .ok (.if_icmp .ne 28, 3) := by decide +kernel
theorem dX7_scrap_23 : decode cX7_scrap 23 = .ok (.aload_n 0, 1) := by decide +kernel
theorem dX7_scrap_24 : decode cX7_scrap 24 = .ok (.iload_n 1, 1) := by decide +kernel
theorem dX7_scrap_25 : decode cX7_scrap 25 = .ok (.iconst (-1), 1) := by decide +kernel
theorem dX7_scrap_26 : decode cX7_scrap 26 = .ok (.invokevirtual 128, 3) := by decide +kernel
theorem dX7_scrap_29 : decode cX7_scrap 29 = .ok (.ifCond .gt 19, 3) := by decide +kernel
theorem dX7_scrap_32 : decode cX7_scrap 32 = .ok (.aload_n 0, 1) := by decide +kernel
theorem dX7_scrap_33 : decode cX7_scrap 33 = .ok (.iload_n 1, 1) := by decide +kernel
theorem dX7_scrap_34 : decode cX7_scrap 34 = .ok (.invokevirtual 125, 3) := by decide +kernel
theorem dX7_scrap_37 : decode cX7_scrap 37 = .ok (.ifCond .ne 11, 3) := by decide +kernel
theorem dX7_scrap_40 : decode cX7_scrap 40 = .ok (.aload_n 0, 1) := by decide +kernel
theorem dX7_scrap_41 : decode cX7_scrap 41 = .ok (.iload_n 1, 1) := by decide +kernel
theorem dX7_scrap_42 : decode cX7_scrap 42 = .ok (.invokevirtual 142, 3) := by decide +kernel
theorem dX7_scrap_45 : decode cX7_scrap 45 = .ok (.ifCond .eq 7, 3) := by decide +kernel
theorem dX7_scrap_48 : decode cX7_scrap 48 = .ok (.iconst 2, 1) := by decide +kernel
theorem dX7_scrap_49 : decode cX7_scrap 49 = .ok (.goto 4, 3) := by decide +kernel
theorem dX7_scrap_52 : decode cX7_scrap 52 = .ok (.iconst 0, 1) := by decide +kernel
theorem dX7_scrap_53 : decode cX7_scrap 53 = .ok (.putfield 98, 3) := by decide +kernel
theorem dX7_scrap_56 : decode cX7_scrap 56 = .ok (.aload_n 0, 1) := by decide +kernel
theorem dX7_scrap_57 : decode cX7_scrap 57 = .ok (.getfield 98, 3) := by decide +kernel
theorem dX7_scrap_60 : decode cX7_scrap 60 = .ok (.ifCond .ne 10, 3) := by decide +kernel
theorem dX7_scrap_63 : decode cX7_scrap 63 = .ok (.aload_n 0, 1) := by decide +kernel
theorem dX7_scrap_64 : decode cX7_scrap 64 = .ok (.iload_n 1, 1) := by decide +kernel
theorem dX7_scrap_65 : decode cX7_scrap 65 = .ok (.bipush (-2), 2) := by decide +kernel
theorem dX7_scrap_67 : decode cX7_scrap 67 = .ok (.invokevirtual 131, 3) := by decide +kernel
theorem dX7_scrap_70 : decode cX7_scrap 70 = .ok (.return_, 1) := by decide +kernel
theorem dX7_factor_0 : decode cX7_factor 0 = .ok (.iload_n 0, 1) := by decide +kernel
theorem dX7_factor_1 : decode cX7_factor 1 = .ok (.iconst 3, 1) := by decide +kernel
theorem dX7_factor_2 : decode cX7_factor 2 = .ok (.if_icmp .ne 7, 3) := by decide +kernel
theorem dX7_factor_5 : decode cX7_factor 5 = .ok (.iconst 2, 1) := by decide +kernel
theorem dX7_factor_6 : decode cX7_factor 6 = .ok (.goto 6, 3) := by decide +kernel
theorem dX7_factor_9 : decode cX7_factor 9 = .ok (.iload_n 0, 1) := by decide +kernel
theorem dX7_factor_10 : decode cX7_factor 10 = .ok (.iconst 1, 1) := by decide +kernel
theorem dX7_factor_11 : decode cX7_factor 11 = .ok (.iadd, 1) := by decide +kernel
theorem dX7_factor_12 : decode cX7_factor 12 = .ok (.ireturn, 1) := by decide +kernel
theorem dX7_goes_0 : decode cX7_goes 0 = .ok (.aload_n 0, 1) := by decide +kernel
theorem dX7_goes_1 : decode cX7_goes 1 = .ok (.getfield 22, 3) := by decide +kernel
theorem dX7_goes_4 : decode cX7_goes 4 = .ok (.iload_n 1, 1) := by decide +kernel
theorem dX7_goes_5 : decode cX7_goes 5 = .ok (.iaload, 1) := by decide +kernel
theorem dX7_goes_6 : decode cX7_goes 6 = .ok (.istore 4, 2) := by decide +kernel
theorem dX7_goes_8 : decode cX7_goes 8 = .ok (.aload_n 0, 1) := by decide +kernel
theorem dX7_goes_9 : decode cX7_goes 9 = .ok (.getfield 22, 3) := by decide +kernel
theorem dX7_goes_12 : decode cX7_goes 12 = .ok (.iload_n 1, 1) := by decide +kernel
theorem dX7_goes_13 : decode cX7_goes 13 = .ok (.dup2, 1) := by decide +kernel
theorem dX7_goes_14 : decode cX7_goes 14 = .ok (.iaload, 1) := by decide +kernel
theorem dX7_goes_15 : decode cX7_goes 15 = .ok (.iload_n 2, 1) := by decide +kernel
theorem dX7_goes_16 : decode cX7_goes 16 = .ok (.iadd, 1) := by decide +kernel
theorem dX7_goes_17 : decode cX7_goes 17 = .ok (.iastore, 1) := by decide +kernel
theorem dX7_goes_18 : decode cX7_goes 18 = .ok (.aload_n 0, 1) := by decide +kernel
theorem dX7_goes_19 : decode cX7_goes 19 = .ok (.getfield 25, 3) := by decide +kernel
theorem dX7_goes_22 : decode cX7_goes 22 = .ok (.iload_n 1, 1) := by decide +kernel
theorem dX7_goes_23 : decode cX7_goes 23 = .ok (.dup2, 1) := by decide +kernel
theorem dX7_goes_24 : decode cX7_goes 24 = .ok (.iaload, 1) := by decide +kernel
theorem dX7_goes_25 : decode cX7_goes 25 = .ok (.iload_n 2, 1) := by decide +kernel
theorem dX7_goes_26 : decode cX7_goes 26 = .ok (.iadd, 1) := by decide +kernel
theorem dX7_goes_27 : decode cX7_goes 27 = .ok (.iastore, 1) := by decide +kernel
theorem dX7_goes_28 : decode cX7_goes 28 = .ok (.aload_n 0, 1) := by decide +kernel
theorem dX7_goes_29 : decode cX7_goes 29 = .ok (.getfield 7, 3) := by decide +kernel
theorem dX7_goes_32 : decode cX7_goes 32 = .ok (.iload_n 1, 1) := by decide +kernel
theorem dX7_goes_33 : decode cX7_goes 33 = .ok (.iaload, 1) := by decide +kernel
theorem dX7_goes_34 : decode cX7_goes 34 = .ok (.iconst 3, 1) := by decide +kernel
theorem dX7_goes_35 : decode cX7_goes 35 = .ok (.if_icmp .ne 76, 3) := by decide +kernel
theorem dX7_goes_38 : decode cX7_goes 38 = .ok (.aload_n 0, 1) := by decide +kernel
theorem dX7_goes_39 : decode cX7_goes 39 = .ok (.getfield 50, 3) := by decide +kernel
theorem dX7_goes_42 : decode cX7_goes 42 = .ok (.iload_n 1, 1) := by decide +kernel
theorem dX7_goes_43 : decode cX7_goes 43 = .ok (.iaload, 1) := by decide +kernel
theorem dX7_goes_44 : decode cX7_goes 44 = .ok (.istore 5, 2) := by decide +kernel
theorem dX7_goes_46 : decode cX7_goes 46 = .ok (.aload_n 0, 1) := by decide +kernel
theorem dX7_goes_47 : decode cX7_goes 47 = .ok (.getfield 50, 3) := by decide +kernel
theorem dX7_goes_50 : decode cX7_goes 50 = .ok (.iload_n 1, 1) := by decide +kernel
theorem dX7_goes_51 : decode cX7_goes 51 = .ok (.dup2, 1) := by decide +kernel
theorem dX7_goes_52 : decode cX7_goes 52 = .ok (.iaload, 1) := by decide +kernel
theorem dX7_goes_53 : decode cX7_goes 53 = .ok (.iload_n 2, 1) := by decide +kernel
theorem dX7_goes_54 : decode cX7_goes 54 = .ok (.iload_n 3, 1) := by decide +kernel
theorem dX7_goes_55 : decode cX7_goes 55 = .ok (.invokestatic 145, 3) := by decide +kernel
theorem dX7_goes_58 : decode cX7_goes 58 = .ok (.imul, 1) := by decide +kernel
theorem dX7_goes_59 : decode cX7_goes 59 = .ok (.iadd, 1) := by decide +kernel
theorem dX7_goes_60 : decode cX7_goes 60 = .ok (.iastore, 1) := by decide +kernel
theorem dX7_goes_61 : decode cX7_goes 61 = .ok (.aload_n 0, 1) := by decide +kernel
theorem dX7_goes_62 : decode cX7_goes 62 = .ok (.getfield 44, 3) := by decide +kernel
theorem dX7_goes_65 : decode cX7_goes 65 = .ok (.iload_n 1, 1) := by decide +kernel
theorem dX7_goes_66 : decode cX7_goes 66 = .ok (.dup2, 1) := by decide +kernel
theorem dX7_goes_67 : decode cX7_goes 67 = .ok (.iaload, 1) := by decide +kernel
theorem dX7_goes_68 : decode cX7_goes 68 = .ok (.aload_n 0, 1) := by decide +kernel
theorem dX7_goes_69 : decode cX7_goes 69 = .ok (.getfield 22, 3) := by decide +kernel
theorem dX7_goes_72 : decode cX7_goes 72 = .ok (.iload_n 1, 1) := by decide +kernel
theorem dX7_goes_73 : decode cX7_goes 73 = .ok (.iaload, 1) := by decide +kernel
theorem dX7_goes_74 : decode cX7_goes 74 = .ok (.bipush 100, 2) := by decide +kernel
theorem dX7_goes_76 : decode cX7_goes 76 = .ok (.idiv, 1) := by decide +kernel
theorem dX7_goes_77 : decode cX7_goes 77 = .ok (.iload 4, 2) := by decide +kernel
theorem dX7_goes_79 : decode cX7_goes 79 = .ok (.bipush 100, 2) := by decide +kernel
theorem dX7_goes_81 : decode cX7_goes 81 = .ok (.idiv, 1) := by decide +kernel
theorem dX7_goes_82 : decode cX7_goes 82 = .ok (.isub, 1) := by decide +kernel
theorem dX7_goes_83 : decode cX7_goes 83 = .ok (.isub, 1) := by decide +kernel
theorem dX7_goes_84 : decode cX7_goes 84 = .ok (.iastore, 1) := by decide +kernel
theorem dX7_goes_85 : decode cX7_goes 85 = .ok (.aload_n 0, 1) := by decide +kernel
theorem dX7_goes_86 : decode cX7_goes 86 = .ok (.getfield 47, 3) := by decide +kernel
theorem dX7_goes_89 : decode cX7_goes 89 = .ok (.iload_n 1, 1) := by decide +kernel
theorem dX7_goes_90 : decode cX7_goes 90 = .ok (.dup2, 1) := by decide +kernel
theorem dX7_goes_91 : decode cX7_goes 91 = .ok (.iaload, 1) := by decide +kernel
theorem dX7_goes_92 : decode cX7_goes 92 = .ok (.aload_n 0, 1) := by decide +kernel
theorem dX7_goes_93 : decode cX7_goes 93 = .ok (.getfield 50, 3) := by decide +kernel
theorem dX7_goes_96 : decode cX7_goes 96 = .ok (.iload_n 1, 1) := by decide +kernel
theorem dX7_goes_97 : decode cX7_goes 97 = .ok (.iaload, 1) := by decide +kernel
theorem dX7_goes_98 : decode cX7_goes 98 = .ok (.sipush 200, 3) := by decide +kernel
theorem dX7_goes_101 : decode cX7_goes 101 = .ok (.idiv, 1) := by decide +kernel
theorem dX7_goes_102 : decode cX7_goes 102 = .ok (.iload 5, 2) := by decide +kernel
theorem dX7_goes_104 : decode cX7_goes 104 = .ok (.sipush 200, 3) := by decide +kernel
theorem dX7_goes_107 : decode cX7_goes 107 = .ok (.idiv, 1) := by decide +kernel
theorem dX7_goes_108 : decode cX7_goes 108 = .ok (.isub, 1) := by decide +kernel
theorem dX7_goes_109 : decode cX7_goes 109 = .ok (.isub, 1) := by decide +kernel
theorem dX7_goes_110 : decode cX7_goes 110 = .ok (.iastore, 1) := by decide +kernel
theorem dX7_goes_111 : decode cX7_goes 111 = .ok (.aload_n 0, 1) := by decide +kernel
theorem dX7_goes_112 : decode cX7_goes 112 = .ok (.getfield 59, 3) := by decide +kernel
theorem dX7_goes_115 : decode cX7_goes 115 = .ok (.iload_n 1, 1) := by decide +kernel
theorem dX7_goes_116 : decode cX7_goes 116 = .ok (.iaload, 1) := by decide +kernel
theorem dX7_goes_117 : decode cX7_goes 117 = .ok (.ifCond .ne 7, 3) := by decide +kernel
theorem dX7_goes_120 : decode cX7_goes 120 = .ok (.iconst 0, 1) := by decide +kernel
theorem dX7_goes_121 : decode cX7_goes 121 = .ok (.goto 34, 3) := by decide +kernel
theorem dX7_goes_124 : decode cX7_goes 124 = .ok (.aload_n 0, 1) := by decide +kernel
theorem dX7_goes_125 : decode cX7_goes 125 = .ok (.getfield 22, 3) := by decide +kernel
theorem dX7_goes_128 : decode cX7_goes 128 = .ok (.iload_n 1, 1) := by decide +kernel
theorem dX7_goes_129 : decode cX7_goes 129 = .ok (.iaload, 1) := by decide +kernel
theorem dX7_goes_130 : decode cX7_goes 130 = .ok (.aload_n 0, 1) := by decide +kernel
theorem dX7_goes_131 : decode cX7_goes 131 = .ok (.getfield 62, 3) := by decide +kernel
theorem dX7_goes_134 : decode cX7_goes 134 = .ok (.iload_n 1, 1) := by decide +kernel
theorem dX7_goes_135 : decode cX7_goes 135 = .ok (.iaload, 1) := by decide +kernel
theorem dX7_goes_136 : decode cX7_goes 136 = .ok (.isub, 1) := by decide +kernel
theorem dX7_goes_137 : decode cX7_goes 137 = .ok (.sipush 500, 3) := by decide +kernel
theorem dX7_goes_140 : decode cX7_goes 140 = .ok (.idiv, 1) := by decide +kernel
theorem dX7_goes_141 : decode cX7_goes 141 = .ok (.iload 4, 2) := by decide +kernel
theorem dX7_goes_143 : decode cX7_goes 143 = .ok (.aload_n 0, 1) := by decide +kernel
theorem dX7_goes_144 : decode cX7_goes 144 = .ok (.getfield 62, 3) := by decide +kernel
theorem dX7_goes_147 : decode cX7_goes 147 = .ok (.iload_n 1, 1) := by decide +kernel
theorem dX7_goes_148 : decode cX7_goes 148 = .ok (.iaload, 1) := by decide +kernel
theorem dX7_goes_149 : decode cX7_goes 149 = .ok (.isub, 1) := by decide +kernel
theorem dX7_goes_150 : decode cX7_goes 150 = .ok (.sipush 500, 3) := by decide +kernel
theorem dX7_goes_153 : decode cX7_goes 153 = .ok (.idiv, 1) := by decide +kernel
theorem dX7_goes_154 : decode cX7_goes 154 = .ok (.isub, 1) := by decide +kernel
theorem dX7_goes_155 : decode cX7_goes 155 = .ok (.istore 5, 2) := by decide +kernel
theorem dX7_goes_157 : decode cX7_goes 157 = .ok (.iconst 0, 1) := by decide +kernel
theorem dX7_goes_158 : decode cX7_goes 158 = .ok (.istore 6, 2) := by decide +kernel
theorem dX7_goes_160 : decode cX7_goes 160 = .ok (.iload 6, 2) := by decide +kernel
theorem dX7_goes_162 : decode cX7_goes 162 = .ok (.iload 5, 2) := by decide +kernel
theorem dX7_goes_164 : decode cX7_goes 164 = .ok (.if_icmp .ge 29, 3) := by decide +kernel
theorem dX7_goes_167 : decode cX7_goes 167 = .ok (.aload_n 0, 1) := by decide +kernel
theorem dX7_goes_168 : decode cX7_goes 168 = .ok (.getfield 59, 3) := by decide +kernel
theorem dX7_goes_171 : decode cX7_goes 171 = .ok (.iload_n 1, 1) := by decide +kernel
theorem dX7_goes_172 : decode cX7_goes 172 = .ok (.dup2, 1) := by decide +kernel
theorem dX7_goes_173 : decode cX7_goes 173 = .ok (.iaload, 1) := by decide +kernel
theorem dX7_goes_174 : decode cX7_goes 174 = .ok (.iconst 1, 1) := by decide +kernel
theorem dX7_goes_175 : decode cX7_goes 175 = .ok (.aload_n 0, 1) := by decide +kernel
theorem dX7_goes_176 : decode cX7_goes 176 = .ok (.getfield 59, 3) := by decide +kernel
theorem dX7_goes_179 : decode cX7_goes 179 = .ok (.iload_n 1, 1) := by decide +kernel
theorem dX7_goes_180 : decode cX7_goes 180 = .ok (.iaload, 1) := by decide +kernel
theorem dX7_goes_181 : decode cX7_goes 181 = .ok (.bipush 10, 2) := by decide +kernel
theorem dX7_goes_183 : decode cX7_goes 183 = .ok (.idiv, 1) := by decide +kernel
theorem dX7_goes_184 : decode cX7_goes 184 = .ok (.iadd, 1) := by decide +kernel
theorem dX7_goes_185 : decode cX7_goes 185 = .ok (.iadd, 1) := by decide +kernel
theorem dX7_goes_186 : decode cX7_goes 186 = .ok (.iastore, 1) := by decide +kernel
theorem dX7_goes_187 : decode cX7_goes 187 = .ok (.iinc 6 1, 3) := by decide +kernel
theorem dX7_goes_190 : decode cX7_goes 190 = .ok (.goto (-30), 3) := by decide +kernel
theorem dX7_goes_193 : decode cX7_goes 193 = .ok (.return_, 1) := by decide +kernel
theorem dX7_run_0 : decode cX7_run 0 = .ok (.aload_n 0, 1) := by decide +kernel
theorem dX7_run_1 : decode cX7_run 1 = .ok (.aload_n 0, 1) := by decide +kernel
theorem dX7_run_2 : decode cX7_run 2 = .ok (.iload_n 1, 1) := by decide +kernel
theorem dX7_run_3 : decode cX7_run 3 = .ok (.iconst 0, 1) := by decide +kernel
theorem dX7_run_4 : decode cX7_run 4 = .ok (.invokevirtual 148, 3) := by decide +kernel
theorem dX7_run_7 : decode cX7_run 7 = .ok (.putfield 98, 3) := by decide +kernel
theorem dX7_run_10 : decode cX7_run 10 = .ok (.aload_n 0, 1) := by decide +kernel
theorem dX7_run_11 : decode cX7_run 11 = .ok (.getfield 98, 3) := by decide +kernel
theorem dX7_run_14 : decode cX7_run 14 = .ok (.ifCond .le 5, 3) := by decide +kernel
theorem dX7_run_17 : decode cX7_run 17 = .ok (.iconst 0, 1) := by decide +kernel
theorem dX7_run_18 : decode cX7_run 18 = .ok (.ireturn, 1) := by decide +kernel
theorem dX7_run_19 : decode cX7_run 19 = .ok (.aload_n 0, 1) := by decide +kernel
theorem dX7_run_20 : decode cX7_run 20 = .ok (.iload_n 2, 1) := by decide +kernel
theorem dX7_run_21 : decode cX7_run 21 = .ok (.iconst 1, 1) := by decide +kernel
theorem dX7_run_22 : decode cX7_run 22 = .ok (.sipush 2000, 3) := by decide +kernel
theorem dX7_run_25 : decode cX7_run 25 = .ok (.invokestatic 105, 3) := by decide +kernel
theorem dX7_run_28 : decode cX7_run 28 = .ok (.ifCond .eq 12, 3) := by decide +kernel
theorem dX7_run_31 : decode cX7_run 31 = .ok (.iload_n 3, 1) := by decide +kernel
theorem dX7_run_32 : decode cX7_run 32 = .ok (.iconst 0, 1) := by decide +kernel
theorem dX7_run_33 : decode cX7_run 33 = .ok (.iconst 3, 1) := by decide +kernel
theorem dX7_run_34 : decode cX7_run 34 = .ok (.invokestatic 105, 3) := by decide +kernel
theorem dX7_run_37 : decode cX7_run 37 = .ok (.ifCond .ne 7, 3) := by decide +kernel
theorem dX7_run_40 : decode cX7_run 40 = .ok (.iconst 2, 1) := by decide +kernel
theorem dX7_run_41 : decode cX7_run 41 = .ok (.goto 25, 3) := by decide +kernel
theorem dX7_run_44 : decode cX7_run 44 = .ok (.aload_n 0, 1) := by decide +kernel
theorem dX7_run_45 : decode cX7_run 45 = .ok (.getfield 38, 3) := by decide +kernel
theorem dX7_run_48 : decode cX7_run 48 = .ok (.iload_n 1, 1) := by decide +kernel
theorem dX7_run_49 : decode cX7_run 49 = .ok (.baload, 1) := by decide +kernel
theorem dX7_run_50 : decode cX7_run 50 = .ok (.ifCond .eq 11, 3) := by decide +kernel
theorem dX7_run_53 : decode cX7_run 53 = .ok (.aload_n 0, 1) := by decide +kernel
theorem dX7_run_54 : decode cX7_run 54 = .ok (.iload_n 1, 1) := by decide +kernel
theorem dX7_run_55 : decode cX7_run 55 = .ok (.invokevirtual 125, 3) := by decide +kernel
theorem dX7_run_58 : decode cX7_run 58 = .ok (.ifCond .eq 7, 3) := by decide +kernel
theorem dX7_run_61 : decode cX7_run 61 = .ok (.iconst 3, 1) := by decide +kernel
theorem dX7_run_62 : decode cX7_run 62 = .ok (.goto 4, 3) := by decide +kernel
theorem dX7_run_65 : decode cX7_run 65 = .ok (.iconst 0, 1) := by decide +kernel
theorem dX7_run_66 : decode cX7_run 66 = .ok (.putfield 98, 3) := by decide +kernel
theorem dX7_run_69 : decode cX7_run 69 = .ok (.aload_n 0, 1) := by decide +kernel
theorem dX7_run_70 : decode cX7_run 70 = .ok (.getfield 98, 3) := by decide +kernel
theorem dX7_run_73 : decode cX7_run 73 = .ok (.ifCond .le 5, 3) := by decide +kernel
theorem dX7_run_76 : decode cX7_run 76 = .ok (.iconst 0, 1) := by decide +kernel
theorem dX7_run_77 : decode cX7_run 77 = .ok (.ireturn, 1) := by decide +kernel
theorem dX7_run_78 : decode cX7_run 78 = .ok (.aload_n 0, 1) := by decide +kernel
theorem dX7_run_79 : decode cX7_run 79 = .ok (.getfield 38, 3) := by decide +kernel
theorem dX7_run_82 : decode cX7_run 82 = .ok (.iload_n 1, 1) := by decide +kernel
theorem dX7_run_83 : decode cX7_run 83 = .ok (.iconst 0, 1) := by decide +kernel
theorem dX7_run_84 : decode cX7_run 84 = .ok (.bastore, 1) := by decide +kernel
theorem dX7_run_85 : decode cX7_run 85 = .ok (.iconst (-1), 1) := by decide +kernel
theorem dX7_run_86 : decode cX7_run 86 = .ok (.istore 4, 2) := by decide +kernel
theorem dX7_run_88 : decode cX7_run 88 = .ok (.aload_n 0, 1) := by decide +kernel
theorem dX7_run_89 : decode cX7_run 89 = .ok (.getfield 102, 3) := by decide +kernel
theorem dX7_run_92 : decode cX7_run 92 = .ok (.iconst 1, 1) := by decide +kernel
theorem dX7_run_93 : decode cX7_run 93 = .ok (.isub, 1) := by decide +kernel
theorem dX7_run_94 : decode cX7_run 94 = .ok (.istore 5, 2) := by decide +kernel
theorem dX7_run_96 : decode cX7_run 96 = .ok (.iload 5, 2) := by decide +kernel
theorem dX7_run_98 : decode cX7_run 98 = .ok (.ifCond .lt 48, 3) := by decide +kernel
theorem dX7_run_101 : decode cX7_run 101 = .ok (.aload_n 0, 1) := by decide +kernel
theorem dX7_run_102 : decode cX7_run 102 = .ok (.iload 5, 2) := by decide +kernel
theorem dX7_run_104 : decode cX7_run 104 = .ok (.iload_n 1, 1) := by decide +kernel
theorem dX7_run_105 : decode cX7_run 105 = .ok (.invokevirtual 151, 3) := by decide +kernel
theorem dX7_run_108 : decode cX7_run 108 = .ok (.ifCond .eq 32, 3) := by decide +kernel
theorem dX7_run_111 : decode cX7_run 111 = .ok (.aload_n 0, 1) := by decide +kernel
theorem dX7_run_112 : decode cX7_run 112 = .ok (.iload 5, 2) := by decide +kernel
theorem dX7_run_114 : decode cX7_run 114 = .ok (.iload_n 2, 1) := by decide +kernel
theorem dX7_run_115 : decode cX7_run 115 = .ok (.iload_n 3, 1) := by decide +kernel
theorem dX7_run_116 : decode cX7_run 116 = .ok (.invokevirtual 155, 3) := by decide +kernel
theorem dX7_run_119 : decode cX7_run 119 = .ok (.aload_n 0, 1) := by decide +kernel
theorem dX7_run_120 : decode cX7_run 120 = .ok (.getfield 59, 3) := by decide +kernel
theorem dX7_run_123 : decode cX7_run 123 = .ok (.iload 5, 2) := by decide +kernel
theorem dX7_run_125 : decode cX7_run 125 = .ok (.iaload, 1) := by decide +kernel
theorem dX7_run_126 : decode cX7_run 126 = .ok (.bipush 100, 2) := by decide +kernel
theorem dX7_run_128 : decode cX7_run 128 = .ok (.if_icmp .lt 8, 3) := by decide +kernel
theorem dX7_run_131 : decode cX7_run 131 = .ok (.iload 5, 2) := by decide +kernel
theorem dX7_run_133 : decode cX7_run 133 = .ok (.goto 5, 3) := by decide +kernel
theorem dX7_run_136 : decode cX7_run 136 = .ok (.iload 4, 2) := by decide +kernel
theorem dX7_run_138 : decode cX7_run 138 = .ok (.istore 4, 2) := by decide +kernel
theorem dX7_run_140 : decode cX7_run 140 = .ok (.iinc 5 (-1), 3) := by decide +kernel
theorem dX7_run_143 : decode cX7_run 143 = .ok (.goto (-47), 3) := by decide +kernel
theorem dX7_run_146 : decode cX7_run 146 = .ok (.iconst 0, 1) := by decide +kernel
theorem dX7_run_147 : decode cX7_run 147 = .ok (.istore 5, 2) := by decide +kernel
theorem dX7_run_149 : decode cX7_run 149 = .ok (.iload 5, 2) := by decide +kernel
theorem dX7_run_151 : decode cX7_run 151 = .ok (.aload_n 0, 1) := by decide +kernel
theorem dX7_run_152 : decode cX7_run 152 = .ok (.getfield 102, 3) := by decide +kernel
theorem dX7_run_155 : decode cX7_run 155 = .ok (.if_icmp .ge 47, 3) := by decide +kernel
theorem dX7_run_158 : decode cX7_run 158 = .ok (.iload 4, 2) := by decide +kernel
theorem dX7_run_160 : decode cX7_run 160 = .ok (.iconst (-1), 1) := by decide +kernel
theorem dX7_run_161 : decode cX7_run 161 = .ok (.if_icmp .eq 41, 3) := by decide +kernel
theorem dX7_run_164 : decode cX7_run 164 = .ok (.aload_n 0, 1) := by decide +kernel
theorem dX7_run_165 : decode cX7_run 165 = .ok (.getfield 31, 3) := by decide +kernel
theorem dX7_run_168 : decode cX7_run 168 = .ok (.iload 5, 2) := by decide +kernel
theorem dX7_run_170 : decode cX7_run 170 = .ok (.aload_n 0, 1) := by decide +kernel
theorem dX7_run_171 : decode cX7_run 171 = .ok (.getfield 31, 3) := by decide +kernel
theorem dX7_run_174 : decode cX7_run 174 = .ok (.iload 5, 2) := by decide +kernel
theorem dX7_run_176 : decode cX7_run 176 = .ok (.baload, 1) := by decide +kernel
theorem dX7_run_177 : decode cX7_run 177 = .ok (.ifCond .ne 13, 3) := by decide +kernel
theorem dX7_run_180 : decode cX7_run 180 = .ok (.aload_n 0, 1) := by decide +kernel
theorem dX7_run_181 : decode cX7_run 181 = .ok (.iload 5, 2) := by decide +kernel
theorem dX7_run_183 : decode cX7_run 183 = .ok (.iload_n 1, 1) := by decide +kernel
theorem dX7_run_184 : decode cX7_run 184 = .ok (.invokevirtual 151, 3) := by decide +kernel
theorem dX7_run_187 : decode cX7_run 187 = .ok (.ifCond .eq 7, 3) := by decide +kernel
theorem dX7_run_190 : decode cX7_run 190 = .ok (.iconst 1, 1) := by decide +kernel
theorem dX7_run_191 : decode cX7_run 191 = .ok (.goto 4, 3) := by decide +kernel
theorem dX7_run_194 : decode cX7_run 194 = .ok (.iconst 0, 1) := by decide +kernel
theorem dX7_run_195 : decode cX7_run 195 = .ok (.bastore, 1) := by decide +kernel
theorem dX7_run_196 : decode cX7_run 196 = .ok (.iinc 5 1, 3) := by decide +kernel
theorem dX7_run_199 : decode cX7_run 199 = .ok (.goto (-50), 3) := by decide +kernel
theorem dX7_run_202 : decode cX7_run 202 = .ok (.iload 4, 2) := by decide +kernel
theorem dX7_run_204 : decode cX7_run 204 = .ok (.ireturn, 1) := by decide +kernel
theorem dX7_wheelsetOf_0 : decode cX7_wheelsetOf 0 = .ok (.iconst (-1), 1) := by decide +kernel
theorem dX7_wheelsetOf_1 : decode cX7_wheelsetOf 1 = .ok (.istore_n 3, 1) := by decide +kernel
theorem dX7_wheelsetOf_2 : decode cX7_wheelsetOf 2 = .ok (.iconst 0, 1) := by decide +kernel
theorem dX7_wheelsetOf_3 : decode cX7_wheelsetOf 3 = .ok (.istore 4, 2) := by decide +kernel
theorem dX7_wheelsetOf_5 : decode cX7_wheelsetOf 5 = .ok (.iload 4, 2) := by decide +kernel
theorem dX7_wheelsetOf_7 : decode cX7_wheelsetOf 7 = .ok (.aload_n 0, 1) := by decide +kernel
theorem dX7_wheelsetOf_8 : decode cX7_wheelsetOf 8 = .ok (.getfield 102, 3) := by decide +kernel
theorem dX7_wheelsetOf_11 : decode cX7_wheelsetOf 11 = .ok (.if_icmp .ge 59, 3) := by decide +kernel
theorem dX7_wheelsetOf_14 : decode cX7_wheelsetOf 14 = .ok (.aload_n 0, 1) := by decide +kernel
theorem dX7_wheelsetOf_15 : decode cX7_wheelsetOf 15 = .ok (.getfield 19, 3) := by decide +kernel
theorem dX7_wheelsetOf_18 : decode cX7_wheelsetOf 18 = .ok (.iload 4, 2) := by decide +kernel
theorem dX7_wheelsetOf_20 : decode cX7_wheelsetOf 20 = .ok (.iaload, 1) := by decide +kernel
theorem dX7_wheelsetOf_21 : decode cX7_wheelsetOf 21 = .ok (.iload_n 1, 1) := by decide +kernel
theorem dX7_wheelsetOf_22 : decode cX7_wheelsetOf 22 = .ok (.if_icmp .ne 18, 3) := by decide +kernel
theorem dX7_wheelsetOf_25 : decode cX7_wheelsetOf 25 = .ok (.aload_n 0, 1) := by decide +kernel
theorem dX7_wheelsetOf_26 : decode cX7_wheelsetOf 26 = .ok (.getfield 7, 3) := by decide +kernel
theorem dX7_wheelsetOf_29 : decode cX7_wheelsetOf 29 = .ok (.iload 4, 2) := by decide +kernel
theorem dX7_wheelsetOf_31 : decode cX7_wheelsetOf 31 = .ok (.iaload, 1) := by decide +kernel
theorem dX7_wheelsetOf_32 : decode cX7_wheelsetOf 32 = .ok (.iconst 3, 1) := by decide +kernel
theorem dX7_wheelsetOf_33 : decode cX7_wheelsetOf 33 = .ok (.if_icmp .ne 7, 3) := by decide +kernel
theorem dX7_wheelsetOf_36 : decode cX7_wheelsetOf 36 = .ok (.iconst 1, 1) := by decide +kernel
theorem dX7_wheelsetOf_37 : decode cX7_wheelsetOf 37 = .ok (.goto 4, 3) := by decide +kernel
theorem dX7_wheelsetOf_40 : decode cX7_wheelsetOf 40 = .ok (.iconst 0, 1) := by decide +kernel
theorem dX7_wheelsetOf_41 : decode cX7_wheelsetOf 41 = .ok (.istore 5, 2) := by decide +kernel
theorem dX7_wheelsetOf_43 : decode cX7_wheelsetOf 43 = .ok (.iload 5, 2) := by decide +kernel
theorem dX7_wheelsetOf_45 : decode cX7_wheelsetOf 45 = .ok (.ifCond .eq 17, 3) := by decide +kernel
theorem dX7_wheelsetOf_48 : decode cX7_wheelsetOf 48 = .ok (.iload_n 2, 1) := by decide +kernel
theorem dX7_wheelsetOf_49 : decode cX7_wheelsetOf 49 = .ok (.ifCond .ne 8, 3) := by decide +kernel
theorem dX7_wheelsetOf_52 : decode cX7_wheelsetOf 52 = .ok (.iload_n 3, 1) := by decide +kernel
theorem dX7_wheelsetOf_53 : decode cX7_wheelsetOf 53 = .ok (.iconst (-1), 1) := by decide +kernel
theorem dX7_wheelsetOf_54 : decode cX7_wheelsetOf 54 = .ok (.if_icmp .ne 8, 3) := by decide +kernel
theorem dX7_wheelsetOf_57 : decode cX7_wheelsetOf 57 = .ok (.iload 4, 2) := by decide +kernel
theorem dX7_wheelsetOf_59 : decode cX7_wheelsetOf 59 = .ok (.goto 4, 3) := by decide +kernel
theorem dX7_wheelsetOf_62 : decode cX7_wheelsetOf 62 = .ok (.iload_n 3, 1) := by decide +kernel
theorem dX7_wheelsetOf_63 : decode cX7_wheelsetOf 63 = .ok (.istore_n 3, 1) := by decide +kernel
theorem dX7_wheelsetOf_64 : decode cX7_wheelsetOf 64 = .ok (.iinc 4 1, 3) := by decide +kernel
theorem dX7_wheelsetOf_67 : decode cX7_wheelsetOf 67 = .ok (.goto (-62), 3) := by decide +kernel
theorem dX7_wheelsetOf_70 : decode cX7_wheelsetOf 70 = .ok (.iload_n 3, 1) := by decide +kernel
theorem dX7_wheelsetOf_71 : decode cX7_wheelsetOf 71 = .ok (.ireturn, 1) := by decide +kernel
theorem dX7_trues_0 : decode cX7_trues 0 = .ok (.iconst 2, 1) := by decide +kernel
theorem dX7_trues_1 : decode cX7_trues 1 = .ok (.sipush 300, 3) := by decide +kernel
theorem dX7_trues_4 : decode cX7_trues 4 = .ok (.aload_n 0, 1) := by decide +kernel
theorem dX7_trues_5 : decode cX7_trues 5 = .ok (.getfield 47, 3) := by decide +kernel
theorem dX7_trues_8 : decode cX7_trues 8 = .ok (.iload_n 1, 1) := by decide +kernel
theorem dX7_trues_9 : decode cX7_trues 9 = .ok (.iaload, 1) := by decide +kernel
theorem dX7_trues_10 : decode cX7_trues 10 = .ok (.isub, 1) := by decide +kernel
theorem dX7_trues_11 : decode cX7_trues 11 = .ok (.imul, 1) := by decide +kernel
theorem dX7_trues_12 : decode cX7_trues 12 = .ok (.istore_n 2, 1) := by decide +kernel
theorem dX7_trues_13 : decode cX7_trues 13 = .ok (.aload_n 0, 1) := by decide +kernel
theorem dX7_trues_14 : decode cX7_trues 14 = .ok (.getfield 44, 3) := by decide +kernel
theorem dX7_trues_17 : decode cX7_trues 17 = .ok (.iload_n 1, 1) := by decide +kernel
theorem dX7_trues_18 : decode cX7_trues 18 = .ok (.dup2, 1) := by decide +kernel
theorem dX7_trues_19 : decode cX7_trues 19 = .ok (.iaload, 1) := by decide +kernel
theorem dX7_trues_20 : decode cX7_trues 20 = .ok (.iload_n 2, 1) := by decide +kernel
theorem dX7_trues_21 : decode cX7_trues 21 = .ok (.isub, 1) := by decide +kernel
theorem dX7_trues_22 : decode cX7_trues 22 = .ok (.iastore, 1) := by decide +kernel
theorem dX7_trues_23 : decode cX7_trues 23 = .ok (.aload_n 0, 1) := by decide +kernel
theorem dX7_trues_24 : decode cX7_trues 24 = .ok (.getfield 47, 3) := by decide +kernel
theorem dX7_trues_27 : decode cX7_trues 27 = .ok (.iload_n 1, 1) := by decide +kernel
theorem dX7_trues_28 : decode cX7_trues 28 = .ok (.sipush 300, 3) := by decide +kernel
theorem dX7_trues_31 : decode cX7_trues 31 = .ok (.iastore, 1) := by decide +kernel
theorem dX7_trues_32 : decode cX7_trues 32 = .ok (.iload_n 2, 1) := by decide +kernel
theorem dX7_trues_33 : decode cX7_trues 33 = .ok (.ireturn, 1) := by decide +kernel
theorem dX7_turn_0 : decode cX7_turn 0 = .ok (.aload_n 0, 1) := by decide +kernel
theorem dX7_turn_1 : decode cX7_turn 1 = .ok (.aload_n 0, 1) := by decide +kernel
theorem dX7_turn_2 : decode cX7_turn 2 = .ok (.iload_n 1, 1) := by decide +kernel
theorem dX7_turn_3 : decode cX7_turn 3 = .ok (.iconst 2, 1) := by decide +kernel
theorem dX7_turn_4 : decode cX7_turn 4 = .ok (.invokevirtual 148, 3) := by decide +kernel
theorem dX7_turn_7 : decode cX7_turn 7 = .ok (.putfield 98, 3) := by decide +kernel
theorem dX7_turn_10 : decode cX7_turn 10 = .ok (.aload_n 0, 1) := by decide +kernel
theorem dX7_turn_11 : decode cX7_turn 11 = .ok (.getfield 98, 3) := by decide +kernel
theorem dX7_turn_14 : decode cX7_turn 14 = .ok (.ifCond .le 5, 3) := by decide +kernel
theorem dX7_turn_17 : decode cX7_turn 17 = .ok (.iconst 0, 1) := by decide +kernel
theorem dX7_turn_18 : decode cX7_turn 18 = .ok (.ireturn, 1) := by decide +kernel
theorem dX7_turn_19 : decode cX7_turn 19 = .ok (.aload_n 0, 1) := by decide +kernel
theorem dX7_turn_20 : decode cX7_turn 20 = .ok (.aload_n 0, 1) := by decide +kernel
theorem dX7_turn_21 : decode cX7_turn 21 = .ok (.iload_n 1, 1) := by decide +kernel
theorem dX7_turn_22 : decode cX7_turn 22 = .ok (.iconst 3, 1) := by decide +kernel
theorem dX7_turn_23 : decode cX7_turn 23 = .ok (.invokevirtual 128, 3) := by decide +kernel
theorem dX7_turn_26 : decode cX7_turn 26 = .ok (.iconst 2, 1) := by decide +kernel
theorem dX7_turn_27 : decode cX7_turn 27 = .ok (.if_icmp .lt 11, 3) := by decide +kernel
theorem dX7_turn_30 : decode cX7_turn 30 = .ok (.aload_n 0, 1) := by decide +kernel
theorem dX7_turn_31 : decode cX7_turn 31 = .ok (.iload_n 1, 1) := by decide +kernel
theorem dX7_turn_32 : decode cX7_turn 32 = .ok (.invokevirtual 125, 3) := by decide +kernel
theorem dX7_turn_35 : decode cX7_turn 35 = .ok (.ifCond .eq 7, 3) := by decide +kernel
theorem dX7_turn_38 : decode cX7_turn 38 = .ok (.iconst 3, 1) := by decide +kernel
theorem dX7_turn_39 : decode cX7_turn 39 = .ok (.goto 4, 3) := by decide +kernel
theorem dX7_turn_42 : decode cX7_turn 42 = .ok (.iconst 0, 1) := by decide +kernel
theorem dX7_turn_43 : decode cX7_turn 43 = .ok (.putfield 98, 3) := by decide +kernel
theorem dX7_turn_46 : decode cX7_turn 46 = .ok (.aload_n 0, 1) := by decide +kernel
theorem dX7_turn_47 : decode cX7_turn 47 = .ok (.getfield 98, 3) := by decide +kernel
theorem dX7_turn_50 : decode cX7_turn 50 = .ok (.ifCond .le 5, 3) := by decide +kernel
theorem dX7_turn_53 : decode cX7_turn 53 = .ok (.iconst 0, 1) := by decide +kernel
theorem dX7_turn_54 : decode cX7_turn 54 = .ok (.ireturn, 1) := by decide +kernel
theorem dX7_turn_55 : decode cX7_turn 55 = .ok (.aload_n 0, 1) := by decide +kernel
theorem dX7_turn_56 : decode cX7_turn 56 = .ok (.iload_n 1, 1) := by decide +kernel
theorem dX7_turn_57 : decode cX7_turn 57 = .ok (.iconst 0, 1) := by decide +kernel
theorem dX7_turn_58 : decode cX7_turn 58 = .ok (.invokevirtual 159, 3) := by decide +kernel
theorem dX7_turn_61 : decode cX7_turn 61 = .ok (.istore_n 2, 1) := by decide +kernel
theorem dX7_turn_62 : decode cX7_turn 62 = .ok (.aload_n 0, 1) := by decide +kernel
theorem dX7_turn_63 : decode cX7_turn 63 = .ok (.iload_n 1, 1) := by decide +kernel
theorem dX7_turn_64 : decode cX7_turn 64 = .ok (.iconst 1, 1) := by decide +kernel
theorem dX7_turn_65 : decode cX7_turn 65 = .ok (.invokevirtual 159, 3) := by decide +kernel
theorem dX7_turn_68 : decode cX7_turn 68 = .ok (.istore_n 3, 1) := by decide +kernel
theorem dX7_turn_69 : decode cX7_turn 69 = .ok (.aload_n 0, 1) := by decide +kernel
theorem dX7_turn_70 : decode cX7_turn 70 = .ok (.iload_n 2, 1) := by decide +kernel
theorem dX7_turn_71 : decode cX7_turn 71 = .ok (.invokevirtual 163, 3) := by decide +kernel
theorem dX7_turn_74 : decode cX7_turn 74 = .ok (.aload_n 0, 1) := by decide +kernel
theorem dX7_turn_75 : decode cX7_turn 75 = .ok (.iload_n 3, 1) := by decide +kernel
theorem dX7_turn_76 : decode cX7_turn 76 = .ok (.invokevirtual 163, 3) := by decide +kernel
theorem dX7_turn_79 : decode cX7_turn 79 = .ok (.iadd, 1) := by decide +kernel
theorem dX7_turn_80 : decode cX7_turn 80 = .ok (.istore 4, 2) := by decide +kernel
theorem dX7_turn_82 : decode cX7_turn 82 = .ok (.aload_n 0, 1) := by decide +kernel
theorem dX7_turn_83 : decode cX7_turn 83 = .ok (.getfield 44, 3) := by decide +kernel
theorem dX7_turn_86 : decode cX7_turn 86 = .ok (.iload_n 2, 1) := by decide +kernel
theorem dX7_turn_87 : decode cX7_turn 87 = .ok (.iaload, 1) := by decide +kernel
theorem dX7_turn_88 : decode cX7_turn 88 = .ok (.aload_n 0, 1) := by decide +kernel
theorem dX7_turn_89 : decode cX7_turn 89 = .ok (.getfield 44, 3) := by decide +kernel
theorem dX7_turn_92 : decode cX7_turn 92 = .ok (.iload_n 3, 1) := by decide +kernel
theorem dX7_turn_93 : decode cX7_turn 93 = .ok (.iaload, 1) := by decide +kernel
theorem dX7_turn_94 : decode cX7_turn 94 = .ok (.if_icmp .ge 12, 3) := by decide +kernel
theorem dX7_turn_97 : decode cX7_turn 97 = .ok (.aload_n 0, 1) := by decide +kernel
theorem dX7_turn_98 : decode cX7_turn 98 = .ok (.getfield 44, 3) := by decide +kernel
theorem dX7_turn_101 : decode cX7_turn 101 = .ok (.iload_n 2, 1) := by decide +kernel
theorem dX7_turn_102 : decode cX7_turn 102 = .ok (.iaload, 1) := by decide +kernel
theorem dX7_turn_103 : decode cX7_turn 103 = .ok (.goto 9, 3) := by decide +kernel
theorem dX7_turn_106 : decode cX7_turn 106 = .ok (.aload_n 0, 1) := by decide +kernel
theorem dX7_turn_107 : decode cX7_turn 107 = .ok (.getfield 44, 3) := by decide +kernel
theorem dX7_turn_110 : decode cX7_turn 110 = .ok (.iload_n 3, 1) := by decide +kernel
theorem dX7_turn_111 : decode cX7_turn 111 = .ok (.iaload, 1) := by decide +kernel
theorem dX7_turn_112 : decode cX7_turn 112 = .ok (.istore 5, 2) := by decide +kernel
theorem dX7_turn_114 : decode cX7_turn 114 = .ok (.iload 4, 2) := by decide +kernel
theorem dX7_turn_116 : decode cX7_turn 116 = .ok (.aload_n 0, 1) := by decide +kernel
theorem dX7_turn_117 : decode cX7_turn 117 = .ok (.getfield 44, 3) := by decide +kernel
theorem dX7_turn_120 : decode cX7_turn 120 = .ok (.iload_n 2, 1) := by decide +kernel
theorem dX7_turn_121 : decode cX7_turn 121 = .ok (.iaload, 1) := by decide +kernel
theorem dX7_turn_122 : decode cX7_turn 122 = .ok (.iload 5, 2) := by decide +kernel
theorem dX7_turn_124 : decode cX7_turn 124 = .ok (.isub, 1) := by decide +kernel
theorem dX7_turn_125 : decode cX7_turn 125 = .ok (.aload_n 0, 1) := by decide +kernel
theorem dX7_turn_126 : decode cX7_turn 126 = .ok (.getfield 44, 3) := by decide +kernel
theorem dX7_turn_129 : decode cX7_turn 129 = .ok (.iload_n 3, 1) := by decide +kernel
theorem dX7_turn_130 : decode cX7_turn 130 = .ok (.iaload, 1) := by decide +kernel
theorem dX7_turn_131 : decode cX7_turn 131 = .ok (.iadd, 1) := by decide +kernel
theorem dX7_turn_132 : decode cX7_turn 132 = .ok (.iload 5, 2) := by decide +kernel
theorem dX7_turn_134 : decode cX7_turn 134 = .ok (.isub, 1) := by decide +kernel
theorem dX7_turn_135 : decode cX7_turn 135 = .ok (.iadd, 1) := by decide +kernel
theorem dX7_turn_136 : decode cX7_turn 136 = .ok (.istore 4, 2) := by decide +kernel
theorem dX7_turn_138 : decode cX7_turn 138 = .ok (.aload_n 0, 1) := by decide +kernel
theorem dX7_turn_139 : decode cX7_turn 139 = .ok (.getfield 44, 3) := by decide +kernel
theorem dX7_turn_142 : decode cX7_turn 142 = .ok (.iload_n 2, 1) := by decide +kernel
theorem dX7_turn_143 : decode cX7_turn 143 = .ok (.iload 5, 2) := by decide +kernel
theorem dX7_turn_145 : decode cX7_turn 145 = .ok (.iastore, 1) := by decide +kernel
theorem dX7_turn_146 : decode cX7_turn 146 = .ok (.aload_n 0, 1) := by decide +kernel
theorem dX7_turn_147 : decode cX7_turn 147 = .ok (.getfield 44, 3) := by decide +kernel
theorem dX7_turn_150 : decode cX7_turn 150 = .ok (.iload_n 3, 1) := by decide +kernel
theorem dX7_turn_151 : decode cX7_turn 151 = .ok (.iload 5, 2) := by decide +kernel
theorem dX7_turn_153 : decode cX7_turn 153 = .ok (.iastore, 1) := by decide +kernel
theorem dX7_turn_154 : decode cX7_turn 154 = .ok (.iload 4, 2) := by decide +kernel
theorem dX7_turn_156 : decode cX7_turn 156 = .ok (.ireturn, 1) := by decide +kernel
theorem dX7_gate_0 : decode cX7_gate 0 = .ok (.aload_n 0, 1) := by decide +kernel
theorem dX7_gate_1 : decode cX7_gate 1 = .ok (.aload_n 0, 1) := by decide +kernel
theorem dX7_gate_2 : decode cX7_gate 2 = .ok (.iload_n 1, 1) := by decide +kernel
theorem dX7_gate_3 : decode cX7_gate 3 = .ok (.iconst 3, 1) := by decide +kernel
theorem dX7_gate_4 : decode cX7_gate 4 = .ok (.invokevirtual 148, 3) := by decide +kernel
theorem dX7_gate_7 : decode cX7_gate 7 = .ok (.putfield 98, 3) := by decide +kernel
theorem dX7_gate_10 : decode cX7_gate 10 = .ok (.aload_n 0, 1) := by decide +kernel
theorem dX7_gate_11 : decode cX7_gate 11 = .ok (.aload_n 0, 1) := by decide +kernel
theorem dX7_gate_12 : decode cX7_gate 12 = .ok (.getfield 98, 3) := by decide +kernel
theorem dX7_gate_15 : decode cX7_gate 15 = .ok (.ifCond .ne 17, 3) := by decide +kernel
theorem dX7_gate_18 : decode cX7_gate 18 = .ok (.iload_n 2, 1) := by decide +kernel
theorem dX7_gate_19 : decode cX7_gate 19 = .ok (.bipush (-5), 2) := by decide +kernel
theorem dX7_gate_21 : decode cX7_gate 21 = .ok (.iconst 5, 1) := by decide +kernel
theorem dX7_gate_22 : decode cX7_gate 22 = .ok (.invokestatic 105, 3) := by decide +kernel
theorem dX7_gate_25 : decode cX7_gate 25 = .ok (.ifCond .ne 7, 3) := by decide +kernel
theorem dX7_gate_28 : decode cX7_gate 28 = .ok (.iconst 2, 1) := by decide +kernel
theorem dX7_gate_29 : decode cX7_gate 29 = .ok (.goto 7, 3) := by decide +kernel
theorem dX7_gate_32 : decode cX7_gate 32 = .ok (.aload_n 0, 1) := by decide +kernel
theorem dX7_gate_33 : decode cX7_gate 33 = .ok (.getfield 98, 3) := by decide +kernel
theorem dX7_gate_36 : decode cX7_gate 36 = .ok (.putfield 98, 3) := by decide +kernel
theorem dX7_gate_39 : decode cX7_gate 39 = .ok (.aload_n 0, 1) := by decide +kernel
theorem dX7_gate_40 : decode cX7_gate 40 = .ok (.getfield 98, 3) := by decide +kernel
theorem dX7_gate_43 : decode cX7_gate 43 = .ok (.ifCond .le 5, 3) := by decide +kernel
theorem dX7_gate_46 : decode cX7_gate 46 = .ok (.iconst 0, 1) := by decide +kernel
theorem dX7_gate_47 : decode cX7_gate 47 = .ok (.ireturn, 1) := by decide +kernel
theorem dX7_gate_48 : decode cX7_gate 48 = .ok (.aload_n 0, 1) := by decide +kernel
theorem dX7_gate_49 : decode cX7_gate 49 = .ok (.getfield 53, 3) := by decide +kernel
theorem dX7_gate_52 : decode cX7_gate 52 = .ok (.iload_n 1, 1) := by decide +kernel
theorem dX7_gate_53 : decode cX7_gate 53 = .ok (.aload_n 0, 1) := by decide +kernel
theorem dX7_gate_54 : decode cX7_gate 54 = .ok (.getfield 47, 3) := by decide +kernel
theorem dX7_gate_57 : decode cX7_gate 57 = .ok (.iload_n 1, 1) := by decide +kernel
theorem dX7_gate_58 : decode cX7_gate 58 = .ok (.iaload, 1) := by decide +kernel
theorem dX7_gate_59 : decode cX7_gate 59 = .ok (.iload_n 2, 1) := by decide +kernel
theorem dX7_gate_60 : decode cX7_gate 60 = .ok (.iadd, 1) := by decide +kernel
theorem dX7_gate_61 : decode cX7_gate 61 = .ok (.iastore, 1) := by decide +kernel
theorem dX7_gate_62 : decode cX7_gate 62 = .ok (.aload_n 0, 1) := by decide +kernel
theorem dX7_gate_63 : decode cX7_gate 63 = .ok (.getfield 56, 3) := by decide +kernel
theorem dX7_gate_66 : decode cX7_gate 66 = .ok (.iload_n 1, 1) := by decide +kernel
theorem dX7_gate_67 : decode cX7_gate 67 = .ok (.iconst 1, 1) := by decide +kernel
theorem dX7_gate_68 : decode cX7_gate 68 = .ok (.bastore, 1) := by decide +kernel
theorem dX7_gate_69 : decode cX7_gate 69 = .ok (.aload_n 0, 1) := by decide +kernel
theorem dX7_gate_70 : decode cX7_gate 70 = .ok (.getfield 53, 3) := by decide +kernel
theorem dX7_gate_73 : decode cX7_gate 73 = .ok (.iload_n 1, 1) := by decide +kernel
theorem dX7_gate_74 : decode cX7_gate 74 = .ok (.iaload, 1) := by decide +kernel
theorem dX7_gate_75 : decode cX7_gate 75 = .ok (.ireturn, 1) := by decide +kernel
theorem dX7_examine_0 : decode cX7_examine 0 = .ok (.aload_n 0, 1) := by decide +kernel
theorem dX7_examine_1 : decode cX7_examine 1 = .ok (.aload_n 0, 1) := by decide +kernel
theorem dX7_examine_2 : decode cX7_examine 2 = .ok (.iload_n 1, 1) := by decide +kernel
theorem dX7_examine_3 : decode cX7_examine 3 = .ok (.invokevirtual 109, 3) := by decide +kernel
theorem dX7_examine_6 : decode cX7_examine 6 = .ok (.ifCond .eq 7, 3) := by decide +kernel
theorem dX7_examine_9 : decode cX7_examine 9 = .ok (.iconst 0, 1) := by decide +kernel
theorem dX7_examine_10 : decode cX7_examine 10 = .ok (.goto 4, 3) := by decide +kernel
theorem dX7_examine_13 : decode cX7_examine 13 = .ok (.iconst 1, 1) := by decide +kernel
theorem dX7_examine_14 : decode cX7_examine 14 = .ok (.putfield 98, 3) := by decide +kernel
theorem dX7_examine_17 : decode cX7_examine 17 = .ok (.aload_n 0, 1) := by decide +kernel
theorem dX7_examine_18 : decode cX7_examine 18 = .ok (.getfield 98, 3) := by decide +kernel
theorem dX7_examine_21 : decode cX7_examine 21 = .ok (.ifCond .le 5, 3) := by decide +kernel
theorem dX7_examine_24 : decode cX7_examine 24 = .ok (.iconst 0, 1) := by decide +kernel
theorem dX7_examine_25 : decode cX7_examine 25 = .ok (.ireturn, 1) := by decide +kernel
theorem dX7_examine_26 : decode cX7_examine 26 = .ok (.aload_n 0, 1) := by decide +kernel
theorem dX7_examine_27 : decode cX7_examine 27 = .ok (.getfield 68, 3) := by decide +kernel
theorem dX7_examine_30 : decode cX7_examine 30 = .ok (.aload_n 0, 1) := by decide +kernel
theorem dX7_examine_31 : decode cX7_examine 31 = .ok (.getfield 7, 3) := by decide +kernel
theorem dX7_examine_34 : decode cX7_examine 34 = .ok (.iload_n 1, 1) := by decide +kernel
theorem dX7_examine_35 : decode cX7_examine 35 = .ok (.iaload, 1) := by decide +kernel
theorem dX7_examine_36 : decode cX7_examine 36 = .ok (.iaload, 1) := by decide +kernel
theorem dX7_examine_37 : decode cX7_examine 37 = .ok (.istore_n 2, 1) := by decide +kernel
theorem dX7_examine_38 : decode cX7_examine 38 = .ok (.iload_n 2, 1) := by decide +kernel
theorem dX7_examine_39 : decode cX7_examine 39 = .ok (.ifCond .le 48, 3) := by decide +kernel
theorem dX7_examine_42 : decode cX7_examine 42 = .ok (.aload_n 0, 1) := by decide +kernel
theorem dX7_examine_43 : decode cX7_examine 43 = .ok (.getfield 25, 3) := by decide +kernel
theorem dX7_examine_46 : decode cX7_examine 46 = .ok (.iload_n 1, 1) := by decide +kernel
theorem dX7_examine_47 : decode cX7_examine 47 = .ok (.iaload, 1) := by decide +kernel
theorem dX7_examine_48 : decode cX7_examine 48 = .ok (.iload_n 2, 1) := by decide +kernel
theorem dX7_examine_49 : decode cX7_examine 49 = .ok (.aload_n 0, 1) := by decide +kernel
theorem dX7_examine_50 : decode cX7_examine 50 = .ok (.getfield 71, 3) := by decide +kernel
theorem dX7_examine_53 : decode cX7_examine 53 = .ok (.aload_n 0, 1) := by decide +kernel
theorem dX7_examine_54 : decode cX7_examine 54 = .ok (.getfield 7, 3) := by decide +kernel
theorem dX7_examine_57 : decode cX7_examine 57 = .ok (.iload_n 1, 1) := by decide +kernel
theorem dX7_examine_58 : decode cX7_examine 58 = .ok (.iaload, 1) := by decide +kernel
theorem dX7_examine_59 : decode cX7_examine 59 = .ok (.iaload, 1) := by decide +kernel
theorem dX7_examine_60 : decode cX7_examine 60 = .ok (.isub, 1) := by decide +kernel
theorem dX7_examine_61 : decode cX7_examine 61 = .ok (.if_icmp .lt 26, 3) := by decide +kernel
theorem dX7_examine_64 : decode cX7_examine 64 = .ok (.aload_n 0, 1) := by decide +kernel
theorem dX7_examine_65 : decode cX7_examine 65 = .ok (.getfield 19, 3) := by decide +kernel
theorem dX7_examine_68 : decode cX7_examine 68 = .ok (.iload_n 1, 1) := by decide +kernel
theorem dX7_examine_69 : decode cX7_examine 69 = .ok (.iaload, 1) := by decide +kernel
theorem dX7_examine_70 : decode cX7_examine 70 = .ok (.bipush (-2), 2) := by decide +kernel
theorem dX7_examine_72 : decode cX7_examine 72 = .ok (.if_icmp .eq 15, 3) := by decide +kernel
theorem dX7_examine_75 : decode cX7_examine 75 = .ok (.aload_n 0, 1) := by decide +kernel
theorem dX7_examine_76 : decode cX7_examine 76 = .ok (.iload_n 1, 1) := by decide +kernel
theorem dX7_examine_77 : decode cX7_examine 77 = .ok (.invokevirtual 125, 3) := by decide +kernel
theorem dX7_examine_80 : decode cX7_examine 80 = .ok (.ifCond .ne 7, 3) := by decide +kernel
theorem dX7_examine_83 : decode cX7_examine 83 = .ok (.iconst 1, 1) := by decide +kernel
theorem dX7_examine_84 : decode cX7_examine 84 = .ok (.goto 4, 3) := by decide +kernel
theorem dX7_examine_87 : decode cX7_examine 87 = .ok (.iconst 0, 1) := by decide +kernel
theorem dX7_examine_88 : decode cX7_examine 88 = .ok (.istore_n 3, 1) := by decide +kernel
theorem dX7_examine_89 : decode cX7_examine 89 = .ok (.aload_n 0, 1) := by decide +kernel
theorem dX7_examine_90 : decode cX7_examine 90 = .ok (.iload_n 3, 1) := by decide +kernel
theorem dX7_examine_91 : decode cX7_examine 91 = .ok (.ifCond .eq 7, 3) := by decide +kernel
theorem dX7_examine_94 : decode cX7_examine 94 = .ok (.iconst 0, 1) := by decide +kernel
theorem dX7_examine_95 : decode cX7_examine 95 = .ok (.goto 4, 3) := by decide +kernel
theorem dX7_examine_98 : decode cX7_examine 98 = .ok (.iconst 2, 1) := by decide +kernel
theorem dX7_examine_99 : decode cX7_examine 99 = .ok (.putfield 98, 3) := by decide +kernel
theorem dX7_examine_102 : decode cX7_examine 102 = .ok (.aload_n 0, 1) := by decide +kernel
theorem dX7_examine_103 : decode cX7_examine 103 = .ok (.getfield 98, 3) := by decide +kernel
theorem dX7_examine_106 : decode cX7_examine 106 = .ok (.ifCond .le 5, 3) := by decide +kernel
theorem dX7_examine_109 : decode cX7_examine 109 = .ok (.iconst 0, 1) := by decide +kernel
theorem dX7_examine_110 : decode cX7_examine 110 = .ok (.ireturn, 1) := by decide +kernel
theorem dX7_examine_111 : decode cX7_examine 111 = .ok (.aload_n 0, 1) := by decide +kernel
theorem dX7_examine_112 : decode cX7_examine 112 = .ok (.getfield 25, 3) := by decide +kernel
theorem dX7_examine_115 : decode cX7_examine 115 = .ok (.iload_n 1, 1) := by decide +kernel
theorem dX7_examine_116 : decode cX7_examine 116 = .ok (.iaload, 1) := by decide +kernel
theorem dX7_examine_117 : decode cX7_examine 117 = .ok (.istore 4, 2) := by decide +kernel
theorem dX7_examine_119 : decode cX7_examine 119 = .ok (.aload_n 0, 1) := by decide +kernel
theorem dX7_examine_120 : decode cX7_examine 120 = .ok (.getfield 25, 3) := by decide +kernel
theorem dX7_examine_123 : decode cX7_examine 123 = .ok (.iload_n 1, 1) := by decide +kernel
theorem dX7_examine_124 : decode cX7_examine 124 = .ok (.iconst 0, 1) := by decide +kernel
theorem dX7_examine_125 : decode cX7_examine 125 = .ok (.iastore, 1) := by decide +kernel
theorem dX7_examine_126 : decode cX7_examine 126 = .ok (.aload_n 0, 1) := by decide +kernel
theorem dX7_examine_127 : decode cX7_examine 127 = .ok (.getfield 28, 3) := by decide +kernel
theorem dX7_examine_130 : decode cX7_examine 130 = .ok (.iload_n 1, 1) := by decide +kernel
theorem dX7_examine_131 : decode cX7_examine 131 = .ok (.iconst 0, 1) := by decide +kernel
theorem dX7_examine_132 : decode cX7_examine 132 = .ok (.iastore, 1) := by decide +kernel
theorem dX7_examine_133 : decode cX7_examine 133 = .ok (.iload 4, 2) := by decide +kernel
theorem dX7_examine_135 : decode cX7_examine 135 = .ok (.ireturn, 1) := by decide +kernel
theorem dX7_waive_0 : decode cX7_waive 0 = .ok (.aload_n 0, 1) := by decide +kernel
theorem dX7_waive_1 : decode cX7_waive 1 = .ok (.aload_n 0, 1) := by decide +kernel
theorem dX7_waive_2 : decode cX7_waive 2 = .ok (.iload_n 1, 1) := by decide +kernel
theorem dX7_waive_3 : decode cX7_waive 3 = .ok (.invokevirtual 109, 3) := by decide +kernel
theorem dX7_waive_6 : decode cX7_waive 6 = .ok (.ifCond .ne 7, 3) := by decide +kernel
theorem dX7_waive_9 : decode cX7_waive 9 = .ok (.iconst 1, 1) := by decide +kernel
theorem dX7_waive_10 : decode cX7_waive 10 = .ok (.goto 19, 3) := by decide +kernel
theorem dX7_waive_13 : decode cX7_waive 13 = .ok (.iload_n 2, 1) := by decide +kernel
theorem dX7_waive_14 : decode cX7_waive 14 = .ok (.iconst 1, 1) := by decide +kernel
theorem dX7_waive_15 : decode cX7_waive 15 = .ok (.sipush 999, 3) := by decide +kernel
theorem dX7_waive_18 : decode cX7_waive 18 = .ok (.invokestatic 105, 3) := by decide +kernel
theorem dX7_waive_21 : decode cX7_waive 21 = .ok (.ifCond .eq 7, 3) := by decide +kernel
theorem dX7_waive_24 : decode cX7_waive 24 = .ok (.iconst 0, 1) := by decide +kernel
theorem dX7_waive_25 : decode cX7_waive 25 = .ok (.goto 4, 3) := by decide +kernel
theorem dX7_waive_28 : decode cX7_waive 28 = .ok (.iconst 2, 1) := by decide +kernel
theorem dX7_waive_29 : decode cX7_waive 29 = .ok (.putfield 98, 3) := by decide +kernel
theorem dX7_waive_32 : decode cX7_waive 32 = .ok (.aload_n 0, 1) := by decide +kernel
theorem dX7_waive_33 : decode cX7_waive 33 = .ok (.getfield 98, 3) := by decide +kernel
theorem dX7_waive_36 : decode cX7_waive 36 = .ok (.ifCond .ne 35, 3) := by decide +kernel
theorem dX7_waive_39 : decode cX7_waive 39 = .ok (.aload_n 0, 1) := by decide +kernel
theorem dX7_waive_40 : decode cX7_waive 40 = .ok (.aload_n 0, 1) := by decide +kernel
theorem dX7_waive_41 : decode cX7_waive 41 = .ok (.getfield 68, 3) := by decide +kernel
theorem dX7_waive_44 : decode cX7_waive 44 = .ok (.aload_n 0, 1) := by decide +kernel
theorem dX7_waive_45 : decode cX7_waive 45 = .ok (.getfield 7, 3) := by decide +kernel
theorem dX7_waive_48 : decode cX7_waive 48 = .ok (.iload_n 1, 1) := by decide +kernel
theorem dX7_waive_49 : decode cX7_waive 49 = .ok (.iaload, 1) := by decide +kernel
theorem dX7_waive_50 : decode cX7_waive 50 = .ok (.iaload, 1) := by decide +kernel
theorem dX7_waive_51 : decode cX7_waive 51 = .ok (.ifCond .eq 12, 3) := by decide +kernel
theorem dX7_waive_54 : decode cX7_waive 54 = .ok (.aload_n 0, 1) := by decide +kernel
theorem dX7_waive_55 : decode cX7_waive 55 = .ok (.getfield 28, 3) := by decide +kernel
theorem dX7_waive_58 : decode cX7_waive 58 = .ok (.iload_n 1, 1) := by decide +kernel
theorem dX7_waive_59 : decode cX7_waive 59 = .ok (.iaload, 1) := by decide +kernel
theorem dX7_waive_60 : decode cX7_waive 60 = .ok (.ifCond .le 7, 3) := by decide +kernel
theorem dX7_waive_63 : decode cX7_waive 63 = .ok (.iconst 3, 1) := by decide +kernel
theorem dX7_waive_64 : decode cX7_waive 64 = .ok (.goto 4, 3) := by decide +kernel
theorem dX7_waive_67 : decode cX7_waive 67 = .ok (.iconst 0, 1) := by decide +kernel
theorem dX7_waive_68 : decode cX7_waive 68 = .ok (.putfield 98, 3) := by decide +kernel
theorem dX7_waive_71 : decode cX7_waive 71 = .ok (.aload_n 0, 1) := by decide +kernel
theorem dX7_waive_72 : decode cX7_waive 72 = .ok (.getfield 98, 3) := by decide +kernel
theorem dX7_waive_75 : decode cX7_waive 75 = .ok (.ifCond .ne 10, 3) := by decide +kernel
theorem dX7_waive_78 : decode cX7_waive 78 = .ok (.aload_n 0, 1) := by decide +kernel
theorem dX7_waive_79 : decode cX7_waive 79 = .ok (.getfield 28, 3) := by decide +kernel
theorem dX7_waive_82 : decode cX7_waive 82 = .ok (.iload_n 1, 1) := by decide +kernel
theorem dX7_waive_83 : decode cX7_waive 83 = .ok (.iload_n 2, 1) := by decide +kernel
theorem dX7_waive_84 : decode cX7_waive 84 = .ok (.iastore, 1) := by decide +kernel
theorem dX7_waive_85 : decode cX7_waive 85 = .ok (.return_, 1) := by decide +kernel
theorem dX7_flaw_0 : decode cX7_flaw 0 = .ok (.aload_n 0, 1) := by decide +kernel
theorem dX7_flaw_1 : decode cX7_flaw 1 = .ok (.aload_n 0, 1) := by decide +kernel
theorem dX7_flaw_2 : decode cX7_flaw 2 = .ok (.iload_n 1, 1) := by decide +kernel
theorem dX7_flaw_3 : decode cX7_flaw 3 = .ok (.invokevirtual 109, 3) := by decide +kernel
theorem dX7_flaw_6 : decode cX7_flaw 6 = .ok (.ifCond .ne 7, 3) := by decide +kernel
theorem dX7_flaw_9 : decode cX7_flaw 9 = .ok (.iconst 1, 1) := by decide +kernel
theorem dX7_flaw_10 : decode cX7_flaw 10 = .ok (.goto 28, 3) := by decide +kernel
theorem dX7_flaw_13 : decode cX7_flaw 13 = .ok (.aload_n 0, 1) := by decide +kernel
theorem dX7_flaw_14 : decode cX7_flaw 14 = .ok (.getfield 7, 3) := by decide +kernel
theorem dX7_flaw_17 : decode cX7_flaw 17 = .ok (.iload_n 1, 1) := by decide +kernel
theorem dX7_flaw_18 : decode cX7_flaw 18 = .ok (.iaload, 1) := by decide +kernel
theorem dX7_flaw_19 : decode cX7_flaw 19 = .ok (.iconst 3, 1) := by decide +kernel
theorem dX7_flaw_20 : decode cX7_flaw 20 = .ok (.if_icmp .lt 13, 3) := by decide +kernel
theorem dX7_flaw_23 : decode cX7_flaw 23 = .ok (.iload_n 2, 1) := by decide +kernel
theorem dX7_flaw_24 : decode cX7_flaw 24 = .ok (.iconst 1, 1) := by decide +kernel
theorem dX7_flaw_25 : decode cX7_flaw 25 = .ok (.bipush 99, 2) := by decide +kernel
theorem dX7_flaw_27 : decode cX7_flaw 27 = .ok (.invokestatic 105, 3) := by decide +kernel
theorem dX7_flaw_30 : decode cX7_flaw 30 = .ok (.ifCond .ne 7, 3) := by decide +kernel
theorem dX7_flaw_33 : decode cX7_flaw 33 = .ok (.iconst 2, 1) := by decide +kernel
theorem dX7_flaw_34 : decode cX7_flaw 34 = .ok (.goto 4, 3) := by decide +kernel
theorem dX7_flaw_37 : decode cX7_flaw 37 = .ok (.iconst 0, 1) := by decide +kernel
theorem dX7_flaw_38 : decode cX7_flaw 38 = .ok (.putfield 98, 3) := by decide +kernel
theorem dX7_flaw_41 : decode cX7_flaw 41 = .ok (.aload_n 0, 1) := by decide +kernel
theorem dX7_flaw_42 : decode cX7_flaw 42 = .ok (.getfield 98, 3) := by decide +kernel
theorem dX7_flaw_45 : decode cX7_flaw 45 = .ok (.ifCond .le 5, 3) := by decide +kernel
theorem dX7_flaw_48 : decode cX7_flaw 48 = .ok (.iconst 0, 1) := by decide +kernel
theorem dX7_flaw_49 : decode cX7_flaw 49 = .ok (.ireturn, 1) := by decide +kernel
theorem dX7_flaw_50 : decode cX7_flaw 50 = .ok (.aload_n 0, 1) := by decide +kernel
theorem dX7_flaw_51 : decode cX7_flaw 51 = .ok (.getfield 59, 3) := by decide +kernel
theorem dX7_flaw_54 : decode cX7_flaw 54 = .ok (.iload_n 1, 1) := by decide +kernel
theorem dX7_flaw_55 : decode cX7_flaw 55 = .ok (.iaload, 1) := by decide +kernel
theorem dX7_flaw_56 : decode cX7_flaw 56 = .ok (.istore_n 3, 1) := by decide +kernel
theorem dX7_flaw_57 : decode cX7_flaw 57 = .ok (.aload_n 0, 1) := by decide +kernel
theorem dX7_flaw_58 : decode cX7_flaw 58 = .ok (.getfield 59, 3) := by decide +kernel
theorem dX7_flaw_61 : decode cX7_flaw 61 = .ok (.iload_n 1, 1) := by decide +kernel
theorem dX7_flaw_62 : decode cX7_flaw 62 = .ok (.iload_n 2, 1) := by decide +kernel
theorem dX7_flaw_63 : decode cX7_flaw 63 = .ok (.iastore, 1) := by decide +kernel
theorem dX7_flaw_64 : decode cX7_flaw 64 = .ok (.aload_n 0, 1) := by decide +kernel
theorem dX7_flaw_65 : decode cX7_flaw 65 = .ok (.getfield 62, 3) := by decide +kernel
theorem dX7_flaw_68 : decode cX7_flaw 68 = .ok (.iload_n 1, 1) := by decide +kernel
theorem dX7_flaw_69 : decode cX7_flaw 69 = .ok (.aload_n 0, 1) := by decide +kernel
theorem dX7_flaw_70 : decode cX7_flaw 70 = .ok (.getfield 22, 3) := by decide +kernel
theorem dX7_flaw_73 : decode cX7_flaw 73 = .ok (.iload_n 1, 1) := by decide +kernel
theorem dX7_flaw_74 : decode cX7_flaw 74 = .ok (.iaload, 1) := by decide +kernel
theorem dX7_flaw_75 : decode cX7_flaw 75 = .ok (.iastore, 1) := by decide +kernel
theorem dX7_flaw_76 : decode cX7_flaw 76 = .ok (.iload_n 3, 1) := by decide +kernel
theorem dX7_flaw_77 : decode cX7_flaw 77 = .ok (.ireturn, 1) := by decide +kernel
theorem dX7_holds_0 : decode cX7_holds 0 = .ok (.aload_n 0, 1) := by decide +kernel
theorem dX7_holds_1 : decode cX7_holds 1 = .ok (.getfield 31, 3) := by decide +kernel
theorem dX7_holds_4 : decode cX7_holds 4 = .ok (.iload_n 1, 1) := by decide +kernel
theorem dX7_holds_5 : decode cX7_holds 5 = .ok (.iconst 1, 1) := by decide +kernel
theorem dX7_holds_6 : decode cX7_holds 6 = .ok (.bastore, 1) := by decide +kernel
theorem dX7_holds_7 : decode cX7_holds 7 = .ok (.aload_n 0, 1) := by decide +kernel
theorem dX7_holds_8 : decode cX7_holds 8 = .ok (.iload_n 1, 1) := by decide +kernel
theorem dX7_holds_9 : decode cX7_holds 9 = .ok (.invokevirtual 135, 3) := by decide +kernel
theorem dX7_holds_12 : decode cX7_holds 12 = .ok (.return_, 1) := by decide +kernel
theorem dX7_look_0 : decode cX7_look 0 = .ok (.aload_n 0, 1) := by decide +kernel
theorem dX7_look_1 : decode cX7_look 1 = .ok (.aload_n 0, 1) := by decide +kernel
theorem dX7_look_2 : decode cX7_look 2 = .ok (.iload_n 1, 1) := by decide +kernel
theorem dX7_look_3 : decode cX7_look 3 = .ok (.invokevirtual 109, 3) := by decide +kernel
theorem dX7_look_6 : decode cX7_look 6 = .ok (.ifCond .ne 7, 3) := by decide +kernel
theorem dX7_look_9 : decode cX7_look 9 = .ok (.iconst 1, 1) := by decide +kernel
theorem dX7_look_10 : decode cX7_look 10 = .ok (.goto 41, 3) := by decide +kernel
theorem dX7_look_13 : decode cX7_look 13 = .ok (.aload_n 0, 1) := by decide +kernel
theorem dX7_look_14 : decode cX7_look 14 = .ok (.getfield 19, 3) := by decide +kernel
theorem dX7_look_17 : decode cX7_look 17 = .ok (.iload_n 1, 1) := by decide +kernel
theorem dX7_look_18 : decode cX7_look 18 = .ok (.iaload, 1) := by decide +kernel
theorem dX7_look_19 : decode cX7_look 19 = .ok (.bipush (-2), 2) := by decide +kernel
theorem dX7_look_21 : decode cX7_look 21 = .ok (.if_icmp .eq 25, 3) := by decide +kernel
theorem dX7_look_24 : decode cX7_look 24 = .ok (.aload_n 0, 1) := by decide +kernel
theorem dX7_look_25 : decode cX7_look 25 = .ok (.iload_n 1, 1) := by decide +kernel
theorem dX7_look_26 : decode cX7_look 26 = .ok (.invokevirtual 125, 3) := by decide +kernel
theorem dX7_look_29 : decode cX7_look 29 = .ok (.ifCond .ne 17, 3) := by decide +kernel
theorem dX7_look_32 : decode cX7_look 32 = .ok (.iload_n 2, 1) := by decide +kernel
theorem dX7_look_33 : decode cX7_look 33 = .ok (.ifCond .eq 17, 3) := by decide +kernel
theorem dX7_look_36 : decode cX7_look 36 = .ok (.aload_n 0, 1) := by decide +kernel
theorem dX7_look_37 : decode cX7_look 37 = .ok (.getfield 19, 3) := by decide +kernel
theorem dX7_look_40 : decode cX7_look 40 = .ok (.iload_n 1, 1) := by decide +kernel
theorem dX7_look_41 : decode cX7_look 41 = .ok (.iaload, 1) := by decide +kernel
theorem dX7_look_42 : decode cX7_look 42 = .ok (.iconst (-1), 1) := by decide +kernel
theorem dX7_look_43 : decode cX7_look 43 = .ok (.if_icmp .eq 7, 3) := by decide +kernel
theorem dX7_look_46 : decode cX7_look 46 = .ok (.iconst 2, 1) := by decide +kernel
theorem dX7_look_47 : decode cX7_look 47 = .ok (.goto 4, 3) := by decide +kernel
theorem dX7_look_50 : decode cX7_look 50 = .ok (.iconst 0, 1) := by decide +kernel
theorem dX7_look_51 : decode cX7_look 51 = .ok (.putfield 98, 3) := by decide +kernel
theorem dX7_look_54 : decode cX7_look 54 = .ok (.aload_n 0, 1) := by decide +kernel
theorem dX7_look_55 : decode cX7_look 55 = .ok (.getfield 98, 3) := by decide +kernel
theorem dX7_look_58 : decode cX7_look 58 = .ok (.ifCond .le 5, 3) := by decide +kernel
theorem dX7_look_61 : decode cX7_look 61 = .ok (.iconst 0, 1) := by decide +kernel
theorem dX7_look_62 : decode cX7_look 62 = .ok (.ireturn, 1) := by decide +kernel
theorem dX7_look_63 : decode cX7_look 63 = .ok (.aload_n 0, 1) := by decide +kernel
theorem dX7_look_64 : decode cX7_look 64 = .ok (.getfield 59, 3) := by decide +kernel
theorem dX7_look_67 : decode cX7_look 67 = .ok (.iload_n 1, 1) := by decide +kernel
theorem dX7_look_68 : decode cX7_look 68 = .ok (.iaload, 1) := by decide +kernel
theorem dX7_look_69 : decode cX7_look 69 = .ok (.iload_n 2, 1) := by decide +kernel
theorem dX7_look_70 : decode cX7_look 70 = .ok (.ifCond .eq 7, 3) := by decide +kernel
theorem dX7_look_73 : decode cX7_look 73 = .ok (.iconst 3, 1) := by decide +kernel
theorem dX7_look_74 : decode cX7_look 74 = .ok (.goto 5, 3) := by decide +kernel
theorem dX7_look_77 : decode cX7_look 77 = .ok (.bipush 10, 2) := by decide +kernel
theorem dX7_look_79 : decode cX7_look 79 = .ok (.if_icmp .lt 15, 3) := by decide +kernel
theorem dX7_look_82 : decode cX7_look 82 = .ok (.aload_n 0, 1) := by decide +kernel
theorem dX7_look_83 : decode cX7_look 83 = .ok (.iload_n 1, 1) := by decide +kernel
theorem dX7_look_84 : decode cX7_look 84 = .ok (.invokevirtual 166, 3) := by decide +kernel
theorem dX7_look_87 : decode cX7_look 87 = .ok (.aload_n 0, 1) := by decide +kernel
theorem dX7_look_88 : decode cX7_look 88 = .ok (.getfield 59, 3) := by decide +kernel
theorem dX7_look_91 : decode cX7_look 91 = .ok (.iload_n 1, 1) := by decide +kernel
theorem dX7_look_92 : decode cX7_look 92 = .ok (.iaload, 1) := by decide +kernel
theorem dX7_look_93 : decode cX7_look 93 = .ok (.ireturn, 1) := by decide +kernel
theorem dX7_look_94 : decode cX7_look 94 = .ok (.aload_n 0, 1) := by decide +kernel
theorem dX7_look_95 : decode cX7_look 95 = .ok (.getfield 35, 3) := by decide +kernel
theorem dX7_look_98 : decode cX7_look 98 = .ok (.iload_n 1, 1) := by decide +kernel
theorem dX7_look_99 : decode cX7_look 99 = .ok (.aload_n 0, 1) := by decide +kernel
theorem dX7_look_100 : decode cX7_look 100 = .ok (.getfield 35, 3) := by decide +kernel
theorem dX7_look_103 : decode cX7_look 103 = .ok (.iload_n 1, 1) := by decide +kernel
theorem dX7_look_104 : decode cX7_look 104 = .ok (.baload, 1) := by decide +kernel
theorem dX7_look_105 : decode cX7_look 105 = .ok (.ifCond .eq 11, 3) := by decide +kernel
theorem dX7_look_108 : decode cX7_look 108 = .ok (.iload_n 2, 1) := by decide +kernel
theorem dX7_look_109 : decode cX7_look 109 = .ok (.ifCond .ne 7, 3) := by decide +kernel
theorem dX7_look_112 : decode cX7_look 112 = .ok (.iconst 1, 1) := by decide +kernel
theorem dX7_look_113 : decode cX7_look 113 = .ok (.goto 4, 3) := by decide +kernel
theorem dX7_look_116 : decode cX7_look 116 = .ok (.iconst 0, 1) := by decide +kernel
theorem dX7_look_117 : decode cX7_look 117 = .ok (.bastore, 1) := by decide +kernel
theorem dX7_look_118 : decode cX7_look 118 = .ok (.iconst 0, 1) := by decide +kernel
theorem dX7_look_119 : decode cX7_look 119 = .ok (.ireturn, 1) := by decide +kernel
theorem dX7_clear_0 : decode cX7_clear 0 = .ok (.aload_n 0, 1) := by decide +kernel
theorem dX7_clear_1 : decode cX7_clear 1 = .ok (.aload_n 0, 1) := by decide +kernel
theorem dX7_clear_2 : decode cX7_clear 2 = .ok (.iload_n 1, 1) := by decide +kernel
theorem dX7_clear_3 : decode cX7_clear 3 = .ok (.invokevirtual 109, 3) := by decide +kernel
theorem dX7_clear_6 : decode cX7_clear 6 = .ok (.ifCond .ne 7, 3) := by decide +kernel
theorem dX7_clear_9 : decode cX7_clear 9 = .ok (.iconst 1, 1) := by decide +kernel
theorem dX7_clear_10 : decode cX7_clear 10 = .ok (.goto 25, 3) := by decide +kernel
theorem dX7_clear_13 : decode cX7_clear 13 = .ok (.aload_n 0, 1) := by decide +kernel
theorem dX7_clear_14 : decode cX7_clear 14 = .ok (.getfield 31, 3) := by decide +kernel
theorem dX7_clear_17 : decode cX7_clear 17 = .ok (.iload_n 1, 1) := by decide +kernel
theorem dX7_clear_18 : decode cX7_clear 18 = .ok (.baload, 1) := by decide +kernel
theorem dX7_clear_19 : decode cX7_clear 19 = .ok (.ifCond .eq 11, 3) := by decide +kernel
theorem dX7_clear_22 : decode cX7_clear 22 = .ok (.aload_n 0, 1) := by decide +kernel
theorem dX7_clear_23 : decode cX7_clear 23 = .ok (.iload_n 1, 1) := by decide +kernel
theorem dX7_clear_24 : decode cX7_clear 24 = .ok (.invokevirtual 125, 3) := by decide +kernel
theorem dX7_clear_27 : decode cX7_clear 27 = .ok (.ifCond .eq 7, 3) := by decide +kernel
theorem dX7_clear_30 : decode cX7_clear 30 = .ok (.iconst 2, 1) := by decide +kernel
theorem dX7_clear_31 : decode cX7_clear 31 = .ok (.goto 4, 3) := by decide +kernel
theorem dX7_clear_34 : decode cX7_clear 34 = .ok (.iconst 0, 1) := by decide +kernel
theorem dX7_clear_35 : decode cX7_clear 35 = .ok (.putfield 98, 3) := by decide +kernel
theorem dX7_clear_38 : decode cX7_clear 38 = .ok (.aload_n 0, 1) := by decide +kernel
theorem dX7_clear_39 : decode cX7_clear 39 = .ok (.getfield 98, 3) := by decide +kernel
theorem dX7_clear_42 : decode cX7_clear 42 = .ok (.ifCond .le 5, 3) := by decide +kernel
theorem dX7_clear_45 : decode cX7_clear 45 = .ok (.iconst 0, 1) := by decide +kernel
theorem dX7_clear_46 : decode cX7_clear 46 = .ok (.ireturn, 1) := by decide +kernel
theorem dX7_clear_47 : decode cX7_clear 47 = .ok (.aload_n 0, 1) := by decide +kernel
theorem dX7_clear_48 : decode cX7_clear 48 = .ok (.getfield 59, 3) := by decide +kernel
theorem dX7_clear_51 : decode cX7_clear 51 = .ok (.iload_n 1, 1) := by decide +kernel
theorem dX7_clear_52 : decode cX7_clear 52 = .ok (.iaload, 1) := by decide +kernel
theorem dX7_clear_53 : decode cX7_clear 53 = .ok (.istore_n 2, 1) := by decide +kernel
theorem dX7_clear_54 : decode cX7_clear 54 = .ok (.aload_n 0, 1) := by decide +kernel
theorem dX7_clear_55 : decode cX7_clear 55 = .ok (.getfield 31, 3) := by decide +kernel
theorem dX7_clear_58 : decode cX7_clear 58 = .ok (.iload_n 1, 1) := by decide +kernel
theorem dX7_clear_59 : decode cX7_clear 59 = .ok (.iconst 0, 1) := by decide +kernel
theorem dX7_clear_60 : decode cX7_clear 60 = .ok (.bastore, 1) := by decide +kernel
theorem dX7_clear_61 : decode cX7_clear 61 = .ok (.aload_n 0, 1) := by decide +kernel
theorem dX7_clear_62 : decode cX7_clear 62 = .ok (.getfield 59, 3) := by decide +kernel
theorem dX7_clear_65 : decode cX7_clear 65 = .ok (.iload_n 1, 1) := by decide +kernel
theorem dX7_clear_66 : decode cX7_clear 66 = .ok (.iconst 0, 1) := by decide +kernel
theorem dX7_clear_67 : decode cX7_clear 67 = .ok (.iastore, 1) := by decide +kernel
theorem dX7_clear_68 : decode cX7_clear 68 = .ok (.iload_n 2, 1) := by decide +kernel
theorem dX7_clear_69 : decode cX7_clear 69 = .ok (.ireturn, 1) := by decide +kernel
theorem dX7_recall_0 : decode cX7_recall 0 = .ok (.aload_n 0, 1) := by decide +kernel
theorem dX7_recall_1 : decode cX7_recall 1 = .ok (.iload_n 1, 1) := by decide +kernel
theorem dX7_recall_2 : decode cX7_recall 2 = .ok (.iconst 0, 1) := by decide +kernel
theorem dX7_recall_3 : decode cX7_recall 3 = .ok (.bipush 9, 2) := by decide +kernel
theorem dX7_recall_5 : decode cX7_recall 5 = .ok (.invokestatic 105, 3) := by decide +kernel
theorem dX7_recall_8 : decode cX7_recall 8 = .ok (.ifCond .eq 7, 3) := by decide +kernel
theorem dX7_recall_11 : decode cX7_recall 11 = .ok (.iconst 0, 1) := by decide +kernel
theorem dX7_recall_12 : decode cX7_recall 12 = .ok (.goto 4, 3) := by decide +kernel
theorem dX7_recall_15 : decode cX7_recall 15 = .ok (.iconst 1, 1) := by decide +kernel
theorem dX7_recall_16 : decode cX7_recall 16 = .ok (.putfield 98, 3) := by decide +kernel
theorem dX7_recall_19 : decode cX7_recall 19 = .ok (.iconst 0, 1) := by decide +kernel
theorem dX7_recall_20 : decode cX7_recall 20 = .ok (.istore_n 2, 1) := by decide +kernel
theorem dX7_recall_21 : decode cX7_recall 21 = .ok (.iconst 0, 1) := by decide +kernel
theorem dX7_recall_22 : decode cX7_recall 22 = .ok (.istore_n 3, 1) := by decide +kernel
theorem dX7_recall_23 : decode cX7_recall 23 = .ok (.iload_n 3, 1) := by decide +kernel
theorem dX7_recall_24 : decode cX7_recall 24 = .ok (.aload_n 0, 1) := by decide +kernel
theorem dX7_recall_25 : decode cX7_recall 25 = .ok (.getfield 102, 3) := by decide +kernel
theorem dX7_recall_28 : decode cX7_recall 28 = .ok (.if_icmp .ge 61, 3) := by decide +kernel
theorem dX7_recall_31 : decode cX7_recall 31 = .ok (.aload_n 0, 1) := by decide +kernel
theorem dX7_recall_32 : decode cX7_recall 32 = .ok (.getfield 98, 3) := by decide +kernel
theorem dX7_recall_35 : decode cX7_recall 35 = .ok (.ifCond .ne 54, 3) := by decide +kernel
theorem dX7_recall_38 : decode cX7_recall 38 = .ok (.aload_n 0, 1) := by decide +kernel
theorem dX7_recall_39 : decode cX7_recall 39 = .ok (.getfield 13, 3) := by decide +kernel
theorem dX7_recall_42 : decode cX7_recall 42 = .ok (.iload_n 3, 1) := by decide +kernel
theorem dX7_recall_43 : decode cX7_recall 43 = .ok (.iaload, 1) := by decide +kernel
theorem dX7_recall_44 : decode cX7_recall 44 = .ok (.iload_n 1, 1) := by decide +kernel
theorem dX7_recall_45 : decode cX7_recall 45 = .ok (.if_icmp .ne 38, 3) := by decide +kernel
theorem dX7_recall_48 : decode cX7_recall 48 = .ok (.aload_n 0, 1) := by decide +kernel
theorem dX7_recall_49 : decode cX7_recall 49 = .ok (.getfield 19, 3) := by decide +kernel
theorem dX7_recall_52 : decode cX7_recall 52 = .ok (.iload_n 3, 1) := by decide +kernel
theorem dX7_recall_53 : decode cX7_recall 53 = .ok (.iaload, 1) := by decide +kernel
theorem dX7_recall_54 : decode cX7_recall 54 = .ok (.bipush (-2), 2) := by decide +kernel
theorem dX7_recall_56 : decode cX7_recall 56 = .ok (.if_icmp .eq 27, 3) := by decide +kernel
theorem dX7_recall_59 : decode cX7_recall 59 = .ok (.aload_n 0, 1) := by decide +kernel
theorem dX7_recall_60 : decode cX7_recall 60 = .ok (.getfield 35, 3) := by decide +kernel
theorem dX7_recall_63 : decode cX7_recall 63 = .ok (.iload_n 3, 1) := by decide +kernel
theorem dX7_recall_64 : decode cX7_recall 64 = .ok (.baload, 1) := by decide +kernel
theorem dX7_recall_65 : decode cX7_recall 65 = .ok (.ifCond .ne 18, 3) := by decide +kernel
theorem dX7_recall_68 : decode cX7_recall 68 = .ok (.aload_n 0, 1) := by decide +kernel
theorem dX7_recall_69 : decode cX7_recall 69 = .ok (.getfield 35, 3) := by decide +kernel
theorem dX7_recall_72 : decode cX7_recall 72 = .ok (.iload_n 3, 1) := by decide +kernel
theorem dX7_recall_73 : decode cX7_recall 73 = .ok (.iconst 1, 1) := by decide +kernel
theorem dX7_recall_74 : decode cX7_recall 74 = .ok (.bastore, 1) := by decide +kernel
theorem dX7_recall_75 : decode cX7_recall 75 = .ok (.aload_n 0, 1) := by decide +kernel
theorem dX7_recall_76 : decode cX7_recall 76 = .ok (.iload_n 3, 1) := by decide +kernel
theorem dX7_recall_77 : decode cX7_recall 77 = .ok (.invokevirtual 135, 3) := by decide +kernel
theorem dX7_recall_80 : decode cX7_recall 80 = .ok (.iinc 2 1, 3) := by decide +kernel
theorem dX7_recall_83 : decode cX7_recall 83 = .ok (.iinc 3 1, 3) := by decide +kernel
theorem dX7_recall_86 : decode cX7_recall 86 = .ok (.goto (-63), 3) := by decide +kernel
theorem dX7_recall_89 : decode cX7_recall 89 = .ok (.iload_n 2, 1) := by decide +kernel
theorem dX7_recall_90 : decode cX7_recall 90 = .ok (.ireturn, 1) := by decide +kernel
theorem dX7_hasEmpty_0 : decode cX7_hasEmpty 0 = .ok (.aload_n 0, 1) := by decide +kernel
theorem dX7_hasEmpty_1 : decode cX7_hasEmpty 1 = .ok (.getfield 7, 3) := by decide +kernel
theorem dX7_hasEmpty_4 : decode cX7_hasEmpty 4 = .ok (.iload_n 1, 1) := by decide +kernel
theorem dX7_hasEmpty_5 : decode cX7_hasEmpty 5 = .ok (.iaload, 1) := by decide +kernel
theorem dX7_hasEmpty_6 : decode cX7_hasEmpty 6 = .ok (.iconst 2, 1) := by decide +kernel
theorem dX7_hasEmpty_7 : decode cX7_hasEmpty 7 = .ok (.if_icmp .ne 19, 3) := by decide +kernel
theorem dX7_hasEmpty_10 : decode cX7_hasEmpty 10 = .ok (.aload_n 0, 1) := by decide +kernel
theorem dX7_hasEmpty_11 : decode cX7_hasEmpty 11 = .ok (.iload_n 1, 1) := by decide +kernel
theorem dX7_hasEmpty_12 : decode cX7_hasEmpty 12 = .ok (.iconst (-1), 1) := by decide +kernel
theorem dX7_hasEmpty_13 : decode cX7_hasEmpty 13 = .ok (.invokevirtual 128, 3) := by decide +kernel
theorem dX7_hasEmpty_16 : decode cX7_hasEmpty 16 = .ok (.iconst 3, 1) := by decide +kernel
theorem dX7_hasEmpty_17 : decode cX7_hasEmpty 17 = .ok (.if_icmp .ge 7, 3) := by decide +kernel
theorem dX7_hasEmpty_20 : decode cX7_hasEmpty 20 = .ok (.iconst 1, 1) := by decide +kernel
theorem dX7_hasEmpty_21 : decode cX7_hasEmpty 21 = .ok (.goto 4, 3) := by decide +kernel
theorem dX7_hasEmpty_24 : decode cX7_hasEmpty 24 = .ok (.iconst 0, 1) := by decide +kernel
theorem dX7_hasEmpty_25 : decode cX7_hasEmpty 25 = .ok (.ireturn, 1) := by decide +kernel
theorem dX7_hasEmpty_26 : decode cX7_hasEmpty 26 = .ok (.aload_n 0, 1) := by decide +kernel
theorem dX7_hasEmpty_27 : decode cX7_hasEmpty 27 = .ok (.getfield 7, 3) := by decide +kernel
theorem dX7_hasEmpty_30 : decode cX7_hasEmpty 30 = .ok (.iload_n 1, 1) := by decide +kernel
theorem dX7_hasEmpty_31 : decode cX7_hasEmpty 31 = .ok (.iaload, 1) := by decide +kernel
theorem dX7_hasEmpty_32 : decode cX7_hasEmpty 32 = .ok (.iconst 2, 1) := by decide +kernel
theorem dX7_hasEmpty_33 : decode cX7_hasEmpty 33 = .ok (.if_icmp .ge 17, 3) := by decide +kernel
theorem dX7_hasEmpty_36 : decode cX7_hasEmpty 36 = .ok (.aload_n 0, 1) := by decide +kernel
theorem dX7_hasEmpty_37 : decode cX7_hasEmpty 37 = .ok (.iload_n 1, 1) := by decide +kernel
theorem dX7_hasEmpty_38 : decode cX7_hasEmpty 38 = .ok (.iconst (-1), 1) := by decide +kernel
theorem dX7_hasEmpty_39 : decode cX7_hasEmpty 39 = .ok (.invokevirtual 128, 3) := by decide +kernel
theorem dX7_hasEmpty_42 : decode cX7_hasEmpty 42 = .ok (.iconst 2, 1) := by decide +kernel
theorem dX7_hasEmpty_43 : decode cX7_hasEmpty 43 = .ok (.if_icmp .ge 7, 3) := by decide +kernel
theorem dX7_hasEmpty_46 : decode cX7_hasEmpty 46 = .ok (.iconst 1, 1) := by decide +kernel
theorem dX7_hasEmpty_47 : decode cX7_hasEmpty 47 = .ok (.goto 4, 3) := by decide +kernel
theorem dX7_hasEmpty_50 : decode cX7_hasEmpty 50 = .ok (.iconst 0, 1) := by decide +kernel
theorem dX7_hasEmpty_51 : decode cX7_hasEmpty 51 = .ok (.ireturn, 1) := by decide +kernel
theorem dX7_isWorn_0 : decode cX7_isWorn 0 = .ok (.aload_n 0, 1) := by decide +kernel
theorem dX7_isWorn_1 : decode cX7_isWorn 1 = .ok (.getfield 7, 3) := by decide +kernel
theorem dX7_isWorn_4 : decode cX7_isWorn 4 = .ok (.iload_n 1, 1) := by decide +kernel
theorem dX7_isWorn_5 : decode cX7_isWorn 5 = .ok (.iaload, 1) := by decide +kernel
theorem dX7_isWorn_6 : decode cX7_isWorn 6 = .ok (.iconst 3, 1) := by decide +kernel
theorem dX7_isWorn_7 : decode cX7_isWorn 7 = .ok (.if_icmp .ne 31, 3) := by decide +kernel
theorem dX7_isWorn_10 : decode cX7_isWorn 10 = .ok (.aload_n 0, 1) := by decide +kernel
theorem dX7_isWorn_11 : decode cX7_isWorn 11 = .ok (.getfield 44, 3) := by decide +kernel
theorem dX7_isWorn_14 : decode cX7_isWorn 14 = .ok (.iload_n 1, 1) := by decide +kernel
theorem dX7_isWorn_15 : decode cX7_isWorn 15 = .ok (.iaload, 1) := by decide +kernel
theorem dX7_isWorn_16 : decode cX7_isWorn 16 = .ok (.sipush 8500, 3) := by decide +kernel
theorem dX7_isWorn_19 : decode cX7_isWorn 19 = .ok (.if_icmp .lt 15, 3) := by decide +kernel
theorem dX7_isWorn_22 : decode cX7_isWorn 22 = .ok (.aload_n 0, 1) := by decide +kernel
theorem dX7_isWorn_23 : decode cX7_isWorn 23 = .ok (.getfield 47, 3) := by decide +kernel
theorem dX7_isWorn_26 : decode cX7_isWorn 26 = .ok (.iload_n 1, 1) := by decide +kernel
theorem dX7_isWorn_27 : decode cX7_isWorn 27 = .ok (.iaload, 1) := by decide +kernel
theorem dX7_isWorn_28 : decode cX7_isWorn 28 = .ok (.sipush 250, 3) := by decide +kernel
theorem dX7_isWorn_31 : decode cX7_isWorn 31 = .ok (.if_icmp .ge 7, 3) := by decide +kernel
theorem dX7_isWorn_34 : decode cX7_isWorn 34 = .ok (.iconst 1, 1) := by decide +kernel
theorem dX7_isWorn_35 : decode cX7_isWorn 35 = .ok (.goto 4, 3) := by decide +kernel
theorem dX7_isWorn_38 : decode cX7_isWorn 38 = .ok (.iconst 0, 1) := by decide +kernel
theorem dX7_isWorn_39 : decode cX7_isWorn 39 = .ok (.ireturn, 1) := by decide +kernel
theorem dX7_apartIn_0 : decode cX7_apartIn 0 = .ok (.ldc 169, 2) := by decide +kernel
theorem dX7_apartIn_2 : decode cX7_apartIn 2 = .ok (.istore_n 2, 1) := by decide +kernel
theorem dX7_apartIn_3 : decode cX7_apartIn 3 = .ok (.ldc 170, 2) := by decide +kernel
theorem dX7_apartIn_5 : decode cX7_apartIn 5 = .ok (.istore_n 3, 1) := by decide +kernel
theorem dX7_apartIn_6 : decode cX7_apartIn 6 = .ok (.iconst 0, 1) := by decide +kernel
theorem dX7_apartIn_7 : decode cX7_apartIn 7 = .ok (.istore 4, 2) := by decide +kernel
theorem dX7_apartIn_9 : decode cX7_apartIn 9 = .ok (.iload 4, 2) := by decide +kernel
theorem dX7_apartIn_11 : decode cX7_apartIn 11 = .ok (.aload_n 0, 1) := by decide +kernel
theorem dX7_apartIn_12 : decode cX7_apartIn 12 = .ok (.getfield 102, 3) := by decide +kernel
theorem dX7_apartIn_15 : decode cX7_apartIn 15 = .ok (.if_icmp .ge 120, 3) := by decide +kernel
theorem dX7_apartIn_18 : decode cX7_apartIn 18 = .ok (.aload_n 0, 1) := by decide +kernel
theorem dX7_apartIn_19 : decode cX7_apartIn 19 = .ok (.getfield 7, 3) := by decide +kernel
theorem dX7_apartIn_22 : decode cX7_apartIn 22 = .ok (.iload 4, 2) := by decide +kernel
theorem dX7_apartIn_24 : decode cX7_apartIn 24 = .ok (.iaload, 1) := by decide +kernel
theorem dX7_apartIn_25 : decode cX7_apartIn 25 = .ok (.iconst 3, 1) := by decide +kernel
theorem dX7_apartIn_26 : decode cX7_apartIn 26 = .ok (.if_icmp .ne 44, 3) := by decide +kernel
theorem dX7_apartIn_29 : decode cX7_apartIn 29 = .ok (.aload_n 0, 1) := by decide +kernel
theorem dX7_apartIn_30 : decode cX7_apartIn 30 = .ok (.getfield 19, 3) := by decide +kernel
theorem dX7_apartIn_33 : decode cX7_apartIn 33 = .ok (.iload 4, 2) := by decide +kernel
theorem dX7_apartIn_35 : decode cX7_apartIn 35 = .ok (.iaload, 1) := by decide +kernel
theorem dX7_apartIn_36 : decode cX7_apartIn 36 = .ok (.ifCond .lt 34, 3) := by decide +kernel
theorem dX7_apartIn_39 : decode cX7_apartIn 39 = .ok (.aload_n 0, 1) := by decide +kernel
theorem dX7_apartIn_40 : decode cX7_apartIn 40 = .ok (.getfield 19, 3) := by decide +kernel
theorem dX7_apartIn_43 : decode cX7_apartIn 43 = .ok (.iload 4, 2) := by decide +kernel
theorem dX7_apartIn_45 : decode cX7_apartIn 45 = .ok (.iaload, 1) := by decide +kernel
theorem dX7_apartIn_46 : decode cX7_apartIn 46 = .ok (.iload_n 1, 1) := by decide +kernel
theorem dX7_apartIn_47 : decode cX7_apartIn 47 = .ok (.if_icmp .eq 19, 3) := by decide +kernel
theorem dX7_apartIn_50 : decode cX7_apartIn 50 = .ok (.aload_n 0, 1) := by decide +kernel
theorem dX7_apartIn_51 : decode cX7_apartIn 51 = .ok (.getfield 19, 3) := by decide +kernel
theorem dX7_apartIn_54 : decode cX7_apartIn 54 = .ok (.aload_n 0, 1) := by decide +kernel
theorem dX7_apartIn_55 : decode cX7_apartIn 55 = .ok (.getfield 19, 3) := by decide +kernel
theorem dX7_apartIn_58 : decode cX7_apartIn 58 = .ok (.iload 4, 2) := by decide +kernel
theorem dX7_apartIn_60 : decode cX7_apartIn 60 = .ok (.iaload, 1) := by decide +kernel
theorem dX7_apartIn_61 : decode cX7_apartIn 61 = .ok (.iaload, 1) := by decide +kernel
theorem dX7_apartIn_62 : decode cX7_apartIn 62 = .ok (.iload_n 1, 1) := by decide +kernel
theorem dX7_apartIn_63 : decode cX7_apartIn 63 = .ok (.if_icmp .ne 7, 3) := by decide +kernel
theorem dX7_apartIn_66 : decode cX7_apartIn 66 = .ok (.iconst 1, 1) := by decide +kernel
theorem dX7_apartIn_67 : decode cX7_apartIn 67 = .ok (.goto 4, 3) := by decide +kernel
theorem dX7_apartIn_70 : decode cX7_apartIn 70 = .ok (.iconst 0, 1) := by decide +kernel
theorem dX7_apartIn_71 : decode cX7_apartIn 71 = .ok (.istore 5, 2) := by decide +kernel
theorem dX7_apartIn_73 : decode cX7_apartIn 73 = .ok (.iload 5, 2) := by decide +kernel
theorem dX7_apartIn_75 : decode cX7_apartIn 75 = .ok (.ifCond .eq 24, 3) := by decide +kernel
theorem dX7_apartIn_78 : decode cX7_apartIn 78 = .ok (.aload_n 0, 1) := by decide +kernel
theorem dX7_apartIn_79 : decode cX7_apartIn 79 = .ok (.getfield 44, 3) := by decide +kernel
theorem dX7_apartIn_82 : decode cX7_apartIn 82 = .ok (.iload 4, 2) := by decide +kernel
theorem dX7_apartIn_84 : decode cX7_apartIn 84 = .ok (.iaload, 1) := by decide +kernel
theorem dX7_apartIn_85 : decode cX7_apartIn 85 = .ok (.iload_n 2, 1) := by decide +kernel
theorem dX7_apartIn_86 : decode cX7_apartIn 86 = .ok (.if_icmp .ge 13, 3) := by decide +kernel
theorem dX7_apartIn_89 : decode cX7_apartIn 89 = .ok (.aload_n 0, 1) := by decide +kernel
theorem dX7_apartIn_90 : decode cX7_apartIn 90 = .ok (.getfield 44, 3) := by decide +kernel
theorem dX7_apartIn_93 : decode cX7_apartIn 93 = .ok (.iload 4, 2) := by decide +kernel
theorem dX7_apartIn_95 : decode cX7_apartIn 95 = .ok (.iaload, 1) := by decide +kernel
theorem dX7_apartIn_96 : decode cX7_apartIn 96 = .ok (.goto 4, 3) := by decide +kernel
theorem dX7_apartIn_99 : decode cX7_apartIn 99 = .ok (.iload_n 2, 1) := by decide +kernel
theorem dX7_apartIn_100 : decode cX7_apartIn 100 = .ok (.istore_n 2, 1) := by decide +kernel
theorem dX7_apartIn_101 : decode cX7_apartIn 101 = .ok (.iload 5, 2) := by decide +kernel
theorem dX7_apartIn_103 : decode cX7_apartIn 103 = .ok (.ifCond .eq 24, 3) := by decide +kernel
theorem dX7_apartIn_106 : decode cX7_apartIn 106 = .ok (.aload_n 0, 1) := by decide +kernel
theorem dX7_apartIn_107 : decode cX7_apartIn 107 = .ok (.getfield 44, 3) := by decide +kernel
theorem dX7_apartIn_110 : decode cX7_apartIn 110 = .ok (.iload 4, 2) := by decide +kernel
theorem dX7_apartIn_112 : decode cX7_apartIn 112 = .ok (.iaload, 1) := by decide +kernel
theorem dX7_apartIn_113 : decode cX7_apartIn 113 = .ok (.iload_n 3, 1) := by decide +kernel
theorem dX7_apartIn_114 : decode cX7_apartIn 114 = .ok (.if_icmp .le 13, 3) := by decide +kernel
theorem dX7_apartIn_117 : decode cX7_apartIn 117 = .ok (.aload_n 0, 1) := by decide +kernel
theorem dX7_apartIn_118 : decode cX7_apartIn 118 = .ok (.getfield 44, 3) := by decide +kernel
theorem dX7_apartIn_121 : decode cX7_apartIn 121 = .ok (.iload 4, 2) := by decide +kernel
theorem dX7_apartIn_123 : decode cX7_apartIn 123 = .ok (.iaload, 1) := by decide +kernel
theorem dX7_apartIn_124 : decode cX7_apartIn 124 = .ok (.goto 4, 3) := by decide +kernel
theorem dX7_apartIn_127 : decode cX7_apartIn 127 = .ok (.iload_n 3, 1) := by decide +kernel
theorem dX7_apartIn_128 : decode cX7_apartIn 128 = .ok (.istore_n 3, 1) := by decide +kernel
theorem dX7_apartIn_129 : decode cX7_apartIn 129 = .ok (.iinc 4 1, 3) := by decide +kernel
theorem dX7_apartIn_132 : decode cX7_apartIn 132 = .ok (.goto (-123), 3) := by decide +kernel
theorem dX7_apartIn_135 : decode cX7_apartIn 135 = .ok (.iload_n 3, 1) := by decide +kernel
theorem dX7_apartIn_136 : decode cX7_apartIn 136 = .ok (.iload_n 2, 1) := by decide +kernel
theorem dX7_apartIn_137 : decode cX7_apartIn 137 = .ok (.isub, 1) := by decide +kernel
theorem dX7_apartIn_138 : decode cX7_apartIn 138 = .ok (.ireturn, 1) := by decide +kernel
theorem dX7_isDue_0 : decode cX7_isDue 0 = .ok (.aload_n 0, 1) := by decide +kernel
theorem dX7_isDue_1 : decode cX7_isDue 1 = .ok (.getfield 68, 3) := by decide +kernel
theorem dX7_isDue_4 : decode cX7_isDue 4 = .ok (.aload_n 0, 1) := by decide +kernel
theorem dX7_isDue_5 : decode cX7_isDue 5 = .ok (.getfield 7, 3) := by decide +kernel
theorem dX7_isDue_8 : decode cX7_isDue 8 = .ok (.iload_n 1, 1) := by decide +kernel
theorem dX7_isDue_9 : decode cX7_isDue 9 = .ok (.iaload, 1) := by decide +kernel
theorem dX7_isDue_10 : decode cX7_isDue 10 = .ok (.iaload, 1) := by decide +kernel
theorem dX7_isDue_11 : decode cX7_isDue 11 = .ok (.istore_n 2, 1) := by decide +kernel
theorem dX7_isDue_12 : decode cX7_isDue 12 = .ok (.iload_n 2, 1) := by decide +kernel
theorem dX7_isDue_13 : decode cX7_isDue 13 = .ok (.ifCond .le 24, 3) := by decide +kernel
theorem dX7_isDue_16 : decode cX7_isDue 16 = .ok (.aload_n 0, 1) := by decide +kernel
theorem dX7_isDue_17 : decode cX7_isDue 17 = .ok (.getfield 25, 3) := by decide +kernel
theorem dX7_isDue_20 : decode cX7_isDue 20 = .ok (.iload_n 1, 1) := by decide +kernel
theorem dX7_isDue_21 : decode cX7_isDue 21 = .ok (.iaload, 1) := by decide +kernel
theorem dX7_isDue_22 : decode cX7_isDue 22 = .ok (.iload_n 2, 1) := by decide +kernel
theorem dX7_isDue_23 : decode cX7_isDue 23 = .ok (.aload_n 0, 1) := by decide +kernel
theorem dX7_isDue_24 : decode cX7_isDue 24 = .ok (.getfield 28, 3) := by decide +kernel
theorem dX7_isDue_27 : decode cX7_isDue 27 = .ok (.iload_n 1, 1) := by decide +kernel
theorem dX7_isDue_28 : decode cX7_isDue 28 = .ok (.iaload, 1) := by decide +kernel
theorem dX7_isDue_29 : decode cX7_isDue 29 = .ok (.iadd, 1) := by decide +kernel
theorem dX7_isDue_30 : decode cX7_isDue 30 = .ok (.if_icmp .le 7, 3) := by decide +kernel
theorem dX7_isDue_33 : decode cX7_isDue 33 = .ok (.iconst 1, 1) := by decide +kernel
theorem dX7_isDue_34 : decode cX7_isDue 34 = .ok (.goto 4, 3) := by decide +kernel
theorem dX7_isDue_37 : decode cX7_isDue 37 = .ok (.iconst 0, 1) := by decide +kernel
theorem dX7_isDue_38 : decode cX7_isDue 38 = .ok (.ireturn, 1) := by decide +kernel
theorem dX7_barsBy_0 : decode cX7_barsBy 0 = .ok (.iload_n 2, 1) := by decide +kernel
theorem dX7_barsBy_1 : decode cX7_barsBy 1 = .ok (.tableswitch 151 1 6 #[39, 45, 52, 59, 99, 105], 39) := by decide +kernel
theorem dX7_barsBy_40 : decode cX7_barsBy 40 = .ok (.aload_n 0, 1) := by decide +kernel
theorem dX7_barsBy_41 : decode cX7_barsBy 41 = .ok (.iload_n 1, 1) := by decide +kernel
theorem dX7_barsBy_42 : decode cX7_barsBy 42 = .ok (.invokevirtual 171, 3) := by decide +kernel
theorem dX7_barsBy_45 : decode cX7_barsBy 45 = .ok (.ireturn, 1) := by decide +kernel
theorem dX7_barsBy_46 : decode cX7_barsBy 46 = .ok (.aload_n 0, 1) := by decide +kernel
theorem dX7_barsBy_47 : decode cX7_barsBy 47 = .ok (.getfield 31, 3) := by decide +kernel
theorem dX7_barsBy_50 : decode cX7_barsBy 50 = .ok (.iload_n 1, 1) := by decide +kernel
theorem dX7_barsBy_51 : decode cX7_barsBy 51 = .ok (.baload, 1) := by decide +kernel
theorem dX7_barsBy_52 : decode cX7_barsBy 52 = .ok (.ireturn, 1) := by decide +kernel
theorem dX7_barsBy_53 : decode cX7_barsBy 53 = .ok (.aload_n 0, 1) := by decide +kernel
theorem dX7_barsBy_54 : decode cX7_barsBy 54 = .ok (.getfield 35, 3) := by decide +kernel
theorem dX7_barsBy_57 : decode cX7_barsBy 57 = .ok (.iload_n 1, 1) := by decide +kernel
theorem dX7_barsBy_58 : decode cX7_barsBy 58 = .ok (.baload, 1) := by decide +kernel
theorem dX7_barsBy_59 : decode cX7_barsBy 59 = .ok (.ireturn, 1) := by decide +kernel
theorem dX7_barsBy_60 : decode cX7_barsBy 60 = .ok (.aload_n 0, 1) := by decide +kernel
theorem dX7_barsBy_61 : decode cX7_barsBy 61 = .ok (.getfield 65, 3) := by decide +kernel
theorem dX7_barsBy_64 : decode cX7_barsBy 64 = .ok (.aload_n 0, 1) := by decide +kernel
theorem dX7_barsBy_65 : decode cX7_barsBy 65 = .ok (.getfield 7, 3) := by decide +kernel
theorem dX7_barsBy_68 : decode cX7_barsBy 68 = .ok (.iload_n 1, 1) := by decide +kernel
theorem dX7_barsBy_69 : decode cX7_barsBy 69 = .ok (.iaload, 1) := by decide +kernel
theorem dX7_barsBy_70 : decode cX7_barsBy 70 = .ok (.iaload, 1) := by decide +kernel
theorem dX7_barsBy_71 : decode cX7_barsBy 71 = .ok (.ifCond .le 27, 3) := by decide +kernel
theorem dX7_barsBy_74 : decode cX7_barsBy 74 = .ok (.aload_n 0, 1) := by decide +kernel
theorem dX7_barsBy_75 : decode cX7_barsBy 75 = .ok (.getfield 22, 3) := by decide +kernel
theorem dX7_barsBy_78 : decode cX7_barsBy 78 = .ok (.iload_n 1, 1) := by decide +kernel
theorem dX7_barsBy_79 : decode cX7_barsBy 79 = .ok (.iaload, 1) := by decide +kernel
theorem dX7_barsBy_80 : decode cX7_barsBy 80 = .ok (.aload_n 0, 1) := by decide +kernel
theorem dX7_barsBy_81 : decode cX7_barsBy 81 = .ok (.getfield 65, 3) := by decide +kernel
theorem dX7_barsBy_84 : decode cX7_barsBy 84 = .ok (.aload_n 0, 1) := by decide +kernel
theorem dX7_barsBy_85 : decode cX7_barsBy 85 = .ok (.getfield 7, 3) := by decide +kernel
theorem dX7_barsBy_88 : decode cX7_barsBy 88 = .ok (.iload_n 1, 1) := by decide +kernel
theorem dX7_barsBy_89 : decode cX7_barsBy 89 = .ok (.iaload, 1) := by decide +kernel
theorem dX7_barsBy_90 : decode cX7_barsBy 90 = .ok (.iaload, 1) := by decide +kernel
theorem dX7_barsBy_91 : decode cX7_barsBy 91 = .ok (.if_icmp .le 7, 3) := by decide +kernel
theorem dX7_barsBy_94 : decode cX7_barsBy 94 = .ok (.iconst 1, 1) := by decide +kernel
theorem dX7_barsBy_95 : decode cX7_barsBy 95 = .ok (.goto 4, 3) := by decide +kernel
theorem dX7_barsBy_98 : decode cX7_barsBy 98 = .ok (.iconst 0, 1) := by decide +kernel
theorem dX7_barsBy_99 : decode cX7_barsBy 99 = .ok (.ireturn, 1) := by decide +kernel
theorem dX7_barsBy_100 : decode cX7_barsBy 100 = .ok (.aload_n 0, 1) := by decide +kernel
theorem dX7_barsBy_101 : decode cX7_barsBy 101 = .ok (.iload_n 1, 1) := by decide +kernel
theorem dX7_barsBy_102 : decode cX7_barsBy 102 = .ok (.invokevirtual 174, 3) := by decide +kernel
theorem dX7_barsBy_105 : decode cX7_barsBy 105 = .ok (.ireturn, 1) := by decide +kernel
theorem dX7_barsBy_106 : decode cX7_barsBy 106 = .ok (.aload_n 0, 1) := by decide +kernel
theorem dX7_barsBy_107 : decode cX7_barsBy 107 = .ok (.getfield 7, 3) := by decide +kernel
theorem dX7_barsBy_110 : decode cX7_barsBy 110 = .ok (.iload_n 1, 1) := by decide +kernel
theorem dX7_barsBy_111 : decode cX7_barsBy 111 = .ok (.iaload, 1) := by decide +kernel
theorem dX7_barsBy_112 : decode cX7_barsBy 112 = .ok (.iconst 2, 1) := by decide +kernel
theorem dX7_barsBy_113 : decode cX7_barsBy 113 = .ok (.if_icmp .ne 13, 3) := by decide +kernel
theorem dX7_barsBy_116 : decode cX7_barsBy 116 = .ok (.aload_n 0, 1) := by decide +kernel
theorem dX7_barsBy_117 : decode cX7_barsBy 117 = .ok (.iload_n 1, 1) := by decide +kernel
theorem dX7_barsBy_118 : decode cX7_barsBy 118 = .ok (.invokevirtual 177, 3) := by decide +kernel
theorem dX7_barsBy_121 : decode cX7_barsBy 121 = .ok (.bipush 20, 2) := by decide +kernel
theorem dX7_barsBy_123 : decode cX7_barsBy 123 = .ok (.if_icmp .gt 23, 3) := by decide +kernel
theorem dX7_barsBy_126 : decode cX7_barsBy 126 = .ok (.aload_n 0, 1) := by decide +kernel
theorem dX7_barsBy_127 : decode cX7_barsBy 127 = .ok (.getfield 7, 3) := by decide +kernel
theorem dX7_barsBy_130 : decode cX7_barsBy 130 = .ok (.iload_n 1, 1) := by decide +kernel
theorem dX7_barsBy_131 : decode cX7_barsBy 131 = .ok (.iaload, 1) := by decide +kernel
theorem dX7_barsBy_132 : decode cX7_barsBy 132 = .ok (.iconst 1, 1) := by decide +kernel
theorem dX7_barsBy_133 : decode cX7_barsBy 133 = .ok (.if_icmp .ne 17, 3) := by decide +kernel
theorem dX7_barsBy_136 : decode cX7_barsBy 136 = .ok (.aload_n 0, 1) := by decide +kernel
theorem dX7_barsBy_137 : decode cX7_barsBy 137 = .ok (.iload_n 1, 1) := by decide +kernel
theorem dX7_barsBy_138 : decode cX7_barsBy 138 = .ok (.invokevirtual 177, 3) := by decide +kernel
theorem dX7_barsBy_141 : decode cX7_barsBy 141 = .ok (.bipush 60, 2) := by decide +kernel
theorem dX7_barsBy_143 : decode cX7_barsBy 143 = .ok (.if_icmp .le 7, 3) := by decide +kernel
theorem dX7_barsBy_146 : decode cX7_barsBy 146 = .ok (.iconst 1, 1) := by decide +kernel
theorem dX7_barsBy_147 : decode cX7_barsBy 147 = .ok (.goto 4, 3) := by decide +kernel
theorem dX7_barsBy_150 : decode cX7_barsBy 150 = .ok (.iconst 0, 1) := by decide +kernel
theorem dX7_barsBy_151 : decode cX7_barsBy 151 = .ok (.ireturn, 1) := by decide +kernel
theorem dX7_barsBy_152 : decode cX7_barsBy 152 = .ok (.aload_n 0, 1) := by decide +kernel
theorem dX7_barsBy_153 : decode cX7_barsBy 153 = .ok (.iload_n 1, 1) := by decide +kernel
theorem dX7_barsBy_154 : decode cX7_barsBy 154 = .ok (.invokevirtual 180, 3) := by decide +kernel
theorem dX7_barsBy_157 : decode cX7_barsBy 157 = .ok (.ireturn, 1) := by decide +kernel
theorem dX7_barOf_0 : decode cX7_barOf 0 = .ok (.iconst 1, 1) := by decide +kernel
theorem dX7_barOf_1 : decode cX7_barOf 1 = .ok (.istore_n 2, 1) := by decide +kernel
theorem dX7_barOf_2 : decode cX7_barOf 2 = .ok (.iload_n 2, 1) := by decide +kernel
theorem dX7_barOf_3 : decode cX7_barOf 3 = .ok (.bipush 8, 2) := by decide +kernel
theorem dX7_barOf_5 : decode cX7_barOf 5 = .ok (.if_icmp .ge 50, 3) := by decide +kernel
theorem dX7_barOf_8 : decode cX7_barOf 8 = .ok (.iconst 0, 1) := by decide +kernel
theorem dX7_barOf_9 : decode cX7_barOf 9 = .ok (.istore_n 3, 1) := by decide +kernel
theorem dX7_barOf_10 : decode cX7_barOf 10 = .ok (.iload_n 3, 1) := by decide +kernel
theorem dX7_barOf_11 : decode cX7_barOf 11 = .ok (.aload_n 0, 1) := by decide +kernel
theorem dX7_barOf_12 : decode cX7_barOf 12 = .ok (.getfield 102, 3) := by decide +kernel
theorem dX7_barOf_15 : decode cX7_barOf 15 = .ok (.if_icmp .ge 34, 3) := by decide +kernel
theorem dX7_barOf_18 : decode cX7_barOf 18 = .ok (.aload_n 0, 1) := by decide +kernel
theorem dX7_barOf_19 : decode cX7_barOf 19 = .ok (.iload_n 3, 1) := by decide +kernel
theorem dX7_barOf_20 : decode cX7_barOf 20 = .ok (.iload_n 1, 1) := by decide +kernel
theorem dX7_barOf_21 : decode cX7_barOf 21 = .ok (.invokevirtual 151, 3) := by decide +kernel
theorem dX7_barOf_24 : decode cX7_barOf 24 = .ok (.ifCond .eq 19, 3) := by decide +kernel
theorem dX7_barOf_27 : decode cX7_barOf 27 = .ok (.aload_n 0, 1) := by decide +kernel
theorem dX7_barOf_28 : decode cX7_barOf 28 = .ok (.iload_n 3, 1) := by decide +kernel
theorem dX7_barOf_29 : decode cX7_barOf 29 = .ok (.iload_n 2, 1) := by decide +kernel
theorem dX7_barOf_30 : decode cX7_barOf 30 = .ok (.invokevirtual 183, 3) := by decide +kernel
theorem dX7_barOf_33 : decode cX7_barOf 33 = .ok (.ifCond .eq 10, 3) := by decide +kernel
theorem dX7_barOf_36 : decode cX7_barOf 36 = .ok (.bipush 100, 2) := by decide +kernel
theorem dX7_barOf_38 : decode cX7_barOf 38 = .ok (.iload_n 2, 1) := by decide +kernel
theorem dX7_barOf_39 : decode cX7_barOf 39 = .ok (.imul, 1) := by decide +kernel
theorem dX7_barOf_40 : decode cX7_barOf 40 = .ok (.iload_n 3, 1) := by decide +kernel
theorem dX7_barOf_41 : decode cX7_barOf 41 = .ok (.iadd, 1) := by decide +kernel
theorem dX7_barOf_42 : decode cX7_barOf 42 = .ok (.ireturn, 1) := by decide +kernel
theorem dX7_barOf_43 : decode cX7_barOf 43 = .ok (.iinc 3 1, 3) := by decide +kernel
theorem dX7_barOf_46 : decode cX7_barOf 46 = .ok (.goto (-36), 3) := by decide +kernel
theorem dX7_barOf_49 : decode cX7_barOf 49 = .ok (.iinc 2 1, 3) := by decide +kernel
theorem dX7_barOf_52 : decode cX7_barOf 52 = .ok (.goto (-50), 3) := by decide +kernel
theorem dX7_barOf_55 : decode cX7_barOf 55 = .ok (.iconst 0, 1) := by decide +kernel
theorem dX7_barOf_56 : decode cX7_barOf 56 = .ok (.ireturn, 1) := by decide +kernel
theorem dX7_release_0 : decode cX7_release 0 = .ok (.aload_n 0, 1) := by decide +kernel
theorem dX7_release_1 : decode cX7_release 1 = .ok (.aload_n 0, 1) := by decide +kernel
theorem dX7_release_2 : decode cX7_release 2 = .ok (.iload_n 1, 1) := by decide +kernel
theorem dX7_release_3 : decode cX7_release 3 = .ok (.iconst 0, 1) := by decide +kernel
theorem dX7_release_4 : decode cX7_release 4 = .ok (.invokevirtual 148, 3) := by decide +kernel
theorem dX7_release_7 : decode cX7_release 7 = .ok (.putfield 98, 3) := by decide +kernel
theorem dX7_release_10 : decode cX7_release 10 = .ok (.aload_n 0, 1) := by decide +kernel
theorem dX7_release_11 : decode cX7_release 11 = .ok (.getfield 98, 3) := by decide +kernel
theorem dX7_release_14 : decode cX7_release 14 = .ok (.ifCond .le 5, 3) := by decide +kernel
theorem dX7_release_17 : decode cX7_release 17 = .ok (.iconst 0, 1) := by decide +kernel
theorem dX7_release_18 : decode cX7_release 18 = .ok (.ireturn, 1) := by decide +kernel
theorem dX7_release_19 : decode cX7_release 19 = .ok (.aload_n 0, 1) := by decide +kernel
theorem dX7_release_20 : decode cX7_release 20 = .ok (.iload_n 1, 1) := by decide +kernel
theorem dX7_release_21 : decode cX7_release 21 = .ok (.invokevirtual 186, 3) := by decide +kernel
theorem dX7_release_24 : decode cX7_release 24 = .ok (.bipush 100, 2) := by decide +kernel
theorem dX7_release_26 : decode cX7_release 26 = .ok (.idiv, 1) := by decide +kernel
theorem dX7_release_27 : decode cX7_release 27 = .ok (.istore_n 2, 1) := by decide +kernel
theorem dX7_release_28 : decode cX7_release 28 = .ok (.aload_n 0, 1) := by decide +kernel
theorem dX7_release_29 : decode cX7_release 29 = .ok (.getfield 38, 3) := by decide +kernel
theorem dX7_release_32 : decode cX7_release 32 = .ok (.iload_n 1, 1) := by decide +kernel
theorem dX7_release_33 : decode cX7_release 33 = .ok (.iload_n 2, 1) := by decide +kernel
theorem dX7_release_34 : decode cX7_release 34 = .ok (.ifCond .ne 7, 3) := by decide +kernel
theorem dX7_release_37 : decode cX7_release 37 = .ok (.iconst 1, 1) := by decide +kernel
theorem dX7_release_38 : decode cX7_release 38 = .ok (.goto 4, 3) := by decide +kernel
theorem dX7_release_41 : decode cX7_release 41 = .ok (.iconst 0, 1) := by decide +kernel
theorem dX7_release_42 : decode cX7_release 42 = .ok (.bastore, 1) := by decide +kernel
theorem dX7_release_43 : decode cX7_release 43 = .ok (.iload_n 2, 1) := by decide +kernel
theorem dX7_release_44 : decode cX7_release 44 = .ok (.ireturn, 1) := by decide +kernel
theorem dX7_comes_0 : decode cX7_comes 0 = .ok (.aload_n 0, 1) := by decide +kernel
theorem dX7_comes_1 : decode cX7_comes 1 = .ok (.aload_n 0, 1) := by decide +kernel
theorem dX7_comes_2 : decode cX7_comes 2 = .ok (.iload_n 1, 1) := by decide +kernel
theorem dX7_comes_3 : decode cX7_comes 3 = .ok (.iconst 0, 1) := by decide +kernel
theorem dX7_comes_4 : decode cX7_comes 4 = .ok (.invokevirtual 148, 3) := by decide +kernel
theorem dX7_comes_7 : decode cX7_comes 7 = .ok (.putfield 98, 3) := by decide +kernel
theorem dX7_comes_10 : decode cX7_comes 10 = .ok (.aload_n 0, 1) := by decide +kernel
theorem dX7_comes_11 : decode cX7_comes 11 = .ok (.aload_n 0, 1) := by decide +kernel
theorem dX7_comes_12 : decode cX7_comes 12 = .ok (.getfield 98, 3) := by decide +kernel
theorem dX7_comes_15 : decode cX7_comes 15 = .ok (.ifCond .ne 17, 3) := by decide +kernel
theorem dX7_comes_18 : decode cX7_comes 18 = .ok (.iload_n 2, 1) := by decide +kernel
theorem dX7_comes_19 : decode cX7_comes 19 = .ok (.iconst 0, 1) := by decide +kernel
theorem dX7_comes_20 : decode cX7_comes 20 = .ok (.bipush 99, 2) := by decide +kernel
theorem dX7_comes_22 : decode cX7_comes 22 = .ok (.invokestatic 105, 3) := by decide +kernel
theorem dX7_comes_25 : decode cX7_comes 25 = .ok (.ifCond .ne 7, 3) := by decide +kernel
theorem dX7_comes_28 : decode cX7_comes 28 = .ok (.iconst 2, 1) := by decide +kernel
theorem dX7_comes_29 : decode cX7_comes 29 = .ok (.goto 7, 3) := by decide +kernel
theorem dX7_comes_32 : decode cX7_comes 32 = .ok (.aload_n 0, 1) := by decide +kernel
theorem dX7_comes_33 : decode cX7_comes 33 = .ok (.getfield 98, 3) := by decide +kernel
theorem dX7_comes_36 : decode cX7_comes 36 = .ok (.putfield 98, 3) := by decide +kernel
theorem dX7_comes_39 : decode cX7_comes 39 = .ok (.aload_n 0, 1) := by decide +kernel
theorem dX7_comes_40 : decode cX7_comes 40 = .ok (.getfield 98, 3) := by decide +kernel
theorem dX7_comes_43 : decode cX7_comes 43 = .ok (.ifCond .le 5, 3) := by decide +kernel
theorem dX7_comes_46 : decode cX7_comes 46 = .ok (.iconst 0, 1) := by decide +kernel
theorem dX7_comes_47 : decode cX7_comes 47 = .ok (.ireturn, 1) := by decide +kernel
theorem dX7_comes_48 : decode cX7_comes 48 = .ok (.aload_n 0, 1) := by decide +kernel
theorem dX7_comes_49 : decode cX7_comes 49 = .ok (.getfield 139, 3) := by decide +kernel
theorem dX7_comes_52 : decode cX7_comes 52 = .ok (.bipush 8, 2) := by decide +kernel
theorem dX7_comes_54 : decode cX7_comes 54 = .ok (.if_icmp .ge 35, 3) := by decide +kernel
theorem dX7_comes_57 : decode cX7_comes 57 = .ok (.aload_n 0, 1) := by decide +kernel
theorem dX7_comes_58 : decode cX7_comes 58 = .ok (.iload_n 1, 1) := by decide +kernel
theorem dX7_comes_59 : decode cX7_comes 59 = .ok (.invokevirtual 142, 3) := by decide +kernel
theorem dX7_comes_62 : decode cX7_comes 62 = .ok (.ifCond .ne 27, 3) := by decide +kernel
theorem dX7_comes_65 : decode cX7_comes 65 = .ok (.aload_n 0, 1) := by decide +kernel
theorem dX7_comes_66 : decode cX7_comes 66 = .ok (.getfield 41, 3) := by decide +kernel
theorem dX7_comes_69 : decode cX7_comes 69 = .ok (.iload_n 1, 1) := by decide +kernel
theorem dX7_comes_70 : decode cX7_comes 70 = .ok (.baload, 1) := by decide +kernel
theorem dX7_comes_71 : decode cX7_comes 71 = .ok (.ifCond .ne 18, 3) := by decide +kernel
theorem dX7_comes_74 : decode cX7_comes 74 = .ok (.aload_n 0, 1) := by decide +kernel
theorem dX7_comes_75 : decode cX7_comes 75 = .ok (.getfield 19, 3) := by decide +kernel
theorem dX7_comes_78 : decode cX7_comes 78 = .ok (.iload_n 1, 1) := by decide +kernel
theorem dX7_comes_79 : decode cX7_comes 79 = .ok (.iaload, 1) := by decide +kernel
theorem dX7_comes_80 : decode cX7_comes 80 = .ok (.bipush (-2), 2) := by decide +kernel
theorem dX7_comes_82 : decode cX7_comes 82 = .ok (.if_icmp .eq 7, 3) := by decide +kernel
theorem dX7_comes_85 : decode cX7_comes 85 = .ok (.iconst 1, 1) := by decide +kernel
theorem dX7_comes_86 : decode cX7_comes 86 = .ok (.goto 4, 3) := by decide +kernel
theorem dX7_comes_89 : decode cX7_comes 89 = .ok (.iconst 0, 1) := by decide +kernel
theorem dX7_comes_90 : decode cX7_comes 90 = .ok (.istore_n 3, 1) := by decide +kernel
theorem dX7_comes_91 : decode cX7_comes 91 = .ok (.iconst 0, 1) := by decide +kernel
theorem dX7_comes_92 : decode cX7_comes 92 = .ok (.istore 4, 2) := by decide +kernel
theorem dX7_comes_94 : decode cX7_comes 94 = .ok (.iload 4, 2) := by decide +kernel
theorem dX7_comes_96 : decode cX7_comes 96 = .ok (.aload_n 0, 1) := by decide +kernel
theorem dX7_comes_97 : decode cX7_comes 97 = .ok (.getfield 139, 3) := by decide +kernel
theorem dX7_comes_100 : decode cX7_comes 100 = .ok (.if_icmp .ge 35, 3) := by decide +kernel
theorem dX7_comes_103 : decode cX7_comes 103 = .ok (.iload_n 3, 1) := by decide +kernel
theorem dX7_comes_104 : decode cX7_comes 104 = .ok (.ifCond .eq 23, 3) := by decide +kernel
theorem dX7_comes_107 : decode cX7_comes 107 = .ok (.aload_n 0, 1) := by decide +kernel
theorem dX7_comes_108 : decode cX7_comes 108 = .ok (.getfield 83, 3) := by decide +kernel
theorem dX7_comes_111 : decode cX7_comes 111 = .ok (.aload_n 0, 1) := by decide +kernel
theorem dX7_comes_112 : decode cX7_comes 112 = .ok (.getfield 80, 3) := by decide +kernel
theorem dX7_comes_115 : decode cX7_comes 115 = .ok (.iload 4, 2) := by decide +kernel
theorem dX7_comes_117 : decode cX7_comes 117 = .ok (.iaload, 1) := by decide +kernel
theorem dX7_comes_118 : decode cX7_comes 118 = .ok (.iaload, 1) := by decide +kernel
theorem dX7_comes_119 : decode cX7_comes 119 = .ok (.iload_n 2, 1) := by decide +kernel
theorem dX7_comes_120 : decode cX7_comes 120 = .ok (.if_icmp .eq 7, 3) := by decide +kernel
theorem dX7_comes_123 : decode cX7_comes 123 = .ok (.iconst 1, 1) := by decide +kernel
theorem dX7_comes_124 : decode cX7_comes 124 = .ok (.goto 4, 3) := by decide +kernel
theorem dX7_comes_127 : decode cX7_comes 127 = .ok (.iconst 0, 1) := by decide +kernel
theorem dX7_comes_128 : decode cX7_comes 128 = .ok (.istore_n 3, 1) := by decide +kernel
theorem dX7_comes_129 : decode cX7_comes 129 = .ok (.iinc 4 1, 3) := by decide +kernel
theorem dX7_comes_132 : decode cX7_comes 132 = .ok (.goto (-38), 3) := by decide +kernel
theorem dX7_comes_135 : decode cX7_comes 135 = .ok (.aload_n 0, 1) := by decide +kernel
theorem dX7_comes_136 : decode cX7_comes 136 = .ok (.iload_n 3, 1) := by decide +kernel
theorem dX7_comes_137 : decode cX7_comes 137 = .ok (.ifCond .eq 7, 3) := by decide +kernel
theorem dX7_comes_140 : decode cX7_comes 140 = .ok (.iconst 0, 1) := by decide +kernel
theorem dX7_comes_141 : decode cX7_comes 141 = .ok (.goto 4, 3) := by decide +kernel
theorem dX7_comes_144 : decode cX7_comes 144 = .ok (.iconst 3, 1) := by decide +kernel
theorem dX7_comes_145 : decode cX7_comes 145 = .ok (.putfield 98, 3) := by decide +kernel
theorem dX7_comes_148 : decode cX7_comes 148 = .ok (.aload_n 0, 1) := by decide +kernel
theorem dX7_comes_149 : decode cX7_comes 149 = .ok (.getfield 98, 3) := by decide +kernel
theorem dX7_comes_152 : decode cX7_comes 152 = .ok (.ifCond .le 5, 3) := by decide +kernel
theorem dX7_comes_155 : decode cX7_comes 155 = .ok (.iconst 0, 1) := by decide +kernel
theorem dX7_comes_156 : decode cX7_comes 156 = .ok (.ireturn, 1) := by decide +kernel
theorem dX7_comes_157 : decode cX7_comes 157 = .ok (.aload_n 0, 1) := by decide +kernel
theorem dX7_comes_158 : decode cX7_comes 158 = .ok (.getfield 80, 3) := by decide +kernel
theorem dX7_comes_161 : decode cX7_comes 161 = .ok (.aload_n 0, 1) := by decide +kernel
theorem dX7_comes_162 : decode cX7_comes 162 = .ok (.getfield 139, 3) := by decide +kernel
theorem dX7_comes_165 : decode cX7_comes 165 = .ok (.iload_n 1, 1) := by decide +kernel
theorem dX7_comes_166 : decode cX7_comes 166 = .ok (.iastore, 1) := by decide +kernel
theorem dX7_comes_167 : decode cX7_comes 167 = .ok (.aload_n 0, 1) := by decide +kernel
theorem dX7_comes_168 : decode cX7_comes 168 = .ok (.getfield 83, 3) := by decide +kernel
theorem dX7_comes_171 : decode cX7_comes 171 = .ok (.iload_n 1, 1) := by decide +kernel
theorem dX7_comes_172 : decode cX7_comes 172 = .ok (.iload_n 2, 1) := by decide +kernel
theorem dX7_comes_173 : decode cX7_comes 173 = .ok (.iastore, 1) := by decide +kernel
theorem dX7_comes_174 : decode cX7_comes 174 = .ok (.aload_n 0, 1) := by decide +kernel
theorem dX7_comes_175 : decode cX7_comes 175 = .ok (.dup, 1) := by decide +kernel
theorem dX7_comes_176 : decode cX7_comes 176 = .ok (.getfield 139, 3) := by decide +kernel
theorem dX7_comes_179 : decode cX7_comes 179 = .ok (.iconst 1, 1) := by decide +kernel
theorem dX7_comes_180 : decode cX7_comes 180 = .ok (.iadd, 1) := by decide +kernel
theorem dX7_comes_181 : decode cX7_comes 181 = .ok (.putfield 139, 3) := by decide +kernel
theorem dX7_comes_184 : decode cX7_comes 184 = .ok (.aload_n 0, 1) := by decide +kernel
theorem dX7_comes_185 : decode cX7_comes 185 = .ok (.getfield 139, 3) := by decide +kernel
theorem dX7_comes_188 : decode cX7_comes 188 = .ok (.ireturn, 1) := by decide +kernel
theorem dX7_movesOf_0 : decode cX7_movesOf 0 = .ok (.iconst 0, 1) := by decide +kernel
theorem dX7_movesOf_1 : decode cX7_movesOf 1 = .ok (.istore_n 1, 1) := by decide +kernel
theorem dX7_movesOf_2 : decode cX7_movesOf 2 = .ok (.iconst 0, 1) := by decide +kernel
theorem dX7_movesOf_3 : decode cX7_movesOf 3 = .ok (.istore_n 2, 1) := by decide +kernel
theorem dX7_movesOf_4 : decode cX7_movesOf 4 = .ok (.iload_n 2, 1) := by decide +kernel
theorem dX7_movesOf_5 : decode cX7_movesOf 5 = .ok (.aload_n 0, 1) := by decide +kernel
theorem dX7_movesOf_6 : decode cX7_movesOf 6 = .ok (.getfield 139, 3) := by decide +kernel
theorem dX7_movesOf_9 : decode cX7_movesOf 9 = .ok (.if_icmp .ge 117, 3) := by decide +kernel
theorem dX7_movesOf_12 : decode cX7_movesOf 12 = .ok (.iconst 0, 1) := by decide +kernel
theorem dX7_movesOf_13 : decode cX7_movesOf 13 = .ok (.istore_n 3, 1) := by decide +kernel
theorem dX7_movesOf_14 : decode cX7_movesOf 14 = .ok (.iconst 0, 1) := by decide +kernel
theorem dX7_movesOf_15 : decode cX7_movesOf 15 = .ok (.istore 4, 2) := by decide +kernel
theorem dX7_movesOf_17 : decode cX7_movesOf 17 = .ok (.iload 4, 2) := by decide +kernel
theorem dX7_movesOf_19 : decode cX7_movesOf 19 = .ok (.aload_n 0, 1) := by decide +kernel
theorem dX7_movesOf_20 : decode cX7_movesOf 20 = .ok (.getfield 139, 3) := by decide +kernel
theorem dX7_movesOf_23 : decode cX7_movesOf 23 = .ok (.if_icmp .ge 90, 3) := by decide +kernel
theorem dX7_movesOf_26 : decode cX7_movesOf 26 = .ok (.aload_n 0, 1) := by decide +kernel
theorem dX7_movesOf_27 : decode cX7_movesOf 27 = .ok (.getfield 89, 3) := by decide +kernel
theorem dX7_movesOf_30 : decode cX7_movesOf 30 = .ok (.iload_n 2, 1) := by decide +kernel
theorem dX7_movesOf_31 : decode cX7_movesOf 31 = .ok (.iaload, 1) := by decide +kernel
theorem dX7_movesOf_32 : decode cX7_movesOf 32 = .ok (.aload_n 0, 1) := by decide +kernel
theorem dX7_movesOf_33 : decode cX7_movesOf 33 = .ok (.getfield 89, 3) := by decide +kernel
theorem dX7_movesOf_36 : decode cX7_movesOf 36 = .ok (.iload 4, 2) := by decide +kernel
theorem dX7_movesOf_38 : decode cX7_movesOf 38 = .ok (.iaload, 1) := by decide +kernel
theorem dX7_movesOf_39 : decode cX7_movesOf 39 = .ok (.if_icmp .ne 7, 3) := by decide +kernel
theorem dX7_movesOf_42 : decode cX7_movesOf 42 = .ok (.iconst 1, 1) := by decide +kernel
theorem dX7_movesOf_43 : decode cX7_movesOf 43 = .ok (.goto 4, 3) := by decide +kernel
theorem dX7_movesOf_46 : decode cX7_movesOf 46 = .ok (.iconst 0, 1) := by decide +kernel
theorem dX7_movesOf_47 : decode cX7_movesOf 47 = .ok (.istore 5, 2) := by decide +kernel
theorem dX7_movesOf_49 : decode cX7_movesOf 49 = .ok (.iload_n 3, 1) := by decide +kernel
theorem dX7_movesOf_50 : decode cX7_movesOf 50 = .ok (.iload 5, 2) := by decide +kernel
theorem dX7_movesOf_52 : decode cX7_movesOf 52 = .ok (.ifCond .eq 7, 3) := by decide +kernel
theorem dX7_movesOf_55 : decode cX7_movesOf 55 = .ok (.iconst 1, 1) := by decide +kernel
theorem dX7_movesOf_56 : decode cX7_movesOf 56 = .ok (.goto 4, 3) := by decide +kernel
theorem dX7_movesOf_59 : decode cX7_movesOf 59 = .ok (.iconst 0, 1) := by decide +kernel
theorem dX7_movesOf_60 : decode cX7_movesOf 60 = .ok (.iadd, 1) := by decide +kernel
theorem dX7_movesOf_61 : decode cX7_movesOf 61 = .ok (.istore_n 3, 1) := by decide +kernel
theorem dX7_movesOf_62 : decode cX7_movesOf 62 = .ok (.iload_n 1, 1) := by decide +kernel
theorem dX7_movesOf_63 : decode cX7_movesOf 63 = .ok (.iload 5, 2) := by decide +kernel
theorem dX7_movesOf_65 : decode cX7_movesOf 65 = .ok (.ifCond .eq 39, 3) := by decide +kernel
theorem dX7_movesOf_68 : decode cX7_movesOf 68 = .ok (.iload 4, 2) := by decide +kernel
theorem dX7_movesOf_70 : decode cX7_movesOf 70 = .ok (.iload_n 2, 1) := by decide +kernel
theorem dX7_movesOf_71 : decode cX7_movesOf 71 = .ok (.if_icmp .le 33, 3) := by decide +kernel
theorem dX7_movesOf_74 : decode cX7_movesOf 74 = .ok (.aload_n 0, 1) := by decide +kernel
theorem dX7_movesOf_75 : decode cX7_movesOf 75 = .ok (.getfield 83, 3) := by decide +kernel
theorem dX7_movesOf_78 : decode cX7_movesOf 78 = .ok (.aload_n 0, 1) := by decide +kernel
theorem dX7_movesOf_79 : decode cX7_movesOf 79 = .ok (.getfield 80, 3) := by decide +kernel
theorem dX7_movesOf_82 : decode cX7_movesOf 82 = .ok (.iload_n 2, 1) := by decide +kernel
theorem dX7_movesOf_83 : decode cX7_movesOf 83 = .ok (.iaload, 1) := by decide +kernel
theorem dX7_movesOf_84 : decode cX7_movesOf 84 = .ok (.iaload, 1) := by decide +kernel
theorem dX7_movesOf_85 : decode cX7_movesOf 85 = .ok (.aload_n 0, 1) := by decide +kernel
theorem dX7_movesOf_86 : decode cX7_movesOf 86 = .ok (.getfield 83, 3) := by decide +kernel
theorem dX7_movesOf_89 : decode cX7_movesOf 89 = .ok (.aload_n 0, 1) := by decide +kernel
theorem dX7_movesOf_90 : decode cX7_movesOf 90 = .ok (.getfield 80, 3) := by decide +kernel
theorem dX7_movesOf_93 : decode cX7_movesOf 93 = .ok (.iload 4, 2) := by decide +kernel
theorem dX7_movesOf_95 : decode cX7_movesOf 95 = .ok (.iaload, 1) := by decide +kernel
theorem dX7_movesOf_96 : decode cX7_movesOf 96 = .ok (.iaload, 1) := by decide +kernel
theorem dX7_movesOf_97 : decode cX7_movesOf 97 = .ok (.if_icmp .ge 7, 3) := by decide +kernel
theorem dX7_movesOf_100 : decode cX7_movesOf 100 = .ok (.iconst 1, 1) := by decide +kernel
theorem dX7_movesOf_101 : decode cX7_movesOf 101 = .ok (.goto 4, 3) := by decide +kernel
theorem dX7_movesOf_104 : decode cX7_movesOf 104 = .ok (.iconst 0, 1) := by decide +kernel
theorem dX7_movesOf_105 : decode cX7_movesOf 105 = .ok (.iadd, 1) := by decide +kernel
theorem dX7_movesOf_106 : decode cX7_movesOf 106 = .ok (.istore_n 1, 1) := by decide +kernel
theorem dX7_movesOf_107 : decode cX7_movesOf 107 = .ok (.iinc 4 1, 3) := by decide +kernel
theorem dX7_movesOf_110 : decode cX7_movesOf 110 = .ok (.goto (-93), 3) := by decide +kernel
theorem dX7_movesOf_113 : decode cX7_movesOf 113 = .ok (.iload_n 3, 1) := by decide +kernel
theorem dX7_movesOf_114 : decode cX7_movesOf 114 = .ok (.iconst 4, 1) := by decide +kernel
theorem dX7_movesOf_115 : decode cX7_movesOf 115 = .ok (.if_icmp .le 5, 3) := by decide +kernel
theorem dX7_movesOf_118 : decode cX7_movesOf 118 = .ok (.iconst (-1), 1) := by decide +kernel
theorem dX7_movesOf_119 : decode cX7_movesOf 119 = .ok (.ireturn, 1) := by decide +kernel
theorem dX7_movesOf_120 : decode cX7_movesOf 120 = .ok (.iinc 2 1, 3) := by decide +kernel
theorem dX7_movesOf_123 : decode cX7_movesOf 123 = .ok (.goto (-119), 3) := by decide +kernel
theorem dX7_movesOf_126 : decode cX7_movesOf 126 = .ok (.iload_n 1, 1) := by decide +kernel
theorem dX7_movesOf_127 : decode cX7_movesOf 127 = .ok (.ireturn, 1) := by decide +kernel
theorem dX7_plans_0 : decode cX7_plans 0 = .ok (.iconst 1, 1) := by decide +kernel
theorem dX7_plans_1 : decode cX7_plans 1 = .ok (.istore_n 1, 1) := by decide +kernel
theorem dX7_plans_2 : decode cX7_plans 2 = .ok (.iconst 0, 1) := by decide +kernel
theorem dX7_plans_3 : decode cX7_plans 3 = .ok (.istore_n 2, 1) := by decide +kernel
theorem dX7_plans_4 : decode cX7_plans 4 = .ok (.iload_n 2, 1) := by decide +kernel
theorem dX7_plans_5 : decode cX7_plans 5 = .ok (.aload_n 0, 1) := by decide +kernel
theorem dX7_plans_6 : decode cX7_plans 6 = .ok (.getfield 139, 3) := by decide +kernel
theorem dX7_plans_9 : decode cX7_plans 9 = .ok (.if_icmp .ge 13, 3) := by decide +kernel
theorem dX7_plans_12 : decode cX7_plans 12 = .ok (.iload_n 1, 1) := by decide +kernel
theorem dX7_plans_13 : decode cX7_plans 13 = .ok (.iconst 3, 1) := by decide +kernel
theorem dX7_plans_14 : decode cX7_plans 14 = .ok (.imul, 1) := by decide +kernel
theorem dX7_plans_15 : decode cX7_plans 15 = .ok (.istore_n 1, 1) := by decide +kernel
theorem dX7_plans_16 : decode cX7_plans 16 = .ok (.iinc 2 1, 3) := by decide +kernel
theorem dX7_plans_19 : decode cX7_plans 19 = .ok (.goto (-15), 3) := by decide +kernel
theorem dX7_plans_22 : decode cX7_plans 22 = .ok (.iconst (-1), 1) := by decide +kernel
theorem dX7_plans_23 : decode cX7_plans 23 = .ok (.istore_n 2, 1) := by decide +kernel
theorem dX7_plans_24 : decode cX7_plans 24 = .ok (.iconst 0, 1) := by decide +kernel
theorem dX7_plans_25 : decode cX7_plans 25 = .ok (.istore_n 3, 1) := by decide +kernel
theorem dX7_plans_26 : decode cX7_plans 26 = .ok (.iload_n 3, 1) := by decide +kernel
theorem dX7_plans_27 : decode cX7_plans 27 = .ok (.iload_n 1, 1) := by decide +kernel
theorem dX7_plans_28 : decode cX7_plans 28 = .ok (.if_icmp .ge 106, 3) := by decide +kernel
theorem dX7_plans_31 : decode cX7_plans 31 = .ok (.iload_n 3, 1) := by decide +kernel
theorem dX7_plans_32 : decode cX7_plans 32 = .ok (.istore 4, 2) := by decide +kernel
theorem dX7_plans_34 : decode cX7_plans 34 = .ok (.aload_n 0, 1) := by decide +kernel
theorem dX7_plans_35 : decode cX7_plans 35 = .ok (.getfield 139, 3) := by decide +kernel
theorem dX7_plans_38 : decode cX7_plans 38 = .ok (.iconst 1, 1) := by decide +kernel
theorem dX7_plans_39 : decode cX7_plans 39 = .ok (.isub, 1) := by decide +kernel
theorem dX7_plans_40 : decode cX7_plans 40 = .ok (.istore 5, 2) := by decide +kernel
theorem dX7_plans_42 : decode cX7_plans 42 = .ok (.iload 5, 2) := by decide +kernel
theorem dX7_plans_44 : decode cX7_plans 44 = .ok (.ifCond .lt 26, 3) := by decide +kernel
theorem dX7_plans_47 : decode cX7_plans 47 = .ok (.aload_n 0, 1) := by decide +kernel
theorem dX7_plans_48 : decode cX7_plans 48 = .ok (.getfield 89, 3) := by decide +kernel
theorem dX7_plans_51 : decode cX7_plans 51 = .ok (.iload 5, 2) := by decide +kernel
theorem dX7_plans_53 : decode cX7_plans 53 = .ok (.iload 4, 2) := by decide +kernel
theorem dX7_plans_55 : decode cX7_plans 55 = .ok (.iconst 3, 1) := by decide +kernel
theorem dX7_plans_56 : decode cX7_plans 56 = .ok (.irem, 1) := by decide +kernel
theorem dX7_plans_57 : decode cX7_plans 57 = .ok (.iastore, 1) := by decide +kernel
theorem dX7_plans_58 : decode cX7_plans 58 = .ok (.iload 4, 2) := by decide +kernel
theorem dX7_plans_60 : decode cX7_plans 60 = .ok (.iconst 3, 1) := by decide +kernel
theorem dX7_plans_61 : decode cX7_plans 61 = .ok (.idiv, 1) := by decide +kernel
theorem dX7_plans_62 : decode cX7_plans 62 = .ok (.istore 4, 2) := by decide +kernel
theorem dX7_plans_64 : decode cX7_plans 64 = .ok (.iinc 5 (-1), 3) := by decide +kernel
theorem dX7_plans_67 : decode cX7_plans 67 = .ok (.goto (-25), 3) := by decide +kernel
theorem dX7_plans_70 : decode cX7_plans 70 = .ok (.aload_n 0, 1) := by decide +kernel
theorem dX7_plans_71 : decode cX7_plans 71 = .ok (.invokevirtual 189, 3) := by decide +kernel
theorem dX7_plans_74 : decode cX7_plans 74 = .ok (.istore 5, 2) := by decide +kernel
theorem dX7_plans_76 : decode cX7_plans 76 = .ok (.iload 5, 2) := by decide +kernel
theorem dX7_plans_78 : decode cX7_plans 78 = .ok (.iconst (-1), 1) := by decide +kernel
theorem dX7_plans_79 : decode cX7_plans 79 = .ok (.if_icmp .eq 49, 3) := by decide +kernel
theorem dX7_plans_82 : decode cX7_plans 82 = .ok (.iload_n 2, 1) := by decide +kernel
theorem dX7_plans_83 : decode cX7_plans 83 = .ok (.iconst (-1), 1) := by decide +kernel
theorem dX7_plans_84 : decode cX7_plans 84 = .ok (.if_icmp .eq 9, 3) := by decide +kernel
theorem dX7_plans_87 : decode cX7_plans 87 = .ok (.iload 5, 2) := by decide +kernel
theorem dX7_plans_89 : decode cX7_plans 89 = .ok (.iload_n 2, 1) := by decide +kernel
theorem dX7_plans_90 : decode cX7_plans 90 = .ok (.if_icmp .ge 38, 3) := by decide +kernel
theorem dX7_plans_93 : decode cX7_plans 93 = .ok (.iload 5, 2) := by decide +kernel
theorem dX7_plans_95 : decode cX7_plans 95 = .ok (.istore_n 2, 1) := by decide +kernel
theorem dX7_plans_96 : decode cX7_plans 96 = .ok (.iconst 0, 1) := by decide +kernel
theorem dX7_plans_97 : decode cX7_plans 97 = .ok (.istore 6, 2) := by decide +kernel
theorem dX7_plans_99 : decode cX7_plans 99 = .ok (.iload 6, 2) := by decide +kernel
theorem dX7_plans_101 : decode cX7_plans 101 = .ok (.aload_n 0, 1) := by decide +kernel
theorem dX7_plans_102 : decode cX7_plans 102 = .ok (.getfield 139, 3) := by decide +kernel
theorem dX7_plans_105 : decode cX7_plans 105 = .ok (.if_icmp .ge 23, 3) := by decide +kernel
theorem dX7_plans_108 : decode cX7_plans 108 = .ok (.aload_n 0, 1) := by decide +kernel
theorem dX7_plans_109 : decode cX7_plans 109 = .ok (.getfield 86, 3) := by decide +kernel
theorem dX7_plans_112 : decode cX7_plans 112 = .ok (.iload 6, 2) := by decide +kernel
theorem dX7_plans_114 : decode cX7_plans 114 = .ok (.aload_n 0, 1) := by decide +kernel
theorem dX7_plans_115 : decode cX7_plans 115 = .ok (.getfield 89, 3) := by decide +kernel
theorem dX7_plans_118 : decode cX7_plans 118 = .ok (.iload 6, 2) := by decide +kernel
theorem dX7_plans_120 : decode cX7_plans 120 = .ok (.iaload, 1) := by decide +kernel
theorem dX7_plans_121 : decode cX7_plans 121 = .ok (.iastore, 1) := by decide +kernel
theorem dX7_plans_122 : decode cX7_plans 122 = .ok (.iinc 6 1, 3) := by decide +kernel
theorem dX7_plans_125 : decode cX7_plans 125 = .ok (.goto (-26), 3) := by decide +kernel
theorem dX7_plans_128 : decode cX7_plans 128 = .ok (.iinc 3 1, 3) := by decide +kernel
theorem dX7_plans_131 : decode cX7_plans 131 = .ok (.goto (-105), 3) := by decide +kernel
theorem dX7_plans_134 : decode cX7_plans 134 = .ok (.iload_n 2, 1) := by decide +kernel
theorem dX7_plans_135 : decode cX7_plans 135 = .ok (.ireturn, 1) := by decide +kernel
theorem dX7_night_0 : decode cX7_night 0 = .ok (.aload_n 0, 1) := by decide +kernel
theorem dX7_night_1 : decode cX7_night 1 = .ok (.aload_n 0, 1) := by decide +kernel
theorem dX7_night_2 : decode cX7_night 2 = .ok (.getfield 139, 3) := by decide +kernel
theorem dX7_night_5 : decode cX7_night 5 = .ok (.ifCond .eq 26, 3) := by decide +kernel
theorem dX7_night_8 : decode cX7_night 8 = .ok (.aload_n 0, 1) := by decide +kernel
theorem dX7_night_9 : decode cX7_night 9 = .ok (.getfield 92, 3) := by decide +kernel
theorem dX7_night_12 : decode cX7_night 12 = .ok (.iconst 0, 1) := by decide +kernel
theorem dX7_night_13 : decode cX7_night 13 = .ok (.iaload, 1) := by decide +kernel
theorem dX7_night_14 : decode cX7_night 14 = .ok (.aload_n 0, 1) := by decide +kernel
theorem dX7_night_15 : decode cX7_night 15 = .ok (.getfield 92, 3) := by decide +kernel
theorem dX7_night_18 : decode cX7_night 18 = .ok (.iconst 1, 1) := by decide +kernel
theorem dX7_night_19 : decode cX7_night 19 = .ok (.iaload, 1) := by decide +kernel
theorem dX7_night_20 : decode cX7_night 20 = .ok (.iadd, 1) := by decide +kernel
theorem dX7_night_21 : decode cX7_night 21 = .ok (.aload_n 0, 1) := by decide +kernel
theorem dX7_night_22 : decode cX7_night 22 = .ok (.getfield 92, 3) := by decide +kernel
theorem dX7_night_25 : decode cX7_night 25 = .ok (.iconst 2, 1) := by decide +kernel
theorem dX7_night_26 : decode cX7_night 26 = .ok (.iaload, 1) := by decide +kernel
theorem dX7_night_27 : decode cX7_night 27 = .ok (.iadd, 1) := by decide +kernel
theorem dX7_night_28 : decode cX7_night 28 = .ok (.ifCond .le 7, 3) := by decide +kernel
theorem dX7_night_31 : decode cX7_night 31 = .ok (.iconst 1, 1) := by decide +kernel
theorem dX7_night_32 : decode cX7_night 32 = .ok (.goto 4, 3) := by decide +kernel
theorem dX7_night_35 : decode cX7_night 35 = .ok (.iconst 0, 1) := by decide +kernel
theorem dX7_night_36 : decode cX7_night 36 = .ok (.putfield 98, 3) := by decide +kernel
theorem dX7_night_39 : decode cX7_night 39 = .ok (.aload_n 0, 1) := by decide +kernel
theorem dX7_night_40 : decode cX7_night 40 = .ok (.getfield 98, 3) := by decide +kernel
theorem dX7_night_43 : decode cX7_night 43 = .ok (.ifCond .le 5, 3) := by decide +kernel
theorem dX7_night_46 : decode cX7_night 46 = .ok (.iconst 0, 1) := by decide +kernel
theorem dX7_night_47 : decode cX7_night 47 = .ok (.ireturn, 1) := by decide +kernel
theorem dX7_night_48 : decode cX7_night 48 = .ok (.aload_n 0, 1) := by decide +kernel
theorem dX7_night_49 : decode cX7_night 49 = .ok (.invokevirtual 193, 3) := by decide +kernel
theorem dX7_night_52 : decode cX7_night 52 = .ok (.istore_n 1, 1) := by decide +kernel
theorem dX7_night_53 : decode cX7_night 53 = .ok (.iconst 0, 1) := by decide +kernel
theorem dX7_night_54 : decode cX7_night 54 = .ok (.istore_n 2, 1) := by decide +kernel
theorem dX7_night_55 : decode cX7_night 55 = .ok (.iload_n 2, 1) := by decide +kernel
theorem dX7_night_56 : decode cX7_night 56 = .ok (.aload_n 0, 1) := by decide +kernel
theorem dX7_night_57 : decode cX7_night 57 = .ok (.getfield 139, 3) := by decide +kernel
theorem dX7_night_60 : decode cX7_night 60 = .ok (.if_icmp .ge 67, 3) := by decide +kernel
theorem dX7_night_63 : decode cX7_night 63 = .ok (.aload_n 0, 1) := by decide +kernel
theorem dX7_night_64 : decode cX7_night 64 = .ok (.getfield 95, 3) := by decide +kernel
theorem dX7_night_67 : decode cX7_night 67 = .ok (.iconst 4, 1) := by decide +kernel
theorem dX7_night_68 : decode cX7_night 68 = .ok (.aload_n 0, 1) := by decide +kernel
theorem dX7_night_69 : decode cX7_night 69 = .ok (.getfield 86, 3) := by decide +kernel
theorem dX7_night_72 : decode cX7_night 72 = .ok (.iload_n 2, 1) := by decide +kernel
theorem dX7_night_73 : decode cX7_night 73 = .ok (.iaload, 1) := by decide +kernel
theorem dX7_night_74 : decode cX7_night 74 = .ok (.imul, 1) := by decide +kernel
theorem dX7_night_75 : decode cX7_night 75 = .ok (.aload_n 0, 1) := by decide +kernel
theorem dX7_night_76 : decode cX7_night 76 = .ok (.getfield 92, 3) := by decide +kernel
theorem dX7_night_79 : decode cX7_night 79 = .ok (.aload_n 0, 1) := by decide +kernel
theorem dX7_night_80 : decode cX7_night 80 = .ok (.getfield 86, 3) := by decide +kernel
theorem dX7_night_83 : decode cX7_night 83 = .ok (.iload_n 2, 1) := by decide +kernel
theorem dX7_night_84 : decode cX7_night 84 = .ok (.iaload, 1) := by decide +kernel
theorem dX7_night_85 : decode cX7_night 85 = .ok (.iaload, 1) := by decide +kernel
theorem dX7_night_86 : decode cX7_night 86 = .ok (.iadd, 1) := by decide +kernel
theorem dX7_night_87 : decode cX7_night 87 = .ok (.aload_n 0, 1) := by decide +kernel
theorem dX7_night_88 : decode cX7_night 88 = .ok (.getfield 80, 3) := by decide +kernel
theorem dX7_night_91 : decode cX7_night 91 = .ok (.iload_n 2, 1) := by decide +kernel
theorem dX7_night_92 : decode cX7_night 92 = .ok (.iaload, 1) := by decide +kernel
theorem dX7_night_93 : decode cX7_night 93 = .ok (.iastore, 1) := by decide +kernel
theorem dX7_night_94 : decode cX7_night 94 = .ok (.aload_n 0, 1) := by decide +kernel
theorem dX7_night_95 : decode cX7_night 95 = .ok (.getfield 92, 3) := by decide +kernel
theorem dX7_night_98 : decode cX7_night 98 = .ok (.aload_n 0, 1) := by decide +kernel
theorem dX7_night_99 : decode cX7_night 99 = .ok (.getfield 86, 3) := by decide +kernel
theorem dX7_night_102 : decode cX7_night 102 = .ok (.iload_n 2, 1) := by decide +kernel
theorem dX7_night_103 : decode cX7_night 103 = .ok (.iaload, 1) := by decide +kernel
theorem dX7_night_104 : decode cX7_night 104 = .ok (.dup2, 1) := by decide +kernel
theorem dX7_night_105 : decode cX7_night 105 = .ok (.iaload, 1) := by decide +kernel
theorem dX7_night_106 : decode cX7_night 106 = .ok (.iconst 1, 1) := by decide +kernel
theorem dX7_night_107 : decode cX7_night 107 = .ok (.iadd, 1) := by decide +kernel
theorem dX7_night_108 : decode cX7_night 108 = .ok (.iastore, 1) := by decide +kernel
theorem dX7_night_109 : decode cX7_night 109 = .ok (.aload_n 0, 1) := by decide +kernel
theorem dX7_night_110 : decode cX7_night 110 = .ok (.getfield 41, 3) := by decide +kernel
theorem dX7_night_113 : decode cX7_night 113 = .ok (.aload_n 0, 1) := by decide +kernel
theorem dX7_night_114 : decode cX7_night 114 = .ok (.getfield 80, 3) := by decide +kernel
theorem dX7_night_117 : decode cX7_night 117 = .ok (.iload_n 2, 1) := by decide +kernel
theorem dX7_night_118 : decode cX7_night 118 = .ok (.iaload, 1) := by decide +kernel
theorem dX7_night_119 : decode cX7_night 119 = .ok (.iconst 1, 1) := by decide +kernel
theorem dX7_night_120 : decode cX7_night 120 = .ok (.bastore, 1) := by decide +kernel
theorem dX7_night_121 : decode cX7_night 121 = .ok (.iinc 2 1, 3) := by decide +kernel
theorem dX7_night_124 : decode cX7_night 124 = .ok (.goto (-69), 3) := by decide +kernel
theorem dX7_night_127 : decode cX7_night 127 = .ok (.aload_n 0, 1) := by decide +kernel
theorem dX7_night_128 : decode cX7_night 128 = .ok (.iconst 0, 1) := by decide +kernel
theorem dX7_night_129 : decode cX7_night 129 = .ok (.putfield 139, 3) := by decide +kernel
theorem dX7_night_132 : decode cX7_night 132 = .ok (.iload_n 1, 1) := by decide +kernel
theorem dX7_night_133 : decode cX7_night 133 = .ok (.ireturn, 1) := by decide +kernel
theorem dX7_out_0 : decode cX7_out 0 = .ok (.iconst (-1), 1) := by decide +kernel
theorem dX7_out_1 : decode cX7_out 1 = .ok (.istore_n 1, 1) := by decide +kernel
theorem dX7_out_2 : decode cX7_out 2 = .ok (.iconst 0, 1) := by decide +kernel
theorem dX7_out_3 : decode cX7_out 3 = .ok (.istore_n 2, 1) := by decide +kernel
theorem dX7_out_4 : decode cX7_out 4 = .ok (.iconst 0, 1) := by decide +kernel
theorem dX7_out_5 : decode cX7_out 5 = .ok (.istore_n 3, 1) := by decide +kernel
theorem dX7_out_6 : decode cX7_out 6 = .ok (.iload_n 3, 1) := by decide +kernel
theorem dX7_out_7 : decode cX7_out 7 = .ok (.iconst 3, 1) := by decide +kernel
theorem dX7_out_8 : decode cX7_out 8 = .ok (.if_icmp .ge 98, 3) := by decide +kernel
theorem dX7_out_11 : decode cX7_out 11 = .ok (.iconst 0, 1) := by decide +kernel
theorem dX7_out_12 : decode cX7_out 12 = .ok (.istore 4, 2) := by decide +kernel
theorem dX7_out_14 : decode cX7_out 14 = .ok (.iload 4, 2) := by decide +kernel
theorem dX7_out_16 : decode cX7_out 16 = .ok (.aload_n 0, 1) := by decide +kernel
theorem dX7_out_17 : decode cX7_out 17 = .ok (.getfield 92, 3) := by decide +kernel
theorem dX7_out_20 : decode cX7_out 20 = .ok (.iload_n 3, 1) := by decide +kernel
theorem dX7_out_21 : decode cX7_out 21 = .ok (.iaload, 1) := by decide +kernel
theorem dX7_out_22 : decode cX7_out 22 = .ok (.if_icmp .ge 78, 3) := by decide +kernel
theorem dX7_out_25 : decode cX7_out 25 = .ok (.iload_n 1, 1) := by decide +kernel
theorem dX7_out_26 : decode cX7_out 26 = .ok (.iconst (-1), 1) := by decide +kernel
theorem dX7_out_27 : decode cX7_out 27 = .ok (.if_icmp .eq 37, 3) := by decide +kernel
theorem dX7_out_30 : decode cX7_out 30 = .ok (.aload_n 0, 1) := by decide +kernel
theorem dX7_out_31 : decode cX7_out 31 = .ok (.getfield 83, 3) := by decide +kernel
theorem dX7_out_34 : decode cX7_out 34 = .ok (.aload_n 0, 1) := by decide +kernel
theorem dX7_out_35 : decode cX7_out 35 = .ok (.getfield 95, 3) := by decide +kernel
theorem dX7_out_38 : decode cX7_out 38 = .ok (.iconst 4, 1) := by decide +kernel
theorem dX7_out_39 : decode cX7_out 39 = .ok (.iload_n 3, 1) := by decide +kernel
theorem dX7_out_40 : decode cX7_out 40 = .ok (.imul, 1) := by decide +kernel
theorem dX7_out_41 : decode cX7_out 41 = .ok (.iload 4, 2) := by decide +kernel
theorem dX7_out_43 : decode cX7_out 43 = .ok (.iadd, 1) := by decide +kernel
theorem dX7_out_44 : decode cX7_out 44 = .ok (.iaload, 1) := by decide +kernel
theorem dX7_out_45 : decode cX7_out 45 = .ok (.iaload, 1) := by decide +kernel
theorem dX7_out_46 : decode cX7_out 46 = .ok (.aload_n 0, 1) := by decide +kernel
theorem dX7_out_47 : decode cX7_out 47 = .ok (.getfield 83, 3) := by decide +kernel
theorem dX7_out_50 : decode cX7_out 50 = .ok (.aload_n 0, 1) := by decide +kernel
theorem dX7_out_51 : decode cX7_out 51 = .ok (.getfield 95, 3) := by decide +kernel
theorem dX7_out_54 : decode cX7_out 54 = .ok (.iconst 4, 1) := by decide +kernel
theorem dX7_out_55 : decode cX7_out 55 = .ok (.iload_n 1, 1) := by decide +kernel
theorem dX7_out_56 : decode cX7_out 56 = .ok (.imul, 1) := by decide +kernel
theorem dX7_out_57 : decode cX7_out 57 = .ok (.iload_n 2, 1) := by decide +kernel
theorem dX7_out_58 : decode cX7_out 58 = .ok (.iadd, 1) := by decide +kernel
theorem dX7_out_59 : decode cX7_out 59 = .ok (.iaload, 1) := by decide +kernel
theorem dX7_out_60 : decode cX7_out 60 = .ok (.iaload, 1) := by decide +kernel
theorem dX7_out_61 : decode cX7_out 61 = .ok (.if_icmp .ge 7, 3) := by decide +kernel
theorem dX7_out_64 : decode cX7_out 64 = .ok (.iconst 1, 1) := by decide +kernel
theorem dX7_out_65 : decode cX7_out 65 = .ok (.goto 4, 3) := by decide +kernel
theorem dX7_out_68 : decode cX7_out 68 = .ok (.iconst 0, 1) := by decide +kernel
theorem dX7_out_69 : decode cX7_out 69 = .ok (.istore 5, 2) := by decide +kernel
theorem dX7_out_71 : decode cX7_out 71 = .ok (.iload 5, 2) := by decide +kernel
theorem dX7_out_73 : decode cX7_out 73 = .ok (.ifCond .eq 8, 3) := by decide +kernel
theorem dX7_out_76 : decode cX7_out 76 = .ok (.iload 4, 2) := by decide +kernel
theorem dX7_out_78 : decode cX7_out 78 = .ok (.goto 4, 3) := by decide +kernel
theorem dX7_out_81 : decode cX7_out 81 = .ok (.iload_n 2, 1) := by decide +kernel
theorem dX7_out_82 : decode cX7_out 82 = .ok (.istore_n 2, 1) := by decide +kernel
theorem dX7_out_83 : decode cX7_out 83 = .ok (.iload 5, 2) := by decide +kernel
theorem dX7_out_85 : decode cX7_out 85 = .ok (.ifCond .eq 7, 3) := by decide +kernel
theorem dX7_out_88 : decode cX7_out 88 = .ok (.iload_n 3, 1) := by decide +kernel
theorem dX7_out_89 : decode cX7_out 89 = .ok (.goto 4, 3) := by decide +kernel
theorem dX7_out_92 : decode cX7_out 92 = .ok (.iload_n 1, 1) := by decide +kernel
theorem dX7_out_93 : decode cX7_out 93 = .ok (.istore_n 1, 1) := by decide +kernel
theorem dX7_out_94 : decode cX7_out 94 = .ok (.iinc 4 1, 3) := by decide +kernel
theorem dX7_out_97 : decode cX7_out 97 = .ok (.goto (-83), 3) := by decide +kernel
theorem dX7_out_100 : decode cX7_out 100 = .ok (.iinc 3 1, 3) := by decide +kernel
theorem dX7_out_103 : decode cX7_out 103 = .ok (.goto (-97), 3) := by decide +kernel
theorem dX7_out_106 : decode cX7_out 106 = .ok (.aload_n 0, 1) := by decide +kernel
theorem dX7_out_107 : decode cX7_out 107 = .ok (.iload_n 1, 1) := by decide +kernel
theorem dX7_out_108 : decode cX7_out 108 = .ok (.iconst (-1), 1) := by decide +kernel
theorem dX7_out_109 : decode cX7_out 109 = .ok (.if_icmp .ne 7, 3) := by decide +kernel
theorem dX7_out_112 : decode cX7_out 112 = .ok (.iconst 1, 1) := by decide +kernel
theorem dX7_out_113 : decode cX7_out 113 = .ok (.goto 4, 3) := by decide +kernel
theorem dX7_out_116 : decode cX7_out 116 = .ok (.iconst 0, 1) := by decide +kernel
theorem dX7_out_117 : decode cX7_out 117 = .ok (.putfield 98, 3) := by decide +kernel
theorem dX7_out_120 : decode cX7_out 120 = .ok (.aload_n 0, 1) := by decide +kernel
theorem dX7_out_121 : decode cX7_out 121 = .ok (.getfield 98, 3) := by decide +kernel
theorem dX7_out_124 : decode cX7_out 124 = .ok (.ifCond .le 5, 3) := by decide +kernel
theorem dX7_out_127 : decode cX7_out 127 = .ok (.iconst 0, 1) := by decide +kernel
theorem dX7_out_128 : decode cX7_out 128 = .ok (.ireturn, 1) := by decide +kernel
theorem dX7_out_129 : decode cX7_out 129 = .ok (.aload_n 0, 1) := by decide +kernel
theorem dX7_out_130 : decode cX7_out 130 = .ok (.getfield 41, 3) := by decide +kernel
theorem dX7_out_133 : decode cX7_out 133 = .ok (.aload_n 0, 1) := by decide +kernel
theorem dX7_out_134 : decode cX7_out 134 = .ok (.getfield 95, 3) := by decide +kernel
theorem dX7_out_137 : decode cX7_out 137 = .ok (.iconst 4, 1) := by decide +kernel
theorem dX7_out_138 : decode cX7_out 138 = .ok (.iload_n 1, 1) := by decide +kernel
theorem dX7_out_139 : decode cX7_out 139 = .ok (.imul, 1) := by decide +kernel
theorem dX7_out_140 : decode cX7_out 140 = .ok (.iload_n 2, 1) := by decide +kernel
theorem dX7_out_141 : decode cX7_out 141 = .ok (.iadd, 1) := by decide +kernel
theorem dX7_out_142 : decode cX7_out 142 = .ok (.iaload, 1) := by decide +kernel
theorem dX7_out_143 : decode cX7_out 143 = .ok (.iconst 0, 1) := by decide +kernel
theorem dX7_out_144 : decode cX7_out 144 = .ok (.bastore, 1) := by decide +kernel
theorem dX7_out_145 : decode cX7_out 145 = .ok (.aload_n 0, 1) := by decide +kernel
theorem dX7_out_146 : decode cX7_out 146 = .ok (.getfield 92, 3) := by decide +kernel
theorem dX7_out_149 : decode cX7_out 149 = .ok (.iload_n 1, 1) := by decide +kernel
theorem dX7_out_150 : decode cX7_out 150 = .ok (.iaload, 1) := by decide +kernel
theorem dX7_out_151 : decode cX7_out 151 = .ok (.iconst 1, 1) := by decide +kernel
theorem dX7_out_152 : decode cX7_out 152 = .ok (.isub, 1) := by decide +kernel
theorem dX7_out_153 : decode cX7_out 153 = .ok (.iload_n 2, 1) := by decide +kernel
theorem dX7_out_154 : decode cX7_out 154 = .ok (.isub, 1) := by decide +kernel
theorem dX7_out_155 : decode cX7_out 155 = .ok (.istore_n 3, 1) := by decide +kernel
theorem dX7_out_156 : decode cX7_out 156 = .ok (.iload_n 2, 1) := by decide +kernel
theorem dX7_out_157 : decode cX7_out 157 = .ok (.istore 4, 2) := by decide +kernel
theorem dX7_out_159 : decode cX7_out 159 = .ok (.iload 4, 2) := by decide +kernel
theorem dX7_out_161 : decode cX7_out 161 = .ok (.iconst 1, 1) := by decide +kernel
theorem dX7_out_162 : decode cX7_out 162 = .ok (.iadd, 1) := by decide +kernel
theorem dX7_out_163 : decode cX7_out 163 = .ok (.aload_n 0, 1) := by decide +kernel
theorem dX7_out_164 : decode cX7_out 164 = .ok (.getfield 92, 3) := by decide +kernel
theorem dX7_out_167 : decode cX7_out 167 = .ok (.iload_n 1, 1) := by decide +kernel
theorem dX7_out_168 : decode cX7_out 168 = .ok (.iaload, 1) := by decide +kernel
theorem dX7_out_169 : decode cX7_out 169 = .ok (.if_icmp .ge 33, 3) := by decide +kernel
theorem dX7_out_172 : decode cX7_out 172 = .ok (.aload_n 0, 1) := by decide +kernel
theorem dX7_out_173 : decode cX7_out 173 = .ok (.getfield 95, 3) := by decide +kernel
theorem dX7_out_176 : decode cX7_out 176 = .ok (.iconst 4, 1) := by decide +kernel
theorem dX7_out_177 : decode cX7_out 177 = .ok (.iload_n 1, 1) := by decide +kernel
theorem dX7_out_178 : decode cX7_out 178 = .ok (.imul, 1) := by decide +kernel
theorem dX7_out_179 : decode cX7_out 179 = .ok (.iload 4, 2) := by decide +kernel
theorem dX7_out_181 : decode cX7_out 181 = .ok (.iadd, 1) := by decide +kernel
theorem dX7_out_182 : decode cX7_out 182 = .ok (.aload_n 0, 1) := by decide +kernel
theorem dX7_out_183 : decode cX7_out 183 = .ok (.getfield 95, 3) := by decide +kernel
theorem dX7_out_186 : decode cX7_out 186 = .ok (.iconst 4, 1) := by decide +kernel
theorem dX7_out_187 : decode cX7_out 187 = .ok (.iload_n 1, 1) := by decide +kernel
theorem dX7_out_188 : decode cX7_out 188 = .ok (.imul, 1) := by decide +kernel
theorem dX7_out_189 : decode cX7_out 189 = .ok (.iload 4, 2) := by decide +kernel
theorem dX7_out_191 : decode cX7_out 191 = .ok (.iadd, 1) := by decide +kernel
theorem dX7_out_192 : decode cX7_out 192 = .ok (.iconst 1, 1) := by decide +kernel
theorem dX7_out_193 : decode cX7_out 193 = .ok (.iadd, 1) := by decide +kernel
theorem dX7_out_194 : decode cX7_out 194 = .ok (.iaload, 1) := by decide +kernel
theorem dX7_out_195 : decode cX7_out 195 = .ok (.iastore, 1) := by decide +kernel
theorem dX7_out_196 : decode cX7_out 196 = .ok (.iinc 4 1, 3) := by decide +kernel
theorem dX7_out_199 : decode cX7_out 199 = .ok (.goto (-40), 3) := by decide +kernel
theorem dX7_out_202 : decode cX7_out 202 = .ok (.aload_n 0, 1) := by decide +kernel
theorem dX7_out_203 : decode cX7_out 203 = .ok (.getfield 92, 3) := by decide +kernel
theorem dX7_out_206 : decode cX7_out 206 = .ok (.iload_n 1, 1) := by decide +kernel
theorem dX7_out_207 : decode cX7_out 207 = .ok (.dup2, 1) := by decide +kernel
theorem dX7_out_208 : decode cX7_out 208 = .ok (.iaload, 1) := by decide +kernel
theorem dX7_out_209 : decode cX7_out 209 = .ok (.iconst 1, 1) := by decide +kernel
theorem dX7_out_210 : decode cX7_out 210 = .ok (.isub, 1) := by decide +kernel
theorem dX7_out_211 : decode cX7_out 211 = .ok (.iastore, 1) := by decide +kernel
theorem dX7_out_212 : decode cX7_out 212 = .ok (.iload_n 3, 1) := by decide +kernel
theorem dX7_out_213 : decode cX7_out 213 = .ok (.ireturn, 1) := by decide +kernel
theorem dX7_host_0 : decode cX7_host 0 = .ok (.aload_n 0, 1) := by decide +kernel
theorem dX7_host_1 : decode cX7_host 1 = .ok (.aload_n 0, 1) := by decide +kernel
theorem dX7_host_2 : decode cX7_host 2 = .ok (.iload_n 1, 1) := by decide +kernel
theorem dX7_host_3 : decode cX7_host 3 = .ok (.invokevirtual 109, 3) := by decide +kernel
theorem dX7_host_6 : decode cX7_host 6 = .ok (.ifCond .eq 7, 3) := by decide +kernel
theorem dX7_host_9 : decode cX7_host 9 = .ok (.iconst 0, 1) := by decide +kernel
theorem dX7_host_10 : decode cX7_host 10 = .ok (.goto 4, 3) := by decide +kernel
theorem dX7_host_13 : decode cX7_host 13 = .ok (.iconst 1, 1) := by decide +kernel
theorem dX7_host_14 : decode cX7_host 14 = .ok (.putfield 98, 3) := by decide +kernel
theorem dX7_host_17 : decode cX7_host 17 = .ok (.aload_n 0, 1) := by decide +kernel
theorem dX7_host_18 : decode cX7_host 18 = .ok (.getfield 98, 3) := by decide +kernel
theorem dX7_host_21 : decode cX7_host 21 = .ok (.ifCond .le 7, 3) := by decide +kernel
theorem dX7_host_24 : decode cX7_host 24 = .ok (.iconst 0, 1) := by decide +kernel
theorem dX7_host_25 : decode cX7_host 25 = .ok (.goto 9, 3) := by decide +kernel
theorem dX7_host_28 : decode cX7_host 28 = .ok (.aload_n 0, 1) := by decide +kernel
theorem dX7_host_29 : decode cX7_host 29 = .ok (.getfield 19, 3) := by decide +kernel
theorem dX7_host_32 : decode cX7_host 32 = .ok (.iload_n 1, 1) := by decide +kernel
theorem dX7_host_33 : decode cX7_host 33 = .ok (.iaload, 1) := by decide +kernel
theorem dX7_host_34 : decode cX7_host 34 = .ok (.ireturn, 1) := by decide +kernel
theorem dX7_head_0 : decode cX7_head 0 = .ok (.aload_n 0, 1) := by decide +kernel
theorem dX7_head_1 : decode cX7_head 1 = .ok (.aload_n 0, 1) := by decide +kernel
theorem dX7_head_2 : decode cX7_head 2 = .ok (.iload_n 1, 1) := by decide +kernel
theorem dX7_head_3 : decode cX7_head 3 = .ok (.invokevirtual 109, 3) := by decide +kernel
theorem dX7_head_6 : decode cX7_head 6 = .ok (.ifCond .eq 7, 3) := by decide +kernel
theorem dX7_head_9 : decode cX7_head 9 = .ok (.iconst 0, 1) := by decide +kernel
theorem dX7_head_10 : decode cX7_head 10 = .ok (.goto 4, 3) := by decide +kernel
theorem dX7_head_13 : decode cX7_head 13 = .ok (.iconst 1, 1) := by decide +kernel
theorem dX7_head_14 : decode cX7_head 14 = .ok (.putfield 98, 3) := by decide +kernel
theorem dX7_head_17 : decode cX7_head 17 = .ok (.aload_n 0, 1) := by decide +kernel
theorem dX7_head_18 : decode cX7_head 18 = .ok (.getfield 98, 3) := by decide +kernel
theorem dX7_head_21 : decode cX7_head 21 = .ok (.ifCond .le 7, 3) := by decide +kernel
theorem dX7_head_24 : decode cX7_head 24 = .ok (.iconst 0, 1) := by decide +kernel
theorem dX7_head_25 : decode cX7_head 25 = .ok (.goto 8, 3) := by decide +kernel
theorem dX7_head_28 : decode cX7_head 28 = .ok (.aload_n 0, 1) := by decide +kernel
theorem dX7_head_29 : decode cX7_head 29 = .ok (.iload_n 1, 1) := by decide +kernel
theorem dX7_head_30 : decode cX7_head 30 = .ok (.invokevirtual 114, 3) := by decide +kernel
theorem dX7_head_33 : decode cX7_head 33 = .ok (.ireturn, 1) := by decide +kernel
theorem dX7_movesOfPart_0 : decode cX7_movesOfPart 0 = .ok (.iconst 0, 1) := by decide +kernel
theorem dX7_movesOfPart_1 : decode cX7_movesOfPart 1 = .ok (.istore_n 2, 1) := by decide +kernel
theorem dX7_movesOfPart_2 : decode cX7_movesOfPart 2 = .ok (.iconst 0, 1) := by decide +kernel
theorem dX7_movesOfPart_3 : decode cX7_movesOfPart 3 = .ok (.istore_n 3, 1) := by decide +kernel
theorem dX7_movesOfPart_4 : decode cX7_movesOfPart 4 = .ok (.iload_n 3, 1) := by decide +kernel
theorem dX7_movesOfPart_5 : decode cX7_movesOfPart 5 = .ok (.aload_n 0, 1) := by decide +kernel
theorem dX7_movesOfPart_6 : decode cX7_movesOfPart 6 = .ok (.getfield 118, 3) := by decide +kernel
theorem dX7_movesOfPart_9 : decode cX7_movesOfPart 9 = .ok (.if_icmp .ge 27, 3) := by decide +kernel
theorem dX7_movesOfPart_12 : decode cX7_movesOfPart 12 = .ok (.iload_n 2, 1) := by decide +kernel
theorem dX7_movesOfPart_13 : decode cX7_movesOfPart 13 = .ok (.aload_n 0, 1) := by decide +kernel
theorem dX7_movesOfPart_14 : decode cX7_movesOfPart 14 = .ok (.getfield 74, 3) := by decide +kernel
theorem dX7_movesOfPart_17 : decode cX7_movesOfPart 17 = .ok (.iload_n 3, 1) := by decide +kernel
theorem dX7_movesOfPart_18 : decode cX7_movesOfPart 18 = .ok (.iaload, 1) := by decide +kernel
theorem dX7_movesOfPart_19 : decode cX7_movesOfPart 19 = .ok (.iload_n 1, 1) := by decide +kernel
theorem dX7_movesOfPart_20 : decode cX7_movesOfPart 20 = .ok (.if_icmp .ne 7, 3) := by decide +kernel
theorem dX7_movesOfPart_23 : decode cX7_movesOfPart 23 = .ok (.iconst 1, 1) := by decide +kernel
theorem dX7_movesOfPart_24 : decode cX7_movesOfPart 24 = .ok (.goto 4, 3) := by decide +kernel
theorem dX7_movesOfPart_27 : decode cX7_movesOfPart 27 = .ok (.iconst 0, 1) := by decide +kernel
theorem dX7_movesOfPart_28 : decode cX7_movesOfPart 28 = .ok (.iadd, 1) := by decide +kernel
theorem dX7_movesOfPart_29 : decode cX7_movesOfPart 29 = .ok (.istore_n 2, 1) := by decide +kernel
theorem dX7_movesOfPart_30 : decode cX7_movesOfPart 30 = .ok (.iinc 3 1, 3) := by decide +kernel
theorem dX7_movesOfPart_33 : decode cX7_movesOfPart 33 = .ok (.goto (-29), 3) := by decide +kernel
theorem dX7_movesOfPart_36 : decode cX7_movesOfPart 36 = .ok (.iload_n 2, 1) := by decide +kernel
theorem dX7_movesOfPart_37 : decode cX7_movesOfPart 37 = .ok (.ireturn, 1) := by decide +kernel
theorem dX7_ofPart_0 : decode cX7_ofPart 0 = .ok (.aload_n 0, 1) := by decide +kernel
theorem dX7_ofPart_1 : decode cX7_ofPart 1 = .ok (.aload_n 0, 1) := by decide +kernel
theorem dX7_ofPart_2 : decode cX7_ofPart 2 = .ok (.iload_n 1, 1) := by decide +kernel
theorem dX7_ofPart_3 : decode cX7_ofPart 3 = .ok (.invokevirtual 109, 3) := by decide +kernel
theorem dX7_ofPart_6 : decode cX7_ofPart 6 = .ok (.ifCond .ne 7, 3) := by decide +kernel
theorem dX7_ofPart_9 : decode cX7_ofPart 9 = .ok (.iconst 1, 1) := by decide +kernel
theorem dX7_ofPart_10 : decode cX7_ofPart 10 = .ok (.goto 18, 3) := by decide +kernel
theorem dX7_ofPart_13 : decode cX7_ofPart 13 = .ok (.iload_n 2, 1) := by decide +kernel
theorem dX7_ofPart_14 : decode cX7_ofPart 14 = .ok (.iconst 0, 1) := by decide +kernel
theorem dX7_ofPart_15 : decode cX7_ofPart 15 = .ok (.bipush 8, 2) := by decide +kernel
theorem dX7_ofPart_17 : decode cX7_ofPart 17 = .ok (.invokestatic 105, 3) := by decide +kernel
theorem dX7_ofPart_20 : decode cX7_ofPart 20 = .ok (.ifCond .eq 7, 3) := by decide +kernel
theorem dX7_ofPart_23 : decode cX7_ofPart 23 = .ok (.iconst 0, 1) := by decide +kernel
theorem dX7_ofPart_24 : decode cX7_ofPart 24 = .ok (.goto 4, 3) := by decide +kernel
theorem dX7_ofPart_27 : decode cX7_ofPart 27 = .ok (.iconst 2, 1) := by decide +kernel
theorem dX7_ofPart_28 : decode cX7_ofPart 28 = .ok (.putfield 98, 3) := by decide +kernel
theorem dX7_ofPart_31 : decode cX7_ofPart 31 = .ok (.aload_n 0, 1) := by decide +kernel
theorem dX7_ofPart_32 : decode cX7_ofPart 32 = .ok (.getfield 98, 3) := by decide +kernel
theorem dX7_ofPart_35 : decode cX7_ofPart 35 = .ok (.ifCond .le 5, 3) := by decide +kernel
theorem dX7_ofPart_38 : decode cX7_ofPart 38 = .ok (.iconst 0, 1) := by decide +kernel
theorem dX7_ofPart_39 : decode cX7_ofPart 39 = .ok (.ireturn, 1) := by decide +kernel
theorem dX7_ofPart_40 : decode cX7_ofPart 40 = .ok (.iload_n 2, 1) := by decide +kernel
theorem dX7_ofPart_41 : decode cX7_ofPart 41 = .ok (.iconst 3, 1) := by decide +kernel
theorem dX7_ofPart_42 : decode cX7_ofPart 42 = .ok (.if_icmp .ge 37, 3) := by decide +kernel
theorem dX7_ofPart_45 : decode cX7_ofPart 45 = .ok (.iload_n 2, 1) := by decide +kernel
theorem dX7_ofPart_46 : decode cX7_ofPart 46 = .ok (.ifCond .ne 12, 3) := by decide +kernel
theorem dX7_ofPart_49 : decode cX7_ofPart 49 = .ok (.aload_n 0, 1) := by decide +kernel
theorem dX7_ofPart_50 : decode cX7_ofPart 50 = .ok (.getfield 7, 3) := by decide +kernel
theorem dX7_ofPart_53 : decode cX7_ofPart 53 = .ok (.iload_n 1, 1) := by decide +kernel
theorem dX7_ofPart_54 : decode cX7_ofPart 54 = .ok (.iaload, 1) := by decide +kernel
theorem dX7_ofPart_55 : decode cX7_ofPart 55 = .ok (.goto 23, 3) := by decide +kernel
theorem dX7_ofPart_58 : decode cX7_ofPart 58 = .ok (.iload_n 2, 1) := by decide +kernel
theorem dX7_ofPart_59 : decode cX7_ofPart 59 = .ok (.iconst 1, 1) := by decide +kernel
theorem dX7_ofPart_60 : decode cX7_ofPart 60 = .ok (.if_icmp .ne 12, 3) := by decide +kernel
theorem dX7_ofPart_63 : decode cX7_ofPart 63 = .ok (.aload_n 0, 1) := by decide +kernel
theorem dX7_ofPart_64 : decode cX7_ofPart 64 = .ok (.getfield 13, 3) := by decide +kernel
theorem dX7_ofPart_67 : decode cX7_ofPart 67 = .ok (.iload_n 1, 1) := by decide +kernel
theorem dX7_ofPart_68 : decode cX7_ofPart 68 = .ok (.iaload, 1) := by decide +kernel
theorem dX7_ofPart_69 : decode cX7_ofPart 69 = .ok (.goto 9, 3) := by decide +kernel
theorem dX7_ofPart_72 : decode cX7_ofPart 72 = .ok (.aload_n 0, 1) := by decide +kernel
theorem dX7_ofPart_73 : decode cX7_ofPart 73 = .ok (.getfield 16, 3) := by decide +kernel
theorem dX7_ofPart_76 : decode cX7_ofPart 76 = .ok (.iload_n 1, 1) := by decide +kernel
theorem dX7_ofPart_77 : decode cX7_ofPart 77 = .ok (.iaload, 1) := by decide +kernel
theorem dX7_ofPart_78 : decode cX7_ofPart 78 = .ok (.ireturn, 1) := by decide +kernel
theorem dX7_ofPart_79 : decode cX7_ofPart 79 = .ok (.iload_n 2, 1) := by decide +kernel
theorem dX7_ofPart_80 : decode cX7_ofPart 80 = .ok (.bipush 6, 2) := by decide +kernel
theorem dX7_ofPart_82 : decode cX7_ofPart 82 = .ok (.if_icmp .ge 38, 3) := by decide +kernel
theorem dX7_ofPart_85 : decode cX7_ofPart 85 = .ok (.iload_n 2, 1) := by decide +kernel
theorem dX7_ofPart_86 : decode cX7_ofPart 86 = .ok (.iconst 3, 1) := by decide +kernel
theorem dX7_ofPart_87 : decode cX7_ofPart 87 = .ok (.if_icmp .ne 12, 3) := by decide +kernel
theorem dX7_ofPart_90 : decode cX7_ofPart 90 = .ok (.aload_n 0, 1) := by decide +kernel
theorem dX7_ofPart_91 : decode cX7_ofPart 91 = .ok (.getfield 22, 3) := by decide +kernel
theorem dX7_ofPart_94 : decode cX7_ofPart 94 = .ok (.iload_n 1, 1) := by decide +kernel
theorem dX7_ofPart_95 : decode cX7_ofPart 95 = .ok (.iaload, 1) := by decide +kernel
theorem dX7_ofPart_96 : decode cX7_ofPart 96 = .ok (.goto 23, 3) := by decide +kernel
theorem dX7_ofPart_99 : decode cX7_ofPart 99 = .ok (.iload_n 2, 1) := by decide +kernel
theorem dX7_ofPart_100 : decode cX7_ofPart 100 = .ok (.iconst 4, 1) := by decide +kernel
theorem dX7_ofPart_101 : decode cX7_ofPart 101 = .ok (.if_icmp .ne 12, 3) := by decide +kernel
theorem dX7_ofPart_104 : decode cX7_ofPart 104 = .ok (.aload_n 0, 1) := by decide +kernel
theorem dX7_ofPart_105 : decode cX7_ofPart 105 = .ok (.getfield 25, 3) := by decide +kernel
theorem dX7_ofPart_108 : decode cX7_ofPart 108 = .ok (.iload_n 1, 1) := by decide +kernel
theorem dX7_ofPart_109 : decode cX7_ofPart 109 = .ok (.iaload, 1) := by decide +kernel
theorem dX7_ofPart_110 : decode cX7_ofPart 110 = .ok (.goto 9, 3) := by decide +kernel
theorem dX7_ofPart_113 : decode cX7_ofPart 113 = .ok (.aload_n 0, 1) := by decide +kernel
theorem dX7_ofPart_114 : decode cX7_ofPart 114 = .ok (.getfield 28, 3) := by decide +kernel
theorem dX7_ofPart_117 : decode cX7_ofPart 117 = .ok (.iload_n 1, 1) := by decide +kernel
theorem dX7_ofPart_118 : decode cX7_ofPart 118 = .ok (.iaload, 1) := by decide +kernel
theorem dX7_ofPart_119 : decode cX7_ofPart 119 = .ok (.ireturn, 1) := by decide +kernel
theorem dX7_ofPart_120 : decode cX7_ofPart 120 = .ok (.iload_n 2, 1) := by decide +kernel
theorem dX7_ofPart_121 : decode cX7_ofPart 121 = .ok (.bipush 6, 2) := by decide +kernel
theorem dX7_ofPart_123 : decode cX7_ofPart 123 = .ok (.if_icmp .ne 20, 3) := by decide +kernel
theorem dX7_ofPart_126 : decode cX7_ofPart 126 = .ok (.aload_n 0, 1) := by decide +kernel
theorem dX7_ofPart_127 : decode cX7_ofPart 127 = .ok (.getfield 31, 3) := by decide +kernel
theorem dX7_ofPart_130 : decode cX7_ofPart 130 = .ok (.iload_n 1, 1) := by decide +kernel
theorem dX7_ofPart_131 : decode cX7_ofPart 131 = .ok (.baload, 1) := by decide +kernel
theorem dX7_ofPart_132 : decode cX7_ofPart 132 = .ok (.ifCond .eq 7, 3) := by decide +kernel
theorem dX7_ofPart_135 : decode cX7_ofPart 135 = .ok (.iconst 1, 1) := by decide +kernel
theorem dX7_ofPart_136 : decode cX7_ofPart 136 = .ok (.goto 35, 3) := by decide +kernel
theorem dX7_ofPart_139 : decode cX7_ofPart 139 = .ok (.iconst 0, 1) := by decide +kernel
theorem dX7_ofPart_140 : decode cX7_ofPart 140 = .ok (.goto 31, 3) := by decide +kernel
theorem dX7_ofPart_143 : decode cX7_ofPart 143 = .ok (.iload_n 2, 1) := by decide +kernel
theorem dX7_ofPart_144 : decode cX7_ofPart 144 = .ok (.bipush 7, 2) := by decide +kernel
theorem dX7_ofPart_146 : decode cX7_ofPart 146 = .ok (.if_icmp .ne 20, 3) := by decide +kernel
theorem dX7_ofPart_149 : decode cX7_ofPart 149 = .ok (.aload_n 0, 1) := by decide +kernel
theorem dX7_ofPart_150 : decode cX7_ofPart 150 = .ok (.getfield 35, 3) := by decide +kernel
theorem dX7_ofPart_153 : decode cX7_ofPart 153 = .ok (.iload_n 1, 1) := by decide +kernel
theorem dX7_ofPart_154 : decode cX7_ofPart 154 = .ok (.baload, 1) := by decide +kernel
theorem dX7_ofPart_155 : decode cX7_ofPart 155 = .ok (.ifCond .eq 7, 3) := by decide +kernel
theorem dX7_ofPart_158 : decode cX7_ofPart 158 = .ok (.iconst 1, 1) := by decide +kernel
theorem dX7_ofPart_159 : decode cX7_ofPart 159 = .ok (.goto 12, 3) := by decide +kernel
theorem dX7_ofPart_162 : decode cX7_ofPart 162 = .ok (.iconst 0, 1) := by decide +kernel
theorem dX7_ofPart_163 : decode cX7_ofPart 163 = .ok (.goto 8, 3) := by decide +kernel
theorem dX7_ofPart_166 : decode cX7_ofPart 166 = .ok (.aload_n 0, 1) := by decide +kernel
theorem dX7_ofPart_167 : decode cX7_ofPart 167 = .ok (.iload_n 1, 1) := by decide +kernel
theorem dX7_ofPart_168 : decode cX7_ofPart 168 = .ok (.invokevirtual 196, 3) := by decide +kernel
theorem dX7_ofPart_171 : decode cX7_ofPart 171 = .ok (.ireturn, 1) := by decide +kernel
theorem dX7_trace_0 : decode cX7_trace 0 = .ok (.aload_n 0, 1) := by decide +kernel
theorem dX7_trace_1 : decode cX7_trace 1 = .ok (.aload_n 0, 1) := by decide +kernel
theorem dX7_trace_2 : decode cX7_trace 2 = .ok (.iload_n 1, 1) := by decide +kernel
theorem dX7_trace_3 : decode cX7_trace 3 = .ok (.invokevirtual 109, 3) := by decide +kernel
theorem dX7_trace_6 : decode cX7_trace 6 = .ok (.ifCond .eq 22, 3) := by decide +kernel
theorem dX7_trace_9 : decode cX7_trace 9 = .ok (.iload_n 2, 1) := by decide +kernel
theorem dX7_trace_10 : decode cX7_trace 10 = .ok (.iconst 0, 1) := by decide +kernel
theorem dX7_trace_11 : decode cX7_trace 11 = .ok (.aload_n 0, 1) := by decide +kernel
theorem dX7_trace_12 : decode cX7_trace 12 = .ok (.iload_n 1, 1) := by decide +kernel
theorem dX7_trace_13 : decode cX7_trace 13 = .ok (.invokevirtual 196, 3) := by decide +kernel
theorem dX7_trace_16 : decode cX7_trace 16 = .ok (.iconst 1, 1) := by decide +kernel
theorem dX7_trace_17 : decode cX7_trace 17 = .ok (.isub, 1) := by decide +kernel
theorem dX7_trace_18 : decode cX7_trace 18 = .ok (.invokestatic 105, 3) := by decide +kernel
theorem dX7_trace_21 : decode cX7_trace 21 = .ok (.ifCond .eq 7, 3) := by decide +kernel
theorem dX7_trace_24 : decode cX7_trace 24 = .ok (.iconst 0, 1) := by decide +kernel
theorem dX7_trace_25 : decode cX7_trace 25 = .ok (.goto 4, 3) := by decide +kernel
theorem dX7_trace_28 : decode cX7_trace 28 = .ok (.iconst 1, 1) := by decide +kernel
theorem dX7_trace_29 : decode cX7_trace 29 = .ok (.putfield 98, 3) := by decide +kernel
theorem dX7_trace_32 : decode cX7_trace 32 = .ok (.aload_n 0, 1) := by decide +kernel
theorem dX7_trace_33 : decode cX7_trace 33 = .ok (.getfield 98, 3) := by decide +kernel
theorem dX7_trace_36 : decode cX7_trace 36 = .ok (.ifCond .le 5, 3) := by decide +kernel
theorem dX7_trace_39 : decode cX7_trace 39 = .ok (.iconst 0, 1) := by decide +kernel
theorem dX7_trace_40 : decode cX7_trace 40 = .ok (.ireturn, 1) := by decide +kernel
theorem dX7_trace_41 : decode cX7_trace 41 = .ok (.iload_n 2, 1) := by decide +kernel
theorem dX7_trace_42 : decode cX7_trace 42 = .ok (.istore_n 3, 1) := by decide +kernel
theorem dX7_trace_43 : decode cX7_trace 43 = .ok (.iconst 0, 1) := by decide +kernel
theorem dX7_trace_44 : decode cX7_trace 44 = .ok (.istore 4, 2) := by decide +kernel
theorem dX7_trace_46 : decode cX7_trace 46 = .ok (.aload_n 0, 1) := by decide +kernel
theorem dX7_trace_47 : decode cX7_trace 47 = .ok (.getfield 74, 3) := by decide +kernel
theorem dX7_trace_50 : decode cX7_trace 50 = .ok (.iload 4, 2) := by decide +kernel
theorem dX7_trace_52 : decode cX7_trace 52 = .ok (.iaload, 1) := by decide +kernel
theorem dX7_trace_53 : decode cX7_trace 53 = .ok (.iload_n 1, 1) := by decide +kernel
theorem dX7_trace_54 : decode cX7_trace 54 = .ok (.if_icmp .ne 7, 3) := by decide +kernel
theorem dX7_trace_57 : decode cX7_trace 57 = .ok (.iload_n 3, 1) := by decide +kernel
theorem dX7_trace_58 : decode cX7_trace 58 = .ok (.ifCond .le 28, 3) := by decide +kernel
theorem dX7_trace_61 : decode cX7_trace 61 = .ok (.iload_n 3, 1) := by decide +kernel
theorem dX7_trace_62 : decode cX7_trace 62 = .ok (.aload_n 0, 1) := by decide +kernel
theorem dX7_trace_63 : decode cX7_trace 63 = .ok (.getfield 74, 3) := by decide +kernel
theorem dX7_trace_66 : decode cX7_trace 66 = .ok (.iload 4, 2) := by decide +kernel
theorem dX7_trace_68 : decode cX7_trace 68 = .ok (.iaload, 1) := by decide +kernel
theorem dX7_trace_69 : decode cX7_trace 69 = .ok (.iload_n 1, 1) := by decide +kernel
theorem dX7_trace_70 : decode cX7_trace 70 = .ok (.if_icmp .ne 7, 3) := by decide +kernel
theorem dX7_trace_73 : decode cX7_trace 73 = .ok (.iconst 1, 1) := by decide +kernel
theorem dX7_trace_74 : decode cX7_trace 74 = .ok (.goto 4, 3) := by decide +kernel
theorem dX7_trace_77 : decode cX7_trace 77 = .ok (.iconst 0, 1) := by decide +kernel
theorem dX7_trace_78 : decode cX7_trace 78 = .ok (.isub, 1) := by decide +kernel
theorem dX7_trace_79 : decode cX7_trace 79 = .ok (.istore_n 3, 1) := by decide +kernel
theorem dX7_trace_80 : decode cX7_trace 80 = .ok (.iinc 4 1, 3) := by decide +kernel
theorem dX7_trace_83 : decode cX7_trace 83 = .ok (.goto (-37), 3) := by decide +kernel
theorem dX7_trace_86 : decode cX7_trace 86 = .ok (.aload_n 0, 1) := by decide +kernel
theorem dX7_trace_87 : decode cX7_trace 87 = .ok (.getfield 77, 3) := by decide +kernel
theorem dX7_trace_90 : decode cX7_trace 90 = .ok (.iload 4, 2) := by decide +kernel
theorem dX7_trace_92 : decode cX7_trace 92 = .ok (.iaload, 1) := by decide +kernel
theorem dX7_trace_93 : decode cX7_trace 93 = .ok (.ireturn, 1) := by decide +kernel
theorem dX7_lifeAnew_0 : decode cX7_lifeAnew 0 = .ok (.aload_n 0, 1) := by decide +kernel
theorem dX7_lifeAnew_1 : decode cX7_lifeAnew 1 = .ok (.aload_n 0, 1) := by decide +kernel
theorem dX7_lifeAnew_2 : decode cX7_lifeAnew 2 = .ok (.iload_n 1, 1) := by decide +kernel
theorem dX7_lifeAnew_3 : decode cX7_lifeAnew 3 = .ok (.invokevirtual 109, 3) := by decide +kernel
theorem dX7_lifeAnew_6 : decode cX7_lifeAnew 6 = .ok (.ifCond .eq 7, 3) := by decide +kernel
theorem dX7_lifeAnew_9 : decode cX7_lifeAnew 9 = .ok (.iconst 0, 1) := by decide +kernel
theorem dX7_lifeAnew_10 : decode cX7_lifeAnew 10 = .ok (.goto 4, 3) := by decide +kernel
theorem dX7_lifeAnew_13 : decode cX7_lifeAnew 13 = .ok (.iconst 1, 1) := by decide +kernel
theorem dX7_lifeAnew_14 : decode cX7_lifeAnew 14 = .ok (.putfield 98, 3) := by decide +kernel
theorem dX7_lifeAnew_17 : decode cX7_lifeAnew 17 = .ok (.aload_n 0, 1) := by decide +kernel
theorem dX7_lifeAnew_18 : decode cX7_lifeAnew 18 = .ok (.getfield 98, 3) := by decide +kernel
theorem dX7_lifeAnew_21 : decode cX7_lifeAnew 21 = .ok (.ifCond .le 7, 3) := by decide +kernel
theorem dX7_lifeAnew_24 : decode cX7_lifeAnew 24 = .ok (.iconst 0, 1) := by decide +kernel
theorem dX7_lifeAnew_25 : decode cX7_lifeAnew 25 = .ok (.goto 9, 3) := by decide +kernel
theorem dX7_lifeAnew_28 : decode cX7_lifeAnew 28 = .ok (.aload_n 0, 1) := by decide +kernel
theorem dX7_lifeAnew_29 : decode cX7_lifeAnew 29 = .ok (.getfield 22, 3) := by decide +kernel
theorem dX7_lifeAnew_32 : decode cX7_lifeAnew 32 = .ok (.iload_n 1, 1) := by decide +kernel
theorem dX7_lifeAnew_33 : decode cX7_lifeAnew 33 = .ok (.iaload, 1) := by decide +kernel
theorem dX7_lifeAnew_34 : decode cX7_lifeAnew 34 = .ok (.ireturn, 1) := by decide +kernel
theorem dX7_wheel_0 : decode cX7_wheel 0 = .ok (.aload_n 0, 1) := by decide +kernel
theorem dX7_wheel_1 : decode cX7_wheel 1 = .ok (.aload_n 0, 1) := by decide +kernel
theorem dX7_wheel_2 : decode cX7_wheel 2 = .ok (.iload_n 1, 1) := by decide +kernel
theorem dX7_wheel_3 : decode cX7_wheel 3 = .ok (.iconst 3, 1) := by decide +kernel
theorem dX7_wheel_4 : decode cX7_wheel 4 = .ok (.invokevirtual 148, 3) := by decide +kernel
theorem dX7_wheel_7 : decode cX7_wheel 7 = .ok (.putfield 98, 3) := by decide +kernel
theorem dX7_wheel_10 : decode cX7_wheel 10 = .ok (.aload_n 0, 1) := by decide +kernel
theorem dX7_wheel_11 : decode cX7_wheel 11 = .ok (.aload_n 0, 1) := by decide +kernel
theorem dX7_wheel_12 : decode cX7_wheel 12 = .ok (.getfield 98, 3) := by decide +kernel
theorem dX7_wheel_15 : decode cX7_wheel 15 = .ok (.ifCond .ne 16, 3) := by decide +kernel
theorem dX7_wheel_18 : decode cX7_wheel 18 = .ok (.iload_n 2, 1) := by decide +kernel
theorem dX7_wheel_19 : decode cX7_wheel 19 = .ok (.iconst 0, 1) := by decide +kernel
theorem dX7_wheel_20 : decode cX7_wheel 20 = .ok (.iconst 2, 1) := by decide +kernel
theorem dX7_wheel_21 : decode cX7_wheel 21 = .ok (.invokestatic 105, 3) := by decide +kernel
theorem dX7_wheel_24 : decode cX7_wheel 24 = .ok (.ifCond .ne 7, 3) := by decide +kernel
theorem dX7_wheel_27 : decode cX7_wheel 27 = .ok (.iconst 2, 1) := by decide +kernel
theorem dX7_wheel_28 : decode cX7_wheel 28 = .ok (.goto 7, 3) := by decide +kernel
theorem dX7_wheel_31 : decode cX7_wheel 31 = .ok (.aload_n 0, 1) := by decide +kernel
theorem dX7_wheel_32 : decode cX7_wheel 32 = .ok (.getfield 98, 3) := by decide +kernel
theorem dX7_wheel_35 : decode cX7_wheel 35 = .ok (.putfield 98, 3) := by decide +kernel
theorem dX7_wheel_38 : decode cX7_wheel 38 = .ok (.aload_n 0, 1) := by decide +kernel
theorem dX7_wheel_39 : decode cX7_wheel 39 = .ok (.getfield 98, 3) := by decide +kernel
theorem dX7_wheel_42 : decode cX7_wheel 42 = .ok (.ifCond .le 5, 3) := by decide +kernel
theorem dX7_wheel_45 : decode cX7_wheel 45 = .ok (.iconst 0, 1) := by decide +kernel
theorem dX7_wheel_46 : decode cX7_wheel 46 = .ok (.ireturn, 1) := by decide +kernel
theorem dX7_wheel_47 : decode cX7_wheel 47 = .ok (.iload_n 2, 1) := by decide +kernel
theorem dX7_wheel_48 : decode cX7_wheel 48 = .ok (.ifCond .ne 12, 3) := by decide +kernel
theorem dX7_wheel_51 : decode cX7_wheel 51 = .ok (.aload_n 0, 1) := by decide +kernel
theorem dX7_wheel_52 : decode cX7_wheel 52 = .ok (.getfield 44, 3) := by decide +kernel
theorem dX7_wheel_55 : decode cX7_wheel 55 = .ok (.iload_n 1, 1) := by decide +kernel
theorem dX7_wheel_56 : decode cX7_wheel 56 = .ok (.iaload, 1) := by decide +kernel
theorem dX7_wheel_57 : decode cX7_wheel 57 = .ok (.goto 36, 3) := by decide +kernel
theorem dX7_wheel_60 : decode cX7_wheel 60 = .ok (.iload_n 2, 1) := by decide +kernel
theorem dX7_wheel_61 : decode cX7_wheel 61 = .ok (.iconst 1, 1) := by decide +kernel
theorem dX7_wheel_62 : decode cX7_wheel 62 = .ok (.if_icmp .ne 12, 3) := by decide +kernel
theorem dX7_wheel_65 : decode cX7_wheel 65 = .ok (.aload_n 0, 1) := by decide +kernel
theorem dX7_wheel_66 : decode cX7_wheel 66 = .ok (.getfield 47, 3) := by decide +kernel
theorem dX7_wheel_69 : decode cX7_wheel 69 = .ok (.iload_n 1, 1) := by decide +kernel
theorem dX7_wheel_70 : decode cX7_wheel 70 = .ok (.iaload, 1) := by decide +kernel
theorem dX7_wheel_71 : decode cX7_wheel 71 = .ok (.goto 22, 3) := by decide +kernel
theorem dX7_wheel_74 : decode cX7_wheel 74 = .ok (.aload_n 0, 1) := by decide +kernel
theorem dX7_wheel_75 : decode cX7_wheel 75 = .ok (.getfield 56, 3) := by decide +kernel
theorem dX7_wheel_78 : decode cX7_wheel 78 = .ok (.iload_n 1, 1) := by decide +kernel
theorem dX7_wheel_79 : decode cX7_wheel 79 = .ok (.baload, 1) := by decide +kernel
theorem dX7_wheel_80 : decode cX7_wheel 80 = .ok (.ifCond .eq 12, 3) := by decide +kernel
theorem dX7_wheel_83 : decode cX7_wheel 83 = .ok (.aload_n 0, 1) := by decide +kernel
theorem dX7_wheel_84 : decode cX7_wheel 84 = .ok (.getfield 53, 3) := by decide +kernel
theorem dX7_wheel_87 : decode cX7_wheel 87 = .ok (.iload_n 1, 1) := by decide +kernel
theorem dX7_wheel_88 : decode cX7_wheel 88 = .ok (.iaload, 1) := by decide +kernel
theorem dX7_wheel_89 : decode cX7_wheel 89 = .ok (.goto 4, 3) := by decide +kernel
theorem dX7_wheel_92 : decode cX7_wheel 92 = .ok (.iconst (-1), 1) := by decide +kernel
theorem dX7_wheel_93 : decode cX7_wheel 93 = .ok (.ireturn, 1) := by decide +kernel
theorem dX7_foretell_0 : decode cX7_foretell 0 = .ok (.aload_n 0, 1) := by decide +kernel
theorem dX7_foretell_1 : decode cX7_foretell 1 = .ok (.aload_n 0, 1) := by decide +kernel
theorem dX7_foretell_2 : decode cX7_foretell 2 = .ok (.iload_n 1, 1) := by decide +kernel
theorem dX7_foretell_3 : decode cX7_foretell 3 = .ok (.iconst 3, 1) := by decide +kernel
theorem dX7_foretell_4 : decode cX7_foretell 4 = .ok (.invokevirtual 148, 3) := by decide +kernel
theorem dX7_foretell_7 : decode cX7_foretell 7 = .ok (.putfield 98, 3) := by decide +kernel
theorem dX7_foretell_10 : decode cX7_foretell 10 = .ok (.aload_n 0, 1) := by decide +kernel
theorem dX7_foretell_11 : decode cX7_foretell 11 = .ok (.aload_n 0, 1) := by decide +kernel
theorem dX7_foretell_12 : decode cX7_foretell 12 = .ok (.getfield 98, 3) := by decide +kernel
theorem dX7_foretell_15 : decode cX7_foretell 15 = .ok (.ifCond .ne 27, 3) := by decide +kernel
theorem dX7_foretell_18 : decode cX7_foretell 18 = .ok (.iload_n 2, 1) := by decide +kernel
theorem dX7_foretell_19 : decode cX7_foretell 19 = .ok (.iconst 1, 1) := by decide +kernel
theorem dX7_foretell_20 : decode cX7_foretell 20 = .ok (.sipush 2000, 3) := by decide +kernel
theorem dX7_foretell_23 : decode cX7_foretell 23 = .ok (.invokestatic 105, 3) := by decide +kernel
theorem dX7_foretell_26 : decode cX7_foretell 26 = .ok (.ifCond .eq 12, 3) := by decide +kernel
theorem dX7_foretell_29 : decode cX7_foretell 29 = .ok (.iload_n 3, 1) := by decide +kernel
theorem dX7_foretell_30 : decode cX7_foretell 30 = .ok (.iconst 0, 1) := by decide +kernel
theorem dX7_foretell_31 : decode cX7_foretell 31 = .ok (.iconst 3, 1) := by decide +kernel
theorem dX7_foretell_32 : decode cX7_foretell 32 = .ok (.invokestatic 105, 3) := by decide +kernel
theorem dX7_foretell_35 : decode cX7_foretell 35 = .ok (.ifCond .ne 7, 3) := by decide +kernel
theorem dX7_foretell_38 : decode cX7_foretell 38 = .ok (.iconst 2, 1) := by decide +kernel
theorem dX7_foretell_39 : decode cX7_foretell 39 = .ok (.goto 7, 3) := by decide +kernel
theorem dX7_foretell_42 : decode cX7_foretell 42 = .ok (.aload_n 0, 1) := by decide +kernel
theorem dX7_foretell_43 : decode cX7_foretell 43 = .ok (.getfield 98, 3) := by decide +kernel
theorem dX7_foretell_46 : decode cX7_foretell 46 = .ok (.putfield 98, 3) := by decide +kernel
theorem dX7_foretell_49 : decode cX7_foretell 49 = .ok (.aload_n 0, 1) := by decide +kernel
theorem dX7_foretell_50 : decode cX7_foretell 50 = .ok (.getfield 98, 3) := by decide +kernel
theorem dX7_foretell_53 : decode cX7_foretell 53 = .ok (.ifCond .le 5, 3) := by decide +kernel
theorem dX7_foretell_56 : decode cX7_foretell 56 = .ok (.iconst 0, 1) := by decide +kernel
theorem dX7_foretell_57 : decode cX7_foretell 57 = .ok (.ireturn, 1) := by decide +kernel
theorem dX7_foretell_58 : decode cX7_foretell 58 = .ok (.aload_n 0, 1) := by decide +kernel
theorem dX7_foretell_59 : decode cX7_foretell 59 = .ok (.getfield 53, 3) := by decide +kernel
theorem dX7_foretell_62 : decode cX7_foretell 62 = .ok (.iload_n 1, 1) := by decide +kernel
theorem dX7_foretell_63 : decode cX7_foretell 63 = .ok (.iaload, 1) := by decide +kernel
theorem dX7_foretell_64 : decode cX7_foretell 64 = .ok (.sipush 250, 3) := by decide +kernel
theorem dX7_foretell_67 : decode cX7_foretell 67 = .ok (.isub, 1) := by decide +kernel
theorem dX7_foretell_68 : decode cX7_foretell 68 = .ok (.istore 4, 2) := by decide +kernel
theorem dX7_foretell_70 : decode cX7_foretell 70 = .ok (.aload_n 0, 1) := by decide +kernel
theorem dX7_foretell_71 : decode cX7_foretell 71 = .ok (.getfield 56, 3) := by decide +kernel
theorem dX7_foretell_74 : decode cX7_foretell 74 = .ok (.iload_n 1, 1) := by decide +kernel
theorem dX7_foretell_75 : decode cX7_foretell 75 = .ok (.baload, 1) := by decide +kernel
theorem dX7_foretell_76 : decode cX7_foretell 76 = .ok (.ifCond .ne 7, 3) := by decide +kernel
theorem dX7_foretell_79 : decode cX7_foretell 79 = .ok (.iconst (-1), 1) := by decide +kernel
theorem dX7_foretell_80 : decode cX7_foretell 80 = .ok (.goto 25, 3) := by decide +kernel
theorem dX7_foretell_83 : decode cX7_foretell 83 = .ok (.iload 4, 2) := by decide +kernel
theorem dX7_foretell_85 : decode cX7_foretell 85 = .ok (.ifCond .gt 7, 3) := by decide +kernel
theorem dX7_foretell_88 : decode cX7_foretell 88 = .ok (.iconst 0, 1) := by decide +kernel
theorem dX7_foretell_89 : decode cX7_foretell 89 = .ok (.goto 16, 3) := by decide +kernel
theorem dX7_foretell_92 : decode cX7_foretell 92 = .ok (.iload 4, 2) := by decide +kernel
theorem dX7_foretell_94 : decode cX7_foretell 94 = .ok (.sipush 200, 3) := by decide +kernel
theorem dX7_foretell_97 : decode cX7_foretell 97 = .ok (.imul, 1) := by decide +kernel
theorem dX7_foretell_98 : decode cX7_foretell 98 = .ok (.iload_n 2, 1) := by decide +kernel
theorem dX7_foretell_99 : decode cX7_foretell 99 = .ok (.iload_n 3, 1) := by decide +kernel
theorem dX7_foretell_100 : decode cX7_foretell 100 = .ok (.invokestatic 145, 3) := by decide +kernel
theorem dX7_foretell_103 : decode cX7_foretell 103 = .ok (.imul, 1) := by decide +kernel
theorem dX7_foretell_104 : decode cX7_foretell 104 = .ok (.idiv, 1) := by decide +kernel
theorem dX7_foretell_105 : decode cX7_foretell 105 = .ok (.ireturn, 1) := by decide +kernel
theorem dX7_bars_0 : decode cX7_bars 0 = .ok (.aload_n 0, 1) := by decide +kernel
theorem dX7_bars_1 : decode cX7_bars 1 = .ok (.aload_n 0, 1) := by decide +kernel
theorem dX7_bars_2 : decode cX7_bars 2 = .ok (.iload_n 1, 1) := by decide +kernel
theorem dX7_bars_3 : decode cX7_bars 3 = .ok (.iconst 0, 1) := by decide +kernel
theorem dX7_bars_4 : decode cX7_bars 4 = .ok (.invokevirtual 148, 3) := by decide +kernel
theorem dX7_bars_7 : decode cX7_bars 7 = .ok (.putfield 98, 3) := by decide +kernel
theorem dX7_bars_10 : decode cX7_bars 10 = .ok (.aload_n 0, 1) := by decide +kernel
theorem dX7_bars_11 : decode cX7_bars 11 = .ok (.getfield 98, 3) := by decide +kernel
theorem dX7_bars_14 : decode cX7_bars 14 = .ok (.ifCond .le 7, 3) := by decide +kernel
theorem dX7_bars_17 : decode cX7_bars 17 = .ok (.iconst 0, 1) := by decide +kernel
theorem dX7_bars_18 : decode cX7_bars 18 = .ok (.goto 11, 3) := by decide +kernel
theorem dX7_bars_21 : decode cX7_bars 21 = .ok (.aload_n 0, 1) := by decide +kernel
theorem dX7_bars_22 : decode cX7_bars 22 = .ok (.iload_n 1, 1) := by decide +kernel
theorem dX7_bars_23 : decode cX7_bars 23 = .ok (.invokevirtual 186, 3) := by decide +kernel
theorem dX7_bars_26 : decode cX7_bars 26 = .ok (.bipush 100, 2) := by decide +kernel
theorem dX7_bars_28 : decode cX7_bars 28 = .ok (.idiv, 1) := by decide +kernel
theorem dX7_bars_29 : decode cX7_bars 29 = .ok (.ireturn, 1) := by decide +kernel
theorem dX7_barredBy_0 : decode cX7_barredBy 0 = .ok (.aload_n 0, 1) := by decide +kernel
theorem dX7_barredBy_1 : decode cX7_barredBy 1 = .ok (.aload_n 0, 1) := by decide +kernel
theorem dX7_barredBy_2 : decode cX7_barredBy 2 = .ok (.iload_n 1, 1) := by decide +kernel
theorem dX7_barredBy_3 : decode cX7_barredBy 3 = .ok (.iconst 0, 1) := by decide +kernel
theorem dX7_barredBy_4 : decode cX7_barredBy 4 = .ok (.invokevirtual 148, 3) := by decide +kernel
theorem dX7_barredBy_7 : decode cX7_barredBy 7 = .ok (.putfield 98, 3) := by decide +kernel
theorem dX7_barredBy_10 : decode cX7_barredBy 10 = .ok (.aload_n 0, 1) := by decide +kernel
theorem dX7_barredBy_11 : decode cX7_barredBy 11 = .ok (.getfield 98, 3) := by decide +kernel
theorem dX7_barredBy_14 : decode cX7_barredBy 14 = .ok (.ifCond .le 5, 3) := by decide +kernel
theorem dX7_barredBy_17 : decode cX7_barredBy 17 = .ok (.iconst 0, 1) := by decide +kernel
theorem dX7_barredBy_18 : decode cX7_barredBy 18 = .ok (.ireturn, 1) := by decide +kernel
theorem dX7_barredBy_19 : decode cX7_barredBy 19 = .ok (.aload_n 0, 1) := by decide +kernel
theorem dX7_barredBy_20 : decode cX7_barredBy 20 = .ok (.iload_n 1, 1) := by decide +kernel
theorem dX7_barredBy_21 : decode cX7_barredBy 21 = .ok (.invokevirtual 186, 3) := by decide +kernel
theorem dX7_barredBy_24 : decode cX7_barredBy 24 = .ok (.istore_n 2, 1) := by decide +kernel
theorem dX7_barredBy_25 : decode cX7_barredBy 25 = .ok (.iload_n 2, 1) := by decide +kernel
theorem dX7_barredBy_26 : decode cX7_barredBy 26 = .ok (.ifCond .ne 7, 3) := by decide +kernel
theorem dX7_barredBy_29 : decode cX7_barredBy 29 = .ok (.iconst (-1), 1) := by decide +kernel
theorem dX7_barredBy_30 : decode cX7_barredBy 30 = .ok (.goto 7, 3) := by decide +kernel
theorem dX7_barredBy_33 : decode cX7_barredBy 33 = .ok (.iload_n 2, 1) := by decide +kernel
theorem dX7_barredBy_34 : decode cX7_barredBy 34 = .ok (.bipush 100, 2) := by decide +kernel
theorem dX7_barredBy_36 : decode cX7_barredBy 36 = .ok (.irem, 1) := by decide +kernel
theorem dX7_barredBy_37 : decode cX7_barredBy 37 = .ok (.ireturn, 1) := by decide +kernel
theorem dX7_isReleased_0 : decode cX7_isReleased 0 = .ok (.aload_n 0, 1) := by decide +kernel
theorem dX7_isReleased_1 : decode cX7_isReleased 1 = .ok (.aload_n 0, 1) := by decide +kernel
theorem dX7_isReleased_2 : decode cX7_isReleased 2 = .ok (.iload_n 1, 1) := by decide +kernel
theorem dX7_isReleased_3 : decode cX7_isReleased 3 = .ok (.iconst 0, 1) := by decide +kernel
theorem dX7_isReleased_4 : decode cX7_isReleased 4 = .ok (.invokevirtual 148, 3) := by decide +kernel
theorem dX7_isReleased_7 : decode cX7_isReleased 7 = .ok (.putfield 98, 3) := by decide +kernel
theorem dX7_isReleased_10 : decode cX7_isReleased 10 = .ok (.aload_n 0, 1) := by decide +kernel
theorem dX7_isReleased_11 : decode cX7_isReleased 11 = .ok (.getfield 98, 3) := by decide +kernel
theorem dX7_isReleased_14 : decode cX7_isReleased 14 = .ok (.ifCond .ne 16, 3) := by decide +kernel
theorem dX7_isReleased_17 : decode cX7_isReleased 17 = .ok (.aload_n 0, 1) := by decide +kernel
theorem dX7_isReleased_18 : decode cX7_isReleased 18 = .ok (.getfield 38, 3) := by decide +kernel
theorem dX7_isReleased_21 : decode cX7_isReleased 21 = .ok (.iload_n 1, 1) := by decide +kernel
theorem dX7_isReleased_22 : decode cX7_isReleased 22 = .ok (.baload, 1) := by decide +kernel
theorem dX7_isReleased_23 : decode cX7_isReleased 23 = .ok (.ifCond .eq 7, 3) := by decide +kernel
theorem dX7_isReleased_26 : decode cX7_isReleased 26 = .ok (.iconst 1, 1) := by decide +kernel
theorem dX7_isReleased_27 : decode cX7_isReleased 27 = .ok (.goto 4, 3) := by decide +kernel
theorem dX7_isReleased_30 : decode cX7_isReleased 30 = .ok (.iconst 0, 1) := by decide +kernel
theorem dX7_isReleased_31 : decode cX7_isReleased 31 = .ok (.ireturn, 1) := by decide +kernel
theorem dX7_plan_0 : decode cX7_plan 0 = .ok (.aload_n 0, 1) := by decide +kernel
theorem dX7_plan_1 : decode cX7_plan 1 = .ok (.iconst 0, 1) := by decide +kernel
theorem dX7_plan_2 : decode cX7_plan 2 = .ok (.putfield 98, 3) := by decide +kernel
theorem dX7_plan_5 : decode cX7_plan 5 = .ok (.aload_n 0, 1) := by decide +kernel
theorem dX7_plan_6 : decode cX7_plan 6 = .ok (.getfield 139, 3) := by decide +kernel
theorem dX7_plan_9 : decode cX7_plan 9 = .ok (.ifCond .ne 7, 3) := by decide +kernel
theorem dX7_plan_12 : decode cX7_plan 12 = .ok (.iconst 0, 1) := by decide +kernel
theorem dX7_plan_13 : decode cX7_plan 13 = .ok (.goto 7, 3) := by decide +kernel
theorem dX7_plan_16 : decode cX7_plan 16 = .ok (.aload_n 0, 1) := by decide +kernel
theorem dX7_plan_17 : decode cX7_plan 17 = .ok (.invokevirtual 193, 3) := by decide +kernel
theorem dX7_plan_20 : decode cX7_plan 20 = .ok (.ireturn, 1) := by decide +kernel
theorem dX7_planAnew_0 : decode cX7_planAnew 0 = .ok (.aload_n 0, 1) := by decide +kernel
theorem dX7_planAnew_1 : decode cX7_planAnew 1 = .ok (.iconst 0, 1) := by decide +kernel
theorem dX7_planAnew_2 : decode cX7_planAnew 2 = .ok (.putfield 98, 3) := by decide +kernel
theorem dX7_planAnew_5 : decode cX7_planAnew 5 = .ok (.aload_n 0, 1) := by decide +kernel
theorem dX7_planAnew_6 : decode cX7_planAnew 6 = .ok (.getfield 139, 3) := by decide +kernel
theorem dX7_planAnew_9 : decode cX7_planAnew 9 = .ok (.ifCond .ne 7, 3) := by decide +kernel
theorem dX7_planAnew_12 : decode cX7_planAnew 12 = .ok (.iconst 0, 1) := by decide +kernel
theorem dX7_planAnew_13 : decode cX7_planAnew 13 = .ok (.goto 7, 3) := by decide +kernel
theorem dX7_planAnew_16 : decode cX7_planAnew 16 = .ok (.aload_n 0, 1) := by decide +kernel
theorem dX7_planAnew_17 : decode cX7_planAnew 17 = .ok (.invokevirtual 193, 3) := by decide +kernel
theorem dX7_planAnew_20 : decode cX7_planAnew 20 = .ok (.ireturn, 1) := by decide +kernel
theorem dX7_road_0 : decode cX7_road 0 = .ok (.aload_n 0, 1) := by decide +kernel
theorem dX7_road_1 : decode cX7_road 1 = .ok (.iload_n 1, 1) := by decide +kernel
theorem dX7_road_2 : decode cX7_road 2 = .ok (.iconst 0, 1) := by decide +kernel
theorem dX7_road_3 : decode cX7_road 3 = .ok (.iconst 2, 1) := by decide +kernel
theorem dX7_road_4 : decode cX7_road 4 = .ok (.invokestatic 105, 3) := by decide +kernel
theorem dX7_road_7 : decode cX7_road 7 = .ok (.ifCond .eq 11, 3) := by decide +kernel
theorem dX7_road_10 : decode cX7_road 10 = .ok (.iload_n 2, 1) := by decide +kernel
theorem dX7_road_11 : decode cX7_road 11 = .ok (.ifCond .lt 7, 3) := by decide +kernel
theorem dX7_road_14 : decode cX7_road 14 = .ok (.iconst 0, 1) := by decide +kernel
theorem dX7_road_15 : decode cX7_road 15 = .ok (.goto 4, 3) := by decide +kernel
theorem dX7_road_18 : decode cX7_road 18 = .ok (.iconst 1, 1) := by decide +kernel
theorem dX7_road_19 : decode cX7_road 19 = .ok (.putfield 98, 3) := by decide +kernel
theorem dX7_road_22 : decode cX7_road 22 = .ok (.aload_n 0, 1) := by decide +kernel
theorem dX7_road_23 : decode cX7_road 23 = .ok (.getfield 98, 3) := by decide +kernel
theorem dX7_road_26 : decode cX7_road 26 = .ok (.ifCond .le 5, 3) := by decide +kernel
theorem dX7_road_29 : decode cX7_road 29 = .ok (.iconst 0, 1) := by decide +kernel
theorem dX7_road_30 : decode cX7_road 30 = .ok (.ireturn, 1) := by decide +kernel
theorem dX7_road_31 : decode cX7_road 31 = .ok (.iload_n 2, 1) := by decide +kernel
theorem dX7_road_32 : decode cX7_road 32 = .ok (.aload_n 0, 1) := by decide +kernel
theorem dX7_road_33 : decode cX7_road 33 = .ok (.getfield 92, 3) := by decide +kernel
theorem dX7_road_36 : decode cX7_road 36 = .ok (.iload_n 1, 1) := by decide +kernel
theorem dX7_road_37 : decode cX7_road 37 = .ok (.iaload, 1) := by decide +kernel
theorem dX7_road_38 : decode cX7_road 38 = .ok (.if_icmp .ge 16, 3) := by decide +kernel
theorem dX7_road_41 : decode cX7_road 41 = .ok (.aload_n 0, 1) := by decide +kernel
theorem dX7_road_42 : decode cX7_road 42 = .ok (.getfield 95, 3) := by decide +kernel
theorem dX7_road_45 : decode cX7_road 45 = .ok (.iconst 4, 1) := by decide +kernel
theorem dX7_road_46 : decode cX7_road 46 = .ok (.iload_n 1, 1) := by decide +kernel
theorem dX7_road_47 : decode cX7_road 47 = .ok (.imul, 1) := by decide +kernel
theorem dX7_road_48 : decode cX7_road 48 = .ok (.iload_n 2, 1) := by decide +kernel
theorem dX7_road_49 : decode cX7_road 49 = .ok (.iadd, 1) := by decide +kernel
theorem dX7_road_50 : decode cX7_road 50 = .ok (.iaload, 1) := by decide +kernel
theorem dX7_road_51 : decode cX7_road 51 = .ok (.goto 4, 3) := by decide +kernel
theorem dX7_road_54 : decode cX7_road 54 = .ok (.iconst (-1), 1) := by decide +kernel
theorem dX7_road_55 : decode cX7_road 55 = .ok (.ireturn, 1) := by decide +kernel
theorem dJ6_bitCount_0f7a4_0 : decode cJ6_bitCount_0f7a4 0 = .ok (.iload_n 0, 1) := by decide +kernel
theorem dJ6_bitCount_0f7a4_1 : decode cJ6_bitCount_0f7a4 1 = .ok (.iload_n 0, 1) := by decide +kernel
theorem dJ6_bitCount_0f7a4_2 : decode cJ6_bitCount_0f7a4 2 = .ok (.iconst 1, 1) := by decide +kernel
theorem dJ6_bitCount_0f7a4_3 : decode cJ6_bitCount_0f7a4 3 = .ok (.iushr, 1) := by decide +kernel
theorem dJ6_bitCount_0f7a4_4 : decode cJ6_bitCount_0f7a4 4 = .ok (.ldc_w 265, 3) := by decide +kernel
theorem dJ6_bitCount_0f7a4_7 : decode cJ6_bitCount_0f7a4 7 = .ok (.iand, 1) := by decide +kernel
theorem dJ6_bitCount_0f7a4_8 : decode cJ6_bitCount_0f7a4 8 = .ok (.isub, 1) := by decide +kernel
theorem dJ6_bitCount_0f7a4_9 : decode cJ6_bitCount_0f7a4 9 = .ok (.istore_n 0, 1) := by decide +kernel
theorem dJ6_bitCount_0f7a4_10 : decode cJ6_bitCount_0f7a4 10 = .ok (.iload_n 0, 1) := by decide +kernel
theorem dJ6_bitCount_0f7a4_11 : decode cJ6_bitCount_0f7a4 11 = .ok (.ldc_w 266, 3) := by decide +kernel
theorem dJ6_bitCount_0f7a4_14 : decode cJ6_bitCount_0f7a4 14 = .ok (.iand, 1) := by decide +kernel
theorem dJ6_bitCount_0f7a4_15 : decode cJ6_bitCount_0f7a4 15 = .ok (.iload_n 0, 1) := by decide +kernel
theorem dJ6_bitCount_0f7a4_16 : decode cJ6_bitCount_0f7a4 16 = .ok (.iconst 2, 1) := by decide +kernel
theorem dJ6_bitCount_0f7a4_17 : decode cJ6_bitCount_0f7a4 17 = .ok (.iushr, 1) := by decide +kernel
theorem dJ6_bitCount_0f7a4_18 : decode cJ6_bitCount_0f7a4 18 = .ok (.ldc_w 266, 3) := by decide +kernel
theorem dJ6_bitCount_0f7a4_21 : decode cJ6_bitCount_0f7a4 21 = .ok (.iand, 1) := by decide +kernel
theorem dJ6_bitCount_0f7a4_22 : decode cJ6_bitCount_0f7a4 22 = .ok (.iadd, 1) := by decide +kernel
theorem dJ6_bitCount_0f7a4_23 : decode cJ6_bitCount_0f7a4 23 = .ok (.istore_n 0, 1) := by decide +kernel
theorem dJ6_bitCount_0f7a4_24 : decode cJ6_bitCount_0f7a4 24 = .ok (.iload_n 0, 1) := by decide +kernel
theorem dJ6_bitCount_0f7a4_25 : decode cJ6_bitCount_0f7a4 25 = .ok (.iload_n 0, 1) := by decide +kernel
theorem dJ6_bitCount_0f7a4_26 : decode cJ6_bitCount_0f7a4 26 = .ok (.iconst 4, 1) := by decide +kernel
theorem dJ6_bitCount_0f7a4_27 : decode cJ6_bitCount_0f7a4 27 = .ok (.iushr, 1) := by decide +kernel
theorem dJ6_bitCount_0f7a4_28 : decode cJ6_bitCount_0f7a4 28 = .ok (.iadd, 1) := by decide +kernel
theorem dJ6_bitCount_0f7a4_29 : decode cJ6_bitCount_0f7a4 29 = .ok (.ldc_w 267, 3) := by decide +kernel
theorem dJ6_bitCount_0f7a4_32 : decode cJ6_bitCount_0f7a4 32 = .ok (.iand, 1) := by decide +kernel
theorem dJ6_bitCount_0f7a4_33 : decode cJ6_bitCount_0f7a4 33 = .ok (.istore_n 0, 1) := by decide +kernel
theorem dJ6_bitCount_0f7a4_34 : decode cJ6_bitCount_0f7a4 34 = .ok (.iload_n 0, 1) := by decide +kernel
theorem dJ6_bitCount_0f7a4_35 : decode cJ6_bitCount_0f7a4 35 = .ok (.iload_n 0, 1) := by decide +kernel
theorem dJ6_bitCount_0f7a4_36 : decode cJ6_bitCount_0f7a4 36 = .ok (.bipush 8, 2) := by decide +kernel
theorem dJ6_bitCount_0f7a4_38 : decode cJ6_bitCount_0f7a4 38 = .ok (.iushr, 1) := by decide +kernel
theorem dJ6_bitCount_0f7a4_39 : decode cJ6_bitCount_0f7a4 39 = .ok (.iadd, 1) := by decide +kernel
theorem dJ6_bitCount_0f7a4_40 : decode cJ6_bitCount_0f7a4 40 = .ok (.istore_n 0, 1) := by decide +kernel
theorem dJ6_bitCount_0f7a4_41 : decode cJ6_bitCount_0f7a4 41 = .ok (.iload_n 0, 1) := by decide +kernel
theorem dJ6_bitCount_0f7a4_42 : decode cJ6_bitCount_0f7a4 42 = .ok (.iload_n 0, 1) := by decide +kernel
theorem dJ6_bitCount_0f7a4_43 : decode cJ6_bitCount_0f7a4 43 = .ok (.bipush 16, 2) := by decide +kernel
theorem dJ6_bitCount_0f7a4_45 : decode cJ6_bitCount_0f7a4 45 = .ok (.iushr, 1) := by decide +kernel
theorem dJ6_bitCount_0f7a4_46 : decode cJ6_bitCount_0f7a4 46 = .ok (.iadd, 1) := by decide +kernel
theorem dJ6_bitCount_0f7a4_47 : decode cJ6_bitCount_0f7a4 47 = .ok (.istore_n 0, 1) := by decide +kernel
theorem dJ6_bitCount_0f7a4_48 : decode cJ6_bitCount_0f7a4 48 = .ok (.iload_n 0, 1) := by decide +kernel
theorem dJ6_bitCount_0f7a4_49 : decode cJ6_bitCount_0f7a4 49 = .ok (.bipush 63, 2) := by decide +kernel
theorem dJ6_bitCount_0f7a4_51 : decode cJ6_bitCount_0f7a4 51 = .ok (.iand, 1) := by decide +kernel
theorem dJ6_bitCount_0f7a4_52 : decode cJ6_bitCount_0f7a4 52 = .ok (.ireturn, 1) := by decide +kernel
theorem dJ9_abs_0f7a4_0 : decode cJ9_abs_0f7a4 0 = .ok (.iload_n 0, 1) := by decide +kernel
theorem dJ9_abs_0f7a4_1 : decode cJ9_abs_0f7a4 1 = .ok (.ifCond .ge 8, 3) := by decide +kernel
theorem dJ9_abs_0f7a4_4 : decode cJ9_abs_0f7a4 4 = .ok (.iload_n 0, 1) := by decide +kernel
theorem dJ9_abs_0f7a4_5 : decode cJ9_abs_0f7a4 5 = .ok (.ineg, 1) := by decide +kernel
theorem dJ9_abs_0f7a4_6 : decode cJ9_abs_0f7a4 6 = .ok (.goto 4, 3) := by decide +kernel
theorem dJ9_abs_0f7a4_9 : decode cJ9_abs_0f7a4 9 = .ok (.iload_n 0, 1) := by decide +kernel
theorem dJ9_abs_0f7a4_10 : decode cJ9_abs_0f7a4 10 = .ok (.ireturn, 1) := by decide +kernel
theorem dJ9_max_7cf53_0 : decode cJ9_max_7cf53 0 = .ok (.iload_n 0, 1) := by decide +kernel
theorem dJ9_max_7cf53_1 : decode cJ9_max_7cf53 1 = .ok (.iload_n 1, 1) := by decide +kernel
theorem dJ9_max_7cf53_2 : decode cJ9_max_7cf53 2 = .ok (.if_icmp .lt 7, 3) := by decide +kernel
theorem dJ9_max_7cf53_5 : decode cJ9_max_7cf53 5 = .ok (.iload_n 0, 1) := by decide +kernel
theorem dJ9_max_7cf53_6 : decode cJ9_max_7cf53 6 = .ok (.goto 4, 3) := by decide +kernel
theorem dJ9_max_7cf53_9 : decode cJ9_max_7cf53 9 = .ok (.iload_n 1, 1) := by decide +kernel
theorem dJ9_max_7cf53_10 : decode cJ9_max_7cf53 10 = .ok (.ireturn, 1) := by decide +kernel
theorem dJ9_min_7cf53_0 : decode cJ9_min_7cf53 0 = .ok (.iload_n 0, 1) := by decide +kernel
theorem dJ9_min_7cf53_1 : decode cJ9_min_7cf53 1 = .ok (.iload_n 1, 1) := by decide +kernel
theorem dJ9_min_7cf53_2 : decode cJ9_min_7cf53 2 = .ok (.if_icmp .gt 7, 3) := by decide +kernel
theorem dJ9_min_7cf53_5 : decode cJ9_min_7cf53 5 = .ok (.iload_n 0, 1) := by decide +kernel
theorem dJ9_min_7cf53_6 : decode cJ9_min_7cf53 6 = .ok (.goto 4, 3) := by decide +kernel
theorem dJ9_min_7cf53_9 : decode cJ9_min_7cf53 9 = .ok (.iload_n 1, 1) := by decide +kernel
theorem dJ9_min_7cf53_10 : decode cJ9_min_7cf53 10 = .ok (.ireturn, 1) := by decide +kernel
theorem dJxa1e45_init_da8c8_0 : decode cJxa1e45_init_da8c8 0 = .ok (.aload_n 0, 1) := by decide +kernel
theorem dJxa1e45_init_da8c8_1 : decode cJxa1e45_init_da8c8 1 = .ok (.invokespecial 1, 3) := by decide +kernel
theorem dJxa1e45_init_da8c8_4 : decode cJxa1e45_init_da8c8 4 = .ok (.return_, 1) := by decide +kernel
theorem dJxc12de_init_da8c8_0 : decode cJxc12de_init_da8c8 0 = .ok (.aload_n 0, 1) := by decide +kernel
theorem dJxc12de_init_da8c8_1 : decode cJxc12de_init_da8c8 1 = .ok (.invokespecial 1, 3) := by decide +kernel
theorem dJxc12de_init_da8c8_4 : decode cJxc12de_init_da8c8 4 = .ok (.aload_n 0, 1) := by decide +kernel
theorem dJxc12de_init_da8c8_5 : decode cJxc12de_init_da8c8 5 = .ok (.iconst 0, 1) := by decide +kernel
theorem dJxc12de_init_da8c8_6 : decode cJxc12de_init_da8c8 6 = .ok (.putfield 7, 3) := by decide +kernel
theorem dJxc12de_init_da8c8_9 : decode cJxc12de_init_da8c8 9 = .ok (.return_, 1) := by decide +kernel
theorem dJx4a65c_init_da8c8_0 : decode cJx4a65c_init_da8c8 0 = .ok (.aload_n 0, 1) := by decide +kernel
theorem dJx4a65c_init_da8c8_1 : decode cJx4a65c_init_da8c8 1 = .ok (.invokespecial 1, 3) := by decide +kernel
theorem dJx4a65c_init_da8c8_4 : decode cJx4a65c_init_da8c8 4 = .ok (.aload_n 0, 1) := by decide +kernel
theorem dJx4a65c_init_da8c8_5 : decode cJx4a65c_init_da8c8 5 = .ok (.getstatic 39, 3) := by decide +kernel
theorem dJx4a65c_init_da8c8_8 : decode cJx4a65c_init_da8c8 8 = .ok (.putfield 9, 3) := by decide +kernel
theorem dJx4a65c_init_da8c8_11 : decode cJx4a65c_init_da8c8 11 = .ok (.return_, 1) := by decide +kernel
theorem dJx4a65c_grow_92f84_0 : decode cJx4a65c_grow_92f84 0 = .ok (.aload_n 0, 1) := by decide +kernel
theorem dJx4a65c_grow_92f84_1 : decode cJx4a65c_grow_92f84 1 = .ok (.getfield 9, 3) := by decide +kernel
theorem dJx4a65c_grow_92f84_4 : decode cJx4a65c_grow_92f84 4 = .ok (.arraylength, 1) := by decide +kernel
theorem dJx4a65c_grow_92f84_5 : decode cJx4a65c_grow_92f84 5 = .ok (.istore_n 2, 1) := by decide +kernel
theorem dJx4a65c_grow_92f84_6 : decode cJx4a65c_grow_92f84 6 = .ok (.iload_n 2, 1) := by decide +kernel
theorem dJx4a65c_grow_92f84_7 : decode cJx4a65c_grow_92f84 7 = .ok (.ifCond .gt 13, 3) := by decide +kernel
theorem dJx4a65c_grow_92f84_10 : decode cJx4a65c_grow_92f84 10 = .ok (.aload_n 0, 1) := by decide +kernel
theorem dJx4a65c_grow_92f84_11 : decode cJx4a65c_grow_92f84 11 = .ok (.getfield 9, 3) := by decide +kernel
theorem dJx4a65c_grow_92f84_14 : decode cJx4a65c_grow_92f84 14 = .ok (.getstatic 39, 3) := by decide +kernel
theorem dJx4a65c_grow_92f84_17 : decode cJx4a65c_grow_92f84 17 = .ok (.if_acmp .eq 28, 3) := by decide +kernel
theorem dJx4a65c_grow_92f84_20 : decode cJx4a65c_grow_92f84 20 = .ok (.iload_n 2, 1) := by decide +kernel
theorem dJx4a65c_grow_92f84_21 : decode cJx4a65c_grow_92f84 21 = .ok (.iload_n 1, 1) := by decide +kernel
theorem dJx4a65c_grow_92f84_22 : decode cJx4a65c_grow_92f84 22 = .ok (.iload_n 2, 1) := by decide +kernel
theorem dJx4a65c_grow_92f84_23 : decode cJx4a65c_grow_92f84 23 = .ok (.isub, 1) := by decide +kernel
theorem dJx4a65c_grow_92f84_24 : decode cJx4a65c_grow_92f84 24 = .ok (.iload_n 2, 1) := by decide +kernel
theorem dJx4a65c_grow_92f84_25 : decode cJx4a65c_grow_92f84 25 = .ok (.iconst 1, 1) := by decide +kernel
theorem dJx4a65c_grow_92f84_26 : decode cJx4a65c_grow_92f84 26 = .ok (.ishr, 1) := by decide +kernel
theorem dJx4a65c_grow_92f84_27 : decode cJx4a65c_grow_92f84 27 = .ok (.invokestatic 73, 3) := by decide +kernel
theorem dJx4a65c_grow_92f84_30 : decode cJx4a65c_grow_92f84 30 = .ok (.istore_n 3, 1) := by decide +kernel
theorem dJx4a65c_grow_92f84_31 : decode cJx4a65c_grow_92f84 31 = .ok (.aload_n 0, 1) := by decide +kernel
theorem dJx4a65c_grow_92f84_32 : decode cJx4a65c_grow_92f84 32 = .ok (.aload_n 0, 1) := by decide +kernel
theorem dJx4a65c_grow_92f84_33 : decode cJx4a65c_grow_92f84 33 = .ok (.getfield 9, 3) := by decide +kernel
theorem dJx4a65c_grow_92f84_36 : decode cJx4a65c_grow_92f84 36 = .ok (.iload_n 3, 1) := by decide +kernel
theorem dJx4a65c_grow_92f84_37 : decode cJx4a65c_grow_92f84 37 = .ok (.invokestatic 66, 3) := by decide +kernel
theorem dJx4a65c_grow_92f84_40 : decode cJx4a65c_grow_92f84 40 = .ok (.dup_x1, 1) := by decide +kernel
theorem dJx4a65c_grow_92f84_41 : decode cJx4a65c_grow_92f84 41 = .ok (.putfield 9, 3) := by decide +kernel
theorem dJx4a65c_grow_92f84_44 : decode cJx4a65c_grow_92f84 44 = .ok (.areturn, 1) := by decide +kernel
theorem dJx4a65c_grow_92f84_45 : decode cJx4a65c_grow_92f84 45 = .ok (.aload_n 0, 1) := by decide +kernel
theorem dJx4a65c_grow_92f84_46 : decode cJx4a65c_grow_92f84 46 = .ok (.bipush 10, 2) := by decide +kernel
theorem dJx4a65c_grow_92f84_48 : decode cJx4a65c_grow_92f84 48 = .ok (.iload_n 1, 1) := by decide +kernel
theorem dJx4a65c_grow_92f84_49 : decode cJx4a65c_grow_92f84 49 = .ok (.invokestatic 79, 3) := by decide +kernel
theorem dJx4a65c_grow_92f84_52 : decode cJx4a65c_grow_92f84 52 = .ok (.anewarray 7, 3) := by decide +kernel
theorem dJx4a65c_grow_92f84_55 : decode cJx4a65c_grow_92f84 55 = .ok (.dup_x1, 1) := by decide +kernel
theorem dJx4a65c_grow_92f84_56 : decode cJx4a65c_grow_92f84 56 = .ok (.putfield 9, 3) := by decide +kernel
theorem dJx4a65c_grow_92f84_59 : decode cJx4a65c_grow_92f84 59 = .ok (.areturn, 1) := by decide +kernel
theorem dJx4a65c_grow_d5877_0 : decode cJx4a65c_grow_d5877 0 = .ok (.aload_n 0, 1) := by decide +kernel
theorem dJx4a65c_grow_d5877_1 : decode cJx4a65c_grow_d5877 1 = .ok (.aload_n 0, 1) := by decide +kernel
theorem dJx4a65c_grow_d5877_2 : decode cJx4a65c_grow_d5877 2 = .ok (.getfield 48, 3) := by decide +kernel
theorem dJx4a65c_grow_d5877_5 : decode cJx4a65c_grow_d5877 5 = .ok (.iconst 1, 1) := by decide +kernel
theorem dJx4a65c_grow_d5877_6 : decode cJx4a65c_grow_d5877 6 = .ok (.iadd, 1) := by decide +kernel
theorem dJx4a65c_grow_d5877_7 : decode cJx4a65c_grow_d5877 7 = .ok (.invokevirtual 69, 3) := by decide +kernel
theorem dJx4a65c_grow_d5877_10 : decode cJx4a65c_grow_d5877 10 = .ok (.areturn, 1) := by decide +kernel
theorem dJx4a65c_size_8abf5_0 : decode cJx4a65c_size_8abf5 0 = .ok (.aload_n 0, 1) := by decide +kernel
theorem dJx4a65c_size_8abf5_1 : decode cJx4a65c_size_8abf5 1 = .ok (.getfield 48, 3) := by decide +kernel
theorem dJx4a65c_size_8abf5_4 : decode cJx4a65c_size_8abf5 4 = .ok (.ireturn, 1) := by decide +kernel
theorem dJx4a65c_isEmpty_aae02_0 : decode cJx4a65c_isEmpty_aae02 0 = .ok (.aload_n 0, 1) := by decide +kernel
theorem dJx4a65c_isEmpty_aae02_1 : decode cJx4a65c_isEmpty_aae02 1 = .ok (.getfield 48, 3) := by decide +kernel
theorem dJx4a65c_isEmpty_aae02_4 : decode cJx4a65c_isEmpty_aae02 4 = .ok (.ifCond .ne 7, 3) := by decide +kernel
theorem dJx4a65c_isEmpty_aae02_7 : decode cJx4a65c_isEmpty_aae02 7 = .ok (.iconst 1, 1) := by decide +kernel
theorem dJx4a65c_isEmpty_aae02_8 : decode cJx4a65c_isEmpty_aae02 8 = .ok (.goto 4, 3) := by decide +kernel
theorem dJx4a65c_isEmpty_aae02_11 : decode cJx4a65c_isEmpty_aae02 11 = .ok (.iconst 0, 1) := by decide +kernel
theorem dJx4a65c_isEmpty_aae02_12 : decode cJx4a65c_isEmpty_aae02 12 = .ok (.ireturn, 1) := by decide +kernel
theorem dJx4a65c_elementData_915e3_0 : decode cJx4a65c_elementData_915e3 0 = .ok (.aload_n 0, 1) := by decide +kernel
theorem dJx4a65c_elementData_915e3_1 : decode cJx4a65c_elementData_915e3 1 = .ok (.getfield 9, 3) := by decide +kernel
theorem dJx4a65c_elementData_915e3_4 : decode cJx4a65c_elementData_915e3 4 = .ok (.iload_n 1, 1) := by decide +kernel
theorem dJx4a65c_elementData_915e3_5 : decode cJx4a65c_elementData_915e3 5 = .ok (.aaload, 1) := by decide +kernel
theorem dJx4a65c_elementData_915e3_6 : decode cJx4a65c_elementData_915e3 6 = .ok (.areturn, 1) := by decide +kernel
theorem dJx4a65c_get_915e3_0 : decode cJx4a65c_get_915e3 0 = .ok (.iload_n 1, 1) := by decide +kernel
theorem dJx4a65c_get_915e3_1 : decode cJx4a65c_get_915e3 1 = .ok (.aload_n 0, 1) := by decide +kernel
theorem dJx4a65c_get_915e3_2 : decode cJx4a65c_get_915e3 2 = .ok (.getfield 48, 3) := by decide +kernel
theorem dJx4a65c_get_915e3_5 : decode cJx4a65c_get_915e3 5 = .ok (.invokestatic 118, 3) := by decide +kernel
theorem dJx4a65c_get_915e3_8 : decode cJx4a65c_get_915e3 8 = .ok (.pop, 1) := by decide +kernel
theorem dJx4a65c_get_915e3_9 : decode cJx4a65c_get_915e3 9 = .ok (.aload_n 0, 1) := by decide +kernel
theorem dJx4a65c_get_915e3_10 : decode cJx4a65c_get_915e3 10 = .ok (.iload_n 1, 1) := by decide +kernel
theorem dJx4a65c_get_915e3_11 : decode cJx4a65c_get_915e3 11 = .ok (.invokevirtual 123, 3) := by decide +kernel
theorem dJx4a65c_get_915e3_14 : decode cJx4a65c_get_915e3 14 = .ok (.areturn, 1) := by decide +kernel
theorem dJx4a65c_add_72be8_0 : decode cJx4a65c_add_72be8 0 = .ok (.iload_n 3, 1) := by decide +kernel
theorem dJx4a65c_add_72be8_1 : decode cJx4a65c_add_72be8 1 = .ok (.aload_n 2, 1) := by decide +kernel
theorem dJx4a65c_add_72be8_2 : decode cJx4a65c_add_72be8 2 = .ok (.arraylength, 1) := by decide +kernel
theorem dJx4a65c_add_72be8_3 : decode cJx4a65c_add_72be8 3 = .ok (.if_icmp .ne 8, 3) := by decide +kernel
theorem dJx4a65c_add_72be8_6 : decode cJx4a65c_add_72be8 6 = .ok (.aload_n 0, 1) := by decide +kernel
theorem dJx4a65c_add_72be8_7 : decode cJx4a65c_add_72be8 7 = .ok (.invokevirtual 129, 3) := by decide +kernel
theorem dJx4a65c_add_72be8_10 : decode cJx4a65c_add_72be8 10 = .ok (.astore_n 2, 1) := by decide +kernel
theorem dJx4a65c_add_72be8_11 : decode cJx4a65c_add_72be8 11 = .ok (.aload_n 2, 1) := by decide +kernel
theorem dJx4a65c_add_72be8_12 : decode cJx4a65c_add_72be8 12 = .ok (.iload_n 3, 1) := by decide +kernel
theorem dJx4a65c_add_72be8_13 : decode cJx4a65c_add_72be8 13 = .ok (.aload_n 1, 1) := by decide +kernel
theorem dJx4a65c_add_72be8_14 : decode cJx4a65c_add_72be8 14 = .ok (.aastore, 1) := by decide +kernel
theorem dJx4a65c_add_72be8_15 : decode cJx4a65c_add_72be8 15 = .ok (.aload_n 0, 1) := by decide +kernel
theorem dJx4a65c_add_72be8_16 : decode cJx4a65c_add_72be8 16 = .ok (.iload_n 3, 1) := by decide +kernel
theorem dJx4a65c_add_72be8_17 : decode cJx4a65c_add_72be8 17 = .ok (.iconst 1, 1) := by decide +kernel
theorem dJx4a65c_add_72be8_18 : decode cJx4a65c_add_72be8 18 = .ok (.iadd, 1) := by decide +kernel
theorem dJx4a65c_add_72be8_19 : decode cJx4a65c_add_72be8 19 = .ok (.putfield 48, 3) := by decide +kernel
theorem dJx4a65c_add_72be8_22 : decode cJx4a65c_add_72be8 22 = .ok (.return_, 1) := by decide +kernel
theorem dJx4a65c_add_9ea2d_0 : decode cJx4a65c_add_9ea2d 0 = .ok (.aload_n 0, 1) := by decide +kernel
theorem dJx4a65c_add_9ea2d_1 : decode cJx4a65c_add_9ea2d 1 = .ok (.dup, 1) := by decide +kernel
theorem dJx4a65c_add_9ea2d_2 : decode cJx4a65c_add_9ea2d 2 = .ok (.getfield 63, 3) := by decide +kernel
theorem dJx4a65c_add_9ea2d_5 : decode cJx4a65c_add_9ea2d 5 = .ok (.iconst 1, 1) := by decide +kernel
theorem dJx4a65c_add_9ea2d_6 : decode cJx4a65c_add_9ea2d 6 = .ok (.iadd, 1) := by decide +kernel
theorem dJx4a65c_add_9ea2d_7 : decode cJx4a65c_add_9ea2d 7 = .ok (.putfield 63, 3) := by decide +kernel
theorem dJx4a65c_add_9ea2d_10 : decode cJx4a65c_add_9ea2d 10 = .ok (.aload_n 0, 1) := by decide +kernel
theorem dJx4a65c_add_9ea2d_11 : decode cJx4a65c_add_9ea2d 11 = .ok (.aload_n 1, 1) := by decide +kernel
theorem dJx4a65c_add_9ea2d_12 : decode cJx4a65c_add_9ea2d 12 = .ok (.aload_n 0, 1) := by decide +kernel
theorem dJx4a65c_add_9ea2d_13 : decode cJx4a65c_add_9ea2d 13 = .ok (.getfield 9, 3) := by decide +kernel
theorem dJx4a65c_add_9ea2d_16 : decode cJx4a65c_add_9ea2d 16 = .ok (.aload_n 0, 1) := by decide +kernel
theorem dJx4a65c_add_9ea2d_17 : decode cJx4a65c_add_9ea2d 17 = .ok (.getfield 48, 3) := by decide +kernel
theorem dJx4a65c_add_9ea2d_20 : decode cJx4a65c_add_9ea2d 20 = .ok (.invokevirtual 131, 3) := by decide +kernel
theorem dJx4a65c_add_9ea2d_23 : decode cJx4a65c_add_9ea2d 23 = .ok (.iconst 1, 1) := by decide +kernel
theorem dJx4a65c_add_9ea2d_24 : decode cJx4a65c_add_9ea2d 24 = .ok (.ireturn, 1) := by decide +kernel
theorem dJx4a65c_remove_915e3_0 : decode cJx4a65c_remove_915e3 0 = .ok (.iload_n 1, 1) := by decide +kernel
theorem dJx4a65c_remove_915e3_1 : decode cJx4a65c_remove_915e3 1 = .ok (.aload_n 0, 1) := by decide +kernel
theorem dJx4a65c_remove_915e3_2 : decode cJx4a65c_remove_915e3 2 = .ok (.getfield 48, 3) := by decide +kernel
theorem dJx4a65c_remove_915e3_5 : decode cJx4a65c_remove_915e3 5 = .ok (.invokestatic 118, 3) := by decide +kernel
theorem dJx4a65c_remove_915e3_8 : decode cJx4a65c_remove_915e3 8 = .ok (.pop, 1) := by decide +kernel
theorem dJx4a65c_remove_915e3_9 : decode cJx4a65c_remove_915e3 9 = .ok (.aload_n 0, 1) := by decide +kernel
theorem dJx4a65c_remove_915e3_10 : decode cJx4a65c_remove_915e3 10 = .ok (.getfield 9, 3) := by decide +kernel
theorem dJx4a65c_remove_915e3_13 : decode cJx4a65c_remove_915e3 13 = .ok (.astore_n 2, 1) := by decide +kernel
theorem dJx4a65c_remove_915e3_14 : decode cJx4a65c_remove_915e3 14 = .ok (.aload_n 2, 1) := by decide +kernel
theorem dJx4a65c_remove_915e3_15 : decode cJx4a65c_remove_915e3 15 = .ok (.iload_n 1, 1) := by decide +kernel
theorem dJx4a65c_remove_915e3_16 : decode cJx4a65c_remove_915e3 16 = .ok (.aaload, 1) := by decide +kernel
theorem dJx4a65c_remove_915e3_17 : decode cJx4a65c_remove_915e3 17 = .ok (.astore_n 3, 1) := by decide +kernel
theorem dJx4a65c_remove_915e3_18 : decode cJx4a65c_remove_915e3 18 = .ok (.aload_n 0, 1) := by decide +kernel
theorem dJx4a65c_remove_915e3_19 : decode cJx4a65c_remove_915e3 19 = .ok (.aload_n 2, 1) := by decide +kernel
theorem dJx4a65c_remove_915e3_20 : decode cJx4a65c_remove_915e3 20 = .ok (.iload_n 1, 1) := by decide +kernel
theorem dJx4a65c_remove_915e3_21 : decode cJx4a65c_remove_915e3 21 = .ok (.invokevirtual 144, 3) := by decide +kernel
theorem dJx4a65c_remove_915e3_24 : decode cJx4a65c_remove_915e3 24 = .ok (.aload_n 3, 1) := by decide +kernel
theorem dJx4a65c_remove_915e3_25 : decode cJx4a65c_remove_915e3 25 = .ok (.areturn, 1) := by decide +kernel
theorem dJx4a65c_fastRemove_b59b0_0 : decode cJx4a65c_fastRemove_b59b0 0 = .ok (.aload_n 0, 1) := by decide +kernel
theorem dJx4a65c_fastRemove_b59b0_1 : decode cJx4a65c_fastRemove_b59b0 1 = .ok (.dup, 1) := by decide +kernel
theorem dJx4a65c_fastRemove_b59b0_2 : decode cJx4a65c_fastRemove_b59b0 2 = .ok (.getfield 63, 3) := by decide +kernel
theorem dJx4a65c_fastRemove_b59b0_5 : decode cJx4a65c_fastRemove_b59b0 5 = .ok (.iconst 1, 1) := by decide +kernel
theorem dJx4a65c_fastRemove_b59b0_6 : decode cJx4a65c_fastRemove_b59b0 6 = .ok (.iadd, 1) := by decide +kernel
theorem dJx4a65c_fastRemove_b59b0_7 : decode cJx4a65c_fastRemove_b59b0 7 = .ok (.putfield 63, 3) := by decide +kernel
theorem dJx4a65c_fastRemove_b59b0_10 : decode cJx4a65c_fastRemove_b59b0 10 = .ok (.aload_n 0, 1) := by decide +kernel
theorem dJx4a65c_fastRemove_b59b0_11 : decode cJx4a65c_fastRemove_b59b0 11 = .ok (.getfield 48, 3) := by decide +kernel
theorem dJx4a65c_fastRemove_b59b0_14 : decode cJx4a65c_fastRemove_b59b0 14 = .ok (.iconst 1, 1) := by decide +kernel
theorem dJx4a65c_fastRemove_b59b0_15 : decode cJx4a65c_fastRemove_b59b0 15 = .ok (.isub, 1) := by decide +kernel
theorem dJx4a65c_fastRemove_b59b0_16 : decode cJx4a65c_fastRemove_b59b0 16 = .ok (.dup, 1) := by decide +kernel
theorem dJx4a65c_fastRemove_b59b0_17 : decode cJx4a65c_fastRemove_b59b0 17 = .ok (.istore_n 3, 1) := by decide +kernel
theorem dJx4a65c_fastRemove_b59b0_18 : decode cJx4a65c_fastRemove_b59b0 18 = .ok (.iload_n 2, 1) := by decide +kernel
theorem dJx4a65c_fastRemove_b59b0_19 : decode cJx4a65c_fastRemove_b59b0 19 = .ok (.if_icmp .le 15, 3) := by decide +kernel
theorem dJx4a65c_fastRemove_b59b0_22 : decode cJx4a65c_fastRemove_b59b0 22 = .ok (.aload_n 1, 1) := by decide +kernel
theorem dJx4a65c_fastRemove_b59b0_23 : decode cJx4a65c_fastRemove_b59b0 23 = .ok (.iload_n 2, 1) := by decide +kernel
theorem dJx4a65c_fastRemove_b59b0_24 : decode cJx4a65c_fastRemove_b59b0 24 = .ok (.iconst 1, 1) := by decide +kernel
theorem dJx4a65c_fastRemove_b59b0_25 : decode cJx4a65c_fastRemove_b59b0 25 = .ok (.iadd, 1) := by decide +kernel
theorem dJx4a65c_fastRemove_b59b0_26 : decode cJx4a65c_fastRemove_b59b0 26 = .ok (.aload_n 1, 1) := by decide +kernel
theorem dJx4a65c_fastRemove_b59b0_27 : decode cJx4a65c_fastRemove_b59b0 27 = .ok (.iload_n 2, 1) := by decide +kernel
theorem dJx4a65c_fastRemove_b59b0_28 : decode cJx4a65c_fastRemove_b59b0 28 = .ok (.iload_n 3, 1) := by decide +kernel
theorem dJx4a65c_fastRemove_b59b0_29 : decode cJx4a65c_fastRemove_b59b0 29 = .ok (.iload_n 2, 1) := by decide +kernel
theorem dJx4a65c_fastRemove_b59b0_30 : decode cJx4a65c_fastRemove_b59b0 30 = .ok (.isub, 1) := by decide +kernel
theorem dJx4a65c_fastRemove_b59b0_31 : decode cJx4a65c_fastRemove_b59b0 31 = .ok (.invokestatic 112, 3) := by decide +kernel
theorem dJx4a65c_fastRemove_b59b0_34 : decode cJx4a65c_fastRemove_b59b0 34 = .ok (.aload_n 1, 1) := by decide +kernel
theorem dJx4a65c_fastRemove_b59b0_35 : decode cJx4a65c_fastRemove_b59b0 35 = .ok (.aload_n 0, 1) := by decide +kernel
theorem dJx4a65c_fastRemove_b59b0_36 : decode cJx4a65c_fastRemove_b59b0 36 = .ok (.iload_n 3, 1) := by decide +kernel
theorem dJx4a65c_fastRemove_b59b0_37 : decode cJx4a65c_fastRemove_b59b0 37 = .ok (.dup_x1, 1) := by decide +kernel
theorem dJx4a65c_fastRemove_b59b0_38 : decode cJx4a65c_fastRemove_b59b0 38 = .ok (.putfield 48, 3) := by decide +kernel
theorem dJx4a65c_fastRemove_b59b0_41 : decode cJx4a65c_fastRemove_b59b0 41 = .ok (.aconst_null, 1) := by decide +kernel
theorem dJx4a65c_fastRemove_b59b0_42 : decode cJx4a65c_fastRemove_b59b0 42 = .ok (.aastore, 1) := by decide +kernel
theorem dJx4a65c_fastRemove_b59b0_43 : decode cJx4a65c_fastRemove_b59b0 43 = .ok (.return_, 1) := by decide +kernel
theorem dJx4a65c_clear_da8c8_0 : decode cJx4a65c_clear_da8c8 0 = .ok (.aload_n 0, 1) := by decide +kernel
theorem dJx4a65c_clear_da8c8_1 : decode cJx4a65c_clear_da8c8 1 = .ok (.dup, 1) := by decide +kernel
theorem dJx4a65c_clear_da8c8_2 : decode cJx4a65c_clear_da8c8 2 = .ok (.getfield 63, 3) := by decide +kernel
theorem dJx4a65c_clear_da8c8_5 : decode cJx4a65c_clear_da8c8 5 = .ok (.iconst 1, 1) := by decide +kernel
theorem dJx4a65c_clear_da8c8_6 : decode cJx4a65c_clear_da8c8 6 = .ok (.iadd, 1) := by decide +kernel
theorem dJx4a65c_clear_da8c8_7 : decode cJx4a65c_clear_da8c8 7 = .ok (.putfield 63, 3) := by decide +kernel
theorem dJx4a65c_clear_da8c8_10 : decode cJx4a65c_clear_da8c8 10 = .ok (.aload_n 0, 1) := by decide +kernel
theorem dJx4a65c_clear_da8c8_11 : decode cJx4a65c_clear_da8c8 11 = .ok (.getfield 9, 3) := by decide +kernel
theorem dJx4a65c_clear_da8c8_14 : decode cJx4a65c_clear_da8c8 14 = .ok (.astore_n 1, 1) := by decide +kernel
theorem dJx4a65c_clear_da8c8_15 : decode cJx4a65c_clear_da8c8 15 = .ok (.aload_n 0, 1) := by decide +kernel
theorem dJx4a65c_clear_da8c8_16 : decode cJx4a65c_clear_da8c8 16 = .ok (.getfield 48, 3) := by decide +kernel
theorem dJx4a65c_clear_da8c8_19 : decode cJx4a65c_clear_da8c8 19 = .ok (.istore_n 2, 1) := by decide +kernel
theorem dJx4a65c_clear_da8c8_20 : decode cJx4a65c_clear_da8c8 20 = .ok (.aload_n 0, 1) := by decide +kernel
theorem dJx4a65c_clear_da8c8_21 : decode cJx4a65c_clear_da8c8 21 = .ok (.iconst 0, 1) := by decide +kernel
theorem dJx4a65c_clear_da8c8_22 : decode cJx4a65c_clear_da8c8 22 = .ok (.dup_x1, 1) := by decide +kernel
theorem dJx4a65c_clear_da8c8_23 : decode cJx4a65c_clear_da8c8 23 = .ok (.putfield 48, 3) := by decide +kernel
theorem dJx4a65c_clear_da8c8_26 : decode cJx4a65c_clear_da8c8 26 = .ok (.istore_n 3, 1) := by decide +kernel
theorem dJx4a65c_clear_da8c8_27 : decode cJx4a65c_clear_da8c8 27 = .ok (.iload_n 3, 1) := by decide +kernel
theorem dJx4a65c_clear_da8c8_28 : decode cJx4a65c_clear_da8c8 28 = .ok (.iload_n 2, 1) := by decide +kernel
theorem dJx4a65c_clear_da8c8_29 : decode cJx4a65c_clear_da8c8 29 = .ok (.if_icmp .ge 13, 3) := by decide +kernel
theorem dJx4a65c_clear_da8c8_32 : decode cJx4a65c_clear_da8c8 32 = .ok (.aload_n 1, 1) := by decide +kernel
theorem dJx4a65c_clear_da8c8_33 : decode cJx4a65c_clear_da8c8 33 = .ok (.iload_n 3, 1) := by decide +kernel
theorem dJx4a65c_clear_da8c8_34 : decode cJx4a65c_clear_da8c8 34 = .ok (.aconst_null, 1) := by decide +kernel
theorem dJx4a65c_clear_da8c8_35 : decode cJx4a65c_clear_da8c8 35 = .ok (.aastore, 1) := by decide +kernel
theorem dJx4a65c_clear_da8c8_36 : decode cJx4a65c_clear_da8c8 36 = .ok (.iinc 3 1, 3) := by decide +kernel
theorem dJx4a65c_clear_da8c8_39 : decode cJx4a65c_clear_da8c8 39 = .ok (.goto (-12), 3) := by decide +kernel
theorem dJx4a65c_clear_da8c8_42 : decode cJx4a65c_clear_da8c8 42 = .ok (.return_, 1) := by decide +kernel
theorem dJ7_copyOf_1904c_0 : decode cJ7_copyOf_1904c 0 = .ok (.aload_n 0, 1) := by decide +kernel
theorem dJ7_copyOf_1904c_1 : decode cJ7_copyOf_1904c 1 = .ok (.iload_n 1, 1) := by decide +kernel
theorem dJ7_copyOf_1904c_2 : decode cJ7_copyOf_1904c 2 = .ok (.aload_n 0, 1) := by decide +kernel
theorem dJ7_copyOf_1904c_3 : decode cJ7_copyOf_1904c 3 = .ok (.invokevirtual 86, 3) := by decide +kernel
theorem dJ7_copyOf_1904c_6 : decode cJ7_copyOf_1904c 6 = .ok (.invokestatic 300, 3) := by decide +kernel
theorem dJ7_copyOf_1904c_9 : decode cJ7_copyOf_1904c 9 = .ok (.areturn, 1) := by decide +kernel
theorem dJ7_copyOf_6403c_0 : decode cJ7_copyOf_6403c 0 = .ok (.aload_n 2, 1) := by decide +kernel
theorem dJ7_copyOf_6403c_1 : decode cJ7_copyOf_6403c 1 = .ok (.ldc 110, 2) := by decide +kernel
theorem dJ7_copyOf_6403c_3 : decode cJ7_copyOf_6403c 3 = .ok (.if_acmp .ne 10, 3) := by decide +kernel
theorem dJ7_copyOf_6403c_6 : decode cJ7_copyOf_6403c 6 = .ok (.iload_n 1, 1) := by decide +kernel
theorem dJ7_copyOf_6403c_7 : decode cJ7_copyOf_6403c 7 = .ok (.anewarray 2, 3) := by decide +kernel
theorem dJ7_copyOf_6403c_10 : decode cJ7_copyOf_6403c 10 = .ok (.goto 14, 3) := by decide +kernel
theorem dJ7_copyOf_6403c_13 : decode cJ7_copyOf_6403c 13 = .ok (.aload_n 2, 1) := by decide +kernel
theorem dJ7_copyOf_6403c_14 : decode cJ7_copyOf_6403c 14 = .ok (.invokevirtual 90, 3) := by decide +kernel
theorem dJ7_copyOf_6403c_17 : decode cJ7_copyOf_6403c 17 = .ok (.iload_n 1, 1) := by decide +kernel
theorem dJ7_copyOf_6403c_18 : decode cJ7_copyOf_6403c 18 = .ok (.invokestatic 95, 3) := by decide +kernel
theorem dJ7_copyOf_6403c_21 : decode cJ7_copyOf_6403c 21 = .ok (.checkcast 110, 3) := by decide +kernel
theorem dJ7_copyOf_6403c_24 : decode cJ7_copyOf_6403c 24 = .ok (.astore_n 3, 1) := by decide +kernel
theorem dJ7_copyOf_6403c_25 : decode cJ7_copyOf_6403c 25 = .ok (.aload_n 0, 1) := by decide +kernel
theorem dJ7_copyOf_6403c_26 : decode cJ7_copyOf_6403c 26 = .ok (.iconst 0, 1) := by decide +kernel
theorem dJ7_copyOf_6403c_27 : decode cJ7_copyOf_6403c 27 = .ok (.aload_n 3, 1) := by decide +kernel
theorem dJ7_copyOf_6403c_28 : decode cJ7_copyOf_6403c 28 = .ok (.iconst 0, 1) := by decide +kernel
theorem dJ7_copyOf_6403c_29 : decode cJ7_copyOf_6403c 29 = .ok (.aload_n 0, 1) := by decide +kernel
theorem dJ7_copyOf_6403c_30 : decode cJ7_copyOf_6403c 30 = .ok (.arraylength, 1) := by decide +kernel
theorem dJ7_copyOf_6403c_31 : decode cJ7_copyOf_6403c 31 = .ok (.iload_n 1, 1) := by decide +kernel
theorem dJ7_copyOf_6403c_32 : decode cJ7_copyOf_6403c 32 = .ok (.invokestatic 304, 3) := by decide +kernel
theorem dJ7_copyOf_6403c_35 : decode cJ7_copyOf_6403c 35 = .ok (.invokestatic 150, 3) := by decide +kernel
theorem dJ7_copyOf_6403c_38 : decode cJ7_copyOf_6403c 38 = .ok (.aload_n 3, 1) := by decide +kernel
theorem dJ7_copyOf_6403c_39 : decode cJ7_copyOf_6403c 39 = .ok (.areturn, 1) := by decide +kernel
theorem dJ15_checkIndex_7cf53_0 : decode cJ15_checkIndex_7cf53 0 = .ok (.iload_n 0, 1) := by decide +kernel
theorem dJ15_checkIndex_7cf53_1 : decode cJ15_checkIndex_7cf53 1 = .ok (.iload_n 1, 1) := by decide +kernel
theorem dJ15_checkIndex_7cf53_2 : decode cJ15_checkIndex_7cf53 2 = .ok (.aconst_null, 1) := by decide +kernel
theorem dJ15_checkIndex_7cf53_3 : decode cJ15_checkIndex_7cf53 3 = .ok (.invokestatic 105, 3) := by decide +kernel
theorem dJ15_checkIndex_7cf53_6 : decode cJ15_checkIndex_7cf53 6 = .ok (.ireturn, 1) := by decide +kernel
theorem dJ8_newLength_cabcc_0 : decode cJ8_newLength_cabcc 0 = .ok (.iload_n 0, 1) := by decide +kernel
theorem dJ8_newLength_cabcc_1 : decode cJ8_newLength_cabcc 1 = .ok (.iload_n 1, 1) := by decide +kernel
theorem dJ8_newLength_cabcc_2 : decode cJ8_newLength_cabcc 2 = .ok (.iload_n 2, 1) := by decide +kernel
theorem dJ8_newLength_cabcc_3 : decode cJ8_newLength_cabcc 3 = .ok (.invokestatic 194, 3) := by decide +kernel
theorem dJ8_newLength_cabcc_6 : decode cJ8_newLength_cabcc 6 = .ok (.iadd, 1) := by decide +kernel
theorem dJ8_newLength_cabcc_7 : decode cJ8_newLength_cabcc 7 = .ok (.istore_n 3, 1) := by decide +kernel
theorem dJ8_newLength_cabcc_8 : decode cJ8_newLength_cabcc 8 = .ok (.iconst 0, 1) := by decide +kernel
theorem dJ8_newLength_cabcc_9 : decode cJ8_newLength_cabcc 9 = .ok (.iload_n 3, 1) := by decide +kernel
theorem dJ8_newLength_cabcc_10 : decode cJ8_newLength_cabcc 10 = .ok (.if_icmp .ge 11, 3) := by decide +kernel
theorem dJ8_newLength_cabcc_13 : decode cJ8_newLength_cabcc 13 = .ok (.iload_n 3, 1) := by decide +kernel
theorem dJ8_newLength_cabcc_14 : decode cJ8_newLength_cabcc 14 = .ok (.ldc 200, 2) := by decide +kernel
theorem dJ8_newLength_cabcc_16 : decode cJ8_newLength_cabcc 16 = .ok (.if_icmp .gt 5, 3) := by decide +kernel
theorem dJ8_newLength_cabcc_19 : decode cJ8_newLength_cabcc 19 = .ok (.iload_n 3, 1) := by decide +kernel
theorem dJ8_newLength_cabcc_20 : decode cJ8_newLength_cabcc 20 = .ok (.ireturn, 1) := by decide +kernel
theorem dJ8_newLength_cabcc_21 : decode cJ8_newLength_cabcc 21 = .ok (.iload_n 0, 1) := by decide +kernel
theorem dJ8_newLength_cabcc_22 : decode cJ8_newLength_cabcc 22 = .ok (.iload_n 1, 1) := by decide +kernel
theorem dJ8_newLength_cabcc_23 : decode cJ8_newLength_cabcc 23 = .ok (.invokestatic 201, 3) := by decide +kernel
theorem dJ8_newLength_cabcc_26 : decode cJ8_newLength_cabcc 26 = .ok (.ireturn, 1) := by decide +kernel
theorem dJ3_checkIndex_8e157_0 : decode cJ3_checkIndex_8e157 0 = .ok (.iload_n 0, 1) := by decide +kernel
theorem dJ3_checkIndex_8e157_1 : decode cJ3_checkIndex_8e157 1 = .ok (.ifCond .lt 8, 3) := by decide +kernel
theorem dJ3_checkIndex_8e157_4 : decode cJ3_checkIndex_8e157 4 = .ok (.iload_n 0, 1) := by decide +kernel
theorem dJ3_checkIndex_8e157_5 : decode cJ3_checkIndex_8e157 5 = .ok (.iload_n 1, 1) := by decide +kernel
theorem dJ3_checkIndex_8e157_6 : decode cJ3_checkIndex_8e157 6 = .ok (.if_icmp .lt 10, 3) := by decide +kernel
theorem dJ3_checkIndex_8e157_9 : decode cJ3_checkIndex_8e157 9 = .ok (.aload_n 2, 1) := by decide +kernel
theorem dJ3_checkIndex_8e157_10 : decode cJ3_checkIndex_8e157 10 = .ok (.iload_n 0, 1) := by decide +kernel
theorem dJ3_checkIndex_8e157_11 : decode cJ3_checkIndex_8e157 11 = .ok (.iload_n 1, 1) := by decide +kernel
theorem dJ3_checkIndex_8e157_12 : decode cJ3_checkIndex_8e157 12 = .ok (.invokestatic 95, 3) := by decide +kernel
theorem dJ3_checkIndex_8e157_15 : decode cJ3_checkIndex_8e157 15 = .ok (.athrow, 1) := by decide +kernel
theorem dJ3_checkIndex_8e157_16 : decode cJ3_checkIndex_8e157 16 = .ok (.iload_n 0, 1) := by decide +kernel
theorem dJ3_checkIndex_8e157_17 : decode cJ3_checkIndex_8e157 17 = .ok (.ireturn, 1) := by decide +kernel
theorem dL_part_0 : decode cL_part 0 = .ok (.aload 4, 2) := by decide +kernel
theorem dL_part_2 : decode cL_part 2 = .ok (.iconst 0, 1) := by decide +kernel
theorem dL_part_3 : decode cL_part 3 = .ok (.aload_n 0, 1) := by decide +kernel
theorem dL_part_4 : decode cL_part 4 = .ok (.iload_n 1, 1) := by decide +kernel
theorem dL_part_5 : decode cL_part 5 = .ok (.iload_n 2, 1) := by decide +kernel
theorem dL_part_6 : decode cL_part 6 = .ok (.iload_n 3, 1) := by decide +kernel
theorem dL_part_7 : decode cL_part 7 = .ok (.invokevirtual 7, 3) := by decide +kernel
theorem dL_part_10 : decode cL_part 10 = .ok (.i2l, 1) := by decide +kernel
theorem dL_part_11 : decode cL_part 11 = .ok (.lastore, 1) := by decide +kernel
theorem dL_part_12 : decode cL_part 12 = .ok (.goto 11, 3) := by decide +kernel
theorem dL_part_15 : decode cL_part 15 = .ok (.astore 5, 2) := by decide +kernel
theorem dL_part_17 : decode cL_part 17 = .ok (.iconst 1, 1) := by decide +kernel
theorem dL_part_18 : decode cL_part 18 = .ok (.ireturn, 1) := by decide +kernel
theorem dL_part_19 : decode cL_part 19 = .ok (.astore 5, 2) := by decide +kernel
theorem dL_part_21 : decode cL_part 21 = .ok (.iconst 2, 1) := by decide +kernel
theorem dL_part_22 : decode cL_part 22 = .ok (.ireturn, 1) := by decide +kernel
theorem dL_part_23 : decode cL_part 23 = .ok (.iconst 0, 1) := by decide +kernel
theorem dL_part_24 : decode cL_part 24 = .ok (.ireturn, 1) := by decide +kernel
theorem dL_limits_0 : decode cL_limits 0 = .ok (.aload 5, 2) := by decide +kernel
theorem dL_limits_2 : decode cL_limits 2 = .ok (.iconst 0, 1) := by decide +kernel
theorem dL_limits_3 : decode cL_limits 3 = .ok (.aload_n 0, 1) := by decide +kernel
theorem dL_limits_4 : decode cL_limits 4 = .ok (.iload_n 1, 1) := by decide +kernel
theorem dL_limits_5 : decode cL_limits 5 = .ok (.iload_n 2, 1) := by decide +kernel
theorem dL_limits_6 : decode cL_limits 6 = .ok (.iload_n 3, 1) := by decide +kernel
theorem dL_limits_7 : decode cL_limits 7 = .ok (.iload 4, 2) := by decide +kernel
theorem dL_limits_9 : decode cL_limits 9 = .ok (.invokevirtual 17, 3) := by decide +kernel
theorem dL_limits_12 : decode cL_limits 12 = .ok (.i2l, 1) := by decide +kernel
theorem dL_limits_13 : decode cL_limits 13 = .ok (.lastore, 1) := by decide +kernel
theorem dL_limits_14 : decode cL_limits 14 = .ok (.goto 7, 3) := by decide +kernel
theorem dL_limits_17 : decode cL_limits 17 = .ok (.astore 6, 2) := by decide +kernel
theorem dL_limits_19 : decode cL_limits 19 = .ok (.iconst 1, 1) := by decide +kernel
theorem dL_limits_20 : decode cL_limits 20 = .ok (.ireturn, 1) := by decide +kernel
theorem dL_limits_21 : decode cL_limits 21 = .ok (.iconst 0, 1) := by decide +kernel
theorem dL_limits_22 : decode cL_limits 22 = .ok (.ireturn, 1) := by decide +kernel
theorem dL_fit_0 : decode cL_fit 0 = .ok (.aload_n 3, 1) := by decide +kernel
theorem dL_fit_1 : decode cL_fit 1 = .ok (.iconst 0, 1) := by decide +kernel
theorem dL_fit_2 : decode cL_fit 2 = .ok (.aload_n 0, 1) := by decide +kernel
theorem dL_fit_3 : decode cL_fit 3 = .ok (.iload_n 1, 1) := by decide +kernel
theorem dL_fit_4 : decode cL_fit 4 = .ok (.iload_n 2, 1) := by decide +kernel
theorem dL_fit_5 : decode cL_fit 5 = .ok (.invokevirtual 21, 3) := by decide +kernel
theorem dL_fit_8 : decode cL_fit 8 = .ok (.i2l, 1) := by decide +kernel
theorem dL_fit_9 : decode cL_fit 9 = .ok (.lastore, 1) := by decide +kernel
theorem dL_fit_10 : decode cL_fit 10 = .ok (.goto 15, 3) := by decide +kernel
theorem dL_fit_13 : decode cL_fit 13 = .ok (.astore 4, 2) := by decide +kernel
theorem dL_fit_15 : decode cL_fit 15 = .ok (.iconst 1, 1) := by decide +kernel
theorem dL_fit_16 : decode cL_fit 16 = .ok (.ireturn, 1) := by decide +kernel
theorem dL_fit_17 : decode cL_fit 17 = .ok (.astore 4, 2) := by decide +kernel
theorem dL_fit_19 : decode cL_fit 19 = .ok (.iconst 2, 1) := by decide +kernel
theorem dL_fit_20 : decode cL_fit 20 = .ok (.ireturn, 1) := by decide +kernel
theorem dL_fit_21 : decode cL_fit 21 = .ok (.astore 4, 2) := by decide +kernel
theorem dL_fit_23 : decode cL_fit 23 = .ok (.iconst 3, 1) := by decide +kernel
theorem dL_fit_24 : decode cL_fit 24 = .ok (.ireturn, 1) := by decide +kernel
theorem dL_fit_25 : decode cL_fit 25 = .ok (.iconst 0, 1) := by decide +kernel
theorem dL_fit_26 : decode cL_fit 26 = .ok (.ireturn, 1) := by decide +kernel
theorem dL_take_0 : decode cL_take 0 = .ok (.aload_n 2, 1) := by decide +kernel
theorem dL_take_1 : decode cL_take 1 = .ok (.iconst 0, 1) := by decide +kernel
theorem dL_take_2 : decode cL_take 2 = .ok (.aload_n 0, 1) := by decide +kernel
theorem dL_take_3 : decode cL_take 3 = .ok (.iload_n 1, 1) := by decide +kernel
theorem dL_take_4 : decode cL_take 4 = .ok (.invokevirtual 27, 3) := by decide +kernel
theorem dL_take_7 : decode cL_take 7 = .ok (.i2l, 1) := by decide +kernel
theorem dL_take_8 : decode cL_take 8 = .ok (.lastore, 1) := by decide +kernel
theorem dL_take_9 : decode cL_take 9 = .ok (.goto 9, 3) := by decide +kernel
theorem dL_take_12 : decode cL_take 12 = .ok (.astore_n 3, 1) := by decide +kernel
theorem dL_take_13 : decode cL_take 13 = .ok (.iconst 1, 1) := by decide +kernel
theorem dL_take_14 : decode cL_take 14 = .ok (.ireturn, 1) := by decide +kernel
theorem dL_take_15 : decode cL_take 15 = .ok (.astore_n 3, 1) := by decide +kernel
theorem dL_take_16 : decode cL_take 16 = .ok (.iconst 2, 1) := by decide +kernel
theorem dL_take_17 : decode cL_take 17 = .ok (.ireturn, 1) := by decide +kernel
theorem dL_take_18 : decode cL_take 18 = .ok (.iconst 0, 1) := by decide +kernel
theorem dL_take_19 : decode cL_take 19 = .ok (.ireturn, 1) := by decide +kernel
theorem dL_scrap_0 : decode cL_scrap 0 = .ok (.aload_n 0, 1) := by decide +kernel
theorem dL_scrap_1 : decode cL_scrap 1 = .ok (.iload_n 1, 1) := by decide +kernel
theorem dL_scrap_2 : decode cL_scrap 2 = .ok (.invokevirtual 31, 3) := by decide +kernel
theorem dL_scrap_5 : decode cL_scrap 5 = .ok (.goto 9, 3) := by decide +kernel
theorem dL_scrap_8 : decode cL_scrap 8 = .ok (.astore_n 2, 1) := by decide +kernel
theorem dL_scrap_9 : decode cL_scrap 9 = .ok (.iconst 1, 1) := by decide +kernel
theorem dL_scrap_10 : decode cL_scrap 10 = .ok (.ireturn, 1) := by decide +kernel
theorem dL_scrap_11 : decode cL_scrap 11 = .ok (.astore_n 2, 1) := by decide +kernel
theorem dL_scrap_12 : decode cL_scrap 12 = .ok (.iconst 2, 1) := by decide +kernel
theorem dL_scrap_13 : decode cL_scrap 13 = .ok (.ireturn, 1) := by decide +kernel
theorem dL_scrap_14 : decode cL_scrap 14 = .ok (.iconst 0, 1) := by decide +kernel
theorem dL_scrap_15 : decode cL_scrap 15 = .ok (.ireturn, 1) := by decide +kernel
theorem dL_run_0 : decode cL_run 0 = .ok (.aload 4, 2) := by decide +kernel
theorem dL_run_2 : decode cL_run 2 = .ok (.iconst 0, 1) := by decide +kernel
theorem dL_run_3 : decode cL_run 3 = .ok (.aload_n 0, 1) := by decide +kernel
theorem dL_run_4 : decode cL_run 4 = .ok (.iload_n 1, 1) := by decide +kernel
theorem dL_run_5 : decode cL_run 5 = .ok (.iload_n 2, 1) := by decide +kernel
theorem dL_run_6 : decode cL_run 6 = .ok (.iload_n 3, 1) := by decide +kernel
theorem dL_run_7 : decode cL_run 7 = .ok (.invokevirtual 35, 3) := by decide +kernel
theorem dL_run_10 : decode cL_run 10 = .ok (.i2l, 1) := by decide +kernel
theorem dL_run_11 : decode cL_run 11 = .ok (.lastore, 1) := by decide +kernel
theorem dL_run_12 : decode cL_run 12 = .ok (.goto 15, 3) := by decide +kernel
theorem dL_run_15 : decode cL_run 15 = .ok (.astore 5, 2) := by decide +kernel
theorem dL_run_17 : decode cL_run 17 = .ok (.iconst 1, 1) := by decide +kernel
theorem dL_run_18 : decode cL_run 18 = .ok (.ireturn, 1) := by decide +kernel
theorem dL_run_19 : decode cL_run 19 = .ok (.astore 5, 2) := by decide +kernel
theorem dL_run_21 : decode cL_run 21 = .ok (.iconst 2, 1) := by decide +kernel
theorem dL_run_22 : decode cL_run 22 = .ok (.ireturn, 1) := by decide +kernel
theorem dL_run_23 : decode cL_run 23 = .ok (.astore 5, 2) := by decide +kernel
theorem dL_run_25 : decode cL_run 25 = .ok (.iconst 3, 1) := by decide +kernel
theorem dL_run_26 : decode cL_run 26 = .ok (.ireturn, 1) := by decide +kernel
theorem dL_run_27 : decode cL_run 27 = .ok (.iconst 0, 1) := by decide +kernel
theorem dL_run_28 : decode cL_run 28 = .ok (.ireturn, 1) := by decide +kernel
theorem dL_turn_0 : decode cL_turn 0 = .ok (.aload_n 2, 1) := by decide +kernel
theorem dL_turn_1 : decode cL_turn 1 = .ok (.iconst 0, 1) := by decide +kernel
theorem dL_turn_2 : decode cL_turn 2 = .ok (.aload_n 0, 1) := by decide +kernel
theorem dL_turn_3 : decode cL_turn 3 = .ok (.iload_n 1, 1) := by decide +kernel
theorem dL_turn_4 : decode cL_turn 4 = .ok (.invokevirtual 38, 3) := by decide +kernel
theorem dL_turn_7 : decode cL_turn 7 = .ok (.i2l, 1) := by decide +kernel
theorem dL_turn_8 : decode cL_turn 8 = .ok (.lastore, 1) := by decide +kernel
theorem dL_turn_9 : decode cL_turn 9 = .ok (.goto 12, 3) := by decide +kernel
theorem dL_turn_12 : decode cL_turn 12 = .ok (.astore_n 3, 1) := by decide +kernel
theorem dL_turn_13 : decode cL_turn 13 = .ok (.iconst 1, 1) := by decide +kernel
theorem dL_turn_14 : decode cL_turn 14 = .ok (.ireturn, 1) := by decide +kernel
theorem dL_turn_15 : decode cL_turn 15 = .ok (.astore_n 3, 1) := by decide +kernel
theorem dL_turn_16 : decode cL_turn 16 = .ok (.iconst 2, 1) := by decide +kernel
theorem dL_turn_17 : decode cL_turn 17 = .ok (.ireturn, 1) := by decide +kernel
theorem dL_turn_18 : decode cL_turn 18 = .ok (.astore_n 3, 1) := by decide +kernel
theorem dL_turn_19 : decode cL_turn 19 = .ok (.iconst 3, 1) := by decide +kernel
theorem dL_turn_20 : decode cL_turn 20 = .ok (.ireturn, 1) := by decide +kernel
theorem dL_turn_21 : decode cL_turn 21 = .ok (.iconst 0, 1) := by decide +kernel
theorem dL_turn_22 : decode cL_turn 22 = .ok (.ireturn, 1) := by decide +kernel
theorem dL_gate_0 : decode cL_gate 0 = .ok (.aload_n 3, 1) := by decide +kernel
theorem dL_gate_1 : decode cL_gate 1 = .ok (.iconst 0, 1) := by decide +kernel
theorem dL_gate_2 : decode cL_gate 2 = .ok (.aload_n 0, 1) := by decide +kernel
theorem dL_gate_3 : decode cL_gate 3 = .ok (.iload_n 1, 1) := by decide +kernel
theorem dL_gate_4 : decode cL_gate 4 = .ok (.iload_n 2, 1) := by decide +kernel
theorem dL_gate_5 : decode cL_gate 5 = .ok (.invokevirtual 41, 3) := by decide +kernel
theorem dL_gate_8 : decode cL_gate 8 = .ok (.i2l, 1) := by decide +kernel
theorem dL_gate_9 : decode cL_gate 9 = .ok (.lastore, 1) := by decide +kernel
theorem dL_gate_10 : decode cL_gate 10 = .ok (.goto 11, 3) := by decide +kernel
theorem dL_gate_13 : decode cL_gate 13 = .ok (.astore 4, 2) := by decide +kernel
theorem dL_gate_15 : decode cL_gate 15 = .ok (.iconst 1, 1) := by decide +kernel
theorem dL_gate_16 : decode cL_gate 16 = .ok (.ireturn, 1) := by decide +kernel
theorem dL_gate_17 : decode cL_gate 17 = .ok (.astore 4, 2) := by decide +kernel
theorem dL_gate_19 : decode cL_gate 19 = .ok (.iconst 2, 1) := by decide +kernel
theorem dL_gate_20 : decode cL_gate 20 = .ok (.ireturn, 1) := by decide +kernel
theorem dL_gate_21 : decode cL_gate 21 = .ok (.iconst 0, 1) := by decide +kernel
theorem dL_gate_22 : decode cL_gate 22 = .ok (.ireturn, 1) := by decide +kernel
theorem dL_examine_0 : decode cL_examine 0 = .ok (.aload_n 2, 1) := by decide +kernel
theorem dL_examine_1 : decode cL_examine 1 = .ok (.iconst 0, 1) := by decide +kernel
theorem dL_examine_2 : decode cL_examine 2 = .ok (.aload_n 0, 1) := by decide +kernel
theorem dL_examine_3 : decode cL_examine 3 = .ok (.iload_n 1, 1) := by decide +kernel
theorem dL_examine_4 : decode cL_examine 4 = .ok (.invokevirtual 44, 3) := by decide +kernel
theorem dL_examine_7 : decode cL_examine 7 = .ok (.i2l, 1) := by decide +kernel
theorem dL_examine_8 : decode cL_examine 8 = .ok (.lastore, 1) := by decide +kernel
theorem dL_examine_9 : decode cL_examine 9 = .ok (.goto 9, 3) := by decide +kernel
theorem dL_examine_12 : decode cL_examine 12 = .ok (.astore_n 3, 1) := by decide +kernel
theorem dL_examine_13 : decode cL_examine 13 = .ok (.iconst 1, 1) := by decide +kernel
theorem dL_examine_14 : decode cL_examine 14 = .ok (.ireturn, 1) := by decide +kernel
theorem dL_examine_15 : decode cL_examine 15 = .ok (.astore_n 3, 1) := by decide +kernel
theorem dL_examine_16 : decode cL_examine 16 = .ok (.iconst 2, 1) := by decide +kernel
theorem dL_examine_17 : decode cL_examine 17 = .ok (.ireturn, 1) := by decide +kernel
theorem dL_examine_18 : decode cL_examine 18 = .ok (.iconst 0, 1) := by decide +kernel
theorem dL_examine_19 : decode cL_examine 19 = .ok (.ireturn, 1) := by decide +kernel
theorem dL_waive_0 : decode cL_waive 0 = .ok (.aload_n 0, 1) := by decide +kernel
theorem dL_waive_1 : decode cL_waive 1 = .ok (.iload_n 1, 1) := by decide +kernel
theorem dL_waive_2 : decode cL_waive 2 = .ok (.iload_n 2, 1) := by decide +kernel
theorem dL_waive_3 : decode cL_waive 3 = .ok (.invokevirtual 47, 3) := by decide +kernel
theorem dL_waive_6 : decode cL_waive 6 = .ok (.goto 12, 3) := by decide +kernel
theorem dL_waive_9 : decode cL_waive 9 = .ok (.astore_n 3, 1) := by decide +kernel
theorem dL_waive_10 : decode cL_waive 10 = .ok (.iconst 1, 1) := by decide +kernel
theorem dL_waive_11 : decode cL_waive 11 = .ok (.ireturn, 1) := by decide +kernel
theorem dL_waive_12 : decode cL_waive 12 = .ok (.astore_n 3, 1) := by decide +kernel
theorem dL_waive_13 : decode cL_waive 13 = .ok (.iconst 2, 1) := by decide +kernel
theorem dL_waive_14 : decode cL_waive 14 = .ok (.ireturn, 1) := by decide +kernel
theorem dL_waive_15 : decode cL_waive 15 = .ok (.astore_n 3, 1) := by decide +kernel
theorem dL_waive_16 : decode cL_waive 16 = .ok (.iconst 3, 1) := by decide +kernel
theorem dL_waive_17 : decode cL_waive 17 = .ok (.ireturn, 1) := by decide +kernel
theorem dL_waive_18 : decode cL_waive 18 = .ok (.iconst 0, 1) := by decide +kernel
theorem dL_waive_19 : decode cL_waive 19 = .ok (.ireturn, 1) := by decide +kernel
theorem dL_flaw_0 : decode cL_flaw 0 = .ok (.aload_n 3, 1) := by decide +kernel
theorem dL_flaw_1 : decode cL_flaw 1 = .ok (.iconst 0, 1) := by decide +kernel
theorem dL_flaw_2 : decode cL_flaw 2 = .ok (.aload_n 0, 1) := by decide +kernel
theorem dL_flaw_3 : decode cL_flaw 3 = .ok (.iload_n 1, 1) := by decide +kernel
theorem dL_flaw_4 : decode cL_flaw 4 = .ok (.iload_n 2, 1) := by decide +kernel
theorem dL_flaw_5 : decode cL_flaw 5 = .ok (.invokevirtual 51, 3) := by decide +kernel
theorem dL_flaw_8 : decode cL_flaw 8 = .ok (.i2l, 1) := by decide +kernel
theorem dL_flaw_9 : decode cL_flaw 9 = .ok (.lastore, 1) := by decide +kernel
theorem dL_flaw_10 : decode cL_flaw 10 = .ok (.goto 11, 3) := by decide +kernel
theorem dL_flaw_13 : decode cL_flaw 13 = .ok (.astore 4, 2) := by decide +kernel
theorem dL_flaw_15 : decode cL_flaw 15 = .ok (.iconst 1, 1) := by decide +kernel
theorem dL_flaw_16 : decode cL_flaw 16 = .ok (.ireturn, 1) := by decide +kernel
theorem dL_flaw_17 : decode cL_flaw 17 = .ok (.astore 4, 2) := by decide +kernel
theorem dL_flaw_19 : decode cL_flaw 19 = .ok (.iconst 2, 1) := by decide +kernel
theorem dL_flaw_20 : decode cL_flaw 20 = .ok (.ireturn, 1) := by decide +kernel
theorem dL_flaw_21 : decode cL_flaw 21 = .ok (.iconst 0, 1) := by decide +kernel
theorem dL_flaw_22 : decode cL_flaw 22 = .ok (.ireturn, 1) := by decide +kernel
theorem dL_look_0 : decode cL_look 0 = .ok (.aload_n 3, 1) := by decide +kernel
theorem dL_look_1 : decode cL_look 1 = .ok (.iconst 0, 1) := by decide +kernel
theorem dL_look_2 : decode cL_look 2 = .ok (.aload_n 0, 1) := by decide +kernel
theorem dL_look_3 : decode cL_look 3 = .ok (.iload_n 1, 1) := by decide +kernel
theorem dL_look_4 : decode cL_look 4 = .ok (.iload_n 2, 1) := by decide +kernel
theorem dL_look_5 : decode cL_look 5 = .ok (.invokevirtual 54, 3) := by decide +kernel
theorem dL_look_8 : decode cL_look 8 = .ok (.i2l, 1) := by decide +kernel
theorem dL_look_9 : decode cL_look 9 = .ok (.lastore, 1) := by decide +kernel
theorem dL_look_10 : decode cL_look 10 = .ok (.goto 11, 3) := by decide +kernel
theorem dL_look_13 : decode cL_look 13 = .ok (.astore 4, 2) := by decide +kernel
theorem dL_look_15 : decode cL_look 15 = .ok (.iconst 1, 1) := by decide +kernel
theorem dL_look_16 : decode cL_look 16 = .ok (.ireturn, 1) := by decide +kernel
theorem dL_look_17 : decode cL_look 17 = .ok (.astore 4, 2) := by decide +kernel
theorem dL_look_19 : decode cL_look 19 = .ok (.iconst 2, 1) := by decide +kernel
theorem dL_look_20 : decode cL_look 20 = .ok (.ireturn, 1) := by decide +kernel
theorem dL_look_21 : decode cL_look 21 = .ok (.iconst 0, 1) := by decide +kernel
theorem dL_look_22 : decode cL_look 22 = .ok (.ireturn, 1) := by decide +kernel
theorem dL_clear_0 : decode cL_clear 0 = .ok (.aload_n 2, 1) := by decide +kernel
theorem dL_clear_1 : decode cL_clear 1 = .ok (.iconst 0, 1) := by decide +kernel
theorem dL_clear_2 : decode cL_clear 2 = .ok (.aload_n 0, 1) := by decide +kernel
theorem dL_clear_3 : decode cL_clear 3 = .ok (.iload_n 1, 1) := by decide +kernel
theorem dL_clear_4 : decode cL_clear 4 = .ok (.invokevirtual 58, 3) := by decide +kernel
theorem dL_clear_7 : decode cL_clear 7 = .ok (.i2l, 1) := by decide +kernel
theorem dL_clear_8 : decode cL_clear 8 = .ok (.lastore, 1) := by decide +kernel
theorem dL_clear_9 : decode cL_clear 9 = .ok (.goto 9, 3) := by decide +kernel
theorem dL_clear_12 : decode cL_clear 12 = .ok (.astore_n 3, 1) := by decide +kernel
theorem dL_clear_13 : decode cL_clear 13 = .ok (.iconst 1, 1) := by decide +kernel
theorem dL_clear_14 : decode cL_clear 14 = .ok (.ireturn, 1) := by decide +kernel
theorem dL_clear_15 : decode cL_clear 15 = .ok (.astore_n 3, 1) := by decide +kernel
theorem dL_clear_16 : decode cL_clear 16 = .ok (.iconst 2, 1) := by decide +kernel
theorem dL_clear_17 : decode cL_clear 17 = .ok (.ireturn, 1) := by decide +kernel
theorem dL_clear_18 : decode cL_clear 18 = .ok (.iconst 0, 1) := by decide +kernel
theorem dL_clear_19 : decode cL_clear 19 = .ok (.ireturn, 1) := by decide +kernel
theorem dL_recall_0 : decode cL_recall 0 = .ok (.aload_n 2, 1) := by decide +kernel
theorem dL_recall_1 : decode cL_recall 1 = .ok (.iconst 0, 1) := by decide +kernel
theorem dL_recall_2 : decode cL_recall 2 = .ok (.aload_n 0, 1) := by decide +kernel
theorem dL_recall_3 : decode cL_recall 3 = .ok (.iload_n 1, 1) := by decide +kernel
theorem dL_recall_4 : decode cL_recall 4 = .ok (.invokevirtual 61, 3) := by decide +kernel
theorem dL_recall_7 : decode cL_recall 7 = .ok (.i2l, 1) := by decide +kernel
theorem dL_recall_8 : decode cL_recall 8 = .ok (.lastore, 1) := by decide +kernel
theorem dL_recall_9 : decode cL_recall 9 = .ok (.goto 6, 3) := by decide +kernel
theorem dL_recall_12 : decode cL_recall 12 = .ok (.astore_n 3, 1) := by decide +kernel
theorem dL_recall_13 : decode cL_recall 13 = .ok (.iconst 1, 1) := by decide +kernel
theorem dL_recall_14 : decode cL_recall 14 = .ok (.ireturn, 1) := by decide +kernel
theorem dL_recall_15 : decode cL_recall 15 = .ok (.iconst 0, 1) := by decide +kernel
theorem dL_recall_16 : decode cL_recall 16 = .ok (.ireturn, 1) := by decide +kernel
theorem dL_release_0 : decode cL_release 0 = .ok (.aload_n 2, 1) := by decide +kernel
theorem dL_release_1 : decode cL_release 1 = .ok (.iconst 0, 1) := by decide +kernel
theorem dL_release_2 : decode cL_release 2 = .ok (.aload_n 0, 1) := by decide +kernel
theorem dL_release_3 : decode cL_release 3 = .ok (.iload_n 1, 1) := by decide +kernel
theorem dL_release_4 : decode cL_release 4 = .ok (.invokevirtual 64, 3) := by decide +kernel
theorem dL_release_7 : decode cL_release 7 = .ok (.i2l, 1) := by decide +kernel
theorem dL_release_8 : decode cL_release 8 = .ok (.lastore, 1) := by decide +kernel
theorem dL_release_9 : decode cL_release 9 = .ok (.goto 9, 3) := by decide +kernel
theorem dL_release_12 : decode cL_release 12 = .ok (.astore_n 3, 1) := by decide +kernel
theorem dL_release_13 : decode cL_release 13 = .ok (.iconst 1, 1) := by decide +kernel
theorem dL_release_14 : decode cL_release 14 = .ok (.ireturn, 1) := by decide +kernel
theorem dL_release_15 : decode cL_release 15 = .ok (.astore_n 3, 1) := by decide +kernel
theorem dL_release_16 : decode cL_release 16 = .ok (.iconst 2, 1) := by decide +kernel
theorem dL_release_17 : decode cL_release 17 = .ok (.ireturn, 1) := by decide +kernel
theorem dL_release_18 : decode cL_release 18 = .ok (.iconst 0, 1) := by decide +kernel
theorem dL_release_19 : decode cL_release 19 = .ok (.ireturn, 1) := by decide +kernel
theorem dL_comes_0 : decode cL_comes 0 = .ok (.aload_n 3, 1) := by decide +kernel
theorem dL_comes_1 : decode cL_comes 1 = .ok (.iconst 0, 1) := by decide +kernel
theorem dL_comes_2 : decode cL_comes 2 = .ok (.aload_n 0, 1) := by decide +kernel
theorem dL_comes_3 : decode cL_comes 3 = .ok (.iload_n 1, 1) := by decide +kernel
theorem dL_comes_4 : decode cL_comes 4 = .ok (.iload_n 2, 1) := by decide +kernel
theorem dL_comes_5 : decode cL_comes 5 = .ok (.invokevirtual 67, 3) := by decide +kernel
theorem dL_comes_8 : decode cL_comes 8 = .ok (.i2l, 1) := by decide +kernel
theorem dL_comes_9 : decode cL_comes 9 = .ok (.lastore, 1) := by decide +kernel
theorem dL_comes_10 : decode cL_comes 10 = .ok (.goto 15, 3) := by decide +kernel
theorem dL_comes_13 : decode cL_comes 13 = .ok (.astore 4, 2) := by decide +kernel
theorem dL_comes_15 : decode cL_comes 15 = .ok (.iconst 1, 1) := by decide +kernel
theorem dL_comes_16 : decode cL_comes 16 = .ok (.ireturn, 1) := by decide +kernel
theorem dL_comes_17 : decode cL_comes 17 = .ok (.astore 4, 2) := by decide +kernel
theorem dL_comes_19 : decode cL_comes 19 = .ok (.iconst 2, 1) := by decide +kernel
theorem dL_comes_20 : decode cL_comes 20 = .ok (.ireturn, 1) := by decide +kernel
theorem dL_comes_21 : decode cL_comes 21 = .ok (.astore 4, 2) := by decide +kernel
theorem dL_comes_23 : decode cL_comes 23 = .ok (.iconst 3, 1) := by decide +kernel
theorem dL_comes_24 : decode cL_comes 24 = .ok (.ireturn, 1) := by decide +kernel
theorem dL_comes_25 : decode cL_comes 25 = .ok (.iconst 0, 1) := by decide +kernel
theorem dL_comes_26 : decode cL_comes 26 = .ok (.ireturn, 1) := by decide +kernel
theorem dL_night_0 : decode cL_night 0 = .ok (.aload_n 1, 1) := by decide +kernel
theorem dL_night_1 : decode cL_night 1 = .ok (.iconst 0, 1) := by decide +kernel
theorem dL_night_2 : decode cL_night 2 = .ok (.aload_n 0, 1) := by decide +kernel
theorem dL_night_3 : decode cL_night 3 = .ok (.invokevirtual 70, 3) := by decide +kernel
theorem dL_night_6 : decode cL_night 6 = .ok (.i2l, 1) := by decide +kernel
theorem dL_night_7 : decode cL_night 7 = .ok (.lastore, 1) := by decide +kernel
theorem dL_night_8 : decode cL_night 8 = .ok (.goto 6, 3) := by decide +kernel
theorem dL_night_11 : decode cL_night 11 = .ok (.astore_n 2, 1) := by decide +kernel
theorem dL_night_12 : decode cL_night 12 = .ok (.iconst 1, 1) := by decide +kernel
theorem dL_night_13 : decode cL_night 13 = .ok (.ireturn, 1) := by decide +kernel
theorem dL_night_14 : decode cL_night 14 = .ok (.iconst 0, 1) := by decide +kernel
theorem dL_night_15 : decode cL_night 15 = .ok (.ireturn, 1) := by decide +kernel
theorem dL_out_0 : decode cL_out 0 = .ok (.aload_n 1, 1) := by decide +kernel
theorem dL_out_1 : decode cL_out 1 = .ok (.iconst 0, 1) := by decide +kernel
theorem dL_out_2 : decode cL_out 2 = .ok (.aload_n 0, 1) := by decide +kernel
theorem dL_out_3 : decode cL_out 3 = .ok (.invokevirtual 74, 3) := by decide +kernel
theorem dL_out_6 : decode cL_out 6 = .ok (.i2l, 1) := by decide +kernel
theorem dL_out_7 : decode cL_out 7 = .ok (.lastore, 1) := by decide +kernel
theorem dL_out_8 : decode cL_out 8 = .ok (.goto 6, 3) := by decide +kernel
theorem dL_out_11 : decode cL_out 11 = .ok (.astore_n 2, 1) := by decide +kernel
theorem dL_out_12 : decode cL_out 12 = .ok (.iconst 1, 1) := by decide +kernel
theorem dL_out_13 : decode cL_out 13 = .ok (.ireturn, 1) := by decide +kernel
theorem dL_out_14 : decode cL_out 14 = .ok (.iconst 0, 1) := by decide +kernel
theorem dL_out_15 : decode cL_out 15 = .ok (.ireturn, 1) := by decide +kernel
theorem dL_host_0 : decode cL_host 0 = .ok (.aload_n 2, 1) := by decide +kernel
theorem dL_host_1 : decode cL_host 1 = .ok (.iconst 0, 1) := by decide +kernel
theorem dL_host_2 : decode cL_host 2 = .ok (.aload_n 0, 1) := by decide +kernel
theorem dL_host_3 : decode cL_host 3 = .ok (.iload_n 1, 1) := by decide +kernel
theorem dL_host_4 : decode cL_host 4 = .ok (.invokevirtual 77, 3) := by decide +kernel
theorem dL_host_7 : decode cL_host 7 = .ok (.i2l, 1) := by decide +kernel
theorem dL_host_8 : decode cL_host 8 = .ok (.lastore, 1) := by decide +kernel
theorem dL_host_9 : decode cL_host 9 = .ok (.goto 6, 3) := by decide +kernel
theorem dL_host_12 : decode cL_host 12 = .ok (.astore_n 3, 1) := by decide +kernel
theorem dL_host_13 : decode cL_host 13 = .ok (.iconst 1, 1) := by decide +kernel
theorem dL_host_14 : decode cL_host 14 = .ok (.ireturn, 1) := by decide +kernel
theorem dL_host_15 : decode cL_host 15 = .ok (.iconst 0, 1) := by decide +kernel
theorem dL_host_16 : decode cL_host 16 = .ok (.ireturn, 1) := by decide +kernel
theorem dL_head_0 : decode cL_head 0 = .ok (.aload_n 2, 1) := by decide +kernel
theorem dL_head_1 : decode cL_head 1 = .ok (.iconst 0, 1) := by decide +kernel
theorem dL_head_2 : decode cL_head 2 = .ok (.aload_n 0, 1) := by decide +kernel
theorem dL_head_3 : decode cL_head 3 = .ok (.iload_n 1, 1) := by decide +kernel
theorem dL_head_4 : decode cL_head 4 = .ok (.invokevirtual 80, 3) := by decide +kernel
theorem dL_head_7 : decode cL_head 7 = .ok (.i2l, 1) := by decide +kernel
theorem dL_head_8 : decode cL_head 8 = .ok (.lastore, 1) := by decide +kernel
theorem dL_head_9 : decode cL_head 9 = .ok (.goto 6, 3) := by decide +kernel
theorem dL_head_12 : decode cL_head 12 = .ok (.astore_n 3, 1) := by decide +kernel
theorem dL_head_13 : decode cL_head 13 = .ok (.iconst 1, 1) := by decide +kernel
theorem dL_head_14 : decode cL_head 14 = .ok (.ireturn, 1) := by decide +kernel
theorem dL_head_15 : decode cL_head 15 = .ok (.iconst 0, 1) := by decide +kernel
theorem dL_head_16 : decode cL_head 16 = .ok (.ireturn, 1) := by decide +kernel
theorem dL_ofPart_0 : decode cL_ofPart 0 = .ok (.aload_n 3, 1) := by decide +kernel
theorem dL_ofPart_1 : decode cL_ofPart 1 = .ok (.iconst 0, 1) := by decide +kernel
theorem dL_ofPart_2 : decode cL_ofPart 2 = .ok (.aload_n 0, 1) := by decide +kernel
theorem dL_ofPart_3 : decode cL_ofPart 3 = .ok (.iload_n 1, 1) := by decide +kernel
theorem dL_ofPart_4 : decode cL_ofPart 4 = .ok (.iload_n 2, 1) := by decide +kernel
theorem dL_ofPart_5 : decode cL_ofPart 5 = .ok (.invokevirtual 83, 3) := by decide +kernel
theorem dL_ofPart_8 : decode cL_ofPart 8 = .ok (.i2l, 1) := by decide +kernel
theorem dL_ofPart_9 : decode cL_ofPart 9 = .ok (.lastore, 1) := by decide +kernel
theorem dL_ofPart_10 : decode cL_ofPart 10 = .ok (.goto 11, 3) := by decide +kernel
theorem dL_ofPart_13 : decode cL_ofPart 13 = .ok (.astore 4, 2) := by decide +kernel
theorem dL_ofPart_15 : decode cL_ofPart 15 = .ok (.iconst 1, 1) := by decide +kernel
theorem dL_ofPart_16 : decode cL_ofPart 16 = .ok (.ireturn, 1) := by decide +kernel
theorem dL_ofPart_17 : decode cL_ofPart 17 = .ok (.astore 4, 2) := by decide +kernel
theorem dL_ofPart_19 : decode cL_ofPart 19 = .ok (.iconst 2, 1) := by decide +kernel
theorem dL_ofPart_20 : decode cL_ofPart 20 = .ok (.ireturn, 1) := by decide +kernel
theorem dL_ofPart_21 : decode cL_ofPart 21 = .ok (.iconst 0, 1) := by decide +kernel
theorem dL_ofPart_22 : decode cL_ofPart 22 = .ok (.ireturn, 1) := by decide +kernel
theorem dL_trace_0 : decode cL_trace 0 = .ok (.aload_n 3, 1) := by decide +kernel
theorem dL_trace_1 : decode cL_trace 1 = .ok (.iconst 0, 1) := by decide +kernel
theorem dL_trace_2 : decode cL_trace 2 = .ok (.aload_n 0, 1) := by decide +kernel
theorem dL_trace_3 : decode cL_trace 3 = .ok (.iload_n 1, 1) := by decide +kernel
theorem dL_trace_4 : decode cL_trace 4 = .ok (.iload_n 2, 1) := by decide +kernel
theorem dL_trace_5 : decode cL_trace 5 = .ok (.invokevirtual 86, 3) := by decide +kernel
theorem dL_trace_8 : decode cL_trace 8 = .ok (.i2l, 1) := by decide +kernel
theorem dL_trace_9 : decode cL_trace 9 = .ok (.lastore, 1) := by decide +kernel
theorem dL_trace_10 : decode cL_trace 10 = .ok (.goto 7, 3) := by decide +kernel
theorem dL_trace_13 : decode cL_trace 13 = .ok (.astore 4, 2) := by decide +kernel
theorem dL_trace_15 : decode cL_trace 15 = .ok (.iconst 1, 1) := by decide +kernel
theorem dL_trace_16 : decode cL_trace 16 = .ok (.ireturn, 1) := by decide +kernel
theorem dL_trace_17 : decode cL_trace 17 = .ok (.iconst 0, 1) := by decide +kernel
theorem dL_trace_18 : decode cL_trace 18 = .ok (.ireturn, 1) := by decide +kernel
theorem dL_lifeAnew_0 : decode cL_lifeAnew 0 = .ok (.aload_n 2, 1) := by decide +kernel
theorem dL_lifeAnew_1 : decode cL_lifeAnew 1 = .ok (.iconst 0, 1) := by decide +kernel
theorem dL_lifeAnew_2 : decode cL_lifeAnew 2 = .ok (.aload_n 0, 1) := by decide +kernel
theorem dL_lifeAnew_3 : decode cL_lifeAnew 3 = .ok (.iload_n 1, 1) := by decide +kernel
theorem dL_lifeAnew_4 : decode cL_lifeAnew 4 = .ok (.invokevirtual 89, 3) := by decide +kernel
theorem dL_lifeAnew_7 : decode cL_lifeAnew 7 = .ok (.i2l, 1) := by decide +kernel
theorem dL_lifeAnew_8 : decode cL_lifeAnew 8 = .ok (.lastore, 1) := by decide +kernel
theorem dL_lifeAnew_9 : decode cL_lifeAnew 9 = .ok (.goto 6, 3) := by decide +kernel
theorem dL_lifeAnew_12 : decode cL_lifeAnew 12 = .ok (.astore_n 3, 1) := by decide +kernel
theorem dL_lifeAnew_13 : decode cL_lifeAnew 13 = .ok (.iconst 1, 1) := by decide +kernel
theorem dL_lifeAnew_14 : decode cL_lifeAnew 14 = .ok (.ireturn, 1) := by decide +kernel
theorem dL_lifeAnew_15 : decode cL_lifeAnew 15 = .ok (.iconst 0, 1) := by decide +kernel
theorem dL_lifeAnew_16 : decode cL_lifeAnew 16 = .ok (.ireturn, 1) := by decide +kernel
theorem dL_wheel_0 : decode cL_wheel 0 = .ok (.aload_n 3, 1) := by decide +kernel
theorem dL_wheel_1 : decode cL_wheel 1 = .ok (.iconst 0, 1) := by decide +kernel
theorem dL_wheel_2 : decode cL_wheel 2 = .ok (.aload_n 0, 1) := by decide +kernel
theorem dL_wheel_3 : decode cL_wheel 3 = .ok (.iload_n 1, 1) := by decide +kernel
theorem dL_wheel_4 : decode cL_wheel 4 = .ok (.iload_n 2, 1) := by decide +kernel
theorem dL_wheel_5 : decode cL_wheel 5 = .ok (.invokevirtual 92, 3) := by decide +kernel
theorem dL_wheel_8 : decode cL_wheel 8 = .ok (.i2l, 1) := by decide +kernel
theorem dL_wheel_9 : decode cL_wheel 9 = .ok (.lastore, 1) := by decide +kernel
theorem dL_wheel_10 : decode cL_wheel 10 = .ok (.goto 11, 3) := by decide +kernel
theorem dL_wheel_13 : decode cL_wheel 13 = .ok (.astore 4, 2) := by decide +kernel
theorem dL_wheel_15 : decode cL_wheel 15 = .ok (.iconst 1, 1) := by decide +kernel
theorem dL_wheel_16 : decode cL_wheel 16 = .ok (.ireturn, 1) := by decide +kernel
theorem dL_wheel_17 : decode cL_wheel 17 = .ok (.astore 4, 2) := by decide +kernel
theorem dL_wheel_19 : decode cL_wheel 19 = .ok (.iconst 2, 1) := by decide +kernel
theorem dL_wheel_20 : decode cL_wheel 20 = .ok (.ireturn, 1) := by decide +kernel
theorem dL_wheel_21 : decode cL_wheel 21 = .ok (.iconst 0, 1) := by decide +kernel
theorem dL_wheel_22 : decode cL_wheel 22 = .ok (.ireturn, 1) := by decide +kernel
theorem dL_foretell_0 : decode cL_foretell 0 = .ok (.aload 4, 2) := by decide +kernel
theorem dL_foretell_2 : decode cL_foretell 2 = .ok (.iconst 0, 1) := by decide +kernel
theorem dL_foretell_3 : decode cL_foretell 3 = .ok (.aload_n 0, 1) := by decide +kernel
theorem dL_foretell_4 : decode cL_foretell 4 = .ok (.iload_n 1, 1) := by decide +kernel
theorem dL_foretell_5 : decode cL_foretell 5 = .ok (.iload_n 2, 1) := by decide +kernel
theorem dL_foretell_6 : decode cL_foretell 6 = .ok (.iload_n 3, 1) := by decide +kernel
theorem dL_foretell_7 : decode cL_foretell 7 = .ok (.invokevirtual 95, 3) := by decide +kernel
theorem dL_foretell_10 : decode cL_foretell 10 = .ok (.i2l, 1) := by decide +kernel
theorem dL_foretell_11 : decode cL_foretell 11 = .ok (.lastore, 1) := by decide +kernel
theorem dL_foretell_12 : decode cL_foretell 12 = .ok (.goto 11, 3) := by decide +kernel
theorem dL_foretell_15 : decode cL_foretell 15 = .ok (.astore 5, 2) := by decide +kernel
theorem dL_foretell_17 : decode cL_foretell 17 = .ok (.iconst 1, 1) := by decide +kernel
theorem dL_foretell_18 : decode cL_foretell 18 = .ok (.ireturn, 1) := by decide +kernel
theorem dL_foretell_19 : decode cL_foretell 19 = .ok (.astore 5, 2) := by decide +kernel
theorem dL_foretell_21 : decode cL_foretell 21 = .ok (.iconst 2, 1) := by decide +kernel
theorem dL_foretell_22 : decode cL_foretell 22 = .ok (.ireturn, 1) := by decide +kernel
theorem dL_foretell_23 : decode cL_foretell 23 = .ok (.iconst 0, 1) := by decide +kernel
theorem dL_foretell_24 : decode cL_foretell 24 = .ok (.ireturn, 1) := by decide +kernel
theorem dL_bars_0 : decode cL_bars 0 = .ok (.aload_n 2, 1) := by decide +kernel
theorem dL_bars_1 : decode cL_bars 1 = .ok (.iconst 0, 1) := by decide +kernel
theorem dL_bars_2 : decode cL_bars 2 = .ok (.aload_n 0, 1) := by decide +kernel
theorem dL_bars_3 : decode cL_bars 3 = .ok (.iload_n 1, 1) := by decide +kernel
theorem dL_bars_4 : decode cL_bars 4 = .ok (.invokevirtual 98, 3) := by decide +kernel
theorem dL_bars_7 : decode cL_bars 7 = .ok (.i2l, 1) := by decide +kernel
theorem dL_bars_8 : decode cL_bars 8 = .ok (.lastore, 1) := by decide +kernel
theorem dL_bars_9 : decode cL_bars 9 = .ok (.goto 9, 3) := by decide +kernel
theorem dL_bars_12 : decode cL_bars 12 = .ok (.astore_n 3, 1) := by decide +kernel
theorem dL_bars_13 : decode cL_bars 13 = .ok (.iconst 1, 1) := by decide +kernel
theorem dL_bars_14 : decode cL_bars 14 = .ok (.ireturn, 1) := by decide +kernel
theorem dL_bars_15 : decode cL_bars 15 = .ok (.astore_n 3, 1) := by decide +kernel
theorem dL_bars_16 : decode cL_bars 16 = .ok (.iconst 2, 1) := by decide +kernel
theorem dL_bars_17 : decode cL_bars 17 = .ok (.ireturn, 1) := by decide +kernel
theorem dL_bars_18 : decode cL_bars 18 = .ok (.iconst 0, 1) := by decide +kernel
theorem dL_bars_19 : decode cL_bars 19 = .ok (.ireturn, 1) := by decide +kernel
theorem dL_barredBy_0 : decode cL_barredBy 0 = .ok (.aload_n 2, 1) := by decide +kernel
theorem dL_barredBy_1 : decode cL_barredBy 1 = .ok (.iconst 0, 1) := by decide +kernel
theorem dL_barredBy_2 : decode cL_barredBy 2 = .ok (.aload_n 0, 1) := by decide +kernel
theorem dL_barredBy_3 : decode cL_barredBy 3 = .ok (.iload_n 1, 1) := by decide +kernel
theorem dL_barredBy_4 : decode cL_barredBy 4 = .ok (.invokevirtual 101, 3) := by decide +kernel
theorem dL_barredBy_7 : decode cL_barredBy 7 = .ok (.i2l, 1) := by decide +kernel
theorem dL_barredBy_8 : decode cL_barredBy 8 = .ok (.lastore, 1) := by decide +kernel
theorem dL_barredBy_9 : decode cL_barredBy 9 = .ok (.goto 9, 3) := by decide +kernel
theorem dL_barredBy_12 : decode cL_barredBy 12 = .ok (.astore_n 3, 1) := by decide +kernel
theorem dL_barredBy_13 : decode cL_barredBy 13 = .ok (.iconst 1, 1) := by decide +kernel
theorem dL_barredBy_14 : decode cL_barredBy 14 = .ok (.ireturn, 1) := by decide +kernel
theorem dL_barredBy_15 : decode cL_barredBy 15 = .ok (.astore_n 3, 1) := by decide +kernel
theorem dL_barredBy_16 : decode cL_barredBy 16 = .ok (.iconst 2, 1) := by decide +kernel
theorem dL_barredBy_17 : decode cL_barredBy 17 = .ok (.ireturn, 1) := by decide +kernel
theorem dL_barredBy_18 : decode cL_barredBy 18 = .ok (.iconst 0, 1) := by decide +kernel
theorem dL_barredBy_19 : decode cL_barredBy 19 = .ok (.ireturn, 1) := by decide +kernel
theorem dL_isReleased_0 : decode cL_isReleased 0 = .ok (.aload_n 2, 1) := by decide +kernel
theorem dL_isReleased_1 : decode cL_isReleased 1 = .ok (.iconst 0, 1) := by decide +kernel
theorem dL_isReleased_2 : decode cL_isReleased 2 = .ok (.aload_n 0, 1) := by decide +kernel
theorem dL_isReleased_3 : decode cL_isReleased 3 = .ok (.iload_n 1, 1) := by decide +kernel
theorem dL_isReleased_4 : decode cL_isReleased 4 = .ok (.invokevirtual 104, 3) := by decide +kernel
theorem dL_isReleased_7 : decode cL_isReleased 7 = .ok (.ifCond .eq 7, 3) := by decide +kernel
theorem dL_isReleased_10 : decode cL_isReleased 10 = .ok (.lconst 1, 1) := by decide +kernel
theorem dL_isReleased_11 : decode cL_isReleased 11 = .ok (.goto 4, 3) := by decide +kernel
theorem dL_isReleased_14 : decode cL_isReleased 14 = .ok (.lconst 0, 1) := by decide +kernel
theorem dL_isReleased_15 : decode cL_isReleased 15 = .ok (.lastore, 1) := by decide +kernel
theorem dL_isReleased_16 : decode cL_isReleased 16 = .ok (.goto 9, 3) := by decide +kernel
theorem dL_isReleased_19 : decode cL_isReleased 19 = .ok (.astore_n 3, 1) := by decide +kernel
theorem dL_isReleased_20 : decode cL_isReleased 20 = .ok (.iconst 1, 1) := by decide +kernel
theorem dL_isReleased_21 : decode cL_isReleased 21 = .ok (.ireturn, 1) := by decide +kernel
theorem dL_isReleased_22 : decode cL_isReleased 22 = .ok (.astore_n 3, 1) := by decide +kernel
theorem dL_isReleased_23 : decode cL_isReleased 23 = .ok (.iconst 2, 1) := by decide +kernel
theorem dL_isReleased_24 : decode cL_isReleased 24 = .ok (.ireturn, 1) := by decide +kernel
theorem dL_isReleased_25 : decode cL_isReleased 25 = .ok (.iconst 0, 1) := by decide +kernel
theorem dL_isReleased_26 : decode cL_isReleased 26 = .ok (.ireturn, 1) := by decide +kernel
theorem dL_road_0 : decode cL_road 0 = .ok (.aload_n 3, 1) := by decide +kernel
theorem dL_road_1 : decode cL_road 1 = .ok (.iconst 0, 1) := by decide +kernel
theorem dL_road_2 : decode cL_road 2 = .ok (.aload_n 0, 1) := by decide +kernel
theorem dL_road_3 : decode cL_road 3 = .ok (.iload_n 1, 1) := by decide +kernel
theorem dL_road_4 : decode cL_road 4 = .ok (.iload_n 2, 1) := by decide +kernel
theorem dL_road_5 : decode cL_road 5 = .ok (.invokevirtual 108, 3) := by decide +kernel
theorem dL_road_8 : decode cL_road 8 = .ok (.i2l, 1) := by decide +kernel
theorem dL_road_9 : decode cL_road 9 = .ok (.lastore, 1) := by decide +kernel
theorem dL_road_10 : decode cL_road 10 = .ok (.goto 7, 3) := by decide +kernel
theorem dL_road_13 : decode cL_road 13 = .ok (.astore 4, 2) := by decide +kernel
theorem dL_road_15 : decode cL_road 15 = .ok (.iconst 1, 1) := by decide +kernel
theorem dL_road_16 : decode cL_road 16 = .ok (.ireturn, 1) := by decide +kernel
theorem dL_road_17 : decode cL_road 17 = .ok (.iconst 0, 1) := by decide +kernel
theorem dL_road_18 : decode cL_road 18 = .ok (.ireturn, 1) := by decide +kernel
theorem dL_law_0 : decode cL_law 0 = .ok (.new 8, 3) := by decide +kernel
theorem dL_law_3 : decode cL_law 3 = .ok (.dup, 1) := by decide +kernel
theorem dL_law_4 : decode cL_law 4 = .ok (.invokespecial 111, 3) := by decide +kernel
theorem dL_law_7 : decode cL_law 7 = .ok (.astore_n 1, 1) := by decide +kernel
theorem dL_law_8 : decode cL_law 8 = .ok (.new 112, 3) := by decide +kernel
theorem dL_law_11 : decode cL_law 11 = .ok (.dup, 1) := by decide +kernel
theorem dL_law_12 : decode cL_law 12 = .ok (.invokespecial 114, 3) := by decide +kernel
theorem dL_law_15 : decode cL_law 15 = .ok (.astore_n 2, 1) := by decide +kernel
theorem dL_law_16 : decode cL_law 16 = .ok (.iconst 1, 1) := by decide +kernel
theorem dL_law_17 : decode cL_law 17 = .ok (.newarray .long, 2) := by decide +kernel
theorem dL_law_19 : decode cL_law 19 = .ok (.astore_n 3, 1) := by decide +kernel
theorem dL_law_20 : decode cL_law 20 = .ok (.iconst 0, 1) := by decide +kernel
theorem dL_law_21 : decode cL_law 21 = .ok (.istore 4, 2) := by decide +kernel
theorem dL_law_23 : decode cL_law 23 = .ok (.iload 4, 2) := by decide +kernel
theorem dL_law_25 : decode cL_law 25 = .ok (.aload_n 0, 1) := by decide +kernel
theorem dL_law_26 : decode cL_law 26 = .ok (.arraylength, 1) := by decide +kernel
theorem dL_law_27 : decode cL_law 27 = .ok (.iconst 5, 1) := by decide +kernel
theorem dL_law_28 : decode cL_law 28 = .ok (.isub, 1) := by decide +kernel
theorem dL_law_29 : decode cL_law 29 = .ok (.if_icmp .gt 1990, 3) := by decide +kernel
theorem dL_law_32 : decode cL_law 32 = .ok (.aload_n 0, 1) := by decide +kernel
theorem dL_law_33 : decode cL_law 33 = .ok (.iload 4, 2) := by decide +kernel
theorem dL_law_35 : decode cL_law 35 = .ok (.iaload, 1) := by decide +kernel
theorem dL_law_36 : decode cL_law 36 = .ok (.bipush 31, 2) := by decide +kernel
theorem dL_law_38 : decode cL_law 38 = .ok (.iand, 1) := by decide +kernel
theorem dL_law_39 : decode cL_law 39 = .ok (.tableswitch 1974 0 30 #[137, 217, 309, 377, 433, 469, 549, 605, 673, 729, 777, 845, 929, 985, 1041, 1097, 1165, 1209, 1253, 1309, 1365, 1433, 1501, 1557, 1625, 1705, 1761, 1817, 1880, 1893, 1906], 137) := by decide +kernel
theorem dL_law_176 : decode cL_law 176 = .ok (.aload_n 1, 1) := by decide +kernel
theorem dL_law_177 : decode cL_law 177 = .ok (.aload_n 0, 1) := by decide +kernel
theorem dL_law_178 : decode cL_law 178 = .ok (.iload 4, 2) := by decide +kernel
theorem dL_law_180 : decode cL_law 180 = .ok (.iconst 1, 1) := by decide +kernel
theorem dL_law_181 : decode cL_law 181 = .ok (.iadd, 1) := by decide +kernel
theorem dL_law_182 : decode cL_law 182 = .ok (.iaload, 1) := by decide +kernel
theorem dL_law_183 : decode cL_law 183 = .ok (.aload_n 0, 1) := by decide +kernel
theorem dL_law_184 : decode cL_law 184 = .ok (.iload 4, 2) := by decide +kernel
theorem dL_law_186 : decode cL_law 186 = .ok (.iconst 2, 1) := by decide +kernel
theorem dL_law_187 : decode cL_law 187 = .ok (.iadd, 1) := by decide +kernel
theorem dL_law_188 : decode cL_law 188 = .ok (.iaload, 1) := by decide +kernel
theorem dL_law_189 : decode cL_law 189 = .ok (.aload_n 0, 1) := by decide +kernel
theorem dL_law_190 : decode cL_law 190 = .ok (.iload 4, 2) := by decide +kernel
theorem dL_law_192 : decode cL_law 192 = .ok (.iconst 3, 1) := by decide +kernel
theorem dL_law_193 : decode cL_law 193 = .ok (.iadd, 1) := by decide +kernel
theorem dL_law_194 : decode cL_law 194 = .ok (.iaload, 1) := by decide +kernel
theorem dL_law_195 : decode cL_law 195 = .ok (.aload_n 3, 1) := by decide +kernel
theorem dL_law_196 : decode cL_law 196 = .ok (.invokestatic 115, 3) := by decide +kernel
theorem dL_law_199 : decode cL_law 199 = .ok (.istore 5, 2) := by decide +kernel
theorem dL_law_201 : decode cL_law 201 = .ok (.aload_n 2, 1) := by decide +kernel
theorem dL_law_202 : decode cL_law 202 = .ok (.aload_n 0, 1) := by decide +kernel
theorem dL_law_203 : decode cL_law 203 = .ok (.iload 4, 2) := by decide +kernel
theorem dL_law_205 : decode cL_law 205 = .ok (.iconst 1, 1) := by decide +kernel
theorem dL_law_206 : decode cL_law 206 = .ok (.iadd, 1) := by decide +kernel
theorem dL_law_207 : decode cL_law 207 = .ok (.iaload, 1) := by decide +kernel
theorem dL_law_208 : decode cL_law 208 = .ok (.aload_n 0, 1) := by decide +kernel
theorem dL_law_209 : decode cL_law 209 = .ok (.iload 4, 2) := by decide +kernel
theorem dL_law_211 : decode cL_law 211 = .ok (.iconst 2, 1) := by decide +kernel
theorem dL_law_212 : decode cL_law 212 = .ok (.iadd, 1) := by decide +kernel
theorem dL_law_213 : decode cL_law 213 = .ok (.iaload, 1) := by decide +kernel
theorem dL_law_214 : decode cL_law 214 = .ok (.aload_n 0, 1) := by decide +kernel
theorem dL_law_215 : decode cL_law 215 = .ok (.iload 4, 2) := by decide +kernel
theorem dL_law_217 : decode cL_law 217 = .ok (.iconst 3, 1) := by decide +kernel
theorem dL_law_218 : decode cL_law 218 = .ok (.iadd, 1) := by decide +kernel
theorem dL_law_219 : decode cL_law 219 = .ok (.iaload, 1) := by decide +kernel
theorem dL_law_220 : decode cL_law 220 = .ok (.invokevirtual 120, 3) := by decide +kernel
theorem dL_law_223 : decode cL_law 223 = .ok (.istore 6, 2) := by decide +kernel
theorem dL_law_225 : decode cL_law 225 = .ok (.aload_n 2, 1) := by decide +kernel
theorem dL_law_226 : decode cL_law 226 = .ok (.invokevirtual 121, 3) := by decide +kernel
theorem dL_law_229 : decode cL_law 229 = .ok (.iload 5, 2) := by decide +kernel
theorem dL_law_231 : decode cL_law 231 = .ok (.if_icmp .eq 5, 3) := by decide +kernel
theorem dL_law_234 : decode cL_law 234 = .ok (.iconst 0, 1) := by decide +kernel
theorem dL_law_235 : decode cL_law 235 = .ok (.ireturn, 1) := by decide +kernel
theorem dL_law_236 : decode cL_law 236 = .ok (.iload 5, 2) := by decide +kernel
theorem dL_law_238 : decode cL_law 238 = .ok (.ifCond .ne 15, 3) := by decide +kernel
theorem dL_law_241 : decode cL_law 241 = .ok (.aload_n 3, 1) := by decide +kernel
theorem dL_law_242 : decode cL_law 242 = .ok (.iconst 0, 1) := by decide +kernel
theorem dL_law_243 : decode cL_law 243 = .ok (.laload, 1) := by decide +kernel
theorem dL_law_244 : decode cL_law 244 = .ok (.iload 6, 2) := by decide +kernel
theorem dL_law_246 : decode cL_law 246 = .ok (.i2l, 1) := by decide +kernel
theorem dL_law_247 : decode cL_law 247 = .ok (.lcmp, 1) := by decide +kernel
theorem dL_law_248 : decode cL_law 248 = .ok (.ifCond .eq 5, 3) := by decide +kernel
theorem dL_law_251 : decode cL_law 251 = .ok (.iconst 0, 1) := by decide +kernel
theorem dL_law_252 : decode cL_law 252 = .ok (.ireturn, 1) := by decide +kernel
theorem dL_law_253 : decode cL_law 253 = .ok (.goto 1760, 3) := by decide +kernel
theorem dL_law_256 : decode cL_law 256 = .ok (.aload_n 1, 1) := by decide +kernel
theorem dL_law_257 : decode cL_law 257 = .ok (.aload_n 0, 1) := by decide +kernel
theorem dL_law_258 : decode cL_law 258 = .ok (.iload 4, 2) := by decide +kernel
theorem dL_law_260 : decode cL_law 260 = .ok (.iconst 1, 1) := by decide +kernel
theorem dL_law_261 : decode cL_law 261 = .ok (.iadd, 1) := by decide +kernel
theorem dL_law_262 : decode cL_law 262 = .ok (.iaload, 1) := by decide +kernel
theorem dL_law_263 : decode cL_law 263 = .ok (.aload_n 0, 1) := by decide +kernel
theorem dL_law_264 : decode cL_law 264 = .ok (.iload 4, 2) := by decide +kernel
theorem dL_law_266 : decode cL_law 266 = .ok (.iconst 2, 1) := by decide +kernel
theorem dL_law_267 : decode cL_law 267 = .ok (.iadd, 1) := by decide +kernel
theorem dL_law_268 : decode cL_law 268 = .ok (.iaload, 1) := by decide +kernel
theorem dL_law_269 : decode cL_law 269 = .ok (.aload_n 0, 1) := by decide +kernel
theorem dL_law_270 : decode cL_law 270 = .ok (.iload 4, 2) := by decide +kernel
theorem dL_law_272 : decode cL_law 272 = .ok (.iconst 3, 1) := by decide +kernel
theorem dL_law_273 : decode cL_law 273 = .ok (.iadd, 1) := by decide +kernel
theorem dL_law_274 : decode cL_law 274 = .ok (.iaload, 1) := by decide +kernel
theorem dL_law_275 : decode cL_law 275 = .ok (.aload_n 0, 1) := by decide +kernel
theorem dL_law_276 : decode cL_law 276 = .ok (.iload 4, 2) := by decide +kernel
theorem dL_law_278 : decode cL_law 278 = .ok (.iconst 4, 1) := by decide +kernel
theorem dL_law_279 : decode cL_law 279 = .ok (.iadd, 1) := by decide +kernel
theorem dL_law_280 : decode cL_law 280 = .ok (.iaload, 1) := by decide +kernel
theorem dL_law_281 : decode cL_law 281 = .ok (.aload_n 3, 1) := by decide +kernel
theorem dL_law_282 : decode cL_law 282 = .ok (.invokestatic 124, 3) := by decide +kernel
theorem dL_law_285 : decode cL_law 285 = .ok (.istore 5, 2) := by decide +kernel
theorem dL_law_287 : decode cL_law 287 = .ok (.aload_n 2, 1) := by decide +kernel
theorem dL_law_288 : decode cL_law 288 = .ok (.aload_n 0, 1) := by decide +kernel
theorem dL_law_289 : decode cL_law 289 = .ok (.iload 4, 2) := by decide +kernel
theorem dL_law_291 : decode cL_law 291 = .ok (.iconst 1, 1) := by decide +kernel
theorem dL_law_292 : decode cL_law 292 = .ok (.iadd, 1) := by decide +kernel
theorem dL_law_293 : decode cL_law 293 = .ok (.iaload, 1) := by decide +kernel
theorem dL_law_294 : decode cL_law 294 = .ok (.aload_n 0, 1) := by decide +kernel
theorem dL_law_295 : decode cL_law 295 = .ok (.iload 4, 2) := by decide +kernel
theorem dL_law_297 : decode cL_law 297 = .ok (.iconst 2, 1) := by decide +kernel
theorem dL_law_298 : decode cL_law 298 = .ok (.iadd, 1) := by decide +kernel
theorem dL_law_299 : decode cL_law 299 = .ok (.iaload, 1) := by decide +kernel
theorem dL_law_300 : decode cL_law 300 = .ok (.aload_n 0, 1) := by decide +kernel
theorem dL_law_301 : decode cL_law 301 = .ok (.iload 4, 2) := by decide +kernel
theorem dL_law_303 : decode cL_law 303 = .ok (.iconst 3, 1) := by decide +kernel
theorem dL_law_304 : decode cL_law 304 = .ok (.iadd, 1) := by decide +kernel
theorem dL_law_305 : decode cL_law 305 = .ok (.iaload, 1) := by decide +kernel
theorem dL_law_306 : decode cL_law 306 = .ok (.aload_n 0, 1) := by decide +kernel
theorem dL_law_307 : decode cL_law 307 = .ok (.iload 4, 2) := by decide +kernel
theorem dL_law_309 : decode cL_law 309 = .ok (.iconst 4, 1) := by decide +kernel
theorem dL_law_310 : decode cL_law 310 = .ok (.iadd, 1) := by decide +kernel
theorem dL_law_311 : decode cL_law 311 = .ok (.iaload, 1) := by decide +kernel
theorem dL_law_312 : decode cL_law 312 = .ok (.invokevirtual 127, 3) := by decide +kernel
theorem dL_law_315 : decode cL_law 315 = .ok (.istore 6, 2) := by decide +kernel
theorem dL_law_317 : decode cL_law 317 = .ok (.aload_n 2, 1) := by decide +kernel
theorem dL_law_318 : decode cL_law 318 = .ok (.invokevirtual 121, 3) := by decide +kernel
theorem dL_law_321 : decode cL_law 321 = .ok (.iload 5, 2) := by decide +kernel
theorem dL_law_323 : decode cL_law 323 = .ok (.if_icmp .eq 5, 3) := by decide +kernel
theorem dL_law_326 : decode cL_law 326 = .ok (.iconst 0, 1) := by decide +kernel
theorem dL_law_327 : decode cL_law 327 = .ok (.ireturn, 1) := by decide +kernel
theorem dL_law_328 : decode cL_law 328 = .ok (.iload 5, 2) := by decide +kernel
theorem dL_law_330 : decode cL_law 330 = .ok (.ifCond .ne 15, 3) := by decide +kernel
theorem dL_law_333 : decode cL_law 333 = .ok (.aload_n 3, 1) := by decide +kernel
theorem dL_law_334 : decode cL_law 334 = .ok (.iconst 0, 1) := by decide +kernel
theorem dL_law_335 : decode cL_law 335 = .ok (.laload, 1) := by decide +kernel
theorem dL_law_336 : decode cL_law 336 = .ok (.iload 6, 2) := by decide +kernel
theorem dL_law_338 : decode cL_law 338 = .ok (.i2l, 1) := by decide +kernel
theorem dL_law_339 : decode cL_law 339 = .ok (.lcmp, 1) := by decide +kernel
theorem dL_law_340 : decode cL_law 340 = .ok (.ifCond .eq 5, 3) := by decide +kernel
theorem dL_law_343 : decode cL_law 343 = .ok (.iconst 0, 1) := by decide +kernel
theorem dL_law_344 : decode cL_law 344 = .ok (.ireturn, 1) := by decide +kernel
theorem dL_law_345 : decode cL_law 345 = .ok (.goto 1668, 3) := by decide +kernel
theorem dL_law_348 : decode cL_law 348 = .ok (.aload_n 1, 1) := by decide +kernel
theorem dL_law_349 : decode cL_law 349 = .ok (.aload_n 0, 1) := by decide +kernel
theorem dL_law_350 : decode cL_law 350 = .ok (.iload 4, 2) := by decide +kernel
theorem dL_law_352 : decode cL_law 352 = .ok (.iconst 1, 1) := by decide +kernel
theorem dL_law_353 : decode cL_law 353 = .ok (.iadd, 1) := by decide +kernel
theorem dL_law_354 : decode cL_law 354 = .ok (.iaload, 1) := by decide +kernel
theorem dL_law_355 : decode cL_law 355 = .ok (.aload_n 0, 1) := by decide +kernel
theorem dL_law_356 : decode cL_law 356 = .ok (.iload 4, 2) := by decide +kernel
theorem dL_law_358 : decode cL_law 358 = .ok (.iconst 2, 1) := by decide +kernel
theorem dL_law_359 : decode cL_law 359 = .ok (.iadd, 1) := by decide +kernel
theorem dL_law_360 : decode cL_law 360 = .ok (.iaload, 1) := by decide +kernel
theorem dL_law_361 : decode cL_law 361 = .ok (.aload_n 3, 1) := by decide +kernel
theorem dL_law_362 : decode cL_law 362 = .ok (.invokestatic 128, 3) := by decide +kernel
theorem dL_law_365 : decode cL_law 365 = .ok (.istore 5, 2) := by decide +kernel
theorem dL_law_367 : decode cL_law 367 = .ok (.aload_n 2, 1) := by decide +kernel
theorem dL_law_368 : decode cL_law 368 = .ok (.aload_n 0, 1) := by decide +kernel
theorem dL_law_369 : decode cL_law 369 = .ok (.iload 4, 2) := by decide +kernel
theorem dL_law_371 : decode cL_law 371 = .ok (.iconst 1, 1) := by decide +kernel
theorem dL_law_372 : decode cL_law 372 = .ok (.iadd, 1) := by decide +kernel
theorem dL_law_373 : decode cL_law 373 = .ok (.iaload, 1) := by decide +kernel
theorem dL_law_374 : decode cL_law 374 = .ok (.aload_n 0, 1) := by decide +kernel
theorem dL_law_375 : decode cL_law 375 = .ok (.iload 4, 2) := by decide +kernel
theorem dL_law_377 : decode cL_law 377 = .ok (.iconst 2, 1) := by decide +kernel
theorem dL_law_378 : decode cL_law 378 = .ok (.iadd, 1) := by decide +kernel
theorem dL_law_379 : decode cL_law 379 = .ok (.iaload, 1) := by decide +kernel
theorem dL_law_380 : decode cL_law 380 = .ok (.invokevirtual 131, 3) := by decide +kernel
theorem dL_law_383 : decode cL_law 383 = .ok (.istore 6, 2) := by decide +kernel
theorem dL_law_385 : decode cL_law 385 = .ok (.aload_n 2, 1) := by decide +kernel
theorem dL_law_386 : decode cL_law 386 = .ok (.invokevirtual 121, 3) := by decide +kernel
theorem dL_law_389 : decode cL_law 389 = .ok (.iload 5, 2) := by decide +kernel
theorem dL_law_391 : decode cL_law 391 = .ok (.if_icmp .eq 5, 3) := by decide +kernel
theorem dL_law_394 : decode cL_law 394 = .ok (.iconst 0, 1) := by decide +kernel
theorem dL_law_395 : decode cL_law 395 = .ok (.ireturn, 1) := by decide +kernel
theorem dL_law_396 : decode cL_law 396 = .ok (.iload 5, 2) := by decide +kernel
theorem dL_law_398 : decode cL_law 398 = .ok (.ifCond .ne 15, 3) := by decide +kernel
theorem dL_law_401 : decode cL_law 401 = .ok (.aload_n 3, 1) := by decide +kernel
theorem dL_law_402 : decode cL_law 402 = .ok (.iconst 0, 1) := by decide +kernel
theorem dL_law_403 : decode cL_law 403 = .ok (.laload, 1) := by decide +kernel
theorem dL_law_404 : decode cL_law 404 = .ok (.iload 6, 2) := by decide +kernel
theorem dL_law_406 : decode cL_law 406 = .ok (.i2l, 1) := by decide +kernel
theorem dL_law_407 : decode cL_law 407 = .ok (.lcmp, 1) := by decide +kernel
theorem dL_law_408 : decode cL_law 408 = .ok (.ifCond .eq 5, 3) := by decide +kernel
theorem dL_law_411 : decode cL_law 411 = .ok (.iconst 0, 1) := by decide +kernel
theorem dL_law_412 : decode cL_law 412 = .ok (.ireturn, 1) := by decide +kernel
theorem dL_law_413 : decode cL_law 413 = .ok (.goto 1600, 3) := by decide +kernel
theorem dL_law_416 : decode cL_law 416 = .ok (.aload_n 1, 1) := by decide +kernel
theorem dL_law_417 : decode cL_law 417 = .ok (.aload_n 0, 1) := by decide +kernel
theorem dL_law_418 : decode cL_law 418 = .ok (.iload 4, 2) := by decide +kernel
theorem dL_law_420 : decode cL_law 420 = .ok (.iconst 1, 1) := by decide +kernel
theorem dL_law_421 : decode cL_law 421 = .ok (.iadd, 1) := by decide +kernel
theorem dL_law_422 : decode cL_law 422 = .ok (.iaload, 1) := by decide +kernel
theorem dL_law_423 : decode cL_law 423 = .ok (.aload_n 3, 1) := by decide +kernel
theorem dL_law_424 : decode cL_law 424 = .ok (.invokestatic 132, 3) := by decide +kernel
theorem dL_law_427 : decode cL_law 427 = .ok (.istore 5, 2) := by decide +kernel
theorem dL_law_429 : decode cL_law 429 = .ok (.aload_n 2, 1) := by decide +kernel
theorem dL_law_430 : decode cL_law 430 = .ok (.aload_n 0, 1) := by decide +kernel
theorem dL_law_431 : decode cL_law 431 = .ok (.iload 4, 2) := by decide +kernel
theorem dL_law_433 : decode cL_law 433 = .ok (.iconst 1, 1) := by decide +kernel
theorem dL_law_434 : decode cL_law 434 = .ok (.iadd, 1) := by decide +kernel
theorem dL_law_435 : decode cL_law 435 = .ok (.iaload, 1) := by decide +kernel
theorem dL_law_436 : decode cL_law 436 = .ok (.invokevirtual 135, 3) := by decide +kernel
theorem dL_law_439 : decode cL_law 439 = .ok (.istore 6, 2) := by decide +kernel
theorem dL_law_441 : decode cL_law 441 = .ok (.aload_n 2, 1) := by decide +kernel
theorem dL_law_442 : decode cL_law 442 = .ok (.invokevirtual 121, 3) := by decide +kernel
theorem dL_law_445 : decode cL_law 445 = .ok (.iload 5, 2) := by decide +kernel
theorem dL_law_447 : decode cL_law 447 = .ok (.if_icmp .eq 5, 3) := by decide +kernel
theorem dL_law_450 : decode cL_law 450 = .ok (.iconst 0, 1) := by decide +kernel
theorem dL_law_451 : decode cL_law 451 = .ok (.ireturn, 1) := by decide +kernel
theorem dL_law_452 : decode cL_law 452 = .ok (.iload 5, 2) := by decide +kernel
theorem dL_law_454 : decode cL_law 454 = .ok (.ifCond .ne 15, 3) := by decide +kernel
theorem dL_law_457 : decode cL_law 457 = .ok (.aload_n 3, 1) := by decide +kernel
theorem dL_law_458 : decode cL_law 458 = .ok (.iconst 0, 1) := by decide +kernel
theorem dL_law_459 : decode cL_law 459 = .ok (.laload, 1) := by decide +kernel
theorem dL_law_460 : decode cL_law 460 = .ok (.iload 6, 2) := by decide +kernel
theorem dL_law_462 : decode cL_law 462 = .ok (.i2l, 1) := by decide +kernel
theorem dL_law_463 : decode cL_law 463 = .ok (.lcmp, 1) := by decide +kernel
theorem dL_law_464 : decode cL_law 464 = .ok (.ifCond .eq 5, 3) := by decide +kernel
theorem dL_law_467 : decode cL_law 467 = .ok (.iconst 0, 1) := by decide +kernel
theorem dL_law_468 : decode cL_law 468 = .ok (.ireturn, 1) := by decide +kernel
theorem dL_law_469 : decode cL_law 469 = .ok (.goto 1544, 3) := by decide +kernel
theorem dL_law_472 : decode cL_law 472 = .ok (.aload_n 1, 1) := by decide +kernel
theorem dL_law_473 : decode cL_law 473 = .ok (.aload_n 0, 1) := by decide +kernel
theorem dL_law_474 : decode cL_law 474 = .ok (.iload 4, 2) := by decide +kernel
theorem dL_law_476 : decode cL_law 476 = .ok (.iconst 1, 1) := by decide +kernel
theorem dL_law_477 : decode cL_law 477 = .ok (.iadd, 1) := by decide +kernel
theorem dL_law_478 : decode cL_law 478 = .ok (.iaload, 1) := by decide +kernel
theorem dL_law_479 : decode cL_law 479 = .ok (.invokestatic 136, 3) := by decide +kernel
theorem dL_law_482 : decode cL_law 482 = .ok (.istore 5, 2) := by decide +kernel
theorem dL_law_484 : decode cL_law 484 = .ok (.aload_n 2, 1) := by decide +kernel
theorem dL_law_485 : decode cL_law 485 = .ok (.aload_n 0, 1) := by decide +kernel
theorem dL_law_486 : decode cL_law 486 = .ok (.iload 4, 2) := by decide +kernel
theorem dL_law_488 : decode cL_law 488 = .ok (.iconst 1, 1) := by decide +kernel
theorem dL_law_489 : decode cL_law 489 = .ok (.iadd, 1) := by decide +kernel
theorem dL_law_490 : decode cL_law 490 = .ok (.iaload, 1) := by decide +kernel
theorem dL_law_491 : decode cL_law 491 = .ok (.invokevirtual 139, 3) := by decide +kernel
theorem dL_law_494 : decode cL_law 494 = .ok (.aload_n 2, 1) := by decide +kernel
theorem dL_law_495 : decode cL_law 495 = .ok (.invokevirtual 121, 3) := by decide +kernel
theorem dL_law_498 : decode cL_law 498 = .ok (.iload 5, 2) := by decide +kernel
theorem dL_law_500 : decode cL_law 500 = .ok (.if_icmp .eq 5, 3) := by decide +kernel
theorem dL_law_503 : decode cL_law 503 = .ok (.iconst 0, 1) := by decide +kernel
theorem dL_law_504 : decode cL_law 504 = .ok (.ireturn, 1) := by decide +kernel
theorem dL_law_505 : decode cL_law 505 = .ok (.goto 1508, 3) := by decide +kernel
theorem dL_law_508 : decode cL_law 508 = .ok (.aload_n 1, 1) := by decide +kernel
theorem dL_law_509 : decode cL_law 509 = .ok (.aload_n 0, 1) := by decide +kernel
theorem dL_law_510 : decode cL_law 510 = .ok (.iload 4, 2) := by decide +kernel
theorem dL_law_512 : decode cL_law 512 = .ok (.iconst 1, 1) := by decide +kernel
theorem dL_law_513 : decode cL_law 513 = .ok (.iadd, 1) := by decide +kernel
theorem dL_law_514 : decode cL_law 514 = .ok (.iaload, 1) := by decide +kernel
theorem dL_law_515 : decode cL_law 515 = .ok (.aload_n 0, 1) := by decide +kernel
theorem dL_law_516 : decode cL_law 516 = .ok (.iload 4, 2) := by decide +kernel
theorem dL_law_518 : decode cL_law 518 = .ok (.iconst 2, 1) := by decide +kernel
theorem dL_law_519 : decode cL_law 519 = .ok (.iadd, 1) := by decide +kernel
theorem dL_law_520 : decode cL_law 520 = .ok (.iaload, 1) := by decide +kernel
theorem dL_law_521 : decode cL_law 521 = .ok (.aload_n 0, 1) := by decide +kernel
theorem dL_law_522 : decode cL_law 522 = .ok (.iload 4, 2) := by decide +kernel
theorem dL_law_524 : decode cL_law 524 = .ok (.iconst 3, 1) := by decide +kernel
theorem dL_law_525 : decode cL_law 525 = .ok (.iadd, 1) := by decide +kernel
theorem dL_law_526 : decode cL_law 526 = .ok (.iaload, 1) := by decide +kernel
theorem dL_law_527 : decode cL_law 527 = .ok (.aload_n 3, 1) := by decide +kernel
theorem dL_law_528 : decode cL_law 528 = .ok (.invokestatic 140, 3) := by decide +kernel
theorem dL_law_531 : decode cL_law 531 = .ok (.istore 5, 2) := by decide +kernel
theorem dL_law_533 : decode cL_law 533 = .ok (.aload_n 2, 1) := by decide +kernel
theorem dL_law_534 : decode cL_law 534 = .ok (.aload_n 0, 1) := by decide +kernel
theorem dL_law_535 : decode cL_law 535 = .ok (.iload 4, 2) := by decide +kernel
theorem dL_law_537 : decode cL_law 537 = .ok (.iconst 1, 1) := by decide +kernel
theorem dL_law_538 : decode cL_law 538 = .ok (.iadd, 1) := by decide +kernel
theorem dL_law_539 : decode cL_law 539 = .ok (.iaload, 1) := by decide +kernel
theorem dL_law_540 : decode cL_law 540 = .ok (.aload_n 0, 1) := by decide +kernel
theorem dL_law_541 : decode cL_law 541 = .ok (.iload 4, 2) := by decide +kernel
theorem dL_law_543 : decode cL_law 543 = .ok (.iconst 2, 1) := by decide +kernel
theorem dL_law_544 : decode cL_law 544 = .ok (.iadd, 1) := by decide +kernel
theorem dL_law_545 : decode cL_law 545 = .ok (.iaload, 1) := by decide +kernel
theorem dL_law_546 : decode cL_law 546 = .ok (.aload_n 0, 1) := by decide +kernel
theorem dL_law_547 : decode cL_law 547 = .ok (.iload 4, 2) := by decide +kernel
theorem dL_law_549 : decode cL_law 549 = .ok (.iconst 3, 1) := by decide +kernel
theorem dL_law_550 : decode cL_law 550 = .ok (.iadd, 1) := by decide +kernel
theorem dL_law_551 : decode cL_law 551 = .ok (.iaload, 1) := by decide +kernel
theorem dL_law_552 : decode cL_law 552 = .ok (.invokevirtual 142, 3) := by decide +kernel
theorem dL_law_555 : decode cL_law 555 = .ok (.istore 6, 2) := by decide +kernel
theorem dL_law_557 : decode cL_law 557 = .ok (.aload_n 2, 1) := by decide +kernel
theorem dL_law_558 : decode cL_law 558 = .ok (.invokevirtual 121, 3) := by decide +kernel
theorem dL_law_561 : decode cL_law 561 = .ok (.iload 5, 2) := by decide +kernel
theorem dL_law_563 : decode cL_law 563 = .ok (.if_icmp .eq 5, 3) := by decide +kernel
theorem dL_law_566 : decode cL_law 566 = .ok (.iconst 0, 1) := by decide +kernel
theorem dL_law_567 : decode cL_law 567 = .ok (.ireturn, 1) := by decide +kernel
theorem dL_law_568 : decode cL_law 568 = .ok (.iload 5, 2) := by decide +kernel
theorem dL_law_570 : decode cL_law 570 = .ok (.ifCond .ne 15, 3) := by decide +kernel
theorem dL_law_573 : decode cL_law 573 = .ok (.aload_n 3, 1) := by decide +kernel
theorem dL_law_574 : decode cL_law 574 = .ok (.iconst 0, 1) := by decide +kernel
theorem dL_law_575 : decode cL_law 575 = .ok (.laload, 1) := by decide +kernel
theorem dL_law_576 : decode cL_law 576 = .ok (.iload 6, 2) := by decide +kernel
theorem dL_law_578 : decode cL_law 578 = .ok (.i2l, 1) := by decide +kernel
theorem dL_law_579 : decode cL_law 579 = .ok (.lcmp, 1) := by decide +kernel
theorem dL_law_580 : decode cL_law 580 = .ok (.ifCond .eq 5, 3) := by decide +kernel
theorem dL_law_583 : decode cL_law 583 = .ok (.iconst 0, 1) := by decide +kernel
theorem dL_law_584 : decode cL_law 584 = .ok (.ireturn, 1) := by decide +kernel
theorem dL_law_585 : decode cL_law 585 = .ok (.goto 1428, 3) := by decide +kernel
theorem dL_law_588 : decode cL_law 588 = .ok (.aload_n 1, 1) := by decide +kernel
theorem dL_law_589 : decode cL_law 589 = .ok (.aload_n 0, 1) := by decide +kernel
theorem dL_law_590 : decode cL_law 590 = .ok (.iload 4, 2) := by decide +kernel
theorem dL_law_592 : decode cL_law 592 = .ok (.iconst 1, 1) := by decide +kernel
theorem dL_law_593 : decode cL_law 593 = .ok (.iadd, 1) := by decide +kernel
theorem dL_law_594 : decode cL_law 594 = .ok (.iaload, 1) := by decide +kernel
theorem dL_law_595 : decode cL_law 595 = .ok (.aload_n 3, 1) := by decide +kernel
theorem dL_law_596 : decode cL_law 596 = .ok (.invokestatic 143, 3) := by decide +kernel
theorem dL_law_599 : decode cL_law 599 = .ok (.istore 5, 2) := by decide +kernel
theorem dL_law_601 : decode cL_law 601 = .ok (.aload_n 2, 1) := by decide +kernel
theorem dL_law_602 : decode cL_law 602 = .ok (.aload_n 0, 1) := by decide +kernel
theorem dL_law_603 : decode cL_law 603 = .ok (.iload 4, 2) := by decide +kernel
theorem dL_law_605 : decode cL_law 605 = .ok (.iconst 1, 1) := by decide +kernel
theorem dL_law_606 : decode cL_law 606 = .ok (.iadd, 1) := by decide +kernel
theorem dL_law_607 : decode cL_law 607 = .ok (.iaload, 1) := by decide +kernel
theorem dL_law_608 : decode cL_law 608 = .ok (.invokevirtual 145, 3) := by decide +kernel
theorem dL_law_611 : decode cL_law 611 = .ok (.istore 6, 2) := by decide +kernel
theorem dL_law_613 : decode cL_law 613 = .ok (.aload_n 2, 1) := by decide +kernel
theorem dL_law_614 : decode cL_law 614 = .ok (.invokevirtual 121, 3) := by decide +kernel
theorem dL_law_617 : decode cL_law 617 = .ok (.iload 5, 2) := by decide +kernel
theorem dL_law_619 : decode cL_law 619 = .ok (.if_icmp .eq 5, 3) := by decide +kernel
theorem dL_law_622 : decode cL_law 622 = .ok (.iconst 0, 1) := by decide +kernel
theorem dL_law_623 : decode cL_law 623 = .ok (.ireturn, 1) := by decide +kernel
theorem dL_law_624 : decode cL_law 624 = .ok (.iload 5, 2) := by decide +kernel
theorem dL_law_626 : decode cL_law 626 = .ok (.ifCond .ne 15, 3) := by decide +kernel
theorem dL_law_629 : decode cL_law 629 = .ok (.aload_n 3, 1) := by decide +kernel
theorem dL_law_630 : decode cL_law 630 = .ok (.iconst 0, 1) := by decide +kernel
theorem dL_law_631 : decode cL_law 631 = .ok (.laload, 1) := by decide +kernel
theorem dL_law_632 : decode cL_law 632 = .ok (.iload 6, 2) := by decide +kernel
theorem dL_law_634 : decode cL_law 634 = .ok (.i2l, 1) := by decide +kernel
theorem dL_law_635 : decode cL_law 635 = .ok (.lcmp, 1) := by decide +kernel
theorem dL_law_636 : decode cL_law 636 = .ok (.ifCond .eq 5, 3) := by decide +kernel
theorem dL_law_639 : decode cL_law 639 = .ok (.iconst 0, 1) := by decide +kernel
theorem dL_law_640 : decode cL_law 640 = .ok (.ireturn, 1) := by decide +kernel
theorem dL_law_641 : decode cL_law 641 = .ok (.goto 1372, 3) := by decide +kernel
theorem dL_law_644 : decode cL_law 644 = .ok (.aload_n 1, 1) := by decide +kernel
theorem dL_law_645 : decode cL_law 645 = .ok (.aload_n 0, 1) := by decide +kernel
theorem dL_law_646 : decode cL_law 646 = .ok (.iload 4, 2) := by decide +kernel
theorem dL_law_648 : decode cL_law 648 = .ok (.iconst 1, 1) := by decide +kernel
theorem dL_law_649 : decode cL_law 649 = .ok (.iadd, 1) := by decide +kernel
theorem dL_law_650 : decode cL_law 650 = .ok (.iaload, 1) := by decide +kernel
theorem dL_law_651 : decode cL_law 651 = .ok (.aload_n 0, 1) := by decide +kernel
theorem dL_law_652 : decode cL_law 652 = .ok (.iload 4, 2) := by decide +kernel
theorem dL_law_654 : decode cL_law 654 = .ok (.iconst 2, 1) := by decide +kernel
theorem dL_law_655 : decode cL_law 655 = .ok (.iadd, 1) := by decide +kernel
theorem dL_law_656 : decode cL_law 656 = .ok (.iaload, 1) := by decide +kernel
theorem dL_law_657 : decode cL_law 657 = .ok (.aload_n 3, 1) := by decide +kernel
theorem dL_law_658 : decode cL_law 658 = .ok (.invokestatic 146, 3) := by decide +kernel
theorem dL_law_661 : decode cL_law 661 = .ok (.istore 5, 2) := by decide +kernel
theorem dL_law_663 : decode cL_law 663 = .ok (.aload_n 2, 1) := by decide +kernel
theorem dL_law_664 : decode cL_law 664 = .ok (.aload_n 0, 1) := by decide +kernel
theorem dL_law_665 : decode cL_law 665 = .ok (.iload 4, 2) := by decide +kernel
theorem dL_law_667 : decode cL_law 667 = .ok (.iconst 1, 1) := by decide +kernel
theorem dL_law_668 : decode cL_law 668 = .ok (.iadd, 1) := by decide +kernel
theorem dL_law_669 : decode cL_law 669 = .ok (.iaload, 1) := by decide +kernel
theorem dL_law_670 : decode cL_law 670 = .ok (.aload_n 0, 1) := by decide +kernel
theorem dL_law_671 : decode cL_law 671 = .ok (.iload 4, 2) := by decide +kernel
theorem dL_law_673 : decode cL_law 673 = .ok (.iconst 2, 1) := by decide +kernel
theorem dL_law_674 : decode cL_law 674 = .ok (.iadd, 1) := by decide +kernel
theorem dL_law_675 : decode cL_law 675 = .ok (.iaload, 1) := by decide +kernel
theorem dL_law_676 : decode cL_law 676 = .ok (.invokevirtual 148, 3) := by decide +kernel
theorem dL_law_679 : decode cL_law 679 = .ok (.istore 6, 2) := by decide +kernel
theorem dL_law_681 : decode cL_law 681 = .ok (.aload_n 2, 1) := by decide +kernel
theorem dL_law_682 : decode cL_law 682 = .ok (.invokevirtual 121, 3) := by decide +kernel
theorem dL_law_685 : decode cL_law 685 = .ok (.iload 5, 2) := by decide +kernel
theorem dL_law_687 : decode cL_law 687 = .ok (.if_icmp .eq 5, 3) := by decide +kernel
theorem dL_law_690 : decode cL_law 690 = .ok (.iconst 0, 1) := by decide +kernel
theorem dL_law_691 : decode cL_law 691 = .ok (.ireturn, 1) := by decide +kernel
theorem dL_law_692 : decode cL_law 692 = .ok (.iload 5, 2) := by decide +kernel
theorem dL_law_694 : decode cL_law 694 = .ok (.ifCond .ne 15, 3) := by decide +kernel
theorem dL_law_697 : decode cL_law 697 = .ok (.aload_n 3, 1) := by decide +kernel
theorem dL_law_698 : decode cL_law 698 = .ok (.iconst 0, 1) := by decide +kernel
theorem dL_law_699 : decode cL_law 699 = .ok (.laload, 1) := by decide +kernel
theorem dL_law_700 : decode cL_law 700 = .ok (.iload 6, 2) := by decide +kernel
theorem dL_law_702 : decode cL_law 702 = .ok (.i2l, 1) := by decide +kernel
theorem dL_law_703 : decode cL_law 703 = .ok (.lcmp, 1) := by decide +kernel
theorem dL_law_704 : decode cL_law 704 = .ok (.ifCond .eq 5, 3) := by decide +kernel
theorem dL_law_707 : decode cL_law 707 = .ok (.iconst 0, 1) := by decide +kernel
theorem dL_law_708 : decode cL_law 708 = .ok (.ireturn, 1) := by decide +kernel
theorem dL_law_709 : decode cL_law 709 = .ok (.goto 1304, 3) := by decide +kernel
theorem dL_law_712 : decode cL_law 712 = .ok (.aload_n 1, 1) := by decide +kernel
theorem dL_law_713 : decode cL_law 713 = .ok (.aload_n 0, 1) := by decide +kernel
theorem dL_law_714 : decode cL_law 714 = .ok (.iload 4, 2) := by decide +kernel
theorem dL_law_716 : decode cL_law 716 = .ok (.iconst 1, 1) := by decide +kernel
theorem dL_law_717 : decode cL_law 717 = .ok (.iadd, 1) := by decide +kernel
theorem dL_law_718 : decode cL_law 718 = .ok (.iaload, 1) := by decide +kernel
theorem dL_law_719 : decode cL_law 719 = .ok (.aload_n 3, 1) := by decide +kernel
theorem dL_law_720 : decode cL_law 720 = .ok (.invokestatic 149, 3) := by decide +kernel
theorem dL_law_723 : decode cL_law 723 = .ok (.istore 5, 2) := by decide +kernel
theorem dL_law_725 : decode cL_law 725 = .ok (.aload_n 2, 1) := by decide +kernel
theorem dL_law_726 : decode cL_law 726 = .ok (.aload_n 0, 1) := by decide +kernel
theorem dL_law_727 : decode cL_law 727 = .ok (.iload 4, 2) := by decide +kernel
theorem dL_law_729 : decode cL_law 729 = .ok (.iconst 1, 1) := by decide +kernel
theorem dL_law_730 : decode cL_law 730 = .ok (.iadd, 1) := by decide +kernel
theorem dL_law_731 : decode cL_law 731 = .ok (.iaload, 1) := by decide +kernel
theorem dL_law_732 : decode cL_law 732 = .ok (.invokevirtual 151, 3) := by decide +kernel
theorem dL_law_735 : decode cL_law 735 = .ok (.istore 6, 2) := by decide +kernel
theorem dL_law_737 : decode cL_law 737 = .ok (.aload_n 2, 1) := by decide +kernel
theorem dL_law_738 : decode cL_law 738 = .ok (.invokevirtual 121, 3) := by decide +kernel
theorem dL_law_741 : decode cL_law 741 = .ok (.iload 5, 2) := by decide +kernel
theorem dL_law_743 : decode cL_law 743 = .ok (.if_icmp .eq 5, 3) := by decide +kernel
theorem dL_law_746 : decode cL_law 746 = .ok (.iconst 0, 1) := by decide +kernel
theorem dL_law_747 : decode cL_law 747 = .ok (.ireturn, 1) := by decide +kernel
theorem dL_law_748 : decode cL_law 748 = .ok (.iload 5, 2) := by decide +kernel
theorem dL_law_750 : decode cL_law 750 = .ok (.ifCond .ne 15, 3) := by decide +kernel
theorem dL_law_753 : decode cL_law 753 = .ok (.aload_n 3, 1) := by decide +kernel
theorem dL_law_754 : decode cL_law 754 = .ok (.iconst 0, 1) := by decide +kernel
theorem dL_law_755 : decode cL_law 755 = .ok (.laload, 1) := by decide +kernel
theorem dL_law_756 : decode cL_law 756 = .ok (.iload 6, 2) := by decide +kernel
theorem dL_law_758 : decode cL_law 758 = .ok (.i2l, 1) := by decide +kernel
theorem dL_law_759 : decode cL_law 759 = .ok (.lcmp, 1) := by decide +kernel
theorem dL_law_760 : decode cL_law 760 = .ok (.ifCond .eq 5, 3) := by decide +kernel
theorem dL_law_763 : decode cL_law 763 = .ok (.iconst 0, 1) := by decide +kernel
theorem dL_law_764 : decode cL_law 764 = .ok (.ireturn, 1) := by decide +kernel
theorem dL_law_765 : decode cL_law 765 = .ok (.goto 1248, 3) := by decide +kernel
theorem dL_law_768 : decode cL_law 768 = .ok (.aload_n 1, 1) := by decide +kernel
theorem dL_law_769 : decode cL_law 769 = .ok (.aload_n 0, 1) := by decide +kernel
theorem dL_law_770 : decode cL_law 770 = .ok (.iload 4, 2) := by decide +kernel
theorem dL_law_772 : decode cL_law 772 = .ok (.iconst 1, 1) := by decide +kernel
theorem dL_law_773 : decode cL_law 773 = .ok (.iadd, 1) := by decide +kernel
theorem dL_law_774 : decode cL_law 774 = .ok (.iaload, 1) := by decide +kernel
theorem dL_law_775 : decode cL_law 775 = .ok (.aload_n 0, 1) := by decide +kernel
theorem dL_law_776 : decode cL_law 776 = .ok (.iload 4, 2) := by decide +kernel
theorem dL_law_778 : decode cL_law 778 = .ok (.iconst 2, 1) := by decide +kernel
theorem dL_law_779 : decode cL_law 779 = .ok (.iadd, 1) := by decide +kernel
theorem dL_law_780 : decode cL_law 780 = .ok (.iaload, 1) := by decide +kernel
theorem dL_law_781 : decode cL_law 781 = .ok (.invokestatic 152, 3) := by decide +kernel
theorem dL_law_784 : decode cL_law 784 = .ok (.istore 5, 2) := by decide +kernel
theorem dL_law_786 : decode cL_law 786 = .ok (.aload_n 2, 1) := by decide +kernel
theorem dL_law_787 : decode cL_law 787 = .ok (.aload_n 0, 1) := by decide +kernel
theorem dL_law_788 : decode cL_law 788 = .ok (.iload 4, 2) := by decide +kernel
theorem dL_law_790 : decode cL_law 790 = .ok (.iconst 1, 1) := by decide +kernel
theorem dL_law_791 : decode cL_law 791 = .ok (.iadd, 1) := by decide +kernel
theorem dL_law_792 : decode cL_law 792 = .ok (.iaload, 1) := by decide +kernel
theorem dL_law_793 : decode cL_law 793 = .ok (.aload_n 0, 1) := by decide +kernel
theorem dL_law_794 : decode cL_law 794 = .ok (.iload 4, 2) := by decide +kernel
theorem dL_law_796 : decode cL_law 796 = .ok (.iconst 2, 1) := by decide +kernel
theorem dL_law_797 : decode cL_law 797 = .ok (.iadd, 1) := by decide +kernel
theorem dL_law_798 : decode cL_law 798 = .ok (.iaload, 1) := by decide +kernel
theorem dL_law_799 : decode cL_law 799 = .ok (.invokevirtual 155, 3) := by decide +kernel
theorem dL_law_802 : decode cL_law 802 = .ok (.aload_n 2, 1) := by decide +kernel
theorem dL_law_803 : decode cL_law 803 = .ok (.invokevirtual 121, 3) := by decide +kernel
theorem dL_law_806 : decode cL_law 806 = .ok (.iload 5, 2) := by decide +kernel
theorem dL_law_808 : decode cL_law 808 = .ok (.if_icmp .eq 5, 3) := by decide +kernel
theorem dL_law_811 : decode cL_law 811 = .ok (.iconst 0, 1) := by decide +kernel
theorem dL_law_812 : decode cL_law 812 = .ok (.ireturn, 1) := by decide +kernel
theorem dL_law_813 : decode cL_law 813 = .ok (.goto 1200, 3) := by decide +kernel
theorem dL_law_816 : decode cL_law 816 = .ok (.aload_n 1, 1) := by decide +kernel
theorem dL_law_817 : decode cL_law 817 = .ok (.aload_n 0, 1) := by decide +kernel
theorem dL_law_818 : decode cL_law 818 = .ok (.iload 4, 2) := by decide +kernel
theorem dL_law_820 : decode cL_law 820 = .ok (.iconst 1, 1) := by decide +kernel
theorem dL_law_821 : decode cL_law 821 = .ok (.iadd, 1) := by decide +kernel
theorem dL_law_822 : decode cL_law 822 = .ok (.iaload, 1) := by decide +kernel
theorem dL_law_823 : decode cL_law 823 = .ok (.aload_n 0, 1) := by decide +kernel
theorem dL_law_824 : decode cL_law 824 = .ok (.iload 4, 2) := by decide +kernel
theorem dL_law_826 : decode cL_law 826 = .ok (.iconst 2, 1) := by decide +kernel
theorem dL_law_827 : decode cL_law 827 = .ok (.iadd, 1) := by decide +kernel
theorem dL_law_828 : decode cL_law 828 = .ok (.iaload, 1) := by decide +kernel
theorem dL_law_829 : decode cL_law 829 = .ok (.aload_n 3, 1) := by decide +kernel
theorem dL_law_830 : decode cL_law 830 = .ok (.invokestatic 156, 3) := by decide +kernel
theorem dL_law_833 : decode cL_law 833 = .ok (.istore 5, 2) := by decide +kernel
theorem dL_law_835 : decode cL_law 835 = .ok (.aload_n 2, 1) := by decide +kernel
theorem dL_law_836 : decode cL_law 836 = .ok (.aload_n 0, 1) := by decide +kernel
theorem dL_law_837 : decode cL_law 837 = .ok (.iload 4, 2) := by decide +kernel
theorem dL_law_839 : decode cL_law 839 = .ok (.iconst 1, 1) := by decide +kernel
theorem dL_law_840 : decode cL_law 840 = .ok (.iadd, 1) := by decide +kernel
theorem dL_law_841 : decode cL_law 841 = .ok (.iaload, 1) := by decide +kernel
theorem dL_law_842 : decode cL_law 842 = .ok (.aload_n 0, 1) := by decide +kernel
theorem dL_law_843 : decode cL_law 843 = .ok (.iload 4, 2) := by decide +kernel
theorem dL_law_845 : decode cL_law 845 = .ok (.iconst 2, 1) := by decide +kernel
theorem dL_law_846 : decode cL_law 846 = .ok (.iadd, 1) := by decide +kernel
theorem dL_law_847 : decode cL_law 847 = .ok (.iaload, 1) := by decide +kernel
theorem dL_law_848 : decode cL_law 848 = .ok (.invokevirtual 158, 3) := by decide +kernel
theorem dL_law_851 : decode cL_law 851 = .ok (.istore 6, 2) := by decide +kernel
theorem dL_law_853 : decode cL_law 853 = .ok (.aload_n 2, 1) := by decide +kernel
theorem dL_law_854 : decode cL_law 854 = .ok (.invokevirtual 121, 3) := by decide +kernel
theorem dL_law_857 : decode cL_law 857 = .ok (.iload 5, 2) := by decide +kernel
theorem dL_law_859 : decode cL_law 859 = .ok (.if_icmp .eq 5, 3) := by decide +kernel
theorem dL_law_862 : decode cL_law 862 = .ok (.iconst 0, 1) := by decide +kernel
theorem dL_law_863 : decode cL_law 863 = .ok (.ireturn, 1) := by decide +kernel
theorem dL_law_864 : decode cL_law 864 = .ok (.iload 5, 2) := by decide +kernel
theorem dL_law_866 : decode cL_law 866 = .ok (.ifCond .ne 15, 3) := by decide +kernel
theorem dL_law_869 : decode cL_law 869 = .ok (.aload_n 3, 1) := by decide +kernel
theorem dL_law_870 : decode cL_law 870 = .ok (.iconst 0, 1) := by decide +kernel
theorem dL_law_871 : decode cL_law 871 = .ok (.laload, 1) := by decide +kernel
theorem dL_law_872 : decode cL_law 872 = .ok (.iload 6, 2) := by decide +kernel
theorem dL_law_874 : decode cL_law 874 = .ok (.i2l, 1) := by decide +kernel
theorem dL_law_875 : decode cL_law 875 = .ok (.lcmp, 1) := by decide +kernel
theorem dL_law_876 : decode cL_law 876 = .ok (.ifCond .eq 5, 3) := by decide +kernel
theorem dL_law_879 : decode cL_law 879 = .ok (.iconst 0, 1) := by decide +kernel
theorem dL_law_880 : decode cL_law 880 = .ok (.ireturn, 1) := by decide +kernel
theorem dL_law_881 : decode cL_law 881 = .ok (.goto 1132, 3) := by decide +kernel
theorem dL_law_884 : decode cL_law 884 = .ok (.aload_n 1, 1) := by decide +kernel
theorem dL_law_885 : decode cL_law 885 = .ok (.aload_n 0, 1) := by decide +kernel
theorem dL_law_886 : decode cL_law 886 = .ok (.iload 4, 2) := by decide +kernel
theorem dL_law_888 : decode cL_law 888 = .ok (.iconst 1, 1) := by decide +kernel
theorem dL_law_889 : decode cL_law 889 = .ok (.iadd, 1) := by decide +kernel
theorem dL_law_890 : decode cL_law 890 = .ok (.iaload, 1) := by decide +kernel
theorem dL_law_891 : decode cL_law 891 = .ok (.aload_n 0, 1) := by decide +kernel
theorem dL_law_892 : decode cL_law 892 = .ok (.iload 4, 2) := by decide +kernel
theorem dL_law_894 : decode cL_law 894 = .ok (.iconst 2, 1) := by decide +kernel
theorem dL_law_895 : decode cL_law 895 = .ok (.iadd, 1) := by decide +kernel
theorem dL_law_896 : decode cL_law 896 = .ok (.iaload, 1) := by decide +kernel
theorem dL_law_897 : decode cL_law 897 = .ok (.ifCond .eq 7, 3) := by decide +kernel
theorem dL_law_900 : decode cL_law 900 = .ok (.iconst 1, 1) := by decide +kernel
theorem dL_law_901 : decode cL_law 901 = .ok (.goto 4, 3) := by decide +kernel
theorem dL_law_904 : decode cL_law 904 = .ok (.iconst 0, 1) := by decide +kernel
theorem dL_law_905 : decode cL_law 905 = .ok (.aload_n 3, 1) := by decide +kernel
theorem dL_law_906 : decode cL_law 906 = .ok (.invokestatic 159, 3) := by decide +kernel
theorem dL_law_909 : decode cL_law 909 = .ok (.istore 5, 2) := by decide +kernel
theorem dL_law_911 : decode cL_law 911 = .ok (.aload_n 2, 1) := by decide +kernel
theorem dL_law_912 : decode cL_law 912 = .ok (.aload_n 0, 1) := by decide +kernel
theorem dL_law_913 : decode cL_law 913 = .ok (.iload 4, 2) := by decide +kernel
theorem dL_law_915 : decode cL_law 915 = .ok (.iconst 1, 1) := by decide +kernel
theorem dL_law_916 : decode cL_law 916 = .ok (.iadd, 1) := by decide +kernel
theorem dL_law_917 : decode cL_law 917 = .ok (.iaload, 1) := by decide +kernel
theorem dL_law_918 : decode cL_law 918 = .ok (.aload_n 0, 1) := by decide +kernel
theorem dL_law_919 : decode cL_law 919 = .ok (.iload 4, 2) := by decide +kernel
theorem dL_law_921 : decode cL_law 921 = .ok (.iconst 2, 1) := by decide +kernel
theorem dL_law_922 : decode cL_law 922 = .ok (.iadd, 1) := by decide +kernel
theorem dL_law_923 : decode cL_law 923 = .ok (.iaload, 1) := by decide +kernel
theorem dL_law_924 : decode cL_law 924 = .ok (.ifCond .eq 7, 3) := by decide +kernel
theorem dL_law_927 : decode cL_law 927 = .ok (.iconst 1, 1) := by decide +kernel
theorem dL_law_928 : decode cL_law 928 = .ok (.goto 4, 3) := by decide +kernel
theorem dL_law_931 : decode cL_law 931 = .ok (.iconst 0, 1) := by decide +kernel
theorem dL_law_932 : decode cL_law 932 = .ok (.invokevirtual 162, 3) := by decide +kernel
theorem dL_law_935 : decode cL_law 935 = .ok (.istore 6, 2) := by decide +kernel
theorem dL_law_937 : decode cL_law 937 = .ok (.aload_n 2, 1) := by decide +kernel
theorem dL_law_938 : decode cL_law 938 = .ok (.invokevirtual 121, 3) := by decide +kernel
theorem dL_law_941 : decode cL_law 941 = .ok (.iload 5, 2) := by decide +kernel
theorem dL_law_943 : decode cL_law 943 = .ok (.if_icmp .eq 5, 3) := by decide +kernel
theorem dL_law_946 : decode cL_law 946 = .ok (.iconst 0, 1) := by decide +kernel
theorem dL_law_947 : decode cL_law 947 = .ok (.ireturn, 1) := by decide +kernel
theorem dL_law_948 : decode cL_law 948 = .ok (.iload 5, 2) := by decide +kernel
theorem dL_law_950 : decode cL_law 950 = .ok (.ifCond .ne 15, 3) := by decide +kernel
theorem dL_law_953 : decode cL_law 953 = .ok (.aload_n 3, 1) := by decide +kernel
theorem dL_law_954 : decode cL_law 954 = .ok (.iconst 0, 1) := by decide +kernel
theorem dL_law_955 : decode cL_law 955 = .ok (.laload, 1) := by decide +kernel
theorem dL_law_956 : decode cL_law 956 = .ok (.iload 6, 2) := by decide +kernel
theorem dL_law_958 : decode cL_law 958 = .ok (.i2l, 1) := by decide +kernel
theorem dL_law_959 : decode cL_law 959 = .ok (.lcmp, 1) := by decide +kernel
theorem dL_law_960 : decode cL_law 960 = .ok (.ifCond .eq 5, 3) := by decide +kernel
theorem dL_law_963 : decode cL_law 963 = .ok (.iconst 0, 1) := by decide +kernel
theorem dL_law_964 : decode cL_law 964 = .ok (.ireturn, 1) := by decide +kernel
theorem dL_law_965 : decode cL_law 965 = .ok (.goto 1048, 3) := by decide +kernel
theorem dL_law_968 : decode cL_law 968 = .ok (.aload_n 1, 1) := by decide +kernel
theorem dL_law_969 : decode cL_law 969 = .ok (.aload_n 0, 1) := by decide +kernel
theorem dL_law_970 : decode cL_law 970 = .ok (.iload 4, 2) := by decide +kernel
theorem dL_law_972 : decode cL_law 972 = .ok (.iconst 1, 1) := by decide +kernel
theorem dL_law_973 : decode cL_law 973 = .ok (.iadd, 1) := by decide +kernel
theorem dL_law_974 : decode cL_law 974 = .ok (.iaload, 1) := by decide +kernel
theorem dL_law_975 : decode cL_law 975 = .ok (.aload_n 3, 1) := by decide +kernel
theorem dL_law_976 : decode cL_law 976 = .ok (.invokestatic 163, 3) := by decide +kernel
theorem dL_law_979 : decode cL_law 979 = .ok (.istore 5, 2) := by decide +kernel
theorem dL_law_981 : decode cL_law 981 = .ok (.aload_n 2, 1) := by decide +kernel
theorem dL_law_982 : decode cL_law 982 = .ok (.aload_n 0, 1) := by decide +kernel
theorem dL_law_983 : decode cL_law 983 = .ok (.iload 4, 2) := by decide +kernel
theorem dL_law_985 : decode cL_law 985 = .ok (.iconst 1, 1) := by decide +kernel
theorem dL_law_986 : decode cL_law 986 = .ok (.iadd, 1) := by decide +kernel
theorem dL_law_987 : decode cL_law 987 = .ok (.iaload, 1) := by decide +kernel
theorem dL_law_988 : decode cL_law 988 = .ok (.invokevirtual 165, 3) := by decide +kernel
theorem dL_law_991 : decode cL_law 991 = .ok (.istore 6, 2) := by decide +kernel
theorem dL_law_993 : decode cL_law 993 = .ok (.aload_n 2, 1) := by decide +kernel
theorem dL_law_994 : decode cL_law 994 = .ok (.invokevirtual 121, 3) := by decide +kernel
theorem dL_law_997 : decode cL_law 997 = .ok (.iload 5, 2) := by decide +kernel
theorem dL_law_999 : decode cL_law 999 = .ok (.if_icmp .eq 5, 3) := by decide +kernel
theorem dL_law_1002 : decode cL_law 1002 = .ok (.iconst 0, 1) := by decide +kernel
theorem dL_law_1003 : decode cL_law 1003 = .ok (.ireturn, 1) := by decide +kernel
theorem dL_law_1004 : decode cL_law 1004 = .ok (.iload 5, 2) := by decide +kernel
theorem dL_law_1006 : decode cL_law 1006 = .ok (.ifCond .ne 15, 3) := by decide +kernel
theorem dL_law_1009 : decode cL_law 1009 = .ok (.aload_n 3, 1) := by decide +kernel
theorem dL_law_1010 : decode cL_law 1010 = .ok (.iconst 0, 1) := by decide +kernel
theorem dL_law_1011 : decode cL_law 1011 = .ok (.laload, 1) := by decide +kernel
theorem dL_law_1012 : decode cL_law 1012 = .ok (.iload 6, 2) := by decide +kernel
theorem dL_law_1014 : decode cL_law 1014 = .ok (.i2l, 1) := by decide +kernel
theorem dL_law_1015 : decode cL_law 1015 = .ok (.lcmp, 1) := by decide +kernel
theorem dL_law_1016 : decode cL_law 1016 = .ok (.ifCond .eq 5, 3) := by decide +kernel
theorem dL_law_1019 : decode cL_law 1019 = .ok (.iconst 0, 1) := by decide +kernel
theorem dL_law_1020 : decode cL_law 1020 = .ok (.ireturn, 1) := by decide +kernel
theorem dL_law_1021 : decode cL_law 1021 = .ok (.goto 992, 3) := by decide +kernel
theorem dL_law_1024 : decode cL_law 1024 = .ok (.aload_n 1, 1) := by decide +kernel
theorem dL_law_1025 : decode cL_law 1025 = .ok (.aload_n 0, 1) := by decide +kernel
theorem dL_law_1026 : decode cL_law 1026 = .ok (.iload 4, 2) := by decide +kernel
theorem dL_law_1028 : decode cL_law 1028 = .ok (.iconst 1, 1) := by decide +kernel
theorem dL_law_1029 : decode cL_law 1029 = .ok (.iadd, 1) := by decide +kernel
theorem dL_law_1030 : decode cL_law 1030 = .ok (.iaload, 1) := by decide +kernel
theorem dL_law_1031 : decode cL_law 1031 = .ok (.aload_n 3, 1) := by decide +kernel
theorem dL_law_1032 : decode cL_law 1032 = .ok (.invokestatic 166, 3) := by decide +kernel
theorem dL_law_1035 : decode cL_law 1035 = .ok (.istore 5, 2) := by decide +kernel
theorem dL_law_1037 : decode cL_law 1037 = .ok (.aload_n 2, 1) := by decide +kernel
theorem dL_law_1038 : decode cL_law 1038 = .ok (.aload_n 0, 1) := by decide +kernel
theorem dL_law_1039 : decode cL_law 1039 = .ok (.iload 4, 2) := by decide +kernel
theorem dL_law_1041 : decode cL_law 1041 = .ok (.iconst 1, 1) := by decide +kernel
theorem dL_law_1042 : decode cL_law 1042 = .ok (.iadd, 1) := by decide +kernel
theorem dL_law_1043 : decode cL_law 1043 = .ok (.iaload, 1) := by decide +kernel
theorem dL_law_1044 : decode cL_law 1044 = .ok (.invokevirtual 168, 3) := by decide +kernel
theorem dL_law_1047 : decode cL_law 1047 = .ok (.istore 6, 2) := by decide +kernel
theorem dL_law_1049 : decode cL_law 1049 = .ok (.aload_n 2, 1) := by decide +kernel
theorem dL_law_1050 : decode cL_law 1050 = .ok (.invokevirtual 121, 3) := by decide +kernel
theorem dL_law_1053 : decode cL_law 1053 = .ok (.iload 5, 2) := by decide +kernel
theorem dL_law_1055 : decode cL_law 1055 = .ok (.if_icmp .eq 5, 3) := by decide +kernel
theorem dL_law_1058 : decode cL_law 1058 = .ok (.iconst 0, 1) := by decide +kernel
theorem dL_law_1059 : decode cL_law 1059 = .ok (.ireturn, 1) := by decide +kernel
theorem dL_law_1060 : decode cL_law 1060 = .ok (.iload 5, 2) := by decide +kernel
theorem dL_law_1062 : decode cL_law 1062 = .ok (.ifCond .ne 15, 3) := by decide +kernel
theorem dL_law_1065 : decode cL_law 1065 = .ok (.aload_n 3, 1) := by decide +kernel
theorem dL_law_1066 : decode cL_law 1066 = .ok (.iconst 0, 1) := by decide +kernel
theorem dL_law_1067 : decode cL_law 1067 = .ok (.laload, 1) := by decide +kernel
theorem dL_law_1068 : decode cL_law 1068 = .ok (.iload 6, 2) := by decide +kernel
theorem dL_law_1070 : decode cL_law 1070 = .ok (.i2l, 1) := by decide +kernel
theorem dL_law_1071 : decode cL_law 1071 = .ok (.lcmp, 1) := by decide +kernel
theorem dL_law_1072 : decode cL_law 1072 = .ok (.ifCond .eq 5, 3) := by decide +kernel
theorem dL_law_1075 : decode cL_law 1075 = .ok (.iconst 0, 1) := by decide +kernel
theorem dL_law_1076 : decode cL_law 1076 = .ok (.ireturn, 1) := by decide +kernel
theorem dL_law_1077 : decode cL_law 1077 = .ok (.goto 936, 3) := by decide +kernel
theorem dL_law_1080 : decode cL_law 1080 = .ok (.aload_n 1, 1) := by decide +kernel
theorem dL_law_1081 : decode cL_law 1081 = .ok (.aload_n 0, 1) := by decide +kernel
theorem dL_law_1082 : decode cL_law 1082 = .ok (.iload 4, 2) := by decide +kernel
theorem dL_law_1084 : decode cL_law 1084 = .ok (.iconst 1, 1) := by decide +kernel
theorem dL_law_1085 : decode cL_law 1085 = .ok (.iadd, 1) := by decide +kernel
theorem dL_law_1086 : decode cL_law 1086 = .ok (.iaload, 1) := by decide +kernel
theorem dL_law_1087 : decode cL_law 1087 = .ok (.aload_n 3, 1) := by decide +kernel
theorem dL_law_1088 : decode cL_law 1088 = .ok (.invokestatic 169, 3) := by decide +kernel
theorem dL_law_1091 : decode cL_law 1091 = .ok (.istore 5, 2) := by decide +kernel
theorem dL_law_1093 : decode cL_law 1093 = .ok (.aload_n 2, 1) := by decide +kernel
theorem dL_law_1094 : decode cL_law 1094 = .ok (.aload_n 0, 1) := by decide +kernel
theorem dL_law_1095 : decode cL_law 1095 = .ok (.iload 4, 2) := by decide +kernel
theorem dL_law_1097 : decode cL_law 1097 = .ok (.iconst 1, 1) := by decide +kernel
theorem dL_law_1098 : decode cL_law 1098 = .ok (.iadd, 1) := by decide +kernel
theorem dL_law_1099 : decode cL_law 1099 = .ok (.iaload, 1) := by decide +kernel
theorem dL_law_1100 : decode cL_law 1100 = .ok (.invokevirtual 171, 3) := by decide +kernel
theorem dL_law_1103 : decode cL_law 1103 = .ok (.istore 6, 2) := by decide +kernel
theorem dL_law_1105 : decode cL_law 1105 = .ok (.aload_n 2, 1) := by decide +kernel
theorem dL_law_1106 : decode cL_law 1106 = .ok (.invokevirtual 121, 3) := by decide +kernel
theorem dL_law_1109 : decode cL_law 1109 = .ok (.iload 5, 2) := by decide +kernel
theorem dL_law_1111 : decode cL_law 1111 = .ok (.if_icmp .eq 5, 3) := by decide +kernel
theorem dL_law_1114 : decode cL_law 1114 = .ok (.iconst 0, 1) := by decide +kernel
theorem dL_law_1115 : decode cL_law 1115 = .ok (.ireturn, 1) := by decide +kernel
theorem dL_law_1116 : decode cL_law 1116 = .ok (.iload 5, 2) := by decide +kernel
theorem dL_law_1118 : decode cL_law 1118 = .ok (.ifCond .ne 15, 3) := by decide +kernel
theorem dL_law_1121 : decode cL_law 1121 = .ok (.aload_n 3, 1) := by decide +kernel
theorem dL_law_1122 : decode cL_law 1122 = .ok (.iconst 0, 1) := by decide +kernel
theorem dL_law_1123 : decode cL_law 1123 = .ok (.laload, 1) := by decide +kernel
theorem dL_law_1124 : decode cL_law 1124 = .ok (.iload 6, 2) := by decide +kernel
theorem dL_law_1126 : decode cL_law 1126 = .ok (.i2l, 1) := by decide +kernel
theorem dL_law_1127 : decode cL_law 1127 = .ok (.lcmp, 1) := by decide +kernel
theorem dL_law_1128 : decode cL_law 1128 = .ok (.ifCond .eq 5, 3) := by decide +kernel
theorem dL_law_1131 : decode cL_law 1131 = .ok (.iconst 0, 1) := by decide +kernel
theorem dL_law_1132 : decode cL_law 1132 = .ok (.ireturn, 1) := by decide +kernel
theorem dL_law_1133 : decode cL_law 1133 = .ok (.goto 880, 3) := by decide +kernel
theorem dL_law_1136 : decode cL_law 1136 = .ok (.aload_n 1, 1) := by decide +kernel
theorem dL_law_1137 : decode cL_law 1137 = .ok (.aload_n 0, 1) := by decide +kernel
theorem dL_law_1138 : decode cL_law 1138 = .ok (.iload 4, 2) := by decide +kernel
theorem dL_law_1140 : decode cL_law 1140 = .ok (.iconst 1, 1) := by decide +kernel
theorem dL_law_1141 : decode cL_law 1141 = .ok (.iadd, 1) := by decide +kernel
theorem dL_law_1142 : decode cL_law 1142 = .ok (.iaload, 1) := by decide +kernel
theorem dL_law_1143 : decode cL_law 1143 = .ok (.aload_n 0, 1) := by decide +kernel
theorem dL_law_1144 : decode cL_law 1144 = .ok (.iload 4, 2) := by decide +kernel
theorem dL_law_1146 : decode cL_law 1146 = .ok (.iconst 2, 1) := by decide +kernel
theorem dL_law_1147 : decode cL_law 1147 = .ok (.iadd, 1) := by decide +kernel
theorem dL_law_1148 : decode cL_law 1148 = .ok (.iaload, 1) := by decide +kernel
theorem dL_law_1149 : decode cL_law 1149 = .ok (.aload_n 3, 1) := by decide +kernel
theorem dL_law_1150 : decode cL_law 1150 = .ok (.invokestatic 172, 3) := by decide +kernel
theorem dL_law_1153 : decode cL_law 1153 = .ok (.istore 5, 2) := by decide +kernel
theorem dL_law_1155 : decode cL_law 1155 = .ok (.aload_n 2, 1) := by decide +kernel
theorem dL_law_1156 : decode cL_law 1156 = .ok (.aload_n 0, 1) := by decide +kernel
theorem dL_law_1157 : decode cL_law 1157 = .ok (.iload 4, 2) := by decide +kernel
theorem dL_law_1159 : decode cL_law 1159 = .ok (.iconst 1, 1) := by decide +kernel
theorem dL_law_1160 : decode cL_law 1160 = .ok (.iadd, 1) := by decide +kernel
theorem dL_law_1161 : decode cL_law 1161 = .ok (.iaload, 1) := by decide +kernel
theorem dL_law_1162 : decode cL_law 1162 = .ok (.aload_n 0, 1) := by decide +kernel
theorem dL_law_1163 : decode cL_law 1163 = .ok (.iload 4, 2) := by decide +kernel
theorem dL_law_1165 : decode cL_law 1165 = .ok (.iconst 2, 1) := by decide +kernel
theorem dL_law_1166 : decode cL_law 1166 = .ok (.iadd, 1) := by decide +kernel
theorem dL_law_1167 : decode cL_law 1167 = .ok (.iaload, 1) := by decide +kernel
theorem dL_law_1168 : decode cL_law 1168 = .ok (.invokevirtual 174, 3) := by decide +kernel
theorem dL_law_1171 : decode cL_law 1171 = .ok (.istore 6, 2) := by decide +kernel
theorem dL_law_1173 : decode cL_law 1173 = .ok (.aload_n 2, 1) := by decide +kernel
theorem dL_law_1174 : decode cL_law 1174 = .ok (.invokevirtual 121, 3) := by decide +kernel
theorem dL_law_1177 : decode cL_law 1177 = .ok (.iload 5, 2) := by decide +kernel
theorem dL_law_1179 : decode cL_law 1179 = .ok (.if_icmp .eq 5, 3) := by decide +kernel
theorem dL_law_1182 : decode cL_law 1182 = .ok (.iconst 0, 1) := by decide +kernel
theorem dL_law_1183 : decode cL_law 1183 = .ok (.ireturn, 1) := by decide +kernel
theorem dL_law_1184 : decode cL_law 1184 = .ok (.iload 5, 2) := by decide +kernel
theorem dL_law_1186 : decode cL_law 1186 = .ok (.ifCond .ne 15, 3) := by decide +kernel
theorem dL_law_1189 : decode cL_law 1189 = .ok (.aload_n 3, 1) := by decide +kernel
theorem dL_law_1190 : decode cL_law 1190 = .ok (.iconst 0, 1) := by decide +kernel
theorem dL_law_1191 : decode cL_law 1191 = .ok (.laload, 1) := by decide +kernel
theorem dL_law_1192 : decode cL_law 1192 = .ok (.iload 6, 2) := by decide +kernel
theorem dL_law_1194 : decode cL_law 1194 = .ok (.i2l, 1) := by decide +kernel
theorem dL_law_1195 : decode cL_law 1195 = .ok (.lcmp, 1) := by decide +kernel
theorem dL_law_1196 : decode cL_law 1196 = .ok (.ifCond .eq 5, 3) := by decide +kernel
theorem dL_law_1199 : decode cL_law 1199 = .ok (.iconst 0, 1) := by decide +kernel
theorem dL_law_1200 : decode cL_law 1200 = .ok (.ireturn, 1) := by decide +kernel
theorem dL_law_1201 : decode cL_law 1201 = .ok (.goto 812, 3) := by decide +kernel
theorem dL_law_1204 : decode cL_law 1204 = .ok (.aload_n 1, 1) := by decide +kernel
theorem dL_law_1205 : decode cL_law 1205 = .ok (.aload_n 3, 1) := by decide +kernel
theorem dL_law_1206 : decode cL_law 1206 = .ok (.invokestatic 175, 3) := by decide +kernel
theorem dL_law_1209 : decode cL_law 1209 = .ok (.istore 5, 2) := by decide +kernel
theorem dL_law_1211 : decode cL_law 1211 = .ok (.aload_n 2, 1) := by decide +kernel
theorem dL_law_1212 : decode cL_law 1212 = .ok (.invokevirtual 178, 3) := by decide +kernel
theorem dL_law_1215 : decode cL_law 1215 = .ok (.istore 6, 2) := by decide +kernel
theorem dL_law_1217 : decode cL_law 1217 = .ok (.aload_n 2, 1) := by decide +kernel
theorem dL_law_1218 : decode cL_law 1218 = .ok (.invokevirtual 121, 3) := by decide +kernel
theorem dL_law_1221 : decode cL_law 1221 = .ok (.iload 5, 2) := by decide +kernel
theorem dL_law_1223 : decode cL_law 1223 = .ok (.if_icmp .eq 5, 3) := by decide +kernel
theorem dL_law_1226 : decode cL_law 1226 = .ok (.iconst 0, 1) := by decide +kernel
theorem dL_law_1227 : decode cL_law 1227 = .ok (.ireturn, 1) := by decide +kernel
theorem dL_law_1228 : decode cL_law 1228 = .ok (.iload 5, 2) := by decide +kernel
theorem dL_law_1230 : decode cL_law 1230 = .ok (.ifCond .ne 15, 3) := by decide +kernel
theorem dL_law_1233 : decode cL_law 1233 = .ok (.aload_n 3, 1) := by decide +kernel
theorem dL_law_1234 : decode cL_law 1234 = .ok (.iconst 0, 1) := by decide +kernel
theorem dL_law_1235 : decode cL_law 1235 = .ok (.laload, 1) := by decide +kernel
theorem dL_law_1236 : decode cL_law 1236 = .ok (.iload 6, 2) := by decide +kernel
theorem dL_law_1238 : decode cL_law 1238 = .ok (.i2l, 1) := by decide +kernel
theorem dL_law_1239 : decode cL_law 1239 = .ok (.lcmp, 1) := by decide +kernel
theorem dL_law_1240 : decode cL_law 1240 = .ok (.ifCond .eq 5, 3) := by decide +kernel
theorem dL_law_1243 : decode cL_law 1243 = .ok (.iconst 0, 1) := by decide +kernel
theorem dL_law_1244 : decode cL_law 1244 = .ok (.ireturn, 1) := by decide +kernel
theorem dL_law_1245 : decode cL_law 1245 = .ok (.goto 768, 3) := by decide +kernel
theorem dL_law_1248 : decode cL_law 1248 = .ok (.aload_n 1, 1) := by decide +kernel
theorem dL_law_1249 : decode cL_law 1249 = .ok (.aload_n 3, 1) := by decide +kernel
theorem dL_law_1250 : decode cL_law 1250 = .ok (.invokestatic 179, 3) := by decide +kernel
theorem dL_law_1253 : decode cL_law 1253 = .ok (.istore 5, 2) := by decide +kernel
theorem dL_law_1255 : decode cL_law 1255 = .ok (.aload_n 2, 1) := by decide +kernel
theorem dL_law_1256 : decode cL_law 1256 = .ok (.invokevirtual 181, 3) := by decide +kernel
theorem dL_law_1259 : decode cL_law 1259 = .ok (.istore 6, 2) := by decide +kernel
theorem dL_law_1261 : decode cL_law 1261 = .ok (.aload_n 2, 1) := by decide +kernel
theorem dL_law_1262 : decode cL_law 1262 = .ok (.invokevirtual 121, 3) := by decide +kernel
theorem dL_law_1265 : decode cL_law 1265 = .ok (.iload 5, 2) := by decide +kernel
theorem dL_law_1267 : decode cL_law 1267 = .ok (.if_icmp .eq 5, 3) := by decide +kernel
theorem dL_law_1270 : decode cL_law 1270 = .ok (.iconst 0, 1) := by decide +kernel
theorem dL_law_1271 : decode cL_law 1271 = .ok (.ireturn, 1) := by decide +kernel
theorem dL_law_1272 : decode cL_law 1272 = .ok (.iload 5, 2) := by decide +kernel
theorem dL_law_1274 : decode cL_law 1274 = .ok (.ifCond .ne 15, 3) := by decide +kernel
theorem dL_law_1277 : decode cL_law 1277 = .ok (.aload_n 3, 1) := by decide +kernel
theorem dL_law_1278 : decode cL_law 1278 = .ok (.iconst 0, 1) := by decide +kernel
theorem dL_law_1279 : decode cL_law 1279 = .ok (.laload, 1) := by decide +kernel
theorem dL_law_1280 : decode cL_law 1280 = .ok (.iload 6, 2) := by decide +kernel
theorem dL_law_1282 : decode cL_law 1282 = .ok (.i2l, 1) := by decide +kernel
theorem dL_law_1283 : decode cL_law 1283 = .ok (.lcmp, 1) := by decide +kernel
theorem dL_law_1284 : decode cL_law 1284 = .ok (.ifCond .eq 5, 3) := by decide +kernel
theorem dL_law_1287 : decode cL_law 1287 = .ok (.iconst 0, 1) := by decide +kernel
theorem dL_law_1288 : decode cL_law 1288 = .ok (.ireturn, 1) := by decide +kernel
theorem dL_law_1289 : decode cL_law 1289 = .ok (.goto 724, 3) := by decide +kernel
theorem dL_law_1292 : decode cL_law 1292 = .ok (.aload_n 1, 1) := by decide +kernel
theorem dL_law_1293 : decode cL_law 1293 = .ok (.aload_n 0, 1) := by decide +kernel
theorem dL_law_1294 : decode cL_law 1294 = .ok (.iload 4, 2) := by decide +kernel
theorem dL_law_1296 : decode cL_law 1296 = .ok (.iconst 1, 1) := by decide +kernel
theorem dL_law_1297 : decode cL_law 1297 = .ok (.iadd, 1) := by decide +kernel
theorem dL_law_1298 : decode cL_law 1298 = .ok (.iaload, 1) := by decide +kernel
theorem dL_law_1299 : decode cL_law 1299 = .ok (.aload_n 3, 1) := by decide +kernel
theorem dL_law_1300 : decode cL_law 1300 = .ok (.invokestatic 182, 3) := by decide +kernel
theorem dL_law_1303 : decode cL_law 1303 = .ok (.istore 5, 2) := by decide +kernel
theorem dL_law_1305 : decode cL_law 1305 = .ok (.aload_n 2, 1) := by decide +kernel
theorem dL_law_1306 : decode cL_law 1306 = .ok (.aload_n 0, 1) := by decide +kernel
theorem dL_law_1307 : decode cL_law 1307 = .ok (.iload 4, 2) := by decide +kernel
theorem dL_law_1309 : decode cL_law 1309 = .ok (.iconst 1, 1) := by decide +kernel
theorem dL_law_1310 : decode cL_law 1310 = .ok (.iadd, 1) := by decide +kernel
theorem dL_law_1311 : decode cL_law 1311 = .ok (.iaload, 1) := by decide +kernel
theorem dL_law_1312 : decode cL_law 1312 = .ok (.invokevirtual 184, 3) := by decide +kernel
theorem dL_law_1315 : decode cL_law 1315 = .ok (.istore 6, 2) := by decide +kernel
theorem dL_law_1317 : decode cL_law 1317 = .ok (.aload_n 2, 1) := by decide +kernel
theorem dL_law_1318 : decode cL_law 1318 = .ok (.invokevirtual 121, 3) := by decide +kernel
theorem dL_law_1321 : decode cL_law 1321 = .ok (.iload 5, 2) := by decide +kernel
theorem dL_law_1323 : decode cL_law 1323 = .ok (.if_icmp .eq 5, 3) := by decide +kernel
theorem dL_law_1326 : decode cL_law 1326 = .ok (.iconst 0, 1) := by decide +kernel
theorem dL_law_1327 : decode cL_law 1327 = .ok (.ireturn, 1) := by decide +kernel
theorem dL_law_1328 : decode cL_law 1328 = .ok (.iload 5, 2) := by decide +kernel
theorem dL_law_1330 : decode cL_law 1330 = .ok (.ifCond .ne 15, 3) := by decide +kernel
theorem dL_law_1333 : decode cL_law 1333 = .ok (.aload_n 3, 1) := by decide +kernel
theorem dL_law_1334 : decode cL_law 1334 = .ok (.iconst 0, 1) := by decide +kernel
theorem dL_law_1335 : decode cL_law 1335 = .ok (.laload, 1) := by decide +kernel
theorem dL_law_1336 : decode cL_law 1336 = .ok (.iload 6, 2) := by decide +kernel
theorem dL_law_1338 : decode cL_law 1338 = .ok (.i2l, 1) := by decide +kernel
theorem dL_law_1339 : decode cL_law 1339 = .ok (.lcmp, 1) := by decide +kernel
theorem dL_law_1340 : decode cL_law 1340 = .ok (.ifCond .eq 5, 3) := by decide +kernel
theorem dL_law_1343 : decode cL_law 1343 = .ok (.iconst 0, 1) := by decide +kernel
theorem dL_law_1344 : decode cL_law 1344 = .ok (.ireturn, 1) := by decide +kernel
theorem dL_law_1345 : decode cL_law 1345 = .ok (.goto 668, 3) := by decide +kernel
theorem dL_law_1348 : decode cL_law 1348 = .ok (.aload_n 1, 1) := by decide +kernel
theorem dL_law_1349 : decode cL_law 1349 = .ok (.aload_n 0, 1) := by decide +kernel
theorem dL_law_1350 : decode cL_law 1350 = .ok (.iload 4, 2) := by decide +kernel
theorem dL_law_1352 : decode cL_law 1352 = .ok (.iconst 1, 1) := by decide +kernel
theorem dL_law_1353 : decode cL_law 1353 = .ok (.iadd, 1) := by decide +kernel
theorem dL_law_1354 : decode cL_law 1354 = .ok (.iaload, 1) := by decide +kernel
theorem dL_law_1355 : decode cL_law 1355 = .ok (.aload_n 3, 1) := by decide +kernel
theorem dL_law_1356 : decode cL_law 1356 = .ok (.invokestatic 185, 3) := by decide +kernel
theorem dL_law_1359 : decode cL_law 1359 = .ok (.istore 5, 2) := by decide +kernel
theorem dL_law_1361 : decode cL_law 1361 = .ok (.aload_n 2, 1) := by decide +kernel
theorem dL_law_1362 : decode cL_law 1362 = .ok (.aload_n 0, 1) := by decide +kernel
theorem dL_law_1363 : decode cL_law 1363 = .ok (.iload 4, 2) := by decide +kernel
theorem dL_law_1365 : decode cL_law 1365 = .ok (.iconst 1, 1) := by decide +kernel
theorem dL_law_1366 : decode cL_law 1366 = .ok (.iadd, 1) := by decide +kernel
theorem dL_law_1367 : decode cL_law 1367 = .ok (.iaload, 1) := by decide +kernel
theorem dL_law_1368 : decode cL_law 1368 = .ok (.invokevirtual 187, 3) := by decide +kernel
theorem dL_law_1371 : decode cL_law 1371 = .ok (.istore 6, 2) := by decide +kernel
theorem dL_law_1373 : decode cL_law 1373 = .ok (.aload_n 2, 1) := by decide +kernel
theorem dL_law_1374 : decode cL_law 1374 = .ok (.invokevirtual 121, 3) := by decide +kernel
theorem dL_law_1377 : decode cL_law 1377 = .ok (.iload 5, 2) := by decide +kernel
theorem dL_law_1379 : decode cL_law 1379 = .ok (.if_icmp .eq 5, 3) := by decide +kernel
theorem dL_law_1382 : decode cL_law 1382 = .ok (.iconst 0, 1) := by decide +kernel
theorem dL_law_1383 : decode cL_law 1383 = .ok (.ireturn, 1) := by decide +kernel
theorem dL_law_1384 : decode cL_law 1384 = .ok (.iload 5, 2) := by decide +kernel
theorem dL_law_1386 : decode cL_law 1386 = .ok (.ifCond .ne 15, 3) := by decide +kernel
theorem dL_law_1389 : decode cL_law 1389 = .ok (.aload_n 3, 1) := by decide +kernel
theorem dL_law_1390 : decode cL_law 1390 = .ok (.iconst 0, 1) := by decide +kernel
theorem dL_law_1391 : decode cL_law 1391 = .ok (.laload, 1) := by decide +kernel
theorem dL_law_1392 : decode cL_law 1392 = .ok (.iload 6, 2) := by decide +kernel
theorem dL_law_1394 : decode cL_law 1394 = .ok (.i2l, 1) := by decide +kernel
theorem dL_law_1395 : decode cL_law 1395 = .ok (.lcmp, 1) := by decide +kernel
theorem dL_law_1396 : decode cL_law 1396 = .ok (.ifCond .eq 5, 3) := by decide +kernel
theorem dL_law_1399 : decode cL_law 1399 = .ok (.iconst 0, 1) := by decide +kernel
theorem dL_law_1400 : decode cL_law 1400 = .ok (.ireturn, 1) := by decide +kernel
theorem dL_law_1401 : decode cL_law 1401 = .ok (.goto 612, 3) := by decide +kernel
theorem dL_law_1404 : decode cL_law 1404 = .ok (.aload_n 1, 1) := by decide +kernel
theorem dL_law_1405 : decode cL_law 1405 = .ok (.aload_n 0, 1) := by decide +kernel
theorem dL_law_1406 : decode cL_law 1406 = .ok (.iload 4, 2) := by decide +kernel
theorem dL_law_1408 : decode cL_law 1408 = .ok (.iconst 1, 1) := by decide +kernel
theorem dL_law_1409 : decode cL_law 1409 = .ok (.iadd, 1) := by decide +kernel
theorem dL_law_1410 : decode cL_law 1410 = .ok (.iaload, 1) := by decide +kernel
theorem dL_law_1411 : decode cL_law 1411 = .ok (.aload_n 0, 1) := by decide +kernel
theorem dL_law_1412 : decode cL_law 1412 = .ok (.iload 4, 2) := by decide +kernel
theorem dL_law_1414 : decode cL_law 1414 = .ok (.iconst 2, 1) := by decide +kernel
theorem dL_law_1415 : decode cL_law 1415 = .ok (.iadd, 1) := by decide +kernel
theorem dL_law_1416 : decode cL_law 1416 = .ok (.iaload, 1) := by decide +kernel
theorem dL_law_1417 : decode cL_law 1417 = .ok (.aload_n 3, 1) := by decide +kernel
theorem dL_law_1418 : decode cL_law 1418 = .ok (.invokestatic 188, 3) := by decide +kernel
theorem dL_law_1421 : decode cL_law 1421 = .ok (.istore 5, 2) := by decide +kernel
theorem dL_law_1423 : decode cL_law 1423 = .ok (.aload_n 2, 1) := by decide +kernel
theorem dL_law_1424 : decode cL_law 1424 = .ok (.aload_n 0, 1) := by decide +kernel
theorem dL_law_1425 : decode cL_law 1425 = .ok (.iload 4, 2) := by decide +kernel
theorem dL_law_1427 : decode cL_law 1427 = .ok (.iconst 1, 1) := by decide +kernel
theorem dL_law_1428 : decode cL_law 1428 = .ok (.iadd, 1) := by decide +kernel
theorem dL_law_1429 : decode cL_law 1429 = .ok (.iaload, 1) := by decide +kernel
theorem dL_law_1430 : decode cL_law 1430 = .ok (.aload_n 0, 1) := by decide +kernel
theorem dL_law_1431 : decode cL_law 1431 = .ok (.iload 4, 2) := by decide +kernel
theorem dL_law_1433 : decode cL_law 1433 = .ok (.iconst 2, 1) := by decide +kernel
theorem dL_law_1434 : decode cL_law 1434 = .ok (.iadd, 1) := by decide +kernel
theorem dL_law_1435 : decode cL_law 1435 = .ok (.iaload, 1) := by decide +kernel
theorem dL_law_1436 : decode cL_law 1436 = .ok (.invokevirtual 190, 3) := by decide +kernel
theorem dL_law_1439 : decode cL_law 1439 = .ok (.istore 6, 2) := by decide +kernel
theorem dL_law_1441 : decode cL_law 1441 = .ok (.aload_n 2, 1) := by decide +kernel
theorem dL_law_1442 : decode cL_law 1442 = .ok (.invokevirtual 121, 3) := by decide +kernel
theorem dL_law_1445 : decode cL_law 1445 = .ok (.iload 5, 2) := by decide +kernel
theorem dL_law_1447 : decode cL_law 1447 = .ok (.if_icmp .eq 5, 3) := by decide +kernel
theorem dL_law_1450 : decode cL_law 1450 = .ok (.iconst 0, 1) := by decide +kernel
theorem dL_law_1451 : decode cL_law 1451 = .ok (.ireturn, 1) := by decide +kernel
theorem dL_law_1452 : decode cL_law 1452 = .ok (.iload 5, 2) := by decide +kernel
theorem dL_law_1454 : decode cL_law 1454 = .ok (.ifCond .ne 15, 3) := by decide +kernel
theorem dL_law_1457 : decode cL_law 1457 = .ok (.aload_n 3, 1) := by decide +kernel
theorem dL_law_1458 : decode cL_law 1458 = .ok (.iconst 0, 1) := by decide +kernel
theorem dL_law_1459 : decode cL_law 1459 = .ok (.laload, 1) := by decide +kernel
theorem dL_law_1460 : decode cL_law 1460 = .ok (.iload 6, 2) := by decide +kernel
theorem dL_law_1462 : decode cL_law 1462 = .ok (.i2l, 1) := by decide +kernel
theorem dL_law_1463 : decode cL_law 1463 = .ok (.lcmp, 1) := by decide +kernel
theorem dL_law_1464 : decode cL_law 1464 = .ok (.ifCond .eq 5, 3) := by decide +kernel
theorem dL_law_1467 : decode cL_law 1467 = .ok (.iconst 0, 1) := by decide +kernel
theorem dL_law_1468 : decode cL_law 1468 = .ok (.ireturn, 1) := by decide +kernel
theorem dL_law_1469 : decode cL_law 1469 = .ok (.goto 544, 3) := by decide +kernel
theorem dL_law_1472 : decode cL_law 1472 = .ok (.aload_n 1, 1) := by decide +kernel
theorem dL_law_1473 : decode cL_law 1473 = .ok (.aload_n 0, 1) := by decide +kernel
theorem dL_law_1474 : decode cL_law 1474 = .ok (.iload 4, 2) := by decide +kernel
theorem dL_law_1476 : decode cL_law 1476 = .ok (.iconst 1, 1) := by decide +kernel
theorem dL_law_1477 : decode cL_law 1477 = .ok (.iadd, 1) := by decide +kernel
theorem dL_law_1478 : decode cL_law 1478 = .ok (.iaload, 1) := by decide +kernel
theorem dL_law_1479 : decode cL_law 1479 = .ok (.aload_n 0, 1) := by decide +kernel
theorem dL_law_1480 : decode cL_law 1480 = .ok (.iload 4, 2) := by decide +kernel
theorem dL_law_1482 : decode cL_law 1482 = .ok (.iconst 2, 1) := by decide +kernel
theorem dL_law_1483 : decode cL_law 1483 = .ok (.iadd, 1) := by decide +kernel
theorem dL_law_1484 : decode cL_law 1484 = .ok (.iaload, 1) := by decide +kernel
theorem dL_law_1485 : decode cL_law 1485 = .ok (.aload_n 3, 1) := by decide +kernel
theorem dL_law_1486 : decode cL_law 1486 = .ok (.invokestatic 191, 3) := by decide +kernel
theorem dL_law_1489 : decode cL_law 1489 = .ok (.istore 5, 2) := by decide +kernel
theorem dL_law_1491 : decode cL_law 1491 = .ok (.aload_n 2, 1) := by decide +kernel
theorem dL_law_1492 : decode cL_law 1492 = .ok (.aload_n 0, 1) := by decide +kernel
theorem dL_law_1493 : decode cL_law 1493 = .ok (.iload 4, 2) := by decide +kernel
theorem dL_law_1495 : decode cL_law 1495 = .ok (.iconst 1, 1) := by decide +kernel
theorem dL_law_1496 : decode cL_law 1496 = .ok (.iadd, 1) := by decide +kernel
theorem dL_law_1497 : decode cL_law 1497 = .ok (.iaload, 1) := by decide +kernel
theorem dL_law_1498 : decode cL_law 1498 = .ok (.aload_n 0, 1) := by decide +kernel
theorem dL_law_1499 : decode cL_law 1499 = .ok (.iload 4, 2) := by decide +kernel
theorem dL_law_1501 : decode cL_law 1501 = .ok (.iconst 2, 1) := by decide +kernel
theorem dL_law_1502 : decode cL_law 1502 = .ok (.iadd, 1) := by decide +kernel
theorem dL_law_1503 : decode cL_law 1503 = .ok (.iaload, 1) := by decide +kernel
theorem dL_law_1504 : decode cL_law 1504 = .ok (.invokevirtual 193, 3) := by decide +kernel
theorem dL_law_1507 : decode cL_law 1507 = .ok (.istore 6, 2) := by decide +kernel
theorem dL_law_1509 : decode cL_law 1509 = .ok (.aload_n 2, 1) := by decide +kernel
theorem dL_law_1510 : decode cL_law 1510 = .ok (.invokevirtual 121, 3) := by decide +kernel
theorem dL_law_1513 : decode cL_law 1513 = .ok (.iload 5, 2) := by decide +kernel
theorem dL_law_1515 : decode cL_law 1515 = .ok (.if_icmp .eq 5, 3) := by decide +kernel
theorem dL_law_1518 : decode cL_law 1518 = .ok (.iconst 0, 1) := by decide +kernel
theorem dL_law_1519 : decode cL_law 1519 = .ok (.ireturn, 1) := by decide +kernel
theorem dL_law_1520 : decode cL_law 1520 = .ok (.iload 5, 2) := by decide +kernel
theorem dL_law_1522 : decode cL_law 1522 = .ok (.ifCond .ne 15, 3) := by decide +kernel
theorem dL_law_1525 : decode cL_law 1525 = .ok (.aload_n 3, 1) := by decide +kernel
theorem dL_law_1526 : decode cL_law 1526 = .ok (.iconst 0, 1) := by decide +kernel
theorem dL_law_1527 : decode cL_law 1527 = .ok (.laload, 1) := by decide +kernel
theorem dL_law_1528 : decode cL_law 1528 = .ok (.iload 6, 2) := by decide +kernel
theorem dL_law_1530 : decode cL_law 1530 = .ok (.i2l, 1) := by decide +kernel
theorem dL_law_1531 : decode cL_law 1531 = .ok (.lcmp, 1) := by decide +kernel
theorem dL_law_1532 : decode cL_law 1532 = .ok (.ifCond .eq 5, 3) := by decide +kernel
theorem dL_law_1535 : decode cL_law 1535 = .ok (.iconst 0, 1) := by decide +kernel
theorem dL_law_1536 : decode cL_law 1536 = .ok (.ireturn, 1) := by decide +kernel
theorem dL_law_1537 : decode cL_law 1537 = .ok (.goto 476, 3) := by decide +kernel
theorem dL_law_1540 : decode cL_law 1540 = .ok (.aload_n 1, 1) := by decide +kernel
theorem dL_law_1541 : decode cL_law 1541 = .ok (.aload_n 0, 1) := by decide +kernel
theorem dL_law_1542 : decode cL_law 1542 = .ok (.iload 4, 2) := by decide +kernel
theorem dL_law_1544 : decode cL_law 1544 = .ok (.iconst 1, 1) := by decide +kernel
theorem dL_law_1545 : decode cL_law 1545 = .ok (.iadd, 1) := by decide +kernel
theorem dL_law_1546 : decode cL_law 1546 = .ok (.iaload, 1) := by decide +kernel
theorem dL_law_1547 : decode cL_law 1547 = .ok (.aload_n 3, 1) := by decide +kernel
theorem dL_law_1548 : decode cL_law 1548 = .ok (.invokestatic 194, 3) := by decide +kernel
theorem dL_law_1551 : decode cL_law 1551 = .ok (.istore 5, 2) := by decide +kernel
theorem dL_law_1553 : decode cL_law 1553 = .ok (.aload_n 2, 1) := by decide +kernel
theorem dL_law_1554 : decode cL_law 1554 = .ok (.aload_n 0, 1) := by decide +kernel
theorem dL_law_1555 : decode cL_law 1555 = .ok (.iload 4, 2) := by decide +kernel
theorem dL_law_1557 : decode cL_law 1557 = .ok (.iconst 1, 1) := by decide +kernel
theorem dL_law_1558 : decode cL_law 1558 = .ok (.iadd, 1) := by decide +kernel
theorem dL_law_1559 : decode cL_law 1559 = .ok (.iaload, 1) := by decide +kernel
theorem dL_law_1560 : decode cL_law 1560 = .ok (.invokevirtual 196, 3) := by decide +kernel
theorem dL_law_1563 : decode cL_law 1563 = .ok (.istore 6, 2) := by decide +kernel
theorem dL_law_1565 : decode cL_law 1565 = .ok (.aload_n 2, 1) := by decide +kernel
theorem dL_law_1566 : decode cL_law 1566 = .ok (.invokevirtual 121, 3) := by decide +kernel
theorem dL_law_1569 : decode cL_law 1569 = .ok (.iload 5, 2) := by decide +kernel
theorem dL_law_1571 : decode cL_law 1571 = .ok (.if_icmp .eq 5, 3) := by decide +kernel
theorem dL_law_1574 : decode cL_law 1574 = .ok (.iconst 0, 1) := by decide +kernel
theorem dL_law_1575 : decode cL_law 1575 = .ok (.ireturn, 1) := by decide +kernel
theorem dL_law_1576 : decode cL_law 1576 = .ok (.iload 5, 2) := by decide +kernel
theorem dL_law_1578 : decode cL_law 1578 = .ok (.ifCond .ne 15, 3) := by decide +kernel
theorem dL_law_1581 : decode cL_law 1581 = .ok (.aload_n 3, 1) := by decide +kernel
theorem dL_law_1582 : decode cL_law 1582 = .ok (.iconst 0, 1) := by decide +kernel
theorem dL_law_1583 : decode cL_law 1583 = .ok (.laload, 1) := by decide +kernel
theorem dL_law_1584 : decode cL_law 1584 = .ok (.iload 6, 2) := by decide +kernel
theorem dL_law_1586 : decode cL_law 1586 = .ok (.i2l, 1) := by decide +kernel
theorem dL_law_1587 : decode cL_law 1587 = .ok (.lcmp, 1) := by decide +kernel
theorem dL_law_1588 : decode cL_law 1588 = .ok (.ifCond .eq 5, 3) := by decide +kernel
theorem dL_law_1591 : decode cL_law 1591 = .ok (.iconst 0, 1) := by decide +kernel
theorem dL_law_1592 : decode cL_law 1592 = .ok (.ireturn, 1) := by decide +kernel
theorem dL_law_1593 : decode cL_law 1593 = .ok (.goto 420, 3) := by decide +kernel
theorem dL_law_1596 : decode cL_law 1596 = .ok (.aload_n 1, 1) := by decide +kernel
theorem dL_law_1597 : decode cL_law 1597 = .ok (.aload_n 0, 1) := by decide +kernel
theorem dL_law_1598 : decode cL_law 1598 = .ok (.iload 4, 2) := by decide +kernel
theorem dL_law_1600 : decode cL_law 1600 = .ok (.iconst 1, 1) := by decide +kernel
theorem dL_law_1601 : decode cL_law 1601 = .ok (.iadd, 1) := by decide +kernel
theorem dL_law_1602 : decode cL_law 1602 = .ok (.iaload, 1) := by decide +kernel
theorem dL_law_1603 : decode cL_law 1603 = .ok (.aload_n 0, 1) := by decide +kernel
theorem dL_law_1604 : decode cL_law 1604 = .ok (.iload 4, 2) := by decide +kernel
theorem dL_law_1606 : decode cL_law 1606 = .ok (.iconst 2, 1) := by decide +kernel
theorem dL_law_1607 : decode cL_law 1607 = .ok (.iadd, 1) := by decide +kernel
theorem dL_law_1608 : decode cL_law 1608 = .ok (.iaload, 1) := by decide +kernel
theorem dL_law_1609 : decode cL_law 1609 = .ok (.aload_n 3, 1) := by decide +kernel
theorem dL_law_1610 : decode cL_law 1610 = .ok (.invokestatic 197, 3) := by decide +kernel
theorem dL_law_1613 : decode cL_law 1613 = .ok (.istore 5, 2) := by decide +kernel
theorem dL_law_1615 : decode cL_law 1615 = .ok (.aload_n 2, 1) := by decide +kernel
theorem dL_law_1616 : decode cL_law 1616 = .ok (.aload_n 0, 1) := by decide +kernel
theorem dL_law_1617 : decode cL_law 1617 = .ok (.iload 4, 2) := by decide +kernel
theorem dL_law_1619 : decode cL_law 1619 = .ok (.iconst 1, 1) := by decide +kernel
theorem dL_law_1620 : decode cL_law 1620 = .ok (.iadd, 1) := by decide +kernel
theorem dL_law_1621 : decode cL_law 1621 = .ok (.iaload, 1) := by decide +kernel
theorem dL_law_1622 : decode cL_law 1622 = .ok (.aload_n 0, 1) := by decide +kernel
theorem dL_law_1623 : decode cL_law 1623 = .ok (.iload 4, 2) := by decide +kernel
theorem dL_law_1625 : decode cL_law 1625 = .ok (.iconst 2, 1) := by decide +kernel
theorem dL_law_1626 : decode cL_law 1626 = .ok (.iadd, 1) := by decide +kernel
theorem dL_law_1627 : decode cL_law 1627 = .ok (.iaload, 1) := by decide +kernel
theorem dL_law_1628 : decode cL_law 1628 = .ok (.invokevirtual 199, 3) := by decide +kernel
theorem dL_law_1631 : decode cL_law 1631 = .ok (.istore 6, 2) := by decide +kernel
theorem dL_law_1633 : decode cL_law 1633 = .ok (.aload_n 2, 1) := by decide +kernel
theorem dL_law_1634 : decode cL_law 1634 = .ok (.invokevirtual 121, 3) := by decide +kernel
theorem dL_law_1637 : decode cL_law 1637 = .ok (.iload 5, 2) := by decide +kernel
theorem dL_law_1639 : decode cL_law 1639 = .ok (.if_icmp .eq 5, 3) := by decide +kernel
theorem dL_law_1642 : decode cL_law 1642 = .ok (.iconst 0, 1) := by decide +kernel
theorem dL_law_1643 : decode cL_law 1643 = .ok (.ireturn, 1) := by decide +kernel
theorem dL_law_1644 : decode cL_law 1644 = .ok (.iload 5, 2) := by decide +kernel
theorem dL_law_1646 : decode cL_law 1646 = .ok (.ifCond .ne 15, 3) := by decide +kernel
theorem dL_law_1649 : decode cL_law 1649 = .ok (.aload_n 3, 1) := by decide +kernel
theorem dL_law_1650 : decode cL_law 1650 = .ok (.iconst 0, 1) := by decide +kernel
theorem dL_law_1651 : decode cL_law 1651 = .ok (.laload, 1) := by decide +kernel
theorem dL_law_1652 : decode cL_law 1652 = .ok (.iload 6, 2) := by decide +kernel
theorem dL_law_1654 : decode cL_law 1654 = .ok (.i2l, 1) := by decide +kernel
theorem dL_law_1655 : decode cL_law 1655 = .ok (.lcmp, 1) := by decide +kernel
theorem dL_law_1656 : decode cL_law 1656 = .ok (.ifCond .eq 5, 3) := by decide +kernel
theorem dL_law_1659 : decode cL_law 1659 = .ok (.iconst 0, 1) := by decide +kernel
theorem dL_law_1660 : decode cL_law 1660 = .ok (.ireturn, 1) := by decide +kernel
theorem dL_law_1661 : decode cL_law 1661 = .ok (.goto 352, 3) := by decide +kernel
theorem dL_law_1664 : decode cL_law 1664 = .ok (.aload_n 1, 1) := by decide +kernel
theorem dL_law_1665 : decode cL_law 1665 = .ok (.aload_n 0, 1) := by decide +kernel
theorem dL_law_1666 : decode cL_law 1666 = .ok (.iload 4, 2) := by decide +kernel
theorem dL_law_1668 : decode cL_law 1668 = .ok (.iconst 1, 1) := by decide +kernel
theorem dL_law_1669 : decode cL_law 1669 = .ok (.iadd, 1) := by decide +kernel
theorem dL_law_1670 : decode cL_law 1670 = .ok (.iaload, 1) := by decide +kernel
theorem dL_law_1671 : decode cL_law 1671 = .ok (.aload_n 0, 1) := by decide +kernel
theorem dL_law_1672 : decode cL_law 1672 = .ok (.iload 4, 2) := by decide +kernel
theorem dL_law_1674 : decode cL_law 1674 = .ok (.iconst 2, 1) := by decide +kernel
theorem dL_law_1675 : decode cL_law 1675 = .ok (.iadd, 1) := by decide +kernel
theorem dL_law_1676 : decode cL_law 1676 = .ok (.iaload, 1) := by decide +kernel
theorem dL_law_1677 : decode cL_law 1677 = .ok (.aload_n 0, 1) := by decide +kernel
theorem dL_law_1678 : decode cL_law 1678 = .ok (.iload 4, 2) := by decide +kernel
theorem dL_law_1680 : decode cL_law 1680 = .ok (.iconst 3, 1) := by decide +kernel
theorem dL_law_1681 : decode cL_law 1681 = .ok (.iadd, 1) := by decide +kernel
theorem dL_law_1682 : decode cL_law 1682 = .ok (.iaload, 1) := by decide +kernel
theorem dL_law_1683 : decode cL_law 1683 = .ok (.aload_n 3, 1) := by decide +kernel
theorem dL_law_1684 : decode cL_law 1684 = .ok (.invokestatic 200, 3) := by decide +kernel
theorem dL_law_1687 : decode cL_law 1687 = .ok (.istore 5, 2) := by decide +kernel
theorem dL_law_1689 : decode cL_law 1689 = .ok (.aload_n 2, 1) := by decide +kernel
theorem dL_law_1690 : decode cL_law 1690 = .ok (.aload_n 0, 1) := by decide +kernel
theorem dL_law_1691 : decode cL_law 1691 = .ok (.iload 4, 2) := by decide +kernel
theorem dL_law_1693 : decode cL_law 1693 = .ok (.iconst 1, 1) := by decide +kernel
theorem dL_law_1694 : decode cL_law 1694 = .ok (.iadd, 1) := by decide +kernel
theorem dL_law_1695 : decode cL_law 1695 = .ok (.iaload, 1) := by decide +kernel
theorem dL_law_1696 : decode cL_law 1696 = .ok (.aload_n 0, 1) := by decide +kernel
theorem dL_law_1697 : decode cL_law 1697 = .ok (.iload 4, 2) := by decide +kernel
theorem dL_law_1699 : decode cL_law 1699 = .ok (.iconst 2, 1) := by decide +kernel
theorem dL_law_1700 : decode cL_law 1700 = .ok (.iadd, 1) := by decide +kernel
theorem dL_law_1701 : decode cL_law 1701 = .ok (.iaload, 1) := by decide +kernel
theorem dL_law_1702 : decode cL_law 1702 = .ok (.aload_n 0, 1) := by decide +kernel
theorem dL_law_1703 : decode cL_law 1703 = .ok (.iload 4, 2) := by decide +kernel
theorem dL_law_1705 : decode cL_law 1705 = .ok (.iconst 3, 1) := by decide +kernel
theorem dL_law_1706 : decode cL_law 1706 = .ok (.iadd, 1) := by decide +kernel
theorem dL_law_1707 : decode cL_law 1707 = .ok (.iaload, 1) := by decide +kernel
theorem dL_law_1708 : decode cL_law 1708 = .ok (.invokevirtual 202, 3) := by decide +kernel
theorem dL_law_1711 : decode cL_law 1711 = .ok (.istore 6, 2) := by decide +kernel
theorem dL_law_1713 : decode cL_law 1713 = .ok (.aload_n 2, 1) := by decide +kernel
theorem dL_law_1714 : decode cL_law 1714 = .ok (.invokevirtual 121, 3) := by decide +kernel
theorem dL_law_1717 : decode cL_law 1717 = .ok (.iload 5, 2) := by decide +kernel
theorem dL_law_1719 : decode cL_law 1719 = .ok (.if_icmp .eq 5, 3) := by decide +kernel
theorem dL_law_1722 : decode cL_law 1722 = .ok (.iconst 0, 1) := by decide +kernel
theorem dL_law_1723 : decode cL_law 1723 = .ok (.ireturn, 1) := by decide +kernel
theorem dL_law_1724 : decode cL_law 1724 = .ok (.iload 5, 2) := by decide +kernel
theorem dL_law_1726 : decode cL_law 1726 = .ok (.ifCond .ne 15, 3) := by decide +kernel
theorem dL_law_1729 : decode cL_law 1729 = .ok (.aload_n 3, 1) := by decide +kernel
theorem dL_law_1730 : decode cL_law 1730 = .ok (.iconst 0, 1) := by decide +kernel
theorem dL_law_1731 : decode cL_law 1731 = .ok (.laload, 1) := by decide +kernel
theorem dL_law_1732 : decode cL_law 1732 = .ok (.iload 6, 2) := by decide +kernel
theorem dL_law_1734 : decode cL_law 1734 = .ok (.i2l, 1) := by decide +kernel
theorem dL_law_1735 : decode cL_law 1735 = .ok (.lcmp, 1) := by decide +kernel
theorem dL_law_1736 : decode cL_law 1736 = .ok (.ifCond .eq 5, 3) := by decide +kernel
theorem dL_law_1739 : decode cL_law 1739 = .ok (.iconst 0, 1) := by decide +kernel
theorem dL_law_1740 : decode cL_law 1740 = .ok (.ireturn, 1) := by decide +kernel
theorem dL_law_1741 : decode cL_law 1741 = .ok (.goto 272, 3) := by decide +kernel
theorem dL_law_1744 : decode cL_law 1744 = .ok (.aload_n 1, 1) := by decide +kernel
theorem dL_law_1745 : decode cL_law 1745 = .ok (.aload_n 0, 1) := by decide +kernel
theorem dL_law_1746 : decode cL_law 1746 = .ok (.iload 4, 2) := by decide +kernel
theorem dL_law_1748 : decode cL_law 1748 = .ok (.iconst 1, 1) := by decide +kernel
theorem dL_law_1749 : decode cL_law 1749 = .ok (.iadd, 1) := by decide +kernel
theorem dL_law_1750 : decode cL_law 1750 = .ok (.iaload, 1) := by decide +kernel
theorem dL_law_1751 : decode cL_law 1751 = .ok (.aload_n 3, 1) := by decide +kernel
theorem dL_law_1752 : decode cL_law 1752 = .ok (.invokestatic 203, 3) := by decide +kernel
theorem dL_law_1755 : decode cL_law 1755 = .ok (.istore 5, 2) := by decide +kernel
theorem dL_law_1757 : decode cL_law 1757 = .ok (.aload_n 2, 1) := by decide +kernel
theorem dL_law_1758 : decode cL_law 1758 = .ok (.aload_n 0, 1) := by decide +kernel
theorem dL_law_1759 : decode cL_law 1759 = .ok (.iload 4, 2) := by decide +kernel
theorem dL_law_1761 : decode cL_law 1761 = .ok (.iconst 1, 1) := by decide +kernel
theorem dL_law_1762 : decode cL_law 1762 = .ok (.iadd, 1) := by decide +kernel
theorem dL_law_1763 : decode cL_law 1763 = .ok (.iaload, 1) := by decide +kernel
theorem dL_law_1764 : decode cL_law 1764 = .ok (.invokevirtual 205, 3) := by decide +kernel
theorem dL_law_1767 : decode cL_law 1767 = .ok (.istore 6, 2) := by decide +kernel
theorem dL_law_1769 : decode cL_law 1769 = .ok (.aload_n 2, 1) := by decide +kernel
theorem dL_law_1770 : decode cL_law 1770 = .ok (.invokevirtual 121, 3) := by decide +kernel
theorem dL_law_1773 : decode cL_law 1773 = .ok (.iload 5, 2) := by decide +kernel
theorem dL_law_1775 : decode cL_law 1775 = .ok (.if_icmp .eq 5, 3) := by decide +kernel
theorem dL_law_1778 : decode cL_law 1778 = .ok (.iconst 0, 1) := by decide +kernel
theorem dL_law_1779 : decode cL_law 1779 = .ok (.ireturn, 1) := by decide +kernel
theorem dL_law_1780 : decode cL_law 1780 = .ok (.iload 5, 2) := by decide +kernel
theorem dL_law_1782 : decode cL_law 1782 = .ok (.ifCond .ne 15, 3) := by decide +kernel
theorem dL_law_1785 : decode cL_law 1785 = .ok (.aload_n 3, 1) := by decide +kernel
theorem dL_law_1786 : decode cL_law 1786 = .ok (.iconst 0, 1) := by decide +kernel
theorem dL_law_1787 : decode cL_law 1787 = .ok (.laload, 1) := by decide +kernel
theorem dL_law_1788 : decode cL_law 1788 = .ok (.iload 6, 2) := by decide +kernel
theorem dL_law_1790 : decode cL_law 1790 = .ok (.i2l, 1) := by decide +kernel
theorem dL_law_1791 : decode cL_law 1791 = .ok (.lcmp, 1) := by decide +kernel
theorem dL_law_1792 : decode cL_law 1792 = .ok (.ifCond .eq 5, 3) := by decide +kernel
theorem dL_law_1795 : decode cL_law 1795 = .ok (.iconst 0, 1) := by decide +kernel
theorem dL_law_1796 : decode cL_law 1796 = .ok (.ireturn, 1) := by decide +kernel
theorem dL_law_1797 : decode cL_law 1797 = .ok (.goto 216, 3) := by decide +kernel
theorem dL_law_1800 : decode cL_law 1800 = .ok (.aload_n 1, 1) := by decide +kernel
theorem dL_law_1801 : decode cL_law 1801 = .ok (.aload_n 0, 1) := by decide +kernel
theorem dL_law_1802 : decode cL_law 1802 = .ok (.iload 4, 2) := by decide +kernel
theorem dL_law_1804 : decode cL_law 1804 = .ok (.iconst 1, 1) := by decide +kernel
theorem dL_law_1805 : decode cL_law 1805 = .ok (.iadd, 1) := by decide +kernel
theorem dL_law_1806 : decode cL_law 1806 = .ok (.iaload, 1) := by decide +kernel
theorem dL_law_1807 : decode cL_law 1807 = .ok (.aload_n 3, 1) := by decide +kernel
theorem dL_law_1808 : decode cL_law 1808 = .ok (.invokestatic 206, 3) := by decide +kernel
theorem dL_law_1811 : decode cL_law 1811 = .ok (.istore 5, 2) := by decide +kernel
theorem dL_law_1813 : decode cL_law 1813 = .ok (.aload_n 2, 1) := by decide +kernel
theorem dL_law_1814 : decode cL_law 1814 = .ok (.aload_n 0, 1) := by decide +kernel
theorem dL_law_1815 : decode cL_law 1815 = .ok (.iload 4, 2) := by decide +kernel
theorem dL_law_1817 : decode cL_law 1817 = .ok (.iconst 1, 1) := by decide +kernel
theorem dL_law_1818 : decode cL_law 1818 = .ok (.iadd, 1) := by decide +kernel
theorem dL_law_1819 : decode cL_law 1819 = .ok (.iaload, 1) := by decide +kernel
theorem dL_law_1820 : decode cL_law 1820 = .ok (.invokevirtual 208, 3) := by decide +kernel
theorem dL_law_1823 : decode cL_law 1823 = .ok (.istore 6, 2) := by decide +kernel
theorem dL_law_1825 : decode cL_law 1825 = .ok (.aload_n 2, 1) := by decide +kernel
theorem dL_law_1826 : decode cL_law 1826 = .ok (.invokevirtual 121, 3) := by decide +kernel
theorem dL_law_1829 : decode cL_law 1829 = .ok (.iload 5, 2) := by decide +kernel
theorem dL_law_1831 : decode cL_law 1831 = .ok (.if_icmp .eq 5, 3) := by decide +kernel
theorem dL_law_1834 : decode cL_law 1834 = .ok (.iconst 0, 1) := by decide +kernel
theorem dL_law_1835 : decode cL_law 1835 = .ok (.ireturn, 1) := by decide +kernel
theorem dL_law_1836 : decode cL_law 1836 = .ok (.iload 5, 2) := by decide +kernel
theorem dL_law_1838 : decode cL_law 1838 = .ok (.ifCond .ne 15, 3) := by decide +kernel
theorem dL_law_1841 : decode cL_law 1841 = .ok (.aload_n 3, 1) := by decide +kernel
theorem dL_law_1842 : decode cL_law 1842 = .ok (.iconst 0, 1) := by decide +kernel
theorem dL_law_1843 : decode cL_law 1843 = .ok (.laload, 1) := by decide +kernel
theorem dL_law_1844 : decode cL_law 1844 = .ok (.iload 6, 2) := by decide +kernel
theorem dL_law_1846 : decode cL_law 1846 = .ok (.i2l, 1) := by decide +kernel
theorem dL_law_1847 : decode cL_law 1847 = .ok (.lcmp, 1) := by decide +kernel
theorem dL_law_1848 : decode cL_law 1848 = .ok (.ifCond .eq 5, 3) := by decide +kernel
theorem dL_law_1851 : decode cL_law 1851 = .ok (.iconst 0, 1) := by decide +kernel
theorem dL_law_1852 : decode cL_law 1852 = .ok (.ireturn, 1) := by decide +kernel
theorem dL_law_1853 : decode cL_law 1853 = .ok (.goto 160, 3) := by decide +kernel
theorem dL_law_1856 : decode cL_law 1856 = .ok (.aload_n 1, 1) := by decide +kernel
theorem dL_law_1857 : decode cL_law 1857 = .ok (.aload_n 0, 1) := by decide +kernel
theorem dL_law_1858 : decode cL_law 1858 = .ok (.iload 4, 2) := by decide +kernel
theorem dL_law_1860 : decode cL_law 1860 = .ok (.iconst 1, 1) := by decide +kernel
theorem dL_law_1861 : decode cL_law 1861 = .ok (.iadd, 1) := by decide +kernel
theorem dL_law_1862 : decode cL_law 1862 = .ok (.iaload, 1) := by decide +kernel
theorem dL_law_1863 : decode cL_law 1863 = .ok (.aload_n 3, 1) := by decide +kernel
theorem dL_law_1864 : decode cL_law 1864 = .ok (.invokestatic 209, 3) := by decide +kernel
theorem dL_law_1867 : decode cL_law 1867 = .ok (.istore 5, 2) := by decide +kernel
theorem dL_law_1869 : decode cL_law 1869 = .ok (.aload_n 2, 1) := by decide +kernel
theorem dL_law_1870 : decode cL_law 1870 = .ok (.aload_n 0, 1) := by decide +kernel
theorem dL_law_1871 : decode cL_law 1871 = .ok (.iload 4, 2) := by decide +kernel
theorem dL_law_1873 : decode cL_law 1873 = .ok (.iconst 1, 1) := by decide +kernel
theorem dL_law_1874 : decode cL_law 1874 = .ok (.iadd, 1) := by decide +kernel
theorem dL_law_1875 : decode cL_law 1875 = .ok (.iaload, 1) := by decide +kernel
theorem dL_law_1876 : decode cL_law 1876 = .ok (.invokevirtual 211, 3) := by decide +kernel
theorem dL_law_1879 : decode cL_law 1879 = .ok (.istore 6, 2) := by decide +kernel
theorem dL_law_1881 : decode cL_law 1881 = .ok (.aload_n 2, 1) := by decide +kernel
theorem dL_law_1882 : decode cL_law 1882 = .ok (.invokevirtual 121, 3) := by decide +kernel
theorem dL_law_1885 : decode cL_law 1885 = .ok (.iload 5, 2) := by decide +kernel
theorem dL_law_1887 : decode cL_law 1887 = .ok (.if_icmp .eq 5, 3) := by decide +kernel
theorem dL_law_1890 : decode cL_law 1890 = .ok (.iconst 0, 1) := by decide +kernel
theorem dL_law_1891 : decode cL_law 1891 = .ok (.ireturn, 1) := by decide +kernel
theorem dL_law_1892 : decode cL_law 1892 = .ok (.iload 5, 2) := by decide +kernel
theorem dL_law_1894 : decode cL_law 1894 = .ok (.ifCond .ne 22, 3) := by decide +kernel
theorem dL_law_1897 : decode cL_law 1897 = .ok (.aload_n 3, 1) := by decide +kernel
theorem dL_law_1898 : decode cL_law 1898 = .ok (.iconst 0, 1) := by decide +kernel
theorem dL_law_1899 : decode cL_law 1899 = .ok (.laload, 1) := by decide +kernel
theorem dL_law_1900 : decode cL_law 1900 = .ok (.iload 6, 2) := by decide +kernel
theorem dL_law_1902 : decode cL_law 1902 = .ok (.ifCond .eq 7, 3) := by decide +kernel
theorem dL_law_1905 : decode cL_law 1905 = .ok (.lconst 1, 1) := by decide +kernel
theorem dL_law_1906 : decode cL_law 1906 = .ok (.goto 4, 3) := by decide +kernel
theorem dL_law_1909 : decode cL_law 1909 = .ok (.lconst 0, 1) := by decide +kernel
theorem dL_law_1910 : decode cL_law 1910 = .ok (.lcmp, 1) := by decide +kernel
theorem dL_law_1911 : decode cL_law 1911 = .ok (.ifCond .eq 5, 3) := by decide +kernel
theorem dL_law_1914 : decode cL_law 1914 = .ok (.iconst 0, 1) := by decide +kernel
theorem dL_law_1915 : decode cL_law 1915 = .ok (.ireturn, 1) := by decide +kernel
theorem dL_law_1916 : decode cL_law 1916 = .ok (.goto 97, 3) := by decide +kernel
theorem dL_law_1919 : decode cL_law 1919 = .ok (.aload_n 1, 1) := by decide +kernel
theorem dL_law_1920 : decode cL_law 1920 = .ok (.invokevirtual 212, 3) := by decide +kernel
theorem dL_law_1923 : decode cL_law 1923 = .ok (.aload_n 2, 1) := by decide +kernel
theorem dL_law_1924 : decode cL_law 1924 = .ok (.invokevirtual 215, 3) := by decide +kernel
theorem dL_law_1927 : decode cL_law 1927 = .ok (.if_icmp .eq 86, 3) := by decide +kernel
theorem dL_law_1930 : decode cL_law 1930 = .ok (.iconst 0, 1) := by decide +kernel
theorem dL_law_1931 : decode cL_law 1931 = .ok (.ireturn, 1) := by decide +kernel
theorem dL_law_1932 : decode cL_law 1932 = .ok (.aload_n 1, 1) := by decide +kernel
theorem dL_law_1933 : decode cL_law 1933 = .ok (.invokevirtual 216, 3) := by decide +kernel
theorem dL_law_1936 : decode cL_law 1936 = .ok (.aload_n 2, 1) := by decide +kernel
theorem dL_law_1937 : decode cL_law 1937 = .ok (.invokevirtual 219, 3) := by decide +kernel
theorem dL_law_1940 : decode cL_law 1940 = .ok (.if_icmp .eq 73, 3) := by decide +kernel
theorem dL_law_1943 : decode cL_law 1943 = .ok (.iconst 0, 1) := by decide +kernel
theorem dL_law_1944 : decode cL_law 1944 = .ok (.ireturn, 1) := by decide +kernel
theorem dL_law_1945 : decode cL_law 1945 = .ok (.aload_n 1, 1) := by decide +kernel
theorem dL_law_1946 : decode cL_law 1946 = .ok (.aload_n 0, 1) := by decide +kernel
theorem dL_law_1947 : decode cL_law 1947 = .ok (.iload 4, 2) := by decide +kernel
theorem dL_law_1949 : decode cL_law 1949 = .ok (.iconst 1, 1) := by decide +kernel
theorem dL_law_1950 : decode cL_law 1950 = .ok (.iadd, 1) := by decide +kernel
theorem dL_law_1951 : decode cL_law 1951 = .ok (.iaload, 1) := by decide +kernel
theorem dL_law_1952 : decode cL_law 1952 = .ok (.aload_n 0, 1) := by decide +kernel
theorem dL_law_1953 : decode cL_law 1953 = .ok (.iload 4, 2) := by decide +kernel
theorem dL_law_1955 : decode cL_law 1955 = .ok (.iconst 2, 1) := by decide +kernel
theorem dL_law_1956 : decode cL_law 1956 = .ok (.iadd, 1) := by decide +kernel
theorem dL_law_1957 : decode cL_law 1957 = .ok (.iaload, 1) := by decide +kernel
theorem dL_law_1958 : decode cL_law 1958 = .ok (.aload_n 3, 1) := by decide +kernel
theorem dL_law_1959 : decode cL_law 1959 = .ok (.invokestatic 220, 3) := by decide +kernel
theorem dL_law_1962 : decode cL_law 1962 = .ok (.istore 5, 2) := by decide +kernel
theorem dL_law_1964 : decode cL_law 1964 = .ok (.aload_n 2, 1) := by decide +kernel
theorem dL_law_1965 : decode cL_law 1965 = .ok (.aload_n 0, 1) := by decide +kernel
theorem dL_law_1966 : decode cL_law 1966 = .ok (.iload 4, 2) := by decide +kernel
theorem dL_law_1968 : decode cL_law 1968 = .ok (.iconst 1, 1) := by decide +kernel
theorem dL_law_1969 : decode cL_law 1969 = .ok (.iadd, 1) := by decide +kernel
theorem dL_law_1970 : decode cL_law 1970 = .ok (.iaload, 1) := by decide +kernel
theorem dL_law_1971 : decode cL_law 1971 = .ok (.aload_n 0, 1) := by decide +kernel
theorem dL_law_1972 : decode cL_law 1972 = .ok (.iload 4, 2) := by decide +kernel
theorem dL_law_1974 : decode cL_law 1974 = .ok (.iconst 2, 1) := by decide +kernel
theorem dL_law_1975 : decode cL_law 1975 = .ok (.iadd, 1) := by decide +kernel
theorem dL_law_1976 : decode cL_law 1976 = .ok (.iaload, 1) := by decide +kernel
theorem dL_law_1977 : decode cL_law 1977 = .ok (.invokevirtual 222, 3) := by decide +kernel
theorem dL_law_1980 : decode cL_law 1980 = .ok (.istore 6, 2) := by decide +kernel
theorem dL_law_1982 : decode cL_law 1982 = .ok (.aload_n 2, 1) := by decide +kernel
theorem dL_law_1983 : decode cL_law 1983 = .ok (.invokevirtual 121, 3) := by decide +kernel
theorem dL_law_1986 : decode cL_law 1986 = .ok (.iload 5, 2) := by decide +kernel
theorem dL_law_1988 : decode cL_law 1988 = .ok (.if_icmp .eq 5, 3) := by decide +kernel
theorem dL_law_1991 : decode cL_law 1991 = .ok (.iconst 0, 1) := by decide +kernel
theorem dL_law_1992 : decode cL_law 1992 = .ok (.ireturn, 1) := by decide +kernel
theorem dL_law_1993 : decode cL_law 1993 = .ok (.iload 5, 2) := by decide +kernel
theorem dL_law_1995 : decode cL_law 1995 = .ok (.ifCond .ne 15, 3) := by decide +kernel
theorem dL_law_1998 : decode cL_law 1998 = .ok (.aload_n 3, 1) := by decide +kernel
theorem dL_law_1999 : decode cL_law 1999 = .ok (.iconst 0, 1) := by decide +kernel
theorem dL_law_2000 : decode cL_law 2000 = .ok (.laload, 1) := by decide +kernel
theorem dL_law_2001 : decode cL_law 2001 = .ok (.iload 6, 2) := by decide +kernel
theorem dL_law_2003 : decode cL_law 2003 = .ok (.i2l, 1) := by decide +kernel
theorem dL_law_2004 : decode cL_law 2004 = .ok (.lcmp, 1) := by decide +kernel
theorem dL_law_2005 : decode cL_law 2005 = .ok (.ifCond .eq 5, 3) := by decide +kernel
theorem dL_law_2008 : decode cL_law 2008 = .ok (.iconst 0, 1) := by decide +kernel
theorem dL_law_2009 : decode cL_law 2009 = .ok (.ireturn, 1) := by decide +kernel
theorem dL_law_2010 : decode cL_law 2010 = .ok (.goto 3, 3) := by decide +kernel
theorem dL_law_2013 : decode cL_law 2013 = .ok (.iinc 4 5, 3) := by decide +kernel
theorem dL_law_2016 : decode cL_law 2016 = .ok (.goto (-1993), 3) := by decide +kernel
theorem dL_law_2019 : decode cL_law 2019 = .ok (.iconst 1, 1) := by decide +kernel
theorem dL_law_2020 : decode cL_law 2020 = .ok (.ireturn, 1) := by decide +kernel
end
section
def ww_str : List (String × Nat × String) := [("WheelWorks", 339, "no such kind"), ("WheelWorks", 47, "melt or mod out of range"), ("WheelWorks", 58, "no more parts"), ("WheelWorks", 71, "life, interval or window out of range"), ("WheelWorks", 341, "no such part"), ("WheelWorks", 94, "no place for such a part"), ("WheelWorks", 104, "the part cannot be fitted"), ("WheelWorks", 116, "the host cannot be fitted to"), ("WheelWorks", 127, "the mods are too far apart"), ("WheelWorks", 147, "in no host, or bound"), ("WheelWorks", 152, "not in the store, or not empty"), ("WheelWorks", 158, "bound, or waits for the night"), ("WheelWorks", 343, "no train"), ("WheelWorks", 337, "kilometres or season out of range"), ("WheelWorks", 166, "not released, or bound"), ("WheelWorks", 188, "no bogie"), ("WheelWorks", 194, "not both wheelsets, or bound"), ("WheelWorks", 349, "no wheelset"), ("WheelWorks", 211, "error out of range"), ("WheelWorks", 222, "no examination is possible"), ("WheelWorks", 230, "kilometres out of range"), ("WheelWorks", 236, "nothing can be waived"), ("WheelWorks", 238, "neither wheelset nor motor"), ("WheelWorks", 240, "size out of range"), ("WheelWorks", 246, "cannot be looked at"), ("WheelWorks", 251, "not quarantined, or bound"), ("WheelWorks", 253, "melt out of range"), ("WheelWorks", 261, "time out of range"), ("WheelWorks", 270, "no room to wait, or waits"), ("WheelWorks", 272, "stands on a road, or is scrapped"), ("WheelWorks", 283, "none waits, or one stands on a road"), ("WheelWorks", 288, "none stands on a road"), ("WheelWorks", 299, "no such thing to tell of a part"), ("WheelWorks", 307, "no such move"), ("WheelWorks", 318, "no such thing to tell of a wheelset"), ("WheelWorks", 332, "no such road or place")]
def ww_ca : List (String × String) := [("java/lang/IllegalArgumentException", "java/lang/IllegalArgumentException"), ("java/lang/IllegalStateException", "java/lang/IllegalStateException"), ("java/lang/IndexOutOfBoundsException", "java/lang/IndexOutOfBoundsException"), ("WheelWorks$KindLimits", "java/lang/Object"), ("WheelWorks", "java/lang/Object"), ("java/util/ArrayList", "java/lang/Object"), ("WheelWorks$Log", "java/lang/Object"), ("WheelWorks$Yard", "java/lang/Object"), ("WheelWorksModel", "java/lang/Object"), ("java/lang/IllegalArgumentException", "java/lang/Object"), ("java/lang/IllegalStateException", "java/lang/Object"), ("WheelWorks$Part", "java/lang/Object"), ("WheelWorks$Wheel", "java/lang/Object"), ("java/lang/IndexOutOfBoundsException", "java/lang/Object"), ("WheelWorks$Event", "java/lang/Object"), ("java/lang/Throwable", "java/lang/Object"), ("java/lang/String", "java/lang/Object"), ("[LWheelWorks$KindLimits;", "java/lang/Object"), ("[I", "java/lang/Object"), ("[B", "java/lang/Object"), ("[Ljava/lang/Object;", "java/lang/Object"), ("[Z", "java/lang/Object"), ("[J", "java/lang/Object")]
def ww_de : List MethodName := [⟨"java/lang/RuntimeException", "<init>", "()V"⟩, ⟨"java/lang/RuntimeException", "<init>", "(Ljava/lang/String;)V"⟩, ⟨"java/lang/Exception", "<init>", "()V"⟩, ⟨"java/lang/Exception", "<init>", "(Ljava/lang/String;)V"⟩, ⟨"java/lang/Throwable", "<init>", "()V"⟩, ⟨"java/lang/Throwable", "<init>", "(Ljava/lang/String;)V"⟩, ⟨"java/lang/Object", "getClass", "()Ljava/lang/Class;"⟩]
def ww_ne : List (String × Nat × MethodName × String) := [("WheelWorks", 24, ⟨"WheelWorks$Log", "<init>", "()V"⟩, "WheelWorks"), ("WheelWorks", 31, ⟨"WheelWorks$Yard", "<init>", "()V"⟩, "WheelWorks"), ("WheelWorks", 36, ⟨"WheelWorks$KindLimits", "<init>", "()V"⟩, "WheelWorks"), ("WheelWorks$Part", 33, ⟨"WheelWorks$Wheel", "<init>", "()V"⟩, "WheelWorks")]
def ww_nc : List (String × String) := [("java/lang/IllegalArgumentException", "java/lang/IndexOutOfBoundsException"), ("java/lang/IllegalStateException", "java/lang/IndexOutOfBoundsException"), ("java/lang/IllegalStateException", "java/lang/IllegalArgumentException")]
/-! ===== the pool memory: (addresses, kind, length), int fields, reference fields, int rows, reference rows, long rows. Field id = 40 * kind + slot. Kinds: 0 ArrayList 1 Event 2 KindLimits 3 Log 4 Part 5 Wheel 6 Yard 7 WheelWorks 8 WheelWorksModel (places of vwCl); 9 int[] 10 boolean[] 11 KindLimits[] 12 Object[] 13 long[] ===== -/
abbrev ww_M : Type := (List Nat × (Nat → Nat) × (Nat → Nat)) × (Nat → Nat → Int32) × (Nat → Nat → Option Nat) × (Nat → Nat → Int32) × (Nat → Nat → Option Nat) × (Nat → Nat → Int64)
def ww_L (M : ww_M) : List Nat := M.1.1
def ww_K (M : ww_M) : Nat → Nat := M.1.2.1
def ww_N (M : ww_M) : Nat → Nat := M.1.2.2
def ww_I (M : ww_M) : Nat → Nat → Int32 := M.2.1
def ww_R (M : ww_M) : Nat → Nat → Option Nat := M.2.2.1
def ww_X (M : ww_M) : Nat → Nat → Int32 := M.2.2.2.1
def ww_Y (M : ww_M) : Nat → Nat → Option Nat := M.2.2.2.2.1
def ww_Z (M : ww_M) : Nat → Nat → Int64 := M.2.2.2.2.2
def ww_u2 {α : Type} (f : Nat → Nat → α) (k a : Nat) (v : α) : Nat → Nat → α := fun k' a' => if k' = k ∧ a' = a then v else f k' a'
theorem ww_u2s {α : Type} {f : Nat → Nat → α} {k a : Nat} {v : α} : ww_u2 f k a v k a = v := if_pos ⟨rfl, rfl⟩
theorem ww_u2n {α : Type} {f : Nat → Nat → α} {k a k' a' : Nat} {v : α} (h : ¬ (k' = k ∧ a' = a)) : ww_u2 f k a v k' a' = f k' a' := if_neg h
def ww_sI (M : ww_M) (k a : Nat) (v : Int32) : ww_M := (M.1, ww_u2 (ww_I M) k a v, M.2.2)
def ww_sR (M : ww_M) (k a : Nat) (v : Option Nat) : ww_M := (M.1, M.2.1, ww_u2 (ww_R M) k a v, M.2.2.2)
def ww_sX (M : ww_M) (a i : Nat) (v : Int32) : ww_M := (M.1, M.2.1, M.2.2.1, ww_u2 (ww_X M) a i v, M.2.2.2.2)
def ww_sY (M : ww_M) (a i : Nat) (v : Option Nat) : ww_M := (M.1, M.2.1, M.2.2.1, M.2.2.2.1, ww_u2 (ww_Y M) a i v, M.2.2.2.2.2)
def ww_sZ (M : ww_M) (a i : Nat) (v : Int64) : ww_M := (M.1, M.2.1, M.2.2.1, M.2.2.2.1, M.2.2.2.2.1, ww_u2 (ww_Z M) a i v)
/-- a whole row of references anew (System.arraycopy) -/
def ww_cY (M : ww_M) (a : Nat) (f : Nat → Option Nat) : ww_M := (M.1, M.2.1, M.2.2.1, M.2.2.2.1, (fun a' => if a' = a then f else ww_Y M a'), M.2.2.2.2.2)
/-- a new object or array q of kind κ and length n -/
def ww_nw (M : ww_M) (q κ n : Nat) : ww_M := ((ww_L M ++ [q], va_up (ww_K M) q κ, va_up (ww_N M) q n), (fun k a => if a = q then 0 else ww_I M k a), (fun k a => if a = q then none else ww_R M k a), (fun a i => if a = q then 0 else ww_X M a i), (fun a i => if a = q then none else ww_Y M a i), (fun a i => if a = q then 0 else ww_Z M a i))
def ww_nf : Nat → Nat := fun κ => match κ with
  | 0 => 3
  | 1 => 3
  | 2 => 3
  | 3 => 2
  | 4 => 18
  | 5 => 4
  | 6 => 5
  | 7 => 4
  | 8 => 33
  | _ => 0
def ww_ir (f : Nat) : Bool := f == 1 || (f == 120 || f == 121) || (164 ≤ f && f ≤ 166) || (240 ≤ f && f ≤ 242) || (280 ≤ f && f ≤ 283) || (322 ≤ f && f ≤ 342) || (344 ≤ f && f ≤ 345) || (347 ≤ f && f ≤ 352)
def ww_fv (M : ww_M) (f a : Nat) : Value := if ww_ir f = true then va_rf (ww_R M f a) else .int (ww_I M f a)
def ww_fs (M : ww_M) (κ a : Nat) : List Value := (List.range (ww_nf κ)).map (fun k => ww_fv M (40 * κ + k) a)
def ww_E (cy : Nat → ClassId) (M : ww_M) (a : Nat) : va_E :=
  if ww_K M a < 9 then .inr (ww_K M a, ww_fs M (ww_K M a) a)
  else if ww_K M a < 11 then .inl (cy (ww_K M a), ww_N M a, .inl (ww_X M a))
  else if ww_K M a < 13 then .inl (cy (ww_K M a), ww_N M a, .inr (.inr (.inr (.inr (ww_Y M a)))))
  else .inl (cy (ww_K M a), ww_N M a, .inr (.inl (ww_Z M a)))
def ww_W (cy : Nat → ClassId) (M : ww_M) : va_W := va_pl (ww_L M) (ww_E cy M)
theorem ww_fs_get {M : ww_M} {κ a k : Nat} (hk : k < ww_nf κ) : (ww_fs M κ a)[k]? = some (ww_fv M (40 * κ + k) a) := by
  simp [ww_fs, hk]
theorem ww_fs_len {M : ww_M} {κ a : Nat} : (ww_fs M κ a).length = ww_nf κ := by simp [ww_fs]
theorem ww_fs_set {M M' : ww_M} {κ a k : Nat} {v : Value} (h1 : ww_fv M' (40 * κ + k) a = v) (h2 : ∀ j, j ≠ k → ww_fv M' (40 * κ + j) a = ww_fv M (40 * κ + j) a) : (ww_fs M κ a).set k v = ww_fs M' κ a := by
  apply List.ext_getElem?
  intro j
  by_cases hj : j < ww_nf κ
  · by_cases hjk : j = k
    · subst hjk
      rw [List.getElem?_set_self (by rw [ww_fs_len]; exact hj), ww_fs_get hj, h1]
    · rw [List.getElem?_set_ne (Ne.symm hjk), ww_fs_get hj, ww_fs_get hj, h2 j hjk]
  · rw [List.getElem?_eq_none (by rw [List.length_set, ww_fs_len]; omega), List.getElem?_eq_none (by rw [ww_fs_len]; omega)]
theorem ww_fs_congr {M M' : ww_M} {κ a : Nat} (h : ∀ k, ww_fv M' (40 * κ + k) a = ww_fv M (40 * κ + k) a) : ww_fs M' κ a = ww_fs M κ a := by
  unfold ww_fs
  exact List.map_congr_left (fun k _ => h k)
/-- how an update of the world's entry at a is an update of the memory -/
theorem ww_W_set {cy : Nat → ClassId} {A : Nat → Prop} {M M' : ww_M} {a j : Nat} {e : va_E} (hD : va_D A (ww_W cy M)) (ha : a ∈ ww_L M) (hj : (ww_W cy M)[j]? = some (a, ww_E cy M a)) (h0 : M'.1 = M.1) (h1 : ww_E cy M' a = e) (h2 : ∀ b, b ≠ a → ww_E cy M' b = ww_E cy M b) : (ww_W cy M).set j (a, e) = ww_W cy M' := by
  have h := va_pl_set (X := []) (L := ww_L M) (f := ww_E cy M) (A := A) (a := a) (k := j) (e := e) hD ha hj
  have e1 : ([] ++ va_pl (ww_L M) (ww_E cy M)) = ww_W cy M := rfl
  have e2 : ([] ++ va_pl (ww_L M) (va_up (ww_E cy M) a e)) = va_pl (ww_L M) (va_up (ww_E cy M) a e) := rfl
  rw [e1, e2] at h
  rw [h]
  have hL : ww_L M' = ww_L M := by unfold ww_L; rw [h0]
  show va_pl (ww_L M) _ = va_pl (ww_L M') (ww_E cy M')
  rw [hL]
  apply va_pl_congr
  intro b
  unfold va_up
  by_cases hb : b = a
  · subst hb; rw [if_pos rfl, h1]
  · rw [if_neg hb, h2 b hb]
theorem ww_W_get {cy : Nat → ClassId} {M : ww_M} {a : Nat} (ha : a ∈ ww_L M) : ∃ j : Nat, (ww_W cy M)[j]? = some (a, ww_E cy M a) := va_pl_get (X := []) ha
theorem ww_E_o {cy : Nat → ClassId} {M : ww_M} {a κ : Nat} (hK : ww_K M a = κ) (h : κ < 9) : ww_E cy M a = .inr (κ, ww_fs M κ a) := by
  unfold ww_E; rw [hK, if_pos h]
theorem ww_E_i {cy : Nat → ClassId} {M : ww_M} {a κ : Nat} (hK : ww_K M a = κ) (h : 9 ≤ κ) (h2 : κ < 11) : ww_E cy M a = .inl (cy κ, ww_N M a, .inl (ww_X M a)) := by
  unfold ww_E; rw [hK, if_neg (by omega), if_pos h2]
theorem ww_E_r {cy : Nat → ClassId} {M : ww_M} {a κ : Nat} (hK : ww_K M a = κ) (h : 11 ≤ κ) (h2 : κ < 13) : ww_E cy M a = .inl (cy κ, ww_N M a, .inr (.inr (.inr (.inr (ww_Y M a))))) := by
  unfold ww_E; rw [hK, if_neg (by omega), if_neg (by omega), if_pos h2]
theorem ww_E_l {cy : Nat → ClassId} {M : ww_M} {a : Nat} (hK : ww_K M a = 13) : ww_E cy M a = .inl (cy 13, ww_N M a, .inr (.inl (ww_Z M a))) := by
  unfold ww_E; rw [hK, if_neg (by omega), if_neg (by omega), if_neg (by omega)]
/-- a push of the world's is a new thing of the memory's -/
theorem ww_W_push {cy : Nat → ClassId} {M : ww_M} {q κ n : Nat} {e : va_E} (hq : q ∉ ww_L M) (h1 : ww_E cy (ww_nw M q κ n) q = e) : ww_W cy M ++ [(q, e)] = ww_W cy (ww_nw M q κ n) := by
  show va_pl (ww_L M) (ww_E cy M) ++ [(q, e)] = va_pl (ww_L M ++ [q]) (ww_E cy (ww_nw M q κ n))
  rw [va_pl_push hq]
  apply va_pl_congr
  intro b
  unfold va_up
  by_cases hb : b = q
  · subst hb; rw [if_pos rfl, h1]
  · rw [if_neg hb]
    have hKb : ww_K (ww_nw M q κ n) b = ww_K M b := if_neg hb
    have hNb : ww_N (ww_nw M q κ n) b = ww_N M b := if_neg hb
    have hX : ww_X (ww_nw M q κ n) b = ww_X M b := funext fun i => if_neg hb
    have hY : ww_Y (ww_nw M q κ n) b = ww_Y M b := funext fun i => if_neg hb
    have hZ : ww_Z (ww_nw M q κ n) b = ww_Z M b := funext fun i => if_neg hb
    have hfs : ∀ k, ww_fs (ww_nw M q κ n) k b = ww_fs M k b := fun k => ww_fs_congr fun j => by
      have hI : ww_I (ww_nw M q κ n) (40 * k + j) b = ww_I M (40 * k + j) b := if_neg hb
      have hR : ww_R (ww_nw M q κ n) (40 * k + j) b = ww_R M (40 * k + j) b := if_neg hb
      unfold ww_fv; rw [hI, hR]
    unfold ww_E
    rw [hKb, hNb, hX, hY, hZ, hfs]
/-! ===== the words, the state's facts, contracts, the judgement ===== -/
/-- base of the pool, the classes' numbers, the array classes by kind, the empty array of ArrayList's, the script: cell, length, contents; the Class object of Object[] -/
abbrev ww_G : Type := Nat × va_G × (Nat → ClassId) × Nat × Nat × Nat × (Nat → Int32) × Nat
abbrev ww_ge (g : ww_G) : Nat := g.2.2.2.1
abbrev ww_gb (g : ww_G) : Nat := g.2.2.2.2.1
abbrev ww_gl (g : ww_G) : Nat := g.2.2.2.2.2.1
abbrev ww_gx (g : ww_G) : Nat → Int32 := g.2.2.2.2.2.2.1
abbrev ww_gm (g : ww_G) : Nat := g.2.2.2.2.2.2.2
def ww_gA (g : ww_G) : Nat → Prop := fun q => g.1 ≤ q
def ww_ty (g : ww_G) : List (ClassId × FieldType) := [(g.2.2.1 9, .int), (g.2.2.1 10, .boolean), (g.2.2.1 11, .object "WheelWorks$KindLimits"), (g.2.2.1 12, .object "java/lang/Object"), (g.2.2.1 13, .long)]
def ww_GW : List Cond := lw_tbl.filter goodWord
theorem ww_gw {w : Cond} (h : w ∈ lw_tbl) (hg : goodWord w = true) : w ∈ ww_GW := List.mem_filter.mpr ⟨h, hg⟩
theorem ww_GW_good {big : List Cond} (h : ∀ w ∈ ww_GW, w ∈ big) : GoodIn big ww_GW := fun w hw => ⟨h w hw, good_of_word (List.mem_filter.mp hw).2⟩
theorem ww_word {args a' : Array Value} {s U : State} (hW : s.WarmedH U.vm) {w : Cond} (h : w ∈ ww_GW) (hs : w.before args s = true) : w.before a' U = true := word_at hW (good_of_word (List.mem_filter.mp h).2) hs
def ww_F (g : ww_G) (U : State) (H : Heap) : Prop :=
  (g.1 ≤ H.size ∧ va_K g.2.1 vwCl (ww_ty g) U) ∧
  (va_Z RJx4a65c "DEFAULTCAPACITY_EMPTY_ELEMENTDATA" "[Ljava/lang/Object;" (.ref (ww_ge g)) (ww_gA g) U H ∧ va_T (.object "java/lang/Object") (ww_ge g) 0 (fun _ => .null) (ww_gA g) U H) ∧
  (vx_Zq Bundle.tN "UNASSIGNED_STACK" Bundle.steD (ww_gA g) U H ∧ vx_Zq Bundle.tN "SUPPRESSED_SENTINEL" Bundle.listD (ww_gA g) U H) ∧
  (va_X (ww_gb g) (ww_gl g) (ww_gx g) U H ∧ ¬ ww_gA g (ww_gb g) ∧ ww_gb g < H.size) ∧
  (∀ q ∈ ww_str, ∃ a, vk_R q.1 q.2.1 q.2.2 a U) ∧ ((∀ q ∈ ww_ca, va_Nw (.castable q.1 q.2) U) ∧ (∀ x ∈ ww_de, va_Nw (.declares x) U) ∧ (∀ q ∈ ww_ne, va_Nw (.methodLinkNest q.1 q.2.1 q.2.2.1 q.2.2.2) U) ∧ (∀ q ∈ ww_nc, va_Nc q.1 q.2 U)) ∧
  (va_Mi "[Ljava/lang/Object;" (ww_gm g) U ∧ va_AO "java/lang/Object" U ∧ va_AO "WheelWorks$KindLimits" U)
theorem ww_F_to {g : ww_G} {s U : State} {H : Heap} (hW : s.WarmedH U.vm) (h : ww_F g s s.heap) (h1 : s.heap.size ≤ H.size) (h2 : ∀ q : Nat, q < s.heap.size → ¬ ww_gA g q → H[q]? = s.heap[q]?) : ww_F g U H := by
  obtain ⟨⟨a1, a2⟩, ⟨b1, b2⟩, ⟨c1, c2⟩, ⟨d1, d2, d3⟩, e1, ⟨f1, f2, f3, f4⟩, g1, g2, g3⟩ := h
  have ha := hW.alike
  exact ⟨⟨Nat.le_trans a1 h1, va_K.moved ha a2⟩, ⟨va_Z.moved ha (b1.kept h2), va_T.moved ha (b2.kept h2)⟩, ⟨vx_Zq.moved ha (c1.kept h2), vx_Zq.moved ha (c2.kept h2)⟩,
    ⟨va_X.moved ha (d1.kept (h2 _ d3 d2)), d2, Nat.lt_of_lt_of_le d3 h1⟩,
    fun q hq => by obtain ⟨a, h⟩ := e1 q hq; exact ⟨a, vk_R.warm hW h⟩,
    ⟨fun q hq => va_Nw.warmC hW (f1 q hq), fun q hq => va_Nw.warmD hW (f2 q hq), fun q hq => va_Nw.warmM hW (f3 q hq), fun q hq => va_Nc.moved ha (f4 q hq)⟩,
    va_Mi.moved ha g1, va_AO.moved ha g2, va_AO.moved ha g3⟩
def ww_H (g : ww_G) (M : ww_M) (H : Heap) : Prop := va_P g.2.1 vwCl (ww_W g.2.2.1 M) H ∧ va_D (ww_gA g) (ww_W g.2.2.1 M)
/-- a method: name, code, locals, what it returns, its handlers -/
abbrev ww_Yd : Type := MethodName × ByteArray × Nat × Option FieldType × List (Nat × Nat × Nat × Nat)
def ww_hd (Y : ww_Yd) : Cond := match Y.2.2.2.2 with
  | [] => .code Y.1 Y.2.1 Y.2.2.1 Y.2.2.2.1
  | h :: t => .codeWith Y.1 Y.2.1 Y.2.2.1 Y.2.2.2.1 (h :: t)
def ww_rm (d mc ms : Nat) : Room := { frames := d, cells := mc, slots := ms, locals := 100 * d }
def ww_Pc (g : ww_G) (av : List Value) (M : ww_M) : Array Value → State → Prop := fun v U => v = av.toArray ∧ ww_F g U U.heap ∧ ww_H g M U.heap
def ww_Qc (g : ww_G) (Q : Option Value → ww_M → Prop) : Array Value → State → Outcome → State → Prop := fun _ st o t => (∃ v M', o = .returned v ∧ Q v M' ∧ ww_H g M' t.heap) ∧ va_F (ww_gA g) st t
def ww_Xc (g : ww_G) (X : String → ww_M → Prop) : String → State → State → Prop := fun E st t => (∃ M', X E M' ∧ ww_H g M' t.heap) ∧ va_F (ww_gA g) st t
/-- the contract of a method, from the memory M with the arguments av -/
def ww_C (g : ww_G) (Y : ww_Yd) (d mc ms : Nat) (av : List Value) (M : ww_M) (Q : Option Value → ww_M → Prop) (X : String → ww_M → Prop) : Prop :=
  ∀ l : Launch, l.stackTraces = false → vx_Met l Y.1 (ww_hd Y :: ww_GW) (ww_rm d mc ms) (ww_Pc g av M) (ww_Qc g Q) (ww_Xc g X) mc ms (ww_gA g)
theorem ww_blind {g : ww_G} {av : List Value} {M : ww_M} : FrameBlind (ww_Pc g av M) := fun a U f mk h =>
  ⟨h.1, ww_F_to (s := U) (U := U.calling f mk a) (State.WarmedH.refl U) h.2.1 (Nat.le_refl _) (fun _ _ _ => rfl), h.2.2⟩
def ww_Cx (g : ww_G) (Y : ww_Yd) (d : Nat) (p : Program) (l : Launch) (R : Room) (s : State) (m : MethodId) (args : Array Value) (meth : Method) (c : Code) : Prop :=
  p.tables.exec = Jvm.exec ∧ c.code = Y.2.1 ∧ c.maxLocals = Y.2.2.1 ∧ (meth.sig.returnType = Y.2.2.2.1 ∧ meth.locks = false ∧ meth.name = Y.1.name) ∧ c.exceptionTable.toList = tableOf Y.2.2.2.2 ∧ s.vm.findClass Y.1.cls = some m.cls ∧ (∀ w ∈ ww_GW, w.before args s = true) ∧ l.stackTraces = false ∧ ww_F g s s.heap ∧ d ≤ R.frames ∧ 100 * d ≤ R.locals
def ww_lv (ls : Array Slot) (n : Nat) (lv : List (Nat × Value)) : Prop := lv_has ls n lv ∧ ∀ q ∈ lv, q.2.category = 1
/-- the judgement: the method Y at pc, with locals lv and operand stack st, in the memory M, with d frames, kc cells and ks slots left, comes to its end: it returns v in M' with Q v M', or throws E in M' with X E M' -/
def ww_A (g : ww_G) (Y : ww_Yd) (d kc ks : Nat) (M : ww_M) (pc : Nat) (lv : List (Nat × Value)) (st : List Value) (Q : Option Value → ww_M → Prop) (X : String → ww_M → Prop) : Prop :=
  ∀ (p : Program) (l : Launch) (e : Env) (R : Room) (s : State) (m : MethodId) (args : Array Value) (below : List Frame) (meth : Method) (c : Code) (H : Heap) (locs : List Loc) (cells slots mc ms : Nat) (ls : Array Slot),
    ww_Cx g Y d p l R s m args meth c → (cells + kc ≤ mc ∧ slots + ks ≤ ms ∧ mc ≤ R.cells ∧ ms ≤ R.slots) → ww_lv ls Y.2.2.1 lv → ww_H g M H → va_S (ww_gA g) s.heap H locs →
    W p l e R s m args below meth c H locs cells slots (vx_MQ below (ww_Qc g Q) (ww_Xc g X) args s mc ms (ww_gA g)) (F0 m pc ls st)
/-- an empty table where the code's word says so -/
theorem ww_table0 {p : Program} {l : Launch} {x : MethodName} {S : Spec} {cc : ByteArray} {maxL : Nat} {ret : Option FieldType} {e : Env} {s s₁ : State} {m : MethodId} {args : Array Value} {below : List Frame} {meth : Method} {c : Code}
    (B : BodyLoose p l x S cc maxL ret e s m args below meth c s₁) (h : (Cond.code x cc maxL ret).before args s = true) : c.exceptionTable.toList = [] := by
  obtain ⟨meth', c', h1, h2, -, -, -, -, h7, -⟩ := Cond.code_spec B.named h
  cases B.method.symm.trans h1
  have h3 := (Stand.of_body B).code
  cases h3.symm.trans h2
  have h8 : c.exceptionTable = #[] := by simpa using h7
  rw [h8]
theorem ww_enter {g : ww_G} {Y : ww_Yd} {d mc ms : Nat} {av : List Value} {M : ww_M} {Q : Option Value → ww_M → Prop} {X : String → ww_M → Prop} (hn : plainName Y.1.cls = true) (hlen : (lg_sl av).length ≤ Y.2.2.1) (hcat : ∀ q ∈ lv_args 0 av, q.2.category = 1) (k : ww_A g Y d mc ms M 0 (lv_args 0 av) [] Q X) : ww_C g Y d mc ms av M Q X := by
  intro l hl
  obtain ⟨y, bytes, maxL, ret, hh⟩ := Y
  cases hh with
  | nil =>
    refine vx_ofW (cc := bytes) (maxL := maxL) (ret := ret) (ws' := ww_GW) hn rfl ?_
    intro p e s m args below meth c s₁ B hml hout hv
    obtain ⟨rfl, hF, hH⟩ := hv
    have hts := atoms_spec (ws := ww_hd (y, bytes, maxL, ret, []) :: ww_GW) B.pre
    rw [lg_entry_eq]
    exact k p l e _ s m _ below meth c s.heap [] 0 0 mc ms _ ⟨B.exec, B.bytes, hml, ⟨B.returns, B.notSynchronized, (name_of_methodNamed B.named B.method).1⟩, ww_table0 B (hts _ List.mem_cons_self), findClass_of_methodNamed B.named, fun w hw => hts w (List.mem_cons_of_mem _ hw), hl, hF, Nat.le_refl _, Nat.le_refl _⟩ ⟨by omega, by omega, Nat.le_refl _, Nat.le_refl _⟩ ⟨lv_entry av hlen, hcat⟩ hH va_S.rf
  | cons h0 h1 =>
    refine vx_ofWH (cc := bytes) (maxL := maxL) (ret := ret) (hh := h0 :: h1) (ws' := ww_GW) hn rfl ?_
    intro p e s m args below meth c s₁ B hml hv
    obtain ⟨rfl, hF, hH⟩ := hv
    have hts := atoms_spec (ws := ww_hd (y, bytes, maxL, ret, h0 :: h1) :: ww_GW) B.pre
    rw [lg_entry_eq]
    exact k p l e _ s m _ below meth c s.heap [] 0 0 mc ms _ ⟨B.exec, B.bytes, hml, ⟨B.returns, B.notSynchronized, (name_of_methodNamed B.named B.method).1⟩, vx_table (x := y) B (hts _ List.mem_cons_self), findClass_of_methodNamed B.named, fun w hw => hts w (List.mem_cons_of_mem _ hw), hl, hF, Nat.le_refl _, Nat.le_refl _⟩ ⟨by omega, by omega, Nat.le_refl _, Nat.le_refl _⟩ ⟨lv_entry av hlen, hcat⟩ hH va_S.rf
end
section
/-! ===== the rules of the judgement, an instruction each ===== -/
def ww_at : List (Nat × Value) → Nat → Option Value
  | [], _ => none
  | q :: t, i => if q.1 = i then some q.2 else ww_at t i
theorem ww_at_mem {i : Nat} {v : Value} : ∀ {lv : List (Nat × Value)}, ww_at lv i = some v → (i, v) ∈ lv
  | [], h => by cases h
  | q :: t, h => by
    unfold ww_at at h
    by_cases hq : q.1 = i
    · rw [if_pos hq] at h
      cases h
      subst hq
      exact List.mem_cons_self
    · rw [if_neg hq] at h
      exact List.mem_cons_of_mem _ (ww_at_mem h)
def ww_put (i : Nat) (v : Value) : List (Nat × Value) → List (Nat × Value)
  | [] => [(i, v)]
  | q :: t => if q.1 = i then ww_put i v t else if q.1 < i then q :: ww_put i v t else (i, v) :: q :: t.filter (fun q => !(q.1 == i))
theorem ww_put_mem {i : Nat} {v : Value} {q : Nat × Value} : ∀ {lv : List (Nat × Value)}, q ∈ ww_put i v lv → q = (i, v) ∨ (q ∈ lv ∧ q.1 ≠ i)
  | [], h => by
    unfold ww_put at h
    exact Or.inl (List.mem_singleton.mp h)
  | r :: t, h => by
    unfold ww_put at h
    by_cases h1 : r.1 = i
    · rw [if_pos h1] at h
      rcases ww_put_mem h with h2 | ⟨h2, h3⟩
      · exact Or.inl h2
      · exact Or.inr ⟨List.mem_cons_of_mem _ h2, h3⟩
    · rw [if_neg h1] at h
      by_cases h4 : r.1 < i
      · rw [if_pos h4] at h
        rcases List.mem_cons.mp h with h2 | h2
        · subst h2; exact Or.inr ⟨List.mem_cons_self, h1⟩
        · rcases ww_put_mem h2 with h2 | ⟨h2, h3⟩
          · exact Or.inl h2
          · exact Or.inr ⟨List.mem_cons_of_mem _ h2, h3⟩
      · rw [if_neg h4] at h
        rcases List.mem_cons.mp h with h2 | h2
        · exact Or.inl h2
        · rcases List.mem_cons.mp h2 with h2 | h2
          · subst h2; exact Or.inr ⟨List.mem_cons_self, h1⟩
          · have h5 := List.mem_filter.mp h2
            exact Or.inr ⟨List.mem_cons_of_mem _ h5.1, by simpa using h5.2⟩
/-- the listed values stand in lv -/
def ww_le : List (Nat × Value) → List (Nat × Value) → Prop
  | [], _ => True
  | q :: t, lv => ww_at lv q.1 = some q.2 ∧ ww_le t lv
theorem ww_le_mem {lv : List (Nat × Value)} : ∀ {l2 : List (Nat × Value)}, ww_le l2 lv → ∀ q ∈ l2, q ∈ lv
  | [], _, q, hq => by cases hq
  | r :: t, h, q, hq => by
    rcases List.mem_cons.mp hq with h2 | h2
    · subst h2; exact ww_at_mem h.1
    · exact ww_le_mem h.2 q h2
theorem ww_lv_get {ls : Array Slot} {n i : Nat} {lv : List (Nat × Value)} {v : Value} (h : ww_lv ls n lv) (ha : ww_at lv i = some v) : ls[i]? = some (.val v) := h.1.2.2 (i, v) (ww_at_mem ha)
theorem ww_lv_put {ls : Array Slot} {n i : Nat} {lv : List (Nat × Value)} {v : Value} (h0 : ∀ q ∈ lv, q.2.category = 1) (hv : v.category = 1) (h : lv_has ls n ((i, v) :: lv.filter (fun q => !(q.1 == i) && !(q.1 + 1 == i && q.2.category == 2)))) : ww_lv ls n (ww_put i v lv) := by
  refine ⟨⟨h.1, h.2.1, fun q hq => ?_⟩, fun q hq => ?_⟩
  · rcases ww_put_mem hq with h2 | ⟨h2, h3⟩
    · subst h2; exact h.2.2 _ List.mem_cons_self
    · refine h.2.2 q (List.mem_cons_of_mem _ (List.mem_filter.mpr ⟨h2, ?_⟩))
      have h4 := h0 q h2
      simp [h3, h4]
  · rcases ww_put_mem hq with h2 | ⟨h2, -⟩
    · subst h2; exact hv
    · exact h0 q h2
theorem ww_rf_cat (r : Option Nat) : (va_rf r).category = 1 := by cases r <;> rfl
theorem ww_rf_ref (r : Option Nat) : va_rf r = .null ∨ ∃ a, va_rf r = .ref a := by
  cases r with
  | none => exact Or.inl rfl
  | some a => exact Or.inr ⟨a, rfl⟩
section WWR
variable {g : ww_G} {Y : ww_Yd} {d kc ks : Nat} {M : ww_M} {pc : Nat} {lv : List (Nat × Value)} {st : List Value} {Q : Option Value → ww_M → Prop} {X : String → ww_M → Prop}
theorem ww_iconst {n : Int} {v : Int32} (hd : decode Y.2.1 pc = .ok (.iconst n, 1)) (hv : Int32.ofInt n = v) (k : ww_A g Y d kc ks M (pc + 1) lv (.int v :: st) Q X) : ww_A g Y d kc ks M (pc) lv (st) Q X := fun p l e R s m args below meth c H locs cells slots mc ms ls C B hl hH hS => lv_iconst C.1 C.2.1 hd hv (k p l e R s m args below meth c H locs cells slots mc ms ls C B hl hH hS)
theorem ww_bipush {n : Int} {v : Int32} (hd : decode Y.2.1 pc = .ok (.bipush n, 2)) (hv : (Int8.ofInt n).toInt32 = v) (k : ww_A g Y d kc ks M (pc + 2) lv (.int v :: st) Q X) : ww_A g Y d kc ks M (pc) lv (st) Q X := fun p l e R s m args below meth c H locs cells slots mc ms ls C B hl hH hS => lv_bipush C.1 C.2.1 hd hv (k p l e R s m args below meth c H locs cells slots mc ms ls C B hl hH hS)
theorem ww_sipush {n : Int} {v : Int32} (hd : decode Y.2.1 pc = .ok (.sipush n, 3)) (hv : (Int16.ofInt n).toInt32 = v) (k : ww_A g Y d kc ks M (pc + 3) lv (.int v :: st) Q X) : ww_A g Y d kc ks M (pc) lv (st) Q X := fun p l e R s m args below meth c H locs cells slots mc ms ls C B hl hH hS => lv_sipush C.1 C.2.1 hd hv (k p l e R s m args below meth c H locs cells slots mc ms ls C B hl hH hS)
theorem ww_lconst {n : Fin 2} {v : Int64} (hd : decode Y.2.1 pc = .ok (.lconst n, 1)) (hv : Int64.ofNat (n : Nat) = v) (k : ww_A g Y d kc ks M (pc + 1) lv (.long v :: st) Q X) : ww_A g Y d kc ks M (pc) lv (st) Q X := fun p l e R s m args below meth c H locs cells slots mc ms ls C B hl hH hS => lv_lconst C.1 C.2.1 hd hv (k p l e R s m args below meth c H locs cells slots mc ms ls C B hl hH hS)
theorem ww_ldc {i : Nat} {v : Int32} (hd : decode Y.2.1 pc = .ok (.ldc i, 2)) (hw : Cond.constant Y.1.cls i v ∈ ww_GW) (k : ww_A g Y d kc ks M (pc + 2) lv (.int v :: st) Q X) : ww_A g Y d kc ks M (pc) lv (st) Q X := fun p l e R s m args below meth c H locs cells slots mc ms ls C B hl hH hS => lv_ldc C.1 C.2.1 C.2.2.2.2.2.1 (C.2.2.2.2.2.2.1 _ hw) hd (k p l e R s m args below meth c H locs cells slots mc ms ls C B hl hH hS)
theorem ww_ldc_w {i : Nat} {v : Int32} (hd : decode Y.2.1 pc = .ok (.ldc_w i, 3)) (hw : Cond.constant Y.1.cls i v ∈ ww_GW) (k : ww_A g Y d kc ks M (pc + 3) lv (.int v :: st) Q X) : ww_A g Y d kc ks M (pc) lv (st) Q X := fun p l e R s m args below meth c H locs cells slots mc ms ls C B hl hH hS => lv_ldcw C.1 C.2.1 C.2.2.2.2.2.1 (C.2.2.2.2.2.2.1 _ hw) hd (k p l e R s m args below meth c H locs cells slots mc ms ls C B hl hH hS)
theorem ww_null  (hd : decode Y.2.1 pc = .ok (.aconst_null, 1))  (k : ww_A g Y d kc ks M (pc + 1) lv (.null :: st) Q X) : ww_A g Y d kc ks M (pc) lv (st) Q X := fun p l e R s m args below meth c H locs cells slots mc ms ls C B hl hH hS => lv_null C.1 C.2.1 hd (k p l e R s m args below meth c H locs cells slots mc ms ls C B hl hH hS)
theorem ww_iload_n {j : Fin 4} {i : Nat} {x : Int32} (hd : decode Y.2.1 pc = .ok (.iload_n j, 1)) (hi : (j : Nat) = i) (ha : ww_at lv i = some (.int x)) (k : ww_A g Y d kc ks M (pc + 1) lv (.int x :: st) Q X) : ww_A g Y d kc ks M (pc) lv (st) Q X := fun p l e R s m args below meth c H locs cells slots mc ms ls C B hl hH hS => lv_iload_n C.1 C.2.1 hd hi (ww_lv_get hl ha) (k p l e R s m args below meth c H locs cells slots mc ms ls C B hl hH hS)
theorem ww_iload {i : Nat} {x : Int32} (hd : decode Y.2.1 pc = .ok (.iload i, 2)) (ha : ww_at lv i = some (.int x)) (k : ww_A g Y d kc ks M (pc + 2) lv (.int x :: st) Q X) : ww_A g Y d kc ks M (pc) lv (st) Q X := fun p l e R s m args below meth c H locs cells slots mc ms ls C B hl hH hS => lv_iload C.1 C.2.1 hd (ww_lv_get hl ha) (k p l e R s m args below meth c H locs cells slots mc ms ls C B hl hH hS)
theorem ww_aload_n {j : Fin 4} {i a : Nat} (hd : decode Y.2.1 pc = .ok (.aload_n j, 1)) (hi : (j : Nat) = i) (ha : ww_at lv i = some (.ref a)) (k : ww_A g Y d kc ks M (pc + 1) lv (.ref a :: st) Q X) : ww_A g Y d kc ks M (pc) lv (st) Q X := fun p l e R s m args below meth c H locs cells slots mc ms ls C B hl hH hS => lv_aload_n C.1 C.2.1 hd hi (ww_lv_get hl ha) (k p l e R s m args below meth c H locs cells slots mc ms ls C B hl hH hS)
theorem ww_aload {i a : Nat} (hd : decode Y.2.1 pc = .ok (.aload i, 2)) (ha : ww_at lv i = some (.ref a)) (k : ww_A g Y d kc ks M (pc + 2) lv (.ref a :: st) Q X) : ww_A g Y d kc ks M (pc) lv (st) Q X := fun p l e R s m args below meth c H locs cells slots mc ms ls C B hl hH hS => lv_aload C.1 C.2.1 hd (ww_lv_get hl ha) (k p l e R s m args below meth c H locs cells slots mc ms ls C B hl hH hS)
theorem ww_aload_nQ {j : Fin 4} {i : Nat} {r : Option Nat} (hd : decode Y.2.1 pc = .ok (.aload_n j, 1)) (hi : (j : Nat) = i) (ha : ww_at lv i = some (va_rf r)) (k : ww_A g Y d kc ks M (pc + 1) lv (va_rf r :: st) Q X) : ww_A g Y d kc ks M (pc) lv (st) Q X := by
  cases r with
  | none => exact fun p l e R s m args below meth c H locs cells slots mc ms ls C B hl hH hS => lv_aload_nN C.1 C.2.1 hd hi (ww_lv_get hl ha) (k p l e R s m args below meth c H locs cells slots mc ms ls C B hl hH hS)
  | some a => exact fun p l e R s m args below meth c H locs cells slots mc ms ls C B hl hH hS => lv_aload_n C.1 C.2.1 hd hi (ww_lv_get hl ha) (k p l e R s m args below meth c H locs cells slots mc ms ls C B hl hH hS)
theorem ww_aloadQ {i : Nat} {r : Option Nat} (hd : decode Y.2.1 pc = .ok (.aload i, 2)) (ha : ww_at lv i = some (va_rf r)) (k : ww_A g Y d kc ks M (pc + 2) lv (va_rf r :: st) Q X) : ww_A g Y d kc ks M (pc) lv (st) Q X := by
  cases r with
  | none => exact fun p l e R s m args below meth c H locs cells slots mc ms ls C B hl hH hS => lv_aloadN C.1 C.2.1 hd (ww_lv_get hl ha) (k p l e R s m args below meth c H locs cells slots mc ms ls C B hl hH hS)
  | some a => exact fun p l e R s m args below meth c H locs cells slots mc ms ls C B hl hH hS => lv_aload C.1 C.2.1 hd (ww_lv_get hl ha) (k p l e R s m args below meth c H locs cells slots mc ms ls C B hl hH hS)
theorem ww_istore_n {j : Fin 4} {i : Nat} {x : Int32} {lv2 : List (Nat × Value)} (hd : decode Y.2.1 pc = .ok (.istore_n j, 1)) (hi : (j : Nat) = i) (hn : i < Y.2.2.1) (hp : ww_put i (.int x) lv = lv2) (k : ww_A g Y d kc ks M (pc + 1) lv2 (st) Q X) : ww_A g Y d kc ks M (pc) lv (.int x :: st) Q X := fun p l e R s m args below meth c H locs cells slots mc ms ls C B hl hH hS => lv_istore_n C.1 C.2.1 hd hi hl.1 hn rfl (fun ls2 h2 => by subst hp; exact (fun hl2 => k p l e R s m args below meth c H locs cells slots mc ms ls2 C B hl2 hH hS) (ww_lv_put hl.2 rfl h2))
theorem ww_istore {i : Nat} {x : Int32} {lv2 : List (Nat × Value)} (hd : decode Y.2.1 pc = .ok (.istore i, 2)) (hn : i < Y.2.2.1) (hp : ww_put i (.int x) lv = lv2) (k : ww_A g Y d kc ks M (pc + 2) lv2 (st) Q X) : ww_A g Y d kc ks M (pc) lv (.int x :: st) Q X := fun p l e R s m args below meth c H locs cells slots mc ms ls C B hl hH hS => lv_istore C.1 C.2.1 hd hl.1 hn rfl (fun ls2 h2 => by subst hp; exact (fun hl2 => k p l e R s m args below meth c H locs cells slots mc ms ls2 C B hl2 hH hS) (ww_lv_put hl.2 rfl h2))
theorem ww_astore_n {j : Fin 4} {i a : Nat} {lv2 : List (Nat × Value)} (hd : decode Y.2.1 pc = .ok (.astore_n j, 1)) (hi : (j : Nat) = i) (hn : i < Y.2.2.1) (hp : ww_put i (.ref a) lv = lv2) (k : ww_A g Y d kc ks M (pc + 1) lv2 (st) Q X) : ww_A g Y d kc ks M (pc) lv (.ref a :: st) Q X := fun p l e R s m args below meth c H locs cells slots mc ms ls C B hl hH hS => lv_astore_n C.1 C.2.1 hd hi hl.1 hn rfl (fun ls2 h2 => by subst hp; exact (fun hl2 => k p l e R s m args below meth c H locs cells slots mc ms ls2 C B hl2 hH hS) (ww_lv_put hl.2 rfl h2))
theorem ww_astore {i a : Nat} {lv2 : List (Nat × Value)} (hd : decode Y.2.1 pc = .ok (.astore i, 2)) (hn : i < Y.2.2.1) (hp : ww_put i (.ref a) lv = lv2) (k : ww_A g Y d kc ks M (pc + 2) lv2 (st) Q X) : ww_A g Y d kc ks M (pc) lv (.ref a :: st) Q X := fun p l e R s m args below meth c H locs cells slots mc ms ls C B hl hH hS => lv_astore C.1 C.2.1 hd hl.1 hn rfl (fun ls2 h2 => by subst hp; exact (fun hl2 => k p l e R s m args below meth c H locs cells slots mc ms ls2 C B hl2 hH hS) (ww_lv_put hl.2 rfl h2))
theorem ww_astore_nQ {j : Fin 4} {i : Nat} {r : Option Nat} {lv2 : List (Nat × Value)} (hd : decode Y.2.1 pc = .ok (.astore_n j, 1)) (hi : (j : Nat) = i) (hn : i < Y.2.2.1) (hp : ww_put i (va_rf r) lv = lv2) (k : ww_A g Y d kc ks M (pc + 1) lv2 (st) Q X) : ww_A g Y d kc ks M (pc) lv (va_rf r :: st) Q X := by
  cases r with
  | none => exact fun p l e R s m args below meth c H locs cells slots mc ms ls C B hl hH hS => lv_astore_nN C.1 C.2.1 hd hi hl.1 hn rfl (fun ls2 h2 => by subst hp; exact (fun hl2 => k p l e R s m args below meth c H locs cells slots mc ms ls2 C B hl2 hH hS) (ww_lv_put hl.2 rfl h2))
  | some a => exact fun p l e R s m args below meth c H locs cells slots mc ms ls C B hl hH hS => lv_astore_n C.1 C.2.1 hd hi hl.1 hn rfl (fun ls2 h2 => by subst hp; exact (fun hl2 => k p l e R s m args below meth c H locs cells slots mc ms ls2 C B hl2 hH hS) (ww_lv_put hl.2 rfl h2))
theorem ww_astoreQ {i : Nat} {r : Option Nat} {lv2 : List (Nat × Value)} (hd : decode Y.2.1 pc = .ok (.astore i, 2)) (hn : i < Y.2.2.1) (hp : ww_put i (va_rf r) lv = lv2) (k : ww_A g Y d kc ks M (pc + 2) lv2 (st) Q X) : ww_A g Y d kc ks M (pc) lv (va_rf r :: st) Q X := by
  cases r with
  | none => exact fun p l e R s m args below meth c H locs cells slots mc ms ls C B hl hH hS => lv_astoreN C.1 C.2.1 hd hl.1 hn rfl (fun ls2 h2 => by subst hp; exact (fun hl2 => k p l e R s m args below meth c H locs cells slots mc ms ls2 C B hl2 hH hS) (ww_lv_put hl.2 rfl h2))
  | some a => exact fun p l e R s m args below meth c H locs cells slots mc ms ls C B hl hH hS => lv_astore C.1 C.2.1 hd hl.1 hn rfl (fun ls2 h2 => by subst hp; exact (fun hl2 => k p l e R s m args below meth c H locs cells slots mc ms ls2 C B hl2 hH hS) (ww_lv_put hl.2 rfl h2))
theorem ww_iinc {i : Nat} {n : Int} {x v : Int32} {lv2 : List (Nat × Value)} (hd : decode Y.2.1 pc = .ok (.iinc i n, 3)) (ha : ww_at lv i = some (.int x)) (hv : x + Int32.ofInt n = v) (hn : i < Y.2.2.1) (hp : ww_put i (.int v) lv = lv2) (k : ww_A g Y d kc ks M (pc + 3) lv2 (st) Q X) : ww_A g Y d kc ks M (pc) lv (st) Q X := fun p l e R s m args below meth c H locs cells slots mc ms ls C B hl hH hS =>  by
  obtain ⟨j, hj⟩ := List.getElem?_of_mem (ww_at_mem ha)
  exact lv_iinc C.1 C.2.1 hd hl.1 hj hv hn rfl (fun ls2 h2 => by subst hp; exact (fun hl2 => k p l e R s m args below meth c H locs cells slots mc ms ls2 C B hl2 hH hS) (ww_lv_put hl.2 rfl h2))
theorem ww_iadd {x y : Int32} (hd : decode Y.2.1 pc = .ok (.iadd, 1))  (k : ww_A g Y d kc ks M (pc + 1) lv (.int (x + y) :: st) Q X) : ww_A g Y d kc ks M (pc) lv (.int y :: .int x :: st) Q X := fun p l e R s m args below meth c H locs cells slots mc ms ls C B hl hH hS => lv_iadd C.1 C.2.1 hd (k p l e R s m args below meth c H locs cells slots mc ms ls C B hl hH hS)
theorem ww_isub {x y : Int32} (hd : decode Y.2.1 pc = .ok (.isub, 1))  (k : ww_A g Y d kc ks M (pc + 1) lv (.int (x - y) :: st) Q X) : ww_A g Y d kc ks M (pc) lv (.int y :: .int x :: st) Q X := fun p l e R s m args below meth c H locs cells slots mc ms ls C B hl hH hS => lv_isub C.1 C.2.1 hd (k p l e R s m args below meth c H locs cells slots mc ms ls C B hl hH hS)
theorem ww_imul {x y : Int32} (hd : decode Y.2.1 pc = .ok (.imul, 1))  (k : ww_A g Y d kc ks M (pc + 1) lv (.int (x * y) :: st) Q X) : ww_A g Y d kc ks M (pc) lv (.int y :: .int x :: st) Q X := fun p l e R s m args below meth c H locs cells slots mc ms ls C B hl hH hS => lv_imul C.1 C.2.1 hd (k p l e R s m args below meth c H locs cells slots mc ms ls C B hl hH hS)
theorem ww_iand {x y : Int32} (hd : decode Y.2.1 pc = .ok (.iand, 1))  (k : ww_A g Y d kc ks M (pc + 1) lv (.int (x &&& y) :: st) Q X) : ww_A g Y d kc ks M (pc) lv (.int y :: .int x :: st) Q X := fun p l e R s m args below meth c H locs cells slots mc ms ls C B hl hH hS => lv_iand C.1 C.2.1 hd (k p l e R s m args below meth c H locs cells slots mc ms ls C B hl hH hS)
theorem ww_ior {x y : Int32} (hd : decode Y.2.1 pc = .ok (.ior, 1))  (k : ww_A g Y d kc ks M (pc + 1) lv (.int (x ||| y) :: st) Q X) : ww_A g Y d kc ks M (pc) lv (.int y :: .int x :: st) Q X := fun p l e R s m args below meth c H locs cells slots mc ms ls C B hl hH hS => lv_ior C.1 C.2.1 hd (k p l e R s m args below meth c H locs cells slots mc ms ls C B hl hH hS)
theorem ww_ishl {x y : Int32} (hd : decode Y.2.1 pc = .ok (.ishl, 1))  (k : ww_A g Y d kc ks M (pc + 1) lv (.int (x <<< (y &&& 31)) :: st) Q X) : ww_A g Y d kc ks M (pc) lv (.int y :: .int x :: st) Q X := fun p l e R s m args below meth c H locs cells slots mc ms ls C B hl hH hS => lv_ishl C.1 C.2.1 hd (k p l e R s m args below meth c H locs cells slots mc ms ls C B hl hH hS)
theorem ww_ishr {x y : Int32} (hd : decode Y.2.1 pc = .ok (.ishr, 1))  (k : ww_A g Y d kc ks M (pc + 1) lv (.int (x >>> (y &&& 31)) :: st) Q X) : ww_A g Y d kc ks M (pc) lv (.int y :: .int x :: st) Q X := fun p l e R s m args below meth c H locs cells slots mc ms ls C B hl hH hS => lv_ishr C.1 C.2.1 hd (k p l e R s m args below meth c H locs cells slots mc ms ls C B hl hH hS)
theorem ww_iushr {x y v : Int32} (hd : decode Y.2.1 pc = .ok (.iushr, 1)) (hv : (x.toUInt32 >>> (y.toUInt32 &&& Int32.toUInt32 31)).toInt32 = v) (k : ww_A g Y d kc ks M (pc + 1) lv (.int v :: st) Q X) : ww_A g Y d kc ks M (pc) lv (.int y :: .int x :: st) Q X := fun p l e R s m args below meth c H locs cells slots mc ms ls C B hl hH hS => lv_iushr C.1 C.2.1 hd hv (k p l e R s m args below meth c H locs cells slots mc ms ls C B hl hH hS)
theorem ww_idiv {x y : Int32} (hd : decode Y.2.1 pc = .ok (.idiv, 1)) (hne : ¬ y = 0) (k : ww_A g Y d kc ks M (pc + 1) lv (.int (x / y) :: st) Q X) : ww_A g Y d kc ks M (pc) lv (.int y :: .int x :: st) Q X := fun p l e R s m args below meth c H locs cells slots mc ms ls C B hl hH hS => lv_idiv C.1 C.2.1 hd hne (k p l e R s m args below meth c H locs cells slots mc ms ls C B hl hH hS)
theorem ww_irem {x y : Int32} (hd : decode Y.2.1 pc = .ok (.irem, 1)) (hne : ¬ y = 0) (k : ww_A g Y d kc ks M (pc + 1) lv (.int (x - x / y * y) :: st) Q X) : ww_A g Y d kc ks M (pc) lv (.int y :: .int x :: st) Q X := fun p l e R s m args below meth c H locs cells slots mc ms ls C B hl hH hS => lv_irem C.1 C.2.1 hd hne (k p l e R s m args below meth c H locs cells slots mc ms ls C B hl hH hS)
theorem ww_ineg {x : Int32} (hd : decode Y.2.1 pc = .ok (.ineg, 1))  (k : ww_A g Y d kc ks M (pc + 1) lv (.int (-x) :: st) Q X) : ww_A g Y d kc ks M (pc) lv (.int x :: st) Q X := fun p l e R s m args below meth c H locs cells slots mc ms ls C B hl hH hS => lv_ineg C.1 C.2.1 hd (k p l e R s m args below meth c H locs cells slots mc ms ls C B hl hH hS)
theorem ww_i2l {x : Int32} (hd : decode Y.2.1 pc = .ok (.i2l, 1))  (k : ww_A g Y d kc ks M (pc + 1) lv (.long x.toInt64 :: st) Q X) : ww_A g Y d kc ks M (pc) lv (.int x :: st) Q X := fun p l e R s m args below meth c H locs cells slots mc ms ls C B hl hH hS => lv_i2l C.1 C.2.1 hd rfl (k p l e R s m args below meth c H locs cells slots mc ms ls C B hl hH hS)
theorem ww_lcmp {x y : Int64} (hd : decode Y.2.1 pc = .ok (.lcmp, 1))  (k : ww_A g Y d kc ks M (pc + 1) lv (.int (lg_cmp x y) :: st) Q X) : ww_A g Y d kc ks M (pc) lv (.long y :: .long x :: st) Q X := fun p l e R s m args below meth c H locs cells slots mc ms ls C B hl hH hS => W.lcmp C.1 C.2.1 hd (k p l e R s m args below meth c H locs cells slots mc ms ls C B hl hH hS)
theorem ww_dup {v : Value} (hd : decode Y.2.1 pc = .ok (.dup, 1)) (h1 : v.category = 1) (k : ww_A g Y d kc ks M (pc + 1) lv (v :: v :: st) Q X) : ww_A g Y d kc ks M (pc) lv (v :: st) Q X := fun p l e R s m args below meth c H locs cells slots mc ms ls C B hl hH hS => lv_dup C.1 C.2.1 hd h1 (k p l e R s m args below meth c H locs cells slots mc ms ls C B hl hH hS)
theorem ww_dup2 {v w : Value} (hd : decode Y.2.1 pc = .ok (.dup2, 1)) (h1 : v.category = 1) (h2 : w.category = 1) (k : ww_A g Y d kc ks M (pc + 1) lv (v :: w :: v :: w :: st) Q X) : ww_A g Y d kc ks M (pc) lv (v :: w :: st) Q X := fun p l e R s m args below meth c H locs cells slots mc ms ls C B hl hH hS => lv_dup2_11 C.1 C.2.1 hd h1 h2 (k p l e R s m args below meth c H locs cells slots mc ms ls C B hl hH hS)
theorem ww_dup_x1 {v w : Value} (hd : decode Y.2.1 pc = .ok (.dup_x1, 1)) (h1 : v.category = 1) (h2 : w.category = 1) (k : ww_A g Y d kc ks M (pc + 1) lv (v :: w :: v :: st) Q X) : ww_A g Y d kc ks M (pc) lv (v :: w :: st) Q X := fun p l e R s m args below meth c H locs cells slots mc ms ls C B hl hH hS => lv_dup_x1 C.1 C.2.1 hd h1 h2 (k p l e R s m args below meth c H locs cells slots mc ms ls C B hl hH hS)
theorem ww_pop {v : Value} (hd : decode Y.2.1 pc = .ok (.pop, 1)) (h1 : v.category = 1) (k : ww_A g Y d kc ks M (pc + 1) lv (st) Q X) : ww_A g Y d kc ks M (pc) lv (v :: st) Q X := fun p l e R s m args below meth c H locs cells slots mc ms ls C B hl hH hS => lv_pop C.1 C.2.1 hd h1 (k p l e R s m args below meth c H locs cells slots mc ms ls C B hl hH hS)
theorem ww_if_eq {x : Int32} {off : Int} {tgt : Nat} (hd : decode Y.2.1 pc = .ok (.ifCond .eq off, 3)) (ht : (pc : Int) + off = (tgt : Int)) (kt : x = 0 → ww_A g Y d kc ks M (tgt) lv (st) Q X) (kf : ¬ x = 0 → ww_A g Y d kc ks M (pc + 3) lv (st) Q X) : ww_A g Y d kc ks M (pc) lv (.int x :: st) Q X := fun p l e R s m args below meth c H locs cells slots mc ms ls C B hl hH hS => lv_if_eq C.1 C.2.1 hd ht (fun z => kt z p l e R s m args below meth c H locs cells slots mc ms ls C B hl hH hS) (fun z => kf z p l e R s m args below meth c H locs cells slots mc ms ls C B hl hH hS)
theorem ww_if_eq_t {x : Int32} {off : Int} {tgt : Nat} (hd : decode Y.2.1 pc = .ok (.ifCond .eq off, 3)) (ht : (pc : Int) + off = (tgt : Int)) (hc : x = 0) (kt : ww_A g Y d kc ks M (tgt) lv (st) Q X) : ww_A g Y d kc ks M (pc) lv (.int x :: st) Q X := ww_if_eq hd ht (fun _ => kt) (fun z => absurd hc z)
theorem ww_if_eq_f {x : Int32} {off : Int} {tgt : Nat} (hd : decode Y.2.1 pc = .ok (.ifCond .eq off, 3)) (ht : (pc : Int) + off = (tgt : Int)) (hc : ¬ x = 0) (kf : ww_A g Y d kc ks M (pc + 3) lv (st) Q X) : ww_A g Y d kc ks M (pc) lv (.int x :: st) Q X := ww_if_eq hd ht (fun z => absurd z hc) (fun _ => kf)
theorem ww_icmp_eq {x y : Int32} {off : Int} {tgt : Nat} (hd : decode Y.2.1 pc = .ok (.if_icmp .eq off, 3)) (ht : (pc : Int) + off = (tgt : Int)) (kt : x = y → ww_A g Y d kc ks M (tgt) lv (st) Q X) (kf : ¬ x = y → ww_A g Y d kc ks M (pc + 3) lv (st) Q X) : ww_A g Y d kc ks M (pc) lv (.int y :: .int x :: st) Q X := fun p l e R s m args below meth c H locs cells slots mc ms ls C B hl hH hS => lv_icmp_eq C.1 C.2.1 hd ht (fun z => kt z p l e R s m args below meth c H locs cells slots mc ms ls C B hl hH hS) (fun z => kf z p l e R s m args below meth c H locs cells slots mc ms ls C B hl hH hS)
theorem ww_icmp_eq_t {x y : Int32} {off : Int} {tgt : Nat} (hd : decode Y.2.1 pc = .ok (.if_icmp .eq off, 3)) (ht : (pc : Int) + off = (tgt : Int)) (hc : x = y) (kt : ww_A g Y d kc ks M (tgt) lv (st) Q X) : ww_A g Y d kc ks M (pc) lv (.int y :: .int x :: st) Q X := ww_icmp_eq hd ht (fun _ => kt) (fun z => absurd hc z)
theorem ww_icmp_eq_f {x y : Int32} {off : Int} {tgt : Nat} (hd : decode Y.2.1 pc = .ok (.if_icmp .eq off, 3)) (ht : (pc : Int) + off = (tgt : Int)) (hc : ¬ x = y) (kf : ww_A g Y d kc ks M (pc + 3) lv (st) Q X) : ww_A g Y d kc ks M (pc) lv (.int y :: .int x :: st) Q X := ww_icmp_eq hd ht (fun z => absurd z hc) (fun _ => kf)
theorem ww_if_ne {x : Int32} {off : Int} {tgt : Nat} (hd : decode Y.2.1 pc = .ok (.ifCond .ne off, 3)) (ht : (pc : Int) + off = (tgt : Int)) (kt : ¬ x = 0 → ww_A g Y d kc ks M (tgt) lv (st) Q X) (kf : x = 0 → ww_A g Y d kc ks M (pc + 3) lv (st) Q X) : ww_A g Y d kc ks M (pc) lv (.int x :: st) Q X := fun p l e R s m args below meth c H locs cells slots mc ms ls C B hl hH hS => lv_if_ne C.1 C.2.1 hd ht (fun z => kt z p l e R s m args below meth c H locs cells slots mc ms ls C B hl hH hS) (fun z => kf z p l e R s m args below meth c H locs cells slots mc ms ls C B hl hH hS)
theorem ww_if_ne_t {x : Int32} {off : Int} {tgt : Nat} (hd : decode Y.2.1 pc = .ok (.ifCond .ne off, 3)) (ht : (pc : Int) + off = (tgt : Int)) (hc : ¬ x = 0) (kt : ww_A g Y d kc ks M (tgt) lv (st) Q X) : ww_A g Y d kc ks M (pc) lv (.int x :: st) Q X := ww_if_ne hd ht (fun _ => kt) (fun z => absurd z hc)
theorem ww_if_ne_f {x : Int32} {off : Int} {tgt : Nat} (hd : decode Y.2.1 pc = .ok (.ifCond .ne off, 3)) (ht : (pc : Int) + off = (tgt : Int)) (hc : x = 0) (kf : ww_A g Y d kc ks M (pc + 3) lv (st) Q X) : ww_A g Y d kc ks M (pc) lv (.int x :: st) Q X := ww_if_ne hd ht (fun z => absurd hc z) (fun _ => kf)
theorem ww_icmp_ne {x y : Int32} {off : Int} {tgt : Nat} (hd : decode Y.2.1 pc = .ok (.if_icmp .ne off, 3)) (ht : (pc : Int) + off = (tgt : Int)) (kt : ¬ x = y → ww_A g Y d kc ks M (tgt) lv (st) Q X) (kf : x = y → ww_A g Y d kc ks M (pc + 3) lv (st) Q X) : ww_A g Y d kc ks M (pc) lv (.int y :: .int x :: st) Q X := fun p l e R s m args below meth c H locs cells slots mc ms ls C B hl hH hS => lv_icmp_ne C.1 C.2.1 hd ht (fun z => kt z p l e R s m args below meth c H locs cells slots mc ms ls C B hl hH hS) (fun z => kf z p l e R s m args below meth c H locs cells slots mc ms ls C B hl hH hS)
theorem ww_icmp_ne_t {x y : Int32} {off : Int} {tgt : Nat} (hd : decode Y.2.1 pc = .ok (.if_icmp .ne off, 3)) (ht : (pc : Int) + off = (tgt : Int)) (hc : ¬ x = y) (kt : ww_A g Y d kc ks M (tgt) lv (st) Q X) : ww_A g Y d kc ks M (pc) lv (.int y :: .int x :: st) Q X := ww_icmp_ne hd ht (fun _ => kt) (fun z => absurd z hc)
theorem ww_icmp_ne_f {x y : Int32} {off : Int} {tgt : Nat} (hd : decode Y.2.1 pc = .ok (.if_icmp .ne off, 3)) (ht : (pc : Int) + off = (tgt : Int)) (hc : x = y) (kf : ww_A g Y d kc ks M (pc + 3) lv (st) Q X) : ww_A g Y d kc ks M (pc) lv (.int y :: .int x :: st) Q X := ww_icmp_ne hd ht (fun z => absurd hc z) (fun _ => kf)
theorem ww_if_lt {x : Int32} {off : Int} {tgt : Nat} (hd : decode Y.2.1 pc = .ok (.ifCond .lt off, 3)) (ht : (pc : Int) + off = (tgt : Int)) (kt : x < 0 → ww_A g Y d kc ks M (tgt) lv (st) Q X) (kf : ¬ x < 0 → ww_A g Y d kc ks M (pc + 3) lv (st) Q X) : ww_A g Y d kc ks M (pc) lv (.int x :: st) Q X := fun p l e R s m args below meth c H locs cells slots mc ms ls C B hl hH hS => lv_if_lt C.1 C.2.1 hd ht (fun z => kt z p l e R s m args below meth c H locs cells slots mc ms ls C B hl hH hS) (fun z => kf z p l e R s m args below meth c H locs cells slots mc ms ls C B hl hH hS)
theorem ww_if_lt_t {x : Int32} {off : Int} {tgt : Nat} (hd : decode Y.2.1 pc = .ok (.ifCond .lt off, 3)) (ht : (pc : Int) + off = (tgt : Int)) (hc : x < 0) (kt : ww_A g Y d kc ks M (tgt) lv (st) Q X) : ww_A g Y d kc ks M (pc) lv (.int x :: st) Q X := ww_if_lt hd ht (fun _ => kt) (fun z => absurd hc z)
theorem ww_if_lt_f {x : Int32} {off : Int} {tgt : Nat} (hd : decode Y.2.1 pc = .ok (.ifCond .lt off, 3)) (ht : (pc : Int) + off = (tgt : Int)) (hc : ¬ x < 0) (kf : ww_A g Y d kc ks M (pc + 3) lv (st) Q X) : ww_A g Y d kc ks M (pc) lv (.int x :: st) Q X := ww_if_lt hd ht (fun z => absurd z hc) (fun _ => kf)
theorem ww_icmp_lt {x y : Int32} {off : Int} {tgt : Nat} (hd : decode Y.2.1 pc = .ok (.if_icmp .lt off, 3)) (ht : (pc : Int) + off = (tgt : Int)) (kt : x < y → ww_A g Y d kc ks M (tgt) lv (st) Q X) (kf : ¬ x < y → ww_A g Y d kc ks M (pc + 3) lv (st) Q X) : ww_A g Y d kc ks M (pc) lv (.int y :: .int x :: st) Q X := fun p l e R s m args below meth c H locs cells slots mc ms ls C B hl hH hS => lv_icmp_lt C.1 C.2.1 hd ht (fun z => kt z p l e R s m args below meth c H locs cells slots mc ms ls C B hl hH hS) (fun z => kf z p l e R s m args below meth c H locs cells slots mc ms ls C B hl hH hS)
theorem ww_icmp_lt_t {x y : Int32} {off : Int} {tgt : Nat} (hd : decode Y.2.1 pc = .ok (.if_icmp .lt off, 3)) (ht : (pc : Int) + off = (tgt : Int)) (hc : x < y) (kt : ww_A g Y d kc ks M (tgt) lv (st) Q X) : ww_A g Y d kc ks M (pc) lv (.int y :: .int x :: st) Q X := ww_icmp_lt hd ht (fun _ => kt) (fun z => absurd hc z)
theorem ww_icmp_lt_f {x y : Int32} {off : Int} {tgt : Nat} (hd : decode Y.2.1 pc = .ok (.if_icmp .lt off, 3)) (ht : (pc : Int) + off = (tgt : Int)) (hc : ¬ x < y) (kf : ww_A g Y d kc ks M (pc + 3) lv (st) Q X) : ww_A g Y d kc ks M (pc) lv (.int y :: .int x :: st) Q X := ww_icmp_lt hd ht (fun z => absurd z hc) (fun _ => kf)
theorem ww_if_ge {x : Int32} {off : Int} {tgt : Nat} (hd : decode Y.2.1 pc = .ok (.ifCond .ge off, 3)) (ht : (pc : Int) + off = (tgt : Int)) (kt : 0 ≤ x → ww_A g Y d kc ks M (tgt) lv (st) Q X) (kf : ¬ 0 ≤ x → ww_A g Y d kc ks M (pc + 3) lv (st) Q X) : ww_A g Y d kc ks M (pc) lv (.int x :: st) Q X := fun p l e R s m args below meth c H locs cells slots mc ms ls C B hl hH hS => lv_if_ge C.1 C.2.1 hd ht (fun z => kt z p l e R s m args below meth c H locs cells slots mc ms ls C B hl hH hS) (fun z => kf z p l e R s m args below meth c H locs cells slots mc ms ls C B hl hH hS)
theorem ww_if_ge_t {x : Int32} {off : Int} {tgt : Nat} (hd : decode Y.2.1 pc = .ok (.ifCond .ge off, 3)) (ht : (pc : Int) + off = (tgt : Int)) (hc : 0 ≤ x) (kt : ww_A g Y d kc ks M (tgt) lv (st) Q X) : ww_A g Y d kc ks M (pc) lv (.int x :: st) Q X := ww_if_ge hd ht (fun _ => kt) (fun z => absurd hc z)
theorem ww_if_ge_f {x : Int32} {off : Int} {tgt : Nat} (hd : decode Y.2.1 pc = .ok (.ifCond .ge off, 3)) (ht : (pc : Int) + off = (tgt : Int)) (hc : ¬ 0 ≤ x) (kf : ww_A g Y d kc ks M (pc + 3) lv (st) Q X) : ww_A g Y d kc ks M (pc) lv (.int x :: st) Q X := ww_if_ge hd ht (fun z => absurd z hc) (fun _ => kf)
theorem ww_icmp_ge {x y : Int32} {off : Int} {tgt : Nat} (hd : decode Y.2.1 pc = .ok (.if_icmp .ge off, 3)) (ht : (pc : Int) + off = (tgt : Int)) (kt : y ≤ x → ww_A g Y d kc ks M (tgt) lv (st) Q X) (kf : ¬ y ≤ x → ww_A g Y d kc ks M (pc + 3) lv (st) Q X) : ww_A g Y d kc ks M (pc) lv (.int y :: .int x :: st) Q X := fun p l e R s m args below meth c H locs cells slots mc ms ls C B hl hH hS => lv_icmp_ge C.1 C.2.1 hd ht (fun z => kt z p l e R s m args below meth c H locs cells slots mc ms ls C B hl hH hS) (fun z => kf z p l e R s m args below meth c H locs cells slots mc ms ls C B hl hH hS)
theorem ww_icmp_ge_t {x y : Int32} {off : Int} {tgt : Nat} (hd : decode Y.2.1 pc = .ok (.if_icmp .ge off, 3)) (ht : (pc : Int) + off = (tgt : Int)) (hc : y ≤ x) (kt : ww_A g Y d kc ks M (tgt) lv (st) Q X) : ww_A g Y d kc ks M (pc) lv (.int y :: .int x :: st) Q X := ww_icmp_ge hd ht (fun _ => kt) (fun z => absurd hc z)
theorem ww_icmp_ge_f {x y : Int32} {off : Int} {tgt : Nat} (hd : decode Y.2.1 pc = .ok (.if_icmp .ge off, 3)) (ht : (pc : Int) + off = (tgt : Int)) (hc : ¬ y ≤ x) (kf : ww_A g Y d kc ks M (pc + 3) lv (st) Q X) : ww_A g Y d kc ks M (pc) lv (.int y :: .int x :: st) Q X := ww_icmp_ge hd ht (fun z => absurd z hc) (fun _ => kf)
theorem ww_if_gt {x : Int32} {off : Int} {tgt : Nat} (hd : decode Y.2.1 pc = .ok (.ifCond .gt off, 3)) (ht : (pc : Int) + off = (tgt : Int)) (kt : 0 < x → ww_A g Y d kc ks M (tgt) lv (st) Q X) (kf : ¬ 0 < x → ww_A g Y d kc ks M (pc + 3) lv (st) Q X) : ww_A g Y d kc ks M (pc) lv (.int x :: st) Q X := fun p l e R s m args below meth c H locs cells slots mc ms ls C B hl hH hS => lv_if_gt C.1 C.2.1 hd ht (fun z => kt z p l e R s m args below meth c H locs cells slots mc ms ls C B hl hH hS) (fun z => kf z p l e R s m args below meth c H locs cells slots mc ms ls C B hl hH hS)
theorem ww_if_gt_t {x : Int32} {off : Int} {tgt : Nat} (hd : decode Y.2.1 pc = .ok (.ifCond .gt off, 3)) (ht : (pc : Int) + off = (tgt : Int)) (hc : 0 < x) (kt : ww_A g Y d kc ks M (tgt) lv (st) Q X) : ww_A g Y d kc ks M (pc) lv (.int x :: st) Q X := ww_if_gt hd ht (fun _ => kt) (fun z => absurd hc z)
theorem ww_if_gt_f {x : Int32} {off : Int} {tgt : Nat} (hd : decode Y.2.1 pc = .ok (.ifCond .gt off, 3)) (ht : (pc : Int) + off = (tgt : Int)) (hc : ¬ 0 < x) (kf : ww_A g Y d kc ks M (pc + 3) lv (st) Q X) : ww_A g Y d kc ks M (pc) lv (.int x :: st) Q X := ww_if_gt hd ht (fun z => absurd z hc) (fun _ => kf)
theorem ww_icmp_gt {x y : Int32} {off : Int} {tgt : Nat} (hd : decode Y.2.1 pc = .ok (.if_icmp .gt off, 3)) (ht : (pc : Int) + off = (tgt : Int)) (kt : y < x → ww_A g Y d kc ks M (tgt) lv (st) Q X) (kf : ¬ y < x → ww_A g Y d kc ks M (pc + 3) lv (st) Q X) : ww_A g Y d kc ks M (pc) lv (.int y :: .int x :: st) Q X := fun p l e R s m args below meth c H locs cells slots mc ms ls C B hl hH hS => lv_icmp_gt C.1 C.2.1 hd ht (fun z => kt z p l e R s m args below meth c H locs cells slots mc ms ls C B hl hH hS) (fun z => kf z p l e R s m args below meth c H locs cells slots mc ms ls C B hl hH hS)
theorem ww_icmp_gt_t {x y : Int32} {off : Int} {tgt : Nat} (hd : decode Y.2.1 pc = .ok (.if_icmp .gt off, 3)) (ht : (pc : Int) + off = (tgt : Int)) (hc : y < x) (kt : ww_A g Y d kc ks M (tgt) lv (st) Q X) : ww_A g Y d kc ks M (pc) lv (.int y :: .int x :: st) Q X := ww_icmp_gt hd ht (fun _ => kt) (fun z => absurd hc z)
theorem ww_icmp_gt_f {x y : Int32} {off : Int} {tgt : Nat} (hd : decode Y.2.1 pc = .ok (.if_icmp .gt off, 3)) (ht : (pc : Int) + off = (tgt : Int)) (hc : ¬ y < x) (kf : ww_A g Y d kc ks M (pc + 3) lv (st) Q X) : ww_A g Y d kc ks M (pc) lv (.int y :: .int x :: st) Q X := ww_icmp_gt hd ht (fun z => absurd z hc) (fun _ => kf)
theorem ww_if_le {x : Int32} {off : Int} {tgt : Nat} (hd : decode Y.2.1 pc = .ok (.ifCond .le off, 3)) (ht : (pc : Int) + off = (tgt : Int)) (kt : x ≤ 0 → ww_A g Y d kc ks M (tgt) lv (st) Q X) (kf : ¬ x ≤ 0 → ww_A g Y d kc ks M (pc + 3) lv (st) Q X) : ww_A g Y d kc ks M (pc) lv (.int x :: st) Q X := fun p l e R s m args below meth c H locs cells slots mc ms ls C B hl hH hS => lv_if_le C.1 C.2.1 hd ht (fun z => kt z p l e R s m args below meth c H locs cells slots mc ms ls C B hl hH hS) (fun z => kf z p l e R s m args below meth c H locs cells slots mc ms ls C B hl hH hS)
theorem ww_if_le_t {x : Int32} {off : Int} {tgt : Nat} (hd : decode Y.2.1 pc = .ok (.ifCond .le off, 3)) (ht : (pc : Int) + off = (tgt : Int)) (hc : x ≤ 0) (kt : ww_A g Y d kc ks M (tgt) lv (st) Q X) : ww_A g Y d kc ks M (pc) lv (.int x :: st) Q X := ww_if_le hd ht (fun _ => kt) (fun z => absurd hc z)
theorem ww_if_le_f {x : Int32} {off : Int} {tgt : Nat} (hd : decode Y.2.1 pc = .ok (.ifCond .le off, 3)) (ht : (pc : Int) + off = (tgt : Int)) (hc : ¬ x ≤ 0) (kf : ww_A g Y d kc ks M (pc + 3) lv (st) Q X) : ww_A g Y d kc ks M (pc) lv (.int x :: st) Q X := ww_if_le hd ht (fun z => absurd z hc) (fun _ => kf)
theorem ww_icmp_le {x y : Int32} {off : Int} {tgt : Nat} (hd : decode Y.2.1 pc = .ok (.if_icmp .le off, 3)) (ht : (pc : Int) + off = (tgt : Int)) (kt : x ≤ y → ww_A g Y d kc ks M (tgt) lv (st) Q X) (kf : ¬ x ≤ y → ww_A g Y d kc ks M (pc + 3) lv (st) Q X) : ww_A g Y d kc ks M (pc) lv (.int y :: .int x :: st) Q X := fun p l e R s m args below meth c H locs cells slots mc ms ls C B hl hH hS => lv_icmp_le C.1 C.2.1 hd ht (fun z => kt z p l e R s m args below meth c H locs cells slots mc ms ls C B hl hH hS) (fun z => kf z p l e R s m args below meth c H locs cells slots mc ms ls C B hl hH hS)
theorem ww_icmp_le_t {x y : Int32} {off : Int} {tgt : Nat} (hd : decode Y.2.1 pc = .ok (.if_icmp .le off, 3)) (ht : (pc : Int) + off = (tgt : Int)) (hc : x ≤ y) (kt : ww_A g Y d kc ks M (tgt) lv (st) Q X) : ww_A g Y d kc ks M (pc) lv (.int y :: .int x :: st) Q X := ww_icmp_le hd ht (fun _ => kt) (fun z => absurd hc z)
theorem ww_icmp_le_f {x y : Int32} {off : Int} {tgt : Nat} (hd : decode Y.2.1 pc = .ok (.if_icmp .le off, 3)) (ht : (pc : Int) + off = (tgt : Int)) (hc : ¬ x ≤ y) (kf : ww_A g Y d kc ks M (pc + 3) lv (st) Q X) : ww_A g Y d kc ks M (pc) lv (.int y :: .int x :: st) Q X := ww_icmp_le hd ht (fun z => absurd z hc) (fun _ => kf)
theorem ww_goto {off : Int} {tgt : Nat} (hd : decode Y.2.1 pc = .ok (.goto off, 3)) (ht : (pc : Int) + off = (tgt : Int)) (k : ww_A g Y d kc ks M (tgt) lv (st) Q X) : ww_A g Y d kc ks M (pc) lv (st) Q X := fun p l e R s m args below meth c H locs cells slots mc ms ls C B hl hH hS => lv_goto C.1 C.2.1 hd ht (k p l e R s m args below meth c H locs cells slots mc ms ls C B hl hH hS)
theorem ww_ifnull_f {a : Nat} {off : Int} (hd : decode Y.2.1 pc = .ok (.ifnull off, 3)) (k : ww_A g Y d kc ks M (pc + 3) lv (st) Q X) : ww_A g Y d kc ks M (pc) lv (.ref a :: st) Q X := fun p l e R s m args below meth c H locs cells slots mc ms ls C B hl hH hS => lv_ifnull C.1 C.2.1 hd (k p l e R s m args below meth c H locs cells slots mc ms ls C B hl hH hS)
theorem ww_ifnull_t {off : Int} {tgt : Nat} (hd : decode Y.2.1 pc = .ok (.ifnull off, 3)) (ht : (pc : Int) + off = (tgt : Int)) (k : ww_A g Y d kc ks M (tgt) lv (st) Q X) : ww_A g Y d kc ks M (pc) lv (.null :: st) Q X := fun p l e R s m args below meth c H locs cells slots mc ms ls C B hl hH hS => lv_ifnullN C.1 C.2.1 hd ht (k p l e R s m args below meth c H locs cells slots mc ms ls C B hl hH hS)
theorem ww_ifnonnull_t {a : Nat} {off : Int} {tgt : Nat} (hd : decode Y.2.1 pc = .ok (.ifnonnull off, 3)) (ht : (pc : Int) + off = (tgt : Int)) (k : ww_A g Y d kc ks M (tgt) lv (st) Q X) : ww_A g Y d kc ks M (pc) lv (.ref a :: st) Q X := fun p l e R s m args below meth c H locs cells slots mc ms ls C B hl hH hS => lv_ifnonnull C.1 C.2.1 hd ht (k p l e R s m args below meth c H locs cells slots mc ms ls C B hl hH hS)
theorem ww_ifnonnull_f {off : Int} (hd : decode Y.2.1 pc = .ok (.ifnonnull off, 3)) (k : ww_A g Y d kc ks M (pc + 3) lv (st) Q X) : ww_A g Y d kc ks M (pc) lv (.null :: st) Q X := fun p l e R s m args below meth c H locs cells slots mc ms ls C B hl hH hS => lv_ifnonnullN C.1 C.2.1 hd (k p l e R s m args below meth c H locs cells slots mc ms ls C B hl hH hS)
theorem ww_ifnull {r : Option Nat} {off : Int} {tgt : Nat} (hd : decode Y.2.1 pc = .ok (.ifnull off, 3)) (ht : (pc : Int) + off = (tgt : Int)) (kt : r = none → ww_A g Y d kc ks M (tgt) lv (st) Q X) (kf : ∀ a, r = some a → ww_A g Y d kc ks M (pc + 3) lv (st) Q X) : ww_A g Y d kc ks M (pc) lv (va_rf r :: st) Q X := by
  cases r with
  | none => exact ww_ifnull_t hd ht (kt rfl)
  | some a => exact ww_ifnull_f hd (kf a rfl)
theorem ww_ifnonnull {r : Option Nat} {off : Int} {tgt : Nat} (hd : decode Y.2.1 pc = .ok (.ifnonnull off, 3)) (ht : (pc : Int) + off = (tgt : Int)) (kt : ∀ a, r = some a → ww_A g Y d kc ks M (tgt) lv (st) Q X) (kf : r = none → ww_A g Y d kc ks M (pc + 3) lv (st) Q X) : ww_A g Y d kc ks M (pc) lv (va_rf r :: st) Q X := by
  cases r with
  | none => exact ww_ifnonnull_f hd (kf rfl)
  | some a => exact ww_ifnonnull_t hd ht (kt a rfl)
theorem ww_acmp_eq {rx ry : Option Nat} {vx vy : Value} {off : Int} {tgt : Nat} (hx : va_rf rx = vx) (hy : va_rf ry = vy) (hd : decode Y.2.1 pc = .ok (.if_acmp .eq off, 3)) (ht : (pc : Int) + off = (tgt : Int)) (kt : rx = ry → ww_A g Y d kc ks M (tgt) lv (st) Q X) (kf : ¬ rx = ry → ww_A g Y d kc ks M (pc + 3) lv (st) Q X) : ww_A g Y d kc ks M (pc) lv (vy :: vx :: st) Q X := by
  subst hx hy
  exact fun p l e R s m args below meth c H locs cells slots mc ms ls C B hl hH hS => lv_acmp_eq C.1 C.2.1 hd ht (fun z => kt z p l e R s m args below meth c H locs cells slots mc ms ls C B hl hH hS) (fun z => kf z p l e R s m args below meth c H locs cells slots mc ms ls C B hl hH hS)
theorem ww_acmp_ne {rx ry : Option Nat} {vx vy : Value} {off : Int} {tgt : Nat} (hx : va_rf rx = vx) (hy : va_rf ry = vy) (hd : decode Y.2.1 pc = .ok (.if_acmp .ne off, 3)) (ht : (pc : Int) + off = (tgt : Int)) (kt : ¬ rx = ry → ww_A g Y d kc ks M (tgt) lv (st) Q X) (kf : rx = ry → ww_A g Y d kc ks M (pc + 3) lv (st) Q X) : ww_A g Y d kc ks M (pc) lv (vy :: vx :: st) Q X := by
  subst hx hy
  exact fun p l e R s m args below meth c H locs cells slots mc ms ls C B hl hH hS => lv_acmp_ne C.1 C.2.1 hd ht (fun z => kt z p l e R s m args below meth c H locs cells slots mc ms ls C B hl hH hS) (fun z => kf z p l e R s m args below meth c H locs cells slots mc ms ls C B hl hH hS)
theorem ww_tableIn {dflt lo hi : Int} {offs : Array Int} {len : Nat} {x : Int32} {off : Int} {tgt : Nat} (hd : decode Y.2.1 pc = .ok (.tableswitch dflt lo hi offs, len)) (h1 : ¬ x.toInt < lo) (h2 : ¬ hi < x.toInt) (ho : offs[(x.toInt - lo).toNat]? = some off) (ht : (pc : Int) + off = (tgt : Int)) (k : ww_A g Y d kc ks M (tgt) lv (st) Q X) : ww_A g Y d kc ks M (pc) lv (.int x :: st) Q X := fun p l e R s m args below meth c H locs cells slots mc ms ls C B hl hH hS => lv_tableIn C.1 C.2.1 hd h1 h2 ho ht (k p l e R s m args below meth c H locs cells slots mc ms ls C B hl hH hS)
theorem ww_tableOut {dflt lo hi : Int} {offs : Array Int} {len : Nat} {x : Int32} {tgt : Nat} (hd : decode Y.2.1 pc = .ok (.tableswitch dflt lo hi offs, len)) (h : x.toInt < lo ∨ hi < x.toInt) (ht : (pc : Int) + dflt = (tgt : Int)) (k : ww_A g Y d kc ks M (tgt) lv (st) Q X) : ww_A g Y d kc ks M (pc) lv (.int x :: st) Q X := fun p l e R s m args below meth c H locs cells slots mc ms ls C B hl hH hS => lv_tableOut C.1 C.2.1 hd h ht (k p l e R s m args below meth c H locs cells slots mc ms ls C B hl hH hS)
theorem ww_lookup {dflt : Int} {ps : Array (Int × Int)} {len : Nat} {x : Int32} {off : Int} {tgt : Nat} (hd : decode Y.2.1 pc = .ok (.lookupswitch dflt ps, len)) (hp : (ps.toList.zip (ps.toList.drop 1)).all (fun (a, next) => a.1 < next.1) = true) (ho : Op.lookupswitch.offset ps.toList dflt x.toInt = off) (ht : (pc : Int) + off = (tgt : Int)) (k : ww_A g Y d kc ks M (tgt) lv (st) Q X) : ww_A g Y d kc ks M (pc) lv (.int x :: st) Q X := fun p l e R s m args below meth c H locs cells slots mc ms ls C B hl hH hS => lv_lookup C.1 C.2.1 hd hp ho ht (k p l e R s m args below meth c H locs cells slots mc ms ls C B hl hH hS)
theorem ww_sub {lv2 : List (Nat × Value)} (h : ww_le lv2 lv) (k : ww_A g Y d kc ks M (pc) lv2 (st) Q X) : ww_A g Y d kc ks M (pc) lv (st) Q X := fun p l e R s m args below meth c H locs cells slots mc ms ls C B hl hH hS => k p l e R s m args below meth c H locs cells slots mc ms ls C B ⟨⟨hl.1.1, hl.1.2.1, fun q hq => hl.1.2.2 q (ww_le_mem h q hq)⟩, fun q hq => hl.2 q (ww_le_mem h q hq)⟩ hH hS
theorem ww_less {kc2 ks2 : Nat} (h1 : kc2 ≤ kc) (h2 : ks2 ≤ ks) (k : ww_A g Y d kc2 ks2 M pc lv st Q X) : ww_A g Y d kc ks M pc lv st Q X := fun p l e R s m args below meth c H locs cells slots mc ms ls C B hl hH hS => k p l e R s m args below meth c H locs cells slots mc ms ls C ⟨by omega, by omega, B.2.2.1, B.2.2.2⟩ hl hH hS
end WWR
end
section
/-! ===== rules of the heap, of calls, throws and returns ===== -/
def ww_fld (own : String) (idx κ k : Nat) : Prop := ∃ (q : vw_C) (ref : String), vwCl[κ]? = some q ∧ k < q.2.2 ∧ q.2.2 = ww_nf κ ∧ Cond.fieldLink own idx ref (q.2.1 k).2.1 (q.2.1 k).2.2.1 ∈ ww_GW ∧ (∀ w ∈ u_ws q.1 q.2.1 q.2.2, w ∈ ww_GW) ∧ (ref = (q.2.1 k).1 ∨ Cond.sameField ref (q.2.1 k).1 (q.2.1 k).2.1 (q.2.1 k).2.2.1 ∈ ww_GW)
/-- what a store into a field asks besides -/
def ww_fst (y : MethodName) (κ k : Nat) (ty : FieldType) : Prop := ∃ (q : vw_C) (ty0 : Nat → FieldType), vwCl[κ]? = some q ∧ (∀ j, j < q.2.2 → parseFieldDescriptor (q.2.1 j).2.2.1 = some (ty0 j)) ∧ (∀ a, a < q.2.2 → ∀ b, b < q.2.2 → a ≠ b → (q.2.1 a).2.1 ≠ (q.2.1 b).2.1) ∧ ((q.2.1 k).2.2.2 = false ∨ ((q.2.1 k).2.2.2 = true ∧ y.name = "<init>" ∧ (q.2.1 k).1 = y.cls)) ∧ parseFieldDescriptor (q.2.1 k).2.2.1 = some ty
theorem ww_cl_len {κ : Nat} {q : vw_C} (h : vwCl[κ]? = some q) : κ < 9 := (List.getElem?_eq_some_iff.mp h).1
theorem ww_E_congr {cy : Nat → ClassId} {M M' : ww_M} {b : Nat} (h0 : M'.1 = M.1) (hX : ww_X M' b = ww_X M b) (hY : ww_Y M' b = ww_Y M b) (hZ : ww_Z M' b = ww_Z M b) (hfs : ∀ κ, ww_fs M' κ b = ww_fs M κ b) : ww_E cy M' b = ww_E cy M b := by
  have hK : ww_K M' = ww_K M := by unfold ww_K; rw [h0]
  have hN : ww_N M' = ww_N M := by unfold ww_N; rw [h0]
  unfold ww_E
  rw [hK, hN, hX, hY, hZ, hfs]
theorem ww_fv_sI_s {M : ww_M} {f a : Nat} {x : Int32} (hr : ww_ir f = false) : ww_fv (ww_sI M f a x) f a = .int x := by
  unfold ww_fv
  rw [if_neg (by rw [hr]; decide)]
  exact congrArg Value.int ww_u2s
theorem ww_fv_sI_n {M : ww_M} {f a f' b : Nat} {x : Int32} (h : ¬ (f' = f ∧ b = a)) : ww_fv (ww_sI M f a x) f' b = ww_fv M f' b := by
  have e : ww_I (ww_sI M f a x) f' b = ww_I M f' b := ww_u2n h
  unfold ww_fv
  rw [e]; rfl
theorem ww_fv_sR_s {M : ww_M} {f a : Nat} {x : Option Nat} (hr : ww_ir f = true) : ww_fv (ww_sR M f a x) f a = va_rf x := by
  unfold ww_fv
  rw [if_pos hr]
  exact congrArg va_rf ww_u2s
theorem ww_fv_sR_n {M : ww_M} {f a f' b : Nat} {x : Option Nat} (h : ¬ (f' = f ∧ b = a)) : ww_fv (ww_sR M f a x) f' b = ww_fv M f' b := by
  have e : ww_R (ww_sR M f a x) f' b = ww_R M f' b := ww_u2n h
  unfold ww_fv
  rw [e]; rfl
section WWH
variable {g : ww_G} {Y : ww_Yd} {d kc ks : Nat} {M : ww_M} {pc : Nat} {lv : List (Nat × Value)} {st : List Value} {Q : Option Value → ww_M → Prop} {X : String → ww_M → Prop}
theorem ww_get {κ k idx f a : Nat} (h : ww_fld Y.1.cls idx κ k) (hd : decode Y.2.1 pc = .ok (.getfield idx, 3)) (hf : 40 * κ + k = f) (ha : a ∈ ww_L M) (hK : ww_K M a = κ) (kk : ww_A g Y d kc ks M (pc + 3) lv (ww_fv M f a :: st) Q X) : ww_A g Y d kc ks M pc lv (.ref a :: st) Q X := by
  intro p l e R s m args below meth c H locs cells slots mc ms ls C B hl hH hS
  obtain ⟨hx, hb, hml, hret, htb, hown, hts, htr, hF, hfr, hlo⟩ := id C
  obtain ⟨q, ref, h1, h2, h3, h4, h5, h6⟩ := h
  obtain ⟨j, hj⟩ := ww_W_get (cy := g.2.2.1) ha
  rw [ww_E_o hK (ww_cl_len h1)] at hj
  subst hf
  refine va_get (C := q.1) (T := q.2.1) (N := q.2.2) (ref := ref) hx hb hts h5 hown hF.1.2 hH.1 j hj h1 k h2 (hts _ h4) (fun x hx' => ?_) (ww_fs_get (by rw [← h3]; exact h2)) hd (kk p l e R s m args below meth c H locs cells slots mc ms ls C B hl hH hS)
  rcases h6 with h6 | h6
  · rw [h6]; exact hx'
  · exact u_same (hts _ h6) x hx'
theorem ww_getI {κ k idx f a : Nat} (h : ww_fld Y.1.cls idx κ k) (hd : decode Y.2.1 pc = .ok (.getfield idx, 3)) (hf : 40 * κ + k = f) (hr : ww_ir f = false) (ha : a ∈ ww_L M) (hK : ww_K M a = κ) (kk : ww_A g Y d kc ks M (pc + 3) lv (.int (ww_I M f a) :: st) Q X) : ww_A g Y d kc ks M pc lv (.ref a :: st) Q X := by
  have e : ww_fv M f a = .int (ww_I M f a) := if_neg (by rw [hr]; decide)
  exact ww_get h hd hf ha hK (by rw [e]; exact kk)
theorem ww_getQ {κ k idx f a : Nat} (h : ww_fld Y.1.cls idx κ k) (hd : decode Y.2.1 pc = .ok (.getfield idx, 3)) (hf : 40 * κ + k = f) (hr : ww_ir f = true) (ha : a ∈ ww_L M) (hK : ww_K M a = κ) (kk : ww_A g Y d kc ks M (pc + 3) lv (va_rf (ww_R M f a) :: st) Q X) : ww_A g Y d kc ks M pc lv (.ref a :: st) Q X := by
  have e : ww_fv M f a = va_rf (ww_R M f a) := if_pos hr
  exact ww_get h hd hf ha hK (by rw [e]; exact kk)
theorem ww_getR {κ k idx f a b : Nat} (h : ww_fld Y.1.cls idx κ k) (hd : decode Y.2.1 pc = .ok (.getfield idx, 3)) (hf : 40 * κ + k = f) (hr : ww_ir f = true) (ha : a ∈ ww_L M) (hK : ww_K M a = κ) (hb : ww_R M f a = some b) (kk : ww_A g Y d kc ks M (pc + 3) lv (.ref b :: st) Q X) : ww_A g Y d kc ks M pc lv (.ref a :: st) Q X :=
  ww_getQ h hd hf hr ha hK (by rw [hb]; exact kk)
theorem ww_put0 {κ k idx a : Nat} {ty : FieldType} {v : Value} {M' : ww_M} (h : ww_fld Y.1.cls idx κ k) (h' : ww_fst Y.1 κ k ty) (hd : decode Y.2.1 pc = .ok (.putfield idx, 3)) (ha : a ∈ ww_L M) (hK : ww_K M a = κ) (hn : narrow ty v = v) (hfit : fits ty v = true)
    (e0 : M'.1 = M.1) (e1 : ww_fv M' (40 * κ + k) a = v) (e2 : ∀ f b, ¬ (f = 40 * κ + k ∧ b = a) → ww_fv M' f b = ww_fv M f b) (e3 : ww_X M' = ww_X M ∧ ww_Y M' = ww_Y M ∧ ww_Z M' = ww_Z M)
    (kk : ww_A g Y d kc ks M' (pc + 3) lv st Q X) : ww_A g Y d kc ks M pc lv (v :: .ref a :: st) Q X := by
  intro p l e R s m args below meth c H locs cells slots mc ms ls C B hl hH hS
  obtain ⟨hx, hb, hml, ⟨hret, hlk, hnm⟩, htb, hown, hts, htr, hF, hfr, hlo⟩ := id C
  obtain ⟨q, ref, h1, h2, h3, h4, h5, h6⟩ := h
  obtain ⟨q', ty0, g1, g2, g3, g4, g5⟩ := h'
  cases h1.symm.trans g1
  have hκ := ww_cl_len h1
  obtain ⟨j, hj⟩ := ww_W_get (cy := g.2.2.1) ha
  have hj' := hj
  rw [ww_E_o hK hκ] at hj'
  have hsame : ∀ x, s.fieldFound? (q.2.1 k).1 (q.2.1 k).2.1 (q.2.1 k).2.2.1 = some x → s.fieldFound? ref (q.2.1 k).2.1 (q.2.1 k).2.2.1 = some x := by
    intro x hx'
    rcases h6 with h6 | h6
    · rw [h6]; exact hx'
    · exact u_same (hts _ h6) x hx'
  have hK' : ww_K M' a = κ := by unfold ww_K; rw [e0]; exact hK
  have hset : (ww_W g.2.2.1 M).set j (a, .inr (κ, (ww_fs M κ a).set k v)) = ww_W g.2.2.1 M' := by
    refine ww_W_set hH.2 ha hj e0 ?_ (fun b hb' => ?_)
    · rw [ww_E_o hK' hκ, ww_fs_set e1 (fun i hi => e2 _ _ (fun z => hi (by omega)))]
    · exact ww_E_congr e0 (by rw [e3.1]) (by rw [e3.2.1]) (by rw [e3.2.2]) (fun κ' => ww_fs_congr fun i => e2 _ _ (fun z => hb' z.2))
  have hlen : k < (ww_fs M κ a).length := by rw [ww_fs_len, ← h3]; exact h2
  have kk' : ∀ (H1 : Heap) (locs1 : List Loc), va_P g.2.1 vwCl ((ww_W g.2.2.1 M).set j (a, .inr (κ, (ww_fs M κ a).set k v))) H1 → va_D (ww_gA g) ((ww_W g.2.2.1 M).set j (a, .inr (κ, (ww_fs M κ a).set k v))) → va_S (ww_gA g) s.heap H1 locs1 → W p l e R s m args below meth c H1 locs1 cells slots (vx_MQ below (ww_Qc g Q) (ww_Xc g X) args s mc ms (ww_gA g)) (F0 m (pc + 3) ls st) := by
    intro H1 locs1 hP1 hD1 hS1
    rw [hset] at hP1 hD1
    exact kk p l e R s m args below meth c H1 locs1 cells slots mc ms ls C B hl ⟨hP1, hD1⟩ hS1
  rcases g4 with g4 | ⟨g4, g6, g7⟩
  · exact va_put (C := q.1) (T := q.2.1) (N := q.2.2) (ref := ref) hx hb hts h5 ty0 g2 g3 hown hF.1.2 hH.1 hH.2 hS j hj' h1 k h2 (hts _ h4) hsame g4 g5 hn hfit hlen hd kk'
  · exact va_putF (C := q.1) (T := q.2.1) (N := q.2.2) (ref := ref) hx hb hts h5 ty0 g2 g3 hown hF.1.2 hH.1 hH.2 hS j hj' h1 k h2 (hts _ h4) hsame g4 (hnm.trans g6) g7 g5 hn hfit hlen hd kk'
theorem ww_putI {κ k idx f a : Nat} {ty : FieldType} {x : Int32} (h : ww_fld Y.1.cls idx κ k) (h' : ww_fst Y.1 κ k ty) (hd : decode Y.2.1 pc = .ok (.putfield idx, 3)) (hf : 40 * κ + k = f) (hr : ww_ir f = false) (ha : a ∈ ww_L M) (hK : ww_K M a = κ) (hn : narrow ty (.int x) = .int x) (hfit : fits ty (.int x) = true)
    (kk : ww_A g Y d kc ks (ww_sI M f a x) (pc + 3) lv st Q X) : ww_A g Y d kc ks M pc lv (.int x :: .ref a :: st) Q X := by
  subst hf
  exact ww_put0 (M' := ww_sI M _ a x) h h' hd ha hK hn hfit rfl (ww_fv_sI_s hr) (fun f b hfb => ww_fv_sI_n hfb) ⟨rfl, rfl, rfl⟩ kk
theorem ww_putQ {κ k idx f a : Nat} {ty : FieldType} {r : Option Nat} {v : Value} (h : ww_fld Y.1.cls idx κ k) (h' : ww_fst Y.1 κ k ty) (hd : decode Y.2.1 pc = .ok (.putfield idx, 3)) (hf : 40 * κ + k = f) (hr : ww_ir f = true) (ha : a ∈ ww_L M) (hK : ww_K M a = κ) (hv : va_rf r = v) (hn : narrow ty v = v) (hfit : fits ty v = true)
    (kk : ww_A g Y d kc ks (ww_sR M f a r) (pc + 3) lv st Q X) : ww_A g Y d kc ks M pc lv (v :: .ref a :: st) Q X := by
  subst hf hv
  exact ww_put0 (M' := ww_sR M _ a r) h h' hd ha hK hn hfit rfl (ww_fv_sR_s hr) (fun f b hfb => ww_fv_sR_n hfb) ⟨rfl, rfl, rfl⟩ kk
/-! arrays -/
theorem ww_iald {a j : Nat} {i : Int32} (hd : decode Y.2.1 pc = .ok (.iaload, 1)) (ha : a ∈ ww_L M) (hK : ww_K M a = 9) (hi : i = nI j) (hj : j < ww_N M a) (hN : ww_N M a < 2 ^ 31) (kk : ww_A g Y d kc ks M (pc + 1) lv (.int (ww_X M a j) :: st) Q X) : ww_A g Y d kc ks M pc lv (.int i :: .ref a :: st) Q X := by
  intro p l e R s m args below meth c H locs cells slots mc ms ls C B hl hH hS
  obtain ⟨hx, hb, hml, hret, htb, hown, hts, htr, hF, hfr, hlo⟩ := id C
  obtain ⟨q, hq⟩ := ww_W_get (cy := g.2.2.1) ha
  rw [ww_E_i hK (by omega) (by omega)] at hq
  subst hi
  have hk := kk p l e R s m args below meth c H locs cells slots mc ms ls C B hl hH hS
  have e1 : (nI j).toNatClampNeg = j := nI_clamp (by omega)
  exact va_iald hx hb hF.1.2 hH.1 q 0 hq rfl (vp_in_nI hj (by omega)) hd (by rw [e1]; exact hk)
theorem ww_zald {a j : Nat} {i : Int32} (hd : decode Y.2.1 pc = .ok (.baload, 1)) (ha : a ∈ ww_L M) (hK : ww_K M a = 10) (hi : i = nI j) (hj : j < ww_N M a) (hN : ww_N M a < 2 ^ 31) (kk : ww_A g Y d kc ks M (pc + 1) lv (.int (ww_X M a j) :: st) Q X) : ww_A g Y d kc ks M pc lv (.int i :: .ref a :: st) Q X := by
  intro p l e R s m args below meth c H locs cells slots mc ms ls C B hl hH hS
  obtain ⟨hx, hb, hml, hret, htb, hown, hts, htr, hF, hfr, hlo⟩ := id C
  obtain ⟨q, hq⟩ := ww_W_get (cy := g.2.2.1) ha
  rw [ww_E_i hK (by omega) (by omega)] at hq
  subst hi
  have hk := kk p l e R s m args below meth c H locs cells slots mc ms ls C B hl hH hS
  have e1 : (nI j).toNatClampNeg = j := nI_clamp (by omega)
  exact va_zald hx hb hF.1.2 hH.1 q 1 hq rfl (vp_in_nI hj (by omega)) hd (by rw [e1]; exact hk)
theorem ww_lald {a j : Nat} {i : Int32} (hd : decode Y.2.1 pc = .ok (.laload, 1)) (ha : a ∈ ww_L M) (hK : ww_K M a = 13) (hi : i = nI j) (hj : j < ww_N M a) (hN : ww_N M a < 2 ^ 31) (kk : ww_A g Y d kc ks M (pc + 1) lv (.long (ww_Z M a j) :: st) Q X) : ww_A g Y d kc ks M pc lv (.int i :: .ref a :: st) Q X := by
  intro p l e R s m args below meth c H locs cells slots mc ms ls C B hl hH hS
  obtain ⟨hx, hb, hml, hret, htb, hown, hts, htr, hF, hfr, hlo⟩ := id C
  obtain ⟨q, hq⟩ := ww_W_get (cy := g.2.2.1) ha
  rw [ww_E_l hK] at hq
  subst hi
  have hk := kk p l e R s m args below meth c H locs cells slots mc ms ls C B hl hH hS
  have e1 : (nI j).toNatClampNeg = j := nI_clamp (by omega)
  exact va_lald hx hb hF.1.2 hH.1 q 4 hq rfl (vp_in_nI hj (by omega)) hd (by rw [e1]; exact hk)
theorem ww_aald {a j : Nat} {i : Int32} (hd : decode Y.2.1 pc = .ok (.aaload, 1)) (ha : a ∈ ww_L M) (hK : ww_K M a = 11 ∨ ww_K M a = 12) (hi : i = nI j) (hj : j < ww_N M a) (hN : ww_N M a < 2 ^ 31) (kk : ww_A g Y d kc ks M (pc + 1) lv (va_rf (ww_Y M a j) :: st) Q X) : ww_A g Y d kc ks M pc lv (.int i :: .ref a :: st) Q X := by
  intro p l e R s m args below meth c H locs cells slots mc ms ls C B hl hH hS
  obtain ⟨hx, hb, hml, hret, htb, hown, hts, htr, hF, hfr, hlo⟩ := id C
  obtain ⟨q, hq⟩ := ww_W_get (cy := g.2.2.1) ha
  subst hi
  have hk := kk p l e R s m args below meth c H locs cells slots mc ms ls C B hl hH hS
  have e1 : (nI j).toNatClampNeg = j := nI_clamp (by omega)
  rcases hK with hK | hK
  · rw [ww_E_r hK (by omega) (by omega)] at hq
    exact va_aldq hx hb hF.1.2 hH.1 q 2 hq rfl (vp_in_nI hj (by omega)) hd (by rw [e1]; exact hk)
  · rw [ww_E_r hK (by omega) (by omega)] at hq
    exact va_aldq hx hb hF.1.2 hH.1 q 3 hq rfl (vp_in_nI hj (by omega)) hd (by rw [e1]; exact hk)
theorem ww_upd_X {M : ww_M} {a j : Nat} {x : Int32} : ww_X (ww_sX M a j x) a = upd (ww_X M a) j x := by
  funext i
  show ww_u2 (ww_X M) a j x a i = upd (ww_X M a) j x i
  unfold ww_u2 upd
  by_cases h : i = j
  · rw [if_pos ⟨rfl, h⟩, if_pos h]
  · rw [if_neg (fun z => h z.2), if_neg h]
theorem ww_upd_Xn {M : ww_M} {a j b : Nat} {x : Int32} (h : b ≠ a) : ww_X (ww_sX M a j x) b = ww_X M b := funext fun i => if_neg (fun z => h z.1)
theorem ww_set_X {cy : Nat → ClassId} {A : Nat → Prop} {a j q κ : Nat} {x : Int32} (hD : va_D A (ww_W cy M)) (ha : a ∈ ww_L M) (hK : ww_K M a = κ) (h9 : 9 ≤ κ) (h11 : κ < 11) (hq : (ww_W cy M)[q]? = some (a, ww_E cy M a)) : (ww_W cy M).set q (a, .inl (cy κ, ww_N M a, .inl (upd (ww_X M a) j x))) = ww_W cy (ww_sX M a j x) := by
  refine ww_W_set hD ha hq rfl ?_ (fun b hb => ww_E_congr rfl (ww_upd_Xn hb) rfl rfl (fun _ => rfl))
  rw [ww_E_i (M := ww_sX M a j x) (κ := κ) hK h9 h11, ww_upd_X]
  rfl
theorem ww_iast {a j : Nat} {i x : Int32} (hd : decode Y.2.1 pc = .ok (.iastore, 1)) (ha : a ∈ ww_L M) (hK : ww_K M a = 9) (hi : i = nI j) (hj : j < ww_N M a) (hN : ww_N M a < 2 ^ 31) (kk : ww_A g Y d kc ks (ww_sX M a j x) (pc + 1) lv st Q X) : ww_A g Y d kc ks M pc lv (.int x :: .int i :: .ref a :: st) Q X := by
  intro p l e R s m args below meth c H locs cells slots mc ms ls C B hl hH hS
  obtain ⟨hx, hb, hml, hret, htb, hown, hts, htr, hF, hfr, hlo⟩ := id C
  obtain ⟨q, hq⟩ := ww_W_get (cy := g.2.2.1) ha
  have hq' := hq
  rw [ww_E_i hK (by omega) (by omega)] at hq'
  subst hi
  have e1 : (nI j).toNatClampNeg = j := nI_clamp (by omega)
  refine va_iast hx hb hF.1.2 hH.1 hH.2 hS q 0 hq' rfl (vp_in_nI hj (by omega)) hd (fun H1 locs1 hP1 hD1 hS1 => ?_)
  rw [e1, ww_set_X hH.2 ha hK (by omega) (by omega) hq] at hP1 hD1
  exact kk p l e R s m args below meth c H1 locs1 cells slots mc ms ls C B hl ⟨hP1, hD1⟩ hS1
theorem ww_zast {a j : Nat} {i x : Int32} (hd : decode Y.2.1 pc = .ok (.bastore, 1)) (ha : a ∈ ww_L M) (hK : ww_K M a = 10) (hi : i = nI j) (hj : j < ww_N M a) (hN : ww_N M a < 2 ^ 31) (hn : vp_nar .boolean x = x) (kk : ww_A g Y d kc ks (ww_sX M a j x) (pc + 1) lv st Q X) : ww_A g Y d kc ks M pc lv (.int x :: .int i :: .ref a :: st) Q X := by
  intro p l e R s m args below meth c H locs cells slots mc ms ls C B hl hH hS
  obtain ⟨hx, hb, hml, hret, htb, hown, hts, htr, hF, hfr, hlo⟩ := id C
  obtain ⟨q, hq⟩ := ww_W_get (cy := g.2.2.1) ha
  have hq' := hq
  rw [ww_E_i hK (by omega) (by omega)] at hq'
  subst hi
  have e1 : (nI j).toNatClampNeg = j := nI_clamp (by omega)
  refine va_zast hx hb hF.1.2 hH.1 hH.2 hS q 1 hq' rfl (vp_in_nI hj (by omega)) hd (fun H1 locs1 hP1 hD1 hS1 => ?_)
  rw [e1, hn, ww_set_X hH.2 ha hK (by omega) (by omega) hq] at hP1 hD1
  exact kk p l e R s m args below meth c H1 locs1 cells slots mc ms ls C B hl ⟨hP1, hD1⟩ hS1
theorem ww_last {a j : Nat} {i : Int32} {x : Int64} (hd : decode Y.2.1 pc = .ok (.lastore, 1)) (ha : a ∈ ww_L M) (hK : ww_K M a = 13) (hi : i = nI j) (hj : j < ww_N M a) (hN : ww_N M a < 2 ^ 31) (kk : ww_A g Y d kc ks (ww_sZ M a j x) (pc + 1) lv st Q X) : ww_A g Y d kc ks M pc lv (.long x :: .int i :: .ref a :: st) Q X := by
  intro p l e R s m args below meth c H locs cells slots mc ms ls C B hl hH hS
  obtain ⟨hx, hb, hml, hret, htb, hown, hts, htr, hF, hfr, hlo⟩ := id C
  obtain ⟨q, hq⟩ := ww_W_get (cy := g.2.2.1) ha
  have hq' := hq
  rw [ww_E_l hK] at hq'
  subst hi
  have e1 : (nI j).toNatClampNeg = j := nI_clamp (by omega)
  have eZ : ww_Z (ww_sZ M a j x) a = vp_updL (ww_Z M a) j x := by
    funext i
    show ww_u2 (ww_Z M) a j x a i = vp_updL (ww_Z M a) j x i
    unfold ww_u2 vp_updL
    by_cases h : i = j
    · rw [if_pos ⟨rfl, h⟩, if_pos h]
    · rw [if_neg (fun z => h z.2), if_neg h]
  refine va_last hx hb hF.1.2 hH.1 hH.2 hS q 4 hq' rfl (vp_in_nI hj (by omega)) hd (fun H1 locs1 hP1 hD1 hS1 => ?_)
  have hset : (ww_W g.2.2.1 M).set q (a, .inl (g.2.2.1 13, ww_N M a, .inr (.inl (vp_updL (ww_Z M a) j x)))) = ww_W g.2.2.1 (ww_sZ M a j x) := by
    refine ww_W_set hH.2 ha hq rfl ?_ (fun b hb => ww_E_congr rfl rfl rfl (funext fun i => if_neg (fun z => hb z.1)) (fun _ => rfl))
    rw [ww_E_l (M := ww_sZ M a j x) hK, eZ]
    rfl
  rw [e1, hset] at hP1 hD1
  exact kk p l e R s m args below meth c H1 locs1 cells slots mc ms ls C B hl ⟨hP1, hD1⟩ hS1
theorem ww_set_Y {cy : Nat → ClassId} {A : Nat → Prop} {a j q κ : Nat} {x : Option Nat} (hD : va_D A (ww_W cy M)) (ha : a ∈ ww_L M) (hK : ww_K M a = κ) (h9 : 11 ≤ κ) (h11 : κ < 13) (hq : (ww_W cy M)[q]? = some (a, ww_E cy M a)) : (ww_W cy M).set q (a, .inl (cy κ, ww_N M a, .inr (.inr (.inr (.inr (va_up (ww_Y M a) j x)))))) = ww_W cy (ww_sY M a j x) := by
  have eY : ww_Y (ww_sY M a j x) a = va_up (ww_Y M a) j x := by
    funext i
    show ww_u2 (ww_Y M) a j x a i = va_up (ww_Y M a) j x i
    unfold ww_u2 va_up
    by_cases h : i = j
    · rw [if_pos ⟨rfl, h⟩, if_pos h]
    · rw [if_neg (fun z => h z.2), if_neg h]
  refine ww_W_set hD ha hq rfl ?_ (fun b hb => ww_E_congr rfl rfl (funext fun i => if_neg (fun z => hb z.1)) rfl (fun _ => rfl))
  rw [ww_E_r (M := ww_sY M a j x) (κ := κ) hK h9 h11, eY]
  rfl
/-- an object into an Object[] -/
theorem ww_aast {a b j κ : Nat} {i : Int32} {r : vw_C} (hd : decode Y.2.1 pc = .ok (.aastore, 1)) (ha : a ∈ ww_L M) (hK : ww_K M a = 12) (hb2 : b ∈ ww_L M) (hKb : ww_K M b = κ) (hr : vwCl[κ]? = some r) (hca : (r.1, "java/lang/Object") ∈ ww_ca) (hi : i = nI j) (hj : j < ww_N M a) (hN : ww_N M a < 2 ^ 31) (kk : ww_A g Y d kc ks (ww_sY M a j (some b)) (pc + 1) lv st Q X) : ww_A g Y d kc ks M pc lv (.ref b :: .int i :: .ref a :: st) Q X := by
  intro p l e R s m args below meth c H locs cells slots mc ms ls C B hl hH hS
  obtain ⟨hx, hb, hml, hret, htb, hown, hts, htr, hF, hfr, hlo⟩ := id C
  obtain ⟨q, hq⟩ := ww_W_get (cy := g.2.2.1) ha
  obtain ⟨q2, hq2⟩ := ww_W_get (cy := g.2.2.1) hb2
  have hq' := hq
  rw [ww_E_r hK (by omega) (by omega)] at hq'
  rw [ww_E_o hKb (ww_cl_len hr)] at hq2
  subst hi
  have e1 : (nI j).toNatClampNeg = j := nI_clamp (by omega)
  refine va_astqO hx hb hF.1.2 hH.1 hH.2 hS q 3 q2 κ hq' rfl (hF.2.2.2.2.2.1.1 _ hca) hq2 hr (vp_in_nI hj (by omega)) hd (fun H1 locs1 hP1 hD1 hS1 => ?_)
  rw [e1, ww_set_Y hH.2 ha hK (by omega) (by omega) hq] at hP1 hD1
  exact kk p l e R s m args below meth c H1 locs1 cells slots mc ms ls C B hl ⟨hP1, hD1⟩ hS1
/-- a KindLimits into a KindLimits[] -/
theorem ww_aastK {a b j : Nat} {i : Int32} (hd : decode Y.2.1 pc = .ok (.aastore, 1)) (ha : a ∈ ww_L M) (hK : ww_K M a = 11) (hb2 : b ∈ ww_L M) (hKb : ww_K M b = 2) (hi : i = nI j) (hj : j < ww_N M a) (hN : ww_N M a < 2 ^ 31) (kk : ww_A g Y d kc ks (ww_sY M a j (some b)) (pc + 1) lv st Q X) : ww_A g Y d kc ks M pc lv (.ref b :: .int i :: .ref a :: st) Q X := by
  intro p l e R s m args below meth c H locs cells slots mc ms ls C B hl hH hS
  obtain ⟨hx, hb, hml, hret, htb, hown, hts, htr, hF, hfr, hlo⟩ := id C
  obtain ⟨q, hq⟩ := ww_W_get (cy := g.2.2.1) ha
  obtain ⟨q2, hq2⟩ := ww_W_get (cy := g.2.2.1) hb2
  have hq' := hq
  rw [ww_E_r hK (by omega) (by omega)] at hq'
  rw [ww_E_o hKb (by omega)] at hq2
  subst hi
  have e1 : (nI j).toNatClampNeg = j := nI_clamp (by omega)
  refine va_astq (r := (RX1, TX1, 3)) hx hb hF.1.2 hH.1 hH.2 hS q 2 q2 2 hq' rfl hq2 rfl (vp_in_nI hj (by omega)) hd (fun H1 locs1 hP1 hD1 hS1 => ?_)
  rw [e1, ww_set_Y hH.2 ha hK (by omega) (by omega) hq] at hP1 hD1
  exact kk p l e R s m args below meth c H1 locs1 cells slots mc ms ls C B hl ⟨hP1, hD1⟩ hS1
/-- null into an Object[] -/
theorem ww_aastN {a j : Nat} {i : Int32} (hd : decode Y.2.1 pc = .ok (.aastore, 1)) (ha : a ∈ ww_L M) (hK : ww_K M a = 12) (hi : i = nI j) (hj : j < ww_N M a) (hN : ww_N M a < 2 ^ 31) (kk : ww_A g Y d kc ks (ww_sY M a j none) (pc + 1) lv st Q X) : ww_A g Y d kc ks M pc lv (.null :: .int i :: .ref a :: st) Q X := by
  intro p l e R s m args below meth c H locs cells slots mc ms ls C B hl hH hS
  obtain ⟨hx, hb, hml, hret, htb, hown, hts, htr, hF, hfr, hlo⟩ := id C
  obtain ⟨q, hq⟩ := ww_W_get (cy := g.2.2.1) ha
  have hq' := hq
  rw [ww_E_r hK (by omega) (by omega)] at hq'
  subst hi
  have e1 : (nI j).toNatClampNeg = j := nI_clamp (by omega)
  refine va_astqN hx hb hF.1.2 hH.1 hH.2 hS q 3 hq' rfl (vp_in_nI hj (by omega)) hd (fun H1 locs1 hP1 hD1 hS1 => ?_)
  rw [e1, ww_set_Y hH.2 ha hK (by omega) (by omega) hq] at hP1 hD1
  exact kk p l e R s m args below meth c H1 locs1 cells slots mc ms ls C B hl ⟨hP1, hD1⟩ hS1
theorem ww_alen {a : Nat} (hd : decode Y.2.1 pc = .ok (.arraylength, 1)) (ha : a ∈ ww_L M) (hK : 9 ≤ ww_K M a) (hK2 : ww_K M a < 14) (kk : ww_A g Y d kc ks M (pc + 1) lv (.int (nI (ww_N M a)) :: st) Q X) : ww_A g Y d kc ks M pc lv (.ref a :: st) Q X := by
  intro p l e R s m args below meth c H locs cells slots mc ms ls C B hl hH hS
  obtain ⟨hx, hb, hml, hret, htb, hown, hts, htr, hF, hfr, hlo⟩ := id C
  obtain ⟨q, hq⟩ := ww_W_get (cy := g.2.2.1) ha
  have hk := kk p l e R s m args below meth c H locs cells slots mc ms ls C B hl hH hS
  generalize hKa : ww_K M a = κ at hK hK2
  by_cases h1 : κ < 11
  · rw [ww_E_i hKa hK h1] at hq
    have h3 : κ = 9 ∨ κ = 10 := by omega
    rcases h3 with rfl | rfl
    · exact va_alen hx hb hF.1.2 hH.1 q 0 hq rfl rfl hd hk
    · exact va_alen hx hb hF.1.2 hH.1 q 1 hq rfl rfl hd hk
  · by_cases h2 : κ < 13
    · rw [ww_E_r hKa (by omega) h2] at hq
      have h3 : κ = 11 ∨ κ = 12 := by omega
      rcases h3 with rfl | rfl
      · exact va_alen hx hb hF.1.2 hH.1 q 2 hq rfl rfl hd hk
      · exact va_alen hx hb hF.1.2 hH.1 q 3 hq rfl rfl hd hk
    · have h3 : κ = 13 := by omega
      subst h3
      rw [ww_E_l hKa] at hq
      exact va_alen hx hb hF.1.2 hH.1 q 4 hq rfl rfl hd hk
/-- the length of ArrayList's empty array -/
theorem ww_alenE (hd : decode Y.2.1 pc = .ok (.arraylength, 1)) (kk : ww_A g Y d kc ks M (pc + 1) lv (.int 0 :: st) Q X) : ww_A g Y d kc ks M pc lv (.ref (ww_ge g) :: st) Q X := by
  intro p l e R s m args below meth c H locs cells slots mc ms ls C B hl hH hS
  obtain ⟨hx, hb, hml, hret, htb, hown, hts, htr, hF, hfr, hlo⟩ := id C
  have hk := kk p l e R s m args below meth c H locs cells slots mc ms ls C B hl hH hS
  obtain ⟨cell, c1, c2, -, -, c3, -, -⟩ := hF.2.1.2.kept (fun q h1 h2 => hS.2.1 q h1 h2)
  exact W.alen hx hb c1 c2 (c3.trans (by decide)) rfl rfl hd hk
/-- the law's script -/
theorem ww_sld {j : Nat} {i : Int32} (hd : decode Y.2.1 pc = .ok (.iaload, 1)) (hi : i = nI j) (hj : j < ww_gl g) (hN : ww_gl g < 2 ^ 31) (kk : ww_A g Y d kc ks M (pc + 1) lv (.int (ww_gx g j) :: st) Q X) : ww_A g Y d kc ks M pc lv (.int i :: .ref (ww_gb g) :: st) Q X := by
  intro p l e R s m args below meth c H locs cells slots mc ms ls C B hl hH hS
  obtain ⟨hx, hb, hml, hret, htb, hown, hts, htr, hF, hfr, hlo⟩ := id C
  subst hi
  have hk := kk p l e R s m args below meth c H locs cells slots mc ms ls C B hl hH hS
  have e1 : (nI j).toNatClampNeg = j := nI_clamp (by omega)
  exact va_sld hx hb hF.2.2.2.1.1 hF.2.2.2.1.2.2 hF.2.2.2.1.2.1 hS (vp_in_nI hj (by omega)) hd (by rw [e1]; exact hk)
theorem ww_slen (hd : decode Y.2.1 pc = .ok (.arraylength, 1)) (kk : ww_A g Y d kc ks M (pc + 1) lv (.int (nI (ww_gl g)) :: st) Q X) : ww_A g Y d kc ks M pc lv (.ref (ww_gb g) :: st) Q X := by
  intro p l e R s m args below meth c H locs cells slots mc ms ls C B hl hH hS
  obtain ⟨hx, hb, hml, hret, htb, hown, hts, htr, hF, hfr, hlo⟩ := id C
  have hk := kk p l e R s m args below meth c H locs cells slots mc ms ls C B hl hH hS
  exact va_slen hx hb hF.2.2.2.1.1 hF.2.2.2.1.2.2 hF.2.2.2.1.2.1 hS hd hk
end WWH
end
section
section WWC
variable {g : ww_G} {Y : ww_Yd} {d kc ks : Nat} {M : ww_M} {pc : Nat} {lv : List (Nat × Value)} {st : List Value} {Q : Option Value → ww_M → Prop} {X : String → ww_M → Prop}
/-! new things -/
def ww_new (own : String) (idx κ : Nat) : Prop := ∃ (q : vw_C) (ty : Nat → FieldType), vwCl[κ]? = some q ∧ q.2.2 = ww_nf κ ∧ (∀ j, j < q.2.2 → parseFieldDescriptor (q.2.1 j).2.2.1 = some (ty j)) ∧ (∀ j, j < q.2.2 → defaultValue (ty j) = (if ww_ir (40 * κ + j) = true then .null else .int 0)) ∧ (∀ w ∈ u_ws q.1 q.2.1 q.2.2, w ∈ ww_GW) ∧ Cond.classLink own idx q.1 ∈ ww_GW ∧ Cond.instantiable q.1 q.2.2 ∈ ww_GW ∧ Cond.initialized q.1 ∈ ww_GW
theorem ww_fv_nw {q κ n f : Nat} : ww_fv (ww_nw M q κ n) f q = (if ww_ir f = true then .null else .int 0) := by
  have e1 : ww_I (ww_nw M q κ n) f q = 0 := if_pos rfl
  have e2 : ww_R (ww_nw M q κ n) f q = none := if_pos rfl
  unfold ww_fv
  rw [e1, e2]
  rfl
theorem ww_K_nw {q κ n : Nat} : ww_K (ww_nw M q κ n) q = κ := if_pos rfl
theorem ww_N_nw {q κ n : Nat} : ww_N (ww_nw M q κ n) q = n := if_pos rfl
theorem ww_fresh {A : Nat → Prop} {cy : Nat → ClassId} {q : Nat} {e : va_E} (hD : va_D A (ww_W cy M ++ [(q, e)])) : q ∉ ww_L M := by
  intro hq
  obtain ⟨j, hj⟩ := ww_W_get (cy := cy) hq
  have hl := (List.getElem?_eq_some_iff.mp hj).1
  have h1 : (ww_W cy M ++ [(q, e)])[j]? = some (q, ww_E cy M q) := by rw [List.getElem?_append_left hl]; exact hj
  have h2 : (ww_W cy M ++ [(q, e)])[(ww_W cy M).length]? = some (q, e) := by
    rw [List.getElem?_append_right (Nat.le_refl _), Nat.sub_self]; rfl
  have := hD.1 _ _ _ _ h1 h2 rfl
  omega
theorem ww_gA_up {g : ww_G} {n : Nat} (h : g.1 ≤ n) : ∀ q, n ≤ q → ww_gA g q := fun q hq => Nat.le_trans h hq
theorem ww_newO {κ idx : Nat} (h : ww_new Y.1.cls idx κ) (hd : decode Y.2.1 pc = .ok (.new idx, 3)) (hc : 1 ≤ kc) (hs : ww_nf κ ≤ ks)
    (kk : ∀ q, q ∉ ww_L M → ww_A g Y d (kc - 1) (ks - ww_nf κ) (ww_nw M q κ 0) (pc + 3) lv (.ref q :: st) Q X) : ww_A g Y d kc ks M pc lv st Q X := by
  intro p l e R s m args below meth c H locs cells slots mc ms ls C B hl hH hS
  obtain ⟨hx, hb, hml, hret, htb, hown, hts, htr, hF, hfr, hlo⟩ := id C
  obtain ⟨r, ty, h1, h2, h3, h4, h5, h6, h7, h8⟩ := h
  have hκ := ww_cl_len h1
  refine va_new (C := r.1) (T := r.2.1) (N := r.2.2) (fs := (List.range (ww_nf κ)).map (fun j => if ww_ir (40 * κ + j) = true then Value.null else .int 0)) hx hb hts h5 ty h3 hown (hts _ h6) (hts _ h7) (hts _ h8) hF.1.2 hH.1 hH.2 hS (ww_gA_up hF.1.1) h1 (fun j hj => ?_) (by omega) (by omega) hd (fun q H1 hP1 hD1 hS1 => ?_)
  · rw [h4 j hj]
    unfold vp_V
    rw [List.getD_eq_getElem?_getD, List.getElem?_map, List.getElem?_range (by rw [← h2]; exact hj)]
    rfl
  · have hq := ww_fresh hD1
    have e1 : ww_E g.2.2.1 (ww_nw M q κ 0) q = .inr (κ, (List.range (ww_nf κ)).map (fun j => if ww_ir (40 * κ + j) = true then Value.null else .int 0)) := by
      rw [ww_E_o ww_K_nw hκ]
      unfold ww_fs
      congr 2
      exact List.map_congr_left (fun j _ => ww_fv_nw)
    rw [ww_W_push hq e1] at hP1 hD1
    rw [h2]
    exact kk q hq p l e R s m args below meth c H1 locs (cells + 1) (slots + ww_nf κ) mc ms ls C ⟨by omega, by omega, B.2.2.1, B.2.2.2⟩ hl ⟨hP1, hD1⟩ hS1
theorem ww_newA {at' : ArrayType} {ty : FieldType} {κ n : Nat} {i : Int32} (hd : decode Y.2.1 pc = .ok (.newarray at', 2)) (hty : newarray.typeOf at' = ty) (hw : Cond.arrayClass ty ∈ ww_GW) (hκ : (κ = 9 ∧ ty = .int) ∨ (κ = 10 ∧ ty = .boolean)) (hi : i = nI n) (hn : n < 65536) (hc : 1 ≤ kc) (hs : n ≤ ks)
    (kk : ∀ q, q ∉ ww_L M → ww_A g Y d (kc - 1) (ks - n) (ww_nw M q κ n) (pc + 2) lv (.ref q :: st) Q X) : ww_A g Y d kc ks M pc lv (.int i :: st) Q X := by
  intro p l e R s m args below meth c H locs cells slots mc ms ls C B hl hH hS
  obtain ⟨hx, hb, hml, hret, htb, hown, hts, htr, hF, hfr, hlo⟩ := id C
  subst hi
  have key : ∀ (t0 : Nat), (ww_ty g)[t0]? = some (g.2.2.1 κ, ty) → va_RA s (g.2.2.1 κ) ty := fun t0 h => (hF.1.2.2 t0 _ h).2
  have e9 : ∀ (q : Nat) (cA : ClassId) (H1 : Heap), g.2.2.1 κ = cA → 9 ≤ κ → κ < 11 → va_P g.2.1 vwCl (ww_W g.2.2.1 M ++ [(q, .inl (cA, (n, .inl (fun _ => (0 : Int32)))))]) H1 → va_D (ww_gA g) (ww_W g.2.2.1 M ++ [(q, .inl (cA, (n, .inl (fun _ => (0 : Int32)))))]) → va_S (ww_gA g) s.heap H1 locs →
      W p l e R s m args below meth c H1 locs (cells + 1) (slots + n) (vx_MQ below (ww_Qc g Q) (ww_Xc g X) args s mc ms (ww_gA g)) (F0 m (pc + 2) ls (.ref q :: st)) := by
    intro q cA H1 hcy h9 h11 hP1 hD1 hS1
    have hq := ww_fresh hD1
    have e1 : ww_E g.2.2.1 (ww_nw M q κ n) q = .inl (cA, (n, .inl (fun _ => (0 : Int32)))) := by
      rw [ww_E_i ww_K_nw h9 h11, ww_N_nw, hcy]
      have eX : ww_X (ww_nw M q κ n) q = fun _ => (0 : Int32) := funext fun i => if_pos rfl
      rw [eX]
    rw [ww_W_push hq e1] at hP1 hD1
    exact kk q hq p l e R s m args below meth c H1 locs (cells + 1) (slots + n) mc ms ls C ⟨by omega, by omega, B.2.2.1, B.2.2.2⟩ hl ⟨hP1, hD1⟩ hS1
  rcases hκ with ⟨rfl, rfl⟩ | ⟨rfl, rfl⟩
  · refine va_newa (ty := .int) (a0 := (n, .inl (fun _ => (0 : Int32)))) hx hb (by rw [hty]; exact hts _ hw) hty hF.1.2 hH.1 hH.2 hS (ww_gA_up hF.1.1) (fun _ => rfl) (nI_pos (by omega)) (nI_clamp (by omega)) (by show n * 4 ≤ 536870912; omega) (by omega) (by omega) hd (fun q cA H1 hK1 hP1 hD1 hS1 => ?_)
    have h1 : s.vm.findClass ("[" ++ (FieldType.int).toString) = some (g.2.2.1 9) := key 0 rfl
    have h2 : s.vm.findClass ("[" ++ (FieldType.int).toString) = some cA := (hK1.2 5 (cA, .int) rfl).2
    exact e9 q cA H1 (Option.some.inj (h1.symm.trans h2)) (by omega) (by omega) hP1 hD1 hS1
  · refine va_newa (ty := .boolean) (a0 := (n, .inl (fun _ => (0 : Int32)))) hx hb (by rw [hty]; exact hts _ hw) hty hF.1.2 hH.1 hH.2 hS (ww_gA_up hF.1.1) (fun _ => rfl) (nI_pos (by omega)) (nI_clamp (by omega)) (by show n * 1 ≤ 536870912; omega) (by omega) (by omega) hd (fun q cA H1 hK1 hP1 hD1 hS1 => ?_)
    have h1 : s.vm.findClass ("[" ++ (FieldType.boolean).toString) = some (g.2.2.1 10) := key 1 rfl
    have h2 : s.vm.findClass ("[" ++ (FieldType.boolean).toString) = some cA := (hK1.2 5 (cA, .boolean) rfl).2
    exact e9 q cA H1 (Option.some.inj (h1.symm.trans h2)) (by omega) (by omega) hP1 hD1 hS1
theorem ww_newL {at' : ArrayType} {n : Nat} {i : Int32} (hd : decode Y.2.1 pc = .ok (.newarray at', 2)) (hty : newarray.typeOf at' = .long) (hw : Cond.arrayClass .long ∈ ww_GW) (hi : i = nI n) (hn : n < 65536) (hc : 1 ≤ kc) (hs : n ≤ ks)
    (kk : ∀ q, q ∉ ww_L M → ww_A g Y d (kc - 1) (ks - n) (ww_nw M q 13 n) (pc + 2) lv (.ref q :: st) Q X) : ww_A g Y d kc ks M pc lv (.int i :: st) Q X := by
  intro p l e R s m args below meth c H locs cells slots mc ms ls C B hl hH hS
  obtain ⟨hx, hb, hml, hret, htb, hown, hts, htr, hF, hfr, hlo⟩ := id C
  subst hi
  refine va_newa (ty := .long) (a0 := (n, .inr (.inl (fun _ => (0 : Int64))))) hx hb (by rw [hty]; exact hts _ hw) hty hF.1.2 hH.1 hH.2 hS (ww_gA_up hF.1.1) (fun _ => rfl) (nI_pos (by omega)) (nI_clamp (by omega)) (by show n * 8 ≤ 536870912; omega) (by omega) (by omega) hd (fun q cA H1 hK1 hP1 hD1 hS1 => ?_)
  have h1 : s.vm.findClass ("[" ++ (FieldType.long).toString) = some (g.2.2.1 13) := (hF.1.2.2 4 (g.2.2.1 13, .long) rfl).2
  have h2 : s.vm.findClass ("[" ++ (FieldType.long).toString) = some cA := (hK1.2 5 (cA, .long) rfl).2
  have hcy := Option.some.inj (h1.symm.trans h2)
  have hq := ww_fresh hD1
  have e1 : ww_E g.2.2.1 (ww_nw M q 13 n) q = .inl (cA, (n, .inr (.inl (fun _ => (0 : Int64))))) := by
    rw [ww_E_l ww_K_nw, ww_N_nw, hcy]
    have eX : ww_Z (ww_nw M q 13 n) q = fun _ => (0 : Int64) := funext fun i => if_pos rfl
    rw [eX]
  rw [ww_W_push hq e1] at hP1 hD1
  exact kk q hq p l e R s m args below meth c H1 locs (cells + 1) (slots + n) mc ms ls C ⟨by omega, by omega, B.2.2.1, B.2.2.2⟩ hl ⟨hP1, hD1⟩ hS1
theorem ww_newQ {κ idx n : Nat} {C0 : String} {i : Int32} (hd : decode Y.2.1 pc = .ok (.anewarray idx, 3)) (hκ : (κ = 11 ∧ C0 = "WheelWorks$KindLimits") ∨ (κ = 12 ∧ C0 = "java/lang/Object")) (hw : Cond.classLink Y.1.cls idx C0 ∈ ww_GW) (hi : i = nI n) (hn : n < 65536) (hc : 1 ≤ kc) (hs : n ≤ ks)
    (kk : ∀ q, q ∉ ww_L M → ww_A g Y d (kc - 1) (ks - n) (ww_nw M q κ n) (pc + 3) lv (.ref q :: st) Q X) : ww_A g Y d kc ks M pc lv (.int i :: st) Q X := by
  intro p l e R s m args below meth c H locs cells slots mc ms ls C B hl hH hS
  obtain ⟨hx, hb, hml, hret, htb, hown, hts, htr, hF, hfr, hlo⟩ := id C
  subst hi
  have hAO : va_AO C0 s := by
    rcases hκ with ⟨-, rfl⟩ | ⟨-, rfl⟩
    · exact hF.2.2.2.2.2.2.2.2
    · exact hF.2.2.2.2.2.2.2.1
  refine va_newq hx hb hown (hts _ hw) hAO hF.1.2 hH.1 hH.2 hS (ww_gA_up hF.1.1) (nI_pos (by omega)) (nI_clamp (by omega)) (by omega) (by omega) (by omega) hd (fun q cA H1 hK1 hP1 hD1 hS1 => ?_)
  have h2 : s.vm.findClass ("[" ++ (FieldType.object C0).toString) = some cA := by
    obtain ⟨-, -, -, -, -, h⟩ := (hK1.2 5 (cA, .object C0) rfl).2
    exact h
  have hcy : g.2.2.1 κ = cA := by
    rcases hκ with ⟨rfl, rfl⟩ | ⟨rfl, rfl⟩
    · obtain ⟨-, -, -, -, -, h⟩ := (hF.1.2.2 2 (g.2.2.1 11, .object "WheelWorks$KindLimits") rfl).2
      exact Option.some.inj (h.symm.trans h2)
    · obtain ⟨-, -, -, -, -, h⟩ := (hF.1.2.2 3 (g.2.2.1 12, .object "java/lang/Object") rfl).2
      exact Option.some.inj (h.symm.trans h2)
  have h11 : 11 ≤ κ ∧ κ < 13 := by omega
  have hq := ww_fresh hD1
  have e1 : ww_E g.2.2.1 (ww_nw M q κ n) q = .inl (cA, (n, .inr (.inr (.inr (.inr (fun _ => none)))))) := by
    rw [ww_E_r ww_K_nw h11.1 h11.2, ww_N_nw, hcy]
    have eX : ww_Y (ww_nw M q κ n) q = fun _ => none := funext fun i => if_pos rfl
    rw [eX]
  rw [ww_W_push hq e1] at hP1 hD1
  exact kk q hq p l e R s m args below meth c H1 locs (cells + 1) (slots + n) mc ms ls C ⟨by omega, by omega, B.2.2.1, B.2.2.2⟩ hl ⟨hP1, hD1⟩ hS1
/-! returns -/
theorem ww_ireturn {ty : FieldType} {v : Int32} (hd : decode Y.2.1 pc = .ok (.ireturn, 1)) (hr : Y.2.2.2.1 = some ty) (hn : narrow ty (.int v) = .int v) (hQ : Q (some (.int v)) M) : ww_A g Y d kc ks M pc lv [.int v] Q X := by
  intro p l e R s m args below meth c H locs cells slots mc ms ls C B hl hH hS
  obtain ⟨hx, hb, hml, ⟨hret, hlk, hnm⟩, htb, hown, hts, htr, hF, hfr, hlo⟩ := id C
  exact vx_ret (W.widen (k := mc) (n := ms) (by omega) (by omega) (W.zret hx hb (hret.trans hr) hn (fun t ht _ => ⟨⟨_, M, rfl, hQ, by rw [ht]; exact hH⟩, hS.F ht⟩) hS.2.2 hd hlk))
theorem ww_vreturn (hd : decode Y.2.1 pc = .ok (.return_, 1)) (hr : Y.2.2.2.1 = none) (hQ : Q none M) : ww_A g Y d kc ks M pc lv [] Q X := by
  intro p l e R s m args below meth c H locs cells slots mc ms ls C B hl hH hS
  obtain ⟨hx, hb, hml, ⟨hret, hlk, hnm⟩, htb, hown, hts, htr, hF, hfr, hlo⟩ := id C
  exact vx_ret (W.widen (k := mc) (n := ms) (by omega) (by omega) (W.vret hx hb (hret.trans hr) (fun t ht _ => ⟨⟨_, M, rfl, hQ, by rw [ht]; exact hH⟩, hS.F ht⟩) hS.2.2 hd hlk))
theorem ww_areturn {ty : FieldType} {v : Value} {r : Option Nat} (hd : decode Y.2.1 pc = .ok (.areturn, 1)) (hr : Y.2.2.2.1 = some ty) (hrt : (∃ n, ty = .object n) ∨ ∃ t, ty = .array t) (hv : va_rf r = v) (hQ : Q (some v) M) : ww_A g Y d kc ks M pc lv [v] Q X := by
  intro p l e R s m args below meth c H locs cells slots mc ms ls C B hl hH hS
  obtain ⟨hx, hb, hml, ⟨hret, hlk, hnm⟩, htb, hown, hts, htr, hF, hfr, hlo⟩ := id C
  exact vx_ret (W.widen (k := mc) (n := ms) (by omega) (by omega) (W.aret hx hb (hret.trans hr) hrt (by rw [← hv]; exact ww_rf_ref r) (fun t ht _ => ⟨⟨_, M, rfl, hQ, by rw [ht]; exact hH⟩, hS.F ht⟩) hS.2.2 hd hlk))
/-! throws -/
def ww_thr (own : String) (ik is ic : Nat) (cls text : String) (names : List String) : Prop := Bundle.fit cls = true ∧ (∀ n ∈ names, Bundle.fit n = true) ∧ Cond.classLink own ik cls ∈ ww_GW ∧ Cond.initialized cls ∈ ww_GW ∧ (own, is, text) ∈ ww_str ∧ (∀ w ∈ vx_atS own ic cls names, w ∈ ww_GW ∨ (∃ q ∈ ww_ca, w = .castable q.1 q.2) ∨ (∃ x ∈ ww_de, w = .declares x)) ∧ names.length = 2
theorem ww_thr_ot {own : String} {ik is ic : Nat} {cls text : String} {names : List String} (h : ww_thr own ik is ic cls text names) : ∀ w ∈ Cond.classLink own ik cls :: Cond.initialized cls :: vx_atS own ic cls names, vx_ot w = true := by
  obtain ⟨-, -, h1, h2, -, h3, -⟩ := h
  have gw : ∀ w, w ∈ ww_GW → vx_ot w = true := fun w hw => by unfold vx_ot; rw [(List.mem_filter.mp hw).2, Bool.or_true]
  intro w hw
  rcases List.mem_cons.mp hw with rfl | hw
  · exact gw _ h1
  · rcases List.mem_cons.mp hw with rfl | hw
    · exact gw _ h2
    · rcases h3 w hw with h | ⟨q, -, rfl⟩ | ⟨x, -, rfl⟩
      · exact gw _ h
      · rfl
      · rfl
theorem ww_thr_at {own : String} {ik is ic : Nat} {cls text : String} {names : List String} {s : State} {args : Array Value} {H : Heap} (h : ww_thr own ik is ic cls text names) (hts : ∀ w ∈ ww_GW, w.before args s = true) (hF : ww_F g s H) : ∀ w ∈ vx_atS own ic cls names, w.before args s = true := by
  intro w hw
  rcases h.2.2.2.2.2.1 w hw with h | ⟨q, hq, rfl⟩ | ⟨x, hx, rfl⟩
  · exact hts _ h
  · exact va_Nw.use rfl (hF.2.2.2.2.2.1.1 q hq)
  · exact va_Nw.use rfl (hF.2.2.2.2.2.1.2.1 x hx)
theorem ww_throw {ik is ic : Nat} {cls text : String} {names : List String} (h : ww_thr Y.1.cls ik is ic cls text names) (d0 : decode Y.2.1 pc = .ok (.new ik, 3)) (d3 : decode Y.2.1 (pc + 3) = .ok (.dup, 1)) (d4 : decode Y.2.1 (pc + 4) = .ok (.ldc is, 2)) (d6 : decode Y.2.1 (pc + 6) = .ok (.invokespecial ic, 3)) (d9 : decode Y.2.1 (pc + 9) = .ok (.athrow, 1))
    (h0 : Y.2.2.2.2 = []) (hd : 6 ≤ d) (hc : 1 ≤ kc) (hs : 6 ≤ ks) (hw : (st.map fun v => v.category).sum ≤ 8) (hX : X cls M) : ww_A g Y d kc ks M pc lv st Q X := by
  intro p l e R s m args below meth c H locs cells slots mc ms ls C B hl hH hS
  obtain ⟨hx, hb, hml, ⟨hret, hlk, hnm⟩, htb, hown, hts, htr, hF, hfr, hlo⟩ := id C
  obtain ⟨a1, a2, a3, a4, a5, a6, a7⟩ := id h
  obtain ⟨sa, hsa⟩ := hF.2.2.2.2.1 _ a5
  refine vx_throwS hx hb htr hown a1 a2 (hts _ a3) (hts _ a4) hsa (ww_thr_at h hts hF) (ww_thr_ot h) hF.2.2.1.1 hF.2.2.1.2 hS (hl.1.1.trans hml.symm) d0 d3 d4 d6 d9 (fun z hz => ?_) (by omega) (by omega) (by omega) (by omega) hlk (fun t ht h1 h2 => ?_) hS.2.2 (by omega) (by omega)
  · rw [htb, h0] at hz
    cases hz
  · refine ⟨⟨M, hX, hH.1.kept (fun k q hk => h2 q.1 (hH.1 k q hk).lt), hH.2⟩, Nat.le_trans hS.1 h1, fun q hq hA => ?_⟩
    rw [h2 q (Nat.lt_of_lt_of_le hq hS.1)]
    exact hS.2.1 q hq hA
theorem ww_throwW {ik is ic : Nat} {cls text : String} {names : List String} (h : ww_thr Y.1.cls ik is ic cls text names) (d0 : decode Y.2.1 pc = .ok (.new ik, 3)) (d3 : decode Y.2.1 (pc + 3) = .ok (.dup, 1)) (d4 : decode Y.2.1 (pc + 4) = .ok (.ldc_w is, 3)) (d6 : decode Y.2.1 (pc + 7) = .ok (.invokespecial ic, 3)) (d9 : decode Y.2.1 (pc + 10) = .ok (.athrow, 1))
    (h0 : Y.2.2.2.2 = []) (hd : 6 ≤ d) (hc : 1 ≤ kc) (hs : 6 ≤ ks) (hw : (st.map fun v => v.category).sum ≤ 8) (hX : X cls M) : ww_A g Y d kc ks M pc lv st Q X := by
  intro p l e R s m args below meth c H locs cells slots mc ms ls C B hl hH hS
  obtain ⟨hx, hb, hml, ⟨hret, hlk, hnm⟩, htb, hown, hts, htr, hF, hfr, hlo⟩ := id C
  obtain ⟨a1, a2, a3, a4, a5, a6, a7⟩ := id h
  obtain ⟨sa, hsa⟩ := hF.2.2.2.2.1 _ a5
  refine vx_throwSW hx hb htr hown a1 a2 (hts _ a3) (hts _ a4) hsa (ww_thr_at h hts hF) (ww_thr_ot h) hF.2.2.1.1 hF.2.2.1.2 hS (hl.1.1.trans hml.symm) d0 d3 d4 d6 d9 (fun z hz => ?_) (by omega) (by omega) (by omega) (by omega) hlk (fun t ht h1 h2 => ?_) hS.2.2 (by omega) (by omega)
  · rw [htb, h0] at hz
    cases hz
  · refine ⟨⟨M, hX, hH.1.kept (fun k q hk => h2 q.1 (hH.1 k q hk).lt), hH.2⟩, Nat.le_trans hS.1 h1, fun q hq hA => ?_⟩
    rw [h2 q (Nat.lt_of_lt_of_le hq hS.1)]
    exact hS.2.1 q hq hA
/-! casts, statics, Object's constructor, class objects, arraycopy -/
theorem ww_cast {κ idx a : Nat} {r : vw_C} {nm : String} (hd : decode Y.2.1 pc = .ok (.checkcast idx, 3)) (ha : a ∈ ww_L M) (hK : ww_K M a = κ) (hr : vwCl[κ]? = some r) (hw : Cond.classLink Y.1.cls idx r.1 ∈ ww_GW) (kk : ww_A g Y d kc ks M (pc + 3) lv (.ref a :: st) Q X) : ww_A g Y d kc ks M pc lv (.ref a :: st) Q X := by
  intro p l e R s m args below meth c H locs cells slots mc ms ls C B hl hH hS
  obtain ⟨hx, hb, hml, hret, htb, hown, hts, htr, hF, hfr, hlo⟩ := id C
  obtain ⟨q, hq⟩ := ww_W_get (cy := g.2.2.1) ha
  rw [ww_E_o hK (ww_cl_len hr)] at hq
  exact va_castS (nm := r.1) (cC := g.2.1.1 κ) hx hb hown (hts _ hw) (hF.1.2.1 κ r hr).2 (va_recv hF.1.2 hH.1 hr hq) hd (kk p l e R s m args below meth c H locs cells slots mc ms ls C B hl hH hS)
theorem ww_castN {idx : Nat} (hd : decode Y.2.1 pc = .ok (.checkcast idx, 3)) (kk : ww_A g Y d kc ks M (pc + 3) lv (.null :: st) Q X) : ww_A g Y d kc ks M pc lv (.null :: st) Q X := by
  intro p l e R s m args below meth c H locs cells slots mc ms ls C B hl hH hS
  exact lv_castN C.1 C.2.1 hd (kk p l e R s m args below meth c H locs cells slots mc ms ls C B hl hH hS)
theorem ww_getE {idx : Nat} (hd : decode Y.2.1 pc = .ok (.getstatic idx, 3)) (hw : Cond.fieldLink Y.1.cls idx RJx4a65c "DEFAULTCAPACITY_EMPTY_ELEMENTDATA" "[Ljava/lang/Object;" ∈ ww_GW) (kk : ww_A g Y d kc ks M (pc + 3) lv (.ref (ww_ge g) :: st) Q X) : ww_A g Y d kc ks M pc lv st Q X := by
  intro p l e R s m args below meth c H locs cells slots mc ms ls C B hl hH hS
  obtain ⟨hx, hb, hml, hret, htb, hown, hts, htr, hF, hfr, hlo⟩ := id C
  exact va_gets hx hb hF.2.1.1 hS hown (hts _ hw) (fun _ h => h) hd (kk p l e R s m args below meth c H locs cells slots mc ms ls C B hl hH hS)
theorem ww_objInit {idx a : Nat} (hd : decode Y.2.1 pc = .ok (.invokespecial idx, 3)) (hw : Cond.methodLink Y.1.cls idx Lib.objectInit ∈ ww_GW) (hw2 : Cond.instanceMethod Lib.objectInit ∈ ww_GW) (hw3 : Cond.code Lib.objectInit ⟨#[0xb1]⟩ 1 none ∈ ww_GW) (hd1 : 1 ≤ d) (hst : (st.map fun v => v.category).sum ≤ 8) (kk : ww_A g Y d kc ks M (pc + 3) lv st Q X) : ww_A g Y d kc ks M pc lv (.ref a :: st) Q X := by
  intro p l e R s m args below meth c H locs cells slots mc ms ls C B hl hH hS
  obtain ⟨hx, hb, hml, hret, htb, hown, hts, htr, hF, hfr, hlo⟩ := id C
  have h0 : 2 * (F0 m pc ls (.ref a :: st)).monitorRoom + (st.map fun v => v.category).sum ≤ 8 := lv_room hst
  exact W.objInit hx hb hown (hts _ hw) (hts _ hw2) (hts _ hw3) (g := F0 m pc ls (.ref a :: st)) rfl (hl.1.1.trans hml.symm) rfl hd (by omega) (by omega) (kk p l e R s m args below meth c H locs cells slots mc ms ls C B hl hH hS)
theorem ww_ldcM {idx : Nat} (hd : decode Y.2.1 pc = .ok (.ldc idx, 2)) (hw : Cond.classLink Y.1.cls idx "[Ljava/lang/Object;" ∈ ww_GW) (kk : ww_A g Y d kc ks M (pc + 2) lv (.ref (ww_gm g) :: st) Q X) : ww_A g Y d kc ks M pc lv st Q X := by
  intro p l e R s m args below meth c H locs cells slots mc ms ls C B hl hH hS
  obtain ⟨hx, hb, hml, hret, htb, hown, hts, htr, hF, hfr, hlo⟩ := id C
  exact va_ldcM hx hb hown (hts _ hw) hF.2.2.2.2.2.2.1 hd (kk p l e R s m args below meth c H locs cells slots mc ms ls C B hl hH hS)
theorem ww_arr_cell {κ a : Nat} {C0 : String} {s : State} {H : Heap} (hF : va_K g.2.1 vwCl (ww_ty g) s) (hH : ww_H g M H) (ha : a ∈ ww_L M) (hK : ww_K M a = 12) : ∃ cell : Cell, H[a]? = some cell ∧ cell.vm.isStatics = false ∧ s.vm.findClass "[Ljava/lang/Object;" = some cell.cls := by
  obtain ⟨q, hq⟩ := ww_W_get (cy := g.2.2.1) ha
  rw [ww_E_r hK (by omega) (by omega)] at hq
  have h := hH.1 _ _ hq
  obtain ⟨-, -, -, -, -, h4⟩ := (hF.2 3 (g.2.2.1 12, .object "java/lang/Object") rfl).2
  exact ⟨_, h, rfl, h4⟩
theorem ww_getC {idx a : Nat} (hd : decode Y.2.1 pc = .ok (.invokevirtual idx, 3)) (ha : a ∈ ww_L M) (hK : ww_K M a = 12) (hw : Cond.methodLink Y.1.cls idx ⟨"java/lang/Object", "getClass", "()Ljava/lang/Class;"⟩ ∈ ww_GW) (hw1 : (⟨"java/lang/Object", "getClass", "()Ljava/lang/Class;"⟩ : MethodName) ∈ ww_de) (hw2 : Cond.selects "[Ljava/lang/Object;" ⟨"java/lang/Object", "getClass", "()Ljava/lang/Class;"⟩ ⟨"java/lang/Object", "getClass", "()Ljava/lang/Class;"⟩ ∈ ww_GW) (hw3 : Cond.instanceMethod ⟨"java/lang/Object", "getClass", "()Ljava/lang/Class;"⟩ ∈ ww_GW) (hw4 : Cond.native ⟨"java/lang/Object", "getClass", "()Ljava/lang/Class;"⟩ ∈ ww_GW) (hd1 : 1 ≤ d) (hst : (st.map fun v => v.category).sum ≤ 8)
    (kk : ww_A g Y d kc ks M (pc + 3) lv (.ref (ww_gm g) :: st) Q X) : ww_A g Y d kc ks M pc lv (.ref a :: st) Q X := by
  intro p l e R s m args below meth c H locs cells slots mc ms ls C B hl hH hS
  obtain ⟨hx, hb, hml, hret, htb, hown, hts, htr, hF, hfr, hlo⟩ := id C
  exact va_getC hx hb (hml.trans hl.1.1.symm) hown (hts _ hw) (va_Nw.use rfl (hF.2.2.2.2.2.1.2.1 _ hw1)) (hts _ hw2) (hts _ hw3) (hts _ hw4) hF.2.2.2.2.2.2.1 (ww_arr_cell (κ := 12) (C0 := "") hF.1.2 hH ha hK) (by omega) (by omega) hd (kk p l e R s m args below meth c H locs cells slots mc ms ls C B hl hH hS)
theorem ww_copy {idx a b κ n0 n1 n2 : Nat} {r : vw_C} {sp dp n : Int32} (hd : decode Y.2.1 pc = .ok (.invokestatic idx, 3)) (hw : Cond.methodLink Y.1.cls idx arraycopyName ∈ ww_GW) (hw1 : Cond.native arraycopyName ∈ ww_GW) (hw2 : Cond.static arraycopyName ∈ ww_GW) (hw3 : Cond.initialized "java/lang/System" ∈ ww_GW)
    (ha : a ∈ ww_L M) (hK : ww_K M a = 12) (hb2 : b ∈ ww_L M) (hKb : ww_K M b = 12) (e0 : sp = nI n0) (e1 : dp = nI n1) (e2 : n = nI n2) (l0 : n0 + n2 ≤ ww_N M a) (l1 : n1 + n2 ≤ ww_N M b) (l2 : ww_N M a < 2 ^ 31) (l3 : ww_N M b < 2 ^ 31)
    (hr : vwCl[κ]? = some r) (hca : (r.1, "java/lang/Object") ∈ ww_ca) (hel : ∀ i, i < n2 → ∀ y, ww_Y M a (n0 + i) = some y → y ∈ ww_L M ∧ ww_K M y = κ) (hd1 : 1 ≤ d) (hst : (st.map fun v => v.category).sum ≤ 8)
    (kk : ww_A g Y d kc ks (ww_cY M b (va_cpy (ww_Y M a) (ww_Y M b) n0 n1 n2)) (pc + 3) lv st Q X) : ww_A g Y d kc ks M pc lv (.int n :: .int dp :: .ref b :: .int sp :: .ref a :: st) Q X := by
  intro p l e R s m args below meth c H locs cells slots mc ms ls C B hl hH hS
  obtain ⟨hx, hb, hml, hret, htb, hown, hts, htr, hF, hfr, hlo⟩ := id C
  obtain ⟨q, hq⟩ := ww_W_get (cy := g.2.2.1) ha
  obtain ⟨q2, hq2⟩ := ww_W_get (cy := g.2.2.1) hb2
  have hq2' := hq2
  rw [ww_E_r hK (by omega) (by omega)] at hq
  rw [ww_E_r hKb (by omega) (by omega)] at hq2'
  subst e0 e1 e2
  have c0 : (nI n0).toNatClampNeg = n0 := nI_clamp (by omega)
  have c1 : (nI n1).toNatClampNeg = n1 := nI_clamp (by omega)
  have c2 : (nI n2).toNatClampNeg = n2 := nI_clamp (by omega)
  have hnw : nativeFrameWords "java/lang/System" "arraycopy" 5 ≤ 60 := by decide +kernel
  refine va_copyM hx hb (hml.trans hl.1.1.symm) hown (hts _ hw) (hts _ hw1) (hts _ hw2) (hts _ hw3) hF.1.2 hH.1 hH.2 hS q q2 3 3 hq hq2' rfl rfl (nI_pos (by omega)) (nI_pos (by omega)) (nI_pos (by omega)) (by rw [c0, c2]; exact l0) (by rw [c1, c2]; exact l1) (fun i hi y hy => ?_) (by omega) (by omega) hd (fun H1 locs1 hP1 hD1 hS1 => ?_)
  · rw [c2] at hi
    rw [c0] at hy
    obtain ⟨hyL, hyK⟩ := hel i hi y hy
    obtain ⟨q3, hq3⟩ := ww_W_get (cy := g.2.2.1) hyL
    rw [ww_E_o hyK (ww_cl_len hr)] at hq3
    refine va_rAny hF.1.2 hH.1 hq3 hr (fun comp c0 h1 h2 => ?_)
    obtain ⟨c3, c4, h3, h4, h5⟩ := Cond.castable_spec (va_Nw.use (A := #[]) rfl (hF.2.2.2.2.2.1.1 _ hca))
    cases h3.symm.trans h2
    cases h4.symm.trans h1
    exact h5
  · rw [c0, c1, c2] at hP1 hD1
    have hset : (ww_W g.2.2.1 M).set q2 (b, .inl (g.2.2.1 12, ww_N M b, .inr (.inr (.inr (.inr (va_cpy (ww_Y M a) (ww_Y M b) n0 n1 n2)))))) = ww_W g.2.2.1 (ww_cY M b (va_cpy (ww_Y M a) (ww_Y M b) n0 n1 n2)) := by
      refine ww_W_set hH.2 hb2 hq2 rfl ?_ (fun z hz => ww_E_congr rfl rfl (if_neg hz) rfl (fun _ => rfl))
      rw [ww_E_r (M := ww_cY M b _) (κ := 12) hKb (by omega) (by omega)]
      have eY : ww_Y (ww_cY M b (va_cpy (ww_Y M a) (ww_Y M b) n0 n1 n2)) b = va_cpy (ww_Y M a) (ww_Y M b) n0 n1 n2 := if_pos rfl
      rw [eY]
      rfl
    rw [hset] at hP1 hD1
    exact kk p l e R s m args below meth c H1 locs1 cells slots mc ms ls C B hl ⟨hP1, hD1⟩ hS1
end WWC
end
section
section WWI
variable {g : ww_G} {Y : ww_Yd} {d kc ks : Nat} {M : ww_M} {pc : Nat} {lv : List (Nat × Value)} {st : List Value} {Q : Option Value → ww_M → Prop} {X : String → ww_M → Prop}
/-- the words of a callee's own -/
def ww_cal (Y' : ww_Yd) (n : Nat) : Prop := ww_hd Y' ∈ ww_GW ∧ Cond.initialized Y'.1.cls ∈ ww_GW ∧ (Y'.1.cls ≠ "java/lang/invoke/MethodHandle" ∧ Y'.1.cls ≠ "java/lang/invoke/VarHandle") ∧ (parseMethodDescriptor Y'.1.desc).map (fun d => d.parameters.length) = some n ∧ Y'.2.2.1 ≤ 60
def ww_vir (own : String) (idx : Nat) (Y' : ww_Yd) (n : Nat) : Prop := ww_cal Y' n ∧ Y'.2.2.2.2 = [] ∧ Cond.methodLink own idx Y'.1 ∈ ww_GW ∧ Cond.instanceMethod Y'.1 ∈ ww_GW ∧ Cond.selects Y'.1.cls Y'.1 Y'.1 ∈ ww_GW
def ww_sta (own : String) (idx : Nat) (Y' : ww_Yd) (n : Nat) : Prop := ww_cal Y' n ∧ Cond.methodLink own idx Y'.1 ∈ ww_GW ∧ Cond.static Y'.1 ∈ ww_GW
def ww_ini (own : String) (idx : Nat) (Y' : ww_Yd) (n : Nat) : Prop := ww_cal Y' n ∧ Y'.2.2.2.2 = [] ∧ Cond.methodLink own idx Y'.1 ∈ ww_GW ∧ Cond.instanceMethod Y'.1 ∈ ww_GW ∧ Y'.1.name = "<init>"
def ww_inn (own : String) (idx : Nat) (Y' : ww_Yd) (n : Nat) : Prop := ww_cal Y' n ∧ Y'.2.2.2.2 = [] ∧ (∃ h, (own, idx, Y'.1, h) ∈ ww_ne) ∧ Cond.instanceMethod Y'.1 ∈ ww_GW ∧ Y'.1.name = "<init>"
theorem ww_hd0 {Y' : ww_Yd} (h : Y'.2.2.2.2 = []) : ww_hd Y' = .code Y'.1 Y'.2.1 Y'.2.2.1 Y'.2.2.2.1 := by unfold ww_hd; rw [h]
theorem ww_hd1 {Y' : ww_Yd} {z : Nat × Nat × Nat × Nat} {t : List (Nat × Nat × Nat × Nat)} (h : Y'.2.2.2.2 = z :: t) : ww_hd Y' = .codeWith Y'.1 Y'.2.1 Y'.2.2.1 Y'.2.2.2.1 (z :: t) := by unfold ww_hd; rw [h]
theorem ww_pay {Y' : ww_Yd} {n : Nat} {s : State} {args : Array Value} (h : ww_cal Y' n) (hts : ∀ w ∈ ww_GW, w.before args s = true) : ∀ w ∈ ww_hd Y' :: ww_GW, ∀ (a' : Array Value) (U : State), s.WarmedH U.vm → w.before a' U = true := by
  intro w hw a' U hW
  have hw' : w ∈ ww_GW := by
    rcases List.mem_cons.mp hw with rfl | hw
    · exact h.1
    · exact hw
  exact ww_word hW hw' (hts _ hw')
theorem ww_desc {Y' : ww_Yd} {n : Nat} (h : (parseMethodDescriptor Y'.1.desc).map (fun d => d.parameters.length) = some n) : ∀ sig, parseMethodDescriptor Y'.1.desc = some sig → n = sig.parameters.length := by
  intro sig h2
  rw [h2] at h
  exact (Option.some.inj h).symm
/-- what a thing of the pool's is, as a call's receiver -/
theorem ww_recv {g : ww_G} {M : ww_M} {κ a : Nat} {r : vw_C} {s : State} {H : Heap} (hF : va_K g.2.1 vwCl (ww_ty g) s) (hH : ww_H g M H) (ha : a ∈ ww_L M) (hK : ww_K M a = κ) (hr : vwCl[κ]? = some r) : ∃ cell : Cell, H[a]? = some cell ∧ cell.vm.isStatics = false ∧ s.vm.findClass r.1 = some cell.cls := by
  obtain ⟨q, hq⟩ := ww_W_get (cy := g.2.2.1) ha
  rw [ww_E_o hK (ww_cl_len hr)] at hq
  exact va_recv hF hH.1 hr hq
theorem ww_blindP {g : ww_G} {s : State} {H : Heap} {locs : List Loc} {M : ww_M} {av : List Value} (hF : ww_F g s s.heap) (hH : ww_H g M H) (hS : va_S (ww_gA g) s.heap H locs) : ∀ U : State, U.heap = H → s.WarmedH U.vm → ww_Pc g av M av.toArray U := by
  intro U hU hW
  subst hU
  exact ⟨rfl, ww_F_to hW hF hS.1 hS.2.1, hH⟩
/-- behind a call: it returned, or threw what isn't caught here -/
theorem ww_behind {p : Program} {l : Launch} {e : Env} {R : Room} {s : State} {m : MethodId} {args : Array Value} {below : List Frame} {meth : Method} {c : Code} {H : Heap} {locs : List Loc} {cells slots mc ms mc' ms' : Nat} {ls : Array Slot} {a : Array Value} {st0 rest : List Value} {Q' : Option Value → ww_M → Prop} {X' : String → ww_M → Prop}
    (C : ww_Cx g Y d p l R s m args meth c) (B : cells + kc ≤ mc ∧ slots + ks ≤ ms ∧ mc ≤ R.cells ∧ ms ≤ R.slots) (hl : ww_lv ls Y.2.2.1 lv) (hS : va_S (ww_gA g) s.heap H locs) (h0 : Y.2.2.2.2 = []) (hkc : mc' ≤ kc) (hks : ms' ≤ ks)
    (hr : vx_Run p l e R s m args below meth c H locs cells slots mc' ms' (F0 m pc ls st0) rest (ww_Qc g Q' a) (ww_Xc g X') (ww_gA g))
    (hx : ∀ E M', X' E M' → X E M') (hk : ∀ v M', Q' v M' → ww_A g Y d (kc - mc') (ks - ms') M' (pc + 3) lv (v.toList ++ rest) Q X) :
    W p l e R s m args below meth c H locs cells slots (vx_MQ below (ww_Qc g Q) (ww_Xc g X) args s mc ms (ww_gA g)) (F0 m pc ls st0) := by
  intro T hT X0
  rcases hr T hT X0 with ⟨v, st₀, t, T', L, hh, X1, hL, e1, e2, ⟨⟨v', M', hv, hQ, hH'⟩, hF'⟩, st⟩ | ⟨q, st₀, t, T', L, E, ce, hh, X1, hL, e1, e2, ⟨⟨M', hX, hH'⟩, hF'⟩, hce, hcv, hcl, st⟩
  · cases hv
    obtain ⟨k1, k2, k3⟩ := vx_keep hh e1 hS (fun _ _ h => h) (fun _ h => h) hL hF'
    obtain ⟨t2, a1, b1⟩ := hk v M' hQ p l e R s m args below meth c T'.heap (locs ++ L) (cells + mc') (slots + ms') mc ms ls C ⟨by omega, by omega, B.2.2.1, B.2.2.2⟩ hl (by rw [e1]; exact hH') k3 T' rfl X1
    exact ⟨t2, st t2 a1, b1⟩
  · obtain ⟨k1, k2, k3⟩ := vx_keep hh e1 hS (fun _ _ h => h) (fun _ h => h) hL hF'
    obtain ⟨hxx, hb, hml, ⟨hret, hlk, hnm⟩, htb, hown, hts, htr, hF, hfr, hlo⟩ := id C
    have hout : ∀ x ∈ c.exceptionTable.toList, covers x pc = false := fun z hz => by rw [htb, h0] at hz; cases hz
    obtain ⟨t2, a1, b1⟩ := vx_out (Qc := ww_Qc g Q) (XC := ww_Xc g X) (H := T'.heap) (locs := locs ++ L) (cells := cells + mc') (slots := slots + ms') (free := ww_gA g) (mc := mc) (ms := ms) (ls := ls) (rest := rest) hout hlk (by rw [e1]; exact hce) hcv hcl (fun t' ht' _ => ⟨⟨M', hx E M' hX, by rw [ht', e1]; exact hH'⟩, k3.F ht'⟩) k3.2.2 (by omega) (by omega) T' rfl X1
    exact ⟨t2, st.trans a1, b1⟩
theorem ww_callV {Y' : ww_Yd} {idx n b κ d' mc' ms' : Nat} {As rest : List Value} {r : vw_C} {Q' : Option Value → ww_M → Prop} {X' : String → ww_M → Prop} (hw : ww_vir Y.1.cls idx Y' n) (hd : decode Y.2.1 pc = .ok (.invokevirtual idx, 3)) (hM : ww_C g Y' d' mc' ms' (.ref b :: As) M Q' X') (hn : As.length = n) (hst : st = As.reverse ++ .ref b :: rest)
    (hb2 : b ∈ ww_L M) (hK : ww_K M b = κ) (hr : vwCl[κ]? = some r) (hrc : r.1 = Y'.1.cls) (hdd : d' + 1 ≤ d) (hkc : mc' ≤ kc) (hks : ms' ≤ ks) (hW : (rest.map fun v => v.category).sum ≤ 8) (h0 : Y.2.2.2.2 = [])
    (hx : ∀ E M', X' E M' → X E M') (hk : ∀ v M', Q' v M' → ww_A g Y d (kc - mc') (ks - ms') M' (pc + 3) lv (v.toList ++ rest) Q X) : ww_A g Y d kc ks M pc lv st Q X := by
  intro p l e R s m args below meth c H locs cells slots mc ms ls C B hl hH hS
  obtain ⟨hxx, hb, hml, ⟨hret, hlk, hnm⟩, htb, hown, hts, htr, hF, hfr, hlo⟩ := id C
  obtain ⟨hc, hh0, w1, w2, w3⟩ := hw
  obtain ⟨c1, c2, c3, c4, c5⟩ := id hc
  have hcw : Cond.code Y'.1 Y'.2.1 Y'.2.2.1 Y'.2.2.2.1 ∈ ww_hd Y' :: ww_GW := by rw [← ww_hd0 hh0]; exact List.mem_cons_self
  have hcc : (Cond.code Y'.1 Y'.2.1 Y'.2.2.1 Y'.2.2.2.1).before args s = true := by rw [← ww_hd0 hh0]; exact hts _ c1
  have hrecv := ww_recv hF.1.2 hH hb2 hK hr
  rw [hrc] at hrecv
  subst hst
  exact ww_behind C B hl hS h0 hkc hks (vx_runV (As := As) (rest := rest) (own := Y.1.cls) (Ts := ww_GW) ⟨hxx, hb, hml, hown, hts⟩ (hM l htr)
    ⟨⟨rfl, rfl, Nat.le_trans hdd hfr, by show 8 + (Y'.2.2.1 + 11) + 100 * d' ≤ R.locals; omega, ww_pay hc hts, hcw, hcc, hts _ c2, c3, ww_desc c4, hts _ w1⟩, hts _ w2, hts _ w3⟩
    ⟨ww_blind, hrecv, ww_blindP hF hH hS⟩ rfl hn hl.1.1 rfl (lv_room hW) hd ⟨by omega, by omega⟩) hx hk
theorem ww_callS {Y' : ww_Yd} {idx n d' mc' ms' : Nat} {As rest : List Value} {Q' : Option Value → ww_M → Prop} {X' : String → ww_M → Prop} (hw : ww_sta Y.1.cls idx Y' n) (hh0 : Y'.2.2.2.2 = []) (hd : decode Y.2.1 pc = .ok (.invokestatic idx, 3)) (hM : ww_C g Y' d' mc' ms' As M Q' X') (hn : As.length = n) (hst : st = As.reverse ++ rest)
    (hdd : d' + 1 ≤ d) (hkc : mc' ≤ kc) (hks : ms' ≤ ks) (hW : (rest.map fun v => v.category).sum ≤ 8) (h0 : Y.2.2.2.2 = [])
    (hx : ∀ E M', X' E M' → X E M') (hk : ∀ v M', Q' v M' → ww_A g Y d (kc - mc') (ks - ms') M' (pc + 3) lv (v.toList ++ rest) Q X) : ww_A g Y d kc ks M pc lv st Q X := by
  intro p l e R s m args below meth c H locs cells slots mc ms ls C B hl hH hS
  obtain ⟨hxx, hb, hml, ⟨hret, hlk, hnm⟩, htb, hown, hts, htr, hF, hfr, hlo⟩ := id C
  obtain ⟨hc, w1, w2⟩ := hw
  obtain ⟨c1, c2, c3, c4, c5⟩ := id hc
  have hcw : Cond.code Y'.1 Y'.2.1 Y'.2.2.1 Y'.2.2.2.1 ∈ ww_hd Y' :: ww_GW := by rw [← ww_hd0 hh0]; exact List.mem_cons_self
  have hcc : (Cond.code Y'.1 Y'.2.1 Y'.2.2.1 Y'.2.2.2.1).before args s = true := by rw [← ww_hd0 hh0]; exact hts _ c1
  subst hst
  exact ww_behind C B hl hS h0 hkc hks (vx_runS (As := As) (rest := rest) (own := Y.1.cls) (Ts := ww_GW) ⟨hxx, hb, hml, hown, hts⟩ (hM l htr)
    ⟨⟨rfl, rfl, Nat.le_trans hdd hfr, by show 8 + (Y'.2.2.1 + 11) + 100 * d' ≤ R.locals; omega, ww_pay hc hts, hcw, hcc, hts _ c2, c3, ww_desc c4, hts _ w1⟩, hts _ w2⟩
    ⟨ww_blind, ww_blindP hF hH hS⟩ rfl hn hl.1.1 rfl (lv_room hW) hd ⟨by omega, by omega⟩) hx hk
/-- a static method with handlers of its own -/
theorem ww_callSH {Y' : ww_Yd} {idx n d' mc' ms' : Nat} {As rest : List Value} {z : Nat × Nat × Nat × Nat} {t : List (Nat × Nat × Nat × Nat)} {Q' : Option Value → ww_M → Prop} {X' : String → ww_M → Prop} (hw : ww_sta Y.1.cls idx Y' n) (hh0 : Y'.2.2.2.2 = z :: t) (hd : decode Y.2.1 pc = .ok (.invokestatic idx, 3)) (hM : ww_C g Y' d' mc' ms' As M Q' X') (hn : As.length = n) (hst : st = As.reverse ++ rest)
    (hdd : d' + 1 ≤ d) (hkc : mc' ≤ kc) (hks : ms' ≤ ks) (hW : (rest.map fun v => v.category).sum ≤ 8) (h0 : Y.2.2.2.2 = [])
    (hx : ∀ E M', X' E M' → X E M') (hk : ∀ v M', Q' v M' → ww_A g Y d (kc - mc') (ks - ms') M' (pc + 3) lv (v.toList ++ rest) Q X) : ww_A g Y d kc ks M pc lv st Q X := by
  intro p l e R s m args below meth c H locs cells slots mc ms ls C B hl hH hS
  obtain ⟨hxx, hb, hml, ⟨hret, hlk, hnm⟩, htb, hown, hts, htr, hF, hfr, hlo⟩ := id C
  obtain ⟨hc, w1, w2⟩ := hw
  obtain ⟨c1, c2, c3, c4, c5⟩ := id hc
  have hcw : Cond.codeWith Y'.1 Y'.2.1 Y'.2.2.1 Y'.2.2.2.1 (z :: t) ∈ ww_hd Y' :: ww_GW := by rw [← ww_hd1 hh0]; exact List.mem_cons_self
  have hcc : (Cond.codeWith Y'.1 Y'.2.1 Y'.2.2.1 Y'.2.2.2.1 (z :: t)).before args s = true := by rw [← ww_hd1 hh0]; exact hts _ c1
  subst hst
  exact ww_behind C B hl hS h0 hkc hks (vx_runSX (hh := z :: t) (As := As) (rest := rest) (own := Y.1.cls) (Ts := ww_GW) ⟨hxx, hb, hml, hown, hts⟩ (hM l htr)
    ⟨⟨rfl, rfl, Nat.le_trans hdd hfr, by show 8 + (Y'.2.2.1 + 11) + 100 * d' ≤ R.locals; omega, ww_pay hc hts, hcw⟩, hcc, hts _ c2, c3, ww_desc c4, hts _ w1, hts _ w2⟩
    ⟨ww_blind, ww_blindP hF hH hS⟩ rfl hn hl.1.1 rfl (lv_room hW) hd ⟨by omega, by omega⟩) hx hk
theorem ww_metV {l : Launch} {y : MethodName} {ws : List Cond} {rm : Room} {Pc : Array Value → State → Prop} {Q' : Option Value → ww_M → Prop} {mc' ms' : Nat} (h : vx_Met l y ws rm Pc (ww_Qc g Q') (ww_Xc g (fun _ _ => False)) mc' ms' (ww_gA g)) : Met l y ws rm Pc (ww_Qc g Q') mc' ms' (ww_gA g) := by
  intro p e h1 h2 h3 s m args below h4 h5 h6 h7
  obtain ⟨n, o, a1, a2, a3, a4⟩ := h p e h1 h2 h3 s m args below h4 h5 h6 h7
  refine ⟨n, o, a1, a2, a3, ?_⟩
  rcases a4 with a4 | ⟨q, -, E, ce, L, ⟨⟨M', hf, -⟩, -⟩, -⟩
  · exact a4
  · exact hf.elim
/-- behind a constructor that can't throw -/
theorem ww_behindI {p : Program} {l : Launch} {e : Env} {R : Room} {s : State} {m : MethodId} {args : Array Value} {below : List Frame} {meth : Method} {c : Code} {H : Heap} {locs : List Loc} {cells slots mc ms mc' ms' : Nat} {ls : Array Slot} {a : Array Value} {st0 rest : List Value} {Q' : Option Value → ww_M → Prop}
    (C : ww_Cx g Y d p l R s m args meth c) (B : cells + kc ≤ mc ∧ slots + ks ≤ ms ∧ mc ≤ R.cells ∧ ms ≤ R.slots) (hl : ww_lv ls Y.2.2.1 lv) (hS : va_S (ww_gA g) s.heap H locs) (hkc : mc' ≤ kc) (hks : ms' ≤ ks)
    (hr : va_Run p l e R s m args below meth c H locs cells slots mc' ms' (F0 m pc ls st0) rest (ww_Qc g Q' a) (ww_gA g))
    (hk : ∀ v M', Q' v M' → ww_A g Y d (kc - mc') (ks - ms') M' (pc + 3) lv (v.toList ++ rest) Q X) :
    W p l e R s m args below meth c H locs cells slots (vx_MQ below (ww_Qc g Q) (ww_Xc g X) args s mc ms (ww_gA g)) (F0 m pc ls st0) := by
  intro T hT X0
  obtain ⟨v, st₀, t, T', L, hh, X1, hL, e1, e2, ⟨⟨v', M', hv, hQ, hH'⟩, hF'⟩, st⟩ := hr T hT X0
  cases hv
  obtain ⟨k1, k2, k3⟩ := vx_keep hh e1 hS (fun _ _ h => h) (fun _ h => h) hL hF'
  obtain ⟨t2, a1, b1⟩ := hk v M' hQ p l e R s m args below meth c T'.heap (locs ++ L) (cells + mc') (slots + ms') mc ms ls C ⟨by omega, by omega, B.2.2.1, B.2.2.2⟩ hl (by rw [e1]; exact hH') k3 T' rfl X1
  exact ⟨t2, st t2 a1, b1⟩
theorem ww_callI {Y' : ww_Yd} {idx n b d' mc' ms' : Nat} {As rest : List Value} {Q' : Option Value → ww_M → Prop} (hw : ww_ini Y.1.cls idx Y' n) (hv : Y'.2.2.2.1 = none) (hd : decode Y.2.1 pc = .ok (.invokespecial idx, 3)) (hM : ww_C g Y' d' mc' ms' (.ref b :: As) M Q' (fun _ _ => False)) (hn : As.length = n) (hst : st = As.reverse ++ .ref b :: rest)
    (hdd : d' + 1 ≤ d) (hkc : mc' ≤ kc) (hks : ms' ≤ ks) (hW : (rest.map fun v => v.category).sum ≤ 8)
    (hk : ∀ v M', Q' v M' → ww_A g Y d (kc - mc') (ks - ms') M' (pc + 3) lv (v.toList ++ rest) Q X) : ww_A g Y d kc ks M pc lv st Q X := by
  intro p l e R s m args below meth c H locs cells slots mc ms ls C B hl hH hS
  obtain ⟨hxx, hb, hml, ⟨hret, hlk, hnm⟩, htb, hown, hts, htr, hF, hfr, hlo⟩ := id C
  obtain ⟨hc, hh0, w1, w2, w3⟩ := hw
  obtain ⟨c1, c2, c3, c4, c5⟩ := id hc
  have hcw : Cond.code Y'.1 Y'.2.1 Y'.2.2.1 none ∈ ww_hd Y' :: ww_GW := by rw [← hv, ← ww_hd0 hh0]; exact List.mem_cons_self
  have hcc : (Cond.code Y'.1 Y'.2.1 Y'.2.2.1 none).before args s = true := by rw [← hv, ← ww_hd0 hh0]; exact hts _ c1
  subst hst
  exact ww_behindI C B hl hS hkc hks (va_runI (As := As) (rest := rest) (own := Y.1.cls) (Ts := ww_GW) ⟨hxx, hb, hml, hown, hts⟩ (ww_metV (hM l htr))
    ⟨⟨rfl, rfl, Nat.le_trans hdd hfr, by show 8 + (Y'.2.2.1 + 11) + 100 * d' ≤ R.locals; omega, ww_pay hc hts, hcw, hcc, hts _ c2, c3, ww_desc c4, hts _ w1⟩, w3, hts _ w2⟩
    ⟨ww_blind, ww_blindP hF hH hS⟩ rfl hn hl.1.1 rfl (lv_room hW) hd ⟨by omega, by omega⟩) hk
end WWI
end
section
section WWX
variable {g : ww_G} {Y : ww_Yd} {d kc ks : Nat} {M : ww_M} {pc : Nat} {lv : List (Nat × Value)} {st : List Value} {Q : Option Value → ww_M → Prop} {X : String → ww_M → Prop}
theorem ww_callIN {Y' : ww_Yd} {idx n b d' mc' ms' : Nat} {As rest : List Value} {Q' : Option Value → ww_M → Prop} (hw : ww_inn Y.1.cls idx Y' n) (hv : Y'.2.2.2.1 = none) (hd : decode Y.2.1 pc = .ok (.invokespecial idx, 3)) (hM : ww_C g Y' d' mc' ms' (.ref b :: As) M Q' (fun _ _ => False)) (hn : As.length = n) (hst : st = As.reverse ++ .ref b :: rest)
    (hdd : d' + 1 ≤ d) (hkc : mc' ≤ kc) (hks : ms' ≤ ks) (hW : (rest.map fun v => v.category).sum ≤ 8)
    (hk : ∀ v M', Q' v M' → ww_A g Y d (kc - mc') (ks - ms') M' (pc + 3) lv (v.toList ++ rest) Q X) : ww_A g Y d kc ks M pc lv st Q X := by
  intro p l e R s m args below meth c H locs cells slots mc ms ls C B hl hH hS
  obtain ⟨hxx, hb, hml, ⟨hret, hlk, hnm⟩, htb, hown, hts, htr, hF, hfr, hlo⟩ := id C
  obtain ⟨hc, hh0, ⟨host, w1⟩, w2, w3⟩ := hw
  obtain ⟨c1, c2, c3, c4, c5⟩ := id hc
  have hcw : Cond.code Y'.1 Y'.2.1 Y'.2.2.1 none ∈ ww_hd Y' :: ww_GW := by rw [← hv, ← ww_hd0 hh0]; exact List.mem_cons_self
  have hcc : (Cond.code Y'.1 Y'.2.1 Y'.2.2.1 none).before args s = true := by rw [← hv, ← ww_hd0 hh0]; exact hts _ c1
  subst hst
  exact ww_behindI C B hl hS hkc hks (va_runIN (As := As) (rest := rest) (own := Y.1.cls) (Ts := ww_GW) ⟨hxx, hb, hml, hown, hts⟩ (ww_metV (hM l htr))
    ⟨⟨⟨rfl, rfl, Nat.le_trans hdd hfr, by show 8 + (Y'.2.2.1 + 11) + 100 * d' ≤ R.locals; omega, ww_pay hc hts, hcw⟩, hcc, hts _ c2, c3, ww_desc c4, va_Nw.use rfl (hF.2.2.2.2.2.1.2.2.1 _ w1)⟩, w3, hts _ w2⟩
    ⟨ww_blind, ww_blindP hF hH hS⟩ rfl hn hl.1.1 rfl (lv_room hW) hd ⟨by omega, by omega⟩) hk
/-- which handler takes E at pc -/
def ww_han (Y : ww_Yd) (pc : Nat) (E : String) (tgt : Nat) : Prop := ∃ (pre : List (Nat × Nat × Nat × Nat)) (x : Nat × Nat × Nat × Nat) (suf : List (Nat × Nat × Nat × Nat)) (name : String), Y.2.2.2.2 = pre ++ x :: suf ∧ (∀ z ∈ pre, z.2.2.2 ≠ 0 ∧ ∃ nm, Cond.classLink Y.1.cls z.2.2.2 nm ∈ ww_GW ∧ (E, nm) ∈ ww_nc) ∧ (x.1 ≤ pc ∧ pc < x.2.1) ∧ x.2.2.2 ≠ 0 ∧ Cond.classLink Y.1.cls x.2.2.2 name ∈ ww_GW ∧ (E, name) ∈ ww_ca ∧ x.2.2.1 = tgt
theorem ww_callVX {Y' : ww_Yd} {idx n b κ d' mc' ms' : Nat} {As rest : List Value} {r : vw_C} {Q' : Option Value → ww_M → Prop} {X' : String → ww_M → Prop} (hw : ww_vir Y.1.cls idx Y' n) (hd : decode Y.2.1 pc = .ok (.invokevirtual idx, 3)) (hM : ww_C g Y' d' mc' ms' (.ref b :: As) M Q' X') (hn : As.length = n) (hst : st = As.reverse ++ .ref b :: rest)
    (hb2 : b ∈ ww_L M) (hK : ww_K M b = κ) (hr : vwCl[κ]? = some r) (hrc : r.1 = Y'.1.cls) (hdd : d' + 1 ≤ d) (hkc : mc' ≤ kc) (hks : ms' ≤ ks) (hW : (rest.map fun v => v.category).sum ≤ 8)
    (hx : ∀ E M', X' E M' → ∃ tgt, ww_han Y pc E tgt ∧ ∀ q, ww_A g Y d (kc - mc') (ks - ms') M' tgt lv [.ref q] Q X) (hk : ∀ v M', Q' v M' → ww_A g Y d (kc - mc') (ks - ms') M' (pc + 3) lv (v.toList ++ rest) Q X) : ww_A g Y d kc ks M pc lv st Q X := by
  intro p l e R s m args below meth c H locs cells slots mc ms ls C B hl hH hS
  obtain ⟨hxx, hb, hml, ⟨hret, hlk, hnm⟩, htb, hown, hts, htr, hF, hfr, hlo⟩ := id C
  obtain ⟨hc, hh0, w1, w2, w3⟩ := hw
  obtain ⟨c1, c2, c3, c4, c5⟩ := id hc
  have hcw : Cond.code Y'.1 Y'.2.1 Y'.2.2.1 Y'.2.2.2.1 ∈ ww_hd Y' :: ww_GW := by rw [← ww_hd0 hh0]; exact List.mem_cons_self
  have hcc : (Cond.code Y'.1 Y'.2.1 Y'.2.2.1 Y'.2.2.2.1).before args s = true := by rw [← ww_hd0 hh0]; exact hts _ c1
  have hrecv := ww_recv hF.1.2 hH hb2 hK hr
  rw [hrc] at hrecv
  subst hst
  have hr1 := vx_runV (As := As) (rest := rest) (own := Y.1.cls) (Ts := ww_GW) (p := p) (e := e) (below := below) (meth := meth) (locs := locs) (cells := cells) (slots := slots) (g := F0 m pc ls (As.reverse ++ .ref b :: rest)) ⟨hxx, hb, hml, hown, hts⟩ (hM l htr)
    ⟨⟨rfl, rfl, Nat.le_trans hdd hfr, by show 8 + (Y'.2.2.1 + 11) + 100 * d' ≤ R.locals; omega, ww_pay hc hts, hcw, hcc, hts _ c2, c3, ww_desc c4, hts _ w1⟩, hts _ w2, hts _ w3⟩
    ⟨ww_blind, hrecv, ww_blindP hF hH hS⟩ rfl hn hl.1.1 rfl (lv_room hW) hd ⟨by omega, by omega⟩
  intro T hT X0
  rcases hr1 T hT X0 with ⟨v, st₀, t, T', L, hh, X1, hL, e1, e2, ⟨⟨v', M', hv, hQ, hH'⟩, hF'⟩, st⟩ | ⟨q, st₀, t, T', L, E, ce, hh, X1, hL, e1, e2, ⟨⟨M', hX, hH'⟩, hF'⟩, hce, hcv, hcl, st⟩
  · cases hv
    obtain ⟨k1, k2, k3⟩ := vx_keep hh e1 hS (fun _ _ h => h) (fun _ h => h) hL hF'
    obtain ⟨t2, a1, b1⟩ := hk v M' hQ p l e R s m args below meth c T'.heap (locs ++ L) (cells + mc') (slots + ms') mc ms ls C ⟨by omega, by omega, B.2.2.1, B.2.2.2⟩ hl (by rw [e1]; exact hH') k3 T' rfl X1
    exact ⟨t2, st t2 a1, b1⟩
  · obtain ⟨k1, k2, k3⟩ := vx_keep hh e1 hS (fun _ _ h => h) (fun _ h => h) hL hF'
    obtain ⟨tgt, ⟨pre, x, suf, name, f1, f2, f3, f4, f5, f6, rfl⟩, f7⟩ := hx E M' hX
    have hsplit : c.exceptionTable.toList = tableOf pre ++ tableOf [x] ++ tableOf suf := by
      rw [htb, f1]
      simp [tableOf]
    have hk2 := f7 q p l e R s m args below meth c T'.heap (locs ++ L) (cells + mc') (slots + ms') mc ms ls C ⟨by omega, by omega, B.2.2.1, B.2.2.2⟩ hl (by rw [e1]; exact hH') k3
    have hcatch := vx_catch (p := p) (l := l) (e := e) (R := R) (below := below) (meth := meth) (H := T'.heap) (locs := locs ++ L) (cells := cells + mc') (slots := slots + ms') (Q := vx_MQ below (ww_Qc g Q) (ww_Xc g X) args s mc ms (ww_gA g)) (own := Y.1.cls) (name := name) (E := E) (ce := ce) (q := q) (pc := pc) (ls := ls) (rest := rest) hown (tableOf pre) { startPc := x.1, endPc := x.2.1, handlerPc := x.2.2.1, catchType := x.2.2.2 } (tableOf suf) (by rw [hsplit]; simp [tableOf]) (fun z hz => ?_) ?_ f4 (hts _ f5) (va_Nw.use rfl (hF.2.2.2.2.2.1.1 _ f6)) (by rw [e1]; exact hce) hcv hcl hk2
    · obtain ⟨t2, a1, b1⟩ := hcatch T' rfl X1
      exact ⟨t2, st.trans a1, b1⟩
    · obtain ⟨z0, hz0, hz1⟩ := List.mem_map.mp hz
      obtain ⟨g1, nm, g2, g3⟩ := f2 z0 hz0
      subst hz1
      exact Or.inr ⟨g1, nm, hts _ g2, hF.2.2.2.2.2.1.2.2.2 _ g3⟩
    · simp [covers, f3.1, f3.2]
end WWX
end
